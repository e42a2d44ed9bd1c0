/-- DoorSchoolModel.readDoor()V -/
abbrev P_299x (σ0 : SG) (By : Int → Int) (Nb : Int) (Sp : PS) (f : Int32) (k : Int32) (nd : Int32) : PO := fun v σ => WT σ ∧ Fr [(35, 8), (35, 9), (35, 10), (35, 11), (35, 12), (35, 13), (41, 0)] σ0 σ ∧ ∃ f1 : Int32, (σ 159)[8]? = some (.int f1) ∧ ∃ k1 : Int32, (σ 159)[12]? = some (.int k1) ∧ v = none ∧ -f1.toInt ≤ 0 ∧ f1.toInt - 1600 ≤ 0 ∧ -f1.toInt + f.toInt ≤ 0 ∧ f1.toInt - f.toInt - 1600 ≤ 0 ∧ -f1.toInt + k.toInt - 3 ≤ 0 ∧ f1.toInt - k.toInt - 1600 ≤ 0 ∧ -f1.toInt + nd.toInt - 3 ≤ 0 ∧ f1.toInt - nd.toInt - 1600 ≤ 0 ∧ -k1.toInt ≤ 0 ∧ k1.toInt - 3 ≤ 0 ∧ -k1.toInt + f.toInt - 1600 ≤ 0 ∧ k1.toInt - f.toInt - 3 ≤ 0 ∧ -k1.toInt + k.toInt ≤ 0 ∧ k1.toInt - k.toInt - 3 ≤ 0 ∧ -k1.toInt + nd.toInt - 3 ≤ 0 ∧ k1.toInt - nd.toInt - 3 ≤ 0 ∧ f.toInt - f1.toInt ≤ 0 ∧ Imp (k1.toInt ≤ 0) (k.toInt ≤ 0) ∧ (KF σ0 σ ∧ ML By Nb σ (gDoor By Nb Sp))
set_option maxRecDepth 10000 in
set_option maxHeartbeats 4000000 in
theorem c_299x {By : Int → Int} {Nb : Int} {Sp : PS} (σ0 : SG) (hσ0 : WT σ0) (f : Int32) (h_f : (σ0 159)[8]? = some (.int f)) (k : Int32) (h_k : (σ0 159)[12]? = some (.int k)) (nd : Int32) (h_nd : (σ0 165)[(2 : Int).toNat]? = some (.int nd)) (hp0 : nd.toInt - 3 ≤ 0) (hM : ML By Nb σ0 Sp) (hg : Sp.1 = 0) : En 8 179 none mr_299 (P_299x σ0 By Nb Sp f k nd) 0 [(0, .ref 159)] [] σ0 := by
  obtain ⟨hl_f, hu_f⟩ := WT_int hσ0 (g := 35) (by decide +kernel) (by decide +kernel) (l := 0) (u := 1600) (by decide +kernel) h_f
  obtain ⟨hl_k, hu_k⟩ := WT_int hσ0 (g := 35) (by decide +kernel) (by decide +kernel) (l := 0) (u := 3) (by decide +kernel) h_k
  obtain ⟨hl_nd, hu_nd⟩ := WT_int hσ0 (g := 41) (by decide +kernel) (by decide +kernel) (l := 0) (u := 4) (by decide +kernel) h_nd
  have hF0 : Fr [(35, 8), (35, 9), (35, 10), (35, 11), (35, 12), (35, 13), (41, 0)] σ0 σ0 := Fr_rfl
  have h1 := ML_k hM h_k
  have h2 := ML_w hM hg h_nd (by omega) (by omega)
  refine En_Ps 3 (pc' := 4) (lv' := [(0, .ref 159)]) (st' := [.ref 159, .int ((Int32.ofInt 4)), .int (((Int8.ofInt 10).toInt32))]) rfl ?_
  refine En_getU (j := 14) (u := 165) (g' := 41) (q := 0) rfl rfl rfl (by decide +kernel : TG 159 = 35) (by decide +kernel) hσ0 (by decide +kernel) (by decide +kernel) (fun h3 => ?_)
  refine En_Ps 1 (pc' := 8) (lv' := [(0, .ref 159)]) (st' := [.int ((Int32.ofInt 2)), .ref 165, .int ((Int32.ofInt 4)), .int (((Int8.ofInt 10).toInt32))]) rfl ?_
  refine En_ialdK h_nd rfl (by decide : (Int32.ofInt 2).toInt = 2) (by decide +kernel : TG 165 = 41) (by decide +kernel) hσ0 (by omega) (lnI (by decide +kernel : LN _ = 226) (by omega)) ?_
  refine En_Ps 1 (pc' := 10) (lv' := [(0, .ref 159)]) (st' := [.int ((((Int32.ofInt 4)) * nd)), .int (((Int8.ofInt 10).toInt32))]) rfl ?_
  refine En_top (mulI (by decide : (Int32.ofInt 4).toInt = 4) rfl (Z := 4 * nd.toInt) (by omega) (by omega) (by omega)) (fun z6 h7 => ?_)
  refine En_Ps 1 (pc' := 11) (lv' := [(0, .ref 159)]) (st' := [.int (((((Int8.ofInt 10).toInt32)) + z6))]) rfl ?_
  refine En_top (addI (by decide : ((Int8.ofInt 10).toInt32).toInt = 10) rfl (by omega) (by omega)) (fun z8 h9 => ?_)
  refine En_Ps 2 (pc' := 13) (lv' := [(1, .int z8), (0, .ref 159)]) (st' := [.ref 159]) rfl ?_
  refine En_ldcS (i := 4) rfl rfl rfl ?_
  refine En_callV rfl rfl rfl rfl rfl rfl rfl rfl (by decide +kernel : TG 159 = 35) (by decide +kernel) rfl (c_318s4x σ0 hσ0 f h_f hM) (by decide) (by decide) (fun v11 σ12 h10 => ?_)
  obtain ⟨h13, h14, z16, h17, z18, rfl, h15⟩ := h10
  have h19 := h15.2.2.2.2.2.2.2
  have h20 := Fr_trans hF0 h14 (by decide +kernel)
  have h21 := KF_fr (KF_0 (σ := σ0)) h14 (by decide +kernel)
  have h22 := h19.2.1
  refine En_iEq _ rfl rfl (fun h23 => ?_) (fun h23 => ?_)
  · obtain rfl : σ0 = σ12 := h19.1 (by omega)
    refine En_Ps 1 (pc' := 34) (lv' := [(1, .int z8), (0, .ref 159)]) (st' := [.ref 159]) rfl ?_
    refine En_ldcS (i := 11) rfl rfl rfl ?_
    refine En_callV rfl rfl rfl rfl rfl rfl rfl rfl (by decide +kernel : TG 159 = 35) (by decide +kernel) rfl (c_318s11x σ0 hσ0 f h_f hM) (by decide) (by decide) (fun v25 σ26 h24 => ?_)
    obtain ⟨h27, h28, z30, h31, z32, rfl, h29⟩ := h24
    have h33 := h29.2.2.2.2.2.2.2
    have h34 := Fr_trans hF0 h28 (by decide +kernel)
    have h35 := KF_fr KF_0 h28 (by decide +kernel)
    have h36 := h33.2.1
    refine En_iEq _ rfl rfl (fun h37 => ?_) (fun h37 => ?_)
    · obtain rfl : σ0 = σ26 := h33.1 (by omega)
      refine En_Ps 1 (pc' := 55) (lv' := [(1, .int z8), (0, .ref 159)]) (st' := [.ref 159]) rfl ?_
      refine En_ldcS (i := 7) rfl rfl rfl ?_
      refine En_callV rfl rfl rfl rfl rfl rfl rfl rfl (by decide +kernel : TG 159 = 35) (by decide +kernel) rfl (c_286s7x σ0 hσ0 f h_f k h_k hM) (by decide) (by decide) (fun v39 σ40 h38 => ?_)
      obtain ⟨h41, h42, z44, h45, z46, h47, rfl, h43⟩ := h38
      have h48 := h43.2.2.2.2.2.2.2.2.2.2.2.2.2.2
      have h49 := Fr_trans hF0 h42 (by decide +kernel)
      have h50 := KF_fr KF_0 h42 (by decide +kernel)
      obtain ⟨S51, h52⟩ : ∃ q : PS, q = pss By Nb (iW By Nb 7 Sp) Sp := ⟨_, rfl⟩
      have h53 : ML By Nb σ40 S51 := by rw [h52]; exact h48
      have h54 := ML_k h53 h47
      refine En_Ps 1 (pc' := 61) (lv' := [(1, .int z8), (0, .ref 159)]) (st' := [.ref 159]) rfl ?_
      refine En_getK (j := 14) ((h42 _ _ (inW (by decide +kernel : TG 159 = 35) (by decide +kernel))).trans h3) rfl rfl rfl (by decide +kernel : TG 159 = 35) (by decide +kernel) ?_
      refine En_Ps 3 (pc' := 67) (lv' := [(1, .int z8), (0, .ref 159)]) (st' := [.int ((z8 + ((Int32.ofInt 0)))), .ref 165]) rfl ?_
      refine En_top (addI rfl (by decide : (Int32.ofInt 0).toInt = 0) (by omega) (by omega)) (fun z55 h56 => ?_)
      refine En_Ps 1 (pc' := 68) (lv' := [(1, .int z8), (0, .ref 159)]) (st' := [.int ((Int32.ofInt 2)), .int z55, .ref 165]) rfl ?_
      refine En_iast (l := 0) (u := 2) rfl rfl (by decide +kernel : TG 165 = 41) (by decide +kernel) (by omega) (lnI (by decide +kernel : LN _ = 226) (by omega)) (FTrow 41 10 4 4 (by decide +kernel) (by omega) (by omega) (by omega)) (rngI (by decide : (Int32.ofInt 2).toInt = 2) (by omega) (by omega)) h41 h49 (by decide +kernel) (fun σ57 h58 h59 h60 h61 => ?_)
      have h62 := KF_st h50 (J := z55.toInt) h61 (by omega) (by omega)
      have : ((Int32.ofInt 2)).toInt = 2 := (by decide : (Int32.ofInt 2).toInt = 2)
      obtain ⟨S63, h64⟩ : ∃ q : PS, q = wst S51 (10 + 4 * Sp.2.2.2 2) (2) := ⟨_, rfl⟩
      have h65 : ML By Nb σ57 S63 := by rw [h64]; exact (ML_wst (i := 10 + 4 * Sp.2.2.2 2) (v := 2) h53 h60 h61 (by omega) (fun z => by exact ⟨by omega, by omega⟩))
      have h66 := ML_k h65 ((h61 _ _ (Or.inl (neTG (by decide +kernel : TG 159 = 35) (by decide +kernel : TG 165 = 41) (by decide)))).trans h47)
      have h67 : S63.1 = S51.1 := by rw [h64]; rfl
      have h68 : gWay By Nb Sp = S63 := by rw [h64, h52]; unfold gWay; (repeat' split) <;> first | rfl | (exfalso; omega) | (exfalso; omega)
      refine En_Ps 1 (pc' := 70) (lv' := [(1, .int z8), (0, .ref 159)]) (st' := [.ref 159]) rfl ?_
      refine En_getK (j := 14) ((h61 _ _ (Or.inl (neTG (by decide +kernel : TG 159 = 35) (by decide +kernel : TG 165 = 41) (by decide)))).trans ((h42 _ _ (inW (by decide +kernel : TG 159 = 35) (by decide +kernel))).trans h3)) rfl rfl rfl (by decide +kernel : TG 159 = 35) (by decide +kernel) ?_
      refine En_Ps 3 (pc' := 76) (lv' := [(1, .int z8), (0, .ref 159)]) (st' := [.int ((z8 + ((Int32.ofInt 1)))), .ref 165]) rfl ?_
      refine En_top (addI rfl (by decide : (Int32.ofInt 1).toInt = 1) (by omega) (by omega)) (fun z69 h70 => ?_)
      refine En_Ps 1 (pc' := 77) (lv' := [(1, .int z8), (0, .ref 159)]) (st' := [.ref 159, .int z69, .ref 165]) rfl ?_
      refine En_ldcS (i := 14) rfl rfl rfl ?_
      refine En_Ps 2 (pc' := 82) (lv' := [(1, .int z8), (0, .ref 159)]) (st' := [.int (((Int8.ofInt 50).toInt32)), .int ((Int32.ofInt 0)), .retAddr 29, .ref 159, .int z69, .ref 165]) rfl ?_
      have := (by decide : ((Int32.ofInt 0)).toInt = 0)
      have := (by decide : (((Int8.ofInt 50).toInt32)).toInt = 50)
      refine En_callV rfl rfl rfl rfl rfl rfl rfl rfl (by decide +kernel : TG 159 = 35) (by decide +kernel) rfl (c_323s14x σ57 h58 ((Int32.ofInt 0)) (((Int8.ofInt 50).toInt32)) (geI (by decide : (Int32.ofInt 0).toInt = 0) (by omega)) (leI (by decide : (Int32.ofInt 0).toInt = 0) (by omega)) (geI (by decide : ((Int8.ofInt 50).toInt32).toInt = 50) (by omega)) (leI (by decide : ((Int8.ofInt 50).toInt32).toInt = 50) (by omega)) z44 ((h61 _ _ (Or.inl (neTG (by decide +kernel : TG 159 = 35) (by decide +kernel : TG 165 = 41) (by decide)))).trans h45) z46 ((h61 _ _ (Or.inl (neTG (by decide +kernel : TG 159 = 35) (by decide +kernel : TG 165 = 41) (by decide)))).trans h47) h65) (by decide) (by decide) (fun v72 σ73 h71 => ?_)
      obtain ⟨h74, h75, z77, h78, z79, h80, z81, rfl, h76⟩ := h71
      have h82 := h76.2.2.2.2.2.2.2.2.2.2.2.2.2.2.2.2.2.2.2.2
      have h83 := Fr_trans h59 h75 (by decide +kernel)
      have h84 := KF_fr h62 h75 (by decide +kernel)
      obtain ⟨S85, h86⟩ : ∃ q : PS, q = pss By Nb (iW By Nb 14 S63) S63 := ⟨_, rfl⟩
      have h87 : tN By Nb ((Int32.ofInt 0)).toInt (((Int8.ofInt 50).toInt32)).toInt (pss By Nb (iW By Nb 14 S63) S63) = tN By Nb (0) (50) S85 := by rw [h86]; exact tN_cg2 (fun _ => by omega) (fun _ => by omega)
      obtain ⟨S88, h89⟩ : ∃ q : PS, q = tN By Nb (0) (50) S85 := ⟨_, rfl⟩
      have h90 : ML By Nb σ73 S88 := by rw [h89]; exact (ML_eq h82.1 h87)
      have h91 := ML_k h90 h80
      have h92 : Imp (S88.1 = 0) (z81.toInt = tV By Nb S85.2.2.1) := fun z => by rw [h86]; exact h82.2 (by rw [h87, ← h89]; exact z)
      have h93 := Imp_m h76.2.2.2.2.2.2.2.2.2.2.2.2.2.2.2.1 (by omega)
      have h94 := Imp_m h76.2.2.2.2.2.2.2.2.2.2.2.2.2.2.2.2.1 (by omega)
      have h95 := Imp_m h76.2.2.2.2.2.2.2.2.2.2.2.2.2.2.2.2.2.1 (by omega)
      refine En_iast (l := 0) (u := 50) rfl rfl (by decide +kernel : TG 165 = 41) (by decide +kernel) (by omega) (lnI (by decide +kernel : LN _ = 226) (by omega)) (FTrow 41 11 4 4 (by decide +kernel) (by omega) (by omega) (by omega)) (rngI rfl (by omega) (by omega)) h74 h83 (by decide +kernel) (fun σ96 h97 h98 h99 h100 => ?_)
      have h101 := KF_st h84 (J := z69.toInt) h100 (by omega) (by omega)
      obtain ⟨S102, h103⟩ : ∃ q : PS, q = wst S88 (10 + 4 * Sp.2.2.2 2 + 1) ((tV By Nb S85.2.2.1)) := ⟨_, rfl⟩
      have h104 : ML By Nb σ96 S102 := by rw [h103]; exact (ML_wst (i := 10 + 4 * Sp.2.2.2 2 + 1) (v := (tV By Nb S85.2.2.1)) h90 h99 h100 (by omega) (fun z => by have j1 := Imp_m h92 z; exact ⟨by omega, by omega⟩))
      have h105 := ML_k h104 ((h100 _ _ (Or.inl (neTG (by decide +kernel : TG 159 = 35) (by decide +kernel : TG 165 = 41) (by decide)))).trans h80)
      have h106 : S102.1 = S88.1 := by rw [h103]; rfl
      refine En_Ps 1 (pc' := 87) (lv' := [(1, .int z8), (0, .ref 159)]) (st' := [.ref 159]) rfl ?_
      refine En_getK (j := 14) ((h100 _ _ (Or.inl (neTG (by decide +kernel : TG 159 = 35) (by decide +kernel : TG 165 = 41) (by decide)))).trans ((h75 _ _ (inW (by decide +kernel : TG 159 = 35) (by decide +kernel))).trans ((h61 _ _ (Or.inl (neTG (by decide +kernel : TG 159 = 35) (by decide +kernel : TG 165 = 41) (by decide)))).trans ((h42 _ _ (inW (by decide +kernel : TG 159 = 35) (by decide +kernel))).trans h3)))) rfl rfl rfl (by decide +kernel : TG 159 = 35) (by decide +kernel) ?_
      refine En_Ps 3 (pc' := 93) (lv' := [(1, .int z8), (0, .ref 159)]) (st' := [.int ((z8 + ((Int32.ofInt 2)))), .ref 165]) rfl ?_
      refine En_top (addI rfl (by decide : (Int32.ofInt 2).toInt = 2) (by omega) (by omega)) (fun z107 h108 => ?_)
      refine En_Ps 1 (pc' := 94) (lv' := [(1, .int z8), (0, .ref 159)]) (st' := [.int ((Int32.ofInt 0)), .int z107, .ref 165]) rfl ?_
      refine En_iast (l := 0) (u := 12) rfl rfl (by decide +kernel : TG 165 = 41) (by decide +kernel) (by omega) (lnI (by decide +kernel : LN _ = 226) (by omega)) (FTrow 41 12 4 4 (by decide +kernel) (by omega) (by omega) (by omega)) (rngI (by decide : (Int32.ofInt 0).toInt = 0) (by omega) (by omega)) h97 h98 (by decide +kernel) (fun σ109 h110 h111 h112 h113 => ?_)
      have h114 := KF_st h101 (J := z107.toInt) h113 (by omega) (by omega)
      have : ((Int32.ofInt 0)).toInt = 0 := (by decide : (Int32.ofInt 0).toInt = 0)
      obtain ⟨S115, h116⟩ : ∃ q : PS, q = wst S102 (10 + 4 * Sp.2.2.2 2 + 2) (0) := ⟨_, rfl⟩
      have h117 : ML By Nb σ109 S115 := by rw [h116]; exact (ML_wst (i := 10 + 4 * Sp.2.2.2 2 + 2) (v := 0) h104 h112 h113 (by omega) (fun z => by have j1 := h106.symm.trans z; have j2 := Imp_m h92 j1; exact ⟨by omega, by omega⟩))
      have h118 := ML_k h117 ((h113 _ _ (Or.inl (neTG (by decide +kernel : TG 159 = 35) (by decide +kernel : TG 165 = 41) (by decide)))).trans ((h100 _ _ (Or.inl (neTG (by decide +kernel : TG 159 = 35) (by decide +kernel : TG 165 = 41) (by decide)))).trans h80))
      have h119 : S115.1 = S102.1 := by rw [h116]; rfl
      refine En_Ps 1 (pc' := 96) (lv' := [(1, .int z8), (0, .ref 159)]) (st' := [.ref 159]) rfl ?_
      refine En_getK (j := 14) ((h113 _ _ (Or.inl (neTG (by decide +kernel : TG 159 = 35) (by decide +kernel : TG 165 = 41) (by decide)))).trans ((h100 _ _ (Or.inl (neTG (by decide +kernel : TG 159 = 35) (by decide +kernel : TG 165 = 41) (by decide)))).trans ((h75 _ _ (inW (by decide +kernel : TG 159 = 35) (by decide +kernel))).trans ((h61 _ _ (Or.inl (neTG (by decide +kernel : TG 159 = 35) (by decide +kernel : TG 165 = 41) (by decide)))).trans ((h42 _ _ (inW (by decide +kernel : TG 159 = 35) (by decide +kernel))).trans h3))))) rfl rfl rfl (by decide +kernel : TG 159 = 35) (by decide +kernel) ?_
      refine En_Ps 3 (pc' := 102) (lv' := [(1, .int z8), (0, .ref 159)]) (st' := [.int ((z8 + ((Int32.ofInt 3)))), .ref 165]) rfl ?_
      refine En_top (addI rfl (by decide : (Int32.ofInt 3).toInt = 3) (by omega) (by omega)) (fun z120 h121 => ?_)
      refine En_Ps 1 (pc' := 103) (lv' := [(1, .int z8), (0, .ref 159)]) (st' := [.int ((Int32.ofInt (-1))), .int z120, .ref 165]) rfl ?_
      refine En_iast (l := (-1)) (u := 3) rfl rfl (by decide +kernel : TG 165 = 41) (by decide +kernel) (by omega) (lnI (by decide +kernel : LN _ = 226) (by omega)) (FTrow 41 13 4 4 (by decide +kernel) (by omega) (by omega) (by omega)) (rngI (by decide : (Int32.ofInt (-1)).toInt = -1) (by omega) (by omega)) h110 h111 (by decide +kernel) (fun σ122 h123 h124 h125 h126 => ?_)
      have h127 := KF_st h114 (J := z120.toInt) h126 (by omega) (by omega)
      have : ((Int32.ofInt (-1))).toInt = (-1) := (by decide : (Int32.ofInt (-1)).toInt = -1)
      obtain ⟨S128, h129⟩ : ∃ q : PS, q = wst S115 (10 + 4 * Sp.2.2.2 2 + 3) (-1) := ⟨_, rfl⟩
      have h130 : ML By Nb σ122 S128 := by rw [h129]; exact (ML_wst (i := 10 + 4 * Sp.2.2.2 2 + 3) (v := -1) h117 h125 h126 (by omega) (fun z => by have j1 := h119.symm.trans z; have j2 := h106.symm.trans j1; have j3 := Imp_m h92 j2; exact ⟨by omega, by omega⟩))
      have h131 := ML_k h130 ((h126 _ _ (Or.inl (neTG (by decide +kernel : TG 159 = 35) (by decide +kernel : TG 165 = 41) (by decide)))).trans ((h113 _ _ (Or.inl (neTG (by decide +kernel : TG 159 = 35) (by decide +kernel : TG 165 = 41) (by decide)))).trans ((h100 _ _ (Or.inl (neTG (by decide +kernel : TG 159 = 35) (by decide +kernel : TG 165 = 41) (by decide)))).trans h80)))
      have h132 : S128.1 = S115.1 := by rw [h129]; rfl
      refine En_Ps 1 (pc' := 105) (lv' := [(1, .int z8), (0, .ref 159)]) (st' := [.ref 159]) rfl ?_
      refine En_getK (j := 14) ((h126 _ _ (Or.inl (neTG (by decide +kernel : TG 159 = 35) (by decide +kernel : TG 165 = 41) (by decide)))).trans ((h113 _ _ (Or.inl (neTG (by decide +kernel : TG 159 = 35) (by decide +kernel : TG 165 = 41) (by decide)))).trans ((h100 _ _ (Or.inl (neTG (by decide +kernel : TG 159 = 35) (by decide +kernel : TG 165 = 41) (by decide)))).trans ((h75 _ _ (inW (by decide +kernel : TG 159 = 35) (by decide +kernel))).trans ((h61 _ _ (Or.inl (neTG (by decide +kernel : TG 159 = 35) (by decide +kernel : TG 165 = 41) (by decide)))).trans ((h42 _ _ (inW (by decide +kernel : TG 159 = 35) (by decide +kernel))).trans h3)))))) rfl rfl rfl (by decide +kernel : TG 159 = 35) (by decide +kernel) ?_
      refine En_Ps 2 (pc' := 110) (lv' := [(1, .int z8), (0, .ref 159)]) (st' := [.int ((Int32.ofInt 2)), .ref 165, .int ((Int32.ofInt 2)), .ref 165]) rfl ?_
      refine En_ialdK ((h126 _ _ (Or.inr (by omega))).trans ((h113 _ _ (Or.inr (by omega))).trans ((h100 _ _ (Or.inr (by omega))).trans ((h75 _ _ (inWa (by decide +kernel : TG 165 = 41) (by decide +kernel))).trans ((h61 _ _ (Or.inr (by omega))).trans ((h42 _ _ (inWa (by decide +kernel : TG 165 = 41) (by decide +kernel))).trans h_nd)))))) rfl (by decide : (Int32.ofInt 2).toInt = 2) (by decide +kernel : TG 165 = 41) (by decide +kernel) h123 (by omega) (lnI (by decide +kernel : LN _ = 226) (by omega)) ?_
      refine En_Ps 2 (pc' := 113) (lv' := [(1, .int z8), (0, .ref 159)]) (st' := [.int ((nd + ((Int32.ofInt 1)))), .int ((Int32.ofInt 2)), .ref 165]) rfl ?_
      refine En_top (addI rfl (by decide : (Int32.ofInt 1).toInt = 1) (by omega) (by omega)) (fun z134 h135 => ?_)
      refine En_iast (l := 0) (u := 4) rfl (by decide : (Int32.ofInt 2).toInt = 2) (by decide +kernel : TG 165 = 41) (by decide +kernel) (by omega) (lnI (by decide +kernel : LN _ = 226) (by omega)) (by decide +kernel) (rngI rfl (by omega) (by omega)) h123 h124 (by decide +kernel) (fun σ136 h137 h138 h139 h140 => ?_)
      have h141 := KF_st h127 (J := 2) h140 (by omega) (by omega)
      obtain ⟨S142, h143⟩ : ∃ q : PS, q = wst S128 (2) (Sp.2.2.2 2 + 1) := ⟨_, rfl⟩
      have h144 : ML By Nb σ136 S142 := by rw [h143]; exact (ML_wst (i := 2) (v := Sp.2.2.2 2 + 1) h130 h139 h140 (by omega) (fun z => by have j1 := h132.symm.trans z; have j2 := h119.symm.trans j1; have j3 := h106.symm.trans j2; have j4 := Imp_m h92 j3; exact ⟨by omega, by omega⟩))
      have h145 := ML_k h144 ((h140 _ _ (Or.inl (neTG (by decide +kernel : TG 159 = 35) (by decide +kernel : TG 165 = 41) (by decide)))).trans ((h126 _ _ (Or.inl (neTG (by decide +kernel : TG 159 = 35) (by decide +kernel : TG 165 = 41) (by decide)))).trans ((h113 _ _ (Or.inl (neTG (by decide +kernel : TG 159 = 35) (by decide +kernel : TG 165 = 41) (by decide)))).trans ((h100 _ _ (Or.inl (neTG (by decide +kernel : TG 159 = 35) (by decide +kernel : TG 165 = 41) (by decide)))).trans h80))))
      have h146 : S142.1 = S128.1 := by rw [h143]; rfl
      exact En_ret (v := none) rfl rfl rfl ⟨h137, h138, z77, ((h140 _ _ (Or.inl (neTG (by decide +kernel : TG 159 = 35) (by decide +kernel : TG 165 = 41) (by decide)))).trans ((h126 _ _ (Or.inl (neTG (by decide +kernel : TG 159 = 35) (by decide +kernel : TG 165 = 41) (by decide)))).trans ((h113 _ _ (Or.inl (neTG (by decide +kernel : TG 159 = 35) (by decide +kernel : TG 165 = 41) (by decide)))).trans ((h100 _ _ (Or.inl (neTG (by decide +kernel : TG 159 = 35) (by decide +kernel : TG 165 = 41) (by decide)))).trans h78)))), z79, ((h140 _ _ (Or.inl (neTG (by decide +kernel : TG 159 = 35) (by decide +kernel : TG 165 = 41) (by decide)))).trans ((h126 _ _ (Or.inl (neTG (by decide +kernel : TG 159 = 35) (by decide +kernel : TG 165 = 41) (by decide)))).trans ((h113 _ _ (Or.inl (neTG (by decide +kernel : TG 159 = 35) (by decide +kernel : TG 165 = 41) (by decide)))).trans ((h100 _ _ (Or.inl (neTG (by decide +kernel : TG 159 = 35) (by decide +kernel : TG 165 = 41) (by decide)))).trans h80)))), rfl, ⟨by omega, by omega, by omega, by omega, by omega, by omega, by omega, by omega, by omega, by omega, by omega, by omega, by omega, by omega, by omega, by omega, by omega, fun _ => by omega, ⟨h141, ML_eq h144 (by unfold gDoor; dsimp only; rw [h68, ← h86, ← h89, ← h103, ← h116, ← h129, ← h143]; first | done | rfl | (rw [if_pos (by omega)]; first | done | rfl) | (rw [if_neg (by omega)]; first | done | rfl))⟩⟩⟩
    · have h147 : Sp.1 = 0 := iW_g (i := 11) (B := By) (n := Nb) (by omega)
      obtain ⟨S148, h149⟩ : ∃ q : PS, q = adv By Nb Sp := ⟨_, rfl⟩
      have h150 : ML By Nb σ26 S148 := by rw [h149]; exact h33.2.2 (by omega)
      have h151 := ML_k h150 ((h28 _ _ (inW (by decide +kernel : TG 159 = 35) (by decide +kernel))).trans h_k)
      have h152 : S148.2.2.2 = Sp.2.2.2 := by rw [h149]; exact adv_w
      have h153 : S148.1 = 0 := by rw [h149, adv_1]; exact h147
      refine En_Ps 1 (pc' := 43) (lv' := [(1, .int z8), (0, .ref 159)]) (st' := [.ref 159]) rfl ?_
      refine En_getK (j := 14) ((h28 _ _ (inW (by decide +kernel : TG 159 = 35) (by decide +kernel))).trans h3) rfl rfl rfl (by decide +kernel : TG 159 = 35) (by decide +kernel) ?_
      refine En_Ps 3 (pc' := 49) (lv' := [(1, .int z8), (0, .ref 159)]) (st' := [.int ((z8 + ((Int32.ofInt 0)))), .ref 165]) rfl ?_
      refine En_top (addI rfl (by decide : (Int32.ofInt 0).toInt = 0) (by omega) (by omega)) (fun z154 h155 => ?_)
      refine En_Ps 1 (pc' := 50) (lv' := [(1, .int z8), (0, .ref 159)]) (st' := [.int ((Int32.ofInt 1)), .int z154, .ref 165]) rfl ?_
      refine En_iast (l := 0) (u := 2) rfl rfl (by decide +kernel : TG 165 = 41) (by decide +kernel) (by omega) (lnI (by decide +kernel : LN _ = 226) (by omega)) (FTrow 41 10 4 4 (by decide +kernel) (by omega) (by omega) (by omega)) (rngI (by decide : (Int32.ofInt 1).toInt = 1) (by omega) (by omega)) h27 h34 (by decide +kernel) (fun σ156 h157 h158 h159 h160 => ?_)
      have h161 := KF_st h35 (J := z154.toInt) h160 (by omega) (by omega)
      have : ((Int32.ofInt 1)).toInt = 1 := (by decide : (Int32.ofInt 1).toInt = 1)
      obtain ⟨S162, h163⟩ : ∃ q : PS, q = wst S148 (10 + 4 * Sp.2.2.2 2) (1) := ⟨_, rfl⟩
      have h164 : ML By Nb σ156 S162 := by rw [h163]; exact (ML_wst (i := 10 + 4 * Sp.2.2.2 2) (v := 1) h150 h159 h160 (by omega) (fun z => by exact ⟨by omega, by omega⟩))
      have h165 := ML_k h164 ((h160 _ _ (Or.inl (neTG (by decide +kernel : TG 159 = 35) (by decide +kernel : TG 165 = 41) (by decide)))).trans ((h28 _ _ (inW (by decide +kernel : TG 159 = 35) (by decide +kernel))).trans h_k))
      have h166 : S162.1 = S148.1 := by rw [h163]; rfl
      refine En_Ps 1 (pc' := 69) (lv' := [(1, .int z8), (0, .ref 159)]) (st' := []) rfl ?_
      have h167 : gWay By Nb Sp = S162 := by rw [h163, h149]; unfold gWay; (repeat' split) <;> first | rfl | (exfalso; omega) | (exfalso; omega)
      refine En_Ps 1 (pc' := 70) (lv' := [(1, .int z8), (0, .ref 159)]) (st' := [.ref 159]) rfl ?_
      refine En_getK (j := 14) ((h160 _ _ (Or.inl (neTG (by decide +kernel : TG 159 = 35) (by decide +kernel : TG 165 = 41) (by decide)))).trans ((h28 _ _ (inW (by decide +kernel : TG 159 = 35) (by decide +kernel))).trans h3)) rfl rfl rfl (by decide +kernel : TG 159 = 35) (by decide +kernel) ?_
      refine En_Ps 3 (pc' := 76) (lv' := [(1, .int z8), (0, .ref 159)]) (st' := [.int ((z8 + ((Int32.ofInt 1)))), .ref 165]) rfl ?_
      refine En_top (addI rfl (by decide : (Int32.ofInt 1).toInt = 1) (by omega) (by omega)) (fun z168 h169 => ?_)
      refine En_Ps 1 (pc' := 77) (lv' := [(1, .int z8), (0, .ref 159)]) (st' := [.ref 159, .int z168, .ref 165]) rfl ?_
      refine En_ldcS (i := 14) rfl rfl rfl ?_
      refine En_Ps 2 (pc' := 82) (lv' := [(1, .int z8), (0, .ref 159)]) (st' := [.int (((Int8.ofInt 50).toInt32)), .int ((Int32.ofInt 0)), .retAddr 29, .ref 159, .int z168, .ref 165]) rfl ?_
      have := (by decide : ((Int32.ofInt 0)).toInt = 0)
      have := (by decide : (((Int8.ofInt 50).toInt32)).toInt = 50)
      refine En_callV rfl rfl rfl rfl rfl rfl rfl rfl (by decide +kernel : TG 159 = 35) (by decide +kernel) rfl (c_323s14x σ156 h157 ((Int32.ofInt 0)) (((Int8.ofInt 50).toInt32)) (geI (by decide : (Int32.ofInt 0).toInt = 0) (by omega)) (leI (by decide : (Int32.ofInt 0).toInt = 0) (by omega)) (geI (by decide : ((Int8.ofInt 50).toInt32).toInt = 50) (by omega)) (leI (by decide : ((Int8.ofInt 50).toInt32).toInt = 50) (by omega)) z30 ((h160 _ _ (Or.inl (neTG (by decide +kernel : TG 159 = 35) (by decide +kernel : TG 165 = 41) (by decide)))).trans h31) k ((h160 _ _ (Or.inl (neTG (by decide +kernel : TG 159 = 35) (by decide +kernel : TG 165 = 41) (by decide)))).trans ((h28 _ _ (inW (by decide +kernel : TG 159 = 35) (by decide +kernel))).trans h_k)) h164) (by decide) (by decide) (fun v171 σ172 h170 => ?_)
      obtain ⟨h173, h174, z176, h177, z178, h179, z180, rfl, h175⟩ := h170
      have h181 := h175.2.2.2.2.2.2.2.2.2.2.2.2.2.2.2.2.2.2.2.2
      have h182 := Fr_trans h158 h174 (by decide +kernel)
      have h183 := KF_fr h161 h174 (by decide +kernel)
      obtain ⟨S184, h185⟩ : ∃ q : PS, q = pss By Nb (iW By Nb 14 S162) S162 := ⟨_, rfl⟩
      have h186 : tN By Nb ((Int32.ofInt 0)).toInt (((Int8.ofInt 50).toInt32)).toInt (pss By Nb (iW By Nb 14 S162) S162) = tN By Nb (0) (50) S184 := by rw [h185]; exact tN_cg2 (fun _ => by omega) (fun _ => by omega)
      obtain ⟨S187, h188⟩ : ∃ q : PS, q = tN By Nb (0) (50) S184 := ⟨_, rfl⟩
      have h189 : ML By Nb σ172 S187 := by rw [h188]; exact (ML_eq h181.1 h186)
      have h190 := ML_k h189 h179
      have h191 : Imp (S187.1 = 0) (z180.toInt = tV By Nb S184.2.2.1) := fun z => by rw [h185]; exact h181.2 (by rw [h186, ← h188]; exact z)
      have h192 := Imp_m h175.2.2.2.2.2.2.2.2.2.2.2.2.2.2.2.1 (by omega)
      have h193 := Imp_m h175.2.2.2.2.2.2.2.2.2.2.2.2.2.2.2.2.1 (by omega)
      have h194 := Imp_m h175.2.2.2.2.2.2.2.2.2.2.2.2.2.2.2.2.2.1 (by omega)
      refine En_iast (l := 0) (u := 50) rfl rfl (by decide +kernel : TG 165 = 41) (by decide +kernel) (by omega) (lnI (by decide +kernel : LN _ = 226) (by omega)) (FTrow 41 11 4 4 (by decide +kernel) (by omega) (by omega) (by omega)) (rngI rfl (by omega) (by omega)) h173 h182 (by decide +kernel) (fun σ195 h196 h197 h198 h199 => ?_)
      have h200 := KF_st h183 (J := z168.toInt) h199 (by omega) (by omega)
      obtain ⟨S201, h202⟩ : ∃ q : PS, q = wst S187 (10 + 4 * Sp.2.2.2 2 + 1) ((tV By Nb S184.2.2.1)) := ⟨_, rfl⟩
      have h203 : ML By Nb σ195 S201 := by rw [h202]; exact (ML_wst (i := 10 + 4 * Sp.2.2.2 2 + 1) (v := (tV By Nb S184.2.2.1)) h189 h198 h199 (by omega) (fun z => by have j1 := Imp_m h191 z; exact ⟨by omega, by omega⟩))
      have h204 := ML_k h203 ((h199 _ _ (Or.inl (neTG (by decide +kernel : TG 159 = 35) (by decide +kernel : TG 165 = 41) (by decide)))).trans h179)
      have h205 : S201.1 = S187.1 := by rw [h202]; rfl
      refine En_Ps 1 (pc' := 87) (lv' := [(1, .int z8), (0, .ref 159)]) (st' := [.ref 159]) rfl ?_
      refine En_getK (j := 14) ((h199 _ _ (Or.inl (neTG (by decide +kernel : TG 159 = 35) (by decide +kernel : TG 165 = 41) (by decide)))).trans ((h174 _ _ (inW (by decide +kernel : TG 159 = 35) (by decide +kernel))).trans ((h160 _ _ (Or.inl (neTG (by decide +kernel : TG 159 = 35) (by decide +kernel : TG 165 = 41) (by decide)))).trans ((h28 _ _ (inW (by decide +kernel : TG 159 = 35) (by decide +kernel))).trans h3)))) rfl rfl rfl (by decide +kernel : TG 159 = 35) (by decide +kernel) ?_
      refine En_Ps 3 (pc' := 93) (lv' := [(1, .int z8), (0, .ref 159)]) (st' := [.int ((z8 + ((Int32.ofInt 2)))), .ref 165]) rfl ?_
      refine En_top (addI rfl (by decide : (Int32.ofInt 2).toInt = 2) (by omega) (by omega)) (fun z206 h207 => ?_)
      refine En_Ps 1 (pc' := 94) (lv' := [(1, .int z8), (0, .ref 159)]) (st' := [.int ((Int32.ofInt 0)), .int z206, .ref 165]) rfl ?_
      refine En_iast (l := 0) (u := 12) rfl rfl (by decide +kernel : TG 165 = 41) (by decide +kernel) (by omega) (lnI (by decide +kernel : LN _ = 226) (by omega)) (FTrow 41 12 4 4 (by decide +kernel) (by omega) (by omega) (by omega)) (rngI (by decide : (Int32.ofInt 0).toInt = 0) (by omega) (by omega)) h196 h197 (by decide +kernel) (fun σ208 h209 h210 h211 h212 => ?_)
      have h213 := KF_st h200 (J := z206.toInt) h212 (by omega) (by omega)
      have : ((Int32.ofInt 0)).toInt = 0 := (by decide : (Int32.ofInt 0).toInt = 0)
      obtain ⟨S214, h215⟩ : ∃ q : PS, q = wst S201 (10 + 4 * Sp.2.2.2 2 + 2) (0) := ⟨_, rfl⟩
      have h216 : ML By Nb σ208 S214 := by rw [h215]; exact (ML_wst (i := 10 + 4 * Sp.2.2.2 2 + 2) (v := 0) h203 h211 h212 (by omega) (fun z => by have j1 := h205.symm.trans z; have j2 := Imp_m h191 j1; exact ⟨by omega, by omega⟩))
      have h217 := ML_k h216 ((h212 _ _ (Or.inl (neTG (by decide +kernel : TG 159 = 35) (by decide +kernel : TG 165 = 41) (by decide)))).trans ((h199 _ _ (Or.inl (neTG (by decide +kernel : TG 159 = 35) (by decide +kernel : TG 165 = 41) (by decide)))).trans h179))
      have h218 : S214.1 = S201.1 := by rw [h215]; rfl
      refine En_Ps 1 (pc' := 96) (lv' := [(1, .int z8), (0, .ref 159)]) (st' := [.ref 159]) rfl ?_
      refine En_getK (j := 14) ((h212 _ _ (Or.inl (neTG (by decide +kernel : TG 159 = 35) (by decide +kernel : TG 165 = 41) (by decide)))).trans ((h199 _ _ (Or.inl (neTG (by decide +kernel : TG 159 = 35) (by decide +kernel : TG 165 = 41) (by decide)))).trans ((h174 _ _ (inW (by decide +kernel : TG 159 = 35) (by decide +kernel))).trans ((h160 _ _ (Or.inl (neTG (by decide +kernel : TG 159 = 35) (by decide +kernel : TG 165 = 41) (by decide)))).trans ((h28 _ _ (inW (by decide +kernel : TG 159 = 35) (by decide +kernel))).trans h3))))) rfl rfl rfl (by decide +kernel : TG 159 = 35) (by decide +kernel) ?_
      refine En_Ps 3 (pc' := 102) (lv' := [(1, .int z8), (0, .ref 159)]) (st' := [.int ((z8 + ((Int32.ofInt 3)))), .ref 165]) rfl ?_
      refine En_top (addI rfl (by decide : (Int32.ofInt 3).toInt = 3) (by omega) (by omega)) (fun z219 h220 => ?_)
      refine En_Ps 1 (pc' := 103) (lv' := [(1, .int z8), (0, .ref 159)]) (st' := [.int ((Int32.ofInt (-1))), .int z219, .ref 165]) rfl ?_
      refine En_iast (l := (-1)) (u := 3) rfl rfl (by decide +kernel : TG 165 = 41) (by decide +kernel) (by omega) (lnI (by decide +kernel : LN _ = 226) (by omega)) (FTrow 41 13 4 4 (by decide +kernel) (by omega) (by omega) (by omega)) (rngI (by decide : (Int32.ofInt (-1)).toInt = -1) (by omega) (by omega)) h209 h210 (by decide +kernel) (fun σ221 h222 h223 h224 h225 => ?_)
      have h226 := KF_st h213 (J := z219.toInt) h225 (by omega) (by omega)
      have : ((Int32.ofInt (-1))).toInt = (-1) := (by decide : (Int32.ofInt (-1)).toInt = -1)
      obtain ⟨S227, h228⟩ : ∃ q : PS, q = wst S214 (10 + 4 * Sp.2.2.2 2 + 3) (-1) := ⟨_, rfl⟩
      have h229 : ML By Nb σ221 S227 := by rw [h228]; exact (ML_wst (i := 10 + 4 * Sp.2.2.2 2 + 3) (v := -1) h216 h224 h225 (by omega) (fun z => by have j1 := h218.symm.trans z; have j2 := h205.symm.trans j1; have j3 := Imp_m h191 j2; exact ⟨by omega, by omega⟩))
      have h230 := ML_k h229 ((h225 _ _ (Or.inl (neTG (by decide +kernel : TG 159 = 35) (by decide +kernel : TG 165 = 41) (by decide)))).trans ((h212 _ _ (Or.inl (neTG (by decide +kernel : TG 159 = 35) (by decide +kernel : TG 165 = 41) (by decide)))).trans ((h199 _ _ (Or.inl (neTG (by decide +kernel : TG 159 = 35) (by decide +kernel : TG 165 = 41) (by decide)))).trans h179)))
      have h231 : S227.1 = S214.1 := by rw [h228]; rfl
      refine En_Ps 1 (pc' := 105) (lv' := [(1, .int z8), (0, .ref 159)]) (st' := [.ref 159]) rfl ?_
      refine En_getK (j := 14) ((h225 _ _ (Or.inl (neTG (by decide +kernel : TG 159 = 35) (by decide +kernel : TG 165 = 41) (by decide)))).trans ((h212 _ _ (Or.inl (neTG (by decide +kernel : TG 159 = 35) (by decide +kernel : TG 165 = 41) (by decide)))).trans ((h199 _ _ (Or.inl (neTG (by decide +kernel : TG 159 = 35) (by decide +kernel : TG 165 = 41) (by decide)))).trans ((h174 _ _ (inW (by decide +kernel : TG 159 = 35) (by decide +kernel))).trans ((h160 _ _ (Or.inl (neTG (by decide +kernel : TG 159 = 35) (by decide +kernel : TG 165 = 41) (by decide)))).trans ((h28 _ _ (inW (by decide +kernel : TG 159 = 35) (by decide +kernel))).trans h3)))))) rfl rfl rfl (by decide +kernel : TG 159 = 35) (by decide +kernel) ?_
      refine En_Ps 2 (pc' := 110) (lv' := [(1, .int z8), (0, .ref 159)]) (st' := [.int ((Int32.ofInt 2)), .ref 165, .int ((Int32.ofInt 2)), .ref 165]) rfl ?_
      refine En_ialdK ((h225 _ _ (Or.inr (by omega))).trans ((h212 _ _ (Or.inr (by omega))).trans ((h199 _ _ (Or.inr (by omega))).trans ((h174 _ _ (inWa (by decide +kernel : TG 165 = 41) (by decide +kernel))).trans ((h160 _ _ (Or.inr (by omega))).trans ((h28 _ _ (inWa (by decide +kernel : TG 165 = 41) (by decide +kernel))).trans h_nd)))))) rfl (by decide : (Int32.ofInt 2).toInt = 2) (by decide +kernel : TG 165 = 41) (by decide +kernel) h222 (by omega) (lnI (by decide +kernel : LN _ = 226) (by omega)) ?_
      refine En_Ps 2 (pc' := 113) (lv' := [(1, .int z8), (0, .ref 159)]) (st' := [.int ((nd + ((Int32.ofInt 1)))), .int ((Int32.ofInt 2)), .ref 165]) rfl ?_
      refine En_top (addI rfl (by decide : (Int32.ofInt 1).toInt = 1) (by omega) (by omega)) (fun z233 h234 => ?_)
      refine En_iast (l := 0) (u := 4) rfl (by decide : (Int32.ofInt 2).toInt = 2) (by decide +kernel : TG 165 = 41) (by decide +kernel) (by omega) (lnI (by decide +kernel : LN _ = 226) (by omega)) (by decide +kernel) (rngI rfl (by omega) (by omega)) h222 h223 (by decide +kernel) (fun σ235 h236 h237 h238 h239 => ?_)
      have h240 := KF_st h226 (J := 2) h239 (by omega) (by omega)
      obtain ⟨S241, h242⟩ : ∃ q : PS, q = wst S227 (2) (Sp.2.2.2 2 + 1) := ⟨_, rfl⟩
      have h243 : ML By Nb σ235 S241 := by rw [h242]; exact (ML_wst (i := 2) (v := Sp.2.2.2 2 + 1) h229 h238 h239 (by omega) (fun z => by have j1 := h231.symm.trans z; have j2 := h218.symm.trans j1; have j3 := h205.symm.trans j2; have j4 := Imp_m h191 j3; exact ⟨by omega, by omega⟩))
      have h244 := ML_k h243 ((h239 _ _ (Or.inl (neTG (by decide +kernel : TG 159 = 35) (by decide +kernel : TG 165 = 41) (by decide)))).trans ((h225 _ _ (Or.inl (neTG (by decide +kernel : TG 159 = 35) (by decide +kernel : TG 165 = 41) (by decide)))).trans ((h212 _ _ (Or.inl (neTG (by decide +kernel : TG 159 = 35) (by decide +kernel : TG 165 = 41) (by decide)))).trans ((h199 _ _ (Or.inl (neTG (by decide +kernel : TG 159 = 35) (by decide +kernel : TG 165 = 41) (by decide)))).trans h179))))
      have h245 : S241.1 = S227.1 := by rw [h242]; rfl
      exact En_ret (v := none) rfl rfl rfl ⟨h236, h237, z176, ((h239 _ _ (Or.inl (neTG (by decide +kernel : TG 159 = 35) (by decide +kernel : TG 165 = 41) (by decide)))).trans ((h225 _ _ (Or.inl (neTG (by decide +kernel : TG 159 = 35) (by decide +kernel : TG 165 = 41) (by decide)))).trans ((h212 _ _ (Or.inl (neTG (by decide +kernel : TG 159 = 35) (by decide +kernel : TG 165 = 41) (by decide)))).trans ((h199 _ _ (Or.inl (neTG (by decide +kernel : TG 159 = 35) (by decide +kernel : TG 165 = 41) (by decide)))).trans h177)))), z178, ((h239 _ _ (Or.inl (neTG (by decide +kernel : TG 159 = 35) (by decide +kernel : TG 165 = 41) (by decide)))).trans ((h225 _ _ (Or.inl (neTG (by decide +kernel : TG 159 = 35) (by decide +kernel : TG 165 = 41) (by decide)))).trans ((h212 _ _ (Or.inl (neTG (by decide +kernel : TG 159 = 35) (by decide +kernel : TG 165 = 41) (by decide)))).trans ((h199 _ _ (Or.inl (neTG (by decide +kernel : TG 159 = 35) (by decide +kernel : TG 165 = 41) (by decide)))).trans h179)))), rfl, ⟨by omega, by omega, by omega, by omega, by omega, by omega, by omega, by omega, by omega, by omega, by omega, by omega, by omega, by omega, by omega, by omega, by omega, fun _ => by omega, ⟨h240, ML_eq h243 (by unfold gDoor; dsimp only; rw [h167, ← h185, ← h188, ← h202, ← h215, ← h228, ← h242]; first | done | rfl | (rw [if_pos (by omega)]; first | done | rfl) | (rw [if_neg (by omega)]; first | done | rfl))⟩⟩⟩
  · have h246 : Sp.1 = 0 := iW_g (i := 4) (B := By) (n := Nb) (by omega)
    obtain ⟨S247, h248⟩ : ∃ q : PS, q = adv By Nb Sp := ⟨_, rfl⟩
    have h249 : ML By Nb σ12 S247 := by rw [h248]; exact h19.2.2 (by omega)
    have h250 := ML_k h249 ((h14 _ _ (inW (by decide +kernel : TG 159 = 35) (by decide +kernel))).trans h_k)
    have h251 : S247.2.2.2 = Sp.2.2.2 := by rw [h248]; exact adv_w
    have h252 : S247.1 = 0 := by rw [h248, adv_1]; exact h246
    refine En_Ps 1 (pc' := 22) (lv' := [(1, .int z8), (0, .ref 159)]) (st' := [.ref 159]) rfl ?_
    refine En_getK (j := 14) ((h14 _ _ (inW (by decide +kernel : TG 159 = 35) (by decide +kernel))).trans h3) rfl rfl rfl (by decide +kernel : TG 159 = 35) (by decide +kernel) ?_
    refine En_Ps 3 (pc' := 28) (lv' := [(1, .int z8), (0, .ref 159)]) (st' := [.int ((z8 + ((Int32.ofInt 0)))), .ref 165]) rfl ?_
    refine En_top (addI rfl (by decide : (Int32.ofInt 0).toInt = 0) (by omega) (by omega)) (fun z253 h254 => ?_)
    refine En_Ps 1 (pc' := 29) (lv' := [(1, .int z8), (0, .ref 159)]) (st' := [.int ((Int32.ofInt 0)), .int z253, .ref 165]) rfl ?_
    refine En_iast (l := 0) (u := 2) rfl rfl (by decide +kernel : TG 165 = 41) (by decide +kernel) (by omega) (lnI (by decide +kernel : LN _ = 226) (by omega)) (FTrow 41 10 4 4 (by decide +kernel) (by omega) (by omega) (by omega)) (rngI (by decide : (Int32.ofInt 0).toInt = 0) (by omega) (by omega)) h13 h20 (by decide +kernel) (fun σ255 h256 h257 h258 h259 => ?_)
    have h260 := KF_st h21 (J := z253.toInt) h259 (by omega) (by omega)
    have : ((Int32.ofInt 0)).toInt = 0 := (by decide : (Int32.ofInt 0).toInt = 0)
    obtain ⟨S261, h262⟩ : ∃ q : PS, q = wst S247 (10 + 4 * Sp.2.2.2 2) (0) := ⟨_, rfl⟩
    have h263 : ML By Nb σ255 S261 := by rw [h262]; exact (ML_wst (i := 10 + 4 * Sp.2.2.2 2) (v := 0) h249 h258 h259 (by omega) (fun z => by exact ⟨by omega, by omega⟩))
    have h264 := ML_k h263 ((h259 _ _ (Or.inl (neTG (by decide +kernel : TG 159 = 35) (by decide +kernel : TG 165 = 41) (by decide)))).trans ((h14 _ _ (inW (by decide +kernel : TG 159 = 35) (by decide +kernel))).trans h_k))
    have h265 : S261.1 = S247.1 := by rw [h262]; rfl
    refine En_Ps 1 (pc' := 69) (lv' := [(1, .int z8), (0, .ref 159)]) (st' := []) rfl ?_
    have h266 : gWay By Nb Sp = S261 := by rw [h262, h248]; unfold gWay; (repeat' split) <;> first | rfl | (exfalso; omega) | (exfalso; omega)
    refine En_Ps 1 (pc' := 70) (lv' := [(1, .int z8), (0, .ref 159)]) (st' := [.ref 159]) rfl ?_
    refine En_getK (j := 14) ((h259 _ _ (Or.inl (neTG (by decide +kernel : TG 159 = 35) (by decide +kernel : TG 165 = 41) (by decide)))).trans ((h14 _ _ (inW (by decide +kernel : TG 159 = 35) (by decide +kernel))).trans h3)) rfl rfl rfl (by decide +kernel : TG 159 = 35) (by decide +kernel) ?_
    refine En_Ps 3 (pc' := 76) (lv' := [(1, .int z8), (0, .ref 159)]) (st' := [.int ((z8 + ((Int32.ofInt 1)))), .ref 165]) rfl ?_
    refine En_top (addI rfl (by decide : (Int32.ofInt 1).toInt = 1) (by omega) (by omega)) (fun z267 h268 => ?_)
    refine En_Ps 1 (pc' := 77) (lv' := [(1, .int z8), (0, .ref 159)]) (st' := [.ref 159, .int z267, .ref 165]) rfl ?_
    refine En_ldcS (i := 14) rfl rfl rfl ?_
    refine En_Ps 2 (pc' := 82) (lv' := [(1, .int z8), (0, .ref 159)]) (st' := [.int (((Int8.ofInt 50).toInt32)), .int ((Int32.ofInt 0)), .retAddr 29, .ref 159, .int z267, .ref 165]) rfl ?_
    have := (by decide : ((Int32.ofInt 0)).toInt = 0)
    have := (by decide : (((Int8.ofInt 50).toInt32)).toInt = 50)
    refine En_callV rfl rfl rfl rfl rfl rfl rfl rfl (by decide +kernel : TG 159 = 35) (by decide +kernel) rfl (c_323s14x σ255 h256 ((Int32.ofInt 0)) (((Int8.ofInt 50).toInt32)) (geI (by decide : (Int32.ofInt 0).toInt = 0) (by omega)) (leI (by decide : (Int32.ofInt 0).toInt = 0) (by omega)) (geI (by decide : ((Int8.ofInt 50).toInt32).toInt = 50) (by omega)) (leI (by decide : ((Int8.ofInt 50).toInt32).toInt = 50) (by omega)) z16 ((h259 _ _ (Or.inl (neTG (by decide +kernel : TG 159 = 35) (by decide +kernel : TG 165 = 41) (by decide)))).trans h17) k ((h259 _ _ (Or.inl (neTG (by decide +kernel : TG 159 = 35) (by decide +kernel : TG 165 = 41) (by decide)))).trans ((h14 _ _ (inW (by decide +kernel : TG 159 = 35) (by decide +kernel))).trans h_k)) h263) (by decide) (by decide) (fun v270 σ271 h269 => ?_)
    obtain ⟨h272, h273, z275, h276, z277, h278, z279, rfl, h274⟩ := h269
    have h280 := h274.2.2.2.2.2.2.2.2.2.2.2.2.2.2.2.2.2.2.2.2
    have h281 := Fr_trans h257 h273 (by decide +kernel)
    have h282 := KF_fr h260 h273 (by decide +kernel)
    obtain ⟨S283, h284⟩ : ∃ q : PS, q = pss By Nb (iW By Nb 14 S261) S261 := ⟨_, rfl⟩
    have h285 : tN By Nb ((Int32.ofInt 0)).toInt (((Int8.ofInt 50).toInt32)).toInt (pss By Nb (iW By Nb 14 S261) S261) = tN By Nb (0) (50) S283 := by rw [h284]; exact tN_cg2 (fun _ => by omega) (fun _ => by omega)
    obtain ⟨S286, h287⟩ : ∃ q : PS, q = tN By Nb (0) (50) S283 := ⟨_, rfl⟩
    have h288 : ML By Nb σ271 S286 := by rw [h287]; exact (ML_eq h280.1 h285)
    have h289 := ML_k h288 h278
    have h290 : Imp (S286.1 = 0) (z279.toInt = tV By Nb S283.2.2.1) := fun z => by rw [h284]; exact h280.2 (by rw [h285, ← h287]; exact z)
    have h291 := Imp_m h274.2.2.2.2.2.2.2.2.2.2.2.2.2.2.2.1 (by omega)
    have h292 := Imp_m h274.2.2.2.2.2.2.2.2.2.2.2.2.2.2.2.2.1 (by omega)
    have h293 := Imp_m h274.2.2.2.2.2.2.2.2.2.2.2.2.2.2.2.2.2.1 (by omega)
    refine En_iast (l := 0) (u := 50) rfl rfl (by decide +kernel : TG 165 = 41) (by decide +kernel) (by omega) (lnI (by decide +kernel : LN _ = 226) (by omega)) (FTrow 41 11 4 4 (by decide +kernel) (by omega) (by omega) (by omega)) (rngI rfl (by omega) (by omega)) h272 h281 (by decide +kernel) (fun σ294 h295 h296 h297 h298 => ?_)
    have h299 := KF_st h282 (J := z267.toInt) h298 (by omega) (by omega)
    obtain ⟨S300, h301⟩ : ∃ q : PS, q = wst S286 (10 + 4 * Sp.2.2.2 2 + 1) ((tV By Nb S283.2.2.1)) := ⟨_, rfl⟩
    have h302 : ML By Nb σ294 S300 := by rw [h301]; exact (ML_wst (i := 10 + 4 * Sp.2.2.2 2 + 1) (v := (tV By Nb S283.2.2.1)) h288 h297 h298 (by omega) (fun z => by have j1 := Imp_m h290 z; exact ⟨by omega, by omega⟩))
    have h303 := ML_k h302 ((h298 _ _ (Or.inl (neTG (by decide +kernel : TG 159 = 35) (by decide +kernel : TG 165 = 41) (by decide)))).trans h278)
    have h304 : S300.1 = S286.1 := by rw [h301]; rfl
    refine En_Ps 1 (pc' := 87) (lv' := [(1, .int z8), (0, .ref 159)]) (st' := [.ref 159]) rfl ?_
    refine En_getK (j := 14) ((h298 _ _ (Or.inl (neTG (by decide +kernel : TG 159 = 35) (by decide +kernel : TG 165 = 41) (by decide)))).trans ((h273 _ _ (inW (by decide +kernel : TG 159 = 35) (by decide +kernel))).trans ((h259 _ _ (Or.inl (neTG (by decide +kernel : TG 159 = 35) (by decide +kernel : TG 165 = 41) (by decide)))).trans ((h14 _ _ (inW (by decide +kernel : TG 159 = 35) (by decide +kernel))).trans h3)))) rfl rfl rfl (by decide +kernel : TG 159 = 35) (by decide +kernel) ?_
    refine En_Ps 3 (pc' := 93) (lv' := [(1, .int z8), (0, .ref 159)]) (st' := [.int ((z8 + ((Int32.ofInt 2)))), .ref 165]) rfl ?_
    refine En_top (addI rfl (by decide : (Int32.ofInt 2).toInt = 2) (by omega) (by omega)) (fun z305 h306 => ?_)
    refine En_Ps 1 (pc' := 94) (lv' := [(1, .int z8), (0, .ref 159)]) (st' := [.int ((Int32.ofInt 0)), .int z305, .ref 165]) rfl ?_
    refine En_iast (l := 0) (u := 12) rfl rfl (by decide +kernel : TG 165 = 41) (by decide +kernel) (by omega) (lnI (by decide +kernel : LN _ = 226) (by omega)) (FTrow 41 12 4 4 (by decide +kernel) (by omega) (by omega) (by omega)) (rngI (by decide : (Int32.ofInt 0).toInt = 0) (by omega) (by omega)) h295 h296 (by decide +kernel) (fun σ307 h308 h309 h310 h311 => ?_)
    have h312 := KF_st h299 (J := z305.toInt) h311 (by omega) (by omega)
    have : ((Int32.ofInt 0)).toInt = 0 := (by decide : (Int32.ofInt 0).toInt = 0)
    obtain ⟨S313, h314⟩ : ∃ q : PS, q = wst S300 (10 + 4 * Sp.2.2.2 2 + 2) (0) := ⟨_, rfl⟩
    have h315 : ML By Nb σ307 S313 := by rw [h314]; exact (ML_wst (i := 10 + 4 * Sp.2.2.2 2 + 2) (v := 0) h302 h310 h311 (by omega) (fun z => by have j1 := h304.symm.trans z; have j2 := Imp_m h290 j1; exact ⟨by omega, by omega⟩))
    have h316 := ML_k h315 ((h311 _ _ (Or.inl (neTG (by decide +kernel : TG 159 = 35) (by decide +kernel : TG 165 = 41) (by decide)))).trans ((h298 _ _ (Or.inl (neTG (by decide +kernel : TG 159 = 35) (by decide +kernel : TG 165 = 41) (by decide)))).trans h278))
    have h317 : S313.1 = S300.1 := by rw [h314]; rfl
    refine En_Ps 1 (pc' := 96) (lv' := [(1, .int z8), (0, .ref 159)]) (st' := [.ref 159]) rfl ?_
    refine En_getK (j := 14) ((h311 _ _ (Or.inl (neTG (by decide +kernel : TG 159 = 35) (by decide +kernel : TG 165 = 41) (by decide)))).trans ((h298 _ _ (Or.inl (neTG (by decide +kernel : TG 159 = 35) (by decide +kernel : TG 165 = 41) (by decide)))).trans ((h273 _ _ (inW (by decide +kernel : TG 159 = 35) (by decide +kernel))).trans ((h259 _ _ (Or.inl (neTG (by decide +kernel : TG 159 = 35) (by decide +kernel : TG 165 = 41) (by decide)))).trans ((h14 _ _ (inW (by decide +kernel : TG 159 = 35) (by decide +kernel))).trans h3))))) rfl rfl rfl (by decide +kernel : TG 159 = 35) (by decide +kernel) ?_
    refine En_Ps 3 (pc' := 102) (lv' := [(1, .int z8), (0, .ref 159)]) (st' := [.int ((z8 + ((Int32.ofInt 3)))), .ref 165]) rfl ?_
    refine En_top (addI rfl (by decide : (Int32.ofInt 3).toInt = 3) (by omega) (by omega)) (fun z318 h319 => ?_)
    refine En_Ps 1 (pc' := 103) (lv' := [(1, .int z8), (0, .ref 159)]) (st' := [.int ((Int32.ofInt (-1))), .int z318, .ref 165]) rfl ?_
    refine En_iast (l := (-1)) (u := 3) rfl rfl (by decide +kernel : TG 165 = 41) (by decide +kernel) (by omega) (lnI (by decide +kernel : LN _ = 226) (by omega)) (FTrow 41 13 4 4 (by decide +kernel) (by omega) (by omega) (by omega)) (rngI (by decide : (Int32.ofInt (-1)).toInt = -1) (by omega) (by omega)) h308 h309 (by decide +kernel) (fun σ320 h321 h322 h323 h324 => ?_)
    have h325 := KF_st h312 (J := z318.toInt) h324 (by omega) (by omega)
    have : ((Int32.ofInt (-1))).toInt = (-1) := (by decide : (Int32.ofInt (-1)).toInt = -1)
    obtain ⟨S326, h327⟩ : ∃ q : PS, q = wst S313 (10 + 4 * Sp.2.2.2 2 + 3) (-1) := ⟨_, rfl⟩
    have h328 : ML By Nb σ320 S326 := by rw [h327]; exact (ML_wst (i := 10 + 4 * Sp.2.2.2 2 + 3) (v := -1) h315 h323 h324 (by omega) (fun z => by have j1 := h317.symm.trans z; have j2 := h304.symm.trans j1; have j3 := Imp_m h290 j2; exact ⟨by omega, by omega⟩))
    have h329 := ML_k h328 ((h324 _ _ (Or.inl (neTG (by decide +kernel : TG 159 = 35) (by decide +kernel : TG 165 = 41) (by decide)))).trans ((h311 _ _ (Or.inl (neTG (by decide +kernel : TG 159 = 35) (by decide +kernel : TG 165 = 41) (by decide)))).trans ((h298 _ _ (Or.inl (neTG (by decide +kernel : TG 159 = 35) (by decide +kernel : TG 165 = 41) (by decide)))).trans h278)))
    have h330 : S326.1 = S313.1 := by rw [h327]; rfl
    refine En_Ps 1 (pc' := 105) (lv' := [(1, .int z8), (0, .ref 159)]) (st' := [.ref 159]) rfl ?_
    refine En_getK (j := 14) ((h324 _ _ (Or.inl (neTG (by decide +kernel : TG 159 = 35) (by decide +kernel : TG 165 = 41) (by decide)))).trans ((h311 _ _ (Or.inl (neTG (by decide +kernel : TG 159 = 35) (by decide +kernel : TG 165 = 41) (by decide)))).trans ((h298 _ _ (Or.inl (neTG (by decide +kernel : TG 159 = 35) (by decide +kernel : TG 165 = 41) (by decide)))).trans ((h273 _ _ (inW (by decide +kernel : TG 159 = 35) (by decide +kernel))).trans ((h259 _ _ (Or.inl (neTG (by decide +kernel : TG 159 = 35) (by decide +kernel : TG 165 = 41) (by decide)))).trans ((h14 _ _ (inW (by decide +kernel : TG 159 = 35) (by decide +kernel))).trans h3)))))) rfl rfl rfl (by decide +kernel : TG 159 = 35) (by decide +kernel) ?_
    refine En_Ps 2 (pc' := 110) (lv' := [(1, .int z8), (0, .ref 159)]) (st' := [.int ((Int32.ofInt 2)), .ref 165, .int ((Int32.ofInt 2)), .ref 165]) rfl ?_
    refine En_ialdK ((h324 _ _ (Or.inr (by omega))).trans ((h311 _ _ (Or.inr (by omega))).trans ((h298 _ _ (Or.inr (by omega))).trans ((h273 _ _ (inWa (by decide +kernel : TG 165 = 41) (by decide +kernel))).trans ((h259 _ _ (Or.inr (by omega))).trans ((h14 _ _ (inWa (by decide +kernel : TG 165 = 41) (by decide +kernel))).trans h_nd)))))) rfl (by decide : (Int32.ofInt 2).toInt = 2) (by decide +kernel : TG 165 = 41) (by decide +kernel) h321 (by omega) (lnI (by decide +kernel : LN _ = 226) (by omega)) ?_
    refine En_Ps 2 (pc' := 113) (lv' := [(1, .int z8), (0, .ref 159)]) (st' := [.int ((nd + ((Int32.ofInt 1)))), .int ((Int32.ofInt 2)), .ref 165]) rfl ?_
    refine En_top (addI rfl (by decide : (Int32.ofInt 1).toInt = 1) (by omega) (by omega)) (fun z332 h333 => ?_)
    refine En_iast (l := 0) (u := 4) rfl (by decide : (Int32.ofInt 2).toInt = 2) (by decide +kernel : TG 165 = 41) (by decide +kernel) (by omega) (lnI (by decide +kernel : LN _ = 226) (by omega)) (by decide +kernel) (rngI rfl (by omega) (by omega)) h321 h322 (by decide +kernel) (fun σ334 h335 h336 h337 h338 => ?_)
    have h339 := KF_st h325 (J := 2) h338 (by omega) (by omega)
    obtain ⟨S340, h341⟩ : ∃ q : PS, q = wst S326 (2) (Sp.2.2.2 2 + 1) := ⟨_, rfl⟩
    have h342 : ML By Nb σ334 S340 := by rw [h341]; exact (ML_wst (i := 2) (v := Sp.2.2.2 2 + 1) h328 h337 h338 (by omega) (fun z => by have j1 := h330.symm.trans z; have j2 := h317.symm.trans j1; have j3 := h304.symm.trans j2; have j4 := Imp_m h290 j3; exact ⟨by omega, by omega⟩))
    have h343 := ML_k h342 ((h338 _ _ (Or.inl (neTG (by decide +kernel : TG 159 = 35) (by decide +kernel : TG 165 = 41) (by decide)))).trans ((h324 _ _ (Or.inl (neTG (by decide +kernel : TG 159 = 35) (by decide +kernel : TG 165 = 41) (by decide)))).trans ((h311 _ _ (Or.inl (neTG (by decide +kernel : TG 159 = 35) (by decide +kernel : TG 165 = 41) (by decide)))).trans ((h298 _ _ (Or.inl (neTG (by decide +kernel : TG 159 = 35) (by decide +kernel : TG 165 = 41) (by decide)))).trans h278))))
    have h344 : S340.1 = S326.1 := by rw [h341]; rfl
    exact En_ret (v := none) rfl rfl rfl ⟨h335, h336, z275, ((h338 _ _ (Or.inl (neTG (by decide +kernel : TG 159 = 35) (by decide +kernel : TG 165 = 41) (by decide)))).trans ((h324 _ _ (Or.inl (neTG (by decide +kernel : TG 159 = 35) (by decide +kernel : TG 165 = 41) (by decide)))).trans ((h311 _ _ (Or.inl (neTG (by decide +kernel : TG 159 = 35) (by decide +kernel : TG 165 = 41) (by decide)))).trans ((h298 _ _ (Or.inl (neTG (by decide +kernel : TG 159 = 35) (by decide +kernel : TG 165 = 41) (by decide)))).trans h276)))), z277, ((h338 _ _ (Or.inl (neTG (by decide +kernel : TG 159 = 35) (by decide +kernel : TG 165 = 41) (by decide)))).trans ((h324 _ _ (Or.inl (neTG (by decide +kernel : TG 159 = 35) (by decide +kernel : TG 165 = 41) (by decide)))).trans ((h311 _ _ (Or.inl (neTG (by decide +kernel : TG 159 = 35) (by decide +kernel : TG 165 = 41) (by decide)))).trans ((h298 _ _ (Or.inl (neTG (by decide +kernel : TG 159 = 35) (by decide +kernel : TG 165 = 41) (by decide)))).trans h278)))), rfl, ⟨by omega, by omega, by omega, by omega, by omega, by omega, by omega, by omega, by omega, by omega, by omega, by omega, by omega, by omega, by omega, by omega, by omega, fun _ => by omega, ⟨h339, ML_eq h342 (by unfold gDoor; dsimp only; rw [h266, ← h284, ← h287, ← h301, ← h314, ← h327, ← h341]; first | done | rfl | (rw [if_pos (by omega)]; first | done | rfl) | (rw [if_neg (by omega)]; first | done | rfl))⟩⟩⟩
/-- DoorSchoolModel.readLesson()V -/
abbrev P_300x (σ0 : SG) (By : Int → Int) (Nb : Int) (Sp : PS) (f : Int32) (k : Int32) : PO := fun v σ => WT σ ∧ Fr [(35, 8), (35, 9), (35, 10), (35, 11), (35, 12), (35, 13), (41, 0)] σ0 σ ∧ ∃ f1 : Int32, (σ 159)[8]? = some (.int f1) ∧ ∃ k1 : Int32, (σ 159)[12]? = some (.int k1) ∧ v = none ∧ -f1.toInt ≤ 0 ∧ f1.toInt - 1600 ≤ 0 ∧ -f1.toInt + f.toInt ≤ 0 ∧ f1.toInt - f.toInt - 1600 ≤ 0 ∧ -f1.toInt + k.toInt - 3 ≤ 0 ∧ f1.toInt - k.toInt - 1600 ≤ 0 ∧ -k1.toInt ≤ 0 ∧ k1.toInt - 3 ≤ 0 ∧ -k1.toInt + f.toInt - 1600 ≤ 0 ∧ k1.toInt - f.toInt - 3 ≤ 0 ∧ -k1.toInt + k.toInt ≤ 0 ∧ k1.toInt - k.toInt - 3 ≤ 0 ∧ f.toInt - f1.toInt ≤ 0 ∧ Imp (k1.toInt ≤ 0) (k.toInt ≤ 0) ∧ (KF σ0 σ ∧ ML By Nb σ (gLesson By Nb Sp))
set_option maxRecDepth 10000 in
set_option maxHeartbeats 4000000 in
theorem c_300x {By : Int → Int} {Nb : Int} {Sp : PS} (σ0 : SG) (hσ0 : WT σ0) (f : Int32) (h_f : (σ0 159)[8]? = some (.int f)) (k : Int32) (h_k : (σ0 159)[12]? = some (.int k)) (hM : ML By Nb σ0 Sp) (hg : Sp.1 = 0) : En 8 176 none mr_300 (P_300x σ0 By Nb Sp f k) 0 [(0, .ref 159)] [] σ0 := by
  obtain ⟨hl_f, hu_f⟩ := WT_int hσ0 (g := 35) (by decide +kernel) (by decide +kernel) (l := 0) (u := 1600) (by decide +kernel) h_f
  obtain ⟨hl_k, hu_k⟩ := WT_int hσ0 (g := 35) (by decide +kernel) (by decide +kernel) (l := 0) (u := 3) (by decide +kernel) h_k
  have hF0 : Fr [(35, 8), (35, 9), (35, 10), (35, 11), (35, 12), (35, 13), (41, 0)] σ0 σ0 := Fr_rfl
  obtain ⟨z2, h1, h3, h4⟩ := WT_peekI hσ0 (by decide +kernel : TG 159 = 35) (by decide +kernel : FT 35 10 = (0, 0, 4)) (by decide +kernel)
  obtain ⟨z6, h5, h7, h8⟩ := WT_peekI hσ0 (by decide +kernel : TG 159 = 35) (by decide +kernel : FT 35 11 = (0, 0, 99999)) (by decide +kernel)
  have h9 := ML_k hM h_k
  have h10 : Imp (Sp.1 = 0) (tK By Nb Sp.2.2.1 = z2.toInt) := ML_t hM h1
  have h11 : Imp (Sp.1 = 0 ∧ tK By Nb Sp.2.2.1 = 2) (z6.toInt = min 99999 (tV By Nb Sp.2.2.1) ∧ 0 ≤ tV By Nb Sp.2.2.1) := fun q => ML_u hM h5 q.1 q.2
  obtain ⟨z13, h12, h14, h15⟩ := WT_peekI hσ0 (by decide +kernel : TG 165 = 41) (by decide +kernel : FT 41 (2 : Int).toNat = (0, 0, 4)) (by decide +kernel)
  have h16 := ML_w hM hg h12 (by omega) (by omega)
  try have h17 := Imp_m h10 (by omega)
  try have h18 := Imp_m h11 (by omega)
  refine En_Ps 2 (pc' := 2) (lv' := [(0, .ref 159)]) (st' := [.ref 159, .ref 159]) rfl ?_
  refine En_getU (j := 14) (u := 165) (g' := 41) (q := 0) rfl rfl rfl (by decide +kernel : TG 159 = 35) (by decide +kernel) hσ0 (by decide +kernel) (by decide +kernel) (fun h19 => ?_)
  refine En_Ps 1 (pc' := 6) (lv' := [(0, .ref 159)]) (st' := [.int ((Int32.ofInt 2)), .ref 165, .ref 159]) rfl ?_
  refine En_ialdK h12 rfl (by decide : (Int32.ofInt 2).toInt = 2) (by decide +kernel : TG 165 = 41) (by decide +kernel) hσ0 (by omega) (lnI (by decide +kernel : LN _ = 226) (by omega)) ?_
  refine En_callV rfl rfl rfl rfl rfl rfl rfl rfl (by decide +kernel : TG 159 = 35) (by decide +kernel) rfl (c_260x σ0 hσ0 z13 k h_k z2 h1 z6 h5) (by decide) (by decide) (fun v23 σ24 h22 => ?_)
  obtain ⟨h25, h26, z28, rfl, h27⟩ := h22
  obtain rfl : σ0 = σ24 := Fr_nil h26
  refine En_iEq _ rfl rfl (fun h29 => ?_) (fun h29 => ?_)
  · have h30 : gLs1 By Nb Sp = Sp := by unfold gLs1; (repeat' split) <;> first | rfl | (exfalso; omega) | ((try have i0 := Imp_m h10 (by omega)); (try have i1 := Imp_m h11 (by omega)); exfalso; omega)
    refine En_Ps 3 (pc' := 42) (lv' := [(0, .ref 159)]) (st' := [.ref 159, .int ((Int32.ofInt 0)), .ref 159]) rfl ?_
    refine En_getK (j := 14) h19 rfl rfl rfl (by decide +kernel : TG 159 = 35) (by decide +kernel) ?_
    refine En_Ps 1 (pc' := 46) (lv' := [(0, .ref 159)]) (st' := [.int ((Int32.ofInt 2)), .ref 165, .int ((Int32.ofInt 0)), .ref 159]) rfl ?_
    refine En_ialdK h12 rfl (by decide : (Int32.ofInt 2).toInt = 2) (by decide +kernel : TG 165 = 41) (by decide +kernel) hσ0 (by omega) (lnI (by decide +kernel : LN _ = 226) (by omega)) ?_
    refine En_Ps 2 (pc' := 49) (lv' := [(0, .ref 159)]) (st' := [.int ((z13 - ((Int32.ofInt 1)))), .int ((Int32.ofInt 0)), .ref 159]) rfl ?_
    refine En_top (subI rfl (by decide : (Int32.ofInt 1).toInt = 1) (by omega) (by omega)) (fun z32 h33 => ?_)
    have := (by decide : ((Int32.ofInt 0)).toInt = 0)
    refine En_callV rfl rfl rfl rfl rfl rfl rfl rfl (by decide +kernel : TG 159 = 35) (by decide +kernel) rfl (c_288x σ0 hσ0 ((Int32.ofInt 0)) z32 (geI (by decide : (Int32.ofInt 0).toInt = 0) (by omega)) (leI (by decide : (Int32.ofInt 0).toInt = 0) (by omega)) (geI rfl (by omega)) (leI rfl (by omega)) f h_f k h_k z2 h1 z6 h5 hM) (by decide) (by decide) (fun v35 σ36 h34 => ?_)
    obtain ⟨h37, h38, z40, h41, z42, h43, z44, rfl, h39⟩ := h34
    have h45 := h39.2.2.2.2.2.2.2.2.2.2.2.2.2.2.2.2.2.2.2.2.2.2.2.2.2.2.2.2
    have h46 := Fr_trans hF0 h38 (by decide +kernel)
    have h47 := KF_fr (KF_0 (σ := σ0)) h38 (by decide +kernel)
    have h48 : tN By Nb ((Int32.ofInt 0)).toInt z32.toInt Sp = tN By Nb (0) (Sp.2.2.2 2 - 1) Sp := tN_cg2 (fun zz => by have j1 := Imp_m h10 zz; omega) (fun zz => by have j1 := Imp_m h10 zz; omega)
    obtain ⟨S49, h50⟩ : ∃ q : PS, q = tN By Nb (0) (Sp.2.2.2 2 - 1) Sp := ⟨_, rfl⟩
    have h51 : ML By Nb σ36 S49 := by rw [h50]; exact (ML_eq h45.1 h48)
    have h52 := ML_k h51 h43
    have h53 : Imp (S49.1 = 0) (z44.toInt = tV By Nb Sp.2.2.1) := fun z => h45.2 (by rw [h48, ← h50]; exact z)
    have h54 : Imp (S49.1 = 0) (Sp.1 = 0 ∧ tK By Nb Sp.2.2.1 = 2 ∧ 0 ≤ tV By Nb Sp.2.2.1 ∧ tV By Nb Sp.2.2.1 ≤ Sp.2.2.2 2 - 1) := fun z => tN_gg (by rw [← h50]; exact z)
    have h55 : S49.2.2.2 = Sp.2.2.2 := by rw [h50]; exact tN_w
    have h56 := Imp_m h39.2.2.2.2.2.2.2.2.2.2.2.2.2.2.2.2.2.2.2.2.2.2.2.1 (by omega)
    have h57 := Imp_m h39.2.2.2.2.2.2.2.2.2.2.2.2.2.2.2.2.2.2.2.2.2.2.2.2.1 (by omega)
    refine En_Ps 2 (pc' := 54) (lv' := [(1, .int z44), (0, .ref 159)]) (st' := [.ref 159]) rfl ?_
    refine En_callV rfl rfl rfl rfl rfl rfl rfl rfl (by decide +kernel : TG 159 = 35) (by decide +kernel) rfl (c_234x σ36 h37 z40 h41 z42 h43 h51) (by decide) (by decide) (fun v59 σ60 h58 => ?_)
    obtain ⟨h61, h62, z64, h65, z66, h67, z68, rfl, h63⟩ := h58
    have h69 := h63.2.2.2.2.2.2.2.2.2.2.2.2.2.2.2.2.2.2
    have h70 := Fr_trans h46 h62 (by decide +kernel)
    have h71 := KF_fr h47 h62 (by decide +kernel)
    have h72 : tN By Nb 0 (pI (S49.2.2.2 0) - 1) S49 = tN By Nb 0 (pI (Sp.2.2.2 0) - 1) S49 := tN_cg rfl (by first | rfl | simp only [h55] | rfl)
    obtain ⟨S73, h74⟩ : ∃ q : PS, q = tN By Nb 0 (pI (Sp.2.2.2 0) - 1) S49 := ⟨_, rfl⟩
    have h75 : ML By Nb σ60 S73 := by rw [h74]; exact (ML_eq h69.1 h72)
    have h76 := ML_k h75 h67
    have h77 : Imp (S73.1 = 0) (z68.toInt = tV By Nb S49.2.2.1) := fun z => h69.2 (by rw [h72, ← h74]; exact z)
    have h78 : Imp (S73.1 = 0) (S49.1 = 0 ∧ tK By Nb S49.2.2.1 = 2 ∧ 0 ≤ tV By Nb S49.2.2.1 ∧ tV By Nb S49.2.2.1 ≤ pI (Sp.2.2.2 0) - 1) := fun z => tN_gg (by rw [← h74]; exact z)
    have h79 : S73.2.2.2 = S49.2.2.2 := by rw [h74]; exact tN_w
    refine En_Ps 2 (pc' := 59) (lv' := [(2, .int z68), (1, .int z44), (0, .ref 159)]) (st' := [.ref 159]) rfl ?_
    refine En_callV rfl rfl rfl rfl rfl rfl rfl rfl (by decide +kernel : TG 159 = 35) (by decide +kernel) rfl (c_209x σ60 h61 z64 h65 z66 h67 h75) (by decide) (by decide) (fun v81 σ82 h80 => ?_)
    obtain ⟨h83, h84, z86, h87, z88, h89, z90, rfl, h85⟩ := h80
    have h91 := h85.2.2.2.2.2.2.2.2.2.2.2.2.2.2.2.2
    have h92 := Fr_trans h70 h84 (by decide +kernel)
    have h93 := KF_fr h71 h84 (by decide +kernel)
    obtain ⟨S94, h95⟩ : ∃ q : PS, q = gDeed By Nb S73 := ⟨_, rfl⟩
    have h96 : ML By Nb σ82 S94 := by rw [h95]; exact h91.1
    have h97 := ML_k h96 h89
    have h98 : z90.toInt = iW By Nb 8 S73 := h91.2
    have h99 : S94.2.2.2 = S73.2.2.2 := by rw [h95]; exact gDeed_w
    have h100 : Imp (S94.1 = 0) (S73.1 = 0) := fun z => gDeed_g (by rw [← h95]; exact z)
    refine En_Ps 2 (pc' := 64) (lv' := [(3, .int z90), (2, .int z68), (1, .int z44), (0, .ref 159)]) (st' := [.ref 159]) rfl ?_
    refine En_callV rfl rfl rfl rfl rfl rfl rfl rfl (by decide +kernel : TG 159 = 35) (by decide +kernel) rfl (c_237 σ82 h83 z88 h89) (by decide) (by decide) (fun v102 σ103 h101 => ?_)
    obtain ⟨h104, h105, z107, rfl, h106⟩ := h101
    obtain rfl : σ82 = σ103 := Fr_nil h105
    refine En_iNe _ rfl rfl (fun hx => by exfalso; omega) (fun h108 => ?_)
    have h109 := Imp_m h106.2.2.2 (by omega)
    exact En_ret (v := none) rfl rfl rfl ⟨h83, h92, z86, h87, z88, h89, rfl, ⟨by omega, by omega, by omega, by omega, by omega, by omega, by omega, by omega, by omega, by omega, by omega, by omega, by omega, fun _ => by omega, ⟨h93, ML_eq h96 (by unfold gLesson; dsimp only; rw [h30, ← h50, ← h74, ← h95]; first | done | rfl | (rw [if_pos (by omega)]; first | done | rfl) | (rw [if_neg (by omega)]; first | done | rfl))⟩⟩⟩
  · have h110 := Imp_m h27.2.2.1 (by omega)
    have h111 : Sp.1 = 0 := by omega
    have h112 := Imp_m h10 h111
    have h113 : tK By Nb Sp.2.2.1 = 2 := by omega
    have h114 := Imp_m h10 h111
    have h115 := Imp_m h11 ⟨h111, h113⟩
    refine En_Ps 1 (pc' := 14) (lv' := [(0, .ref 159)]) (st' := [.ref 159]) rfl ?_
    refine En_getK (j := 14) h19 rfl rfl rfl (by decide +kernel : TG 159 = 35) (by decide +kernel) ?_
    refine En_Ps 3 (pc' := 21) (lv' := [(0, .ref 159)]) (st' := [.ref 159, .int ((Int32.ofInt 4)), .int (((Int8.ofInt 10).toInt32)), .ref 165]) rfl ?_
    refine En_getK (j := 11) h5 rfl rfl rfl (by decide +kernel : TG 159 = 35) (by decide +kernel) ?_
    refine En_Ps 1 (pc' := 25) (lv' := [(0, .ref 159)]) (st' := [.int ((((Int32.ofInt 4)) * z6)), .int (((Int8.ofInt 10).toInt32)), .ref 165]) rfl ?_
    refine En_top (mulI (by decide : (Int32.ofInt 4).toInt = 4) rfl (Z := 4 * z6.toInt) (by omega) (by omega) (by omega)) (fun z116 h117 => ?_)
    refine En_Ps 1 (pc' := 26) (lv' := [(0, .ref 159)]) (st' := [.int (((((Int8.ofInt 10).toInt32)) + z116)), .ref 165]) rfl ?_
    refine En_top (addI (by decide : ((Int8.ofInt 10).toInt32).toInt = 10) rfl (by omega) (by omega)) (fun z118 h119 => ?_)
    refine En_Ps 2 (pc' := 28) (lv' := [(0, .ref 159)]) (st' := [.int ((z118 + ((Int32.ofInt 2)))), .ref 165]) rfl ?_
    refine En_top (addI rfl (by decide : (Int32.ofInt 2).toInt = 2) (by omega) (by omega)) (fun z120 h121 => ?_)
    refine En_iald (l := 0) (u := 12) rfl rfl (by decide +kernel : TG 165 = 41) (by decide +kernel) hσ0 (by omega) (lnI (by decide +kernel : LN _ = 226) (by omega)) (FTrow 41 12 4 4 (by decide +kernel) (by omega) (by omega) (by omega)) (fun z123 h122 h124 h125 => ?_)
    have h126 : Sp.2.2.2 (12 + 4 * tV By Nb Sp.2.2.1) = z123.toInt := ML_wi hM hg h122 (by omega) (by omega) (by omega)
    refine En_Ps 1 (pc' := 31) (lv' := [(0, .ref 159)]) (st' := [.int (((Int8.ofInt 12).toInt32)), .int z123]) rfl ?_
    refine En_icNe _ rfl (by decide : ((Int8.ofInt 12).toInt32).toInt = 12) rfl (fun h127 => ?_) (fun h127 => ?_)
    · have h128 : gLs1 By Nb Sp = Sp := by unfold gLs1; (repeat' split) <;> first | rfl | (exfalso; omega) | ((try have i0 := Imp_m h10 (by omega)); (try have i1 := Imp_m h11 (by omega)); exfalso; omega)
      refine En_Ps 3 (pc' := 42) (lv' := [(0, .ref 159)]) (st' := [.ref 159, .int ((Int32.ofInt 0)), .ref 159]) rfl ?_
      refine En_getK (j := 14) h19 rfl rfl rfl (by decide +kernel : TG 159 = 35) (by decide +kernel) ?_
      refine En_Ps 1 (pc' := 46) (lv' := [(0, .ref 159)]) (st' := [.int ((Int32.ofInt 2)), .ref 165, .int ((Int32.ofInt 0)), .ref 159]) rfl ?_
      refine En_ialdK h12 rfl (by decide : (Int32.ofInt 2).toInt = 2) (by decide +kernel : TG 165 = 41) (by decide +kernel) hσ0 (by omega) (lnI (by decide +kernel : LN _ = 226) (by omega)) ?_
      refine En_Ps 2 (pc' := 49) (lv' := [(0, .ref 159)]) (st' := [.int ((z13 - ((Int32.ofInt 1)))), .int ((Int32.ofInt 0)), .ref 159]) rfl ?_
      refine En_top (subI rfl (by decide : (Int32.ofInt 1).toInt = 1) (by omega) (by omega)) (fun z130 h131 => ?_)
      have := (by decide : ((Int32.ofInt 0)).toInt = 0)
      refine En_callV rfl rfl rfl rfl rfl rfl rfl rfl (by decide +kernel : TG 159 = 35) (by decide +kernel) rfl (c_288x σ0 hσ0 ((Int32.ofInt 0)) z130 (geI (by decide : (Int32.ofInt 0).toInt = 0) (by omega)) (leI (by decide : (Int32.ofInt 0).toInt = 0) (by omega)) (geI rfl (by omega)) (leI rfl (by omega)) f h_f k h_k z2 h1 z6 h5 hM) (by decide) (by decide) (fun v133 σ134 h132 => ?_)
      obtain ⟨h135, h136, z138, h139, z140, h141, z142, rfl, h137⟩ := h132
      have h143 := h137.2.2.2.2.2.2.2.2.2.2.2.2.2.2.2.2.2.2.2.2.2.2.2.2.2.2.2.2
      have h144 := Fr_trans hF0 h136 (by decide +kernel)
      have h145 := KF_fr (KF_0 (σ := σ0)) h136 (by decide +kernel)
      have h146 : tN By Nb ((Int32.ofInt 0)).toInt z130.toInt Sp = tN By Nb (0) (Sp.2.2.2 2 - 1) Sp := tN_cg2 (fun zz => by have j1 := Imp_m h10 zz; omega) (fun zz => by have j1 := Imp_m h10 zz; omega)
      obtain ⟨S147, h148⟩ : ∃ q : PS, q = tN By Nb (0) (Sp.2.2.2 2 - 1) Sp := ⟨_, rfl⟩
      have h149 : ML By Nb σ134 S147 := by rw [h148]; exact (ML_eq h143.1 h146)
      have h150 := ML_k h149 h141
      have h151 : Imp (S147.1 = 0) (z142.toInt = tV By Nb Sp.2.2.1) := fun z => h143.2 (by rw [h146, ← h148]; exact z)
      have h152 : Imp (S147.1 = 0) (Sp.1 = 0 ∧ tK By Nb Sp.2.2.1 = 2 ∧ 0 ≤ tV By Nb Sp.2.2.1 ∧ tV By Nb Sp.2.2.1 ≤ Sp.2.2.2 2 - 1) := fun z => tN_gg (by rw [← h148]; exact z)
      have h153 : S147.2.2.2 = Sp.2.2.2 := by rw [h148]; exact tN_w
      have h154 := Imp_m h137.2.2.2.2.2.2.2.2.2.2.2.2.2.2.2.2.2.2.2.2.2.2.2.1 (by omega)
      have h155 := Imp_m h137.2.2.2.2.2.2.2.2.2.2.2.2.2.2.2.2.2.2.2.2.2.2.2.2.1 (by omega)
      have h156 := Imp_m h137.2.2.2.2.2.2.2.2.2.2.2.2.2.2.2.2.2.2.2.2.2.2.2.2.2.1 (by omega)
      refine En_Ps 2 (pc' := 54) (lv' := [(1, .int z142), (0, .ref 159)]) (st' := [.ref 159]) rfl ?_
      refine En_callV rfl rfl rfl rfl rfl rfl rfl rfl (by decide +kernel : TG 159 = 35) (by decide +kernel) rfl (c_234x σ134 h135 z138 h139 z140 h141 h149) (by decide) (by decide) (fun v158 σ159 h157 => ?_)
      obtain ⟨h160, h161, z163, h164, z165, h166, z167, rfl, h162⟩ := h157
      have h168 := h162.2.2.2.2.2.2.2.2.2.2.2.2.2.2.2.2.2.2
      have h169 := Fr_trans h144 h161 (by decide +kernel)
      have h170 := KF_fr h145 h161 (by decide +kernel)
      have h171 : tN By Nb 0 (pI (S147.2.2.2 0) - 1) S147 = tN By Nb 0 (pI (Sp.2.2.2 0) - 1) S147 := tN_cg rfl (by first | rfl | simp only [h153] | rfl)
      obtain ⟨S172, h173⟩ : ∃ q : PS, q = tN By Nb 0 (pI (Sp.2.2.2 0) - 1) S147 := ⟨_, rfl⟩
      have h174 : ML By Nb σ159 S172 := by rw [h173]; exact (ML_eq h168.1 h171)
      have h175 := ML_k h174 h166
      have h176 : Imp (S172.1 = 0) (z167.toInt = tV By Nb S147.2.2.1) := fun z => h168.2 (by rw [h171, ← h173]; exact z)
      have h177 : Imp (S172.1 = 0) (S147.1 = 0 ∧ tK By Nb S147.2.2.1 = 2 ∧ 0 ≤ tV By Nb S147.2.2.1 ∧ tV By Nb S147.2.2.1 ≤ pI (Sp.2.2.2 0) - 1) := fun z => tN_gg (by rw [← h173]; exact z)
      have h178 : S172.2.2.2 = S147.2.2.2 := by rw [h173]; exact tN_w
      refine En_Ps 2 (pc' := 59) (lv' := [(2, .int z167), (1, .int z142), (0, .ref 159)]) (st' := [.ref 159]) rfl ?_
      refine En_callV rfl rfl rfl rfl rfl rfl rfl rfl (by decide +kernel : TG 159 = 35) (by decide +kernel) rfl (c_209x σ159 h160 z163 h164 z165 h166 h174) (by decide) (by decide) (fun v180 σ181 h179 => ?_)
      obtain ⟨h182, h183, z185, h186, z187, h188, z189, rfl, h184⟩ := h179
      have h190 := h184.2.2.2.2.2.2.2.2.2.2.2.2.2.2.2.2
      have h191 := Fr_trans h169 h183 (by decide +kernel)
      have h192 := KF_fr h170 h183 (by decide +kernel)
      obtain ⟨S193, h194⟩ : ∃ q : PS, q = gDeed By Nb S172 := ⟨_, rfl⟩
      have h195 : ML By Nb σ181 S193 := by rw [h194]; exact h190.1
      have h196 := ML_k h195 h188
      have h197 : z189.toInt = iW By Nb 8 S172 := h190.2
      have h198 : S193.2.2.2 = S172.2.2.2 := by rw [h194]; exact gDeed_w
      have h199 : Imp (S193.1 = 0) (S172.1 = 0) := fun z => gDeed_g (by rw [← h194]; exact z)
      refine En_Ps 2 (pc' := 64) (lv' := [(3, .int z189), (2, .int z167), (1, .int z142), (0, .ref 159)]) (st' := [.ref 159]) rfl ?_
      refine En_callV rfl rfl rfl rfl rfl rfl rfl rfl (by decide +kernel : TG 159 = 35) (by decide +kernel) rfl (c_237 σ181 h182 z187 h188) (by decide) (by decide) (fun v201 σ202 h200 => ?_)
      obtain ⟨h203, h204, z206, rfl, h205⟩ := h200
      obtain rfl : σ181 = σ202 := Fr_nil h204
      refine En_iNe _ rfl rfl (fun h207 => ?_) (fun h207 => ?_)
      · have h208 := Imp_m h205.2.2.1 (by omega)
        have h209 := Imp_m h137.2.2.2.2.2.2.2.2.2.2.2.2.2.2.2.2.2.2.2.2.2.2.2.2.2.2.2.1 (by omega)
        have h210 := Imp_m h162.2.2.2.2.2.2.2.2.2.2.2.2.2.2.2.2.2.1 (by omega)
        have h211 := Imp_m h184.2.2.2.2.2.2.2.2.2.2.2.2.2.2.2.1 (by omega)
        have h212 : S193.1 = 0 := by omega
        have h213 := Imp_m h199 h212
        have h214 := Imp_m h176 h213
        have h215 := Imp_m h177 h213
        have h216 := Imp_m h151 h215.1
        have h217 := Imp_m h152 h215.1
        have h218 := Imp_m h10 h217.1
        have h219 := Imp_m h11 ⟨h217.1, h217.2.1⟩
        refine En_Ps 2 (pc' := 73) (lv' := [(3, .int z189), (2, .int z167), (1, .int z142), (0, .ref 159)]) (st' := [.ref 159, .int z142]) rfl ?_
        refine En_getK (j := 14) ((h183 _ _ (inW (by decide +kernel : TG 159 = 35) (by decide +kernel))).trans ((h161 _ _ (inW (by decide +kernel : TG 159 = 35) (by decide +kernel))).trans ((h136 _ _ (inW (by decide +kernel : TG 159 = 35) (by decide +kernel))).trans h19))) rfl rfl rfl (by decide +kernel : TG 159 = 35) (by decide +kernel) ?_
        refine En_Ps 4 (pc' := 81) (lv' := [(3, .int z189), (2, .int z167), (1, .int z142), (0, .ref 159)]) (st' := [.int ((((Int32.ofInt 4)) * z142)), .int (((Int8.ofInt 10).toInt32)), .ref 165, .int z142]) rfl ?_
        refine En_top (mulI (by decide : (Int32.ofInt 4).toInt = 4) rfl (Z := 4 * z142.toInt) (by omega) (by omega) (by omega)) (fun z220 h221 => ?_)
        refine En_Ps 1 (pc' := 82) (lv' := [(3, .int z189), (2, .int z167), (1, .int z142), (0, .ref 159)]) (st' := [.int (((((Int8.ofInt 10).toInt32)) + z220)), .ref 165, .int z142]) rfl ?_
        refine En_top (addI (by decide : ((Int8.ofInt 10).toInt32).toInt = 10) rfl (by omega) (by omega)) (fun z222 h223 => ?_)
        refine En_Ps 2 (pc' := 84) (lv' := [(3, .int z189), (2, .int z167), (1, .int z142), (0, .ref 159)]) (st' := [.int ((z222 + ((Int32.ofInt 2)))), .ref 165, .int z142]) rfl ?_
        refine En_top (addI rfl (by decide : (Int32.ofInt 2).toInt = 2) (by omega) (by omega)) (fun z224 h225 => ?_)
        have h227 : (σ181 165)[(z224.toInt).toNat]? = some (.int z123) := by rw [show (z224.toInt) = (z120.toInt) by omega]; exact ((h183 _ _ (inWa (by decide +kernel : TG 165 = 41) (by decide +kernel))).trans ((h161 _ _ (inWa (by decide +kernel : TG 165 = 41) (by decide +kernel))).trans ((h136 _ _ (inWa (by decide +kernel : TG 165 = 41) (by decide +kernel))).trans h122)))
        refine En_ialdK h227 rfl rfl (by decide +kernel : TG 165 = 41) (by decide +kernel) h182 (by omega) (lnI (by decide +kernel : LN _ = 226) (by omega)) ?_
        have h228 : S193.2.2.2 (12 + 4 * (tV By Nb Sp.2.2.1)) = z123.toInt := ML_wi h195 (by omega) ((h183 _ _ (inWa (by decide +kernel : TG 165 = 41) (by decide +kernel))).trans ((h161 _ _ (inWa (by decide +kernel : TG 165 = 41) (by decide +kernel))).trans ((h136 _ _ (inWa (by decide +kernel : TG 165 = 41) (by decide +kernel))).trans h122))) (by omega) (by omega) (by omega)
        rw [h198, h178, h153] at h228
        refine En_callS rfl rfl rfl rfl rfl rfl rfl rfl rfl (c_281 σ181 h182 z142 z123 (geI rfl (by omega)) (leI rfl (by omega)) (geI rfl (by omega)) (leI rfl (by omega))) (by decide) (by decide) (fun v231 σ232 h230 => ?_)
        obtain ⟨h233, h234, z236, rfl, h235⟩ := h230
        obtain rfl : σ181 = σ232 := Fr_nil h234
        refine En_Ps 2 (pc' := 91) (lv' := [(4, .int z236), (3, .int z189), (2, .int z167), (1, .int z142), (0, .ref 159)]) (st' := [.ref 159]) rfl ?_
        refine En_getK (j := 14) ((h183 _ _ (inW (by decide +kernel : TG 159 = 35) (by decide +kernel))).trans ((h161 _ _ (inW (by decide +kernel : TG 159 = 35) (by decide +kernel))).trans ((h136 _ _ (inW (by decide +kernel : TG 159 = 35) (by decide +kernel))).trans h19))) rfl rfl rfl (by decide +kernel : TG 159 = 35) (by decide +kernel) ?_
        refine En_Ps 2 (pc' := 97) (lv' := [(4, .int z236), (3, .int z189), (2, .int z167), (1, .int z142), (0, .ref 159)]) (st' := [.int z167, .int z236, .ref 165]) rfl ?_
        refine En_iast (l := 0) (u := 15) rfl rfl (by decide +kernel : TG 165 = 41) (by decide +kernel) (by omega) (lnI (by decide +kernel : LN _ = 226) (by omega)) (FTrow 41 26 2 48 (by decide +kernel) (by omega) (by omega) (by omega)) (rngI rfl (by omega) (by omega)) h182 h191 (by decide +kernel) (fun σ237 h238 h239 h240 h241 => ?_)
        have h242 := KF_st h192 (J := z236.toInt) h241 (by omega) (by omega)
        obtain ⟨S243, h244⟩ : ∃ q : PS, q = wst S193 (26 + 24 * (tV By Nb Sp.2.2.1) + 2 * Sp.2.2.2 (12 + 4 * (tV By Nb Sp.2.2.1))) ((tV By Nb S147.2.2.1)) := ⟨_, rfl⟩
        have h245 : ML By Nb σ237 S243 := by rw [h244]; exact (ML_wst (i := 26 + 24 * (tV By Nb Sp.2.2.1) + 2 * Sp.2.2.2 (12 + 4 * (tV By Nb Sp.2.2.1))) (v := (tV By Nb S147.2.2.1)) h195 h240 h241 (by omega) (fun z => by have j1 := Imp_m h199 z; have j2 := Imp_m h176 j1; have j3 := Imp_m h177 j1; have j4 := Imp_m h151 j3.1; have j5 := Imp_m h152 j3.1; have j6 := Imp_m h10 j5.1; have j7 := Imp_m h11 ⟨j5.1, j5.2.1⟩; exact ⟨by omega, by omega⟩))
        have h246 := ML_k h245 ((h241 _ _ (Or.inl (neTG (by decide +kernel : TG 159 = 35) (by decide +kernel : TG 165 = 41) (by decide)))).trans h188)
        have h247 : S243.1 = S193.1 := by rw [h244]; rfl
        refine En_Ps 1 (pc' := 99) (lv' := [(4, .int z236), (3, .int z189), (2, .int z167), (1, .int z142), (0, .ref 159)]) (st' := [.ref 159]) rfl ?_
        refine En_getK (j := 14) ((h241 _ _ (Or.inl (neTG (by decide +kernel : TG 159 = 35) (by decide +kernel : TG 165 = 41) (by decide)))).trans ((h183 _ _ (inW (by decide +kernel : TG 159 = 35) (by decide +kernel))).trans ((h161 _ _ (inW (by decide +kernel : TG 159 = 35) (by decide +kernel))).trans ((h136 _ _ (inW (by decide +kernel : TG 159 = 35) (by decide +kernel))).trans h19)))) rfl rfl rfl (by decide +kernel : TG 159 = 35) (by decide +kernel) ?_
        refine En_Ps 3 (pc' := 106) (lv' := [(4, .int z236), (3, .int z189), (2, .int z167), (1, .int z142), (0, .ref 159)]) (st' := [.int ((z236 + ((Int32.ofInt 1)))), .ref 165]) rfl ?_
        refine En_top (addI rfl (by decide : (Int32.ofInt 1).toInt = 1) (by omega) (by omega)) (fun z248 h249 => ?_)
        refine En_Ps 1 (pc' := 107) (lv' := [(4, .int z236), (3, .int z189), (2, .int z167), (1, .int z142), (0, .ref 159)]) (st' := [.int z189, .int z248, .ref 165]) rfl ?_
        refine En_iast (l := 0) (u := 1) rfl rfl (by decide +kernel : TG 165 = 41) (by decide +kernel) (by omega) (lnI (by decide +kernel : LN _ = 226) (by omega)) (FTrow 41 27 2 48 (by decide +kernel) (by omega) (by omega) (by omega)) (rngI rfl (by omega) (by omega)) h238 h239 (by decide +kernel) (fun σ250 h251 h252 h253 h254 => ?_)
        have h255 := KF_st h242 (J := z248.toInt) h254 (by omega) (by omega)
        obtain ⟨S256, h257⟩ : ∃ q : PS, q = wst S243 (26 + 24 * (tV By Nb Sp.2.2.1) + 2 * Sp.2.2.2 (12 + 4 * (tV By Nb Sp.2.2.1)) + 1) ((iW By Nb 8 S172)) := ⟨_, rfl⟩
        have h258 : ML By Nb σ250 S256 := by rw [h257]; exact (ML_wst (i := 26 + 24 * (tV By Nb Sp.2.2.1) + 2 * Sp.2.2.2 (12 + 4 * (tV By Nb Sp.2.2.1)) + 1) (v := (iW By Nb 8 S172)) h245 h253 h254 (by omega) (fun z => by have j1 := h247.symm.trans z; have j2 := Imp_m h199 j1; have j3 := Imp_m h176 j2; have j4 := Imp_m h177 j2; have j5 := Imp_m h151 j4.1; have j6 := Imp_m h152 j4.1; have j7 := Imp_m h10 j6.1; have j8 := Imp_m h11 ⟨j6.1, j6.2.1⟩; exact ⟨by omega, by omega⟩))
        have h259 := ML_k h258 ((h254 _ _ (Or.inl (neTG (by decide +kernel : TG 159 = 35) (by decide +kernel : TG 165 = 41) (by decide)))).trans ((h241 _ _ (Or.inl (neTG (by decide +kernel : TG 159 = 35) (by decide +kernel : TG 165 = 41) (by decide)))).trans h188))
        have h260 : S256.1 = S243.1 := by rw [h257]; rfl
        refine En_Ps 1 (pc' := 109) (lv' := [(4, .int z236), (3, .int z189), (2, .int z167), (1, .int z142), (0, .ref 159)]) (st' := [.ref 159]) rfl ?_
        refine En_getK (j := 14) ((h254 _ _ (Or.inl (neTG (by decide +kernel : TG 159 = 35) (by decide +kernel : TG 165 = 41) (by decide)))).trans ((h241 _ _ (Or.inl (neTG (by decide +kernel : TG 159 = 35) (by decide +kernel : TG 165 = 41) (by decide)))).trans ((h183 _ _ (inW (by decide +kernel : TG 159 = 35) (by decide +kernel))).trans ((h161 _ _ (inW (by decide +kernel : TG 159 = 35) (by decide +kernel))).trans ((h136 _ _ (inW (by decide +kernel : TG 159 = 35) (by decide +kernel))).trans h19))))) rfl rfl rfl (by decide +kernel : TG 159 = 35) (by decide +kernel) ?_
        refine En_Ps 4 (pc' := 117) (lv' := [(4, .int z236), (3, .int z189), (2, .int z167), (1, .int z142), (0, .ref 159)]) (st' := [.int ((((Int32.ofInt 4)) * z142)), .int (((Int8.ofInt 10).toInt32)), .ref 165]) rfl ?_
        refine En_top (mulI (by decide : (Int32.ofInt 4).toInt = 4) rfl (Z := 4 * z142.toInt) (by omega) (by omega) (by omega)) (fun z261 h262 => ?_)
        refine En_Ps 1 (pc' := 118) (lv' := [(4, .int z236), (3, .int z189), (2, .int z167), (1, .int z142), (0, .ref 159)]) (st' := [.int (((((Int8.ofInt 10).toInt32)) + z261)), .ref 165]) rfl ?_
        refine En_top (addI (by decide : ((Int8.ofInt 10).toInt32).toInt = 10) rfl (by omega) (by omega)) (fun z263 h264 => ?_)
        refine En_Ps 2 (pc' := 120) (lv' := [(4, .int z236), (3, .int z189), (2, .int z167), (1, .int z142), (0, .ref 159)]) (st' := [.int ((z263 + ((Int32.ofInt 2)))), .ref 165]) rfl ?_
        refine En_top (addI rfl (by decide : (Int32.ofInt 2).toInt = 2) (by omega) (by omega)) (fun z265 h266 => ?_)
        refine En_Ps 1 (pc' := 121) (lv' := [(4, .int z236), (3, .int z189), (2, .int z167), (1, .int z142), (0, .ref 159)]) (st' := [.int z265, .ref 165, .int z265, .ref 165]) rfl ?_
        have h268 : (σ250 165)[(z265.toInt).toNat]? = some (.int z123) := by rw [show (z265.toInt) = (z120.toInt) by omega]; exact ((h254 _ _ (Or.inr (by omega))).trans ((h241 _ _ (Or.inr (by omega))).trans ((h183 _ _ (inWa (by decide +kernel : TG 165 = 41) (by decide +kernel))).trans ((h161 _ _ (inWa (by decide +kernel : TG 165 = 41) (by decide +kernel))).trans ((h136 _ _ (inWa (by decide +kernel : TG 165 = 41) (by decide +kernel))).trans h122)))))
        refine En_ialdK h268 rfl rfl (by decide +kernel : TG 165 = 41) (by decide +kernel) h251 (by omega) (lnI (by decide +kernel : LN _ = 226) (by omega)) ?_
        refine En_Ps 2 (pc' := 124) (lv' := [(4, .int z236), (3, .int z189), (2, .int z167), (1, .int z142), (0, .ref 159)]) (st' := [.int ((z123 + ((Int32.ofInt 1)))), .int z265, .ref 165]) rfl ?_
        refine En_top (addI rfl (by decide : (Int32.ofInt 1).toInt = 1) (by omega) (by omega)) (fun z269 h270 => ?_)
        refine En_iast (l := 0) (u := 12) rfl rfl (by decide +kernel : TG 165 = 41) (by decide +kernel) (by omega) (lnI (by decide +kernel : LN _ = 226) (by omega)) (FTrow 41 12 4 4 (by decide +kernel) (by omega) (by omega) (by omega)) (rngI rfl (by omega) (by omega)) h251 h252 (by decide +kernel) (fun σ271 h272 h273 h274 h275 => ?_)
        have h276 := KF_st h255 (J := z265.toInt) h275 (by omega) (by omega)
        obtain ⟨S277, h278⟩ : ∃ q : PS, q = wst S256 (12 + 4 * (tV By Nb Sp.2.2.1)) (Sp.2.2.2 (12 + 4 * (tV By Nb Sp.2.2.1)) + 1) := ⟨_, rfl⟩
        have h279 : ML By Nb σ271 S277 := by rw [h278]; exact (ML_wst (i := 12 + 4 * (tV By Nb Sp.2.2.1)) (v := Sp.2.2.2 (12 + 4 * (tV By Nb Sp.2.2.1)) + 1) h258 h274 h275 (by omega) (fun z => by have j1 := h260.symm.trans z; have j2 := h247.symm.trans j1; have j3 := Imp_m h199 j2; have j4 := Imp_m h176 j3; have j5 := Imp_m h177 j3; have j6 := Imp_m h151 j5.1; have j7 := Imp_m h152 j5.1; have j8 := Imp_m h10 j7.1; have j9 := Imp_m h11 ⟨j7.1, j7.2.1⟩; exact ⟨by omega, by omega⟩))
        have h280 := ML_k h279 ((h275 _ _ (Or.inl (neTG (by decide +kernel : TG 159 = 35) (by decide +kernel : TG 165 = 41) (by decide)))).trans ((h254 _ _ (Or.inl (neTG (by decide +kernel : TG 159 = 35) (by decide +kernel : TG 165 = 41) (by decide)))).trans ((h241 _ _ (Or.inl (neTG (by decide +kernel : TG 159 = 35) (by decide +kernel : TG 165 = 41) (by decide)))).trans h188)))
        have h281 : S277.1 = S256.1 := by rw [h278]; rfl
        exact En_ret (v := none) rfl rfl rfl ⟨h272, h273, z185, ((h275 _ _ (Or.inl (neTG (by decide +kernel : TG 159 = 35) (by decide +kernel : TG 165 = 41) (by decide)))).trans ((h254 _ _ (Or.inl (neTG (by decide +kernel : TG 159 = 35) (by decide +kernel : TG 165 = 41) (by decide)))).trans ((h241 _ _ (Or.inl (neTG (by decide +kernel : TG 159 = 35) (by decide +kernel : TG 165 = 41) (by decide)))).trans h186))), z187, ((h275 _ _ (Or.inl (neTG (by decide +kernel : TG 159 = 35) (by decide +kernel : TG 165 = 41) (by decide)))).trans ((h254 _ _ (Or.inl (neTG (by decide +kernel : TG 159 = 35) (by decide +kernel : TG 165 = 41) (by decide)))).trans ((h241 _ _ (Or.inl (neTG (by decide +kernel : TG 159 = 35) (by decide +kernel : TG 165 = 41) (by decide)))).trans h188))), rfl, ⟨by omega, by omega, by omega, by omega, by omega, by omega, by omega, by omega, by omega, by omega, by omega, by omega, by omega, fun _ => by omega, ⟨h276, ML_eq h279 (by unfold gLesson; dsimp only; rw [h128, ← h148, ← h173, ← h194, ← h244, ← h257, ← h278]; first | done | rfl | (rw [if_pos (by omega)]; first | done | rfl) | (rw [if_neg (by omega)]; first | done | rfl))⟩⟩⟩
      · have h282 := Imp_m h205.2.2.2 (by omega)
        exact En_ret (v := none) rfl rfl rfl ⟨h182, h191, z185, h186, z187, h188, rfl, ⟨by omega, by omega, by omega, by omega, by omega, by omega, by omega, by omega, by omega, by omega, by omega, by omega, by omega, fun _ => by omega, ⟨h192, ML_eq h195 (by unfold gLesson; dsimp only; rw [h128, ← h148, ← h173, ← h194]; first | done | rfl | (rw [if_pos (by omega)]; first | done | rfl) | (rw [if_neg (by omega)]; first | done | rfl))⟩⟩⟩
    · refine En_Ps 2 (pc' := 36) (lv' := [(0, .ref 159)]) (st' := [.int ((Int32.ofInt 3)), .ref 159]) rfl ?_
      have := (by decide : ((Int32.ofInt 3)).toInt = 3)
      refine En_callV rfl rfl rfl rfl rfl rfl rfl rfl (by decide +kernel : TG 159 = 35) (by decide +kernel) rfl (c_223x σ0 hσ0 ((Int32.ofInt 3)) (geI (by decide : (Int32.ofInt 3).toInt = 3) (by omega)) (leI (by decide : (Int32.ofInt 3).toInt = 3) (by omega)) k h_k hM) (by decide) (by decide) (fun v284 σ285 h283 => ?_)
      obtain ⟨h286, h287, z289, h290, rfl, h288⟩ := h283
      have h291 := h288.2.2.2.2.2
      have h292 := Fr_trans hF0 h287 (by decide +kernel)
      have h293 := KF_fr (KF_0 (σ := σ0)) h287 (by decide +kernel)
      obtain ⟨S294, h295⟩ : ∃ q : PS, q = err By Nb 3 Sp := ⟨_, rfl⟩
      have h296 : ML By Nb σ285 S294 := by rw [h295]; exact (ML_eq h291 (err_cg (by omega)))
      have h297 := ML_k h296 h290
      have h298 : Imp (S294.1 = 0) (tK By Nb S294.2.2.1 = z2.toInt) := ML_t h296 ((h287 _ _ (inW (by decide +kernel : TG 159 = 35) (by decide +kernel))).trans h1)
      have h299 : Imp (S294.1 = 0 ∧ tK By Nb S294.2.2.1 = 2) (z6.toInt = min 99999 (tV By Nb S294.2.2.1) ∧ 0 ≤ tV By Nb S294.2.2.1) := fun q => ML_u h296 ((h287 _ _ (inW (by decide +kernel : TG 159 = 35) (by decide +kernel))).trans h5) q.1 q.2
      have h300 : S294.2.2.2 = Sp.2.2.2 := by rw [h295]; exact err_w
      have h301 : gLs1 By Nb Sp = S294 := by rw [h295]; unfold gLs1; (repeat' split) <;> first | rfl | (exfalso; omega) | ((try have i0 := Imp_m h298 (by omega)); (try have i1 := Imp_m h10 (by omega)); (try have i2 := Imp_m h11 (by omega)); (try have i3 := Imp_m h299 (by omega)); exfalso; omega)
      refine En_Ps 3 (pc' := 42) (lv' := [(0, .ref 159)]) (st' := [.ref 159, .int ((Int32.ofInt 0)), .ref 159]) rfl ?_
      refine En_getK (j := 14) ((h287 _ _ (inW (by decide +kernel : TG 159 = 35) (by decide +kernel))).trans h19) rfl rfl rfl (by decide +kernel : TG 159 = 35) (by decide +kernel) ?_
      refine En_Ps 1 (pc' := 46) (lv' := [(0, .ref 159)]) (st' := [.int ((Int32.ofInt 2)), .ref 165, .int ((Int32.ofInt 0)), .ref 159]) rfl ?_
      refine En_ialdK ((h287 _ _ (inWa (by decide +kernel : TG 165 = 41) (by decide +kernel))).trans h12) rfl (by decide : (Int32.ofInt 2).toInt = 2) (by decide +kernel : TG 165 = 41) (by decide +kernel) h286 (by omega) (lnI (by decide +kernel : LN _ = 226) (by omega)) ?_
      refine En_Ps 2 (pc' := 49) (lv' := [(0, .ref 159)]) (st' := [.int ((z13 - ((Int32.ofInt 1)))), .int ((Int32.ofInt 0)), .ref 159]) rfl ?_
      refine En_top (subI rfl (by decide : (Int32.ofInt 1).toInt = 1) (by omega) (by omega)) (fun z303 h304 => ?_)
      have := (by decide : ((Int32.ofInt 0)).toInt = 0)
      refine En_callV rfl rfl rfl rfl rfl rfl rfl rfl (by decide +kernel : TG 159 = 35) (by decide +kernel) rfl (c_288x σ285 h286 ((Int32.ofInt 0)) z303 (geI (by decide : (Int32.ofInt 0).toInt = 0) (by omega)) (leI (by decide : (Int32.ofInt 0).toInt = 0) (by omega)) (geI rfl (by omega)) (leI rfl (by omega)) f ((h287 _ _ (inW (by decide +kernel : TG 159 = 35) (by decide +kernel))).trans h_f) z289 h290 z2 ((h287 _ _ (inW (by decide +kernel : TG 159 = 35) (by decide +kernel))).trans h1) z6 ((h287 _ _ (inW (by decide +kernel : TG 159 = 35) (by decide +kernel))).trans h5) h296) (by decide) (by decide) (fun v306 σ307 h305 => ?_)
      obtain ⟨h308, h309, z311, h312, z313, h314, z315, rfl, h310⟩ := h305
      have h316 := h310.2.2.2.2.2.2.2.2.2.2.2.2.2.2.2.2.2.2.2.2.2.2.2.2.2.2.2.2
      have h317 := Fr_trans h292 h309 (by decide +kernel)
      have h318 := KF_fr h293 h309 (by decide +kernel)
      have h319 : tN By Nb ((Int32.ofInt 0)).toInt z303.toInt S294 = tN By Nb (0) (Sp.2.2.2 2 - 1) S294 := tN_cg2 (fun zz => by have j1 := Imp_m h298 zz; omega) (fun zz => by have j1 := Imp_m h298 zz; omega)
      obtain ⟨S320, h321⟩ : ∃ q : PS, q = tN By Nb (0) (Sp.2.2.2 2 - 1) S294 := ⟨_, rfl⟩
      have h322 : ML By Nb σ307 S320 := by rw [h321]; exact (ML_eq h316.1 h319)
      have h323 := ML_k h322 h314
      have h324 : Imp (S320.1 = 0) (z315.toInt = tV By Nb S294.2.2.1) := fun z => h316.2 (by rw [h319, ← h321]; exact z)
      have h325 : Imp (S320.1 = 0) (S294.1 = 0 ∧ tK By Nb S294.2.2.1 = 2 ∧ 0 ≤ tV By Nb S294.2.2.1 ∧ tV By Nb S294.2.2.1 ≤ Sp.2.2.2 2 - 1) := fun z => tN_gg (by rw [← h321]; exact z)
      have h326 : S320.2.2.2 = S294.2.2.2 := by rw [h321]; exact tN_w
      have h327 := Imp_m h310.2.2.2.2.2.2.2.2.2.2.2.2.2.2.2.2.2.2.2.2.2.2.2.1 (by omega)
      have h328 := Imp_m h310.2.2.2.2.2.2.2.2.2.2.2.2.2.2.2.2.2.2.2.2.2.2.2.2.1 (by omega)
      have h329 := Imp_m h310.2.2.2.2.2.2.2.2.2.2.2.2.2.2.2.2.2.2.2.2.2.2.2.2.2.1 (by omega)
      refine En_Ps 2 (pc' := 54) (lv' := [(1, .int z315), (0, .ref 159)]) (st' := [.ref 159]) rfl ?_
      refine En_callV rfl rfl rfl rfl rfl rfl rfl rfl (by decide +kernel : TG 159 = 35) (by decide +kernel) rfl (c_234x σ307 h308 z311 h312 z313 h314 h322) (by decide) (by decide) (fun v331 σ332 h330 => ?_)
      obtain ⟨h333, h334, z336, h337, z338, h339, z340, rfl, h335⟩ := h330
      have h341 := h335.2.2.2.2.2.2.2.2.2.2.2.2.2.2.2.2.2.2
      have h342 := Fr_trans h317 h334 (by decide +kernel)
      have h343 := KF_fr h318 h334 (by decide +kernel)
      have h344 : tN By Nb 0 (pI (S320.2.2.2 0) - 1) S320 = tN By Nb 0 (pI (Sp.2.2.2 0) - 1) S320 := tN_cg rfl (by first | rfl | simp only [h300, h326] | rfl)
      obtain ⟨S345, h346⟩ : ∃ q : PS, q = tN By Nb 0 (pI (Sp.2.2.2 0) - 1) S320 := ⟨_, rfl⟩
      have h347 : ML By Nb σ332 S345 := by rw [h346]; exact (ML_eq h341.1 h344)
      have h348 := ML_k h347 h339
      have h349 : Imp (S345.1 = 0) (z340.toInt = tV By Nb S320.2.2.1) := fun z => h341.2 (by rw [h344, ← h346]; exact z)
      have h350 : Imp (S345.1 = 0) (S320.1 = 0 ∧ tK By Nb S320.2.2.1 = 2 ∧ 0 ≤ tV By Nb S320.2.2.1 ∧ tV By Nb S320.2.2.1 ≤ pI (Sp.2.2.2 0) - 1) := fun z => tN_gg (by rw [← h346]; exact z)
      have h351 : S345.2.2.2 = S320.2.2.2 := by rw [h346]; exact tN_w
      refine En_Ps 2 (pc' := 59) (lv' := [(2, .int z340), (1, .int z315), (0, .ref 159)]) (st' := [.ref 159]) rfl ?_
      refine En_callV rfl rfl rfl rfl rfl rfl rfl rfl (by decide +kernel : TG 159 = 35) (by decide +kernel) rfl (c_209x σ332 h333 z336 h337 z338 h339 h347) (by decide) (by decide) (fun v353 σ354 h352 => ?_)
      obtain ⟨h355, h356, z358, h359, z360, h361, z362, rfl, h357⟩ := h352
      have h363 := h357.2.2.2.2.2.2.2.2.2.2.2.2.2.2.2.2
      have h364 := Fr_trans h342 h356 (by decide +kernel)
      have h365 := KF_fr h343 h356 (by decide +kernel)
      obtain ⟨S366, h367⟩ : ∃ q : PS, q = gDeed By Nb S345 := ⟨_, rfl⟩
      have h368 : ML By Nb σ354 S366 := by rw [h367]; exact h363.1
      have h369 := ML_k h368 h361
      have h370 : z362.toInt = iW By Nb 8 S345 := h363.2
      have h371 : S366.2.2.2 = S345.2.2.2 := by rw [h367]; exact gDeed_w
      have h372 : Imp (S366.1 = 0) (S345.1 = 0) := fun z => gDeed_g (by rw [← h367]; exact z)
      refine En_Ps 2 (pc' := 64) (lv' := [(3, .int z362), (2, .int z340), (1, .int z315), (0, .ref 159)]) (st' := [.ref 159]) rfl ?_
      refine En_callV rfl rfl rfl rfl rfl rfl rfl rfl (by decide +kernel : TG 159 = 35) (by decide +kernel) rfl (c_237 σ354 h355 z360 h361) (by decide) (by decide) (fun v374 σ375 h373 => ?_)
      obtain ⟨h376, h377, z379, rfl, h378⟩ := h373
      obtain rfl : σ354 = σ375 := Fr_nil h377
      refine En_iNe _ rfl rfl (fun hx => by exfalso; omega) (fun h380 => ?_)
      have h381 := Imp_m h378.2.2.2 (by omega)
      exact En_ret (v := none) rfl rfl rfl ⟨h355, h364, z358, h359, z360, h361, rfl, ⟨by omega, by omega, by omega, by omega, by omega, by omega, by omega, by omega, by omega, by omega, by omega, by omega, by omega, fun _ => by omega, ⟨h365, ML_eq h368 (by unfold gLesson; dsimp only; rw [h301, ← h321, ← h346, ← h367]; first | done | rfl | (rw [if_pos (by omega)]; first | done | rfl) | (rw [if_neg (by omega)]; first | done | rfl))⟩⟩⟩
/-- DoorSchoolModel.readTwin()V -/
abbrev P_304x (σ0 : SG) (By : Int → Int) (Nb : Int) (Sp : PS) (f : Int32) (k : Int32) : PO := fun v σ => WT σ ∧ Fr [(35, 8), (35, 9), (35, 10), (35, 11), (35, 12), (35, 13), (41, 0)] σ0 σ ∧ ∃ f1 : Int32, (σ 159)[8]? = some (.int f1) ∧ ∃ k1 : Int32, (σ 159)[12]? = some (.int k1) ∧ v = none ∧ -f1.toInt ≤ 0 ∧ f1.toInt - 1600 ≤ 0 ∧ -f1.toInt + f.toInt ≤ 0 ∧ f1.toInt - f.toInt - 1600 ≤ 0 ∧ -f1.toInt + k.toInt - 3 ≤ 0 ∧ f1.toInt - k.toInt - 1600 ≤ 0 ∧ -k1.toInt ≤ 0 ∧ k1.toInt - 3 ≤ 0 ∧ -k1.toInt + f.toInt - 1600 ≤ 0 ∧ k1.toInt - f.toInt - 3 ≤ 0 ∧ -k1.toInt + k.toInt ≤ 0 ∧ k1.toInt - k.toInt - 3 ≤ 0 ∧ f.toInt - f1.toInt ≤ 0 ∧ Imp (k1.toInt ≤ 0) (k.toInt ≤ 0) ∧ (KF σ0 σ ∧ ML By Nb σ (gTwin By Nb Sp))
set_option maxRecDepth 10000 in
set_option maxHeartbeats 4000000 in
theorem c_304x {By : Int → Int} {Nb : Int} {Sp : PS} (σ0 : SG) (hσ0 : WT σ0) (f : Int32) (h_f : (σ0 159)[8]? = some (.int f)) (k : Int32) (h_k : (σ0 159)[12]? = some (.int k)) (hM : ML By Nb σ0 Sp) (hg : Sp.1 = 0) : En 3 69 none mr_304 (P_304x σ0 By Nb Sp f k) 0 [(0, .ref 159)] [] σ0 := by
  obtain ⟨hl_f, hu_f⟩ := WT_int hσ0 (g := 35) (by decide +kernel) (by decide +kernel) (l := 0) (u := 1600) (by decide +kernel) h_f
  obtain ⟨hl_k, hu_k⟩ := WT_int hσ0 (g := 35) (by decide +kernel) (by decide +kernel) (l := 0) (u := 3) (by decide +kernel) h_k
  have hF0 : Fr [(35, 8), (35, 9), (35, 10), (35, 11), (35, 12), (35, 13), (41, 0)] σ0 σ0 := Fr_rfl
  obtain ⟨z2, h1, h3, h4⟩ := WT_peekI hσ0 (by decide +kernel : TG 159 = 35) (by decide +kernel : FT 35 10 = (0, 0, 4)) (by decide +kernel)
  obtain ⟨z6, h5, h7, h8⟩ := WT_peekI hσ0 (by decide +kernel : TG 159 = 35) (by decide +kernel : FT 35 11 = (0, 0, 99999)) (by decide +kernel)
  have h9 := ML_k hM h_k
  have h10 : Imp (Sp.1 = 0) (tK By Nb Sp.2.2.1 = z2.toInt) := ML_t hM h1
  have h11 : Imp (Sp.1 = 0 ∧ tK By Nb Sp.2.2.1 = 2) (z6.toInt = min 99999 (tV By Nb Sp.2.2.1) ∧ 0 ≤ tV By Nb Sp.2.2.1) := fun q => ML_u hM h5 q.1 q.2
  obtain ⟨z13, h12, h14, h15⟩ := WT_peekI hσ0 (by decide +kernel : TG 165 = 41) (by decide +kernel : FT 41 (2 : Int).toNat = (0, 0, 4)) (by decide +kernel)
  have h16 := ML_w hM hg h12 (by omega) (by omega)
  try have h17 := Imp_m h10 (by omega)
  try have h18 := Imp_m h11 (by omega)
  refine En_Ps 2 (pc' := 2) (lv' := [(0, .ref 159)]) (st' := [.ref 159, .ref 159]) rfl ?_
  refine En_getU (j := 14) (u := 165) (g' := 41) (q := 0) rfl rfl rfl (by decide +kernel : TG 159 = 35) (by decide +kernel) hσ0 (by decide +kernel) (by decide +kernel) (fun h19 => ?_)
  refine En_Ps 1 (pc' := 6) (lv' := [(0, .ref 159)]) (st' := [.int ((Int32.ofInt 2)), .ref 165, .ref 159]) rfl ?_
  refine En_ialdK h12 rfl (by decide : (Int32.ofInt 2).toInt = 2) (by decide +kernel : TG 165 = 41) (by decide +kernel) hσ0 (by omega) (lnI (by decide +kernel : LN _ = 226) (by omega)) ?_
  refine En_callV rfl rfl rfl rfl rfl rfl rfl rfl (by decide +kernel : TG 159 = 35) (by decide +kernel) rfl (c_260x σ0 hσ0 z13 k h_k z2 h1 z6 h5) (by decide) (by decide) (fun v23 σ24 h22 => ?_)
  obtain ⟨h25, h26, z28, rfl, h27⟩ := h22
  obtain rfl : σ0 = σ24 := Fr_nil h26
  refine En_iEq _ rfl rfl (fun h29 => ?_) (fun h29 => ?_)
  · have h30 : gTw1 By Nb Sp = Sp := by unfold gTw1; (repeat' split) <;> first | rfl | (exfalso; omega) | ((try have i0 := Imp_m h10 (by omega)); (try have i1 := Imp_m h11 (by omega)); exfalso; omega)
    refine En_Ps 3 (pc' := 43) (lv' := [(0, .ref 159)]) (st' := [.ref 159, .int ((Int32.ofInt 0)), .ref 159]) rfl ?_
    refine En_getK (j := 14) h19 rfl rfl rfl (by decide +kernel : TG 159 = 35) (by decide +kernel) ?_
    refine En_Ps 1 (pc' := 47) (lv' := [(0, .ref 159)]) (st' := [.int ((Int32.ofInt 2)), .ref 165, .int ((Int32.ofInt 0)), .ref 159]) rfl ?_
    refine En_ialdK h12 rfl (by decide : (Int32.ofInt 2).toInt = 2) (by decide +kernel : TG 165 = 41) (by decide +kernel) hσ0 (by omega) (lnI (by decide +kernel : LN _ = 226) (by omega)) ?_
    refine En_Ps 2 (pc' := 50) (lv' := [(0, .ref 159)]) (st' := [.int ((z13 - ((Int32.ofInt 1)))), .int ((Int32.ofInt 0)), .ref 159]) rfl ?_
    refine En_top (subI rfl (by decide : (Int32.ofInt 1).toInt = 1) (by omega) (by omega)) (fun z32 h33 => ?_)
    have := (by decide : ((Int32.ofInt 0)).toInt = 0)
    refine En_callV rfl rfl rfl rfl rfl rfl rfl rfl (by decide +kernel : TG 159 = 35) (by decide +kernel) rfl (c_288x σ0 hσ0 ((Int32.ofInt 0)) z32 (geI (by decide : (Int32.ofInt 0).toInt = 0) (by omega)) (leI (by decide : (Int32.ofInt 0).toInt = 0) (by omega)) (geI rfl (by omega)) (leI rfl (by omega)) f h_f k h_k z2 h1 z6 h5 hM) (by decide) (by decide) (fun v35 σ36 h34 => ?_)
    obtain ⟨h37, h38, z40, h41, z42, h43, z44, rfl, h39⟩ := h34
    have h45 := h39.2.2.2.2.2.2.2.2.2.2.2.2.2.2.2.2.2.2.2.2.2.2.2.2.2.2.2.2
    have h46 := Fr_trans hF0 h38 (by decide +kernel)
    have h47 := KF_fr (KF_0 (σ := σ0)) h38 (by decide +kernel)
    have h48 : tN By Nb ((Int32.ofInt 0)).toInt z32.toInt Sp = tN By Nb (0) (Sp.2.2.2 2 - 1) Sp := tN_cg2 (fun zz => by have j1 := Imp_m h10 zz; omega) (fun zz => by have j1 := Imp_m h10 zz; omega)
    obtain ⟨S49, h50⟩ : ∃ q : PS, q = tN By Nb (0) (Sp.2.2.2 2 - 1) Sp := ⟨_, rfl⟩
    have h51 : ML By Nb σ36 S49 := by rw [h50]; exact (ML_eq h45.1 h48)
    have h52 := ML_k h51 h43
    have h53 : Imp (S49.1 = 0) (z44.toInt = tV By Nb Sp.2.2.1) := fun z => h45.2 (by rw [h48, ← h50]; exact z)
    have h54 : Imp (S49.1 = 0) (Sp.1 = 0 ∧ tK By Nb Sp.2.2.1 = 2 ∧ 0 ≤ tV By Nb Sp.2.2.1 ∧ tV By Nb Sp.2.2.1 ≤ Sp.2.2.2 2 - 1) := fun z => tN_gg (by rw [← h50]; exact z)
    have h55 : S49.2.2.2 = Sp.2.2.2 := by rw [h50]; exact tN_w
    have h56 := Imp_m h39.2.2.2.2.2.2.2.2.2.2.2.2.2.2.2.2.2.2.2.2.2.2.2.1 (by omega)
    have h57 := Imp_m h39.2.2.2.2.2.2.2.2.2.2.2.2.2.2.2.2.2.2.2.2.2.2.2.2.1 (by omega)
    refine En_Ps 1 (pc' := 54) (lv' := [(1, .int z44), (0, .ref 159)]) (st' := []) rfl ?_
    obtain ⟨z59, h58, h60, h61⟩ := WT_peekI h37 (by decide +kernel : TG 159 = 35) (by decide +kernel : FT 35 10 = (0, 0, 4)) (by decide +kernel)
    obtain ⟨z63, h62, h64, h65⟩ := WT_peekI h37 (by decide +kernel : TG 159 = 35) (by decide +kernel : FT 35 11 = (0, 0, 99999)) (by decide +kernel)
    have h66 := ML_k h51 h43
    have h67 : Imp (S49.1 = 0) (tK By Nb S49.2.2.1 = z59.toInt) := ML_t h51 h58
    have h68 : Imp (S49.1 = 0 ∧ tK By Nb S49.2.2.1 = 2) (z63.toInt = min 99999 (tV By Nb S49.2.2.1) ∧ 0 ≤ tV By Nb S49.2.2.1) := fun q => ML_u h51 h62 q.1 q.2
    have h69 : S49.2.2.2 2 = Sp.2.2.2 2 := by rw [h55]
    refine En_Ps 2 (pc' := 56) (lv' := [(1, .int z44), (0, .ref 159)]) (st' := [.ref 159, .ref 159]) rfl ?_
    refine En_getK (j := 14) ((h38 _ _ (inW (by decide +kernel : TG 159 = 35) (by decide +kernel))).trans h19) rfl rfl rfl (by decide +kernel : TG 159 = 35) (by decide +kernel) ?_
    refine En_Ps 1 (pc' := 60) (lv' := [(1, .int z44), (0, .ref 159)]) (st' := [.int ((Int32.ofInt 2)), .ref 165, .ref 159]) rfl ?_
    refine En_ialdK ((h38 _ _ (inWa (by decide +kernel : TG 165 = 41) (by decide +kernel))).trans h12) rfl (by decide : (Int32.ofInt 2).toInt = 2) (by decide +kernel : TG 165 = 41) (by decide +kernel) h37 (by omega) (lnI (by decide +kernel : LN _ = 226) (by omega)) ?_
    refine En_callV rfl rfl rfl rfl rfl rfl rfl rfl (by decide +kernel : TG 159 = 35) (by decide +kernel) rfl (c_260x σ36 h37 z13 z42 h43 z59 h58 z63 h62) (by decide) (by decide) (fun v72 σ73 h71 => ?_)
    obtain ⟨h74, h75, z77, rfl, h76⟩ := h71
    obtain rfl : σ36 = σ73 := Fr_nil h75
    refine En_iEq _ rfl rfl (fun h78 => ?_) (fun hx => by exfalso; omega)
    have h79 : gTw2 By Nb (tV By Nb Sp.2.2.1) S49 = S49 := by unfold gTw2; (repeat' split) <;> first | rfl | (exfalso; omega) | ((try have i0 := Imp_m h67 (by omega)); (try have i1 := Imp_m h54 (by omega)); (try have i2 := Imp_m h53 (by omega)); (try have i3 := Imp_m h10 (by omega)); (try have i4 := Imp_m h11 (by omega)); (try have i5 := Imp_m h68 (by omega)); exfalso; omega)
    refine En_Ps 3 (pc' := 94) (lv' := [(1, .int z44), (0, .ref 159)]) (st' := [.ref 159, .int ((Int32.ofInt 0)), .ref 159]) rfl ?_
    refine En_getK (j := 14) ((h38 _ _ (inW (by decide +kernel : TG 159 = 35) (by decide +kernel))).trans h19) rfl rfl rfl (by decide +kernel : TG 159 = 35) (by decide +kernel) ?_
    refine En_Ps 1 (pc' := 98) (lv' := [(1, .int z44), (0, .ref 159)]) (st' := [.int ((Int32.ofInt 2)), .ref 165, .int ((Int32.ofInt 0)), .ref 159]) rfl ?_
    refine En_ialdK ((h38 _ _ (inWa (by decide +kernel : TG 165 = 41) (by decide +kernel))).trans h12) rfl (by decide : (Int32.ofInt 2).toInt = 2) (by decide +kernel : TG 165 = 41) (by decide +kernel) h37 (by omega) (lnI (by decide +kernel : LN _ = 226) (by omega)) ?_
    refine En_Ps 2 (pc' := 101) (lv' := [(1, .int z44), (0, .ref 159)]) (st' := [.int ((z13 - ((Int32.ofInt 1)))), .int ((Int32.ofInt 0)), .ref 159]) rfl ?_
    refine En_top (subI rfl (by decide : (Int32.ofInt 1).toInt = 1) (by omega) (by omega)) (fun z81 h82 => ?_)
    have := (by decide : ((Int32.ofInt 0)).toInt = 0)
    refine En_callV rfl rfl rfl rfl rfl rfl rfl rfl (by decide +kernel : TG 159 = 35) (by decide +kernel) rfl (c_288x σ36 h37 ((Int32.ofInt 0)) z81 (geI (by decide : (Int32.ofInt 0).toInt = 0) (by omega)) (leI (by decide : (Int32.ofInt 0).toInt = 0) (by omega)) (geI rfl (by omega)) (leI rfl (by omega)) z40 h41 z42 h43 z59 h58 z63 h62 h51) (by decide) (by decide) (fun v84 σ85 h83 => ?_)
    obtain ⟨h86, h87, z89, h90, z91, h92, z93, rfl, h88⟩ := h83
    have h94 := h88.2.2.2.2.2.2.2.2.2.2.2.2.2.2.2.2.2.2.2.2.2.2.2.2.2.2.2.2
    have h95 := Fr_trans h46 h87 (by decide +kernel)
    have h96 := KF_fr h47 h87 (by decide +kernel)
    have h97 : tN By Nb ((Int32.ofInt 0)).toInt z81.toInt S49 = tN By Nb (0) (Sp.2.2.2 2 - 1) S49 := tN_cg2 (fun zz => by have j1 := Imp_m h53 zz; have j2 := Imp_m h54 zz; have j3 := Imp_m h10 j2.1; have j4 := Imp_m h11 ⟨j2.1, j2.2.1⟩; have j5 := Imp_m h67 zz; omega) (fun zz => by have j1 := Imp_m h53 zz; have j2 := Imp_m h54 zz; have j3 := Imp_m h10 j2.1; have j4 := Imp_m h11 ⟨j2.1, j2.2.1⟩; have j5 := Imp_m h67 zz; omega)
    obtain ⟨S98, h99⟩ : ∃ q : PS, q = tN By Nb (0) (Sp.2.2.2 2 - 1) S49 := ⟨_, rfl⟩
    have h100 : ML By Nb σ85 S98 := by rw [h99]; exact (ML_eq h94.1 h97)
    have h101 := ML_k h100 h92
    have h102 : Imp (S98.1 = 0) (z93.toInt = tV By Nb S49.2.2.1) := fun z => h94.2 (by rw [h97, ← h99]; exact z)
    have h103 : Imp (S98.1 = 0) (S49.1 = 0 ∧ tK By Nb S49.2.2.1 = 2 ∧ 0 ≤ tV By Nb S49.2.2.1 ∧ tV By Nb S49.2.2.1 ≤ Sp.2.2.2 2 - 1) := fun z => tN_gg (by rw [← h99]; exact z)
    have h104 : S98.2.2.2 = S49.2.2.2 := by rw [h99]; exact tN_w
    have h105 := Imp_m h88.2.2.2.2.2.2.2.2.2.2.2.2.2.2.2.2.2.2.2.2.2.2.2.1 (by omega)
    have h106 := Imp_m h88.2.2.2.2.2.2.2.2.2.2.2.2.2.2.2.2.2.2.2.2.2.2.2.2.1 (by omega)
    refine En_Ps 2 (pc' := 106) (lv' := [(2, .int z93), (1, .int z44), (0, .ref 159)]) (st' := [.ref 159]) rfl ?_
    refine En_callV rfl rfl rfl rfl rfl rfl rfl rfl (by decide +kernel : TG 159 = 35) (by decide +kernel) rfl (c_237 σ85 h86 z91 h92) (by decide) (by decide) (fun v108 σ109 h107 => ?_)
    obtain ⟨h110, h111, z113, rfl, h112⟩ := h107
    obtain rfl : σ85 = σ109 := Fr_nil h111
    refine En_iEq _ rfl rfl (fun h114 => ?_) (fun hx => by exfalso; omega)
    have h115 := Imp_m h112.2.2.2 (by omega)
    exact En_ret (v := none) rfl rfl rfl ⟨h86, h95, z89, h90, z91, h92, rfl, ⟨by omega, by omega, by omega, by omega, by omega, by omega, by omega, by omega, by omega, by omega, by omega, by omega, by omega, fun _ => by omega, ⟨h96, ML_eq h100 (by unfold gTwin; dsimp only; rw [h30, ← h50, h79, ← h99]; first | done | rfl | (rw [if_pos (by omega)]; first | done | rfl) | (rw [if_neg (by omega)]; first | done | rfl))⟩⟩⟩
  · have h116 := Imp_m h27.2.2.1 (by omega)
    have h117 : Sp.1 = 0 := by omega
    have h118 := Imp_m h10 h117
    have h119 : tK By Nb Sp.2.2.1 = 2 := by omega
    have h120 := Imp_m h10 h117
    have h121 := Imp_m h11 ⟨h117, h119⟩
    refine En_Ps 2 (pc' := 15) (lv' := [(0, .ref 159)]) (st' := [.ref 159, .ref 159]) rfl ?_
    refine En_getK (j := 11) h5 rfl rfl rfl (by decide +kernel : TG 159 = 35) (by decide +kernel) ?_
    refine En_callV rfl rfl rfl rfl rfl rfl rfl rfl (by decide +kernel : TG 159 = 35) (by decide +kernel) rfl (c_217x σ0 hσ0 z6 (geI rfl (by omega)) (leI rfl (by omega))) (by decide) (by decide) (fun v123 σ124 h122 => ?_)
    obtain ⟨h125, h126, z128, rfl, h127⟩ := h122
    have h129 := h127.2.2
    obtain rfl : σ0 = σ124 := Fr_nil h126
    have h130 := h129
    have h131 : ci σ0 165 (13 + 4 * z6.toInt) = Sp.2.2.2 (13 + 4 * tV By Nb Sp.2.2.1) := ML_ci hM (by omega) (by omega) (by omega) (by omega)
    refine En_iNe _ rfl rfl (fun h132 => ?_) (fun h132 => ?_)
    · refine En_Ps 2 (pc' := 37) (lv' := [(0, .ref 159)]) (st' := [.int ((Int32.ofInt 2)), .ref 159]) rfl ?_
      have := (by decide : ((Int32.ofInt 2)).toInt = 2)
      refine En_callV rfl rfl rfl rfl rfl rfl rfl rfl (by decide +kernel : TG 159 = 35) (by decide +kernel) rfl (c_223x σ0 hσ0 ((Int32.ofInt 2)) (geI (by decide : (Int32.ofInt 2).toInt = 2) (by omega)) (leI (by decide : (Int32.ofInt 2).toInt = 2) (by omega)) k h_k hM) (by decide) (by decide) (fun v134 σ135 h133 => ?_)
      obtain ⟨h136, h137, z139, h140, rfl, h138⟩ := h133
      have h141 := h138.2.2.2.2.2
      have h142 := Fr_trans hF0 h137 (by decide +kernel)
      have h143 := KF_fr (KF_0 (σ := σ0)) h137 (by decide +kernel)
      obtain ⟨S144, h145⟩ : ∃ q : PS, q = err By Nb 2 Sp := ⟨_, rfl⟩
      have h146 : ML By Nb σ135 S144 := by rw [h145]; exact (ML_eq h141 (err_cg (by omega)))
      have h147 := ML_k h146 h140
      have h148 : Imp (S144.1 = 0) (tK By Nb S144.2.2.1 = z2.toInt) := ML_t h146 ((h137 _ _ (inW (by decide +kernel : TG 159 = 35) (by decide +kernel))).trans h1)
      have h149 : Imp (S144.1 = 0 ∧ tK By Nb S144.2.2.1 = 2) (z6.toInt = min 99999 (tV By Nb S144.2.2.1) ∧ 0 ≤ tV By Nb S144.2.2.1) := fun q => ML_u h146 ((h137 _ _ (inW (by decide +kernel : TG 159 = 35) (by decide +kernel))).trans h5) q.1 q.2
      have h150 : S144.2.2.2 = Sp.2.2.2 := by rw [h145]; exact err_w
      have h151 : gTw1 By Nb Sp = S144 := by rw [h145]; unfold gTw1; (repeat' split) <;> first | rfl | (exfalso; omega) | ((try have i0 := Imp_m h148 (by omega)); (try have i1 := Imp_m h10 (by omega)); (try have i2 := Imp_m h11 (by omega)); (try have i3 := Imp_m h149 (by omega)); exfalso; omega)
      refine En_Ps 3 (pc' := 43) (lv' := [(0, .ref 159)]) (st' := [.ref 159, .int ((Int32.ofInt 0)), .ref 159]) rfl ?_
      refine En_getK (j := 14) ((h137 _ _ (inW (by decide +kernel : TG 159 = 35) (by decide +kernel))).trans h19) rfl rfl rfl (by decide +kernel : TG 159 = 35) (by decide +kernel) ?_
      refine En_Ps 1 (pc' := 47) (lv' := [(0, .ref 159)]) (st' := [.int ((Int32.ofInt 2)), .ref 165, .int ((Int32.ofInt 0)), .ref 159]) rfl ?_
      refine En_ialdK ((h137 _ _ (inWa (by decide +kernel : TG 165 = 41) (by decide +kernel))).trans h12) rfl (by decide : (Int32.ofInt 2).toInt = 2) (by decide +kernel : TG 165 = 41) (by decide +kernel) h136 (by omega) (lnI (by decide +kernel : LN _ = 226) (by omega)) ?_
      refine En_Ps 2 (pc' := 50) (lv' := [(0, .ref 159)]) (st' := [.int ((z13 - ((Int32.ofInt 1)))), .int ((Int32.ofInt 0)), .ref 159]) rfl ?_
      refine En_top (subI rfl (by decide : (Int32.ofInt 1).toInt = 1) (by omega) (by omega)) (fun z153 h154 => ?_)
      have := (by decide : ((Int32.ofInt 0)).toInt = 0)
      refine En_callV rfl rfl rfl rfl rfl rfl rfl rfl (by decide +kernel : TG 159 = 35) (by decide +kernel) rfl (c_288x σ135 h136 ((Int32.ofInt 0)) z153 (geI (by decide : (Int32.ofInt 0).toInt = 0) (by omega)) (leI (by decide : (Int32.ofInt 0).toInt = 0) (by omega)) (geI rfl (by omega)) (leI rfl (by omega)) f ((h137 _ _ (inW (by decide +kernel : TG 159 = 35) (by decide +kernel))).trans h_f) z139 h140 z2 ((h137 _ _ (inW (by decide +kernel : TG 159 = 35) (by decide +kernel))).trans h1) z6 ((h137 _ _ (inW (by decide +kernel : TG 159 = 35) (by decide +kernel))).trans h5) h146) (by decide) (by decide) (fun v156 σ157 h155 => ?_)
      obtain ⟨h158, h159, z161, h162, z163, h164, z165, rfl, h160⟩ := h155
      have h166 := h160.2.2.2.2.2.2.2.2.2.2.2.2.2.2.2.2.2.2.2.2.2.2.2.2.2.2.2.2
      have h167 := Fr_trans h142 h159 (by decide +kernel)
      have h168 := KF_fr h143 h159 (by decide +kernel)
      have h169 : tN By Nb ((Int32.ofInt 0)).toInt z153.toInt S144 = tN By Nb (0) (Sp.2.2.2 2 - 1) S144 := tN_cg2 (fun zz => by have j1 := Imp_m h148 zz; omega) (fun zz => by have j1 := Imp_m h148 zz; omega)
      obtain ⟨S170, h171⟩ : ∃ q : PS, q = tN By Nb (0) (Sp.2.2.2 2 - 1) S144 := ⟨_, rfl⟩
      have h172 : ML By Nb σ157 S170 := by rw [h171]; exact (ML_eq h166.1 h169)
      have h173 := ML_k h172 h164
      have h174 : Imp (S170.1 = 0) (z165.toInt = tV By Nb S144.2.2.1) := fun z => h166.2 (by rw [h169, ← h171]; exact z)
      have h175 : Imp (S170.1 = 0) (S144.1 = 0 ∧ tK By Nb S144.2.2.1 = 2 ∧ 0 ≤ tV By Nb S144.2.2.1 ∧ tV By Nb S144.2.2.1 ≤ Sp.2.2.2 2 - 1) := fun z => tN_gg (by rw [← h171]; exact z)
      have h176 : S170.2.2.2 = S144.2.2.2 := by rw [h171]; exact tN_w
      have h177 := Imp_m h160.2.2.2.2.2.2.2.2.2.2.2.2.2.2.2.2.2.2.2.2.2.2.2.1 (by omega)
      have h178 := Imp_m h160.2.2.2.2.2.2.2.2.2.2.2.2.2.2.2.2.2.2.2.2.2.2.2.2.1 (by omega)
      have h179 := Imp_m h160.2.2.2.2.2.2.2.2.2.2.2.2.2.2.2.2.2.2.2.2.2.2.2.2.2.1 (by omega)
      refine En_Ps 1 (pc' := 54) (lv' := [(1, .int z165), (0, .ref 159)]) (st' := []) rfl ?_
      obtain ⟨z181, h180, h182, h183⟩ := WT_peekI h158 (by decide +kernel : TG 159 = 35) (by decide +kernel : FT 35 10 = (0, 0, 4)) (by decide +kernel)
      obtain ⟨z185, h184, h186, h187⟩ := WT_peekI h158 (by decide +kernel : TG 159 = 35) (by decide +kernel : FT 35 11 = (0, 0, 99999)) (by decide +kernel)
      have h188 := ML_k h172 h164
      have h189 : Imp (S170.1 = 0) (tK By Nb S170.2.2.1 = z181.toInt) := ML_t h172 h180
      have h190 : Imp (S170.1 = 0 ∧ tK By Nb S170.2.2.1 = 2) (z185.toInt = min 99999 (tV By Nb S170.2.2.1) ∧ 0 ≤ tV By Nb S170.2.2.1) := fun q => ML_u h172 h184 q.1 q.2
      have h191 : S170.2.2.2 2 = Sp.2.2.2 2 := by rw [h176, h150]
      refine En_Ps 2 (pc' := 56) (lv' := [(1, .int z165), (0, .ref 159)]) (st' := [.ref 159, .ref 159]) rfl ?_
      refine En_getK (j := 14) ((h159 _ _ (inW (by decide +kernel : TG 159 = 35) (by decide +kernel))).trans ((h137 _ _ (inW (by decide +kernel : TG 159 = 35) (by decide +kernel))).trans h19)) rfl rfl rfl (by decide +kernel : TG 159 = 35) (by decide +kernel) ?_
      refine En_Ps 1 (pc' := 60) (lv' := [(1, .int z165), (0, .ref 159)]) (st' := [.int ((Int32.ofInt 2)), .ref 165, .ref 159]) rfl ?_
      refine En_ialdK ((h159 _ _ (inWa (by decide +kernel : TG 165 = 41) (by decide +kernel))).trans ((h137 _ _ (inWa (by decide +kernel : TG 165 = 41) (by decide +kernel))).trans h12)) rfl (by decide : (Int32.ofInt 2).toInt = 2) (by decide +kernel : TG 165 = 41) (by decide +kernel) h158 (by omega) (lnI (by decide +kernel : LN _ = 226) (by omega)) ?_
      refine En_callV rfl rfl rfl rfl rfl rfl rfl rfl (by decide +kernel : TG 159 = 35) (by decide +kernel) rfl (c_260x σ157 h158 z13 z163 h164 z181 h180 z185 h184) (by decide) (by decide) (fun v194 σ195 h193 => ?_)
      obtain ⟨h196, h197, z199, rfl, h198⟩ := h193
      obtain rfl : σ157 = σ195 := Fr_nil h197
      refine En_iEq _ rfl rfl (fun h200 => ?_) (fun hx => by exfalso; omega)
      have h201 : gTw2 By Nb (tV By Nb S144.2.2.1) S170 = S170 := by unfold gTw2; (repeat' split) <;> first | rfl | (exfalso; omega) | ((try have i0 := Imp_m h189 (by omega)); (try have i1 := Imp_m h175 (by omega)); (try have i2 := Imp_m h174 (by omega)); (try have i3 := Imp_m h148 (by omega)); (try have i4 := Imp_m h10 (by omega)); (try have i5 := Imp_m h11 (by omega)); (try have i6 := Imp_m h149 (by omega)); (try have i7 := Imp_m h190 (by omega)); exfalso; omega)
      refine En_Ps 3 (pc' := 94) (lv' := [(1, .int z165), (0, .ref 159)]) (st' := [.ref 159, .int ((Int32.ofInt 0)), .ref 159]) rfl ?_
      refine En_getK (j := 14) ((h159 _ _ (inW (by decide +kernel : TG 159 = 35) (by decide +kernel))).trans ((h137 _ _ (inW (by decide +kernel : TG 159 = 35) (by decide +kernel))).trans h19)) rfl rfl rfl (by decide +kernel : TG 159 = 35) (by decide +kernel) ?_
      refine En_Ps 1 (pc' := 98) (lv' := [(1, .int z165), (0, .ref 159)]) (st' := [.int ((Int32.ofInt 2)), .ref 165, .int ((Int32.ofInt 0)), .ref 159]) rfl ?_
      refine En_ialdK ((h159 _ _ (inWa (by decide +kernel : TG 165 = 41) (by decide +kernel))).trans ((h137 _ _ (inWa (by decide +kernel : TG 165 = 41) (by decide +kernel))).trans h12)) rfl (by decide : (Int32.ofInt 2).toInt = 2) (by decide +kernel : TG 165 = 41) (by decide +kernel) h158 (by omega) (lnI (by decide +kernel : LN _ = 226) (by omega)) ?_
      refine En_Ps 2 (pc' := 101) (lv' := [(1, .int z165), (0, .ref 159)]) (st' := [.int ((z13 - ((Int32.ofInt 1)))), .int ((Int32.ofInt 0)), .ref 159]) rfl ?_
      refine En_top (subI rfl (by decide : (Int32.ofInt 1).toInt = 1) (by omega) (by omega)) (fun z203 h204 => ?_)
      have := (by decide : ((Int32.ofInt 0)).toInt = 0)
      refine En_callV rfl rfl rfl rfl rfl rfl rfl rfl (by decide +kernel : TG 159 = 35) (by decide +kernel) rfl (c_288x σ157 h158 ((Int32.ofInt 0)) z203 (geI (by decide : (Int32.ofInt 0).toInt = 0) (by omega)) (leI (by decide : (Int32.ofInt 0).toInt = 0) (by omega)) (geI rfl (by omega)) (leI rfl (by omega)) z161 h162 z163 h164 z181 h180 z185 h184 h172) (by decide) (by decide) (fun v206 σ207 h205 => ?_)
      obtain ⟨h208, h209, z211, h212, z213, h214, z215, rfl, h210⟩ := h205
      have h216 := h210.2.2.2.2.2.2.2.2.2.2.2.2.2.2.2.2.2.2.2.2.2.2.2.2.2.2.2.2
      have h217 := Fr_trans h167 h209 (by decide +kernel)
      have h218 := KF_fr h168 h209 (by decide +kernel)
      have h219 : tN By Nb ((Int32.ofInt 0)).toInt z203.toInt S170 = tN By Nb (0) (Sp.2.2.2 2 - 1) S170 := tN_cg2 (fun zz => by have j1 := Imp_m h174 zz; have j2 := Imp_m h175 zz; have j3 := Imp_m h148 j2.1; have j4 := Imp_m h149 ⟨j2.1, j2.2.1⟩; have j5 := Imp_m h189 zz; omega) (fun zz => by have j1 := Imp_m h174 zz; have j2 := Imp_m h175 zz; have j3 := Imp_m h148 j2.1; have j4 := Imp_m h149 ⟨j2.1, j2.2.1⟩; have j5 := Imp_m h189 zz; omega)
      obtain ⟨S220, h221⟩ : ∃ q : PS, q = tN By Nb (0) (Sp.2.2.2 2 - 1) S170 := ⟨_, rfl⟩
      have h222 : ML By Nb σ207 S220 := by rw [h221]; exact (ML_eq h216.1 h219)
      have h223 := ML_k h222 h214
      have h224 : Imp (S220.1 = 0) (z215.toInt = tV By Nb S170.2.2.1) := fun z => h216.2 (by rw [h219, ← h221]; exact z)
      have h225 : Imp (S220.1 = 0) (S170.1 = 0 ∧ tK By Nb S170.2.2.1 = 2 ∧ 0 ≤ tV By Nb S170.2.2.1 ∧ tV By Nb S170.2.2.1 ≤ Sp.2.2.2 2 - 1) := fun z => tN_gg (by rw [← h221]; exact z)
      have h226 : S220.2.2.2 = S170.2.2.2 := by rw [h221]; exact tN_w
      have h227 := Imp_m h210.2.2.2.2.2.2.2.2.2.2.2.2.2.2.2.2.2.2.2.2.2.2.2.1 (by omega)
      have h228 := Imp_m h210.2.2.2.2.2.2.2.2.2.2.2.2.2.2.2.2.2.2.2.2.2.2.2.2.1 (by omega)
      have h229 := Imp_m h210.2.2.2.2.2.2.2.2.2.2.2.2.2.2.2.2.2.2.2.2.2.2.2.2.2.1 (by omega)
      refine En_Ps 2 (pc' := 106) (lv' := [(2, .int z215), (1, .int z165), (0, .ref 159)]) (st' := [.ref 159]) rfl ?_
      refine En_callV rfl rfl rfl rfl rfl rfl rfl rfl (by decide +kernel : TG 159 = 35) (by decide +kernel) rfl (c_237 σ207 h208 z213 h214) (by decide) (by decide) (fun v231 σ232 h230 => ?_)
      obtain ⟨h233, h234, z236, rfl, h235⟩ := h230
      obtain rfl : σ207 = σ232 := Fr_nil h234
      refine En_iEq _ rfl rfl (fun h237 => ?_) (fun hx => by exfalso; omega)
      have h238 := Imp_m h235.2.2.2 (by omega)
      exact En_ret (v := none) rfl rfl rfl ⟨h208, h217, z211, h212, z213, h214, rfl, ⟨by omega, by omega, by omega, by omega, by omega, by omega, by omega, by omega, by omega, by omega, by omega, by omega, by omega, fun _ => by omega, ⟨h218, ML_eq h222 (by unfold gTwin; dsimp only; rw [h151, ← h171, h201, ← h221]; first | done | rfl | (rw [if_pos (by omega)]; first | done | rfl) | (rw [if_neg (by omega)]; first | done | rfl))⟩⟩⟩
    · refine En_Ps 2 (pc' := 26) (lv' := [(0, .ref 159)]) (st' := [.ref 159, .ref 159]) rfl ?_
      refine En_getK (j := 11) h5 rfl rfl rfl (by decide +kernel : TG 159 = 35) (by decide +kernel) ?_
      refine En_callV rfl rfl rfl rfl rfl rfl rfl rfl (by decide +kernel : TG 159 = 35) (by decide +kernel) rfl (c_257x σ0 hσ0 z6) (by decide) (by decide) (fun v240 σ241 h239 => ?_)
      obtain ⟨h242, h243, z245, rfl, h244⟩ := h239
      have h246 := h244.2.2.2
      obtain rfl : σ0 = σ241 := Fr_nil h243
      have h247 := h246
      have h248 : cpI (ci σ0 165) (z6.toInt) = cpI Sp.2.2.2 (tV By Nb Sp.2.2.1) := ML_cp hM (by omega) (by omega)
      refine En_iEq _ rfl rfl (fun h249 => ?_) (fun h249 => ?_)
      · have h250 : gTw1 By Nb Sp = Sp := by unfold gTw1; (repeat' split) <;> first | rfl | (exfalso; omega) | ((try have i0 := Imp_m h10 (by omega)); (try have i1 := Imp_m h11 (by omega)); exfalso; omega)
        refine En_Ps 3 (pc' := 43) (lv' := [(0, .ref 159)]) (st' := [.ref 159, .int ((Int32.ofInt 0)), .ref 159]) rfl ?_
        refine En_getK (j := 14) h19 rfl rfl rfl (by decide +kernel : TG 159 = 35) (by decide +kernel) ?_
        refine En_Ps 1 (pc' := 47) (lv' := [(0, .ref 159)]) (st' := [.int ((Int32.ofInt 2)), .ref 165, .int ((Int32.ofInt 0)), .ref 159]) rfl ?_
        refine En_ialdK h12 rfl (by decide : (Int32.ofInt 2).toInt = 2) (by decide +kernel : TG 165 = 41) (by decide +kernel) hσ0 (by omega) (lnI (by decide +kernel : LN _ = 226) (by omega)) ?_
        refine En_Ps 2 (pc' := 50) (lv' := [(0, .ref 159)]) (st' := [.int ((z13 - ((Int32.ofInt 1)))), .int ((Int32.ofInt 0)), .ref 159]) rfl ?_
        refine En_top (subI rfl (by decide : (Int32.ofInt 1).toInt = 1) (by omega) (by omega)) (fun z252 h253 => ?_)
        have := (by decide : ((Int32.ofInt 0)).toInt = 0)
        refine En_callV rfl rfl rfl rfl rfl rfl rfl rfl (by decide +kernel : TG 159 = 35) (by decide +kernel) rfl (c_288x σ0 hσ0 ((Int32.ofInt 0)) z252 (geI (by decide : (Int32.ofInt 0).toInt = 0) (by omega)) (leI (by decide : (Int32.ofInt 0).toInt = 0) (by omega)) (geI rfl (by omega)) (leI rfl (by omega)) f h_f k h_k z2 h1 z6 h5 hM) (by decide) (by decide) (fun v255 σ256 h254 => ?_)
        obtain ⟨h257, h258, z260, h261, z262, h263, z264, rfl, h259⟩ := h254
        have h265 := h259.2.2.2.2.2.2.2.2.2.2.2.2.2.2.2.2.2.2.2.2.2.2.2.2.2.2.2.2
        have h266 := Fr_trans hF0 h258 (by decide +kernel)
        have h267 := KF_fr (KF_0 (σ := σ0)) h258 (by decide +kernel)
        have h268 : tN By Nb ((Int32.ofInt 0)).toInt z252.toInt Sp = tN By Nb (0) (Sp.2.2.2 2 - 1) Sp := tN_cg2 (fun zz => by have j1 := Imp_m h10 zz; omega) (fun zz => by have j1 := Imp_m h10 zz; omega)
        obtain ⟨S269, h270⟩ : ∃ q : PS, q = tN By Nb (0) (Sp.2.2.2 2 - 1) Sp := ⟨_, rfl⟩
        have h271 : ML By Nb σ256 S269 := by rw [h270]; exact (ML_eq h265.1 h268)
        have h272 := ML_k h271 h263
        have h273 : Imp (S269.1 = 0) (z264.toInt = tV By Nb Sp.2.2.1) := fun z => h265.2 (by rw [h268, ← h270]; exact z)
        have h274 : Imp (S269.1 = 0) (Sp.1 = 0 ∧ tK By Nb Sp.2.2.1 = 2 ∧ 0 ≤ tV By Nb Sp.2.2.1 ∧ tV By Nb Sp.2.2.1 ≤ Sp.2.2.2 2 - 1) := fun z => tN_gg (by rw [← h270]; exact z)
        have h275 : S269.2.2.2 = Sp.2.2.2 := by rw [h270]; exact tN_w
        have h276 := Imp_m h259.2.2.2.2.2.2.2.2.2.2.2.2.2.2.2.2.2.2.2.2.2.2.2.1 (by omega)
        have h277 := Imp_m h259.2.2.2.2.2.2.2.2.2.2.2.2.2.2.2.2.2.2.2.2.2.2.2.2.1 (by omega)
        have h278 := Imp_m h259.2.2.2.2.2.2.2.2.2.2.2.2.2.2.2.2.2.2.2.2.2.2.2.2.2.1 (by omega)
        refine En_Ps 1 (pc' := 54) (lv' := [(1, .int z264), (0, .ref 159)]) (st' := []) rfl ?_
        obtain ⟨z280, h279, h281, h282⟩ := WT_peekI h257 (by decide +kernel : TG 159 = 35) (by decide +kernel : FT 35 10 = (0, 0, 4)) (by decide +kernel)
        obtain ⟨z284, h283, h285, h286⟩ := WT_peekI h257 (by decide +kernel : TG 159 = 35) (by decide +kernel : FT 35 11 = (0, 0, 99999)) (by decide +kernel)
        have h287 := ML_k h271 h263
        have h288 : Imp (S269.1 = 0) (tK By Nb S269.2.2.1 = z280.toInt) := ML_t h271 h279
        have h289 : Imp (S269.1 = 0 ∧ tK By Nb S269.2.2.1 = 2) (z284.toInt = min 99999 (tV By Nb S269.2.2.1) ∧ 0 ≤ tV By Nb S269.2.2.1) := fun q => ML_u h271 h283 q.1 q.2
        have h290 : S269.2.2.2 2 = Sp.2.2.2 2 := by rw [h275]
        refine En_Ps 2 (pc' := 56) (lv' := [(1, .int z264), (0, .ref 159)]) (st' := [.ref 159, .ref 159]) rfl ?_
        refine En_getK (j := 14) ((h258 _ _ (inW (by decide +kernel : TG 159 = 35) (by decide +kernel))).trans h19) rfl rfl rfl (by decide +kernel : TG 159 = 35) (by decide +kernel) ?_
        refine En_Ps 1 (pc' := 60) (lv' := [(1, .int z264), (0, .ref 159)]) (st' := [.int ((Int32.ofInt 2)), .ref 165, .ref 159]) rfl ?_
        refine En_ialdK ((h258 _ _ (inWa (by decide +kernel : TG 165 = 41) (by decide +kernel))).trans h12) rfl (by decide : (Int32.ofInt 2).toInt = 2) (by decide +kernel : TG 165 = 41) (by decide +kernel) h257 (by omega) (lnI (by decide +kernel : LN _ = 226) (by omega)) ?_
        refine En_callV rfl rfl rfl rfl rfl rfl rfl rfl (by decide +kernel : TG 159 = 35) (by decide +kernel) rfl (c_260x σ256 h257 z13 z262 h263 z280 h279 z284 h283) (by decide) (by decide) (fun v293 σ294 h292 => ?_)
        obtain ⟨h295, h296, z298, rfl, h297⟩ := h292
        obtain rfl : σ256 = σ294 := Fr_nil h296
        refine En_iEq _ rfl rfl (fun h299 => ?_) (fun h299 => ?_)
        · have h300 : gTw2 By Nb (tV By Nb Sp.2.2.1) S269 = S269 := by unfold gTw2; (repeat' split) <;> first | rfl | (exfalso; omega) | ((try have i0 := Imp_m h288 (by omega)); (try have i1 := Imp_m h274 (by omega)); (try have i2 := Imp_m h273 (by omega)); (try have i3 := Imp_m h10 (by omega)); (try have i4 := Imp_m h11 (by omega)); (try have i5 := Imp_m h289 (by omega)); exfalso; omega)
          refine En_Ps 3 (pc' := 94) (lv' := [(1, .int z264), (0, .ref 159)]) (st' := [.ref 159, .int ((Int32.ofInt 0)), .ref 159]) rfl ?_
          refine En_getK (j := 14) ((h258 _ _ (inW (by decide +kernel : TG 159 = 35) (by decide +kernel))).trans h19) rfl rfl rfl (by decide +kernel : TG 159 = 35) (by decide +kernel) ?_
          refine En_Ps 1 (pc' := 98) (lv' := [(1, .int z264), (0, .ref 159)]) (st' := [.int ((Int32.ofInt 2)), .ref 165, .int ((Int32.ofInt 0)), .ref 159]) rfl ?_
          refine En_ialdK ((h258 _ _ (inWa (by decide +kernel : TG 165 = 41) (by decide +kernel))).trans h12) rfl (by decide : (Int32.ofInt 2).toInt = 2) (by decide +kernel : TG 165 = 41) (by decide +kernel) h257 (by omega) (lnI (by decide +kernel : LN _ = 226) (by omega)) ?_
          refine En_Ps 2 (pc' := 101) (lv' := [(1, .int z264), (0, .ref 159)]) (st' := [.int ((z13 - ((Int32.ofInt 1)))), .int ((Int32.ofInt 0)), .ref 159]) rfl ?_
          refine En_top (subI rfl (by decide : (Int32.ofInt 1).toInt = 1) (by omega) (by omega)) (fun z302 h303 => ?_)
          have := (by decide : ((Int32.ofInt 0)).toInt = 0)
          refine En_callV rfl rfl rfl rfl rfl rfl rfl rfl (by decide +kernel : TG 159 = 35) (by decide +kernel) rfl (c_288x σ256 h257 ((Int32.ofInt 0)) z302 (geI (by decide : (Int32.ofInt 0).toInt = 0) (by omega)) (leI (by decide : (Int32.ofInt 0).toInt = 0) (by omega)) (geI rfl (by omega)) (leI rfl (by omega)) z260 h261 z262 h263 z280 h279 z284 h283 h271) (by decide) (by decide) (fun v305 σ306 h304 => ?_)
          obtain ⟨h307, h308, z310, h311, z312, h313, z314, rfl, h309⟩ := h304
          have h315 := h309.2.2.2.2.2.2.2.2.2.2.2.2.2.2.2.2.2.2.2.2.2.2.2.2.2.2.2.2
          have h316 := Fr_trans h266 h308 (by decide +kernel)
          have h317 := KF_fr h267 h308 (by decide +kernel)
          have h318 : tN By Nb ((Int32.ofInt 0)).toInt z302.toInt S269 = tN By Nb (0) (Sp.2.2.2 2 - 1) S269 := tN_cg2 (fun zz => by have j1 := Imp_m h273 zz; have j2 := Imp_m h274 zz; have j3 := Imp_m h10 j2.1; have j4 := Imp_m h11 ⟨j2.1, j2.2.1⟩; have j5 := Imp_m h288 zz; omega) (fun zz => by have j1 := Imp_m h273 zz; have j2 := Imp_m h274 zz; have j3 := Imp_m h10 j2.1; have j4 := Imp_m h11 ⟨j2.1, j2.2.1⟩; have j5 := Imp_m h288 zz; omega)
          obtain ⟨S319, h320⟩ : ∃ q : PS, q = tN By Nb (0) (Sp.2.2.2 2 - 1) S269 := ⟨_, rfl⟩
          have h321 : ML By Nb σ306 S319 := by rw [h320]; exact (ML_eq h315.1 h318)
          have h322 := ML_k h321 h313
          have h323 : Imp (S319.1 = 0) (z314.toInt = tV By Nb S269.2.2.1) := fun z => h315.2 (by rw [h318, ← h320]; exact z)
          have h324 : Imp (S319.1 = 0) (S269.1 = 0 ∧ tK By Nb S269.2.2.1 = 2 ∧ 0 ≤ tV By Nb S269.2.2.1 ∧ tV By Nb S269.2.2.1 ≤ Sp.2.2.2 2 - 1) := fun z => tN_gg (by rw [← h320]; exact z)
          have h325 : S319.2.2.2 = S269.2.2.2 := by rw [h320]; exact tN_w
          have h326 := Imp_m h309.2.2.2.2.2.2.2.2.2.2.2.2.2.2.2.2.2.2.2.2.2.2.2.1 (by omega)
          have h327 := Imp_m h309.2.2.2.2.2.2.2.2.2.2.2.2.2.2.2.2.2.2.2.2.2.2.2.2.1 (by omega)
          have h328 := Imp_m h309.2.2.2.2.2.2.2.2.2.2.2.2.2.2.2.2.2.2.2.2.2.2.2.2.2.1 (by omega)
          refine En_Ps 2 (pc' := 106) (lv' := [(2, .int z314), (1, .int z264), (0, .ref 159)]) (st' := [.ref 159]) rfl ?_
          refine En_callV rfl rfl rfl rfl rfl rfl rfl rfl (by decide +kernel : TG 159 = 35) (by decide +kernel) rfl (c_237 σ306 h307 z312 h313) (by decide) (by decide) (fun v330 σ331 h329 => ?_)
          obtain ⟨h332, h333, z335, rfl, h334⟩ := h329
          obtain rfl : σ306 = σ331 := Fr_nil h333
          refine En_iEq _ rfl rfl (fun h336 => ?_) (fun hx => by exfalso; omega)
          have h337 := Imp_m h334.2.2.2 (by omega)
          exact En_ret (v := none) rfl rfl rfl ⟨h307, h316, z310, h311, z312, h313, rfl, ⟨by omega, by omega, by omega, by omega, by omega, by omega, by omega, by omega, by omega, by omega, by omega, by omega, by omega, fun _ => by omega, ⟨h317, ML_eq h321 (by unfold gTwin; dsimp only; rw [h250, ← h270, h300, ← h320]; first | done | rfl | (rw [if_pos (by omega)]; first | done | rfl) | (rw [if_neg (by omega)]; first | done | rfl))⟩⟩⟩
        · have h338 := Imp_m h297.2.2.1 (by omega)
          have h339 := Imp_m h259.2.2.2.2.2.2.2.2.2.2.2.2.2.2.2.2.2.2.2.2.2.2.2.2.2.2.2.1 (by omega)
          have h340 : S269.1 = 0 := by omega
          have h341 := Imp_m h288 h340
          have h342 : tK By Nb S269.2.2.1 = 2 := by omega
          have h343 := Imp_m h273 h340
          have h344 := Imp_m h274 h340
          have h345 := Imp_m h10 h344.1
          have h346 := Imp_m h11 ⟨h344.1, h344.2.1⟩
          have h347 := Imp_m h288 h340
          have h348 := Imp_m h289 ⟨h340, h342⟩
          refine En_Ps 1 (pc' := 68) (lv' := [(1, .int z264), (0, .ref 159)]) (st' := [.ref 159]) rfl ?_
          refine En_getK (j := 11) h283 rfl rfl rfl (by decide +kernel : TG 159 = 35) (by decide +kernel) ?_
          refine En_Ps 1 (pc' := 72) (lv' := [(1, .int z264), (0, .ref 159)]) (st' := [.int z264, .int z284]) rfl ?_
          refine En_icEq _ rfl rfl rfl (fun h349 => ?_) (fun h349 => ?_)
          · refine En_Ps 2 (pc' := 88) (lv' := [(1, .int z264), (0, .ref 159)]) (st' := [.int ((Int32.ofInt 2)), .ref 159]) rfl ?_
            have := (by decide : ((Int32.ofInt 2)).toInt = 2)
            refine En_callV rfl rfl rfl rfl rfl rfl rfl rfl (by decide +kernel : TG 159 = 35) (by decide +kernel) rfl (c_223x σ256 h257 ((Int32.ofInt 2)) (geI (by decide : (Int32.ofInt 2).toInt = 2) (by omega)) (leI (by decide : (Int32.ofInt 2).toInt = 2) (by omega)) z262 h263 h271) (by decide) (by decide) (fun v351 σ352 h350 => ?_)
            obtain ⟨h353, h354, z356, h357, rfl, h355⟩ := h350
            have h358 := h355.2.2.2.2.2
            have h359 := Fr_trans h266 h354 (by decide +kernel)
            have h360 := KF_fr h267 h354 (by decide +kernel)
            obtain ⟨S361, h362⟩ : ∃ q : PS, q = err By Nb 2 S269 := ⟨_, rfl⟩
            have h363 : ML By Nb σ352 S361 := by rw [h362]; exact (ML_eq h358 (err_cg (by omega)))
            have h364 := ML_k h363 h357
            have h365 : Imp (S361.1 = 0) (tK By Nb S361.2.2.1 = z280.toInt) := ML_t h363 ((h354 _ _ (inW (by decide +kernel : TG 159 = 35) (by decide +kernel))).trans h279)
            have h366 : Imp (S361.1 = 0 ∧ tK By Nb S361.2.2.1 = 2) (z284.toInt = min 99999 (tV By Nb S361.2.2.1) ∧ 0 ≤ tV By Nb S361.2.2.1) := fun q => ML_u h363 ((h354 _ _ (inW (by decide +kernel : TG 159 = 35) (by decide +kernel))).trans h283) q.1 q.2
            have h367 : S361.2.2.2 = S269.2.2.2 := by rw [h362]; exact err_w
            have h368 : gTw2 By Nb (tV By Nb Sp.2.2.1) S269 = S361 := by rw [h362]; unfold gTw2; (repeat' split) <;> first | rfl | (exfalso; omega) | ((try have i0 := Imp_m h365 (by omega)); (try have i1 := Imp_m h288 (by omega)); (try have i2 := Imp_m h274 (by omega)); (try have i3 := Imp_m h273 (by omega)); (try have i4 := Imp_m h10 (by omega)); (try have i5 := Imp_m h11 (by omega)); (try have i6 := Imp_m h289 (by omega)); (try have i7 := Imp_m h366 (by omega)); exfalso; omega)
            refine En_Ps 3 (pc' := 94) (lv' := [(1, .int z264), (0, .ref 159)]) (st' := [.ref 159, .int ((Int32.ofInt 0)), .ref 159]) rfl ?_
            refine En_getK (j := 14) ((h354 _ _ (inW (by decide +kernel : TG 159 = 35) (by decide +kernel))).trans ((h258 _ _ (inW (by decide +kernel : TG 159 = 35) (by decide +kernel))).trans h19)) rfl rfl rfl (by decide +kernel : TG 159 = 35) (by decide +kernel) ?_
            refine En_Ps 1 (pc' := 98) (lv' := [(1, .int z264), (0, .ref 159)]) (st' := [.int ((Int32.ofInt 2)), .ref 165, .int ((Int32.ofInt 0)), .ref 159]) rfl ?_
            refine En_ialdK ((h354 _ _ (inWa (by decide +kernel : TG 165 = 41) (by decide +kernel))).trans ((h258 _ _ (inWa (by decide +kernel : TG 165 = 41) (by decide +kernel))).trans h12)) rfl (by decide : (Int32.ofInt 2).toInt = 2) (by decide +kernel : TG 165 = 41) (by decide +kernel) h353 (by omega) (lnI (by decide +kernel : LN _ = 226) (by omega)) ?_
            refine En_Ps 2 (pc' := 101) (lv' := [(1, .int z264), (0, .ref 159)]) (st' := [.int ((z13 - ((Int32.ofInt 1)))), .int ((Int32.ofInt 0)), .ref 159]) rfl ?_
            refine En_top (subI rfl (by decide : (Int32.ofInt 1).toInt = 1) (by omega) (by omega)) (fun z370 h371 => ?_)
            have := (by decide : ((Int32.ofInt 0)).toInt = 0)
            refine En_callV rfl rfl rfl rfl rfl rfl rfl rfl (by decide +kernel : TG 159 = 35) (by decide +kernel) rfl (c_288x σ352 h353 ((Int32.ofInt 0)) z370 (geI (by decide : (Int32.ofInt 0).toInt = 0) (by omega)) (leI (by decide : (Int32.ofInt 0).toInt = 0) (by omega)) (geI rfl (by omega)) (leI rfl (by omega)) z260 ((h354 _ _ (inW (by decide +kernel : TG 159 = 35) (by decide +kernel))).trans h261) z356 h357 z280 ((h354 _ _ (inW (by decide +kernel : TG 159 = 35) (by decide +kernel))).trans h279) z284 ((h354 _ _ (inW (by decide +kernel : TG 159 = 35) (by decide +kernel))).trans h283) h363) (by decide) (by decide) (fun v373 σ374 h372 => ?_)
            obtain ⟨h375, h376, z378, h379, z380, h381, z382, rfl, h377⟩ := h372
            have h383 := h377.2.2.2.2.2.2.2.2.2.2.2.2.2.2.2.2.2.2.2.2.2.2.2.2.2.2.2.2
            have h384 := Fr_trans h359 h376 (by decide +kernel)
            have h385 := KF_fr h360 h376 (by decide +kernel)
            have h386 : tN By Nb ((Int32.ofInt 0)).toInt z370.toInt S361 = tN By Nb (0) (Sp.2.2.2 2 - 1) S361 := tN_cg2 (fun zz => by have j1 := Imp_m h365 zz; omega) (fun zz => by have j1 := Imp_m h365 zz; omega)
            obtain ⟨S387, h388⟩ : ∃ q : PS, q = tN By Nb (0) (Sp.2.2.2 2 - 1) S361 := ⟨_, rfl⟩
            have h389 : ML By Nb σ374 S387 := by rw [h388]; exact (ML_eq h383.1 h386)
            have h390 := ML_k h389 h381
            have h391 : Imp (S387.1 = 0) (z382.toInt = tV By Nb S361.2.2.1) := fun z => h383.2 (by rw [h386, ← h388]; exact z)
            have h392 : Imp (S387.1 = 0) (S361.1 = 0 ∧ tK By Nb S361.2.2.1 = 2 ∧ 0 ≤ tV By Nb S361.2.2.1 ∧ tV By Nb S361.2.2.1 ≤ Sp.2.2.2 2 - 1) := fun z => tN_gg (by rw [← h388]; exact z)
            have h393 : S387.2.2.2 = S361.2.2.2 := by rw [h388]; exact tN_w
            have h394 := Imp_m h377.2.2.2.2.2.2.2.2.2.2.2.2.2.2.2.2.2.2.2.2.2.2.2.1 (by omega)
            have h395 := Imp_m h377.2.2.2.2.2.2.2.2.2.2.2.2.2.2.2.2.2.2.2.2.2.2.2.2.1 (by omega)
            have h396 := Imp_m h377.2.2.2.2.2.2.2.2.2.2.2.2.2.2.2.2.2.2.2.2.2.2.2.2.2.1 (by omega)
            refine En_Ps 2 (pc' := 106) (lv' := [(2, .int z382), (1, .int z264), (0, .ref 159)]) (st' := [.ref 159]) rfl ?_
            refine En_callV rfl rfl rfl rfl rfl rfl rfl rfl (by decide +kernel : TG 159 = 35) (by decide +kernel) rfl (c_237 σ374 h375 z380 h381) (by decide) (by decide) (fun v398 σ399 h397 => ?_)
            obtain ⟨h400, h401, z403, rfl, h402⟩ := h397
            obtain rfl : σ374 = σ399 := Fr_nil h401
            refine En_iEq _ rfl rfl (fun h404 => ?_) (fun hx => by exfalso; omega)
            have h405 := Imp_m h402.2.2.2 (by omega)
            exact En_ret (v := none) rfl rfl rfl ⟨h375, h384, z378, h379, z380, h381, rfl, ⟨by omega, by omega, by omega, by omega, by omega, by omega, by omega, by omega, by omega, by omega, by omega, by omega, by omega, fun _ => by omega, ⟨h385, ML_eq h389 (by unfold gTwin; dsimp only; rw [h250, ← h270, h368, ← h388]; first | done | rfl | (rw [if_pos (by omega)]; first | done | rfl) | (rw [if_neg (by omega)]; first | done | rfl))⟩⟩⟩
          · refine En_Ps 2 (pc' := 77) (lv' := [(1, .int z264), (0, .ref 159)]) (st' := [.ref 159, .ref 159]) rfl ?_
            refine En_getK (j := 11) h283 rfl rfl rfl (by decide +kernel : TG 159 = 35) (by decide +kernel) ?_
            refine En_callV rfl rfl rfl rfl rfl rfl rfl rfl (by decide +kernel : TG 159 = 35) (by decide +kernel) rfl (c_217x σ256 h257 z284 (geI rfl (by omega)) (leI rfl (by omega))) (by decide) (by decide) (fun v407 σ408 h406 => ?_)
            obtain ⟨h409, h410, z412, rfl, h411⟩ := h406
            have h413 := h411.2.2
            obtain rfl : σ256 = σ408 := Fr_nil h410
            have h414 := h413
            have h415 : ci σ256 165 (13 + 4 * z284.toInt) = S269.2.2.2 (13 + 4 * tV By Nb S269.2.2.1) := ML_ci h271 (by omega) (by omega) (by omega) (by omega)
            refine En_iEq _ rfl rfl (fun h416 => ?_) (fun h416 => ?_)
            · have h417 : gTw2 By Nb (tV By Nb Sp.2.2.1) S269 = S269 := by unfold gTw2; (repeat' split) <;> first | rfl | (exfalso; omega) | ((try have i0 := Imp_m h288 (by omega)); (try have i1 := Imp_m h274 (by omega)); (try have i2 := Imp_m h273 (by omega)); (try have i3 := Imp_m h10 (by omega)); (try have i4 := Imp_m h11 (by omega)); (try have i5 := Imp_m h289 (by omega)); exfalso; omega)
              refine En_Ps 3 (pc' := 94) (lv' := [(1, .int z264), (0, .ref 159)]) (st' := [.ref 159, .int ((Int32.ofInt 0)), .ref 159]) rfl ?_
              refine En_getK (j := 14) ((h258 _ _ (inW (by decide +kernel : TG 159 = 35) (by decide +kernel))).trans h19) rfl rfl rfl (by decide +kernel : TG 159 = 35) (by decide +kernel) ?_
              refine En_Ps 1 (pc' := 98) (lv' := [(1, .int z264), (0, .ref 159)]) (st' := [.int ((Int32.ofInt 2)), .ref 165, .int ((Int32.ofInt 0)), .ref 159]) rfl ?_
              refine En_ialdK ((h258 _ _ (inWa (by decide +kernel : TG 165 = 41) (by decide +kernel))).trans h12) rfl (by decide : (Int32.ofInt 2).toInt = 2) (by decide +kernel : TG 165 = 41) (by decide +kernel) h257 (by omega) (lnI (by decide +kernel : LN _ = 226) (by omega)) ?_
              refine En_Ps 2 (pc' := 101) (lv' := [(1, .int z264), (0, .ref 159)]) (st' := [.int ((z13 - ((Int32.ofInt 1)))), .int ((Int32.ofInt 0)), .ref 159]) rfl ?_
              refine En_top (subI rfl (by decide : (Int32.ofInt 1).toInt = 1) (by omega) (by omega)) (fun z419 h420 => ?_)
              have := (by decide : ((Int32.ofInt 0)).toInt = 0)
              refine En_callV rfl rfl rfl rfl rfl rfl rfl rfl (by decide +kernel : TG 159 = 35) (by decide +kernel) rfl (c_288x σ256 h257 ((Int32.ofInt 0)) z419 (geI (by decide : (Int32.ofInt 0).toInt = 0) (by omega)) (leI (by decide : (Int32.ofInt 0).toInt = 0) (by omega)) (geI rfl (by omega)) (leI rfl (by omega)) z260 h261 z262 h263 z280 h279 z284 h283 h271) (by decide) (by decide) (fun v422 σ423 h421 => ?_)
              obtain ⟨h424, h425, z427, h428, z429, h430, z431, rfl, h426⟩ := h421
              have h432 := h426.2.2.2.2.2.2.2.2.2.2.2.2.2.2.2.2.2.2.2.2.2.2.2.2.2.2.2.2
              have h433 := Fr_trans h266 h425 (by decide +kernel)
              have h434 := KF_fr h267 h425 (by decide +kernel)
              have h435 : tN By Nb ((Int32.ofInt 0)).toInt z419.toInt S269 = tN By Nb (0) (Sp.2.2.2 2 - 1) S269 := tN_cg2 (fun zz => by have j1 := Imp_m h273 zz; have j2 := Imp_m h274 zz; have j3 := Imp_m h10 j2.1; have j4 := Imp_m h11 ⟨j2.1, j2.2.1⟩; have j5 := Imp_m h288 zz; omega) (fun zz => by have j1 := Imp_m h273 zz; have j2 := Imp_m h274 zz; have j3 := Imp_m h10 j2.1; have j4 := Imp_m h11 ⟨j2.1, j2.2.1⟩; have j5 := Imp_m h288 zz; omega)
              obtain ⟨S436, h437⟩ : ∃ q : PS, q = tN By Nb (0) (Sp.2.2.2 2 - 1) S269 := ⟨_, rfl⟩
              have h438 : ML By Nb σ423 S436 := by rw [h437]; exact (ML_eq h432.1 h435)
              have h439 := ML_k h438 h430
              have h440 : Imp (S436.1 = 0) (z431.toInt = tV By Nb S269.2.2.1) := fun z => h432.2 (by rw [h435, ← h437]; exact z)
              have h441 : Imp (S436.1 = 0) (S269.1 = 0 ∧ tK By Nb S269.2.2.1 = 2 ∧ 0 ≤ tV By Nb S269.2.2.1 ∧ tV By Nb S269.2.2.1 ≤ Sp.2.2.2 2 - 1) := fun z => tN_gg (by rw [← h437]; exact z)
              have h442 : S436.2.2.2 = S269.2.2.2 := by rw [h437]; exact tN_w
              have h443 := Imp_m h426.2.2.2.2.2.2.2.2.2.2.2.2.2.2.2.2.2.2.2.2.2.2.2.1 (by omega)
              have h444 := Imp_m h426.2.2.2.2.2.2.2.2.2.2.2.2.2.2.2.2.2.2.2.2.2.2.2.2.1 (by omega)
              have h445 := Imp_m h426.2.2.2.2.2.2.2.2.2.2.2.2.2.2.2.2.2.2.2.2.2.2.2.2.2.1 (by omega)
              refine En_Ps 2 (pc' := 106) (lv' := [(2, .int z431), (1, .int z264), (0, .ref 159)]) (st' := [.ref 159]) rfl ?_
              refine En_callV rfl rfl rfl rfl rfl rfl rfl rfl (by decide +kernel : TG 159 = 35) (by decide +kernel) rfl (c_237 σ423 h424 z429 h430) (by decide) (by decide) (fun v447 σ448 h446 => ?_)
              obtain ⟨h449, h450, z452, rfl, h451⟩ := h446
              obtain rfl : σ423 = σ448 := Fr_nil h450
              refine En_iEq _ rfl rfl (fun h453 => ?_) (fun h453 => ?_)
              · have h454 := Imp_m h451.2.2.2 (by omega)
                exact En_ret (v := none) rfl rfl rfl ⟨h424, h433, z427, h428, z429, h430, rfl, ⟨by omega, by omega, by omega, by omega, by omega, by omega, by omega, by omega, by omega, by omega, by omega, by omega, by omega, fun _ => by omega, ⟨h434, ML_eq h438 (by unfold gTwin; dsimp only; rw [h250, ← h270, h417, ← h437]; first | done | rfl | (rw [if_pos (by omega)]; first | done | rfl) | (rw [if_neg (by omega)]; first | done | rfl))⟩⟩⟩
              · have h455 := Imp_m h451.2.2.1 (by omega)
                have h456 := Imp_m h426.2.2.2.2.2.2.2.2.2.2.2.2.2.2.2.2.2.2.2.2.2.2.2.2.2.2.2.1 (by omega)
                have h457 : S436.1 = 0 := by omega
                have h458 := Imp_m h440 h457
                have h459 := Imp_m h441 h457
                have h460 := Imp_m h273 h459.1
                have h461 := Imp_m h274 h459.1
                have h462 := Imp_m h10 h461.1
                have h463 := Imp_m h11 ⟨h461.1, h461.2.1⟩
                have h464 := Imp_m h288 h459.1
                have h465 := Imp_m h289 ⟨h459.1, h459.2.1⟩
                refine En_Ps 1 (pc' := 113) (lv' := [(2, .int z431), (1, .int z264), (0, .ref 159)]) (st' := [.ref 159]) rfl ?_
                refine En_getK (j := 14) ((h425 _ _ (inW (by decide +kernel : TG 159 = 35) (by decide +kernel))).trans ((h258 _ _ (inW (by decide +kernel : TG 159 = 35) (by decide +kernel))).trans h19)) rfl rfl rfl (by decide +kernel : TG 159 = 35) (by decide +kernel) ?_
                refine En_Ps 4 (pc' := 121) (lv' := [(2, .int z431), (1, .int z264), (0, .ref 159)]) (st' := [.int ((((Int32.ofInt 4)) * z264)), .int (((Int8.ofInt 10).toInt32)), .ref 165]) rfl ?_
                refine En_top (mulI (by decide : (Int32.ofInt 4).toInt = 4) rfl (Z := 4 * z264.toInt) (by omega) (by omega) (by omega)) (fun z466 h467 => ?_)
                refine En_Ps 1 (pc' := 122) (lv' := [(2, .int z431), (1, .int z264), (0, .ref 159)]) (st' := [.int (((((Int8.ofInt 10).toInt32)) + z466)), .ref 165]) rfl ?_
                refine En_top (addI (by decide : ((Int8.ofInt 10).toInt32).toInt = 10) rfl (by omega) (by omega)) (fun z468 h469 => ?_)
                refine En_Ps 2 (pc' := 124) (lv' := [(2, .int z431), (1, .int z264), (0, .ref 159)]) (st' := [.int ((z468 + ((Int32.ofInt 3)))), .ref 165]) rfl ?_
                refine En_top (addI rfl (by decide : (Int32.ofInt 3).toInt = 3) (by omega) (by omega)) (fun z470 h471 => ?_)
                refine En_Ps 1 (pc' := 125) (lv' := [(2, .int z431), (1, .int z264), (0, .ref 159)]) (st' := [.int z431, .int z470, .ref 165]) rfl ?_
                refine En_iast (l := (-1)) (u := 3) rfl rfl (by decide +kernel : TG 165 = 41) (by decide +kernel) (by omega) (lnI (by decide +kernel : LN _ = 226) (by omega)) (FTrow 41 13 4 4 (by decide +kernel) (by omega) (by omega) (by omega)) (rngI rfl (by omega) (by omega)) h424 h433 (by decide +kernel) (fun σ472 h473 h474 h475 h476 => ?_)
                have h477 := KF_st h434 (J := z470.toInt) h476 (by omega) (by omega)
                obtain ⟨S478, h479⟩ : ∃ q : PS, q = wst S436 (13 + 4 * (tV By Nb Sp.2.2.1)) ((tV By Nb S269.2.2.1)) := ⟨_, rfl⟩
                have h480 : ML By Nb σ472 S478 := by rw [h479]; exact (ML_wst (i := 13 + 4 * (tV By Nb Sp.2.2.1)) (v := (tV By Nb S269.2.2.1)) h438 h475 h476 (by omega) (fun z => by have j1 := Imp_m h440 z; have j2 := Imp_m h441 z; have j3 := Imp_m h273 j2.1; have j4 := Imp_m h274 j2.1; have j5 := Imp_m h10 j4.1; have j6 := Imp_m h11 ⟨j4.1, j4.2.1⟩; have j7 := Imp_m h288 j2.1; have j8 := Imp_m h289 ⟨j2.1, j2.2.1⟩; exact ⟨by omega, by omega⟩))
                have h481 := ML_k h480 ((h476 _ _ (Or.inl (neTG (by decide +kernel : TG 159 = 35) (by decide +kernel : TG 165 = 41) (by decide)))).trans h430)
                have h482 : S478.1 = S436.1 := by rw [h479]; rfl
                exact En_ret (v := none) rfl rfl rfl ⟨h473, h474, z427, ((h476 _ _ (Or.inl (neTG (by decide +kernel : TG 159 = 35) (by decide +kernel : TG 165 = 41) (by decide)))).trans h428), z429, ((h476 _ _ (Or.inl (neTG (by decide +kernel : TG 159 = 35) (by decide +kernel : TG 165 = 41) (by decide)))).trans h430), rfl, ⟨by omega, by omega, by omega, by omega, by omega, by omega, by omega, by omega, by omega, by omega, by omega, by omega, by omega, fun _ => by omega, ⟨h477, ML_eq h480 (by unfold gTwin; dsimp only; rw [h250, ← h270, h417, ← h437, ← h479]; first | done | rfl | (rw [if_pos (by omega)]; first | done | rfl) | (rw [if_neg (by omega)]; first | done | rfl))⟩⟩⟩
            · refine En_Ps 2 (pc' := 88) (lv' := [(1, .int z264), (0, .ref 159)]) (st' := [.int ((Int32.ofInt 2)), .ref 159]) rfl ?_
              have := (by decide : ((Int32.ofInt 2)).toInt = 2)
              refine En_callV rfl rfl rfl rfl rfl rfl rfl rfl (by decide +kernel : TG 159 = 35) (by decide +kernel) rfl (c_223x σ256 h257 ((Int32.ofInt 2)) (geI (by decide : (Int32.ofInt 2).toInt = 2) (by omega)) (leI (by decide : (Int32.ofInt 2).toInt = 2) (by omega)) z262 h263 h271) (by decide) (by decide) (fun v484 σ485 h483 => ?_)
              obtain ⟨h486, h487, z489, h490, rfl, h488⟩ := h483
              have h491 := h488.2.2.2.2.2
              have h492 := Fr_trans h266 h487 (by decide +kernel)
              have h493 := KF_fr h267 h487 (by decide +kernel)
              obtain ⟨S494, h495⟩ : ∃ q : PS, q = err By Nb 2 S269 := ⟨_, rfl⟩
              have h496 : ML By Nb σ485 S494 := by rw [h495]; exact (ML_eq h491 (err_cg (by omega)))
              have h497 := ML_k h496 h490
              have h498 : Imp (S494.1 = 0) (tK By Nb S494.2.2.1 = z280.toInt) := ML_t h496 ((h487 _ _ (inW (by decide +kernel : TG 159 = 35) (by decide +kernel))).trans h279)
              have h499 : Imp (S494.1 = 0 ∧ tK By Nb S494.2.2.1 = 2) (z284.toInt = min 99999 (tV By Nb S494.2.2.1) ∧ 0 ≤ tV By Nb S494.2.2.1) := fun q => ML_u h496 ((h487 _ _ (inW (by decide +kernel : TG 159 = 35) (by decide +kernel))).trans h283) q.1 q.2
              have h500 : S494.2.2.2 = S269.2.2.2 := by rw [h495]; exact err_w
              have h501 : gTw2 By Nb (tV By Nb Sp.2.2.1) S269 = S494 := by rw [h495]; unfold gTw2; (repeat' split) <;> first | rfl | (exfalso; omega) | ((try have i0 := Imp_m h498 (by omega)); (try have i1 := Imp_m h288 (by omega)); (try have i2 := Imp_m h274 (by omega)); (try have i3 := Imp_m h273 (by omega)); (try have i4 := Imp_m h10 (by omega)); (try have i5 := Imp_m h11 (by omega)); (try have i6 := Imp_m h289 (by omega)); (try have i7 := Imp_m h499 (by omega)); exfalso; omega)
              refine En_Ps 3 (pc' := 94) (lv' := [(1, .int z264), (0, .ref 159)]) (st' := [.ref 159, .int ((Int32.ofInt 0)), .ref 159]) rfl ?_
              refine En_getK (j := 14) ((h487 _ _ (inW (by decide +kernel : TG 159 = 35) (by decide +kernel))).trans ((h258 _ _ (inW (by decide +kernel : TG 159 = 35) (by decide +kernel))).trans h19)) rfl rfl rfl (by decide +kernel : TG 159 = 35) (by decide +kernel) ?_
              refine En_Ps 1 (pc' := 98) (lv' := [(1, .int z264), (0, .ref 159)]) (st' := [.int ((Int32.ofInt 2)), .ref 165, .int ((Int32.ofInt 0)), .ref 159]) rfl ?_
              refine En_ialdK ((h487 _ _ (inWa (by decide +kernel : TG 165 = 41) (by decide +kernel))).trans ((h258 _ _ (inWa (by decide +kernel : TG 165 = 41) (by decide +kernel))).trans h12)) rfl (by decide : (Int32.ofInt 2).toInt = 2) (by decide +kernel : TG 165 = 41) (by decide +kernel) h486 (by omega) (lnI (by decide +kernel : LN _ = 226) (by omega)) ?_
              refine En_Ps 2 (pc' := 101) (lv' := [(1, .int z264), (0, .ref 159)]) (st' := [.int ((z13 - ((Int32.ofInt 1)))), .int ((Int32.ofInt 0)), .ref 159]) rfl ?_
              refine En_top (subI rfl (by decide : (Int32.ofInt 1).toInt = 1) (by omega) (by omega)) (fun z503 h504 => ?_)
              have := (by decide : ((Int32.ofInt 0)).toInt = 0)
              refine En_callV rfl rfl rfl rfl rfl rfl rfl rfl (by decide +kernel : TG 159 = 35) (by decide +kernel) rfl (c_288x σ485 h486 ((Int32.ofInt 0)) z503 (geI (by decide : (Int32.ofInt 0).toInt = 0) (by omega)) (leI (by decide : (Int32.ofInt 0).toInt = 0) (by omega)) (geI rfl (by omega)) (leI rfl (by omega)) z260 ((h487 _ _ (inW (by decide +kernel : TG 159 = 35) (by decide +kernel))).trans h261) z489 h490 z280 ((h487 _ _ (inW (by decide +kernel : TG 159 = 35) (by decide +kernel))).trans h279) z284 ((h487 _ _ (inW (by decide +kernel : TG 159 = 35) (by decide +kernel))).trans h283) h496) (by decide) (by decide) (fun v506 σ507 h505 => ?_)
              obtain ⟨h508, h509, z511, h512, z513, h514, z515, rfl, h510⟩ := h505
              have h516 := h510.2.2.2.2.2.2.2.2.2.2.2.2.2.2.2.2.2.2.2.2.2.2.2.2.2.2.2.2
              have h517 := Fr_trans h492 h509 (by decide +kernel)
              have h518 := KF_fr h493 h509 (by decide +kernel)
              have h519 : tN By Nb ((Int32.ofInt 0)).toInt z503.toInt S494 = tN By Nb (0) (Sp.2.2.2 2 - 1) S494 := tN_cg2 (fun zz => by have j1 := Imp_m h498 zz; omega) (fun zz => by have j1 := Imp_m h498 zz; omega)
              obtain ⟨S520, h521⟩ : ∃ q : PS, q = tN By Nb (0) (Sp.2.2.2 2 - 1) S494 := ⟨_, rfl⟩
              have h522 : ML By Nb σ507 S520 := by rw [h521]; exact (ML_eq h516.1 h519)
              have h523 := ML_k h522 h514
              have h524 : Imp (S520.1 = 0) (z515.toInt = tV By Nb S494.2.2.1) := fun z => h516.2 (by rw [h519, ← h521]; exact z)
              have h525 : Imp (S520.1 = 0) (S494.1 = 0 ∧ tK By Nb S494.2.2.1 = 2 ∧ 0 ≤ tV By Nb S494.2.2.1 ∧ tV By Nb S494.2.2.1 ≤ Sp.2.2.2 2 - 1) := fun z => tN_gg (by rw [← h521]; exact z)
              have h526 : S520.2.2.2 = S494.2.2.2 := by rw [h521]; exact tN_w
              have h527 := Imp_m h510.2.2.2.2.2.2.2.2.2.2.2.2.2.2.2.2.2.2.2.2.2.2.2.1 (by omega)
              have h528 := Imp_m h510.2.2.2.2.2.2.2.2.2.2.2.2.2.2.2.2.2.2.2.2.2.2.2.2.1 (by omega)
              have h529 := Imp_m h510.2.2.2.2.2.2.2.2.2.2.2.2.2.2.2.2.2.2.2.2.2.2.2.2.2.1 (by omega)
              refine En_Ps 2 (pc' := 106) (lv' := [(2, .int z515), (1, .int z264), (0, .ref 159)]) (st' := [.ref 159]) rfl ?_
              refine En_callV rfl rfl rfl rfl rfl rfl rfl rfl (by decide +kernel : TG 159 = 35) (by decide +kernel) rfl (c_237 σ507 h508 z513 h514) (by decide) (by decide) (fun v531 σ532 h530 => ?_)
              obtain ⟨h533, h534, z536, rfl, h535⟩ := h530
              obtain rfl : σ507 = σ532 := Fr_nil h534
              refine En_iEq _ rfl rfl (fun h537 => ?_) (fun hx => by exfalso; omega)
              have h538 := Imp_m h535.2.2.2 (by omega)
              exact En_ret (v := none) rfl rfl rfl ⟨h508, h517, z511, h512, z513, h514, rfl, ⟨by omega, by omega, by omega, by omega, by omega, by omega, by omega, by omega, by omega, by omega, by omega, by omega, by omega, fun _ => by omega, ⟨h518, ML_eq h522 (by unfold gTwin; dsimp only; rw [h250, ← h270, h501, ← h521]; first | done | rfl | (rw [if_pos (by omega)]; first | done | rfl) | (rw [if_neg (by omega)]; first | done | rfl))⟩⟩⟩
      · have h539 := Imp_m h244.2.2.1 (by omega)
        refine En_Ps 2 (pc' := 37) (lv' := [(0, .ref 159)]) (st' := [.int ((Int32.ofInt 2)), .ref 159]) rfl ?_
        have := (by decide : ((Int32.ofInt 2)).toInt = 2)
        refine En_callV rfl rfl rfl rfl rfl rfl rfl rfl (by decide +kernel : TG 159 = 35) (by decide +kernel) rfl (c_223x σ0 hσ0 ((Int32.ofInt 2)) (geI (by decide : (Int32.ofInt 2).toInt = 2) (by omega)) (leI (by decide : (Int32.ofInt 2).toInt = 2) (by omega)) k h_k hM) (by decide) (by decide) (fun v541 σ542 h540 => ?_)
        obtain ⟨h543, h544, z546, h547, rfl, h545⟩ := h540
        have h548 := h545.2.2.2.2.2
        have h549 := Fr_trans hF0 h544 (by decide +kernel)
        have h550 := KF_fr (KF_0 (σ := σ0)) h544 (by decide +kernel)
        obtain ⟨S551, h552⟩ : ∃ q : PS, q = err By Nb 2 Sp := ⟨_, rfl⟩
        have h553 : ML By Nb σ542 S551 := by rw [h552]; exact (ML_eq h548 (err_cg (by omega)))
        have h554 := ML_k h553 h547
        have h555 : Imp (S551.1 = 0) (tK By Nb S551.2.2.1 = z2.toInt) := ML_t h553 ((h544 _ _ (inW (by decide +kernel : TG 159 = 35) (by decide +kernel))).trans h1)
        have h556 : Imp (S551.1 = 0 ∧ tK By Nb S551.2.2.1 = 2) (z6.toInt = min 99999 (tV By Nb S551.2.2.1) ∧ 0 ≤ tV By Nb S551.2.2.1) := fun q => ML_u h553 ((h544 _ _ (inW (by decide +kernel : TG 159 = 35) (by decide +kernel))).trans h5) q.1 q.2
        have h557 : S551.2.2.2 = Sp.2.2.2 := by rw [h552]; exact err_w
        have h558 : gTw1 By Nb Sp = S551 := by rw [h552]; unfold gTw1; (repeat' split) <;> first | rfl | (exfalso; omega) | ((try have i0 := Imp_m h555 (by omega)); (try have i1 := Imp_m h10 (by omega)); (try have i2 := Imp_m h11 (by omega)); (try have i3 := Imp_m h556 (by omega)); exfalso; omega)
        refine En_Ps 3 (pc' := 43) (lv' := [(0, .ref 159)]) (st' := [.ref 159, .int ((Int32.ofInt 0)), .ref 159]) rfl ?_
        refine En_getK (j := 14) ((h544 _ _ (inW (by decide +kernel : TG 159 = 35) (by decide +kernel))).trans h19) rfl rfl rfl (by decide +kernel : TG 159 = 35) (by decide +kernel) ?_
        refine En_Ps 1 (pc' := 47) (lv' := [(0, .ref 159)]) (st' := [.int ((Int32.ofInt 2)), .ref 165, .int ((Int32.ofInt 0)), .ref 159]) rfl ?_
        refine En_ialdK ((h544 _ _ (inWa (by decide +kernel : TG 165 = 41) (by decide +kernel))).trans h12) rfl (by decide : (Int32.ofInt 2).toInt = 2) (by decide +kernel : TG 165 = 41) (by decide +kernel) h543 (by omega) (lnI (by decide +kernel : LN _ = 226) (by omega)) ?_
        refine En_Ps 2 (pc' := 50) (lv' := [(0, .ref 159)]) (st' := [.int ((z13 - ((Int32.ofInt 1)))), .int ((Int32.ofInt 0)), .ref 159]) rfl ?_
        refine En_top (subI rfl (by decide : (Int32.ofInt 1).toInt = 1) (by omega) (by omega)) (fun z560 h561 => ?_)
        have := (by decide : ((Int32.ofInt 0)).toInt = 0)
        refine En_callV rfl rfl rfl rfl rfl rfl rfl rfl (by decide +kernel : TG 159 = 35) (by decide +kernel) rfl (c_288x σ542 h543 ((Int32.ofInt 0)) z560 (geI (by decide : (Int32.ofInt 0).toInt = 0) (by omega)) (leI (by decide : (Int32.ofInt 0).toInt = 0) (by omega)) (geI rfl (by omega)) (leI rfl (by omega)) f ((h544 _ _ (inW (by decide +kernel : TG 159 = 35) (by decide +kernel))).trans h_f) z546 h547 z2 ((h544 _ _ (inW (by decide +kernel : TG 159 = 35) (by decide +kernel))).trans h1) z6 ((h544 _ _ (inW (by decide +kernel : TG 159 = 35) (by decide +kernel))).trans h5) h553) (by decide) (by decide) (fun v563 σ564 h562 => ?_)
        obtain ⟨h565, h566, z568, h569, z570, h571, z572, rfl, h567⟩ := h562
        have h573 := h567.2.2.2.2.2.2.2.2.2.2.2.2.2.2.2.2.2.2.2.2.2.2.2.2.2.2.2.2
        have h574 := Fr_trans h549 h566 (by decide +kernel)
        have h575 := KF_fr h550 h566 (by decide +kernel)
        have h576 : tN By Nb ((Int32.ofInt 0)).toInt z560.toInt S551 = tN By Nb (0) (Sp.2.2.2 2 - 1) S551 := tN_cg2 (fun zz => by have j1 := Imp_m h555 zz; omega) (fun zz => by have j1 := Imp_m h555 zz; omega)
        obtain ⟨S577, h578⟩ : ∃ q : PS, q = tN By Nb (0) (Sp.2.2.2 2 - 1) S551 := ⟨_, rfl⟩
        have h579 : ML By Nb σ564 S577 := by rw [h578]; exact (ML_eq h573.1 h576)
        have h580 := ML_k h579 h571
        have h581 : Imp (S577.1 = 0) (z572.toInt = tV By Nb S551.2.2.1) := fun z => h573.2 (by rw [h576, ← h578]; exact z)
        have h582 : Imp (S577.1 = 0) (S551.1 = 0 ∧ tK By Nb S551.2.2.1 = 2 ∧ 0 ≤ tV By Nb S551.2.2.1 ∧ tV By Nb S551.2.2.1 ≤ Sp.2.2.2 2 - 1) := fun z => tN_gg (by rw [← h578]; exact z)
        have h583 : S577.2.2.2 = S551.2.2.2 := by rw [h578]; exact tN_w
        have h584 := Imp_m h567.2.2.2.2.2.2.2.2.2.2.2.2.2.2.2.2.2.2.2.2.2.2.2.1 (by omega)
        have h585 := Imp_m h567.2.2.2.2.2.2.2.2.2.2.2.2.2.2.2.2.2.2.2.2.2.2.2.2.1 (by omega)
        have h586 := Imp_m h567.2.2.2.2.2.2.2.2.2.2.2.2.2.2.2.2.2.2.2.2.2.2.2.2.2.1 (by omega)
        refine En_Ps 1 (pc' := 54) (lv' := [(1, .int z572), (0, .ref 159)]) (st' := []) rfl ?_
        obtain ⟨z588, h587, h589, h590⟩ := WT_peekI h565 (by decide +kernel : TG 159 = 35) (by decide +kernel : FT 35 10 = (0, 0, 4)) (by decide +kernel)
        obtain ⟨z592, h591, h593, h594⟩ := WT_peekI h565 (by decide +kernel : TG 159 = 35) (by decide +kernel : FT 35 11 = (0, 0, 99999)) (by decide +kernel)
        have h595 := ML_k h579 h571
        have h596 : Imp (S577.1 = 0) (tK By Nb S577.2.2.1 = z588.toInt) := ML_t h579 h587
        have h597 : Imp (S577.1 = 0 ∧ tK By Nb S577.2.2.1 = 2) (z592.toInt = min 99999 (tV By Nb S577.2.2.1) ∧ 0 ≤ tV By Nb S577.2.2.1) := fun q => ML_u h579 h591 q.1 q.2
        have h598 : S577.2.2.2 2 = Sp.2.2.2 2 := by rw [h583, h557]
        refine En_Ps 2 (pc' := 56) (lv' := [(1, .int z572), (0, .ref 159)]) (st' := [.ref 159, .ref 159]) rfl ?_
        refine En_getK (j := 14) ((h566 _ _ (inW (by decide +kernel : TG 159 = 35) (by decide +kernel))).trans ((h544 _ _ (inW (by decide +kernel : TG 159 = 35) (by decide +kernel))).trans h19)) rfl rfl rfl (by decide +kernel : TG 159 = 35) (by decide +kernel) ?_
        refine En_Ps 1 (pc' := 60) (lv' := [(1, .int z572), (0, .ref 159)]) (st' := [.int ((Int32.ofInt 2)), .ref 165, .ref 159]) rfl ?_
        refine En_ialdK ((h566 _ _ (inWa (by decide +kernel : TG 165 = 41) (by decide +kernel))).trans ((h544 _ _ (inWa (by decide +kernel : TG 165 = 41) (by decide +kernel))).trans h12)) rfl (by decide : (Int32.ofInt 2).toInt = 2) (by decide +kernel : TG 165 = 41) (by decide +kernel) h565 (by omega) (lnI (by decide +kernel : LN _ = 226) (by omega)) ?_
        refine En_callV rfl rfl rfl rfl rfl rfl rfl rfl (by decide +kernel : TG 159 = 35) (by decide +kernel) rfl (c_260x σ564 h565 z13 z570 h571 z588 h587 z592 h591) (by decide) (by decide) (fun v601 σ602 h600 => ?_)
        obtain ⟨h603, h604, z606, rfl, h605⟩ := h600
        obtain rfl : σ564 = σ602 := Fr_nil h604
        refine En_iEq _ rfl rfl (fun h607 => ?_) (fun hx => by exfalso; omega)
        have h608 : gTw2 By Nb (tV By Nb S551.2.2.1) S577 = S577 := by unfold gTw2; (repeat' split) <;> first | rfl | (exfalso; omega) | ((try have i0 := Imp_m h596 (by omega)); (try have i1 := Imp_m h582 (by omega)); (try have i2 := Imp_m h581 (by omega)); (try have i3 := Imp_m h555 (by omega)); (try have i4 := Imp_m h10 (by omega)); (try have i5 := Imp_m h11 (by omega)); (try have i6 := Imp_m h556 (by omega)); (try have i7 := Imp_m h597 (by omega)); exfalso; omega)
        refine En_Ps 3 (pc' := 94) (lv' := [(1, .int z572), (0, .ref 159)]) (st' := [.ref 159, .int ((Int32.ofInt 0)), .ref 159]) rfl ?_
        refine En_getK (j := 14) ((h566 _ _ (inW (by decide +kernel : TG 159 = 35) (by decide +kernel))).trans ((h544 _ _ (inW (by decide +kernel : TG 159 = 35) (by decide +kernel))).trans h19)) rfl rfl rfl (by decide +kernel : TG 159 = 35) (by decide +kernel) ?_
        refine En_Ps 1 (pc' := 98) (lv' := [(1, .int z572), (0, .ref 159)]) (st' := [.int ((Int32.ofInt 2)), .ref 165, .int ((Int32.ofInt 0)), .ref 159]) rfl ?_
        refine En_ialdK ((h566 _ _ (inWa (by decide +kernel : TG 165 = 41) (by decide +kernel))).trans ((h544 _ _ (inWa (by decide +kernel : TG 165 = 41) (by decide +kernel))).trans h12)) rfl (by decide : (Int32.ofInt 2).toInt = 2) (by decide +kernel : TG 165 = 41) (by decide +kernel) h565 (by omega) (lnI (by decide +kernel : LN _ = 226) (by omega)) ?_
        refine En_Ps 2 (pc' := 101) (lv' := [(1, .int z572), (0, .ref 159)]) (st' := [.int ((z13 - ((Int32.ofInt 1)))), .int ((Int32.ofInt 0)), .ref 159]) rfl ?_
        refine En_top (subI rfl (by decide : (Int32.ofInt 1).toInt = 1) (by omega) (by omega)) (fun z610 h611 => ?_)
        have := (by decide : ((Int32.ofInt 0)).toInt = 0)
        refine En_callV rfl rfl rfl rfl rfl rfl rfl rfl (by decide +kernel : TG 159 = 35) (by decide +kernel) rfl (c_288x σ564 h565 ((Int32.ofInt 0)) z610 (geI (by decide : (Int32.ofInt 0).toInt = 0) (by omega)) (leI (by decide : (Int32.ofInt 0).toInt = 0) (by omega)) (geI rfl (by omega)) (leI rfl (by omega)) z568 h569 z570 h571 z588 h587 z592 h591 h579) (by decide) (by decide) (fun v613 σ614 h612 => ?_)
        obtain ⟨h615, h616, z618, h619, z620, h621, z622, rfl, h617⟩ := h612
        have h623 := h617.2.2.2.2.2.2.2.2.2.2.2.2.2.2.2.2.2.2.2.2.2.2.2.2.2.2.2.2
        have h624 := Fr_trans h574 h616 (by decide +kernel)
        have h625 := KF_fr h575 h616 (by decide +kernel)
        have h626 : tN By Nb ((Int32.ofInt 0)).toInt z610.toInt S577 = tN By Nb (0) (Sp.2.2.2 2 - 1) S577 := tN_cg2 (fun zz => by have j1 := Imp_m h581 zz; have j2 := Imp_m h582 zz; have j3 := Imp_m h555 j2.1; have j4 := Imp_m h556 ⟨j2.1, j2.2.1⟩; have j5 := Imp_m h596 zz; omega) (fun zz => by have j1 := Imp_m h581 zz; have j2 := Imp_m h582 zz; have j3 := Imp_m h555 j2.1; have j4 := Imp_m h556 ⟨j2.1, j2.2.1⟩; have j5 := Imp_m h596 zz; omega)
        obtain ⟨S627, h628⟩ : ∃ q : PS, q = tN By Nb (0) (Sp.2.2.2 2 - 1) S577 := ⟨_, rfl⟩
        have h629 : ML By Nb σ614 S627 := by rw [h628]; exact (ML_eq h623.1 h626)
        have h630 := ML_k h629 h621
        have h631 : Imp (S627.1 = 0) (z622.toInt = tV By Nb S577.2.2.1) := fun z => h623.2 (by rw [h626, ← h628]; exact z)
        have h632 : Imp (S627.1 = 0) (S577.1 = 0 ∧ tK By Nb S577.2.2.1 = 2 ∧ 0 ≤ tV By Nb S577.2.2.1 ∧ tV By Nb S577.2.2.1 ≤ Sp.2.2.2 2 - 1) := fun z => tN_gg (by rw [← h628]; exact z)
        have h633 : S627.2.2.2 = S577.2.2.2 := by rw [h628]; exact tN_w
        have h634 := Imp_m h617.2.2.2.2.2.2.2.2.2.2.2.2.2.2.2.2.2.2.2.2.2.2.2.1 (by omega)
        have h635 := Imp_m h617.2.2.2.2.2.2.2.2.2.2.2.2.2.2.2.2.2.2.2.2.2.2.2.2.1 (by omega)
        have h636 := Imp_m h617.2.2.2.2.2.2.2.2.2.2.2.2.2.2.2.2.2.2.2.2.2.2.2.2.2.1 (by omega)
        refine En_Ps 2 (pc' := 106) (lv' := [(2, .int z622), (1, .int z572), (0, .ref 159)]) (st' := [.ref 159]) rfl ?_
        refine En_callV rfl rfl rfl rfl rfl rfl rfl rfl (by decide +kernel : TG 159 = 35) (by decide +kernel) rfl (c_237 σ614 h615 z620 h621) (by decide) (by decide) (fun v638 σ639 h637 => ?_)
        obtain ⟨h640, h641, z643, rfl, h642⟩ := h637
        obtain rfl : σ614 = σ639 := Fr_nil h641
        refine En_iEq _ rfl rfl (fun h644 => ?_) (fun hx => by exfalso; omega)
        have h645 := Imp_m h642.2.2.2 (by omega)
        exact En_ret (v := none) rfl rfl rfl ⟨h615, h624, z618, h619, z620, h621, rfl, ⟨by omega, by omega, by omega, by omega, by omega, by omega, by omega, by omega, by omega, by omega, by omega, by omega, by omega, fun _ => by omega, ⟨h625, ML_eq h629 (by unfold gTwin; dsimp only; rw [h558, ← h578, h608, ← h628]; first | done | rfl | (rw [if_pos (by omega)]; first | done | rfl) | (rw [if_neg (by omega)]; first | done | rfl))⟩⟩⟩

