/-- DoorSchoolModel.readRule(I)V -/
abbrev P_303ax (σ0 : SG) (By : Int → Int) (Nb : Int) (Sp : PS) (a : Int32) (f : Int32) (k : Int32) : PO := fun v σ => WT σ ∧ Fr [(35, 8), (35, 9), (35, 10), (35, 11), (35, 12), (35, 13), (41, 0)] σ0 σ ∧ ∃ f1 : Int32, (σ 159)[8]? = some (.int f1) ∧ ∃ k1 : Int32, (σ 159)[12]? = some (.int k1) ∧ v = none ∧ -f1.toInt ≤ 0 ∧ f1.toInt - 1600 ≤ 0 ∧ -f1.toInt + f.toInt ≤ 0 ∧ -k1.toInt ≤ 0 ∧ k1.toInt - 3 ≤ 0 ∧ -k1.toInt + k.toInt ≤ 0 ∧ f.toInt - f1.toInt ≤ 0 ∧ Imp (k1.toInt ≤ 0) (k.toInt ≤ 0) ∧ (KR σ0 σ ∧ ML By Nb σ (gRule By Nb a.toInt Sp))
set_option maxRecDepth 10000 in
set_option maxHeartbeats 4000000 in
theorem c_303ax {By : Int → Int} {Nb : Int} {Sp : PS} (σ0 : SG) (hσ0 : WT σ0) (a : Int32) (hl_a : 8 ≤ a.toInt) (hu_a : a.toInt ≤ 8) (f : Int32) (h_f : (σ0 159)[8]? = some (.int f)) (k : Int32) (h_k : (σ0 159)[12]? = some (.int k)) (hM : ML By Nb σ0 Sp) (hg : Sp.1 = 0) : En 4 89 none mr_303 (P_303ax σ0 By Nb Sp a f k) 0 [(0, .ref 159), (1, .int a)] [] σ0 := by
  obtain ⟨hl_f, hu_f⟩ := WT_int hσ0 (g := 35) (by decide +kernel) (by decide +kernel) (l := 0) (u := 1600) (by decide +kernel) h_f
  obtain ⟨hl_k, hu_k⟩ := WT_int hσ0 (g := 35) (by decide +kernel) (by decide +kernel) (l := 0) (u := 3) (by decide +kernel) h_k
  have hF0 : Fr [(35, 8), (35, 9), (35, 10), (35, 11), (35, 12), (35, 13), (41, 0)] σ0 σ0 := Fr_rfl
  have h1 := ML_k hM h_k
  refine En_Ps 1 (pc' := 1) (lv' := [(0, .ref 159), (1, .int a)]) (st' := [.ref 159]) rfl ?_
  refine En_callV rfl rfl rfl rfl rfl rfl rfl rfl tgz_159 (by decide +kernel) rfl (c_234x σ0 hσ0 f h_f k h_k hM) (by decide) (by decide) (fun v3 σ4 h2 => ?_)
  obtain ⟨h5, h6, z8, h9, z10, h11, z12, rfl, h7⟩ := h2
  have h13 := h7.2.2.2.2.2.2.2.2.2.2.2.2
  have h14 := Fr_trans hF0 h6 (by decide +kernel)
  have h15 := KR_fr (KR_0 (σ := σ0)) h6 (by decide +kernel)
  have h16 : tN By Nb 0 (pI (Sp.2.2.2 0) - 1) Sp = tN By Nb 0 (pI (Sp.2.2.2 0) - 1) Sp := tN_cg rfl (by rfl)
  obtain ⟨S17, h18⟩ : ∃ q : PS, q = tN By Nb 0 (pI (Sp.2.2.2 0) - 1) Sp := ⟨_, rfl⟩
  have h19 : ML By Nb σ4 S17 := by rw [h18]; exact (ML_eq h13.1 h16)
  have h20 := ML_k h19 h11
  have h21 : Imp (S17.1 = 0) (z12.toInt = tV By Nb Sp.2.2.1) := fun z => h13.2 (by rw [h16, ← h18]; exact z)
  have h22 : Imp (S17.1 = 0) (Sp.1 = 0 ∧ tK By Nb Sp.2.2.1 = 2 ∧ 0 ≤ tV By Nb Sp.2.2.1 ∧ tV By Nb Sp.2.2.1 ≤ pI (Sp.2.2.2 0) - 1) := fun z => tN_gg (by rw [← h18]; exact z)
  have h23 : S17.2.2.2 = Sp.2.2.2 := by rw [h18]; exact tN_w
  refine En_Ps 1 (pc' := 5) (lv' := [(2, .int z12), (0, .ref 159), (1, .int a)]) (st' := []) rfl ?_
  refine En_Ps 1 (pc' := 6) (lv' := [(2, .int z12), (0, .ref 159), (1, .int a)]) (st' := [.ref 159]) rfl ?_
  refine En_callV rfl rfl rfl rfl rfl rfl rfl rfl tgz_159 (by decide +kernel) rfl (c_237 σ4 h5 z10 h11) (by decide) (by decide) (fun v25 σ26 h24 => ?_)
  obtain ⟨h27, h28, z30, rfl, h29⟩ := h24
  obtain rfl : σ4 = σ26 := Fr_nil h28
  refine En_iEq _ rfl rfl (fun h31 => ?_) (fun h31 => ?_)
  · have h32 : gRl1 By Nb (tV By Nb Sp.2.2.1) S17 = S17 := by unfold gRl1; (repeat' split) <;> first | rfl | (exfalso; omega) | ((try have i0 := Imp_m h22 (by omega)); (try have i1 := Imp_m h21 (by omega)); (try have i2 := Imp_m h7.2.2.2.2.2.2.2.2.2.2.2.1 (by omega)); exfalso; omega)
    refine En_Ps 1 (pc' := 37) (lv' := [(2, .int z12), (0, .ref 159), (1, .int a)]) (st' := [.ref 159]) rfl ?_
    refine En_callV rfl rfl rfl rfl rfl rfl rfl rfl tgz_159 (by decide +kernel) rfl (c_234x σ4 h5 z8 h9 z10 h11 h19) (by decide) (by decide) (fun v34 σ35 h33 => ?_)
    obtain ⟨h36, h37, z39, h40, z41, h42, z43, rfl, h38⟩ := h33
    have h44 := h38.2.2.2.2.2.2.2.2.2.2.2.2
    have h45 := Fr_trans h14 h37 (by decide +kernel)
    have h46 := KR_fr h15 h37 (by decide +kernel)
    have h47 : tN By Nb 0 (pI (S17.2.2.2 0) - 1) S17 = tN By Nb 0 (pI (Sp.2.2.2 0) - 1) S17 := tN_cg rfl (by first | rfl | simp only [h23] | rfl)
    obtain ⟨S48, h49⟩ : ∃ q : PS, q = tN By Nb 0 (pI (Sp.2.2.2 0) - 1) S17 := ⟨_, rfl⟩
    have h50 : ML By Nb σ35 S48 := by rw [h49]; exact (ML_eq h44.1 h47)
    have h51 := ML_k h50 h42
    have h52 : Imp (S48.1 = 0) (z43.toInt = tV By Nb S17.2.2.1) := fun z => h44.2 (by rw [h47, ← h49]; exact z)
    have h53 : Imp (S48.1 = 0) (S17.1 = 0 ∧ tK By Nb S17.2.2.1 = 2 ∧ 0 ≤ tV By Nb S17.2.2.1 ∧ tV By Nb S17.2.2.1 ≤ pI (Sp.2.2.2 0) - 1) := fun z => tN_gg (by rw [← h49]; exact z)
    have h54 : S48.2.2.2 = S17.2.2.2 := by rw [h49]; exact tN_w
    refine En_Ps 2 (pc' := 42) (lv' := [(3, .int z43), (2, .int z12), (0, .ref 159), (1, .int a)]) (st' := [.ref 159]) rfl ?_
    refine En_callV rfl rfl rfl rfl rfl rfl rfl rfl tgz_159 (by decide +kernel) rfl (c_237 σ35 h36 z41 h42) (by decide) (by decide) (fun v56 σ57 h55 => ?_)
    obtain ⟨h58, h59, z61, rfl, h60⟩ := h55
    obtain rfl : σ35 = σ57 := Fr_nil h59
    refine En_iNe _ rfl rfl (fun hx => by exfalso; have := Imp_m h7.2.2.2.2.2.2.2.2.2.2.2.1 (by omega); have := Imp_m h38.2.2.2.2.2.2.2.2.2.2.2.1 (by omega); omega) (fun h62 => ?_)
    exact En_ret (v := none) rfl rfl rfl ⟨h36, h45, z39, h40, z41, h42, rfl, ⟨by first | exact q_a555021d16 h38.2.2.1 | omega, by first | exact q_76190b61a3 h38.2.2.2.1 | omega, by first | exact q_ccc3bb8fc9 h7.2.2.2.2.1 h38.2.2.2.2.1 | omega, by first | exact q_a555021d16 h38.2.2.2.2.2.1 | omega, by first | exact q_c733b715bf h38.2.2.2.2.2.2.1 | omega, by first | exact q_ccc3bb8fc9 h7.2.2.2.2.2.2.2.1 h38.2.2.2.2.2.2.2.1 | omega, by first | exact q_28bfca2c13 h7.2.2.2.2.1 h38.2.2.2.2.1 | omega, fun hh => by first | exact q_db388fd8e8 h7.2.2.2.2.2.2.2.1 h38.2.2.2.2.2.2.2.1 hh | omega, ⟨h46, ML_eq h50 (by unfold gRule; dsimp only; rw [← h18, h32, ← h49]; first | done | rfl | (rw [if_pos (by omega)]; first | done | rfl) | (rw [if_neg (by omega)]; first | done | rfl))⟩⟩⟩
  · have h63 := Imp_m h7.2.2.2.2.2.2.2.2.2.2.2.1 (by omega)
    obtain ⟨z65, h64, h66, h67⟩ := WT_peekI h5 tgz_159 (by decide +kernel : FT 35 10 = (0, 0, 4)) (by decide +kernel)
    obtain ⟨z69, h68, h70, h71⟩ := WT_peekI h5 tgz_159 (by decide +kernel : FT 35 11 = (0, 0, 99999)) (by decide +kernel)
    have h72 := ML_k h19 h11
    have h73 : Imp (S17.1 = 0) (tK By Nb S17.2.2.1 = z65.toInt) := ML_t h19 h64
    have h74 : Imp (S17.1 = 0 ∧ tK By Nb S17.2.2.1 = 2) (z69.toInt = min 99999 (tV By Nb S17.2.2.1) ∧ 0 ≤ tV By Nb S17.2.2.1) := fun q => ML_u h19 h68 q.1 q.2
    try have h75 := Imp_m h73 (by omega)
    try have h76 := Imp_m h22 (by omega)
    try have h77 := Imp_m h21 (by omega)
    try have h78 := Imp_m h74 (by omega)
    refine En_Ps 1 (pc' := 13) (lv' := [(2, .int z12), (0, .ref 159), (1, .int a)]) (st' := [.ref 159]) rfl ?_
    refine En_getK (j := 10) h64 rfl rfl rfl tgz_159 (by decide +kernel) ?_
    refine En_Ps 1 (pc' := 17) (lv' := [(2, .int z12), (0, .ref 159), (1, .int a)]) (st' := [.int ((Int32.ofInt 2)), .int z65]) rfl ?_
    refine En_icNe _ rfl (by decide : (Int32.ofInt 2).toInt = 2) rfl (fun h79 => ?_) (fun h79 => ?_)
    · have h80 : gRl1 By Nb (tV By Nb Sp.2.2.1) S17 = S17 := by unfold gRl1; (repeat' split) <;> first | rfl | (exfalso; omega) | ((try have i0 := Imp_m h73 (by omega)); (try have i1 := Imp_m h22 (by omega)); (try have i2 := Imp_m h21 (by omega)); (try have i3 := Imp_m h74 (by omega)); exfalso; omega)
      refine En_Ps 1 (pc' := 37) (lv' := [(2, .int z12), (0, .ref 159), (1, .int a)]) (st' := [.ref 159]) rfl ?_
      refine En_callV rfl rfl rfl rfl rfl rfl rfl rfl tgz_159 (by decide +kernel) rfl (c_234x σ4 h5 z8 h9 z10 h11 h19) (by decide) (by decide) (fun v82 σ83 h81 => ?_)
      obtain ⟨h84, h85, z87, h88, z89, h90, z91, rfl, h86⟩ := h81
      have h92 := h86.2.2.2.2.2.2.2.2.2.2.2.2
      have h93 := Fr_trans h14 h85 (by decide +kernel)
      have h94 := KR_fr h15 h85 (by decide +kernel)
      have h95 : tN By Nb 0 (pI (S17.2.2.2 0) - 1) S17 = tN By Nb 0 (pI (Sp.2.2.2 0) - 1) S17 := tN_cg rfl (by first | rfl | simp only [h23] | rfl)
      obtain ⟨S96, h97⟩ : ∃ q : PS, q = tN By Nb 0 (pI (Sp.2.2.2 0) - 1) S17 := ⟨_, rfl⟩
      have h98 : ML By Nb σ83 S96 := by rw [h97]; exact (ML_eq h92.1 h95)
      have h99 := ML_k h98 h90
      have h100 : Imp (S96.1 = 0) (z91.toInt = tV By Nb S17.2.2.1) := fun z => h92.2 (by rw [h95, ← h97]; exact z)
      have h101 : Imp (S96.1 = 0) (S17.1 = 0 ∧ tK By Nb S17.2.2.1 = 2 ∧ 0 ≤ tV By Nb S17.2.2.1 ∧ tV By Nb S17.2.2.1 ≤ pI (Sp.2.2.2 0) - 1) := fun z => tN_gg (by rw [← h97]; exact z)
      have h102 : S96.2.2.2 = S17.2.2.2 := by rw [h97]; exact tN_w
      refine En_Ps 2 (pc' := 42) (lv' := [(3, .int z91), (2, .int z12), (0, .ref 159), (1, .int a)]) (st' := [.ref 159]) rfl ?_
      refine En_callV rfl rfl rfl rfl rfl rfl rfl rfl tgz_159 (by decide +kernel) rfl (c_237 σ83 h84 z89 h90) (by decide) (by decide) (fun v104 σ105 h103 => ?_)
      obtain ⟨h106, h107, z109, rfl, h108⟩ := h103
      obtain rfl : σ83 = σ105 := Fr_nil h107
      refine En_iNe _ rfl rfl (fun h110 => ?_) (fun h110 => ?_)
      · have h111 := Imp_m h86.2.2.2.2.2.2.2.2.2.2.2.1 (by omega)
        have h112 : S96.1 = 0 := by omega
        have h113 := Imp_m h100 h112
        have h114 := Imp_m h101 h112
        have h115 := Imp_m h21 h114.1
        have h116 := Imp_m h22 h114.1
        have h117 := Imp_m h73 h114.1
        have h118 := Imp_m h74 ⟨h114.1, h114.2.1⟩
        refine En_Ps 1 (pc' := 50) (lv' := [(3, .int z91), (2, .int z12), (0, .ref 159), (1, .int a)]) (st' := [.ref 159]) rfl ?_
        refine En_getU (j := 14) (u := 165) (g' := 41) (q := 0) rfl rfl rfl tgz_159 (by decide +kernel) h84 (by decide +kernel) (by decide +kernel) (fun h119 => ?_)
        refine En_Ps 2 (pc' := 55) (lv' := [(3, .int z91), (2, .int z12), (0, .ref 159), (1, .int a)]) (st' := [.int z12, .int a, .ref 165]) rfl ?_
        refine En_iast (l := 0) (u := 15) rfl rfl tgz_165 (by decide +kernel) (by first | exact q_d700dd5793 hl_a | omega) (lnI (by decide +kernel : LN _ = 226) (by first | exact q_f434134ec2 hu_a | omega)) (FTrow 41 8 1 1 (by decide +kernel) (by first | exact q_00f8a88c1a hl_a | omega) (by first | exact q_bd00bacd06 hu_a | omega) (by first | exact q_ca509d6b00 | omega)) (rngI rfl (by first | exact q_ef1e8e38bf h7.1 | omega) (by first | exact q_5a5f544404 h7.2.1 | omega)) h84 h93 (by decide +kernel) (fun σ121 h122 h123 h124 h125 => ?_)
        have h126 := KR_st h94 (J := a.toInt) h125 (by omega)
        obtain ⟨S127, h128⟩ : ∃ q : PS, q = wst S96 (a.toInt) ((tV By Nb Sp.2.2.1)) := ⟨_, rfl⟩
        have h129 : ML By Nb σ121 S127 := by rw [h128]; exact (ML_wst (i := a.toInt) (v := (tV By Nb Sp.2.2.1)) h98 h124 h125 (by omega) (fun z => by have j1 := Imp_m h100 z; have j2 := Imp_m h101 z; have j3 := Imp_m h21 j2.1; have j4 := Imp_m h22 j2.1; have j5 := Imp_m h73 j2.1; have j6 := Imp_m h74 ⟨j2.1, j2.2.1⟩; exact ⟨by omega, by omega⟩))
        have h130 := ML_k h129 ((h125 _ _ (Or.inl (neTG tgz_159 tgz_165 (by decide)))).trans h90)
        have h131 : S127.1 = S96.1 := by rw [h128]; rfl
        refine En_Ps 1 (pc' := 57) (lv' := [(3, .int z91), (2, .int z12), (0, .ref 159), (1, .int a)]) (st' := [.ref 159]) rfl ?_
        refine En_getK (j := 14) ((h125 _ _ (Or.inl (neTG tgz_159 tgz_165 (by decide)))).trans h119) rfl rfl rfl tgz_159 (by decide +kernel) ?_
        refine En_Ps 3 (pc' := 63) (lv' := [(3, .int z91), (2, .int z12), (0, .ref 159), (1, .int a)]) (st' := [.int ((a + ((Int32.ofInt 1)))), .ref 165]) rfl ?_
        refine En_top (addI rfl (by decide : (Int32.ofInt 1).toInt = 1) (by first | exact q_295f3c3c38 hl_a | omega) (by first | exact q_40e36bf5f4 hu_a | omega)) (fun z132 h133 => ?_)
        refine En_Ps 1 (pc' := 64) (lv' := [(3, .int z91), (2, .int z12), (0, .ref 159), (1, .int a)]) (st' := [.int z91, .int z132, .ref 165]) rfl ?_
        refine En_iast (l := 0) (u := 15) rfl rfl tgz_165 (by decide +kernel) (by first | exact q_cf0b4927a2 h133 hl_a | omega) (lnI (by decide +kernel : LN _ = 226) (by first | exact q_b876a99c0c h133 hu_a | omega)) (FTrow 41 9 1 1 (by decide +kernel) (by first | exact q_3722053cd5 h133 hl_a | omega) (by first | exact q_aca8798d6d h133 hu_a | omega) (by first | exact q_a62048a674 | omega)) (rngI rfl (by first | exact q_ef1e8e38bf h86.1 | omega) (by first | exact q_5a5f544404 h86.2.1 | omega)) h122 h123 (by decide +kernel) (fun σ134 h135 h136 h137 h138 => ?_)
        have h139 := KR_st h126 (J := z132.toInt) h138 (by omega)
        obtain ⟨S140, h141⟩ : ∃ q : PS, q = wst S127 (a.toInt + 1) ((tV By Nb S17.2.2.1)) := ⟨_, rfl⟩
        have h142 : ML By Nb σ134 S140 := by rw [h141]; exact (ML_wst (i := a.toInt + 1) (v := (tV By Nb S17.2.2.1)) h129 h137 h138 (by omega) (fun z => by have j1 := h131.symm.trans z; have j2 := Imp_m h100 j1; have j3 := Imp_m h101 j1; have j4 := Imp_m h21 j3.1; have j5 := Imp_m h22 j3.1; have j6 := Imp_m h73 j3.1; have j7 := Imp_m h74 ⟨j3.1, j3.2.1⟩; exact ⟨by omega, by omega⟩))
        have h143 := ML_k h142 ((h138 _ _ (Or.inl (neTG tgz_159 tgz_165 (by decide)))).trans ((h125 _ _ (Or.inl (neTG tgz_159 tgz_165 (by decide)))).trans h90))
        have h144 : S140.1 = S127.1 := by rw [h141]; rfl
        exact En_ret (v := none) rfl rfl rfl ⟨h135, h136, z87, ((h138 _ _ (Or.inl (neTG tgz_159 tgz_165 (by decide)))).trans ((h125 _ _ (Or.inl (neTG tgz_159 tgz_165 (by decide)))).trans h88)), z89, ((h138 _ _ (Or.inl (neTG tgz_159 tgz_165 (by decide)))).trans ((h125 _ _ (Or.inl (neTG tgz_159 tgz_165 (by decide)))).trans h90)), rfl, ⟨by first | exact q_a555021d16 h86.2.2.1 | omega, by first | exact q_76190b61a3 h86.2.2.2.1 | omega, by first | exact q_ccc3bb8fc9 h7.2.2.2.2.1 h86.2.2.2.2.1 | omega, by first | exact q_a555021d16 h86.2.2.2.2.2.1 | omega, by first | exact q_c733b715bf h86.2.2.2.2.2.2.1 | omega, by first | exact q_8ad2cc928a h63 h86.2.2.2.2.2.1 | omega, by first | exact q_28bfca2c13 h7.2.2.2.2.1 h86.2.2.2.2.1 | omega, fun hh => by first | exact q_35a72a35ef h63 | omega, ⟨h139, ML_eq h142 (by unfold gRule; dsimp only; rw [← h18, h80, ← h97, ← h128, ← h141]; first | done | rfl | (rw [if_pos (by omega)]; first | done | rfl) | (rw [if_neg (by omega)]; first | done | rfl))⟩⟩⟩
      · exact En_ret (v := none) rfl rfl rfl ⟨h84, h93, z87, h88, z89, h90, rfl, ⟨by first | exact q_a555021d16 h86.2.2.1 | omega, by first | exact q_76190b61a3 h86.2.2.2.1 | omega, by first | exact q_ccc3bb8fc9 h7.2.2.2.2.1 h86.2.2.2.2.1 | omega, by first | exact q_a555021d16 h86.2.2.2.2.2.1 | omega, by first | exact q_c733b715bf h86.2.2.2.2.2.2.1 | omega, by first | exact q_8ad2cc928a h63 h86.2.2.2.2.2.1 | omega, by first | exact q_28bfca2c13 h7.2.2.2.2.1 h86.2.2.2.2.1 | omega, fun hh => by first | exact q_35a72a35ef h63 | omega, ⟨h94, ML_eq h98 (by unfold gRule; dsimp only; rw [← h18, h80, ← h97]; first | done | rfl | (rw [if_pos (by omega)]; first | done | rfl) | (rw [if_neg (by omega)]; first | done | rfl))⟩⟩⟩
    · have h145 : S17.1 = 0 := by omega
      have h146 := Imp_m h73 h145
      have h147 : tK By Nb S17.2.2.1 = 2 := by omega
      have h148 := Imp_m h21 h145
      have h149 := Imp_m h22 h145
      have h150 := Imp_m h73 h145
      have h151 := Imp_m h74 ⟨h145, h147⟩
      refine En_Ps 1 (pc' := 21) (lv' := [(2, .int z12), (0, .ref 159), (1, .int a)]) (st' := [.ref 159]) rfl ?_
      refine En_getK (j := 11) h68 rfl rfl rfl tgz_159 (by decide +kernel) ?_
      have h152 : sbI (z69.toInt) (z12.toInt) = sbI (min 99999 (tV By Nb S17.2.2.1)) (tV By Nb Sp.2.2.1) := sbI_cg (by omega) (by omega)
      refine En_Ps 3 (pc' := 27) (lv' := [(2, .int z12), (0, .ref 159), (1, .int a)]) (st' := [.int ((z12 ^^^ ((Int32.ofInt (-1))))), .int z69]) rfl ?_
      refine En_nam (fun z153 h154 => ?_)
      refine En_Ps 1 (pc' := 28) (lv' := [(2, .int z12), (0, .ref 159), (1, .int a)]) (st' := [.int ((z69 &&& z153))]) rfl ?_
      refine En_nam (fun z155 h156 => ?_)
      obtain ⟨h157, h158⟩ := andn_rng h156 rfl (by omega) (by omega : _ ≤ (99999 : Int))
      refine En_iEq _ rfl rfl (fun h159 => ?_) (fun h159 => ?_)
      · obtain ⟨h160, h161⟩ := andn_zero h156 h154 h159 rfl rfl (by omega)
        have := sub_sbw h156 h154 rfl rfl (by omega) (by omega) (by omega)
        have h162 : gRl1 By Nb (tV By Nb Sp.2.2.1) S17 = S17 := by unfold gRl1; (repeat' split) <;> first | rfl | (exfalso; omega) | ((try have i0 := Imp_m h73 (by omega)); (try have i1 := Imp_m h22 (by omega)); (try have i2 := Imp_m h21 (by omega)); (try have i3 := Imp_m h74 (by omega)); exfalso; omega)
        refine En_Ps 1 (pc' := 37) (lv' := [(2, .int z12), (0, .ref 159), (1, .int a)]) (st' := [.ref 159]) rfl ?_
        refine En_callV rfl rfl rfl rfl rfl rfl rfl rfl tgz_159 (by decide +kernel) rfl (c_234x σ4 h5 z8 h9 z10 h11 h19) (by decide) (by decide) (fun v164 σ165 h163 => ?_)
        obtain ⟨h166, h167, z169, h170, z171, h172, z173, rfl, h168⟩ := h163
        have h174 := h168.2.2.2.2.2.2.2.2.2.2.2.2
        have h175 := Fr_trans h14 h167 (by decide +kernel)
        have h176 := KR_fr h15 h167 (by decide +kernel)
        have h177 : tN By Nb 0 (pI (S17.2.2.2 0) - 1) S17 = tN By Nb 0 (pI (Sp.2.2.2 0) - 1) S17 := tN_cg rfl (by first | rfl | simp only [h23] | rfl)
        obtain ⟨S178, h179⟩ : ∃ q : PS, q = tN By Nb 0 (pI (Sp.2.2.2 0) - 1) S17 := ⟨_, rfl⟩
        have h180 : ML By Nb σ165 S178 := by rw [h179]; exact (ML_eq h174.1 h177)
        have h181 := ML_k h180 h172
        have h182 : Imp (S178.1 = 0) (z173.toInt = tV By Nb S17.2.2.1) := fun z => h174.2 (by rw [h177, ← h179]; exact z)
        have h183 : Imp (S178.1 = 0) (S17.1 = 0 ∧ tK By Nb S17.2.2.1 = 2 ∧ 0 ≤ tV By Nb S17.2.2.1 ∧ tV By Nb S17.2.2.1 ≤ pI (Sp.2.2.2 0) - 1) := fun z => tN_gg (by rw [← h179]; exact z)
        have h184 : S178.2.2.2 = S17.2.2.2 := by rw [h179]; exact tN_w
        refine En_Ps 2 (pc' := 42) (lv' := [(3, .int z173), (2, .int z12), (0, .ref 159), (1, .int a)]) (st' := [.ref 159]) rfl ?_
        refine En_callV rfl rfl rfl rfl rfl rfl rfl rfl tgz_159 (by decide +kernel) rfl (c_237 σ165 h166 z171 h172) (by decide) (by decide) (fun v186 σ187 h185 => ?_)
        obtain ⟨h188, h189, z191, rfl, h190⟩ := h185
        obtain rfl : σ165 = σ187 := Fr_nil h189
        refine En_iNe _ rfl rfl (fun h192 => ?_) (fun h192 => ?_)
        · have h193 := Imp_m h168.2.2.2.2.2.2.2.2.2.2.2.1 (by omega)
          have h194 : S178.1 = 0 := by omega
          have h195 := Imp_m h182 h194
          have h196 := Imp_m h183 h194
          have h197 := Imp_m h21 h196.1
          have h198 := Imp_m h22 h196.1
          have h199 := Imp_m h73 h196.1
          have h200 := Imp_m h74 ⟨h196.1, h196.2.1⟩
          refine En_Ps 1 (pc' := 50) (lv' := [(3, .int z173), (2, .int z12), (0, .ref 159), (1, .int a)]) (st' := [.ref 159]) rfl ?_
          refine En_getU (j := 14) (u := 165) (g' := 41) (q := 0) rfl rfl rfl tgz_159 (by decide +kernel) h166 (by decide +kernel) (by decide +kernel) (fun h201 => ?_)
          refine En_Ps 2 (pc' := 55) (lv' := [(3, .int z173), (2, .int z12), (0, .ref 159), (1, .int a)]) (st' := [.int z12, .int a, .ref 165]) rfl ?_
          refine En_iast (l := 0) (u := 15) rfl rfl tgz_165 (by decide +kernel) (by first | exact q_d700dd5793 hl_a | omega) (lnI (by decide +kernel : LN _ = 226) (by first | exact q_f434134ec2 hu_a | omega)) (FTrow 41 8 1 1 (by decide +kernel) (by first | exact q_00f8a88c1a hl_a | omega) (by first | exact q_bd00bacd06 hu_a | omega) (by first | exact q_ca509d6b00 | omega)) (rngI rfl (by first | exact q_ef1e8e38bf h7.1 | omega) (by first | exact q_5a5f544404 h7.2.1 | omega)) h166 h175 (by decide +kernel) (fun σ203 h204 h205 h206 h207 => ?_)
          have h208 := KR_st h176 (J := a.toInt) h207 (by omega)
          obtain ⟨S209, h210⟩ : ∃ q : PS, q = wst S178 (a.toInt) ((tV By Nb Sp.2.2.1)) := ⟨_, rfl⟩
          have h211 : ML By Nb σ203 S209 := by rw [h210]; exact (ML_wst (i := a.toInt) (v := (tV By Nb Sp.2.2.1)) h180 h206 h207 (by omega) (fun z => by have j1 := Imp_m h182 z; have j2 := Imp_m h183 z; have j3 := Imp_m h21 j2.1; have j4 := Imp_m h22 j2.1; have j5 := Imp_m h73 j2.1; have j6 := Imp_m h74 ⟨j2.1, j2.2.1⟩; exact ⟨by omega, by omega⟩))
          have h212 := ML_k h211 ((h207 _ _ (Or.inl (neTG tgz_159 tgz_165 (by decide)))).trans h172)
          have h213 : S209.1 = S178.1 := by rw [h210]; rfl
          refine En_Ps 1 (pc' := 57) (lv' := [(3, .int z173), (2, .int z12), (0, .ref 159), (1, .int a)]) (st' := [.ref 159]) rfl ?_
          refine En_getK (j := 14) ((h207 _ _ (Or.inl (neTG tgz_159 tgz_165 (by decide)))).trans h201) rfl rfl rfl tgz_159 (by decide +kernel) ?_
          refine En_Ps 3 (pc' := 63) (lv' := [(3, .int z173), (2, .int z12), (0, .ref 159), (1, .int a)]) (st' := [.int ((a + ((Int32.ofInt 1)))), .ref 165]) rfl ?_
          refine En_top (addI rfl (by decide : (Int32.ofInt 1).toInt = 1) (by first | exact q_295f3c3c38 hl_a | omega) (by first | exact q_40e36bf5f4 hu_a | omega)) (fun z214 h215 => ?_)
          refine En_Ps 1 (pc' := 64) (lv' := [(3, .int z173), (2, .int z12), (0, .ref 159), (1, .int a)]) (st' := [.int z173, .int z214, .ref 165]) rfl ?_
          refine En_iast (l := 0) (u := 15) rfl rfl tgz_165 (by decide +kernel) (by first | exact q_cf0b4927a2 h215 hl_a | omega) (lnI (by decide +kernel : LN _ = 226) (by first | exact q_b876a99c0c h215 hu_a | omega)) (FTrow 41 9 1 1 (by decide +kernel) (by first | exact q_3722053cd5 h215 hl_a | omega) (by first | exact q_aca8798d6d h215 hu_a | omega) (by first | exact q_a62048a674 | omega)) (rngI rfl (by first | exact q_ef1e8e38bf h168.1 | omega) (by first | exact q_5a5f544404 h168.2.1 | omega)) h204 h205 (by decide +kernel) (fun σ216 h217 h218 h219 h220 => ?_)
          have h221 := KR_st h208 (J := z214.toInt) h220 (by omega)
          obtain ⟨S222, h223⟩ : ∃ q : PS, q = wst S209 (a.toInt + 1) ((tV By Nb S17.2.2.1)) := ⟨_, rfl⟩
          have h224 : ML By Nb σ216 S222 := by rw [h223]; exact (ML_wst (i := a.toInt + 1) (v := (tV By Nb S17.2.2.1)) h211 h219 h220 (by omega) (fun z => by have j1 := h213.symm.trans z; have j2 := Imp_m h182 j1; have j3 := Imp_m h183 j1; have j4 := Imp_m h21 j3.1; have j5 := Imp_m h22 j3.1; have j6 := Imp_m h73 j3.1; have j7 := Imp_m h74 ⟨j3.1, j3.2.1⟩; exact ⟨by omega, by omega⟩))
          have h225 := ML_k h224 ((h220 _ _ (Or.inl (neTG tgz_159 tgz_165 (by decide)))).trans ((h207 _ _ (Or.inl (neTG tgz_159 tgz_165 (by decide)))).trans h172))
          have h226 : S222.1 = S209.1 := by rw [h223]; rfl
          exact En_ret (v := none) rfl rfl rfl ⟨h217, h218, z169, ((h220 _ _ (Or.inl (neTG tgz_159 tgz_165 (by decide)))).trans ((h207 _ _ (Or.inl (neTG tgz_159 tgz_165 (by decide)))).trans h170)), z171, ((h220 _ _ (Or.inl (neTG tgz_159 tgz_165 (by decide)))).trans ((h207 _ _ (Or.inl (neTG tgz_159 tgz_165 (by decide)))).trans h172)), rfl, ⟨by first | exact q_a555021d16 h168.2.2.1 | omega, by first | exact q_76190b61a3 h168.2.2.2.1 | omega, by first | exact q_ccc3bb8fc9 h7.2.2.2.2.1 h168.2.2.2.2.1 | omega, by first | exact q_a555021d16 h168.2.2.2.2.2.1 | omega, by first | exact q_c733b715bf h168.2.2.2.2.2.2.1 | omega, by first | exact q_8ad2cc928a h63 h168.2.2.2.2.2.1 | omega, by first | exact q_28bfca2c13 h7.2.2.2.2.1 h168.2.2.2.2.1 | omega, fun hh => by first | exact q_35a72a35ef h63 | omega, ⟨h221, ML_eq h224 (by unfold gRule; dsimp only; rw [← h18, h162, ← h179, ← h210, ← h223]; first | done | rfl | (rw [if_pos (by omega)]; first | done | rfl) | (rw [if_neg (by omega)]; first | done | rfl))⟩⟩⟩
        · exact En_ret (v := none) rfl rfl rfl ⟨h166, h175, z169, h170, z171, h172, rfl, ⟨by first | exact q_a555021d16 h168.2.2.1 | omega, by first | exact q_76190b61a3 h168.2.2.2.1 | omega, by first | exact q_ccc3bb8fc9 h7.2.2.2.2.1 h168.2.2.2.2.1 | omega, by first | exact q_a555021d16 h168.2.2.2.2.2.1 | omega, by first | exact q_c733b715bf h168.2.2.2.2.2.2.1 | omega, by first | exact q_8ad2cc928a h63 h168.2.2.2.2.2.1 | omega, by first | exact q_28bfca2c13 h7.2.2.2.2.1 h168.2.2.2.2.1 | omega, fun hh => by first | exact q_35a72a35ef h63 | omega, ⟨h176, ML_eq h180 (by unfold gRule; dsimp only; rw [← h18, h162, ← h179]; first | done | rfl | (rw [if_pos (by omega)]; first | done | rfl) | (rw [if_neg (by omega)]; first | done | rfl))⟩⟩⟩
      · have := sub_sbw h156 h154 rfl rfl (by omega) (by omega) (by omega)
        refine En_Ps 2 (pc' := 33) (lv' := [(2, .int z12), (0, .ref 159), (1, .int a)]) (st' := [.int ((Int32.ofInt 2)), .ref 159]) rfl ?_
        have := (by decide : ((Int32.ofInt 2)).toInt = 2)
        refine En_callV rfl rfl rfl rfl rfl rfl rfl rfl tgz_159 (by decide +kernel) rfl (c_223x σ4 h5 ((Int32.ofInt 2)) (geI (by decide : (Int32.ofInt 2).toInt = 2) (by decide)) (leI (by decide : (Int32.ofInt 2).toInt = 2) (by decide)) z10 h11 h19) (by decide) (by decide) (fun v228 σ229 h227 => ?_)
        obtain ⟨h230, h231, z233, h234, rfl, h232⟩ := h227
        have h235 := h232.2.2.2.2
        have h236 := Fr_trans h14 h231 (by decide +kernel)
        have h237 := KR_fr h15 h231 (by decide +kernel)
        obtain ⟨S238, h239⟩ : ∃ q : PS, q = err By Nb 2 S17 := ⟨_, rfl⟩
        have h240 : ML By Nb σ229 S238 := by rw [h239]; exact (ML_eq h235 (err_cg (by omega)))
        have h241 := ML_k h240 h234
        have h242 : Imp (S238.1 = 0) (tK By Nb S238.2.2.1 = z65.toInt) := ML_t h240 ((h231 _ _ (inW tgz_159 (by decide +kernel))).trans h64)
        have h243 : Imp (S238.1 = 0 ∧ tK By Nb S238.2.2.1 = 2) (z69.toInt = min 99999 (tV By Nb S238.2.2.1) ∧ 0 ≤ tV By Nb S238.2.2.1) := fun q => ML_u h240 ((h231 _ _ (inW tgz_159 (by decide +kernel))).trans h68) q.1 q.2
        have h244 : S238.2.2.2 = S17.2.2.2 := by rw [h239]; exact err_w
        have h245 : gRl1 By Nb (tV By Nb Sp.2.2.1) S17 = S238 := by rw [h239]; unfold gRl1; (repeat' split) <;> first | rfl | (exfalso; omega) | ((try have i0 := Imp_m h242 (by omega)); (try have i1 := Imp_m h73 (by omega)); (try have i2 := Imp_m h22 (by omega)); (try have i3 := Imp_m h21 (by omega)); (try have i4 := Imp_m h74 (by omega)); (try have i5 := Imp_m h243 (by omega)); exfalso; omega)
        refine En_Ps 1 (pc' := 37) (lv' := [(2, .int z12), (0, .ref 159), (1, .int a)]) (st' := [.ref 159]) rfl ?_
        refine En_callV rfl rfl rfl rfl rfl rfl rfl rfl tgz_159 (by decide +kernel) rfl (c_234x σ229 h230 z8 ((h231 _ _ (inW tgz_159 (by decide +kernel))).trans h9) z233 h234 h240) (by decide) (by decide) (fun v247 σ248 h246 => ?_)
        obtain ⟨h249, h250, z252, h253, z254, h255, z256, rfl, h251⟩ := h246
        have h257 := h251.2.2.2.2.2.2.2.2.2.2.2.2
        have h258 := Fr_trans h236 h250 (by decide +kernel)
        have h259 := KR_fr h237 h250 (by decide +kernel)
        have h260 : tN By Nb 0 (pI (S238.2.2.2 0) - 1) S238 = tN By Nb 0 (pI (Sp.2.2.2 0) - 1) S238 := tN_cg rfl (by first | rfl | simp only [h23, h244] | rfl)
        obtain ⟨S261, h262⟩ : ∃ q : PS, q = tN By Nb 0 (pI (Sp.2.2.2 0) - 1) S238 := ⟨_, rfl⟩
        have h263 : ML By Nb σ248 S261 := by rw [h262]; exact (ML_eq h257.1 h260)
        have h264 := ML_k h263 h255
        have h265 : Imp (S261.1 = 0) (z256.toInt = tV By Nb S238.2.2.1) := fun z => h257.2 (by rw [h260, ← h262]; exact z)
        have h266 : Imp (S261.1 = 0) (S238.1 = 0 ∧ tK By Nb S238.2.2.1 = 2 ∧ 0 ≤ tV By Nb S238.2.2.1 ∧ tV By Nb S238.2.2.1 ≤ pI (Sp.2.2.2 0) - 1) := fun z => tN_gg (by rw [← h262]; exact z)
        have h267 : S261.2.2.2 = S238.2.2.2 := by rw [h262]; exact tN_w
        refine En_Ps 2 (pc' := 42) (lv' := [(3, .int z256), (2, .int z12), (0, .ref 159), (1, .int a)]) (st' := [.ref 159]) rfl ?_
        refine En_callV rfl rfl rfl rfl rfl rfl rfl rfl tgz_159 (by decide +kernel) rfl (c_237 σ248 h249 z254 h255) (by decide) (by decide) (fun v269 σ270 h268 => ?_)
        obtain ⟨h271, h272, z274, rfl, h273⟩ := h268
        obtain rfl : σ248 = σ270 := Fr_nil h272
        refine En_iNe _ rfl rfl (fun hx => by exfalso; have := Imp_m h251.2.2.2.2.2.2.2.2.2.2.2.1 (by omega); omega) (fun h275 => ?_)
        exact En_ret (v := none) rfl rfl rfl ⟨h249, h258, z252, h253, z254, h255, rfl, ⟨by first | exact q_a555021d16 h251.2.2.1 | omega, by first | exact q_76190b61a3 h251.2.2.2.1 | omega, by first | exact q_ccc3bb8fc9 h7.2.2.2.2.1 h251.2.2.2.2.1 | omega, by first | exact q_a555021d16 h251.2.2.2.2.2.1 | omega, by first | exact q_c733b715bf h251.2.2.2.2.2.2.1 | omega, by first | exact q_8ad2cc928a h63 h251.2.2.2.2.2.1 | omega, by first | exact q_28bfca2c13 h7.2.2.2.2.1 h251.2.2.2.2.1 | omega, fun hh => by first | exact q_35a72a35ef h63 | omega, ⟨h259, ML_eq h263 (by unfold gRule; dsimp only; rw [← h18, h245, ← h262]; first | done | rfl | (rw [if_pos (by omega)]; first | done | rfl) | (rw [if_neg (by omega)]; first | done | rfl))⟩⟩⟩
/-- DoorSchoolModel.readRule(I)V -/
abbrev P_303bx (σ0 : SG) (By : Int → Int) (Nb : Int) (Sp : PS) (a : Int32) (f : Int32) (k : Int32) : PO := fun v σ => WT σ ∧ Fr [(35, 8), (35, 9), (35, 10), (35, 11), (35, 12), (35, 13), (41, 0)] σ0 σ ∧ ∃ f1 : Int32, (σ 159)[8]? = some (.int f1) ∧ ∃ k1 : Int32, (σ 159)[12]? = some (.int k1) ∧ v = none ∧ -f1.toInt ≤ 0 ∧ f1.toInt - 1600 ≤ 0 ∧ -f1.toInt + f.toInt ≤ 0 ∧ -k1.toInt ≤ 0 ∧ k1.toInt - 3 ≤ 0 ∧ -k1.toInt + k.toInt ≤ 0 ∧ f.toInt - f1.toInt ≤ 0 ∧ Imp (k1.toInt ≤ 0) (k.toInt ≤ 0) ∧ (KR σ0 σ ∧ ML By Nb σ (gRule By Nb a.toInt Sp))
set_option maxRecDepth 10000 in
set_option maxHeartbeats 4000000 in
theorem c_303bx {By : Int → Int} {Nb : Int} {Sp : PS} (σ0 : SG) (hσ0 : WT σ0) (a : Int32) (hl_a : 146 ≤ a.toInt) (hu_a : a.toInt ≤ 152) (f : Int32) (h_f : (σ0 159)[8]? = some (.int f)) (k : Int32) (h_k : (σ0 159)[12]? = some (.int k)) (hM : ML By Nb σ0 Sp) (hg : Sp.1 = 0) : En 4 89 none mr_303 (P_303bx σ0 By Nb Sp a f k) 0 [(0, .ref 159), (1, .int a)] [] σ0 := by
  obtain ⟨hl_f, hu_f⟩ := WT_int hσ0 (g := 35) (by decide +kernel) (by decide +kernel) (l := 0) (u := 1600) (by decide +kernel) h_f
  obtain ⟨hl_k, hu_k⟩ := WT_int hσ0 (g := 35) (by decide +kernel) (by decide +kernel) (l := 0) (u := 3) (by decide +kernel) h_k
  have hF0 : Fr [(35, 8), (35, 9), (35, 10), (35, 11), (35, 12), (35, 13), (41, 0)] σ0 σ0 := Fr_rfl
  have h1 := ML_k hM h_k
  refine En_Ps 1 (pc' := 1) (lv' := [(0, .ref 159), (1, .int a)]) (st' := [.ref 159]) rfl ?_
  refine En_callV rfl rfl rfl rfl rfl rfl rfl rfl tgz_159 (by decide +kernel) rfl (c_234x σ0 hσ0 f h_f k h_k hM) (by decide) (by decide) (fun v3 σ4 h2 => ?_)
  obtain ⟨h5, h6, z8, h9, z10, h11, z12, rfl, h7⟩ := h2
  have h13 := h7.2.2.2.2.2.2.2.2.2.2.2.2
  have h14 := Fr_trans hF0 h6 (by decide +kernel)
  have h15 := KR_fr (KR_0 (σ := σ0)) h6 (by decide +kernel)
  have h16 : tN By Nb 0 (pI (Sp.2.2.2 0) - 1) Sp = tN By Nb 0 (pI (Sp.2.2.2 0) - 1) Sp := tN_cg rfl (by rfl)
  obtain ⟨S17, h18⟩ : ∃ q : PS, q = tN By Nb 0 (pI (Sp.2.2.2 0) - 1) Sp := ⟨_, rfl⟩
  have h19 : ML By Nb σ4 S17 := by rw [h18]; exact (ML_eq h13.1 h16)
  have h20 := ML_k h19 h11
  have h21 : Imp (S17.1 = 0) (z12.toInt = tV By Nb Sp.2.2.1) := fun z => h13.2 (by rw [h16, ← h18]; exact z)
  have h22 : Imp (S17.1 = 0) (Sp.1 = 0 ∧ tK By Nb Sp.2.2.1 = 2 ∧ 0 ≤ tV By Nb Sp.2.2.1 ∧ tV By Nb Sp.2.2.1 ≤ pI (Sp.2.2.2 0) - 1) := fun z => tN_gg (by rw [← h18]; exact z)
  have h23 : S17.2.2.2 = Sp.2.2.2 := by rw [h18]; exact tN_w
  refine En_Ps 1 (pc' := 5) (lv' := [(2, .int z12), (0, .ref 159), (1, .int a)]) (st' := []) rfl ?_
  refine En_Ps 1 (pc' := 6) (lv' := [(2, .int z12), (0, .ref 159), (1, .int a)]) (st' := [.ref 159]) rfl ?_
  refine En_callV rfl rfl rfl rfl rfl rfl rfl rfl tgz_159 (by decide +kernel) rfl (c_237 σ4 h5 z10 h11) (by decide) (by decide) (fun v25 σ26 h24 => ?_)
  obtain ⟨h27, h28, z30, rfl, h29⟩ := h24
  obtain rfl : σ4 = σ26 := Fr_nil h28
  refine En_iEq _ rfl rfl (fun h31 => ?_) (fun h31 => ?_)
  · have h32 : gRl1 By Nb (tV By Nb Sp.2.2.1) S17 = S17 := by unfold gRl1; (repeat' split) <;> first | rfl | (exfalso; omega) | ((try have i0 := Imp_m h22 (by omega)); (try have i1 := Imp_m h21 (by omega)); (try have i2 := Imp_m h7.2.2.2.2.2.2.2.2.2.2.2.1 (by omega)); exfalso; omega)
    refine En_Ps 1 (pc' := 37) (lv' := [(2, .int z12), (0, .ref 159), (1, .int a)]) (st' := [.ref 159]) rfl ?_
    refine En_callV rfl rfl rfl rfl rfl rfl rfl rfl tgz_159 (by decide +kernel) rfl (c_234x σ4 h5 z8 h9 z10 h11 h19) (by decide) (by decide) (fun v34 σ35 h33 => ?_)
    obtain ⟨h36, h37, z39, h40, z41, h42, z43, rfl, h38⟩ := h33
    have h44 := h38.2.2.2.2.2.2.2.2.2.2.2.2
    have h45 := Fr_trans h14 h37 (by decide +kernel)
    have h46 := KR_fr h15 h37 (by decide +kernel)
    have h47 : tN By Nb 0 (pI (S17.2.2.2 0) - 1) S17 = tN By Nb 0 (pI (Sp.2.2.2 0) - 1) S17 := tN_cg rfl (by first | rfl | simp only [h23] | rfl)
    obtain ⟨S48, h49⟩ : ∃ q : PS, q = tN By Nb 0 (pI (Sp.2.2.2 0) - 1) S17 := ⟨_, rfl⟩
    have h50 : ML By Nb σ35 S48 := by rw [h49]; exact (ML_eq h44.1 h47)
    have h51 := ML_k h50 h42
    have h52 : Imp (S48.1 = 0) (z43.toInt = tV By Nb S17.2.2.1) := fun z => h44.2 (by rw [h47, ← h49]; exact z)
    have h53 : Imp (S48.1 = 0) (S17.1 = 0 ∧ tK By Nb S17.2.2.1 = 2 ∧ 0 ≤ tV By Nb S17.2.2.1 ∧ tV By Nb S17.2.2.1 ≤ pI (Sp.2.2.2 0) - 1) := fun z => tN_gg (by rw [← h49]; exact z)
    have h54 : S48.2.2.2 = S17.2.2.2 := by rw [h49]; exact tN_w
    refine En_Ps 2 (pc' := 42) (lv' := [(3, .int z43), (2, .int z12), (0, .ref 159), (1, .int a)]) (st' := [.ref 159]) rfl ?_
    refine En_callV rfl rfl rfl rfl rfl rfl rfl rfl tgz_159 (by decide +kernel) rfl (c_237 σ35 h36 z41 h42) (by decide) (by decide) (fun v56 σ57 h55 => ?_)
    obtain ⟨h58, h59, z61, rfl, h60⟩ := h55
    obtain rfl : σ35 = σ57 := Fr_nil h59
    refine En_iNe _ rfl rfl (fun hx => by exfalso; have := Imp_m h7.2.2.2.2.2.2.2.2.2.2.2.1 (by omega); have := Imp_m h38.2.2.2.2.2.2.2.2.2.2.2.1 (by omega); omega) (fun h62 => ?_)
    exact En_ret (v := none) rfl rfl rfl ⟨h36, h45, z39, h40, z41, h42, rfl, ⟨by first | exact q_a555021d16 h38.2.2.1 | omega, by first | exact q_76190b61a3 h38.2.2.2.1 | omega, by first | exact q_ccc3bb8fc9 h7.2.2.2.2.1 h38.2.2.2.2.1 | omega, by first | exact q_a555021d16 h38.2.2.2.2.2.1 | omega, by first | exact q_c733b715bf h38.2.2.2.2.2.2.1 | omega, by first | exact q_ccc3bb8fc9 h7.2.2.2.2.2.2.2.1 h38.2.2.2.2.2.2.2.1 | omega, by first | exact q_28bfca2c13 h7.2.2.2.2.1 h38.2.2.2.2.1 | omega, fun hh => by first | exact q_db388fd8e8 h7.2.2.2.2.2.2.2.1 h38.2.2.2.2.2.2.2.1 hh | omega, ⟨h46, ML_eq h50 (by unfold gRule; dsimp only; rw [← h18, h32, ← h49]; first | done | rfl | (rw [if_pos (by omega)]; first | done | rfl) | (rw [if_neg (by omega)]; first | done | rfl))⟩⟩⟩
  · have h63 := Imp_m h7.2.2.2.2.2.2.2.2.2.2.2.1 (by omega)
    obtain ⟨z65, h64, h66, h67⟩ := WT_peekI h5 tgz_159 (by decide +kernel : FT 35 10 = (0, 0, 4)) (by decide +kernel)
    obtain ⟨z69, h68, h70, h71⟩ := WT_peekI h5 tgz_159 (by decide +kernel : FT 35 11 = (0, 0, 99999)) (by decide +kernel)
    have h72 := ML_k h19 h11
    have h73 : Imp (S17.1 = 0) (tK By Nb S17.2.2.1 = z65.toInt) := ML_t h19 h64
    have h74 : Imp (S17.1 = 0 ∧ tK By Nb S17.2.2.1 = 2) (z69.toInt = min 99999 (tV By Nb S17.2.2.1) ∧ 0 ≤ tV By Nb S17.2.2.1) := fun q => ML_u h19 h68 q.1 q.2
    try have h75 := Imp_m h73 (by omega)
    try have h76 := Imp_m h22 (by omega)
    try have h77 := Imp_m h21 (by omega)
    try have h78 := Imp_m h74 (by omega)
    refine En_Ps 1 (pc' := 13) (lv' := [(2, .int z12), (0, .ref 159), (1, .int a)]) (st' := [.ref 159]) rfl ?_
    refine En_getK (j := 10) h64 rfl rfl rfl tgz_159 (by decide +kernel) ?_
    refine En_Ps 1 (pc' := 17) (lv' := [(2, .int z12), (0, .ref 159), (1, .int a)]) (st' := [.int ((Int32.ofInt 2)), .int z65]) rfl ?_
    refine En_icNe _ rfl (by decide : (Int32.ofInt 2).toInt = 2) rfl (fun h79 => ?_) (fun h79 => ?_)
    · have h80 : gRl1 By Nb (tV By Nb Sp.2.2.1) S17 = S17 := by unfold gRl1; (repeat' split) <;> first | rfl | (exfalso; omega) | ((try have i0 := Imp_m h73 (by omega)); (try have i1 := Imp_m h22 (by omega)); (try have i2 := Imp_m h21 (by omega)); (try have i3 := Imp_m h74 (by omega)); exfalso; omega)
      refine En_Ps 1 (pc' := 37) (lv' := [(2, .int z12), (0, .ref 159), (1, .int a)]) (st' := [.ref 159]) rfl ?_
      refine En_callV rfl rfl rfl rfl rfl rfl rfl rfl tgz_159 (by decide +kernel) rfl (c_234x σ4 h5 z8 h9 z10 h11 h19) (by decide) (by decide) (fun v82 σ83 h81 => ?_)
      obtain ⟨h84, h85, z87, h88, z89, h90, z91, rfl, h86⟩ := h81
      have h92 := h86.2.2.2.2.2.2.2.2.2.2.2.2
      have h93 := Fr_trans h14 h85 (by decide +kernel)
      have h94 := KR_fr h15 h85 (by decide +kernel)
      have h95 : tN By Nb 0 (pI (S17.2.2.2 0) - 1) S17 = tN By Nb 0 (pI (Sp.2.2.2 0) - 1) S17 := tN_cg rfl (by first | rfl | simp only [h23] | rfl)
      obtain ⟨S96, h97⟩ : ∃ q : PS, q = tN By Nb 0 (pI (Sp.2.2.2 0) - 1) S17 := ⟨_, rfl⟩
      have h98 : ML By Nb σ83 S96 := by rw [h97]; exact (ML_eq h92.1 h95)
      have h99 := ML_k h98 h90
      have h100 : Imp (S96.1 = 0) (z91.toInt = tV By Nb S17.2.2.1) := fun z => h92.2 (by rw [h95, ← h97]; exact z)
      have h101 : Imp (S96.1 = 0) (S17.1 = 0 ∧ tK By Nb S17.2.2.1 = 2 ∧ 0 ≤ tV By Nb S17.2.2.1 ∧ tV By Nb S17.2.2.1 ≤ pI (Sp.2.2.2 0) - 1) := fun z => tN_gg (by rw [← h97]; exact z)
      have h102 : S96.2.2.2 = S17.2.2.2 := by rw [h97]; exact tN_w
      refine En_Ps 2 (pc' := 42) (lv' := [(3, .int z91), (2, .int z12), (0, .ref 159), (1, .int a)]) (st' := [.ref 159]) rfl ?_
      refine En_callV rfl rfl rfl rfl rfl rfl rfl rfl tgz_159 (by decide +kernel) rfl (c_237 σ83 h84 z89 h90) (by decide) (by decide) (fun v104 σ105 h103 => ?_)
      obtain ⟨h106, h107, z109, rfl, h108⟩ := h103
      obtain rfl : σ83 = σ105 := Fr_nil h107
      refine En_iNe _ rfl rfl (fun h110 => ?_) (fun h110 => ?_)
      · have h111 := Imp_m h86.2.2.2.2.2.2.2.2.2.2.2.1 (by omega)
        have h112 : S96.1 = 0 := by omega
        have h113 := Imp_m h100 h112
        have h114 := Imp_m h101 h112
        have h115 := Imp_m h21 h114.1
        have h116 := Imp_m h22 h114.1
        have h117 := Imp_m h73 h114.1
        have h118 := Imp_m h74 ⟨h114.1, h114.2.1⟩
        refine En_Ps 1 (pc' := 50) (lv' := [(3, .int z91), (2, .int z12), (0, .ref 159), (1, .int a)]) (st' := [.ref 159]) rfl ?_
        refine En_getU (j := 14) (u := 165) (g' := 41) (q := 0) rfl rfl rfl tgz_159 (by decide +kernel) h84 (by decide +kernel) (by decide +kernel) (fun h119 => ?_)
        refine En_Ps 2 (pc' := 55) (lv' := [(3, .int z91), (2, .int z12), (0, .ref 159), (1, .int a)]) (st' := [.int z12, .int a, .ref 165]) rfl ?_
        refine En_iast (l := 0) (u := 15) rfl rfl tgz_165 (by decide +kernel) (by first | exact q_f06d8355fe hl_a | omega) (lnI (by decide +kernel : LN _ = 226) (by first | exact q_217fe92409 hu_a | omega)) (FTrow 41 146 1 7 (by decide +kernel) (by first | exact q_6f087db015 hl_a | omega) (by first | exact q_f9323d8d9c hu_a | omega) (by first | exact q_923275ae08 | omega)) (rngI rfl (by first | exact q_ef1e8e38bf h7.1 | omega) (by first | exact q_5a5f544404 h7.2.1 | omega)) h84 h93 (by decide +kernel) (fun σ121 h122 h123 h124 h125 => ?_)
        have h126 := KR_st h94 (J := a.toInt) h125 (by omega)
        obtain ⟨S127, h128⟩ : ∃ q : PS, q = wst S96 (a.toInt) ((tV By Nb Sp.2.2.1)) := ⟨_, rfl⟩
        have h129 : ML By Nb σ121 S127 := by rw [h128]; exact (ML_wst (i := a.toInt) (v := (tV By Nb Sp.2.2.1)) h98 h124 h125 (by omega) (fun z => by have j1 := Imp_m h100 z; have j2 := Imp_m h101 z; have j3 := Imp_m h21 j2.1; have j4 := Imp_m h22 j2.1; have j5 := Imp_m h73 j2.1; have j6 := Imp_m h74 ⟨j2.1, j2.2.1⟩; exact ⟨by omega, by omega⟩))
        have h130 := ML_k h129 ((h125 _ _ (Or.inl (neTG tgz_159 tgz_165 (by decide)))).trans h90)
        have h131 : S127.1 = S96.1 := by rw [h128]; rfl
        refine En_Ps 1 (pc' := 57) (lv' := [(3, .int z91), (2, .int z12), (0, .ref 159), (1, .int a)]) (st' := [.ref 159]) rfl ?_
        refine En_getK (j := 14) ((h125 _ _ (Or.inl (neTG tgz_159 tgz_165 (by decide)))).trans h119) rfl rfl rfl tgz_159 (by decide +kernel) ?_
        refine En_Ps 3 (pc' := 63) (lv' := [(3, .int z91), (2, .int z12), (0, .ref 159), (1, .int a)]) (st' := [.int ((a + ((Int32.ofInt 1)))), .ref 165]) rfl ?_
        refine En_top (addI rfl (by decide : (Int32.ofInt 1).toInt = 1) (by first | exact q_cf9d8d694c hl_a | omega) (by first | exact q_9997f237c1 hu_a | omega)) (fun z132 h133 => ?_)
        refine En_Ps 1 (pc' := 64) (lv' := [(3, .int z91), (2, .int z12), (0, .ref 159), (1, .int a)]) (st' := [.int z91, .int z132, .ref 165]) rfl ?_
        refine En_iast (l := 0) (u := 15) rfl rfl tgz_165 (by decide +kernel) (by first | exact q_48236cf862 h133 hl_a | omega) (lnI (by decide +kernel : LN _ = 226) (by first | exact q_cd2784293d h133 hu_a | omega)) (FTrow 41 147 1 7 (by decide +kernel) (by first | exact q_67c37267e2 h133 hl_a | omega) (by first | exact q_7dfafdc50b h133 hu_a | omega) (by first | exact q_adddae86cb | omega)) (rngI rfl (by first | exact q_ef1e8e38bf h86.1 | omega) (by first | exact q_5a5f544404 h86.2.1 | omega)) h122 h123 (by decide +kernel) (fun σ134 h135 h136 h137 h138 => ?_)
        have h139 := KR_st h126 (J := z132.toInt) h138 (by omega)
        obtain ⟨S140, h141⟩ : ∃ q : PS, q = wst S127 (a.toInt + 1) ((tV By Nb S17.2.2.1)) := ⟨_, rfl⟩
        have h142 : ML By Nb σ134 S140 := by rw [h141]; exact (ML_wst (i := a.toInt + 1) (v := (tV By Nb S17.2.2.1)) h129 h137 h138 (by omega) (fun z => by have j1 := h131.symm.trans z; have j2 := Imp_m h100 j1; have j3 := Imp_m h101 j1; have j4 := Imp_m h21 j3.1; have j5 := Imp_m h22 j3.1; have j6 := Imp_m h73 j3.1; have j7 := Imp_m h74 ⟨j3.1, j3.2.1⟩; exact ⟨by omega, by omega⟩))
        have h143 := ML_k h142 ((h138 _ _ (Or.inl (neTG tgz_159 tgz_165 (by decide)))).trans ((h125 _ _ (Or.inl (neTG tgz_159 tgz_165 (by decide)))).trans h90))
        have h144 : S140.1 = S127.1 := by rw [h141]; rfl
        exact En_ret (v := none) rfl rfl rfl ⟨h135, h136, z87, ((h138 _ _ (Or.inl (neTG tgz_159 tgz_165 (by decide)))).trans ((h125 _ _ (Or.inl (neTG tgz_159 tgz_165 (by decide)))).trans h88)), z89, ((h138 _ _ (Or.inl (neTG tgz_159 tgz_165 (by decide)))).trans ((h125 _ _ (Or.inl (neTG tgz_159 tgz_165 (by decide)))).trans h90)), rfl, ⟨by first | exact q_a555021d16 h86.2.2.1 | omega, by first | exact q_76190b61a3 h86.2.2.2.1 | omega, by first | exact q_ccc3bb8fc9 h7.2.2.2.2.1 h86.2.2.2.2.1 | omega, by first | exact q_a555021d16 h86.2.2.2.2.2.1 | omega, by first | exact q_c733b715bf h86.2.2.2.2.2.2.1 | omega, by first | exact q_8ad2cc928a h63 h86.2.2.2.2.2.1 | omega, by first | exact q_28bfca2c13 h7.2.2.2.2.1 h86.2.2.2.2.1 | omega, fun hh => by first | exact q_35a72a35ef h63 | omega, ⟨h139, ML_eq h142 (by unfold gRule; dsimp only; rw [← h18, h80, ← h97, ← h128, ← h141]; first | done | rfl | (rw [if_pos (by omega)]; first | done | rfl) | (rw [if_neg (by omega)]; first | done | rfl))⟩⟩⟩
      · exact En_ret (v := none) rfl rfl rfl ⟨h84, h93, z87, h88, z89, h90, rfl, ⟨by first | exact q_a555021d16 h86.2.2.1 | omega, by first | exact q_76190b61a3 h86.2.2.2.1 | omega, by first | exact q_ccc3bb8fc9 h7.2.2.2.2.1 h86.2.2.2.2.1 | omega, by first | exact q_a555021d16 h86.2.2.2.2.2.1 | omega, by first | exact q_c733b715bf h86.2.2.2.2.2.2.1 | omega, by first | exact q_8ad2cc928a h63 h86.2.2.2.2.2.1 | omega, by first | exact q_28bfca2c13 h7.2.2.2.2.1 h86.2.2.2.2.1 | omega, fun hh => by first | exact q_35a72a35ef h63 | omega, ⟨h94, ML_eq h98 (by unfold gRule; dsimp only; rw [← h18, h80, ← h97]; first | done | rfl | (rw [if_pos (by omega)]; first | done | rfl) | (rw [if_neg (by omega)]; first | done | rfl))⟩⟩⟩
    · have h145 : S17.1 = 0 := by omega
      have h146 := Imp_m h73 h145
      have h147 : tK By Nb S17.2.2.1 = 2 := by omega
      have h148 := Imp_m h21 h145
      have h149 := Imp_m h22 h145
      have h150 := Imp_m h73 h145
      have h151 := Imp_m h74 ⟨h145, h147⟩
      refine En_Ps 1 (pc' := 21) (lv' := [(2, .int z12), (0, .ref 159), (1, .int a)]) (st' := [.ref 159]) rfl ?_
      refine En_getK (j := 11) h68 rfl rfl rfl tgz_159 (by decide +kernel) ?_
      have h152 : sbI (z69.toInt) (z12.toInt) = sbI (min 99999 (tV By Nb S17.2.2.1)) (tV By Nb Sp.2.2.1) := sbI_cg (by omega) (by omega)
      refine En_Ps 3 (pc' := 27) (lv' := [(2, .int z12), (0, .ref 159), (1, .int a)]) (st' := [.int ((z12 ^^^ ((Int32.ofInt (-1))))), .int z69]) rfl ?_
      refine En_nam (fun z153 h154 => ?_)
      refine En_Ps 1 (pc' := 28) (lv' := [(2, .int z12), (0, .ref 159), (1, .int a)]) (st' := [.int ((z69 &&& z153))]) rfl ?_
      refine En_nam (fun z155 h156 => ?_)
      obtain ⟨h157, h158⟩ := andn_rng h156 rfl (by omega) (by omega : _ ≤ (99999 : Int))
      refine En_iEq _ rfl rfl (fun h159 => ?_) (fun h159 => ?_)
      · obtain ⟨h160, h161⟩ := andn_zero h156 h154 h159 rfl rfl (by omega)
        have := sub_sbw h156 h154 rfl rfl (by omega) (by omega) (by omega)
        have h162 : gRl1 By Nb (tV By Nb Sp.2.2.1) S17 = S17 := by unfold gRl1; (repeat' split) <;> first | rfl | (exfalso; omega) | ((try have i0 := Imp_m h73 (by omega)); (try have i1 := Imp_m h22 (by omega)); (try have i2 := Imp_m h21 (by omega)); (try have i3 := Imp_m h74 (by omega)); exfalso; omega)
        refine En_Ps 1 (pc' := 37) (lv' := [(2, .int z12), (0, .ref 159), (1, .int a)]) (st' := [.ref 159]) rfl ?_
        refine En_callV rfl rfl rfl rfl rfl rfl rfl rfl tgz_159 (by decide +kernel) rfl (c_234x σ4 h5 z8 h9 z10 h11 h19) (by decide) (by decide) (fun v164 σ165 h163 => ?_)
        obtain ⟨h166, h167, z169, h170, z171, h172, z173, rfl, h168⟩ := h163
        have h174 := h168.2.2.2.2.2.2.2.2.2.2.2.2
        have h175 := Fr_trans h14 h167 (by decide +kernel)
        have h176 := KR_fr h15 h167 (by decide +kernel)
        have h177 : tN By Nb 0 (pI (S17.2.2.2 0) - 1) S17 = tN By Nb 0 (pI (Sp.2.2.2 0) - 1) S17 := tN_cg rfl (by first | rfl | simp only [h23] | rfl)
        obtain ⟨S178, h179⟩ : ∃ q : PS, q = tN By Nb 0 (pI (Sp.2.2.2 0) - 1) S17 := ⟨_, rfl⟩
        have h180 : ML By Nb σ165 S178 := by rw [h179]; exact (ML_eq h174.1 h177)
        have h181 := ML_k h180 h172
        have h182 : Imp (S178.1 = 0) (z173.toInt = tV By Nb S17.2.2.1) := fun z => h174.2 (by rw [h177, ← h179]; exact z)
        have h183 : Imp (S178.1 = 0) (S17.1 = 0 ∧ tK By Nb S17.2.2.1 = 2 ∧ 0 ≤ tV By Nb S17.2.2.1 ∧ tV By Nb S17.2.2.1 ≤ pI (Sp.2.2.2 0) - 1) := fun z => tN_gg (by rw [← h179]; exact z)
        have h184 : S178.2.2.2 = S17.2.2.2 := by rw [h179]; exact tN_w
        refine En_Ps 2 (pc' := 42) (lv' := [(3, .int z173), (2, .int z12), (0, .ref 159), (1, .int a)]) (st' := [.ref 159]) rfl ?_
        refine En_callV rfl rfl rfl rfl rfl rfl rfl rfl tgz_159 (by decide +kernel) rfl (c_237 σ165 h166 z171 h172) (by decide) (by decide) (fun v186 σ187 h185 => ?_)
        obtain ⟨h188, h189, z191, rfl, h190⟩ := h185
        obtain rfl : σ165 = σ187 := Fr_nil h189
        refine En_iNe _ rfl rfl (fun h192 => ?_) (fun h192 => ?_)
        · have h193 := Imp_m h168.2.2.2.2.2.2.2.2.2.2.2.1 (by omega)
          have h194 : S178.1 = 0 := by omega
          have h195 := Imp_m h182 h194
          have h196 := Imp_m h183 h194
          have h197 := Imp_m h21 h196.1
          have h198 := Imp_m h22 h196.1
          have h199 := Imp_m h73 h196.1
          have h200 := Imp_m h74 ⟨h196.1, h196.2.1⟩
          refine En_Ps 1 (pc' := 50) (lv' := [(3, .int z173), (2, .int z12), (0, .ref 159), (1, .int a)]) (st' := [.ref 159]) rfl ?_
          refine En_getU (j := 14) (u := 165) (g' := 41) (q := 0) rfl rfl rfl tgz_159 (by decide +kernel) h166 (by decide +kernel) (by decide +kernel) (fun h201 => ?_)
          refine En_Ps 2 (pc' := 55) (lv' := [(3, .int z173), (2, .int z12), (0, .ref 159), (1, .int a)]) (st' := [.int z12, .int a, .ref 165]) rfl ?_
          refine En_iast (l := 0) (u := 15) rfl rfl tgz_165 (by decide +kernel) (by first | exact q_f06d8355fe hl_a | omega) (lnI (by decide +kernel : LN _ = 226) (by first | exact q_217fe92409 hu_a | omega)) (FTrow 41 146 1 7 (by decide +kernel) (by first | exact q_6f087db015 hl_a | omega) (by first | exact q_f9323d8d9c hu_a | omega) (by first | exact q_923275ae08 | omega)) (rngI rfl (by first | exact q_ef1e8e38bf h7.1 | omega) (by first | exact q_5a5f544404 h7.2.1 | omega)) h166 h175 (by decide +kernel) (fun σ203 h204 h205 h206 h207 => ?_)
          have h208 := KR_st h176 (J := a.toInt) h207 (by omega)
          obtain ⟨S209, h210⟩ : ∃ q : PS, q = wst S178 (a.toInt) ((tV By Nb Sp.2.2.1)) := ⟨_, rfl⟩
          have h211 : ML By Nb σ203 S209 := by rw [h210]; exact (ML_wst (i := a.toInt) (v := (tV By Nb Sp.2.2.1)) h180 h206 h207 (by omega) (fun z => by have j1 := Imp_m h182 z; have j2 := Imp_m h183 z; have j3 := Imp_m h21 j2.1; have j4 := Imp_m h22 j2.1; have j5 := Imp_m h73 j2.1; have j6 := Imp_m h74 ⟨j2.1, j2.2.1⟩; exact ⟨by omega, by omega⟩))
          have h212 := ML_k h211 ((h207 _ _ (Or.inl (neTG tgz_159 tgz_165 (by decide)))).trans h172)
          have h213 : S209.1 = S178.1 := by rw [h210]; rfl
          refine En_Ps 1 (pc' := 57) (lv' := [(3, .int z173), (2, .int z12), (0, .ref 159), (1, .int a)]) (st' := [.ref 159]) rfl ?_
          refine En_getK (j := 14) ((h207 _ _ (Or.inl (neTG tgz_159 tgz_165 (by decide)))).trans h201) rfl rfl rfl tgz_159 (by decide +kernel) ?_
          refine En_Ps 3 (pc' := 63) (lv' := [(3, .int z173), (2, .int z12), (0, .ref 159), (1, .int a)]) (st' := [.int ((a + ((Int32.ofInt 1)))), .ref 165]) rfl ?_
          refine En_top (addI rfl (by decide : (Int32.ofInt 1).toInt = 1) (by first | exact q_cf9d8d694c hl_a | omega) (by first | exact q_9997f237c1 hu_a | omega)) (fun z214 h215 => ?_)
          refine En_Ps 1 (pc' := 64) (lv' := [(3, .int z173), (2, .int z12), (0, .ref 159), (1, .int a)]) (st' := [.int z173, .int z214, .ref 165]) rfl ?_
          refine En_iast (l := 0) (u := 15) rfl rfl tgz_165 (by decide +kernel) (by first | exact q_48236cf862 h215 hl_a | omega) (lnI (by decide +kernel : LN _ = 226) (by first | exact q_cd2784293d h215 hu_a | omega)) (FTrow 41 147 1 7 (by decide +kernel) (by first | exact q_67c37267e2 h215 hl_a | omega) (by first | exact q_7dfafdc50b h215 hu_a | omega) (by first | exact q_adddae86cb | omega)) (rngI rfl (by first | exact q_ef1e8e38bf h168.1 | omega) (by first | exact q_5a5f544404 h168.2.1 | omega)) h204 h205 (by decide +kernel) (fun σ216 h217 h218 h219 h220 => ?_)
          have h221 := KR_st h208 (J := z214.toInt) h220 (by omega)
          obtain ⟨S222, h223⟩ : ∃ q : PS, q = wst S209 (a.toInt + 1) ((tV By Nb S17.2.2.1)) := ⟨_, rfl⟩
          have h224 : ML By Nb σ216 S222 := by rw [h223]; exact (ML_wst (i := a.toInt + 1) (v := (tV By Nb S17.2.2.1)) h211 h219 h220 (by omega) (fun z => by have j1 := h213.symm.trans z; have j2 := Imp_m h182 j1; have j3 := Imp_m h183 j1; have j4 := Imp_m h21 j3.1; have j5 := Imp_m h22 j3.1; have j6 := Imp_m h73 j3.1; have j7 := Imp_m h74 ⟨j3.1, j3.2.1⟩; exact ⟨by omega, by omega⟩))
          have h225 := ML_k h224 ((h220 _ _ (Or.inl (neTG tgz_159 tgz_165 (by decide)))).trans ((h207 _ _ (Or.inl (neTG tgz_159 tgz_165 (by decide)))).trans h172))
          have h226 : S222.1 = S209.1 := by rw [h223]; rfl
          exact En_ret (v := none) rfl rfl rfl ⟨h217, h218, z169, ((h220 _ _ (Or.inl (neTG tgz_159 tgz_165 (by decide)))).trans ((h207 _ _ (Or.inl (neTG tgz_159 tgz_165 (by decide)))).trans h170)), z171, ((h220 _ _ (Or.inl (neTG tgz_159 tgz_165 (by decide)))).trans ((h207 _ _ (Or.inl (neTG tgz_159 tgz_165 (by decide)))).trans h172)), rfl, ⟨by first | exact q_a555021d16 h168.2.2.1 | omega, by first | exact q_76190b61a3 h168.2.2.2.1 | omega, by first | exact q_ccc3bb8fc9 h7.2.2.2.2.1 h168.2.2.2.2.1 | omega, by first | exact q_a555021d16 h168.2.2.2.2.2.1 | omega, by first | exact q_c733b715bf h168.2.2.2.2.2.2.1 | omega, by first | exact q_8ad2cc928a h63 h168.2.2.2.2.2.1 | omega, by first | exact q_28bfca2c13 h7.2.2.2.2.1 h168.2.2.2.2.1 | omega, fun hh => by first | exact q_35a72a35ef h63 | omega, ⟨h221, ML_eq h224 (by unfold gRule; dsimp only; rw [← h18, h162, ← h179, ← h210, ← h223]; first | done | rfl | (rw [if_pos (by omega)]; first | done | rfl) | (rw [if_neg (by omega)]; first | done | rfl))⟩⟩⟩
        · exact En_ret (v := none) rfl rfl rfl ⟨h166, h175, z169, h170, z171, h172, rfl, ⟨by first | exact q_a555021d16 h168.2.2.1 | omega, by first | exact q_76190b61a3 h168.2.2.2.1 | omega, by first | exact q_ccc3bb8fc9 h7.2.2.2.2.1 h168.2.2.2.2.1 | omega, by first | exact q_a555021d16 h168.2.2.2.2.2.1 | omega, by first | exact q_c733b715bf h168.2.2.2.2.2.2.1 | omega, by first | exact q_8ad2cc928a h63 h168.2.2.2.2.2.1 | omega, by first | exact q_28bfca2c13 h7.2.2.2.2.1 h168.2.2.2.2.1 | omega, fun hh => by first | exact q_35a72a35ef h63 | omega, ⟨h176, ML_eq h180 (by unfold gRule; dsimp only; rw [← h18, h162, ← h179]; first | done | rfl | (rw [if_pos (by omega)]; first | done | rfl) | (rw [if_neg (by omega)]; first | done | rfl))⟩⟩⟩
      · have := sub_sbw h156 h154 rfl rfl (by omega) (by omega) (by omega)
        refine En_Ps 2 (pc' := 33) (lv' := [(2, .int z12), (0, .ref 159), (1, .int a)]) (st' := [.int ((Int32.ofInt 2)), .ref 159]) rfl ?_
        have := (by decide : ((Int32.ofInt 2)).toInt = 2)
        refine En_callV rfl rfl rfl rfl rfl rfl rfl rfl tgz_159 (by decide +kernel) rfl (c_223x σ4 h5 ((Int32.ofInt 2)) (geI (by decide : (Int32.ofInt 2).toInt = 2) (by decide)) (leI (by decide : (Int32.ofInt 2).toInt = 2) (by decide)) z10 h11 h19) (by decide) (by decide) (fun v228 σ229 h227 => ?_)
        obtain ⟨h230, h231, z233, h234, rfl, h232⟩ := h227
        have h235 := h232.2.2.2.2
        have h236 := Fr_trans h14 h231 (by decide +kernel)
        have h237 := KR_fr h15 h231 (by decide +kernel)
        obtain ⟨S238, h239⟩ : ∃ q : PS, q = err By Nb 2 S17 := ⟨_, rfl⟩
        have h240 : ML By Nb σ229 S238 := by rw [h239]; exact (ML_eq h235 (err_cg (by omega)))
        have h241 := ML_k h240 h234
        have h242 : Imp (S238.1 = 0) (tK By Nb S238.2.2.1 = z65.toInt) := ML_t h240 ((h231 _ _ (inW tgz_159 (by decide +kernel))).trans h64)
        have h243 : Imp (S238.1 = 0 ∧ tK By Nb S238.2.2.1 = 2) (z69.toInt = min 99999 (tV By Nb S238.2.2.1) ∧ 0 ≤ tV By Nb S238.2.2.1) := fun q => ML_u h240 ((h231 _ _ (inW tgz_159 (by decide +kernel))).trans h68) q.1 q.2
        have h244 : S238.2.2.2 = S17.2.2.2 := by rw [h239]; exact err_w
        have h245 : gRl1 By Nb (tV By Nb Sp.2.2.1) S17 = S238 := by rw [h239]; unfold gRl1; (repeat' split) <;> first | rfl | (exfalso; omega) | ((try have i0 := Imp_m h242 (by omega)); (try have i1 := Imp_m h73 (by omega)); (try have i2 := Imp_m h22 (by omega)); (try have i3 := Imp_m h21 (by omega)); (try have i4 := Imp_m h74 (by omega)); (try have i5 := Imp_m h243 (by omega)); exfalso; omega)
        refine En_Ps 1 (pc' := 37) (lv' := [(2, .int z12), (0, .ref 159), (1, .int a)]) (st' := [.ref 159]) rfl ?_
        refine En_callV rfl rfl rfl rfl rfl rfl rfl rfl tgz_159 (by decide +kernel) rfl (c_234x σ229 h230 z8 ((h231 _ _ (inW tgz_159 (by decide +kernel))).trans h9) z233 h234 h240) (by decide) (by decide) (fun v247 σ248 h246 => ?_)
        obtain ⟨h249, h250, z252, h253, z254, h255, z256, rfl, h251⟩ := h246
        have h257 := h251.2.2.2.2.2.2.2.2.2.2.2.2
        have h258 := Fr_trans h236 h250 (by decide +kernel)
        have h259 := KR_fr h237 h250 (by decide +kernel)
        have h260 : tN By Nb 0 (pI (S238.2.2.2 0) - 1) S238 = tN By Nb 0 (pI (Sp.2.2.2 0) - 1) S238 := tN_cg rfl (by first | rfl | simp only [h23, h244] | rfl)
        obtain ⟨S261, h262⟩ : ∃ q : PS, q = tN By Nb 0 (pI (Sp.2.2.2 0) - 1) S238 := ⟨_, rfl⟩
        have h263 : ML By Nb σ248 S261 := by rw [h262]; exact (ML_eq h257.1 h260)
        have h264 := ML_k h263 h255
        have h265 : Imp (S261.1 = 0) (z256.toInt = tV By Nb S238.2.2.1) := fun z => h257.2 (by rw [h260, ← h262]; exact z)
        have h266 : Imp (S261.1 = 0) (S238.1 = 0 ∧ tK By Nb S238.2.2.1 = 2 ∧ 0 ≤ tV By Nb S238.2.2.1 ∧ tV By Nb S238.2.2.1 ≤ pI (Sp.2.2.2 0) - 1) := fun z => tN_gg (by rw [← h262]; exact z)
        have h267 : S261.2.2.2 = S238.2.2.2 := by rw [h262]; exact tN_w
        refine En_Ps 2 (pc' := 42) (lv' := [(3, .int z256), (2, .int z12), (0, .ref 159), (1, .int a)]) (st' := [.ref 159]) rfl ?_
        refine En_callV rfl rfl rfl rfl rfl rfl rfl rfl tgz_159 (by decide +kernel) rfl (c_237 σ248 h249 z254 h255) (by decide) (by decide) (fun v269 σ270 h268 => ?_)
        obtain ⟨h271, h272, z274, rfl, h273⟩ := h268
        obtain rfl : σ248 = σ270 := Fr_nil h272
        refine En_iNe _ rfl rfl (fun hx => by exfalso; have := Imp_m h251.2.2.2.2.2.2.2.2.2.2.2.1 (by omega); omega) (fun h275 => ?_)
        exact En_ret (v := none) rfl rfl rfl ⟨h249, h258, z252, h253, z254, h255, rfl, ⟨by first | exact q_a555021d16 h251.2.2.1 | omega, by first | exact q_76190b61a3 h251.2.2.2.1 | omega, by first | exact q_ccc3bb8fc9 h7.2.2.2.2.1 h251.2.2.2.2.1 | omega, by first | exact q_a555021d16 h251.2.2.2.2.2.1 | omega, by first | exact q_c733b715bf h251.2.2.2.2.2.2.1 | omega, by first | exact q_8ad2cc928a h63 h251.2.2.2.2.2.1 | omega, by first | exact q_28bfca2c13 h7.2.2.2.2.1 h251.2.2.2.2.1 | omega, fun hh => by first | exact q_35a72a35ef h63 | omega, ⟨h259, ML_eq h263 (by unfold gRule; dsimp only; rw [← h18, h245, ← h262]; first | done | rfl | (rw [if_pos (by omega)]; first | done | rfl) | (rw [if_neg (by omega)]; first | done | rfl))⟩⟩⟩
/-- DoorSchoolModel.readNext()V -/
abbrev P_302x (σ0 : SG) (By : Int → Int) (Nb : Int) (Sp : PS) (f : Int32) (k : Int32) : PO := fun v σ => WT σ ∧ Fr [(35, 8), (35, 9), (35, 10), (35, 11), (35, 12), (35, 13), (41, 0)] σ0 σ ∧ ∃ f1 : Int32, (σ 159)[8]? = some (.int f1) ∧ ∃ k1 : Int32, (σ 159)[12]? = some (.int k1) ∧ v = none ∧ -f1.toInt ≤ 0 ∧ f1.toInt - 1600 ≤ 0 ∧ -f1.toInt + f.toInt ≤ 0 ∧ -k1.toInt ≤ 0 ∧ k1.toInt - 3 ≤ 0 ∧ -k1.toInt + k.toInt - 2 ≤ 0 ∧ f.toInt - f1.toInt ≤ 0 ∧ Imp (k1.toInt ≤ 0) (k.toInt ≤ 0) ∧ (KF σ0 σ ∧ ML By Nb σ (gNext By Nb Sp))
set_option maxRecDepth 10000 in
set_option maxHeartbeats 4000000 in
theorem k_302x_219 {By : Int → Int} {Nb : Int} {Sp : PS} (σ0 : SG) (hσ0 : WT σ0) (f : Int32) (h_f : (σ0 159)[8]? = some (.int f)) (k : Int32) (h_k : (σ0 159)[12]? = some (.int k)) (hM : ML By Nb σ0 Sp) (hg : Sp.1 = 0) : ∀ (σ1 : SG) (y4 : Int32) (y8 : Int32) (y12 : Int32), WT σ1 → Fr [(35, 8), (35, 9), (35, 10), (35, 11), (35, 12), (35, 13), (41, 0)] σ0 σ1 → (σ1 165)[(3 : Int).toNat]? = some (.int y4) → 0 ≤ y4.toInt → y4.toInt ≤ 12 → (σ1 159)[12]? = some (.int y8) → 0 ≤ y8.toInt → y8.toInt ≤ 3 → (σ1 159)[8]? = some (.int y12) → 0 ≤ y12.toInt → y12.toInt ≤ 1600 → f.toInt - y12.toInt ≤ 0 → Imp (y8.toInt ≤ 0) (k.toInt ≤ 0) → y8.toInt ≤ 0 → y4.toInt - 11 ≤ 0 → (iW By Nb 2 Sp) ≤ 0 ∧ -(iW By Nb 2 Sp) ≤ 0 → (iW By Nb 6 Sp) ≤ 0 ∧ -(iW By Nb 6 Sp) ≤ 0 → (iW By Nb 3 Sp) - 1 ≤ 0 ∧ -(iW By Nb 3 Sp) + 1 ≤ 0 → KF σ0 σ1 → ML By Nb σ1 (adv By Nb Sp) → gN2 By Nb (gN1 By Nb Sp) = Sp → En 9 200 none mr_302 (P_302x σ0 By Nb Sp f k) 219 [(0, .ref 159)] [] σ1 := by
  obtain ⟨hl_f, hu_f⟩ := WT_int hσ0 (g := 35) (by decide +kernel) (by decide +kernel) (l := 0) (u := 1600) (by decide +kernel) h_f
  obtain ⟨hl_k, hu_k⟩ := WT_int hσ0 (g := 35) (by decide +kernel) (by decide +kernel) (l := 0) (u := 3) (by decide +kernel) h_k
  have hF0 : Fr [(35, 8), (35, 9), (35, 10), (35, 11), (35, 12), (35, 13), (41, 0)] σ0 σ0 := Fr_rfl
  intro σ1 y4 y8 y12 h2 h3 h5 h6 h7 h9 h10 h11 h13 h14 h15 h16 h17 h18 h19 h20 h21 h22 h23 h24 h25
  have h26 := Imp_m h17 (by omega)
  have h27 : (adv By Nb Sp).1 = 0 := by rw [adv_1]; exact hg
  have h28 : (adv By Nb Sp).2.2.2 = Sp.2.2.2 := adv_w
  have h29 := ML_k h24 h9
  have h30 := ML_w h24 h27 h5 (by omega) (by omega)
  refine En_Ps 3 (pc' := 223) (lv' := [(0, .ref 159)]) (st' := [.ref 159, .int ((Int32.ofInt 2)), .int (((Int8.ofInt 122).toInt32))]) rfl ?_
  refine En_getU (j := 14) (u := 165) (g' := 41) (q := 0) rfl rfl rfl tgz_159 (by decide +kernel) h2 (by decide +kernel) (by decide +kernel) (fun h31 => ?_)
  refine En_Ps 1 (pc' := 227) (lv' := [(0, .ref 159)]) (st' := [.int ((Int32.ofInt 3)), .ref 165, .int ((Int32.ofInt 2)), .int (((Int8.ofInt 122).toInt32))]) rfl ?_
  refine En_ialdK h5 rfl (by decide : (Int32.ofInt 3).toInt = 3) tgz_165 (by decide +kernel) h2 (by decide) (lnI (by decide +kernel : LN _ = 226) (by decide)) ?_
  refine En_Ps 1 (pc' := 229) (lv' := [(0, .ref 159)]) (st' := [.int ((((Int32.ofInt 2)) * y4)), .int (((Int8.ofInt 122).toInt32))]) rfl ?_
  refine En_top (mulI (by decide : (Int32.ofInt 2).toInt = 2) rfl (Z := 2 * y4.toInt) (by first | exact q_9c4c04fc55 | omega) (by first | exact q_1f719a6719 h6 | omega) (by first | exact q_e56e4aa112 h7 | omega)) (fun z34 h35 => ?_)
  refine En_Ps 1 (pc' := 230) (lv' := [(0, .ref 159)]) (st' := [.int (((((Int8.ofInt 122).toInt32)) + z34))]) rfl ?_
  refine En_top (addI (by decide : ((Int8.ofInt 122).toInt32).toInt = 122) rfl (by first | exact q_db5ae3ba43 h35 h6 | omega) (by first | exact q_a476bac58b h35 h7 | omega)) (fun z36 h37 => ?_)
  refine En_Ps 2 (pc' := 232) (lv' := [(2, .int z36), (0, .ref 159)]) (st' := [.ref 159]) rfl ?_
  refine En_getK (j := 14) h31 rfl rfl rfl tgz_159 (by decide +kernel) ?_
  refine En_Ps 2 (pc' := 237) (lv' := [(2, .int z36), (0, .ref 159)]) (st' := [.ref 159, .int z36, .ref 165]) rfl ?_
  refine En_callV rfl rfl rfl rfl rfl rfl rfl rfl tgz_159 (by decide +kernel) rfl (c_234x σ1 h2 y12 h13 y8 h9 h24) (by decide) (by decide) (fun v39 σ40 h38 => ?_)
  obtain ⟨h41, h42, z44, h45, z46, h47, z48, rfl, h43⟩ := h38
  have h49 := h43.2.2.2.2.2.2.2.2.2.2.2.2
  have h50 := Fr_trans h3 h42 (by decide +kernel)
  have h51 := KF_fr h23 h42 (by decide +kernel)
  have h52 : tN By Nb 0 (pI ((adv By Nb Sp).2.2.2 0) - 1) (adv By Nb Sp) = tN By Nb 0 (pI ((adv By Nb Sp).2.2.2 0) - 1) (adv By Nb Sp) := tN_cg rfl (by first | rfl | simp only [h28] | rfl)
  obtain ⟨S53, h54⟩ : ∃ q : PS, q = tN By Nb 0 (pI ((adv By Nb Sp).2.2.2 0) - 1) (adv By Nb Sp) := ⟨_, rfl⟩
  have h55 : ML By Nb σ40 S53 := by rw [h54]; exact (ML_eq h49.1 h52)
  have h56 := ML_k h55 h47
  have h57 : Imp (S53.1 = 0) (z48.toInt = tV By Nb (adv By Nb Sp).2.2.1) := fun z => h49.2 (by rw [h52, ← h54]; exact z)
  have h58 : Imp (S53.1 = 0) ((adv By Nb Sp).1 = 0 ∧ tK By Nb (adv By Nb Sp).2.2.1 = 2 ∧ 0 ≤ tV By Nb (adv By Nb Sp).2.2.1 ∧ tV By Nb (adv By Nb Sp).2.2.1 ≤ pI ((adv By Nb Sp).2.2.2 0) - 1) := fun z => tN_gg (by rw [← h54]; exact z)
  have h59 : S53.2.2.2 = (adv By Nb Sp).2.2.2 := by rw [h54]; exact tN_w
  refine En_iast (l := 0) (u := 15) rfl rfl tgz_165 (by decide +kernel) (by first | exact q_64d61ee948 h37 h35 h6 | omega) (lnI (by decide +kernel : LN _ = 226) (by first | exact q_0d1492303d h37 h35 h7 | omega)) (FTrow 41 122 2 12 (by decide +kernel) (by first | exact q_0f5bf67c96 h37 h35 h6 | omega) (by omega) (by first | exact q_996e6edde7 h35 h37 | omega)) (rngI rfl (by first | exact q_ef1e8e38bf h43.1 | omega) (by first | exact q_5a5f544404 h43.2.1 | omega)) h41 h50 (by decide +kernel) (fun σ60 h61 h62 h63 h64 => ?_)
  have h65 := KF_st h51 (J := z36.toInt) h64 (by omega) (by omega)
  obtain ⟨S66, h67⟩ : ∃ q : PS, q = wst S53 (122 + 2 * (adv By Nb Sp).2.2.2 3) ((tV By Nb (adv By Nb Sp).2.2.1)) := ⟨_, rfl⟩
  have h68 : ML By Nb σ60 S66 := by rw [h67]; exact (ML_wst (i := 122 + 2 * (adv By Nb Sp).2.2.2 3) (v := (tV By Nb (adv By Nb Sp).2.2.1)) h55 h63 h64 (by omega) (fun z => by have j1 := Imp_m h57 z; have j2 := Imp_m h58 z; exact ⟨by omega, by omega⟩))
  have h69 := ML_k h68 ((h64 _ _ (Or.inl (neTG tgz_159 tgz_165 (by decide)))).trans h47)
  have h70 : S66.1 = S53.1 := by rw [h67]; rfl
  refine En_Ps 1 (pc' := 242) (lv' := [(2, .int z36), (0, .ref 159)]) (st' := [.ref 159]) rfl ?_
  refine En_getK (j := 14) ((h64 _ _ (Or.inl (neTG tgz_159 tgz_165 (by decide)))).trans ((h42 _ _ (inW tgz_159 (by decide +kernel))).trans h31)) rfl rfl rfl tgz_159 (by decide +kernel) ?_
  refine En_Ps 3 (pc' := 248) (lv' := [(2, .int z36), (0, .ref 159)]) (st' := [.int ((z36 + ((Int32.ofInt 1)))), .ref 165]) rfl ?_
  refine En_top (addI rfl (by decide : (Int32.ofInt 1).toInt = 1) (by first | exact q_e5430b869d h37 h35 h6 | omega) (by first | exact q_8a343b8a5a h37 h35 h7 | omega)) (fun z71 h72 => ?_)
  refine En_Ps 1 (pc' := 249) (lv' := [(2, .int z36), (0, .ref 159)]) (st' := [.ref 159, .int z71, .ref 165]) rfl ?_
  refine En_callV rfl rfl rfl rfl rfl rfl rfl rfl tgz_159 (by decide +kernel) rfl (c_209x σ60 h61 z44 ((h64 _ _ (Or.inl (neTG tgz_159 tgz_165 (by decide)))).trans h45) z46 ((h64 _ _ (Or.inl (neTG tgz_159 tgz_165 (by decide)))).trans h47) h68) (by decide) (by decide) (fun v74 σ75 h73 => ?_)
  obtain ⟨h76, h77, z79, h80, z81, h82, z83, rfl, h78⟩ := h73
  have h84 := h78.2.2.2.2.2.2.2.2.2.2
  have h85 := Fr_trans h62 h77 (by decide +kernel)
  have h86 := KF_fr h65 h77 (by decide +kernel)
  obtain ⟨S87, h88⟩ : ∃ q : PS, q = gDeed By Nb S66 := ⟨_, rfl⟩
  have h89 : ML By Nb σ75 S87 := by rw [h88]; exact h84.1
  have h90 := ML_k h89 h82
  have h91 : z83.toInt = iW By Nb 8 S66 := h84.2
  have h92 : S87.2.2.2 = S66.2.2.2 := by rw [h88]; exact gDeed_w
  have h93 : Imp (S87.1 = 0) (S66.1 = 0) := fun z => gDeed_g (by rw [← h88]; exact z)
  refine En_iast (l := 0) (u := 1) rfl rfl tgz_165 (by decide +kernel) (by first | exact q_a542ff144c h72 h37 h35 h6 | omega) (lnI (by decide +kernel : LN _ = 226) (by first | exact q_934e303d50 h72 h37 h35 h7 | omega)) (FTrow 41 123 2 12 (by decide +kernel) (by first | exact q_5a03b0472f h72 h37 h35 h6 | omega) (by omega) (by first | exact q_4529a0017e h35 h37 h72 | omega)) (rngI rfl (by first | exact q_ef1e8e38bf h78.1 | omega) (by first | exact q_733c8bfbae h78.2.1 | omega)) h76 h85 (by decide +kernel) (fun σ94 h95 h96 h97 h98 => ?_)
  have h99 := KF_st h86 (J := z71.toInt) h98 (by omega) (by omega)
  obtain ⟨S100, h101⟩ : ∃ q : PS, q = wst S87 (122 + 2 * (adv By Nb Sp).2.2.2 3 + 1) ((iW By Nb 8 S66)) := ⟨_, rfl⟩
  have h102 : ML By Nb σ94 S100 := by rw [h101]; exact (ML_wst (i := 122 + 2 * (adv By Nb Sp).2.2.2 3 + 1) (v := (iW By Nb 8 S66)) h89 h97 h98 (by omega) (fun z => by have j1 := Imp_m h93 z; have j2 := h70.symm.trans j1; have j3 := Imp_m h57 j2; have j4 := Imp_m h58 j2; exact ⟨by omega, by omega⟩))
  have h103 := ML_k h102 ((h98 _ _ (Or.inl (neTG tgz_159 tgz_165 (by decide)))).trans h82)
  have h104 : S100.1 = S87.1 := by rw [h101]; rfl
  refine En_Ps 1 (pc' := 254) (lv' := [(2, .int z36), (0, .ref 159)]) (st' := [.ref 159]) rfl ?_
  refine En_getK (j := 14) ((h98 _ _ (Or.inl (neTG tgz_159 tgz_165 (by decide)))).trans ((h77 _ _ (inW tgz_159 (by decide +kernel))).trans ((h64 _ _ (Or.inl (neTG tgz_159 tgz_165 (by decide)))).trans ((h42 _ _ (inW tgz_159 (by decide +kernel))).trans h31)))) rfl rfl rfl tgz_159 (by decide +kernel) ?_
  refine En_Ps 2 (pc' := 259) (lv' := [(2, .int z36), (0, .ref 159)]) (st' := [.int ((Int32.ofInt 3)), .ref 165, .int ((Int32.ofInt 3)), .ref 165]) rfl ?_
  refine En_ialdK ((h98 _ _ (Or.inr (by omega))).trans ((h77 _ _ (inWa tgz_165 (by decide +kernel))).trans ((h64 _ _ (Or.inr (by omega))).trans ((h42 _ _ (inWa tgz_165 (by decide +kernel))).trans h5)))) rfl (by decide : (Int32.ofInt 3).toInt = 3) tgz_165 (by decide +kernel) h95 (by decide) (lnI (by decide +kernel : LN _ = 226) (by decide)) ?_
  refine En_Ps 2 (pc' := 262) (lv' := [(2, .int z36), (0, .ref 159)]) (st' := [.int ((y4 + ((Int32.ofInt 1)))), .int ((Int32.ofInt 3)), .ref 165]) rfl ?_
  refine En_top (addI rfl (by decide : (Int32.ofInt 1).toInt = 1) (by first | exact q_465ab79ac1 h6 | omega) (by first | exact q_1fdc13c345 h7 | omega)) (fun z106 h107 => ?_)
  refine En_iast (l := 0) (u := 12) rfl (by decide : (Int32.ofInt 3).toInt = 3) tgz_165 (by decide +kernel) (by decide) (lnI (by decide +kernel : LN _ = 226) (by decide)) (by decide +kernel) (rngI rfl (by first | exact q_35104ce9d3 h107 h6 | omega) (by omega)) h95 h96 (by decide +kernel) (fun σ108 h109 h110 h111 h112 => ?_)
  have h113 := KF_st h99 (J := 3) h112 (by omega) (by omega)
  obtain ⟨S114, h115⟩ : ∃ q : PS, q = wst S100 (3) ((adv By Nb Sp).2.2.2 3 + 1) := ⟨_, rfl⟩
  have h116 : ML By Nb σ108 S114 := by rw [h115]; exact (ML_wst (i := 3) (v := (adv By Nb Sp).2.2.2 3 + 1) h102 h111 h112 (by omega) (fun z => by have j1 := h104.symm.trans z; have j2 := Imp_m h93 j1; have j3 := h70.symm.trans j2; have j4 := Imp_m h57 j3; have j5 := Imp_m h58 j3; exact ⟨by omega, by omega⟩))
  have h117 := ML_k h116 ((h112 _ _ (Or.inl (neTG tgz_159 tgz_165 (by decide)))).trans ((h98 _ _ (Or.inl (neTG tgz_159 tgz_165 (by decide)))).trans h82))
  have h118 : S114.1 = S100.1 := by rw [h115]; rfl
  refine En_Ps 1 (pc' := 447) (lv' := [(2, .int z36), (0, .ref 159)]) (st' := []) rfl ?_
  exact En_ret (v := none) rfl rfl rfl ⟨h109, h110, z79, ((h112 _ _ (Or.inl (neTG tgz_159 tgz_165 (by decide)))).trans ((h98 _ _ (Or.inl (neTG tgz_159 tgz_165 (by decide)))).trans h80)), z81, ((h112 _ _ (Or.inl (neTG tgz_159 tgz_165 (by decide)))).trans ((h98 _ _ (Or.inl (neTG tgz_159 tgz_165 (by decide)))).trans h82)), rfl, ⟨by first | exact q_a555021d16 h78.2.2.1 | omega, by first | exact q_76190b61a3 h78.2.2.2.1 | omega, by omega, by first | exact q_a555021d16 h78.2.2.2.2.2.1 | omega, by first | exact q_c733b715bf h78.2.2.2.2.2.2.1 | omega, by omega, by omega, fun _ => by omega, ⟨h113, ML_eq h116 (by subst h115; subst h101; subst h88; subst h67; subst h54; rw [gNx_3 h25 hg (by omega) (by omega) (by omega)]; unfold gExam; (try dsimp only); first | done | rfl)⟩⟩⟩
set_option maxRecDepth 10000 in
set_option maxHeartbeats 4000000 in
theorem k_302x_309 {By : Int → Int} {Nb : Int} {Sp : PS} (σ0 : SG) (hσ0 : WT σ0) (f : Int32) (h_f : (σ0 159)[8]? = some (.int f)) (k : Int32) (h_k : (σ0 159)[12]? = some (.int k)) (hM : ML By Nb σ0 Sp) (hg : Sp.1 = 0) : ∀ (σ119 : SG) (y122 : Int32) (y126 : Int32) (y130 : Int32), WT σ119 → Fr [(35, 8), (35, 9), (35, 10), (35, 11), (35, 12), (35, 13), (41, 0)] σ0 σ119 → (σ119 165)[(4 : Int).toNat]? = some (.int y122) → 0 ≤ y122.toInt → y122.toInt ≤ 4 → (σ119 159)[12]? = some (.int y126) → 0 ≤ y126.toInt → y126.toInt ≤ 3 → (σ119 159)[8]? = some (.int y130) → 0 ≤ y130.toInt → y130.toInt ≤ 1600 → f.toInt - y130.toInt ≤ 0 → Imp (y126.toInt ≤ 0) (k.toInt ≤ 0) → y126.toInt ≤ 0 → y122.toInt - 3 ≤ 0 → (iW By Nb 2 Sp) ≤ 0 ∧ -(iW By Nb 2 Sp) ≤ 0 → (iW By Nb 6 Sp) ≤ 0 ∧ -(iW By Nb 6 Sp) ≤ 0 → (iW By Nb 3 Sp) ≤ 0 ∧ -(iW By Nb 3 Sp) ≤ 0 → (iW By Nb 17 Sp) ≤ 0 ∧ -(iW By Nb 17 Sp) ≤ 0 → (iW By Nb 9 Sp) ≤ 0 ∧ -(iW By Nb 9 Sp) ≤ 0 → (iW By Nb 5 Sp) - 1 ≤ 0 ∧ -(iW By Nb 5 Sp) + 1 ≤ 0 → KF σ0 σ119 → ML By Nb σ119 (adv By Nb Sp) → gN2 By Nb (gN1 By Nb Sp) = Sp → En 9 200 none mr_302 (P_302x σ0 By Nb Sp f k) 309 [(0, .ref 159)] [] σ119 := by
  obtain ⟨hl_f, hu_f⟩ := WT_int hσ0 (g := 35) (by decide +kernel) (by decide +kernel) (l := 0) (u := 1600) (by decide +kernel) h_f
  obtain ⟨hl_k, hu_k⟩ := WT_int hσ0 (g := 35) (by decide +kernel) (by decide +kernel) (l := 0) (u := 3) (by decide +kernel) h_k
  have hF0 : Fr [(35, 8), (35, 9), (35, 10), (35, 11), (35, 12), (35, 13), (41, 0)] σ0 σ0 := Fr_rfl
  intro σ119 y122 y126 y130 h120 h121 h123 h124 h125 h127 h128 h129 h131 h132 h133 h134 h135 h136 h137 h138 h139 h140 h141 h142 h143 h144 h145 h146
  have h147 := Imp_m h135 (by omega)
  have h148 : (adv By Nb Sp).1 = 0 := by rw [adv_1]; exact hg
  have h149 : (adv By Nb Sp).2.2.2 = Sp.2.2.2 := adv_w
  have h150 := ML_k h145 h127
  have h151 := ML_w h145 h148 h123 (by omega) (by omega)
  refine En_Ps 4 (pc' := 315) (lv' := [(0, .ref 159)]) (st' := [.ref 159, .int ((Int32.ofInt 2)), .int (((Int16.ofInt 146).toInt32)), .ref 159]) rfl ?_
  refine En_getU (j := 14) (u := 165) (g' := 41) (q := 0) rfl rfl rfl tgz_159 (by decide +kernel) h120 (by decide +kernel) (by decide +kernel) (fun h152 => ?_)
  refine En_Ps 1 (pc' := 319) (lv' := [(0, .ref 159)]) (st' := [.int ((Int32.ofInt 4)), .ref 165, .int ((Int32.ofInt 2)), .int (((Int16.ofInt 146).toInt32)), .ref 159]) rfl ?_
  refine En_ialdK h123 rfl (by decide : (Int32.ofInt 4).toInt = 4) tgz_165 (by decide +kernel) h120 (by decide) (lnI (by decide +kernel : LN _ = 226) (by decide)) ?_
  refine En_Ps 1 (pc' := 321) (lv' := [(0, .ref 159)]) (st' := [.int ((((Int32.ofInt 2)) * y122)), .int (((Int16.ofInt 146).toInt32)), .ref 159]) rfl ?_
  refine En_top (mulI (by decide : (Int32.ofInt 2).toInt = 2) rfl (Z := 2 * y122.toInt) (by first | exact q_9c4c04fc55 | omega) (by first | exact q_1f719a6719 h124 | omega) (by first | exact q_aa3b077867 h125 | omega)) (fun z155 h156 => ?_)
  refine En_Ps 1 (pc' := 322) (lv' := [(0, .ref 159)]) (st' := [.int (((((Int16.ofInt 146).toInt32)) + z155)), .ref 159]) rfl ?_
  refine En_top (addI (by decide : ((Int16.ofInt 146).toInt32).toInt = 146) rfl (by first | exact q_42b4d5f9e5 h156 h124 | omega) (by first | exact q_b77f2b141e h156 h125 | omega)) (fun z157 h158 => ?_)
  refine En_callV rfl rfl rfl rfl rfl rfl rfl rfl tgz_159 (by decide +kernel) rfl (c_303bx σ119 h120 z157 (geI rfl (by first | exact q_511d1ad7bf h158 h156 h124 | omega)) (leI rfl (by omega)) y130 h131 y126 h127 h145 (by omega)) (by decide) (by decide) (fun v160 σ161 h159 => ?_)
  obtain ⟨h162, h163, z165, h166, z167, h168, rfl, h164⟩ := h159
  have h169 := h164.2.2.2.2.2.2.2.2
  have h170 := Fr_trans h121 h163 (by decide +kernel)
  have h171 := KF_tr h144 (KF_of h169.1)
  obtain ⟨S172, h173⟩ : ∃ q : PS, q = gRule By Nb (146 + 2 * (adv By Nb Sp).2.2.2 4) (adv By Nb Sp) := ⟨_, rfl⟩
  have h174 : ML By Nb σ161 S172 := by rw [h173]; exact (ML_eq h169.2 (gRule_cg (by omega)))
  have h175 := ML_k h174 h168
  obtain ⟨z177, h176, h178, h179⟩ := WT_peekI h162 tgz_165 (by decide +kernel : FT 41 (4 : Int).toNat = (0, 0, 4)) (by decide +kernel)
  have h180 := ci_at h123 (rfl : (4 : Int) = 4)
  have h181 := ci_at h176 (rfl : (4 : Int) = 4)
  have h182 := h169.1 4 (by omega) (by omega)
  refine En_Ps 1 (pc' := 326) (lv' := [(0, .ref 159)]) (st' := [.ref 159]) rfl ?_
  refine En_getK (j := 14) ((h163 _ _ (inW tgz_159 (by decide +kernel))).trans h152) rfl rfl rfl tgz_159 (by decide +kernel) ?_
  refine En_Ps 2 (pc' := 331) (lv' := [(0, .ref 159)]) (st' := [.int ((Int32.ofInt 4)), .ref 165, .int ((Int32.ofInt 4)), .ref 165]) rfl ?_
  refine En_ialdK h176 rfl (by decide : (Int32.ofInt 4).toInt = 4) tgz_165 (by decide +kernel) h162 (by decide) (lnI (by decide +kernel : LN _ = 226) (by decide)) ?_
  refine En_Ps 2 (pc' := 334) (lv' := [(0, .ref 159)]) (st' := [.int ((z177 + ((Int32.ofInt 1)))), .int ((Int32.ofInt 4)), .ref 165]) rfl ?_
  refine En_top (addI rfl (by decide : (Int32.ofInt 1).toInt = 1) (by first | exact q_465ab79ac1 h178 | omega) (by first | exact q_f7282962fd h179 | omega)) (fun z184 h185 => ?_)
  refine En_iast (l := 0) (u := 4) rfl (by decide : (Int32.ofInt 4).toInt = 4) tgz_165 (by decide +kernel) (by decide) (lnI (by decide +kernel : LN _ = 226) (by decide)) (by decide +kernel) (rngI rfl (by first | exact q_35104ce9d3 h185 h178 | omega) (by omega)) h162 h170 (by decide +kernel) (fun σ186 h187 h188 h189 h190 => ?_)
  have h191 := KF_st h171 (J := 4) h190 (by omega) (by omega)
  obtain ⟨S192, h193⟩ : ∃ q : PS, q = wst S172 (4) ((adv By Nb Sp).2.2.2 4 + 1) := ⟨_, rfl⟩
  have h194 : ML By Nb σ186 S192 := by rw [h193]; exact (ML_wst (i := 4) (v := (adv By Nb Sp).2.2.2 4 + 1) h174 h189 h190 (by omega) (fun z => by exact ⟨by omega, by omega⟩))
  have h195 := ML_k h194 ((h190 _ _ (Or.inl (neTG tgz_159 tgz_165 (by decide)))).trans h168)
  have h196 : S192.1 = S172.1 := by rw [h193]; rfl
  refine En_Ps 1 (pc' := 447) (lv' := [(0, .ref 159)]) (st' := []) rfl ?_
  exact En_ret (v := none) rfl rfl rfl ⟨h187, h188, z165, ((h190 _ _ (Or.inl (neTG tgz_159 tgz_165 (by decide)))).trans h166), z167, ((h190 _ _ (Or.inl (neTG tgz_159 tgz_165 (by decide)))).trans h168), rfl, ⟨by first | exact q_a555021d16 h164.1 | omega, by first | exact q_76190b61a3 h164.2.1 | omega, by omega, by first | exact q_a555021d16 h164.2.2.2.1 | omega, by first | exact q_c733b715bf h164.2.2.2.2.1 | omega, by omega, by omega, fun _ => by omega, ⟨h191, ML_eq h194 (by subst h193; subst h173; rw [gNx_5 h146 hg (by omega) (by omega) (by omega) (by omega) (by omega) (by omega)]; unfold gHouse; first | done | rfl)⟩⟩⟩
set_option maxRecDepth 10000 in
set_option maxHeartbeats 4000000 in
theorem k_302x_347 {By : Int → Int} {Nb : Int} {Sp : PS} (σ0 : SG) (hσ0 : WT σ0) (f : Int32) (h_f : (σ0 159)[8]? = some (.int f)) (k : Int32) (h_k : (σ0 159)[12]? = some (.int k)) (hM : ML By Nb σ0 Sp) (hg : Sp.1 = 0) : ∀ (σ197 : SG) (y200 : Int32) (y204 : Int32) (y208 : Int32), WT σ197 → Fr [(35, 8), (35, 9), (35, 10), (35, 11), (35, 12), (35, 13), (41, 0)] σ0 σ197 → (σ197 165)[(5 : Int).toNat]? = some (.int y200) → 0 ≤ y200.toInt → y200.toInt ≤ 6 → (σ197 159)[12]? = some (.int y204) → 0 ≤ y204.toInt → y204.toInt ≤ 3 → (σ197 159)[8]? = some (.int y208) → 0 ≤ y208.toInt → y208.toInt ≤ 1600 → f.toInt - y208.toInt ≤ 0 → Imp (y204.toInt ≤ 0) (k.toInt ≤ 0) → y204.toInt ≤ 0 → y200.toInt - 5 ≤ 0 → (iW By Nb 2 Sp) ≤ 0 ∧ -(iW By Nb 2 Sp) ≤ 0 → (iW By Nb 6 Sp) ≤ 0 ∧ -(iW By Nb 6 Sp) ≤ 0 → (iW By Nb 3 Sp) ≤ 0 ∧ -(iW By Nb 3 Sp) ≤ 0 → (iW By Nb 17 Sp) ≤ 0 ∧ -(iW By Nb 17 Sp) ≤ 0 → (iW By Nb 9 Sp) ≤ 0 ∧ -(iW By Nb 9 Sp) ≤ 0 → (iW By Nb 5 Sp) ≤ 0 ∧ -(iW By Nb 5 Sp) ≤ 0 → (iW By Nb 1 Sp) - 1 ≤ 0 ∧ -(iW By Nb 1 Sp) + 1 ≤ 0 → KF σ0 σ197 → ML By Nb σ197 (adv By Nb Sp) → gN2 By Nb (gN1 By Nb Sp) = Sp → En 9 200 none mr_302 (P_302x σ0 By Nb Sp f k) 347 [(0, .ref 159)] [] σ197 := by
  obtain ⟨hl_f, hu_f⟩ := WT_int hσ0 (g := 35) (by decide +kernel) (by decide +kernel) (l := 0) (u := 1600) (by decide +kernel) h_f
  obtain ⟨hl_k, hu_k⟩ := WT_int hσ0 (g := 35) (by decide +kernel) (by decide +kernel) (l := 0) (u := 3) (by decide +kernel) h_k
  have hF0 : Fr [(35, 8), (35, 9), (35, 10), (35, 11), (35, 12), (35, 13), (41, 0)] σ0 σ0 := Fr_rfl
  intro σ197 y200 y204 y208 h198 h199 h201 h202 h203 h205 h206 h207 h209 h210 h211 h212 h213 h214 h215 h216 h217 h218 h219 h220 h221 h222 h223 h224 h225
  have h226 := Imp_m h213 (by omega)
  have h227 : (adv By Nb Sp).1 = 0 := by rw [adv_1]; exact hg
  have h228 : (adv By Nb Sp).2.2.2 = Sp.2.2.2 := adv_w
  have h229 := ML_k h224 h205
  have h230 := ML_w h224 h227 h201 (by omega) (by omega)
  refine En_Ps 1 (pc' := 348) (lv' := [(0, .ref 159)]) (st' := [.ref 159]) rfl ?_
  refine En_getU (j := 14) (u := 165) (g' := 41) (q := 0) rfl rfl rfl tgz_159 (by decide +kernel) h198 (by decide +kernel) (by decide +kernel) (fun h231 => ?_)
  refine En_Ps 3 (pc' := 356) (lv' := [(0, .ref 159)]) (st' := [.ref 159, .int ((Int32.ofInt 2)), .int (((Int16.ofInt 154).toInt32)), .ref 165]) rfl ?_
  refine En_getK (j := 14) h231 rfl rfl rfl tgz_159 (by decide +kernel) ?_
  refine En_Ps 1 (pc' := 360) (lv' := [(0, .ref 159)]) (st' := [.int ((Int32.ofInt 5)), .ref 165, .int ((Int32.ofInt 2)), .int (((Int16.ofInt 154).toInt32)), .ref 165]) rfl ?_
  refine En_ialdK h201 rfl (by decide : (Int32.ofInt 5).toInt = 5) tgz_165 (by decide +kernel) h198 (by decide) (lnI (by decide +kernel : LN _ = 226) (by decide)) ?_
  refine En_Ps 1 (pc' := 362) (lv' := [(0, .ref 159)]) (st' := [.int ((((Int32.ofInt 2)) * y200)), .int (((Int16.ofInt 154).toInt32)), .ref 165]) rfl ?_
  refine En_top (mulI (by decide : (Int32.ofInt 2).toInt = 2) rfl (Z := 2 * y200.toInt) (by first | exact q_9c4c04fc55 | omega) (by first | exact q_1f719a6719 h202 | omega) (by first | exact q_41eaec9db2 h203 | omega)) (fun z234 h235 => ?_)
  refine En_Ps 1 (pc' := 363) (lv' := [(0, .ref 159)]) (st' := [.int (((((Int16.ofInt 154).toInt32)) + z234)), .ref 165]) rfl ?_
  refine En_top (addI (by decide : ((Int16.ofInt 154).toInt32).toInt = 154) rfl (by first | exact q_35d2865be9 h235 h202 | omega) (by first | exact q_881c99d24a h235 h203 | omega)) (fun z236 h237 => ?_)
  refine En_Ps 1 (pc' := 364) (lv' := [(0, .ref 159)]) (st' := [.ref 159, .int z236, .ref 165]) rfl ?_
  refine En_ldcS (i := 15) rfl rfl rfl ?_
  refine En_Ps 2 (pc' := 369) (lv' := [(0, .ref 159)]) (st' := [.int (((Int8.ofInt 9).toInt32)), .int ((Int32.ofInt 1)), .retAddr 31, .ref 159, .int z236, .ref 165]) rfl ?_
  have := (by decide : ((Int32.ofInt 1)).toInt = 1)
  have := (by decide : (((Int8.ofInt 9).toInt32)).toInt = 9)
  refine En_callV rfl rfl rfl rfl rfl rfl rfl rfl tgz_159 (by decide +kernel) rfl (c_323s15x σ197 h198 ((Int32.ofInt 1)) (((Int8.ofInt 9).toInt32)) (geI (by decide : (Int32.ofInt 1).toInt = 1) (by decide)) (leI (by decide : (Int32.ofInt 1).toInt = 1) (by decide)) (geI (by decide : ((Int8.ofInt 9).toInt32).toInt = 9) (by decide)) (leI (by decide : ((Int8.ofInt 9).toInt32).toInt = 9) (by decide)) y208 h209 y204 h205 h224) (by decide) (by decide) (fun v239 σ240 h238 => ?_)
  obtain ⟨h241, h242, z244, h245, z246, h247, z248, rfl, h243⟩ := h238
  have h249 := h243.2.2.2.2.2.2.2.2.2.2.2.2.2.2
  have h250 := Fr_trans h199 h242 (by decide +kernel)
  have h251 := KF_fr h223 h242 (by decide +kernel)
  obtain ⟨S252, h253⟩ : ∃ q : PS, q = pss By Nb (iW By Nb 15 (adv By Nb Sp)) (adv By Nb Sp) := ⟨_, rfl⟩
  have h254 : tN By Nb ((Int32.ofInt 1)).toInt (((Int8.ofInt 9).toInt32)).toInt (pss By Nb (iW By Nb 15 (adv By Nb Sp)) (adv By Nb Sp)) = tN By Nb (1) (9) S252 := by rw [h253]; exact tN_cg2 (fun _ => by omega) (fun _ => by omega)
  obtain ⟨S255, h256⟩ : ∃ q : PS, q = tN By Nb (1) (9) S252 := ⟨_, rfl⟩
  have h257 : ML By Nb σ240 S255 := by rw [h256]; exact (ML_eq h249.1 h254)
  have h258 := ML_k h257 h247
  have h259 : Imp (S255.1 = 0) (z248.toInt = tV By Nb S252.2.2.1) := fun z => by rw [h253]; exact h249.2 (by rw [h254, ← h256]; exact z)
  have h260 := Imp_m h243.2.2.2.2.2.2.2.2.2.2.1 (by omega)
  have h261 := Imp_m h243.2.2.2.2.2.2.2.2.2.2.2.1 (by omega)
  refine En_iast (l := 0) (u := 9) rfl rfl tgz_165 (by decide +kernel) (by first | exact q_ccc63f2e7e h237 h235 h202 | omega) (lnI (by decide +kernel : LN _ = 226) (by first | exact q_1583d12f91 h237 h235 h203 | omega)) (FTrow 41 154 2 6 (by decide +kernel) (by first | exact q_4f183090a0 h237 h235 h202 | omega) (by omega) (by first | exact q_1f9eb023d9 h235 h237 | omega)) (rngI rfl (by first | exact q_ef1e8e38bf h243.1 | omega) (by omega)) h241 h250 (by decide +kernel) (fun σ262 h263 h264 h265 h266 => ?_)
  have h267 := KF_st h251 (J := z236.toInt) h266 (by omega) (by omega)
  obtain ⟨S268, h269⟩ : ∃ q : PS, q = wst S255 (154 + 2 * (adv By Nb Sp).2.2.2 5) ((tV By Nb S252.2.2.1)) := ⟨_, rfl⟩
  have h270 : ML By Nb σ262 S268 := by rw [h269]; exact (ML_wst (i := 154 + 2 * (adv By Nb Sp).2.2.2 5) (v := (tV By Nb S252.2.2.1)) h257 h265 h266 (by omega) (fun z => by have j1 := Imp_m h259 z; exact ⟨by omega, by omega⟩))
  have h271 := ML_k h270 ((h266 _ _ (Or.inl (neTG tgz_159 tgz_165 (by decide)))).trans h247)
  have h272 : S268.1 = S255.1 := by rw [h269]; rfl
  refine En_Ps 1 (pc' := 374) (lv' := [(0, .ref 159)]) (st' := [.ref 159]) rfl ?_
  refine En_getK (j := 14) ((h266 _ _ (Or.inl (neTG tgz_159 tgz_165 (by decide)))).trans ((h242 _ _ (inW tgz_159 (by decide +kernel))).trans h231)) rfl rfl rfl tgz_159 (by decide +kernel) ?_
  refine En_Ps 2 (pc' := 379) (lv' := [(0, .ref 159)]) (st' := [.int ((Int32.ofInt 5)), .ref 165, .int ((Int32.ofInt 5)), .ref 165]) rfl ?_
  refine En_ialdK ((h266 _ _ (Or.inr (by omega))).trans ((h242 _ _ (inWa tgz_165 (by decide +kernel))).trans h201)) rfl (by decide : (Int32.ofInt 5).toInt = 5) tgz_165 (by decide +kernel) h263 (by decide) (lnI (by decide +kernel : LN _ = 226) (by decide)) ?_
  refine En_Ps 2 (pc' := 382) (lv' := [(0, .ref 159)]) (st' := [.int ((y200 + ((Int32.ofInt 1)))), .int ((Int32.ofInt 5)), .ref 165]) rfl ?_
  refine En_top (addI rfl (by decide : (Int32.ofInt 1).toInt = 1) (by first | exact q_465ab79ac1 h202 | omega) (by first | exact q_9a865ca0e4 h203 | omega)) (fun z274 h275 => ?_)
  refine En_iast (l := 0) (u := 6) rfl (by decide : (Int32.ofInt 5).toInt = 5) tgz_165 (by decide +kernel) (by decide) (lnI (by decide +kernel : LN _ = 226) (by decide)) (by decide +kernel) (rngI rfl (by first | exact q_35104ce9d3 h275 h202 | omega) (by omega)) h263 h264 (by decide +kernel) (fun σ276 h277 h278 h279 h280 => ?_)
  have h281 := KF_st h267 (J := 5) h280 (by omega) (by omega)
  obtain ⟨S282, h283⟩ : ∃ q : PS, q = wst S268 (5) ((adv By Nb Sp).2.2.2 5 + 1) := ⟨_, rfl⟩
  have h284 : ML By Nb σ276 S282 := by rw [h283]; exact (ML_wst (i := 5) (v := (adv By Nb Sp).2.2.2 5 + 1) h270 h279 h280 (by omega) (fun z => by have j1 := h272.symm.trans z; have j2 := Imp_m h259 j1; exact ⟨by omega, by omega⟩))
  have h285 := ML_k h284 ((h280 _ _ (Or.inl (neTG tgz_159 tgz_165 (by decide)))).trans ((h266 _ _ (Or.inl (neTG tgz_159 tgz_165 (by decide)))).trans h247))
  have h286 : S282.1 = S268.1 := by rw [h283]; rfl
  refine En_Ps 1 (pc' := 447) (lv' := [(0, .ref 159)]) (st' := []) rfl ?_
  exact En_ret (v := none) rfl rfl rfl ⟨h277, h278, z244, ((h280 _ _ (Or.inl (neTG tgz_159 tgz_165 (by decide)))).trans ((h266 _ _ (Or.inl (neTG tgz_159 tgz_165 (by decide)))).trans h245)), z246, ((h280 _ _ (Or.inl (neTG tgz_159 tgz_165 (by decide)))).trans ((h266 _ _ (Or.inl (neTG tgz_159 tgz_165 (by decide)))).trans h247)), rfl, ⟨by first | exact q_a555021d16 h243.2.2.1 | omega, by first | exact q_76190b61a3 h243.2.2.2.1 | omega, by omega, by first | exact q_a555021d16 h243.2.2.2.2.2.1 | omega, by first | exact q_c733b715bf h243.2.2.2.2.2.2.1 | omega, by omega, by omega, fun _ => by omega, ⟨h281, ML_eq h284 (by subst h283; subst h269; subst h256; subst h253; rw [gNx_1 h225 hg (by omega) (by omega) (by omega) (by omega) (by omega) (by omega) (by omega)]; unfold gCourse; (try dsimp only); first | done | rfl)⟩⟩⟩

