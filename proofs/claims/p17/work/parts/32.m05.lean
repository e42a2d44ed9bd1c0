/-- DoorSchoolModel.readRule(I)V -/
abbrev P_303bx (σ0 : SG) (By : Int → Int) (Nb : Int) (Sp : PS) (a : Int32) (f : Int32) (k : Int32) : PO := fun v σ => WT σ ∧ Fr [(35, 8), (35, 9), (35, 10), (35, 11), (35, 12), (35, 13), (41, 0)] σ0 σ ∧ ∃ f1 : Int32, (σ 159)[8]? = some (.int f1) ∧ ∃ k1 : Int32, (σ 159)[12]? = some (.int k1) ∧ v = none ∧ -f1.toInt ≤ 0 ∧ f1.toInt - 1600 ≤ 0 ∧ -f1.toInt + f.toInt ≤ 0 ∧ -k1.toInt ≤ 0 ∧ k1.toInt - 3 ≤ 0 ∧ -k1.toInt + k.toInt ≤ 0 ∧ f.toInt - f1.toInt ≤ 0 ∧ Imp (k1.toInt ≤ 0) (k.toInt ≤ 0) ∧ (KR σ0 σ ∧ ML By Nb σ (gRule By Nb a.toInt Sp))
set_option maxRecDepth 10000 in
set_option maxHeartbeats 4000000 in
theorem c_303bx {By : Int → Int} {Nb : Int} {Sp : PS} (σ0 : SG) (hσ0 : WT σ0) (a : Int32) (hl_a : 146 ≤ a.toInt) (hu_a : a.toInt ≤ 152) (f : Int32) (h_f : (σ0 159)[8]? = some (.int f)) (k : Int32) (h_k : (σ0 159)[12]? = some (.int k)) (hM : ML By Nb σ0 Sp) (hg : Sp.1 = 0) : En 4 89 none mr_303 (P_303bx σ0 By Nb Sp a f k) 0 [(0, .ref 159), (1, .int a)] [] σ0 := by
  obtain ⟨hl_f, hu_f⟩ := WT_int hσ0 (g := 35) (by decide +kernel) (by decide +kernel) (l := 0) (u := 1600) (by decide +kernel) h_f
  obtain ⟨hl_k, hu_k⟩ := WT_int hσ0 (g := 35) (by decide +kernel) (by decide +kernel) (l := 0) (u := 3) (by decide +kernel) h_k
  have hF0 : Fr [(35, 8), (35, 9), (35, 10), (35, 11), (35, 12), (35, 13), (41, 0)] σ0 σ0 := Fr_rfl
  have h1 := ML_k hM h_k
  refine En_Ps 1 (pc' := 1) (lv' := [(0, .ref 159), (1, .int a)]) (st' := [.ref 159]) rfl ?_
  refine En_callV rfl rfl rfl rfl rfl rfl rfl rfl tgz_159 (by decide +kernel) rfl (c_234x σ0 hσ0 f h_f k h_k hM) (by decide) (by decide) (fun v3 σ4 h2 => ?_)
  obtain ⟨h5, h6, z8, h9, z10, h11, z12, rfl, h7⟩ := h2
  have h13 := h7.2.2.2.2.2.2.2.2.2.2.2.2
  have h14 := Fr_trans hF0 h6 (by decide +kernel)
  have h15 := KR_fr (KR_0 (σ := σ0)) h6 (by decide +kernel)
  have h16 : tN By Nb 0 (pI (Sp.2.2.2 0) - 1) Sp = tN By Nb 0 (pI (Sp.2.2.2 0) - 1) Sp := tN_cg rfl (by rfl)
  obtain ⟨S17, h18⟩ : ∃ q : PS, q = tN By Nb 0 (pI (Sp.2.2.2 0) - 1) Sp := ⟨_, rfl⟩
  have h19 : ML By Nb σ4 S17 := by rw [h18]; exact (ML_eq h13.1 h16)
  have h20 := ML_k h19 h11
  have h21 : Imp (S17.1 = 0) (z12.toInt = tV By Nb Sp.2.2.1) := fun z => h13.2 (by rw [h16, ← h18]; exact z)
  have h22 : Imp (S17.1 = 0) (Sp.1 = 0 ∧ tK By Nb Sp.2.2.1 = 2 ∧ 0 ≤ tV By Nb Sp.2.2.1 ∧ tV By Nb Sp.2.2.1 ≤ pI (Sp.2.2.2 0) - 1) := fun z => tN_gg (by rw [← h18]; exact z)
  have h23 : S17.2.2.2 = Sp.2.2.2 := by rw [h18]; exact tN_w
  refine En_Ps 1 (pc' := 5) (lv' := [(2, .int z12), (0, .ref 159), (1, .int a)]) (st' := []) rfl ?_
  refine En_Ps 1 (pc' := 6) (lv' := [(2, .int z12), (0, .ref 159), (1, .int a)]) (st' := [.ref 159]) rfl ?_
  refine En_callV rfl rfl rfl rfl rfl rfl rfl rfl tgz_159 (by decide +kernel) rfl (c_237 σ4 h5 z10 h11) (by decide) (by decide) (fun v25 σ26 h24 => ?_)
  obtain ⟨h27, h28, z30, rfl, h29⟩ := h24
  obtain rfl : σ4 = σ26 := Fr_nil h28
  refine En_iEq _ rfl rfl (fun h31 => ?_) (fun h31 => ?_)
  · have h32 : gRl1 By Nb (tV By Nb Sp.2.2.1) S17 = S17 := by unfold gRl1; (repeat' split) <;> first | rfl | (exfalso; omega) | ((try have i0 := Imp_m h22 (by omega)); (try have i1 := Imp_m h21 (by omega)); (try have i2 := Imp_m h7.2.2.2.2.2.2.2.2.2.2.2.1 (by omega)); exfalso; omega)
    refine En_Ps 1 (pc' := 37) (lv' := [(2, .int z12), (0, .ref 159), (1, .int a)]) (st' := [.ref 159]) rfl ?_
    refine En_callV rfl rfl rfl rfl rfl rfl rfl rfl tgz_159 (by decide +kernel) rfl (c_234x σ4 h5 z8 h9 z10 h11 h19) (by decide) (by decide) (fun v34 σ35 h33 => ?_)
    obtain ⟨h36, h37, z39, h40, z41, h42, z43, rfl, h38⟩ := h33
    have h44 := h38.2.2.2.2.2.2.2.2.2.2.2.2
    have h45 := Fr_trans h14 h37 (by decide +kernel)
    have h46 := KR_fr h15 h37 (by decide +kernel)
    have h47 : tN By Nb 0 (pI (S17.2.2.2 0) - 1) S17 = tN By Nb 0 (pI (Sp.2.2.2 0) - 1) S17 := tN_cg rfl (by first | rfl | simp only [h23] | rfl)
    obtain ⟨S48, h49⟩ : ∃ q : PS, q = tN By Nb 0 (pI (Sp.2.2.2 0) - 1) S17 := ⟨_, rfl⟩
    have h50 : ML By Nb σ35 S48 := by rw [h49]; exact (ML_eq h44.1 h47)
    have h51 := ML_k h50 h42
    have h52 : Imp (S48.1 = 0) (z43.toInt = tV By Nb S17.2.2.1) := fun z => h44.2 (by rw [h47, ← h49]; exact z)
    have h53 : Imp (S48.1 = 0) (S17.1 = 0 ∧ tK By Nb S17.2.2.1 = 2 ∧ 0 ≤ tV By Nb S17.2.2.1 ∧ tV By Nb S17.2.2.1 ≤ pI (Sp.2.2.2 0) - 1) := fun z => tN_gg (by rw [← h49]; exact z)
    have h54 : S48.2.2.2 = S17.2.2.2 := by rw [h49]; exact tN_w
    refine En_Ps 2 (pc' := 42) (lv' := [(3, .int z43), (2, .int z12), (0, .ref 159), (1, .int a)]) (st' := [.ref 159]) rfl ?_
    refine En_callV rfl rfl rfl rfl rfl rfl rfl rfl tgz_159 (by decide +kernel) rfl (c_237 σ35 h36 z41 h42) (by decide) (by decide) (fun v56 σ57 h55 => ?_)
    obtain ⟨h58, h59, z61, rfl, h60⟩ := h55
    obtain rfl : σ35 = σ57 := Fr_nil h59
    refine En_iNe _ rfl rfl (fun hx => by exfalso; have := Imp_m h7.2.2.2.2.2.2.2.2.2.2.2.1 (by omega); have := Imp_m h38.2.2.2.2.2.2.2.2.2.2.2.1 (by omega); omega) (fun h62 => ?_)
    exact En_ret (v := none) rfl rfl rfl ⟨h36, h45, z39, h40, z41, h42, rfl, ⟨by omega, by omega, by omega, by omega, by omega, by omega, by omega, fun _ => by omega, ⟨h46, ML_eq h50 (by unfold gRule; dsimp only; rw [← h18, h32, ← h49]; first | done | rfl | (rw [if_pos (by omega)]; first | done | rfl) | (rw [if_neg (by omega)]; first | done | rfl))⟩⟩⟩
  · have h63 := Imp_m h7.2.2.2.2.2.2.2.2.2.2.2.1 (by omega)
    obtain ⟨z65, h64, h66, h67⟩ := WT_peekI h5 tgz_159 (by decide +kernel : FT 35 10 = (0, 0, 4)) (by decide +kernel)
    obtain ⟨z69, h68, h70, h71⟩ := WT_peekI h5 tgz_159 (by decide +kernel : FT 35 11 = (0, 0, 99999)) (by decide +kernel)
    have h72 := ML_k h19 h11
    have h73 : Imp (S17.1 = 0) (tK By Nb S17.2.2.1 = z65.toInt) := ML_t h19 h64
    have h74 : Imp (S17.1 = 0 ∧ tK By Nb S17.2.2.1 = 2) (z69.toInt = min 99999 (tV By Nb S17.2.2.1) ∧ 0 ≤ tV By Nb S17.2.2.1) := fun q => ML_u h19 h68 q.1 q.2
    try have h75 := Imp_m h73 (by omega)
    try have h76 := Imp_m h22 (by omega)
    try have h77 := Imp_m h21 (by omega)
    try have h78 := Imp_m h74 (by omega)
    refine En_Ps 1 (pc' := 13) (lv' := [(2, .int z12), (0, .ref 159), (1, .int a)]) (st' := [.ref 159]) rfl ?_
    refine En_getK (j := 10) h64 rfl rfl rfl tgz_159 (by decide +kernel) ?_
    refine En_Ps 1 (pc' := 17) (lv' := [(2, .int z12), (0, .ref 159), (1, .int a)]) (st' := [.int ((Int32.ofInt 2)), .int z65]) rfl ?_
    refine En_icNe _ rfl (by decide : (Int32.ofInt 2).toInt = 2) rfl (fun h79 => ?_) (fun h79 => ?_)
    · have h80 : gRl1 By Nb (tV By Nb Sp.2.2.1) S17 = S17 := by unfold gRl1; (repeat' split) <;> first | rfl | (exfalso; omega) | ((try have i0 := Imp_m h73 (by omega)); (try have i1 := Imp_m h22 (by omega)); (try have i2 := Imp_m h21 (by omega)); (try have i3 := Imp_m h74 (by omega)); exfalso; omega)
      refine En_Ps 1 (pc' := 37) (lv' := [(2, .int z12), (0, .ref 159), (1, .int a)]) (st' := [.ref 159]) rfl ?_
      refine En_callV rfl rfl rfl rfl rfl rfl rfl rfl tgz_159 (by decide +kernel) rfl (c_234x σ4 h5 z8 h9 z10 h11 h19) (by decide) (by decide) (fun v82 σ83 h81 => ?_)
      obtain ⟨h84, h85, z87, h88, z89, h90, z91, rfl, h86⟩ := h81
      have h92 := h86.2.2.2.2.2.2.2.2.2.2.2.2
      have h93 := Fr_trans h14 h85 (by decide +kernel)
      have h94 := KR_fr h15 h85 (by decide +kernel)
      have h95 : tN By Nb 0 (pI (S17.2.2.2 0) - 1) S17 = tN By Nb 0 (pI (Sp.2.2.2 0) - 1) S17 := tN_cg rfl (by first | rfl | simp only [h23] | rfl)
      obtain ⟨S96, h97⟩ : ∃ q : PS, q = tN By Nb 0 (pI (Sp.2.2.2 0) - 1) S17 := ⟨_, rfl⟩
      have h98 : ML By Nb σ83 S96 := by rw [h97]; exact (ML_eq h92.1 h95)
      have h99 := ML_k h98 h90
      have h100 : Imp (S96.1 = 0) (z91.toInt = tV By Nb S17.2.2.1) := fun z => h92.2 (by rw [h95, ← h97]; exact z)
      have h101 : Imp (S96.1 = 0) (S17.1 = 0 ∧ tK By Nb S17.2.2.1 = 2 ∧ 0 ≤ tV By Nb S17.2.2.1 ∧ tV By Nb S17.2.2.1 ≤ pI (Sp.2.2.2 0) - 1) := fun z => tN_gg (by rw [← h97]; exact z)
      have h102 : S96.2.2.2 = S17.2.2.2 := by rw [h97]; exact tN_w
      refine En_Ps 2 (pc' := 42) (lv' := [(3, .int z91), (2, .int z12), (0, .ref 159), (1, .int a)]) (st' := [.ref 159]) rfl ?_
      refine En_callV rfl rfl rfl rfl rfl rfl rfl rfl tgz_159 (by decide +kernel) rfl (c_237 σ83 h84 z89 h90) (by decide) (by decide) (fun v104 σ105 h103 => ?_)
      obtain ⟨h106, h107, z109, rfl, h108⟩ := h103
      obtain rfl : σ83 = σ105 := Fr_nil h107
      refine En_iNe _ rfl rfl (fun h110 => ?_) (fun h110 => ?_)
      · have h111 := Imp_m h86.2.2.2.2.2.2.2.2.2.2.2.1 (by omega)
        have h112 : S96.1 = 0 := by omega
        have h113 := Imp_m h100 h112
        have h114 := Imp_m h101 h112
        have h115 := Imp_m h21 h114.1
        have h116 := Imp_m h22 h114.1
        have h117 := Imp_m h73 h114.1
        have h118 := Imp_m h74 ⟨h114.1, h114.2.1⟩
        refine En_Ps 1 (pc' := 50) (lv' := [(3, .int z91), (2, .int z12), (0, .ref 159), (1, .int a)]) (st' := [.ref 159]) rfl ?_
        refine En_getU (j := 14) (u := 165) (g' := 41) (q := 0) rfl rfl rfl tgz_159 (by decide +kernel) h84 (by decide +kernel) (by decide +kernel) (fun h119 => ?_)
        refine En_Ps 2 (pc' := 55) (lv' := [(3, .int z91), (2, .int z12), (0, .ref 159), (1, .int a)]) (st' := [.int z12, .int a, .ref 165]) rfl ?_
        refine En_iast (l := 0) (u := 15) rfl rfl tgz_165 (by decide +kernel) (by omega) (lnI (by decide +kernel : LN _ = 226) (by omega)) (FTrow 41 146 1 7 (by decide +kernel) (by omega) (by omega) (by omega)) (rngI rfl (by omega) (by omega)) h84 h93 (by decide +kernel) (fun σ121 h122 h123 h124 h125 => ?_)
        have h126 := KR_st h94 (J := a.toInt) h125 (by omega)
        obtain ⟨S127, h128⟩ : ∃ q : PS, q = wst S96 (a.toInt) ((tV By Nb Sp.2.2.1)) := ⟨_, rfl⟩
        have h129 : ML By Nb σ121 S127 := by rw [h128]; exact (ML_wst (i := a.toInt) (v := (tV By Nb Sp.2.2.1)) h98 h124 h125 (by omega) (fun z => by have j1 := Imp_m h100 z; have j2 := Imp_m h101 z; have j3 := Imp_m h21 j2.1; have j4 := Imp_m h22 j2.1; have j5 := Imp_m h73 j2.1; have j6 := Imp_m h74 ⟨j2.1, j2.2.1⟩; exact ⟨by omega, by omega⟩))
        have h130 := ML_k h129 ((h125 _ _ (Or.inl (neTG tgz_159 tgz_165 (by decide)))).trans h90)
        have h131 : S127.1 = S96.1 := by rw [h128]; rfl
        refine En_Ps 1 (pc' := 57) (lv' := [(3, .int z91), (2, .int z12), (0, .ref 159), (1, .int a)]) (st' := [.ref 159]) rfl ?_
        refine En_getK (j := 14) ((h125 _ _ (Or.inl (neTG tgz_159 tgz_165 (by decide)))).trans h119) rfl rfl rfl tgz_159 (by decide +kernel) ?_
        refine En_Ps 3 (pc' := 63) (lv' := [(3, .int z91), (2, .int z12), (0, .ref 159), (1, .int a)]) (st' := [.int ((a + ((Int32.ofInt 1)))), .ref 165]) rfl ?_
        refine En_top (addI rfl (by decide : (Int32.ofInt 1).toInt = 1) (by omega) (by omega)) (fun z132 h133 => ?_)
        refine En_Ps 1 (pc' := 64) (lv' := [(3, .int z91), (2, .int z12), (0, .ref 159), (1, .int a)]) (st' := [.int z91, .int z132, .ref 165]) rfl ?_
        refine En_iast (l := 0) (u := 15) rfl rfl tgz_165 (by decide +kernel) (by omega) (lnI (by decide +kernel : LN _ = 226) (by omega)) (FTrow 41 147 1 7 (by decide +kernel) (by omega) (by omega) (by omega)) (rngI rfl (by omega) (by omega)) h122 h123 (by decide +kernel) (fun σ134 h135 h136 h137 h138 => ?_)
        have h139 := KR_st h126 (J := z132.toInt) h138 (by omega)
        obtain ⟨S140, h141⟩ : ∃ q : PS, q = wst S127 (a.toInt + 1) ((tV By Nb S17.2.2.1)) := ⟨_, rfl⟩
        have h142 : ML By Nb σ134 S140 := by rw [h141]; exact (ML_wst (i := a.toInt + 1) (v := (tV By Nb S17.2.2.1)) h129 h137 h138 (by omega) (fun z => by have j1 := h131.symm.trans z; have j2 := Imp_m h100 j1; have j3 := Imp_m h101 j1; have j4 := Imp_m h21 j3.1; have j5 := Imp_m h22 j3.1; have j6 := Imp_m h73 j3.1; have j7 := Imp_m h74 ⟨j3.1, j3.2.1⟩; exact ⟨by omega, by omega⟩))
        have h143 := ML_k h142 ((h138 _ _ (Or.inl (neTG tgz_159 tgz_165 (by decide)))).trans ((h125 _ _ (Or.inl (neTG tgz_159 tgz_165 (by decide)))).trans h90))
        have h144 : S140.1 = S127.1 := by rw [h141]; rfl
        exact En_ret (v := none) rfl rfl rfl ⟨h135, h136, z87, ((h138 _ _ (Or.inl (neTG tgz_159 tgz_165 (by decide)))).trans ((h125 _ _ (Or.inl (neTG tgz_159 tgz_165 (by decide)))).trans h88)), z89, ((h138 _ _ (Or.inl (neTG tgz_159 tgz_165 (by decide)))).trans ((h125 _ _ (Or.inl (neTG tgz_159 tgz_165 (by decide)))).trans h90)), rfl, ⟨by omega, by omega, by omega, by omega, by omega, by omega, by omega, fun _ => by omega, ⟨h139, ML_eq h142 (by unfold gRule; dsimp only; rw [← h18, h80, ← h97, ← h128, ← h141]; first | done | rfl | (rw [if_pos (by omega)]; first | done | rfl) | (rw [if_neg (by omega)]; first | done | rfl))⟩⟩⟩
      · exact En_ret (v := none) rfl rfl rfl ⟨h84, h93, z87, h88, z89, h90, rfl, ⟨by omega, by omega, by omega, by omega, by omega, by omega, by omega, fun _ => by omega, ⟨h94, ML_eq h98 (by unfold gRule; dsimp only; rw [← h18, h80, ← h97]; first | done | rfl | (rw [if_pos (by omega)]; first | done | rfl) | (rw [if_neg (by omega)]; first | done | rfl))⟩⟩⟩
    · have h145 : S17.1 = 0 := by omega
      have h146 := Imp_m h73 h145
      have h147 : tK By Nb S17.2.2.1 = 2 := by omega
      have h148 := Imp_m h21 h145
      have h149 := Imp_m h22 h145
      have h150 := Imp_m h73 h145
      have h151 := Imp_m h74 ⟨h145, h147⟩
      refine En_Ps 1 (pc' := 21) (lv' := [(2, .int z12), (0, .ref 159), (1, .int a)]) (st' := [.ref 159]) rfl ?_
      refine En_getK (j := 11) h68 rfl rfl rfl tgz_159 (by decide +kernel) ?_
      have h152 : sbI (z69.toInt) (z12.toInt) = sbI (min 99999 (tV By Nb S17.2.2.1)) (tV By Nb Sp.2.2.1) := sbI_cg (by omega) (by omega)
      refine En_Ps 3 (pc' := 27) (lv' := [(2, .int z12), (0, .ref 159), (1, .int a)]) (st' := [.int ((z12 ^^^ ((Int32.ofInt (-1))))), .int z69]) rfl ?_
      refine En_nam (fun z153 h154 => ?_)
      refine En_Ps 1 (pc' := 28) (lv' := [(2, .int z12), (0, .ref 159), (1, .int a)]) (st' := [.int ((z69 &&& z153))]) rfl ?_
      refine En_nam (fun z155 h156 => ?_)
      obtain ⟨h157, h158⟩ := andn_rng h156 rfl (by omega) (by omega : _ ≤ (99999 : Int))
      refine En_iEq _ rfl rfl (fun h159 => ?_) (fun h159 => ?_)
      · obtain ⟨h160, h161⟩ := andn_zero h156 h154 h159 rfl rfl (by omega)
        have := sub_sbw h156 h154 rfl rfl (by omega) (by omega) (by omega)
        have h162 : gRl1 By Nb (tV By Nb Sp.2.2.1) S17 = S17 := by unfold gRl1; (repeat' split) <;> first | rfl | (exfalso; omega) | ((try have i0 := Imp_m h73 (by omega)); (try have i1 := Imp_m h22 (by omega)); (try have i2 := Imp_m h21 (by omega)); (try have i3 := Imp_m h74 (by omega)); exfalso; omega)
        refine En_Ps 1 (pc' := 37) (lv' := [(2, .int z12), (0, .ref 159), (1, .int a)]) (st' := [.ref 159]) rfl ?_
        refine En_callV rfl rfl rfl rfl rfl rfl rfl rfl tgz_159 (by decide +kernel) rfl (c_234x σ4 h5 z8 h9 z10 h11 h19) (by decide) (by decide) (fun v164 σ165 h163 => ?_)
        obtain ⟨h166, h167, z169, h170, z171, h172, z173, rfl, h168⟩ := h163
        have h174 := h168.2.2.2.2.2.2.2.2.2.2.2.2
        have h175 := Fr_trans h14 h167 (by decide +kernel)
        have h176 := KR_fr h15 h167 (by decide +kernel)
        have h177 : tN By Nb 0 (pI (S17.2.2.2 0) - 1) S17 = tN By Nb 0 (pI (Sp.2.2.2 0) - 1) S17 := tN_cg rfl (by first | rfl | simp only [h23] | rfl)
        obtain ⟨S178, h179⟩ : ∃ q : PS, q = tN By Nb 0 (pI (Sp.2.2.2 0) - 1) S17 := ⟨_, rfl⟩
        have h180 : ML By Nb σ165 S178 := by rw [h179]; exact (ML_eq h174.1 h177)
        have h181 := ML_k h180 h172
        have h182 : Imp (S178.1 = 0) (z173.toInt = tV By Nb S17.2.2.1) := fun z => h174.2 (by rw [h177, ← h179]; exact z)
        have h183 : Imp (S178.1 = 0) (S17.1 = 0 ∧ tK By Nb S17.2.2.1 = 2 ∧ 0 ≤ tV By Nb S17.2.2.1 ∧ tV By Nb S17.2.2.1 ≤ pI (Sp.2.2.2 0) - 1) := fun z => tN_gg (by rw [← h179]; exact z)
        have h184 : S178.2.2.2 = S17.2.2.2 := by rw [h179]; exact tN_w
        refine En_Ps 2 (pc' := 42) (lv' := [(3, .int z173), (2, .int z12), (0, .ref 159), (1, .int a)]) (st' := [.ref 159]) rfl ?_
        refine En_callV rfl rfl rfl rfl rfl rfl rfl rfl tgz_159 (by decide +kernel) rfl (c_237 σ165 h166 z171 h172) (by decide) (by decide) (fun v186 σ187 h185 => ?_)
        obtain ⟨h188, h189, z191, rfl, h190⟩ := h185
        obtain rfl : σ165 = σ187 := Fr_nil h189
        refine En_iNe _ rfl rfl (fun h192 => ?_) (fun h192 => ?_)
        · have h193 := Imp_m h168.2.2.2.2.2.2.2.2.2.2.2.1 (by omega)
          have h194 : S178.1 = 0 := by omega
          have h195 := Imp_m h182 h194
          have h196 := Imp_m h183 h194
          have h197 := Imp_m h21 h196.1
          have h198 := Imp_m h22 h196.1
          have h199 := Imp_m h73 h196.1
          have h200 := Imp_m h74 ⟨h196.1, h196.2.1⟩
          refine En_Ps 1 (pc' := 50) (lv' := [(3, .int z173), (2, .int z12), (0, .ref 159), (1, .int a)]) (st' := [.ref 159]) rfl ?_
          refine En_getU (j := 14) (u := 165) (g' := 41) (q := 0) rfl rfl rfl tgz_159 (by decide +kernel) h166 (by decide +kernel) (by decide +kernel) (fun h201 => ?_)
          refine En_Ps 2 (pc' := 55) (lv' := [(3, .int z173), (2, .int z12), (0, .ref 159), (1, .int a)]) (st' := [.int z12, .int a, .ref 165]) rfl ?_
          refine En_iast (l := 0) (u := 15) rfl rfl tgz_165 (by decide +kernel) (by omega) (lnI (by decide +kernel : LN _ = 226) (by omega)) (FTrow 41 146 1 7 (by decide +kernel) (by omega) (by omega) (by omega)) (rngI rfl (by omega) (by omega)) h166 h175 (by decide +kernel) (fun σ203 h204 h205 h206 h207 => ?_)
          have h208 := KR_st h176 (J := a.toInt) h207 (by omega)
          obtain ⟨S209, h210⟩ : ∃ q : PS, q = wst S178 (a.toInt) ((tV By Nb Sp.2.2.1)) := ⟨_, rfl⟩
          have h211 : ML By Nb σ203 S209 := by rw [h210]; exact (ML_wst (i := a.toInt) (v := (tV By Nb Sp.2.2.1)) h180 h206 h207 (by omega) (fun z => by have j1 := Imp_m h182 z; have j2 := Imp_m h183 z; have j3 := Imp_m h21 j2.1; have j4 := Imp_m h22 j2.1; have j5 := Imp_m h73 j2.1; have j6 := Imp_m h74 ⟨j2.1, j2.2.1⟩; exact ⟨by omega, by omega⟩))
          have h212 := ML_k h211 ((h207 _ _ (Or.inl (neTG tgz_159 tgz_165 (by decide)))).trans h172)
          have h213 : S209.1 = S178.1 := by rw [h210]; rfl
          refine En_Ps 1 (pc' := 57) (lv' := [(3, .int z173), (2, .int z12), (0, .ref 159), (1, .int a)]) (st' := [.ref 159]) rfl ?_
          refine En_getK (j := 14) ((h207 _ _ (Or.inl (neTG tgz_159 tgz_165 (by decide)))).trans h201) rfl rfl rfl tgz_159 (by decide +kernel) ?_
          refine En_Ps 3 (pc' := 63) (lv' := [(3, .int z173), (2, .int z12), (0, .ref 159), (1, .int a)]) (st' := [.int ((a + ((Int32.ofInt 1)))), .ref 165]) rfl ?_
          refine En_top (addI rfl (by decide : (Int32.ofInt 1).toInt = 1) (by omega) (by omega)) (fun z214 h215 => ?_)
          refine En_Ps 1 (pc' := 64) (lv' := [(3, .int z173), (2, .int z12), (0, .ref 159), (1, .int a)]) (st' := [.int z173, .int z214, .ref 165]) rfl ?_
          refine En_iast (l := 0) (u := 15) rfl rfl tgz_165 (by decide +kernel) (by omega) (lnI (by decide +kernel : LN _ = 226) (by omega)) (FTrow 41 147 1 7 (by decide +kernel) (by omega) (by omega) (by omega)) (rngI rfl (by omega) (by omega)) h204 h205 (by decide +kernel) (fun σ216 h217 h218 h219 h220 => ?_)
          have h221 := KR_st h208 (J := z214.toInt) h220 (by omega)
          obtain ⟨S222, h223⟩ : ∃ q : PS, q = wst S209 (a.toInt + 1) ((tV By Nb S17.2.2.1)) := ⟨_, rfl⟩
          have h224 : ML By Nb σ216 S222 := by rw [h223]; exact (ML_wst (i := a.toInt + 1) (v := (tV By Nb S17.2.2.1)) h211 h219 h220 (by omega) (fun z => by have j1 := h213.symm.trans z; have j2 := Imp_m h182 j1; have j3 := Imp_m h183 j1; have j4 := Imp_m h21 j3.1; have j5 := Imp_m h22 j3.1; have j6 := Imp_m h73 j3.1; have j7 := Imp_m h74 ⟨j3.1, j3.2.1⟩; exact ⟨by omega, by omega⟩))
          have h225 := ML_k h224 ((h220 _ _ (Or.inl (neTG tgz_159 tgz_165 (by decide)))).trans ((h207 _ _ (Or.inl (neTG tgz_159 tgz_165 (by decide)))).trans h172))
          have h226 : S222.1 = S209.1 := by rw [h223]; rfl
          exact En_ret (v := none) rfl rfl rfl ⟨h217, h218, z169, ((h220 _ _ (Or.inl (neTG tgz_159 tgz_165 (by decide)))).trans ((h207 _ _ (Or.inl (neTG tgz_159 tgz_165 (by decide)))).trans h170)), z171, ((h220 _ _ (Or.inl (neTG tgz_159 tgz_165 (by decide)))).trans ((h207 _ _ (Or.inl (neTG tgz_159 tgz_165 (by decide)))).trans h172)), rfl, ⟨by omega, by omega, by omega, by omega, by omega, by omega, by omega, fun _ => by omega, ⟨h221, ML_eq h224 (by unfold gRule; dsimp only; rw [← h18, h162, ← h179, ← h210, ← h223]; first | done | rfl | (rw [if_pos (by omega)]; first | done | rfl) | (rw [if_neg (by omega)]; first | done | rfl))⟩⟩⟩
        · exact En_ret (v := none) rfl rfl rfl ⟨h166, h175, z169, h170, z171, h172, rfl, ⟨by omega, by omega, by omega, by omega, by omega, by omega, by omega, fun _ => by omega, ⟨h176, ML_eq h180 (by unfold gRule; dsimp only; rw [← h18, h162, ← h179]; first | done | rfl | (rw [if_pos (by omega)]; first | done | rfl) | (rw [if_neg (by omega)]; first | done | rfl))⟩⟩⟩
      · have := sub_sbw h156 h154 rfl rfl (by omega) (by omega) (by omega)
        refine En_Ps 2 (pc' := 33) (lv' := [(2, .int z12), (0, .ref 159), (1, .int a)]) (st' := [.int ((Int32.ofInt 2)), .ref 159]) rfl ?_
        have := (by decide : ((Int32.ofInt 2)).toInt = 2)
        refine En_callV rfl rfl rfl rfl rfl rfl rfl rfl tgz_159 (by decide +kernel) rfl (c_223x σ4 h5 ((Int32.ofInt 2)) (geI (by decide : (Int32.ofInt 2).toInt = 2) (by omega)) (leI (by decide : (Int32.ofInt 2).toInt = 2) (by omega)) z10 h11 h19) (by decide) (by decide) (fun v228 σ229 h227 => ?_)
        obtain ⟨h230, h231, z233, h234, rfl, h232⟩ := h227
        have h235 := h232.2.2.2.2
        have h236 := Fr_trans h14 h231 (by decide +kernel)
        have h237 := KR_fr h15 h231 (by decide +kernel)
        obtain ⟨S238, h239⟩ : ∃ q : PS, q = err By Nb 2 S17 := ⟨_, rfl⟩
        have h240 : ML By Nb σ229 S238 := by rw [h239]; exact (ML_eq h235 (err_cg (by omega)))
        have h241 := ML_k h240 h234
        have h242 : Imp (S238.1 = 0) (tK By Nb S238.2.2.1 = z65.toInt) := ML_t h240 ((h231 _ _ (inW tgz_159 (by decide +kernel))).trans h64)
        have h243 : Imp (S238.1 = 0 ∧ tK By Nb S238.2.2.1 = 2) (z69.toInt = min 99999 (tV By Nb S238.2.2.1) ∧ 0 ≤ tV By Nb S238.2.2.1) := fun q => ML_u h240 ((h231 _ _ (inW tgz_159 (by decide +kernel))).trans h68) q.1 q.2
        have h244 : S238.2.2.2 = S17.2.2.2 := by rw [h239]; exact err_w
        have h245 : gRl1 By Nb (tV By Nb Sp.2.2.1) S17 = S238 := by rw [h239]; unfold gRl1; (repeat' split) <;> first | rfl | (exfalso; omega) | ((try have i0 := Imp_m h242 (by omega)); (try have i1 := Imp_m h73 (by omega)); (try have i2 := Imp_m h22 (by omega)); (try have i3 := Imp_m h21 (by omega)); (try have i4 := Imp_m h74 (by omega)); (try have i5 := Imp_m h243 (by omega)); exfalso; omega)
        refine En_Ps 1 (pc' := 37) (lv' := [(2, .int z12), (0, .ref 159), (1, .int a)]) (st' := [.ref 159]) rfl ?_
        refine En_callV rfl rfl rfl rfl rfl rfl rfl rfl tgz_159 (by decide +kernel) rfl (c_234x σ229 h230 z8 ((h231 _ _ (inW tgz_159 (by decide +kernel))).trans h9) z233 h234 h240) (by decide) (by decide) (fun v247 σ248 h246 => ?_)
        obtain ⟨h249, h250, z252, h253, z254, h255, z256, rfl, h251⟩ := h246
        have h257 := h251.2.2.2.2.2.2.2.2.2.2.2.2
        have h258 := Fr_trans h236 h250 (by decide +kernel)
        have h259 := KR_fr h237 h250 (by decide +kernel)
        have h260 : tN By Nb 0 (pI (S238.2.2.2 0) - 1) S238 = tN By Nb 0 (pI (Sp.2.2.2 0) - 1) S238 := tN_cg rfl (by first | rfl | simp only [h23, h244] | rfl)
        obtain ⟨S261, h262⟩ : ∃ q : PS, q = tN By Nb 0 (pI (Sp.2.2.2 0) - 1) S238 := ⟨_, rfl⟩
        have h263 : ML By Nb σ248 S261 := by rw [h262]; exact (ML_eq h257.1 h260)
        have h264 := ML_k h263 h255
        have h265 : Imp (S261.1 = 0) (z256.toInt = tV By Nb S238.2.2.1) := fun z => h257.2 (by rw [h260, ← h262]; exact z)
        have h266 : Imp (S261.1 = 0) (S238.1 = 0 ∧ tK By Nb S238.2.2.1 = 2 ∧ 0 ≤ tV By Nb S238.2.2.1 ∧ tV By Nb S238.2.2.1 ≤ pI (Sp.2.2.2 0) - 1) := fun z => tN_gg (by rw [← h262]; exact z)
        have h267 : S261.2.2.2 = S238.2.2.2 := by rw [h262]; exact tN_w
        refine En_Ps 2 (pc' := 42) (lv' := [(3, .int z256), (2, .int z12), (0, .ref 159), (1, .int a)]) (st' := [.ref 159]) rfl ?_
        refine En_callV rfl rfl rfl rfl rfl rfl rfl rfl tgz_159 (by decide +kernel) rfl (c_237 σ248 h249 z254 h255) (by decide) (by decide) (fun v269 σ270 h268 => ?_)
        obtain ⟨h271, h272, z274, rfl, h273⟩ := h268
        obtain rfl : σ248 = σ270 := Fr_nil h272
        refine En_iNe _ rfl rfl (fun hx => by exfalso; have := Imp_m h251.2.2.2.2.2.2.2.2.2.2.2.1 (by omega); omega) (fun h275 => ?_)
        exact En_ret (v := none) rfl rfl rfl ⟨h249, h258, z252, h253, z254, h255, rfl, ⟨by omega, by omega, by omega, by omega, by omega, by omega, by omega, fun _ => by omega, ⟨h259, ML_eq h263 (by unfold gRule; dsimp only; rw [← h18, h245, ← h262]; first | done | rfl | (rw [if_pos (by omega)]; first | done | rfl) | (rw [if_neg (by omega)]; first | done | rfl))⟩⟩⟩
/-- DoorSchoolModel.readNext()V -/
abbrev P_302x (σ0 : SG) (By : Int → Int) (Nb : Int) (Sp : PS) (f : Int32) (k : Int32) : PO := fun v σ => WT σ ∧ Fr [(35, 8), (35, 9), (35, 10), (35, 11), (35, 12), (35, 13), (41, 0)] σ0 σ ∧ ∃ f1 : Int32, (σ 159)[8]? = some (.int f1) ∧ ∃ k1 : Int32, (σ 159)[12]? = some (.int k1) ∧ v = none ∧ -f1.toInt ≤ 0 ∧ f1.toInt - 1600 ≤ 0 ∧ -f1.toInt + f.toInt ≤ 0 ∧ -k1.toInt ≤ 0 ∧ k1.toInt - 3 ≤ 0 ∧ -k1.toInt + k.toInt - 2 ≤ 0 ∧ f.toInt - f1.toInt ≤ 0 ∧ Imp (k1.toInt ≤ 0) (k.toInt ≤ 0) ∧ (KF σ0 σ ∧ ML By Nb σ (gNext By Nb Sp))
set_option maxRecDepth 10000 in
set_option maxHeartbeats 4000000 in
theorem k_302x_219 {By : Int → Int} {Nb : Int} {Sp : PS} (σ0 : SG) (hσ0 : WT σ0) (f : Int32) (h_f : (σ0 159)[8]? = some (.int f)) (k : Int32) (h_k : (σ0 159)[12]? = some (.int k)) (hM : ML By Nb σ0 Sp) (hg : Sp.1 = 0) : ∀ (σ1 : SG) (y4 : Int32) (y8 : Int32) (y12 : Int32), WT σ1 → Fr [(35, 8), (35, 9), (35, 10), (35, 11), (35, 12), (35, 13), (41, 0)] σ0 σ1 → (σ1 165)[(3 : Int).toNat]? = some (.int y4) → 0 ≤ y4.toInt → y4.toInt ≤ 12 → (σ1 159)[12]? = some (.int y8) → 0 ≤ y8.toInt → y8.toInt ≤ 3 → (σ1 159)[8]? = some (.int y12) → 0 ≤ y12.toInt → y12.toInt ≤ 1600 → f.toInt - y12.toInt ≤ 0 → Imp (y8.toInt ≤ 0) (k.toInt ≤ 0) → y8.toInt ≤ 0 → y4.toInt - 11 ≤ 0 → (iW By Nb 2 Sp) ≤ 0 ∧ -(iW By Nb 2 Sp) ≤ 0 → (iW By Nb 6 Sp) ≤ 0 ∧ -(iW By Nb 6 Sp) ≤ 0 → (iW By Nb 3 Sp) - 1 ≤ 0 ∧ -(iW By Nb 3 Sp) + 1 ≤ 0 → KF σ0 σ1 → ML By Nb σ1 (adv By Nb Sp) → gN2 By Nb (gN1 By Nb Sp) = Sp → En 9 200 none mr_302 (P_302x σ0 By Nb Sp f k) 219 [(0, .ref 159)] [] σ1 := by
  obtain ⟨hl_f, hu_f⟩ := WT_int hσ0 (g := 35) (by decide +kernel) (by decide +kernel) (l := 0) (u := 1600) (by decide +kernel) h_f
  obtain ⟨hl_k, hu_k⟩ := WT_int hσ0 (g := 35) (by decide +kernel) (by decide +kernel) (l := 0) (u := 3) (by decide +kernel) h_k
  have hF0 : Fr [(35, 8), (35, 9), (35, 10), (35, 11), (35, 12), (35, 13), (41, 0)] σ0 σ0 := Fr_rfl
  intro σ1 y4 y8 y12 h2 h3 h5 h6 h7 h9 h10 h11 h13 h14 h15 h16 h17 h18 h19 h20 h21 h22 h23 h24 h25
  have h26 := Imp_m h17 (by omega)
  have h27 : (adv By Nb Sp).1 = 0 := by rw [adv_1]; exact hg
  have h28 : (adv By Nb Sp).2.2.2 = Sp.2.2.2 := adv_w
  have h29 := ML_k h24 h9
  have h30 := ML_w h24 h27 h5 (by omega) (by omega)
  refine En_Ps 3 (pc' := 223) (lv' := [(0, .ref 159)]) (st' := [.ref 159, .int ((Int32.ofInt 2)), .int (((Int8.ofInt 122).toInt32))]) rfl ?_
  refine En_getU (j := 14) (u := 165) (g' := 41) (q := 0) rfl rfl rfl tgz_159 (by decide +kernel) h2 (by decide +kernel) (by decide +kernel) (fun h31 => ?_)
  refine En_Ps 1 (pc' := 227) (lv' := [(0, .ref 159)]) (st' := [.int ((Int32.ofInt 3)), .ref 165, .int ((Int32.ofInt 2)), .int (((Int8.ofInt 122).toInt32))]) rfl ?_
  refine En_ialdK h5 rfl (by decide : (Int32.ofInt 3).toInt = 3) tgz_165 (by decide +kernel) h2 (by omega) (lnI (by decide +kernel : LN _ = 226) (by omega)) ?_
  refine En_Ps 1 (pc' := 229) (lv' := [(0, .ref 159)]) (st' := [.int ((((Int32.ofInt 2)) * y4)), .int (((Int8.ofInt 122).toInt32))]) rfl ?_
  refine En_top (mulI (by decide : (Int32.ofInt 2).toInt = 2) rfl (Z := 2 * y4.toInt) (by omega) (by omega) (by omega)) (fun z34 h35 => ?_)
  refine En_Ps 1 (pc' := 230) (lv' := [(0, .ref 159)]) (st' := [.int (((((Int8.ofInt 122).toInt32)) + z34))]) rfl ?_
  refine En_top (addI (by decide : ((Int8.ofInt 122).toInt32).toInt = 122) rfl (by omega) (by omega)) (fun z36 h37 => ?_)
  refine En_Ps 2 (pc' := 232) (lv' := [(2, .int z36), (0, .ref 159)]) (st' := [.ref 159]) rfl ?_
  refine En_getK (j := 14) h31 rfl rfl rfl tgz_159 (by decide +kernel) ?_
  refine En_Ps 2 (pc' := 237) (lv' := [(2, .int z36), (0, .ref 159)]) (st' := [.ref 159, .int z36, .ref 165]) rfl ?_
  refine En_callV rfl rfl rfl rfl rfl rfl rfl rfl tgz_159 (by decide +kernel) rfl (c_234x σ1 h2 y12 h13 y8 h9 h24) (by decide) (by decide) (fun v39 σ40 h38 => ?_)
  obtain ⟨h41, h42, z44, h45, z46, h47, z48, rfl, h43⟩ := h38
  have h49 := h43.2.2.2.2.2.2.2.2.2.2.2.2
  have h50 := Fr_trans h3 h42 (by decide +kernel)
  have h51 := KF_fr h23 h42 (by decide +kernel)
  have h52 : tN By Nb 0 (pI ((adv By Nb Sp).2.2.2 0) - 1) (adv By Nb Sp) = tN By Nb 0 (pI ((adv By Nb Sp).2.2.2 0) - 1) (adv By Nb Sp) := tN_cg rfl (by first | rfl | simp only [h28] | rfl)
  obtain ⟨S53, h54⟩ : ∃ q : PS, q = tN By Nb 0 (pI ((adv By Nb Sp).2.2.2 0) - 1) (adv By Nb Sp) := ⟨_, rfl⟩
  have h55 : ML By Nb σ40 S53 := by rw [h54]; exact (ML_eq h49.1 h52)
  have h56 := ML_k h55 h47
  have h57 : Imp (S53.1 = 0) (z48.toInt = tV By Nb (adv By Nb Sp).2.2.1) := fun z => h49.2 (by rw [h52, ← h54]; exact z)
  have h58 : Imp (S53.1 = 0) ((adv By Nb Sp).1 = 0 ∧ tK By Nb (adv By Nb Sp).2.2.1 = 2 ∧ 0 ≤ tV By Nb (adv By Nb Sp).2.2.1 ∧ tV By Nb (adv By Nb Sp).2.2.1 ≤ pI ((adv By Nb Sp).2.2.2 0) - 1) := fun z => tN_gg (by rw [← h54]; exact z)
  have h59 : S53.2.2.2 = (adv By Nb Sp).2.2.2 := by rw [h54]; exact tN_w
  refine En_iast (l := 0) (u := 15) rfl rfl tgz_165 (by decide +kernel) (by omega) (lnI (by decide +kernel : LN _ = 226) (by omega)) (FTrow 41 122 2 12 (by decide +kernel) (by omega) (by omega) (by omega)) (rngI rfl (by omega) (by omega)) h41 h50 (by decide +kernel) (fun σ60 h61 h62 h63 h64 => ?_)
  have h65 := KF_st h51 (J := z36.toInt) h64 (by omega) (by omega)
  obtain ⟨S66, h67⟩ : ∃ q : PS, q = wst S53 (122 + 2 * (adv By Nb Sp).2.2.2 3) ((tV By Nb (adv By Nb Sp).2.2.1)) := ⟨_, rfl⟩
  have h68 : ML By Nb σ60 S66 := by rw [h67]; exact (ML_wst (i := 122 + 2 * (adv By Nb Sp).2.2.2 3) (v := (tV By Nb (adv By Nb Sp).2.2.1)) h55 h63 h64 (by omega) (fun z => by have j1 := Imp_m h57 z; have j2 := Imp_m h58 z; exact ⟨by omega, by omega⟩))
  have h69 := ML_k h68 ((h64 _ _ (Or.inl (neTG tgz_159 tgz_165 (by decide)))).trans h47)
  have h70 : S66.1 = S53.1 := by rw [h67]; rfl
  refine En_Ps 1 (pc' := 242) (lv' := [(2, .int z36), (0, .ref 159)]) (st' := [.ref 159]) rfl ?_
  refine En_getK (j := 14) ((h64 _ _ (Or.inl (neTG tgz_159 tgz_165 (by decide)))).trans ((h42 _ _ (inW tgz_159 (by decide +kernel))).trans h31)) rfl rfl rfl tgz_159 (by decide +kernel) ?_
  refine En_Ps 3 (pc' := 248) (lv' := [(2, .int z36), (0, .ref 159)]) (st' := [.int ((z36 + ((Int32.ofInt 1)))), .ref 165]) rfl ?_
  refine En_top (addI rfl (by decide : (Int32.ofInt 1).toInt = 1) (by omega) (by omega)) (fun z71 h72 => ?_)
  refine En_Ps 1 (pc' := 249) (lv' := [(2, .int z36), (0, .ref 159)]) (st' := [.ref 159, .int z71, .ref 165]) rfl ?_
  refine En_callV rfl rfl rfl rfl rfl rfl rfl rfl tgz_159 (by decide +kernel) rfl (c_209x σ60 h61 z44 ((h64 _ _ (Or.inl (neTG tgz_159 tgz_165 (by decide)))).trans h45) z46 ((h64 _ _ (Or.inl (neTG tgz_159 tgz_165 (by decide)))).trans h47) h68) (by decide) (by decide) (fun v74 σ75 h73 => ?_)
  obtain ⟨h76, h77, z79, h80, z81, h82, z83, rfl, h78⟩ := h73
  have h84 := h78.2.2.2.2.2.2.2.2.2.2
  have h85 := Fr_trans h62 h77 (by decide +kernel)
  have h86 := KF_fr h65 h77 (by decide +kernel)
  obtain ⟨S87, h88⟩ : ∃ q : PS, q = gDeed By Nb S66 := ⟨_, rfl⟩
  have h89 : ML By Nb σ75 S87 := by rw [h88]; exact h84.1
  have h90 := ML_k h89 h82
  have h91 : z83.toInt = iW By Nb 8 S66 := h84.2
  have h92 : S87.2.2.2 = S66.2.2.2 := by rw [h88]; exact gDeed_w
  have h93 : Imp (S87.1 = 0) (S66.1 = 0) := fun z => gDeed_g (by rw [← h88]; exact z)
  refine En_iast (l := 0) (u := 1) rfl rfl tgz_165 (by decide +kernel) (by omega) (lnI (by decide +kernel : LN _ = 226) (by omega)) (FTrow 41 123 2 12 (by decide +kernel) (by omega) (by omega) (by omega)) (rngI rfl (by omega) (by omega)) h76 h85 (by decide +kernel) (fun σ94 h95 h96 h97 h98 => ?_)
  have h99 := KF_st h86 (J := z71.toInt) h98 (by omega) (by omega)
  obtain ⟨S100, h101⟩ : ∃ q : PS, q = wst S87 (122 + 2 * (adv By Nb Sp).2.2.2 3 + 1) ((iW By Nb 8 S66)) := ⟨_, rfl⟩
  have h102 : ML By Nb σ94 S100 := by rw [h101]; exact (ML_wst (i := 122 + 2 * (adv By Nb Sp).2.2.2 3 + 1) (v := (iW By Nb 8 S66)) h89 h97 h98 (by omega) (fun z => by have j1 := Imp_m h93 z; have j2 := h70.symm.trans j1; have j3 := Imp_m h57 j2; have j4 := Imp_m h58 j2; exact ⟨by omega, by omega⟩))
  have h103 := ML_k h102 ((h98 _ _ (Or.inl (neTG tgz_159 tgz_165 (by decide)))).trans h82)
  have h104 : S100.1 = S87.1 := by rw [h101]; rfl
  refine En_Ps 1 (pc' := 254) (lv' := [(2, .int z36), (0, .ref 159)]) (st' := [.ref 159]) rfl ?_
  refine En_getK (j := 14) ((h98 _ _ (Or.inl (neTG tgz_159 tgz_165 (by decide)))).trans ((h77 _ _ (inW tgz_159 (by decide +kernel))).trans ((h64 _ _ (Or.inl (neTG tgz_159 tgz_165 (by decide)))).trans ((h42 _ _ (inW tgz_159 (by decide +kernel))).trans h31)))) rfl rfl rfl tgz_159 (by decide +kernel) ?_
  refine En_Ps 2 (pc' := 259) (lv' := [(2, .int z36), (0, .ref 159)]) (st' := [.int ((Int32.ofInt 3)), .ref 165, .int ((Int32.ofInt 3)), .ref 165]) rfl ?_
  refine En_ialdK ((h98 _ _ (Or.inr (by omega))).trans ((h77 _ _ (inWa tgz_165 (by decide +kernel))).trans ((h64 _ _ (Or.inr (by omega))).trans ((h42 _ _ (inWa tgz_165 (by decide +kernel))).trans h5)))) rfl (by decide : (Int32.ofInt 3).toInt = 3) tgz_165 (by decide +kernel) h95 (by omega) (lnI (by decide +kernel : LN _ = 226) (by omega)) ?_
  refine En_Ps 2 (pc' := 262) (lv' := [(2, .int z36), (0, .ref 159)]) (st' := [.int ((y4 + ((Int32.ofInt 1)))), .int ((Int32.ofInt 3)), .ref 165]) rfl ?_
  refine En_top (addI rfl (by decide : (Int32.ofInt 1).toInt = 1) (by omega) (by omega)) (fun z106 h107 => ?_)
  refine En_iast (l := 0) (u := 12) rfl (by decide : (Int32.ofInt 3).toInt = 3) tgz_165 (by decide +kernel) (by omega) (lnI (by decide +kernel : LN _ = 226) (by omega)) (by decide +kernel) (rngI rfl (by omega) (by omega)) h95 h96 (by decide +kernel) (fun σ108 h109 h110 h111 h112 => ?_)
  have h113 := KF_st h99 (J := 3) h112 (by omega) (by omega)
  obtain ⟨S114, h115⟩ : ∃ q : PS, q = wst S100 (3) ((adv By Nb Sp).2.2.2 3 + 1) := ⟨_, rfl⟩
  have h116 : ML By Nb σ108 S114 := by rw [h115]; exact (ML_wst (i := 3) (v := (adv By Nb Sp).2.2.2 3 + 1) h102 h111 h112 (by omega) (fun z => by have j1 := h104.symm.trans z; have j2 := Imp_m h93 j1; have j3 := h70.symm.trans j2; have j4 := Imp_m h57 j3; have j5 := Imp_m h58 j3; exact ⟨by omega, by omega⟩))
  have h117 := ML_k h116 ((h112 _ _ (Or.inl (neTG tgz_159 tgz_165 (by decide)))).trans ((h98 _ _ (Or.inl (neTG tgz_159 tgz_165 (by decide)))).trans h82))
  have h118 : S114.1 = S100.1 := by rw [h115]; rfl
  refine En_Ps 1 (pc' := 447) (lv' := [(2, .int z36), (0, .ref 159)]) (st' := []) rfl ?_
  exact En_ret (v := none) rfl rfl rfl ⟨h109, h110, z79, ((h112 _ _ (Or.inl (neTG tgz_159 tgz_165 (by decide)))).trans ((h98 _ _ (Or.inl (neTG tgz_159 tgz_165 (by decide)))).trans h80)), z81, ((h112 _ _ (Or.inl (neTG tgz_159 tgz_165 (by decide)))).trans ((h98 _ _ (Or.inl (neTG tgz_159 tgz_165 (by decide)))).trans h82)), rfl, ⟨by omega, by omega, by omega, by omega, by omega, by omega, by omega, fun _ => by omega, ⟨h113, ML_eq h116 (by subst h115; subst h101; subst h88; subst h67; subst h54; rw [gNx_3 h25 hg (by omega) (by omega) (by omega)]; unfold gExam; (try dsimp only); first | done | rfl)⟩⟩⟩
set_option maxRecDepth 10000 in
set_option maxHeartbeats 4000000 in
theorem k_302x_309 {By : Int → Int} {Nb : Int} {Sp : PS} (σ0 : SG) (hσ0 : WT σ0) (f : Int32) (h_f : (σ0 159)[8]? = some (.int f)) (k : Int32) (h_k : (σ0 159)[12]? = some (.int k)) (hM : ML By Nb σ0 Sp) (hg : Sp.1 = 0) : ∀ (σ119 : SG) (y122 : Int32) (y126 : Int32) (y130 : Int32), WT σ119 → Fr [(35, 8), (35, 9), (35, 10), (35, 11), (35, 12), (35, 13), (41, 0)] σ0 σ119 → (σ119 165)[(4 : Int).toNat]? = some (.int y122) → 0 ≤ y122.toInt → y122.toInt ≤ 4 → (σ119 159)[12]? = some (.int y126) → 0 ≤ y126.toInt → y126.toInt ≤ 3 → (σ119 159)[8]? = some (.int y130) → 0 ≤ y130.toInt → y130.toInt ≤ 1600 → f.toInt - y130.toInt ≤ 0 → Imp (y126.toInt ≤ 0) (k.toInt ≤ 0) → y126.toInt ≤ 0 → y122.toInt - 3 ≤ 0 → (iW By Nb 2 Sp) ≤ 0 ∧ -(iW By Nb 2 Sp) ≤ 0 → (iW By Nb 6 Sp) ≤ 0 ∧ -(iW By Nb 6 Sp) ≤ 0 → (iW By Nb 3 Sp) ≤ 0 ∧ -(iW By Nb 3 Sp) ≤ 0 → (iW By Nb 17 Sp) ≤ 0 ∧ -(iW By Nb 17 Sp) ≤ 0 → (iW By Nb 9 Sp) ≤ 0 ∧ -(iW By Nb 9 Sp) ≤ 0 → (iW By Nb 5 Sp) - 1 ≤ 0 ∧ -(iW By Nb 5 Sp) + 1 ≤ 0 → KF σ0 σ119 → ML By Nb σ119 (adv By Nb Sp) → gN2 By Nb (gN1 By Nb Sp) = Sp → En 9 200 none mr_302 (P_302x σ0 By Nb Sp f k) 309 [(0, .ref 159)] [] σ119 := by
  obtain ⟨hl_f, hu_f⟩ := WT_int hσ0 (g := 35) (by decide +kernel) (by decide +kernel) (l := 0) (u := 1600) (by decide +kernel) h_f
  obtain ⟨hl_k, hu_k⟩ := WT_int hσ0 (g := 35) (by decide +kernel) (by decide +kernel) (l := 0) (u := 3) (by decide +kernel) h_k
  have hF0 : Fr [(35, 8), (35, 9), (35, 10), (35, 11), (35, 12), (35, 13), (41, 0)] σ0 σ0 := Fr_rfl
  intro σ119 y122 y126 y130 h120 h121 h123 h124 h125 h127 h128 h129 h131 h132 h133 h134 h135 h136 h137 h138 h139 h140 h141 h142 h143 h144 h145 h146
  have h147 := Imp_m h135 (by omega)
  have h148 : (adv By Nb Sp).1 = 0 := by rw [adv_1]; exact hg
  have h149 : (adv By Nb Sp).2.2.2 = Sp.2.2.2 := adv_w
  have h150 := ML_k h145 h127
  have h151 := ML_w h145 h148 h123 (by omega) (by omega)
  refine En_Ps 4 (pc' := 315) (lv' := [(0, .ref 159)]) (st' := [.ref 159, .int ((Int32.ofInt 2)), .int (((Int16.ofInt 146).toInt32)), .ref 159]) rfl ?_
  refine En_getU (j := 14) (u := 165) (g' := 41) (q := 0) rfl rfl rfl tgz_159 (by decide +kernel) h120 (by decide +kernel) (by decide +kernel) (fun h152 => ?_)
  refine En_Ps 1 (pc' := 319) (lv' := [(0, .ref 159)]) (st' := [.int ((Int32.ofInt 4)), .ref 165, .int ((Int32.ofInt 2)), .int (((Int16.ofInt 146).toInt32)), .ref 159]) rfl ?_
  refine En_ialdK h123 rfl (by decide : (Int32.ofInt 4).toInt = 4) tgz_165 (by decide +kernel) h120 (by omega) (lnI (by decide +kernel : LN _ = 226) (by omega)) ?_
  refine En_Ps 1 (pc' := 321) (lv' := [(0, .ref 159)]) (st' := [.int ((((Int32.ofInt 2)) * y122)), .int (((Int16.ofInt 146).toInt32)), .ref 159]) rfl ?_
  refine En_top (mulI (by decide : (Int32.ofInt 2).toInt = 2) rfl (Z := 2 * y122.toInt) (by omega) (by omega) (by omega)) (fun z155 h156 => ?_)
  refine En_Ps 1 (pc' := 322) (lv' := [(0, .ref 159)]) (st' := [.int (((((Int16.ofInt 146).toInt32)) + z155)), .ref 159]) rfl ?_
  refine En_top (addI (by decide : ((Int16.ofInt 146).toInt32).toInt = 146) rfl (by omega) (by omega)) (fun z157 h158 => ?_)
  refine En_callV rfl rfl rfl rfl rfl rfl rfl rfl tgz_159 (by decide +kernel) rfl (c_303bx σ119 h120 z157 (geI rfl (by omega)) (leI rfl (by omega)) y130 h131 y126 h127 h145 (by omega)) (by decide) (by decide) (fun v160 σ161 h159 => ?_)
  obtain ⟨h162, h163, z165, h166, z167, h168, rfl, h164⟩ := h159
  have h169 := h164.2.2.2.2.2.2.2.2
  have h170 := Fr_trans h121 h163 (by decide +kernel)
  have h171 := KF_tr h144 (KF_of h169.1)
  obtain ⟨S172, h173⟩ : ∃ q : PS, q = gRule By Nb (146 + 2 * (adv By Nb Sp).2.2.2 4) (adv By Nb Sp) := ⟨_, rfl⟩
  have h174 : ML By Nb σ161 S172 := by rw [h173]; exact (ML_eq h169.2 (gRule_cg (by omega)))
  have h175 := ML_k h174 h168
  obtain ⟨z177, h176, h178, h179⟩ := WT_peekI h162 tgz_165 (by decide +kernel : FT 41 (4 : Int).toNat = (0, 0, 4)) (by decide +kernel)
  have h180 := ci_at h123 (rfl : (4 : Int) = 4)
  have h181 := ci_at h176 (rfl : (4 : Int) = 4)
  have h182 := h169.1 4 (by omega) (by omega)
  refine En_Ps 1 (pc' := 326) (lv' := [(0, .ref 159)]) (st' := [.ref 159]) rfl ?_
  refine En_getK (j := 14) ((h163 _ _ (inW tgz_159 (by decide +kernel))).trans h152) rfl rfl rfl tgz_159 (by decide +kernel) ?_
  refine En_Ps 2 (pc' := 331) (lv' := [(0, .ref 159)]) (st' := [.int ((Int32.ofInt 4)), .ref 165, .int ((Int32.ofInt 4)), .ref 165]) rfl ?_
  refine En_ialdK h176 rfl (by decide : (Int32.ofInt 4).toInt = 4) tgz_165 (by decide +kernel) h162 (by omega) (lnI (by decide +kernel : LN _ = 226) (by omega)) ?_
  refine En_Ps 2 (pc' := 334) (lv' := [(0, .ref 159)]) (st' := [.int ((z177 + ((Int32.ofInt 1)))), .int ((Int32.ofInt 4)), .ref 165]) rfl ?_
  refine En_top (addI rfl (by decide : (Int32.ofInt 1).toInt = 1) (by omega) (by omega)) (fun z184 h185 => ?_)
  refine En_iast (l := 0) (u := 4) rfl (by decide : (Int32.ofInt 4).toInt = 4) tgz_165 (by decide +kernel) (by omega) (lnI (by decide +kernel : LN _ = 226) (by omega)) (by decide +kernel) (rngI rfl (by omega) (by omega)) h162 h170 (by decide +kernel) (fun σ186 h187 h188 h189 h190 => ?_)
  have h191 := KF_st h171 (J := 4) h190 (by omega) (by omega)
  obtain ⟨S192, h193⟩ : ∃ q : PS, q = wst S172 (4) ((adv By Nb Sp).2.2.2 4 + 1) := ⟨_, rfl⟩
  have h194 : ML By Nb σ186 S192 := by rw [h193]; exact (ML_wst (i := 4) (v := (adv By Nb Sp).2.2.2 4 + 1) h174 h189 h190 (by omega) (fun z => by exact ⟨by omega, by omega⟩))
  have h195 := ML_k h194 ((h190 _ _ (Or.inl (neTG tgz_159 tgz_165 (by decide)))).trans h168)
  have h196 : S192.1 = S172.1 := by rw [h193]; rfl
  refine En_Ps 1 (pc' := 447) (lv' := [(0, .ref 159)]) (st' := []) rfl ?_
  exact En_ret (v := none) rfl rfl rfl ⟨h187, h188, z165, ((h190 _ _ (Or.inl (neTG tgz_159 tgz_165 (by decide)))).trans h166), z167, ((h190 _ _ (Or.inl (neTG tgz_159 tgz_165 (by decide)))).trans h168), rfl, ⟨by omega, by omega, by omega, by omega, by omega, by omega, by omega, fun _ => by omega, ⟨h191, ML_eq h194 (by subst h193; subst h173; rw [gNx_5 h146 hg (by omega) (by omega) (by omega) (by omega) (by omega) (by omega)]; unfold gHouse; first | done | rfl)⟩⟩⟩
set_option maxRecDepth 10000 in
set_option maxHeartbeats 4000000 in
theorem k_302x_347 {By : Int → Int} {Nb : Int} {Sp : PS} (σ0 : SG) (hσ0 : WT σ0) (f : Int32) (h_f : (σ0 159)[8]? = some (.int f)) (k : Int32) (h_k : (σ0 159)[12]? = some (.int k)) (hM : ML By Nb σ0 Sp) (hg : Sp.1 = 0) : ∀ (σ197 : SG) (y200 : Int32) (y204 : Int32) (y208 : Int32), WT σ197 → Fr [(35, 8), (35, 9), (35, 10), (35, 11), (35, 12), (35, 13), (41, 0)] σ0 σ197 → (σ197 165)[(5 : Int).toNat]? = some (.int y200) → 0 ≤ y200.toInt → y200.toInt ≤ 6 → (σ197 159)[12]? = some (.int y204) → 0 ≤ y204.toInt → y204.toInt ≤ 3 → (σ197 159)[8]? = some (.int y208) → 0 ≤ y208.toInt → y208.toInt ≤ 1600 → f.toInt - y208.toInt ≤ 0 → Imp (y204.toInt ≤ 0) (k.toInt ≤ 0) → y204.toInt ≤ 0 → y200.toInt - 5 ≤ 0 → (iW By Nb 2 Sp) ≤ 0 ∧ -(iW By Nb 2 Sp) ≤ 0 → (iW By Nb 6 Sp) ≤ 0 ∧ -(iW By Nb 6 Sp) ≤ 0 → (iW By Nb 3 Sp) ≤ 0 ∧ -(iW By Nb 3 Sp) ≤ 0 → (iW By Nb 17 Sp) ≤ 0 ∧ -(iW By Nb 17 Sp) ≤ 0 → (iW By Nb 9 Sp) ≤ 0 ∧ -(iW By Nb 9 Sp) ≤ 0 → (iW By Nb 5 Sp) ≤ 0 ∧ -(iW By Nb 5 Sp) ≤ 0 → (iW By Nb 1 Sp) - 1 ≤ 0 ∧ -(iW By Nb 1 Sp) + 1 ≤ 0 → KF σ0 σ197 → ML By Nb σ197 (adv By Nb Sp) → gN2 By Nb (gN1 By Nb Sp) = Sp → En 9 200 none mr_302 (P_302x σ0 By Nb Sp f k) 347 [(0, .ref 159)] [] σ197 := by
  obtain ⟨hl_f, hu_f⟩ := WT_int hσ0 (g := 35) (by decide +kernel) (by decide +kernel) (l := 0) (u := 1600) (by decide +kernel) h_f
  obtain ⟨hl_k, hu_k⟩ := WT_int hσ0 (g := 35) (by decide +kernel) (by decide +kernel) (l := 0) (u := 3) (by decide +kernel) h_k
  have hF0 : Fr [(35, 8), (35, 9), (35, 10), (35, 11), (35, 12), (35, 13), (41, 0)] σ0 σ0 := Fr_rfl
  intro σ197 y200 y204 y208 h198 h199 h201 h202 h203 h205 h206 h207 h209 h210 h211 h212 h213 h214 h215 h216 h217 h218 h219 h220 h221 h222 h223 h224 h225
  have h226 := Imp_m h213 (by omega)
  have h227 : (adv By Nb Sp).1 = 0 := by rw [adv_1]; exact hg
  have h228 : (adv By Nb Sp).2.2.2 = Sp.2.2.2 := adv_w
  have h229 := ML_k h224 h205
  have h230 := ML_w h224 h227 h201 (by omega) (by omega)
  refine En_Ps 1 (pc' := 348) (lv' := [(0, .ref 159)]) (st' := [.ref 159]) rfl ?_
  refine En_getU (j := 14) (u := 165) (g' := 41) (q := 0) rfl rfl rfl tgz_159 (by decide +kernel) h198 (by decide +kernel) (by decide +kernel) (fun h231 => ?_)
  refine En_Ps 3 (pc' := 356) (lv' := [(0, .ref 159)]) (st' := [.ref 159, .int ((Int32.ofInt 2)), .int (((Int16.ofInt 154).toInt32)), .ref 165]) rfl ?_
  refine En_getK (j := 14) h231 rfl rfl rfl tgz_159 (by decide +kernel) ?_
  refine En_Ps 1 (pc' := 360) (lv' := [(0, .ref 159)]) (st' := [.int ((Int32.ofInt 5)), .ref 165, .int ((Int32.ofInt 2)), .int (((Int16.ofInt 154).toInt32)), .ref 165]) rfl ?_
  refine En_ialdK h201 rfl (by decide : (Int32.ofInt 5).toInt = 5) tgz_165 (by decide +kernel) h198 (by omega) (lnI (by decide +kernel : LN _ = 226) (by omega)) ?_
  refine En_Ps 1 (pc' := 362) (lv' := [(0, .ref 159)]) (st' := [.int ((((Int32.ofInt 2)) * y200)), .int (((Int16.ofInt 154).toInt32)), .ref 165]) rfl ?_
  refine En_top (mulI (by decide : (Int32.ofInt 2).toInt = 2) rfl (Z := 2 * y200.toInt) (by omega) (by omega) (by omega)) (fun z234 h235 => ?_)
  refine En_Ps 1 (pc' := 363) (lv' := [(0, .ref 159)]) (st' := [.int (((((Int16.ofInt 154).toInt32)) + z234)), .ref 165]) rfl ?_
  refine En_top (addI (by decide : ((Int16.ofInt 154).toInt32).toInt = 154) rfl (by omega) (by omega)) (fun z236 h237 => ?_)
  refine En_Ps 1 (pc' := 364) (lv' := [(0, .ref 159)]) (st' := [.ref 159, .int z236, .ref 165]) rfl ?_
  refine En_ldcS (i := 15) rfl rfl rfl ?_
  refine En_Ps 2 (pc' := 369) (lv' := [(0, .ref 159)]) (st' := [.int (((Int8.ofInt 9).toInt32)), .int ((Int32.ofInt 1)), .retAddr 31, .ref 159, .int z236, .ref 165]) rfl ?_
  have := (by decide : ((Int32.ofInt 1)).toInt = 1)
  have := (by decide : (((Int8.ofInt 9).toInt32)).toInt = 9)
  refine En_callV rfl rfl rfl rfl rfl rfl rfl rfl tgz_159 (by decide +kernel) rfl (c_323s15x σ197 h198 ((Int32.ofInt 1)) (((Int8.ofInt 9).toInt32)) (geI (by decide : (Int32.ofInt 1).toInt = 1) (by omega)) (leI (by decide : (Int32.ofInt 1).toInt = 1) (by omega)) (geI (by decide : ((Int8.ofInt 9).toInt32).toInt = 9) (by omega)) (leI (by decide : ((Int8.ofInt 9).toInt32).toInt = 9) (by omega)) y208 h209 y204 h205 h224) (by decide) (by decide) (fun v239 σ240 h238 => ?_)
  obtain ⟨h241, h242, z244, h245, z246, h247, z248, rfl, h243⟩ := h238
  have h249 := h243.2.2.2.2.2.2.2.2.2.2.2.2.2.2
  have h250 := Fr_trans h199 h242 (by decide +kernel)
  have h251 := KF_fr h223 h242 (by decide +kernel)
  obtain ⟨S252, h253⟩ : ∃ q : PS, q = pss By Nb (iW By Nb 15 (adv By Nb Sp)) (adv By Nb Sp) := ⟨_, rfl⟩
  have h254 : tN By Nb ((Int32.ofInt 1)).toInt (((Int8.ofInt 9).toInt32)).toInt (pss By Nb (iW By Nb 15 (adv By Nb Sp)) (adv By Nb Sp)) = tN By Nb (1) (9) S252 := by rw [h253]; exact tN_cg2 (fun _ => by omega) (fun _ => by omega)
  obtain ⟨S255, h256⟩ : ∃ q : PS, q = tN By Nb (1) (9) S252 := ⟨_, rfl⟩
  have h257 : ML By Nb σ240 S255 := by rw [h256]; exact (ML_eq h249.1 h254)
  have h258 := ML_k h257 h247
  have h259 : Imp (S255.1 = 0) (z248.toInt = tV By Nb S252.2.2.1) := fun z => by rw [h253]; exact h249.2 (by rw [h254, ← h256]; exact z)
  have h260 := Imp_m h243.2.2.2.2.2.2.2.2.2.2.1 (by omega)
  have h261 := Imp_m h243.2.2.2.2.2.2.2.2.2.2.2.1 (by omega)
  refine En_iast (l := 0) (u := 9) rfl rfl tgz_165 (by decide +kernel) (by omega) (lnI (by decide +kernel : LN _ = 226) (by omega)) (FTrow 41 154 2 6 (by decide +kernel) (by omega) (by omega) (by omega)) (rngI rfl (by omega) (by omega)) h241 h250 (by decide +kernel) (fun σ262 h263 h264 h265 h266 => ?_)
  have h267 := KF_st h251 (J := z236.toInt) h266 (by omega) (by omega)
  obtain ⟨S268, h269⟩ : ∃ q : PS, q = wst S255 (154 + 2 * (adv By Nb Sp).2.2.2 5) ((tV By Nb S252.2.2.1)) := ⟨_, rfl⟩
  have h270 : ML By Nb σ262 S268 := by rw [h269]; exact (ML_wst (i := 154 + 2 * (adv By Nb Sp).2.2.2 5) (v := (tV By Nb S252.2.2.1)) h257 h265 h266 (by omega) (fun z => by have j1 := Imp_m h259 z; exact ⟨by omega, by omega⟩))
  have h271 := ML_k h270 ((h266 _ _ (Or.inl (neTG tgz_159 tgz_165 (by decide)))).trans h247)
  have h272 : S268.1 = S255.1 := by rw [h269]; rfl
  refine En_Ps 1 (pc' := 374) (lv' := [(0, .ref 159)]) (st' := [.ref 159]) rfl ?_
  refine En_getK (j := 14) ((h266 _ _ (Or.inl (neTG tgz_159 tgz_165 (by decide)))).trans ((h242 _ _ (inW tgz_159 (by decide +kernel))).trans h231)) rfl rfl rfl tgz_159 (by decide +kernel) ?_
  refine En_Ps 2 (pc' := 379) (lv' := [(0, .ref 159)]) (st' := [.int ((Int32.ofInt 5)), .ref 165, .int ((Int32.ofInt 5)), .ref 165]) rfl ?_
  refine En_ialdK ((h266 _ _ (Or.inr (by omega))).trans ((h242 _ _ (inWa tgz_165 (by decide +kernel))).trans h201)) rfl (by decide : (Int32.ofInt 5).toInt = 5) tgz_165 (by decide +kernel) h263 (by omega) (lnI (by decide +kernel : LN _ = 226) (by omega)) ?_
  refine En_Ps 2 (pc' := 382) (lv' := [(0, .ref 159)]) (st' := [.int ((y200 + ((Int32.ofInt 1)))), .int ((Int32.ofInt 5)), .ref 165]) rfl ?_
  refine En_top (addI rfl (by decide : (Int32.ofInt 1).toInt = 1) (by omega) (by omega)) (fun z274 h275 => ?_)
  refine En_iast (l := 0) (u := 6) rfl (by decide : (Int32.ofInt 5).toInt = 5) tgz_165 (by decide +kernel) (by omega) (lnI (by decide +kernel : LN _ = 226) (by omega)) (by decide +kernel) (rngI rfl (by omega) (by omega)) h263 h264 (by decide +kernel) (fun σ276 h277 h278 h279 h280 => ?_)
  have h281 := KF_st h267 (J := 5) h280 (by omega) (by omega)
  obtain ⟨S282, h283⟩ : ∃ q : PS, q = wst S268 (5) ((adv By Nb Sp).2.2.2 5 + 1) := ⟨_, rfl⟩
  have h284 : ML By Nb σ276 S282 := by rw [h283]; exact (ML_wst (i := 5) (v := (adv By Nb Sp).2.2.2 5 + 1) h270 h279 h280 (by omega) (fun z => by have j1 := h272.symm.trans z; have j2 := Imp_m h259 j1; exact ⟨by omega, by omega⟩))
  have h285 := ML_k h284 ((h280 _ _ (Or.inl (neTG tgz_159 tgz_165 (by decide)))).trans ((h266 _ _ (Or.inl (neTG tgz_159 tgz_165 (by decide)))).trans h247))
  have h286 : S282.1 = S268.1 := by rw [h283]; rfl
  refine En_Ps 1 (pc' := 447) (lv' := [(0, .ref 159)]) (st' := []) rfl ?_
  exact En_ret (v := none) rfl rfl rfl ⟨h277, h278, z244, ((h280 _ _ (Or.inl (neTG tgz_159 tgz_165 (by decide)))).trans ((h266 _ _ (Or.inl (neTG tgz_159 tgz_165 (by decide)))).trans h245)), z246, ((h280 _ _ (Or.inl (neTG tgz_159 tgz_165 (by decide)))).trans ((h266 _ _ (Or.inl (neTG tgz_159 tgz_165 (by decide)))).trans h247)), rfl, ⟨by omega, by omega, by omega, by omega, by omega, by omega, by omega, fun _ => by omega, ⟨h281, ML_eq h284 (by subst h283; subst h269; subst h256; subst h253; rw [gNx_1 h225 hg (by omega) (by omega) (by omega) (by omega) (by omega) (by omega) (by omega)]; unfold gCourse; (try dsimp only); first | done | rfl)⟩⟩⟩
set_option maxRecDepth 10000 in
set_option maxHeartbeats 4000000 in
theorem k_302x_386 {By : Int → Int} {Nb : Int} {Sp : PS} (σ0 : SG) (hσ0 : WT σ0) (f : Int32) (h_f : (σ0 159)[8]? = some (.int f)) (k : Int32) (h_k : (σ0 159)[12]? = some (.int k)) (hM : ML By Nb σ0 Sp) (hg : Sp.1 = 0) : ∀ (σ287 : SG) (y290 : Int32) (y294 : Int32) (y298 : Int32), WT σ287 → Fr [(35, 8), (35, 9), (35, 10), (35, 11), (35, 12), (35, 13), (41, 0)] σ0 σ287 → (σ287 165)[(5 : Int).toNat]? = some (.int y290) → 0 ≤ y290.toInt → y290.toInt ≤ 6 → (σ287 159)[12]? = some (.int y294) → 0 ≤ y294.toInt → y294.toInt ≤ 3 → (σ287 159)[8]? = some (.int y298) → 0 ≤ y298.toInt → y298.toInt ≤ 1600 → f.toInt - y298.toInt ≤ 0 → Imp (y294.toInt ≤ 0) (k.toInt ≤ 0) → y294.toInt ≤ 0 → (iW By Nb 2 Sp) ≤ 0 ∧ -(iW By Nb 2 Sp) ≤ 0 → (iW By Nb 6 Sp) ≤ 0 ∧ -(iW By Nb 6 Sp) ≤ 0 → (iW By Nb 3 Sp) ≤ 0 ∧ -(iW By Nb 3 Sp) ≤ 0 → (iW By Nb 17 Sp) ≤ 0 ∧ -(iW By Nb 17 Sp) ≤ 0 → (iW By Nb 9 Sp) ≤ 0 ∧ -(iW By Nb 9 Sp) ≤ 0 → (iW By Nb 5 Sp) ≤ 0 ∧ -(iW By Nb 5 Sp) ≤ 0 → (iW By Nb 1 Sp) ≤ 0 ∧ -(iW By Nb 1 Sp) ≤ 0 → KF σ0 σ287 → ML By Nb σ287 Sp → gN2 By Nb (gN1 By Nb Sp) = Sp → En 9 200 none mr_302 (P_302x σ0 By Nb Sp f k) 386 [(0, .ref 159)] [] σ287 := by
  obtain ⟨hl_f, hu_f⟩ := WT_int hσ0 (g := 35) (by decide +kernel) (by decide +kernel) (l := 0) (u := 1600) (by decide +kernel) h_f
  obtain ⟨hl_k, hu_k⟩ := WT_int hσ0 (g := 35) (by decide +kernel) (by decide +kernel) (l := 0) (u := 3) (by decide +kernel) h_k
  have hF0 : Fr [(35, 8), (35, 9), (35, 10), (35, 11), (35, 12), (35, 13), (41, 0)] σ0 σ0 := Fr_rfl
  intro σ287 y290 y294 y298 h288 h289 h291 h292 h293 h295 h296 h297 h299 h300 h301 h302 h303 h304 h305 h306 h307 h308 h309 h310 h311 h312 h313 h314
  have h315 := Imp_m h303 (by omega)
  have h316 := ML_k h313 h295
  have h317 := ML_w h313 hg h291 (by omega) (by omega)
  refine En_Ps 1 (pc' := 387) (lv' := [(0, .ref 159)]) (st' := [.ref 159]) rfl ?_
  refine En_callV rfl rfl rfl rfl rfl rfl rfl rfl tgz_159 (by decide +kernel) rfl (c_189x σ287 h288 y298 h299 h313.1 (ML_at h313 (by omega) h299)) (by decide) (by decide) (fun v319 σ320 h318 => ?_)
  obtain ⟨h321, h322, z324, h325, z326, h327, rfl, h323⟩ := h318
  have h328 := h323.2.2.2.2.2.2.2
  have h329 := Fr_trans h289 h322 (by decide +kernel)
  have h330 := KF_fr h312 h322 (by decide +kernel)
  obtain ⟨S331, h332⟩ : ∃ q : PS, q = adv By Nb Sp := ⟨_, rfl⟩
  have h333 : ML By Nb σ320 S331 := by rw [h332]; exact (ML_adv h313 (by omega) h299 h322 (by decide +kernel) h328.2)
  have h334 := ML_k h333 ((h322 _ _ (inW tgz_159 (by decide +kernel))).trans h295)
  have h335 : Imp (S331.1 = 0) (tK By Nb S331.2.2.1 = z326.toInt) := ML_t h333 h327
  have h336 : S331.2.2.2 = Sp.2.2.2 := by rw [h332]; exact adv_w
  have h337 : S331.1 = 0 := by rw [h332, adv_1]; omega
  have h338 : S331.2.2.2 0 = Sp.2.2.2 0 := by rw [h336]
  have h339 : S331.2.2.2 5 = Sp.2.2.2 5 := by rw [h336]
  refine En_Ps 3 (pc' := 393) (lv' := [(0, .ref 159)]) (st' := [.ref 159, .int ((Int32.ofInt 0)), .ref 159]) rfl ?_
  refine En_getU (j := 14) (u := 165) (g' := 41) (q := 0) rfl rfl rfl tgz_159 (by decide +kernel) h321 (by decide +kernel) (by decide +kernel) (fun h340 => ?_)
  refine En_Ps 1 (pc' := 397) (lv' := [(0, .ref 159)]) (st' := [.int ((Int32.ofInt 5)), .ref 165, .int ((Int32.ofInt 0)), .ref 159]) rfl ?_
  refine En_ialdK ((h322 _ _ (inWa tgz_165 (by decide +kernel))).trans h291) rfl (by decide : (Int32.ofInt 5).toInt = 5) tgz_165 (by decide +kernel) h321 (by omega) (lnI (by decide +kernel : LN _ = 226) (by omega)) ?_
  refine En_Ps 2 (pc' := 400) (lv' := [(0, .ref 159)]) (st' := [.int ((y290 - ((Int32.ofInt 1)))), .int ((Int32.ofInt 0)), .ref 159]) rfl ?_
  refine En_top (subI rfl (by decide : (Int32.ofInt 1).toInt = 1) (by omega) (by omega)) (fun z343 h344 => ?_)
  obtain ⟨z346, h345, h347, h348⟩ := WT_peekI h321 tgz_159 (by decide +kernel : FT 35 11 = (0, 0, 99999)) (by decide +kernel)
  have := (by decide : ((Int32.ofInt 0)).toInt = 0)
  refine En_callV rfl rfl rfl rfl rfl rfl rfl rfl tgz_159 (by decide +kernel) rfl (c_288x σ320 h321 ((Int32.ofInt 0)) z343 (geI (by decide : (Int32.ofInt 0).toInt = 0) (by omega)) (leI (by decide : (Int32.ofInt 0).toInt = 0) (by omega)) (geI rfl (by omega)) (leI rfl (by omega)) z324 h325 y294 ((h322 _ _ (inW tgz_159 (by decide +kernel))).trans h295) z326 h327 z346 h345 h333) (by decide) (by decide) (fun v350 σ351 h349 => ?_)
  obtain ⟨h352, h353, z355, h356, z357, h358, z359, rfl, h354⟩ := h349
  have h360 := h354.2.2.2.2.2.2.2.2.2.2.2.2.2.2.2.2
  have h361 := Fr_trans h329 h353 (by decide +kernel)
  have h362 := KF_fr h330 h353 (by decide +kernel)
  have h363 : tN By Nb ((Int32.ofInt 0)).toInt z343.toInt S331 = tN By Nb (0) (S331.2.2.2 5 - 1) S331 := tN_cg2 (fun zz => by have j1 := Imp_m h335 zz; omega) (fun zz => by have j1 := Imp_m h335 zz; omega)
  obtain ⟨S364, h365⟩ : ∃ q : PS, q = tN By Nb (0) (S331.2.2.2 5 - 1) S331 := ⟨_, rfl⟩
  have h366 : ML By Nb σ351 S364 := by rw [h365]; exact (ML_eq h360.1 h363)
  have h367 := ML_k h366 h358
  have h368 : Imp (S364.1 = 0) (z359.toInt = tV By Nb S331.2.2.1) := fun z => h360.2 (by rw [h363, ← h365]; exact z)
  have h369 : Imp (S364.1 = 0) (S331.1 = 0 ∧ tK By Nb S331.2.2.1 = 2 ∧ 0 ≤ tV By Nb S331.2.2.1 ∧ tV By Nb S331.2.2.1 ≤ S331.2.2.2 5 - 1) := fun z => tN_gg (by rw [← h365]; exact z)
  have h370 : S364.2.2.2 = S331.2.2.2 := by rw [h365]; exact tN_w
  have h371 := Imp_m h354.2.2.2.2.2.2.2.2.2.2.2.1 (by omega)
  have h372 := Imp_m h354.2.2.2.2.2.2.2.2.2.2.2.2.1 (by omega)
  refine En_Ps 5 (pc' := 408) (lv' := [(2, .int z359), (0, .ref 159)]) (st' := [.int ((z359 + ((Int32.ofInt 1)))), .ref 159]) rfl ?_
  refine En_top (addI rfl (by decide : (Int32.ofInt 1).toInt = 1) (by omega) (by omega)) (fun z373 h374 => ?_)
  refine En_Ps 1 (pc' := 409) (lv' := [(2, .int z359), (0, .ref 159)]) (st' := [.ref 159, .int z373, .ref 159]) rfl ?_
  refine En_getK (j := 14) ((h353 _ _ (inW tgz_159 (by decide +kernel))).trans h340) rfl rfl rfl tgz_159 (by decide +kernel) ?_
  refine En_Ps 1 (pc' := 413) (lv' := [(2, .int z359), (0, .ref 159)]) (st' := [.int ((Int32.ofInt 5)), .ref 165, .int z373, .ref 159]) rfl ?_
  refine En_ialdK ((h353 _ _ (inWa tgz_165 (by decide +kernel))).trans ((h322 _ _ (inWa tgz_165 (by decide +kernel))).trans h291)) rfl (by decide : (Int32.ofInt 5).toInt = 5) tgz_165 (by decide +kernel) h352 (by omega) (lnI (by decide +kernel : LN _ = 226) (by omega)) ?_
  refine En_Ps 2 (pc' := 416) (lv' := [(2, .int z359), (0, .ref 159)]) (st' := [.int ((y290 - ((Int32.ofInt 1)))), .int z373, .ref 159]) rfl ?_
  refine En_top (subI rfl (by decide : (Int32.ofInt 1).toInt = 1) (by omega) (by omega)) (fun z376 h377 => ?_)
  obtain ⟨z379, h378, h380, h381⟩ := WT_peekI h352 tgz_159 (by decide +kernel : FT 35 10 = (0, 0, 4)) (by decide +kernel)
  obtain ⟨z383, h382, h384, h385⟩ := WT_peekI h352 tgz_159 (by decide +kernel : FT 35 11 = (0, 0, 99999)) (by decide +kernel)
  refine En_callV rfl rfl rfl rfl rfl rfl rfl rfl tgz_159 (by decide +kernel) rfl (c_288x σ351 h352 z373 z376 (geI rfl (by omega)) (leI rfl (by omega)) (geI rfl (by omega)) (leI rfl (by omega)) z355 h356 z357 h358 z379 h378 z383 h382 h366) (by decide) (by decide) (fun v387 σ388 h386 => ?_)
  obtain ⟨h389, h390, z392, h393, z394, h395, z396, rfl, h391⟩ := h386
  have h397 := h391.2.2.2.2.2.2.2.2.2.2.2.2.2.2.2.2
  have h398 := Fr_trans h361 h390 (by decide +kernel)
  have h399 := KF_fr h362 h390 (by decide +kernel)
  have h400 : tN By Nb z373.toInt z376.toInt S364 = tN By Nb ((tV By Nb S331.2.2.1) + 1) (S331.2.2.2 5 - 1) S364 := tN_cg2 (fun zz => by have j1 := Imp_m h368 zz; have j2 := Imp_m h369 zz; have j3 := Imp_m h335 j2.1; omega) (fun zz => by have j1 := Imp_m h368 zz; have j2 := Imp_m h369 zz; have j3 := Imp_m h335 j2.1; omega)
  obtain ⟨S401, h402⟩ : ∃ q : PS, q = tN By Nb ((tV By Nb S331.2.2.1) + 1) (S331.2.2.2 5 - 1) S364 := ⟨_, rfl⟩
  have h403 : ML By Nb σ388 S401 := by rw [h402]; exact (ML_eq h397.1 h400)
  have h404 := ML_k h403 h395
  have h405 : Imp (S401.1 = 0) (z396.toInt = tV By Nb S364.2.2.1) := fun z => h397.2 (by rw [h400, ← h402]; exact z)
  have h406 : Imp (S401.1 = 0) (S364.1 = 0 ∧ tK By Nb S364.2.2.1 = 2 ∧ (tV By Nb S331.2.2.1) + 1 ≤ tV By Nb S364.2.2.1 ∧ tV By Nb S364.2.2.1 ≤ S331.2.2.2 5 - 1) := fun z => tN_gg (by rw [← h402]; exact z)
  have h407 : S401.2.2.2 = S364.2.2.2 := by rw [h402]; exact tN_w
  have h408 := Imp_m h391.2.2.2.2.2.2.2.2.2.2.2.2.1 (by omega)
  refine En_Ps 2 (pc' := 421) (lv' := [(3, .int z396), (2, .int z359), (0, .ref 159)]) (st' := [.ref 159]) rfl ?_
  refine En_callV rfl rfl rfl rfl rfl rfl rfl rfl tgz_159 (by decide +kernel) rfl (c_237 σ388 h389 z394 h395) (by decide) (by decide) (fun v410 σ411 h409 => ?_)
  obtain ⟨h412, h413, z415, rfl, h414⟩ := h409
  obtain rfl : σ388 = σ411 := Fr_nil h413
  refine En_iEq _ rfl rfl (fun h416 => ?_) (fun h416 => ?_)
  · exact En_ret (v := none) rfl rfl rfl ⟨h389, h398, z392, h393, z394, h395, rfl, ⟨by omega, by omega, by omega, by omega, by omega, by omega, by omega, fun _ => by omega, ⟨h399, ML_eq h403 (by subst h402; subst h365; subst h332; rw [gNx_0 h314 hg (by omega) (by omega) (by omega) (by omega) (by omega) (by omega) (by omega)]; unfold gAhead; (try dsimp only); first | done | (rw [if_pos (by omega)]; first | done | rfl) | (rw [if_neg (by omega)]; first | done | rfl))⟩⟩⟩
  · have h417 := Imp_m h354.2.2.2.2.2.2.2.2.2.2.2.2.2.2.2.1 (by omega)
    have h418 := Imp_m h391.2.2.2.2.2.2.2.2.2.2.2.2.2.1 (by omega)
    have h419 := Imp_m h391.2.2.2.2.2.2.2.2.2.2.2.2.2.2.2.1 (by omega)
    have h420 := Imp_m h323.2.2.2.2.2.2.1 (by omega)
    have h421 := Imp_m h354.2.2.2.2.2.2.2.2.2.2.2.2.2.1 (by omega)
    have h422 : S401.1 = 0 := by omega
    have h423 := Imp_m h405 h422
    have h424 := Imp_m h406 h422
    have h425 := Imp_m h368 h424.1
    have h426 := Imp_m h369 h424.1
    have h427 := Imp_m h335 h426.1
    refine En_Ps 1 (pc' := 428) (lv' := [(3, .int z396), (2, .int z359), (0, .ref 159)]) (st' := [.ref 159]) rfl ?_
    refine En_getK (j := 14) ((h390 _ _ (inW tgz_159 (by decide +kernel))).trans ((h353 _ _ (inW tgz_159 (by decide +kernel))).trans h340)) rfl rfl rfl tgz_159 (by decide +kernel) ?_
    refine En_Ps 4 (pc' := 437) (lv' := [(3, .int z396), (2, .int z359), (0, .ref 159)]) (st' := [.int ((((Int32.ofInt 2)) * z396)), .int (((Int16.ofInt 154).toInt32)), .ref 165]) rfl ?_
    refine En_top (mulI (by decide : (Int32.ofInt 2).toInt = 2) rfl (Z := 2 * z396.toInt) (by omega) (by omega) (by omega)) (fun z428 h429 => ?_)
    refine En_Ps 1 (pc' := 438) (lv' := [(3, .int z396), (2, .int z359), (0, .ref 159)]) (st' := [.int (((((Int16.ofInt 154).toInt32)) + z428)), .ref 165]) rfl ?_
    refine En_top (addI (by decide : ((Int16.ofInt 154).toInt32).toInt = 154) rfl (by omega) (by omega)) (fun z430 h431 => ?_)
    refine En_Ps 2 (pc' := 440) (lv' := [(3, .int z396), (2, .int z359), (0, .ref 159)]) (st' := [.int ((z430 + ((Int32.ofInt 1)))), .ref 165]) rfl ?_
    refine En_top (addI rfl (by decide : (Int32.ofInt 1).toInt = 1) (by omega) (by omega)) (fun z432 h433 => ?_)
    refine En_Ps 1 (pc' := 441) (lv' := [(3, .int z396), (2, .int z359), (0, .ref 159)]) (st' := [.int z432, .ref 165, .int z432, .ref 165]) rfl ?_
    refine En_iald (l := 0) (u := 63) rfl rfl tgz_165 (by decide +kernel) h389 (by omega) (lnI (by decide +kernel : LN _ = 226) (by omega)) (FTrow 41 157 2 5 (by decide +kernel) (by omega) (by omega) (by omega)) (fun z435 h434 h436 h437 => ?_)
    have h438 : S401.2.2.2 (155 + 2 * (tV By Nb S364.2.2.1)) = z435.toInt := ML_wi h403 (by omega) h434 (by omega) (by omega) (by omega)
    rw [h407, h370] at h438
    refine En_Ps 4 (pc' := 446) (lv' := [(3, .int z396), (2, .int z359), (0, .ref 159)]) (st' := [.int ((z435 ||| ((Int32.ofInt 1) <<< (z359 &&& 31)))), .int z432, .ref 165]) rfl ?_
    refine En_nam (fun z439 h440 => ?_)
    have h441 := orP_v (x := z435) (y := z359) h440 rfl rfl (by omega) (by omega) (by omega) (by omega)
    have h442 : z439.toInt = orP (S331.2.2.2 (155 + 2 * (tV By Nb S364.2.2.1))) (tV By Nb S331.2.2.1) := by rw [h441.1]; exact orP_cg (by omega) (by omega)
    refine En_iast (l := 0) (u := 63) rfl rfl tgz_165 (by decide +kernel) (by omega) (lnI (by decide +kernel : LN _ = 226) (by omega)) (FTrow 41 157 2 5 (by decide +kernel) (by omega) (by omega) (by omega)) (rngI rfl (by omega) (by omega)) h389 h398 (by decide +kernel) (fun σ443 h444 h445 h446 h447 => ?_)
    have h448 := KF_st h399 (J := z432.toInt) h447 (by omega) (by omega)
    obtain ⟨S449, h450⟩ : ∃ q : PS, q = wst S401 (155 + 2 * (tV By Nb S364.2.2.1)) (orP (S331.2.2.2 (155 + 2 * (tV By Nb S364.2.2.1))) (tV By Nb S331.2.2.1)) := ⟨_, rfl⟩
    have h451 : ML By Nb σ443 S449 := by rw [h450]; exact (ML_wst (i := 155 + 2 * (tV By Nb S364.2.2.1)) (v := orP (S331.2.2.2 (155 + 2 * (tV By Nb S364.2.2.1))) (tV By Nb S331.2.2.1)) h403 h446 h447 (by omega) (fun z => by have j1 := Imp_m h405 z; have j2 := Imp_m h406 z; have j3 := Imp_m h368 j2.1; have j4 := Imp_m h369 j2.1; have j5 := Imp_m h335 j4.1; exact ⟨by omega, by omega⟩))
    have h452 := ML_k h451 ((h447 _ _ (Or.inl (neTG tgz_159 tgz_165 (by decide)))).trans h395)
    have h453 : S449.1 = S401.1 := by rw [h450]; rfl
    exact En_ret (v := none) rfl rfl rfl ⟨h444, h445, z392, ((h447 _ _ (Or.inl (neTG tgz_159 tgz_165 (by decide)))).trans h393), z394, ((h447 _ _ (Or.inl (neTG tgz_159 tgz_165 (by decide)))).trans h395), rfl, ⟨by omega, by omega, by omega, by omega, by omega, by omega, by omega, fun _ => by omega, ⟨h448, ML_eq h451 (by subst h450; subst h402; subst h365; subst h332; rw [gNx_0 h314 hg (by omega) (by omega) (by omega) (by omega) (by omega) (by omega) (by omega)]; unfold gAhead; (try dsimp only); first | done | (rw [if_pos (by omega)]; first | done | rfl) | (rw [if_neg (by omega)]; first | done | rfl))⟩⟩⟩
set_option maxRecDepth 10000 in
set_option maxHeartbeats 4000000 in
theorem k_302x_170 {By : Int → Int} {Nb : Int} {Sp : PS} (σ0 : SG) (hσ0 : WT σ0) (f : Int32) (h_f : (σ0 159)[8]? = some (.int f)) (k : Int32) (h_k : (σ0 159)[12]? = some (.int k)) (hM : ML By Nb σ0 Sp) (hg : Sp.1 = 0) : ∀ (σ454 : SG) (y457 : Int32) (y461 : Int32) (y465 : Int32) (y469 : Int32) (y473 : Int32) (y477 : Int32), WT σ454 → Fr [(35, 8), (35, 9), (35, 10), (35, 11), (35, 12), (35, 13), (41, 0)] σ0 σ454 → (σ454 165)[(2 : Int).toNat]? = some (.int y457) → 0 ≤ y457.toInt → y457.toInt ≤ 4 → (σ454 165)[(3 : Int).toNat]? = some (.int y461) → 0 ≤ y461.toInt → y461.toInt ≤ 12 → (σ454 165)[(4 : Int).toNat]? = some (.int y465) → 0 ≤ y465.toInt → y465.toInt ≤ 4 → (σ454 165)[(5 : Int).toNat]? = some (.int y469) → 0 ≤ y469.toInt → y469.toInt ≤ 6 → (σ454 159)[12]? = some (.int y473) → 0 ≤ y473.toInt → y473.toInt ≤ 3 → (σ454 159)[8]? = some (.int y477) → 0 ≤ y477.toInt → y477.toInt ≤ 1600 → f.toInt - y477.toInt ≤ 0 → Imp (y473.toInt ≤ 0) (k.toInt ≤ 0) → Imp (y473.toInt ≤ 0 ∧ -(iW By Nb 2 Sp) + 1 ≤ 0) (y457.toInt - 3 ≤ 0) → Imp (y473.toInt ≤ 0 ∧ -(iW By Nb 3 Sp) + 1 ≤ 0) (y461.toInt - 11 ≤ 0) → Imp (y473.toInt ≤ 0 ∧ -(iW By Nb 5 Sp) + 1 ≤ 0) (y465.toInt - 3 ≤ 0) → Imp (y473.toInt ≤ 0 ∧ -(iW By Nb 1 Sp) + 1 ≤ 0) (y469.toInt - 5 ≤ 0) → KF σ0 σ454 → ML By Nb σ454 (gN2 By Nb (gN1 By Nb Sp)) → En 9 200 none mr_302 (P_302x σ0 By Nb Sp f k) 170 [(0, .ref 159)] [] σ454 := by
  obtain ⟨hl_f, hu_f⟩ := WT_int hσ0 (g := 35) (by decide +kernel) (by decide +kernel) (l := 0) (u := 1600) (by decide +kernel) h_f
  obtain ⟨hl_k, hu_k⟩ := WT_int hσ0 (g := 35) (by decide +kernel) (by decide +kernel) (l := 0) (u := 3) (by decide +kernel) h_k
  have hF0 : Fr [(35, 8), (35, 9), (35, 10), (35, 11), (35, 12), (35, 13), (41, 0)] σ0 σ0 := Fr_rfl
  have keyj219 := k_302x_219 σ0 hσ0 f h_f k h_k hM hg
  have keyj309 := k_302x_309 σ0 hσ0 f h_f k h_k hM hg
  have keyj347 := k_302x_347 σ0 hσ0 f h_f k h_k hM hg
  have keyj386 := k_302x_386 σ0 hσ0 f h_f k h_k hM hg
  intro σ454 y457 y461 y465 y469 y473 y477 h455 h456 h458 h459 h460 h462 h463 h464 h466 h467 h468 h470 h471 h472 h474 h475 h476 h478 h479 h480 h481 h482 h483 h484 h485 h486 h487 h488
  have h489 := ML_k h488 h474
  refine En_Ps 1 (pc' := 171) (lv' := [(0, .ref 159)]) (st' := [.ref 159]) rfl ?_
  refine En_callV rfl rfl rfl rfl rfl rfl rfl rfl tgz_159 (by decide +kernel) rfl (c_237 σ454 h455 y473 h474) (by decide) (by decide) (fun v491 σ492 h490 => ?_)
  obtain ⟨h493, h494, z496, rfl, h495⟩ := h490
  obtain rfl : σ454 = σ492 := Fr_nil h494
  refine En_iNe _ rfl rfl (fun h497 => ?_) (fun h497 => ?_)
  · have h498 := Imp_m h482 (by omega)
    have h499 : gN2 By Nb (gN1 By Nb Sp) = Sp := gN12_id (by omega)
    have h500 : ML By Nb σ454 Sp := ML_eq h488 h499
    have h502 := ML_k h500 h474
    have h503 := ML_w h500 hg h458 (by omega) (by omega)
    have h504 := ML_w h500 hg h462 (by omega) (by omega)
    have h505 := ML_w h500 hg h466 (by omega) (by omega)
    have h506 := ML_w h500 hg h470 (by omega) (by omega)
    refine En_Ps 1 (pc' := 179) (lv' := [(0, .ref 159)]) (st' := [.ref 159]) rfl ?_
    refine En_ldcS (i := 2) rfl rfl rfl ?_
    refine En_callV rfl rfl rfl rfl rfl rfl rfl rfl tgz_159 (by decide +kernel) rfl (c_318s2x σ454 h455 y477 h478 h500) (by decide) (by decide) (fun v508 σ509 h507 => ?_)
    obtain ⟨h510, h511, z513, h514, z515, rfl, h512⟩ := h507
    have h516 := h512.2.2.2.2.2.2
    have h517 := Fr_trans h456 h511 (by decide +kernel)
    have h518 := KF_fr h487 h511 (by decide +kernel)
    have h519 := h516.2.1
    refine En_iEq _ rfl rfl (fun h520 => ?_) (fun h520 => ?_)
    · obtain rfl : σ454 = σ509 := h516.1 (by omega)
      refine En_Ps 1 (pc' := 195) (lv' := [(0, .ref 159)]) (st' := [.ref 159]) rfl ?_
      refine En_ldcS (i := 6) rfl rfl rfl ?_
      refine En_callV rfl rfl rfl rfl rfl rfl rfl rfl tgz_159 (by decide +kernel) rfl (c_318s6x σ454 h455 y477 h478 h500) (by decide) (by decide) (fun v522 σ523 h521 => ?_)
      obtain ⟨h524, h525, z527, h528, z529, rfl, h526⟩ := h521
      have h530 := h526.2.2.2.2.2.2
      have h531 := Fr_trans h456 h525 (by decide +kernel)
      have h532 := KF_fr h487 h525 (by decide +kernel)
      have h533 := h530.2.1
      refine En_iEq _ rfl rfl (fun h534 => ?_) (fun h534 => ?_)
      · obtain rfl : σ454 = σ523 := h530.1 (by omega)
        refine En_Ps 1 (pc' := 211) (lv' := [(0, .ref 159)]) (st' := [.ref 159]) rfl ?_
        refine En_ldcS (i := 3) rfl rfl rfl ?_
        refine En_callV rfl rfl rfl rfl rfl rfl rfl rfl tgz_159 (by decide +kernel) rfl (c_318s3x σ454 h455 y477 h478 h500) (by decide) (by decide) (fun v536 σ537 h535 => ?_)
        obtain ⟨h538, h539, z541, h542, z543, rfl, h540⟩ := h535
        have h544 := h540.2.2.2.2.2.2
        have h545 := Fr_trans h456 h539 (by decide +kernel)
        have h546 := KF_fr h487 h539 (by decide +kernel)
        have h547 := h544.2.1
        refine En_iEq _ rfl rfl (fun h548 => ?_) (fun h548 => ?_)
        · obtain rfl : σ454 = σ537 := h544.1 (by omega)
          refine En_Ps 1 (pc' := 267) (lv' := [(0, .ref 159)]) (st' := [.ref 159]) rfl ?_
          refine En_ldcS (i := 17) rfl rfl rfl ?_
          refine En_callV rfl rfl rfl rfl rfl rfl rfl rfl tgz_159 (by decide +kernel) rfl (c_318s17x σ454 h455 y477 h478 h500) (by decide) (by decide) (fun v550 σ551 h549 => ?_)
          obtain ⟨h552, h553, z555, h556, z557, rfl, h554⟩ := h549
          have h558 := h554.2.2.2.2.2.2
          have h559 := Fr_trans h456 h553 (by decide +kernel)
          have h560 := KF_fr h487 h553 (by decide +kernel)
          have h561 := h558.2.1
          refine En_iEq _ rfl rfl (fun h562 => ?_) (fun h562 => ?_)
          · obtain rfl : σ454 = σ551 := h558.1 (by omega)
            refine En_Ps 1 (pc' := 283) (lv' := [(0, .ref 159)]) (st' := [.ref 159]) rfl ?_
            refine En_ldcS (i := 9) rfl rfl rfl ?_
            refine En_callV rfl rfl rfl rfl rfl rfl rfl rfl tgz_159 (by decide +kernel) rfl (c_318s9x σ454 h455 y477 h478 h500) (by decide) (by decide) (fun v564 σ565 h563 => ?_)
            obtain ⟨h566, h567, z569, h570, z571, rfl, h568⟩ := h563
            have h572 := h568.2.2.2.2.2.2
            have h573 := Fr_trans h456 h567 (by decide +kernel)
            have h574 := KF_fr h487 h567 (by decide +kernel)
            have h575 := h572.2.1
            refine En_iEq _ rfl rfl (fun h576 => ?_) (fun h576 => ?_)
            · obtain rfl : σ454 = σ565 := h572.1 (by omega)
              refine En_Ps 1 (pc' := 301) (lv' := [(0, .ref 159)]) (st' := [.ref 159]) rfl ?_
              refine En_ldcS (i := 5) rfl rfl rfl ?_
              refine En_callV rfl rfl rfl rfl rfl rfl rfl rfl tgz_159 (by decide +kernel) rfl (c_318s5x σ454 h455 y477 h478 h500) (by decide) (by decide) (fun v578 σ579 h577 => ?_)
              obtain ⟨h580, h581, z583, h584, z585, rfl, h582⟩ := h577
              have h586 := h582.2.2.2.2.2.2
              have h587 := Fr_trans h456 h581 (by decide +kernel)
              have h588 := KF_fr h487 h581 (by decide +kernel)
              have h589 := h586.2.1
              refine En_iEq _ rfl rfl (fun h590 => ?_) (fun h590 => ?_)
              · obtain rfl : σ454 = σ579 := h586.1 (by omega)
                refine En_Ps 1 (pc' := 339) (lv' := [(0, .ref 159)]) (st' := [.ref 159]) rfl ?_
                refine En_ldcS (i := 1) rfl rfl rfl ?_
                refine En_callV rfl rfl rfl rfl rfl rfl rfl rfl tgz_159 (by decide +kernel) rfl (c_318s1x σ454 h455 y477 h478 h500) (by decide) (by decide) (fun v592 σ593 h591 => ?_)
                obtain ⟨h594, h595, z597, h598, z599, rfl, h596⟩ := h591
                have h600 := h596.2.2.2.2.2.2
                have h601 := Fr_trans h456 h595 (by decide +kernel)
                have h602 := KF_fr h487 h595 (by decide +kernel)
                have h603 := h600.2.1
                refine En_iEq _ rfl rfl (fun h604 => ?_) (fun h604 => ?_)
                · exact keyj386 σ593 y469 y473 z597 h594 h601 ((h595 _ _ (inWa tgz_165 (by decide +kernel))).trans h470) (by omega) (by omega) ((h595 _ _ (inW tgz_159 (by decide +kernel))).trans h474) (by omega) (by omega) h598 (by omega) (by omega) (by omega) (fun _ => by omega) (by omega) (by omega) (by omega) (by omega) (by omega) (by omega) (by omega) (by omega) (h602) ((h600.1 (by omega)) ▸ h500) (h499)
                · have h605 := Imp_m h486 (by omega)
                  exact keyj347 σ593 y469 y473 z597 h594 h601 ((h595 _ _ (inWa tgz_165 (by decide +kernel))).trans h470) (by omega) (by omega) ((h595 _ _ (inW tgz_159 (by decide +kernel))).trans h474) (by omega) (by omega) h598 (by omega) (by omega) (by omega) (fun _ => by omega) (by omega) (by omega) (by omega) (by omega) (by omega) (by omega) (by omega) (by omega) (by omega) (h602) (h600.2.2 (by omega)) (h499)
              · have h606 := Imp_m h485 (by omega)
                exact keyj309 σ579 y465 y473 z583 h580 h587 ((h581 _ _ (inWa tgz_165 (by decide +kernel))).trans h466) (by omega) (by omega) ((h581 _ _ (inW tgz_159 (by decide +kernel))).trans h474) (by omega) (by omega) h584 (by omega) (by omega) (by omega) (fun _ => by omega) (by omega) (by omega) (by omega) (by omega) (by omega) (by omega) (by omega) (by omega) (h588) (h586.2.2 (by omega)) (h499)
            · have h607 : Sp.1 = 0 := iW_g (i := 9) (B := By) (n := Nb) (by omega)
              obtain ⟨S608, h609⟩ : ∃ q : PS, q = adv By Nb Sp := ⟨_, rfl⟩
              have h610 : ML By Nb σ565 S608 := by rw [h609]; exact h572.2.2 (by omega)
              have h611 := ML_k h610 ((h567 _ _ (inW tgz_159 (by decide +kernel))).trans h474)
              have h612 : S608.2.2.2 = Sp.2.2.2 := by rw [h609]; exact adv_w
              have h613 : S608.1 = 0 := by rw [h609, adv_1]; exact h607
              have h614 : S608.2.2.2 0 = Sp.2.2.2 0 := by rw [h612]
              have h615 : S608.2.2.2 2 = Sp.2.2.2 2 := by rw [h612]
              have h616 : S608.2.2.2 3 = Sp.2.2.2 3 := by rw [h612]
              have h617 : S608.2.2.2 4 = Sp.2.2.2 4 := by rw [h612]
              have h618 : S608.2.2.2 5 = Sp.2.2.2 5 := by rw [h612]
              refine En_Ps 2 (pc' := 294) (lv' := [(0, .ref 159)]) (st' := [.int (((Int8.ofInt 8).toInt32)), .ref 159]) rfl ?_
              have := (by decide : (((Int8.ofInt 8).toInt32)).toInt = 8)
              refine En_callV rfl rfl rfl rfl rfl rfl rfl rfl tgz_159 (by decide +kernel) rfl (c_303ax σ565 h566 (((Int8.ofInt 8).toInt32)) (geI (by decide : ((Int8.ofInt 8).toInt32).toInt = 8) (by omega)) (leI (by decide : ((Int8.ofInt 8).toInt32).toInt = 8) (by omega)) z569 h570 y473 ((h567 _ _ (inW tgz_159 (by decide +kernel))).trans h474) h610 (by omega)) (by decide) (by decide) (fun v620 σ621 h619 => ?_)
              obtain ⟨h622, h623, z625, h626, z627, h628, rfl, h624⟩ := h619
              have h629 := h624.2.2.2.2.2.2.2.2
              have h630 := Fr_trans h573 h623 (by decide +kernel)
              have h631 := KF_tr h574 (KF_of h629.1)
              obtain ⟨S632, h633⟩ : ∃ q : PS, q = gRule By Nb (8) S608 := ⟨_, rfl⟩
              have h634 : ML By Nb σ621 S632 := by rw [h633]; exact (ML_eq h629.2 (gRule_cg (by omega)))
              have h635 := ML_k h634 h628
              refine En_Ps 1 (pc' := 447) (lv' := [(0, .ref 159)]) (st' := []) rfl ?_
              exact En_ret (v := none) rfl rfl rfl ⟨h622, h630, z625, h626, z627, h628, rfl, ⟨by omega, by omega, by omega, by omega, by omega, by omega, by omega, fun _ => by omega, ⟨h631, ML_eq h634 (by subst h633; subst h609; rw [gNx_9 h499 hg (by omega) (by omega) (by omega) (by omega) (by omega)])⟩⟩⟩
          · have h636 : Sp.1 = 0 := iW_g (i := 17) (B := By) (n := Nb) (by omega)
            obtain ⟨S637, h638⟩ : ∃ q : PS, q = adv By Nb Sp := ⟨_, rfl⟩
            have h639 : ML By Nb σ551 S637 := by rw [h638]; exact h558.2.2 (by omega)
            have h640 := ML_k h639 ((h553 _ _ (inW tgz_159 (by decide +kernel))).trans h474)
            have h641 : S637.2.2.2 = Sp.2.2.2 := by rw [h638]; exact adv_w
            have h642 : S637.1 = 0 := by rw [h638, adv_1]; exact h636
            have h643 : S637.2.2.2 0 = Sp.2.2.2 0 := by rw [h641]
            have h644 : S637.2.2.2 2 = Sp.2.2.2 2 := by rw [h641]
            have h645 : S637.2.2.2 3 = Sp.2.2.2 3 := by rw [h641]
            have h646 : S637.2.2.2 4 = Sp.2.2.2 4 := by rw [h641]
            have h647 : S637.2.2.2 5 = Sp.2.2.2 5 := by rw [h641]
            refine En_Ps 1 (pc' := 276) (lv' := [(0, .ref 159)]) (st' := [.ref 159]) rfl ?_
            refine En_callV rfl rfl rfl rfl rfl rfl rfl rfl tgz_159 (by decide +kernel) rfl (c_304x σ551 h552 z555 h556 y473 ((h553 _ _ (inW tgz_159 (by decide +kernel))).trans h474) h639 (by omega)) (by decide) (by decide) (fun v649 σ650 h648 => ?_)
            obtain ⟨h651, h652, z654, h655, z656, h657, rfl, h653⟩ := h648
            have h658 := h653.2.2.2.2.2.2.2.2
            have h659 := Fr_trans h559 h652 (by decide +kernel)
            have h660 := KF_tr h560 h658.1
            obtain ⟨S661, h662⟩ : ∃ q : PS, q = gTwin By Nb S637 := ⟨_, rfl⟩
            have h663 : ML By Nb σ650 S661 := by rw [h662]; exact h658.2
            have h664 := ML_k h663 h657
            refine En_Ps 1 (pc' := 447) (lv' := [(0, .ref 159)]) (st' := []) rfl ?_
            exact En_ret (v := none) rfl rfl rfl ⟨h651, h659, z654, h655, z656, h657, rfl, ⟨by omega, by omega, by omega, by omega, by omega, by omega, by omega, fun _ => by omega, ⟨h660, ML_eq h663 (by subst h662; subst h638; rw [gNx_17 h499 hg (by omega) (by omega) (by omega) (by omega)])⟩⟩⟩
        · have h665 := Imp_m h484 (by omega)
          exact keyj219 σ537 y461 y473 z541 h538 h545 ((h539 _ _ (inWa tgz_165 (by decide +kernel))).trans h462) (by omega) (by omega) ((h539 _ _ (inW tgz_159 (by decide +kernel))).trans h474) (by omega) (by omega) h542 (by omega) (by omega) (by omega) (fun _ => by omega) (by omega) (by omega) (by omega) (by omega) (by omega) (h546) (h544.2.2 (by omega)) (h499)
      · have h666 : Sp.1 = 0 := iW_g (i := 6) (B := By) (n := Nb) (by omega)
        obtain ⟨S667, h668⟩ : ∃ q : PS, q = adv By Nb Sp := ⟨_, rfl⟩
        have h669 : ML By Nb σ523 S667 := by rw [h668]; exact h530.2.2 (by omega)
        have h670 := ML_k h669 ((h525 _ _ (inW tgz_159 (by decide +kernel))).trans h474)
        have h671 : S667.2.2.2 = Sp.2.2.2 := by rw [h668]; exact adv_w
        have h672 : S667.1 = 0 := by rw [h668, adv_1]; exact h666
        have h673 : S667.2.2.2 0 = Sp.2.2.2 0 := by rw [h671]
        have h674 : S667.2.2.2 2 = Sp.2.2.2 2 := by rw [h671]
        have h675 : S667.2.2.2 3 = Sp.2.2.2 3 := by rw [h671]
        have h676 : S667.2.2.2 4 = Sp.2.2.2 4 := by rw [h671]
        have h677 : S667.2.2.2 5 = Sp.2.2.2 5 := by rw [h671]
        refine En_Ps 1 (pc' := 204) (lv' := [(0, .ref 159)]) (st' := [.ref 159]) rfl ?_
        refine En_callV rfl rfl rfl rfl rfl rfl rfl rfl tgz_159 (by decide +kernel) rfl (c_300x σ523 h524 z527 h528 y473 ((h525 _ _ (inW tgz_159 (by decide +kernel))).trans h474) h669 (by omega)) (by decide) (by decide) (fun v679 σ680 h678 => ?_)
        obtain ⟨h681, h682, z684, h685, z686, h687, rfl, h683⟩ := h678
        have h688 := h683.2.2.2.2.2.2.2.2
        have h689 := Fr_trans h531 h682 (by decide +kernel)
        have h690 := KF_tr h532 h688.1
        obtain ⟨S691, h692⟩ : ∃ q : PS, q = gLesson By Nb S667 := ⟨_, rfl⟩
        have h693 : ML By Nb σ680 S691 := by rw [h692]; exact h688.2
        have h694 := ML_k h693 h687
        refine En_Ps 1 (pc' := 447) (lv' := [(0, .ref 159)]) (st' := []) rfl ?_
        exact En_ret (v := none) rfl rfl rfl ⟨h681, h689, z684, h685, z686, h687, rfl, ⟨by omega, by omega, by omega, by omega, by omega, by omega, by omega, fun _ => by omega, ⟨h690, ML_eq h693 (by subst h692; subst h668; rw [gNx_6 h499 hg (by omega) (by omega)])⟩⟩⟩
    · have h695 := Imp_m h483 (by omega)
      have h696 : Sp.1 = 0 := iW_g (i := 2) (B := By) (n := Nb) (by omega)
      obtain ⟨S697, h698⟩ : ∃ q : PS, q = adv By Nb Sp := ⟨_, rfl⟩
      have h699 : ML By Nb σ509 S697 := by rw [h698]; exact h516.2.2 (by omega)
      have h700 := ML_k h699 ((h511 _ _ (inW tgz_159 (by decide +kernel))).trans h474)
      have h701 : S697.2.2.2 = Sp.2.2.2 := by rw [h698]; exact adv_w
      have h702 : S697.1 = 0 := by rw [h698, adv_1]; exact h696
      have h703 : S697.2.2.2 0 = Sp.2.2.2 0 := by rw [h701]
      have h704 : S697.2.2.2 2 = Sp.2.2.2 2 := by rw [h701]
      have h705 : S697.2.2.2 3 = Sp.2.2.2 3 := by rw [h701]
      have h706 : S697.2.2.2 4 = Sp.2.2.2 4 := by rw [h701]
      have h707 : S697.2.2.2 5 = Sp.2.2.2 5 := by rw [h701]
      refine En_Ps 1 (pc' := 188) (lv' := [(0, .ref 159)]) (st' := [.ref 159]) rfl ?_
      refine En_callV rfl rfl rfl rfl rfl rfl rfl rfl tgz_159 (by decide +kernel) rfl (c_299x σ509 h510 z513 h514 y473 ((h511 _ _ (inW tgz_159 (by decide +kernel))).trans h474) y457 ((h511 _ _ (inWa tgz_165 (by decide +kernel))).trans h458) (by omega) h699 (by omega)) (by decide) (by decide) (fun v709 σ710 h708 => ?_)
      obtain ⟨h711, h712, z714, h715, z716, h717, rfl, h713⟩ := h708
      have h718 := h713.2.2.2.2.2.2.2.2
      have h719 := Fr_trans h517 h712 (by decide +kernel)
      have h720 := KF_tr h518 h718.1
      obtain ⟨S721, h722⟩ : ∃ q : PS, q = gDoor By Nb S697 := ⟨_, rfl⟩
      have h723 : ML By Nb σ710 S721 := by rw [h722]; exact h718.2
      have h724 := ML_k h723 h717
      refine En_Ps 1 (pc' := 447) (lv' := [(0, .ref 159)]) (st' := []) rfl ?_
      exact En_ret (v := none) rfl rfl rfl ⟨h711, h719, z714, h715, z716, h717, rfl, ⟨by omega, by omega, by omega, by omega, by omega, by omega, by omega, fun _ => by omega, ⟨h720, ML_eq h723 (by subst h722; subst h698; rw [gNx_2 h499 hg (by omega)])⟩⟩⟩
  · exact En_ret (v := none) rfl rfl rfl ⟨h455, h456, y477, h478, y473, h474, rfl, ⟨by omega, by omega, by omega, by omega, by omega, by omega, by omega, fun _ => by have := Imp_m h482 (by omega); omega, ⟨h487, ML_eq h488 (by unfold gNext; dsimp only; rw [if_pos (by omega)])⟩⟩⟩

