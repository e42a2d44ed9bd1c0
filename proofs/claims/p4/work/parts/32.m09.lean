/-- DoorSchoolModel.readRule(I)V -/
abbrev P_303ax (σ0 : SG) (By : Int → Int) (Nb : Int) (Sp : PS) (a : Int32) (f : Int32) (k : Int32) : PO := fun v σ => WT σ ∧ Fr [(35, 8), (35, 9), (35, 10), (35, 11), (35, 12), (35, 13), (41, 0)] σ0 σ ∧ ∃ f1 : Int32, (σ 159)[8]? = some (.int f1) ∧ ∃ k1 : Int32, (σ 159)[12]? = some (.int k1) ∧ v = none ∧ -f1.toInt ≤ 0 ∧ f1.toInt - 1600 ≤ 0 ∧ -f1.toInt + f.toInt ≤ 0 ∧ f1.toInt - f.toInt - 1600 ≤ 0 ∧ -f1.toInt + k.toInt - 3 ≤ 0 ∧ f1.toInt - k.toInt - 1600 ≤ 0 ∧ -k1.toInt ≤ 0 ∧ k1.toInt - 3 ≤ 0 ∧ -k1.toInt + f.toInt - 1600 ≤ 0 ∧ k1.toInt - f.toInt - 3 ≤ 0 ∧ -k1.toInt + k.toInt ≤ 0 ∧ k1.toInt - k.toInt - 3 ≤ 0 ∧ f.toInt - f1.toInt ≤ 0 ∧ Imp (k1.toInt ≤ 0) (k.toInt ≤ 0) ∧ (KR σ0 σ ∧ ML By Nb σ (gRule By Nb a.toInt Sp))
set_option maxRecDepth 10000 in
set_option maxHeartbeats 4000000 in
theorem c_303ax {By : Int → Int} {Nb : Int} {Sp : PS} (σ0 : SG) (hσ0 : WT σ0) (a : Int32) (hl_a : 8 ≤ a.toInt) (hu_a : a.toInt ≤ 8) (f : Int32) (h_f : (σ0 159)[8]? = some (.int f)) (k : Int32) (h_k : (σ0 159)[12]? = some (.int k)) (hM : ML By Nb σ0 Sp) (hg : Sp.1 = 0) : En 4 89 none mr_303 (P_303ax σ0 By Nb Sp a f k) 0 [(0, .ref 159), (1, .int a)] [] σ0 := by
  obtain ⟨hl_f, hu_f⟩ := WT_int hσ0 (g := 35) (by decide +kernel) (by decide +kernel) (l := 0) (u := 1600) (by decide +kernel) h_f
  obtain ⟨hl_k, hu_k⟩ := WT_int hσ0 (g := 35) (by decide +kernel) (by decide +kernel) (l := 0) (u := 3) (by decide +kernel) h_k
  have hF0 : Fr [(35, 8), (35, 9), (35, 10), (35, 11), (35, 12), (35, 13), (41, 0)] σ0 σ0 := Fr_rfl
  have h1 := ML_k hM h_k
  refine En_Ps 1 (pc' := 1) (lv' := [(0, .ref 159), (1, .int a)]) (st' := [.ref 159]) rfl ?_
  refine En_callV rfl rfl rfl rfl rfl rfl rfl rfl (by decide +kernel : TG 159 = 35) (by decide +kernel) rfl (c_234x σ0 hσ0 f h_f k h_k hM) (by decide) (by decide) (fun v3 σ4 h2 => ?_)
  obtain ⟨h5, h6, z8, h9, z10, h11, z12, rfl, h7⟩ := h2
  have h13 := h7.2.2.2.2.2.2.2.2.2.2.2.2.2.2.2.2.2.2
  have h14 := Fr_trans hF0 h6 (by decide +kernel)
  have h15 := KR_fr (KR_0 (σ := σ0)) h6 (by decide +kernel)
  have h16 : tN By Nb 0 (pI (Sp.2.2.2 0) - 1) Sp = tN By Nb 0 (pI (Sp.2.2.2 0) - 1) Sp := tN_cg rfl (by rfl)
  obtain ⟨S17, h18⟩ : ∃ q : PS, q = tN By Nb 0 (pI (Sp.2.2.2 0) - 1) Sp := ⟨_, rfl⟩
  have h19 : ML By Nb σ4 S17 := by rw [h18]; exact (ML_eq h13.1 h16)
  have h20 := ML_k h19 h11
  have h21 : Imp (S17.1 = 0) (z12.toInt = tV By Nb Sp.2.2.1) := fun z => h13.2 (by rw [h16, ← h18]; exact z)
  have h22 : Imp (S17.1 = 0) (Sp.1 = 0 ∧ tK By Nb Sp.2.2.1 = 2 ∧ 0 ≤ tV By Nb Sp.2.2.1 ∧ tV By Nb Sp.2.2.1 ≤ pI (Sp.2.2.2 0) - 1) := fun z => tN_gg (by rw [← h18]; exact z)
  have h23 : S17.2.2.2 = Sp.2.2.2 := by rw [h18]; exact tN_w
  refine En_Ps 1 (pc' := 5) (lv' := [(2, .int z12), (0, .ref 159), (1, .int a)]) (st' := []) rfl ?_
  refine En_Ps 1 (pc' := 6) (lv' := [(2, .int z12), (0, .ref 159), (1, .int a)]) (st' := [.ref 159]) rfl ?_
  refine En_callV rfl rfl rfl rfl rfl rfl rfl rfl (by decide +kernel : TG 159 = 35) (by decide +kernel) rfl (c_237 σ4 h5 z10 h11) (by decide) (by decide) (fun v25 σ26 h24 => ?_)
  obtain ⟨h27, h28, z30, rfl, h29⟩ := h24
  obtain rfl : σ4 = σ26 := Fr_nil h28
  refine En_iEq _ rfl rfl (fun h31 => ?_) (fun h31 => ?_)
  · have h32 := Imp_m h29.2.2.2 (by omega)
    have h33 : gRl1 By Nb (tV By Nb Sp.2.2.1) S17 = S17 := by unfold gRl1; (repeat' split) <;> first | rfl | (exfalso; omega) | ((try have i0 := Imp_m h22 (by omega)); (try have i1 := Imp_m h21 (by omega)); exfalso; omega)
    refine En_Ps 1 (pc' := 37) (lv' := [(2, .int z12), (0, .ref 159), (1, .int a)]) (st' := [.ref 159]) rfl ?_
    refine En_callV rfl rfl rfl rfl rfl rfl rfl rfl (by decide +kernel : TG 159 = 35) (by decide +kernel) rfl (c_234x σ4 h5 z8 h9 z10 h11 h19) (by decide) (by decide) (fun v35 σ36 h34 => ?_)
    obtain ⟨h37, h38, z40, h41, z42, h43, z44, rfl, h39⟩ := h34
    have h45 := h39.2.2.2.2.2.2.2.2.2.2.2.2.2.2.2.2.2.2
    have h46 := Fr_trans h14 h38 (by decide +kernel)
    have h47 := KR_fr h15 h38 (by decide +kernel)
    have h48 : tN By Nb 0 (pI (S17.2.2.2 0) - 1) S17 = tN By Nb 0 (pI (Sp.2.2.2 0) - 1) S17 := tN_cg rfl (by first | rfl | simp only [h23] | rfl)
    obtain ⟨S49, h50⟩ : ∃ q : PS, q = tN By Nb 0 (pI (Sp.2.2.2 0) - 1) S17 := ⟨_, rfl⟩
    have h51 : ML By Nb σ36 S49 := by rw [h50]; exact (ML_eq h45.1 h48)
    have h52 := ML_k h51 h43
    have h53 : Imp (S49.1 = 0) (z44.toInt = tV By Nb S17.2.2.1) := fun z => h45.2 (by rw [h48, ← h50]; exact z)
    have h54 : Imp (S49.1 = 0) (S17.1 = 0 ∧ tK By Nb S17.2.2.1 = 2 ∧ 0 ≤ tV By Nb S17.2.2.1 ∧ tV By Nb S17.2.2.1 ≤ pI (Sp.2.2.2 0) - 1) := fun z => tN_gg (by rw [← h50]; exact z)
    have h55 : S49.2.2.2 = S17.2.2.2 := by rw [h50]; exact tN_w
    refine En_Ps 2 (pc' := 42) (lv' := [(3, .int z44), (2, .int z12), (0, .ref 159), (1, .int a)]) (st' := [.ref 159]) rfl ?_
    refine En_callV rfl rfl rfl rfl rfl rfl rfl rfl (by decide +kernel : TG 159 = 35) (by decide +kernel) rfl (c_237 σ36 h37 z42 h43) (by decide) (by decide) (fun v57 σ58 h56 => ?_)
    obtain ⟨h59, h60, z62, rfl, h61⟩ := h56
    obtain rfl : σ36 = σ58 := Fr_nil h60
    refine En_iNe _ rfl rfl (fun hx => by exfalso; omega) (fun h63 => ?_)
    have h64 := Imp_m h61.2.2.2 (by omega)
    exact En_ret (v := none) rfl rfl rfl ⟨h37, h46, z40, h41, z42, h43, rfl, ⟨by omega, by omega, by omega, by omega, by omega, by omega, by omega, by omega, by omega, by omega, by omega, by omega, by omega, fun _ => by omega, ⟨h47, ML_eq h51 (by unfold gRule; dsimp only; rw [← h18, h33, ← h50]; first | done | rfl | (rw [if_pos (by omega)]; first | done | rfl) | (rw [if_neg (by omega)]; first | done | rfl))⟩⟩⟩
  · have h65 := Imp_m h29.2.2.1 (by omega)
    have h66 := Imp_m h7.2.2.2.2.2.2.2.2.2.2.2.2.2.2.2.2.2.1 (by omega)
    obtain ⟨z68, h67, h69, h70⟩ := WT_peekI h5 (by decide +kernel : TG 159 = 35) (by decide +kernel : FT 35 10 = (0, 0, 4)) (by decide +kernel)
    obtain ⟨z72, h71, h73, h74⟩ := WT_peekI h5 (by decide +kernel : TG 159 = 35) (by decide +kernel : FT 35 11 = (0, 0, 99999)) (by decide +kernel)
    have h75 := ML_k h19 h11
    have h76 : Imp (S17.1 = 0) (tK By Nb S17.2.2.1 = z68.toInt) := ML_t h19 h67
    have h77 : Imp (S17.1 = 0 ∧ tK By Nb S17.2.2.1 = 2) (z72.toInt = min 99999 (tV By Nb S17.2.2.1) ∧ 0 ≤ tV By Nb S17.2.2.1) := fun q => ML_u h19 h71 q.1 q.2
    try have h78 := Imp_m h76 (by omega)
    try have h79 := Imp_m h22 (by omega)
    try have h80 := Imp_m h21 (by omega)
    try have h81 := Imp_m h77 (by omega)
    refine En_Ps 1 (pc' := 13) (lv' := [(2, .int z12), (0, .ref 159), (1, .int a)]) (st' := [.ref 159]) rfl ?_
    refine En_getK (j := 10) h67 rfl rfl rfl (by decide +kernel : TG 159 = 35) (by decide +kernel) ?_
    refine En_Ps 1 (pc' := 17) (lv' := [(2, .int z12), (0, .ref 159), (1, .int a)]) (st' := [.int ((Int32.ofInt 2)), .int z68]) rfl ?_
    refine En_icNe _ rfl (by decide : (Int32.ofInt 2).toInt = 2) rfl (fun h82 => ?_) (fun h82 => ?_)
    · have h83 : gRl1 By Nb (tV By Nb Sp.2.2.1) S17 = S17 := by unfold gRl1; (repeat' split) <;> first | rfl | (exfalso; omega) | ((try have i0 := Imp_m h76 (by omega)); (try have i1 := Imp_m h22 (by omega)); (try have i2 := Imp_m h21 (by omega)); (try have i3 := Imp_m h77 (by omega)); exfalso; omega)
      refine En_Ps 1 (pc' := 37) (lv' := [(2, .int z12), (0, .ref 159), (1, .int a)]) (st' := [.ref 159]) rfl ?_
      refine En_callV rfl rfl rfl rfl rfl rfl rfl rfl (by decide +kernel : TG 159 = 35) (by decide +kernel) rfl (c_234x σ4 h5 z8 h9 z10 h11 h19) (by decide) (by decide) (fun v85 σ86 h84 => ?_)
      obtain ⟨h87, h88, z90, h91, z92, h93, z94, rfl, h89⟩ := h84
      have h95 := h89.2.2.2.2.2.2.2.2.2.2.2.2.2.2.2.2.2.2
      have h96 := Fr_trans h14 h88 (by decide +kernel)
      have h97 := KR_fr h15 h88 (by decide +kernel)
      have h98 : tN By Nb 0 (pI (S17.2.2.2 0) - 1) S17 = tN By Nb 0 (pI (Sp.2.2.2 0) - 1) S17 := tN_cg rfl (by first | rfl | simp only [h23] | rfl)
      obtain ⟨S99, h100⟩ : ∃ q : PS, q = tN By Nb 0 (pI (Sp.2.2.2 0) - 1) S17 := ⟨_, rfl⟩
      have h101 : ML By Nb σ86 S99 := by rw [h100]; exact (ML_eq h95.1 h98)
      have h102 := ML_k h101 h93
      have h103 : Imp (S99.1 = 0) (z94.toInt = tV By Nb S17.2.2.1) := fun z => h95.2 (by rw [h98, ← h100]; exact z)
      have h104 : Imp (S99.1 = 0) (S17.1 = 0 ∧ tK By Nb S17.2.2.1 = 2 ∧ 0 ≤ tV By Nb S17.2.2.1 ∧ tV By Nb S17.2.2.1 ≤ pI (Sp.2.2.2 0) - 1) := fun z => tN_gg (by rw [← h100]; exact z)
      have h105 : S99.2.2.2 = S17.2.2.2 := by rw [h100]; exact tN_w
      refine En_Ps 2 (pc' := 42) (lv' := [(3, .int z94), (2, .int z12), (0, .ref 159), (1, .int a)]) (st' := [.ref 159]) rfl ?_
      refine En_callV rfl rfl rfl rfl rfl rfl rfl rfl (by decide +kernel : TG 159 = 35) (by decide +kernel) rfl (c_237 σ86 h87 z92 h93) (by decide) (by decide) (fun v107 σ108 h106 => ?_)
      obtain ⟨h109, h110, z112, rfl, h111⟩ := h106
      obtain rfl : σ86 = σ108 := Fr_nil h110
      refine En_iNe _ rfl rfl (fun h113 => ?_) (fun h113 => ?_)
      · have h114 := Imp_m h111.2.2.1 (by omega)
        have h115 := Imp_m h89.2.2.2.2.2.2.2.2.2.2.2.2.2.2.2.2.2.1 (by omega)
        have h116 : S99.1 = 0 := by omega
        have h117 := Imp_m h103 h116
        have h118 := Imp_m h104 h116
        have h119 := Imp_m h21 h118.1
        have h120 := Imp_m h22 h118.1
        have h121 := Imp_m h76 h118.1
        have h122 := Imp_m h77 ⟨h118.1, h118.2.1⟩
        refine En_Ps 1 (pc' := 50) (lv' := [(3, .int z94), (2, .int z12), (0, .ref 159), (1, .int a)]) (st' := [.ref 159]) rfl ?_
        refine En_getU (j := 14) (u := 165) (g' := 41) (q := 0) rfl rfl rfl (by decide +kernel : TG 159 = 35) (by decide +kernel) h87 (by decide +kernel) (by decide +kernel) (fun h123 => ?_)
        refine En_Ps 2 (pc' := 55) (lv' := [(3, .int z94), (2, .int z12), (0, .ref 159), (1, .int a)]) (st' := [.int z12, .int a, .ref 165]) rfl ?_
        refine En_iast (l := 0) (u := 15) rfl rfl (by decide +kernel : TG 165 = 41) (by decide +kernel) (by omega) (lnI (by decide +kernel : LN _ = 226) (by omega)) (FTrow 41 8 1 1 (by decide +kernel) (by omega) (by omega) (by omega)) (rngI rfl (by omega) (by omega)) h87 h96 (by decide +kernel) (fun σ125 h126 h127 h128 h129 => ?_)
        have h130 := KR_st h97 (J := a.toInt) h129 (by omega)
        obtain ⟨S131, h132⟩ : ∃ q : PS, q = wst S99 (a.toInt) ((tV By Nb Sp.2.2.1)) := ⟨_, rfl⟩
        have h133 : ML By Nb σ125 S131 := by rw [h132]; exact (ML_wst (i := a.toInt) (v := (tV By Nb Sp.2.2.1)) h101 h128 h129 (by omega) (fun z => by have j1 := Imp_m h103 z; have j2 := Imp_m h104 z; have j3 := Imp_m h21 j2.1; have j4 := Imp_m h22 j2.1; have j5 := Imp_m h76 j2.1; have j6 := Imp_m h77 ⟨j2.1, j2.2.1⟩; exact ⟨by omega, by omega⟩))
        have h134 := ML_k h133 ((h129 _ _ (Or.inl (neTG (by decide +kernel : TG 159 = 35) (by decide +kernel : TG 165 = 41) (by decide)))).trans h93)
        have h135 : S131.1 = S99.1 := by rw [h132]; rfl
        refine En_Ps 1 (pc' := 57) (lv' := [(3, .int z94), (2, .int z12), (0, .ref 159), (1, .int a)]) (st' := [.ref 159]) rfl ?_
        refine En_getK (j := 14) ((h129 _ _ (Or.inl (neTG (by decide +kernel : TG 159 = 35) (by decide +kernel : TG 165 = 41) (by decide)))).trans h123) rfl rfl rfl (by decide +kernel : TG 159 = 35) (by decide +kernel) ?_
        refine En_Ps 3 (pc' := 63) (lv' := [(3, .int z94), (2, .int z12), (0, .ref 159), (1, .int a)]) (st' := [.int ((a + ((Int32.ofInt 1)))), .ref 165]) rfl ?_
        refine En_top (addI rfl (by decide : (Int32.ofInt 1).toInt = 1) (by omega) (by omega)) (fun z136 h137 => ?_)
        refine En_Ps 1 (pc' := 64) (lv' := [(3, .int z94), (2, .int z12), (0, .ref 159), (1, .int a)]) (st' := [.int z94, .int z136, .ref 165]) rfl ?_
        refine En_iast (l := 0) (u := 15) rfl rfl (by decide +kernel : TG 165 = 41) (by decide +kernel) (by omega) (lnI (by decide +kernel : LN _ = 226) (by omega)) (FTrow 41 9 1 1 (by decide +kernel) (by omega) (by omega) (by omega)) (rngI rfl (by omega) (by omega)) h126 h127 (by decide +kernel) (fun σ138 h139 h140 h141 h142 => ?_)
        have h143 := KR_st h130 (J := z136.toInt) h142 (by omega)
        obtain ⟨S144, h145⟩ : ∃ q : PS, q = wst S131 (a.toInt + 1) ((tV By Nb S17.2.2.1)) := ⟨_, rfl⟩
        have h146 : ML By Nb σ138 S144 := by rw [h145]; exact (ML_wst (i := a.toInt + 1) (v := (tV By Nb S17.2.2.1)) h133 h141 h142 (by omega) (fun z => by have j1 := h135.symm.trans z; have j2 := Imp_m h103 j1; have j3 := Imp_m h104 j1; have j4 := Imp_m h21 j3.1; have j5 := Imp_m h22 j3.1; have j6 := Imp_m h76 j3.1; have j7 := Imp_m h77 ⟨j3.1, j3.2.1⟩; exact ⟨by omega, by omega⟩))
        have h147 := ML_k h146 ((h142 _ _ (Or.inl (neTG (by decide +kernel : TG 159 = 35) (by decide +kernel : TG 165 = 41) (by decide)))).trans ((h129 _ _ (Or.inl (neTG (by decide +kernel : TG 159 = 35) (by decide +kernel : TG 165 = 41) (by decide)))).trans h93))
        have h148 : S144.1 = S131.1 := by rw [h145]; rfl
        exact En_ret (v := none) rfl rfl rfl ⟨h139, h140, z90, ((h142 _ _ (Or.inl (neTG (by decide +kernel : TG 159 = 35) (by decide +kernel : TG 165 = 41) (by decide)))).trans ((h129 _ _ (Or.inl (neTG (by decide +kernel : TG 159 = 35) (by decide +kernel : TG 165 = 41) (by decide)))).trans h91)), z92, ((h142 _ _ (Or.inl (neTG (by decide +kernel : TG 159 = 35) (by decide +kernel : TG 165 = 41) (by decide)))).trans ((h129 _ _ (Or.inl (neTG (by decide +kernel : TG 159 = 35) (by decide +kernel : TG 165 = 41) (by decide)))).trans h93)), rfl, ⟨by omega, by omega, by omega, by omega, by omega, by omega, by omega, by omega, by omega, by omega, by omega, by omega, by omega, fun _ => by omega, ⟨h143, ML_eq h146 (by unfold gRule; dsimp only; rw [← h18, h83, ← h100, ← h132, ← h145]; first | done | rfl | (rw [if_pos (by omega)]; first | done | rfl) | (rw [if_neg (by omega)]; first | done | rfl))⟩⟩⟩
      · have h149 := Imp_m h111.2.2.2 (by omega)
        exact En_ret (v := none) rfl rfl rfl ⟨h87, h96, z90, h91, z92, h93, rfl, ⟨by omega, by omega, by omega, by omega, by omega, by omega, by omega, by omega, by omega, by omega, by omega, by omega, by omega, fun _ => by omega, ⟨h97, ML_eq h101 (by unfold gRule; dsimp only; rw [← h18, h83, ← h100]; first | done | rfl | (rw [if_pos (by omega)]; first | done | rfl) | (rw [if_neg (by omega)]; first | done | rfl))⟩⟩⟩
    · have h150 : S17.1 = 0 := by omega
      have h151 := Imp_m h76 h150
      have h152 : tK By Nb S17.2.2.1 = 2 := by omega
      have h153 := Imp_m h21 h150
      have h154 := Imp_m h22 h150
      have h155 := Imp_m h76 h150
      have h156 := Imp_m h77 ⟨h150, h152⟩
      refine En_Ps 1 (pc' := 21) (lv' := [(2, .int z12), (0, .ref 159), (1, .int a)]) (st' := [.ref 159]) rfl ?_
      refine En_getK (j := 11) h71 rfl rfl rfl (by decide +kernel : TG 159 = 35) (by decide +kernel) ?_
      have h157 : sbI (z72.toInt) (z12.toInt) = sbI (min 99999 (tV By Nb S17.2.2.1)) (tV By Nb Sp.2.2.1) := sbI_cg (by omega) (by omega)
      refine En_Ps 3 (pc' := 27) (lv' := [(2, .int z12), (0, .ref 159), (1, .int a)]) (st' := [.int ((z12 ^^^ ((Int32.ofInt (-1))))), .int z72]) rfl ?_
      refine En_nam (fun z158 h159 => ?_)
      refine En_Ps 1 (pc' := 28) (lv' := [(2, .int z12), (0, .ref 159), (1, .int a)]) (st' := [.int ((z72 &&& z158))]) rfl ?_
      refine En_nam (fun z160 h161 => ?_)
      obtain ⟨h162, h163⟩ := andn_rng h161 rfl (by omega) (by omega : _ ≤ (99999 : Int))
      refine En_iEq _ rfl rfl (fun h164 => ?_) (fun h164 => ?_)
      · obtain ⟨h165, h166⟩ := andn_zero h161 h159 h164 rfl rfl (by omega)
        have := sub_sbw h161 h159 rfl rfl (by omega) (by omega) (by omega)
        have h167 : gRl1 By Nb (tV By Nb Sp.2.2.1) S17 = S17 := by unfold gRl1; (repeat' split) <;> first | rfl | (exfalso; omega) | ((try have i0 := Imp_m h76 (by omega)); (try have i1 := Imp_m h22 (by omega)); (try have i2 := Imp_m h21 (by omega)); (try have i3 := Imp_m h77 (by omega)); exfalso; omega)
        refine En_Ps 1 (pc' := 37) (lv' := [(2, .int z12), (0, .ref 159), (1, .int a)]) (st' := [.ref 159]) rfl ?_
        refine En_callV rfl rfl rfl rfl rfl rfl rfl rfl (by decide +kernel : TG 159 = 35) (by decide +kernel) rfl (c_234x σ4 h5 z8 h9 z10 h11 h19) (by decide) (by decide) (fun v169 σ170 h168 => ?_)
        obtain ⟨h171, h172, z174, h175, z176, h177, z178, rfl, h173⟩ := h168
        have h179 := h173.2.2.2.2.2.2.2.2.2.2.2.2.2.2.2.2.2.2
        have h180 := Fr_trans h14 h172 (by decide +kernel)
        have h181 := KR_fr h15 h172 (by decide +kernel)
        have h182 : tN By Nb 0 (pI (S17.2.2.2 0) - 1) S17 = tN By Nb 0 (pI (Sp.2.2.2 0) - 1) S17 := tN_cg rfl (by first | rfl | simp only [h23] | rfl)
        obtain ⟨S183, h184⟩ : ∃ q : PS, q = tN By Nb 0 (pI (Sp.2.2.2 0) - 1) S17 := ⟨_, rfl⟩
        have h185 : ML By Nb σ170 S183 := by rw [h184]; exact (ML_eq h179.1 h182)
        have h186 := ML_k h185 h177
        have h187 : Imp (S183.1 = 0) (z178.toInt = tV By Nb S17.2.2.1) := fun z => h179.2 (by rw [h182, ← h184]; exact z)
        have h188 : Imp (S183.1 = 0) (S17.1 = 0 ∧ tK By Nb S17.2.2.1 = 2 ∧ 0 ≤ tV By Nb S17.2.2.1 ∧ tV By Nb S17.2.2.1 ≤ pI (Sp.2.2.2 0) - 1) := fun z => tN_gg (by rw [← h184]; exact z)
        have h189 : S183.2.2.2 = S17.2.2.2 := by rw [h184]; exact tN_w
        refine En_Ps 2 (pc' := 42) (lv' := [(3, .int z178), (2, .int z12), (0, .ref 159), (1, .int a)]) (st' := [.ref 159]) rfl ?_
        refine En_callV rfl rfl rfl rfl rfl rfl rfl rfl (by decide +kernel : TG 159 = 35) (by decide +kernel) rfl (c_237 σ170 h171 z176 h177) (by decide) (by decide) (fun v191 σ192 h190 => ?_)
        obtain ⟨h193, h194, z196, rfl, h195⟩ := h190
        obtain rfl : σ170 = σ192 := Fr_nil h194
        refine En_iNe _ rfl rfl (fun h197 => ?_) (fun h197 => ?_)
        · have h198 := Imp_m h195.2.2.1 (by omega)
          have h199 := Imp_m h173.2.2.2.2.2.2.2.2.2.2.2.2.2.2.2.2.2.1 (by omega)
          have h200 : S183.1 = 0 := by omega
          have h201 := Imp_m h187 h200
          have h202 := Imp_m h188 h200
          have h203 := Imp_m h21 h202.1
          have h204 := Imp_m h22 h202.1
          have h205 := Imp_m h76 h202.1
          have h206 := Imp_m h77 ⟨h202.1, h202.2.1⟩
          refine En_Ps 1 (pc' := 50) (lv' := [(3, .int z178), (2, .int z12), (0, .ref 159), (1, .int a)]) (st' := [.ref 159]) rfl ?_
          refine En_getU (j := 14) (u := 165) (g' := 41) (q := 0) rfl rfl rfl (by decide +kernel : TG 159 = 35) (by decide +kernel) h171 (by decide +kernel) (by decide +kernel) (fun h207 => ?_)
          refine En_Ps 2 (pc' := 55) (lv' := [(3, .int z178), (2, .int z12), (0, .ref 159), (1, .int a)]) (st' := [.int z12, .int a, .ref 165]) rfl ?_
          refine En_iast (l := 0) (u := 15) rfl rfl (by decide +kernel : TG 165 = 41) (by decide +kernel) (by omega) (lnI (by decide +kernel : LN _ = 226) (by omega)) (FTrow 41 8 1 1 (by decide +kernel) (by omega) (by omega) (by omega)) (rngI rfl (by omega) (by omega)) h171 h180 (by decide +kernel) (fun σ209 h210 h211 h212 h213 => ?_)
          have h214 := KR_st h181 (J := a.toInt) h213 (by omega)
          obtain ⟨S215, h216⟩ : ∃ q : PS, q = wst S183 (a.toInt) ((tV By Nb Sp.2.2.1)) := ⟨_, rfl⟩
          have h217 : ML By Nb σ209 S215 := by rw [h216]; exact (ML_wst (i := a.toInt) (v := (tV By Nb Sp.2.2.1)) h185 h212 h213 (by omega) (fun z => by have j1 := Imp_m h187 z; have j2 := Imp_m h188 z; have j3 := Imp_m h21 j2.1; have j4 := Imp_m h22 j2.1; have j5 := Imp_m h76 j2.1; have j6 := Imp_m h77 ⟨j2.1, j2.2.1⟩; exact ⟨by omega, by omega⟩))
          have h218 := ML_k h217 ((h213 _ _ (Or.inl (neTG (by decide +kernel : TG 159 = 35) (by decide +kernel : TG 165 = 41) (by decide)))).trans h177)
          have h219 : S215.1 = S183.1 := by rw [h216]; rfl
          refine En_Ps 1 (pc' := 57) (lv' := [(3, .int z178), (2, .int z12), (0, .ref 159), (1, .int a)]) (st' := [.ref 159]) rfl ?_
          refine En_getK (j := 14) ((h213 _ _ (Or.inl (neTG (by decide +kernel : TG 159 = 35) (by decide +kernel : TG 165 = 41) (by decide)))).trans h207) rfl rfl rfl (by decide +kernel : TG 159 = 35) (by decide +kernel) ?_
          refine En_Ps 3 (pc' := 63) (lv' := [(3, .int z178), (2, .int z12), (0, .ref 159), (1, .int a)]) (st' := [.int ((a + ((Int32.ofInt 1)))), .ref 165]) rfl ?_
          refine En_top (addI rfl (by decide : (Int32.ofInt 1).toInt = 1) (by omega) (by omega)) (fun z220 h221 => ?_)
          refine En_Ps 1 (pc' := 64) (lv' := [(3, .int z178), (2, .int z12), (0, .ref 159), (1, .int a)]) (st' := [.int z178, .int z220, .ref 165]) rfl ?_
          refine En_iast (l := 0) (u := 15) rfl rfl (by decide +kernel : TG 165 = 41) (by decide +kernel) (by omega) (lnI (by decide +kernel : LN _ = 226) (by omega)) (FTrow 41 9 1 1 (by decide +kernel) (by omega) (by omega) (by omega)) (rngI rfl (by omega) (by omega)) h210 h211 (by decide +kernel) (fun σ222 h223 h224 h225 h226 => ?_)
          have h227 := KR_st h214 (J := z220.toInt) h226 (by omega)
          obtain ⟨S228, h229⟩ : ∃ q : PS, q = wst S215 (a.toInt + 1) ((tV By Nb S17.2.2.1)) := ⟨_, rfl⟩
          have h230 : ML By Nb σ222 S228 := by rw [h229]; exact (ML_wst (i := a.toInt + 1) (v := (tV By Nb S17.2.2.1)) h217 h225 h226 (by omega) (fun z => by have j1 := h219.symm.trans z; have j2 := Imp_m h187 j1; have j3 := Imp_m h188 j1; have j4 := Imp_m h21 j3.1; have j5 := Imp_m h22 j3.1; have j6 := Imp_m h76 j3.1; have j7 := Imp_m h77 ⟨j3.1, j3.2.1⟩; exact ⟨by omega, by omega⟩))
          have h231 := ML_k h230 ((h226 _ _ (Or.inl (neTG (by decide +kernel : TG 159 = 35) (by decide +kernel : TG 165 = 41) (by decide)))).trans ((h213 _ _ (Or.inl (neTG (by decide +kernel : TG 159 = 35) (by decide +kernel : TG 165 = 41) (by decide)))).trans h177))
          have h232 : S228.1 = S215.1 := by rw [h229]; rfl
          exact En_ret (v := none) rfl rfl rfl ⟨h223, h224, z174, ((h226 _ _ (Or.inl (neTG (by decide +kernel : TG 159 = 35) (by decide +kernel : TG 165 = 41) (by decide)))).trans ((h213 _ _ (Or.inl (neTG (by decide +kernel : TG 159 = 35) (by decide +kernel : TG 165 = 41) (by decide)))).trans h175)), z176, ((h226 _ _ (Or.inl (neTG (by decide +kernel : TG 159 = 35) (by decide +kernel : TG 165 = 41) (by decide)))).trans ((h213 _ _ (Or.inl (neTG (by decide +kernel : TG 159 = 35) (by decide +kernel : TG 165 = 41) (by decide)))).trans h177)), rfl, ⟨by omega, by omega, by omega, by omega, by omega, by omega, by omega, by omega, by omega, by omega, by omega, by omega, by omega, fun _ => by omega, ⟨h227, ML_eq h230 (by unfold gRule; dsimp only; rw [← h18, h167, ← h184, ← h216, ← h229]; first | done | rfl | (rw [if_pos (by omega)]; first | done | rfl) | (rw [if_neg (by omega)]; first | done | rfl))⟩⟩⟩
        · have h233 := Imp_m h195.2.2.2 (by omega)
          exact En_ret (v := none) rfl rfl rfl ⟨h171, h180, z174, h175, z176, h177, rfl, ⟨by omega, by omega, by omega, by omega, by omega, by omega, by omega, by omega, by omega, by omega, by omega, by omega, by omega, fun _ => by omega, ⟨h181, ML_eq h185 (by unfold gRule; dsimp only; rw [← h18, h167, ← h184]; first | done | rfl | (rw [if_pos (by omega)]; first | done | rfl) | (rw [if_neg (by omega)]; first | done | rfl))⟩⟩⟩
      · have := sub_sbw h161 h159 rfl rfl (by omega) (by omega) (by omega)
        refine En_Ps 2 (pc' := 33) (lv' := [(2, .int z12), (0, .ref 159), (1, .int a)]) (st' := [.int ((Int32.ofInt 2)), .ref 159]) rfl ?_
        have := (by decide : ((Int32.ofInt 2)).toInt = 2)
        refine En_callV rfl rfl rfl rfl rfl rfl rfl rfl (by decide +kernel : TG 159 = 35) (by decide +kernel) rfl (c_223x σ4 h5 ((Int32.ofInt 2)) (geI (by decide : (Int32.ofInt 2).toInt = 2) (by omega)) (leI (by decide : (Int32.ofInt 2).toInt = 2) (by omega)) z10 h11 h19) (by decide) (by decide) (fun v235 σ236 h234 => ?_)
        obtain ⟨h237, h238, z240, h241, rfl, h239⟩ := h234
        have h242 := h239.2.2.2.2.2
        have h243 := Fr_trans h14 h238 (by decide +kernel)
        have h244 := KR_fr h15 h238 (by decide +kernel)
        obtain ⟨S245, h246⟩ : ∃ q : PS, q = err By Nb 2 S17 := ⟨_, rfl⟩
        have h247 : ML By Nb σ236 S245 := by rw [h246]; exact (ML_eq h242 (err_cg (by omega)))
        have h248 := ML_k h247 h241
        have h249 : Imp (S245.1 = 0) (tK By Nb S245.2.2.1 = z68.toInt) := ML_t h247 ((h238 _ _ (inW (by decide +kernel : TG 159 = 35) (by decide +kernel))).trans h67)
        have h250 : Imp (S245.1 = 0 ∧ tK By Nb S245.2.2.1 = 2) (z72.toInt = min 99999 (tV By Nb S245.2.2.1) ∧ 0 ≤ tV By Nb S245.2.2.1) := fun q => ML_u h247 ((h238 _ _ (inW (by decide +kernel : TG 159 = 35) (by decide +kernel))).trans h71) q.1 q.2
        have h251 : S245.2.2.2 = S17.2.2.2 := by rw [h246]; exact err_w
        have h252 : gRl1 By Nb (tV By Nb Sp.2.2.1) S17 = S245 := by rw [h246]; unfold gRl1; (repeat' split) <;> first | rfl | (exfalso; omega) | ((try have i0 := Imp_m h249 (by omega)); (try have i1 := Imp_m h76 (by omega)); (try have i2 := Imp_m h22 (by omega)); (try have i3 := Imp_m h21 (by omega)); (try have i4 := Imp_m h77 (by omega)); (try have i5 := Imp_m h250 (by omega)); exfalso; omega)
        refine En_Ps 1 (pc' := 37) (lv' := [(2, .int z12), (0, .ref 159), (1, .int a)]) (st' := [.ref 159]) rfl ?_
        refine En_callV rfl rfl rfl rfl rfl rfl rfl rfl (by decide +kernel : TG 159 = 35) (by decide +kernel) rfl (c_234x σ236 h237 z8 ((h238 _ _ (inW (by decide +kernel : TG 159 = 35) (by decide +kernel))).trans h9) z240 h241 h247) (by decide) (by decide) (fun v254 σ255 h253 => ?_)
        obtain ⟨h256, h257, z259, h260, z261, h262, z263, rfl, h258⟩ := h253
        have h264 := h258.2.2.2.2.2.2.2.2.2.2.2.2.2.2.2.2.2.2
        have h265 := Fr_trans h243 h257 (by decide +kernel)
        have h266 := KR_fr h244 h257 (by decide +kernel)
        have h267 : tN By Nb 0 (pI (S245.2.2.2 0) - 1) S245 = tN By Nb 0 (pI (Sp.2.2.2 0) - 1) S245 := tN_cg rfl (by first | rfl | simp only [h23, h251] | rfl)
        obtain ⟨S268, h269⟩ : ∃ q : PS, q = tN By Nb 0 (pI (Sp.2.2.2 0) - 1) S245 := ⟨_, rfl⟩
        have h270 : ML By Nb σ255 S268 := by rw [h269]; exact (ML_eq h264.1 h267)
        have h271 := ML_k h270 h262
        have h272 : Imp (S268.1 = 0) (z263.toInt = tV By Nb S245.2.2.1) := fun z => h264.2 (by rw [h267, ← h269]; exact z)
        have h273 : Imp (S268.1 = 0) (S245.1 = 0 ∧ tK By Nb S245.2.2.1 = 2 ∧ 0 ≤ tV By Nb S245.2.2.1 ∧ tV By Nb S245.2.2.1 ≤ pI (Sp.2.2.2 0) - 1) := fun z => tN_gg (by rw [← h269]; exact z)
        have h274 : S268.2.2.2 = S245.2.2.2 := by rw [h269]; exact tN_w
        refine En_Ps 2 (pc' := 42) (lv' := [(3, .int z263), (2, .int z12), (0, .ref 159), (1, .int a)]) (st' := [.ref 159]) rfl ?_
        refine En_callV rfl rfl rfl rfl rfl rfl rfl rfl (by decide +kernel : TG 159 = 35) (by decide +kernel) rfl (c_237 σ255 h256 z261 h262) (by decide) (by decide) (fun v276 σ277 h275 => ?_)
        obtain ⟨h278, h279, z281, rfl, h280⟩ := h275
        obtain rfl : σ255 = σ277 := Fr_nil h279
        refine En_iNe _ rfl rfl (fun hx => by exfalso; omega) (fun h282 => ?_)
        have h283 := Imp_m h280.2.2.2 (by omega)
        exact En_ret (v := none) rfl rfl rfl ⟨h256, h265, z259, h260, z261, h262, rfl, ⟨by omega, by omega, by omega, by omega, by omega, by omega, by omega, by omega, by omega, by omega, by omega, by omega, by omega, fun _ => by omega, ⟨h266, ML_eq h270 (by unfold gRule; dsimp only; rw [← h18, h252, ← h269]; first | done | rfl | (rw [if_pos (by omega)]; first | done | rfl) | (rw [if_neg (by omega)]; first | done | rfl))⟩⟩⟩
/-- DoorSchoolModel.readRule(I)V -/
abbrev P_303bx (σ0 : SG) (By : Int → Int) (Nb : Int) (Sp : PS) (a : Int32) (f : Int32) (k : Int32) : PO := fun v σ => WT σ ∧ Fr [(35, 8), (35, 9), (35, 10), (35, 11), (35, 12), (35, 13), (41, 0)] σ0 σ ∧ ∃ f1 : Int32, (σ 159)[8]? = some (.int f1) ∧ ∃ k1 : Int32, (σ 159)[12]? = some (.int k1) ∧ v = none ∧ -f1.toInt ≤ 0 ∧ f1.toInt - 1600 ≤ 0 ∧ -f1.toInt + f.toInt ≤ 0 ∧ f1.toInt - f.toInt - 1600 ≤ 0 ∧ -f1.toInt + k.toInt - 3 ≤ 0 ∧ f1.toInt - k.toInt - 1600 ≤ 0 ∧ -k1.toInt ≤ 0 ∧ k1.toInt - 3 ≤ 0 ∧ -k1.toInt + f.toInt - 1600 ≤ 0 ∧ k1.toInt - f.toInt - 3 ≤ 0 ∧ -k1.toInt + k.toInt ≤ 0 ∧ k1.toInt - k.toInt - 3 ≤ 0 ∧ f.toInt - f1.toInt ≤ 0 ∧ Imp (k1.toInt ≤ 0) (k.toInt ≤ 0) ∧ (KR σ0 σ ∧ ML By Nb σ (gRule By Nb a.toInt Sp))
set_option maxRecDepth 10000 in
set_option maxHeartbeats 4000000 in
theorem c_303bx {By : Int → Int} {Nb : Int} {Sp : PS} (σ0 : SG) (hσ0 : WT σ0) (a : Int32) (hl_a : 146 ≤ a.toInt) (hu_a : a.toInt ≤ 152) (f : Int32) (h_f : (σ0 159)[8]? = some (.int f)) (k : Int32) (h_k : (σ0 159)[12]? = some (.int k)) (hM : ML By Nb σ0 Sp) (hg : Sp.1 = 0) : En 4 89 none mr_303 (P_303bx σ0 By Nb Sp a f k) 0 [(0, .ref 159), (1, .int a)] [] σ0 := by
  obtain ⟨hl_f, hu_f⟩ := WT_int hσ0 (g := 35) (by decide +kernel) (by decide +kernel) (l := 0) (u := 1600) (by decide +kernel) h_f
  obtain ⟨hl_k, hu_k⟩ := WT_int hσ0 (g := 35) (by decide +kernel) (by decide +kernel) (l := 0) (u := 3) (by decide +kernel) h_k
  have hF0 : Fr [(35, 8), (35, 9), (35, 10), (35, 11), (35, 12), (35, 13), (41, 0)] σ0 σ0 := Fr_rfl
  have h1 := ML_k hM h_k
  refine En_Ps 1 (pc' := 1) (lv' := [(0, .ref 159), (1, .int a)]) (st' := [.ref 159]) rfl ?_
  refine En_callV rfl rfl rfl rfl rfl rfl rfl rfl (by decide +kernel : TG 159 = 35) (by decide +kernel) rfl (c_234x σ0 hσ0 f h_f k h_k hM) (by decide) (by decide) (fun v3 σ4 h2 => ?_)
  obtain ⟨h5, h6, z8, h9, z10, h11, z12, rfl, h7⟩ := h2
  have h13 := h7.2.2.2.2.2.2.2.2.2.2.2.2.2.2.2.2.2.2
  have h14 := Fr_trans hF0 h6 (by decide +kernel)
  have h15 := KR_fr (KR_0 (σ := σ0)) h6 (by decide +kernel)
  have h16 : tN By Nb 0 (pI (Sp.2.2.2 0) - 1) Sp = tN By Nb 0 (pI (Sp.2.2.2 0) - 1) Sp := tN_cg rfl (by rfl)
  obtain ⟨S17, h18⟩ : ∃ q : PS, q = tN By Nb 0 (pI (Sp.2.2.2 0) - 1) Sp := ⟨_, rfl⟩
  have h19 : ML By Nb σ4 S17 := by rw [h18]; exact (ML_eq h13.1 h16)
  have h20 := ML_k h19 h11
  have h21 : Imp (S17.1 = 0) (z12.toInt = tV By Nb Sp.2.2.1) := fun z => h13.2 (by rw [h16, ← h18]; exact z)
  have h22 : Imp (S17.1 = 0) (Sp.1 = 0 ∧ tK By Nb Sp.2.2.1 = 2 ∧ 0 ≤ tV By Nb Sp.2.2.1 ∧ tV By Nb Sp.2.2.1 ≤ pI (Sp.2.2.2 0) - 1) := fun z => tN_gg (by rw [← h18]; exact z)
  have h23 : S17.2.2.2 = Sp.2.2.2 := by rw [h18]; exact tN_w
  refine En_Ps 1 (pc' := 5) (lv' := [(2, .int z12), (0, .ref 159), (1, .int a)]) (st' := []) rfl ?_
  refine En_Ps 1 (pc' := 6) (lv' := [(2, .int z12), (0, .ref 159), (1, .int a)]) (st' := [.ref 159]) rfl ?_
  refine En_callV rfl rfl rfl rfl rfl rfl rfl rfl (by decide +kernel : TG 159 = 35) (by decide +kernel) rfl (c_237 σ4 h5 z10 h11) (by decide) (by decide) (fun v25 σ26 h24 => ?_)
  obtain ⟨h27, h28, z30, rfl, h29⟩ := h24
  obtain rfl : σ4 = σ26 := Fr_nil h28
  refine En_iEq _ rfl rfl (fun h31 => ?_) (fun h31 => ?_)
  · have h32 := Imp_m h29.2.2.2 (by omega)
    have h33 : gRl1 By Nb (tV By Nb Sp.2.2.1) S17 = S17 := by unfold gRl1; (repeat' split) <;> first | rfl | (exfalso; omega) | ((try have i0 := Imp_m h22 (by omega)); (try have i1 := Imp_m h21 (by omega)); exfalso; omega)
    refine En_Ps 1 (pc' := 37) (lv' := [(2, .int z12), (0, .ref 159), (1, .int a)]) (st' := [.ref 159]) rfl ?_
    refine En_callV rfl rfl rfl rfl rfl rfl rfl rfl (by decide +kernel : TG 159 = 35) (by decide +kernel) rfl (c_234x σ4 h5 z8 h9 z10 h11 h19) (by decide) (by decide) (fun v35 σ36 h34 => ?_)
    obtain ⟨h37, h38, z40, h41, z42, h43, z44, rfl, h39⟩ := h34
    have h45 := h39.2.2.2.2.2.2.2.2.2.2.2.2.2.2.2.2.2.2
    have h46 := Fr_trans h14 h38 (by decide +kernel)
    have h47 := KR_fr h15 h38 (by decide +kernel)
    have h48 : tN By Nb 0 (pI (S17.2.2.2 0) - 1) S17 = tN By Nb 0 (pI (Sp.2.2.2 0) - 1) S17 := tN_cg rfl (by first | rfl | simp only [h23] | rfl)
    obtain ⟨S49, h50⟩ : ∃ q : PS, q = tN By Nb 0 (pI (Sp.2.2.2 0) - 1) S17 := ⟨_, rfl⟩
    have h51 : ML By Nb σ36 S49 := by rw [h50]; exact (ML_eq h45.1 h48)
    have h52 := ML_k h51 h43
    have h53 : Imp (S49.1 = 0) (z44.toInt = tV By Nb S17.2.2.1) := fun z => h45.2 (by rw [h48, ← h50]; exact z)
    have h54 : Imp (S49.1 = 0) (S17.1 = 0 ∧ tK By Nb S17.2.2.1 = 2 ∧ 0 ≤ tV By Nb S17.2.2.1 ∧ tV By Nb S17.2.2.1 ≤ pI (Sp.2.2.2 0) - 1) := fun z => tN_gg (by rw [← h50]; exact z)
    have h55 : S49.2.2.2 = S17.2.2.2 := by rw [h50]; exact tN_w
    refine En_Ps 2 (pc' := 42) (lv' := [(3, .int z44), (2, .int z12), (0, .ref 159), (1, .int a)]) (st' := [.ref 159]) rfl ?_
    refine En_callV rfl rfl rfl rfl rfl rfl rfl rfl (by decide +kernel : TG 159 = 35) (by decide +kernel) rfl (c_237 σ36 h37 z42 h43) (by decide) (by decide) (fun v57 σ58 h56 => ?_)
    obtain ⟨h59, h60, z62, rfl, h61⟩ := h56
    obtain rfl : σ36 = σ58 := Fr_nil h60
    refine En_iNe _ rfl rfl (fun hx => by exfalso; omega) (fun h63 => ?_)
    have h64 := Imp_m h61.2.2.2 (by omega)
    exact En_ret (v := none) rfl rfl rfl ⟨h37, h46, z40, h41, z42, h43, rfl, ⟨by omega, by omega, by omega, by omega, by omega, by omega, by omega, by omega, by omega, by omega, by omega, by omega, by omega, fun _ => by omega, ⟨h47, ML_eq h51 (by unfold gRule; dsimp only; rw [← h18, h33, ← h50]; first | done | rfl | (rw [if_pos (by omega)]; first | done | rfl) | (rw [if_neg (by omega)]; first | done | rfl))⟩⟩⟩
  · have h65 := Imp_m h29.2.2.1 (by omega)
    have h66 := Imp_m h7.2.2.2.2.2.2.2.2.2.2.2.2.2.2.2.2.2.1 (by omega)
    obtain ⟨z68, h67, h69, h70⟩ := WT_peekI h5 (by decide +kernel : TG 159 = 35) (by decide +kernel : FT 35 10 = (0, 0, 4)) (by decide +kernel)
    obtain ⟨z72, h71, h73, h74⟩ := WT_peekI h5 (by decide +kernel : TG 159 = 35) (by decide +kernel : FT 35 11 = (0, 0, 99999)) (by decide +kernel)
    have h75 := ML_k h19 h11
    have h76 : Imp (S17.1 = 0) (tK By Nb S17.2.2.1 = z68.toInt) := ML_t h19 h67
    have h77 : Imp (S17.1 = 0 ∧ tK By Nb S17.2.2.1 = 2) (z72.toInt = min 99999 (tV By Nb S17.2.2.1) ∧ 0 ≤ tV By Nb S17.2.2.1) := fun q => ML_u h19 h71 q.1 q.2
    try have h78 := Imp_m h76 (by omega)
    try have h79 := Imp_m h22 (by omega)
    try have h80 := Imp_m h21 (by omega)
    try have h81 := Imp_m h77 (by omega)
    refine En_Ps 1 (pc' := 13) (lv' := [(2, .int z12), (0, .ref 159), (1, .int a)]) (st' := [.ref 159]) rfl ?_
    refine En_getK (j := 10) h67 rfl rfl rfl (by decide +kernel : TG 159 = 35) (by decide +kernel) ?_
    refine En_Ps 1 (pc' := 17) (lv' := [(2, .int z12), (0, .ref 159), (1, .int a)]) (st' := [.int ((Int32.ofInt 2)), .int z68]) rfl ?_
    refine En_icNe _ rfl (by decide : (Int32.ofInt 2).toInt = 2) rfl (fun h82 => ?_) (fun h82 => ?_)
    · have h83 : gRl1 By Nb (tV By Nb Sp.2.2.1) S17 = S17 := by unfold gRl1; (repeat' split) <;> first | rfl | (exfalso; omega) | ((try have i0 := Imp_m h76 (by omega)); (try have i1 := Imp_m h22 (by omega)); (try have i2 := Imp_m h21 (by omega)); (try have i3 := Imp_m h77 (by omega)); exfalso; omega)
      refine En_Ps 1 (pc' := 37) (lv' := [(2, .int z12), (0, .ref 159), (1, .int a)]) (st' := [.ref 159]) rfl ?_
      refine En_callV rfl rfl rfl rfl rfl rfl rfl rfl (by decide +kernel : TG 159 = 35) (by decide +kernel) rfl (c_234x σ4 h5 z8 h9 z10 h11 h19) (by decide) (by decide) (fun v85 σ86 h84 => ?_)
      obtain ⟨h87, h88, z90, h91, z92, h93, z94, rfl, h89⟩ := h84
      have h95 := h89.2.2.2.2.2.2.2.2.2.2.2.2.2.2.2.2.2.2
      have h96 := Fr_trans h14 h88 (by decide +kernel)
      have h97 := KR_fr h15 h88 (by decide +kernel)
      have h98 : tN By Nb 0 (pI (S17.2.2.2 0) - 1) S17 = tN By Nb 0 (pI (Sp.2.2.2 0) - 1) S17 := tN_cg rfl (by first | rfl | simp only [h23] | rfl)
      obtain ⟨S99, h100⟩ : ∃ q : PS, q = tN By Nb 0 (pI (Sp.2.2.2 0) - 1) S17 := ⟨_, rfl⟩
      have h101 : ML By Nb σ86 S99 := by rw [h100]; exact (ML_eq h95.1 h98)
      have h102 := ML_k h101 h93
      have h103 : Imp (S99.1 = 0) (z94.toInt = tV By Nb S17.2.2.1) := fun z => h95.2 (by rw [h98, ← h100]; exact z)
      have h104 : Imp (S99.1 = 0) (S17.1 = 0 ∧ tK By Nb S17.2.2.1 = 2 ∧ 0 ≤ tV By Nb S17.2.2.1 ∧ tV By Nb S17.2.2.1 ≤ pI (Sp.2.2.2 0) - 1) := fun z => tN_gg (by rw [← h100]; exact z)
      have h105 : S99.2.2.2 = S17.2.2.2 := by rw [h100]; exact tN_w
      refine En_Ps 2 (pc' := 42) (lv' := [(3, .int z94), (2, .int z12), (0, .ref 159), (1, .int a)]) (st' := [.ref 159]) rfl ?_
      refine En_callV rfl rfl rfl rfl rfl rfl rfl rfl (by decide +kernel : TG 159 = 35) (by decide +kernel) rfl (c_237 σ86 h87 z92 h93) (by decide) (by decide) (fun v107 σ108 h106 => ?_)
      obtain ⟨h109, h110, z112, rfl, h111⟩ := h106
      obtain rfl : σ86 = σ108 := Fr_nil h110
      refine En_iNe _ rfl rfl (fun h113 => ?_) (fun h113 => ?_)
      · have h114 := Imp_m h111.2.2.1 (by omega)
        have h115 := Imp_m h89.2.2.2.2.2.2.2.2.2.2.2.2.2.2.2.2.2.1 (by omega)
        have h116 : S99.1 = 0 := by omega
        have h117 := Imp_m h103 h116
        have h118 := Imp_m h104 h116
        have h119 := Imp_m h21 h118.1
        have h120 := Imp_m h22 h118.1
        have h121 := Imp_m h76 h118.1
        have h122 := Imp_m h77 ⟨h118.1, h118.2.1⟩
        refine En_Ps 1 (pc' := 50) (lv' := [(3, .int z94), (2, .int z12), (0, .ref 159), (1, .int a)]) (st' := [.ref 159]) rfl ?_
        refine En_getU (j := 14) (u := 165) (g' := 41) (q := 0) rfl rfl rfl (by decide +kernel : TG 159 = 35) (by decide +kernel) h87 (by decide +kernel) (by decide +kernel) (fun h123 => ?_)
        refine En_Ps 2 (pc' := 55) (lv' := [(3, .int z94), (2, .int z12), (0, .ref 159), (1, .int a)]) (st' := [.int z12, .int a, .ref 165]) rfl ?_
        refine En_iast (l := 0) (u := 15) rfl rfl (by decide +kernel : TG 165 = 41) (by decide +kernel) (by omega) (lnI (by decide +kernel : LN _ = 226) (by omega)) (FTrow 41 146 1 7 (by decide +kernel) (by omega) (by omega) (by omega)) (rngI rfl (by omega) (by omega)) h87 h96 (by decide +kernel) (fun σ125 h126 h127 h128 h129 => ?_)
        have h130 := KR_st h97 (J := a.toInt) h129 (by omega)
        obtain ⟨S131, h132⟩ : ∃ q : PS, q = wst S99 (a.toInt) ((tV By Nb Sp.2.2.1)) := ⟨_, rfl⟩
        have h133 : ML By Nb σ125 S131 := by rw [h132]; exact (ML_wst (i := a.toInt) (v := (tV By Nb Sp.2.2.1)) h101 h128 h129 (by omega) (fun z => by have j1 := Imp_m h103 z; have j2 := Imp_m h104 z; have j3 := Imp_m h21 j2.1; have j4 := Imp_m h22 j2.1; have j5 := Imp_m h76 j2.1; have j6 := Imp_m h77 ⟨j2.1, j2.2.1⟩; exact ⟨by omega, by omega⟩))
        have h134 := ML_k h133 ((h129 _ _ (Or.inl (neTG (by decide +kernel : TG 159 = 35) (by decide +kernel : TG 165 = 41) (by decide)))).trans h93)
        have h135 : S131.1 = S99.1 := by rw [h132]; rfl
        refine En_Ps 1 (pc' := 57) (lv' := [(3, .int z94), (2, .int z12), (0, .ref 159), (1, .int a)]) (st' := [.ref 159]) rfl ?_
        refine En_getK (j := 14) ((h129 _ _ (Or.inl (neTG (by decide +kernel : TG 159 = 35) (by decide +kernel : TG 165 = 41) (by decide)))).trans h123) rfl rfl rfl (by decide +kernel : TG 159 = 35) (by decide +kernel) ?_
        refine En_Ps 3 (pc' := 63) (lv' := [(3, .int z94), (2, .int z12), (0, .ref 159), (1, .int a)]) (st' := [.int ((a + ((Int32.ofInt 1)))), .ref 165]) rfl ?_
        refine En_top (addI rfl (by decide : (Int32.ofInt 1).toInt = 1) (by omega) (by omega)) (fun z136 h137 => ?_)
        refine En_Ps 1 (pc' := 64) (lv' := [(3, .int z94), (2, .int z12), (0, .ref 159), (1, .int a)]) (st' := [.int z94, .int z136, .ref 165]) rfl ?_
        refine En_iast (l := 0) (u := 15) rfl rfl (by decide +kernel : TG 165 = 41) (by decide +kernel) (by omega) (lnI (by decide +kernel : LN _ = 226) (by omega)) (FTrow 41 147 1 7 (by decide +kernel) (by omega) (by omega) (by omega)) (rngI rfl (by omega) (by omega)) h126 h127 (by decide +kernel) (fun σ138 h139 h140 h141 h142 => ?_)
        have h143 := KR_st h130 (J := z136.toInt) h142 (by omega)
        obtain ⟨S144, h145⟩ : ∃ q : PS, q = wst S131 (a.toInt + 1) ((tV By Nb S17.2.2.1)) := ⟨_, rfl⟩
        have h146 : ML By Nb σ138 S144 := by rw [h145]; exact (ML_wst (i := a.toInt + 1) (v := (tV By Nb S17.2.2.1)) h133 h141 h142 (by omega) (fun z => by have j1 := h135.symm.trans z; have j2 := Imp_m h103 j1; have j3 := Imp_m h104 j1; have j4 := Imp_m h21 j3.1; have j5 := Imp_m h22 j3.1; have j6 := Imp_m h76 j3.1; have j7 := Imp_m h77 ⟨j3.1, j3.2.1⟩; exact ⟨by omega, by omega⟩))
        have h147 := ML_k h146 ((h142 _ _ (Or.inl (neTG (by decide +kernel : TG 159 = 35) (by decide +kernel : TG 165 = 41) (by decide)))).trans ((h129 _ _ (Or.inl (neTG (by decide +kernel : TG 159 = 35) (by decide +kernel : TG 165 = 41) (by decide)))).trans h93))
        have h148 : S144.1 = S131.1 := by rw [h145]; rfl
        exact En_ret (v := none) rfl rfl rfl ⟨h139, h140, z90, ((h142 _ _ (Or.inl (neTG (by decide +kernel : TG 159 = 35) (by decide +kernel : TG 165 = 41) (by decide)))).trans ((h129 _ _ (Or.inl (neTG (by decide +kernel : TG 159 = 35) (by decide +kernel : TG 165 = 41) (by decide)))).trans h91)), z92, ((h142 _ _ (Or.inl (neTG (by decide +kernel : TG 159 = 35) (by decide +kernel : TG 165 = 41) (by decide)))).trans ((h129 _ _ (Or.inl (neTG (by decide +kernel : TG 159 = 35) (by decide +kernel : TG 165 = 41) (by decide)))).trans h93)), rfl, ⟨by omega, by omega, by omega, by omega, by omega, by omega, by omega, by omega, by omega, by omega, by omega, by omega, by omega, fun _ => by omega, ⟨h143, ML_eq h146 (by unfold gRule; dsimp only; rw [← h18, h83, ← h100, ← h132, ← h145]; first | done | rfl | (rw [if_pos (by omega)]; first | done | rfl) | (rw [if_neg (by omega)]; first | done | rfl))⟩⟩⟩
      · have h149 := Imp_m h111.2.2.2 (by omega)
        exact En_ret (v := none) rfl rfl rfl ⟨h87, h96, z90, h91, z92, h93, rfl, ⟨by omega, by omega, by omega, by omega, by omega, by omega, by omega, by omega, by omega, by omega, by omega, by omega, by omega, fun _ => by omega, ⟨h97, ML_eq h101 (by unfold gRule; dsimp only; rw [← h18, h83, ← h100]; first | done | rfl | (rw [if_pos (by omega)]; first | done | rfl) | (rw [if_neg (by omega)]; first | done | rfl))⟩⟩⟩
    · have h150 : S17.1 = 0 := by omega
      have h151 := Imp_m h76 h150
      have h152 : tK By Nb S17.2.2.1 = 2 := by omega
      have h153 := Imp_m h21 h150
      have h154 := Imp_m h22 h150
      have h155 := Imp_m h76 h150
      have h156 := Imp_m h77 ⟨h150, h152⟩
      refine En_Ps 1 (pc' := 21) (lv' := [(2, .int z12), (0, .ref 159), (1, .int a)]) (st' := [.ref 159]) rfl ?_
      refine En_getK (j := 11) h71 rfl rfl rfl (by decide +kernel : TG 159 = 35) (by decide +kernel) ?_
      have h157 : sbI (z72.toInt) (z12.toInt) = sbI (min 99999 (tV By Nb S17.2.2.1)) (tV By Nb Sp.2.2.1) := sbI_cg (by omega) (by omega)
      refine En_Ps 3 (pc' := 27) (lv' := [(2, .int z12), (0, .ref 159), (1, .int a)]) (st' := [.int ((z12 ^^^ ((Int32.ofInt (-1))))), .int z72]) rfl ?_
      refine En_nam (fun z158 h159 => ?_)
      refine En_Ps 1 (pc' := 28) (lv' := [(2, .int z12), (0, .ref 159), (1, .int a)]) (st' := [.int ((z72 &&& z158))]) rfl ?_
      refine En_nam (fun z160 h161 => ?_)
      obtain ⟨h162, h163⟩ := andn_rng h161 rfl (by omega) (by omega : _ ≤ (99999 : Int))
      refine En_iEq _ rfl rfl (fun h164 => ?_) (fun h164 => ?_)
      · obtain ⟨h165, h166⟩ := andn_zero h161 h159 h164 rfl rfl (by omega)
        have := sub_sbw h161 h159 rfl rfl (by omega) (by omega) (by omega)
        have h167 : gRl1 By Nb (tV By Nb Sp.2.2.1) S17 = S17 := by unfold gRl1; (repeat' split) <;> first | rfl | (exfalso; omega) | ((try have i0 := Imp_m h76 (by omega)); (try have i1 := Imp_m h22 (by omega)); (try have i2 := Imp_m h21 (by omega)); (try have i3 := Imp_m h77 (by omega)); exfalso; omega)
        refine En_Ps 1 (pc' := 37) (lv' := [(2, .int z12), (0, .ref 159), (1, .int a)]) (st' := [.ref 159]) rfl ?_
        refine En_callV rfl rfl rfl rfl rfl rfl rfl rfl (by decide +kernel : TG 159 = 35) (by decide +kernel) rfl (c_234x σ4 h5 z8 h9 z10 h11 h19) (by decide) (by decide) (fun v169 σ170 h168 => ?_)
        obtain ⟨h171, h172, z174, h175, z176, h177, z178, rfl, h173⟩ := h168
        have h179 := h173.2.2.2.2.2.2.2.2.2.2.2.2.2.2.2.2.2.2
        have h180 := Fr_trans h14 h172 (by decide +kernel)
        have h181 := KR_fr h15 h172 (by decide +kernel)
        have h182 : tN By Nb 0 (pI (S17.2.2.2 0) - 1) S17 = tN By Nb 0 (pI (Sp.2.2.2 0) - 1) S17 := tN_cg rfl (by first | rfl | simp only [h23] | rfl)
        obtain ⟨S183, h184⟩ : ∃ q : PS, q = tN By Nb 0 (pI (Sp.2.2.2 0) - 1) S17 := ⟨_, rfl⟩
        have h185 : ML By Nb σ170 S183 := by rw [h184]; exact (ML_eq h179.1 h182)
        have h186 := ML_k h185 h177
        have h187 : Imp (S183.1 = 0) (z178.toInt = tV By Nb S17.2.2.1) := fun z => h179.2 (by rw [h182, ← h184]; exact z)
        have h188 : Imp (S183.1 = 0) (S17.1 = 0 ∧ tK By Nb S17.2.2.1 = 2 ∧ 0 ≤ tV By Nb S17.2.2.1 ∧ tV By Nb S17.2.2.1 ≤ pI (Sp.2.2.2 0) - 1) := fun z => tN_gg (by rw [← h184]; exact z)
        have h189 : S183.2.2.2 = S17.2.2.2 := by rw [h184]; exact tN_w
        refine En_Ps 2 (pc' := 42) (lv' := [(3, .int z178), (2, .int z12), (0, .ref 159), (1, .int a)]) (st' := [.ref 159]) rfl ?_
        refine En_callV rfl rfl rfl rfl rfl rfl rfl rfl (by decide +kernel : TG 159 = 35) (by decide +kernel) rfl (c_237 σ170 h171 z176 h177) (by decide) (by decide) (fun v191 σ192 h190 => ?_)
        obtain ⟨h193, h194, z196, rfl, h195⟩ := h190
        obtain rfl : σ170 = σ192 := Fr_nil h194
        refine En_iNe _ rfl rfl (fun h197 => ?_) (fun h197 => ?_)
        · have h198 := Imp_m h195.2.2.1 (by omega)
          have h199 := Imp_m h173.2.2.2.2.2.2.2.2.2.2.2.2.2.2.2.2.2.1 (by omega)
          have h200 : S183.1 = 0 := by omega
          have h201 := Imp_m h187 h200
          have h202 := Imp_m h188 h200
          have h203 := Imp_m h21 h202.1
          have h204 := Imp_m h22 h202.1
          have h205 := Imp_m h76 h202.1
          have h206 := Imp_m h77 ⟨h202.1, h202.2.1⟩
          refine En_Ps 1 (pc' := 50) (lv' := [(3, .int z178), (2, .int z12), (0, .ref 159), (1, .int a)]) (st' := [.ref 159]) rfl ?_
          refine En_getU (j := 14) (u := 165) (g' := 41) (q := 0) rfl rfl rfl (by decide +kernel : TG 159 = 35) (by decide +kernel) h171 (by decide +kernel) (by decide +kernel) (fun h207 => ?_)
          refine En_Ps 2 (pc' := 55) (lv' := [(3, .int z178), (2, .int z12), (0, .ref 159), (1, .int a)]) (st' := [.int z12, .int a, .ref 165]) rfl ?_
          refine En_iast (l := 0) (u := 15) rfl rfl (by decide +kernel : TG 165 = 41) (by decide +kernel) (by omega) (lnI (by decide +kernel : LN _ = 226) (by omega)) (FTrow 41 146 1 7 (by decide +kernel) (by omega) (by omega) (by omega)) (rngI rfl (by omega) (by omega)) h171 h180 (by decide +kernel) (fun σ209 h210 h211 h212 h213 => ?_)
          have h214 := KR_st h181 (J := a.toInt) h213 (by omega)
          obtain ⟨S215, h216⟩ : ∃ q : PS, q = wst S183 (a.toInt) ((tV By Nb Sp.2.2.1)) := ⟨_, rfl⟩
          have h217 : ML By Nb σ209 S215 := by rw [h216]; exact (ML_wst (i := a.toInt) (v := (tV By Nb Sp.2.2.1)) h185 h212 h213 (by omega) (fun z => by have j1 := Imp_m h187 z; have j2 := Imp_m h188 z; have j3 := Imp_m h21 j2.1; have j4 := Imp_m h22 j2.1; have j5 := Imp_m h76 j2.1; have j6 := Imp_m h77 ⟨j2.1, j2.2.1⟩; exact ⟨by omega, by omega⟩))
          have h218 := ML_k h217 ((h213 _ _ (Or.inl (neTG (by decide +kernel : TG 159 = 35) (by decide +kernel : TG 165 = 41) (by decide)))).trans h177)
          have h219 : S215.1 = S183.1 := by rw [h216]; rfl
          refine En_Ps 1 (pc' := 57) (lv' := [(3, .int z178), (2, .int z12), (0, .ref 159), (1, .int a)]) (st' := [.ref 159]) rfl ?_
          refine En_getK (j := 14) ((h213 _ _ (Or.inl (neTG (by decide +kernel : TG 159 = 35) (by decide +kernel : TG 165 = 41) (by decide)))).trans h207) rfl rfl rfl (by decide +kernel : TG 159 = 35) (by decide +kernel) ?_
          refine En_Ps 3 (pc' := 63) (lv' := [(3, .int z178), (2, .int z12), (0, .ref 159), (1, .int a)]) (st' := [.int ((a + ((Int32.ofInt 1)))), .ref 165]) rfl ?_
          refine En_top (addI rfl (by decide : (Int32.ofInt 1).toInt = 1) (by omega) (by omega)) (fun z220 h221 => ?_)
          refine En_Ps 1 (pc' := 64) (lv' := [(3, .int z178), (2, .int z12), (0, .ref 159), (1, .int a)]) (st' := [.int z178, .int z220, .ref 165]) rfl ?_
          refine En_iast (l := 0) (u := 15) rfl rfl (by decide +kernel : TG 165 = 41) (by decide +kernel) (by omega) (lnI (by decide +kernel : LN _ = 226) (by omega)) (FTrow 41 147 1 7 (by decide +kernel) (by omega) (by omega) (by omega)) (rngI rfl (by omega) (by omega)) h210 h211 (by decide +kernel) (fun σ222 h223 h224 h225 h226 => ?_)
          have h227 := KR_st h214 (J := z220.toInt) h226 (by omega)
          obtain ⟨S228, h229⟩ : ∃ q : PS, q = wst S215 (a.toInt + 1) ((tV By Nb S17.2.2.1)) := ⟨_, rfl⟩
          have h230 : ML By Nb σ222 S228 := by rw [h229]; exact (ML_wst (i := a.toInt + 1) (v := (tV By Nb S17.2.2.1)) h217 h225 h226 (by omega) (fun z => by have j1 := h219.symm.trans z; have j2 := Imp_m h187 j1; have j3 := Imp_m h188 j1; have j4 := Imp_m h21 j3.1; have j5 := Imp_m h22 j3.1; have j6 := Imp_m h76 j3.1; have j7 := Imp_m h77 ⟨j3.1, j3.2.1⟩; exact ⟨by omega, by omega⟩))
          have h231 := ML_k h230 ((h226 _ _ (Or.inl (neTG (by decide +kernel : TG 159 = 35) (by decide +kernel : TG 165 = 41) (by decide)))).trans ((h213 _ _ (Or.inl (neTG (by decide +kernel : TG 159 = 35) (by decide +kernel : TG 165 = 41) (by decide)))).trans h177))
          have h232 : S228.1 = S215.1 := by rw [h229]; rfl
          exact En_ret (v := none) rfl rfl rfl ⟨h223, h224, z174, ((h226 _ _ (Or.inl (neTG (by decide +kernel : TG 159 = 35) (by decide +kernel : TG 165 = 41) (by decide)))).trans ((h213 _ _ (Or.inl (neTG (by decide +kernel : TG 159 = 35) (by decide +kernel : TG 165 = 41) (by decide)))).trans h175)), z176, ((h226 _ _ (Or.inl (neTG (by decide +kernel : TG 159 = 35) (by decide +kernel : TG 165 = 41) (by decide)))).trans ((h213 _ _ (Or.inl (neTG (by decide +kernel : TG 159 = 35) (by decide +kernel : TG 165 = 41) (by decide)))).trans h177)), rfl, ⟨by omega, by omega, by omega, by omega, by omega, by omega, by omega, by omega, by omega, by omega, by omega, by omega, by omega, fun _ => by omega, ⟨h227, ML_eq h230 (by unfold gRule; dsimp only; rw [← h18, h167, ← h184, ← h216, ← h229]; first | done | rfl | (rw [if_pos (by omega)]; first | done | rfl) | (rw [if_neg (by omega)]; first | done | rfl))⟩⟩⟩
        · have h233 := Imp_m h195.2.2.2 (by omega)
          exact En_ret (v := none) rfl rfl rfl ⟨h171, h180, z174, h175, z176, h177, rfl, ⟨by omega, by omega, by omega, by omega, by omega, by omega, by omega, by omega, by omega, by omega, by omega, by omega, by omega, fun _ => by omega, ⟨h181, ML_eq h185 (by unfold gRule; dsimp only; rw [← h18, h167, ← h184]; first | done | rfl | (rw [if_pos (by omega)]; first | done | rfl) | (rw [if_neg (by omega)]; first | done | rfl))⟩⟩⟩
      · have := sub_sbw h161 h159 rfl rfl (by omega) (by omega) (by omega)
        refine En_Ps 2 (pc' := 33) (lv' := [(2, .int z12), (0, .ref 159), (1, .int a)]) (st' := [.int ((Int32.ofInt 2)), .ref 159]) rfl ?_
        have := (by decide : ((Int32.ofInt 2)).toInt = 2)
        refine En_callV rfl rfl rfl rfl rfl rfl rfl rfl (by decide +kernel : TG 159 = 35) (by decide +kernel) rfl (c_223x σ4 h5 ((Int32.ofInt 2)) (geI (by decide : (Int32.ofInt 2).toInt = 2) (by omega)) (leI (by decide : (Int32.ofInt 2).toInt = 2) (by omega)) z10 h11 h19) (by decide) (by decide) (fun v235 σ236 h234 => ?_)
        obtain ⟨h237, h238, z240, h241, rfl, h239⟩ := h234
        have h242 := h239.2.2.2.2.2
        have h243 := Fr_trans h14 h238 (by decide +kernel)
        have h244 := KR_fr h15 h238 (by decide +kernel)
        obtain ⟨S245, h246⟩ : ∃ q : PS, q = err By Nb 2 S17 := ⟨_, rfl⟩
        have h247 : ML By Nb σ236 S245 := by rw [h246]; exact (ML_eq h242 (err_cg (by omega)))
        have h248 := ML_k h247 h241
        have h249 : Imp (S245.1 = 0) (tK By Nb S245.2.2.1 = z68.toInt) := ML_t h247 ((h238 _ _ (inW (by decide +kernel : TG 159 = 35) (by decide +kernel))).trans h67)
        have h250 : Imp (S245.1 = 0 ∧ tK By Nb S245.2.2.1 = 2) (z72.toInt = min 99999 (tV By Nb S245.2.2.1) ∧ 0 ≤ tV By Nb S245.2.2.1) := fun q => ML_u h247 ((h238 _ _ (inW (by decide +kernel : TG 159 = 35) (by decide +kernel))).trans h71) q.1 q.2
        have h251 : S245.2.2.2 = S17.2.2.2 := by rw [h246]; exact err_w
        have h252 : gRl1 By Nb (tV By Nb Sp.2.2.1) S17 = S245 := by rw [h246]; unfold gRl1; (repeat' split) <;> first | rfl | (exfalso; omega) | ((try have i0 := Imp_m h249 (by omega)); (try have i1 := Imp_m h76 (by omega)); (try have i2 := Imp_m h22 (by omega)); (try have i3 := Imp_m h21 (by omega)); (try have i4 := Imp_m h77 (by omega)); (try have i5 := Imp_m h250 (by omega)); exfalso; omega)
        refine En_Ps 1 (pc' := 37) (lv' := [(2, .int z12), (0, .ref 159), (1, .int a)]) (st' := [.ref 159]) rfl ?_
        refine En_callV rfl rfl rfl rfl rfl rfl rfl rfl (by decide +kernel : TG 159 = 35) (by decide +kernel) rfl (c_234x σ236 h237 z8 ((h238 _ _ (inW (by decide +kernel : TG 159 = 35) (by decide +kernel))).trans h9) z240 h241 h247) (by decide) (by decide) (fun v254 σ255 h253 => ?_)
        obtain ⟨h256, h257, z259, h260, z261, h262, z263, rfl, h258⟩ := h253
        have h264 := h258.2.2.2.2.2.2.2.2.2.2.2.2.2.2.2.2.2.2
        have h265 := Fr_trans h243 h257 (by decide +kernel)
        have h266 := KR_fr h244 h257 (by decide +kernel)
        have h267 : tN By Nb 0 (pI (S245.2.2.2 0) - 1) S245 = tN By Nb 0 (pI (Sp.2.2.2 0) - 1) S245 := tN_cg rfl (by first | rfl | simp only [h23, h251] | rfl)
        obtain ⟨S268, h269⟩ : ∃ q : PS, q = tN By Nb 0 (pI (Sp.2.2.2 0) - 1) S245 := ⟨_, rfl⟩
        have h270 : ML By Nb σ255 S268 := by rw [h269]; exact (ML_eq h264.1 h267)
        have h271 := ML_k h270 h262
        have h272 : Imp (S268.1 = 0) (z263.toInt = tV By Nb S245.2.2.1) := fun z => h264.2 (by rw [h267, ← h269]; exact z)
        have h273 : Imp (S268.1 = 0) (S245.1 = 0 ∧ tK By Nb S245.2.2.1 = 2 ∧ 0 ≤ tV By Nb S245.2.2.1 ∧ tV By Nb S245.2.2.1 ≤ pI (Sp.2.2.2 0) - 1) := fun z => tN_gg (by rw [← h269]; exact z)
        have h274 : S268.2.2.2 = S245.2.2.2 := by rw [h269]; exact tN_w
        refine En_Ps 2 (pc' := 42) (lv' := [(3, .int z263), (2, .int z12), (0, .ref 159), (1, .int a)]) (st' := [.ref 159]) rfl ?_
        refine En_callV rfl rfl rfl rfl rfl rfl rfl rfl (by decide +kernel : TG 159 = 35) (by decide +kernel) rfl (c_237 σ255 h256 z261 h262) (by decide) (by decide) (fun v276 σ277 h275 => ?_)
        obtain ⟨h278, h279, z281, rfl, h280⟩ := h275
        obtain rfl : σ255 = σ277 := Fr_nil h279
        refine En_iNe _ rfl rfl (fun hx => by exfalso; omega) (fun h282 => ?_)
        have h283 := Imp_m h280.2.2.2 (by omega)
        exact En_ret (v := none) rfl rfl rfl ⟨h256, h265, z259, h260, z261, h262, rfl, ⟨by omega, by omega, by omega, by omega, by omega, by omega, by omega, by omega, by omega, by omega, by omega, by omega, by omega, fun _ => by omega, ⟨h266, ML_eq h270 (by unfold gRule; dsimp only; rw [← h18, h252, ← h269]; first | done | rfl | (rw [if_pos (by omega)]; first | done | rfl) | (rw [if_neg (by omega)]; first | done | rfl))⟩⟩⟩
/-- DoorSchoolModel.readNext()V -/
abbrev P_302x (σ0 : SG) (By : Int → Int) (Nb : Int) (Sp : PS) (f : Int32) (k : Int32) : PO := fun v σ => WT σ ∧ Fr [(35, 8), (35, 9), (35, 10), (35, 11), (35, 12), (35, 13), (41, 0)] σ0 σ ∧ ∃ f1 : Int32, (σ 159)[8]? = some (.int f1) ∧ ∃ k1 : Int32, (σ 159)[12]? = some (.int k1) ∧ v = none ∧ -f1.toInt ≤ 0 ∧ f1.toInt - 1600 ≤ 0 ∧ -f1.toInt + f.toInt ≤ 0 ∧ f1.toInt - f.toInt - 1600 ≤ 0 ∧ -f1.toInt + k.toInt - 3 ≤ 0 ∧ f1.toInt - k.toInt - 1600 ≤ 0 ∧ -k1.toInt ≤ 0 ∧ k1.toInt - 3 ≤ 0 ∧ -k1.toInt + f.toInt - 1600 ≤ 0 ∧ k1.toInt - f.toInt - 3 ≤ 0 ∧ -k1.toInt + k.toInt - 2 ≤ 0 ∧ k1.toInt - k.toInt - 3 ≤ 0 ∧ f.toInt - f1.toInt ≤ 0 ∧ Imp (k1.toInt ≤ 0) (k.toInt ≤ 0) ∧ (KF σ0 σ ∧ ML By Nb σ (gNext By Nb Sp))
set_option maxRecDepth 10000 in
set_option maxHeartbeats 4000000 in
theorem k_302x_219 {By : Int → Int} {Nb : Int} {Sp : PS} (σ0 : SG) (hσ0 : WT σ0) (f : Int32) (h_f : (σ0 159)[8]? = some (.int f)) (k : Int32) (h_k : (σ0 159)[12]? = some (.int k)) (hM : ML By Nb σ0 Sp) (hg : Sp.1 = 0) : ∀ (σ1 : SG) (y4 : Int32) (y8 : Int32) (y12 : Int32), WT σ1 → Fr [(35, 8), (35, 9), (35, 10), (35, 11), (35, 12), (35, 13), (41, 0)] σ0 σ1 → (σ1 165)[(3 : Int).toNat]? = some (.int y4) → 0 ≤ y4.toInt → y4.toInt ≤ 12 → (σ1 159)[12]? = some (.int y8) → 0 ≤ y8.toInt → y8.toInt ≤ 3 → (σ1 159)[8]? = some (.int y12) → 0 ≤ y12.toInt → y12.toInt ≤ 1600 → f.toInt - y12.toInt ≤ 0 → (y8.toInt ≤ 0 → k.toInt ≤ 0) → y8.toInt ≤ 0 → y4.toInt - 11 ≤ 0 → (iW By Nb 2 Sp) ≤ 0 ∧ -(iW By Nb 2 Sp) ≤ 0 → (iW By Nb 6 Sp) ≤ 0 ∧ -(iW By Nb 6 Sp) ≤ 0 → (iW By Nb 3 Sp) - 1 ≤ 0 ∧ -(iW By Nb 3 Sp) + 1 ≤ 0 → KF σ0 σ1 → ML By Nb σ1 (adv By Nb Sp) → gN2 By Nb (gN1 By Nb Sp) = Sp → En 9 200 none mr_302 (P_302x σ0 By Nb Sp f k) 219 [(0, .ref 159)] [] σ1 := by
  obtain ⟨hl_f, hu_f⟩ := WT_int hσ0 (g := 35) (by decide +kernel) (by decide +kernel) (l := 0) (u := 1600) (by decide +kernel) h_f
  obtain ⟨hl_k, hu_k⟩ := WT_int hσ0 (g := 35) (by decide +kernel) (by decide +kernel) (l := 0) (u := 3) (by decide +kernel) h_k
  have hF0 : Fr [(35, 8), (35, 9), (35, 10), (35, 11), (35, 12), (35, 13), (41, 0)] σ0 σ0 := Fr_rfl
  intro σ1 y4 y8 y12 h2 h3 h5 h6 h7 h9 h10 h11 h13 h14 h15 h16 h17 h18 h19 h20 h21 h22 h23 h24 h25
  have h26 : (adv By Nb Sp).1 = 0 := by rw [adv_1]; exact hg
  have h27 : (adv By Nb Sp).2.2.2 = Sp.2.2.2 := adv_w
  have h28 := ML_k h24 h9
  have h29 := ML_w h24 h26 h5 (by omega) (by omega)
  refine En_Ps 3 (pc' := 223) (lv' := [(0, .ref 159)]) (st' := [.ref 159, .int ((Int32.ofInt 2)), .int (((Int8.ofInt 122).toInt32))]) rfl ?_
  refine En_getU (j := 14) (u := 165) (g' := 41) (q := 0) rfl rfl rfl (by decide +kernel : TG 159 = 35) (by decide +kernel) h2 (by decide +kernel) (by decide +kernel) (fun h30 => ?_)
  refine En_Ps 1 (pc' := 227) (lv' := [(0, .ref 159)]) (st' := [.int ((Int32.ofInt 3)), .ref 165, .int ((Int32.ofInt 2)), .int (((Int8.ofInt 122).toInt32))]) rfl ?_
  refine En_ialdK h5 rfl (by decide : (Int32.ofInt 3).toInt = 3) (by decide +kernel : TG 165 = 41) (by decide +kernel) h2 (by omega) (lnI (by decide +kernel : LN _ = 226) (by omega)) ?_
  refine En_Ps 1 (pc' := 229) (lv' := [(0, .ref 159)]) (st' := [.int ((((Int32.ofInt 2)) * y4)), .int (((Int8.ofInt 122).toInt32))]) rfl ?_
  refine En_top (mulI (by decide : (Int32.ofInt 2).toInt = 2) rfl (Z := 2 * y4.toInt) (by omega) (by omega) (by omega)) (fun z33 h34 => ?_)
  refine En_Ps 1 (pc' := 230) (lv' := [(0, .ref 159)]) (st' := [.int (((((Int8.ofInt 122).toInt32)) + z33))]) rfl ?_
  refine En_top (addI (by decide : ((Int8.ofInt 122).toInt32).toInt = 122) rfl (by omega) (by omega)) (fun z35 h36 => ?_)
  refine En_Ps 2 (pc' := 232) (lv' := [(2, .int z35), (0, .ref 159)]) (st' := [.ref 159]) rfl ?_
  refine En_getK (j := 14) h30 rfl rfl rfl (by decide +kernel : TG 159 = 35) (by decide +kernel) ?_
  refine En_Ps 2 (pc' := 237) (lv' := [(2, .int z35), (0, .ref 159)]) (st' := [.ref 159, .int z35, .ref 165]) rfl ?_
  refine En_callV rfl rfl rfl rfl rfl rfl rfl rfl (by decide +kernel : TG 159 = 35) (by decide +kernel) rfl (c_234x σ1 h2 y12 h13 y8 h9 h24) (by decide) (by decide) (fun v38 σ39 h37 => ?_)
  obtain ⟨h40, h41, z43, h44, z45, h46, z47, rfl, h42⟩ := h37
  have h48 := h42.2.2.2.2.2.2.2.2.2.2.2.2.2.2.2.2.2.2
  have h49 := Fr_trans h3 h41 (by decide +kernel)
  have h50 := KF_fr h23 h41 (by decide +kernel)
  have h51 : tN By Nb 0 (pI ((adv By Nb Sp).2.2.2 0) - 1) (adv By Nb Sp) = tN By Nb 0 (pI ((adv By Nb Sp).2.2.2 0) - 1) (adv By Nb Sp) := tN_cg rfl (by first | rfl | simp only [h27] | rfl)
  obtain ⟨S52, h53⟩ : ∃ q : PS, q = tN By Nb 0 (pI ((adv By Nb Sp).2.2.2 0) - 1) (adv By Nb Sp) := ⟨_, rfl⟩
  have h54 : ML By Nb σ39 S52 := by rw [h53]; exact (ML_eq h48.1 h51)
  have h55 := ML_k h54 h46
  have h56 : Imp (S52.1 = 0) (z47.toInt = tV By Nb (adv By Nb Sp).2.2.1) := fun z => h48.2 (by rw [h51, ← h53]; exact z)
  have h57 : Imp (S52.1 = 0) ((adv By Nb Sp).1 = 0 ∧ tK By Nb (adv By Nb Sp).2.2.1 = 2 ∧ 0 ≤ tV By Nb (adv By Nb Sp).2.2.1 ∧ tV By Nb (adv By Nb Sp).2.2.1 ≤ pI ((adv By Nb Sp).2.2.2 0) - 1) := fun z => tN_gg (by rw [← h53]; exact z)
  have h58 : S52.2.2.2 = (adv By Nb Sp).2.2.2 := by rw [h53]; exact tN_w
  refine En_iast (l := 0) (u := 15) rfl rfl (by decide +kernel : TG 165 = 41) (by decide +kernel) (by omega) (lnI (by decide +kernel : LN _ = 226) (by omega)) (FTrow 41 122 2 12 (by decide +kernel) (by omega) (by omega) (by omega)) (rngI rfl (by omega) (by omega)) h40 h49 (by decide +kernel) (fun σ59 h60 h61 h62 h63 => ?_)
  have h64 := KF_st h50 (J := z35.toInt) h63 (by omega) (by omega)
  obtain ⟨S65, h66⟩ : ∃ q : PS, q = wst S52 (122 + 2 * (adv By Nb Sp).2.2.2 3) ((tV By Nb (adv By Nb Sp).2.2.1)) := ⟨_, rfl⟩
  have h67 : ML By Nb σ59 S65 := by rw [h66]; exact (ML_wst (i := 122 + 2 * (adv By Nb Sp).2.2.2 3) (v := (tV By Nb (adv By Nb Sp).2.2.1)) h54 h62 h63 (by omega) (fun z => by have j1 := Imp_m h56 z; have j2 := Imp_m h57 z; exact ⟨by omega, by omega⟩))
  have h68 := ML_k h67 ((h63 _ _ (Or.inl (neTG (by decide +kernel : TG 159 = 35) (by decide +kernel : TG 165 = 41) (by decide)))).trans h46)
  have h69 : S65.1 = S52.1 := by rw [h66]; rfl
  refine En_Ps 1 (pc' := 242) (lv' := [(2, .int z35), (0, .ref 159)]) (st' := [.ref 159]) rfl ?_
  refine En_getK (j := 14) ((h63 _ _ (Or.inl (neTG (by decide +kernel : TG 159 = 35) (by decide +kernel : TG 165 = 41) (by decide)))).trans ((h41 _ _ (inW (by decide +kernel : TG 159 = 35) (by decide +kernel))).trans h30)) rfl rfl rfl (by decide +kernel : TG 159 = 35) (by decide +kernel) ?_
  refine En_Ps 3 (pc' := 248) (lv' := [(2, .int z35), (0, .ref 159)]) (st' := [.int ((z35 + ((Int32.ofInt 1)))), .ref 165]) rfl ?_
  refine En_top (addI rfl (by decide : (Int32.ofInt 1).toInt = 1) (by omega) (by omega)) (fun z70 h71 => ?_)
  refine En_Ps 1 (pc' := 249) (lv' := [(2, .int z35), (0, .ref 159)]) (st' := [.ref 159, .int z70, .ref 165]) rfl ?_
  refine En_callV rfl rfl rfl rfl rfl rfl rfl rfl (by decide +kernel : TG 159 = 35) (by decide +kernel) rfl (c_209x σ59 h60 z43 ((h63 _ _ (Or.inl (neTG (by decide +kernel : TG 159 = 35) (by decide +kernel : TG 165 = 41) (by decide)))).trans h44) z45 ((h63 _ _ (Or.inl (neTG (by decide +kernel : TG 159 = 35) (by decide +kernel : TG 165 = 41) (by decide)))).trans h46) h67) (by decide) (by decide) (fun v73 σ74 h72 => ?_)
  obtain ⟨h75, h76, z78, h79, z80, h81, z82, rfl, h77⟩ := h72
  have h83 := h77.2.2.2.2.2.2.2.2.2.2.2.2.2.2.2.2
  have h84 := Fr_trans h61 h76 (by decide +kernel)
  have h85 := KF_fr h64 h76 (by decide +kernel)
  obtain ⟨S86, h87⟩ : ∃ q : PS, q = gDeed By Nb S65 := ⟨_, rfl⟩
  have h88 : ML By Nb σ74 S86 := by rw [h87]; exact h83.1
  have h89 := ML_k h88 h81
  have h90 : z82.toInt = iW By Nb 8 S65 := h83.2
  have h91 : S86.2.2.2 = S65.2.2.2 := by rw [h87]; exact gDeed_w
  have h92 : Imp (S86.1 = 0) (S65.1 = 0) := fun z => gDeed_g (by rw [← h87]; exact z)
  refine En_iast (l := 0) (u := 1) rfl rfl (by decide +kernel : TG 165 = 41) (by decide +kernel) (by omega) (lnI (by decide +kernel : LN _ = 226) (by omega)) (FTrow 41 123 2 12 (by decide +kernel) (by omega) (by omega) (by omega)) (rngI rfl (by omega) (by omega)) h75 h84 (by decide +kernel) (fun σ93 h94 h95 h96 h97 => ?_)
  have h98 := KF_st h85 (J := z70.toInt) h97 (by omega) (by omega)
  obtain ⟨S99, h100⟩ : ∃ q : PS, q = wst S86 (122 + 2 * (adv By Nb Sp).2.2.2 3 + 1) ((iW By Nb 8 S65)) := ⟨_, rfl⟩
  have h101 : ML By Nb σ93 S99 := by rw [h100]; exact (ML_wst (i := 122 + 2 * (adv By Nb Sp).2.2.2 3 + 1) (v := (iW By Nb 8 S65)) h88 h96 h97 (by omega) (fun z => by have j1 := Imp_m h92 z; have j2 := h69.symm.trans j1; have j3 := Imp_m h56 j2; have j4 := Imp_m h57 j2; exact ⟨by omega, by omega⟩))
  have h102 := ML_k h101 ((h97 _ _ (Or.inl (neTG (by decide +kernel : TG 159 = 35) (by decide +kernel : TG 165 = 41) (by decide)))).trans h81)
  have h103 : S99.1 = S86.1 := by rw [h100]; rfl
  refine En_Ps 1 (pc' := 254) (lv' := [(2, .int z35), (0, .ref 159)]) (st' := [.ref 159]) rfl ?_
  refine En_getK (j := 14) ((h97 _ _ (Or.inl (neTG (by decide +kernel : TG 159 = 35) (by decide +kernel : TG 165 = 41) (by decide)))).trans ((h76 _ _ (inW (by decide +kernel : TG 159 = 35) (by decide +kernel))).trans ((h63 _ _ (Or.inl (neTG (by decide +kernel : TG 159 = 35) (by decide +kernel : TG 165 = 41) (by decide)))).trans ((h41 _ _ (inW (by decide +kernel : TG 159 = 35) (by decide +kernel))).trans h30)))) rfl rfl rfl (by decide +kernel : TG 159 = 35) (by decide +kernel) ?_
  refine En_Ps 2 (pc' := 259) (lv' := [(2, .int z35), (0, .ref 159)]) (st' := [.int ((Int32.ofInt 3)), .ref 165, .int ((Int32.ofInt 3)), .ref 165]) rfl ?_
  refine En_ialdK ((h97 _ _ (Or.inr (by omega))).trans ((h76 _ _ (inWa (by decide +kernel : TG 165 = 41) (by decide +kernel))).trans ((h63 _ _ (Or.inr (by omega))).trans ((h41 _ _ (inWa (by decide +kernel : TG 165 = 41) (by decide +kernel))).trans h5)))) rfl (by decide : (Int32.ofInt 3).toInt = 3) (by decide +kernel : TG 165 = 41) (by decide +kernel) h94 (by omega) (lnI (by decide +kernel : LN _ = 226) (by omega)) ?_
  refine En_Ps 2 (pc' := 262) (lv' := [(2, .int z35), (0, .ref 159)]) (st' := [.int ((y4 + ((Int32.ofInt 1)))), .int ((Int32.ofInt 3)), .ref 165]) rfl ?_
  refine En_top (addI rfl (by decide : (Int32.ofInt 1).toInt = 1) (by omega) (by omega)) (fun z105 h106 => ?_)
  refine En_iast (l := 0) (u := 12) rfl (by decide : (Int32.ofInt 3).toInt = 3) (by decide +kernel : TG 165 = 41) (by decide +kernel) (by omega) (lnI (by decide +kernel : LN _ = 226) (by omega)) (by decide +kernel) (rngI rfl (by omega) (by omega)) h94 h95 (by decide +kernel) (fun σ107 h108 h109 h110 h111 => ?_)
  have h112 := KF_st h98 (J := 3) h111 (by omega) (by omega)
  obtain ⟨S113, h114⟩ : ∃ q : PS, q = wst S99 (3) ((adv By Nb Sp).2.2.2 3 + 1) := ⟨_, rfl⟩
  have h115 : ML By Nb σ107 S113 := by rw [h114]; exact (ML_wst (i := 3) (v := (adv By Nb Sp).2.2.2 3 + 1) h101 h110 h111 (by omega) (fun z => by have j1 := h103.symm.trans z; have j2 := Imp_m h92 j1; have j3 := h69.symm.trans j2; have j4 := Imp_m h56 j3; have j5 := Imp_m h57 j3; exact ⟨by omega, by omega⟩))
  have h116 := ML_k h115 ((h111 _ _ (Or.inl (neTG (by decide +kernel : TG 159 = 35) (by decide +kernel : TG 165 = 41) (by decide)))).trans ((h97 _ _ (Or.inl (neTG (by decide +kernel : TG 159 = 35) (by decide +kernel : TG 165 = 41) (by decide)))).trans h81))
  have h117 : S113.1 = S99.1 := by rw [h114]; rfl
  refine En_Ps 1 (pc' := 447) (lv' := [(2, .int z35), (0, .ref 159)]) (st' := []) rfl ?_
  exact En_ret (v := none) rfl rfl rfl ⟨h108, h109, z78, ((h111 _ _ (Or.inl (neTG (by decide +kernel : TG 159 = 35) (by decide +kernel : TG 165 = 41) (by decide)))).trans ((h97 _ _ (Or.inl (neTG (by decide +kernel : TG 159 = 35) (by decide +kernel : TG 165 = 41) (by decide)))).trans h79)), z80, ((h111 _ _ (Or.inl (neTG (by decide +kernel : TG 159 = 35) (by decide +kernel : TG 165 = 41) (by decide)))).trans ((h97 _ _ (Or.inl (neTG (by decide +kernel : TG 159 = 35) (by decide +kernel : TG 165 = 41) (by decide)))).trans h81)), rfl, ⟨by omega, by omega, by omega, by omega, by omega, by omega, by omega, by omega, by omega, by omega, by omega, by omega, by omega, fun _ => by omega, ⟨h112, ML_eq h115 (by subst h114; subst h100; subst h87; subst h66; subst h53; rw [gNx_3 h25 hg (by omega) (by omega) (by omega)]; unfold gExam; (try dsimp only); first | done | rfl)⟩⟩⟩
set_option maxRecDepth 10000 in
set_option maxHeartbeats 4000000 in
theorem k_302x_309 {By : Int → Int} {Nb : Int} {Sp : PS} (σ0 : SG) (hσ0 : WT σ0) (f : Int32) (h_f : (σ0 159)[8]? = some (.int f)) (k : Int32) (h_k : (σ0 159)[12]? = some (.int k)) (hM : ML By Nb σ0 Sp) (hg : Sp.1 = 0) : ∀ (σ118 : SG) (y121 : Int32) (y125 : Int32) (y129 : Int32), WT σ118 → Fr [(35, 8), (35, 9), (35, 10), (35, 11), (35, 12), (35, 13), (41, 0)] σ0 σ118 → (σ118 165)[(4 : Int).toNat]? = some (.int y121) → 0 ≤ y121.toInt → y121.toInt ≤ 4 → (σ118 159)[12]? = some (.int y125) → 0 ≤ y125.toInt → y125.toInt ≤ 3 → (σ118 159)[8]? = some (.int y129) → 0 ≤ y129.toInt → y129.toInt ≤ 1600 → f.toInt - y129.toInt ≤ 0 → (y125.toInt ≤ 0 → k.toInt ≤ 0) → y125.toInt ≤ 0 → y121.toInt - 3 ≤ 0 → (iW By Nb 2 Sp) ≤ 0 ∧ -(iW By Nb 2 Sp) ≤ 0 → (iW By Nb 6 Sp) ≤ 0 ∧ -(iW By Nb 6 Sp) ≤ 0 → (iW By Nb 3 Sp) ≤ 0 ∧ -(iW By Nb 3 Sp) ≤ 0 → (iW By Nb 17 Sp) ≤ 0 ∧ -(iW By Nb 17 Sp) ≤ 0 → (iW By Nb 9 Sp) ≤ 0 ∧ -(iW By Nb 9 Sp) ≤ 0 → (iW By Nb 5 Sp) - 1 ≤ 0 ∧ -(iW By Nb 5 Sp) + 1 ≤ 0 → KF σ0 σ118 → ML By Nb σ118 (adv By Nb Sp) → gN2 By Nb (gN1 By Nb Sp) = Sp → En 9 200 none mr_302 (P_302x σ0 By Nb Sp f k) 309 [(0, .ref 159)] [] σ118 := by
  obtain ⟨hl_f, hu_f⟩ := WT_int hσ0 (g := 35) (by decide +kernel) (by decide +kernel) (l := 0) (u := 1600) (by decide +kernel) h_f
  obtain ⟨hl_k, hu_k⟩ := WT_int hσ0 (g := 35) (by decide +kernel) (by decide +kernel) (l := 0) (u := 3) (by decide +kernel) h_k
  have hF0 : Fr [(35, 8), (35, 9), (35, 10), (35, 11), (35, 12), (35, 13), (41, 0)] σ0 σ0 := Fr_rfl
  intro σ118 y121 y125 y129 h119 h120 h122 h123 h124 h126 h127 h128 h130 h131 h132 h133 h134 h135 h136 h137 h138 h139 h140 h141 h142 h143 h144 h145
  have h146 : (adv By Nb Sp).1 = 0 := by rw [adv_1]; exact hg
  have h147 : (adv By Nb Sp).2.2.2 = Sp.2.2.2 := adv_w
  have h148 := ML_k h144 h126
  have h149 := ML_w h144 h146 h122 (by omega) (by omega)
  refine En_Ps 4 (pc' := 315) (lv' := [(0, .ref 159)]) (st' := [.ref 159, .int ((Int32.ofInt 2)), .int (((Int16.ofInt 146).toInt32)), .ref 159]) rfl ?_
  refine En_getU (j := 14) (u := 165) (g' := 41) (q := 0) rfl rfl rfl (by decide +kernel : TG 159 = 35) (by decide +kernel) h119 (by decide +kernel) (by decide +kernel) (fun h150 => ?_)
  refine En_Ps 1 (pc' := 319) (lv' := [(0, .ref 159)]) (st' := [.int ((Int32.ofInt 4)), .ref 165, .int ((Int32.ofInt 2)), .int (((Int16.ofInt 146).toInt32)), .ref 159]) rfl ?_
  refine En_ialdK h122 rfl (by decide : (Int32.ofInt 4).toInt = 4) (by decide +kernel : TG 165 = 41) (by decide +kernel) h119 (by omega) (lnI (by decide +kernel : LN _ = 226) (by omega)) ?_
  refine En_Ps 1 (pc' := 321) (lv' := [(0, .ref 159)]) (st' := [.int ((((Int32.ofInt 2)) * y121)), .int (((Int16.ofInt 146).toInt32)), .ref 159]) rfl ?_
  refine En_top (mulI (by decide : (Int32.ofInt 2).toInt = 2) rfl (Z := 2 * y121.toInt) (by omega) (by omega) (by omega)) (fun z153 h154 => ?_)
  refine En_Ps 1 (pc' := 322) (lv' := [(0, .ref 159)]) (st' := [.int (((((Int16.ofInt 146).toInt32)) + z153)), .ref 159]) rfl ?_
  refine En_top (addI (by decide : ((Int16.ofInt 146).toInt32).toInt = 146) rfl (by omega) (by omega)) (fun z155 h156 => ?_)
  refine En_callV rfl rfl rfl rfl rfl rfl rfl rfl (by decide +kernel : TG 159 = 35) (by decide +kernel) rfl (c_303bx σ118 h119 z155 (geI rfl (by omega)) (leI rfl (by omega)) y129 h130 y125 h126 h144 (by omega)) (by decide) (by decide) (fun v158 σ159 h157 => ?_)
  obtain ⟨h160, h161, z163, h164, z165, h166, rfl, h162⟩ := h157
  have h167 := h162.2.2.2.2.2.2.2.2.2.2.2.2.2.2
  have h168 := Fr_trans h120 h161 (by decide +kernel)
  have h169 := KF_tr h143 (KF_of h167.1)
  obtain ⟨S170, h171⟩ : ∃ q : PS, q = gRule By Nb (146 + 2 * (adv By Nb Sp).2.2.2 4) (adv By Nb Sp) := ⟨_, rfl⟩
  have h172 : ML By Nb σ159 S170 := by rw [h171]; exact (ML_eq h167.2 (gRule_cg (by omega)))
  have h173 := ML_k h172 h166
  obtain ⟨z175, h174, h176, h177⟩ := WT_peekI h160 (by decide +kernel : TG 165 = 41) (by decide +kernel : FT 41 (4 : Int).toNat = (0, 0, 4)) (by decide +kernel)
  have h178 := ci_at h122 (rfl : (4 : Int) = 4)
  have h179 := ci_at h174 (rfl : (4 : Int) = 4)
  have h180 := h167.1 4 (by omega) (by omega)
  refine En_Ps 1 (pc' := 326) (lv' := [(0, .ref 159)]) (st' := [.ref 159]) rfl ?_
  refine En_getK (j := 14) ((h161 _ _ (inW (by decide +kernel : TG 159 = 35) (by decide +kernel))).trans h150) rfl rfl rfl (by decide +kernel : TG 159 = 35) (by decide +kernel) ?_
  refine En_Ps 2 (pc' := 331) (lv' := [(0, .ref 159)]) (st' := [.int ((Int32.ofInt 4)), .ref 165, .int ((Int32.ofInt 4)), .ref 165]) rfl ?_
  refine En_ialdK h174 rfl (by decide : (Int32.ofInt 4).toInt = 4) (by decide +kernel : TG 165 = 41) (by decide +kernel) h160 (by omega) (lnI (by decide +kernel : LN _ = 226) (by omega)) ?_
  refine En_Ps 2 (pc' := 334) (lv' := [(0, .ref 159)]) (st' := [.int ((z175 + ((Int32.ofInt 1)))), .int ((Int32.ofInt 4)), .ref 165]) rfl ?_
  refine En_top (addI rfl (by decide : (Int32.ofInt 1).toInt = 1) (by omega) (by omega)) (fun z182 h183 => ?_)
  refine En_iast (l := 0) (u := 4) rfl (by decide : (Int32.ofInt 4).toInt = 4) (by decide +kernel : TG 165 = 41) (by decide +kernel) (by omega) (lnI (by decide +kernel : LN _ = 226) (by omega)) (by decide +kernel) (rngI rfl (by omega) (by omega)) h160 h168 (by decide +kernel) (fun σ184 h185 h186 h187 h188 => ?_)
  have h189 := KF_st h169 (J := 4) h188 (by omega) (by omega)
  obtain ⟨S190, h191⟩ : ∃ q : PS, q = wst S170 (4) ((adv By Nb Sp).2.2.2 4 + 1) := ⟨_, rfl⟩
  have h192 : ML By Nb σ184 S190 := by rw [h191]; exact (ML_wst (i := 4) (v := (adv By Nb Sp).2.2.2 4 + 1) h172 h187 h188 (by omega) (fun z => by exact ⟨by omega, by omega⟩))
  have h193 := ML_k h192 ((h188 _ _ (Or.inl (neTG (by decide +kernel : TG 159 = 35) (by decide +kernel : TG 165 = 41) (by decide)))).trans h166)
  have h194 : S190.1 = S170.1 := by rw [h191]; rfl
  refine En_Ps 1 (pc' := 447) (lv' := [(0, .ref 159)]) (st' := []) rfl ?_
  exact En_ret (v := none) rfl rfl rfl ⟨h185, h186, z163, ((h188 _ _ (Or.inl (neTG (by decide +kernel : TG 159 = 35) (by decide +kernel : TG 165 = 41) (by decide)))).trans h164), z165, ((h188 _ _ (Or.inl (neTG (by decide +kernel : TG 159 = 35) (by decide +kernel : TG 165 = 41) (by decide)))).trans h166), rfl, ⟨by omega, by omega, by omega, by omega, by omega, by omega, by omega, by omega, by omega, by omega, by omega, by omega, by omega, fun _ => by omega, ⟨h189, ML_eq h192 (by subst h191; subst h171; rw [gNx_5 h145 hg (by omega) (by omega) (by omega) (by omega) (by omega) (by omega)]; unfold gHouse; first | done | rfl)⟩⟩⟩
set_option maxRecDepth 10000 in
set_option maxHeartbeats 4000000 in
theorem k_302x_347 {By : Int → Int} {Nb : Int} {Sp : PS} (σ0 : SG) (hσ0 : WT σ0) (f : Int32) (h_f : (σ0 159)[8]? = some (.int f)) (k : Int32) (h_k : (σ0 159)[12]? = some (.int k)) (hM : ML By Nb σ0 Sp) (hg : Sp.1 = 0) : ∀ (σ195 : SG) (y198 : Int32) (y202 : Int32) (y206 : Int32), WT σ195 → Fr [(35, 8), (35, 9), (35, 10), (35, 11), (35, 12), (35, 13), (41, 0)] σ0 σ195 → (σ195 165)[(5 : Int).toNat]? = some (.int y198) → 0 ≤ y198.toInt → y198.toInt ≤ 6 → (σ195 159)[12]? = some (.int y202) → 0 ≤ y202.toInt → y202.toInt ≤ 3 → (σ195 159)[8]? = some (.int y206) → 0 ≤ y206.toInt → y206.toInt ≤ 1600 → f.toInt - y206.toInt ≤ 0 → (y202.toInt ≤ 0 → k.toInt ≤ 0) → y202.toInt ≤ 0 → y198.toInt - 5 ≤ 0 → (iW By Nb 2 Sp) ≤ 0 ∧ -(iW By Nb 2 Sp) ≤ 0 → (iW By Nb 6 Sp) ≤ 0 ∧ -(iW By Nb 6 Sp) ≤ 0 → (iW By Nb 3 Sp) ≤ 0 ∧ -(iW By Nb 3 Sp) ≤ 0 → (iW By Nb 17 Sp) ≤ 0 ∧ -(iW By Nb 17 Sp) ≤ 0 → (iW By Nb 9 Sp) ≤ 0 ∧ -(iW By Nb 9 Sp) ≤ 0 → (iW By Nb 5 Sp) ≤ 0 ∧ -(iW By Nb 5 Sp) ≤ 0 → (iW By Nb 1 Sp) - 1 ≤ 0 ∧ -(iW By Nb 1 Sp) + 1 ≤ 0 → KF σ0 σ195 → ML By Nb σ195 (adv By Nb Sp) → gN2 By Nb (gN1 By Nb Sp) = Sp → En 9 200 none mr_302 (P_302x σ0 By Nb Sp f k) 347 [(0, .ref 159)] [] σ195 := by
  obtain ⟨hl_f, hu_f⟩ := WT_int hσ0 (g := 35) (by decide +kernel) (by decide +kernel) (l := 0) (u := 1600) (by decide +kernel) h_f
  obtain ⟨hl_k, hu_k⟩ := WT_int hσ0 (g := 35) (by decide +kernel) (by decide +kernel) (l := 0) (u := 3) (by decide +kernel) h_k
  have hF0 : Fr [(35, 8), (35, 9), (35, 10), (35, 11), (35, 12), (35, 13), (41, 0)] σ0 σ0 := Fr_rfl
  intro σ195 y198 y202 y206 h196 h197 h199 h200 h201 h203 h204 h205 h207 h208 h209 h210 h211 h212 h213 h214 h215 h216 h217 h218 h219 h220 h221 h222 h223
  have h224 : (adv By Nb Sp).1 = 0 := by rw [adv_1]; exact hg
  have h225 : (adv By Nb Sp).2.2.2 = Sp.2.2.2 := adv_w
  have h226 := ML_k h222 h203
  have h227 := ML_w h222 h224 h199 (by omega) (by omega)
  refine En_Ps 1 (pc' := 348) (lv' := [(0, .ref 159)]) (st' := [.ref 159]) rfl ?_
  refine En_getU (j := 14) (u := 165) (g' := 41) (q := 0) rfl rfl rfl (by decide +kernel : TG 159 = 35) (by decide +kernel) h196 (by decide +kernel) (by decide +kernel) (fun h228 => ?_)
  refine En_Ps 3 (pc' := 356) (lv' := [(0, .ref 159)]) (st' := [.ref 159, .int ((Int32.ofInt 2)), .int (((Int16.ofInt 154).toInt32)), .ref 165]) rfl ?_
  refine En_getK (j := 14) h228 rfl rfl rfl (by decide +kernel : TG 159 = 35) (by decide +kernel) ?_
  refine En_Ps 1 (pc' := 360) (lv' := [(0, .ref 159)]) (st' := [.int ((Int32.ofInt 5)), .ref 165, .int ((Int32.ofInt 2)), .int (((Int16.ofInt 154).toInt32)), .ref 165]) rfl ?_
  refine En_ialdK h199 rfl (by decide : (Int32.ofInt 5).toInt = 5) (by decide +kernel : TG 165 = 41) (by decide +kernel) h196 (by omega) (lnI (by decide +kernel : LN _ = 226) (by omega)) ?_
  refine En_Ps 1 (pc' := 362) (lv' := [(0, .ref 159)]) (st' := [.int ((((Int32.ofInt 2)) * y198)), .int (((Int16.ofInt 154).toInt32)), .ref 165]) rfl ?_
  refine En_top (mulI (by decide : (Int32.ofInt 2).toInt = 2) rfl (Z := 2 * y198.toInt) (by omega) (by omega) (by omega)) (fun z231 h232 => ?_)
  refine En_Ps 1 (pc' := 363) (lv' := [(0, .ref 159)]) (st' := [.int (((((Int16.ofInt 154).toInt32)) + z231)), .ref 165]) rfl ?_
  refine En_top (addI (by decide : ((Int16.ofInt 154).toInt32).toInt = 154) rfl (by omega) (by omega)) (fun z233 h234 => ?_)
  refine En_Ps 1 (pc' := 364) (lv' := [(0, .ref 159)]) (st' := [.ref 159, .int z233, .ref 165]) rfl ?_
  refine En_ldcS (i := 15) rfl rfl rfl ?_
  refine En_Ps 2 (pc' := 369) (lv' := [(0, .ref 159)]) (st' := [.int (((Int8.ofInt 9).toInt32)), .int ((Int32.ofInt 1)), .retAddr 31, .ref 159, .int z233, .ref 165]) rfl ?_
  have := (by decide : ((Int32.ofInt 1)).toInt = 1)
  have := (by decide : (((Int8.ofInt 9).toInt32)).toInt = 9)
  refine En_callV rfl rfl rfl rfl rfl rfl rfl rfl (by decide +kernel : TG 159 = 35) (by decide +kernel) rfl (c_323s15x σ195 h196 ((Int32.ofInt 1)) (((Int8.ofInt 9).toInt32)) (geI (by decide : (Int32.ofInt 1).toInt = 1) (by omega)) (leI (by decide : (Int32.ofInt 1).toInt = 1) (by omega)) (geI (by decide : ((Int8.ofInt 9).toInt32).toInt = 9) (by omega)) (leI (by decide : ((Int8.ofInt 9).toInt32).toInt = 9) (by omega)) y206 h207 y202 h203 h222) (by decide) (by decide) (fun v236 σ237 h235 => ?_)
  obtain ⟨h238, h239, z241, h242, z243, h244, z245, rfl, h240⟩ := h235
  have h246 := h240.2.2.2.2.2.2.2.2.2.2.2.2.2.2.2.2.2.2.2.2
  have h247 := Fr_trans h197 h239 (by decide +kernel)
  have h248 := KF_fr h221 h239 (by decide +kernel)
  obtain ⟨S249, h250⟩ : ∃ q : PS, q = pss By Nb (iW By Nb 15 (adv By Nb Sp)) (adv By Nb Sp) := ⟨_, rfl⟩
  have h251 : tN By Nb ((Int32.ofInt 1)).toInt (((Int8.ofInt 9).toInt32)).toInt (pss By Nb (iW By Nb 15 (adv By Nb Sp)) (adv By Nb Sp)) = tN By Nb (1) (9) S249 := by rw [h250]; exact tN_cg2 (fun _ => by omega) (fun _ => by omega)
  obtain ⟨S252, h253⟩ : ∃ q : PS, q = tN By Nb (1) (9) S249 := ⟨_, rfl⟩
  have h254 : ML By Nb σ237 S252 := by rw [h253]; exact (ML_eq h246.1 h251)
  have h255 := ML_k h254 h244
  have h256 : Imp (S252.1 = 0) (z245.toInt = tV By Nb S249.2.2.1) := fun z => by rw [h250]; exact h246.2 (by rw [h251, ← h253]; exact z)
  have h257 := Imp_m h240.2.2.2.2.2.2.2.2.2.2.2.2.2.2.2.2.1 (by omega)
  have h258 := Imp_m h240.2.2.2.2.2.2.2.2.2.2.2.2.2.2.2.2.2.1 (by omega)
  refine En_iast (l := 0) (u := 9) rfl rfl (by decide +kernel : TG 165 = 41) (by decide +kernel) (by omega) (lnI (by decide +kernel : LN _ = 226) (by omega)) (FTrow 41 154 2 6 (by decide +kernel) (by omega) (by omega) (by omega)) (rngI rfl (by omega) (by omega)) h238 h247 (by decide +kernel) (fun σ259 h260 h261 h262 h263 => ?_)
  have h264 := KF_st h248 (J := z233.toInt) h263 (by omega) (by omega)
  obtain ⟨S265, h266⟩ : ∃ q : PS, q = wst S252 (154 + 2 * (adv By Nb Sp).2.2.2 5) ((tV By Nb S249.2.2.1)) := ⟨_, rfl⟩
  have h267 : ML By Nb σ259 S265 := by rw [h266]; exact (ML_wst (i := 154 + 2 * (adv By Nb Sp).2.2.2 5) (v := (tV By Nb S249.2.2.1)) h254 h262 h263 (by omega) (fun z => by have j1 := Imp_m h256 z; exact ⟨by omega, by omega⟩))
  have h268 := ML_k h267 ((h263 _ _ (Or.inl (neTG (by decide +kernel : TG 159 = 35) (by decide +kernel : TG 165 = 41) (by decide)))).trans h244)
  have h269 : S265.1 = S252.1 := by rw [h266]; rfl
  refine En_Ps 1 (pc' := 374) (lv' := [(0, .ref 159)]) (st' := [.ref 159]) rfl ?_
  refine En_getK (j := 14) ((h263 _ _ (Or.inl (neTG (by decide +kernel : TG 159 = 35) (by decide +kernel : TG 165 = 41) (by decide)))).trans ((h239 _ _ (inW (by decide +kernel : TG 159 = 35) (by decide +kernel))).trans h228)) rfl rfl rfl (by decide +kernel : TG 159 = 35) (by decide +kernel) ?_
  refine En_Ps 2 (pc' := 379) (lv' := [(0, .ref 159)]) (st' := [.int ((Int32.ofInt 5)), .ref 165, .int ((Int32.ofInt 5)), .ref 165]) rfl ?_
  refine En_ialdK ((h263 _ _ (Or.inr (by omega))).trans ((h239 _ _ (inWa (by decide +kernel : TG 165 = 41) (by decide +kernel))).trans h199)) rfl (by decide : (Int32.ofInt 5).toInt = 5) (by decide +kernel : TG 165 = 41) (by decide +kernel) h260 (by omega) (lnI (by decide +kernel : LN _ = 226) (by omega)) ?_
  refine En_Ps 2 (pc' := 382) (lv' := [(0, .ref 159)]) (st' := [.int ((y198 + ((Int32.ofInt 1)))), .int ((Int32.ofInt 5)), .ref 165]) rfl ?_
  refine En_top (addI rfl (by decide : (Int32.ofInt 1).toInt = 1) (by omega) (by omega)) (fun z271 h272 => ?_)
  refine En_iast (l := 0) (u := 6) rfl (by decide : (Int32.ofInt 5).toInt = 5) (by decide +kernel : TG 165 = 41) (by decide +kernel) (by omega) (lnI (by decide +kernel : LN _ = 226) (by omega)) (by decide +kernel) (rngI rfl (by omega) (by omega)) h260 h261 (by decide +kernel) (fun σ273 h274 h275 h276 h277 => ?_)
  have h278 := KF_st h264 (J := 5) h277 (by omega) (by omega)
  obtain ⟨S279, h280⟩ : ∃ q : PS, q = wst S265 (5) ((adv By Nb Sp).2.2.2 5 + 1) := ⟨_, rfl⟩
  have h281 : ML By Nb σ273 S279 := by rw [h280]; exact (ML_wst (i := 5) (v := (adv By Nb Sp).2.2.2 5 + 1) h267 h276 h277 (by omega) (fun z => by have j1 := h269.symm.trans z; have j2 := Imp_m h256 j1; exact ⟨by omega, by omega⟩))
  have h282 := ML_k h281 ((h277 _ _ (Or.inl (neTG (by decide +kernel : TG 159 = 35) (by decide +kernel : TG 165 = 41) (by decide)))).trans ((h263 _ _ (Or.inl (neTG (by decide +kernel : TG 159 = 35) (by decide +kernel : TG 165 = 41) (by decide)))).trans h244))
  have h283 : S279.1 = S265.1 := by rw [h280]; rfl
  refine En_Ps 1 (pc' := 447) (lv' := [(0, .ref 159)]) (st' := []) rfl ?_
  exact En_ret (v := none) rfl rfl rfl ⟨h274, h275, z241, ((h277 _ _ (Or.inl (neTG (by decide +kernel : TG 159 = 35) (by decide +kernel : TG 165 = 41) (by decide)))).trans ((h263 _ _ (Or.inl (neTG (by decide +kernel : TG 159 = 35) (by decide +kernel : TG 165 = 41) (by decide)))).trans h242)), z243, ((h277 _ _ (Or.inl (neTG (by decide +kernel : TG 159 = 35) (by decide +kernel : TG 165 = 41) (by decide)))).trans ((h263 _ _ (Or.inl (neTG (by decide +kernel : TG 159 = 35) (by decide +kernel : TG 165 = 41) (by decide)))).trans h244)), rfl, ⟨by omega, by omega, by omega, by omega, by omega, by omega, by omega, by omega, by omega, by omega, by omega, by omega, by omega, fun _ => by omega, ⟨h278, ML_eq h281 (by subst h280; subst h266; subst h253; subst h250; rw [gNx_1 h223 hg (by omega) (by omega) (by omega) (by omega) (by omega) (by omega) (by omega)]; unfold gCourse; (try dsimp only); first | done | rfl)⟩⟩⟩

