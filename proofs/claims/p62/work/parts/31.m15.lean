/-- DoorSchoolModel.readTwin()V -/
abbrev P_304 (σ0 : SG) (f : Int32) (k : Int32) : PO := fun v σ => WT σ ∧ Fr [(35, 8), (35, 9), (35, 10), (35, 11), (35, 12), (35, 13), (41, 0)] σ0 σ ∧ ∃ f1 : Int32, (σ 159)[8]? = some (.int f1) ∧ ∃ k1 : Int32, (σ 159)[12]? = some (.int k1) ∧ v = none ∧ -f1.toInt ≤ 0 ∧ f1.toInt - 1600 ≤ 0 ∧ -f1.toInt + f.toInt ≤ 0 ∧ f1.toInt - f.toInt - 1600 ≤ 0 ∧ -f1.toInt + k.toInt - 3 ≤ 0 ∧ f1.toInt - k.toInt - 1600 ≤ 0 ∧ -k1.toInt ≤ 0 ∧ k1.toInt - 3 ≤ 0 ∧ -k1.toInt + f.toInt - 1600 ≤ 0 ∧ k1.toInt - f.toInt - 3 ≤ 0 ∧ -k1.toInt + k.toInt ≤ 0 ∧ k1.toInt - k.toInt - 3 ≤ 0 ∧ f.toInt - f1.toInt ≤ 0 ∧ (k1.toInt ≤ 0 → k.toInt ≤ 0) ∧ KF σ0 σ
set_option maxRecDepth 10000 in
set_option maxHeartbeats 4000000 in
theorem c_304 (σ0 : SG) (hσ0 : WT σ0) (f : Int32) (h_f : (σ0 159)[8]? = some (.int f)) (k : Int32) (h_k : (σ0 159)[12]? = some (.int k)) : En 3 69 none mr_304 (P_304 σ0 f k) 0 [(0, .ref 159)] [] σ0 := by
  obtain ⟨hl_f, hu_f⟩ := WT_int hσ0 (g := 35) (by decide +kernel) (by decide +kernel) (l := 0) (u := 1600) (by decide +kernel) h_f
  obtain ⟨hl_k, hu_k⟩ := WT_int hσ0 (g := 35) (by decide +kernel) (by decide +kernel) (l := 0) (u := 3) (by decide +kernel) h_k
  have hF0 : Fr [(35, 8), (35, 9), (35, 10), (35, 11), (35, 12), (35, 13), (41, 0)] σ0 σ0 := Fr_rfl
  refine En_Ps 2 (pc' := 2) (lv' := [(0, .ref 159)]) (st' := [.ref 159, .ref 159]) rfl ?_
  refine En_getU (j := 14) (u := 165) (g' := 41) (q := 0) rfl rfl rfl (by decide +kernel : TG 159 = 35) (by decide +kernel) hσ0 (by decide +kernel) (by decide +kernel) (fun h1 => ?_)
  refine En_Ps 1 (pc' := 6) (lv' := [(0, .ref 159)]) (st' := [.int ((Int32.ofInt 2)), .ref 165, .ref 159]) rfl ?_
  refine En_iald (l := 0) (u := 4) rfl (by decide : (Int32.ofInt 2).toInt = 2) (by decide +kernel : TG 165 = 41) (by decide +kernel) hσ0 (by omega) (lnI (by decide +kernel : LN _ = 226) (by omega)) (by decide +kernel) (fun z4 h3 h5 h6 => ?_)
  obtain ⟨z8, h7, h9, h10⟩ := WT_peekI hσ0 (by decide +kernel : TG 159 = 35) (by decide +kernel : FT 35 10 = (0, 0, 4)) (by decide +kernel)
  obtain ⟨z12, h11, h13, h14⟩ := WT_peekI hσ0 (by decide +kernel : TG 159 = 35) (by decide +kernel : FT 35 11 = (0, 0, 99999)) (by decide +kernel)
  refine En_callV rfl rfl rfl rfl rfl rfl rfl rfl (by decide +kernel : TG 159 = 35) (by decide +kernel) rfl (c_260 σ0 hσ0 z4 k h_k z8 h7 z12 h11) (by decide) (by decide) (fun v16 σ17 h15 => ?_)
  obtain ⟨h18, h19, z21, rfl, h20⟩ := h15
  obtain rfl : σ0 = σ17 := Fr_nil h19
  refine En_iEq _ rfl rfl (fun h22 => ?_) (fun h22 => ?_)
  · refine En_Ps 3 (pc' := 43) (lv' := [(0, .ref 159)]) (st' := [.ref 159, .int ((Int32.ofInt 0)), .ref 159]) rfl ?_
    refine En_getK (j := 14) h1 rfl rfl rfl (by decide +kernel : TG 159 = 35) (by decide +kernel) ?_
    refine En_Ps 1 (pc' := 47) (lv' := [(0, .ref 159)]) (st' := [.int ((Int32.ofInt 2)), .ref 165, .int ((Int32.ofInt 0)), .ref 159]) rfl ?_
    refine En_ialdK h3 rfl (by decide : (Int32.ofInt 2).toInt = 2) (by decide +kernel : TG 165 = 41) (by decide +kernel) hσ0 (by omega) (lnI (by decide +kernel : LN _ = 226) (by omega)) ?_
    refine En_Ps 2 (pc' := 50) (lv' := [(0, .ref 159)]) (st' := [.int ((z4 - ((Int32.ofInt 1)))), .int ((Int32.ofInt 0)), .ref 159]) rfl ?_
    refine En_top (subI rfl (by decide : (Int32.ofInt 1).toInt = 1) (by omega) (by omega)) (fun z24 h25 => ?_)
    have := (by decide : ((Int32.ofInt 0)).toInt = 0)
    refine En_callV rfl rfl rfl rfl rfl rfl rfl rfl (by decide +kernel : TG 159 = 35) (by decide +kernel) rfl (c_288 σ0 hσ0 ((Int32.ofInt 0)) z24 f h_f k h_k z8 h7 z12 h11) (by decide) (by decide) (fun v27 σ28 h26 => ?_)
    obtain ⟨h29, h30, z32, h33, z34, h35, z36, rfl, h31⟩ := h26
    have h37 := Fr_trans hF0 h30 (by decide +kernel)
    have h38 := KF_fr (KF_0 (σ := σ0)) h30 (by decide +kernel)
    refine En_Ps 3 (pc' := 56) (lv' := [(1, .int z36), (0, .ref 159)]) (st' := [.ref 159, .ref 159]) rfl ?_
    refine En_getK (j := 14) ((h30 _ _ (inW (by decide +kernel : TG 159 = 35) (by decide +kernel))).trans h1) rfl rfl rfl (by decide +kernel : TG 159 = 35) (by decide +kernel) ?_
    refine En_Ps 1 (pc' := 60) (lv' := [(1, .int z36), (0, .ref 159)]) (st' := [.int ((Int32.ofInt 2)), .ref 165, .ref 159]) rfl ?_
    refine En_ialdK ((h30 _ _ (inWa (by decide +kernel : TG 165 = 41) (by decide +kernel))).trans h3) rfl (by decide : (Int32.ofInt 2).toInt = 2) (by decide +kernel : TG 165 = 41) (by decide +kernel) h29 (by omega) (lnI (by decide +kernel : LN _ = 226) (by omega)) ?_
    obtain ⟨z41, h40, h42, h43⟩ := WT_peekI h29 (by decide +kernel : TG 159 = 35) (by decide +kernel : FT 35 10 = (0, 0, 4)) (by decide +kernel)
    obtain ⟨z45, h44, h46, h47⟩ := WT_peekI h29 (by decide +kernel : TG 159 = 35) (by decide +kernel : FT 35 11 = (0, 0, 99999)) (by decide +kernel)
    refine En_callV rfl rfl rfl rfl rfl rfl rfl rfl (by decide +kernel : TG 159 = 35) (by decide +kernel) rfl (c_260 σ28 h29 z4 z34 h35 z41 h40 z45 h44) (by decide) (by decide) (fun v49 σ50 h48 => ?_)
    obtain ⟨h51, h52, z54, rfl, h53⟩ := h48
    obtain rfl : σ28 = σ50 := Fr_nil h52
    refine En_iEq _ rfl rfl (fun h55 => ?_) (fun hx => by exfalso; omega)
    refine En_Ps 3 (pc' := 94) (lv' := [(1, .int z36), (0, .ref 159)]) (st' := [.ref 159, .int ((Int32.ofInt 0)), .ref 159]) rfl ?_
    refine En_getK (j := 14) ((h30 _ _ (inW (by decide +kernel : TG 159 = 35) (by decide +kernel))).trans h1) rfl rfl rfl (by decide +kernel : TG 159 = 35) (by decide +kernel) ?_
    refine En_Ps 1 (pc' := 98) (lv' := [(1, .int z36), (0, .ref 159)]) (st' := [.int ((Int32.ofInt 2)), .ref 165, .int ((Int32.ofInt 0)), .ref 159]) rfl ?_
    refine En_ialdK ((h30 _ _ (inWa (by decide +kernel : TG 165 = 41) (by decide +kernel))).trans h3) rfl (by decide : (Int32.ofInt 2).toInt = 2) (by decide +kernel : TG 165 = 41) (by decide +kernel) h29 (by omega) (lnI (by decide +kernel : LN _ = 226) (by omega)) ?_
    refine En_Ps 2 (pc' := 101) (lv' := [(1, .int z36), (0, .ref 159)]) (st' := [.int ((z4 - ((Int32.ofInt 1)))), .int ((Int32.ofInt 0)), .ref 159]) rfl ?_
    refine En_top (subI rfl (by decide : (Int32.ofInt 1).toInt = 1) (by omega) (by omega)) (fun z57 h58 => ?_)
    have := (by decide : ((Int32.ofInt 0)).toInt = 0)
    refine En_callV rfl rfl rfl rfl rfl rfl rfl rfl (by decide +kernel : TG 159 = 35) (by decide +kernel) rfl (c_288 σ28 h29 ((Int32.ofInt 0)) z57 z32 h33 z34 h35 z41 h40 z45 h44) (by decide) (by decide) (fun v60 σ61 h59 => ?_)
    obtain ⟨h62, h63, z65, h66, z67, h68, z69, rfl, h64⟩ := h59
    have h70 := Fr_trans h37 h63 (by decide +kernel)
    have h71 := KF_fr h38 h63 (by decide +kernel)
    refine En_Ps 2 (pc' := 106) (lv' := [(2, .int z69), (1, .int z36), (0, .ref 159)]) (st' := [.ref 159]) rfl ?_
    refine En_callV rfl rfl rfl rfl rfl rfl rfl rfl (by decide +kernel : TG 159 = 35) (by decide +kernel) rfl (c_237 σ61 h62 z67 h68) (by decide) (by decide) (fun v73 σ74 h72 => ?_)
    obtain ⟨h75, h76, z78, rfl, h77⟩ := h72
    obtain rfl : σ61 = σ74 := Fr_nil h76
    refine En_iEq _ rfl rfl (fun h79 => ?_) (fun hx => by exfalso; omega)
    exact En_ret (v := none) rfl rfl rfl ⟨h62, h70, z65, h66, z67, h68, rfl, ⟨by omega, by omega, by omega, by omega, by omega, by omega, by omega, by omega, by omega, by omega, by omega, by omega, by omega, by omega, h71⟩⟩
  · refine En_Ps 2 (pc' := 15) (lv' := [(0, .ref 159)]) (st' := [.ref 159, .ref 159]) rfl ?_
    refine En_getK (j := 11) h11 rfl rfl rfl (by decide +kernel : TG 159 = 35) (by decide +kernel) ?_
    refine En_callV rfl rfl rfl rfl rfl rfl rfl rfl (by decide +kernel : TG 159 = 35) (by decide +kernel) rfl (c_217 σ0 hσ0 z12 (geI rfl (by omega)) (leI rfl (by omega))) (by decide) (by decide) (fun v81 σ82 h80 => ?_)
    obtain ⟨h83, h84, z86, rfl, h85⟩ := h80
    obtain rfl : σ0 = σ82 := Fr_nil h84
    refine En_iNe _ rfl rfl (fun h87 => ?_) (fun h87 => ?_)
    · refine En_Ps 2 (pc' := 37) (lv' := [(0, .ref 159)]) (st' := [.int ((Int32.ofInt 2)), .ref 159]) rfl ?_
      have := (by decide : ((Int32.ofInt 2)).toInt = 2)
      refine En_callV rfl rfl rfl rfl rfl rfl rfl rfl (by decide +kernel : TG 159 = 35) (by decide +kernel) rfl (c_223 σ0 hσ0 ((Int32.ofInt 2)) (geI (by decide : (Int32.ofInt 2).toInt = 2) (by omega)) (leI (by decide : (Int32.ofInt 2).toInt = 2) (by omega)) k h_k) (by decide) (by decide) (fun v89 σ90 h88 => ?_)
      obtain ⟨h91, h92, z94, h95, rfl, h93⟩ := h88
      have h96 := Fr_trans hF0 h92 (by decide +kernel)
      have h97 := KF_fr (KF_0 (σ := σ0)) h92 (by decide +kernel)
      refine En_Ps 3 (pc' := 43) (lv' := [(0, .ref 159)]) (st' := [.ref 159, .int ((Int32.ofInt 0)), .ref 159]) rfl ?_
      refine En_getK (j := 14) ((h92 _ _ (inW (by decide +kernel : TG 159 = 35) (by decide +kernel))).trans h1) rfl rfl rfl (by decide +kernel : TG 159 = 35) (by decide +kernel) ?_
      refine En_Ps 1 (pc' := 47) (lv' := [(0, .ref 159)]) (st' := [.int ((Int32.ofInt 2)), .ref 165, .int ((Int32.ofInt 0)), .ref 159]) rfl ?_
      refine En_ialdK ((h92 _ _ (inWa (by decide +kernel : TG 165 = 41) (by decide +kernel))).trans h3) rfl (by decide : (Int32.ofInt 2).toInt = 2) (by decide +kernel : TG 165 = 41) (by decide +kernel) h91 (by omega) (lnI (by decide +kernel : LN _ = 226) (by omega)) ?_
      refine En_Ps 2 (pc' := 50) (lv' := [(0, .ref 159)]) (st' := [.int ((z4 - ((Int32.ofInt 1)))), .int ((Int32.ofInt 0)), .ref 159]) rfl ?_
      refine En_top (subI rfl (by decide : (Int32.ofInt 1).toInt = 1) (by omega) (by omega)) (fun z99 h100 => ?_)
      have := (by decide : ((Int32.ofInt 0)).toInt = 0)
      refine En_callV rfl rfl rfl rfl rfl rfl rfl rfl (by decide +kernel : TG 159 = 35) (by decide +kernel) rfl (c_288 σ90 h91 ((Int32.ofInt 0)) z99 f ((h92 _ _ (inW (by decide +kernel : TG 159 = 35) (by decide +kernel))).trans h_f) z94 h95 z8 ((h92 _ _ (inW (by decide +kernel : TG 159 = 35) (by decide +kernel))).trans h7) z12 ((h92 _ _ (inW (by decide +kernel : TG 159 = 35) (by decide +kernel))).trans h11)) (by decide) (by decide) (fun v102 σ103 h101 => ?_)
      obtain ⟨h104, h105, z107, h108, z109, h110, z111, rfl, h106⟩ := h101
      have h112 := Fr_trans h96 h105 (by decide +kernel)
      have h113 := KF_fr h97 h105 (by decide +kernel)
      refine En_Ps 3 (pc' := 56) (lv' := [(1, .int z111), (0, .ref 159)]) (st' := [.ref 159, .ref 159]) rfl ?_
      refine En_getK (j := 14) ((h105 _ _ (inW (by decide +kernel : TG 159 = 35) (by decide +kernel))).trans ((h92 _ _ (inW (by decide +kernel : TG 159 = 35) (by decide +kernel))).trans h1)) rfl rfl rfl (by decide +kernel : TG 159 = 35) (by decide +kernel) ?_
      refine En_Ps 1 (pc' := 60) (lv' := [(1, .int z111), (0, .ref 159)]) (st' := [.int ((Int32.ofInt 2)), .ref 165, .ref 159]) rfl ?_
      refine En_ialdK ((h105 _ _ (inWa (by decide +kernel : TG 165 = 41) (by decide +kernel))).trans ((h92 _ _ (inWa (by decide +kernel : TG 165 = 41) (by decide +kernel))).trans h3)) rfl (by decide : (Int32.ofInt 2).toInt = 2) (by decide +kernel : TG 165 = 41) (by decide +kernel) h104 (by omega) (lnI (by decide +kernel : LN _ = 226) (by omega)) ?_
      obtain ⟨z116, h115, h117, h118⟩ := WT_peekI h104 (by decide +kernel : TG 159 = 35) (by decide +kernel : FT 35 10 = (0, 0, 4)) (by decide +kernel)
      obtain ⟨z120, h119, h121, h122⟩ := WT_peekI h104 (by decide +kernel : TG 159 = 35) (by decide +kernel : FT 35 11 = (0, 0, 99999)) (by decide +kernel)
      refine En_callV rfl rfl rfl rfl rfl rfl rfl rfl (by decide +kernel : TG 159 = 35) (by decide +kernel) rfl (c_260 σ103 h104 z4 z109 h110 z116 h115 z120 h119) (by decide) (by decide) (fun v124 σ125 h123 => ?_)
      obtain ⟨h126, h127, z129, rfl, h128⟩ := h123
      obtain rfl : σ103 = σ125 := Fr_nil h127
      refine En_iEq _ rfl rfl (fun h130 => ?_) (fun hx => by exfalso; omega)
      refine En_Ps 3 (pc' := 94) (lv' := [(1, .int z111), (0, .ref 159)]) (st' := [.ref 159, .int ((Int32.ofInt 0)), .ref 159]) rfl ?_
      refine En_getK (j := 14) ((h105 _ _ (inW (by decide +kernel : TG 159 = 35) (by decide +kernel))).trans ((h92 _ _ (inW (by decide +kernel : TG 159 = 35) (by decide +kernel))).trans h1)) rfl rfl rfl (by decide +kernel : TG 159 = 35) (by decide +kernel) ?_
      refine En_Ps 1 (pc' := 98) (lv' := [(1, .int z111), (0, .ref 159)]) (st' := [.int ((Int32.ofInt 2)), .ref 165, .int ((Int32.ofInt 0)), .ref 159]) rfl ?_
      refine En_ialdK ((h105 _ _ (inWa (by decide +kernel : TG 165 = 41) (by decide +kernel))).trans ((h92 _ _ (inWa (by decide +kernel : TG 165 = 41) (by decide +kernel))).trans h3)) rfl (by decide : (Int32.ofInt 2).toInt = 2) (by decide +kernel : TG 165 = 41) (by decide +kernel) h104 (by omega) (lnI (by decide +kernel : LN _ = 226) (by omega)) ?_
      refine En_Ps 2 (pc' := 101) (lv' := [(1, .int z111), (0, .ref 159)]) (st' := [.int ((z4 - ((Int32.ofInt 1)))), .int ((Int32.ofInt 0)), .ref 159]) rfl ?_
      refine En_top (subI rfl (by decide : (Int32.ofInt 1).toInt = 1) (by omega) (by omega)) (fun z132 h133 => ?_)
      have := (by decide : ((Int32.ofInt 0)).toInt = 0)
      refine En_callV rfl rfl rfl rfl rfl rfl rfl rfl (by decide +kernel : TG 159 = 35) (by decide +kernel) rfl (c_288 σ103 h104 ((Int32.ofInt 0)) z132 z107 h108 z109 h110 z116 h115 z120 h119) (by decide) (by decide) (fun v135 σ136 h134 => ?_)
      obtain ⟨h137, h138, z140, h141, z142, h143, z144, rfl, h139⟩ := h134
      have h145 := Fr_trans h112 h138 (by decide +kernel)
      have h146 := KF_fr h113 h138 (by decide +kernel)
      refine En_Ps 2 (pc' := 106) (lv' := [(2, .int z144), (1, .int z111), (0, .ref 159)]) (st' := [.ref 159]) rfl ?_
      refine En_callV rfl rfl rfl rfl rfl rfl rfl rfl (by decide +kernel : TG 159 = 35) (by decide +kernel) rfl (c_237 σ136 h137 z142 h143) (by decide) (by decide) (fun v148 σ149 h147 => ?_)
      obtain ⟨h150, h151, z153, rfl, h152⟩ := h147
      obtain rfl : σ136 = σ149 := Fr_nil h151
      refine En_iEq _ rfl rfl (fun h154 => ?_) (fun hx => by exfalso; omega)
      exact En_ret (v := none) rfl rfl rfl ⟨h137, h145, z140, h141, z142, h143, rfl, ⟨by omega, by omega, by omega, by omega, by omega, by omega, by omega, by omega, by omega, by omega, by omega, by omega, by omega, by omega, h146⟩⟩
    · refine En_Ps 2 (pc' := 26) (lv' := [(0, .ref 159)]) (st' := [.ref 159, .ref 159]) rfl ?_
      refine En_getK (j := 11) h11 rfl rfl rfl (by decide +kernel : TG 159 = 35) (by decide +kernel) ?_
      refine En_callV rfl rfl rfl rfl rfl rfl rfl rfl (by decide +kernel : TG 159 = 35) (by decide +kernel) rfl (c_257 σ0 hσ0 z12) (by decide) (by decide) (fun v156 σ157 h155 => ?_)
      obtain ⟨h158, h159, z161, rfl, h160⟩ := h155
      obtain rfl : σ0 = σ157 := Fr_nil h159
      refine En_iEq _ rfl rfl (fun h162 => ?_) (fun h162 => ?_)
      · refine En_Ps 3 (pc' := 43) (lv' := [(0, .ref 159)]) (st' := [.ref 159, .int ((Int32.ofInt 0)), .ref 159]) rfl ?_
        refine En_getK (j := 14) h1 rfl rfl rfl (by decide +kernel : TG 159 = 35) (by decide +kernel) ?_
        refine En_Ps 1 (pc' := 47) (lv' := [(0, .ref 159)]) (st' := [.int ((Int32.ofInt 2)), .ref 165, .int ((Int32.ofInt 0)), .ref 159]) rfl ?_
        refine En_ialdK h3 rfl (by decide : (Int32.ofInt 2).toInt = 2) (by decide +kernel : TG 165 = 41) (by decide +kernel) hσ0 (by omega) (lnI (by decide +kernel : LN _ = 226) (by omega)) ?_
        refine En_Ps 2 (pc' := 50) (lv' := [(0, .ref 159)]) (st' := [.int ((z4 - ((Int32.ofInt 1)))), .int ((Int32.ofInt 0)), .ref 159]) rfl ?_
        refine En_top (subI rfl (by decide : (Int32.ofInt 1).toInt = 1) (by omega) (by omega)) (fun z164 h165 => ?_)
        have := (by decide : ((Int32.ofInt 0)).toInt = 0)
        refine En_callV rfl rfl rfl rfl rfl rfl rfl rfl (by decide +kernel : TG 159 = 35) (by decide +kernel) rfl (c_288 σ0 hσ0 ((Int32.ofInt 0)) z164 f h_f k h_k z8 h7 z12 h11) (by decide) (by decide) (fun v167 σ168 h166 => ?_)
        obtain ⟨h169, h170, z172, h173, z174, h175, z176, rfl, h171⟩ := h166
        have h177 := Fr_trans hF0 h170 (by decide +kernel)
        have h178 := KF_fr (KF_0 (σ := σ0)) h170 (by decide +kernel)
        refine En_Ps 3 (pc' := 56) (lv' := [(1, .int z176), (0, .ref 159)]) (st' := [.ref 159, .ref 159]) rfl ?_
        refine En_getK (j := 14) ((h170 _ _ (inW (by decide +kernel : TG 159 = 35) (by decide +kernel))).trans h1) rfl rfl rfl (by decide +kernel : TG 159 = 35) (by decide +kernel) ?_
        refine En_Ps 1 (pc' := 60) (lv' := [(1, .int z176), (0, .ref 159)]) (st' := [.int ((Int32.ofInt 2)), .ref 165, .ref 159]) rfl ?_
        refine En_ialdK ((h170 _ _ (inWa (by decide +kernel : TG 165 = 41) (by decide +kernel))).trans h3) rfl (by decide : (Int32.ofInt 2).toInt = 2) (by decide +kernel : TG 165 = 41) (by decide +kernel) h169 (by omega) (lnI (by decide +kernel : LN _ = 226) (by omega)) ?_
        obtain ⟨z181, h180, h182, h183⟩ := WT_peekI h169 (by decide +kernel : TG 159 = 35) (by decide +kernel : FT 35 10 = (0, 0, 4)) (by decide +kernel)
        obtain ⟨z185, h184, h186, h187⟩ := WT_peekI h169 (by decide +kernel : TG 159 = 35) (by decide +kernel : FT 35 11 = (0, 0, 99999)) (by decide +kernel)
        refine En_callV rfl rfl rfl rfl rfl rfl rfl rfl (by decide +kernel : TG 159 = 35) (by decide +kernel) rfl (c_260 σ168 h169 z4 z174 h175 z181 h180 z185 h184) (by decide) (by decide) (fun v189 σ190 h188 => ?_)
        obtain ⟨h191, h192, z194, rfl, h193⟩ := h188
        obtain rfl : σ168 = σ190 := Fr_nil h192
        refine En_iEq _ rfl rfl (fun h195 => ?_) (fun h195 => ?_)
        · refine En_Ps 3 (pc' := 94) (lv' := [(1, .int z176), (0, .ref 159)]) (st' := [.ref 159, .int ((Int32.ofInt 0)), .ref 159]) rfl ?_
          refine En_getK (j := 14) ((h170 _ _ (inW (by decide +kernel : TG 159 = 35) (by decide +kernel))).trans h1) rfl rfl rfl (by decide +kernel : TG 159 = 35) (by decide +kernel) ?_
          refine En_Ps 1 (pc' := 98) (lv' := [(1, .int z176), (0, .ref 159)]) (st' := [.int ((Int32.ofInt 2)), .ref 165, .int ((Int32.ofInt 0)), .ref 159]) rfl ?_
          refine En_ialdK ((h170 _ _ (inWa (by decide +kernel : TG 165 = 41) (by decide +kernel))).trans h3) rfl (by decide : (Int32.ofInt 2).toInt = 2) (by decide +kernel : TG 165 = 41) (by decide +kernel) h169 (by omega) (lnI (by decide +kernel : LN _ = 226) (by omega)) ?_
          refine En_Ps 2 (pc' := 101) (lv' := [(1, .int z176), (0, .ref 159)]) (st' := [.int ((z4 - ((Int32.ofInt 1)))), .int ((Int32.ofInt 0)), .ref 159]) rfl ?_
          refine En_top (subI rfl (by decide : (Int32.ofInt 1).toInt = 1) (by omega) (by omega)) (fun z197 h198 => ?_)
          have := (by decide : ((Int32.ofInt 0)).toInt = 0)
          refine En_callV rfl rfl rfl rfl rfl rfl rfl rfl (by decide +kernel : TG 159 = 35) (by decide +kernel) rfl (c_288 σ168 h169 ((Int32.ofInt 0)) z197 z172 h173 z174 h175 z181 h180 z185 h184) (by decide) (by decide) (fun v200 σ201 h199 => ?_)
          obtain ⟨h202, h203, z205, h206, z207, h208, z209, rfl, h204⟩ := h199
          have h210 := Fr_trans h177 h203 (by decide +kernel)
          have h211 := KF_fr h178 h203 (by decide +kernel)
          refine En_Ps 2 (pc' := 106) (lv' := [(2, .int z209), (1, .int z176), (0, .ref 159)]) (st' := [.ref 159]) rfl ?_
          refine En_callV rfl rfl rfl rfl rfl rfl rfl rfl (by decide +kernel : TG 159 = 35) (by decide +kernel) rfl (c_237 σ201 h202 z207 h208) (by decide) (by decide) (fun v213 σ214 h212 => ?_)
          obtain ⟨h215, h216, z218, rfl, h217⟩ := h212
          obtain rfl : σ201 = σ214 := Fr_nil h216
          refine En_iEq _ rfl rfl (fun h219 => ?_) (fun hx => by exfalso; omega)
          exact En_ret (v := none) rfl rfl rfl ⟨h202, h210, z205, h206, z207, h208, rfl, ⟨by omega, by omega, by omega, by omega, by omega, by omega, by omega, by omega, by omega, by omega, by omega, by omega, by omega, by omega, h211⟩⟩
        · refine En_Ps 1 (pc' := 68) (lv' := [(1, .int z176), (0, .ref 159)]) (st' := [.ref 159]) rfl ?_
          refine En_getK (j := 11) h184 rfl rfl rfl (by decide +kernel : TG 159 = 35) (by decide +kernel) ?_
          refine En_Ps 1 (pc' := 72) (lv' := [(1, .int z176), (0, .ref 159)]) (st' := [.int z176, .int z185]) rfl ?_
          refine En_icEq _ rfl rfl rfl (fun h220 => ?_) (fun h220 => ?_)
          · refine En_Ps 2 (pc' := 88) (lv' := [(1, .int z176), (0, .ref 159)]) (st' := [.int ((Int32.ofInt 2)), .ref 159]) rfl ?_
            have := (by decide : ((Int32.ofInt 2)).toInt = 2)
            refine En_callV rfl rfl rfl rfl rfl rfl rfl rfl (by decide +kernel : TG 159 = 35) (by decide +kernel) rfl (c_223 σ168 h169 ((Int32.ofInt 2)) (geI (by decide : (Int32.ofInt 2).toInt = 2) (by omega)) (leI (by decide : (Int32.ofInt 2).toInt = 2) (by omega)) z174 h175) (by decide) (by decide) (fun v222 σ223 h221 => ?_)
            obtain ⟨h224, h225, z227, h228, rfl, h226⟩ := h221
            have h229 := Fr_trans h177 h225 (by decide +kernel)
            have h230 := KF_fr h178 h225 (by decide +kernel)
            refine En_Ps 3 (pc' := 94) (lv' := [(1, .int z176), (0, .ref 159)]) (st' := [.ref 159, .int ((Int32.ofInt 0)), .ref 159]) rfl ?_
            refine En_getK (j := 14) ((h225 _ _ (inW (by decide +kernel : TG 159 = 35) (by decide +kernel))).trans ((h170 _ _ (inW (by decide +kernel : TG 159 = 35) (by decide +kernel))).trans h1)) rfl rfl rfl (by decide +kernel : TG 159 = 35) (by decide +kernel) ?_
            refine En_Ps 1 (pc' := 98) (lv' := [(1, .int z176), (0, .ref 159)]) (st' := [.int ((Int32.ofInt 2)), .ref 165, .int ((Int32.ofInt 0)), .ref 159]) rfl ?_
            refine En_ialdK ((h225 _ _ (inWa (by decide +kernel : TG 165 = 41) (by decide +kernel))).trans ((h170 _ _ (inWa (by decide +kernel : TG 165 = 41) (by decide +kernel))).trans h3)) rfl (by decide : (Int32.ofInt 2).toInt = 2) (by decide +kernel : TG 165 = 41) (by decide +kernel) h224 (by omega) (lnI (by decide +kernel : LN _ = 226) (by omega)) ?_
            refine En_Ps 2 (pc' := 101) (lv' := [(1, .int z176), (0, .ref 159)]) (st' := [.int ((z4 - ((Int32.ofInt 1)))), .int ((Int32.ofInt 0)), .ref 159]) rfl ?_
            refine En_top (subI rfl (by decide : (Int32.ofInt 1).toInt = 1) (by omega) (by omega)) (fun z232 h233 => ?_)
            have := (by decide : ((Int32.ofInt 0)).toInt = 0)
            refine En_callV rfl rfl rfl rfl rfl rfl rfl rfl (by decide +kernel : TG 159 = 35) (by decide +kernel) rfl (c_288 σ223 h224 ((Int32.ofInt 0)) z232 z172 ((h225 _ _ (inW (by decide +kernel : TG 159 = 35) (by decide +kernel))).trans h173) z227 h228 z181 ((h225 _ _ (inW (by decide +kernel : TG 159 = 35) (by decide +kernel))).trans h180) z185 ((h225 _ _ (inW (by decide +kernel : TG 159 = 35) (by decide +kernel))).trans h184)) (by decide) (by decide) (fun v235 σ236 h234 => ?_)
            obtain ⟨h237, h238, z240, h241, z242, h243, z244, rfl, h239⟩ := h234
            have h245 := Fr_trans h229 h238 (by decide +kernel)
            have h246 := KF_fr h230 h238 (by decide +kernel)
            refine En_Ps 2 (pc' := 106) (lv' := [(2, .int z244), (1, .int z176), (0, .ref 159)]) (st' := [.ref 159]) rfl ?_
            refine En_callV rfl rfl rfl rfl rfl rfl rfl rfl (by decide +kernel : TG 159 = 35) (by decide +kernel) rfl (c_237 σ236 h237 z242 h243) (by decide) (by decide) (fun v248 σ249 h247 => ?_)
            obtain ⟨h250, h251, z253, rfl, h252⟩ := h247
            obtain rfl : σ236 = σ249 := Fr_nil h251
            refine En_iEq _ rfl rfl (fun h254 => ?_) (fun hx => by exfalso; omega)
            exact En_ret (v := none) rfl rfl rfl ⟨h237, h245, z240, h241, z242, h243, rfl, ⟨by omega, by omega, by omega, by omega, by omega, by omega, by omega, by omega, by omega, by omega, by omega, by omega, by omega, by omega, h246⟩⟩
          · refine En_Ps 2 (pc' := 77) (lv' := [(1, .int z176), (0, .ref 159)]) (st' := [.ref 159, .ref 159]) rfl ?_
            refine En_getK (j := 11) h184 rfl rfl rfl (by decide +kernel : TG 159 = 35) (by decide +kernel) ?_
            refine En_callV rfl rfl rfl rfl rfl rfl rfl rfl (by decide +kernel : TG 159 = 35) (by decide +kernel) rfl (c_217 σ168 h169 z185 (geI rfl (by omega)) (leI rfl (by omega))) (by decide) (by decide) (fun v256 σ257 h255 => ?_)
            obtain ⟨h258, h259, z261, rfl, h260⟩ := h255
            obtain rfl : σ168 = σ257 := Fr_nil h259
            refine En_iEq _ rfl rfl (fun h262 => ?_) (fun h262 => ?_)
            · refine En_Ps 3 (pc' := 94) (lv' := [(1, .int z176), (0, .ref 159)]) (st' := [.ref 159, .int ((Int32.ofInt 0)), .ref 159]) rfl ?_
              refine En_getK (j := 14) ((h170 _ _ (inW (by decide +kernel : TG 159 = 35) (by decide +kernel))).trans h1) rfl rfl rfl (by decide +kernel : TG 159 = 35) (by decide +kernel) ?_
              refine En_Ps 1 (pc' := 98) (lv' := [(1, .int z176), (0, .ref 159)]) (st' := [.int ((Int32.ofInt 2)), .ref 165, .int ((Int32.ofInt 0)), .ref 159]) rfl ?_
              refine En_ialdK ((h170 _ _ (inWa (by decide +kernel : TG 165 = 41) (by decide +kernel))).trans h3) rfl (by decide : (Int32.ofInt 2).toInt = 2) (by decide +kernel : TG 165 = 41) (by decide +kernel) h169 (by omega) (lnI (by decide +kernel : LN _ = 226) (by omega)) ?_
              refine En_Ps 2 (pc' := 101) (lv' := [(1, .int z176), (0, .ref 159)]) (st' := [.int ((z4 - ((Int32.ofInt 1)))), .int ((Int32.ofInt 0)), .ref 159]) rfl ?_
              refine En_top (subI rfl (by decide : (Int32.ofInt 1).toInt = 1) (by omega) (by omega)) (fun z264 h265 => ?_)
              have := (by decide : ((Int32.ofInt 0)).toInt = 0)
              refine En_callV rfl rfl rfl rfl rfl rfl rfl rfl (by decide +kernel : TG 159 = 35) (by decide +kernel) rfl (c_288 σ168 h169 ((Int32.ofInt 0)) z264 z172 h173 z174 h175 z181 h180 z185 h184) (by decide) (by decide) (fun v267 σ268 h266 => ?_)
              obtain ⟨h269, h270, z272, h273, z274, h275, z276, rfl, h271⟩ := h266
              have h277 := Fr_trans h177 h270 (by decide +kernel)
              have h278 := KF_fr h178 h270 (by decide +kernel)
              refine En_Ps 2 (pc' := 106) (lv' := [(2, .int z276), (1, .int z176), (0, .ref 159)]) (st' := [.ref 159]) rfl ?_
              refine En_callV rfl rfl rfl rfl rfl rfl rfl rfl (by decide +kernel : TG 159 = 35) (by decide +kernel) rfl (c_237 σ268 h269 z274 h275) (by decide) (by decide) (fun v280 σ281 h279 => ?_)
              obtain ⟨h282, h283, z285, rfl, h284⟩ := h279
              obtain rfl : σ268 = σ281 := Fr_nil h283
              refine En_iEq _ rfl rfl (fun h286 => ?_) (fun h286 => ?_)
              · exact En_ret (v := none) rfl rfl rfl ⟨h269, h277, z272, h273, z274, h275, rfl, ⟨by omega, by omega, by omega, by omega, by omega, by omega, by omega, by omega, by omega, by omega, by omega, by omega, by omega, by omega, h278⟩⟩
              · refine En_Ps 1 (pc' := 113) (lv' := [(2, .int z276), (1, .int z176), (0, .ref 159)]) (st' := [.ref 159]) rfl ?_
                refine En_getK (j := 14) ((h270 _ _ (inW (by decide +kernel : TG 159 = 35) (by decide +kernel))).trans ((h170 _ _ (inW (by decide +kernel : TG 159 = 35) (by decide +kernel))).trans h1)) rfl rfl rfl (by decide +kernel : TG 159 = 35) (by decide +kernel) ?_
                refine En_Ps 4 (pc' := 121) (lv' := [(2, .int z276), (1, .int z176), (0, .ref 159)]) (st' := [.int ((((Int32.ofInt 4)) * z176)), .int (((Int8.ofInt 10).toInt32)), .ref 165]) rfl ?_
                refine En_top (mulI (by decide : (Int32.ofInt 4).toInt = 4) rfl (Z := 4 * z176.toInt) (by omega) (by omega) (by omega)) (fun z287 h288 => ?_)
                refine En_Ps 1 (pc' := 122) (lv' := [(2, .int z276), (1, .int z176), (0, .ref 159)]) (st' := [.int (((((Int8.ofInt 10).toInt32)) + z287)), .ref 165]) rfl ?_
                refine En_top (addI (by decide : ((Int8.ofInt 10).toInt32).toInt = 10) rfl (by omega) (by omega)) (fun z289 h290 => ?_)
                refine En_Ps 2 (pc' := 124) (lv' := [(2, .int z276), (1, .int z176), (0, .ref 159)]) (st' := [.int ((z289 + ((Int32.ofInt 3)))), .ref 165]) rfl ?_
                refine En_top (addI rfl (by decide : (Int32.ofInt 3).toInt = 3) (by omega) (by omega)) (fun z291 h292 => ?_)
                refine En_Ps 1 (pc' := 125) (lv' := [(2, .int z276), (1, .int z176), (0, .ref 159)]) (st' := [.int z276, .int z291, .ref 165]) rfl ?_
                refine En_iast (l := (-1)) (u := 3) rfl rfl (by decide +kernel : TG 165 = 41) (by decide +kernel) (by omega) (lnI (by decide +kernel : LN _ = 226) (by omega)) (FTrow 41 13 4 4 (by decide +kernel) (by omega) (by omega) (by omega)) (rngI rfl (by omega) (by omega)) h269 h277 (by decide +kernel) (fun σ293 h294 h295 h296 h297 => ?_)
                have h298 := KF_st h278 (J := z291.toInt) h297 (by omega) (by omega)
                exact En_ret (v := none) rfl rfl rfl ⟨h294, h295, z272, ((h297 _ _ (Or.inl (neTG (by decide +kernel : TG 159 = 35) (by decide +kernel : TG 165 = 41) (by decide)))).trans h273), z274, ((h297 _ _ (Or.inl (neTG (by decide +kernel : TG 159 = 35) (by decide +kernel : TG 165 = 41) (by decide)))).trans h275), rfl, ⟨by omega, by omega, by omega, by omega, by omega, by omega, by omega, by omega, by omega, by omega, by omega, by omega, by omega, by omega, h298⟩⟩
            · refine En_Ps 2 (pc' := 88) (lv' := [(1, .int z176), (0, .ref 159)]) (st' := [.int ((Int32.ofInt 2)), .ref 159]) rfl ?_
              have := (by decide : ((Int32.ofInt 2)).toInt = 2)
              refine En_callV rfl rfl rfl rfl rfl rfl rfl rfl (by decide +kernel : TG 159 = 35) (by decide +kernel) rfl (c_223 σ168 h169 ((Int32.ofInt 2)) (geI (by decide : (Int32.ofInt 2).toInt = 2) (by omega)) (leI (by decide : (Int32.ofInt 2).toInt = 2) (by omega)) z174 h175) (by decide) (by decide) (fun v300 σ301 h299 => ?_)
              obtain ⟨h302, h303, z305, h306, rfl, h304⟩ := h299
              have h307 := Fr_trans h177 h303 (by decide +kernel)
              have h308 := KF_fr h178 h303 (by decide +kernel)
              refine En_Ps 3 (pc' := 94) (lv' := [(1, .int z176), (0, .ref 159)]) (st' := [.ref 159, .int ((Int32.ofInt 0)), .ref 159]) rfl ?_
              refine En_getK (j := 14) ((h303 _ _ (inW (by decide +kernel : TG 159 = 35) (by decide +kernel))).trans ((h170 _ _ (inW (by decide +kernel : TG 159 = 35) (by decide +kernel))).trans h1)) rfl rfl rfl (by decide +kernel : TG 159 = 35) (by decide +kernel) ?_
              refine En_Ps 1 (pc' := 98) (lv' := [(1, .int z176), (0, .ref 159)]) (st' := [.int ((Int32.ofInt 2)), .ref 165, .int ((Int32.ofInt 0)), .ref 159]) rfl ?_
              refine En_ialdK ((h303 _ _ (inWa (by decide +kernel : TG 165 = 41) (by decide +kernel))).trans ((h170 _ _ (inWa (by decide +kernel : TG 165 = 41) (by decide +kernel))).trans h3)) rfl (by decide : (Int32.ofInt 2).toInt = 2) (by decide +kernel : TG 165 = 41) (by decide +kernel) h302 (by omega) (lnI (by decide +kernel : LN _ = 226) (by omega)) ?_
              refine En_Ps 2 (pc' := 101) (lv' := [(1, .int z176), (0, .ref 159)]) (st' := [.int ((z4 - ((Int32.ofInt 1)))), .int ((Int32.ofInt 0)), .ref 159]) rfl ?_
              refine En_top (subI rfl (by decide : (Int32.ofInt 1).toInt = 1) (by omega) (by omega)) (fun z310 h311 => ?_)
              have := (by decide : ((Int32.ofInt 0)).toInt = 0)
              refine En_callV rfl rfl rfl rfl rfl rfl rfl rfl (by decide +kernel : TG 159 = 35) (by decide +kernel) rfl (c_288 σ301 h302 ((Int32.ofInt 0)) z310 z172 ((h303 _ _ (inW (by decide +kernel : TG 159 = 35) (by decide +kernel))).trans h173) z305 h306 z181 ((h303 _ _ (inW (by decide +kernel : TG 159 = 35) (by decide +kernel))).trans h180) z185 ((h303 _ _ (inW (by decide +kernel : TG 159 = 35) (by decide +kernel))).trans h184)) (by decide) (by decide) (fun v313 σ314 h312 => ?_)
              obtain ⟨h315, h316, z318, h319, z320, h321, z322, rfl, h317⟩ := h312
              have h323 := Fr_trans h307 h316 (by decide +kernel)
              have h324 := KF_fr h308 h316 (by decide +kernel)
              refine En_Ps 2 (pc' := 106) (lv' := [(2, .int z322), (1, .int z176), (0, .ref 159)]) (st' := [.ref 159]) rfl ?_
              refine En_callV rfl rfl rfl rfl rfl rfl rfl rfl (by decide +kernel : TG 159 = 35) (by decide +kernel) rfl (c_237 σ314 h315 z320 h321) (by decide) (by decide) (fun v326 σ327 h325 => ?_)
              obtain ⟨h328, h329, z331, rfl, h330⟩ := h325
              obtain rfl : σ314 = σ327 := Fr_nil h329
              refine En_iEq _ rfl rfl (fun h332 => ?_) (fun hx => by exfalso; omega)
              exact En_ret (v := none) rfl rfl rfl ⟨h315, h323, z318, h319, z320, h321, rfl, ⟨by omega, by omega, by omega, by omega, by omega, by omega, by omega, by omega, by omega, by omega, by omega, by omega, by omega, by omega, h324⟩⟩
      · refine En_Ps 2 (pc' := 37) (lv' := [(0, .ref 159)]) (st' := [.int ((Int32.ofInt 2)), .ref 159]) rfl ?_
        have := (by decide : ((Int32.ofInt 2)).toInt = 2)
        refine En_callV rfl rfl rfl rfl rfl rfl rfl rfl (by decide +kernel : TG 159 = 35) (by decide +kernel) rfl (c_223 σ0 hσ0 ((Int32.ofInt 2)) (geI (by decide : (Int32.ofInt 2).toInt = 2) (by omega)) (leI (by decide : (Int32.ofInt 2).toInt = 2) (by omega)) k h_k) (by decide) (by decide) (fun v334 σ335 h333 => ?_)
        obtain ⟨h336, h337, z339, h340, rfl, h338⟩ := h333
        have h341 := Fr_trans hF0 h337 (by decide +kernel)
        have h342 := KF_fr (KF_0 (σ := σ0)) h337 (by decide +kernel)
        refine En_Ps 3 (pc' := 43) (lv' := [(0, .ref 159)]) (st' := [.ref 159, .int ((Int32.ofInt 0)), .ref 159]) rfl ?_
        refine En_getK (j := 14) ((h337 _ _ (inW (by decide +kernel : TG 159 = 35) (by decide +kernel))).trans h1) rfl rfl rfl (by decide +kernel : TG 159 = 35) (by decide +kernel) ?_
        refine En_Ps 1 (pc' := 47) (lv' := [(0, .ref 159)]) (st' := [.int ((Int32.ofInt 2)), .ref 165, .int ((Int32.ofInt 0)), .ref 159]) rfl ?_
        refine En_ialdK ((h337 _ _ (inWa (by decide +kernel : TG 165 = 41) (by decide +kernel))).trans h3) rfl (by decide : (Int32.ofInt 2).toInt = 2) (by decide +kernel : TG 165 = 41) (by decide +kernel) h336 (by omega) (lnI (by decide +kernel : LN _ = 226) (by omega)) ?_
        refine En_Ps 2 (pc' := 50) (lv' := [(0, .ref 159)]) (st' := [.int ((z4 - ((Int32.ofInt 1)))), .int ((Int32.ofInt 0)), .ref 159]) rfl ?_
        refine En_top (subI rfl (by decide : (Int32.ofInt 1).toInt = 1) (by omega) (by omega)) (fun z344 h345 => ?_)
        have := (by decide : ((Int32.ofInt 0)).toInt = 0)
        refine En_callV rfl rfl rfl rfl rfl rfl rfl rfl (by decide +kernel : TG 159 = 35) (by decide +kernel) rfl (c_288 σ335 h336 ((Int32.ofInt 0)) z344 f ((h337 _ _ (inW (by decide +kernel : TG 159 = 35) (by decide +kernel))).trans h_f) z339 h340 z8 ((h337 _ _ (inW (by decide +kernel : TG 159 = 35) (by decide +kernel))).trans h7) z12 ((h337 _ _ (inW (by decide +kernel : TG 159 = 35) (by decide +kernel))).trans h11)) (by decide) (by decide) (fun v347 σ348 h346 => ?_)
        obtain ⟨h349, h350, z352, h353, z354, h355, z356, rfl, h351⟩ := h346
        have h357 := Fr_trans h341 h350 (by decide +kernel)
        have h358 := KF_fr h342 h350 (by decide +kernel)
        refine En_Ps 3 (pc' := 56) (lv' := [(1, .int z356), (0, .ref 159)]) (st' := [.ref 159, .ref 159]) rfl ?_
        refine En_getK (j := 14) ((h350 _ _ (inW (by decide +kernel : TG 159 = 35) (by decide +kernel))).trans ((h337 _ _ (inW (by decide +kernel : TG 159 = 35) (by decide +kernel))).trans h1)) rfl rfl rfl (by decide +kernel : TG 159 = 35) (by decide +kernel) ?_
        refine En_Ps 1 (pc' := 60) (lv' := [(1, .int z356), (0, .ref 159)]) (st' := [.int ((Int32.ofInt 2)), .ref 165, .ref 159]) rfl ?_
        refine En_ialdK ((h350 _ _ (inWa (by decide +kernel : TG 165 = 41) (by decide +kernel))).trans ((h337 _ _ (inWa (by decide +kernel : TG 165 = 41) (by decide +kernel))).trans h3)) rfl (by decide : (Int32.ofInt 2).toInt = 2) (by decide +kernel : TG 165 = 41) (by decide +kernel) h349 (by omega) (lnI (by decide +kernel : LN _ = 226) (by omega)) ?_
        obtain ⟨z361, h360, h362, h363⟩ := WT_peekI h349 (by decide +kernel : TG 159 = 35) (by decide +kernel : FT 35 10 = (0, 0, 4)) (by decide +kernel)
        obtain ⟨z365, h364, h366, h367⟩ := WT_peekI h349 (by decide +kernel : TG 159 = 35) (by decide +kernel : FT 35 11 = (0, 0, 99999)) (by decide +kernel)
        refine En_callV rfl rfl rfl rfl rfl rfl rfl rfl (by decide +kernel : TG 159 = 35) (by decide +kernel) rfl (c_260 σ348 h349 z4 z354 h355 z361 h360 z365 h364) (by decide) (by decide) (fun v369 σ370 h368 => ?_)
        obtain ⟨h371, h372, z374, rfl, h373⟩ := h368
        obtain rfl : σ348 = σ370 := Fr_nil h372
        refine En_iEq _ rfl rfl (fun h375 => ?_) (fun hx => by exfalso; omega)
        refine En_Ps 3 (pc' := 94) (lv' := [(1, .int z356), (0, .ref 159)]) (st' := [.ref 159, .int ((Int32.ofInt 0)), .ref 159]) rfl ?_
        refine En_getK (j := 14) ((h350 _ _ (inW (by decide +kernel : TG 159 = 35) (by decide +kernel))).trans ((h337 _ _ (inW (by decide +kernel : TG 159 = 35) (by decide +kernel))).trans h1)) rfl rfl rfl (by decide +kernel : TG 159 = 35) (by decide +kernel) ?_
        refine En_Ps 1 (pc' := 98) (lv' := [(1, .int z356), (0, .ref 159)]) (st' := [.int ((Int32.ofInt 2)), .ref 165, .int ((Int32.ofInt 0)), .ref 159]) rfl ?_
        refine En_ialdK ((h350 _ _ (inWa (by decide +kernel : TG 165 = 41) (by decide +kernel))).trans ((h337 _ _ (inWa (by decide +kernel : TG 165 = 41) (by decide +kernel))).trans h3)) rfl (by decide : (Int32.ofInt 2).toInt = 2) (by decide +kernel : TG 165 = 41) (by decide +kernel) h349 (by omega) (lnI (by decide +kernel : LN _ = 226) (by omega)) ?_
        refine En_Ps 2 (pc' := 101) (lv' := [(1, .int z356), (0, .ref 159)]) (st' := [.int ((z4 - ((Int32.ofInt 1)))), .int ((Int32.ofInt 0)), .ref 159]) rfl ?_
        refine En_top (subI rfl (by decide : (Int32.ofInt 1).toInt = 1) (by omega) (by omega)) (fun z377 h378 => ?_)
        have := (by decide : ((Int32.ofInt 0)).toInt = 0)
        refine En_callV rfl rfl rfl rfl rfl rfl rfl rfl (by decide +kernel : TG 159 = 35) (by decide +kernel) rfl (c_288 σ348 h349 ((Int32.ofInt 0)) z377 z352 h353 z354 h355 z361 h360 z365 h364) (by decide) (by decide) (fun v380 σ381 h379 => ?_)
        obtain ⟨h382, h383, z385, h386, z387, h388, z389, rfl, h384⟩ := h379
        have h390 := Fr_trans h357 h383 (by decide +kernel)
        have h391 := KF_fr h358 h383 (by decide +kernel)
        refine En_Ps 2 (pc' := 106) (lv' := [(2, .int z389), (1, .int z356), (0, .ref 159)]) (st' := [.ref 159]) rfl ?_
        refine En_callV rfl rfl rfl rfl rfl rfl rfl rfl (by decide +kernel : TG 159 = 35) (by decide +kernel) rfl (c_237 σ381 h382 z387 h388) (by decide) (by decide) (fun v393 σ394 h392 => ?_)
        obtain ⟨h395, h396, z398, rfl, h397⟩ := h392
        obtain rfl : σ381 = σ394 := Fr_nil h396
        refine En_iEq _ rfl rfl (fun h399 => ?_) (fun hx => by exfalso; omega)
        exact En_ret (v := none) rfl rfl rfl ⟨h382, h390, z385, h386, z387, h388, rfl, ⟨by omega, by omega, by omega, by omega, by omega, by omega, by omega, by omega, by omega, by omega, by omega, by omega, by omega, by omega, h391⟩⟩
/-- DoorSchoolModel.readRule(I)V -/
abbrev P_303a (σ0 : SG) (a : Int32) (f : Int32) (k : Int32) : PO := fun v σ => WT σ ∧ Fr [(35, 8), (35, 9), (35, 10), (35, 11), (35, 12), (35, 13), (41, 0)] σ0 σ ∧ ∃ f1 : Int32, (σ 159)[8]? = some (.int f1) ∧ ∃ k1 : Int32, (σ 159)[12]? = some (.int k1) ∧ v = none ∧ -f1.toInt ≤ 0 ∧ f1.toInt - 1600 ≤ 0 ∧ -f1.toInt + f.toInt ≤ 0 ∧ f1.toInt - f.toInt - 1600 ≤ 0 ∧ -f1.toInt + k.toInt - 3 ≤ 0 ∧ f1.toInt - k.toInt - 1600 ≤ 0 ∧ -k1.toInt ≤ 0 ∧ k1.toInt - 3 ≤ 0 ∧ -k1.toInt + f.toInt - 1600 ≤ 0 ∧ k1.toInt - f.toInt - 3 ≤ 0 ∧ -k1.toInt + k.toInt ≤ 0 ∧ k1.toInt - k.toInt - 3 ≤ 0 ∧ f.toInt - f1.toInt ≤ 0 ∧ (k1.toInt ≤ 0 → k.toInt ≤ 0) ∧ KR σ0 σ
set_option maxRecDepth 10000 in
set_option maxHeartbeats 4000000 in
theorem c_303a (σ0 : SG) (hσ0 : WT σ0) (a : Int32) (hl_a : 8 ≤ a.toInt) (hu_a : a.toInt ≤ 8) (f : Int32) (h_f : (σ0 159)[8]? = some (.int f)) (k : Int32) (h_k : (σ0 159)[12]? = some (.int k)) : En 4 89 none mr_303 (P_303a σ0 a f k) 0 [(0, .ref 159), (1, .int a)] [] σ0 := by
  obtain ⟨hl_f, hu_f⟩ := WT_int hσ0 (g := 35) (by decide +kernel) (by decide +kernel) (l := 0) (u := 1600) (by decide +kernel) h_f
  obtain ⟨hl_k, hu_k⟩ := WT_int hσ0 (g := 35) (by decide +kernel) (by decide +kernel) (l := 0) (u := 3) (by decide +kernel) h_k
  have hF0 : Fr [(35, 8), (35, 9), (35, 10), (35, 11), (35, 12), (35, 13), (41, 0)] σ0 σ0 := Fr_rfl
  refine En_Ps 1 (pc' := 1) (lv' := [(0, .ref 159), (1, .int a)]) (st' := [.ref 159]) rfl ?_
  refine En_callV rfl rfl rfl rfl rfl rfl rfl rfl (by decide +kernel : TG 159 = 35) (by decide +kernel) rfl (c_234 σ0 hσ0 f h_f k h_k) (by decide) (by decide) (fun v2 σ3 h1 => ?_)
  obtain ⟨h4, h5, z7, h8, z9, h10, z11, rfl, h6⟩ := h1
  have h12 := Fr_trans hF0 h5 (by decide +kernel)
  have h13 := KR_fr (KR_0 (σ := σ0)) h5 (by decide +kernel)
  refine En_Ps 2 (pc' := 6) (lv' := [(2, .int z11), (0, .ref 159), (1, .int a)]) (st' := [.ref 159]) rfl ?_
  refine En_callV rfl rfl rfl rfl rfl rfl rfl rfl (by decide +kernel : TG 159 = 35) (by decide +kernel) rfl (c_237 σ3 h4 z9 h10) (by decide) (by decide) (fun v15 σ16 h14 => ?_)
  obtain ⟨h17, h18, z20, rfl, h19⟩ := h14
  obtain rfl : σ3 = σ16 := Fr_nil h18
  refine En_iEq _ rfl rfl (fun h21 => ?_) (fun h21 => ?_)
  · refine En_Ps 1 (pc' := 37) (lv' := [(2, .int z11), (0, .ref 159), (1, .int a)]) (st' := [.ref 159]) rfl ?_
    refine En_callV rfl rfl rfl rfl rfl rfl rfl rfl (by decide +kernel : TG 159 = 35) (by decide +kernel) rfl (c_234 σ3 h4 z7 h8 z9 h10) (by decide) (by decide) (fun v23 σ24 h22 => ?_)
    obtain ⟨h25, h26, z28, h29, z30, h31, z32, rfl, h27⟩ := h22
    have h33 := Fr_trans h12 h26 (by decide +kernel)
    have h34 := KR_fr h13 h26 (by decide +kernel)
    refine En_Ps 2 (pc' := 42) (lv' := [(3, .int z32), (2, .int z11), (0, .ref 159), (1, .int a)]) (st' := [.ref 159]) rfl ?_
    refine En_callV rfl rfl rfl rfl rfl rfl rfl rfl (by decide +kernel : TG 159 = 35) (by decide +kernel) rfl (c_237 σ24 h25 z30 h31) (by decide) (by decide) (fun v36 σ37 h35 => ?_)
    obtain ⟨h38, h39, z41, rfl, h40⟩ := h35
    obtain rfl : σ24 = σ37 := Fr_nil h39
    refine En_iNe _ rfl rfl (fun hx => by exfalso; omega) (fun h42 => ?_)
    exact En_ret (v := none) rfl rfl rfl ⟨h25, h33, z28, h29, z30, h31, rfl, ⟨by omega, by omega, by omega, by omega, by omega, by omega, by omega, by omega, by omega, by omega, by omega, by omega, by omega, by omega, h34⟩⟩
  · refine En_Ps 1 (pc' := 13) (lv' := [(2, .int z11), (0, .ref 159), (1, .int a)]) (st' := [.ref 159]) rfl ?_
    refine En_getI (j := 10) (l := 0) (u := 4) rfl rfl rfl (by decide +kernel : TG 159 = 35) (by decide +kernel) h4 (by decide +kernel) (fun z44 h43 h45 h46 => ?_)
    refine En_Ps 1 (pc' := 17) (lv' := [(2, .int z11), (0, .ref 159), (1, .int a)]) (st' := [.int ((Int32.ofInt 2)), .int z44]) rfl ?_
    refine En_icNe _ rfl (by decide : (Int32.ofInt 2).toInt = 2) rfl (fun h47 => ?_) (fun h47 => ?_)
    · refine En_Ps 1 (pc' := 37) (lv' := [(2, .int z11), (0, .ref 159), (1, .int a)]) (st' := [.ref 159]) rfl ?_
      refine En_callV rfl rfl rfl rfl rfl rfl rfl rfl (by decide +kernel : TG 159 = 35) (by decide +kernel) rfl (c_234 σ3 h4 z7 h8 z9 h10) (by decide) (by decide) (fun v49 σ50 h48 => ?_)
      obtain ⟨h51, h52, z54, h55, z56, h57, z58, rfl, h53⟩ := h48
      have h59 := Fr_trans h12 h52 (by decide +kernel)
      have h60 := KR_fr h13 h52 (by decide +kernel)
      refine En_Ps 2 (pc' := 42) (lv' := [(3, .int z58), (2, .int z11), (0, .ref 159), (1, .int a)]) (st' := [.ref 159]) rfl ?_
      refine En_callV rfl rfl rfl rfl rfl rfl rfl rfl (by decide +kernel : TG 159 = 35) (by decide +kernel) rfl (c_237 σ50 h51 z56 h57) (by decide) (by decide) (fun v62 σ63 h61 => ?_)
      obtain ⟨h64, h65, z67, rfl, h66⟩ := h61
      obtain rfl : σ50 = σ63 := Fr_nil h65
      refine En_iNe _ rfl rfl (fun h68 => ?_) (fun h68 => ?_)
      · refine En_Ps 1 (pc' := 50) (lv' := [(3, .int z58), (2, .int z11), (0, .ref 159), (1, .int a)]) (st' := [.ref 159]) rfl ?_
        refine En_getU (j := 14) (u := 165) (g' := 41) (q := 0) rfl rfl rfl (by decide +kernel : TG 159 = 35) (by decide +kernel) h51 (by decide +kernel) (by decide +kernel) (fun h69 => ?_)
        refine En_Ps 2 (pc' := 55) (lv' := [(3, .int z58), (2, .int z11), (0, .ref 159), (1, .int a)]) (st' := [.int z11, .int a, .ref 165]) rfl ?_
        refine En_iast (l := 0) (u := 15) rfl rfl (by decide +kernel : TG 165 = 41) (by decide +kernel) (by omega) (lnI (by decide +kernel : LN _ = 226) (by omega)) (FTrow 41 8 1 1 (by decide +kernel) (by omega) (by omega) (by omega)) (rngI rfl (by omega) (by omega)) h51 h59 (by decide +kernel) (fun σ71 h72 h73 h74 h75 => ?_)
        have h76 := KR_st h60 (J := a.toInt) h75 (by omega)
        refine En_Ps 1 (pc' := 57) (lv' := [(3, .int z58), (2, .int z11), (0, .ref 159), (1, .int a)]) (st' := [.ref 159]) rfl ?_
        refine En_getK (j := 14) ((h75 _ _ (Or.inl (neTG (by decide +kernel : TG 159 = 35) (by decide +kernel : TG 165 = 41) (by decide)))).trans h69) rfl rfl rfl (by decide +kernel : TG 159 = 35) (by decide +kernel) ?_
        refine En_Ps 3 (pc' := 63) (lv' := [(3, .int z58), (2, .int z11), (0, .ref 159), (1, .int a)]) (st' := [.int ((a + ((Int32.ofInt 1)))), .ref 165]) rfl ?_
        refine En_top (addI rfl (by decide : (Int32.ofInt 1).toInt = 1) (by omega) (by omega)) (fun z77 h78 => ?_)
        refine En_Ps 1 (pc' := 64) (lv' := [(3, .int z58), (2, .int z11), (0, .ref 159), (1, .int a)]) (st' := [.int z58, .int z77, .ref 165]) rfl ?_
        refine En_iast (l := 0) (u := 15) rfl rfl (by decide +kernel : TG 165 = 41) (by decide +kernel) (by omega) (lnI (by decide +kernel : LN _ = 226) (by omega)) (FTrow 41 9 1 1 (by decide +kernel) (by omega) (by omega) (by omega)) (rngI rfl (by omega) (by omega)) h72 h73 (by decide +kernel) (fun σ79 h80 h81 h82 h83 => ?_)
        have h84 := KR_st h76 (J := z77.toInt) h83 (by omega)
        exact En_ret (v := none) rfl rfl rfl ⟨h80, h81, z54, ((h83 _ _ (Or.inl (neTG (by decide +kernel : TG 159 = 35) (by decide +kernel : TG 165 = 41) (by decide)))).trans ((h75 _ _ (Or.inl (neTG (by decide +kernel : TG 159 = 35) (by decide +kernel : TG 165 = 41) (by decide)))).trans h55)), z56, ((h83 _ _ (Or.inl (neTG (by decide +kernel : TG 159 = 35) (by decide +kernel : TG 165 = 41) (by decide)))).trans ((h75 _ _ (Or.inl (neTG (by decide +kernel : TG 159 = 35) (by decide +kernel : TG 165 = 41) (by decide)))).trans h57)), rfl, ⟨by omega, by omega, by omega, by omega, by omega, by omega, by omega, by omega, by omega, by omega, by omega, by omega, by omega, by omega, h84⟩⟩
      · exact En_ret (v := none) rfl rfl rfl ⟨h51, h59, z54, h55, z56, h57, rfl, ⟨by omega, by omega, by omega, by omega, by omega, by omega, by omega, by omega, by omega, by omega, by omega, by omega, by omega, by omega, h60⟩⟩
    · refine En_Ps 1 (pc' := 21) (lv' := [(2, .int z11), (0, .ref 159), (1, .int a)]) (st' := [.ref 159]) rfl ?_
      refine En_getI (j := 11) (l := 0) (u := 99999) rfl rfl rfl (by decide +kernel : TG 159 = 35) (by decide +kernel) h4 (by decide +kernel) (fun z86 h85 h87 h88 => ?_)
      refine En_Ps 3 (pc' := 27) (lv' := [(2, .int z11), (0, .ref 159), (1, .int a)]) (st' := [.int ((z11 ^^^ ((Int32.ofInt (-1))))), .int z86]) rfl ?_
      refine En_nam (fun z89 h90 => ?_)
      refine En_Ps 1 (pc' := 28) (lv' := [(2, .int z11), (0, .ref 159), (1, .int a)]) (st' := [.int ((z86 &&& z89))]) rfl ?_
      refine En_nam (fun z91 h92 => ?_)
      obtain ⟨h93, h94⟩ := andn_rng h92 rfl (by omega) (by omega : _ ≤ (99999 : Int))
      refine En_iEq _ rfl rfl (fun h95 => ?_) (fun h95 => ?_)
      · obtain ⟨h96, h97⟩ := andn_zero h92 h90 h95 rfl rfl (by omega)
        refine En_Ps 1 (pc' := 37) (lv' := [(2, .int z11), (0, .ref 159), (1, .int a)]) (st' := [.ref 159]) rfl ?_
        refine En_callV rfl rfl rfl rfl rfl rfl rfl rfl (by decide +kernel : TG 159 = 35) (by decide +kernel) rfl (c_234 σ3 h4 z7 h8 z9 h10) (by decide) (by decide) (fun v99 σ100 h98 => ?_)
        obtain ⟨h101, h102, z104, h105, z106, h107, z108, rfl, h103⟩ := h98
        have h109 := Fr_trans h12 h102 (by decide +kernel)
        have h110 := KR_fr h13 h102 (by decide +kernel)
        refine En_Ps 2 (pc' := 42) (lv' := [(3, .int z108), (2, .int z11), (0, .ref 159), (1, .int a)]) (st' := [.ref 159]) rfl ?_
        refine En_callV rfl rfl rfl rfl rfl rfl rfl rfl (by decide +kernel : TG 159 = 35) (by decide +kernel) rfl (c_237 σ100 h101 z106 h107) (by decide) (by decide) (fun v112 σ113 h111 => ?_)
        obtain ⟨h114, h115, z117, rfl, h116⟩ := h111
        obtain rfl : σ100 = σ113 := Fr_nil h115
        refine En_iNe _ rfl rfl (fun h118 => ?_) (fun h118 => ?_)
        · refine En_Ps 1 (pc' := 50) (lv' := [(3, .int z108), (2, .int z11), (0, .ref 159), (1, .int a)]) (st' := [.ref 159]) rfl ?_
          refine En_getU (j := 14) (u := 165) (g' := 41) (q := 0) rfl rfl rfl (by decide +kernel : TG 159 = 35) (by decide +kernel) h101 (by decide +kernel) (by decide +kernel) (fun h119 => ?_)
          refine En_Ps 2 (pc' := 55) (lv' := [(3, .int z108), (2, .int z11), (0, .ref 159), (1, .int a)]) (st' := [.int z11, .int a, .ref 165]) rfl ?_
          refine En_iast (l := 0) (u := 15) rfl rfl (by decide +kernel : TG 165 = 41) (by decide +kernel) (by omega) (lnI (by decide +kernel : LN _ = 226) (by omega)) (FTrow 41 8 1 1 (by decide +kernel) (by omega) (by omega) (by omega)) (rngI rfl (by omega) (by omega)) h101 h109 (by decide +kernel) (fun σ121 h122 h123 h124 h125 => ?_)
          have h126 := KR_st h110 (J := a.toInt) h125 (by omega)
          refine En_Ps 1 (pc' := 57) (lv' := [(3, .int z108), (2, .int z11), (0, .ref 159), (1, .int a)]) (st' := [.ref 159]) rfl ?_
          refine En_getK (j := 14) ((h125 _ _ (Or.inl (neTG (by decide +kernel : TG 159 = 35) (by decide +kernel : TG 165 = 41) (by decide)))).trans h119) rfl rfl rfl (by decide +kernel : TG 159 = 35) (by decide +kernel) ?_
          refine En_Ps 3 (pc' := 63) (lv' := [(3, .int z108), (2, .int z11), (0, .ref 159), (1, .int a)]) (st' := [.int ((a + ((Int32.ofInt 1)))), .ref 165]) rfl ?_
          refine En_top (addI rfl (by decide : (Int32.ofInt 1).toInt = 1) (by omega) (by omega)) (fun z127 h128 => ?_)
          refine En_Ps 1 (pc' := 64) (lv' := [(3, .int z108), (2, .int z11), (0, .ref 159), (1, .int a)]) (st' := [.int z108, .int z127, .ref 165]) rfl ?_
          refine En_iast (l := 0) (u := 15) rfl rfl (by decide +kernel : TG 165 = 41) (by decide +kernel) (by omega) (lnI (by decide +kernel : LN _ = 226) (by omega)) (FTrow 41 9 1 1 (by decide +kernel) (by omega) (by omega) (by omega)) (rngI rfl (by omega) (by omega)) h122 h123 (by decide +kernel) (fun σ129 h130 h131 h132 h133 => ?_)
          have h134 := KR_st h126 (J := z127.toInt) h133 (by omega)
          exact En_ret (v := none) rfl rfl rfl ⟨h130, h131, z104, ((h133 _ _ (Or.inl (neTG (by decide +kernel : TG 159 = 35) (by decide +kernel : TG 165 = 41) (by decide)))).trans ((h125 _ _ (Or.inl (neTG (by decide +kernel : TG 159 = 35) (by decide +kernel : TG 165 = 41) (by decide)))).trans h105)), z106, ((h133 _ _ (Or.inl (neTG (by decide +kernel : TG 159 = 35) (by decide +kernel : TG 165 = 41) (by decide)))).trans ((h125 _ _ (Or.inl (neTG (by decide +kernel : TG 159 = 35) (by decide +kernel : TG 165 = 41) (by decide)))).trans h107)), rfl, ⟨by omega, by omega, by omega, by omega, by omega, by omega, by omega, by omega, by omega, by omega, by omega, by omega, by omega, by omega, h134⟩⟩
        · exact En_ret (v := none) rfl rfl rfl ⟨h101, h109, z104, h105, z106, h107, rfl, ⟨by omega, by omega, by omega, by omega, by omega, by omega, by omega, by omega, by omega, by omega, by omega, by omega, by omega, by omega, h110⟩⟩
      · refine En_Ps 2 (pc' := 33) (lv' := [(2, .int z11), (0, .ref 159), (1, .int a)]) (st' := [.int ((Int32.ofInt 2)), .ref 159]) rfl ?_
        have := (by decide : ((Int32.ofInt 2)).toInt = 2)
        refine En_callV rfl rfl rfl rfl rfl rfl rfl rfl (by decide +kernel : TG 159 = 35) (by decide +kernel) rfl (c_223 σ3 h4 ((Int32.ofInt 2)) (geI (by decide : (Int32.ofInt 2).toInt = 2) (by omega)) (leI (by decide : (Int32.ofInt 2).toInt = 2) (by omega)) z9 h10) (by decide) (by decide) (fun v136 σ137 h135 => ?_)
        obtain ⟨h138, h139, z141, h142, rfl, h140⟩ := h135
        have h143 := Fr_trans h12 h139 (by decide +kernel)
        have h144 := KR_fr h13 h139 (by decide +kernel)
        refine En_Ps 1 (pc' := 37) (lv' := [(2, .int z11), (0, .ref 159), (1, .int a)]) (st' := [.ref 159]) rfl ?_
        refine En_callV rfl rfl rfl rfl rfl rfl rfl rfl (by decide +kernel : TG 159 = 35) (by decide +kernel) rfl (c_234 σ137 h138 z7 ((h139 _ _ (inW (by decide +kernel : TG 159 = 35) (by decide +kernel))).trans h8) z141 h142) (by decide) (by decide) (fun v146 σ147 h145 => ?_)
        obtain ⟨h148, h149, z151, h152, z153, h154, z155, rfl, h150⟩ := h145
        have h156 := Fr_trans h143 h149 (by decide +kernel)
        have h157 := KR_fr h144 h149 (by decide +kernel)
        refine En_Ps 2 (pc' := 42) (lv' := [(3, .int z155), (2, .int z11), (0, .ref 159), (1, .int a)]) (st' := [.ref 159]) rfl ?_
        refine En_callV rfl rfl rfl rfl rfl rfl rfl rfl (by decide +kernel : TG 159 = 35) (by decide +kernel) rfl (c_237 σ147 h148 z153 h154) (by decide) (by decide) (fun v159 σ160 h158 => ?_)
        obtain ⟨h161, h162, z164, rfl, h163⟩ := h158
        obtain rfl : σ147 = σ160 := Fr_nil h162
        refine En_iNe _ rfl rfl (fun hx => by exfalso; omega) (fun h165 => ?_)
        exact En_ret (v := none) rfl rfl rfl ⟨h148, h156, z151, h152, z153, h154, rfl, ⟨by omega, by omega, by omega, by omega, by omega, by omega, by omega, by omega, by omega, by omega, by omega, by omega, by omega, by omega, h157⟩⟩
/-- DoorSchoolModel.readRule(I)V -/
abbrev P_303b (σ0 : SG) (a : Int32) (f : Int32) (k : Int32) : PO := fun v σ => WT σ ∧ Fr [(35, 8), (35, 9), (35, 10), (35, 11), (35, 12), (35, 13), (41, 0)] σ0 σ ∧ ∃ f1 : Int32, (σ 159)[8]? = some (.int f1) ∧ ∃ k1 : Int32, (σ 159)[12]? = some (.int k1) ∧ v = none ∧ -f1.toInt ≤ 0 ∧ f1.toInt - 1600 ≤ 0 ∧ -f1.toInt + f.toInt ≤ 0 ∧ f1.toInt - f.toInt - 1600 ≤ 0 ∧ -f1.toInt + k.toInt - 3 ≤ 0 ∧ f1.toInt - k.toInt - 1600 ≤ 0 ∧ -k1.toInt ≤ 0 ∧ k1.toInt - 3 ≤ 0 ∧ -k1.toInt + f.toInt - 1600 ≤ 0 ∧ k1.toInt - f.toInt - 3 ≤ 0 ∧ -k1.toInt + k.toInt ≤ 0 ∧ k1.toInt - k.toInt - 3 ≤ 0 ∧ f.toInt - f1.toInt ≤ 0 ∧ (k1.toInt ≤ 0 → k.toInt ≤ 0) ∧ KR σ0 σ
set_option maxRecDepth 10000 in
set_option maxHeartbeats 4000000 in
theorem c_303b (σ0 : SG) (hσ0 : WT σ0) (a : Int32) (hl_a : 146 ≤ a.toInt) (hu_a : a.toInt ≤ 152) (f : Int32) (h_f : (σ0 159)[8]? = some (.int f)) (k : Int32) (h_k : (σ0 159)[12]? = some (.int k)) : En 4 89 none mr_303 (P_303b σ0 a f k) 0 [(0, .ref 159), (1, .int a)] [] σ0 := by
  obtain ⟨hl_f, hu_f⟩ := WT_int hσ0 (g := 35) (by decide +kernel) (by decide +kernel) (l := 0) (u := 1600) (by decide +kernel) h_f
  obtain ⟨hl_k, hu_k⟩ := WT_int hσ0 (g := 35) (by decide +kernel) (by decide +kernel) (l := 0) (u := 3) (by decide +kernel) h_k
  have hF0 : Fr [(35, 8), (35, 9), (35, 10), (35, 11), (35, 12), (35, 13), (41, 0)] σ0 σ0 := Fr_rfl
  refine En_Ps 1 (pc' := 1) (lv' := [(0, .ref 159), (1, .int a)]) (st' := [.ref 159]) rfl ?_
  refine En_callV rfl rfl rfl rfl rfl rfl rfl rfl (by decide +kernel : TG 159 = 35) (by decide +kernel) rfl (c_234 σ0 hσ0 f h_f k h_k) (by decide) (by decide) (fun v2 σ3 h1 => ?_)
  obtain ⟨h4, h5, z7, h8, z9, h10, z11, rfl, h6⟩ := h1
  have h12 := Fr_trans hF0 h5 (by decide +kernel)
  have h13 := KR_fr (KR_0 (σ := σ0)) h5 (by decide +kernel)
  refine En_Ps 2 (pc' := 6) (lv' := [(2, .int z11), (0, .ref 159), (1, .int a)]) (st' := [.ref 159]) rfl ?_
  refine En_callV rfl rfl rfl rfl rfl rfl rfl rfl (by decide +kernel : TG 159 = 35) (by decide +kernel) rfl (c_237 σ3 h4 z9 h10) (by decide) (by decide) (fun v15 σ16 h14 => ?_)
  obtain ⟨h17, h18, z20, rfl, h19⟩ := h14
  obtain rfl : σ3 = σ16 := Fr_nil h18
  refine En_iEq _ rfl rfl (fun h21 => ?_) (fun h21 => ?_)
  · refine En_Ps 1 (pc' := 37) (lv' := [(2, .int z11), (0, .ref 159), (1, .int a)]) (st' := [.ref 159]) rfl ?_
    refine En_callV rfl rfl rfl rfl rfl rfl rfl rfl (by decide +kernel : TG 159 = 35) (by decide +kernel) rfl (c_234 σ3 h4 z7 h8 z9 h10) (by decide) (by decide) (fun v23 σ24 h22 => ?_)
    obtain ⟨h25, h26, z28, h29, z30, h31, z32, rfl, h27⟩ := h22
    have h33 := Fr_trans h12 h26 (by decide +kernel)
    have h34 := KR_fr h13 h26 (by decide +kernel)
    refine En_Ps 2 (pc' := 42) (lv' := [(3, .int z32), (2, .int z11), (0, .ref 159), (1, .int a)]) (st' := [.ref 159]) rfl ?_
    refine En_callV rfl rfl rfl rfl rfl rfl rfl rfl (by decide +kernel : TG 159 = 35) (by decide +kernel) rfl (c_237 σ24 h25 z30 h31) (by decide) (by decide) (fun v36 σ37 h35 => ?_)
    obtain ⟨h38, h39, z41, rfl, h40⟩ := h35
    obtain rfl : σ24 = σ37 := Fr_nil h39
    refine En_iNe _ rfl rfl (fun hx => by exfalso; omega) (fun h42 => ?_)
    exact En_ret (v := none) rfl rfl rfl ⟨h25, h33, z28, h29, z30, h31, rfl, ⟨by omega, by omega, by omega, by omega, by omega, by omega, by omega, by omega, by omega, by omega, by omega, by omega, by omega, by omega, h34⟩⟩
  · refine En_Ps 1 (pc' := 13) (lv' := [(2, .int z11), (0, .ref 159), (1, .int a)]) (st' := [.ref 159]) rfl ?_
    refine En_getI (j := 10) (l := 0) (u := 4) rfl rfl rfl (by decide +kernel : TG 159 = 35) (by decide +kernel) h4 (by decide +kernel) (fun z44 h43 h45 h46 => ?_)
    refine En_Ps 1 (pc' := 17) (lv' := [(2, .int z11), (0, .ref 159), (1, .int a)]) (st' := [.int ((Int32.ofInt 2)), .int z44]) rfl ?_
    refine En_icNe _ rfl (by decide : (Int32.ofInt 2).toInt = 2) rfl (fun h47 => ?_) (fun h47 => ?_)
    · refine En_Ps 1 (pc' := 37) (lv' := [(2, .int z11), (0, .ref 159), (1, .int a)]) (st' := [.ref 159]) rfl ?_
      refine En_callV rfl rfl rfl rfl rfl rfl rfl rfl (by decide +kernel : TG 159 = 35) (by decide +kernel) rfl (c_234 σ3 h4 z7 h8 z9 h10) (by decide) (by decide) (fun v49 σ50 h48 => ?_)
      obtain ⟨h51, h52, z54, h55, z56, h57, z58, rfl, h53⟩ := h48
      have h59 := Fr_trans h12 h52 (by decide +kernel)
      have h60 := KR_fr h13 h52 (by decide +kernel)
      refine En_Ps 2 (pc' := 42) (lv' := [(3, .int z58), (2, .int z11), (0, .ref 159), (1, .int a)]) (st' := [.ref 159]) rfl ?_
      refine En_callV rfl rfl rfl rfl rfl rfl rfl rfl (by decide +kernel : TG 159 = 35) (by decide +kernel) rfl (c_237 σ50 h51 z56 h57) (by decide) (by decide) (fun v62 σ63 h61 => ?_)
      obtain ⟨h64, h65, z67, rfl, h66⟩ := h61
      obtain rfl : σ50 = σ63 := Fr_nil h65
      refine En_iNe _ rfl rfl (fun h68 => ?_) (fun h68 => ?_)
      · refine En_Ps 1 (pc' := 50) (lv' := [(3, .int z58), (2, .int z11), (0, .ref 159), (1, .int a)]) (st' := [.ref 159]) rfl ?_
        refine En_getU (j := 14) (u := 165) (g' := 41) (q := 0) rfl rfl rfl (by decide +kernel : TG 159 = 35) (by decide +kernel) h51 (by decide +kernel) (by decide +kernel) (fun h69 => ?_)
        refine En_Ps 2 (pc' := 55) (lv' := [(3, .int z58), (2, .int z11), (0, .ref 159), (1, .int a)]) (st' := [.int z11, .int a, .ref 165]) rfl ?_
        refine En_iast (l := 0) (u := 15) rfl rfl (by decide +kernel : TG 165 = 41) (by decide +kernel) (by omega) (lnI (by decide +kernel : LN _ = 226) (by omega)) (FTrow 41 146 1 7 (by decide +kernel) (by omega) (by omega) (by omega)) (rngI rfl (by omega) (by omega)) h51 h59 (by decide +kernel) (fun σ71 h72 h73 h74 h75 => ?_)
        have h76 := KR_st h60 (J := a.toInt) h75 (by omega)
        refine En_Ps 1 (pc' := 57) (lv' := [(3, .int z58), (2, .int z11), (0, .ref 159), (1, .int a)]) (st' := [.ref 159]) rfl ?_
        refine En_getK (j := 14) ((h75 _ _ (Or.inl (neTG (by decide +kernel : TG 159 = 35) (by decide +kernel : TG 165 = 41) (by decide)))).trans h69) rfl rfl rfl (by decide +kernel : TG 159 = 35) (by decide +kernel) ?_
        refine En_Ps 3 (pc' := 63) (lv' := [(3, .int z58), (2, .int z11), (0, .ref 159), (1, .int a)]) (st' := [.int ((a + ((Int32.ofInt 1)))), .ref 165]) rfl ?_
        refine En_top (addI rfl (by decide : (Int32.ofInt 1).toInt = 1) (by omega) (by omega)) (fun z77 h78 => ?_)
        refine En_Ps 1 (pc' := 64) (lv' := [(3, .int z58), (2, .int z11), (0, .ref 159), (1, .int a)]) (st' := [.int z58, .int z77, .ref 165]) rfl ?_
        refine En_iast (l := 0) (u := 15) rfl rfl (by decide +kernel : TG 165 = 41) (by decide +kernel) (by omega) (lnI (by decide +kernel : LN _ = 226) (by omega)) (FTrow 41 147 1 7 (by decide +kernel) (by omega) (by omega) (by omega)) (rngI rfl (by omega) (by omega)) h72 h73 (by decide +kernel) (fun σ79 h80 h81 h82 h83 => ?_)
        have h84 := KR_st h76 (J := z77.toInt) h83 (by omega)
        exact En_ret (v := none) rfl rfl rfl ⟨h80, h81, z54, ((h83 _ _ (Or.inl (neTG (by decide +kernel : TG 159 = 35) (by decide +kernel : TG 165 = 41) (by decide)))).trans ((h75 _ _ (Or.inl (neTG (by decide +kernel : TG 159 = 35) (by decide +kernel : TG 165 = 41) (by decide)))).trans h55)), z56, ((h83 _ _ (Or.inl (neTG (by decide +kernel : TG 159 = 35) (by decide +kernel : TG 165 = 41) (by decide)))).trans ((h75 _ _ (Or.inl (neTG (by decide +kernel : TG 159 = 35) (by decide +kernel : TG 165 = 41) (by decide)))).trans h57)), rfl, ⟨by omega, by omega, by omega, by omega, by omega, by omega, by omega, by omega, by omega, by omega, by omega, by omega, by omega, by omega, h84⟩⟩
      · exact En_ret (v := none) rfl rfl rfl ⟨h51, h59, z54, h55, z56, h57, rfl, ⟨by omega, by omega, by omega, by omega, by omega, by omega, by omega, by omega, by omega, by omega, by omega, by omega, by omega, by omega, h60⟩⟩
    · refine En_Ps 1 (pc' := 21) (lv' := [(2, .int z11), (0, .ref 159), (1, .int a)]) (st' := [.ref 159]) rfl ?_
      refine En_getI (j := 11) (l := 0) (u := 99999) rfl rfl rfl (by decide +kernel : TG 159 = 35) (by decide +kernel) h4 (by decide +kernel) (fun z86 h85 h87 h88 => ?_)
      refine En_Ps 3 (pc' := 27) (lv' := [(2, .int z11), (0, .ref 159), (1, .int a)]) (st' := [.int ((z11 ^^^ ((Int32.ofInt (-1))))), .int z86]) rfl ?_
      refine En_nam (fun z89 h90 => ?_)
      refine En_Ps 1 (pc' := 28) (lv' := [(2, .int z11), (0, .ref 159), (1, .int a)]) (st' := [.int ((z86 &&& z89))]) rfl ?_
      refine En_nam (fun z91 h92 => ?_)
      obtain ⟨h93, h94⟩ := andn_rng h92 rfl (by omega) (by omega : _ ≤ (99999 : Int))
      refine En_iEq _ rfl rfl (fun h95 => ?_) (fun h95 => ?_)
      · obtain ⟨h96, h97⟩ := andn_zero h92 h90 h95 rfl rfl (by omega)
        refine En_Ps 1 (pc' := 37) (lv' := [(2, .int z11), (0, .ref 159), (1, .int a)]) (st' := [.ref 159]) rfl ?_
        refine En_callV rfl rfl rfl rfl rfl rfl rfl rfl (by decide +kernel : TG 159 = 35) (by decide +kernel) rfl (c_234 σ3 h4 z7 h8 z9 h10) (by decide) (by decide) (fun v99 σ100 h98 => ?_)
        obtain ⟨h101, h102, z104, h105, z106, h107, z108, rfl, h103⟩ := h98
        have h109 := Fr_trans h12 h102 (by decide +kernel)
        have h110 := KR_fr h13 h102 (by decide +kernel)
        refine En_Ps 2 (pc' := 42) (lv' := [(3, .int z108), (2, .int z11), (0, .ref 159), (1, .int a)]) (st' := [.ref 159]) rfl ?_
        refine En_callV rfl rfl rfl rfl rfl rfl rfl rfl (by decide +kernel : TG 159 = 35) (by decide +kernel) rfl (c_237 σ100 h101 z106 h107) (by decide) (by decide) (fun v112 σ113 h111 => ?_)
        obtain ⟨h114, h115, z117, rfl, h116⟩ := h111
        obtain rfl : σ100 = σ113 := Fr_nil h115
        refine En_iNe _ rfl rfl (fun h118 => ?_) (fun h118 => ?_)
        · refine En_Ps 1 (pc' := 50) (lv' := [(3, .int z108), (2, .int z11), (0, .ref 159), (1, .int a)]) (st' := [.ref 159]) rfl ?_
          refine En_getU (j := 14) (u := 165) (g' := 41) (q := 0) rfl rfl rfl (by decide +kernel : TG 159 = 35) (by decide +kernel) h101 (by decide +kernel) (by decide +kernel) (fun h119 => ?_)
          refine En_Ps 2 (pc' := 55) (lv' := [(3, .int z108), (2, .int z11), (0, .ref 159), (1, .int a)]) (st' := [.int z11, .int a, .ref 165]) rfl ?_
          refine En_iast (l := 0) (u := 15) rfl rfl (by decide +kernel : TG 165 = 41) (by decide +kernel) (by omega) (lnI (by decide +kernel : LN _ = 226) (by omega)) (FTrow 41 146 1 7 (by decide +kernel) (by omega) (by omega) (by omega)) (rngI rfl (by omega) (by omega)) h101 h109 (by decide +kernel) (fun σ121 h122 h123 h124 h125 => ?_)
          have h126 := KR_st h110 (J := a.toInt) h125 (by omega)
          refine En_Ps 1 (pc' := 57) (lv' := [(3, .int z108), (2, .int z11), (0, .ref 159), (1, .int a)]) (st' := [.ref 159]) rfl ?_
          refine En_getK (j := 14) ((h125 _ _ (Or.inl (neTG (by decide +kernel : TG 159 = 35) (by decide +kernel : TG 165 = 41) (by decide)))).trans h119) rfl rfl rfl (by decide +kernel : TG 159 = 35) (by decide +kernel) ?_
          refine En_Ps 3 (pc' := 63) (lv' := [(3, .int z108), (2, .int z11), (0, .ref 159), (1, .int a)]) (st' := [.int ((a + ((Int32.ofInt 1)))), .ref 165]) rfl ?_
          refine En_top (addI rfl (by decide : (Int32.ofInt 1).toInt = 1) (by omega) (by omega)) (fun z127 h128 => ?_)
          refine En_Ps 1 (pc' := 64) (lv' := [(3, .int z108), (2, .int z11), (0, .ref 159), (1, .int a)]) (st' := [.int z108, .int z127, .ref 165]) rfl ?_
          refine En_iast (l := 0) (u := 15) rfl rfl (by decide +kernel : TG 165 = 41) (by decide +kernel) (by omega) (lnI (by decide +kernel : LN _ = 226) (by omega)) (FTrow 41 147 1 7 (by decide +kernel) (by omega) (by omega) (by omega)) (rngI rfl (by omega) (by omega)) h122 h123 (by decide +kernel) (fun σ129 h130 h131 h132 h133 => ?_)
          have h134 := KR_st h126 (J := z127.toInt) h133 (by omega)
          exact En_ret (v := none) rfl rfl rfl ⟨h130, h131, z104, ((h133 _ _ (Or.inl (neTG (by decide +kernel : TG 159 = 35) (by decide +kernel : TG 165 = 41) (by decide)))).trans ((h125 _ _ (Or.inl (neTG (by decide +kernel : TG 159 = 35) (by decide +kernel : TG 165 = 41) (by decide)))).trans h105)), z106, ((h133 _ _ (Or.inl (neTG (by decide +kernel : TG 159 = 35) (by decide +kernel : TG 165 = 41) (by decide)))).trans ((h125 _ _ (Or.inl (neTG (by decide +kernel : TG 159 = 35) (by decide +kernel : TG 165 = 41) (by decide)))).trans h107)), rfl, ⟨by omega, by omega, by omega, by omega, by omega, by omega, by omega, by omega, by omega, by omega, by omega, by omega, by omega, by omega, h134⟩⟩
        · exact En_ret (v := none) rfl rfl rfl ⟨h101, h109, z104, h105, z106, h107, rfl, ⟨by omega, by omega, by omega, by omega, by omega, by omega, by omega, by omega, by omega, by omega, by omega, by omega, by omega, by omega, h110⟩⟩
      · refine En_Ps 2 (pc' := 33) (lv' := [(2, .int z11), (0, .ref 159), (1, .int a)]) (st' := [.int ((Int32.ofInt 2)), .ref 159]) rfl ?_
        have := (by decide : ((Int32.ofInt 2)).toInt = 2)
        refine En_callV rfl rfl rfl rfl rfl rfl rfl rfl (by decide +kernel : TG 159 = 35) (by decide +kernel) rfl (c_223 σ3 h4 ((Int32.ofInt 2)) (geI (by decide : (Int32.ofInt 2).toInt = 2) (by omega)) (leI (by decide : (Int32.ofInt 2).toInt = 2) (by omega)) z9 h10) (by decide) (by decide) (fun v136 σ137 h135 => ?_)
        obtain ⟨h138, h139, z141, h142, rfl, h140⟩ := h135
        have h143 := Fr_trans h12 h139 (by decide +kernel)
        have h144 := KR_fr h13 h139 (by decide +kernel)
        refine En_Ps 1 (pc' := 37) (lv' := [(2, .int z11), (0, .ref 159), (1, .int a)]) (st' := [.ref 159]) rfl ?_
        refine En_callV rfl rfl rfl rfl rfl rfl rfl rfl (by decide +kernel : TG 159 = 35) (by decide +kernel) rfl (c_234 σ137 h138 z7 ((h139 _ _ (inW (by decide +kernel : TG 159 = 35) (by decide +kernel))).trans h8) z141 h142) (by decide) (by decide) (fun v146 σ147 h145 => ?_)
        obtain ⟨h148, h149, z151, h152, z153, h154, z155, rfl, h150⟩ := h145
        have h156 := Fr_trans h143 h149 (by decide +kernel)
        have h157 := KR_fr h144 h149 (by decide +kernel)
        refine En_Ps 2 (pc' := 42) (lv' := [(3, .int z155), (2, .int z11), (0, .ref 159), (1, .int a)]) (st' := [.ref 159]) rfl ?_
        refine En_callV rfl rfl rfl rfl rfl rfl rfl rfl (by decide +kernel : TG 159 = 35) (by decide +kernel) rfl (c_237 σ147 h148 z153 h154) (by decide) (by decide) (fun v159 σ160 h158 => ?_)
        obtain ⟨h161, h162, z164, rfl, h163⟩ := h158
        obtain rfl : σ147 = σ160 := Fr_nil h162
        refine En_iNe _ rfl rfl (fun hx => by exfalso; omega) (fun h165 => ?_)
        exact En_ret (v := none) rfl rfl rfl ⟨h148, h156, z151, h152, z153, h154, rfl, ⟨by omega, by omega, by omega, by omega, by omega, by omega, by omega, by omega, by omega, by omega, by omega, by omega, by omega, by omega, h157⟩⟩
/-- DoorSchoolModel.readNext()V -/
abbrev P_302 (σ0 : SG) (f : Int32) (k : Int32) : PO := fun v σ => WT σ ∧ Fr [(35, 8), (35, 9), (35, 10), (35, 11), (35, 12), (35, 13), (41, 0)] σ0 σ ∧ ∃ f1 : Int32, (σ 159)[8]? = some (.int f1) ∧ ∃ k1 : Int32, (σ 159)[12]? = some (.int k1) ∧ v = none ∧ -f1.toInt ≤ 0 ∧ f1.toInt - 1600 ≤ 0 ∧ -f1.toInt + f.toInt ≤ 0 ∧ f1.toInt - f.toInt - 1600 ≤ 0 ∧ -f1.toInt + k.toInt - 3 ≤ 0 ∧ f1.toInt - k.toInt - 1600 ≤ 0 ∧ -k1.toInt ≤ 0 ∧ k1.toInt - 3 ≤ 0 ∧ -k1.toInt + f.toInt - 1600 ≤ 0 ∧ k1.toInt - f.toInt - 3 ≤ 0 ∧ -k1.toInt + k.toInt - 2 ≤ 0 ∧ k1.toInt - k.toInt - 3 ≤ 0 ∧ f.toInt - f1.toInt ≤ 0 ∧ (k1.toInt ≤ 0 → k.toInt ≤ 0) ∧ KF σ0 σ
set_option maxRecDepth 10000 in
set_option maxHeartbeats 4000000 in
theorem c_302 (σ0 : SG) (hσ0 : WT σ0) (f : Int32) (h_f : (σ0 159)[8]? = some (.int f)) (k : Int32) (h_k : (σ0 159)[12]? = some (.int k)) : En 9 200 none mr_302 (P_302 σ0 f k) 0 [(0, .ref 159)] [] σ0 := by
  obtain ⟨hl_f, hu_f⟩ := WT_int hσ0 (g := 35) (by decide +kernel) (by decide +kernel) (l := 0) (u := 1600) (by decide +kernel) h_f
  obtain ⟨hl_k, hu_k⟩ := WT_int hσ0 (g := 35) (by decide +kernel) (by decide +kernel) (l := 0) (u := 3) (by decide +kernel) h_k
  have hF0 : Fr [(35, 8), (35, 9), (35, 10), (35, 11), (35, 12), (35, 13), (41, 0)] σ0 σ0 := Fr_rfl
  have keyj170 : ∀ (σ1 : SG) (y4 : Int32) (y8 : Int32) (y12 : Int32) (y16 : Int32) (y20 : Int32) (y24 : Int32), WT σ1 → Fr [(35, 8), (35, 9), (35, 10), (35, 11), (35, 12), (35, 13), (41, 0)] σ0 σ1 → (σ1 165)[(2 : Int).toNat]? = some (.int y4) → 0 ≤ y4.toInt → y4.toInt ≤ 4 → (σ1 165)[(3 : Int).toNat]? = some (.int y8) → 0 ≤ y8.toInt → y8.toInt ≤ 12 → (σ1 165)[(4 : Int).toNat]? = some (.int y12) → 0 ≤ y12.toInt → y12.toInt ≤ 4 → (σ1 165)[(5 : Int).toNat]? = some (.int y16) → 0 ≤ y16.toInt → y16.toInt ≤ 6 → (σ1 159)[12]? = some (.int y20) → 0 ≤ y20.toInt → y20.toInt ≤ 3 → (σ1 159)[8]? = some (.int y24) → 0 ≤ y24.toInt → y24.toInt ≤ 1600 → f.toInt - y24.toInt ≤ 0 → (y20.toInt ≤ 0 → k.toInt ≤ 0) → (y20.toInt ≤ 0 ∧ -(isA2 σ1) + 1 ≤ 0 → y4.toInt - 3 ≤ 0) → (y20.toInt ≤ 0 ∧ -(isA3 σ1) + 1 ≤ 0 → y8.toInt - 11 ≤ 0) → (y20.toInt ≤ 0 ∧ -(isA5 σ1) + 1 ≤ 0 → y12.toInt - 3 ≤ 0) → (y20.toInt ≤ 0 ∧ -(isA1 σ1) + 1 ≤ 0 → y16.toInt - 5 ≤ 0) → KF σ0 σ1 → En 9 200 none mr_302 (P_302 σ0 f k) 170 [(0, .ref 159)] [] σ1 := by
    intro σ1 y4 y8 y12 y16 y20 y24 h2 h3 h5 h6 h7 h9 h10 h11 h13 h14 h15 h17 h18 h19 h21 h22 h23 h25 h26 h27 h28 h29 h30 h31 h32 h33 h34
    refine En_Ps 1 (pc' := 171) (lv' := [(0, .ref 159)]) (st' := [.ref 159]) rfl ?_
    refine En_callV rfl rfl rfl rfl rfl rfl rfl rfl (by decide +kernel : TG 159 = 35) (by decide +kernel) rfl (c_237 σ1 h2 y20 h21) (by decide) (by decide) (fun v36 σ37 h35 => ?_)
    obtain ⟨h38, h39, z41, rfl, h40⟩ := h35
    obtain rfl : σ1 = σ37 := Fr_nil h39
    refine En_iNe _ rfl rfl (fun h42 => ?_) (fun h42 => ?_)
    · refine En_Ps 1 (pc' := 179) (lv' := [(0, .ref 159)]) (st' := [.ref 159]) rfl ?_
      refine En_ldcS (i := 2) rfl rfl rfl ?_
      refine En_callV rfl rfl rfl rfl rfl rfl rfl rfl (by decide +kernel : TG 159 = 35) (by decide +kernel) rfl (c_318s2 σ1 h2 y24 h25) (by decide) (by decide) (fun v44 σ45 h43 => ?_)
      obtain ⟨h46, h47, z49, h50, z51, rfl, h48⟩ := h43
      have h52 := h48.2.2.2.2.2.2.2
      have h53 := Fr_trans h3 h47 (by decide +kernel)
      have h54 := KF_fr h34 h47 (by decide +kernel)
      refine En_iEq _ rfl rfl (fun h55 => ?_) (fun h55 => ?_)
      · obtain rfl : σ1 = σ45 := h52.1 (by omega)
        refine En_Ps 1 (pc' := 195) (lv' := [(0, .ref 159)]) (st' := [.ref 159]) rfl ?_
        refine En_ldcS (i := 6) rfl rfl rfl ?_
        refine En_callV rfl rfl rfl rfl rfl rfl rfl rfl (by decide +kernel : TG 159 = 35) (by decide +kernel) rfl (c_318s6 σ1 h2 y24 h25) (by decide) (by decide) (fun v57 σ58 h56 => ?_)
        obtain ⟨h59, h60, z62, h63, z64, rfl, h61⟩ := h56
        have h65 := h61.2.2.2.2.2.2.2
        have h66 := Fr_trans h3 h60 (by decide +kernel)
        have h67 := KF_fr h34 h60 (by decide +kernel)
        refine En_iEq _ rfl rfl (fun h68 => ?_) (fun h68 => ?_)
        · obtain rfl : σ1 = σ58 := h65.1 (by omega)
          refine En_Ps 1 (pc' := 211) (lv' := [(0, .ref 159)]) (st' := [.ref 159]) rfl ?_
          refine En_ldcS (i := 3) rfl rfl rfl ?_
          refine En_callV rfl rfl rfl rfl rfl rfl rfl rfl (by decide +kernel : TG 159 = 35) (by decide +kernel) rfl (c_318s3 σ1 h2 y24 h25) (by decide) (by decide) (fun v70 σ71 h69 => ?_)
          obtain ⟨h72, h73, z75, h76, z77, rfl, h74⟩ := h69
          have h78 := h74.2.2.2.2.2.2.2
          have h79 := Fr_trans h3 h73 (by decide +kernel)
          have h80 := KF_fr h34 h73 (by decide +kernel)
          refine En_iEq _ rfl rfl (fun h81 => ?_) (fun h81 => ?_)
          · obtain rfl : σ1 = σ71 := h78.1 (by omega)
            refine En_Ps 1 (pc' := 267) (lv' := [(0, .ref 159)]) (st' := [.ref 159]) rfl ?_
            refine En_ldcS (i := 17) rfl rfl rfl ?_
            refine En_callV rfl rfl rfl rfl rfl rfl rfl rfl (by decide +kernel : TG 159 = 35) (by decide +kernel) rfl (c_318s17 σ1 h2 y24 h25) (by decide) (by decide) (fun v83 σ84 h82 => ?_)
            obtain ⟨h85, h86, z88, h89, z90, rfl, h87⟩ := h82
            have h91 := h87.2.2.2.2.2.2.2
            have h92 := Fr_trans h3 h86 (by decide +kernel)
            have h93 := KF_fr h34 h86 (by decide +kernel)
            refine En_iEq _ rfl rfl (fun h94 => ?_) (fun h94 => ?_)
            · obtain rfl : σ1 = σ84 := h91.1 (by omega)
              refine En_Ps 1 (pc' := 283) (lv' := [(0, .ref 159)]) (st' := [.ref 159]) rfl ?_
              refine En_ldcS (i := 9) rfl rfl rfl ?_
              refine En_callV rfl rfl rfl rfl rfl rfl rfl rfl (by decide +kernel : TG 159 = 35) (by decide +kernel) rfl (c_318s9 σ1 h2 y24 h25) (by decide) (by decide) (fun v96 σ97 h95 => ?_)
              obtain ⟨h98, h99, z101, h102, z103, rfl, h100⟩ := h95
              have h104 := h100.2.2.2.2.2.2.2
              have h105 := Fr_trans h3 h99 (by decide +kernel)
              have h106 := KF_fr h34 h99 (by decide +kernel)
              refine En_iEq _ rfl rfl (fun h107 => ?_) (fun h107 => ?_)
              · obtain rfl : σ1 = σ97 := h104.1 (by omega)
                refine En_Ps 1 (pc' := 301) (lv' := [(0, .ref 159)]) (st' := [.ref 159]) rfl ?_
                refine En_ldcS (i := 5) rfl rfl rfl ?_
                refine En_callV rfl rfl rfl rfl rfl rfl rfl rfl (by decide +kernel : TG 159 = 35) (by decide +kernel) rfl (c_318s5 σ1 h2 y24 h25) (by decide) (by decide) (fun v109 σ110 h108 => ?_)
                obtain ⟨h111, h112, z114, h115, z116, rfl, h113⟩ := h108
                have h117 := h113.2.2.2.2.2.2.2
                have h118 := Fr_trans h3 h112 (by decide +kernel)
                have h119 := KF_fr h34 h112 (by decide +kernel)
                refine En_iEq _ rfl rfl (fun h120 => ?_) (fun h120 => ?_)
                · obtain rfl : σ1 = σ110 := h117.1 (by omega)
                  refine En_Ps 1 (pc' := 339) (lv' := [(0, .ref 159)]) (st' := [.ref 159]) rfl ?_
                  refine En_ldcS (i := 1) rfl rfl rfl ?_
                  refine En_callV rfl rfl rfl rfl rfl rfl rfl rfl (by decide +kernel : TG 159 = 35) (by decide +kernel) rfl (c_318s1 σ1 h2 y24 h25) (by decide) (by decide) (fun v122 σ123 h121 => ?_)
                  obtain ⟨h124, h125, z127, h128, z129, rfl, h126⟩ := h121
                  have h130 := h126.2.2.2.2.2.2.2
                  have h131 := Fr_trans h3 h125 (by decide +kernel)
                  have h132 := KF_fr h34 h125 (by decide +kernel)
                  refine En_iEq _ rfl rfl (fun h133 => ?_) (fun h133 => ?_)
                  · obtain rfl : σ1 = σ123 := h130.1 (by omega)
                    refine En_Ps 1 (pc' := 387) (lv' := [(0, .ref 159)]) (st' := [.ref 159]) rfl ?_
                    refine En_callV rfl rfl rfl rfl rfl rfl rfl rfl (by decide +kernel : TG 159 = 35) (by decide +kernel) rfl (c_189 σ1 h2 y24 h25) (by decide) (by decide) (fun v135 σ136 h134 => ?_)
                    obtain ⟨h137, h138, z140, h141, z142, h143, rfl, h139⟩ := h134
                    have h144 := Fr_trans h3 h138 (by decide +kernel)
                    have h145 := KF_fr h34 h138 (by decide +kernel)
                    refine En_Ps 3 (pc' := 393) (lv' := [(0, .ref 159)]) (st' := [.ref 159, .int ((Int32.ofInt 0)), .ref 159]) rfl ?_
                    refine En_getU (j := 14) (u := 165) (g' := 41) (q := 0) rfl rfl rfl (by decide +kernel : TG 159 = 35) (by decide +kernel) h137 (by decide +kernel) (by decide +kernel) (fun h146 => ?_)
                    refine En_Ps 1 (pc' := 397) (lv' := [(0, .ref 159)]) (st' := [.int ((Int32.ofInt 5)), .ref 165, .int ((Int32.ofInt 0)), .ref 159]) rfl ?_
                    refine En_ialdK ((h138 _ _ (inWa (by decide +kernel : TG 165 = 41) (by decide +kernel))).trans h17) rfl (by decide : (Int32.ofInt 5).toInt = 5) (by decide +kernel : TG 165 = 41) (by decide +kernel) h137 (by omega) (lnI (by decide +kernel : LN _ = 226) (by omega)) ?_
                    refine En_Ps 2 (pc' := 400) (lv' := [(0, .ref 159)]) (st' := [.int ((y16 - ((Int32.ofInt 1)))), .int ((Int32.ofInt 0)), .ref 159]) rfl ?_
                    refine En_top (subI rfl (by decide : (Int32.ofInt 1).toInt = 1) (by omega) (by omega)) (fun z149 h150 => ?_)
                    obtain ⟨z152, h151, h153, h154⟩ := WT_peekI h137 (by decide +kernel : TG 159 = 35) (by decide +kernel : FT 35 11 = (0, 0, 99999)) (by decide +kernel)
                    have := (by decide : ((Int32.ofInt 0)).toInt = 0)
                    refine En_callV rfl rfl rfl rfl rfl rfl rfl rfl (by decide +kernel : TG 159 = 35) (by decide +kernel) rfl (c_288 σ136 h137 ((Int32.ofInt 0)) z149 z140 h141 y20 ((h138 _ _ (inW (by decide +kernel : TG 159 = 35) (by decide +kernel))).trans h21) z142 h143 z152 h151) (by decide) (by decide) (fun v156 σ157 h155 => ?_)
                    obtain ⟨h158, h159, z161, h162, z163, h164, z165, rfl, h160⟩ := h155
                    have h166 := Fr_trans h144 h159 (by decide +kernel)
                    have h167 := KF_fr h145 h159 (by decide +kernel)
                    refine En_Ps 5 (pc' := 408) (lv' := [(2, .int z165), (0, .ref 159)]) (st' := [.int ((z165 + ((Int32.ofInt 1)))), .ref 159]) rfl ?_
                    refine En_top (addI rfl (by decide : (Int32.ofInt 1).toInt = 1) (by omega) (by omega)) (fun z168 h169 => ?_)
                    refine En_Ps 1 (pc' := 409) (lv' := [(2, .int z165), (0, .ref 159)]) (st' := [.ref 159, .int z168, .ref 159]) rfl ?_
                    refine En_getK (j := 14) ((h159 _ _ (inW (by decide +kernel : TG 159 = 35) (by decide +kernel))).trans h146) rfl rfl rfl (by decide +kernel : TG 159 = 35) (by decide +kernel) ?_
                    refine En_Ps 1 (pc' := 413) (lv' := [(2, .int z165), (0, .ref 159)]) (st' := [.int ((Int32.ofInt 5)), .ref 165, .int z168, .ref 159]) rfl ?_
                    refine En_ialdK ((h159 _ _ (inWa (by decide +kernel : TG 165 = 41) (by decide +kernel))).trans ((h138 _ _ (inWa (by decide +kernel : TG 165 = 41) (by decide +kernel))).trans h17)) rfl (by decide : (Int32.ofInt 5).toInt = 5) (by decide +kernel : TG 165 = 41) (by decide +kernel) h158 (by omega) (lnI (by decide +kernel : LN _ = 226) (by omega)) ?_
                    refine En_Ps 2 (pc' := 416) (lv' := [(2, .int z165), (0, .ref 159)]) (st' := [.int ((y16 - ((Int32.ofInt 1)))), .int z168, .ref 159]) rfl ?_
                    refine En_top (subI rfl (by decide : (Int32.ofInt 1).toInt = 1) (by omega) (by omega)) (fun z171 h172 => ?_)
                    obtain ⟨z174, h173, h175, h176⟩ := WT_peekI h158 (by decide +kernel : TG 159 = 35) (by decide +kernel : FT 35 10 = (0, 0, 4)) (by decide +kernel)
                    obtain ⟨z178, h177, h179, h180⟩ := WT_peekI h158 (by decide +kernel : TG 159 = 35) (by decide +kernel : FT 35 11 = (0, 0, 99999)) (by decide +kernel)
                    refine En_callV rfl rfl rfl rfl rfl rfl rfl rfl (by decide +kernel : TG 159 = 35) (by decide +kernel) rfl (c_288 σ157 h158 z168 z171 z161 h162 z163 h164 z174 h173 z178 h177) (by decide) (by decide) (fun v182 σ183 h181 => ?_)
                    obtain ⟨h184, h185, z187, h188, z189, h190, z191, rfl, h186⟩ := h181
                    have h192 := Fr_trans h166 h185 (by decide +kernel)
                    have h193 := KF_fr h167 h185 (by decide +kernel)
                    refine En_Ps 2 (pc' := 421) (lv' := [(3, .int z191), (2, .int z165), (0, .ref 159)]) (st' := [.ref 159]) rfl ?_
                    refine En_callV rfl rfl rfl rfl rfl rfl rfl rfl (by decide +kernel : TG 159 = 35) (by decide +kernel) rfl (c_237 σ183 h184 z189 h190) (by decide) (by decide) (fun v195 σ196 h194 => ?_)
                    obtain ⟨h197, h198, z200, rfl, h199⟩ := h194
                    obtain rfl : σ183 = σ196 := Fr_nil h198
                    refine En_iEq _ rfl rfl (fun h201 => ?_) (fun h201 => ?_)
                    · exact En_ret (v := none) rfl rfl rfl ⟨h184, h192, z187, h188, z189, h190, rfl, ⟨by omega, by omega, by omega, by omega, by omega, by omega, by omega, by omega, by omega, by omega, by omega, by omega, by omega, by omega, h193⟩⟩
                    · refine En_Ps 1 (pc' := 428) (lv' := [(3, .int z191), (2, .int z165), (0, .ref 159)]) (st' := [.ref 159]) rfl ?_
                      refine En_getK (j := 14) ((h185 _ _ (inW (by decide +kernel : TG 159 = 35) (by decide +kernel))).trans ((h159 _ _ (inW (by decide +kernel : TG 159 = 35) (by decide +kernel))).trans h146)) rfl rfl rfl (by decide +kernel : TG 159 = 35) (by decide +kernel) ?_
                      refine En_Ps 4 (pc' := 437) (lv' := [(3, .int z191), (2, .int z165), (0, .ref 159)]) (st' := [.int ((((Int32.ofInt 2)) * z191)), .int (((Int16.ofInt 154).toInt32)), .ref 165]) rfl ?_
                      refine En_top (mulI (by decide : (Int32.ofInt 2).toInt = 2) rfl (Z := 2 * z191.toInt) (by omega) (by omega) (by omega)) (fun z202 h203 => ?_)
                      refine En_Ps 1 (pc' := 438) (lv' := [(3, .int z191), (2, .int z165), (0, .ref 159)]) (st' := [.int (((((Int16.ofInt 154).toInt32)) + z202)), .ref 165]) rfl ?_
                      refine En_top (addI (by decide : ((Int16.ofInt 154).toInt32).toInt = 154) rfl (by omega) (by omega)) (fun z204 h205 => ?_)
                      refine En_Ps 2 (pc' := 440) (lv' := [(3, .int z191), (2, .int z165), (0, .ref 159)]) (st' := [.int ((z204 + ((Int32.ofInt 1)))), .ref 165]) rfl ?_
                      refine En_top (addI rfl (by decide : (Int32.ofInt 1).toInt = 1) (by omega) (by omega)) (fun z206 h207 => ?_)
                      refine En_Ps 1 (pc' := 441) (lv' := [(3, .int z191), (2, .int z165), (0, .ref 159)]) (st' := [.int z206, .ref 165, .int z206, .ref 165]) rfl ?_
                      refine En_iald (l := 0) (u := 63) rfl rfl (by decide +kernel : TG 165 = 41) (by decide +kernel) h184 (by omega) (lnI (by decide +kernel : LN _ = 226) (by omega)) (FTrow 41 157 2 5 (by decide +kernel) (by omega) (by omega) (by omega)) (fun z209 h208 h210 h211 => ?_)
                      refine En_Ps 3 (pc' := 445) (lv' := [(3, .int z191), (2, .int z165), (0, .ref 159)]) (st' := [.int ((((Int32.ofInt 1)) <<< (z165 &&& 31))), .int z209, .int z206, .ref 165]) rfl ?_
                      refine En_rng (shl1_p 4 rfl (by omega) (by omega) (by decide)) (fun z212 h213 h214 => ?_)
                      refine En_Ps 1 (pc' := 446) (lv' := [(3, .int z191), (2, .int z165), (0, .ref 159)]) (st' := [.int ((z209 ||| z212)), .int z206, .ref 165]) rfl ?_
                      refine En_rng (l := 0) (u := 63) (or_rng 6 rfl rfl (by omega) (by omega) (by omega) (by omega) (by decide)) (fun z215 h216 h217 => ?_)
                      refine En_iast (l := 0) (u := 63) rfl rfl (by decide +kernel : TG 165 = 41) (by decide +kernel) (by omega) (lnI (by decide +kernel : LN _ = 226) (by omega)) (FTrow 41 157 2 5 (by decide +kernel) (by omega) (by omega) (by omega)) (rngI rfl (by omega) (by omega)) h184 h192 (by decide +kernel) (fun σ218 h219 h220 h221 h222 => ?_)
                      have h223 := KF_st h193 (J := z206.toInt) h222 (by omega) (by omega)
                      exact En_ret (v := none) rfl rfl rfl ⟨h219, h220, z187, ((h222 _ _ (Or.inl (neTG (by decide +kernel : TG 159 = 35) (by decide +kernel : TG 165 = 41) (by decide)))).trans h188), z189, ((h222 _ _ (Or.inl (neTG (by decide +kernel : TG 159 = 35) (by decide +kernel : TG 165 = 41) (by decide)))).trans h190), rfl, ⟨by omega, by omega, by omega, by omega, by omega, by omega, by omega, by omega, by omega, by omega, by omega, by omega, by omega, by omega, h223⟩⟩
                  · refine En_Ps 1 (pc' := 348) (lv' := [(0, .ref 159)]) (st' := [.ref 159]) rfl ?_
                    refine En_getU (j := 14) (u := 165) (g' := 41) (q := 0) rfl rfl rfl (by decide +kernel : TG 159 = 35) (by decide +kernel) h124 (by decide +kernel) (by decide +kernel) (fun h224 => ?_)
                    refine En_Ps 3 (pc' := 356) (lv' := [(0, .ref 159)]) (st' := [.ref 159, .int ((Int32.ofInt 2)), .int (((Int16.ofInt 154).toInt32)), .ref 165]) rfl ?_
                    refine En_getK (j := 14) h224 rfl rfl rfl (by decide +kernel : TG 159 = 35) (by decide +kernel) ?_
                    refine En_Ps 1 (pc' := 360) (lv' := [(0, .ref 159)]) (st' := [.int ((Int32.ofInt 5)), .ref 165, .int ((Int32.ofInt 2)), .int (((Int16.ofInt 154).toInt32)), .ref 165]) rfl ?_
                    refine En_ialdK ((h125 _ _ (inWa (by decide +kernel : TG 165 = 41) (by decide +kernel))).trans h17) rfl (by decide : (Int32.ofInt 5).toInt = 5) (by decide +kernel : TG 165 = 41) (by decide +kernel) h124 (by omega) (lnI (by decide +kernel : LN _ = 226) (by omega)) ?_
                    refine En_Ps 1 (pc' := 362) (lv' := [(0, .ref 159)]) (st' := [.int ((((Int32.ofInt 2)) * y16)), .int (((Int16.ofInt 154).toInt32)), .ref 165]) rfl ?_
                    refine En_top (mulI (by decide : (Int32.ofInt 2).toInt = 2) rfl (Z := 2 * y16.toInt) (by omega) (by omega) (by omega)) (fun z227 h228 => ?_)
                    refine En_Ps 1 (pc' := 363) (lv' := [(0, .ref 159)]) (st' := [.int (((((Int16.ofInt 154).toInt32)) + z227)), .ref 165]) rfl ?_
                    refine En_top (addI (by decide : ((Int16.ofInt 154).toInt32).toInt = 154) rfl (by omega) (by omega)) (fun z229 h230 => ?_)
                    refine En_Ps 1 (pc' := 364) (lv' := [(0, .ref 159)]) (st' := [.ref 159, .int z229, .ref 165]) rfl ?_
                    refine En_ldcS (i := 15) rfl rfl rfl ?_
                    refine En_Ps 2 (pc' := 369) (lv' := [(0, .ref 159)]) (st' := [.int (((Int8.ofInt 9).toInt32)), .int ((Int32.ofInt 1)), .retAddr 31, .ref 159, .int z229, .ref 165]) rfl ?_
                    have := (by decide : ((Int32.ofInt 1)).toInt = 1)
                    have := (by decide : (((Int8.ofInt 9).toInt32)).toInt = 9)
                    refine En_callV rfl rfl rfl rfl rfl rfl rfl rfl (by decide +kernel : TG 159 = 35) (by decide +kernel) rfl (c_323s15 σ123 h124 ((Int32.ofInt 1)) (((Int8.ofInt 9).toInt32)) z127 h128 y20 ((h125 _ _ (inW (by decide +kernel : TG 159 = 35) (by decide +kernel))).trans h21)) (by decide) (by decide) (fun v232 σ233 h231 => ?_)
                    obtain ⟨h234, h235, z237, h238, z239, h240, z241, rfl, h236⟩ := h231
                    have h242 := Fr_trans h131 h235 (by decide +kernel)
                    have h243 := KF_fr h132 h235 (by decide +kernel)
                    refine En_iast (l := 0) (u := 9) rfl rfl (by decide +kernel : TG 165 = 41) (by decide +kernel) (by omega) (lnI (by decide +kernel : LN _ = 226) (by omega)) (FTrow 41 154 2 6 (by decide +kernel) (by omega) (by omega) (by omega)) (rngI rfl (by omega) (by omega)) h234 h242 (by decide +kernel) (fun σ244 h245 h246 h247 h248 => ?_)
                    have h249 := KF_st h243 (J := z229.toInt) h248 (by omega) (by omega)
                    refine En_Ps 1 (pc' := 374) (lv' := [(0, .ref 159)]) (st' := [.ref 159]) rfl ?_
                    refine En_getK (j := 14) ((h248 _ _ (Or.inl (neTG (by decide +kernel : TG 159 = 35) (by decide +kernel : TG 165 = 41) (by decide)))).trans ((h235 _ _ (inW (by decide +kernel : TG 159 = 35) (by decide +kernel))).trans h224)) rfl rfl rfl (by decide +kernel : TG 159 = 35) (by decide +kernel) ?_
                    refine En_Ps 2 (pc' := 379) (lv' := [(0, .ref 159)]) (st' := [.int ((Int32.ofInt 5)), .ref 165, .int ((Int32.ofInt 5)), .ref 165]) rfl ?_
                    refine En_ialdK ((h248 _ _ (Or.inr (by omega))).trans ((h235 _ _ (inWa (by decide +kernel : TG 165 = 41) (by decide +kernel))).trans ((h125 _ _ (inWa (by decide +kernel : TG 165 = 41) (by decide +kernel))).trans h17))) rfl (by decide : (Int32.ofInt 5).toInt = 5) (by decide +kernel : TG 165 = 41) (by decide +kernel) h245 (by omega) (lnI (by decide +kernel : LN _ = 226) (by omega)) ?_
                    refine En_Ps 2 (pc' := 382) (lv' := [(0, .ref 159)]) (st' := [.int ((y16 + ((Int32.ofInt 1)))), .int ((Int32.ofInt 5)), .ref 165]) rfl ?_
                    refine En_top (addI rfl (by decide : (Int32.ofInt 1).toInt = 1) (by omega) (by omega)) (fun z251 h252 => ?_)
                    refine En_iast (l := 0) (u := 6) rfl (by decide : (Int32.ofInt 5).toInt = 5) (by decide +kernel : TG 165 = 41) (by decide +kernel) (by omega) (lnI (by decide +kernel : LN _ = 226) (by omega)) (by decide +kernel) (rngI rfl (by omega) (by omega)) h245 h246 (by decide +kernel) (fun σ253 h254 h255 h256 h257 => ?_)
                    have h258 := KF_st h249 (J := 5) h257 (by omega) (by omega)
                    refine En_Ps 1 (pc' := 447) (lv' := [(0, .ref 159)]) (st' := []) rfl ?_
                    exact En_ret (v := none) rfl rfl rfl ⟨h254, h255, z237, ((h257 _ _ (Or.inl (neTG (by decide +kernel : TG 159 = 35) (by decide +kernel : TG 165 = 41) (by decide)))).trans ((h248 _ _ (Or.inl (neTG (by decide +kernel : TG 159 = 35) (by decide +kernel : TG 165 = 41) (by decide)))).trans h238)), z239, ((h257 _ _ (Or.inl (neTG (by decide +kernel : TG 159 = 35) (by decide +kernel : TG 165 = 41) (by decide)))).trans ((h248 _ _ (Or.inl (neTG (by decide +kernel : TG 159 = 35) (by decide +kernel : TG 165 = 41) (by decide)))).trans h240)), rfl, ⟨by omega, by omega, by omega, by omega, by omega, by omega, by omega, by omega, by omega, by omega, by omega, by omega, by omega, by omega, h258⟩⟩
                · refine En_Ps 4 (pc' := 315) (lv' := [(0, .ref 159)]) (st' := [.ref 159, .int ((Int32.ofInt 2)), .int (((Int16.ofInt 146).toInt32)), .ref 159]) rfl ?_
                  refine En_getU (j := 14) (u := 165) (g' := 41) (q := 0) rfl rfl rfl (by decide +kernel : TG 159 = 35) (by decide +kernel) h111 (by decide +kernel) (by decide +kernel) (fun h259 => ?_)
                  refine En_Ps 1 (pc' := 319) (lv' := [(0, .ref 159)]) (st' := [.int ((Int32.ofInt 4)), .ref 165, .int ((Int32.ofInt 2)), .int (((Int16.ofInt 146).toInt32)), .ref 159]) rfl ?_
                  refine En_ialdK ((h112 _ _ (inWa (by decide +kernel : TG 165 = 41) (by decide +kernel))).trans h13) rfl (by decide : (Int32.ofInt 4).toInt = 4) (by decide +kernel : TG 165 = 41) (by decide +kernel) h111 (by omega) (lnI (by decide +kernel : LN _ = 226) (by omega)) ?_
                  refine En_Ps 1 (pc' := 321) (lv' := [(0, .ref 159)]) (st' := [.int ((((Int32.ofInt 2)) * y12)), .int (((Int16.ofInt 146).toInt32)), .ref 159]) rfl ?_
                  refine En_top (mulI (by decide : (Int32.ofInt 2).toInt = 2) rfl (Z := 2 * y12.toInt) (by omega) (by omega) (by omega)) (fun z262 h263 => ?_)
                  refine En_Ps 1 (pc' := 322) (lv' := [(0, .ref 159)]) (st' := [.int (((((Int16.ofInt 146).toInt32)) + z262)), .ref 159]) rfl ?_
                  refine En_top (addI (by decide : ((Int16.ofInt 146).toInt32).toInt = 146) rfl (by omega) (by omega)) (fun z264 h265 => ?_)
                  refine En_callV rfl rfl rfl rfl rfl rfl rfl rfl (by decide +kernel : TG 159 = 35) (by decide +kernel) rfl (c_303b σ110 h111 z264 (geI rfl (by omega)) (leI rfl (by omega)) z114 h115 y20 ((h112 _ _ (inW (by decide +kernel : TG 159 = 35) (by decide +kernel))).trans h21)) (by decide) (by decide) (fun v267 σ268 h266 => ?_)
                  obtain ⟨h269, h270, z272, h273, z274, h275, rfl, h271⟩ := h266
                  have h276 := h271.2.2.2.2.2.2.2.2.2.2.2.2.2.2
                  have h277 := Fr_trans h118 h270 (by decide +kernel)
                  have h278 := KF_tr h119 (KF_of h276)
                  obtain ⟨z280, h279, h281, h282⟩ := WT_peekI h269 (by decide +kernel : TG 165 = 41) (by decide +kernel : FT 41 (4 : Int).toNat = (0, 0, 4)) (by decide +kernel)
                  have h283 := ci_at ((h112 _ _ (inWa (by decide +kernel : TG 165 = 41) (by decide +kernel))).trans h13) (rfl : (4 : Int) = 4)
                  have h284 := ci_at h279 (rfl : (4 : Int) = 4)
                  have h285 := h276 4 (by omega) (by omega)
                  refine En_Ps 1 (pc' := 326) (lv' := [(0, .ref 159)]) (st' := [.ref 159]) rfl ?_
                  refine En_getK (j := 14) ((h270 _ _ (inW (by decide +kernel : TG 159 = 35) (by decide +kernel))).trans h259) rfl rfl rfl (by decide +kernel : TG 159 = 35) (by decide +kernel) ?_
                  refine En_Ps 2 (pc' := 331) (lv' := [(0, .ref 159)]) (st' := [.int ((Int32.ofInt 4)), .ref 165, .int ((Int32.ofInt 4)), .ref 165]) rfl ?_
                  refine En_ialdK h279 rfl (by decide : (Int32.ofInt 4).toInt = 4) (by decide +kernel : TG 165 = 41) (by decide +kernel) h269 (by omega) (lnI (by decide +kernel : LN _ = 226) (by omega)) ?_
                  refine En_Ps 2 (pc' := 334) (lv' := [(0, .ref 159)]) (st' := [.int ((z280 + ((Int32.ofInt 1)))), .int ((Int32.ofInt 4)), .ref 165]) rfl ?_
                  refine En_top (addI rfl (by decide : (Int32.ofInt 1).toInt = 1) (by omega) (by omega)) (fun z287 h288 => ?_)
                  refine En_iast (l := 0) (u := 4) rfl (by decide : (Int32.ofInt 4).toInt = 4) (by decide +kernel : TG 165 = 41) (by decide +kernel) (by omega) (lnI (by decide +kernel : LN _ = 226) (by omega)) (by decide +kernel) (rngI rfl (by omega) (by omega)) h269 h277 (by decide +kernel) (fun σ289 h290 h291 h292 h293 => ?_)
                  have h294 := KF_st h278 (J := 4) h293 (by omega) (by omega)
                  refine En_Ps 1 (pc' := 447) (lv' := [(0, .ref 159)]) (st' := []) rfl ?_
                  exact En_ret (v := none) rfl rfl rfl ⟨h290, h291, z272, ((h293 _ _ (Or.inl (neTG (by decide +kernel : TG 159 = 35) (by decide +kernel : TG 165 = 41) (by decide)))).trans h273), z274, ((h293 _ _ (Or.inl (neTG (by decide +kernel : TG 159 = 35) (by decide +kernel : TG 165 = 41) (by decide)))).trans h275), rfl, ⟨by omega, by omega, by omega, by omega, by omega, by omega, by omega, by omega, by omega, by omega, by omega, by omega, by omega, by omega, h294⟩⟩
              · refine En_Ps 2 (pc' := 294) (lv' := [(0, .ref 159)]) (st' := [.int (((Int8.ofInt 8).toInt32)), .ref 159]) rfl ?_
                have := (by decide : (((Int8.ofInt 8).toInt32)).toInt = 8)
                refine En_callV rfl rfl rfl rfl rfl rfl rfl rfl (by decide +kernel : TG 159 = 35) (by decide +kernel) rfl (c_303a σ97 h98 (((Int8.ofInt 8).toInt32)) (geI (by decide : ((Int8.ofInt 8).toInt32).toInt = 8) (by omega)) (leI (by decide : ((Int8.ofInt 8).toInt32).toInt = 8) (by omega)) z101 h102 y20 ((h99 _ _ (inW (by decide +kernel : TG 159 = 35) (by decide +kernel))).trans h21)) (by decide) (by decide) (fun v296 σ297 h295 => ?_)
                obtain ⟨h298, h299, z301, h302, z303, h304, rfl, h300⟩ := h295
                have h305 := h300.2.2.2.2.2.2.2.2.2.2.2.2.2.2
                have h306 := Fr_trans h105 h299 (by decide +kernel)
                have h307 := KF_tr h106 (KF_of h305)
                refine En_Ps 1 (pc' := 447) (lv' := [(0, .ref 159)]) (st' := []) rfl ?_
                exact En_ret (v := none) rfl rfl rfl ⟨h298, h306, z301, h302, z303, h304, rfl, ⟨by omega, by omega, by omega, by omega, by omega, by omega, by omega, by omega, by omega, by omega, by omega, by omega, by omega, by omega, h307⟩⟩
            · refine En_Ps 1 (pc' := 276) (lv' := [(0, .ref 159)]) (st' := [.ref 159]) rfl ?_
              refine En_callV rfl rfl rfl rfl rfl rfl rfl rfl (by decide +kernel : TG 159 = 35) (by decide +kernel) rfl (c_304 σ84 h85 z88 h89 y20 ((h86 _ _ (inW (by decide +kernel : TG 159 = 35) (by decide +kernel))).trans h21)) (by decide) (by decide) (fun v309 σ310 h308 => ?_)
              obtain ⟨h311, h312, z314, h315, z316, h317, rfl, h313⟩ := h308
              have h318 := h313.2.2.2.2.2.2.2.2.2.2.2.2.2.2
              have h319 := Fr_trans h92 h312 (by decide +kernel)
              have h320 := KF_tr h93 h318
              refine En_Ps 1 (pc' := 447) (lv' := [(0, .ref 159)]) (st' := []) rfl ?_
              exact En_ret (v := none) rfl rfl rfl ⟨h311, h319, z314, h315, z316, h317, rfl, ⟨by omega, by omega, by omega, by omega, by omega, by omega, by omega, by omega, by omega, by omega, by omega, by omega, by omega, by omega, h320⟩⟩
          · refine En_Ps 3 (pc' := 223) (lv' := [(0, .ref 159)]) (st' := [.ref 159, .int ((Int32.ofInt 2)), .int (((Int8.ofInt 122).toInt32))]) rfl ?_
            refine En_getU (j := 14) (u := 165) (g' := 41) (q := 0) rfl rfl rfl (by decide +kernel : TG 159 = 35) (by decide +kernel) h72 (by decide +kernel) (by decide +kernel) (fun h321 => ?_)
            refine En_Ps 1 (pc' := 227) (lv' := [(0, .ref 159)]) (st' := [.int ((Int32.ofInt 3)), .ref 165, .int ((Int32.ofInt 2)), .int (((Int8.ofInt 122).toInt32))]) rfl ?_
            refine En_ialdK ((h73 _ _ (inWa (by decide +kernel : TG 165 = 41) (by decide +kernel))).trans h9) rfl (by decide : (Int32.ofInt 3).toInt = 3) (by decide +kernel : TG 165 = 41) (by decide +kernel) h72 (by omega) (lnI (by decide +kernel : LN _ = 226) (by omega)) ?_
            refine En_Ps 1 (pc' := 229) (lv' := [(0, .ref 159)]) (st' := [.int ((((Int32.ofInt 2)) * y8)), .int (((Int8.ofInt 122).toInt32))]) rfl ?_
            refine En_top (mulI (by decide : (Int32.ofInt 2).toInt = 2) rfl (Z := 2 * y8.toInt) (by omega) (by omega) (by omega)) (fun z324 h325 => ?_)
            refine En_Ps 1 (pc' := 230) (lv' := [(0, .ref 159)]) (st' := [.int (((((Int8.ofInt 122).toInt32)) + z324))]) rfl ?_
            refine En_top (addI (by decide : ((Int8.ofInt 122).toInt32).toInt = 122) rfl (by omega) (by omega)) (fun z326 h327 => ?_)
            refine En_Ps 2 (pc' := 232) (lv' := [(2, .int z326), (0, .ref 159)]) (st' := [.ref 159]) rfl ?_
            refine En_getK (j := 14) h321 rfl rfl rfl (by decide +kernel : TG 159 = 35) (by decide +kernel) ?_
            refine En_Ps 2 (pc' := 237) (lv' := [(2, .int z326), (0, .ref 159)]) (st' := [.ref 159, .int z326, .ref 165]) rfl ?_
            refine En_callV rfl rfl rfl rfl rfl rfl rfl rfl (by decide +kernel : TG 159 = 35) (by decide +kernel) rfl (c_234 σ71 h72 z75 h76 y20 ((h73 _ _ (inW (by decide +kernel : TG 159 = 35) (by decide +kernel))).trans h21)) (by decide) (by decide) (fun v329 σ330 h328 => ?_)
            obtain ⟨h331, h332, z334, h335, z336, h337, z338, rfl, h333⟩ := h328
            have h339 := Fr_trans h79 h332 (by decide +kernel)
            have h340 := KF_fr h80 h332 (by decide +kernel)
            refine En_iast (l := 0) (u := 15) rfl rfl (by decide +kernel : TG 165 = 41) (by decide +kernel) (by omega) (lnI (by decide +kernel : LN _ = 226) (by omega)) (FTrow 41 122 2 12 (by decide +kernel) (by omega) (by omega) (by omega)) (rngI rfl (by omega) (by omega)) h331 h339 (by decide +kernel) (fun σ341 h342 h343 h344 h345 => ?_)
            have h346 := KF_st h340 (J := z326.toInt) h345 (by omega) (by omega)
            refine En_Ps 1 (pc' := 242) (lv' := [(2, .int z326), (0, .ref 159)]) (st' := [.ref 159]) rfl ?_
            refine En_getK (j := 14) ((h345 _ _ (Or.inl (neTG (by decide +kernel : TG 159 = 35) (by decide +kernel : TG 165 = 41) (by decide)))).trans ((h332 _ _ (inW (by decide +kernel : TG 159 = 35) (by decide +kernel))).trans h321)) rfl rfl rfl (by decide +kernel : TG 159 = 35) (by decide +kernel) ?_
            refine En_Ps 3 (pc' := 248) (lv' := [(2, .int z326), (0, .ref 159)]) (st' := [.int ((z326 + ((Int32.ofInt 1)))), .ref 165]) rfl ?_
            refine En_top (addI rfl (by decide : (Int32.ofInt 1).toInt = 1) (by omega) (by omega)) (fun z347 h348 => ?_)
            refine En_Ps 1 (pc' := 249) (lv' := [(2, .int z326), (0, .ref 159)]) (st' := [.ref 159, .int z347, .ref 165]) rfl ?_
            refine En_callV rfl rfl rfl rfl rfl rfl rfl rfl (by decide +kernel : TG 159 = 35) (by decide +kernel) rfl (c_209 σ341 h342 z334 ((h345 _ _ (Or.inl (neTG (by decide +kernel : TG 159 = 35) (by decide +kernel : TG 165 = 41) (by decide)))).trans h335) z336 ((h345 _ _ (Or.inl (neTG (by decide +kernel : TG 159 = 35) (by decide +kernel : TG 165 = 41) (by decide)))).trans h337)) (by decide) (by decide) (fun v350 σ351 h349 => ?_)
            obtain ⟨h352, h353, z355, h356, z357, h358, z359, rfl, h354⟩ := h349
            have h360 := Fr_trans h343 h353 (by decide +kernel)
            have h361 := KF_fr h346 h353 (by decide +kernel)
            refine En_iast (l := 0) (u := 1) rfl rfl (by decide +kernel : TG 165 = 41) (by decide +kernel) (by omega) (lnI (by decide +kernel : LN _ = 226) (by omega)) (FTrow 41 123 2 12 (by decide +kernel) (by omega) (by omega) (by omega)) (rngI rfl (by omega) (by omega)) h352 h360 (by decide +kernel) (fun σ362 h363 h364 h365 h366 => ?_)
            have h367 := KF_st h361 (J := z347.toInt) h366 (by omega) (by omega)
            refine En_Ps 1 (pc' := 254) (lv' := [(2, .int z326), (0, .ref 159)]) (st' := [.ref 159]) rfl ?_
            refine En_getK (j := 14) ((h366 _ _ (Or.inl (neTG (by decide +kernel : TG 159 = 35) (by decide +kernel : TG 165 = 41) (by decide)))).trans ((h353 _ _ (inW (by decide +kernel : TG 159 = 35) (by decide +kernel))).trans ((h345 _ _ (Or.inl (neTG (by decide +kernel : TG 159 = 35) (by decide +kernel : TG 165 = 41) (by decide)))).trans ((h332 _ _ (inW (by decide +kernel : TG 159 = 35) (by decide +kernel))).trans h321)))) rfl rfl rfl (by decide +kernel : TG 159 = 35) (by decide +kernel) ?_
            refine En_Ps 2 (pc' := 259) (lv' := [(2, .int z326), (0, .ref 159)]) (st' := [.int ((Int32.ofInt 3)), .ref 165, .int ((Int32.ofInt 3)), .ref 165]) rfl ?_
            refine En_ialdK ((h366 _ _ (Or.inr (by omega))).trans ((h353 _ _ (inWa (by decide +kernel : TG 165 = 41) (by decide +kernel))).trans ((h345 _ _ (Or.inr (by omega))).trans ((h332 _ _ (inWa (by decide +kernel : TG 165 = 41) (by decide +kernel))).trans ((h73 _ _ (inWa (by decide +kernel : TG 165 = 41) (by decide +kernel))).trans h9))))) rfl (by decide : (Int32.ofInt 3).toInt = 3) (by decide +kernel : TG 165 = 41) (by decide +kernel) h363 (by omega) (lnI (by decide +kernel : LN _ = 226) (by omega)) ?_
            refine En_Ps 2 (pc' := 262) (lv' := [(2, .int z326), (0, .ref 159)]) (st' := [.int ((y8 + ((Int32.ofInt 1)))), .int ((Int32.ofInt 3)), .ref 165]) rfl ?_
            refine En_top (addI rfl (by decide : (Int32.ofInt 1).toInt = 1) (by omega) (by omega)) (fun z369 h370 => ?_)
            refine En_iast (l := 0) (u := 12) rfl (by decide : (Int32.ofInt 3).toInt = 3) (by decide +kernel : TG 165 = 41) (by decide +kernel) (by omega) (lnI (by decide +kernel : LN _ = 226) (by omega)) (by decide +kernel) (rngI rfl (by omega) (by omega)) h363 h364 (by decide +kernel) (fun σ371 h372 h373 h374 h375 => ?_)
            have h376 := KF_st h367 (J := 3) h375 (by omega) (by omega)
            refine En_Ps 1 (pc' := 447) (lv' := [(2, .int z326), (0, .ref 159)]) (st' := []) rfl ?_
            exact En_ret (v := none) rfl rfl rfl ⟨h372, h373, z355, ((h375 _ _ (Or.inl (neTG (by decide +kernel : TG 159 = 35) (by decide +kernel : TG 165 = 41) (by decide)))).trans ((h366 _ _ (Or.inl (neTG (by decide +kernel : TG 159 = 35) (by decide +kernel : TG 165 = 41) (by decide)))).trans h356)), z357, ((h375 _ _ (Or.inl (neTG (by decide +kernel : TG 159 = 35) (by decide +kernel : TG 165 = 41) (by decide)))).trans ((h366 _ _ (Or.inl (neTG (by decide +kernel : TG 159 = 35) (by decide +kernel : TG 165 = 41) (by decide)))).trans h358)), rfl, ⟨by omega, by omega, by omega, by omega, by omega, by omega, by omega, by omega, by omega, by omega, by omega, by omega, by omega, by omega, h376⟩⟩
        · refine En_Ps 1 (pc' := 204) (lv' := [(0, .ref 159)]) (st' := [.ref 159]) rfl ?_
          refine En_callV rfl rfl rfl rfl rfl rfl rfl rfl (by decide +kernel : TG 159 = 35) (by decide +kernel) rfl (c_300 σ58 h59 z62 h63 y20 ((h60 _ _ (inW (by decide +kernel : TG 159 = 35) (by decide +kernel))).trans h21)) (by decide) (by decide) (fun v378 σ379 h377 => ?_)
          obtain ⟨h380, h381, z383, h384, z385, h386, rfl, h382⟩ := h377
          have h387 := h382.2.2.2.2.2.2.2.2.2.2.2.2.2.2
          have h388 := Fr_trans h66 h381 (by decide +kernel)
          have h389 := KF_tr h67 h387
          refine En_Ps 1 (pc' := 447) (lv' := [(0, .ref 159)]) (st' := []) rfl ?_
          exact En_ret (v := none) rfl rfl rfl ⟨h380, h388, z383, h384, z385, h386, rfl, ⟨by omega, by omega, by omega, by omega, by omega, by omega, by omega, by omega, by omega, by omega, by omega, by omega, by omega, by omega, h389⟩⟩
      · refine En_Ps 1 (pc' := 188) (lv' := [(0, .ref 159)]) (st' := [.ref 159]) rfl ?_
        refine En_callV rfl rfl rfl rfl rfl rfl rfl rfl (by decide +kernel : TG 159 = 35) (by decide +kernel) rfl (c_299 σ45 h46 z49 h50 y20 ((h47 _ _ (inW (by decide +kernel : TG 159 = 35) (by decide +kernel))).trans h21) y4 ((h47 _ _ (inWa (by decide +kernel : TG 165 = 41) (by decide +kernel))).trans h5) (by omega)) (by decide) (by decide) (fun v391 σ392 h390 => ?_)
        obtain ⟨h393, h394, z396, h397, z398, h399, rfl, h395⟩ := h390
        have h400 := h395.2.2.2.2.2.2.2.2.2.2.2.2.2.2.2.2.2.2
        have h401 := Fr_trans h53 h394 (by decide +kernel)
        have h402 := KF_tr h54 h400
        refine En_Ps 1 (pc' := 447) (lv' := [(0, .ref 159)]) (st' := []) rfl ?_
        exact En_ret (v := none) rfl rfl rfl ⟨h393, h401, z396, h397, z398, h399, rfl, ⟨by omega, by omega, by omega, by omega, by omega, by omega, by omega, by omega, by omega, by omega, by omega, by omega, by omega, by omega, h402⟩⟩
    · exact En_ret (v := none) rfl rfl rfl ⟨h2, h3, y24, h25, y20, h21, rfl, ⟨by omega, by omega, by omega, by omega, by omega, by omega, by omega, by omega, by omega, by omega, by omega, by omega, by omega, by omega, h34⟩⟩
  have keyj87 : ∀ (σ403 : SG) (y406 : Int32) (y410 : Int32), WT σ403 → Fr [(35, 8), (35, 9), (35, 10), (35, 11), (35, 12), (35, 13), (41, 0)] σ0 σ403 → (σ403 159)[12]? = some (.int y406) → 0 ≤ y406.toInt → y406.toInt ≤ 3 → (σ403 159)[8]? = some (.int y410) → 0 ≤ y410.toInt → y410.toInt ≤ 1600 → f.toInt - y410.toInt ≤ 0 → (y406.toInt ≤ 0 → k.toInt ≤ 0) → KF σ0 σ403 → En 9 200 none mr_302 (P_302 σ0 f k) 87 [(0, .ref 159)] [] σ403 := by
    intro σ403 y406 y410 h404 h405 h407 h408 h409 h411 h412 h413 h414 h415 h416
    refine En_Ps 1 (pc' := 88) (lv' := [(0, .ref 159)]) (st' := [.ref 159]) rfl ?_
    refine En_ldcS (i := 2) rfl rfl rfl ?_
    refine En_callV rfl rfl rfl rfl rfl rfl rfl rfl (by decide +kernel : TG 159 = 35) (by decide +kernel) rfl (c_251s2 σ403 h404) (by decide) (by decide) (fun v418 σ419 h417 => ?_)
    obtain ⟨h420, h421, z423, rfl, h422⟩ := h417
    have h424 := h422.2.2
    obtain rfl : σ403 = σ419 := Fr_nil h421
    refine En_iEq _ rfl rfl (fun h425 => ?_) (fun h425 => ?_)
    · refine En_Ps 1 (pc' := 107) (lv' := [(0, .ref 159)]) (st' := [.ref 159]) rfl ?_
      refine En_ldcS (i := 3) rfl rfl rfl ?_
      refine En_callV rfl rfl rfl rfl rfl rfl rfl rfl (by decide +kernel : TG 159 = 35) (by decide +kernel) rfl (c_251s3 σ403 h404) (by decide) (by decide) (fun v427 σ428 h426 => ?_)
      obtain ⟨h429, h430, z432, rfl, h431⟩ := h426
      have h433 := h431.2.2
      obtain rfl : σ403 = σ428 := Fr_nil h430
      refine En_iEq _ rfl rfl (fun h434 => ?_) (fun h434 => ?_)
      · refine En_Ps 1 (pc' := 127) (lv' := [(0, .ref 159)]) (st' := [.ref 159]) rfl ?_
        refine En_ldcS (i := 5) rfl rfl rfl ?_
        refine En_callV rfl rfl rfl rfl rfl rfl rfl rfl (by decide +kernel : TG 159 = 35) (by decide +kernel) rfl (c_251s5 σ403 h404) (by decide) (by decide) (fun v436 σ437 h435 => ?_)
        obtain ⟨h438, h439, z441, rfl, h440⟩ := h435
        have h442 := h440.2.2
        obtain rfl : σ403 = σ437 := Fr_nil h439
        refine En_iEq _ rfl rfl (fun h443 => ?_) (fun h443 => ?_)
        · refine En_Ps 1 (pc' := 146) (lv' := [(0, .ref 159)]) (st' := [.ref 159]) rfl ?_
          refine En_ldcS (i := 1) rfl rfl rfl ?_
          refine En_callV rfl rfl rfl rfl rfl rfl rfl rfl (by decide +kernel : TG 159 = 35) (by decide +kernel) rfl (c_251s1 σ403 h404) (by decide) (by decide) (fun v445 σ446 h444 => ?_)
          obtain ⟨h447, h448, z450, rfl, h449⟩ := h444
          have h451 := h449.2.2
          obtain rfl : σ403 = σ446 := Fr_nil h448
          refine En_iEq _ rfl rfl (fun h452 => ?_) (fun h452 => ?_)
          · obtain ⟨z454, h453, h455, h456⟩ := WT_peekI h404 (by decide +kernel : TG 165 = 41) (by decide +kernel : FT 41 (2 : Int).toNat = (0, 0, 4)) (by decide +kernel)
            obtain ⟨z458, h457, h459, h460⟩ := WT_peekI h404 (by decide +kernel : TG 165 = 41) (by decide +kernel : FT 41 (3 : Int).toNat = (0, 0, 12)) (by decide +kernel)
            obtain ⟨z462, h461, h463, h464⟩ := WT_peekI h404 (by decide +kernel : TG 165 = 41) (by decide +kernel : FT 41 (4 : Int).toNat = (0, 0, 4)) (by decide +kernel)
            obtain ⟨z466, h465, h467, h468⟩ := WT_peekI h404 (by decide +kernel : TG 165 = 41) (by decide +kernel : FT 41 (5 : Int).toNat = (0, 0, 6)) (by decide +kernel)
            exact keyj170 σ403 z454 z458 z462 z466 y406 y410 h404 h405 h453 (by omega) (by omega) h457 (by omega) (by omega) h461 (by omega) (by omega) h465 (by omega) (by omega) h407 (by omega) (by omega) h411 (by omega) (by omega) (by omega) (by omega) (by omega) (by omega) (by omega) (by omega) h416
          · refine En_Ps 1 (pc' := 155) (lv' := [(0, .ref 159)]) (st' := [.ref 159]) rfl ?_
            refine En_getU (j := 14) (u := 165) (g' := 41) (q := 0) rfl rfl rfl (by decide +kernel : TG 159 = 35) (by decide +kernel) h404 (by decide +kernel) (by decide +kernel) (fun h469 => ?_)
            refine En_Ps 1 (pc' := 159) (lv' := [(0, .ref 159)]) (st' := [.int ((Int32.ofInt 5)), .ref 165]) rfl ?_
            refine En_iald (l := 0) (u := 6) rfl (by decide : (Int32.ofInt 5).toInt = 5) (by decide +kernel : TG 165 = 41) (by decide +kernel) h404 (by omega) (lnI (by decide +kernel : LN _ = 226) (by omega)) (by decide +kernel) (fun z472 h471 h473 h474 => ?_)
            refine En_Ps 1 (pc' := 162) (lv' := [(0, .ref 159)]) (st' := [.int (((Int8.ofInt 6).toInt32)), .int z472]) rfl ?_
            refine En_icNe _ rfl (by decide : ((Int8.ofInt 6).toInt32).toInt = 6) rfl (fun h475 => ?_) (fun h475 => ?_)
            · obtain ⟨z477, h476, h478, h479⟩ := WT_peekI h404 (by decide +kernel : TG 165 = 41) (by decide +kernel : FT 41 (2 : Int).toNat = (0, 0, 4)) (by decide +kernel)
              obtain ⟨z481, h480, h482, h483⟩ := WT_peekI h404 (by decide +kernel : TG 165 = 41) (by decide +kernel : FT 41 (3 : Int).toNat = (0, 0, 12)) (by decide +kernel)
              obtain ⟨z485, h484, h486, h487⟩ := WT_peekI h404 (by decide +kernel : TG 165 = 41) (by decide +kernel : FT 41 (4 : Int).toNat = (0, 0, 4)) (by decide +kernel)
              exact keyj170 σ403 z477 z481 z485 z472 y406 y410 h404 h405 h476 (by omega) (by omega) h480 (by omega) (by omega) h484 (by omega) (by omega) h471 (by omega) (by omega) h407 (by omega) (by omega) h411 (by omega) (by omega) (by omega) (by omega) (by omega) (by omega) (by omega) (by omega) h416
            · refine En_Ps 2 (pc' := 167) (lv' := [(0, .ref 159)]) (st' := [.int ((Int32.ofInt 3)), .ref 159]) rfl ?_
              have := (by decide : ((Int32.ofInt 3)).toInt = 3)
              refine En_callV rfl rfl rfl rfl rfl rfl rfl rfl (by decide +kernel : TG 159 = 35) (by decide +kernel) rfl (c_223 σ403 h404 ((Int32.ofInt 3)) (geI (by decide : (Int32.ofInt 3).toInt = 3) (by omega)) (leI (by decide : (Int32.ofInt 3).toInt = 3) (by omega)) y406 h407) (by decide) (by decide) (fun v489 σ490 h488 => ?_)
              obtain ⟨h491, h492, z494, h495, rfl, h493⟩ := h488
              have h496 := Fr_trans h405 h492 (by decide +kernel)
              have h497 := KF_fr h416 h492 (by decide +kernel)
              obtain ⟨z499, h498, h500, h501⟩ := WT_peekI h491 (by decide +kernel : TG 165 = 41) (by decide +kernel : FT 41 (2 : Int).toNat = (0, 0, 4)) (by decide +kernel)
              obtain ⟨z503, h502, h504, h505⟩ := WT_peekI h491 (by decide +kernel : TG 165 = 41) (by decide +kernel : FT 41 (3 : Int).toNat = (0, 0, 12)) (by decide +kernel)
              obtain ⟨z507, h506, h508, h509⟩ := WT_peekI h491 (by decide +kernel : TG 165 = 41) (by decide +kernel : FT 41 (4 : Int).toNat = (0, 0, 4)) (by decide +kernel)
              exact keyj170 σ490 z499 z503 z507 z472 z494 y410 h491 h496 h498 (by omega) (by omega) h502 (by omega) (by omega) h506 (by omega) (by omega) ((h492 _ _ (inWa (by decide +kernel : TG 165 = 41) (by decide +kernel))).trans h471) (by omega) (by omega) h495 (by omega) (by omega) ((h492 _ _ (inW (by decide +kernel : TG 159 = 35) (by decide +kernel))).trans h411) (by omega) (by omega) (by omega) (by omega) (by omega) (by omega) (by omega) (by omega) h497
        · refine En_Ps 1 (pc' := 136) (lv' := [(0, .ref 159)]) (st' := [.ref 159]) rfl ?_
          refine En_getU (j := 14) (u := 165) (g' := 41) (q := 0) rfl rfl rfl (by decide +kernel : TG 159 = 35) (by decide +kernel) h404 (by decide +kernel) (by decide +kernel) (fun h510 => ?_)
          refine En_Ps 1 (pc' := 140) (lv' := [(0, .ref 159)]) (st' := [.int ((Int32.ofInt 4)), .ref 165]) rfl ?_
          refine En_iald (l := 0) (u := 4) rfl (by decide : (Int32.ofInt 4).toInt = 4) (by decide +kernel : TG 165 = 41) (by decide +kernel) h404 (by omega) (lnI (by decide +kernel : LN _ = 226) (by omega)) (by decide +kernel) (fun z513 h512 h514 h515 => ?_)
          refine En_Ps 1 (pc' := 142) (lv' := [(0, .ref 159)]) (st' := [.int ((Int32.ofInt 4)), .int z513]) rfl ?_
          refine En_icEq _ rfl (by decide : (Int32.ofInt 4).toInt = 4) rfl (fun h516 => ?_) (fun h516 => ?_)
          · refine En_Ps 2 (pc' := 167) (lv' := [(0, .ref 159)]) (st' := [.int ((Int32.ofInt 3)), .ref 159]) rfl ?_
            have := (by decide : ((Int32.ofInt 3)).toInt = 3)
            refine En_callV rfl rfl rfl rfl rfl rfl rfl rfl (by decide +kernel : TG 159 = 35) (by decide +kernel) rfl (c_223 σ403 h404 ((Int32.ofInt 3)) (geI (by decide : (Int32.ofInt 3).toInt = 3) (by omega)) (leI (by decide : (Int32.ofInt 3).toInt = 3) (by omega)) y406 h407) (by decide) (by decide) (fun v518 σ519 h517 => ?_)
            obtain ⟨h520, h521, z523, h524, rfl, h522⟩ := h517
            have h525 := Fr_trans h405 h521 (by decide +kernel)
            have h526 := KF_fr h416 h521 (by decide +kernel)
            obtain ⟨z528, h527, h529, h530⟩ := WT_peekI h520 (by decide +kernel : TG 165 = 41) (by decide +kernel : FT 41 (2 : Int).toNat = (0, 0, 4)) (by decide +kernel)
            obtain ⟨z532, h531, h533, h534⟩ := WT_peekI h520 (by decide +kernel : TG 165 = 41) (by decide +kernel : FT 41 (3 : Int).toNat = (0, 0, 12)) (by decide +kernel)
            obtain ⟨z536, h535, h537, h538⟩ := WT_peekI h520 (by decide +kernel : TG 165 = 41) (by decide +kernel : FT 41 (5 : Int).toNat = (0, 0, 6)) (by decide +kernel)
            exact keyj170 σ519 z528 z532 z513 z536 z523 y410 h520 h525 h527 (by omega) (by omega) h531 (by omega) (by omega) ((h521 _ _ (inWa (by decide +kernel : TG 165 = 41) (by decide +kernel))).trans h512) (by omega) (by omega) h535 (by omega) (by omega) h524 (by omega) (by omega) ((h521 _ _ (inW (by decide +kernel : TG 159 = 35) (by decide +kernel))).trans h411) (by omega) (by omega) (by omega) (by omega) (by omega) (by omega) (by omega) (by omega) h526
          · refine En_Ps 1 (pc' := 146) (lv' := [(0, .ref 159)]) (st' := [.ref 159]) rfl ?_
            refine En_ldcS (i := 1) rfl rfl rfl ?_
            refine En_callV rfl rfl rfl rfl rfl rfl rfl rfl (by decide +kernel : TG 159 = 35) (by decide +kernel) rfl (c_251s1 σ403 h404) (by decide) (by decide) (fun v540 σ541 h539 => ?_)
            obtain ⟨h542, h543, z545, rfl, h544⟩ := h539
            have h546 := h544.2.2
            obtain rfl : σ403 = σ541 := Fr_nil h543
            refine En_iEq _ rfl rfl (fun h547 => ?_) (fun h547 => ?_)
            · obtain ⟨z549, h548, h550, h551⟩ := WT_peekI h404 (by decide +kernel : TG 165 = 41) (by decide +kernel : FT 41 (2 : Int).toNat = (0, 0, 4)) (by decide +kernel)
              obtain ⟨z553, h552, h554, h555⟩ := WT_peekI h404 (by decide +kernel : TG 165 = 41) (by decide +kernel : FT 41 (3 : Int).toNat = (0, 0, 12)) (by decide +kernel)
              obtain ⟨z557, h556, h558, h559⟩ := WT_peekI h404 (by decide +kernel : TG 165 = 41) (by decide +kernel : FT 41 (5 : Int).toNat = (0, 0, 6)) (by decide +kernel)
              exact keyj170 σ403 z549 z553 z513 z557 y406 y410 h404 h405 h548 (by omega) (by omega) h552 (by omega) (by omega) h512 (by omega) (by omega) h556 (by omega) (by omega) h407 (by omega) (by omega) h411 (by omega) (by omega) (by omega) (by omega) (by omega) (by omega) (by omega) (by omega) h416
            · refine En_Ps 1 (pc' := 155) (lv' := [(0, .ref 159)]) (st' := [.ref 159]) rfl ?_
              refine En_getK (j := 14) h510 rfl rfl rfl (by decide +kernel : TG 159 = 35) (by decide +kernel) ?_
              refine En_Ps 1 (pc' := 159) (lv' := [(0, .ref 159)]) (st' := [.int ((Int32.ofInt 5)), .ref 165]) rfl ?_
              refine En_iald (l := 0) (u := 6) rfl (by decide : (Int32.ofInt 5).toInt = 5) (by decide +kernel : TG 165 = 41) (by decide +kernel) h404 (by omega) (lnI (by decide +kernel : LN _ = 226) (by omega)) (by decide +kernel) (fun z561 h560 h562 h563 => ?_)
              refine En_Ps 1 (pc' := 162) (lv' := [(0, .ref 159)]) (st' := [.int (((Int8.ofInt 6).toInt32)), .int z561]) rfl ?_
              refine En_icNe _ rfl (by decide : ((Int8.ofInt 6).toInt32).toInt = 6) rfl (fun h564 => ?_) (fun h564 => ?_)
              · obtain ⟨z566, h565, h567, h568⟩ := WT_peekI h404 (by decide +kernel : TG 165 = 41) (by decide +kernel : FT 41 (2 : Int).toNat = (0, 0, 4)) (by decide +kernel)
                obtain ⟨z570, h569, h571, h572⟩ := WT_peekI h404 (by decide +kernel : TG 165 = 41) (by decide +kernel : FT 41 (3 : Int).toNat = (0, 0, 12)) (by decide +kernel)
                exact keyj170 σ403 z566 z570 z513 z561 y406 y410 h404 h405 h565 (by omega) (by omega) h569 (by omega) (by omega) h512 (by omega) (by omega) h560 (by omega) (by omega) h407 (by omega) (by omega) h411 (by omega) (by omega) (by omega) (by omega) (by omega) (by omega) (by omega) (by omega) h416
              · refine En_Ps 2 (pc' := 167) (lv' := [(0, .ref 159)]) (st' := [.int ((Int32.ofInt 3)), .ref 159]) rfl ?_
                have := (by decide : ((Int32.ofInt 3)).toInt = 3)
                refine En_callV rfl rfl rfl rfl rfl rfl rfl rfl (by decide +kernel : TG 159 = 35) (by decide +kernel) rfl (c_223 σ403 h404 ((Int32.ofInt 3)) (geI (by decide : (Int32.ofInt 3).toInt = 3) (by omega)) (leI (by decide : (Int32.ofInt 3).toInt = 3) (by omega)) y406 h407) (by decide) (by decide) (fun v574 σ575 h573 => ?_)
                obtain ⟨h576, h577, z579, h580, rfl, h578⟩ := h573
                have h581 := Fr_trans h405 h577 (by decide +kernel)
                have h582 := KF_fr h416 h577 (by decide +kernel)
                obtain ⟨z584, h583, h585, h586⟩ := WT_peekI h576 (by decide +kernel : TG 165 = 41) (by decide +kernel : FT 41 (2 : Int).toNat = (0, 0, 4)) (by decide +kernel)
                obtain ⟨z588, h587, h589, h590⟩ := WT_peekI h576 (by decide +kernel : TG 165 = 41) (by decide +kernel : FT 41 (3 : Int).toNat = (0, 0, 12)) (by decide +kernel)
                exact keyj170 σ575 z584 z588 z513 z561 z579 y410 h576 h581 h583 (by omega) (by omega) h587 (by omega) (by omega) ((h577 _ _ (inWa (by decide +kernel : TG 165 = 41) (by decide +kernel))).trans h512) (by omega) (by omega) ((h577 _ _ (inWa (by decide +kernel : TG 165 = 41) (by decide +kernel))).trans h560) (by omega) (by omega) h580 (by omega) (by omega) ((h577 _ _ (inW (by decide +kernel : TG 159 = 35) (by decide +kernel))).trans h411) (by omega) (by omega) (by omega) (by omega) (by omega) (by omega) (by omega) (by omega) h582
      · refine En_Ps 1 (pc' := 116) (lv' := [(0, .ref 159)]) (st' := [.ref 159]) rfl ?_
        refine En_getU (j := 14) (u := 165) (g' := 41) (q := 0) rfl rfl rfl (by decide +kernel : TG 159 = 35) (by decide +kernel) h404 (by decide +kernel) (by decide +kernel) (fun h591 => ?_)
        refine En_Ps 1 (pc' := 120) (lv' := [(0, .ref 159)]) (st' := [.int ((Int32.ofInt 3)), .ref 165]) rfl ?_
        refine En_iald (l := 0) (u := 12) rfl (by decide : (Int32.ofInt 3).toInt = 3) (by decide +kernel : TG 165 = 41) (by decide +kernel) h404 (by omega) (lnI (by decide +kernel : LN _ = 226) (by omega)) (by decide +kernel) (fun z594 h593 h595 h596 => ?_)
        refine En_Ps 1 (pc' := 123) (lv' := [(0, .ref 159)]) (st' := [.int (((Int8.ofInt 12).toInt32)), .int z594]) rfl ?_
        refine En_icEq _ rfl (by decide : ((Int8.ofInt 12).toInt32).toInt = 12) rfl (fun h597 => ?_) (fun h597 => ?_)
        · refine En_Ps 2 (pc' := 167) (lv' := [(0, .ref 159)]) (st' := [.int ((Int32.ofInt 3)), .ref 159]) rfl ?_
          have := (by decide : ((Int32.ofInt 3)).toInt = 3)
          refine En_callV rfl rfl rfl rfl rfl rfl rfl rfl (by decide +kernel : TG 159 = 35) (by decide +kernel) rfl (c_223 σ403 h404 ((Int32.ofInt 3)) (geI (by decide : (Int32.ofInt 3).toInt = 3) (by omega)) (leI (by decide : (Int32.ofInt 3).toInt = 3) (by omega)) y406 h407) (by decide) (by decide) (fun v599 σ600 h598 => ?_)
          obtain ⟨h601, h602, z604, h605, rfl, h603⟩ := h598
          have h606 := Fr_trans h405 h602 (by decide +kernel)
          have h607 := KF_fr h416 h602 (by decide +kernel)
          obtain ⟨z609, h608, h610, h611⟩ := WT_peekI h601 (by decide +kernel : TG 165 = 41) (by decide +kernel : FT 41 (2 : Int).toNat = (0, 0, 4)) (by decide +kernel)
          obtain ⟨z613, h612, h614, h615⟩ := WT_peekI h601 (by decide +kernel : TG 165 = 41) (by decide +kernel : FT 41 (4 : Int).toNat = (0, 0, 4)) (by decide +kernel)
          obtain ⟨z617, h616, h618, h619⟩ := WT_peekI h601 (by decide +kernel : TG 165 = 41) (by decide +kernel : FT 41 (5 : Int).toNat = (0, 0, 6)) (by decide +kernel)
          exact keyj170 σ600 z609 z594 z613 z617 z604 y410 h601 h606 h608 (by omega) (by omega) ((h602 _ _ (inWa (by decide +kernel : TG 165 = 41) (by decide +kernel))).trans h593) (by omega) (by omega) h612 (by omega) (by omega) h616 (by omega) (by omega) h605 (by omega) (by omega) ((h602 _ _ (inW (by decide +kernel : TG 159 = 35) (by decide +kernel))).trans h411) (by omega) (by omega) (by omega) (by omega) (by omega) (by omega) (by omega) (by omega) h607
        · refine En_Ps 1 (pc' := 127) (lv' := [(0, .ref 159)]) (st' := [.ref 159]) rfl ?_
          refine En_ldcS (i := 5) rfl rfl rfl ?_
          refine En_callV rfl rfl rfl rfl rfl rfl rfl rfl (by decide +kernel : TG 159 = 35) (by decide +kernel) rfl (c_251s5 σ403 h404) (by decide) (by decide) (fun v621 σ622 h620 => ?_)
          obtain ⟨h623, h624, z626, rfl, h625⟩ := h620
          have h627 := h625.2.2
          obtain rfl : σ403 = σ622 := Fr_nil h624
          refine En_iEq _ rfl rfl (fun h628 => ?_) (fun h628 => ?_)
          · refine En_Ps 1 (pc' := 146) (lv' := [(0, .ref 159)]) (st' := [.ref 159]) rfl ?_
            refine En_ldcS (i := 1) rfl rfl rfl ?_
            refine En_callV rfl rfl rfl rfl rfl rfl rfl rfl (by decide +kernel : TG 159 = 35) (by decide +kernel) rfl (c_251s1 σ403 h404) (by decide) (by decide) (fun v630 σ631 h629 => ?_)
            obtain ⟨h632, h633, z635, rfl, h634⟩ := h629
            have h636 := h634.2.2
            obtain rfl : σ403 = σ631 := Fr_nil h633
            refine En_iEq _ rfl rfl (fun h637 => ?_) (fun h637 => ?_)
            · obtain ⟨z639, h638, h640, h641⟩ := WT_peekI h404 (by decide +kernel : TG 165 = 41) (by decide +kernel : FT 41 (2 : Int).toNat = (0, 0, 4)) (by decide +kernel)
              obtain ⟨z643, h642, h644, h645⟩ := WT_peekI h404 (by decide +kernel : TG 165 = 41) (by decide +kernel : FT 41 (4 : Int).toNat = (0, 0, 4)) (by decide +kernel)
              obtain ⟨z647, h646, h648, h649⟩ := WT_peekI h404 (by decide +kernel : TG 165 = 41) (by decide +kernel : FT 41 (5 : Int).toNat = (0, 0, 6)) (by decide +kernel)
              exact keyj170 σ403 z639 z594 z643 z647 y406 y410 h404 h405 h638 (by omega) (by omega) h593 (by omega) (by omega) h642 (by omega) (by omega) h646 (by omega) (by omega) h407 (by omega) (by omega) h411 (by omega) (by omega) (by omega) (by omega) (by omega) (by omega) (by omega) (by omega) h416
            · refine En_Ps 1 (pc' := 155) (lv' := [(0, .ref 159)]) (st' := [.ref 159]) rfl ?_
              refine En_getK (j := 14) h591 rfl rfl rfl (by decide +kernel : TG 159 = 35) (by decide +kernel) ?_
              refine En_Ps 1 (pc' := 159) (lv' := [(0, .ref 159)]) (st' := [.int ((Int32.ofInt 5)), .ref 165]) rfl ?_
              refine En_iald (l := 0) (u := 6) rfl (by decide : (Int32.ofInt 5).toInt = 5) (by decide +kernel : TG 165 = 41) (by decide +kernel) h404 (by omega) (lnI (by decide +kernel : LN _ = 226) (by omega)) (by decide +kernel) (fun z651 h650 h652 h653 => ?_)
              refine En_Ps 1 (pc' := 162) (lv' := [(0, .ref 159)]) (st' := [.int (((Int8.ofInt 6).toInt32)), .int z651]) rfl ?_
              refine En_icNe _ rfl (by decide : ((Int8.ofInt 6).toInt32).toInt = 6) rfl (fun h654 => ?_) (fun h654 => ?_)
              · obtain ⟨z656, h655, h657, h658⟩ := WT_peekI h404 (by decide +kernel : TG 165 = 41) (by decide +kernel : FT 41 (2 : Int).toNat = (0, 0, 4)) (by decide +kernel)
                obtain ⟨z660, h659, h661, h662⟩ := WT_peekI h404 (by decide +kernel : TG 165 = 41) (by decide +kernel : FT 41 (4 : Int).toNat = (0, 0, 4)) (by decide +kernel)
                exact keyj170 σ403 z656 z594 z660 z651 y406 y410 h404 h405 h655 (by omega) (by omega) h593 (by omega) (by omega) h659 (by omega) (by omega) h650 (by omega) (by omega) h407 (by omega) (by omega) h411 (by omega) (by omega) (by omega) (by omega) (by omega) (by omega) (by omega) (by omega) h416
              · refine En_Ps 2 (pc' := 167) (lv' := [(0, .ref 159)]) (st' := [.int ((Int32.ofInt 3)), .ref 159]) rfl ?_
                have := (by decide : ((Int32.ofInt 3)).toInt = 3)
                refine En_callV rfl rfl rfl rfl rfl rfl rfl rfl (by decide +kernel : TG 159 = 35) (by decide +kernel) rfl (c_223 σ403 h404 ((Int32.ofInt 3)) (geI (by decide : (Int32.ofInt 3).toInt = 3) (by omega)) (leI (by decide : (Int32.ofInt 3).toInt = 3) (by omega)) y406 h407) (by decide) (by decide) (fun v664 σ665 h663 => ?_)
                obtain ⟨h666, h667, z669, h670, rfl, h668⟩ := h663
                have h671 := Fr_trans h405 h667 (by decide +kernel)
                have h672 := KF_fr h416 h667 (by decide +kernel)
                obtain ⟨z674, h673, h675, h676⟩ := WT_peekI h666 (by decide +kernel : TG 165 = 41) (by decide +kernel : FT 41 (2 : Int).toNat = (0, 0, 4)) (by decide +kernel)
                obtain ⟨z678, h677, h679, h680⟩ := WT_peekI h666 (by decide +kernel : TG 165 = 41) (by decide +kernel : FT 41 (4 : Int).toNat = (0, 0, 4)) (by decide +kernel)
                exact keyj170 σ665 z674 z594 z678 z651 z669 y410 h666 h671 h673 (by omega) (by omega) ((h667 _ _ (inWa (by decide +kernel : TG 165 = 41) (by decide +kernel))).trans h593) (by omega) (by omega) h677 (by omega) (by omega) ((h667 _ _ (inWa (by decide +kernel : TG 165 = 41) (by decide +kernel))).trans h650) (by omega) (by omega) h670 (by omega) (by omega) ((h667 _ _ (inW (by decide +kernel : TG 159 = 35) (by decide +kernel))).trans h411) (by omega) (by omega) (by omega) (by omega) (by omega) (by omega) (by omega) (by omega) h672
          · refine En_Ps 1 (pc' := 136) (lv' := [(0, .ref 159)]) (st' := [.ref 159]) rfl ?_
            refine En_getK (j := 14) h591 rfl rfl rfl (by decide +kernel : TG 159 = 35) (by decide +kernel) ?_
            refine En_Ps 1 (pc' := 140) (lv' := [(0, .ref 159)]) (st' := [.int ((Int32.ofInt 4)), .ref 165]) rfl ?_
            refine En_iald (l := 0) (u := 4) rfl (by decide : (Int32.ofInt 4).toInt = 4) (by decide +kernel : TG 165 = 41) (by decide +kernel) h404 (by omega) (lnI (by decide +kernel : LN _ = 226) (by omega)) (by decide +kernel) (fun z682 h681 h683 h684 => ?_)
            refine En_Ps 1 (pc' := 142) (lv' := [(0, .ref 159)]) (st' := [.int ((Int32.ofInt 4)), .int z682]) rfl ?_
            refine En_icEq _ rfl (by decide : (Int32.ofInt 4).toInt = 4) rfl (fun h685 => ?_) (fun h685 => ?_)
            · refine En_Ps 2 (pc' := 167) (lv' := [(0, .ref 159)]) (st' := [.int ((Int32.ofInt 3)), .ref 159]) rfl ?_
              have := (by decide : ((Int32.ofInt 3)).toInt = 3)
              refine En_callV rfl rfl rfl rfl rfl rfl rfl rfl (by decide +kernel : TG 159 = 35) (by decide +kernel) rfl (c_223 σ403 h404 ((Int32.ofInt 3)) (geI (by decide : (Int32.ofInt 3).toInt = 3) (by omega)) (leI (by decide : (Int32.ofInt 3).toInt = 3) (by omega)) y406 h407) (by decide) (by decide) (fun v687 σ688 h686 => ?_)
              obtain ⟨h689, h690, z692, h693, rfl, h691⟩ := h686
              have h694 := Fr_trans h405 h690 (by decide +kernel)
              have h695 := KF_fr h416 h690 (by decide +kernel)
              obtain ⟨z697, h696, h698, h699⟩ := WT_peekI h689 (by decide +kernel : TG 165 = 41) (by decide +kernel : FT 41 (2 : Int).toNat = (0, 0, 4)) (by decide +kernel)
              obtain ⟨z701, h700, h702, h703⟩ := WT_peekI h689 (by decide +kernel : TG 165 = 41) (by decide +kernel : FT 41 (5 : Int).toNat = (0, 0, 6)) (by decide +kernel)
              exact keyj170 σ688 z697 z594 z682 z701 z692 y410 h689 h694 h696 (by omega) (by omega) ((h690 _ _ (inWa (by decide +kernel : TG 165 = 41) (by decide +kernel))).trans h593) (by omega) (by omega) ((h690 _ _ (inWa (by decide +kernel : TG 165 = 41) (by decide +kernel))).trans h681) (by omega) (by omega) h700 (by omega) (by omega) h693 (by omega) (by omega) ((h690 _ _ (inW (by decide +kernel : TG 159 = 35) (by decide +kernel))).trans h411) (by omega) (by omega) (by omega) (by omega) (by omega) (by omega) (by omega) (by omega) h695
            · refine En_Ps 1 (pc' := 146) (lv' := [(0, .ref 159)]) (st' := [.ref 159]) rfl ?_
              refine En_ldcS (i := 1) rfl rfl rfl ?_
              refine En_callV rfl rfl rfl rfl rfl rfl rfl rfl (by decide +kernel : TG 159 = 35) (by decide +kernel) rfl (c_251s1 σ403 h404) (by decide) (by decide) (fun v705 σ706 h704 => ?_)
              obtain ⟨h707, h708, z710, rfl, h709⟩ := h704
              have h711 := h709.2.2
              obtain rfl : σ403 = σ706 := Fr_nil h708
              refine En_iEq _ rfl rfl (fun h712 => ?_) (fun h712 => ?_)
              · obtain ⟨z714, h713, h715, h716⟩ := WT_peekI h404 (by decide +kernel : TG 165 = 41) (by decide +kernel : FT 41 (2 : Int).toNat = (0, 0, 4)) (by decide +kernel)
                obtain ⟨z718, h717, h719, h720⟩ := WT_peekI h404 (by decide +kernel : TG 165 = 41) (by decide +kernel : FT 41 (5 : Int).toNat = (0, 0, 6)) (by decide +kernel)
                exact keyj170 σ403 z714 z594 z682 z718 y406 y410 h404 h405 h713 (by omega) (by omega) h593 (by omega) (by omega) h681 (by omega) (by omega) h717 (by omega) (by omega) h407 (by omega) (by omega) h411 (by omega) (by omega) (by omega) (by omega) (by omega) (by omega) (by omega) (by omega) h416
              · refine En_Ps 1 (pc' := 155) (lv' := [(0, .ref 159)]) (st' := [.ref 159]) rfl ?_
                refine En_getK (j := 14) h591 rfl rfl rfl (by decide +kernel : TG 159 = 35) (by decide +kernel) ?_
                refine En_Ps 1 (pc' := 159) (lv' := [(0, .ref 159)]) (st' := [.int ((Int32.ofInt 5)), .ref 165]) rfl ?_
                refine En_iald (l := 0) (u := 6) rfl (by decide : (Int32.ofInt 5).toInt = 5) (by decide +kernel : TG 165 = 41) (by decide +kernel) h404 (by omega) (lnI (by decide +kernel : LN _ = 226) (by omega)) (by decide +kernel) (fun z722 h721 h723 h724 => ?_)
                refine En_Ps 1 (pc' := 162) (lv' := [(0, .ref 159)]) (st' := [.int (((Int8.ofInt 6).toInt32)), .int z722]) rfl ?_
                refine En_icNe _ rfl (by decide : ((Int8.ofInt 6).toInt32).toInt = 6) rfl (fun h725 => ?_) (fun h725 => ?_)
                · obtain ⟨z727, h726, h728, h729⟩ := WT_peekI h404 (by decide +kernel : TG 165 = 41) (by decide +kernel : FT 41 (2 : Int).toNat = (0, 0, 4)) (by decide +kernel)
                  exact keyj170 σ403 z727 z594 z682 z722 y406 y410 h404 h405 h726 (by omega) (by omega) h593 (by omega) (by omega) h681 (by omega) (by omega) h721 (by omega) (by omega) h407 (by omega) (by omega) h411 (by omega) (by omega) (by omega) (by omega) (by omega) (by omega) (by omega) (by omega) h416
                · refine En_Ps 2 (pc' := 167) (lv' := [(0, .ref 159)]) (st' := [.int ((Int32.ofInt 3)), .ref 159]) rfl ?_
                  have := (by decide : ((Int32.ofInt 3)).toInt = 3)
                  refine En_callV rfl rfl rfl rfl rfl rfl rfl rfl (by decide +kernel : TG 159 = 35) (by decide +kernel) rfl (c_223 σ403 h404 ((Int32.ofInt 3)) (geI (by decide : (Int32.ofInt 3).toInt = 3) (by omega)) (leI (by decide : (Int32.ofInt 3).toInt = 3) (by omega)) y406 h407) (by decide) (by decide) (fun v731 σ732 h730 => ?_)
                  obtain ⟨h733, h734, z736, h737, rfl, h735⟩ := h730
                  have h738 := Fr_trans h405 h734 (by decide +kernel)
                  have h739 := KF_fr h416 h734 (by decide +kernel)
                  obtain ⟨z741, h740, h742, h743⟩ := WT_peekI h733 (by decide +kernel : TG 165 = 41) (by decide +kernel : FT 41 (2 : Int).toNat = (0, 0, 4)) (by decide +kernel)
                  exact keyj170 σ732 z741 z594 z682 z722 z736 y410 h733 h738 h740 (by omega) (by omega) ((h734 _ _ (inWa (by decide +kernel : TG 165 = 41) (by decide +kernel))).trans h593) (by omega) (by omega) ((h734 _ _ (inWa (by decide +kernel : TG 165 = 41) (by decide +kernel))).trans h681) (by omega) (by omega) ((h734 _ _ (inWa (by decide +kernel : TG 165 = 41) (by decide +kernel))).trans h721) (by omega) (by omega) h737 (by omega) (by omega) ((h734 _ _ (inW (by decide +kernel : TG 159 = 35) (by decide +kernel))).trans h411) (by omega) (by omega) (by omega) (by omega) (by omega) (by omega) (by omega) (by omega) h739
    · refine En_Ps 1 (pc' := 97) (lv' := [(0, .ref 159)]) (st' := [.ref 159]) rfl ?_
      refine En_getU (j := 14) (u := 165) (g' := 41) (q := 0) rfl rfl rfl (by decide +kernel : TG 159 = 35) (by decide +kernel) h404 (by decide +kernel) (by decide +kernel) (fun h744 => ?_)
      refine En_Ps 1 (pc' := 101) (lv' := [(0, .ref 159)]) (st' := [.int ((Int32.ofInt 2)), .ref 165]) rfl ?_
      refine En_iald (l := 0) (u := 4) rfl (by decide : (Int32.ofInt 2).toInt = 2) (by decide +kernel : TG 165 = 41) (by decide +kernel) h404 (by omega) (lnI (by decide +kernel : LN _ = 226) (by omega)) (by decide +kernel) (fun z747 h746 h748 h749 => ?_)
      refine En_Ps 1 (pc' := 103) (lv' := [(0, .ref 159)]) (st' := [.int ((Int32.ofInt 4)), .int z747]) rfl ?_
      refine En_icEq _ rfl (by decide : (Int32.ofInt 4).toInt = 4) rfl (fun h750 => ?_) (fun h750 => ?_)
      · refine En_Ps 2 (pc' := 167) (lv' := [(0, .ref 159)]) (st' := [.int ((Int32.ofInt 3)), .ref 159]) rfl ?_
        have := (by decide : ((Int32.ofInt 3)).toInt = 3)
        refine En_callV rfl rfl rfl rfl rfl rfl rfl rfl (by decide +kernel : TG 159 = 35) (by decide +kernel) rfl (c_223 σ403 h404 ((Int32.ofInt 3)) (geI (by decide : (Int32.ofInt 3).toInt = 3) (by omega)) (leI (by decide : (Int32.ofInt 3).toInt = 3) (by omega)) y406 h407) (by decide) (by decide) (fun v752 σ753 h751 => ?_)
        obtain ⟨h754, h755, z757, h758, rfl, h756⟩ := h751
        have h759 := Fr_trans h405 h755 (by decide +kernel)
        have h760 := KF_fr h416 h755 (by decide +kernel)
        obtain ⟨z762, h761, h763, h764⟩ := WT_peekI h754 (by decide +kernel : TG 165 = 41) (by decide +kernel : FT 41 (3 : Int).toNat = (0, 0, 12)) (by decide +kernel)
        obtain ⟨z766, h765, h767, h768⟩ := WT_peekI h754 (by decide +kernel : TG 165 = 41) (by decide +kernel : FT 41 (4 : Int).toNat = (0, 0, 4)) (by decide +kernel)
        obtain ⟨z770, h769, h771, h772⟩ := WT_peekI h754 (by decide +kernel : TG 165 = 41) (by decide +kernel : FT 41 (5 : Int).toNat = (0, 0, 6)) (by decide +kernel)
        exact keyj170 σ753 z747 z762 z766 z770 z757 y410 h754 h759 ((h755 _ _ (inWa (by decide +kernel : TG 165 = 41) (by decide +kernel))).trans h746) (by omega) (by omega) h761 (by omega) (by omega) h765 (by omega) (by omega) h769 (by omega) (by omega) h758 (by omega) (by omega) ((h755 _ _ (inW (by decide +kernel : TG 159 = 35) (by decide +kernel))).trans h411) (by omega) (by omega) (by omega) (by omega) (by omega) (by omega) (by omega) (by omega) h760
      · refine En_Ps 1 (pc' := 107) (lv' := [(0, .ref 159)]) (st' := [.ref 159]) rfl ?_
        refine En_ldcS (i := 3) rfl rfl rfl ?_
        refine En_callV rfl rfl rfl rfl rfl rfl rfl rfl (by decide +kernel : TG 159 = 35) (by decide +kernel) rfl (c_251s3 σ403 h404) (by decide) (by decide) (fun v774 σ775 h773 => ?_)
        obtain ⟨h776, h777, z779, rfl, h778⟩ := h773
        have h780 := h778.2.2
        obtain rfl : σ403 = σ775 := Fr_nil h777
        refine En_iEq _ rfl rfl (fun h781 => ?_) (fun h781 => ?_)
        · refine En_Ps 1 (pc' := 127) (lv' := [(0, .ref 159)]) (st' := [.ref 159]) rfl ?_
          refine En_ldcS (i := 5) rfl rfl rfl ?_
          refine En_callV rfl rfl rfl rfl rfl rfl rfl rfl (by decide +kernel : TG 159 = 35) (by decide +kernel) rfl (c_251s5 σ403 h404) (by decide) (by decide) (fun v783 σ784 h782 => ?_)
          obtain ⟨h785, h786, z788, rfl, h787⟩ := h782
          have h789 := h787.2.2
          obtain rfl : σ403 = σ784 := Fr_nil h786
          refine En_iEq _ rfl rfl (fun h790 => ?_) (fun h790 => ?_)
          · refine En_Ps 1 (pc' := 146) (lv' := [(0, .ref 159)]) (st' := [.ref 159]) rfl ?_
            refine En_ldcS (i := 1) rfl rfl rfl ?_
            refine En_callV rfl rfl rfl rfl rfl rfl rfl rfl (by decide +kernel : TG 159 = 35) (by decide +kernel) rfl (c_251s1 σ403 h404) (by decide) (by decide) (fun v792 σ793 h791 => ?_)
            obtain ⟨h794, h795, z797, rfl, h796⟩ := h791
            have h798 := h796.2.2
            obtain rfl : σ403 = σ793 := Fr_nil h795
            refine En_iEq _ rfl rfl (fun h799 => ?_) (fun h799 => ?_)
            · obtain ⟨z801, h800, h802, h803⟩ := WT_peekI h404 (by decide +kernel : TG 165 = 41) (by decide +kernel : FT 41 (3 : Int).toNat = (0, 0, 12)) (by decide +kernel)
              obtain ⟨z805, h804, h806, h807⟩ := WT_peekI h404 (by decide +kernel : TG 165 = 41) (by decide +kernel : FT 41 (4 : Int).toNat = (0, 0, 4)) (by decide +kernel)
              obtain ⟨z809, h808, h810, h811⟩ := WT_peekI h404 (by decide +kernel : TG 165 = 41) (by decide +kernel : FT 41 (5 : Int).toNat = (0, 0, 6)) (by decide +kernel)
              exact keyj170 σ403 z747 z801 z805 z809 y406 y410 h404 h405 h746 (by omega) (by omega) h800 (by omega) (by omega) h804 (by omega) (by omega) h808 (by omega) (by omega) h407 (by omega) (by omega) h411 (by omega) (by omega) (by omega) (by omega) (by omega) (by omega) (by omega) (by omega) h416
            · refine En_Ps 1 (pc' := 155) (lv' := [(0, .ref 159)]) (st' := [.ref 159]) rfl ?_
              refine En_getK (j := 14) h744 rfl rfl rfl (by decide +kernel : TG 159 = 35) (by decide +kernel) ?_
              refine En_Ps 1 (pc' := 159) (lv' := [(0, .ref 159)]) (st' := [.int ((Int32.ofInt 5)), .ref 165]) rfl ?_
              refine En_iald (l := 0) (u := 6) rfl (by decide : (Int32.ofInt 5).toInt = 5) (by decide +kernel : TG 165 = 41) (by decide +kernel) h404 (by omega) (lnI (by decide +kernel : LN _ = 226) (by omega)) (by decide +kernel) (fun z813 h812 h814 h815 => ?_)
              refine En_Ps 1 (pc' := 162) (lv' := [(0, .ref 159)]) (st' := [.int (((Int8.ofInt 6).toInt32)), .int z813]) rfl ?_
              refine En_icNe _ rfl (by decide : ((Int8.ofInt 6).toInt32).toInt = 6) rfl (fun h816 => ?_) (fun h816 => ?_)
              · obtain ⟨z818, h817, h819, h820⟩ := WT_peekI h404 (by decide +kernel : TG 165 = 41) (by decide +kernel : FT 41 (3 : Int).toNat = (0, 0, 12)) (by decide +kernel)
                obtain ⟨z822, h821, h823, h824⟩ := WT_peekI h404 (by decide +kernel : TG 165 = 41) (by decide +kernel : FT 41 (4 : Int).toNat = (0, 0, 4)) (by decide +kernel)
                exact keyj170 σ403 z747 z818 z822 z813 y406 y410 h404 h405 h746 (by omega) (by omega) h817 (by omega) (by omega) h821 (by omega) (by omega) h812 (by omega) (by omega) h407 (by omega) (by omega) h411 (by omega) (by omega) (by omega) (by omega) (by omega) (by omega) (by omega) (by omega) h416
              · refine En_Ps 2 (pc' := 167) (lv' := [(0, .ref 159)]) (st' := [.int ((Int32.ofInt 3)), .ref 159]) rfl ?_
                have := (by decide : ((Int32.ofInt 3)).toInt = 3)
                refine En_callV rfl rfl rfl rfl rfl rfl rfl rfl (by decide +kernel : TG 159 = 35) (by decide +kernel) rfl (c_223 σ403 h404 ((Int32.ofInt 3)) (geI (by decide : (Int32.ofInt 3).toInt = 3) (by omega)) (leI (by decide : (Int32.ofInt 3).toInt = 3) (by omega)) y406 h407) (by decide) (by decide) (fun v826 σ827 h825 => ?_)
                obtain ⟨h828, h829, z831, h832, rfl, h830⟩ := h825
                have h833 := Fr_trans h405 h829 (by decide +kernel)
                have h834 := KF_fr h416 h829 (by decide +kernel)
                obtain ⟨z836, h835, h837, h838⟩ := WT_peekI h828 (by decide +kernel : TG 165 = 41) (by decide +kernel : FT 41 (3 : Int).toNat = (0, 0, 12)) (by decide +kernel)
                obtain ⟨z840, h839, h841, h842⟩ := WT_peekI h828 (by decide +kernel : TG 165 = 41) (by decide +kernel : FT 41 (4 : Int).toNat = (0, 0, 4)) (by decide +kernel)
                exact keyj170 σ827 z747 z836 z840 z813 z831 y410 h828 h833 ((h829 _ _ (inWa (by decide +kernel : TG 165 = 41) (by decide +kernel))).trans h746) (by omega) (by omega) h835 (by omega) (by omega) h839 (by omega) (by omega) ((h829 _ _ (inWa (by decide +kernel : TG 165 = 41) (by decide +kernel))).trans h812) (by omega) (by omega) h832 (by omega) (by omega) ((h829 _ _ (inW (by decide +kernel : TG 159 = 35) (by decide +kernel))).trans h411) (by omega) (by omega) (by omega) (by omega) (by omega) (by omega) (by omega) (by omega) h834
          · refine En_Ps 1 (pc' := 136) (lv' := [(0, .ref 159)]) (st' := [.ref 159]) rfl ?_
            refine En_getK (j := 14) h744 rfl rfl rfl (by decide +kernel : TG 159 = 35) (by decide +kernel) ?_
            refine En_Ps 1 (pc' := 140) (lv' := [(0, .ref 159)]) (st' := [.int ((Int32.ofInt 4)), .ref 165]) rfl ?_
            refine En_iald (l := 0) (u := 4) rfl (by decide : (Int32.ofInt 4).toInt = 4) (by decide +kernel : TG 165 = 41) (by decide +kernel) h404 (by omega) (lnI (by decide +kernel : LN _ = 226) (by omega)) (by decide +kernel) (fun z844 h843 h845 h846 => ?_)
            refine En_Ps 1 (pc' := 142) (lv' := [(0, .ref 159)]) (st' := [.int ((Int32.ofInt 4)), .int z844]) rfl ?_
            refine En_icEq _ rfl (by decide : (Int32.ofInt 4).toInt = 4) rfl (fun h847 => ?_) (fun h847 => ?_)
            · refine En_Ps 2 (pc' := 167) (lv' := [(0, .ref 159)]) (st' := [.int ((Int32.ofInt 3)), .ref 159]) rfl ?_
              have := (by decide : ((Int32.ofInt 3)).toInt = 3)
              refine En_callV rfl rfl rfl rfl rfl rfl rfl rfl (by decide +kernel : TG 159 = 35) (by decide +kernel) rfl (c_223 σ403 h404 ((Int32.ofInt 3)) (geI (by decide : (Int32.ofInt 3).toInt = 3) (by omega)) (leI (by decide : (Int32.ofInt 3).toInt = 3) (by omega)) y406 h407) (by decide) (by decide) (fun v849 σ850 h848 => ?_)
              obtain ⟨h851, h852, z854, h855, rfl, h853⟩ := h848
              have h856 := Fr_trans h405 h852 (by decide +kernel)
              have h857 := KF_fr h416 h852 (by decide +kernel)
              obtain ⟨z859, h858, h860, h861⟩ := WT_peekI h851 (by decide +kernel : TG 165 = 41) (by decide +kernel : FT 41 (3 : Int).toNat = (0, 0, 12)) (by decide +kernel)
              obtain ⟨z863, h862, h864, h865⟩ := WT_peekI h851 (by decide +kernel : TG 165 = 41) (by decide +kernel : FT 41 (5 : Int).toNat = (0, 0, 6)) (by decide +kernel)
              exact keyj170 σ850 z747 z859 z844 z863 z854 y410 h851 h856 ((h852 _ _ (inWa (by decide +kernel : TG 165 = 41) (by decide +kernel))).trans h746) (by omega) (by omega) h858 (by omega) (by omega) ((h852 _ _ (inWa (by decide +kernel : TG 165 = 41) (by decide +kernel))).trans h843) (by omega) (by omega) h862 (by omega) (by omega) h855 (by omega) (by omega) ((h852 _ _ (inW (by decide +kernel : TG 159 = 35) (by decide +kernel))).trans h411) (by omega) (by omega) (by omega) (by omega) (by omega) (by omega) (by omega) (by omega) h857
            · refine En_Ps 1 (pc' := 146) (lv' := [(0, .ref 159)]) (st' := [.ref 159]) rfl ?_
              refine En_ldcS (i := 1) rfl rfl rfl ?_
              refine En_callV rfl rfl rfl rfl rfl rfl rfl rfl (by decide +kernel : TG 159 = 35) (by decide +kernel) rfl (c_251s1 σ403 h404) (by decide) (by decide) (fun v867 σ868 h866 => ?_)
              obtain ⟨h869, h870, z872, rfl, h871⟩ := h866
              have h873 := h871.2.2
              obtain rfl : σ403 = σ868 := Fr_nil h870
              refine En_iEq _ rfl rfl (fun h874 => ?_) (fun h874 => ?_)
              · obtain ⟨z876, h875, h877, h878⟩ := WT_peekI h404 (by decide +kernel : TG 165 = 41) (by decide +kernel : FT 41 (3 : Int).toNat = (0, 0, 12)) (by decide +kernel)
                obtain ⟨z880, h879, h881, h882⟩ := WT_peekI h404 (by decide +kernel : TG 165 = 41) (by decide +kernel : FT 41 (5 : Int).toNat = (0, 0, 6)) (by decide +kernel)
                exact keyj170 σ403 z747 z876 z844 z880 y406 y410 h404 h405 h746 (by omega) (by omega) h875 (by omega) (by omega) h843 (by omega) (by omega) h879 (by omega) (by omega) h407 (by omega) (by omega) h411 (by omega) (by omega) (by omega) (by omega) (by omega) (by omega) (by omega) (by omega) h416
              · refine En_Ps 1 (pc' := 155) (lv' := [(0, .ref 159)]) (st' := [.ref 159]) rfl ?_
                refine En_getK (j := 14) h744 rfl rfl rfl (by decide +kernel : TG 159 = 35) (by decide +kernel) ?_
                refine En_Ps 1 (pc' := 159) (lv' := [(0, .ref 159)]) (st' := [.int ((Int32.ofInt 5)), .ref 165]) rfl ?_
                refine En_iald (l := 0) (u := 6) rfl (by decide : (Int32.ofInt 5).toInt = 5) (by decide +kernel : TG 165 = 41) (by decide +kernel) h404 (by omega) (lnI (by decide +kernel : LN _ = 226) (by omega)) (by decide +kernel) (fun z884 h883 h885 h886 => ?_)
                refine En_Ps 1 (pc' := 162) (lv' := [(0, .ref 159)]) (st' := [.int (((Int8.ofInt 6).toInt32)), .int z884]) rfl ?_
                refine En_icNe _ rfl (by decide : ((Int8.ofInt 6).toInt32).toInt = 6) rfl (fun h887 => ?_) (fun h887 => ?_)
                · obtain ⟨z889, h888, h890, h891⟩ := WT_peekI h404 (by decide +kernel : TG 165 = 41) (by decide +kernel : FT 41 (3 : Int).toNat = (0, 0, 12)) (by decide +kernel)
                  exact keyj170 σ403 z747 z889 z844 z884 y406 y410 h404 h405 h746 (by omega) (by omega) h888 (by omega) (by omega) h843 (by omega) (by omega) h883 (by omega) (by omega) h407 (by omega) (by omega) h411 (by omega) (by omega) (by omega) (by omega) (by omega) (by omega) (by omega) (by omega) h416
                · refine En_Ps 2 (pc' := 167) (lv' := [(0, .ref 159)]) (st' := [.int ((Int32.ofInt 3)), .ref 159]) rfl ?_
                  have := (by decide : ((Int32.ofInt 3)).toInt = 3)
                  refine En_callV rfl rfl rfl rfl rfl rfl rfl rfl (by decide +kernel : TG 159 = 35) (by decide +kernel) rfl (c_223 σ403 h404 ((Int32.ofInt 3)) (geI (by decide : (Int32.ofInt 3).toInt = 3) (by omega)) (leI (by decide : (Int32.ofInt 3).toInt = 3) (by omega)) y406 h407) (by decide) (by decide) (fun v893 σ894 h892 => ?_)
                  obtain ⟨h895, h896, z898, h899, rfl, h897⟩ := h892
                  have h900 := Fr_trans h405 h896 (by decide +kernel)
                  have h901 := KF_fr h416 h896 (by decide +kernel)
                  obtain ⟨z903, h902, h904, h905⟩ := WT_peekI h895 (by decide +kernel : TG 165 = 41) (by decide +kernel : FT 41 (3 : Int).toNat = (0, 0, 12)) (by decide +kernel)
                  exact keyj170 σ894 z747 z903 z844 z884 z898 y410 h895 h900 ((h896 _ _ (inWa (by decide +kernel : TG 165 = 41) (by decide +kernel))).trans h746) (by omega) (by omega) h902 (by omega) (by omega) ((h896 _ _ (inWa (by decide +kernel : TG 165 = 41) (by decide +kernel))).trans h843) (by omega) (by omega) ((h896 _ _ (inWa (by decide +kernel : TG 165 = 41) (by decide +kernel))).trans h883) (by omega) (by omega) h899 (by omega) (by omega) ((h896 _ _ (inW (by decide +kernel : TG 159 = 35) (by decide +kernel))).trans h411) (by omega) (by omega) (by omega) (by omega) (by omega) (by omega) (by omega) (by omega) h901
        · refine En_Ps 1 (pc' := 116) (lv' := [(0, .ref 159)]) (st' := [.ref 159]) rfl ?_
          refine En_getK (j := 14) h744 rfl rfl rfl (by decide +kernel : TG 159 = 35) (by decide +kernel) ?_
          refine En_Ps 1 (pc' := 120) (lv' := [(0, .ref 159)]) (st' := [.int ((Int32.ofInt 3)), .ref 165]) rfl ?_
          refine En_iald (l := 0) (u := 12) rfl (by decide : (Int32.ofInt 3).toInt = 3) (by decide +kernel : TG 165 = 41) (by decide +kernel) h404 (by omega) (lnI (by decide +kernel : LN _ = 226) (by omega)) (by decide +kernel) (fun z907 h906 h908 h909 => ?_)
          refine En_Ps 1 (pc' := 123) (lv' := [(0, .ref 159)]) (st' := [.int (((Int8.ofInt 12).toInt32)), .int z907]) rfl ?_
          refine En_icEq _ rfl (by decide : ((Int8.ofInt 12).toInt32).toInt = 12) rfl (fun h910 => ?_) (fun h910 => ?_)
          · refine En_Ps 2 (pc' := 167) (lv' := [(0, .ref 159)]) (st' := [.int ((Int32.ofInt 3)), .ref 159]) rfl ?_
            have := (by decide : ((Int32.ofInt 3)).toInt = 3)
            refine En_callV rfl rfl rfl rfl rfl rfl rfl rfl (by decide +kernel : TG 159 = 35) (by decide +kernel) rfl (c_223 σ403 h404 ((Int32.ofInt 3)) (geI (by decide : (Int32.ofInt 3).toInt = 3) (by omega)) (leI (by decide : (Int32.ofInt 3).toInt = 3) (by omega)) y406 h407) (by decide) (by decide) (fun v912 σ913 h911 => ?_)
            obtain ⟨h914, h915, z917, h918, rfl, h916⟩ := h911
            have h919 := Fr_trans h405 h915 (by decide +kernel)
            have h920 := KF_fr h416 h915 (by decide +kernel)
            obtain ⟨z922, h921, h923, h924⟩ := WT_peekI h914 (by decide +kernel : TG 165 = 41) (by decide +kernel : FT 41 (4 : Int).toNat = (0, 0, 4)) (by decide +kernel)
            obtain ⟨z926, h925, h927, h928⟩ := WT_peekI h914 (by decide +kernel : TG 165 = 41) (by decide +kernel : FT 41 (5 : Int).toNat = (0, 0, 6)) (by decide +kernel)
            exact keyj170 σ913 z747 z907 z922 z926 z917 y410 h914 h919 ((h915 _ _ (inWa (by decide +kernel : TG 165 = 41) (by decide +kernel))).trans h746) (by omega) (by omega) ((h915 _ _ (inWa (by decide +kernel : TG 165 = 41) (by decide +kernel))).trans h906) (by omega) (by omega) h921 (by omega) (by omega) h925 (by omega) (by omega) h918 (by omega) (by omega) ((h915 _ _ (inW (by decide +kernel : TG 159 = 35) (by decide +kernel))).trans h411) (by omega) (by omega) (by omega) (by omega) (by omega) (by omega) (by omega) (by omega) h920
          · refine En_Ps 1 (pc' := 127) (lv' := [(0, .ref 159)]) (st' := [.ref 159]) rfl ?_
            refine En_ldcS (i := 5) rfl rfl rfl ?_
            refine En_callV rfl rfl rfl rfl rfl rfl rfl rfl (by decide +kernel : TG 159 = 35) (by decide +kernel) rfl (c_251s5 σ403 h404) (by decide) (by decide) (fun v930 σ931 h929 => ?_)
            obtain ⟨h932, h933, z935, rfl, h934⟩ := h929
            have h936 := h934.2.2
            obtain rfl : σ403 = σ931 := Fr_nil h933
            refine En_iEq _ rfl rfl (fun h937 => ?_) (fun h937 => ?_)
            · refine En_Ps 1 (pc' := 146) (lv' := [(0, .ref 159)]) (st' := [.ref 159]) rfl ?_
              refine En_ldcS (i := 1) rfl rfl rfl ?_
              refine En_callV rfl rfl rfl rfl rfl rfl rfl rfl (by decide +kernel : TG 159 = 35) (by decide +kernel) rfl (c_251s1 σ403 h404) (by decide) (by decide) (fun v939 σ940 h938 => ?_)
              obtain ⟨h941, h942, z944, rfl, h943⟩ := h938
              have h945 := h943.2.2
              obtain rfl : σ403 = σ940 := Fr_nil h942
              refine En_iEq _ rfl rfl (fun h946 => ?_) (fun h946 => ?_)
              · obtain ⟨z948, h947, h949, h950⟩ := WT_peekI h404 (by decide +kernel : TG 165 = 41) (by decide +kernel : FT 41 (4 : Int).toNat = (0, 0, 4)) (by decide +kernel)
                obtain ⟨z952, h951, h953, h954⟩ := WT_peekI h404 (by decide +kernel : TG 165 = 41) (by decide +kernel : FT 41 (5 : Int).toNat = (0, 0, 6)) (by decide +kernel)
                exact keyj170 σ403 z747 z907 z948 z952 y406 y410 h404 h405 h746 (by omega) (by omega) h906 (by omega) (by omega) h947 (by omega) (by omega) h951 (by omega) (by omega) h407 (by omega) (by omega) h411 (by omega) (by omega) (by omega) (by omega) (by omega) (by omega) (by omega) (by omega) h416
              · refine En_Ps 1 (pc' := 155) (lv' := [(0, .ref 159)]) (st' := [.ref 159]) rfl ?_
                refine En_getK (j := 14) h744 rfl rfl rfl (by decide +kernel : TG 159 = 35) (by decide +kernel) ?_
                refine En_Ps 1 (pc' := 159) (lv' := [(0, .ref 159)]) (st' := [.int ((Int32.ofInt 5)), .ref 165]) rfl ?_
                refine En_iald (l := 0) (u := 6) rfl (by decide : (Int32.ofInt 5).toInt = 5) (by decide +kernel : TG 165 = 41) (by decide +kernel) h404 (by omega) (lnI (by decide +kernel : LN _ = 226) (by omega)) (by decide +kernel) (fun z956 h955 h957 h958 => ?_)
                refine En_Ps 1 (pc' := 162) (lv' := [(0, .ref 159)]) (st' := [.int (((Int8.ofInt 6).toInt32)), .int z956]) rfl ?_
                refine En_icNe _ rfl (by decide : ((Int8.ofInt 6).toInt32).toInt = 6) rfl (fun h959 => ?_) (fun h959 => ?_)
                · obtain ⟨z961, h960, h962, h963⟩ := WT_peekI h404 (by decide +kernel : TG 165 = 41) (by decide +kernel : FT 41 (4 : Int).toNat = (0, 0, 4)) (by decide +kernel)
                  exact keyj170 σ403 z747 z907 z961 z956 y406 y410 h404 h405 h746 (by omega) (by omega) h906 (by omega) (by omega) h960 (by omega) (by omega) h955 (by omega) (by omega) h407 (by omega) (by omega) h411 (by omega) (by omega) (by omega) (by omega) (by omega) (by omega) (by omega) (by omega) h416
                · refine En_Ps 2 (pc' := 167) (lv' := [(0, .ref 159)]) (st' := [.int ((Int32.ofInt 3)), .ref 159]) rfl ?_
                  have := (by decide : ((Int32.ofInt 3)).toInt = 3)
                  refine En_callV rfl rfl rfl rfl rfl rfl rfl rfl (by decide +kernel : TG 159 = 35) (by decide +kernel) rfl (c_223 σ403 h404 ((Int32.ofInt 3)) (geI (by decide : (Int32.ofInt 3).toInt = 3) (by omega)) (leI (by decide : (Int32.ofInt 3).toInt = 3) (by omega)) y406 h407) (by decide) (by decide) (fun v965 σ966 h964 => ?_)
                  obtain ⟨h967, h968, z970, h971, rfl, h969⟩ := h964
                  have h972 := Fr_trans h405 h968 (by decide +kernel)
                  have h973 := KF_fr h416 h968 (by decide +kernel)
                  obtain ⟨z975, h974, h976, h977⟩ := WT_peekI h967 (by decide +kernel : TG 165 = 41) (by decide +kernel : FT 41 (4 : Int).toNat = (0, 0, 4)) (by decide +kernel)
                  exact keyj170 σ966 z747 z907 z975 z956 z970 y410 h967 h972 ((h968 _ _ (inWa (by decide +kernel : TG 165 = 41) (by decide +kernel))).trans h746) (by omega) (by omega) ((h968 _ _ (inWa (by decide +kernel : TG 165 = 41) (by decide +kernel))).trans h906) (by omega) (by omega) h974 (by omega) (by omega) ((h968 _ _ (inWa (by decide +kernel : TG 165 = 41) (by decide +kernel))).trans h955) (by omega) (by omega) h971 (by omega) (by omega) ((h968 _ _ (inW (by decide +kernel : TG 159 = 35) (by decide +kernel))).trans h411) (by omega) (by omega) (by omega) (by omega) (by omega) (by omega) (by omega) (by omega) h973
            · refine En_Ps 1 (pc' := 136) (lv' := [(0, .ref 159)]) (st' := [.ref 159]) rfl ?_
              refine En_getK (j := 14) h744 rfl rfl rfl (by decide +kernel : TG 159 = 35) (by decide +kernel) ?_
              refine En_Ps 1 (pc' := 140) (lv' := [(0, .ref 159)]) (st' := [.int ((Int32.ofInt 4)), .ref 165]) rfl ?_
              refine En_iald (l := 0) (u := 4) rfl (by decide : (Int32.ofInt 4).toInt = 4) (by decide +kernel : TG 165 = 41) (by decide +kernel) h404 (by omega) (lnI (by decide +kernel : LN _ = 226) (by omega)) (by decide +kernel) (fun z979 h978 h980 h981 => ?_)
              refine En_Ps 1 (pc' := 142) (lv' := [(0, .ref 159)]) (st' := [.int ((Int32.ofInt 4)), .int z979]) rfl ?_
              refine En_icEq _ rfl (by decide : (Int32.ofInt 4).toInt = 4) rfl (fun h982 => ?_) (fun h982 => ?_)
              · refine En_Ps 2 (pc' := 167) (lv' := [(0, .ref 159)]) (st' := [.int ((Int32.ofInt 3)), .ref 159]) rfl ?_
                have := (by decide : ((Int32.ofInt 3)).toInt = 3)
                refine En_callV rfl rfl rfl rfl rfl rfl rfl rfl (by decide +kernel : TG 159 = 35) (by decide +kernel) rfl (c_223 σ403 h404 ((Int32.ofInt 3)) (geI (by decide : (Int32.ofInt 3).toInt = 3) (by omega)) (leI (by decide : (Int32.ofInt 3).toInt = 3) (by omega)) y406 h407) (by decide) (by decide) (fun v984 σ985 h983 => ?_)
                obtain ⟨h986, h987, z989, h990, rfl, h988⟩ := h983
                have h991 := Fr_trans h405 h987 (by decide +kernel)
                have h992 := KF_fr h416 h987 (by decide +kernel)
                obtain ⟨z994, h993, h995, h996⟩ := WT_peekI h986 (by decide +kernel : TG 165 = 41) (by decide +kernel : FT 41 (5 : Int).toNat = (0, 0, 6)) (by decide +kernel)
                exact keyj170 σ985 z747 z907 z979 z994 z989 y410 h986 h991 ((h987 _ _ (inWa (by decide +kernel : TG 165 = 41) (by decide +kernel))).trans h746) (by omega) (by omega) ((h987 _ _ (inWa (by decide +kernel : TG 165 = 41) (by decide +kernel))).trans h906) (by omega) (by omega) ((h987 _ _ (inWa (by decide +kernel : TG 165 = 41) (by decide +kernel))).trans h978) (by omega) (by omega) h993 (by omega) (by omega) h990 (by omega) (by omega) ((h987 _ _ (inW (by decide +kernel : TG 159 = 35) (by decide +kernel))).trans h411) (by omega) (by omega) (by omega) (by omega) (by omega) (by omega) (by omega) (by omega) h992
              · refine En_Ps 1 (pc' := 146) (lv' := [(0, .ref 159)]) (st' := [.ref 159]) rfl ?_
                refine En_ldcS (i := 1) rfl rfl rfl ?_
                refine En_callV rfl rfl rfl rfl rfl rfl rfl rfl (by decide +kernel : TG 159 = 35) (by decide +kernel) rfl (c_251s1 σ403 h404) (by decide) (by decide) (fun v998 σ999 h997 => ?_)
                obtain ⟨h1000, h1001, z1003, rfl, h1002⟩ := h997
                have h1004 := h1002.2.2
                obtain rfl : σ403 = σ999 := Fr_nil h1001
                refine En_iEq _ rfl rfl (fun h1005 => ?_) (fun h1005 => ?_)
                · obtain ⟨z1007, h1006, h1008, h1009⟩ := WT_peekI h404 (by decide +kernel : TG 165 = 41) (by decide +kernel : FT 41 (5 : Int).toNat = (0, 0, 6)) (by decide +kernel)
                  exact keyj170 σ403 z747 z907 z979 z1007 y406 y410 h404 h405 h746 (by omega) (by omega) h906 (by omega) (by omega) h978 (by omega) (by omega) h1006 (by omega) (by omega) h407 (by omega) (by omega) h411 (by omega) (by omega) (by omega) (by omega) (by omega) (by omega) (by omega) (by omega) h416
                · refine En_Ps 1 (pc' := 155) (lv' := [(0, .ref 159)]) (st' := [.ref 159]) rfl ?_
                  refine En_getK (j := 14) h744 rfl rfl rfl (by decide +kernel : TG 159 = 35) (by decide +kernel) ?_
                  refine En_Ps 1 (pc' := 159) (lv' := [(0, .ref 159)]) (st' := [.int ((Int32.ofInt 5)), .ref 165]) rfl ?_
                  refine En_iald (l := 0) (u := 6) rfl (by decide : (Int32.ofInt 5).toInt = 5) (by decide +kernel : TG 165 = 41) (by decide +kernel) h404 (by omega) (lnI (by decide +kernel : LN _ = 226) (by omega)) (by decide +kernel) (fun z1011 h1010 h1012 h1013 => ?_)
                  refine En_Ps 1 (pc' := 162) (lv' := [(0, .ref 159)]) (st' := [.int (((Int8.ofInt 6).toInt32)), .int z1011]) rfl ?_
                  refine En_icNe _ rfl (by decide : ((Int8.ofInt 6).toInt32).toInt = 6) rfl (fun h1014 => ?_) (fun h1014 => ?_)
                  · exact keyj170 σ403 z747 z907 z979 z1011 y406 y410 h404 h405 h746 (by omega) (by omega) h906 (by omega) (by omega) h978 (by omega) (by omega) h1010 (by omega) (by omega) h407 (by omega) (by omega) h411 (by omega) (by omega) (by omega) (by omega) (by omega) (by omega) (by omega) (by omega) h416
                  · refine En_Ps 2 (pc' := 167) (lv' := [(0, .ref 159)]) (st' := [.int ((Int32.ofInt 3)), .ref 159]) rfl ?_
                    have := (by decide : ((Int32.ofInt 3)).toInt = 3)
                    refine En_callV rfl rfl rfl rfl rfl rfl rfl rfl (by decide +kernel : TG 159 = 35) (by decide +kernel) rfl (c_223 σ403 h404 ((Int32.ofInt 3)) (geI (by decide : (Int32.ofInt 3).toInt = 3) (by omega)) (leI (by decide : (Int32.ofInt 3).toInt = 3) (by omega)) y406 h407) (by decide) (by decide) (fun v1016 σ1017 h1015 => ?_)
                    obtain ⟨h1018, h1019, z1021, h1022, rfl, h1020⟩ := h1015
                    have h1023 := Fr_trans h405 h1019 (by decide +kernel)
                    have h1024 := KF_fr h416 h1019 (by decide +kernel)
                    exact keyj170 σ1017 z747 z907 z979 z1011 z1021 y410 h1018 h1023 ((h1019 _ _ (inWa (by decide +kernel : TG 165 = 41) (by decide +kernel))).trans h746) (by omega) (by omega) ((h1019 _ _ (inWa (by decide +kernel : TG 165 = 41) (by decide +kernel))).trans h906) (by omega) (by omega) ((h1019 _ _ (inWa (by decide +kernel : TG 165 = 41) (by decide +kernel))).trans h978) (by omega) (by omega) ((h1019 _ _ (inWa (by decide +kernel : TG 165 = 41) (by decide +kernel))).trans h1010) (by omega) (by omega) h1022 (by omega) (by omega) ((h1019 _ _ (inW (by decide +kernel : TG 159 = 35) (by decide +kernel))).trans h411) (by omega) (by omega) (by omega) (by omega) (by omega) (by omega) (by omega) (by omega) h1024
  refine En_Ps 1 (pc' := 1) (lv' := [(0, .ref 159)]) (st' := [.ref 159]) rfl ?_
  refine En_ldcS (i := 2) rfl rfl rfl ?_
  refine En_callV rfl rfl rfl rfl rfl rfl rfl rfl (by decide +kernel : TG 159 = 35) (by decide +kernel) rfl (c_251s2 σ0 hσ0) (by decide) (by decide) (fun v1026 σ1027 h1025 => ?_)
  obtain ⟨h1028, h1029, z1031, rfl, h1030⟩ := h1025
  have h1032 := h1030.2.2
  obtain rfl : σ0 = σ1027 := Fr_nil h1029
  refine En_iNe _ rfl rfl (fun h1033 => ?_) (fun h1033 => ?_)
  · refine En_Ps 4 (pc' := 79) (lv' := [(1, .int ((Int32.ofInt 1))), (0, .ref 159)]) (st' := [.int ((Int32.ofInt 1))]) rfl ?_
    refine En_iNe _ (by decide : (Int32.ofInt 1).toInt = 1) rfl (fun h1034 => ?_) (fun hx => by exfalso; omega)
    refine En_lv (lv := [(0, .ref 159)]) ⟨rfl, trivial⟩ ?_
    exact keyj87 σ0 k f hσ0 hF0 h_k (by omega) (by omega) h_f (by omega) (by omega) (by omega) (by omega) (KF_0 (σ := σ0))
  · refine En_Ps 1 (pc' := 10) (lv' := [(0, .ref 159)]) (st' := [.ref 159]) rfl ?_
    refine En_ldcS (i := 6) rfl rfl rfl ?_
    refine En_callV rfl rfl rfl rfl rfl rfl rfl rfl (by decide +kernel : TG 159 = 35) (by decide +kernel) rfl (c_251s6 σ0 hσ0) (by decide) (by decide) (fun v1036 σ1037 h1035 => ?_)
    obtain ⟨h1038, h1039, z1041, rfl, h1040⟩ := h1035
    have h1042 := h1040.2.2
    obtain rfl : σ0 = σ1037 := Fr_nil h1039
    refine En_iNe _ rfl rfl (fun h1043 => ?_) (fun h1043 => ?_)
    · refine En_Ps 4 (pc' := 79) (lv' := [(1, .int ((Int32.ofInt 1))), (0, .ref 159)]) (st' := [.int ((Int32.ofInt 1))]) rfl ?_
      refine En_iNe _ (by decide : (Int32.ofInt 1).toInt = 1) rfl (fun h1044 => ?_) (fun hx => by exfalso; omega)
      refine En_lv (lv := [(0, .ref 159)]) ⟨rfl, trivial⟩ ?_
      exact keyj87 σ0 k f hσ0 hF0 h_k (by omega) (by omega) h_f (by omega) (by omega) (by omega) (by omega) (KF_0 (σ := σ0))
    · refine En_Ps 1 (pc' := 19) (lv' := [(0, .ref 159)]) (st' := [.ref 159]) rfl ?_
      refine En_ldcS (i := 3) rfl rfl rfl ?_
      refine En_callV rfl rfl rfl rfl rfl rfl rfl rfl (by decide +kernel : TG 159 = 35) (by decide +kernel) rfl (c_251s3 σ0 hσ0) (by decide) (by decide) (fun v1046 σ1047 h1045 => ?_)
      obtain ⟨h1048, h1049, z1051, rfl, h1050⟩ := h1045
      have h1052 := h1050.2.2
      obtain rfl : σ0 = σ1047 := Fr_nil h1049
      refine En_iNe _ rfl rfl (fun h1053 => ?_) (fun h1053 => ?_)
      · refine En_Ps 4 (pc' := 79) (lv' := [(1, .int ((Int32.ofInt 1))), (0, .ref 159)]) (st' := [.int ((Int32.ofInt 1))]) rfl ?_
        refine En_iNe _ (by decide : (Int32.ofInt 1).toInt = 1) rfl (fun h1054 => ?_) (fun hx => by exfalso; omega)
        refine En_lv (lv := [(0, .ref 159)]) ⟨rfl, trivial⟩ ?_
        exact keyj87 σ0 k f hσ0 hF0 h_k (by omega) (by omega) h_f (by omega) (by omega) (by omega) (by omega) (KF_0 (σ := σ0))
      · refine En_Ps 1 (pc' := 28) (lv' := [(0, .ref 159)]) (st' := [.ref 159]) rfl ?_
        refine En_ldcS (i := 17) rfl rfl rfl ?_
        refine En_callV rfl rfl rfl rfl rfl rfl rfl rfl (by decide +kernel : TG 159 = 35) (by decide +kernel) rfl (c_251s17 σ0 hσ0) (by decide) (by decide) (fun v1056 σ1057 h1055 => ?_)
        obtain ⟨h1058, h1059, z1061, rfl, h1060⟩ := h1055
        have h1062 := h1060.2.2
        obtain rfl : σ0 = σ1057 := Fr_nil h1059
        refine En_iNe _ rfl rfl (fun h1063 => ?_) (fun h1063 => ?_)
        · refine En_Ps 4 (pc' := 79) (lv' := [(1, .int ((Int32.ofInt 1))), (0, .ref 159)]) (st' := [.int ((Int32.ofInt 1))]) rfl ?_
          refine En_iNe _ (by decide : (Int32.ofInt 1).toInt = 1) rfl (fun h1064 => ?_) (fun hx => by exfalso; omega)
          refine En_lv (lv := [(0, .ref 159)]) ⟨rfl, trivial⟩ ?_
          exact keyj87 σ0 k f hσ0 hF0 h_k (by omega) (by omega) h_f (by omega) (by omega) (by omega) (by omega) (KF_0 (σ := σ0))
        · refine En_Ps 1 (pc' := 37) (lv' := [(0, .ref 159)]) (st' := [.ref 159]) rfl ?_
          refine En_ldcS (i := 9) rfl rfl rfl ?_
          refine En_callV rfl rfl rfl rfl rfl rfl rfl rfl (by decide +kernel : TG 159 = 35) (by decide +kernel) rfl (c_251s9 σ0 hσ0) (by decide) (by decide) (fun v1066 σ1067 h1065 => ?_)
          obtain ⟨h1068, h1069, z1071, rfl, h1070⟩ := h1065
          have h1072 := h1070.2.2
          obtain rfl : σ0 = σ1067 := Fr_nil h1069
          refine En_iNe _ rfl rfl (fun h1073 => ?_) (fun h1073 => ?_)
          · refine En_Ps 4 (pc' := 79) (lv' := [(1, .int ((Int32.ofInt 1))), (0, .ref 159)]) (st' := [.int ((Int32.ofInt 1))]) rfl ?_
            refine En_iNe _ (by decide : (Int32.ofInt 1).toInt = 1) rfl (fun h1074 => ?_) (fun hx => by exfalso; omega)
            refine En_lv (lv := [(0, .ref 159)]) ⟨rfl, trivial⟩ ?_
            exact keyj87 σ0 k f hσ0 hF0 h_k (by omega) (by omega) h_f (by omega) (by omega) (by omega) (by omega) (KF_0 (σ := σ0))
          · refine En_Ps 1 (pc' := 46) (lv' := [(0, .ref 159)]) (st' := [.ref 159]) rfl ?_
            refine En_ldcS (i := 5) rfl rfl rfl ?_
            refine En_callV rfl rfl rfl rfl rfl rfl rfl rfl (by decide +kernel : TG 159 = 35) (by decide +kernel) rfl (c_251s5 σ0 hσ0) (by decide) (by decide) (fun v1076 σ1077 h1075 => ?_)
            obtain ⟨h1078, h1079, z1081, rfl, h1080⟩ := h1075
            have h1082 := h1080.2.2
            obtain rfl : σ0 = σ1077 := Fr_nil h1079
            refine En_iNe _ rfl rfl (fun h1083 => ?_) (fun h1083 => ?_)
            · refine En_Ps 4 (pc' := 79) (lv' := [(1, .int ((Int32.ofInt 1))), (0, .ref 159)]) (st' := [.int ((Int32.ofInt 1))]) rfl ?_
              refine En_iNe _ (by decide : (Int32.ofInt 1).toInt = 1) rfl (fun h1084 => ?_) (fun hx => by exfalso; omega)
              refine En_lv (lv := [(0, .ref 159)]) ⟨rfl, trivial⟩ ?_
              exact keyj87 σ0 k f hσ0 hF0 h_k (by omega) (by omega) h_f (by omega) (by omega) (by omega) (by omega) (KF_0 (σ := σ0))
            · refine En_Ps 1 (pc' := 55) (lv' := [(0, .ref 159)]) (st' := [.ref 159]) rfl ?_
              refine En_ldcS (i := 1) rfl rfl rfl ?_
              refine En_callV rfl rfl rfl rfl rfl rfl rfl rfl (by decide +kernel : TG 159 = 35) (by decide +kernel) rfl (c_251s1 σ0 hσ0) (by decide) (by decide) (fun v1086 σ1087 h1085 => ?_)
              obtain ⟨h1088, h1089, z1091, rfl, h1090⟩ := h1085
              have h1092 := h1090.2.2
              obtain rfl : σ0 = σ1087 := Fr_nil h1089
              refine En_iNe _ rfl rfl (fun h1093 => ?_) (fun h1093 => ?_)
              · refine En_Ps 4 (pc' := 79) (lv' := [(1, .int ((Int32.ofInt 1))), (0, .ref 159)]) (st' := [.int ((Int32.ofInt 1))]) rfl ?_
                refine En_iNe _ (by decide : (Int32.ofInt 1).toInt = 1) rfl (fun h1094 => ?_) (fun hx => by exfalso; omega)
                refine En_lv (lv := [(0, .ref 159)]) ⟨rfl, trivial⟩ ?_
                exact keyj87 σ0 k f hσ0 hF0 h_k (by omega) (by omega) h_f (by omega) (by omega) (by omega) (by omega) (KF_0 (σ := σ0))
              · refine En_Ps 1 (pc' := 64) (lv' := [(0, .ref 159)]) (st' := [.ref 159]) rfl ?_
                refine En_ldcS (i := 0) rfl rfl rfl ?_
                refine En_callV rfl rfl rfl rfl rfl rfl rfl rfl (by decide +kernel : TG 159 = 35) (by decide +kernel) rfl (c_251s0 σ0 hσ0) (by decide) (by decide) (fun v1096 σ1097 h1095 => ?_)
                obtain ⟨h1098, h1099, z1101, rfl, h1100⟩ := h1095
                have h1102 := h1100.2.2
                obtain rfl : σ0 = σ1097 := Fr_nil h1099
                refine En_iEq _ rfl rfl (fun h1103 => ?_) (fun h1103 => ?_)
                · refine En_Ps 3 (pc' := 79) (lv' := [(1, .int ((Int32.ofInt 0))), (0, .ref 159)]) (st' := [.int ((Int32.ofInt 0))]) rfl ?_
                  refine En_iNe _ (by decide : (Int32.ofInt 0).toInt = 0) rfl (fun hx => by exfalso; omega) (fun h1104 => ?_)
                  refine En_Ps 2 (pc' := 84) (lv' := [(1, .int ((Int32.ofInt 0))), (0, .ref 159)]) (st' := [.int ((Int32.ofInt 1)), .ref 159]) rfl ?_
                  have := (by decide : ((Int32.ofInt 1)).toInt = 1)
                  refine En_callV rfl rfl rfl rfl rfl rfl rfl rfl (by decide +kernel : TG 159 = 35) (by decide +kernel) rfl (c_223 σ0 hσ0 ((Int32.ofInt 1)) (geI (by decide : (Int32.ofInt 1).toInt = 1) (by omega)) (leI (by decide : (Int32.ofInt 1).toInt = 1) (by omega)) k h_k) (by decide) (by decide) (fun v1106 σ1107 h1105 => ?_)
                  obtain ⟨h1108, h1109, z1111, h1112, rfl, h1110⟩ := h1105
                  have h1113 := Fr_trans hF0 h1109 (by decide +kernel)
                  have h1114 := KF_fr (KF_0 (σ := σ0)) h1109 (by decide +kernel)
                  refine En_lv (lv := [(0, .ref 159)]) ⟨rfl, trivial⟩ ?_
                  exact keyj87 σ1107 z1111 f h1108 h1113 h1112 (by omega) (by omega) ((h1109 _ _ (inW (by decide +kernel : TG 159 = 35) (by decide +kernel))).trans h_f) (by omega) (by omega) (by omega) (by omega) h1114
                · refine En_Ps 4 (pc' := 79) (lv' := [(1, .int ((Int32.ofInt 1))), (0, .ref 159)]) (st' := [.int ((Int32.ofInt 1))]) rfl ?_
                  refine En_iNe _ (by decide : (Int32.ofInt 1).toInt = 1) rfl (fun h1115 => ?_) (fun hx => by exfalso; omega)
                  refine En_lv (lv := [(0, .ref 159)]) ⟨rfl, trivial⟩ ?_
                  exact keyj87 σ0 k f hσ0 hF0 h_k (by omega) (by omega) h_f (by omega) (by omega) (by omega) (by omega) (KF_0 (σ := σ0))
