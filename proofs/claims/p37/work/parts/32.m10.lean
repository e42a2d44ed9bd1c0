/-- DoorSchoolModel.freshKnock()I -/
abbrev P_234x (σ0 : SG) (By : Int → Int) (Nb : Int) (Sp : PS) (f : Int32) (k : Int32) : PO := fun v σ => WT σ ∧ Fr [(35, 8), (35, 9), (35, 10), (35, 11), (35, 12), (35, 13)] σ0 σ ∧ ∃ f1 : Int32, (σ 159)[8]? = some (.int f1) ∧ ∃ k1 : Int32, (σ 159)[12]? = some (.int k1) ∧ ∃ ret : Int32, v = some (.int ret) ∧ -ret.toInt ≤ 0 ∧ ret.toInt - 15 ≤ 0 ∧ -f1.toInt ≤ 0 ∧ f1.toInt - 1600 ≤ 0 ∧ -f1.toInt + f.toInt ≤ 0 ∧ f1.toInt - f.toInt - 1600 ≤ 0 ∧ -f1.toInt + k.toInt - 3 ≤ 0 ∧ f1.toInt - k.toInt - 1600 ≤ 0 ∧ -k1.toInt ≤ 0 ∧ k1.toInt - 3 ≤ 0 ∧ -k1.toInt + f.toInt - 1600 ≤ 0 ∧ k1.toInt - f.toInt - 3 ≤ 0 ∧ -k1.toInt + k.toInt ≤ 0 ∧ k1.toInt - k.toInt - 3 ≤ 0 ∧ f.toInt - f1.toInt ≤ 0 ∧ -ret.toInt ≤ 0 ∧ ret.toInt - 15 ≤ 0 ∧ Imp (k1.toInt ≤ 0) (k.toInt ≤ 0) ∧ (ML By Nb σ (tN By Nb 0 (pI (Sp.2.2.2 0) - 1) Sp) ∧ ((tN By Nb 0 (pI (Sp.2.2.2 0) - 1) Sp).1 = 0 → ret.toInt = tV By Nb Sp.2.2.1))
set_option maxRecDepth 10000 in
set_option maxHeartbeats 4000000 in
theorem c_234x {By : Int → Int} {Nb : Int} {Sp : PS} (σ0 : SG) (hσ0 : WT σ0) (f : Int32) (h_f : (σ0 159)[8]? = some (.int f)) (k : Int32) (h_k : (σ0 159)[12]? = some (.int k)) (hM : ML By Nb σ0 Sp) : En 3 69 none mr_234 (P_234x σ0 By Nb Sp f k) 0 [(0, .ref 159)] [] σ0 := by
  obtain ⟨hl_f, hu_f⟩ := WT_int hσ0 (g := 35) (by decide +kernel) (by decide +kernel) (l := 0) (u := 1600) (by decide +kernel) h_f
  obtain ⟨hl_k, hu_k⟩ := WT_int hσ0 (g := 35) (by decide +kernel) (by decide +kernel) (l := 0) (u := 3) (by decide +kernel) h_k
  have hF0 : Fr [(35, 8), (35, 9), (35, 10), (35, 11), (35, 12), (35, 13)] σ0 σ0 := Fr_rfl
  have h1 := ML_k hM h_k
  refine En_Ps 4 (pc' := 4) (lv' := [(0, .ref 159)]) (st' := [.ref 159, .int ((Int32.ofInt 1)), .int ((Int32.ofInt 0)), .ref 159]) rfl ?_
  refine En_getU (j := 14) (u := 165) (g' := 41) (q := 0) rfl rfl rfl (by decide +kernel : TG 159 = 35) (by decide +kernel) hσ0 (by decide +kernel) (by decide +kernel) (fun h2 => ?_)
  refine En_Ps 1 (pc' := 8) (lv' := [(0, .ref 159)]) (st' := [.int ((Int32.ofInt 0)), .ref 165, .int ((Int32.ofInt 1)), .int ((Int32.ofInt 0)), .ref 159]) rfl ?_
  refine En_iald (l := 0) (u := 4) rfl (by decide : (Int32.ofInt 0).toInt = 0) (by decide +kernel : TG 165 = 41) (by decide +kernel) hσ0 (by omega) (lnI (by decide +kernel : LN _ = 226) (by omega)) (by decide +kernel) (fun z5 h4 h6 h7 => ?_)
  refine En_Ps 1 (pc' := 10) (lv' := [(0, .ref 159)]) (st' := [.int ((((Int32.ofInt 1)) <<< (z5 &&& 31))), .int ((Int32.ofInt 0)), .ref 159]) rfl ?_
  refine En_nam (fun z8 h9 => ?_)
  have h10 := shl1_v (y := z5) rfl (by omega) (by omega)
  rw [← h9] at h10
  have h11 := shl1_p (y := z5) 4 rfl (by omega) (by omega) (by decide)
  rw [← h9] at h11
  refine En_Ps 2 (pc' := 12) (lv' := [(0, .ref 159)]) (st' := [.int ((z8 - ((Int32.ofInt 1)))), .int ((Int32.ofInt 0)), .ref 159]) rfl ?_
  refine En_top (subI rfl (by decide : (Int32.ofInt 1).toInt = 1) (by omega) (by omega)) (fun z12 h13 => ?_)
  obtain ⟨z15, h14, h16, h17⟩ := WT_peekI hσ0 (by decide +kernel : TG 159 = 35) (by decide +kernel : FT 35 10 = (0, 0, 4)) (by decide +kernel)
  obtain ⟨z19, h18, h20, h21⟩ := WT_peekI hσ0 (by decide +kernel : TG 159 = 35) (by decide +kernel : FT 35 11 = (0, 0, 99999)) (by decide +kernel)
  have := (by decide : ((Int32.ofInt 0)).toInt = 0)
  refine En_callV rfl rfl rfl rfl rfl rfl rfl rfl (by decide +kernel : TG 159 = 35) (by decide +kernel) rfl (c_288x σ0 hσ0 ((Int32.ofInt 0)) z12 (geI (by decide : (Int32.ofInt 0).toInt = 0) (by omega)) (leI (by decide : (Int32.ofInt 0).toInt = 0) (by omega)) (geI rfl (by omega)) (leI rfl (by omega)) f h_f k h_k z15 h14 z19 h18 hM) (by decide) (by decide) (fun v23 σ24 h22 => ?_)
  obtain ⟨h25, h26, z28, h29, z30, h31, z32, rfl, h27⟩ := h22
  have h33 := h27.2.2.2.2.2.2.2.2.2.2.2.2.2.2.2.2.2.2.2.2.2.2.2.2.2.2.2.2
  have h34 := Fr_trans hF0 h26 (by decide +kernel)
  have h35 : tN By Nb ((Int32.ofInt 0)).toInt z12.toInt Sp = tN By Nb (0) (z12.toInt) Sp := tN_cg2 (fun zz => by omega) (fun zz => by omega)
  obtain ⟨S36, h37⟩ : ∃ q : PS, q = tN By Nb (0) (z12.toInt) Sp := ⟨_, rfl⟩
  have h38 : ML By Nb σ24 S36 := by rw [h37]; exact (ML_eq h33.1 h35)
  have h39 := ML_k h38 h31
  have h40 : Imp (S36.1 = 0) (z32.toInt = tV By Nb Sp.2.2.1) := fun z => h33.2 (by rw [h35, ← h37]; exact z)
  have h41 : Imp (S36.1 = 0) (Sp.1 = 0 ∧ tK By Nb Sp.2.2.1 = 2 ∧ 0 ≤ tV By Nb Sp.2.2.1 ∧ tV By Nb Sp.2.2.1 ≤ z12.toInt) := fun z => tN_gg (by rw [← h37]; exact z)
  have h42 : S36.2.2.2 = Sp.2.2.2 := by rw [h37]; exact tN_w
  have h43 := Imp_m h27.2.2.2.2.2.2.2.2.2.2.2.2.2.2.2.2.2.2.2.2.2.2.2.1 (by omega)
  have h44 := Imp_m h27.2.2.2.2.2.2.2.2.2.2.2.2.2.2.2.2.2.2.2.2.2.2.2.2.1 (by omega)
  have h45 := Imp_m h27.2.2.2.2.2.2.2.2.2.2.2.2.2.2.2.2.2.2.2.2.2.2.2.2.2.1 (by omega)
  exact En_ret (v := some (.int z32)) rfl rfl rfl ⟨h25, h34, z28, h29, z30, h31, z32, rfl, ⟨by omega, by omega, by omega, by omega, by omega, by omega, by omega, by omega, by omega, by omega, by omega, by omega, by omega, by omega, by omega, by omega, by omega, fun _ => by omega, (Classical.byCases (fun q : Sp.1 = 0 => by have w := ML_w hM q h4 (by omega) (by omega); have e9 : tN By Nb 0 (z12.toInt) Sp = tN By Nb 0 (pI (Sp.2.2.2 0) - 1) Sp := tN_cg rfl (by rw [w]; omega); rw [← e9, ← h37]; exact ⟨h38, fun zz => by (try have i0 := Imp_m h41 (by omega)); (try have i1 := Imp_m h40 (by omega)); (try have i2 := Imp_m h27.2.2.2.2.2.2.2.2.2.2.2.2.2.2.2.2.2.2.2.2.2.2.2.2.2.2.1 (by omega)); (try have i3 := Imp_m h27.2.2.2.2.2.2.2.2.2.2.2.2.2.2.2.2.2.2.2.2.2.2.2.2.2.2.2.1 (by omega)); omega⟩) (fun q : ¬ Sp.1 = 0 => by rw [tN_bad q]; exact ⟨ML_eq h38 (by subst h37; exact tN_bad q), fun zz => absurd zz q⟩))⟩⟩
/-- DoorSchoolModel.gains(III)I -/
abbrev P_235x (σ0 : SG) (a : Int32) (b : Int32) (c : Int32) : PO := fun v σ => WT σ ∧ Fr [(35, 18), (35, 21), (42, 0), (43, 0), (44, 0), (45, 0), (46, 0)] σ0 σ ∧ ∃ ret : Int32, v = some (.int ret) ∧ -ret.toInt - 1000 ≤ 0 ∧ ret.toInt - 13 ≤ 0 ∧ ret.toInt = gnR (wf σ0) a.toInt b.toInt c.toInt
set_option maxRecDepth 10000 in
set_option maxHeartbeats 4000000 in
theorem c_235x (σ0 : SG) (hσ0 : WT σ0) (a : Int32) (b : Int32) (c : Int32) (hq : QX (wf σ0)) : En 6 136 none mr_235 (P_235x σ0 a b c) 0 [(0, .ref 159), (1, .int a), (2, .int b), (3, .int c)] [] σ0 := by
  have hF0 : Fr [(35, 18), (35, 21), (42, 0), (43, 0), (44, 0), (45, 0), (46, 0)] σ0 σ0 := Fr_rfl
  refine En_Ps 2 (pc' := 2) (lv' := [(0, .ref 159), (1, .int a), (2, .int b), (3, .int c)]) (st' := [.int a, .ref 159]) rfl ?_
  obtain ⟨z2, h1, h3, h4⟩ := WT_peekI hσ0 (by decide +kernel : TG 160 = 36) (by decide +kernel : FT 36 (2 : Int).toNat = (0, 0, 4)) (by decide +kernel)
  refine En_callV rfl rfl rfl rfl rfl rfl rfl rfl (by decide +kernel : TG 159 = 35) (by decide +kernel) rfl (c_254 σ0 hσ0 a z2 h1) (by decide) (by decide) (fun v6 σ7 h5 => ?_)
  obtain ⟨h8, h9, z11, rfl, h10⟩ := h5
  obtain rfl : σ0 = σ7 := Fr_nil h9
  have w12 : wf σ0 (2) = z2.toInt := ci_at h1 (by omega)
  refine En_iEq _ rfl rfl (fun h13 => ?_) (fun h13 => ?_)
  · refine En_Ps 1 (pc' := 30) (lv' := [(0, .ref 159), (1, .int a), (2, .int b), (3, .int c)]) (st' := [.int (((Int16.ofInt (-1000)).toInt32))]) rfl ?_
    refine En_top (by decide : ((Int16.ofInt (-1000)).toInt32).toInt = -1000) (fun z14 h15 => ?_)
    exact En_ret (v := some (.int z14)) rfl rfl rfl ⟨hσ0, hF0, z14, rfl, ⟨by omega, by omega, gnR_n (fun ⟨q1, q2, q3, q4, q5, q6, q7⟩ => by omega) (by omega)⟩⟩
  · refine En_Ps 3 (pc' := 11) (lv' := [(0, .ref 159), (1, .int a), (2, .int b), (3, .int c)]) (st' := [.long b.toInt64, .ref 159]) rfl ?_
    obtain ⟨z17, h16, h18, h19⟩ := WT_peekI hσ0 (by decide +kernel : TG 160 = 36) (by decide +kernel : FT 36 (0 : Int).toNat = (0, 0, 4)) (by decide +kernel)
    obtain ⟨z21, h20, h22, h23⟩ := WT_peekI hσ0 (by decide +kernel : TG 160 = 36) (by decide +kernel : FT 36 (7 : Int).toNat = (0, 0, 1600)) (by decide +kernel)
    have : b.toInt64.toInt = b.toInt := (i2lI rfl)
    refine En_callV rfl rfl rfl rfl rfl rfl rfl rfl (by decide +kernel : TG 159 = 35) (by decide +kernel) rfl (c_259x σ0 hσ0 b.toInt64 z17 h16 z21 h20) (by decide) (by decide) (fun v25 σ26 h24 => ?_)
    obtain ⟨h27, h28, z30, rfl, h29⟩ := h24
    have h31 := h29.2.2.2
    obtain rfl : σ0 = σ26 := Fr_nil h28
    have h32 := h31
    have w33 : wf σ0 (0) = z17.toInt := ci_at h16 (by omega)
    have w34 : wf σ0 (7) = z21.toInt := ci_at h20 (by omega)
    have h35 : pI (wf σ0 0) = pI (z17.toInt) := by rw [w33]
    refine En_iEq _ rfl rfl (fun h36 => ?_) (fun h36 => ?_)
    · refine En_Ps 1 (pc' := 30) (lv' := [(0, .ref 159), (1, .int a), (2, .int b), (3, .int c)]) (st' := [.int (((Int16.ofInt (-1000)).toInt32))]) rfl ?_
      refine En_top (by decide : ((Int16.ofInt (-1000)).toInt32).toInt = -1000) (fun z37 h38 => ?_)
      exact En_ret (v := some (.int z37)) rfl rfl rfl ⟨hσ0, hF0, z37, rfl, ⟨by omega, by omega, gnR_n (fun ⟨q1, q2, q3, q4, q5, q6, q7⟩ => by omega) (by omega)⟩⟩
    · have h39 := Imp_m h29.2.2.1 (by omega)
      refine En_Ps 4 (pc' := 21) (lv' := [(0, .ref 159), (1, .int a), (2, .int b), (3, .int c)]) (st' := [.long ((Int64.ofNat 1)), .long ((Int64.ofNat 0)), .long c.toInt64]) rfl ?_
      have : c.toInt64.toInt = c.toInt := (i2lI rfl)
      have := (by decide : ((Int64.ofNat 0)).toInt = 0)
      have := (by decide : ((Int64.ofNat 1)).toInt = 1)
      refine En_callS rfl rfl rfl rfl rfl rfl rfl rfl rfl (c_249 σ0 hσ0 c.toInt64 ((Int64.ofNat 0)) ((Int64.ofNat 1))) (by decide) (by decide) (fun v41 σ42 h40 => ?_)
      obtain ⟨h43, h44, z46, rfl, h45⟩ := h40
      obtain rfl : σ0 = σ42 := Fr_nil h44
      refine En_iNe _ rfl rfl (fun h47 => ?_) (fun h47 => ?_)
      · have h48 : 1 ≤ z21.toInt := by have e9 := hq (by omega); omega
        have h49 := pI_rng (s := z17.toInt) (by omega) (by omega)
        have h50 := (kI_val z21.toInt z17.toInt).2 (by omega)
        have h51 : pI (wf σ0 0) = pI (z17.toInt) := by rw [w33]
        have h52 : 0 ≤ b.toInt ∧ b.toInt ≤ 15 := by omega
        refine En_Ps 5 (pc' := 36) (lv' := [(0, .ref 159), (1, .int a), (2, .int b), (3, .int c)]) (st' := [.int c, .int b, .int a, .ref 159, .ref 159]) rfl ?_
        refine En_callV rfl rfl rfl rfl rfl rfl rfl rfl (by decide +kernel : TG 159 = 35) (by decide +kernel) rfl (c_214x σ0 hσ0 a b c (geI rfl (by omega)) (leI rfl (by omega)) (geI rfl (by omega)) (leI rfl (by omega)) (geI rfl (by omega)) (leI rfl (by omega)) z17 h16 z21 h20 (by omega)) (by decide) (by decide) (fun v54 σ55 h53 => ?_)
        obtain ⟨h56, h57, z59, rfl, h58⟩ := h53
        have h60 := h58.2.2
        have h61 := Fr_trans hF0 h57 (by decide +kernel)
        have h62 : wf σ55 = wf σ0 := wf_fr h57 (by decide +kernel)
        refine En_callV rfl rfl rfl rfl rfl rfl rfl rfl (by decide +kernel : TG 159 = 35) (by decide +kernel) rfl (c_283x σ55 h56 z59 (geI rfl (by omega)) (leI rfl (by omega))) (by decide) (by decide) (fun v64 σ65 h63 => ?_)
        obtain ⟨h66, h67, z69, rfl, h68⟩ := h63
        have h70 := h68.2.2
        obtain rfl : σ55 = σ65 := Fr_nil h67
        refine En_Ps 3 (pc' := 45) (lv' := [(0, .ref 159), (1, .int a), (2, .int b), (3, .int c)]) (st' := [.int a, .ref 159, .ref 159, .int z69]) rfl ?_
        refine En_callV rfl rfl rfl rfl rfl rfl rfl rfl (by decide +kernel : TG 159 = 35) (by decide +kernel) rfl (c_213x σ55 h56 a (geI rfl (by omega)) (leI rfl (by omega)) z17 ((h57 _ _ (inWa (by decide +kernel : TG 160 = 36) (by decide +kernel))).trans h16) z21 ((h57 _ _ (inWa (by decide +kernel : TG 160 = 36) (by decide +kernel))).trans h20) (by omega)) (by decide) (by decide) (fun v72 σ73 h71 => ?_)
        obtain ⟨h74, h75, z77, h78, z79, rfl, h76⟩ := h71
        have h80 := h76.2.2.2.2.2.2.2.2.1
        have h81 := Fr_trans h61 h75 (by decide +kernel)
        have h82 : wf σ73 = wf σ0 := (wf_fr h75 (by decide +kernel)).trans h62
        refine En_callV rfl rfl rfl rfl rfl rfl rfl rfl (by decide +kernel : TG 159 = 35) (by decide +kernel) rfl (c_283x σ73 h74 z79 (geI rfl (by omega)) (leI rfl (by omega))) (by decide) (by decide) (fun v84 σ85 h83 => ?_)
        obtain ⟨h86, h87, z89, rfl, h88⟩ := h83
        have h90 := h88.2.2
        obtain rfl : σ73 = σ85 := Fr_nil h87
        refine En_Ps 1 (pc' := 52) (lv' := [(0, .ref 159), (1, .int a), (2, .int b), (3, .int c)]) (st' := [.int ((z69 - z89))]) rfl ?_
        refine En_top (subI rfl rfl (by omega) (by omega)) (fun z91 h92 => ?_)
        exact En_ret (v := some (.int z91)) rfl rfl rfl ⟨h74, h81, z91, rfl, ⟨by omega, by omega, gnR_y ⟨by omega, by omega, by omega, by omega, by omega, by omega, by omega⟩ (gnN_of (x := z79.toInt) (X := z89.toInt) (y := z59.toInt) (Y := z69.toInt) (by rw [← h62]; exact h80) (by rw [← h82]; exact h90) h60 (by rw [← h62]; exact h70) (by omega))⟩⟩
      · refine En_Ps 1 (pc' := 30) (lv' := [(0, .ref 159), (1, .int a), (2, .int b), (3, .int c)]) (st' := [.int (((Int16.ofInt (-1000)).toInt32))]) rfl ?_
        refine En_top (by decide : ((Int16.ofInt (-1000)).toInt32).toInt = -1000) (fun z93 h94 => ?_)
        exact En_ret (v := some (.int z93)) rfl rfl rfl ⟨hσ0, hF0, z93, rfl, ⟨by omega, by omega, gnR_n (fun ⟨q1, q2, q3, q4, q5, q6, q7⟩ => by omega) (by omega)⟩⟩
/-- DoorSchoolModel.isStrange(I)Z -/
abbrev P_267x (σ0 : SG) (a : Int32) (s : Int32) (sc : Int32) : PO := fun v σ => WT σ ∧ Fr [] σ0 σ ∧ ∃ ret : Int32, v = some (.int ret) ∧ -ret.toInt ≤ 0 ∧ ret.toInt - 1 ≤ 0 ∧ Imp (ret.toInt - 1 ≤ 0 ∧ -ret.toInt + 1 ≤ 0) (-a.toInt ≤ 0 ∧ a.toInt - 15 ≤ 0) ∧ ((ret.toInt = 1 ∧ 1 ≤ sc.toInt ∧ 0 ≤ a.toInt ∧ a.toInt < pI (wf σ0 0) ∧ btI (owD (wf σ0)) a.toInt = 0) ∨ (ret.toInt = 0 ∧ ¬ (1 ≤ sc.toInt ∧ 0 ≤ a.toInt ∧ a.toInt < pI (wf σ0 0) ∧ btI (owD (wf σ0)) a.toInt = 0)))
set_option maxRecDepth 10000 in
set_option maxHeartbeats 4000000 in
theorem c_267x (σ0 : SG) (hσ0 : WT σ0) (a : Int32) (s : Int32) (h_s : (σ0 160)[(0 : Int).toNat]? = some (.int s)) (sc : Int32) (h_sc : (σ0 160)[(7 : Int).toNat]? = some (.int sc)) : En 4 84 none mr_267 (P_267x σ0 a s sc) 0 [(0, .ref 159), (1, .int a)] [] σ0 := by
  obtain ⟨hl_s, hu_s⟩ := WT_int hσ0 (g := 36) (by decide +kernel) (by decide +kernel) (l := 0) (u := 4) (by decide +kernel) h_s
  obtain ⟨hl_sc, hu_sc⟩ := WT_int hσ0 (g := 36) (by decide +kernel) (by decide +kernel) (l := 0) (u := 1600) (by decide +kernel) h_sc
  have hF0 : Fr [] σ0 σ0 := Fr_rfl
  have kv := kI_val sc.toInt s.toInt
  have := pI_rng (s := s.toInt) (by omega) (by omega)
  have w0 : wf σ0 0 = s.toInt := ci_at h_s rfl
  have : pI (wf σ0 0) = pI s.toInt := by rw [w0]
  refine En_Ps 3 (pc' := 3) (lv' := [(0, .ref 159), (1, .int a)]) (st' := [.long a.toInt64, .ref 159]) rfl ?_
  have : a.toInt64.toInt = a.toInt := (i2lI rfl)
  refine En_callV rfl rfl rfl rfl rfl rfl rfl rfl (by decide +kernel : TG 159 = 35) (by decide +kernel) rfl (c_259x σ0 hσ0 a.toInt64 s h_s sc h_sc) (by decide) (by decide) (fun v2 σ3 h1 => ?_)
  obtain ⟨h4, h5, z7, rfl, h6⟩ := h1
  have h8 := h6.2.2.2
  obtain rfl : σ0 = σ3 := Fr_nil h5
  have h9 := h8
  have w10 : wf σ0 (0) = s.toInt := ci_at h_s (by omega)
  have w11 : wf σ0 (7) = sc.toInt := ci_at h_sc (by omega)
  have h12 : pI (wf σ0 0) = pI (s.toInt) := by rw [w10]
  refine En_iEq _ rfl rfl (fun h13 => ?_) (fun h13 => ?_)
  · refine En_Ps 1 (pc' := 25) (lv' := [(0, .ref 159), (1, .int a)]) (st' := [.int ((Int32.ofInt 0))]) rfl ?_
    refine En_top (by decide : (Int32.ofInt 0).toInt = 0) (fun z14 h15 => ?_)
    exact En_ret (v := some (.int z14)) rfl rfl (retZ rfl rfl (by omega) (by omega)) ⟨hσ0, hF0, z14, rfl, ⟨by omega, by omega, fun _ => by omega, Or.inr ⟨(by omega), (fun ⟨q1, q2, q3, q4⟩ => by omega)⟩⟩⟩
  · have h16 := Imp_m h6.2.2.1 (by omega)
    have h17 : 1 ≤ sc.toInt := by omega
    have h18 : 0 ≤ a.toInt ∧ a.toInt ≤ 15 := by omega
    refine En_Ps 1 (pc' := 10) (lv' := [(0, .ref 159), (1, .int a)]) (st' := [.ref 159]) rfl ?_
    refine En_callV rfl rfl rfl rfl rfl rfl rfl rfl (by decide +kernel : TG 159 = 35) (by decide +kernel) rfl (c_295x σ0 hσ0 s h_s sc h_sc (by omega)) (by decide) (by decide) (fun v20 σ21 h19 => ?_)
    obtain ⟨h22, h23, z25, rfl, h24⟩ := h19
    have h26 := h24.2.2
    obtain rfl : σ0 = σ21 := Fr_nil h23
    refine En_Ps 1 (pc' := 14) (lv' := [(0, .ref 159), (1, .int a)]) (st' := [.int a, .int z25]) rfl ?_
    refine En_callS rfl rfl rfl rfl rfl rfl rfl rfl rfl (c_202ax σ0 hσ0 z25 a (geI rfl (by omega)) (leI rfl (by omega)) (geI rfl (by omega)) (leI rfl (by omega))) (by decide) (by decide) (fun v28 σ29 h27 => ?_)
    obtain ⟨h30, h31, z33, rfl, h32⟩ := h27
    have h34 := h32.2.2
    obtain rfl : σ0 = σ29 := Fr_nil h31
    have h35 : z33.toInt = btI (owD (wf σ0)) a.toInt := h34.trans (btI_cg h26)
    refine En_iNe _ rfl rfl (fun h36 => ?_) (fun h36 => ?_)
    · refine En_Ps 1 (pc' := 25) (lv' := [(0, .ref 159), (1, .int a)]) (st' := [.int ((Int32.ofInt 0))]) rfl ?_
      refine En_top (by decide : (Int32.ofInt 0).toInt = 0) (fun z37 h38 => ?_)
      exact En_ret (v := some (.int z37)) rfl rfl (retZ rfl rfl (by omega) (by omega)) ⟨hσ0, hF0, z37, rfl, ⟨by omega, by omega, fun _ => by omega, Or.inr ⟨(by omega), (fun ⟨q1, q2, q3, q4⟩ => by omega)⟩⟩⟩
    · refine En_Ps 2 (pc' := 25) (lv' := [(0, .ref 159), (1, .int a)]) (st' := [.int ((Int32.ofInt 1))]) rfl ?_
      refine En_top (by decide : (Int32.ofInt 1).toInt = 1) (fun z39 h40 => ?_)
      exact En_ret (v := some (.int z39)) rfl rfl (retZ rfl rfl (by omega) (by omega)) ⟨hσ0, hF0, z39, rfl, ⟨by omega, by omega, fun _ => by omega, Or.inl ⟨(by omega), by omega, by omega, by omega, by omega⟩⟩⟩
/-- DoorSchoolModel.game(III)I -/
abbrev P_236x (σ0 : SG) (a : Int32) (b : Int32) (c : Int32) : PO := fun v σ => WT σ ∧ Fr [(35, 18), (35, 21), (42, 0), (43, 0), (44, 0), (45, 0), (46, 0)] σ0 σ ∧ ∃ ret : Int32, v = some (.int ret) ∧ -ret.toInt - 2 ≤ 0 ∧ ret.toInt - 1 ≤ 0 ∧ ret.toInt = gmR (wf σ0) a.toInt b.toInt c.toInt
set_option maxRecDepth 10000 in
set_option maxHeartbeats 4000000 in
theorem c_236x (σ0 : SG) (hσ0 : WT σ0) (a : Int32) (b : Int32) (c : Int32) (hq : QX (wf σ0)) : En 5 113 none mr_236 (P_236x σ0 a b c) 0 [(0, .ref 159), (1, .int a), (2, .int b), (3, .int c)] [] σ0 := by
  have hF0 : Fr [(35, 18), (35, 21), (42, 0), (43, 0), (44, 0), (45, 0), (46, 0)] σ0 σ0 := Fr_rfl
  refine En_Ps 2 (pc' := 2) (lv' := [(0, .ref 159), (1, .int a), (2, .int b), (3, .int c)]) (st' := [.int a, .ref 159]) rfl ?_
  obtain ⟨z2, h1, h3, h4⟩ := WT_peekI hσ0 (by decide +kernel : TG 160 = 36) (by decide +kernel : FT 36 (2 : Int).toNat = (0, 0, 4)) (by decide +kernel)
  refine En_callV rfl rfl rfl rfl rfl rfl rfl rfl (by decide +kernel : TG 159 = 35) (by decide +kernel) rfl (c_254 σ0 hσ0 a z2 h1) (by decide) (by decide) (fun v6 σ7 h5 => ?_)
  obtain ⟨h8, h9, z11, rfl, h10⟩ := h5
  obtain rfl : σ0 = σ7 := Fr_nil h9
  have w12 : wf σ0 (2) = z2.toInt := ci_at h1 (by omega)
  refine En_iEq _ rfl rfl (fun h13 => ?_) (fun h13 => ?_)
  · refine En_Ps 1 (pc' := 38) (lv' := [(0, .ref 159), (1, .int a), (2, .int b), (3, .int c)]) (st' := [.int (((Int8.ofInt (-2)).toInt32))]) rfl ?_
    refine En_top (by decide : ((Int8.ofInt (-2)).toInt32).toInt = -2) (fun z14 h15 => ?_)
    exact En_ret (v := some (.int z14)) rfl rfl rfl ⟨hσ0, hF0, z14, rfl, ⟨by omega, by omega, gmR_n (fun ⟨q1, q2, q3, q4, q5, q6, q7, q8⟩ => by omega) (by omega)⟩⟩
  · refine En_Ps 1 (pc' := 9) (lv' := [(0, .ref 159), (1, .int a), (2, .int b), (3, .int c)]) (st' := [.int b]) rfl ?_
    refine En_callS rfl rfl rfl rfl rfl rfl rfl rfl rfl (c_268 σ0 hσ0 b) (by decide) (by decide) (fun v17 σ18 h16 => ?_)
    obtain ⟨h19, h20, z22, rfl, h21⟩ := h16
    obtain rfl : σ0 = σ18 := Fr_nil h20
    refine En_iEq _ rfl rfl (fun h23 => ?_) (fun h23 => ?_)
    · refine En_Ps 1 (pc' := 38) (lv' := [(0, .ref 159), (1, .int a), (2, .int b), (3, .int c)]) (st' := [.int (((Int8.ofInt (-2)).toInt32))]) rfl ?_
      refine En_top (by decide : ((Int8.ofInt (-2)).toInt32).toInt = -2) (fun z24 h25 => ?_)
      exact En_ret (v := some (.int z24)) rfl rfl rfl ⟨hσ0, hF0, z24, rfl, ⟨by omega, by omega, gmR_n (fun ⟨q1, q2, q3, q4, q5, q6, q7, q8⟩ => by omega) (by omega)⟩⟩
    · refine En_Ps 2 (pc' := 17) (lv' := [(0, .ref 159), (1, .int a), (2, .int b), (3, .int c)]) (st' := [.int c, .ref 159]) rfl ?_
      obtain ⟨z27, h26, h28, h29⟩ := WT_peekI hσ0 (by decide +kernel : TG 160 = 36) (by decide +kernel : FT 36 (0 : Int).toNat = (0, 0, 4)) (by decide +kernel)
      obtain ⟨z31, h30, h32, h33⟩ := WT_peekI hσ0 (by decide +kernel : TG 160 = 36) (by decide +kernel : FT 36 (7 : Int).toNat = (0, 0, 1600)) (by decide +kernel)
      refine En_callV rfl rfl rfl rfl rfl rfl rfl rfl (by decide +kernel : TG 159 = 35) (by decide +kernel) rfl (c_267x σ0 hσ0 c z27 h26 z31 h30) (by decide) (by decide) (fun v35 σ36 h34 => ?_)
      obtain ⟨h37, h38, z40, rfl, h39⟩ := h34
      have h41 := h39.2.2.2
      obtain rfl : σ0 = σ36 := Fr_nil h38
      have h42 := h41
      have w43 : wf σ0 (0) = z27.toInt := ci_at h26 (by omega)
      have w44 : wf σ0 (7) = z31.toInt := ci_at h30 (by omega)
      refine En_iEq _ rfl rfl (fun h45 => ?_) (fun h45 => ?_)
      · refine En_Ps 1 (pc' := 38) (lv' := [(0, .ref 159), (1, .int a), (2, .int b), (3, .int c)]) (st' := [.int (((Int8.ofInt (-2)).toInt32))]) rfl ?_
        refine En_top (by decide : ((Int8.ofInt (-2)).toInt32).toInt = -2) (fun z46 h47 => ?_)
        exact En_ret (v := some (.int z46)) rfl rfl rfl ⟨hσ0, hF0, z46, rfl, ⟨by omega, by omega, gmR_n (fun ⟨q1, q2, q3, q4, q5, q6, q7, q8⟩ => ((h42.resolve_left (fun q => by omega)).2) ⟨by omega, q6, q7, q8⟩) (by omega)⟩⟩
      · have h48 := Imp_m h39.2.2.1 (by omega)
        have h49 : 1 ≤ z31.toInt := by have e9 := hq (by omega); omega
        have h50 := pI_rng (s := z27.toInt) (by omega) (by omega)
        have h51 := (kI_val z31.toInt z27.toInt).2 (by omega)
        have h52 : pI (wf σ0 0) = pI (z27.toInt) := by rw [w43]
        have h53 := (h42.resolve_right (fun q => by omega)).2
        have h54 : 0 ≤ c.toInt ∧ c.toInt ≤ 15 := by omega
        refine En_Ps 3 (pc' := 26) (lv' := [(0, .ref 159), (1, .int a), (2, .int b), (3, .int c)]) (st' := [.int b, .int a, .ref 159]) rfl ?_
        refine En_callV rfl rfl rfl rfl rfl rfl rfl rfl (by decide +kernel : TG 159 = 35) (by decide +kernel) rfl (c_211x σ0 hσ0 a b (geI rfl (by omega)) (leI rfl (by omega)) (geI rfl (by omega)) (leI rfl (by omega)) z27 h26 z31 h30 (by omega)) (by decide) (by decide) (fun v56 σ57 h55 => ?_)
        obtain ⟨h58, h59, z61, rfl, h60⟩ := h55
        have h62 := h60.2.2
        have h63 := Fr_trans hF0 h59 (by decide +kernel)
        refine En_Ps 1 (pc' := 30) (lv' := [(0, .ref 159), (1, .int a), (2, .int b), (3, .int c)]) (st' := [.int c, .int z61]) rfl ?_
        refine En_callS rfl rfl rfl rfl rfl rfl rfl rfl rfl (c_202ax σ57 h58 z61 c (geI rfl (by omega)) (leI rfl (by omega)) (geI rfl (by omega)) (leI rfl (by omega))) (by decide) (by decide) (fun v65 σ66 h64 => ?_)
        obtain ⟨h67, h68, z70, rfl, h69⟩ := h64
        have h71 := h69.2.2
        obtain rfl : σ57 = σ66 := Fr_nil h68
        refine En_Ps 1 (pc' := 38) (lv' := [(0, .ref 159), (1, .int a), (2, .int b), (3, .int c)]) (st' := [.int z70]) rfl ?_
        exact En_ret (v := some (.int z70)) rfl rfl rfl ⟨h58, h63, z70, rfl, ⟨by omega, by omega, gmR_y ⟨by omega, by omega, by omega, by omega, by omega, by omega, by omega, by omega⟩ h62 h71⟩⟩
/-- DoorSchoolModel.hard()I -/
abbrev P_240x (σ0 : SG) : PO := fun v σ => WT σ ∧ Fr [(35, 18), (35, 21), (42, 0), (43, 0), (44, 0), (45, 0), (46, 0)] σ0 σ ∧ ∃ ret : Int32, v = some (.int ret) ∧ -ret.toInt - 2 ≤ 0 ∧ ret.toInt - 4095 ≤ 0 ∧ ret.toInt = hdR (wf σ0)
set_option maxRecDepth 10000 in
set_option maxHeartbeats 4000000 in
theorem c_240x (σ0 : SG) (hσ0 : WT σ0) (hq : QX (wf σ0)) : En 5 112 none mr_240 (P_240x σ0) 0 [(0, .ref 159)] [] σ0 := by
  have hF0 : Fr [(35, 18), (35, 21), (42, 0), (43, 0), (44, 0), (45, 0), (46, 0)] σ0 σ0 := Fr_rfl
  refine En_Ps 1 (pc' := 1) (lv' := [(0, .ref 159)]) (st' := [.ref 159]) rfl ?_
  obtain ⟨z2, h1, h3, h4⟩ := WT_peekI hσ0 (by decide +kernel : TG 160 = 36) (by decide +kernel : FT 36 (7 : Int).toNat = (0, 0, 1600)) (by decide +kernel)
  refine En_callV rfl rfl rfl rfl rfl rfl rfl rfl (by decide +kernel : TG 159 = 35) (by decide +kernel) rfl (c_264 σ0 hσ0 z2 h1) (by decide) (by decide) (fun v6 σ7 h5 => ?_)
  obtain ⟨h8, h9, z11, rfl, h10⟩ := h5
  obtain rfl : σ0 = σ7 := Fr_nil h9
  have w12 : wf σ0 (7) = z2.toInt := ci_at h1 (by omega)
  refine En_iNe _ rfl rfl (fun h13 => ?_) (fun h13 => ?_)
  · obtain ⟨z15, h14, h16, h17⟩ := WT_peekI hσ0 (by decide +kernel : TG 160 = 36) (by decide +kernel : FT 36 (0 : Int).toNat = (0, 0, 4)) (by decide +kernel)
    obtain ⟨z19, h18, h20, h21⟩ := WT_peekI hσ0 (by decide +kernel : TG 160 = 36) (by decide +kernel : FT 36 (2 : Int).toNat = (0, 0, 4)) (by decide +kernel)
    have w22 : wf σ0 (0) = z15.toInt := ci_at h14 (by omega)
    have w23 : wf σ0 (2) = z19.toInt := ci_at h18 (by omega)
    have h24 : 1 ≤ z2.toInt := by omega
    have h25 := pI_rng (s := z15.toInt) (by omega) (by omega)
    have h26 := (kI_val z2.toInt z15.toInt).2 (by omega)
    have h27 : pI (wf σ0 0) = pI (z15.toInt) := by rw [w22]
    refine En_Ps 2 (pc' := 12) (lv' := [(0, .ref 159)]) (st' := [.ref 159, .int ((Int32.ofInt 1))]) rfl ?_
    refine En_getU (j := 1) (u := 160) (g' := 36) (q := 0) rfl rfl rfl (by decide +kernel : TG 159 = 35) (by decide +kernel) hσ0 (by decide +kernel) (by decide +kernel) (fun h28 => ?_)
    refine En_Ps 1 (pc' := 16) (lv' := [(0, .ref 159)]) (st' := [.int ((Int32.ofInt 3)), .ref 160, .int ((Int32.ofInt 1))]) rfl ?_
    refine En_iald (l := 0) (u := 12) rfl (by decide : (Int32.ofInt 3).toInt = 3) (by decide +kernel : TG 160 = 36) (by decide +kernel) hσ0 (by omega) (lnI (by decide +kernel : LN _ = 226) (by omega)) (by decide +kernel) (fun z31 h30 h32 h33 => ?_)
    have w34 : wf σ0 (3) = z31.toInt := ci_at h30 (by omega)
    have wq0 : wf σ0 = wf σ0 := rfl
    refine En_Ps 1 (pc' := 18) (lv' := [(0, .ref 159)]) (st' := [.int ((((Int32.ofInt 1)) <<< (z31 &&& 31)))]) rfl ?_
    refine En_nam (fun z35 h36 => ?_)
    have h37 : z35.toInt = pI z31.toInt := shl_v h36 rfl (by omega) (by omega)
    have := pI_pos z31.toInt
    have : pI z31.toInt ≤ 4096 := pI_mono (Y := 12) (by omega)
    refine En_Ps 2 (pc' := 20) (lv' := [(0, .ref 159)]) (st' := [.int ((z35 - ((Int32.ofInt 1))))]) rfl ?_
    refine En_top (subI rfl (by decide : (Int32.ofInt 1).toInt = 1) (by omega) (by omega)) (fun z38 h39 => ?_)
    refine En_Ps 3 (pc' := 23) (lv' := [(2, .int ((Int32.ofInt 0))), (1, .int z38), (0, .ref 159)]) (st' := []) rfl ?_
    have key23 : ∀ (n23 : Nat) (σ42 : SG) (y40 : Int32) (y41 : Int32), WT σ42 → Fr [(35, 18), (35, 21), (42, 0), (43, 0), (44, 0), (45, 0), (46, 0)] σ0 σ42 → (σ42 160)[(7 : Int).toNat]? = some (.int z2) → (σ42 160)[(0 : Int).toNat]? = some (.int z15) → (σ42 160)[(2 : Int).toNat]? = some (.int z19) → (σ42 159)[1]? = some (.ref 160) → (σ42 160)[(3 : Int).toNat]? = some (.int z31) → 0 ≤ y40.toInt → y40.toInt ≤ 4095 → 0 ≤ y41.toInt → y41.toInt ≤ 4 → y41.toInt - z19.toInt ≤ 0 → z19.toInt - y41.toInt < (n23 : Int) → y40.toInt = HRD (wf σ0) y41.toInt → wf σ42 = wf σ0 → y41.toInt ≤ wf σ0 2 → En 5 112 none mr_240 (P_240x σ0) 23 [(0, .ref 159), (1, .int y40), (2, .int y41)] [] σ42 := by
      intro n23
      induction n23 with
      | zero =>
        intro σ42 y40 y41 h43 h44 h45 h46 h47 h48 h49 h50 h51 h52 h53 h54 h55 h56 h57 h58
        exfalso; omega
      | succ n23 ih23 =>
        intro σ42 y40 y41 h43 h44 h45 h46 h47 h48 h49 h50 h51 h52 h53 h54 h55 h56 h57 h58
        refine En_Ps 2 (pc' := 25) (lv' := [(0, .ref 159), (1, .int y40), (2, .int y41)]) (st' := [.ref 159, .int y41]) rfl ?_
        refine En_getK (j := 1) h48 rfl rfl rfl (by decide +kernel : TG 159 = 35) (by decide +kernel) ?_
        refine En_Ps 1 (pc' := 29) (lv' := [(0, .ref 159), (1, .int y40), (2, .int y41)]) (st' := [.int ((Int32.ofInt 2)), .ref 160, .int y41]) rfl ?_
        refine En_ialdK h47 rfl (by decide : (Int32.ofInt 2).toInt = 2) (by decide +kernel : TG 160 = 36) (by decide +kernel) h43 (by omega) (lnI (by decide +kernel : LN _ = 226) (by omega)) ?_
        have h60 : wf σ0 2 = z19.toInt := by rw [← h57]; exact ci_at h47 (by omega)
        refine En_icGe _ rfl rfl rfl (fun h61 => ?_) (fun h61 => ?_)
        · refine En_Ps 1 (pc' := 85) (lv' := [(0, .ref 159), (1, .int y40), (2, .int y41)]) (st' := [.int y40]) rfl ?_
          exact En_ret (v := some (.int y40)) rfl rfl rfl ⟨h43, h44, y40, rfl, ⟨by omega, by omega, hdR_y (by omega) (i := y41.toInt) (by omega) h56 rfl⟩⟩
        · refine En_Ps 2 (pc' := 35) (lv' := [(0, .ref 159), (1, .int y40), (2, .int y41)]) (st' := [.int y41, .ref 159]) rfl ?_
          refine En_callV rfl rfl rfl rfl rfl rfl rfl rfl (by decide +kernel : TG 159 = 35) (by decide +kernel) rfl (c_213x σ42 h43 y41 (geI rfl (by omega)) (leI rfl (by omega)) z15 h46 z2 h45 (by omega)) (by decide) (by decide) (fun v63 σ64 h62 => ?_)
          obtain ⟨h65, h66, z68, h69, z70, rfl, h67⟩ := h62
          have h71 := h67.2.2.2.2.2.2.2.2.1
          have h72 := Fr_trans h44 h66 (by decide +kernel)
          have h73 : wf σ64 = wf σ0 := (wf_fr h66 (by decide +kernel)).trans h57
          have h74 : z70.toInt = DDw (wf σ0) y41.toInt := by rw [← h57]; exact h71
          have h75 := N23_w hσ0
          refine En_Ps 3 (pc' := 42) (lv' := [(4, .int ((Int32.ofInt 0))), (3, .int z70), (0, .ref 159), (1, .int y40), (2, .int y41)]) (st' := []) rfl ?_
          have key42 : ∀ (n42 : Nat) (y76 : Int32) (y77 : Int32), 0 ≤ y76.toInt → y76.toInt ≤ 4095 → 0 ≤ y77.toInt → y77.toInt ≤ 12 → y77.toInt - z31.toInt ≤ 0 → z31.toInt - y77.toInt < (n42 : Int) → y76.toInt = HRI (wf σ0) y41.toInt y77.toInt → y77.toInt ≤ wf σ0 3 → En 5 112 none mr_240 (P_240x σ0) 42 [(0, .ref 159), (1, .int y76), (2, .int y41), (3, .int z70), (4, .int y77)] [] σ64 := by
            intro n42
            induction n42 with
            | zero =>
              intro y76 y77 h81 h82 h83 h84 h85 h86 h87 h88
              exfalso; omega
            | succ n42 ih42 =>
              intro y76 y77 h81 h82 h83 h84 h85 h86 h87 h88
              refine En_Ps 2 (pc' := 45) (lv' := [(0, .ref 159), (1, .int y76), (2, .int y41), (3, .int z70), (4, .int y77)]) (st' := [.ref 159, .int y77]) rfl ?_
              refine En_getK (j := 1) ((h66 _ _ (inW (by decide +kernel : TG 159 = 35) (by decide +kernel))).trans h48) rfl rfl rfl (by decide +kernel : TG 159 = 35) (by decide +kernel) ?_
              refine En_Ps 1 (pc' := 49) (lv' := [(0, .ref 159), (1, .int y76), (2, .int y41), (3, .int z70), (4, .int y77)]) (st' := [.int ((Int32.ofInt 3)), .ref 160, .int y77]) rfl ?_
              refine En_ialdK ((h66 _ _ (inWa (by decide +kernel : TG 160 = 36) (by decide +kernel))).trans h49) rfl (by decide : (Int32.ofInt 3).toInt = 3) (by decide +kernel : TG 160 = 36) (by decide +kernel) h65 (by omega) (lnI (by decide +kernel : LN _ = 226) (by omega)) ?_
              have h90 : wf σ0 3 = z31.toInt := by rw [← h73]; exact ci_at ((h66 _ _ (inWa (by decide +kernel : TG 160 = 36) (by decide +kernel))).trans h49) (by omega)
              refine En_icGe _ rfl rfl rfl (fun h91 => ?_) (fun h91 => ?_)
              · refine En_Ps 1 (pc' := 81) (lv' := [(2, .int ((y41 + Int32.ofInt 1))), (0, .ref 159), (1, .int y76), (3, .int z70), (4, .int y77)]) (st' := []) rfl ?_
                refine En_lv1 (addI rfl (by decide : (Int32.ofInt 1).toInt = 1) (by omega) (by omega)) (fun z92 h93 => ?_)
                refine En_Ps 1 (pc' := 23) (lv' := [(2, .int z92), (0, .ref 159), (1, .int y76), (3, .int z70), (4, .int y77)]) (st' := []) rfl ?_
                refine En_lv (lv := [(0, .ref 159), (1, .int y76), (2, .int z92)]) ⟨rfl, rfl, rfl, trivial⟩ ?_
                exact ih23 σ64 y76 z92 h65 h72 ((h66 _ _ (inWa (by decide +kernel : TG 160 = 36) (by decide +kernel))).trans h45) ((h66 _ _ (inWa (by decide +kernel : TG 160 = 36) (by decide +kernel))).trans h46) ((h66 _ _ (inWa (by decide +kernel : TG 160 = 36) (by decide +kernel))).trans h47) ((h66 _ _ (inW (by decide +kernel : TG 159 = 35) (by decide +kernel))).trans h48) ((h66 _ _ (inWa (by decide +kernel : TG 160 = 36) (by decide +kernel))).trans h49) (by omega) (by omega) (by omega) (by omega) (by omega) (by omega) (HRI_e (by omega) h87 (by omega) (by omega) (by omega)) (h73) ((by omega))
              · refine En_Ps 3 (pc' := 57) (lv' := [(0, .ref 159), (1, .int y76), (2, .int y41), (3, .int z70), (4, .int y77)]) (st' := [.int y77, .int z70, .ref 159]) rfl ?_
                refine En_callV rfl rfl rfl rfl rfl rfl rfl rfl (by decide +kernel : TG 159 = 35) (by decide +kernel) rfl (c_262x σ64 h65 z70 y77 (geI rfl (by omega)) (leI rfl (by omega)) (geI rfl (by omega)) (leI rfl (by omega))) (by decide) (by decide) (fun v95 σ96 h94 => ?_)
                obtain ⟨h97, h98, z100, rfl, h99⟩ := h94
                have h101 := h99.2.2
                obtain rfl : σ64 = σ96 := Fr_nil h98
                refine En_iEq _ rfl rfl (fun h102 => ?_) (fun h102 => ?_)
                · refine En_Ps 1 (pc' := 75) (lv' := [(4, .int ((y77 + Int32.ofInt 1))), (0, .ref 159), (1, .int y76), (2, .int y41), (3, .int z70)]) (st' := []) rfl ?_
                  refine En_lv1 (addI rfl (by decide : (Int32.ofInt 1).toInt = 1) (by omega) (by omega)) (fun z103 h104 => ?_)
                  refine En_Ps 1 (pc' := 42) (lv' := [(4, .int z103), (0, .ref 159), (1, .int y76), (2, .int y41), (3, .int z70)]) (st' := []) rfl ?_
                  refine En_lv (lv := [(0, .ref 159), (1, .int y76), (2, .int y41), (3, .int z70), (4, .int z103)]) ⟨rfl, rfl, rfl, rfl, rfl, trivial⟩ ?_
                  exact ih42 y76 z103 (by omega) (by omega) (by omega) (by omega) (by omega) (by omega) (HRI_n h87 h74 (by rw [← h73]; rcases h101 with e9 | e9; exfalso; omega; exact e9.2) (by omega) (by omega)) ((by omega))
                · refine En_Ps 4 (pc' := 68) (lv' := [(0, .ref 159), (1, .int y76), (2, .int y41), (3, .int z70), (4, .int y77)]) (st' := [.int ((((Int32.ofInt 1)) <<< (y77 &&& 31))), .int y76]) rfl ?_
                  refine En_nam (fun z105 h106 => ?_)
                  have h107 : z105.toInt = pI y77.toInt := shl_v h106 rfl (by omega) (by omega)
                  have := pI_pos y77.toInt
                  have : pI y77.toInt ≤ 2048 := pI_mono (Y := 11) (by omega)
                  refine En_Ps 1 (pc' := 69) (lv' := [(0, .ref 159), (1, .int y76), (2, .int y41), (3, .int z70), (4, .int y77)]) (st' := [.int ((Int32.ofInt (-1))), .int z105, .int y76]) rfl ?_
                  refine En_Ps 1 (pc' := 70) (lv' := [(0, .ref 159), (1, .int y76), (2, .int y41), (3, .int z70), (4, .int y77)]) (st' := [.int ((z105 ^^^ ((Int32.ofInt (-1))))), .int y76]) rfl ?_
                  refine En_nam (fun z108 h109 => ?_)
                  refine En_Ps 1 (pc' := 71) (lv' := [(0, .ref 159), (1, .int y76), (2, .int y41), (3, .int z70), (4, .int y77)]) (st' := [.int ((y76 &&& z108))]) rfl ?_
                  refine En_nam (fun z111 h112 => ?_)
                  have h113 : z111.toInt = y76.toInt - aN y76.toInt z105.toInt := andn_v h112 h109 rfl rfl (by omega) (by omega)
                  have := aN_le (X := y76.toInt) (Y := z105.toInt) (by omega) (by omega)
                  refine En_Ps 2 (pc' := 75) (lv' := [(4, .int ((y77 + Int32.ofInt 1))), (1, .int z111), (0, .ref 159), (2, .int y41), (3, .int z70)]) (st' := []) rfl ?_
                  refine En_lv1 (addI rfl (by decide : (Int32.ofInt 1).toInt = 1) (by omega) (by omega)) (fun z114 h115 => ?_)
                  refine En_Ps 1 (pc' := 42) (lv' := [(4, .int z114), (1, .int z111), (0, .ref 159), (2, .int y41), (3, .int z70)]) (st' := []) rfl ?_
                  refine En_lv (lv := [(0, .ref 159), (1, .int z111), (2, .int y41), (3, .int z70), (4, .int z114)]) ⟨rfl, rfl, rfl, rfl, rfl, trivial⟩ ?_
                  exact ih42 z111 z114 (by omega) (by omega) (by omega) (by omega) (by omega) (by omega) (HRI_y (by omega) (by omega) (by omega) h87 h74 (by rw [← h73]; rcases h101 with e9 | e9; exact e9.2; exfalso; omega) (q := z105.toInt) (by omega) (by omega) (by omega)) ((by omega))
          have := (by decide : (Int32.ofInt 0).toInt = 0)
          refine En_lv (lv := [(0, .ref 159), (1, .int y40), (2, .int y41), (3, .int z70), (4, .int ((Int32.ofInt 0)))]) ⟨rfl, rfl, rfl, rfl, rfl, trivial⟩ ?_
          exact key42 (Int.toNat (z31.toInt) + 1) y40 ((Int32.ofInt 0)) (by omega) (by omega) (by omega) (by omega) (by omega) (by omega) (HRI_0 h56 (by omega) (by omega)) ((by omega))
    have := (by decide : (Int32.ofInt 0).toInt = 0)
    refine En_lv (lv := [(0, .ref 159), (1, .int z38), (2, .int ((Int32.ofInt 0)))]) ⟨rfl, rfl, rfl, trivial⟩ ?_
    exact key23 (Int.toNat (z19.toInt) + 1) σ0 z38 ((Int32.ofInt 0)) hσ0 hF0 h1 h14 h18 h28 h30 (by omega) (by omega) (by omega) (by omega) (by omega) (by omega) (HRD_0 (by omega) w34 (by omega) (by omega)) (wq0) ((by have e9 := N23_w hσ0; omega))
  · refine En_Ps 1 (pc' := 9) (lv' := [(0, .ref 159)]) (st' := [.int (((Int8.ofInt (-2)).toInt32))]) rfl ?_
    refine En_top (by decide : ((Int8.ofInt (-2)).toInt32).toInt = -2) (fun z116 h117 => ?_)
    exact En_ret (v := some (.int z116)) rfl rfl rfl ⟨hσ0, hF0, z116, rfl, ⟨by omega, by omega, hdR_n (by omega) (by omega)⟩⟩
/-- DoorSchoolModel.hardened(II)I -/
abbrev P_242x (σ0 : SG) (a : Int32) (b : Int32) (s : Int32) (sc : Int32) : PO := fun v σ => WT σ ∧ Fr [(35, 18), (35, 21), (42, 0), (43, 0), (44, 0), (45, 0), (46, 0)] σ0 σ ∧ ∃ ret : Int32, v = some (.int ret) ∧ -ret.toInt ≤ 0 ∧ ret.toInt - 16 ≤ 0 ∧ ret.toInt = hdV (wf σ0) a.toInt b.toInt
set_option maxRecDepth 10000 in
set_option maxHeartbeats 4000000 in
theorem c_242x (σ0 : SG) (hσ0 : WT σ0) (a : Int32) (b : Int32) (hl_a : 0 ≤ a.toInt) (hu_a : a.toInt ≤ 3) (hl_b : 0 ≤ b.toInt) (hu_b : b.toInt ≤ 15) (s : Int32) (h_s : (σ0 160)[(0 : Int).toNat]? = some (.int s)) (sc : Int32) (h_sc : (σ0 160)[(7 : Int).toNat]? = some (.int sc)) (hp0 : -sc.toInt + 1 ≤ 0) : En 6 136 none mr_242 (P_242x σ0 a b s sc) 0 [(0, .ref 159), (1, .int a), (2, .int b)] [] σ0 := by
  obtain ⟨hl_s, hu_s⟩ := WT_int hσ0 (g := 36) (by decide +kernel) (by decide +kernel) (l := 0) (u := 4) (by decide +kernel) h_s
  obtain ⟨hl_sc, hu_sc⟩ := WT_int hσ0 (g := 36) (by decide +kernel) (by decide +kernel) (l := 0) (u := 1600) (by decide +kernel) h_sc
  have hF0 : Fr [(35, 18), (35, 21), (42, 0), (43, 0), (44, 0), (45, 0), (46, 0)] σ0 σ0 := Fr_rfl
  refine En_Ps 5 (pc' := 5) (lv' := [(0, .ref 159), (1, .int a), (2, .int b)]) (st' := [.ref 159, .int b, .int a, .ref 159, .ref 159]) rfl ?_
  refine En_callV rfl rfl rfl rfl rfl rfl rfl rfl (by decide +kernel : TG 159 = 35) (by decide +kernel) rfl (c_295x σ0 hσ0 s h_s sc h_sc (by omega)) (by decide) (by decide) (fun v2 σ3 h1 => ?_)
  obtain ⟨h4, h5, z7, rfl, h6⟩ := h1
  have h8 := h6.2.2
  obtain rfl : σ0 = σ3 := Fr_nil h5
  refine En_Ps 1 (pc' := 9) (lv' := [(0, .ref 159), (1, .int a), (2, .int b)]) (st' := [.int b, .int z7, .int b, .int a, .ref 159, .ref 159]) rfl ?_
  refine En_callS rfl rfl rfl rfl rfl rfl rfl rfl rfl (c_202ax σ0 hσ0 z7 b (geI rfl (by omega)) (leI rfl (by omega)) (geI rfl (by omega)) (leI rfl (by omega))) (by decide) (by decide) (fun v10 σ11 h9 => ?_)
  obtain ⟨h12, h13, z15, rfl, h14⟩ := h9
  have h16 := h14.2.2
  obtain rfl : σ0 = σ11 := Fr_nil h13
  have h17 : z15.toInt = btI (owD (wf σ0)) b.toInt := h16.trans (btI_cg h8)
  refine En_callV rfl rfl rfl rfl rfl rfl rfl rfl (by decide +kernel : TG 159 = 35) (by decide +kernel) rfl (c_214x σ0 hσ0 a b z15 (geI rfl (by omega)) (leI rfl (by omega)) (geI rfl (by omega)) (leI rfl (by omega)) (geI rfl (by omega)) (leI rfl (by omega)) s h_s sc h_sc (by omega)) (by decide) (by decide) (fun v19 σ20 h18 => ?_)
  obtain ⟨h21, h22, z24, rfl, h23⟩ := h18
  have h25 := h23.2.2
  have h26 := Fr_trans hF0 h22 (by decide +kernel)
  have h27 : wf σ20 = wf σ0 := wf_fr h22 (by decide +kernel)
  refine En_callV rfl rfl rfl rfl rfl rfl rfl rfl (by decide +kernel : TG 159 = 35) (by decide +kernel) rfl (c_233x σ20 h21 z24 (geI rfl (by omega)) (leI rfl (by omega)) s ((h22 _ _ (inWa (by decide +kernel : TG 160 = 36) (by decide +kernel))).trans h_s) sc ((h22 _ _ (inWa (by decide +kernel : TG 160 = 36) (by decide +kernel))).trans h_sc) (by omega)) (by decide) (by decide) (fun v29 σ30 h28 => ?_)
  obtain ⟨h31, h32, z34, rfl, h33⟩ := h28
  have h35 := h33.2.2
  obtain rfl : σ20 = σ30 := Fr_nil h32
  exact En_ret (v := some (.int z34)) rfl rfl rfl ⟨h21, h26, z34, rfl, ⟨by omega, by omega, hdV_of h17 h25 rfl rfl (by rw [← h27]; exact h35)⟩⟩
/-- DoorSchoolModel.harden(I)I -/
abbrev P_241x (σ0 : SG) (a : Int32) (nd : Int32) : PO := fun v σ => WT σ ∧ Fr [(35, 18), (35, 21), (42, 0), (43, 0), (44, 0), (45, 0), (46, 0)] σ0 σ ∧ ∃ ret : Int32, v = some (.int ret) ∧ -ret.toInt - 2 ≤ 0 ∧ ret.toInt - 15 ≤ 0 ∧ Imp (-ret.toInt - 1 ≤ 0) (-a.toInt ≤ 0 ∧ a.toInt - 3 ≤ 0) ∧ Imp (-ret.toInt ≤ 0) (ret.toInt - 15 ≤ 0) ∧ Imp (-a.toInt ≤ 0 ∧ a.toInt - nd.toInt + 1 ≤ 0) (-ret.toInt - 1 ≤ 0) ∧ ret.toInt = hnR (wf σ0) a.toInt
set_option maxRecDepth 10000 in
set_option maxHeartbeats 4000000 in
theorem c_241x (σ0 : SG) (hσ0 : WT σ0) (a : Int32) (nd : Int32) (h_nd : (σ0 160)[(2 : Int).toNat]? = some (.int nd)) (hq : QX (wf σ0)) : En 7 158 none mr_241 (P_241x σ0 a nd) 0 [(0, .ref 159), (1, .int a)] [] σ0 := by
  obtain ⟨hl_nd, hu_nd⟩ := WT_int hσ0 (g := 36) (by decide +kernel) (by decide +kernel) (l := 0) (u := 4) (by decide +kernel) h_nd
  have hF0 : Fr [(35, 18), (35, 21), (42, 0), (43, 0), (44, 0), (45, 0), (46, 0)] σ0 σ0 := Fr_rfl
  refine En_Ps 2 (pc' := 2) (lv' := [(0, .ref 159), (1, .int a)]) (st' := [.int a, .ref 159]) rfl ?_
  refine En_callV rfl rfl rfl rfl rfl rfl rfl rfl (by decide +kernel : TG 159 = 35) (by decide +kernel) rfl (c_254 σ0 hσ0 a nd h_nd) (by decide) (by decide) (fun v2 σ3 h1 => ?_)
  obtain ⟨h4, h5, z7, rfl, h6⟩ := h1
  obtain rfl : σ0 = σ3 := Fr_nil h5
  have w8 : wf σ0 (2) = nd.toInt := ci_at h_nd (by omega)
  refine En_iNe _ rfl rfl (fun h9 => ?_) (fun h9 => ?_)
  · obtain ⟨z11, h10, h12, h13⟩ := WT_peekI hσ0 (by decide +kernel : TG 160 = 36) (by decide +kernel : FT 36 (0 : Int).toNat = (0, 0, 4)) (by decide +kernel)
    obtain ⟨z15, h14, h16, h17⟩ := WT_peekI hσ0 (by decide +kernel : TG 160 = 36) (by decide +kernel : FT 36 (7 : Int).toNat = (0, 0, 1600)) (by decide +kernel)
    have w18 : wf σ0 (0) = z11.toInt := ci_at h10 (by omega)
    have w19 : wf σ0 (7) = z15.toInt := ci_at h14 (by omega)
    have h20 : 1 ≤ z15.toInt := by have e9 := hq (by omega); omega
    have h21 := pI_rng (s := z11.toInt) (by omega) (by omega)
    have h22 := (kI_val z15.toInt z11.toInt).2 (by omega)
    have h23 : pI (wf σ0 0) = pI (z11.toInt) := by rw [w18]
    refine En_Ps 3 (pc' := 14) (lv' := [(0, .ref 159), (1, .int a)]) (st' := [.int a, .ref 159, .ref 159]) rfl ?_
    refine En_callV rfl rfl rfl rfl rfl rfl rfl rfl (by decide +kernel : TG 159 = 35) (by decide +kernel) rfl (c_213x σ0 hσ0 a (geI rfl (by omega)) (leI rfl (by omega)) z11 h10 z15 h14 (by omega)) (by decide) (by decide) (fun v25 σ26 h24 => ?_)
    obtain ⟨h27, h28, z30, h31, z32, rfl, h29⟩ := h24
    have h33 := h29.2.2.2.2.2.2.2.2.1
    have h34 := Fr_trans hF0 h28 (by decide +kernel)
    have h35 : wf σ26 = wf σ0 := wf_fr h28 (by decide +kernel)
    refine En_callV rfl rfl rfl rfl rfl rfl rfl rfl (by decide +kernel : TG 159 = 35) (by decide +kernel) rfl (c_233x σ26 h27 z32 (geI rfl (by omega)) (leI rfl (by omega)) z11 ((h28 _ _ (inWa (by decide +kernel : TG 160 = 36) (by decide +kernel))).trans h10) z15 ((h28 _ _ (inWa (by decide +kernel : TG 160 = 36) (by decide +kernel))).trans h14) (by omega)) (by decide) (by decide) (fun v37 σ38 h36 => ?_)
    obtain ⟨h39, h40, z42, rfl, h41⟩ := h36
    have h43 := h41.2.2
    obtain rfl : σ26 = σ38 := Fr_nil h40
    have h44 : z42.toInt = fon (wf σ0) a.toInt := fon_2 h33 rfl rfl (by rw [← h35]; exact h43)
    have h45 := h35
    refine En_Ps 5 (pc' := 26) (lv' := [(4, .int ((Int32.ofInt 0))), (3, .int ((Int32.ofInt (-1)))), (2, .int z42), (0, .ref 159), (1, .int a)]) (st' := []) rfl ?_
    have key26 : ∀ (n26 : Nat) (σ49 : SG) (y46 : Int32) (y47 : Int32) (y48 : Int32), WT σ49 → Fr [(35, 18), (35, 21), (42, 0), (43, 0), (44, 0), (45, 0), (46, 0)] σ0 σ49 → (σ49 160)[(2 : Int).toNat]? = some (.int nd) → (σ49 160)[(0 : Int).toNat]? = some (.int z11) → (σ49 160)[(7 : Int).toNat]? = some (.int z15) → 0 ≤ y46.toInt → y46.toInt ≤ 16 → (-1) ≤ y47.toInt → y47.toInt ≤ 15 → 0 ≤ y48.toInt → y48.toInt ≤ 16 → y47.toInt - y48.toInt + 1 ≤ 0 → -y48.toInt + 16 < (n26 : Int) → HDI (wf σ0) a.toInt y48.toInt y47.toInt y46.toInt → y48.toInt ≤ pI (wf σ0 0) → wf σ49 = wf σ0 → En 7 158 none mr_241 (P_241x σ0 a nd) 26 [(0, .ref 159), (1, .int a), (2, .int y46), (3, .int y47), (4, .int y48)] [] σ49 := by
      intro n26
      induction n26 with
      | zero =>
        intro σ49 y46 y47 y48 h50 h51 h52 h53 h54 h55 h56 h57 h58 h59 h60 h61 h62 h63 h64 h65
        exfalso; omega
      | succ n26 ih26 =>
        intro σ49 y46 y47 y48 h50 h51 h52 h53 h54 h55 h56 h57 h58 h59 h60 h61 h62 h63 h64 h65
        refine En_Ps 2 (pc' := 29) (lv' := [(0, .ref 159), (1, .int a), (2, .int y46), (3, .int y47), (4, .int y48)]) (st' := [.ref 159, .int y48]) rfl ?_
        refine En_callV rfl rfl rfl rfl rfl rfl rfl rfl (by decide +kernel : TG 159 = 35) (by decide +kernel) rfl (c_269 σ49 h50 z11 h53 z15 h54) (by decide) (by decide) (fun v67 σ68 h66 => ?_)
        obtain ⟨h69, h70, z72, rfl, h71⟩ := h66
        have h73 := h71.2.2
        obtain rfl : σ49 = σ68 := Fr_nil h70
        have h74 := h73
        refine En_icGe _ rfl rfl rfl (fun h75 => ?_) (fun h75 => ?_)
        · refine En_Ps 1 (pc' := 66) (lv' := [(0, .ref 159), (1, .int a), (2, .int y46), (3, .int y47), (4, .int y48)]) (st' := [.int y47]) rfl ?_
          exact En_ret (v := some (.int y47)) rfl rfl rfl ⟨h50, h51, y47, rfl, ⟨by omega, by omega, fun _ => by omega, fun _ => by omega, fun _ => by omega, hnR_y ⟨by omega, by omega⟩ (hnN_of h63 (by omega) (by omega))⟩⟩
        · refine En_Ps 3 (pc' := 39) (lv' := [(0, .ref 159), (1, .int a), (2, .int y46), (3, .int y47), (4, .int y48)]) (st' := [.int y48, .int a, .ref 159]) rfl ?_
          refine En_callV rfl rfl rfl rfl rfl rfl rfl rfl (by decide +kernel : TG 159 = 35) (by decide +kernel) rfl (c_242x σ49 h50 a y48 (geI rfl (by omega)) (leI rfl (by omega)) (geI rfl (by omega)) (leI rfl (by omega)) z11 h53 z15 h54 (by omega)) (by decide) (by decide) (fun v77 σ78 h76 => ?_)
          obtain ⟨h79, h80, z82, rfl, h81⟩ := h76
          have h83 := h81.2.2
          have h84 := Fr_trans h51 h80 (by decide +kernel)
          have h85 : wf σ78 = wf σ0 := (wf_fr h80 (by decide +kernel)).trans h65
          have h86 : z82.toInt = hdV (wf σ0) a.toInt y48.toInt := by rw [← h65]; exact h83
          refine En_Ps 3 (pc' := 47) (lv' := [(5, .int z82), (0, .ref 159), (1, .int a), (2, .int y46), (3, .int y47), (4, .int y48)]) (st' := [.int y46, .int z82]) rfl ?_
          refine En_icLt _ rfl rfl rfl (fun h87 => ?_) (fun h87 => ?_)
          · refine En_Ps 5 (pc' := 62) (lv' := [(4, .int ((y48 + Int32.ofInt 1))), (3, .int y48), (2, .int z82), (5, .int z82), (0, .ref 159), (1, .int a)]) (st' := []) rfl ?_
            refine En_lv1 (addI rfl (by decide : (Int32.ofInt 1).toInt = 1) (by omega) (by omega)) (fun z88 h89 => ?_)
            refine En_Ps 1 (pc' := 26) (lv' := [(4, .int z88), (3, .int y48), (2, .int z82), (5, .int z82), (0, .ref 159), (1, .int a)]) (st' := []) rfl ?_
            refine En_lv (lv := [(0, .ref 159), (1, .int a), (2, .int z82), (3, .int y48), (4, .int z88)]) ⟨rfl, rfl, rfl, rfl, rfl, trivial⟩ ?_
            exact ih26 σ78 z82 y48 z88 h79 h84 ((h80 _ _ (inWa (by decide +kernel : TG 160 = 36) (by decide +kernel))).trans h52) ((h80 _ _ (inWa (by decide +kernel : TG 160 = 36) (by decide +kernel))).trans h53) ((h80 _ _ (inWa (by decide +kernel : TG 160 = 36) (by decide +kernel))).trans h54) (by omega) (by omega) (by omega) (by omega) (by omega) (by omega) (by omega) (by omega) ((by first | exact HDI_y h63 (by omega) h86 (by omega) (by omega) (by omega) (by omega) | exact HDI_n h63 (by omega) h86 (by omega) (by omega) (by omega) (by omega))) ((by omega)) (h85)
          · refine En_Ps 2 (pc' := 62) (lv' := [(4, .int ((y48 + Int32.ofInt 1))), (5, .int z82), (0, .ref 159), (1, .int a), (2, .int y46), (3, .int y47)]) (st' := []) rfl ?_
            refine En_lv1 (addI rfl (by decide : (Int32.ofInt 1).toInt = 1) (by omega) (by omega)) (fun z90 h91 => ?_)
            refine En_Ps 1 (pc' := 26) (lv' := [(4, .int z90), (5, .int z82), (0, .ref 159), (1, .int a), (2, .int y46), (3, .int y47)]) (st' := []) rfl ?_
            refine En_lv (lv := [(0, .ref 159), (1, .int a), (2, .int y46), (3, .int y47), (4, .int z90)]) ⟨rfl, rfl, rfl, rfl, rfl, trivial⟩ ?_
            exact ih26 σ78 y46 y47 z90 h79 h84 ((h80 _ _ (inWa (by decide +kernel : TG 160 = 36) (by decide +kernel))).trans h52) ((h80 _ _ (inWa (by decide +kernel : TG 160 = 36) (by decide +kernel))).trans h53) ((h80 _ _ (inWa (by decide +kernel : TG 160 = 36) (by decide +kernel))).trans h54) (by omega) (by omega) (by omega) (by omega) (by omega) (by omega) (by omega) (by omega) ((by first | exact HDI_y h63 (by omega) h86 (by omega) (by omega) (by omega) (by omega) | exact HDI_n h63 (by omega) h86 (by omega) (by omega) (by omega) (by omega))) ((by omega)) (h85)
    have := (by decide : (Int32.ofInt (-1)).toInt = -1)
    have := (by decide : (Int32.ofInt 0).toInt = 0)
    refine En_lv (lv := [(0, .ref 159), (1, .int a), (2, .int z42), (3, .int ((Int32.ofInt (-1)))), (4, .int ((Int32.ofInt 0)))]) ⟨rfl, rfl, rfl, rfl, rfl, trivial⟩ ?_
    exact key26 (Int.toNat (16) + 1) σ26 z42 ((Int32.ofInt (-1))) ((Int32.ofInt 0)) h27 h34 ((h28 _ _ (inWa (by decide +kernel : TG 160 = 36) (by decide +kernel))).trans h_nd) ((h28 _ _ (inWa (by decide +kernel : TG 160 = 36) (by decide +kernel))).trans h10) ((h28 _ _ (inWa (by decide +kernel : TG 160 = 36) (by decide +kernel))).trans h14) (by omega) (by omega) (by omega) (by omega) (by omega) (by omega) (by omega) (by omega) (HDI_0 (by omega) (by omega) h44) ((by have := pI_pos (wf σ0 0); omega)) (h45)
  · refine En_Ps 1 (pc' := 10) (lv' := [(0, .ref 159), (1, .int a)]) (st' := [.int (((Int8.ofInt (-2)).toInt32))]) rfl ?_
    refine En_top (by decide : ((Int8.ofInt (-2)).toInt32).toInt = -2) (fun z92 h93 => ?_)
    exact En_ret (v := some (.int z92)) rfl rfl rfl ⟨hσ0, hF0, z92, rfl, ⟨by omega, by omega, fun _ => by omega, fun _ => by omega, fun _ => by omega, hnR_n (fun ⟨q1, q2⟩ => by omega) (by omega)⟩⟩
/-- DoorSchoolModel.help(I)I -/
abbrev P_243x (σ0 : SG) (a : Int32) : PO := fun v σ => WT σ ∧ Fr [(35, 18), (35, 21), (42, 0), (43, 0), (44, 0), (45, 0), (46, 0)] σ0 σ ∧ ∃ ret : Int32, v = some (.int ret) ∧ -ret.toInt - 2 ≤ 0 ∧ ret.toInt - 49 ≤ 0 ∧ ret.toInt = hlR (wf σ0) a.toInt
set_option maxRecDepth 10000 in
set_option maxHeartbeats 4000000 in
theorem c_243x (σ0 : SG) (hσ0 : WT σ0) (a : Int32) (hq : QX (wf σ0)) : En 6 136 none mr_243 (P_243x σ0 a) 0 [(0, .ref 159), (1, .int a)] [] σ0 := by
  have hF0 : Fr [(35, 18), (35, 21), (42, 0), (43, 0), (44, 0), (45, 0), (46, 0)] σ0 σ0 := Fr_rfl
  refine En_Ps 2 (pc' := 2) (lv' := [(0, .ref 159), (1, .int a)]) (st' := [.int a, .ref 159]) rfl ?_
  obtain ⟨z2, h1, h3, h4⟩ := WT_peekI hσ0 (by decide +kernel : TG 160 = 36) (by decide +kernel : FT 36 (2 : Int).toNat = (0, 0, 4)) (by decide +kernel)
  refine En_callV rfl rfl rfl rfl rfl rfl rfl rfl (by decide +kernel : TG 159 = 35) (by decide +kernel) rfl (c_254 σ0 hσ0 a z2 h1) (by decide) (by decide) (fun v6 σ7 h5 => ?_)
  obtain ⟨h8, h9, z11, rfl, h10⟩ := h5
  obtain rfl : σ0 = σ7 := Fr_nil h9
  have w12 : wf σ0 (2) = z2.toInt := ci_at h1 (by omega)
  refine En_iNe _ rfl rfl (fun h13 => ?_) (fun h13 => ?_)
  · obtain ⟨z15, h14, h16, h17⟩ := WT_peekI hσ0 (by decide +kernel : TG 160 = 36) (by decide +kernel : FT 36 (0 : Int).toNat = (0, 0, 4)) (by decide +kernel)
    obtain ⟨z19, h18, h20, h21⟩ := WT_peekI hσ0 (by decide +kernel : TG 160 = 36) (by decide +kernel : FT 36 (7 : Int).toNat = (0, 0, 1600)) (by decide +kernel)
    have w22 : wf σ0 (0) = z15.toInt := ci_at h14 (by omega)
    have w23 : wf σ0 (7) = z19.toInt := ci_at h18 (by omega)
    have h24 : 1 ≤ z19.toInt := by have e9 := hq (by omega); omega
    have h25 := pI_rng (s := z15.toInt) (by omega) (by omega)
    have h26 := (kI_val z19.toInt z15.toInt).2 (by omega)
    have h27 : pI (wf σ0 0) = pI (z15.toInt) := by rw [w22]
    refine En_Ps 3 (pc' := 14) (lv' := [(0, .ref 159), (1, .int a)]) (st' := [.int a, .ref 159, .ref 159]) rfl ?_
    refine En_callV rfl rfl rfl rfl rfl rfl rfl rfl (by decide +kernel : TG 159 = 35) (by decide +kernel) rfl (c_213x σ0 hσ0 a (geI rfl (by omega)) (leI rfl (by omega)) z15 h14 z19 h18 (by omega)) (by decide) (by decide) (fun v29 σ30 h28 => ?_)
    obtain ⟨h31, h32, z34, h35, z36, rfl, h33⟩ := h28
    have h37 := h33.2.2.2.2.2.2.2.2.1
    have h38 := Fr_trans hF0 h32 (by decide +kernel)
    have h39 : wf σ30 = wf σ0 := wf_fr h32 (by decide +kernel)
    refine En_callV rfl rfl rfl rfl rfl rfl rfl rfl (by decide +kernel : TG 159 = 35) (by decide +kernel) rfl (c_283x σ30 h31 z36 (geI rfl (by omega)) (leI rfl (by omega))) (by decide) (by decide) (fun v41 σ42 h40 => ?_)
    obtain ⟨h43, h44, z46, rfl, h45⟩ := h40
    have h47 := h45.2.2
    obtain rfl : σ30 = σ42 := Fr_nil h44
    have h48 : z46.toInt = mkN (wf σ0) (DDw (wf σ0) a.toInt) := by rw [← h37, ← h39]; exact h47
    refine En_Ps 5 (pc' := 26) (lv' := [(4, .int ((Int32.ofInt 0))), (3, .int ((Int32.ofInt (-1)))), (2, .int z46), (0, .ref 159), (1, .int a)]) (st' := []) rfl ?_
    have key26 : ∀ (n26 : Nat) (σ52 : SG) (y49 : Int32) (y50 : Int32) (y51 : Int32), WT σ52 → Fr [(35, 18), (35, 21), (42, 0), (43, 0), (44, 0), (45, 0), (46, 0)] σ0 σ52 → (σ52 160)[(2 : Int).toNat]? = some (.int z2) → (σ52 160)[(0 : Int).toNat]? = some (.int z15) → (σ52 160)[(7 : Int).toNat]? = some (.int z19) → 0 ≤ y49.toInt → y49.toInt ≤ 13 → (-1) ≤ y50.toInt → y50.toInt ≤ 50 → 0 ≤ y51.toInt → y51.toInt ≤ 50 → y50.toInt - y51.toInt + 1 ≤ 0 → -y51.toInt + 50 < (n26 : Int) → HLI (wf σ0) a.toInt y51.toInt y50.toInt (y49.toInt - z46.toInt) → y51.toInt ≤ 2 * pI (wf σ0 0) → wf σ52 = wf σ0 → En 6 136 none mr_243 (P_243x σ0 a) 26 [(0, .ref 159), (1, .int a), (2, .int y49), (3, .int y50), (4, .int y51)] [] σ52 := by
      intro n26
      induction n26 with
      | zero =>
        intro σ52 y49 y50 y51 h53 h54 h55 h56 h57 h58 h59 h60 h61 h62 h63 h64 h65 h66 h67 h68
        exfalso; omega
      | succ n26 ih26 =>
        intro σ52 y49 y50 y51 h53 h54 h55 h56 h57 h58 h59 h60 h61 h62 h63 h64 h65 h66 h67 h68
        refine En_Ps 3 (pc' := 30) (lv' := [(0, .ref 159), (1, .int a), (2, .int y49), (3, .int y50), (4, .int y51)]) (st' := [.ref 159, .int ((Int32.ofInt 2)), .int y51]) rfl ?_
        refine En_callV rfl rfl rfl rfl rfl rfl rfl rfl (by decide +kernel : TG 159 = 35) (by decide +kernel) rfl (c_269 σ52 h53 z15 h56 z19 h57) (by decide) (by decide) (fun v70 σ71 h69 => ?_)
        obtain ⟨h72, h73, z75, rfl, h74⟩ := h69
        have h76 := h74.2.2
        obtain rfl : σ52 = σ71 := Fr_nil h73
        have h77 := h76
        refine En_Ps 1 (pc' := 34) (lv' := [(0, .ref 159), (1, .int a), (2, .int y49), (3, .int y50), (4, .int y51)]) (st' := [.int ((((Int32.ofInt 2)) * z75)), .int y51]) rfl ?_
        refine En_top (mulI (by decide : (Int32.ofInt 2).toInt = 2) rfl (Z := 2 * z75.toInt) (by omega) (by omega) (by omega)) (fun z78 h79 => ?_)
        refine En_icGe _ rfl rfl rfl (fun h80 => ?_) (fun h80 => ?_)
        · refine En_Ps 1 (pc' := 78) (lv' := [(0, .ref 159), (1, .int a), (2, .int y49), (3, .int y50), (4, .int y51)]) (st' := [.int y50]) rfl ?_
          exact En_ret (v := some (.int y50)) rfl rfl rfl ⟨h53, h54, y50, rfl, ⟨by omega, by omega, hlR_y ⟨by omega, by omega⟩ h66 (by omega) (by omega)⟩⟩
        · refine En_Ps 5 (pc' := 43) (lv' := [(0, .ref 159), (1, .int a), (2, .int y49), (3, .int y50), (4, .int y51)]) (st' := [.int ((Int32.ofInt 2)), .int y51, .int a, .ref 159, .ref 159]) rfl ?_
          refine En_idiv (c := 2) rfl rfl (by decide : (Int32.ofInt 2).toInt = 2) (by omega) (by decide) (fun z81 h82 => ?_)
          refine En_Ps 2 (pc' := 47) (lv' := [(0, .ref 159), (1, .int a), (2, .int y49), (3, .int y50), (4, .int y51)]) (st' := [.int ((Int32.ofInt 2)), .int y51, .int z81, .int a, .ref 159, .ref 159]) rfl ?_
          refine En_irem (c := 2) rfl rfl (by decide : (Int32.ofInt 2).toInt = 2) (by omega) (by decide) (fun z83 h84 => ?_)
          refine En_callV rfl rfl rfl rfl rfl rfl rfl rfl (by decide +kernel : TG 159 = 35) (by decide +kernel) rfl (c_214x σ52 h53 a z81 z83 (geI rfl (by omega)) (leI rfl (by omega)) (geI rfl (by omega)) (leI rfl (by omega)) (geI rfl (by omega)) (leI rfl (by omega)) z15 h56 z19 h57 (by omega)) (by decide) (by decide) (fun v86 σ87 h85 => ?_)
          obtain ⟨h88, h89, z91, rfl, h90⟩ := h85
          have h92 := h90.2.2
          have h93 := Fr_trans h54 h89 (by decide +kernel)
          have h94 : wf σ87 = wf σ0 := (wf_fr h89 (by decide +kernel)).trans h68
          have h95 : z91.toInt = DDx (wf σ0) a.toInt z81.toInt z83.toInt := by rw [← h68]; exact h92
          refine En_callV rfl rfl rfl rfl rfl rfl rfl rfl (by decide +kernel : TG 159 = 35) (by decide +kernel) rfl (c_283x σ87 h88 z91 (geI rfl (by omega)) (leI rfl (by omega))) (by decide) (by decide) (fun v97 σ98 h96 => ?_)
          obtain ⟨h99, h100, z102, rfl, h101⟩ := h96
          have h103 := h101.2.2
          obtain rfl : σ87 = σ98 := Fr_nil h100
          have h104 : z102.toInt - z46.toInt = gnN (wf σ0) a.toInt z81.toInt z83.toInt := gnN_of rfl h48 h95 (by rw [← h94]; exact h103) rfl
          refine En_Ps 3 (pc' := 59) (lv' := [(5, .int z102), (0, .ref 159), (1, .int a), (2, .int y49), (3, .int y50), (4, .int y51)]) (st' := [.int y49, .int z102]) rfl ?_
          refine En_icGt _ rfl rfl rfl (fun h105 => ?_) (fun h105 => ?_)
          · refine En_Ps 5 (pc' := 74) (lv' := [(4, .int ((y51 + Int32.ofInt 1))), (3, .int y51), (2, .int z102), (5, .int z102), (0, .ref 159), (1, .int a)]) (st' := []) rfl ?_
            refine En_lv1 (addI rfl (by decide : (Int32.ofInt 1).toInt = 1) (by omega) (by omega)) (fun z106 h107 => ?_)
            refine En_Ps 1 (pc' := 26) (lv' := [(4, .int z106), (3, .int y51), (2, .int z102), (5, .int z102), (0, .ref 159), (1, .int a)]) (st' := []) rfl ?_
            refine En_lv (lv := [(0, .ref 159), (1, .int a), (2, .int z102), (3, .int y51), (4, .int z106)]) ⟨rfl, rfl, rfl, rfl, rfl, trivial⟩ ?_
            exact ih26 σ87 z102 y51 z106 h88 h93 ((h89 _ _ (inWa (by decide +kernel : TG 160 = 36) (by decide +kernel))).trans h55) ((h89 _ _ (inWa (by decide +kernel : TG 160 = 36) (by decide +kernel))).trans h56) ((h89 _ _ (inWa (by decide +kernel : TG 160 = 36) (by decide +kernel))).trans h57) (by omega) (by omega) (by omega) (by omega) (by omega) (by omega) (by omega) (by omega) ((by first | exact HLI_y h66 (by omega) (q := z81.toInt) (v := z83.toInt) (by omega) (by omega) h104 (by omega) (by omega) (by omega) (by omega) | exact HLI_n h66 (by omega) (q := z81.toInt) (v := z83.toInt) (by omega) (by omega) h104 (by omega) (by omega) (by omega) (by omega))) ((by omega)) (h94)
          · refine En_Ps 2 (pc' := 74) (lv' := [(4, .int ((y51 + Int32.ofInt 1))), (5, .int z102), (0, .ref 159), (1, .int a), (2, .int y49), (3, .int y50)]) (st' := []) rfl ?_
            refine En_lv1 (addI rfl (by decide : (Int32.ofInt 1).toInt = 1) (by omega) (by omega)) (fun z108 h109 => ?_)
            refine En_Ps 1 (pc' := 26) (lv' := [(4, .int z108), (5, .int z102), (0, .ref 159), (1, .int a), (2, .int y49), (3, .int y50)]) (st' := []) rfl ?_
            refine En_lv (lv := [(0, .ref 159), (1, .int a), (2, .int y49), (3, .int y50), (4, .int z108)]) ⟨rfl, rfl, rfl, rfl, rfl, trivial⟩ ?_
            exact ih26 σ87 y49 y50 z108 h88 h93 ((h89 _ _ (inWa (by decide +kernel : TG 160 = 36) (by decide +kernel))).trans h55) ((h89 _ _ (inWa (by decide +kernel : TG 160 = 36) (by decide +kernel))).trans h56) ((h89 _ _ (inWa (by decide +kernel : TG 160 = 36) (by decide +kernel))).trans h57) (by omega) (by omega) (by omega) (by omega) (by omega) (by omega) (by omega) (by omega) ((by first | exact HLI_y h66 (by omega) (q := z81.toInt) (v := z83.toInt) (by omega) (by omega) h104 (by omega) (by omega) (by omega) (by omega) | exact HLI_n h66 (by omega) (q := z81.toInt) (v := z83.toInt) (by omega) (by omega) h104 (by omega) (by omega) (by omega) (by omega))) ((by omega)) (h94)
    have := (by decide : (Int32.ofInt (-1)).toInt = -1)
    have := (by decide : (Int32.ofInt 0).toInt = 0)
    refine En_lv (lv := [(0, .ref 159), (1, .int a), (2, .int z46), (3, .int ((Int32.ofInt (-1)))), (4, .int ((Int32.ofInt 0)))]) ⟨rfl, rfl, rfl, rfl, rfl, trivial⟩ ?_
    exact key26 (Int.toNat (50) + 1) σ30 z46 ((Int32.ofInt (-1))) ((Int32.ofInt 0)) h31 h38 ((h32 _ _ (inWa (by decide +kernel : TG 160 = 36) (by decide +kernel))).trans h1) ((h32 _ _ (inWa (by decide +kernel : TG 160 = 36) (by decide +kernel))).trans h14) ((h32 _ _ (inWa (by decide +kernel : TG 160 = 36) (by decide +kernel))).trans h18) (by omega) (by omega) (by omega) (by omega) (by omega) (by omega) (by omega) (by omega) (HLI_0 (by omega) (by omega) (by omega)) ((by have := pI_pos (wf σ0 0); omega)) (h39)
  · refine En_Ps 1 (pc' := 10) (lv' := [(0, .ref 159), (1, .int a)]) (st' := [.int (((Int8.ofInt (-2)).toInt32))]) rfl ?_
    refine En_top (by decide : ((Int8.ofInt (-2)).toInt32).toInt = -2) (fun z110 h111 => ?_)
    exact En_ret (v := some (.int z110)) rfl rfl rfl ⟨hσ0, hF0, z110, rfl, ⟨by omega, by omega, hlR_n (fun ⟨q1, q2⟩ => by omega) (by omega)⟩⟩
/-- DoorSchoolModel.house(II)I -/
abbrev P_245x (σ0 : SG) (a : Int32) (b : Int32) : PO := fun v σ => WT σ ∧ Fr [] σ0 σ ∧ ∃ ret : Int32, v = some (.int ret) ∧ -ret.toInt - 2 ≤ 0 ∧ ret.toInt - 16 ≤ 0 ∧ ret.toInt = hsR (wf σ0) a.toInt b.toInt
set_option maxRecDepth 10000 in
set_option maxHeartbeats 4000000 in
theorem c_245x (σ0 : SG) (hσ0 : WT σ0) (a : Int32) (b : Int32) : En 3 64 none mr_245 (P_245x σ0 a b) 0 [(0, .ref 159), (1, .int a), (2, .int b)] [] σ0 := by
  have hF0 : Fr [] σ0 σ0 := Fr_rfl
  refine En_Ps 1 (pc' := 1) (lv' := [(0, .ref 159), (1, .int a), (2, .int b)]) (st' := [.ref 159]) rfl ?_
  obtain ⟨z2, h1, h3, h4⟩ := WT_peekI hσ0 (by decide +kernel : TG 160 = 36) (by decide +kernel : FT 36 (7 : Int).toNat = (0, 0, 1600)) (by decide +kernel)
  refine En_callV rfl rfl rfl rfl rfl rfl rfl rfl (by decide +kernel : TG 159 = 35) (by decide +kernel) rfl (c_264 σ0 hσ0 z2 h1) (by decide) (by decide) (fun v6 σ7 h5 => ?_)
  obtain ⟨h8, h9, z11, rfl, h10⟩ := h5
  obtain rfl : σ0 = σ7 := Fr_nil h9
  have w12 : wf σ0 (7) = z2.toInt := ci_at h1 (by omega)
  refine En_iEq _ rfl rfl (fun h13 => ?_) (fun h13 => ?_)
  · refine En_Ps 1 (pc' := 34) (lv' := [(0, .ref 159), (1, .int a), (2, .int b)]) (st' := [.int (((Int8.ofInt (-2)).toInt32))]) rfl ?_
    refine En_top (by decide : ((Int8.ofInt (-2)).toInt32).toInt = -2) (fun z14 h15 => ?_)
    exact En_ret (v := some (.int z14)) rfl rfl rfl ⟨hσ0, hF0, z14, rfl, ⟨by omega, by omega, hsR_n (fun ⟨q1, q2, q3, q4⟩ => by omega) (by omega)⟩⟩
  · refine En_Ps 2 (pc' := 9) (lv' := [(0, .ref 159), (1, .int a), (2, .int b)]) (st' := [.int ((Int32.ofInt (-1))), .int a]) rfl ?_
    refine En_icEq _ rfl (by decide : (Int32.ofInt (-1)).toInt = -1) rfl (fun h16 => ?_) (fun h16 => ?_)
    · refine En_Ps 4 (pc' := 26) (lv' := [(0, .ref 159), (1, .int a), (2, .int b)]) (st' := [.long ((2 : Int64)), .long ((Int64.ofNat 0)), .long b.toInt64]) rfl ?_
      have : b.toInt64.toInt = b.toInt := (i2lI rfl)
      have := (by decide : ((Int64.ofNat 0)).toInt = 0)
      have := (by decide : ((2 : Int64)).toInt = 2)
      refine En_callS rfl rfl rfl rfl rfl rfl rfl rfl rfl (c_249 σ0 hσ0 b.toInt64 ((Int64.ofNat 0)) ((2 : Int64))) (by decide) (by decide) (fun v18 σ19 h17 => ?_)
      obtain ⟨h20, h21, z23, rfl, h22⟩ := h17
      obtain rfl : σ0 = σ19 := Fr_nil h21
      refine En_iNe _ rfl rfl (fun h24 => ?_) (fun h24 => ?_)
      · obtain ⟨z26, h25, h27, h28⟩ := WT_peekI hσ0 (by decide +kernel : TG 160 = 36) (by decide +kernel : FT 36 (0 : Int).toNat = (0, 0, 4)) (by decide +kernel)
        obtain ⟨z30, h29, h31, h32⟩ := WT_peekI hσ0 (by decide +kernel : TG 160 = 36) (by decide +kernel : FT 36 (4 : Int).toNat = (0, 0, 4)) (by decide +kernel)
        have w33 : wf σ0 (0) = z26.toInt := ci_at h25 (by omega)
        have w34 : wf σ0 (4) = z30.toInt := ci_at h29 (by omega)
        have h35 := kI_val z2.toInt z26.toInt
        have h36 : kI z2.toInt z26.toInt = pI (wf σ0 0) := by rw [w33]; exact (kI_val z2.toInt z26.toInt).2 (by omega)
        refine En_Ps 2 (pc' := 37) (lv' := [(0, .ref 159), (1, .int a), (2, .int b)]) (st' := [.int ((Int32.ofInt (-1))), .int a]) rfl ?_
        refine En_icNe _ rfl (by decide : (Int32.ofInt (-1)).toInt = -1) rfl (fun hx => by exfalso; omega) (fun h37 => ?_)
        refine En_Ps 5 (pc' := 55) (lv' := [(3, .int (((Int8.ofInt 8).toInt32))), (0, .ref 159), (1, .int a), (2, .int b)]) (st' := [.int ((Int32.ofInt 2)), .int b]) rfl ?_
        refine En_icGe _ rfl (by decide : (Int32.ofInt 2).toInt = 2) rfl (fun h38 => ?_) (fun h38 => ?_)
        · refine En_Ps 2 (pc' := 71) (lv' := [(3, .int (((Int8.ofInt 8).toInt32))), (0, .ref 159), (1, .int a), (2, .int b)]) (st' := [.ref 159, .ref 159]) rfl ?_
          refine En_getU (j := 1) (u := 160) (g' := 36) (q := 0) rfl rfl rfl (by decide +kernel : TG 159 = 35) (by decide +kernel) hσ0 (by decide +kernel) (by decide +kernel) (fun h39 => ?_)
          refine En_Ps 1 (pc' := 75) (lv' := [(3, .int (((Int8.ofInt 8).toInt32))), (0, .ref 159), (1, .int a), (2, .int b)]) (st' := [.int (((Int8.ofInt 8).toInt32)), .ref 160, .ref 159]) rfl ?_
          refine En_iald (l := 0) (u := 15) rfl (by decide : ((Int8.ofInt 8).toInt32).toInt = 8) (by decide +kernel : TG 160 = 36) (by decide +kernel) hσ0 (by omega) (lnI (by decide +kernel : LN _ = 226) (by omega)) (by decide +kernel) (fun z42 h41 h43 h44 => ?_)
          refine En_Ps 1 (pc' := 77) (lv' := [(3, .int (((Int8.ofInt 8).toInt32))), (0, .ref 159), (1, .int a), (2, .int b)]) (st' := [.ref 159, .int z42, .ref 159]) rfl ?_
          refine En_getK (j := 1) h39 rfl rfl rfl (by decide +kernel : TG 159 = 35) (by decide +kernel) ?_
          refine En_Ps 3 (pc' := 83) (lv' := [(3, .int (((Int8.ofInt 8).toInt32))), (0, .ref 159), (1, .int a), (2, .int b)]) (st' := [.int (((((Int8.ofInt 8).toInt32)) + ((Int32.ofInt 1)))), .ref 160, .int z42, .ref 159]) rfl ?_
          refine En_top (addI (by decide : ((Int8.ofInt 8).toInt32).toInt = 8) (by decide : (Int32.ofInt 1).toInt = 1) (by omega) (by omega)) (fun z45 h46 => ?_)
          refine En_iald (l := 0) (u := 15) rfl rfl (by decide +kernel : TG 160 = 36) (by decide +kernel) hσ0 (by omega) (lnI (by decide +kernel : LN _ = 226) (by omega)) (FTrow 36 9 1 1 (by decide +kernel) (by omega) (by omega) (by omega)) (fun z48 h47 h49 h50 => ?_)
          refine En_callV rfl rfl rfl rfl rfl rfl rfl rfl (by decide +kernel : TG 159 = 35) (by decide +kernel) rfl (c_212x σ0 hσ0 z42 z48 (geI rfl (by omega)) (leI rfl (by omega)) z26 h25 z2 h1) (by decide) (by decide) (fun v52 σ53 h51 => ?_)
          obtain ⟨h54, h55, z57, rfl, h56⟩ := h51
          have h58 := h56.2.2
          obtain rfl : σ0 = σ53 := Fr_nil h55
          refine En_callS rfl rfl rfl rfl rfl rfl rfl rfl rfl (c_203bx σ0 hσ0 z57 (geI rfl (by omega)) (leI rfl (by omega))) (by decide) (by decide) (fun v60 σ61 h59 => ?_)
          obtain ⟨h62, h63, z65, rfl, h64⟩ := h59
          have h66 := h64.2.2
          obtain rfl : σ0 = σ61 := Fr_nil h63
          have w67 : wf σ0 (8) = z42.toInt := ci_at h41 (by omega)
          have w68 : wf σ0 (0 + z45.toInt) = z48.toInt := ci_at h47 (by omega)
          exact En_ret (v := some (.int z65)) rfl rfl rfl ⟨hσ0, hF0, z65, rfl, ⟨by omega, by omega, hsR_2 ⟨by omega, by omega, by omega, by omega⟩ (by omega) (by first | exact (by rw [hsM_o (by omega), show (8 : Int) = 8 by omega]; exact w67.symm) | exact (by rw [hsM_h (by omega), show (146 + 2 * a.toInt : Int) = 8 by omega]; exact w67.symm)) (by first | exact (by rw [hsV_o (by omega), show (9 : Int) = 0 + z45.toInt by omega]; exact w68.symm) | exact (by rw [hsV_h (by omega), show (146 + 2 * a.toInt + 1 : Int) = 0 + z45.toInt by omega]; exact w68.symm)) h36 h58 h66⟩⟩
        · refine En_Ps 1 (pc' := 59) (lv' := [(3, .int (((Int8.ofInt 8).toInt32))), (0, .ref 159), (1, .int a), (2, .int b)]) (st' := [.ref 159]) rfl ?_
          refine En_getU (j := 1) (u := 160) (g' := 36) (q := 0) rfl rfl rfl (by decide +kernel : TG 159 = 35) (by decide +kernel) hσ0 (by decide +kernel) (by decide +kernel) (fun h69 => ?_)
          refine En_Ps 3 (pc' := 65) (lv' := [(3, .int (((Int8.ofInt 8).toInt32))), (0, .ref 159), (1, .int a), (2, .int b)]) (st' := [.int (((((Int8.ofInt 8).toInt32)) + b)), .ref 160]) rfl ?_
          refine En_top (addI (by decide : ((Int8.ofInt 8).toInt32).toInt = 8) rfl (by omega) (by omega)) (fun z71 h72 => ?_)
          refine En_iald (l := 0) (u := 15) rfl rfl (by decide +kernel : TG 160 = 36) (by decide +kernel) hσ0 (by omega) (lnI (by decide +kernel : LN _ = 226) (by omega)) (FTrow 36 8 1 2 (by decide +kernel) (by omega) (by omega) (by omega)) (fun z74 h73 h75 h76 => ?_)
          refine En_Ps 1 (pc' := 90) (lv' := [(3, .int (((Int8.ofInt 8).toInt32))), (0, .ref 159), (1, .int a), (2, .int b)]) (st' := [.int z74]) rfl ?_
          have w77 : wf σ0 (0 + z71.toInt) = z74.toInt := ci_at h73 (by omega)
          exact En_ret (v := some (.int z74)) rfl rfl rfl ⟨hσ0, hF0, z74, rfl, ⟨by omega, by omega, (by rcases (show b.toInt = 0 ∨ b.toInt = 1 by omega) with q9 | q9; exact hsR_0 ⟨by omega, by omega, by omega, by omega⟩ q9 (by first | exact (by rw [hsM_o (by omega), show (8 : Int) = 0 + z71.toInt by omega]; exact w77.symm) | exact (by rw [hsM_h (by omega), show (146 + 2 * a.toInt : Int) = 0 + z71.toInt by omega]; exact w77.symm)); exact hsR_1 ⟨by omega, by omega, by omega, by omega⟩ q9 (by first | exact (by rw [hsV_o (by omega), show (9 : Int) = 0 + z71.toInt by omega]; exact w77.symm) | exact (by rw [hsV_h (by omega), show (146 + 2 * a.toInt + 1 : Int) = 0 + z71.toInt by omega]; exact w77.symm)))⟩⟩
      · refine En_Ps 1 (pc' := 34) (lv' := [(0, .ref 159), (1, .int a), (2, .int b)]) (st' := [.int (((Int8.ofInt (-2)).toInt32))]) rfl ?_
        refine En_top (by decide : ((Int8.ofInt (-2)).toInt32).toInt = -2) (fun z78 h79 => ?_)
        exact En_ret (v := some (.int z78)) rfl rfl rfl ⟨hσ0, hF0, z78, rfl, ⟨by omega, by omega, hsR_n (fun ⟨q1, q2, q3, q4⟩ => by omega) (by omega)⟩⟩
    · refine En_Ps 2 (pc' := 14) (lv' := [(0, .ref 159), (1, .int a), (2, .int b)]) (st' := [.int a, .ref 159]) rfl ?_
      obtain ⟨z81, h80, h82, h83⟩ := WT_peekI hσ0 (by decide +kernel : TG 160 = 36) (by decide +kernel : FT 36 (4 : Int).toNat = (0, 0, 4)) (by decide +kernel)
      refine En_callV rfl rfl rfl rfl rfl rfl rfl rfl (by decide +kernel : TG 159 = 35) (by decide +kernel) rfl (c_258x σ0 hσ0 a z81 h80) (by decide) (by decide) (fun v85 σ86 h84 => ?_)
      obtain ⟨h87, h88, z90, rfl, h89⟩ := h84
      obtain rfl : σ0 = σ86 := Fr_nil h88
      have h91 := Imp_m h89.2.2.1
      have h92 := Imp_m h89.2.2.2.1
      have h93 := Imp_m h89.2.2.2.2.1
      have h94 := Imp_m h89.2.2.2.2.2
      have w95 : wf σ0 (4) = z81.toInt := ci_at h80 (by omega)
      refine En_iEq _ rfl rfl (fun h96 => ?_) (fun h96 => ?_)
      · have h97 := Imp_m h89.2.2.2.2.1 (by omega)
        refine En_Ps 1 (pc' := 34) (lv' := [(0, .ref 159), (1, .int a), (2, .int b)]) (st' := [.int (((Int8.ofInt (-2)).toInt32))]) rfl ?_
        refine En_top (by decide : ((Int8.ofInt (-2)).toInt32).toInt = -2) (fun z98 h99 => ?_)
        exact En_ret (v := some (.int z98)) rfl rfl rfl ⟨hσ0, hF0, z98, rfl, ⟨by omega, by omega, hsR_n (fun ⟨q1, q2, q3, q4⟩ => by omega) (by omega)⟩⟩
      · have h100 := Imp_m h89.2.2.1 (by omega)
        have h101 := Imp_m h89.2.2.2.1 (by omega)
        have h102 := Imp_m h89.2.2.2.2.2 (by omega)
        refine En_Ps 4 (pc' := 26) (lv' := [(0, .ref 159), (1, .int a), (2, .int b)]) (st' := [.long ((2 : Int64)), .long ((Int64.ofNat 0)), .long b.toInt64]) rfl ?_
        have : b.toInt64.toInt = b.toInt := (i2lI rfl)
        have := (by decide : ((Int64.ofNat 0)).toInt = 0)
        have := (by decide : ((2 : Int64)).toInt = 2)
        refine En_callS rfl rfl rfl rfl rfl rfl rfl rfl rfl (c_249 σ0 hσ0 b.toInt64 ((Int64.ofNat 0)) ((2 : Int64))) (by decide) (by decide) (fun v104 σ105 h103 => ?_)
        obtain ⟨h106, h107, z109, rfl, h108⟩ := h103
        obtain rfl : σ0 = σ105 := Fr_nil h107
        refine En_iNe _ rfl rfl (fun h110 => ?_) (fun h110 => ?_)
        · obtain ⟨z112, h111, h113, h114⟩ := WT_peekI hσ0 (by decide +kernel : TG 160 = 36) (by decide +kernel : FT 36 (0 : Int).toNat = (0, 0, 4)) (by decide +kernel)
          have w115 : wf σ0 (0) = z112.toInt := ci_at h111 (by omega)
          have h116 := kI_val z2.toInt z112.toInt
          have h117 : kI z2.toInt z112.toInt = pI (wf σ0 0) := by rw [w115]; exact (kI_val z2.toInt z112.toInt).2 (by omega)
          refine En_Ps 2 (pc' := 37) (lv' := [(0, .ref 159), (1, .int a), (2, .int b)]) (st' := [.int ((Int32.ofInt (-1))), .int a]) rfl ?_
          refine En_icNe _ rfl (by decide : (Int32.ofInt (-1)).toInt = -1) rfl (fun h118 => ?_) (fun hx => by exfalso; omega)
          refine En_Ps 4 (pc' := 51) (lv' := [(0, .ref 159), (1, .int a), (2, .int b)]) (st' := [.int ((((Int32.ofInt 2)) * a)), .int (((Int16.ofInt 146).toInt32))]) rfl ?_
          refine En_top (mulI (by decide : (Int32.ofInt 2).toInt = 2) rfl (Z := 2 * a.toInt) (by omega) (by omega) (by omega)) (fun z119 h120 => ?_)
          refine En_Ps 1 (pc' := 52) (lv' := [(0, .ref 159), (1, .int a), (2, .int b)]) (st' := [.int (((((Int16.ofInt 146).toInt32)) + z119))]) rfl ?_
          refine En_top (addI (by decide : ((Int16.ofInt 146).toInt32).toInt = 146) rfl (by omega) (by omega)) (fun z121 h122 => ?_)
          refine En_Ps 3 (pc' := 55) (lv' := [(3, .int z121), (0, .ref 159), (1, .int a), (2, .int b)]) (st' := [.int ((Int32.ofInt 2)), .int b]) rfl ?_
          refine En_icGe _ rfl (by decide : (Int32.ofInt 2).toInt = 2) rfl (fun h123 => ?_) (fun h123 => ?_)
          · refine En_Ps 2 (pc' := 71) (lv' := [(3, .int z121), (0, .ref 159), (1, .int a), (2, .int b)]) (st' := [.ref 159, .ref 159]) rfl ?_
            refine En_getU (j := 1) (u := 160) (g' := 36) (q := 0) rfl rfl rfl (by decide +kernel : TG 159 = 35) (by decide +kernel) hσ0 (by decide +kernel) (by decide +kernel) (fun h124 => ?_)
            refine En_Ps 1 (pc' := 75) (lv' := [(3, .int z121), (0, .ref 159), (1, .int a), (2, .int b)]) (st' := [.int z121, .ref 160, .ref 159]) rfl ?_
            refine En_iald (l := 0) (u := 15) rfl rfl (by decide +kernel : TG 160 = 36) (by decide +kernel) hσ0 (by omega) (lnI (by decide +kernel : LN _ = 226) (by omega)) (FTrow 36 146 2 4 (by decide +kernel) (by omega) (by omega) (by omega)) (fun z127 h126 h128 h129 => ?_)
            refine En_Ps 1 (pc' := 77) (lv' := [(3, .int z121), (0, .ref 159), (1, .int a), (2, .int b)]) (st' := [.ref 159, .int z127, .ref 159]) rfl ?_
            refine En_getK (j := 1) h124 rfl rfl rfl (by decide +kernel : TG 159 = 35) (by decide +kernel) ?_
            refine En_Ps 3 (pc' := 83) (lv' := [(3, .int z121), (0, .ref 159), (1, .int a), (2, .int b)]) (st' := [.int ((z121 + ((Int32.ofInt 1)))), .ref 160, .int z127, .ref 159]) rfl ?_
            refine En_top (addI rfl (by decide : (Int32.ofInt 1).toInt = 1) (by omega) (by omega)) (fun z130 h131 => ?_)
            refine En_iald (l := 0) (u := 15) rfl rfl (by decide +kernel : TG 160 = 36) (by decide +kernel) hσ0 (by omega) (lnI (by decide +kernel : LN _ = 226) (by omega)) (FTrow 36 147 2 4 (by decide +kernel) (by omega) (by omega) (by omega)) (fun z133 h132 h134 h135 => ?_)
            refine En_callV rfl rfl rfl rfl rfl rfl rfl rfl (by decide +kernel : TG 159 = 35) (by decide +kernel) rfl (c_212x σ0 hσ0 z127 z133 (geI rfl (by omega)) (leI rfl (by omega)) z112 h111 z2 h1) (by decide) (by decide) (fun v137 σ138 h136 => ?_)
            obtain ⟨h139, h140, z142, rfl, h141⟩ := h136
            have h143 := h141.2.2
            obtain rfl : σ0 = σ138 := Fr_nil h140
            refine En_callS rfl rfl rfl rfl rfl rfl rfl rfl rfl (c_203bx σ0 hσ0 z142 (geI rfl (by omega)) (leI rfl (by omega))) (by decide) (by decide) (fun v145 σ146 h144 => ?_)
            obtain ⟨h147, h148, z150, rfl, h149⟩ := h144
            have h151 := h149.2.2
            obtain rfl : σ0 = σ146 := Fr_nil h148
            have w152 : wf σ0 (0 + z121.toInt) = z127.toInt := ci_at h126 (by omega)
            have w153 : wf σ0 (0 + z130.toInt) = z133.toInt := ci_at h132 (by omega)
            exact En_ret (v := some (.int z150)) rfl rfl rfl ⟨hσ0, hF0, z150, rfl, ⟨by omega, by omega, hsR_2 ⟨by omega, by omega, by omega, by omega⟩ (by omega) (by first | exact (by rw [hsM_o (by omega), show (8 : Int) = 0 + z121.toInt by omega]; exact w152.symm) | exact (by rw [hsM_h (by omega), show (146 + 2 * a.toInt : Int) = 0 + z121.toInt by omega]; exact w152.symm)) (by first | exact (by rw [hsV_o (by omega), show (9 : Int) = 0 + z130.toInt by omega]; exact w153.symm) | exact (by rw [hsV_h (by omega), show (146 + 2 * a.toInt + 1 : Int) = 0 + z130.toInt by omega]; exact w153.symm)) h117 h143 h151⟩⟩
          · refine En_Ps 1 (pc' := 59) (lv' := [(3, .int z121), (0, .ref 159), (1, .int a), (2, .int b)]) (st' := [.ref 159]) rfl ?_
            refine En_getU (j := 1) (u := 160) (g' := 36) (q := 0) rfl rfl rfl (by decide +kernel : TG 159 = 35) (by decide +kernel) hσ0 (by decide +kernel) (by decide +kernel) (fun h154 => ?_)
            refine En_Ps 3 (pc' := 65) (lv' := [(3, .int z121), (0, .ref 159), (1, .int a), (2, .int b)]) (st' := [.int ((z121 + b)), .ref 160]) rfl ?_
            refine En_top (addI rfl rfl (by omega) (by omega)) (fun z156 h157 => ?_)
            refine En_iald (l := 0) (u := 15) rfl rfl (by decide +kernel : TG 160 = 36) (by decide +kernel) hσ0 (by omega) (lnI (by decide +kernel : LN _ = 226) (by omega)) (FTrow 36 146 1 8 (by decide +kernel) (by omega) (by omega) (by omega)) (fun z159 h158 h160 h161 => ?_)
            refine En_Ps 1 (pc' := 90) (lv' := [(3, .int z121), (0, .ref 159), (1, .int a), (2, .int b)]) (st' := [.int z159]) rfl ?_
            have w162 : wf σ0 (0 + z156.toInt) = z159.toInt := ci_at h158 (by omega)
            exact En_ret (v := some (.int z159)) rfl rfl rfl ⟨hσ0, hF0, z159, rfl, ⟨by omega, by omega, (by rcases (show b.toInt = 0 ∨ b.toInt = 1 by omega) with q9 | q9; exact hsR_0 ⟨by omega, by omega, by omega, by omega⟩ q9 (by first | exact (by rw [hsM_o (by omega), show (8 : Int) = 0 + z156.toInt by omega]; exact w162.symm) | exact (by rw [hsM_h (by omega), show (146 + 2 * a.toInt : Int) = 0 + z156.toInt by omega]; exact w162.symm)); exact hsR_1 ⟨by omega, by omega, by omega, by omega⟩ q9 (by first | exact (by rw [hsV_o (by omega), show (9 : Int) = 0 + z156.toInt by omega]; exact w162.symm) | exact (by rw [hsV_h (by omega), show (146 + 2 * a.toInt + 1 : Int) = 0 + z156.toInt by omega]; exact w162.symm)))⟩⟩
        · refine En_Ps 1 (pc' := 34) (lv' := [(0, .ref 159), (1, .int a), (2, .int b)]) (st' := [.int (((Int8.ofInt (-2)).toInt32))]) rfl ?_
          refine En_top (by decide : ((Int8.ofInt (-2)).toInt32).toInt = -2) (fun z163 h164 => ?_)
          exact En_ret (v := some (.int z163)) rfl rfl rfl ⟨hσ0, hF0, z163, rfl, ⟨by omega, by omega, hsR_n (fun ⟨q1, q2, q3, q4⟩ => by omega) (by omega)⟩⟩

