/-- DoorSchoolModel.told(II)I -/
abbrev P_324x (σ0 : SG) (a : Int32) (b : Int32) : PO := fun v σ => WT σ ∧ Fr [(35, 18), (42, 0), (43, 0), (44, 0)] σ0 σ ∧ ∃ ret : Int32, v = some (.int ret) ∧ -ret.toInt - 2 ≤ 0 ∧ ret.toInt - 15 ≤ 0 ∧ ret.toInt = tdR (wf σ0) a.toInt b.toInt
set_option maxRecDepth 10000 in
set_option maxHeartbeats 4000000 in
theorem c_324x (σ0 : SG) (hσ0 : WT σ0) (a : Int32) (b : Int32) : En 4 87 none mr_324 (P_324x σ0 a b) 0 [(0, .ref 159), (1, .int a), (2, .int b)] [] σ0 := by
  have hF0 : Fr [(35, 18), (42, 0), (43, 0), (44, 0)] σ0 σ0 := Fr_rfl
  refine En_Ps 2 (pc' := 2) (lv' := [(0, .ref 159), (1, .int a), (2, .int b)]) (st' := [.int a, .ref 159]) rfl ?_
  obtain ⟨z2, h1, h3, h4⟩ := WT_peekI hσ0 tgz_160 (by decide +kernel : FT 36 (0 : Int).toNat = (0, 0, 4)) (by decide +kernel)
  obtain ⟨z6, h5, h7, h8⟩ := WT_peekI hσ0 tgz_160 (by decide +kernel : FT 36 (7 : Int).toNat = (0, 0, 1600)) (by decide +kernel)
  refine En_callV rfl rfl rfl rfl rfl rfl rfl rfl tgz_159 (by decide +kernel) rfl (c_195x σ0 hσ0 a z2 h1 z6 h5) (by decide) (by decide) (fun v10 σ11 h9 => ?_)
  obtain ⟨h12, h13, z15, rfl, h14⟩ := h9
  have h16 := h14.2.2.2
  obtain rfl : σ0 = σ11 := Fr_nil h13
  have h17 := h16
  have w18 : wf σ0 (0) = z2.toInt := ci_at h1 (by omega)
  have w19 : wf σ0 (7) = z6.toInt := ci_at h5 (by omega)
  have h20 : pI (pI (wf σ0 0)) = pI (pI (z2.toInt)) := by rw [w18]
  refine En_iEq _ rfl rfl (fun h21 => ?_) (fun h21 => ?_)
  · refine En_Ps 1 (pc' := 20) (lv' := [(0, .ref 159), (1, .int a), (2, .int b)]) (st' := [.int (((Int8.ofInt (-2)).toInt32))]) rfl ?_
    refine En_top (by decide : ((Int8.ofInt (-2)).toInt32).toInt = -2) (fun z22 h23 => ?_)
    exact En_ret (v := some (.int z22)) rfl rfl rfl ⟨hσ0, hF0, z22, rfl, ⟨by omega, by omega, tdR_n (fun ⟨q1, q2, q3, q4, q5⟩ => by omega) (by omega)⟩⟩
  · have h24 := Imp_m h14.2.2.1 (by omega)
    refine En_Ps 4 (pc' := 12) (lv' := [(0, .ref 159), (1, .int a), (2, .int b)]) (st' := [.long ((Int64.ofNat 1)), .long ((Int64.ofNat 0)), .long b.toInt64]) rfl ?_
    have : b.toInt64.toInt = b.toInt := (i2lI rfl)
    have := (by decide : ((Int64.ofNat 0)).toInt = 0)
    have := (by decide : ((Int64.ofNat 1)).toInt = 1)
    refine En_callS rfl rfl rfl rfl rfl rfl rfl rfl rfl (c_249 σ0 hσ0 b.toInt64 ((Int64.ofNat 0)) ((Int64.ofNat 1))) (by decide) (by decide) (fun v26 σ27 h25 => ?_)
    obtain ⟨h28, h29, z31, rfl, h30⟩ := h25
    obtain rfl : σ0 = σ27 := Fr_nil h29
    refine En_iNe _ rfl rfl (fun h32 => ?_) (fun h32 => ?_)
    · obtain ⟨z34, h33, h35, h36⟩ := WT_peekI hσ0 tgz_160 (by decide +kernel : FT 36 (2 : Int).toNat = (0, 0, 4)) (by decide +kernel)
      have w37 : wf σ0 (2) = z34.toInt := ci_at h33 (by omega)
      have h38 : 1 ≤ z6.toInt := by omega
      have h39 := pI_rng (s := z2.toInt) (by omega) (by omega)
      have h40 := (kI_val z6.toInt z2.toInt).2 (by omega)
      refine En_Ps 1 (pc' := 22) (lv' := [(0, .ref 159), (1, .int a), (2, .int b)]) (st' := [.ref 159]) rfl ?_
      refine En_callV rfl rfl rfl rfl rfl rfl rfl rfl tgz_159 (by decide +kernel) rfl (c_272x σ0 hσ0 z2 h1 z6 h5) (by decide) (by decide) (fun v42 σ43 h41 => ?_)
      obtain ⟨h44, h45, z47, h48, rfl, h46⟩ := h41
      have h49 := h46.2.2
      have h50 := Fr_trans hF0 h45 (by decide +kernel)
      have h51 : wf σ43 = wf σ0 := wf_fr h45 (by decide +kernel)
      have h52 : z47.toInt = nR z2.toInt := h49.1 (by omega)
      have h53 := nR_rg (s := z2.toInt) (by omega) (by omega)
      refine En_Ps 2 (pc' := 27) (lv' := [(3, .int ((Int32.ofInt 0))), (0, .ref 159), (1, .int a), (2, .int b)]) (st' := []) rfl ?_
      have key27 : ∀ (n27 : Nat) (y54 : Int32), 0 ≤ y54.toInt → y54.toInt ≤ 81 → y54.toInt - z47.toInt ≤ 0 → z47.toInt - y54.toInt < (n27 : Int) → NOP (fun i => ci σ43 168 i = a.toInt) y54.toInt → En 4 87 none mr_324 (P_324x σ0 a b) 27 [(0, .ref 159), (1, .int a), (2, .int b), (3, .int y54)] [] σ43 := by
        intro n27
        induction n27 with
        | zero =>
          intro y54 h58 h59 h60 h61 h62
          exfalso; omega
        | succ n27 ih27 =>
          intro y54 h58 h59 h60 h61 h62
          refine En_Ps 2 (pc' := 29) (lv' := [(0, .ref 159), (1, .int a), (2, .int b), (3, .int y54)]) (st' := [.ref 159, .int y54]) rfl ?_
          refine En_getK (j := 18) h48 rfl rfl rfl tgz_159 (by decide +kernel) ?_
          refine En_icGe _ rfl rfl rfl (fun h63 => ?_) (fun h63 => ?_)
          · refine En_Ps 1 (pc' := 72) (lv' := [(0, .ref 159), (1, .int a), (2, .int b), (3, .int y54)]) (st' := [.int ((Int32.ofInt (-1)))]) rfl ?_
            refine En_top (by decide : (Int32.ofInt (-1)).toInt = -1) (fun z64 h65 => ?_)
            exact En_ret (v := some (.int z64)) rfl rfl rfl ⟨h44, h50, z64, rfl, ⟨by omega, by omega, tdR_y ⟨by omega, by omega, by omega, by omega, by omega⟩ (fr2_of (z := z47.toInt) (by rw [w18]; exact h52) (fun i i0 i1 => by rw [w18, ← h40]; exact TB_D h49.2 i i0 i1) (NOP_n h62 (by omega) (by omega) rfl)) (pkR_1 (by omega) (by omega))⟩⟩
          · refine En_Ps 1 (pc' := 36) (lv' := [(0, .ref 159), (1, .int a), (2, .int b), (3, .int y54)]) (st' := [.ref 159]) rfl ?_
            refine En_getU (j := 17) (u := 168) (g' := 44) (q := 0) rfl rfl rfl tgz_159 (by decide +kernel) h44 (by decide +kernel) (by decide +kernel) (fun h66 => ?_)
            refine En_Ps 1 (pc' := 40) (lv' := [(0, .ref 159), (1, .int a), (2, .int b), (3, .int y54)]) (st' := [.int y54, .ref 168]) rfl ?_
            refine En_iald (l := (-2147483648)) (u := 2147483647) rfl rfl tgz_168 (by decide +kernel) h44 (by omega) (lnI (by decide +kernel : LN _ = 81) (by omega)) (FTsgl (by decide +kernel)) (fun z69 h68 h70 h71 => ?_)
            have h72 : ci σ43 168 (y54.toInt) = z69.toInt := ci_at h68 rfl
            refine En_Ps 1 (pc' := 42) (lv' := [(0, .ref 159), (1, .int a), (2, .int b), (3, .int y54)]) (st' := [.int a, .int z69]) rfl ?_
            refine En_icNe _ rfl rfl rfl (fun h73 => ?_) (fun h73 => ?_)
            · refine En_Ps 1 (pc' := 68) (lv' := [(3, .int ((y54 + Int32.ofInt 1))), (0, .ref 159), (1, .int a), (2, .int b)]) (st' := []) rfl ?_
              refine En_lv1 (addI rfl (by decide : (Int32.ofInt 1).toInt = 1) (by omega) (by omega)) (fun z74 h75 => ?_)
              refine En_Ps 1 (pc' := 27) (lv' := [(3, .int z74), (0, .ref 159), (1, .int a), (2, .int b)]) (st' := []) rfl ?_
              refine En_lv (lv := [(0, .ref 159), (1, .int a), (2, .int b), (3, .int z74)]) ⟨rfl, rfl, rfl, rfl, trivial⟩ ?_
              exact ih27 z74 (by omega) (by omega) (by omega) (by omega) (NOP_s h62 (by show ¬ (ci _ 168 _ = a.toInt); rw [h72]; omega) (by omega))
            · refine En_Ps 1 (pc' := 46) (lv' := [(0, .ref 159), (1, .int a), (2, .int b), (3, .int y54)]) (st' := [.int b]) rfl ?_
              refine En_iNe _ rfl rfl (fun h76 => ?_) (fun h76 => ?_)
              · refine En_Ps 1 (pc' := 59) (lv' := [(0, .ref 159), (1, .int a), (2, .int b), (3, .int y54)]) (st' := [.ref 159]) rfl ?_
                refine En_getU (j := 16) (u := 167) (g' := 43) (q := 0) rfl rfl rfl tgz_159 (by decide +kernel) h44 (by decide +kernel) (by decide +kernel) (fun h77 => ?_)
                refine En_Ps 1 (pc' := 63) (lv' := [(0, .ref 159), (1, .int a), (2, .int b), (3, .int y54)]) (st' := [.int y54, .ref 167]) rfl ?_
                refine En_iald (l := 0) (u := 15) rfl rfl tgz_167 (by decide +kernel) h44 (by omega) (lnI (by decide +kernel : LN _ = 81) (by omega)) (FTsgl (by decide +kernel)) (fun z80 h79 h81 h82 => ?_)
                have h83 : ci σ43 167 (y54.toInt) = z80.toInt := ci_at h79 rfl
                exact En_ret (v := some (.int z80)) rfl rfl rfl ⟨h44, h50, z80, rfl, ⟨by omega, by omega, tdR_y ⟨by omega, by omega, by omega, by omega, by omega⟩ (fr2_of (z := z47.toInt) (by rw [w18]; exact h52) (fun i i0 i1 => by rw [w18, ← h40]; exact TB_D h49.2 i i0 i1) (NOP_y (r := y54.toInt) h62 (by omega) (by show ci _ 168 _ = a.toInt; rw [h72]; omega) (by omega) rfl)) (pkR_V (by omega) (by omega) (by omega) (by rw [w18, ← h40]; exact h83.symm.trans (TB_MV h49.2 (by omega) (by omega)).2))⟩⟩
              · refine En_Ps 1 (pc' := 50) (lv' := [(0, .ref 159), (1, .int a), (2, .int b), (3, .int y54)]) (st' := [.ref 159]) rfl ?_
                refine En_getU (j := 15) (u := 166) (g' := 42) (q := 0) rfl rfl rfl tgz_159 (by decide +kernel) h44 (by decide +kernel) (by decide +kernel) (fun h84 => ?_)
                refine En_Ps 1 (pc' := 54) (lv' := [(0, .ref 159), (1, .int a), (2, .int b), (3, .int y54)]) (st' := [.int y54, .ref 166]) rfl ?_
                refine En_iald (l := 0) (u := 15) rfl rfl tgz_166 (by decide +kernel) h44 (by omega) (lnI (by decide +kernel : LN _ = 81) (by omega)) (FTsgl (by decide +kernel)) (fun z87 h86 h88 h89 => ?_)
                have h90 : ci σ43 166 (y54.toInt) = z87.toInt := ci_at h86 rfl
                refine En_Ps 1 (pc' := 64) (lv' := [(0, .ref 159), (1, .int a), (2, .int b), (3, .int y54)]) (st' := [.int z87]) rfl ?_
                exact En_ret (v := some (.int z87)) rfl rfl rfl ⟨h44, h50, z87, rfl, ⟨by omega, by omega, tdR_y ⟨by omega, by omega, by omega, by omega, by omega⟩ (fr2_of (z := z47.toInt) (by rw [w18]; exact h52) (fun i i0 i1 => by rw [w18, ← h40]; exact TB_D h49.2 i i0 i1) (NOP_y (r := y54.toInt) h62 (by omega) (by show ci _ 168 _ = a.toInt; rw [h72]; omega) (by omega) rfl)) (pkR_M (by omega) (by omega) (by rw [w18, ← h40]; exact h90.symm.trans (TB_MV h49.2 (by omega) (by omega)).1))⟩⟩
      have := (by decide : (Int32.ofInt 0).toInt = 0)
      refine En_lv (lv := [(0, .ref 159), (1, .int a), (2, .int b), (3, .int ((Int32.ofInt 0)))]) ⟨rfl, rfl, rfl, rfl, trivial⟩ ?_
      exact key27 (Int.toNat (z47.toInt) + 1) ((Int32.ofInt 0)) (by omega) (by omega) (by omega) (by omega) (NOP_0 (by omega))
    · refine En_Ps 1 (pc' := 20) (lv' := [(0, .ref 159), (1, .int a), (2, .int b)]) (st' := [.int (((Int8.ofInt (-2)).toInt32))]) rfl ?_
      refine En_top (by decide : ((Int8.ofInt (-2)).toInt32).toInt = -2) (fun z91 h92 => ?_)
      exact En_ret (v := some (.int z91)) rfl rfl rfl ⟨hσ0, hF0, z91, rfl, ⟨by omega, by omega, tdR_n (fun ⟨q1, q2, q3, q4, q5⟩ => by omega) (by omega)⟩⟩
/-- DoorSchoolModel.train(III)I -/
abbrev P_325x (σ0 : SG) (a : Int32) (b : Int32) (c : Int32) : PO := fun v σ => WT σ ∧ Fr [(36, 0)] σ0 σ ∧ ∃ ret : Int32, v = some (.int ret) ∧ -ret.toInt - 2 ≤ 0 ∧ ret.toInt - 50 ≤ 0 ∧ (SAM (wf σ0) (wf σ) ∧ ret.toInt = trR (wf σ0) a.toInt b.toInt c.toInt ∧ (∀ i : Int, 0 ≤ i → i < 226 → wf σ i = trW (wf σ0) a.toInt b.toInt c.toInt i))
set_option maxRecDepth 10000 in
set_option maxHeartbeats 4000000 in
theorem c_325x (σ0 : SG) (hσ0 : WT σ0) (a : Int32) (b : Int32) (c : Int32) : En 2 46 none mr_325 (P_325x σ0 a b c) 0 [(0, .ref 159), (1, .int a), (2, .int b), (3, .int c)] [] σ0 := by
  have hF0 : Fr [(36, 0)] σ0 σ0 := Fr_rfl
  refine En_Ps 2 (pc' := 2) (lv' := [(0, .ref 159), (1, .int a), (2, .int b), (3, .int c)]) (st' := [.int a, .ref 159]) rfl ?_
  obtain ⟨z2, h1, h3, h4⟩ := WT_peekI hσ0 tgz_160 (by decide +kernel : FT 36 (2 : Int).toNat = (0, 0, 4)) (by decide +kernel)
  refine En_callV rfl rfl rfl rfl rfl rfl rfl rfl tgz_159 (by decide +kernel) rfl (c_254 σ0 hσ0 a z2 h1) (by decide) (by decide) (fun v6 σ7 h5 => ?_)
  obtain ⟨h8, h9, z11, rfl, h10⟩ := h5
  obtain rfl : σ0 = σ7 := Fr_nil h9
  have w12 : wf σ0 (2) = z2.toInt := ci_at h1 (by omega)
  refine En_iEq _ rfl rfl (fun h13 => ?_) (fun h13 => ?_)
  · refine En_Ps 1 (pc' := 42) (lv' := [(0, .ref 159), (1, .int a), (2, .int b), (3, .int c)]) (st' := [.int (((Int8.ofInt (-2)).toInt32))]) rfl ?_
    refine En_top (by decide : ((Int8.ofInt (-2)).toInt32).toInt = -2) (fun z14 h15 => ?_)
    exact En_ret (v := some (.int z14)) rfl rfl rfl ⟨hσ0, hF0, z14, rfl, ⟨by omega, by omega, (by have q0 : ¬ trC (wf σ0) a.toInt b.toInt c.toInt := (by omega); exact ⟨fun _ _ => rfl, trR_n q0 (by omega), trMn q0⟩)⟩⟩
  · refine En_Ps 4 (pc' := 12) (lv' := [(0, .ref 159), (1, .int a), (2, .int b), (3, .int c)]) (st' := [.long ((Int64.ofNat 1)), .long ((Int64.ofNat 0)), .long b.toInt64]) rfl ?_
    have : b.toInt64.toInt = b.toInt := (i2lI rfl)
    have := (by decide : ((Int64.ofNat 0)).toInt = 0)
    have := (by decide : ((Int64.ofNat 1)).toInt = 1)
    refine En_callS rfl rfl rfl rfl rfl rfl rfl rfl rfl (c_249 σ0 hσ0 b.toInt64 ((Int64.ofNat 0)) ((Int64.ofNat 1))) (by decide) (by decide) (fun v17 σ18 h16 => ?_)
    obtain ⟨h19, h20, z22, rfl, h21⟩ := h16
    obtain rfl : σ0 = σ18 := Fr_nil h20
    refine En_iEq _ rfl rfl (fun h23 => ?_) (fun h23 => ?_)
    · refine En_Ps 1 (pc' := 42) (lv' := [(0, .ref 159), (1, .int a), (2, .int b), (3, .int c)]) (st' := [.int (((Int8.ofInt (-2)).toInt32))]) rfl ?_
      refine En_top (by decide : ((Int8.ofInt (-2)).toInt32).toInt = -2) (fun z24 h25 => ?_)
      exact En_ret (v := some (.int z24)) rfl rfl rfl ⟨hσ0, hF0, z24, rfl, ⟨by omega, by omega, (by have q0 : ¬ trC (wf σ0) a.toInt b.toInt c.toInt := (by omega); exact ⟨fun _ _ => rfl, trR_n q0 (by omega), trMn q0⟩)⟩⟩
    · refine En_Ps 4 (pc' := 22) (lv' := [(0, .ref 159), (1, .int a), (2, .int b), (3, .int c)]) (st' := [.int b, .long ((Int64.ofNat 0)), .long c.toInt64]) rfl ?_
      refine En_iNe _ rfl rfl (fun h26 => ?_) (fun h26 => ?_)
      · refine En_Ps 1 (pc' := 34) (lv' := [(0, .ref 159), (1, .int a), (2, .int b), (3, .int c)]) (st' := [.long ((50 : Int64)), .long ((Int64.ofNat 0)), .long c.toInt64]) rfl ?_
        have : c.toInt64.toInt = c.toInt := (i2lI rfl)
        have := (by decide : ((Int64.ofNat 0)).toInt = 0)
        have := (by decide : ((50 : Int64)).toInt = 50)
        refine En_callS rfl rfl rfl rfl rfl rfl rfl rfl rfl (c_249 σ0 hσ0 c.toInt64 ((Int64.ofNat 0)) ((50 : Int64))) (by decide) (by decide) (fun v28 σ29 h27 => ?_)
        obtain ⟨h30, h31, z33, rfl, h32⟩ := h27
        obtain rfl : σ0 = σ29 := Fr_nil h31
        refine En_iNe _ rfl rfl (fun h34 => ?_) (fun h34 => ?_)
        · refine En_Ps 3 (pc' := 46) (lv' := [(0, .ref 159), (1, .int a), (2, .int b), (3, .int c)]) (st' := [.int b, .int a, .ref 159]) rfl ?_
          obtain ⟨z35, h36, h37, h38⟩ := WT_peekJ (J := (4 * a.toInt + b.toInt + 10)) (l := 0) (u := 50) hσ0 tgz_160 (by decide +kernel) (by omega) (lnI (by decide +kernel : LN _ = 226) (by omega)) (FTrow 36 11 4 4 (by decide +kernel) (by omega) (by omega) (by omega))
          refine En_callV rfl rfl rfl rfl rfl rfl rfl rfl tgz_159 (by decide +kernel) rfl (c_290b σ0 hσ0 a b (geI rfl (by omega)) (leI rfl (by omega)) (geI rfl (by omega)) (leI rfl (by omega)) z35 h36) (by decide) (by decide) (fun v40 σ41 h39 => ?_)
          obtain ⟨h42, h43, z45, rfl, h44⟩ := h39
          obtain rfl : σ0 = σ41 := Fr_nil h43
          refine En_Ps 2 (pc' := 52) (lv' := [(4, .int z45), (0, .ref 159), (1, .int a), (2, .int b), (3, .int c)]) (st' := [.ref 159]) rfl ?_
          refine En_getU (j := 1) (u := 160) (g' := 36) (q := 0) rfl rfl rfl tgz_159 (by decide +kernel) hσ0 (by decide +kernel) (by decide +kernel) (fun h46 => ?_)
          refine En_Ps 4 (pc' := 60) (lv' := [(4, .int z45), (0, .ref 159), (1, .int a), (2, .int b), (3, .int c)]) (st' := [.int ((((Int32.ofInt 4)) * a)), .int (((Int8.ofInt 10).toInt32)), .ref 160]) rfl ?_
          refine En_top (mulI (by decide : (Int32.ofInt 4).toInt = 4) rfl (Z := 4 * a.toInt) (by omega) (by omega) (by omega)) (fun z48 h49 => ?_)
          refine En_Ps 1 (pc' := 61) (lv' := [(4, .int z45), (0, .ref 159), (1, .int a), (2, .int b), (3, .int c)]) (st' := [.int (((((Int8.ofInt 10).toInt32)) + z48)), .ref 160]) rfl ?_
          refine En_top (addI (by decide : ((Int8.ofInt 10).toInt32).toInt = 10) rfl (by omega) (by omega)) (fun z50 h51 => ?_)
          refine En_Ps 2 (pc' := 63) (lv' := [(4, .int z45), (0, .ref 159), (1, .int a), (2, .int b), (3, .int c)]) (st' := [.int ((z50 + b)), .ref 160]) rfl ?_
          refine En_top (addI rfl rfl (by omega) (by omega)) (fun z52 h53 => ?_)
          refine En_Ps 1 (pc' := 64) (lv' := [(4, .int z45), (0, .ref 159), (1, .int a), (2, .int b), (3, .int c)]) (st' := [.int c, .int z52, .ref 160]) rfl ?_
          have w54 : wf σ0 (10 + 4 * a.toInt + b.toInt) = z35.toInt := ci_at h36 (by omega)
          refine En_iast (l := 0) (u := 50) rfl rfl tgz_160 (by decide +kernel) (by omega) (lnI (by decide +kernel : LN _ = 226) (by omega)) (FTrow 36 11 4 4 (by decide +kernel) (by omega) (by omega) (by omega)) (rngI rfl (by omega) (by omega)) hσ0 hF0 (by decide +kernel) (fun σ55 h56 h57 h58 h59 => ?_)
          refine En_Ps 1 (pc' := 67) (lv' := [(4, .int z45), (0, .ref 159), (1, .int a), (2, .int b), (3, .int c)]) (st' := [.int z45]) rfl ?_
          exact En_ret (v := some (.int z45)) rfl rfl rfl ⟨h56, h57, z45, rfl, ⟨by omega, by omega, ⟨fun i hi => (by rw [show wf _ i = ci _ 160 i from rfl, ci_st h58 h59 (by omega) i (by omega), if_neg (by omega)]; rfl), trR_y (i := 10 + 4 * a.toInt + b.toInt) (by omega) (by omega) (w54.trans (by omega)), trM (fun i hi => (by rw [show wf _ i = ci _ 160 i from rfl, ci_st h58 h59 (by omega) i hi]; rfl)) (by omega) (by omega) rfl⟩⟩⟩
        · refine En_Ps 1 (pc' := 42) (lv' := [(0, .ref 159), (1, .int a), (2, .int b), (3, .int c)]) (st' := [.int (((Int8.ofInt (-2)).toInt32))]) rfl ?_
          refine En_top (by decide : ((Int8.ofInt (-2)).toInt32).toInt = -2) (fun z60 h61 => ?_)
          exact En_ret (v := some (.int z60)) rfl rfl rfl ⟨hσ0, hF0, z60, rfl, ⟨by omega, by omega, (by have q0 : ¬ trC (wf σ0) a.toInt b.toInt c.toInt := (by omega); exact ⟨fun _ _ => rfl, trR_n q0 (by omega), trMn q0⟩)⟩⟩
      · refine En_Ps 2 (pc' := 34) (lv' := [(0, .ref 159), (1, .int a), (2, .int b), (3, .int c)]) (st' := [.long ((2 : Int64)), .long ((Int64.ofNat 0)), .long c.toInt64]) rfl ?_
        have : c.toInt64.toInt = c.toInt := (i2lI rfl)
        have := (by decide : ((Int64.ofNat 0)).toInt = 0)
        have := (by decide : ((2 : Int64)).toInt = 2)
        refine En_callS rfl rfl rfl rfl rfl rfl rfl rfl rfl (c_249 σ0 hσ0 c.toInt64 ((Int64.ofNat 0)) ((2 : Int64))) (by decide) (by decide) (fun v63 σ64 h62 => ?_)
        obtain ⟨h65, h66, z68, rfl, h67⟩ := h62
        obtain rfl : σ0 = σ64 := Fr_nil h66
        refine En_iNe _ rfl rfl (fun h69 => ?_) (fun h69 => ?_)
        · refine En_Ps 3 (pc' := 46) (lv' := [(0, .ref 159), (1, .int a), (2, .int b), (3, .int c)]) (st' := [.int b, .int a, .ref 159]) rfl ?_
          obtain ⟨z70, h71, h72, h73⟩ := WT_peekJ (J := (4 * a.toInt + b.toInt + 10)) (l := 0) (u := 2) hσ0 tgz_160 (by decide +kernel) (by omega) (lnI (by decide +kernel : LN _ = 226) (by omega)) (FTrow 36 10 4 4 (by decide +kernel) (by omega) (by omega) (by omega))
          refine En_callV rfl rfl rfl rfl rfl rfl rfl rfl tgz_159 (by decide +kernel) rfl (c_290a σ0 hσ0 a b (geI rfl (by omega)) (leI rfl (by omega)) (geI rfl (by omega)) (leI rfl (by omega)) z70 h71) (by decide) (by decide) (fun v75 σ76 h74 => ?_)
          obtain ⟨h77, h78, z80, rfl, h79⟩ := h74
          obtain rfl : σ0 = σ76 := Fr_nil h78
          refine En_Ps 2 (pc' := 52) (lv' := [(4, .int z80), (0, .ref 159), (1, .int a), (2, .int b), (3, .int c)]) (st' := [.ref 159]) rfl ?_
          refine En_getU (j := 1) (u := 160) (g' := 36) (q := 0) rfl rfl rfl tgz_159 (by decide +kernel) hσ0 (by decide +kernel) (by decide +kernel) (fun h81 => ?_)
          refine En_Ps 4 (pc' := 60) (lv' := [(4, .int z80), (0, .ref 159), (1, .int a), (2, .int b), (3, .int c)]) (st' := [.int ((((Int32.ofInt 4)) * a)), .int (((Int8.ofInt 10).toInt32)), .ref 160]) rfl ?_
          refine En_top (mulI (by decide : (Int32.ofInt 4).toInt = 4) rfl (Z := 4 * a.toInt) (by omega) (by omega) (by omega)) (fun z83 h84 => ?_)
          refine En_Ps 1 (pc' := 61) (lv' := [(4, .int z80), (0, .ref 159), (1, .int a), (2, .int b), (3, .int c)]) (st' := [.int (((((Int8.ofInt 10).toInt32)) + z83)), .ref 160]) rfl ?_
          refine En_top (addI (by decide : ((Int8.ofInt 10).toInt32).toInt = 10) rfl (by omega) (by omega)) (fun z85 h86 => ?_)
          refine En_Ps 2 (pc' := 63) (lv' := [(4, .int z80), (0, .ref 159), (1, .int a), (2, .int b), (3, .int c)]) (st' := [.int ((z85 + b)), .ref 160]) rfl ?_
          refine En_top (addI rfl rfl (by omega) (by omega)) (fun z87 h88 => ?_)
          refine En_Ps 1 (pc' := 64) (lv' := [(4, .int z80), (0, .ref 159), (1, .int a), (2, .int b), (3, .int c)]) (st' := [.int c, .int z87, .ref 160]) rfl ?_
          have w89 : wf σ0 (10 + 4 * a.toInt + b.toInt) = z70.toInt := ci_at h71 (by omega)
          refine En_iast (l := 0) (u := 2) rfl rfl tgz_160 (by decide +kernel) (by omega) (lnI (by decide +kernel : LN _ = 226) (by omega)) (FTrow 36 10 4 4 (by decide +kernel) (by omega) (by omega) (by omega)) (rngI rfl (by omega) (by omega)) hσ0 hF0 (by decide +kernel) (fun σ90 h91 h92 h93 h94 => ?_)
          refine En_Ps 1 (pc' := 67) (lv' := [(4, .int z80), (0, .ref 159), (1, .int a), (2, .int b), (3, .int c)]) (st' := [.int z80]) rfl ?_
          exact En_ret (v := some (.int z80)) rfl rfl rfl ⟨h91, h92, z80, rfl, ⟨by omega, by omega, ⟨fun i hi => (by rw [show wf _ i = ci _ 160 i from rfl, ci_st h93 h94 (by omega) i (by omega), if_neg (by omega)]; rfl), trR_y (i := 10 + 4 * a.toInt + b.toInt) (by omega) (by omega) (w89.trans (by omega)), trM (fun i hi => (by rw [show wf _ i = ci _ 160 i from rfl, ci_st h93 h94 (by omega) i hi]; rfl)) (by omega) (by omega) rfl⟩⟩⟩
        · refine En_Ps 1 (pc' := 42) (lv' := [(0, .ref 159), (1, .int a), (2, .int b), (3, .int c)]) (st' := [.int (((Int8.ofInt (-2)).toInt32))]) rfl ?_
          refine En_top (by decide : ((Int8.ofInt (-2)).toInt32).toInt = -2) (fun z95 h96 => ?_)
          exact En_ret (v := some (.int z95)) rfl rfl rfl ⟨hσ0, hF0, z95, rfl, ⟨by omega, by omega, (by have q0 : ¬ trC (wf σ0) a.toInt b.toInt c.toInt := (by omega); exact ⟨fun _ _ => rfl, trR_n q0 (by omega), trMn q0⟩)⟩⟩
/-- DoorSchoolModel.unteach()I -/
abbrev P_329x (σ0 : SG) : PO := fun v σ => WT σ ∧ Fr [(36, 0)] σ0 σ ∧ ∃ ret : Int32, v = some (.int ret) ∧ -ret.toInt - 5 ≤ 0 ∧ ret.toInt - 3 ≤ 0 ∧ (WINV (wf σ) ∧ ret.toInt = utR (wf σ0) ∧ (∀ i : Int, 0 ≤ i → i < 226 → wf σ i = utW (wf σ0) i))
set_option maxRecDepth 10000 in
set_option maxHeartbeats 4000000 in
theorem c_329x (σ0 : SG) (hσ0 : WT σ0) (hI : WINV (wf σ0)) : En 1 20 none mr_329 (P_329x σ0) 0 [(0, .ref 159)] [] σ0 := by
  have hF0 : Fr [(36, 0)] σ0 σ0 := Fr_rfl
  refine En_Ps 1 (pc' := 1) (lv' := [(0, .ref 159)]) (st' := [.ref 159]) rfl ?_
  obtain ⟨z2, h1, h3, h4⟩ := WT_peekI hσ0 tgz_160 (by decide +kernel : FT 36 (7 : Int).toNat = (0, 0, 1600)) (by decide +kernel)
  refine En_callV rfl rfl rfl rfl rfl rfl rfl rfl tgz_159 (by decide +kernel) rfl (c_264 σ0 hσ0 z2 h1) (by decide) (by decide) (fun v6 σ7 h5 => ?_)
  obtain ⟨h8, h9, z11, rfl, h10⟩ := h5
  obtain rfl : σ0 = σ7 := Fr_nil h9
  have w12 : wf σ0 (7) = z2.toInt := ci_at h1 (by omega)
  refine En_iNe _ rfl rfl (fun h13 => ?_) (fun h13 => ?_)
  · refine En_Ps 1 (pc' := 11) (lv' := [(0, .ref 159)]) (st' := [.ref 159]) rfl ?_
    refine En_getU (j := 1) (u := 160) (g' := 36) (q := 0) rfl rfl rfl tgz_159 (by decide +kernel) hσ0 (by decide +kernel) (by decide +kernel) (fun h14 => ?_)
    refine En_Ps 1 (pc' := 16) (lv' := [(0, .ref 159)]) (st' := [.int (((Int8.ofInt 6).toInt32)), .ref 160]) rfl ?_
    refine En_iald (l := 0) (u := 60) rfl (by decide : ((Int8.ofInt 6).toInt32).toInt = 6) tgz_160 (by decide +kernel) hσ0 (by omega) (lnI (by decide +kernel : LN _ = 226) (by omega)) (by decide +kernel) (fun z17 h16 h18 h19 => ?_)
    have w20 : wf σ0 (6) = z17.toInt := ci_at h16 (by omega)
    refine En_iNe _ rfl rfl (fun h21 => ?_) (fun h21 => ?_)
    · refine En_Ps 1 (pc' := 24) (lv' := [(0, .ref 159)]) (st' := [.ref 159]) rfl ?_
      refine En_getK (j := 1) h14 rfl rfl rfl tgz_159 (by decide +kernel) ?_
      refine En_Ps 2 (pc' := 30) (lv' := [(0, .ref 159)]) (st' := [.int (((Int8.ofInt 6).toInt32)), .ref 160, .int (((Int8.ofInt 6).toInt32)), .ref 160]) rfl ?_
      refine En_ialdK h16 rfl (by decide : ((Int8.ofInt 6).toInt32).toInt = 6) tgz_160 (by decide +kernel) hσ0 (by omega) (lnI (by decide +kernel : LN _ = 226) (by omega)) ?_
      refine En_Ps 2 (pc' := 33) (lv' := [(0, .ref 159)]) (st' := [.int ((z17 - ((Int32.ofInt 1)))), .int (((Int8.ofInt 6).toInt32)), .ref 160]) rfl ?_
      refine En_top (subI rfl (by decide : (Int32.ofInt 1).toInt = 1) (by omega) (by omega)) (fun z23 h24 => ?_)
      refine En_iast (l := 0) (u := 60) rfl (by decide : ((Int8.ofInt 6).toInt32).toInt = 6) tgz_160 (by decide +kernel) (by omega) (lnI (by decide +kernel : LN _ = 226) (by omega)) (by decide +kernel) (rngI rfl (by omega) (by omega)) hσ0 hF0 (by decide +kernel) (fun σ25 h26 h27 h28 h29 => ?_)
      refine En_Ps 1 (pc' := 35) (lv' := [(0, .ref 159)]) (st' := [.ref 159]) rfl ?_
      refine En_getK (j := 1) ((h29 _ _ (Or.inl (neTG tgz_159 tgz_160 (by decide)))).trans h14) rfl rfl rfl tgz_159 (by decide +kernel) ?_
      refine En_Ps 2 (pc' := 42) (lv' := [(0, .ref 159)]) (st' := [.ref 159, .int (((Int16.ofInt 166).toInt32)), .ref 160]) rfl ?_
      refine En_getK (j := 1) ((h29 _ _ (Or.inl (neTG tgz_159 tgz_160 (by decide)))).trans h14) rfl rfl rfl tgz_159 (by decide +kernel) ?_
      refine En_Ps 1 (pc' := 47) (lv' := [(0, .ref 159)]) (st' := [.int (((Int8.ofInt 6).toInt32)), .ref 160, .int (((Int16.ofInt 166).toInt32)), .ref 160]) rfl ?_
      refine En_ialdK h28 rfl (by decide : ((Int8.ofInt 6).toInt32).toInt = 6) tgz_160 (by decide +kernel) h26 (by omega) (lnI (by decide +kernel : LN _ = 226) (by omega)) ?_
      refine En_Ps 1 (pc' := 49) (lv' := [(0, .ref 159)]) (st' := [.int (((((Int16.ofInt 166).toInt32)) + z23)), .ref 160]) rfl ?_
      refine En_top (addI (by decide : ((Int16.ofInt 166).toInt32).toInt = 166) rfl (by omega) (by omega)) (fun z31 h32 => ?_)
      refine En_iald (l := 0) (u := 3) rfl rfl tgz_160 (by decide +kernel) h26 (by omega) (lnI (by decide +kernel : LN _ = 226) (by omega)) (FTrow 36 166 1 60 (by decide +kernel) (by omega) (by omega) (by omega)) (fun z34 h33 h35 h36 => ?_)
      have h37 := ci_at h33 (rfl : z31.toInt = z31.toInt)
      have h38 := ci_st h28 h29 (by omega) (z31.toInt) (by omega)
      rw [if_neg (by omega)] at h38
      refine En_Ps 2 (pc' := 52) (lv' := [(1, .int z34), (0, .ref 159)]) (st' := [.ref 159]) rfl ?_
      refine En_getK (j := 1) ((h29 _ _ (Or.inl (neTG tgz_159 tgz_160 (by decide)))).trans h14) rfl rfl rfl tgz_159 (by decide +kernel) ?_
      refine En_Ps 4 (pc' := 60) (lv' := [(1, .int z34), (0, .ref 159)]) (st' := [.int ((((Int32.ofInt 4)) * z34)), .int (((Int8.ofInt 10).toInt32)), .ref 160]) rfl ?_
      refine En_top (mulI (by decide : (Int32.ofInt 4).toInt = 4) rfl (Z := 4 * z34.toInt) (by omega) (by omega) (by omega)) (fun z40 h41 => ?_)
      refine En_Ps 1 (pc' := 61) (lv' := [(1, .int z34), (0, .ref 159)]) (st' := [.int (((((Int8.ofInt 10).toInt32)) + z40)), .ref 160]) rfl ?_
      refine En_top (addI (by decide : ((Int8.ofInt 10).toInt32).toInt = 10) rfl (by omega) (by omega)) (fun z42 h43 => ?_)
      refine En_Ps 2 (pc' := 63) (lv' := [(1, .int z34), (0, .ref 159)]) (st' := [.int ((z42 + ((Int32.ofInt 2)))), .ref 160]) rfl ?_
      refine En_top (addI rfl (by decide : (Int32.ofInt 2).toInt = 2) (by omega) (by omega)) (fun z44 h45 => ?_)
      refine En_Ps 1 (pc' := 64) (lv' := [(1, .int z34), (0, .ref 159)]) (st' := [.int z44, .ref 160, .int z44, .ref 160]) rfl ?_
      refine En_iald (l := 0) (u := 12) rfl rfl tgz_160 (by decide +kernel) h26 (by omega) (lnI (by decide +kernel : LN _ = 226) (by omega)) (FTrow 36 12 4 4 (by decide +kernel) (by omega) (by omega) (by omega)) (fun z47 h46 h48 h49 => ?_)
      refine En_Ps 1 (pc' := 66) (lv' := [(1, .int z34), (0, .ref 159)]) (st' := [.int ((Int32.ofInt 1)), .int z47, .int z44, .ref 160]) rfl ?_
      have h50 := WINV_ge hI (d := z34.toInt) (nt := z23.toInt + 1) (by have e1 := ci_at h16 (show (6 : Int) = (6 : Int) by omega); show _ = ci _ 160 _; omega) (by omega) (by show _ = ci _ 160 _; rw [show (166 : Int) + ((z23.toInt + 1) - 1) = z31.toInt by omega]; omega) (by omega) (by omega)
      have h51 := ci_at h46 (by omega : 12 + 4 * z34.toInt = _)
      have h52 := ci_st h28 h29 (by omega) (12 + 4 * z34.toInt) (by omega)
      rw [if_neg (by omega)] at h52
      have h53 : 1 ≤ z47.toInt := by have e3 : wf σ0 (12 + 4 * z34.toInt) = ci σ0 160 (12 + 4 * z34.toInt) := rfl; omega
      refine En_Ps 1 (pc' := 67) (lv' := [(1, .int z34), (0, .ref 159)]) (st' := [.int ((z47 - ((Int32.ofInt 1)))), .int z44, .ref 160]) rfl ?_
      refine En_top (subI rfl (by decide : (Int32.ofInt 1).toInt = 1) (by omega) (by omega)) (fun z54 h55 => ?_)
      refine En_iast (l := 0) (u := 12) rfl rfl tgz_160 (by decide +kernel) (by omega) (lnI (by decide +kernel : LN _ = 226) (by omega)) (FTrow 36 12 4 4 (by decide +kernel) (by omega) (by omega) (by omega)) (rngI rfl (by omega) (by omega)) h26 h27 (by decide +kernel) (fun σ56 h57 h58 h59 h60 => ?_)
      refine En_Ps 1 (pc' := 69) (lv' := [(1, .int z34), (0, .ref 159)]) (st' := [.int z34]) rfl ?_
      exact En_ret (v := some (.int z34)) rfl rfl rfl ⟨h57, h58, z34, rfl, ⟨by omega, by omega, ⟨WINV_unteach2 (d := z34.toInt) (m := z54.toInt + 1) (nt := z23.toInt + 1) hI (fun i hi => (by rw [show wf _ i = ci _ 160 i from rfl, ci_st h59 h60 (by omega) i hi, ci_st h28 h29 (by omega) i hi]; rfl)) (by show _ = ci _ 160 _; omega) (by have e1 := ci_at h16 (show (6 : Int) = (6 : Int) by omega); show _ = ci _ 160 _; omega) (by omega) (by show _ = ci _ 160 _; rw [show (166 : Int) + ((z23.toInt + 1) - 1) = z31.toInt by omega]; omega) (by omega) (by omega) (by omega) (by omega) (by omega) (by omega), by unfold utR utD; rw [if_neg (by omega), if_neg (by omega), show wf σ0 6 = z23.toInt + 1 from Eq.symm (by have e1 := ci_at h16 (show (6 : Int) = (6 : Int) by omega); show _ = ci _ 160 _; omega)]; exact (by show _ = ci _ 160 _; rw [show (166 : Int) + ((z23.toInt + 1) - 1) = z31.toInt by omega]; omega), utM (d := z34.toInt) (m := z54.toInt + 1) (nt := z23.toInt + 1) (fun i hi => (by rw [show wf _ i = ci _ 160 i from rfl, ci_st h59 h60 (by omega) i hi, ci_st h28 h29 (by omega) i hi]; rfl)) (by omega) (by show _ = ci _ 160 _; omega) (by have e1 := ci_at h16 (show (6 : Int) = (6 : Int) by omega); show _ = ci _ 160 _; omega) (by omega) (by show _ = ci _ 160 _; rw [show (166 : Int) + ((z23.toInt + 1) - 1) = z31.toInt by omega]; omega) (by omega) (by omega) (by omega) (by omega)⟩⟩⟩
    · refine En_Ps 1 (pc' := 22) (lv' := [(0, .ref 159)]) (st' := [.int (((Int8.ofInt (-5)).toInt32))]) rfl ?_
      refine En_top (by decide : ((Int8.ofInt (-5)).toInt32).toInt = -5) (fun z61 h62 => ?_)
      exact En_ret (v := some (.int z61)) rfl rfl rfl ⟨hσ0, hF0, z61, rfl, ⟨by omega, by omega, ⟨hI, by unfold utR; rw [if_neg (by omega), if_pos (by omega)]; omega, utMn (by omega) (fun i _ _ => rfl)⟩⟩⟩
  · refine En_Ps 1 (pc' := 9) (lv' := [(0, .ref 159)]) (st' := [.int (((Int8.ofInt (-2)).toInt32))]) rfl ?_
    refine En_top (by decide : ((Int8.ofInt (-2)).toInt32).toInt = -2) (fun z63 h64 => ?_)
    exact En_ret (v := some (.int z63)) rfl rfl rfl ⟨hσ0, hF0, z63, rfl, ⟨by omega, by omega, ⟨hI, by unfold utR; rw [if_pos (by omega)]; omega, utMn (by omega) (fun i _ _ => rfl)⟩⟩⟩

