/-- DoorSchoolModel.teach(III)I -/
abbrev P_320x (σ0 : SG) (a : Int32) (b : Int32) (c : Int32) : PO := fun v σ => WT σ ∧ Fr [(36, 0)] σ0 σ ∧ ∃ ret : Int32, v = some (.int ret) ∧ -ret.toInt - 5 ≤ 0 ∧ ret.toInt - 12 ≤ 0 ∧ ((WINV (wf σ0) → WINV (wf σ)) ∧ ret.toInt = tcR (wf σ0) a.toInt b.toInt c.toInt ∧ (∀ i : Int, 0 ≤ i → i < 226 → wf σ i = tcW (wf σ0) a.toInt b.toInt c.toInt i))
set_option maxRecDepth 10000 in
set_option maxHeartbeats 4000000 in
theorem c_320x (σ0 : SG) (hσ0 : WT σ0) (a : Int32) (b : Int32) (c : Int32) : En 3 62 none mr_320 (P_320x σ0 a b c) 0 [(0, .ref 159), (1, .int a), (2, .int b), (3, .int c)] [] σ0 := by
  have hF0 : Fr [(36, 0)] σ0 σ0 := Fr_rfl
  refine En_Ps 2 (pc' := 2) (lv' := [(0, .ref 159), (1, .int a), (2, .int b), (3, .int c)]) (st' := [.int a, .ref 159]) rfl ?_
  obtain ⟨z2, h1, h3, h4⟩ := WT_peekI hσ0 tgz_160 (by decide +kernel : FT 36 (2 : Int).toNat = (0, 0, 4)) (by decide +kernel)
  refine En_callV rfl rfl rfl rfl rfl rfl rfl rfl tgz_159 (by decide +kernel) rfl (c_254 σ0 hσ0 a z2 h1) (by decide) (by decide) (fun v6 σ7 h5 => ?_)
  obtain ⟨h8, h9, z11, rfl, h10⟩ := h5
  obtain rfl : σ0 = σ7 := Fr_nil h9
  have w12 : wf σ0 (2) = z2.toInt := ci_at h1 (by omega)
  refine En_iEq _ rfl rfl (fun h13 => ?_) (fun h13 => ?_)
  · refine En_Ps 1 (pc' := 29) (lv' := [(0, .ref 159), (1, .int a), (2, .int b), (3, .int c)]) (st' := [.int (((Int8.ofInt (-2)).toInt32))]) rfl ?_
    refine En_top (by decide : ((Int8.ofInt (-2)).toInt32).toInt = -2) (fun z14 h15 => ?_)
    exact En_ret (v := some (.int z14)) rfl rfl rfl ⟨hσ0, hF0, z14, rfl, ⟨by first | exact q_f1982a04c6 h15 | omega, by first | exact q_5a5c18c2ab h15 | omega, (by have q0 : ¬ okL (wf σ0) a.toInt b.toInt c.toInt := (fun ⟨q1, q2, q3, q4, q5, q6, q7⟩ => by omega); exact ⟨fun H => H, tcR_2 q0 (by omega), tcMn (fun q => q0 q.1) (fun i _ _ => rfl)⟩)⟩⟩
  · refine En_Ps 3 (pc' := 11) (lv' := [(0, .ref 159), (1, .int a), (2, .int b), (3, .int c)]) (st' := [.long b.toInt64, .ref 159]) rfl ?_
    obtain ⟨z17, h16, h18, h19⟩ := WT_peekI hσ0 tgz_160 (by decide +kernel : FT 36 (0 : Int).toNat = (0, 0, 4)) (by decide +kernel)
    obtain ⟨z21, h20, h22, h23⟩ := WT_peekI hσ0 tgz_160 (by decide +kernel : FT 36 (7 : Int).toNat = (0, 0, 1600)) (by decide +kernel)
    have : b.toInt64.toInt = b.toInt := (i2lI rfl)
    refine En_callV rfl rfl rfl rfl rfl rfl rfl rfl tgz_159 (by decide +kernel) rfl (c_259x σ0 hσ0 b.toInt64 z17 h16 z21 h20) (by decide) (by decide) (fun v25 σ26 h24 => ?_)
    obtain ⟨h27, h28, z30, rfl, h29⟩ := h24
    have h31 := h29.2.2.2
    obtain rfl : σ0 = σ26 := Fr_nil h28
    have h32 := h31
    have w33 : wf σ0 (0) = z17.toInt := ci_at h16 (by omega)
    have w34 : wf σ0 (7) = z21.toInt := ci_at h20 (by omega)
    have h35 : pI (wf σ0 0) = pI (z17.toInt) := by rw [w33]
    refine En_iEq _ rfl rfl (fun h36 => ?_) (fun h36 => ?_)
    · refine En_Ps 1 (pc' := 29) (lv' := [(0, .ref 159), (1, .int a), (2, .int b), (3, .int c)]) (st' := [.int (((Int8.ofInt (-2)).toInt32))]) rfl ?_
      refine En_top (by decide : ((Int8.ofInt (-2)).toInt32).toInt = -2) (fun z37 h38 => ?_)
      exact En_ret (v := some (.int z37)) rfl rfl rfl ⟨hσ0, hF0, z37, rfl, ⟨by first | exact q_f1982a04c6 h38 | omega, by first | exact q_5a5c18c2ab h38 | omega, (by have q0 : ¬ okL (wf σ0) a.toInt b.toInt c.toInt := (fun ⟨q1, q2, q3, q4, q5, q6, q7⟩ => by omega); exact ⟨fun H => H, tcR_2 q0 (by omega), tcMn (fun q => q0 q.1) (fun i _ _ => rfl)⟩)⟩⟩
    · have h39 := Imp_m h29.2.2.1 (by first | exact q_e3350da514 h36 h29.1 | omega)
      refine En_Ps 4 (pc' := 21) (lv' := [(0, .ref 159), (1, .int a), (2, .int b), (3, .int c)]) (st' := [.long ((Int64.ofNat 1)), .long ((Int64.ofNat 0)), .long c.toInt64]) rfl ?_
      have : c.toInt64.toInt = c.toInt := (i2lI rfl)
      have := (by decide : ((Int64.ofNat 0)).toInt = 0)
      have := (by decide : ((Int64.ofNat 1)).toInt = 1)
      refine En_callS rfl rfl rfl rfl rfl rfl rfl rfl rfl (c_249 σ0 hσ0 c.toInt64 ((Int64.ofNat 0)) ((Int64.ofNat 1))) (by decide) (by decide) (fun v41 σ42 h40 => ?_)
      obtain ⟨h43, h44, z46, rfl, h45⟩ := h40
      obtain rfl : σ0 = σ42 := Fr_nil h44
      refine En_iNe _ rfl rfl (fun h47 => ?_) (fun h47 => ?_)
      · refine En_Ps 3 (pc' := 33) (lv' := [(0, .ref 159), (1, .int a), (2, .int b), (3, .int c)]) (st' := [.int ((Int32.ofInt 2)), .int a, .ref 159]) rfl ?_
        have := (by decide : ((Int32.ofInt 2)).toInt = 2)
        obtain ⟨z48, h49, h50, h51⟩ := WT_peekJ (J := (4 * a.toInt + ((Int32.ofInt 2)).toInt + 10)) (l := 0) (u := 12) hσ0 tgz_160 (by decide +kernel) (by omega) (lnI (by decide +kernel : LN _ = 226) (by omega)) (FTrow 36 12 4 4 (by decide +kernel) (by omega) (by omega) (by omega))
        have := (by decide : ((Int32.ofInt 2)).toInt = 2)
        refine En_callV rfl rfl rfl rfl rfl rfl rfl rfl tgz_159 (by decide +kernel) rfl (c_290c σ0 hσ0 a ((Int32.ofInt 2)) (geI rfl (by omega)) (leI rfl (by omega)) (geI (by decide : (Int32.ofInt 2).toInt = 2) (by decide)) (leI (by decide : (Int32.ofInt 2).toInt = 2) (by decide)) z48 h49) (by decide) (by decide) (fun v53 σ54 h52 => ?_)
        obtain ⟨h55, h56, z58, rfl, h57⟩ := h52
        obtain rfl : σ0 = σ54 := Fr_nil h56
        refine En_Ps 1 (pc' := 38) (lv' := [(0, .ref 159), (1, .int a), (2, .int b), (3, .int c)]) (st' := [.int (((Int8.ofInt 12).toInt32)), .int z58]) rfl ?_
        have w59 : wf σ0 (12 + 4 * a.toInt) = z48.toInt := ci_at h49 (by omega)
        refine En_icNe _ rfl (by decide : ((Int8.ofInt 12).toInt32).toInt = 12) rfl (fun h60 => ?_) (fun h60 => ?_)
        · refine En_Ps 1 (pc' := 45) (lv' := [(0, .ref 159), (1, .int a), (2, .int b), (3, .int c)]) (st' := [.ref 159]) rfl ?_
          refine En_getU (j := 1) (u := 160) (g' := 36) (q := 0) rfl rfl rfl tgz_159 (by decide +kernel) hσ0 (by decide +kernel) (by decide +kernel) (fun h61 => ?_)
          refine En_Ps 1 (pc' := 50) (lv' := [(0, .ref 159), (1, .int a), (2, .int b), (3, .int c)]) (st' := [.int (((Int8.ofInt 6).toInt32)), .ref 160]) rfl ?_
          refine En_iald (l := 0) (u := 60) rfl (by decide : ((Int8.ofInt 6).toInt32).toInt = 6) tgz_160 (by decide +kernel) hσ0 (by decide) (lnI (by decide +kernel : LN _ = 226) (by decide)) (by decide +kernel) (fun z64 h63 h65 h66 => ?_)
          refine En_Ps 1 (pc' := 53) (lv' := [(0, .ref 159), (1, .int a), (2, .int b), (3, .int c)]) (st' := [.int (((Int8.ofInt 60).toInt32)), .int z64]) rfl ?_
          have w67 : wf σ0 (6) = z64.toInt := ci_at h63 (by omega)
          refine En_icNe _ rfl (by decide : ((Int8.ofInt 60).toInt32).toInt = 60) rfl (fun h68 => ?_) (fun h68 => ?_)
          · refine En_Ps 4 (pc' := 63) (lv' := [(0, .ref 159), (1, .int a), (2, .int b), (3, .int c)]) (st' := [.int ((Int32.ofInt 2)), .int a, .ref 159, .int a]) rfl ?_
            have := (by decide : ((Int32.ofInt 2)).toInt = 2)
            have := (by decide : ((Int32.ofInt 2)).toInt = 2)
            refine En_callV rfl rfl rfl rfl rfl rfl rfl rfl tgz_159 (by decide +kernel) rfl (c_290c σ0 hσ0 a ((Int32.ofInt 2)) (geI rfl (by omega)) (leI rfl (by omega)) (geI (by decide : (Int32.ofInt 2).toInt = 2) (by decide)) (leI (by decide : (Int32.ofInt 2).toInt = 2) (by decide)) z48 h49) (by decide) (by decide) (fun v70 σ71 h69 => ?_)
            obtain ⟨h72, h73, z75, rfl, h74⟩ := h69
            obtain rfl : σ0 = σ71 := Fr_nil h73
            refine En_callS rfl rfl rfl rfl rfl rfl rfl rfl rfl (c_281 σ0 hσ0 a z75 (geI rfl (by omega)) (leI rfl (by omega)) (geI rfl (by first | exact q_ef1e8e38bf h74.1 | omega)) (leI rfl (by first | exact q_b48fc66505 h74.2.1 | omega))) (by decide) (by decide) (fun v77 σ78 h76 => ?_)
            obtain ⟨h79, h80, z82, rfl, h81⟩ := h76
            obtain rfl : σ0 = σ78 := Fr_nil h80
            refine En_Ps 1 (pc' := 71) (lv' := [(4, .int z82), (0, .ref 159), (1, .int a), (2, .int b), (3, .int c)]) (st' := []) rfl ?_
            refine En_Ps 1 (pc' := 72) (lv' := [(4, .int z82), (0, .ref 159), (1, .int a), (2, .int b), (3, .int c)]) (st' := [.ref 159]) rfl ?_
            refine En_getK (j := 1) h61 rfl rfl rfl tgz_159 (by decide +kernel) ?_
            refine En_Ps 2 (pc' := 78) (lv' := [(4, .int z82), (0, .ref 159), (1, .int a), (2, .int b), (3, .int c)]) (st' := [.int b, .int z82, .ref 160]) rfl ?_
            refine En_iast (l := 0) (u := 15) rfl rfl tgz_160 (by decide +kernel) (by first | exact q_2c9de765f8 h81.1 | omega) (lnI (by decide +kernel : LN _ = 226) (by first | exact q_0616d82733 h81.2.1 | omega)) (FTrow 36 26 2 48 (by decide +kernel) (by first | exact q_cfcbae6494 h81.1 | omega) (by omega) (by first | exact q_3ba10c420c h74.2.2.1 h81.2.2.1 h74.2.2.2 h81.2.2.2 | omega)) (rngI rfl (by omega) (by omega)) hσ0 hF0 (by decide +kernel) (fun σ83 h84 h85 h86 h87 => ?_)
            refine En_Ps 1 (pc' := 80) (lv' := [(4, .int z82), (0, .ref 159), (1, .int a), (2, .int b), (3, .int c)]) (st' := [.ref 159]) rfl ?_
            refine En_getK (j := 1) ((h87 _ _ (Or.inl (neTG tgz_159 tgz_160 (by decide)))).trans h61) rfl rfl rfl tgz_159 (by decide +kernel) ?_
            refine En_Ps 3 (pc' := 87) (lv' := [(4, .int z82), (0, .ref 159), (1, .int a), (2, .int b), (3, .int c)]) (st' := [.int ((z82 + ((Int32.ofInt 1)))), .ref 160]) rfl ?_
            refine En_top (addI rfl (by decide : (Int32.ofInt 1).toInt = 1) (by first | exact q_c40141e2b1 h81.1 | omega) (by first | exact q_919014a1f8 h81.2.1 | omega)) (fun z88 h89 => ?_)
            refine En_Ps 1 (pc' := 88) (lv' := [(4, .int z82), (0, .ref 159), (1, .int a), (2, .int b), (3, .int c)]) (st' := [.int c, .int z88, .ref 160]) rfl ?_
            refine En_iast (l := 0) (u := 1) rfl rfl tgz_160 (by decide +kernel) (by first | exact q_f9ae7b6bc1 h89 h81.1 | omega) (lnI (by decide +kernel : LN _ = 226) (by first | exact q_4c6d633468 h89 h81.2.1 | omega)) (FTrow 36 27 2 48 (by decide +kernel) (by first | exact q_af8e3f94d3 h89 h81.1 | omega) (by omega) (by first | exact q_788aaa09c4 h74.2.2.1 h81.2.2.1 h89 h74.2.2.2 h81.2.2.2 | omega)) (rngI rfl (by omega) (by omega)) h84 h85 (by decide +kernel) (fun σ90 h91 h92 h93 h94 => ?_)
            refine En_Ps 1 (pc' := 90) (lv' := [(4, .int z82), (0, .ref 159), (1, .int a), (2, .int b), (3, .int c)]) (st' := [.ref 159]) rfl ?_
            refine En_getK (j := 1) ((h94 _ _ (Or.inl (neTG tgz_159 tgz_160 (by decide)))).trans ((h87 _ _ (Or.inl (neTG tgz_159 tgz_160 (by decide)))).trans h61)) rfl rfl rfl tgz_159 (by decide +kernel) ?_
            refine En_Ps 4 (pc' := 98) (lv' := [(4, .int z82), (0, .ref 159), (1, .int a), (2, .int b), (3, .int c)]) (st' := [.int ((((Int32.ofInt 4)) * a)), .int (((Int8.ofInt 10).toInt32)), .ref 160]) rfl ?_
            refine En_top (mulI (by decide : (Int32.ofInt 4).toInt = 4) rfl (Z := 4 * a.toInt) (by first | exact q_8696eb12a7 | omega) (by first | exact q_bc2cd02f58 h81.2.2.1 h74.2.2.1 h81.1 h57.2.2.2 h60 h57.2.1 | omega) (by first | exact q_bb598b1ffb h81.2.2.2 h74.2.2.2 h81.2.1 h50 | omega)) (fun z95 h96 => ?_)
            refine En_Ps 1 (pc' := 99) (lv' := [(4, .int z82), (0, .ref 159), (1, .int a), (2, .int b), (3, .int c)]) (st' := [.int (((((Int8.ofInt 10).toInt32)) + z95)), .ref 160]) rfl ?_
            refine En_top (addI (by decide : ((Int8.ofInt 10).toInt32).toInt = 10) rfl (by first | exact q_7baf00c54e h96 h81.2.2.1 h74.2.2.1 h81.1 h57.2.2.2 h60 h57.2.1 | omega) (by first | exact q_6ff67d754e h96 h81.2.2.2 h74.2.2.2 h81.2.1 h50 | omega)) (fun z97 h98 => ?_)
            refine En_Ps 2 (pc' := 101) (lv' := [(4, .int z82), (0, .ref 159), (1, .int a), (2, .int b), (3, .int c)]) (st' := [.int ((z97 + ((Int32.ofInt 2)))), .ref 160]) rfl ?_
            refine En_top (addI rfl (by decide : (Int32.ofInt 2).toInt = 2) (by omega) (by first | exact q_0919e71a47 h98 h96 h81.2.2.2 h74.2.2.2 h81.2.1 h50 | omega)) (fun z99 h100 => ?_)
            refine En_Ps 1 (pc' := 102) (lv' := [(4, .int z82), (0, .ref 159), (1, .int a), (2, .int b), (3, .int c)]) (st' := [.int z99, .ref 160, .int z99, .ref 160]) rfl ?_
            have h102 : (σ90 160)[(z99.toInt).toNat]? = some (.int z48) := by rw [show (z99.toInt) = (4 * a.toInt + ((Int32.ofInt 2)).toInt + 10) by omega]; exact ((h94 _ _ (Or.inr (by omega))).trans ((h87 _ _ (Or.inr (by omega))).trans h49))
            refine En_ialdK h102 rfl rfl tgz_160 (by decide +kernel) h91 (by omega) (lnI (by decide +kernel : LN _ = 226) (by first | exact q_f9b8279f5d h100 h98 h96 h81.2.2.2 h74.2.2.2 h81.2.1 h50 | omega)) ?_
            refine En_Ps 2 (pc' := 105) (lv' := [(4, .int z82), (0, .ref 159), (1, .int a), (2, .int b), (3, .int c)]) (st' := [.int ((z48 + ((Int32.ofInt 1)))), .int z99, .ref 160]) rfl ?_
            refine En_top (addI rfl (by decide : (Int32.ofInt 1).toInt = 1) (by first | exact q_465ab79ac1 h50 | omega) (by first | exact q_1fdc13c345 h51 | omega)) (fun z103 h104 => ?_)
            refine En_iast (l := 0) (u := 12) rfl rfl tgz_160 (by decide +kernel) (by omega) (lnI (by decide +kernel : LN _ = 226) (by first | exact q_f9b8279f5d h100 h98 h96 h81.2.2.2 h74.2.2.2 h81.2.1 h50 | omega)) (FTrow 36 12 4 4 (by decide +kernel) (by omega) (by omega) (by first | exact q_29bc46c6fe h96 h98 h100 | omega)) (rngI rfl (by first | exact q_35104ce9d3 h104 h50 | omega) (by first | exact q_fbccb7dd2b h104 h57.2.2.2 h60 h57.2.1 | omega)) h91 h92 (by decide +kernel) (fun σ105 h106 h107 h108 h109 => ?_)
            refine En_Ps 1 (pc' := 107) (lv' := [(4, .int z82), (0, .ref 159), (1, .int a), (2, .int b), (3, .int c)]) (st' := [.ref 159]) rfl ?_
            refine En_getK (j := 1) ((h109 _ _ (Or.inl (neTG tgz_159 tgz_160 (by decide)))).trans ((h94 _ _ (Or.inl (neTG tgz_159 tgz_160 (by decide)))).trans ((h87 _ _ (Or.inl (neTG tgz_159 tgz_160 (by decide)))).trans h61))) rfl rfl rfl tgz_159 (by decide +kernel) ?_
            refine En_Ps 2 (pc' := 114) (lv' := [(4, .int z82), (0, .ref 159), (1, .int a), (2, .int b), (3, .int c)]) (st' := [.ref 159, .int (((Int16.ofInt 166).toInt32)), .ref 160]) rfl ?_
            refine En_getK (j := 1) ((h109 _ _ (Or.inl (neTG tgz_159 tgz_160 (by decide)))).trans ((h94 _ _ (Or.inl (neTG tgz_159 tgz_160 (by decide)))).trans ((h87 _ _ (Or.inl (neTG tgz_159 tgz_160 (by decide)))).trans h61))) rfl rfl rfl tgz_159 (by decide +kernel) ?_
            refine En_Ps 1 (pc' := 119) (lv' := [(4, .int z82), (0, .ref 159), (1, .int a), (2, .int b), (3, .int c)]) (st' := [.int (((Int8.ofInt 6).toInt32)), .ref 160, .int (((Int16.ofInt 166).toInt32)), .ref 160]) rfl ?_
            refine En_ialdK ((h109 _ _ (Or.inr (by omega))).trans ((h94 _ _ (Or.inr (by omega))).trans ((h87 _ _ (Or.inr (by omega))).trans h63))) rfl (by decide : ((Int8.ofInt 6).toInt32).toInt = 6) tgz_160 (by decide +kernel) h106 (by decide) (lnI (by decide +kernel : LN _ = 226) (by decide)) ?_
            refine En_Ps 1 (pc' := 121) (lv' := [(4, .int z82), (0, .ref 159), (1, .int a), (2, .int b), (3, .int c)]) (st' := [.int (((((Int16.ofInt 166).toInt32)) + z64)), .ref 160]) rfl ?_
            refine En_top (addI (by decide : ((Int16.ofInt 166).toInt32).toInt = 166) rfl (by first | exact q_da5003b62f h65 | omega) (by first | exact q_0c115a356a h68 h66 | omega)) (fun z111 h112 => ?_)
            refine En_Ps 1 (pc' := 122) (lv' := [(4, .int z82), (0, .ref 159), (1, .int a), (2, .int b), (3, .int c)]) (st' := [.int a, .int z111, .ref 160]) rfl ?_
            refine En_iast (l := 0) (u := 3) rfl rfl tgz_160 (by decide +kernel) (by first | exact q_3cc24cabc2 h112 h65 | omega) (lnI (by decide +kernel : LN _ = 226) (by first | exact q_1152749836 h112 h68 h66 | omega)) (FTrow 36 166 1 60 (by decide +kernel) (by first | exact q_7a59a1f092 h112 h65 | omega) (by first | exact q_2083981b07 h112 h68 h66 | omega) (by first | exact q_50ef92cd29 | omega)) (rngI rfl (by first | exact q_4752c9823d h81.2.2.1 h74.2.2.1 h81.1 h57.2.2.2 h60 h57.2.1 | omega) (by omega)) h106 h107 (by decide +kernel) (fun σ113 h114 h115 h116 h117 => ?_)
            refine En_Ps 1 (pc' := 124) (lv' := [(4, .int z82), (0, .ref 159), (1, .int a), (2, .int b), (3, .int c)]) (st' := [.ref 159]) rfl ?_
            refine En_getK (j := 1) ((h117 _ _ (Or.inl (neTG tgz_159 tgz_160 (by decide)))).trans ((h109 _ _ (Or.inl (neTG tgz_159 tgz_160 (by decide)))).trans ((h94 _ _ (Or.inl (neTG tgz_159 tgz_160 (by decide)))).trans ((h87 _ _ (Or.inl (neTG tgz_159 tgz_160 (by decide)))).trans h61)))) rfl rfl rfl tgz_159 (by decide +kernel) ?_
            refine En_Ps 2 (pc' := 130) (lv' := [(4, .int z82), (0, .ref 159), (1, .int a), (2, .int b), (3, .int c)]) (st' := [.int (((Int8.ofInt 6).toInt32)), .ref 160, .int (((Int8.ofInt 6).toInt32)), .ref 160]) rfl ?_
            refine En_ialdK ((h117 _ _ (Or.inr (by omega))).trans ((h109 _ _ (Or.inr (by omega))).trans ((h94 _ _ (Or.inr (by omega))).trans ((h87 _ _ (Or.inr (by omega))).trans h63)))) rfl (by decide : ((Int8.ofInt 6).toInt32).toInt = 6) tgz_160 (by decide +kernel) h114 (by decide) (lnI (by decide +kernel : LN _ = 226) (by decide)) ?_
            refine En_Ps 2 (pc' := 133) (lv' := [(4, .int z82), (0, .ref 159), (1, .int a), (2, .int b), (3, .int c)]) (st' := [.int ((z64 + ((Int32.ofInt 1)))), .int (((Int8.ofInt 6).toInt32)), .ref 160]) rfl ?_
            refine En_top (addI rfl (by decide : (Int32.ofInt 1).toInt = 1) (by first | exact q_465ab79ac1 h65 | omega) (by first | exact q_a7b9738bd6 h68 h66 | omega)) (fun z119 h120 => ?_)
            refine En_iast (l := 0) (u := 60) rfl (by decide : ((Int8.ofInt 6).toInt32).toInt = 6) tgz_160 (by decide +kernel) (by decide) (lnI (by decide +kernel : LN _ = 226) (by decide)) (by decide +kernel) (rngI rfl (by first | exact q_35104ce9d3 h120 h65 | omega) (by first | exact q_c651c9b73b h120 h68 h66 | omega)) h114 h115 (by decide +kernel) (fun σ121 h122 h123 h124 h125 => ?_)
            refine En_Ps 3 (pc' := 137) (lv' := [(4, .int z82), (0, .ref 159), (1, .int a), (2, .int b), (3, .int c)]) (st' := [.int ((Int32.ofInt 2)), .int a, .ref 159]) rfl ?_
            have := (by decide : ((Int32.ofInt 2)).toInt = 2)
            have h126 : (σ121 160)[(4 * a.toInt + ((Int32.ofInt 2)).toInt + 10).toNat]? = some (.int z103) := by rw [show (4 * a.toInt + ((Int32.ofInt 2)).toInt + 10) = (z99.toInt) by omega]; exact ((h125 _ _ (Or.inr (by omega))).trans ((h117 _ _ (Or.inr (by omega))).trans h108))
            have := (by decide : ((Int32.ofInt 2)).toInt = 2)
            refine En_callV rfl rfl rfl rfl rfl rfl rfl rfl tgz_159 (by decide +kernel) rfl (c_290c σ121 h122 a ((Int32.ofInt 2)) (geI rfl (by first | exact q_4752c9823d h81.2.2.1 h74.2.2.1 h81.1 h57.2.2.2 h60 h57.2.1 | omega)) (leI rfl (by omega)) (geI (by decide : (Int32.ofInt 2).toInt = 2) (by decide)) (leI (by decide : (Int32.ofInt 2).toInt = 2) (by decide)) z103 h126) (by decide) (by decide) (fun v128 σ129 h127 => ?_)
            obtain ⟨h130, h131, z133, rfl, h132⟩ := h127
            obtain rfl : σ121 = σ129 := Fr_nil h131
            exact En_ret (v := some (.int z133)) rfl rfl rfl ⟨h122, h123, z133, rfl, ⟨by first | exact q_9c6701e35e h132.1 | omega, by first | exact q_1d71e39f5f h132.2.1 | omega, ⟨fun H => WINV_teach2 (d := a.toInt) (j := z82.toInt) (m := z103.toInt - 1) (nt := z119.toInt - 1) H (fun i hi => (by rw [show wf _ i = ci _ 160 i from rfl, ci_st h124 h125 (by omega) i hi, ci_st h116 h117 (by omega) i hi, ci_st h108 h109 (by omega) i hi, ci_st h93 h94 (by omega) i hi, ci_st h86 h87 (by omega) i hi]; rfl)) (by have e1 := ci_at h49 (show 12 + 4 * a.toInt = (4 * a.toInt + ((Int32.ofInt 2)).toInt + 10) by omega); show _ = ci _ 160 _; omega) (by have e1 := ci_at h63 (show (6 : Int) = (6 : Int) by omega); show _ = ci _ 160 _; omega) (by omega) (by omega) (by omega) (by omega) (by omega) (by omega) (by omega) (by omega) (by omega) (by omega) (by omega) (by omega) (by omega), tcR_y (show okL (wf σ0) a.toInt b.toInt c.toInt from ⟨by omega, by omega, by omega, by omega, by omega, by omega, by omega⟩) (by omega) (by omega) (by omega), tcM (j := z82.toInt) (m := z103.toInt - 1) (nt := z119.toInt - 1) (fun i hi => (by rw [show wf _ i = ci _ 160 i from rfl, ci_st h124 h125 (by omega) i hi, ci_st h116 h117 (by omega) i hi, ci_st h108 h109 (by omega) i hi, ci_st h93 h94 (by omega) i hi, ci_st h86 h87 (by omega) i hi]; rfl)) (by omega) (by omega) (show okL (wf σ0) a.toInt b.toInt c.toInt from ⟨by omega, by omega, by omega, by omega, by omega, by omega, by omega⟩) (by omega) (by omega) (by omega) (by omega) (by omega) (by omega) (by omega) (by omega) (by omega) (by omega) (by omega) (by omega) (by omega)⟩⟩⟩
          · refine En_Ps 1 (pc' := 58) (lv' := [(0, .ref 159), (1, .int a), (2, .int b), (3, .int c)]) (st' := [.int (((Int8.ofInt (-5)).toInt32))]) rfl ?_
            refine En_top (by decide : ((Int8.ofInt (-5)).toInt32).toInt = -5) (fun z134 h135 => ?_)
            exact En_ret (v := some (.int z134)) rfl rfl rfl ⟨hσ0, hF0, z134, rfl, ⟨by first | exact q_715ce6bb90 h135 | omega, by first | exact q_c602a05ff1 h135 | omega, ⟨fun H => H, tcR_5 (show okL (wf σ0) a.toInt b.toInt c.toInt from ⟨by omega, by omega, by omega, by omega, by omega, by omega, by omega⟩) (by omega) (by omega) (by omega), tcMn (fun q => by omega) (fun i _ _ => rfl)⟩⟩⟩
        · refine En_Ps 1 (pc' := 43) (lv' := [(0, .ref 159), (1, .int a), (2, .int b), (3, .int c)]) (st' := [.int (((Int8.ofInt (-3)).toInt32))]) rfl ?_
          refine En_top (by decide : ((Int8.ofInt (-3)).toInt32).toInt = -3) (fun z136 h137 => ?_)
          exact En_ret (v := some (.int z136)) rfl rfl rfl ⟨hσ0, hF0, z136, rfl, ⟨by first | exact q_95657dd6ca h137 | omega, by first | exact q_70e3f14a17 h137 | omega, ⟨fun H => H, tcR_3 (show okL (wf σ0) a.toInt b.toInt c.toInt from ⟨by omega, by omega, by omega, by omega, by omega, by omega, by omega⟩) (by omega) (by omega), tcMn (fun q => by omega) (fun i _ _ => rfl)⟩⟩⟩
      · refine En_Ps 1 (pc' := 29) (lv' := [(0, .ref 159), (1, .int a), (2, .int b), (3, .int c)]) (st' := [.int (((Int8.ofInt (-2)).toInt32))]) rfl ?_
        refine En_top (by decide : ((Int8.ofInt (-2)).toInt32).toInt = -2) (fun z138 h139 => ?_)
        exact En_ret (v := some (.int z138)) rfl rfl rfl ⟨hσ0, hF0, z138, rfl, ⟨by first | exact q_f1982a04c6 h139 | omega, by first | exact q_5a5c18c2ab h139 | omega, (by have q0 : ¬ okL (wf σ0) a.toInt b.toInt c.toInt := (fun ⟨q1, q2, q3, q4, q5, q6, q7⟩ => by omega); exact ⟨fun H => H, tcR_2 q0 (by omega), tcMn (fun q => q0 q.1) (fun i _ _ => rfl)⟩)⟩⟩
/-- DoorSchoolModel.train(III)I -/
abbrev P_325x (σ0 : SG) (a : Int32) (b : Int32) (c : Int32) : PO := fun v σ => WT σ ∧ Fr [(36, 0)] σ0 σ ∧ ∃ ret : Int32, v = some (.int ret) ∧ -ret.toInt - 2 ≤ 0 ∧ ret.toInt - 50 ≤ 0 ∧ (SAM (wf σ0) (wf σ) ∧ ret.toInt = trR (wf σ0) a.toInt b.toInt c.toInt ∧ (∀ i : Int, 0 ≤ i → i < 226 → wf σ i = trW (wf σ0) a.toInt b.toInt c.toInt i))
set_option maxRecDepth 10000 in
set_option maxHeartbeats 4000000 in
theorem c_325x (σ0 : SG) (hσ0 : WT σ0) (a : Int32) (b : Int32) (c : Int32) : En 2 46 none mr_325 (P_325x σ0 a b c) 0 [(0, .ref 159), (1, .int a), (2, .int b), (3, .int c)] [] σ0 := by
  have hF0 : Fr [(36, 0)] σ0 σ0 := Fr_rfl
  refine En_Ps 2 (pc' := 2) (lv' := [(0, .ref 159), (1, .int a), (2, .int b), (3, .int c)]) (st' := [.int a, .ref 159]) rfl ?_
  obtain ⟨z2, h1, h3, h4⟩ := WT_peekI hσ0 tgz_160 (by decide +kernel : FT 36 (2 : Int).toNat = (0, 0, 4)) (by decide +kernel)
  refine En_callV rfl rfl rfl rfl rfl rfl rfl rfl tgz_159 (by decide +kernel) rfl (c_254 σ0 hσ0 a z2 h1) (by decide) (by decide) (fun v6 σ7 h5 => ?_)
  obtain ⟨h8, h9, z11, rfl, h10⟩ := h5
  obtain rfl : σ0 = σ7 := Fr_nil h9
  have w12 : wf σ0 (2) = z2.toInt := ci_at h1 (by omega)
  refine En_iEq _ rfl rfl (fun h13 => ?_) (fun h13 => ?_)
  · refine En_Ps 1 (pc' := 42) (lv' := [(0, .ref 159), (1, .int a), (2, .int b), (3, .int c)]) (st' := [.int (((Int8.ofInt (-2)).toInt32))]) rfl ?_
    refine En_top (by decide : ((Int8.ofInt (-2)).toInt32).toInt = -2) (fun z14 h15 => ?_)
    exact En_ret (v := some (.int z14)) rfl rfl rfl ⟨hσ0, hF0, z14, rfl, ⟨by first | exact q_f35c5d346c h15 | omega, by first | exact q_307520f238 h15 | omega, (by have q0 : ¬ trC (wf σ0) a.toInt b.toInt c.toInt := (by omega); exact ⟨fun _ _ => rfl, trR_n q0 (by omega), trMn q0⟩)⟩⟩
  · refine En_Ps 4 (pc' := 12) (lv' := [(0, .ref 159), (1, .int a), (2, .int b), (3, .int c)]) (st' := [.long ((Int64.ofNat 1)), .long ((Int64.ofNat 0)), .long b.toInt64]) rfl ?_
    have : b.toInt64.toInt = b.toInt := (i2lI rfl)
    have := (by decide : ((Int64.ofNat 0)).toInt = 0)
    have := (by decide : ((Int64.ofNat 1)).toInt = 1)
    refine En_callS rfl rfl rfl rfl rfl rfl rfl rfl rfl (c_249 σ0 hσ0 b.toInt64 ((Int64.ofNat 0)) ((Int64.ofNat 1))) (by decide) (by decide) (fun v17 σ18 h16 => ?_)
    obtain ⟨h19, h20, z22, rfl, h21⟩ := h16
    obtain rfl : σ0 = σ18 := Fr_nil h20
    refine En_iEq _ rfl rfl (fun h23 => ?_) (fun h23 => ?_)
    · refine En_Ps 1 (pc' := 42) (lv' := [(0, .ref 159), (1, .int a), (2, .int b), (3, .int c)]) (st' := [.int (((Int8.ofInt (-2)).toInt32))]) rfl ?_
      refine En_top (by decide : ((Int8.ofInt (-2)).toInt32).toInt = -2) (fun z24 h25 => ?_)
      exact En_ret (v := some (.int z24)) rfl rfl rfl ⟨hσ0, hF0, z24, rfl, ⟨by first | exact q_f35c5d346c h25 | omega, by first | exact q_307520f238 h25 | omega, (by have q0 : ¬ trC (wf σ0) a.toInt b.toInt c.toInt := (by omega); exact ⟨fun _ _ => rfl, trR_n q0 (by omega), trMn q0⟩)⟩⟩
    · refine En_Ps 4 (pc' := 22) (lv' := [(0, .ref 159), (1, .int a), (2, .int b), (3, .int c)]) (st' := [.int b, .long ((Int64.ofNat 0)), .long c.toInt64]) rfl ?_
      refine En_iNe _ rfl rfl (fun h26 => ?_) (fun h26 => ?_)
      · refine En_Ps 1 (pc' := 34) (lv' := [(0, .ref 159), (1, .int a), (2, .int b), (3, .int c)]) (st' := [.long ((50 : Int64)), .long ((Int64.ofNat 0)), .long c.toInt64]) rfl ?_
        have : c.toInt64.toInt = c.toInt := (i2lI rfl)
        have := (by decide : ((Int64.ofNat 0)).toInt = 0)
        have := (by decide : ((50 : Int64)).toInt = 50)
        refine En_callS rfl rfl rfl rfl rfl rfl rfl rfl rfl (c_249 σ0 hσ0 c.toInt64 ((Int64.ofNat 0)) ((50 : Int64))) (by decide) (by decide) (fun v28 σ29 h27 => ?_)
        obtain ⟨h30, h31, z33, rfl, h32⟩ := h27
        obtain rfl : σ0 = σ29 := Fr_nil h31
        refine En_iNe _ rfl rfl (fun h34 => ?_) (fun h34 => ?_)
        · refine En_Ps 3 (pc' := 46) (lv' := [(0, .ref 159), (1, .int a), (2, .int b), (3, .int c)]) (st' := [.int b, .int a, .ref 159]) rfl ?_
          obtain ⟨z35, h36, h37, h38⟩ := WT_peekJ (J := (4 * a.toInt + b.toInt + 10)) (l := 0) (u := 50) hσ0 tgz_160 (by decide +kernel) (by omega) (lnI (by decide +kernel : LN _ = 226) (by omega)) (FTrow 36 11 4 4 (by decide +kernel) (by omega) (by omega) (by omega))
          refine En_callV rfl rfl rfl rfl rfl rfl rfl rfl tgz_159 (by decide +kernel) rfl (c_290b σ0 hσ0 a b (geI rfl (by omega)) (leI rfl (by omega)) (geI rfl (by omega)) (leI rfl (by omega)) z35 h36) (by decide) (by decide) (fun v40 σ41 h39 => ?_)
          obtain ⟨h42, h43, z45, rfl, h44⟩ := h39
          obtain rfl : σ0 = σ41 := Fr_nil h43
          refine En_Ps 2 (pc' := 52) (lv' := [(4, .int z45), (0, .ref 159), (1, .int a), (2, .int b), (3, .int c)]) (st' := [.ref 159]) rfl ?_
          refine En_getU (j := 1) (u := 160) (g' := 36) (q := 0) rfl rfl rfl tgz_159 (by decide +kernel) hσ0 (by decide +kernel) (by decide +kernel) (fun h46 => ?_)
          refine En_Ps 4 (pc' := 60) (lv' := [(4, .int z45), (0, .ref 159), (1, .int a), (2, .int b), (3, .int c)]) (st' := [.int ((((Int32.ofInt 4)) * a)), .int (((Int8.ofInt 10).toInt32)), .ref 160]) rfl ?_
          refine En_top (mulI (by decide : (Int32.ofInt 4).toInt = 4) rfl (Z := 4 * a.toInt) (by first | exact q_8696eb12a7 | omega) (by omega) (by omega)) (fun z48 h49 => ?_)
          refine En_Ps 1 (pc' := 61) (lv' := [(4, .int z45), (0, .ref 159), (1, .int a), (2, .int b), (3, .int c)]) (st' := [.int (((((Int8.ofInt 10).toInt32)) + z48)), .ref 160]) rfl ?_
          refine En_top (addI (by decide : ((Int8.ofInt 10).toInt32).toInt = 10) rfl (by omega) (by omega)) (fun z50 h51 => ?_)
          refine En_Ps 2 (pc' := 63) (lv' := [(4, .int z45), (0, .ref 159), (1, .int a), (2, .int b), (3, .int c)]) (st' := [.int ((z50 + b)), .ref 160]) rfl ?_
          refine En_top (addI rfl rfl (by omega) (by omega)) (fun z52 h53 => ?_)
          refine En_Ps 1 (pc' := 64) (lv' := [(4, .int z45), (0, .ref 159), (1, .int a), (2, .int b), (3, .int c)]) (st' := [.int c, .int z52, .ref 160]) rfl ?_
          have w54 : wf σ0 (10 + 4 * a.toInt + b.toInt) = z35.toInt := ci_at h36 (by omega)
          refine En_iast (l := 0) (u := 50) rfl rfl tgz_160 (by decide +kernel) (by omega) (lnI (by decide +kernel : LN _ = 226) (by omega)) (FTrow 36 11 4 4 (by decide +kernel) (by omega) (by omega) (by omega)) (rngI rfl (by omega) (by omega)) hσ0 hF0 (by decide +kernel) (fun σ55 h56 h57 h58 h59 => ?_)
          refine En_Ps 1 (pc' := 67) (lv' := [(4, .int z45), (0, .ref 159), (1, .int a), (2, .int b), (3, .int c)]) (st' := [.int z45]) rfl ?_
          exact En_ret (v := some (.int z45)) rfl rfl rfl ⟨h56, h57, z45, rfl, ⟨by first | exact q_70a249c7f8 h44.1 | omega, by first | exact q_ff529c7430 h44.2.1 | omega, ⟨fun i hi => (by rw [show wf _ i = ci _ 160 i from rfl, ci_st h58 h59 (by omega) i (by omega), if_neg (by omega)]; rfl), trR_y (i := 10 + 4 * a.toInt + b.toInt) (by omega) (by omega) (w54.trans (by omega)), trM (fun i hi => (by rw [show wf _ i = ci _ 160 i from rfl, ci_st h58 h59 (by omega) i hi]; rfl)) (by omega) (by omega) rfl⟩⟩⟩
        · refine En_Ps 1 (pc' := 42) (lv' := [(0, .ref 159), (1, .int a), (2, .int b), (3, .int c)]) (st' := [.int (((Int8.ofInt (-2)).toInt32))]) rfl ?_
          refine En_top (by decide : ((Int8.ofInt (-2)).toInt32).toInt = -2) (fun z60 h61 => ?_)
          exact En_ret (v := some (.int z60)) rfl rfl rfl ⟨hσ0, hF0, z60, rfl, ⟨by first | exact q_f35c5d346c h61 | omega, by first | exact q_307520f238 h61 | omega, (by have q0 : ¬ trC (wf σ0) a.toInt b.toInt c.toInt := (by omega); exact ⟨fun _ _ => rfl, trR_n q0 (by omega), trMn q0⟩)⟩⟩
      · refine En_Ps 2 (pc' := 34) (lv' := [(0, .ref 159), (1, .int a), (2, .int b), (3, .int c)]) (st' := [.long ((2 : Int64)), .long ((Int64.ofNat 0)), .long c.toInt64]) rfl ?_
        have : c.toInt64.toInt = c.toInt := (i2lI rfl)
        have := (by decide : ((Int64.ofNat 0)).toInt = 0)
        have := (by decide : ((2 : Int64)).toInt = 2)
        refine En_callS rfl rfl rfl rfl rfl rfl rfl rfl rfl (c_249 σ0 hσ0 c.toInt64 ((Int64.ofNat 0)) ((2 : Int64))) (by decide) (by decide) (fun v63 σ64 h62 => ?_)
        obtain ⟨h65, h66, z68, rfl, h67⟩ := h62
        obtain rfl : σ0 = σ64 := Fr_nil h66
        refine En_iNe _ rfl rfl (fun h69 => ?_) (fun h69 => ?_)
        · refine En_Ps 3 (pc' := 46) (lv' := [(0, .ref 159), (1, .int a), (2, .int b), (3, .int c)]) (st' := [.int b, .int a, .ref 159]) rfl ?_
          obtain ⟨z70, h71, h72, h73⟩ := WT_peekJ (J := (4 * a.toInt + b.toInt + 10)) (l := 0) (u := 2) hσ0 tgz_160 (by decide +kernel) (by omega) (lnI (by decide +kernel : LN _ = 226) (by omega)) (FTrow 36 10 4 4 (by decide +kernel) (by omega) (by omega) (by omega))
          refine En_callV rfl rfl rfl rfl rfl rfl rfl rfl tgz_159 (by decide +kernel) rfl (c_290a σ0 hσ0 a b (geI rfl (by omega)) (leI rfl (by omega)) (geI rfl (by first | exact q_55451d0a83 h26 | omega)) (leI rfl (by first | exact q_c5d285f1b9 h26 | omega)) z70 h71) (by decide) (by decide) (fun v75 σ76 h74 => ?_)
          obtain ⟨h77, h78, z80, rfl, h79⟩ := h74
          obtain rfl : σ0 = σ76 := Fr_nil h78
          refine En_Ps 2 (pc' := 52) (lv' := [(4, .int z80), (0, .ref 159), (1, .int a), (2, .int b), (3, .int c)]) (st' := [.ref 159]) rfl ?_
          refine En_getU (j := 1) (u := 160) (g' := 36) (q := 0) rfl rfl rfl tgz_159 (by decide +kernel) hσ0 (by decide +kernel) (by decide +kernel) (fun h81 => ?_)
          refine En_Ps 4 (pc' := 60) (lv' := [(4, .int z80), (0, .ref 159), (1, .int a), (2, .int b), (3, .int c)]) (st' := [.int ((((Int32.ofInt 4)) * a)), .int (((Int8.ofInt 10).toInt32)), .ref 160]) rfl ?_
          refine En_top (mulI (by decide : (Int32.ofInt 4).toInt = 4) rfl (Z := 4 * a.toInt) (by first | exact q_8696eb12a7 | omega) (by omega) (by omega)) (fun z83 h84 => ?_)
          refine En_Ps 1 (pc' := 61) (lv' := [(4, .int z80), (0, .ref 159), (1, .int a), (2, .int b), (3, .int c)]) (st' := [.int (((((Int8.ofInt 10).toInt32)) + z83)), .ref 160]) rfl ?_
          refine En_top (addI (by decide : ((Int8.ofInt 10).toInt32).toInt = 10) rfl (by omega) (by omega)) (fun z85 h86 => ?_)
          refine En_Ps 2 (pc' := 63) (lv' := [(4, .int z80), (0, .ref 159), (1, .int a), (2, .int b), (3, .int c)]) (st' := [.int ((z85 + b)), .ref 160]) rfl ?_
          refine En_top (addI rfl rfl (by omega) (by omega)) (fun z87 h88 => ?_)
          refine En_Ps 1 (pc' := 64) (lv' := [(4, .int z80), (0, .ref 159), (1, .int a), (2, .int b), (3, .int c)]) (st' := [.int c, .int z87, .ref 160]) rfl ?_
          have w89 : wf σ0 (10 + 4 * a.toInt + b.toInt) = z70.toInt := ci_at h71 (by omega)
          refine En_iast (l := 0) (u := 2) rfl rfl tgz_160 (by decide +kernel) (by omega) (lnI (by decide +kernel : LN _ = 226) (by omega)) (FTrow 36 10 4 4 (by decide +kernel) (by omega) (by omega) (by omega)) (rngI rfl (by omega) (by omega)) hσ0 hF0 (by decide +kernel) (fun σ90 h91 h92 h93 h94 => ?_)
          refine En_Ps 1 (pc' := 67) (lv' := [(4, .int z80), (0, .ref 159), (1, .int a), (2, .int b), (3, .int c)]) (st' := [.int z80]) rfl ?_
          exact En_ret (v := some (.int z80)) rfl rfl rfl ⟨h91, h92, z80, rfl, ⟨by first | exact q_70a249c7f8 h79.1 | omega, by first | exact q_b4dfe153ab h79.2.1 | omega, ⟨fun i hi => (by rw [show wf _ i = ci _ 160 i from rfl, ci_st h93 h94 (by omega) i (by omega), if_neg (by omega)]; rfl), trR_y (i := 10 + 4 * a.toInt + b.toInt) (by omega) (by omega) (w89.trans (by omega)), trM (fun i hi => (by rw [show wf _ i = ci _ 160 i from rfl, ci_st h93 h94 (by omega) i hi]; rfl)) (by omega) (by omega) rfl⟩⟩⟩
        · refine En_Ps 1 (pc' := 42) (lv' := [(0, .ref 159), (1, .int a), (2, .int b), (3, .int c)]) (st' := [.int (((Int8.ofInt (-2)).toInt32))]) rfl ?_
          refine En_top (by decide : ((Int8.ofInt (-2)).toInt32).toInt = -2) (fun z95 h96 => ?_)
          exact En_ret (v := some (.int z95)) rfl rfl rfl ⟨hσ0, hF0, z95, rfl, ⟨by first | exact q_f35c5d346c h96 | omega, by first | exact q_307520f238 h96 | omega, (by have q0 : ¬ trC (wf σ0) a.toInt b.toInt c.toInt := (by omega); exact ⟨fun _ _ => rfl, trR_n q0 (by omega), trMn q0⟩)⟩⟩
/-- DoorSchoolModel.unteach()I -/
abbrev P_329x (σ0 : SG) : PO := fun v σ => WT σ ∧ Fr [(36, 0)] σ0 σ ∧ ∃ ret : Int32, v = some (.int ret) ∧ -ret.toInt - 5 ≤ 0 ∧ ret.toInt - 3 ≤ 0 ∧ (WINV (wf σ) ∧ ret.toInt = utR (wf σ0) ∧ (∀ i : Int, 0 ≤ i → i < 226 → wf σ i = utW (wf σ0) i))
set_option maxRecDepth 10000 in
set_option maxHeartbeats 4000000 in
theorem c_329x (σ0 : SG) (hσ0 : WT σ0) (hI : WINV (wf σ0)) : En 1 20 none mr_329 (P_329x σ0) 0 [(0, .ref 159)] [] σ0 := by
  have hF0 : Fr [(36, 0)] σ0 σ0 := Fr_rfl
  refine En_Ps 1 (pc' := 1) (lv' := [(0, .ref 159)]) (st' := [.ref 159]) rfl ?_
  obtain ⟨z2, h1, h3, h4⟩ := WT_peekI hσ0 tgz_160 (by decide +kernel : FT 36 (7 : Int).toNat = (0, 0, 1600)) (by decide +kernel)
  refine En_callV rfl rfl rfl rfl rfl rfl rfl rfl tgz_159 (by decide +kernel) rfl (c_264 σ0 hσ0 z2 h1) (by decide) (by decide) (fun v6 σ7 h5 => ?_)
  obtain ⟨h8, h9, z11, rfl, h10⟩ := h5
  obtain rfl : σ0 = σ7 := Fr_nil h9
  have w12 : wf σ0 (7) = z2.toInt := ci_at h1 (by omega)
  refine En_iNe _ rfl rfl (fun h13 => ?_) (fun h13 => ?_)
  · refine En_Ps 1 (pc' := 11) (lv' := [(0, .ref 159)]) (st' := [.ref 159]) rfl ?_
    refine En_getU (j := 1) (u := 160) (g' := 36) (q := 0) rfl rfl rfl tgz_159 (by decide +kernel) hσ0 (by decide +kernel) (by decide +kernel) (fun h14 => ?_)
    refine En_Ps 1 (pc' := 16) (lv' := [(0, .ref 159)]) (st' := [.int (((Int8.ofInt 6).toInt32)), .ref 160]) rfl ?_
    refine En_iald (l := 0) (u := 60) rfl (by decide : ((Int8.ofInt 6).toInt32).toInt = 6) tgz_160 (by decide +kernel) hσ0 (by decide) (lnI (by decide +kernel : LN _ = 226) (by decide)) (by decide +kernel) (fun z17 h16 h18 h19 => ?_)
    have w20 : wf σ0 (6) = z17.toInt := ci_at h16 (by omega)
    refine En_iNe _ rfl rfl (fun h21 => ?_) (fun h21 => ?_)
    · refine En_Ps 1 (pc' := 24) (lv' := [(0, .ref 159)]) (st' := [.ref 159]) rfl ?_
      refine En_getK (j := 1) h14 rfl rfl rfl tgz_159 (by decide +kernel) ?_
      refine En_Ps 2 (pc' := 30) (lv' := [(0, .ref 159)]) (st' := [.int (((Int8.ofInt 6).toInt32)), .ref 160, .int (((Int8.ofInt 6).toInt32)), .ref 160]) rfl ?_
      refine En_ialdK h16 rfl (by decide : ((Int8.ofInt 6).toInt32).toInt = 6) tgz_160 (by decide +kernel) hσ0 (by decide) (lnI (by decide +kernel : LN _ = 226) (by decide)) ?_
      refine En_Ps 2 (pc' := 33) (lv' := [(0, .ref 159)]) (st' := [.int ((z17 - ((Int32.ofInt 1)))), .int (((Int8.ofInt 6).toInt32)), .ref 160]) rfl ?_
      refine En_top (subI rfl (by decide : (Int32.ofInt 1).toInt = 1) (by first | exact q_ee101262ad h21 h18 | omega) (by first | exact q_b13050f55d h19 | omega)) (fun z23 h24 => ?_)
      refine En_iast (l := 0) (u := 60) rfl (by decide : ((Int8.ofInt 6).toInt32).toInt = 6) tgz_160 (by decide +kernel) (by decide) (lnI (by decide +kernel : LN _ = 226) (by decide)) (by decide +kernel) (rngI rfl (by first | exact q_1298620a37 h24 h21 h18 | omega) (by first | exact q_7c91e6b6c0 h24 h19 | omega)) hσ0 hF0 (by decide +kernel) (fun σ25 h26 h27 h28 h29 => ?_)
      refine En_Ps 1 (pc' := 35) (lv' := [(0, .ref 159)]) (st' := [.ref 159]) rfl ?_
      refine En_getK (j := 1) ((h29 _ _ (Or.inl (neTG tgz_159 tgz_160 (by decide)))).trans h14) rfl rfl rfl tgz_159 (by decide +kernel) ?_
      refine En_Ps 2 (pc' := 42) (lv' := [(0, .ref 159)]) (st' := [.ref 159, .int (((Int16.ofInt 166).toInt32)), .ref 160]) rfl ?_
      refine En_getK (j := 1) ((h29 _ _ (Or.inl (neTG tgz_159 tgz_160 (by decide)))).trans h14) rfl rfl rfl tgz_159 (by decide +kernel) ?_
      refine En_Ps 1 (pc' := 47) (lv' := [(0, .ref 159)]) (st' := [.int (((Int8.ofInt 6).toInt32)), .ref 160, .int (((Int16.ofInt 166).toInt32)), .ref 160]) rfl ?_
      refine En_ialdK h28 rfl (by decide : ((Int8.ofInt 6).toInt32).toInt = 6) tgz_160 (by decide +kernel) h26 (by decide) (lnI (by decide +kernel : LN _ = 226) (by decide)) ?_
      refine En_Ps 1 (pc' := 49) (lv' := [(0, .ref 159)]) (st' := [.int (((((Int16.ofInt 166).toInt32)) + z23)), .ref 160]) rfl ?_
      refine En_top (addI (by decide : ((Int16.ofInt 166).toInt32).toInt = 166) rfl (by first | exact q_8c0da1ef4b h24 h21 h18 | omega) (by first | exact q_1e28427c20 h24 h19 | omega)) (fun z31 h32 => ?_)
      refine En_iald (l := 0) (u := 3) rfl rfl tgz_160 (by decide +kernel) h26 (by first | exact q_2b9e743492 h32 h24 h21 h18 | omega) (lnI (by decide +kernel : LN _ = 226) (by first | exact q_82d2f5345e h32 h24 h19 | omega)) (FTrow 36 166 1 60 (by decide +kernel) (by first | exact q_72ed8397c6 h32 h24 h21 h18 | omega) (by first | exact q_a6e24c7894 h32 h24 h19 | omega) (by first | exact q_50ef92cd29 | omega)) (fun z34 h33 h35 h36 => ?_)
      have h37 := ci_at h33 (rfl : z31.toInt = z31.toInt)
      have h38 := ci_st h28 h29 (by omega) (z31.toInt) (by omega)
      rw [if_neg (by omega)] at h38
      refine En_Ps 2 (pc' := 52) (lv' := [(1, .int z34), (0, .ref 159)]) (st' := [.ref 159]) rfl ?_
      refine En_getK (j := 1) ((h29 _ _ (Or.inl (neTG tgz_159 tgz_160 (by decide)))).trans h14) rfl rfl rfl tgz_159 (by decide +kernel) ?_
      refine En_Ps 4 (pc' := 60) (lv' := [(1, .int z34), (0, .ref 159)]) (st' := [.int ((((Int32.ofInt 4)) * z34)), .int (((Int8.ofInt 10).toInt32)), .ref 160]) rfl ?_
      refine En_top (mulI (by decide : (Int32.ofInt 4).toInt = 4) rfl (Z := 4 * z34.toInt) (by first | exact q_8696eb12a7 | omega) (by first | exact q_be45967ac2 h35 | omega) (by first | exact q_395a9d924c h36 | omega)) (fun z40 h41 => ?_)
      refine En_Ps 1 (pc' := 61) (lv' := [(1, .int z34), (0, .ref 159)]) (st' := [.int (((((Int8.ofInt 10).toInt32)) + z40)), .ref 160]) rfl ?_
      refine En_top (addI (by decide : ((Int8.ofInt 10).toInt32).toInt = 10) rfl (by first | exact q_7bfa00123f h41 h35 | omega) (by first | exact q_a63fdf625c h41 h36 | omega)) (fun z42 h43 => ?_)
      refine En_Ps 2 (pc' := 63) (lv' := [(1, .int z34), (0, .ref 159)]) (st' := [.int ((z42 + ((Int32.ofInt 2)))), .ref 160]) rfl ?_
      refine En_top (addI rfl (by decide : (Int32.ofInt 2).toInt = 2) (by first | exact q_f48788af97 h43 h41 h35 | omega) (by first | exact q_92445dc00e h43 h41 h36 | omega)) (fun z44 h45 => ?_)
      refine En_Ps 1 (pc' := 64) (lv' := [(1, .int z34), (0, .ref 159)]) (st' := [.int z44, .ref 160, .int z44, .ref 160]) rfl ?_
      refine En_iald (l := 0) (u := 12) rfl rfl tgz_160 (by decide +kernel) h26 (by first | exact q_a578b517ac h45 h43 h41 h35 | omega) (lnI (by decide +kernel : LN _ = 226) (by first | exact q_f266bffb3f h45 h43 h41 h36 | omega)) (FTrow 36 12 4 4 (by decide +kernel) (by first | exact q_25a2632096 h45 h43 h41 h35 | omega) (by first | exact q_6a14783eb1 h45 h43 h41 h36 | omega) (by first | exact q_29bc46c6fe h41 h43 h45 | omega)) (fun z47 h46 h48 h49 => ?_)
      refine En_Ps 1 (pc' := 66) (lv' := [(1, .int z34), (0, .ref 159)]) (st' := [.int ((Int32.ofInt 1)), .int z47, .int z44, .ref 160]) rfl ?_
      have h50 := WINV_ge hI (d := z34.toInt) (nt := z23.toInt + 1) (by have e1 := ci_at h16 (show (6 : Int) = (6 : Int) by omega); show _ = ci _ 160 _; omega) (by omega) (by show _ = ci _ 160 _; rw [show (166 : Int) + ((z23.toInt + 1) - 1) = z31.toInt by omega]; omega) (by omega) (by omega)
      have h51 := ci_at h46 (by omega : 12 + 4 * z34.toInt = _)
      have h52 := ci_st h28 h29 (by omega) (12 + 4 * z34.toInt) (by omega)
      rw [if_neg (by omega)] at h52
      have h53 : 1 ≤ z47.toInt := by have e3 : wf σ0 (12 + 4 * z34.toInt) = ci σ0 160 (12 + 4 * z34.toInt) := rfl; omega
      refine En_Ps 1 (pc' := 67) (lv' := [(1, .int z34), (0, .ref 159)]) (st' := [.int ((z47 - ((Int32.ofInt 1)))), .int z44, .ref 160]) rfl ?_
      refine En_top (subI rfl (by decide : (Int32.ofInt 1).toInt = 1) (by first | exact q_93f9478bef h48 | omega) (by first | exact q_5f4a85dce3 h49 | omega)) (fun z54 h55 => ?_)
      refine En_iast (l := 0) (u := 12) rfl rfl tgz_160 (by decide +kernel) (by first | exact q_a578b517ac h45 h43 h41 h35 | omega) (lnI (by decide +kernel : LN _ = 226) (by first | exact q_f266bffb3f h45 h43 h41 h36 | omega)) (FTrow 36 12 4 4 (by decide +kernel) (by first | exact q_25a2632096 h45 h43 h41 h35 | omega) (by first | exact q_6a14783eb1 h45 h43 h41 h36 | omega) (by first | exact q_29bc46c6fe h41 h43 h45 | omega)) (rngI rfl (by omega) (by first | exact q_0f6bf0cdc4 h55 h49 | omega)) h26 h27 (by decide +kernel) (fun σ56 h57 h58 h59 h60 => ?_)
      refine En_Ps 1 (pc' := 69) (lv' := [(1, .int z34), (0, .ref 159)]) (st' := [.int z34]) rfl ?_
      exact En_ret (v := some (.int z34)) rfl rfl rfl ⟨h57, h58, z34, rfl, ⟨by first | exact q_885c998ca8 h35 | omega, by first | exact q_e9a8eec0c4 h36 | omega, ⟨WINV_unteach2 (d := z34.toInt) (m := z54.toInt + 1) (nt := z23.toInt + 1) hI (fun i hi => (by rw [show wf _ i = ci _ 160 i from rfl, ci_st h59 h60 (by omega) i hi, ci_st h28 h29 (by omega) i hi]; rfl)) (by show _ = ci _ 160 _; omega) (by have e1 := ci_at h16 (show (6 : Int) = (6 : Int) by omega); show _ = ci _ 160 _; omega) (by omega) (by show _ = ci _ 160 _; rw [show (166 : Int) + ((z23.toInt + 1) - 1) = z31.toInt by omega]; omega) (by omega) (by omega) (by omega) (by omega) (by omega) (by omega), by unfold utR utD; rw [if_neg (by omega), if_neg (by omega), show wf σ0 6 = z23.toInt + 1 from Eq.symm (by have e1 := ci_at h16 (show (6 : Int) = (6 : Int) by omega); show _ = ci _ 160 _; omega)]; exact (by show _ = ci _ 160 _; rw [show (166 : Int) + ((z23.toInt + 1) - 1) = z31.toInt by omega]; omega), utM (d := z34.toInt) (m := z54.toInt + 1) (nt := z23.toInt + 1) (fun i hi => (by rw [show wf _ i = ci _ 160 i from rfl, ci_st h59 h60 (by omega) i hi, ci_st h28 h29 (by omega) i hi]; rfl)) (by omega) (by show _ = ci _ 160 _; omega) (by have e1 := ci_at h16 (show (6 : Int) = (6 : Int) by omega); show _ = ci _ 160 _; omega) (by omega) (by show _ = ci _ 160 _; rw [show (166 : Int) + ((z23.toInt + 1) - 1) = z31.toInt by omega]; omega) (by omega) (by omega) (by omega) (by omega)⟩⟩⟩
    · refine En_Ps 1 (pc' := 22) (lv' := [(0, .ref 159)]) (st' := [.int (((Int8.ofInt (-5)).toInt32))]) rfl ?_
      refine En_top (by decide : ((Int8.ofInt (-5)).toInt32).toInt = -5) (fun z61 h62 => ?_)
      exact En_ret (v := some (.int z61)) rfl rfl rfl ⟨hσ0, hF0, z61, rfl, ⟨by first | exact q_715ce6bb90 h62 | omega, by first | exact q_08e77983b4 h62 | omega, ⟨hI, by unfold utR; rw [if_neg (by omega), if_pos (by omega)]; omega, utMn (by omega) (fun i _ _ => rfl)⟩⟩⟩
  · refine En_Ps 1 (pc' := 9) (lv' := [(0, .ref 159)]) (st' := [.int (((Int8.ofInt (-2)).toInt32))]) rfl ?_
    refine En_top (by decide : ((Int8.ofInt (-2)).toInt32).toInt = -2) (fun z63 h64 => ?_)
    exact En_ret (v := some (.int z63)) rfl rfl rfl ⟨hσ0, hF0, z63, rfl, ⟨by first | exact q_f1982a04c6 h64 | omega, by first | exact q_09eb541a79 h64 | omega, ⟨hI, by unfold utR; rw [if_pos (by omega)]; omega, utMn (by omega) (fun i _ _ => rfl)⟩⟩⟩

