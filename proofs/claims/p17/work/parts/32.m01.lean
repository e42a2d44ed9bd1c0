/-- DoorSchoolModel.isCopied(I)Z -/
abbrev P_253x (σ0 : SG) (a : Int32) : PO := fun v σ => WT σ ∧ Fr [] σ0 σ ∧ ∃ ret : Int32, v = some (.int ret) ∧ -ret.toInt ≤ 0 ∧ ret.toInt - 1 ≤ 0 ∧ Imp (ret.toInt - 1 ≤ 0 ∧ -ret.toInt + 1 ≤ 0) (-a.toInt - 1 ≤ 0 ∧ a.toInt - 3 ≤ 0) ∧ ret.toInt = cpI (wf σ0) a.toInt
set_option maxRecDepth 10000 in
set_option maxHeartbeats 4000000 in
theorem c_253x (σ0 : SG) (hσ0 : WT σ0) (a : Int32) : En 1 22 none mr_253 (P_253x σ0 a) 0 [(0, .ref 159), (1, .int a)] [] σ0 := by
  have hF0 : Fr [] σ0 σ0 := Fr_rfl
  refine En_Ps 2 (pc' := 2) (lv' := [(2, .int ((Int32.ofInt 0))), (0, .ref 159), (1, .int a)]) (st' := []) rfl ?_
  have key2 : ∀ (n2 : Nat) (y1 : Int32), 0 ≤ y1.toInt → y1.toInt ≤ 4 → -y1.toInt + 4 < (n2 : Int) → NCw (wf σ0) a.toInt y1.toInt → En 1 22 none mr_253 (P_253x σ0 a) 2 [(0, .ref 159), (1, .int a), (2, .int y1)] [] σ0 := by
    intro n2
    induction n2 with
    | zero =>
      intro y1 h5 h6 h7 h8
      exfalso; omega
    | succ n2 ih2 =>
      intro y1 h5 h6 h7 h8
      refine En_Ps 2 (pc' := 4) (lv' := [(0, .ref 159), (1, .int a), (2, .int y1)]) (st' := [.ref 159, .int y1]) rfl ?_
      refine En_getU (j := 1) (u := 160) (g' := 36) (q := 0) rfl rfl rfl tgz_159 (by decide +kernel) hσ0 (by decide +kernel) (by decide +kernel) (fun h9 => ?_)
      refine En_Ps 1 (pc' := 8) (lv' := [(0, .ref 159), (1, .int a), (2, .int y1)]) (st' := [.int ((Int32.ofInt 2)), .ref 160, .int y1]) rfl ?_
      refine En_iald (l := 0) (u := 4) rfl (by decide : (Int32.ofInt 2).toInt = 2) tgz_160 (by decide +kernel) hσ0 (by omega) (lnI (by decide +kernel : LN _ = 226) (by omega)) (by decide +kernel) (fun z12 h11 h13 h14 => ?_)
      have w15 : wf σ0 (2) = z12.toInt := ci_at h11 (by omega)
      refine En_icGe _ rfl rfl rfl (fun h16 => ?_) (fun h16 => ?_)
      · refine En_Ps 1 (pc' := 31) (lv' := [(0, .ref 159), (1, .int a), (2, .int y1)]) (st' := [.int ((Int32.ofInt 0))]) rfl ?_
        refine En_top (by decide : (Int32.ofInt 0).toInt = 0) (fun z17 h18 => ?_)
        exact En_ret (v := some (.int z17)) rfl rfl (retZ rfl rfl (by omega) (by omega)) ⟨hσ0, hF0, z17, rfl, ⟨by omega, by omega, fun _ => by omega, CPw_n h8 (by omega) (by omega)⟩⟩
      · refine En_Ps 3 (pc' := 15) (lv' := [(0, .ref 159), (1, .int a), (2, .int y1)]) (st' := [.int ((Int32.ofInt 3)), .int y1, .ref 159]) rfl ?_
        have := (by decide : ((Int32.ofInt 3)).toInt = 3)
        obtain ⟨z19, h20, h21, h22⟩ := WT_peekJ (J := (4 * y1.toInt + ((Int32.ofInt 3)).toInt + 10)) (l := (-1)) (u := 3) hσ0 tgz_160 (by decide +kernel) (by omega) (lnI (by decide +kernel : LN _ = 226) (by omega)) (FTrow 36 13 4 4 (by decide +kernel) (by omega) (by omega) (by omega))
        have := (by decide : ((Int32.ofInt 3)).toInt = 3)
        refine En_callV rfl rfl rfl rfl rfl rfl rfl rfl tgz_159 (by decide +kernel) rfl (c_290d σ0 hσ0 y1 ((Int32.ofInt 3)) (geI rfl (by omega)) (leI rfl (by omega)) (geI (by decide : (Int32.ofInt 3).toInt = 3) (by omega)) (leI (by decide : (Int32.ofInt 3).toInt = 3) (by omega)) z19 h20) (by decide) (by decide) (fun v24 σ25 h23 => ?_)
        obtain ⟨h26, h27, z29, rfl, h28⟩ := h23
        obtain rfl : σ0 = σ25 := Fr_nil h27
        refine En_Ps 1 (pc' := 19) (lv' := [(0, .ref 159), (1, .int a), (2, .int y1)]) (st' := [.int a, .int z29]) rfl ?_
        have w30 : wf σ0 (13 + 4 * y1.toInt) = z19.toInt := ci_at h20 (by omega)
        refine En_icNe _ rfl rfl rfl (fun h31 => ?_) (fun h31 => ?_)
        · refine En_Ps 1 (pc' := 27) (lv' := [(2, .int ((y1 + Int32.ofInt 1))), (0, .ref 159), (1, .int a)]) (st' := []) rfl ?_
          refine En_lv1 (addI rfl (by decide : (Int32.ofInt 1).toInt = 1) (by omega) (by omega)) (fun z32 h33 => ?_)
          refine En_Ps 1 (pc' := 2) (lv' := [(2, .int z32), (0, .ref 159), (1, .int a)]) (st' := []) rfl ?_
          refine En_lv (lv := [(0, .ref 159), (1, .int a), (2, .int z32)]) ⟨rfl, rfl, rfl, trivial⟩ ?_
          exact ih2 z32 (by omega) (by omega) (by omega) (NCw_s (y := y1.toInt) h8 (by have q0 := w30; rw [show (13 : Int) + 4 * y1.toInt = 13 + 4 * y1.toInt by omega, q0]; omega) (by omega))
        · refine En_Ps 1 (pc' := 23) (lv' := [(0, .ref 159), (1, .int a), (2, .int y1)]) (st' := [.int ((Int32.ofInt 1))]) rfl ?_
          refine En_top (by decide : (Int32.ofInt 1).toInt = 1) (fun z34 h35 => ?_)
          exact En_ret (v := some (.int z34)) rfl rfl (retZ rfl rfl (by omega) (by omega)) ⟨hσ0, hF0, z34, rfl, ⟨by omega, by omega, fun _ => by omega, CPw_1 (y := y1.toInt) (by omega) (by omega) (by omega) (by rw [show (13 : Int) + 4 * y1.toInt = 13 + 4 * y1.toInt by omega, w30]; omega) (by omega)⟩⟩
  have := (by decide : (Int32.ofInt 0).toInt = 0)
  refine En_lv (lv := [(0, .ref 159), (1, .int a), (2, .int ((Int32.ofInt 0)))]) ⟨rfl, rfl, rfl, trivial⟩ ?_
  exact key2 (Int.toNat (4) + 1) ((Int32.ofInt 0)) (by omega) (by omega) (by omega) (fun q q0 q1 => by omega)
/-- DoorSchoolModel.copy(II)I -/
abbrev P_205x (σ0 : SG) (a : Int32) (b : Int32) : PO := fun v σ => WT σ ∧ Fr [(36, 0)] σ0 σ ∧ ∃ ret : Int32, v = some (.int ret) ∧ -ret.toInt - 5 ≤ 0 ∧ ret.toInt - 3 ≤ 0 ∧ (SAM (wf σ0) (wf σ) ∧ (∀ i : Int, 0 ≤ i → i < 226 → wf σ i = cyW (wf σ0) a.toInt b.toInt i))
set_option maxRecDepth 10000 in
set_option maxHeartbeats 4000000 in
theorem c_205x (σ0 : SG) (hσ0 : WT σ0) (a : Int32) (b : Int32) (hT : TWN (wf σ0)) : En 2 46 none mr_205 (P_205x σ0 a b) 0 [(0, .ref 159), (1, .int a), (2, .int b)] [] σ0 := by
  have hF0 : Fr [(36, 0)] σ0 σ0 := Fr_rfl
  refine En_Ps 2 (pc' := 2) (lv' := [(0, .ref 159), (1, .int a), (2, .int b)]) (st' := [.int a, .ref 159]) rfl ?_
  obtain ⟨z2, h1, h3, h4⟩ := WT_peekI hσ0 tgz_160 (by decide +kernel : FT 36 (2 : Int).toNat = (0, 0, 4)) (by decide +kernel)
  refine En_callV rfl rfl rfl rfl rfl rfl rfl rfl tgz_159 (by decide +kernel) rfl (c_254 σ0 hσ0 a z2 h1) (by decide) (by decide) (fun v6 σ7 h5 => ?_)
  obtain ⟨h8, h9, z11, rfl, h10⟩ := h5
  obtain rfl : σ0 = σ7 := Fr_nil h9
  have w12 : wf σ0 (2) = z2.toInt := ci_at h1 (by omega)
  refine En_iEq _ rfl rfl (fun h13 => ?_) (fun h13 => ?_)
  · refine En_Ps 1 (pc' := 28) (lv' := [(0, .ref 159), (1, .int a), (2, .int b)]) (st' := [.int (((Int8.ofInt (-2)).toInt32))]) rfl ?_
    refine En_top (by decide : ((Int8.ofInt (-2)).toInt32).toInt = -2) (fun z14 h15 => ?_)
    exact En_ret (v := some (.int z14)) rfl rfl rfl ⟨hσ0, hF0, z14, rfl, ⟨by omega, by omega, ⟨fun _ _ => rfl, cyMn (by omega)⟩⟩⟩
  · refine En_Ps 2 (pc' := 10) (lv' := [(0, .ref 159), (1, .int a), (2, .int b)]) (st' := [.int ((Int32.ofInt (-1))), .int b]) rfl ?_
    refine En_icEq _ rfl (by decide : (Int32.ofInt (-1)).toInt = -1) rfl (fun h16 => ?_) (fun h16 => ?_)
    · refine En_Ps 2 (pc' := 23) (lv' := [(0, .ref 159), (1, .int a), (2, .int b)]) (st' := [.int b, .int a]) rfl ?_
      refine En_icNe _ rfl rfl rfl (fun h17 => ?_) (fun hx => by exfalso; omega)
      refine En_Ps 2 (pc' := 31) (lv' := [(0, .ref 159), (1, .int a), (2, .int b)]) (st' := [.int ((Int32.ofInt (-1))), .int b]) rfl ?_
      refine En_icEq _ rfl (by decide : (Int32.ofInt (-1)).toInt = -1) rfl (fun h18 => ?_) (fun hx => by exfalso; omega)
      refine En_Ps 3 (pc' := 58) (lv' := [(0, .ref 159), (1, .int a), (2, .int b)]) (st' := [.int ((Int32.ofInt 3)), .int a, .ref 159]) rfl ?_
      have := (by decide : ((Int32.ofInt 3)).toInt = 3)
      obtain ⟨z19, h20, h21, h22⟩ := WT_peekJ (J := (4 * a.toInt + ((Int32.ofInt 3)).toInt + 10)) (l := (-1)) (u := 3) hσ0 tgz_160 (by decide +kernel) (by omega) (lnI (by decide +kernel : LN _ = 226) (by omega)) (FTrow 36 13 4 4 (by decide +kernel) (by omega) (by omega) (by omega))
      have := (by decide : ((Int32.ofInt 3)).toInt = 3)
      refine En_callV rfl rfl rfl rfl rfl rfl rfl rfl tgz_159 (by decide +kernel) rfl (c_290d σ0 hσ0 a ((Int32.ofInt 3)) (geI rfl (by omega)) (leI rfl (by omega)) (geI (by decide : (Int32.ofInt 3).toInt = 3) (by omega)) (leI (by decide : (Int32.ofInt 3).toInt = 3) (by omega)) z19 h20) (by decide) (by decide) (fun v24 σ25 h23 => ?_)
      obtain ⟨h26, h27, z29, rfl, h28⟩ := h23
      obtain rfl : σ0 = σ25 := Fr_nil h27
      refine En_Ps 2 (pc' := 63) (lv' := [(3, .int z29), (0, .ref 159), (1, .int a), (2, .int b)]) (st' := [.ref 159]) rfl ?_
      refine En_getU (j := 1) (u := 160) (g' := 36) (q := 0) rfl rfl rfl tgz_159 (by decide +kernel) hσ0 (by decide +kernel) (by decide +kernel) (fun h30 => ?_)
      refine En_Ps 4 (pc' := 71) (lv' := [(3, .int z29), (0, .ref 159), (1, .int a), (2, .int b)]) (st' := [.int ((((Int32.ofInt 4)) * a)), .int (((Int8.ofInt 10).toInt32)), .ref 160]) rfl ?_
      refine En_top (mulI (by decide : (Int32.ofInt 4).toInt = 4) rfl (Z := 4 * a.toInt) (by omega) (by omega) (by omega)) (fun z32 h33 => ?_)
      refine En_Ps 1 (pc' := 72) (lv' := [(3, .int z29), (0, .ref 159), (1, .int a), (2, .int b)]) (st' := [.int (((((Int8.ofInt 10).toInt32)) + z32)), .ref 160]) rfl ?_
      refine En_top (addI (by decide : ((Int8.ofInt 10).toInt32).toInt = 10) rfl (by omega) (by omega)) (fun z34 h35 => ?_)
      refine En_Ps 2 (pc' := 74) (lv' := [(3, .int z29), (0, .ref 159), (1, .int a), (2, .int b)]) (st' := [.int ((z34 + ((Int32.ofInt 3)))), .ref 160]) rfl ?_
      refine En_top (addI rfl (by decide : (Int32.ofInt 3).toInt = 3) (by omega) (by omega)) (fun z36 h37 => ?_)
      refine En_Ps 1 (pc' := 75) (lv' := [(3, .int z29), (0, .ref 159), (1, .int a), (2, .int b)]) (st' := [.int b, .int z36, .ref 160]) rfl ?_
      have w38 : wf σ0 (13 + 4 * a.toInt) = z19.toInt := ci_at h20 (by omega)
      refine En_iast (l := (-1)) (u := 3) rfl rfl tgz_160 (by decide +kernel) (by omega) (lnI (by decide +kernel : LN _ = 226) (by omega)) (FTrow 36 13 4 4 (by decide +kernel) (by omega) (by omega) (by omega)) (rngI rfl (by omega) (by omega)) hσ0 hF0 (by decide +kernel) (fun σ39 h40 h41 h42 h43 => ?_)
      refine En_Ps 1 (pc' := 77) (lv' := [(3, .int z29), (0, .ref 159), (1, .int a), (2, .int b)]) (st' := [.int z29]) rfl ?_
      exact En_ret (v := some (.int z29)) rfl rfl rfl ⟨h40, h41, z29, rfl, ⟨by omega, by omega, ⟨fun i hi => (by rw [show wf _ i = ci _ 160 i from rfl, ci_st h42 h43 (by omega) i (by omega), if_neg (by omega)]; rfl), cyM hT (by omega) (fun i hi => (by rw [show wf _ i = ci _ 160 i from rfl, ci_st h42 h43 (by omega) i hi]; rfl)) (by omega) (by omega) (by omega) (by omega) (by omega) rfl⟩⟩⟩
    · refine En_Ps 2 (pc' := 15) (lv' := [(0, .ref 159), (1, .int a), (2, .int b)]) (st' := [.int b, .ref 159]) rfl ?_
      refine En_callV rfl rfl rfl rfl rfl rfl rfl rfl tgz_159 (by decide +kernel) rfl (c_254 σ0 hσ0 b z2 h1) (by decide) (by decide) (fun v45 σ46 h44 => ?_)
      obtain ⟨h47, h48, z50, rfl, h49⟩ := h44
      obtain rfl : σ0 = σ46 := Fr_nil h48
      refine En_iEq _ rfl rfl (fun h51 => ?_) (fun h51 => ?_)
      · refine En_Ps 1 (pc' := 28) (lv' := [(0, .ref 159), (1, .int a), (2, .int b)]) (st' := [.int (((Int8.ofInt (-2)).toInt32))]) rfl ?_
        refine En_top (by decide : ((Int8.ofInt (-2)).toInt32).toInt = -2) (fun z52 h53 => ?_)
        exact En_ret (v := some (.int z52)) rfl rfl rfl ⟨hσ0, hF0, z52, rfl, ⟨by omega, by omega, ⟨fun _ _ => rfl, cyMn (by omega)⟩⟩⟩
      · refine En_Ps 2 (pc' := 23) (lv' := [(0, .ref 159), (1, .int a), (2, .int b)]) (st' := [.int b, .int a]) rfl ?_
        refine En_icNe _ rfl rfl rfl (fun h54 => ?_) (fun h54 => ?_)
        · refine En_Ps 2 (pc' := 31) (lv' := [(0, .ref 159), (1, .int a), (2, .int b)]) (st' := [.int ((Int32.ofInt (-1))), .int b]) rfl ?_
          refine En_icEq _ rfl (by decide : (Int32.ofInt (-1)).toInt = -1) rfl (fun hx => by exfalso; omega) (fun h55 => ?_)
          refine En_Ps 3 (pc' := 37) (lv' := [(0, .ref 159), (1, .int a), (2, .int b)]) (st' := [.int ((Int32.ofInt 3)), .int b, .ref 159]) rfl ?_
          have := (by decide : ((Int32.ofInt 3)).toInt = 3)
          obtain ⟨z56, h57, h58, h59⟩ := WT_peekJ (J := (4 * b.toInt + ((Int32.ofInt 3)).toInt + 10)) (l := (-1)) (u := 3) hσ0 tgz_160 (by decide +kernel) (by omega) (lnI (by decide +kernel : LN _ = 226) (by omega)) (FTrow 36 13 4 4 (by decide +kernel) (by omega) (by omega) (by omega))
          have := (by decide : ((Int32.ofInt 3)).toInt = 3)
          refine En_callV rfl rfl rfl rfl rfl rfl rfl rfl tgz_159 (by decide +kernel) rfl (c_290d σ0 hσ0 b ((Int32.ofInt 3)) (geI rfl (by omega)) (leI rfl (by omega)) (geI (by decide : (Int32.ofInt 3).toInt = 3) (by omega)) (leI (by decide : (Int32.ofInt 3).toInt = 3) (by omega)) z56 h57) (by decide) (by decide) (fun v61 σ62 h60 => ?_)
          obtain ⟨h63, h64, z66, rfl, h65⟩ := h60
          obtain rfl : σ0 = σ62 := Fr_nil h64
          refine En_Ps 1 (pc' := 41) (lv' := [(0, .ref 159), (1, .int a), (2, .int b)]) (st' := [.int ((Int32.ofInt (-1))), .int z66]) rfl ?_
          have w67 : wf σ0 (13 + 4 * b.toInt) = z56.toInt := ci_at h57 (by omega)
          refine En_icNe _ rfl (by decide : (Int32.ofInt (-1)).toInt = -1) rfl (fun h68 => ?_) (fun h68 => ?_)
          · refine En_Ps 1 (pc' := 54) (lv' := [(0, .ref 159), (1, .int a), (2, .int b)]) (st' := [.int (((Int8.ofInt (-5)).toInt32))]) rfl ?_
            refine En_top (by decide : ((Int8.ofInt (-5)).toInt32).toInt = -5) (fun z69 h70 => ?_)
            exact En_ret (v := some (.int z69)) rfl rfl rfl ⟨hσ0, hF0, z69, rfl, ⟨by omega, by omega, ⟨fun _ _ => rfl, cyMn (by omega)⟩⟩⟩
          · refine En_Ps 2 (pc' := 46) (lv' := [(0, .ref 159), (1, .int a), (2, .int b)]) (st' := [.int a, .ref 159]) rfl ?_
            refine En_callV rfl rfl rfl rfl rfl rfl rfl rfl tgz_159 (by decide +kernel) rfl (c_253x σ0 hσ0 a) (by decide) (by decide) (fun v72 σ73 h71 => ?_)
            obtain ⟨h74, h75, z77, rfl, h76⟩ := h71
            have h78 := h76.2.2.2
            obtain rfl : σ0 = σ73 := Fr_nil h75
            have h79 : z77.toInt = cpI (wf σ0) a.toInt := h78
            refine En_iEq _ rfl rfl (fun h80 => ?_) (fun h80 => ?_)
            · refine En_Ps 3 (pc' := 58) (lv' := [(0, .ref 159), (1, .int a), (2, .int b)]) (st' := [.int ((Int32.ofInt 3)), .int a, .ref 159]) rfl ?_
              have := (by decide : ((Int32.ofInt 3)).toInt = 3)
              obtain ⟨z81, h82, h83, h84⟩ := WT_peekJ (J := (4 * a.toInt + ((Int32.ofInt 3)).toInt + 10)) (l := (-1)) (u := 3) hσ0 tgz_160 (by decide +kernel) (by omega) (lnI (by decide +kernel : LN _ = 226) (by omega)) (FTrow 36 13 4 4 (by decide +kernel) (by omega) (by omega) (by omega))
              have := (by decide : ((Int32.ofInt 3)).toInt = 3)
              refine En_callV rfl rfl rfl rfl rfl rfl rfl rfl tgz_159 (by decide +kernel) rfl (c_290d σ0 hσ0 a ((Int32.ofInt 3)) (geI rfl (by omega)) (leI rfl (by omega)) (geI (by decide : (Int32.ofInt 3).toInt = 3) (by omega)) (leI (by decide : (Int32.ofInt 3).toInt = 3) (by omega)) z81 h82) (by decide) (by decide) (fun v86 σ87 h85 => ?_)
              obtain ⟨h88, h89, z91, rfl, h90⟩ := h85
              obtain rfl : σ0 = σ87 := Fr_nil h89
              refine En_Ps 2 (pc' := 63) (lv' := [(3, .int z91), (0, .ref 159), (1, .int a), (2, .int b)]) (st' := [.ref 159]) rfl ?_
              refine En_getU (j := 1) (u := 160) (g' := 36) (q := 0) rfl rfl rfl tgz_159 (by decide +kernel) hσ0 (by decide +kernel) (by decide +kernel) (fun h92 => ?_)
              refine En_Ps 4 (pc' := 71) (lv' := [(3, .int z91), (0, .ref 159), (1, .int a), (2, .int b)]) (st' := [.int ((((Int32.ofInt 4)) * a)), .int (((Int8.ofInt 10).toInt32)), .ref 160]) rfl ?_
              refine En_top (mulI (by decide : (Int32.ofInt 4).toInt = 4) rfl (Z := 4 * a.toInt) (by omega) (by omega) (by omega)) (fun z94 h95 => ?_)
              refine En_Ps 1 (pc' := 72) (lv' := [(3, .int z91), (0, .ref 159), (1, .int a), (2, .int b)]) (st' := [.int (((((Int8.ofInt 10).toInt32)) + z94)), .ref 160]) rfl ?_
              refine En_top (addI (by decide : ((Int8.ofInt 10).toInt32).toInt = 10) rfl (by omega) (by omega)) (fun z96 h97 => ?_)
              refine En_Ps 2 (pc' := 74) (lv' := [(3, .int z91), (0, .ref 159), (1, .int a), (2, .int b)]) (st' := [.int ((z96 + ((Int32.ofInt 3)))), .ref 160]) rfl ?_
              refine En_top (addI rfl (by decide : (Int32.ofInt 3).toInt = 3) (by omega) (by omega)) (fun z98 h99 => ?_)
              refine En_Ps 1 (pc' := 75) (lv' := [(3, .int z91), (0, .ref 159), (1, .int a), (2, .int b)]) (st' := [.int b, .int z98, .ref 160]) rfl ?_
              have w100 : wf σ0 (13 + 4 * a.toInt) = z81.toInt := ci_at h82 (by omega)
              refine En_iast (l := (-1)) (u := 3) rfl rfl tgz_160 (by decide +kernel) (by omega) (lnI (by decide +kernel : LN _ = 226) (by omega)) (FTrow 36 13 4 4 (by decide +kernel) (by omega) (by omega) (by omega)) (rngI rfl (by omega) (by omega)) hσ0 hF0 (by decide +kernel) (fun σ101 h102 h103 h104 h105 => ?_)
              refine En_Ps 1 (pc' := 77) (lv' := [(3, .int z91), (0, .ref 159), (1, .int a), (2, .int b)]) (st' := [.int z91]) rfl ?_
              exact En_ret (v := some (.int z91)) rfl rfl rfl ⟨h102, h103, z91, rfl, ⟨by omega, by omega, ⟨fun i hi => (by rw [show wf _ i = ci _ 160 i from rfl, ci_st h104 h105 (by omega) i (by omega), if_neg (by omega)]; rfl), cyM hT (by omega) (fun i hi => (by rw [show wf _ i = ci _ 160 i from rfl, ci_st h104 h105 (by omega) i hi]; rfl)) (by omega) (by omega) (by omega) (by omega) (by omega) rfl⟩⟩⟩
            · have h106 := Imp_m h76.2.2.1 (by omega)
              refine En_Ps 1 (pc' := 54) (lv' := [(0, .ref 159), (1, .int a), (2, .int b)]) (st' := [.int (((Int8.ofInt (-5)).toInt32))]) rfl ?_
              refine En_top (by decide : ((Int8.ofInt (-5)).toInt32).toInt = -5) (fun z107 h108 => ?_)
              exact En_ret (v := some (.int z107)) rfl rfl rfl ⟨hσ0, hF0, z107, rfl, ⟨by omega, by omega, ⟨fun _ _ => rfl, cyMn (by omega)⟩⟩⟩
        · refine En_Ps 1 (pc' := 28) (lv' := [(0, .ref 159), (1, .int a), (2, .int b)]) (st' := [.int (((Int8.ofInt (-2)).toInt32))]) rfl ?_
          refine En_top (by decide : ((Int8.ofInt (-2)).toInt32).toInt = -2) (fun z109 h110 => ?_)
          exact En_ret (v := some (.int z109)) rfl rfl rfl ⟨hσ0, hF0, z109, rfl, ⟨by omega, by omega, ⟨fun _ _ => rfl, cyMn (by omega)⟩⟩⟩
/-- DoorSchoolModel.is(Ljava/lang/String;)Z -/
abbrev P_251gx (iL : Nat) (σ0 : SG) (By : Int → Int) (Nb : Int) (Sp : PS) : PO := fun v σ => WT σ ∧ Fr [] σ0 σ ∧ ∃ ret : Int32, v = some (.int ret) ∧ -ret.toInt ≤ 0 ∧ ret.toInt - 1 ≤ 0 ∧ ret.toInt = iW By Nb iL Sp
set_option maxRecDepth 10000 in
set_option maxHeartbeats 4000000 in
theorem c_251gx (iL nL : Nat) (gn : (decide (iL < NSTR) && decide (LENS.getD iL 0 = nL)) = true) (gN : (Int32.ofNat nL).toInt = (nL : Int)) (gL : (LW iL).length = nL) (g1 : 1 ≤ nL) (g9 : nL ≤ 20) {By : Int → Int} {Nb : Int} {Sp : PS} (σ0 : SG) (hσ0 : WT σ0) (hM : ML By Nb σ0 Sp) : En 4 90 none mr_251 (P_251gx iL σ0 By Nb Sp) 0 [(0, .ref 159), (1, .retAddr (2 * iL + 1))] [] σ0 := by
  have hF0 : Fr [] σ0 σ0 := Fr_rfl
  obtain ⟨z2, h1, h3, h4⟩ := WT_peekI hσ0 tgz_159 (by decide +kernel : FT 35 12 = (0, 0, 3)) (by decide +kernel)
  obtain ⟨z6, h5, h7, h8⟩ := WT_peekI hσ0 tgz_159 (by decide +kernel : FT 35 10 = (0, 0, 4)) (by decide +kernel)
  obtain ⟨z10, h9, h11, h12⟩ := WT_peekI hσ0 tgz_159 (by decide +kernel : FT 35 8 = (0, 0, 1600)) (by decide +kernel)
  obtain ⟨z14, h13, h15, h16⟩ := WT_peekI hσ0 tgz_159 (by decide +kernel : FT 35 9 = (0, 0, 1600)) (by decide +kernel)
  have h17 := ML_k hM h1
  have h18 : Imp (Sp.1 = 0) (tK By Nb Sp.2.2.1 = z6.toInt) := ML_t hM h5
  have h19 := ML_fa hM h9 h13
  refine En_Ps 1 (pc' := 1) (lv' := [(0, .ref 159), (1, .retAddr (2 * iL + 1))]) (st' := [.ref 159]) rfl ?_
  refine En_callV rfl rfl rfl rfl rfl rfl rfl rfl tgz_159 (by decide +kernel) rfl (c_237 σ0 hσ0 z2 h1) (by decide) (by decide) (fun v21 σ22 h20 => ?_)
  obtain ⟨h23, h24, z26, rfl, h25⟩ := h20
  obtain rfl : σ0 = σ22 := Fr_nil h24
  refine En_iEq _ rfl rfl (fun h27 => ?_) (fun h27 => ?_)
  · refine En_Ps 4 (pc' := 39) (lv' := [(3, .int ((Int32.ofInt 0))), (2, .int ((Int32.ofInt 0))), (0, .ref 159), (1, .retAddr (2 * iL + 1))]) (st' := []) rfl ?_
    have key39 : ∀ (n39 : Nat) (σ30 : SG) (y28 : Int32) (y29 : Int32), WT σ30 → Fr [] σ0 σ30 → (σ30 159)[12]? = some (.int z2) → (σ30 159)[10]? = some (.int z6) → (σ30 159)[8]? = some (.int z10) → (σ30 159)[9]? = some (.int z14) → 0 ≤ y28.toInt → y28.toInt ≤ 0 → 0 ≤ y29.toInt → y29.toInt ≤ 0 → z2.toInt - y28.toInt < (n39 : Int) → ISQ By Nb iL Sp y28.toInt y29.toInt → En 4 90 none mr_251 (P_251gx iL σ0 By Nb Sp) 39 [(0, .ref 159), (1, .retAddr (2 * iL + 1)), (2, .int y28), (3, .int y29)] [] σ30 := by
      intro n39
      induction n39 with
      | zero =>
        intro σ30 y28 y29 h31 h32 h33 h34 h35 h36 h37 h38 h39 h40 h41 h42
        exfalso; omega
      | succ n39 ih39 =>
        intro σ30 y28 y29 h31 h32 h33 h34 h35 h36 h37 h38 h39 h40 h41 h42
        refine En_Ps 2 (pc' := 41) (lv' := [(0, .ref 159), (1, .retAddr (2 * iL + 1)), (2, .int y28), (3, .int y29)]) (st' := [.retAddr (2 * iL + 1), .int y29]) rfl ?_
        refine En_slen iL nL rfl rfl gn rfl ?_
        refine En_icGe _ rfl gN rfl (fun hx => by exfalso; omega) (fun h43 => ?_)
        refine En_Ps 1 (pc' := 48) (lv' := [(0, .ref 159), (1, .retAddr (2 * iL + 1)), (2, .int y28), (3, .int y29)]) (st' := [.int y28]) rfl ?_
        refine En_iEq _ rfl rfl (fun h44 => ?_) (fun hx => by exfalso; omega)
        refine En_Ps 1 (pc' := 83) (lv' := [(0, .ref 159), (1, .retAddr (2 * iL + 1)), (2, .int y28), (3, .int y29)]) (st' := [.int y28]) rfl ?_
        exact En_ret (v := some (.int y28)) rfl rfl (retZ rfl rfl (by omega) (by omega)) ⟨h31, h32, y28, rfl, ⟨by omega, by omega, ISQ_x h42 (by simp only [gL]; omega)⟩⟩
    have := (by decide : (Int32.ofInt 0).toInt = 0)
    have := (by decide : (Int32.ofInt 0).toInt = 0)
    refine En_lv (lv := [(0, .ref 159), (1, .retAddr (2 * iL + 1)), (2, .int ((Int32.ofInt 0))), (3, .int ((Int32.ofInt 0)))]) ⟨rfl, rfl, rfl, rfl, trivial⟩ ?_
    exact key39 (Int.toNat (z2.toInt) + 1) σ0 ((Int32.ofInt 0)) ((Int32.ofInt 0)) hσ0 hF0 h1 h5 h9 h13 (by omega) (by omega) (by omega) (by omega) (by omega) (ISQ_s (by decide) (by (try have i0 := Imp_m h18 (by omega)); simp only [gL]; omega))
  · refine En_Ps 1 (pc' := 8) (lv' := [(0, .ref 159), (1, .retAddr (2 * iL + 1))]) (st' := [.ref 159]) rfl ?_
    refine En_getK (j := 10) h5 rfl rfl rfl tgz_159 (by decide +kernel) ?_
    refine En_Ps 1 (pc' := 12) (lv' := [(0, .ref 159), (1, .retAddr (2 * iL + 1))]) (st' := [.int ((Int32.ofInt 1)), .int z6]) rfl ?_
    refine En_icNe _ rfl (by decide : (Int32.ofInt 1).toInt = 1) rfl (fun h45 => ?_) (fun h45 => ?_)
    · refine En_Ps 4 (pc' := 39) (lv' := [(3, .int ((Int32.ofInt 0))), (2, .int ((Int32.ofInt 0))), (0, .ref 159), (1, .retAddr (2 * iL + 1))]) (st' := []) rfl ?_
      have key39 : ∀ (n39 : Nat) (σ48 : SG) (y46 : Int32) (y47 : Int32), WT σ48 → Fr [] σ0 σ48 → (σ48 159)[12]? = some (.int z2) → (σ48 159)[10]? = some (.int z6) → (σ48 159)[8]? = some (.int z10) → (σ48 159)[9]? = some (.int z14) → 0 ≤ y46.toInt → y46.toInt ≤ 0 → 0 ≤ y47.toInt → y47.toInt ≤ 0 → z2.toInt - y46.toInt < (n39 : Int) → ISQ By Nb iL Sp y46.toInt y47.toInt → En 4 90 none mr_251 (P_251gx iL σ0 By Nb Sp) 39 [(0, .ref 159), (1, .retAddr (2 * iL + 1)), (2, .int y46), (3, .int y47)] [] σ48 := by
        intro n39
        induction n39 with
        | zero =>
          intro σ48 y46 y47 h49 h50 h51 h52 h53 h54 h55 h56 h57 h58 h59 h60
          exfalso; omega
        | succ n39 ih39 =>
          intro σ48 y46 y47 h49 h50 h51 h52 h53 h54 h55 h56 h57 h58 h59 h60
          refine En_Ps 2 (pc' := 41) (lv' := [(0, .ref 159), (1, .retAddr (2 * iL + 1)), (2, .int y46), (3, .int y47)]) (st' := [.retAddr (2 * iL + 1), .int y47]) rfl ?_
          refine En_slen iL nL rfl rfl gn rfl ?_
          refine En_icGe _ rfl gN rfl (fun hx => by exfalso; omega) (fun h61 => ?_)
          refine En_Ps 1 (pc' := 48) (lv' := [(0, .ref 159), (1, .retAddr (2 * iL + 1)), (2, .int y46), (3, .int y47)]) (st' := [.int y46]) rfl ?_
          refine En_iEq _ rfl rfl (fun h62 => ?_) (fun hx => by exfalso; omega)
          refine En_Ps 1 (pc' := 83) (lv' := [(0, .ref 159), (1, .retAddr (2 * iL + 1)), (2, .int y46), (3, .int y47)]) (st' := [.int y46]) rfl ?_
          exact En_ret (v := some (.int y46)) rfl rfl (retZ rfl rfl (by omega) (by omega)) ⟨h49, h50, y46, rfl, ⟨by omega, by omega, ISQ_x h60 (by simp only [gL]; omega)⟩⟩
      have := (by decide : (Int32.ofInt 0).toInt = 0)
      have := (by decide : (Int32.ofInt 0).toInt = 0)
      refine En_lv (lv := [(0, .ref 159), (1, .retAddr (2 * iL + 1)), (2, .int ((Int32.ofInt 0))), (3, .int ((Int32.ofInt 0)))]) ⟨rfl, rfl, rfl, rfl, trivial⟩ ?_
      exact key39 (Int.toNat (z2.toInt) + 1) σ0 ((Int32.ofInt 0)) ((Int32.ofInt 0)) hσ0 hF0 h1 h5 h9 h13 (by omega) (by omega) (by omega) (by omega) (by omega) (ISQ_s (by decide) (by (try have i0 := Imp_m h18 (by omega)); simp only [gL]; omega))
    · refine En_Ps 1 (pc' := 16) (lv' := [(0, .ref 159), (1, .retAddr (2 * iL + 1))]) (st' := [.ref 159]) rfl ?_
      refine En_getK (j := 8) h9 rfl rfl rfl tgz_159 (by decide +kernel) ?_
      refine En_Ps 1 (pc' := 20) (lv' := [(0, .ref 159), (1, .retAddr (2 * iL + 1))]) (st' := [.ref 159, .int z10]) rfl ?_
      refine En_getK (j := 9) h13 rfl rfl rfl tgz_159 (by decide +kernel) ?_
      refine En_Ps 1 (pc' := 24) (lv' := [(0, .ref 159), (1, .retAddr (2 * iL + 1))]) (st' := [.int ((z10 - z14))]) rfl ?_
      refine En_top (subI rfl rfl (by omega) (by omega)) (fun z63 h64 => ?_)
      refine En_Ps 1 (pc' := 25) (lv' := [(0, .ref 159), (1, .retAddr (2 * iL + 1))]) (st' := [.retAddr (2 * iL + 1), .int z63]) rfl ?_
      refine En_slen iL nL rfl rfl gn rfl ?_
      refine En_icNe _ rfl gN rfl (fun h65 => ?_) (fun h65 => ?_)
      · refine En_Ps 4 (pc' := 39) (lv' := [(3, .int ((Int32.ofInt 0))), (2, .int ((Int32.ofInt 0))), (0, .ref 159), (1, .retAddr (2 * iL + 1))]) (st' := []) rfl ?_
        have key39 : ∀ (n39 : Nat) (σ68 : SG) (y66 : Int32) (y67 : Int32), WT σ68 → Fr [] σ0 σ68 → (σ68 159)[12]? = some (.int z2) → (σ68 159)[10]? = some (.int z6) → (σ68 159)[8]? = some (.int z10) → (σ68 159)[9]? = some (.int z14) → 0 ≤ y66.toInt → y66.toInt ≤ 0 → 0 ≤ y67.toInt → y67.toInt ≤ 0 → z2.toInt - y66.toInt < (n39 : Int) → ISQ By Nb iL Sp y66.toInt y67.toInt → En 4 90 none mr_251 (P_251gx iL σ0 By Nb Sp) 39 [(0, .ref 159), (1, .retAddr (2 * iL + 1)), (2, .int y66), (3, .int y67)] [] σ68 := by
          intro n39
          induction n39 with
          | zero =>
            intro σ68 y66 y67 h69 h70 h71 h72 h73 h74 h75 h76 h77 h78 h79 h80
            exfalso; omega
          | succ n39 ih39 =>
            intro σ68 y66 y67 h69 h70 h71 h72 h73 h74 h75 h76 h77 h78 h79 h80
            refine En_Ps 2 (pc' := 41) (lv' := [(0, .ref 159), (1, .retAddr (2 * iL + 1)), (2, .int y66), (3, .int y67)]) (st' := [.retAddr (2 * iL + 1), .int y67]) rfl ?_
            refine En_slen iL nL rfl rfl gn rfl ?_
            refine En_icGe _ rfl gN rfl (fun hx => by exfalso; omega) (fun h81 => ?_)
            refine En_Ps 1 (pc' := 48) (lv' := [(0, .ref 159), (1, .retAddr (2 * iL + 1)), (2, .int y66), (3, .int y67)]) (st' := [.int y66]) rfl ?_
            refine En_iEq _ rfl rfl (fun h82 => ?_) (fun hx => by exfalso; omega)
            refine En_Ps 1 (pc' := 83) (lv' := [(0, .ref 159), (1, .retAddr (2 * iL + 1)), (2, .int y66), (3, .int y67)]) (st' := [.int y66]) rfl ?_
            exact En_ret (v := some (.int y66)) rfl rfl (retZ rfl rfl (by omega) (by omega)) ⟨h69, h70, y66, rfl, ⟨by omega, by omega, ISQ_x h80 (by simp only [gL]; omega)⟩⟩
        have := (by decide : (Int32.ofInt 0).toInt = 0)
        have := (by decide : (Int32.ofInt 0).toInt = 0)
        refine En_lv (lv := [(0, .ref 159), (1, .retAddr (2 * iL + 1)), (2, .int ((Int32.ofInt 0))), (3, .int ((Int32.ofInt 0)))]) ⟨rfl, rfl, rfl, rfl, trivial⟩ ?_
        exact key39 (Int.toNat (z2.toInt) + 1) σ0 ((Int32.ofInt 0)) ((Int32.ofInt 0)) hσ0 hF0 h1 h5 h9 h13 (by omega) (by omega) (by omega) (by omega) (by omega) (ISQ_s (by decide) (by (try have i0 := Imp_m h18 (by omega)); simp only [gL]; omega))
      · refine En_Ps 5 (pc' := 39) (lv' := [(3, .int ((Int32.ofInt 0))), (2, .int ((Int32.ofInt 1))), (0, .ref 159), (1, .retAddr (2 * iL + 1))]) (st' := []) rfl ?_
        have key39 : ∀ (n39 : Nat) (σ85 : SG) (y83 : Int32) (y84 : Int32), WT σ85 → Fr [] σ0 σ85 → (σ85 159)[12]? = some (.int z2) → (σ85 159)[10]? = some (.int z6) → (σ85 159)[8]? = some (.int z10) → (σ85 159)[9]? = some (.int z14) → 0 ≤ y83.toInt → y83.toInt ≤ 1 → 0 ≤ y84.toInt → y84.toInt ≤ nL → z10.toInt - y84.toInt < (n39 : Int) → ISQ By Nb iL Sp y83.toInt y84.toInt → En 4 90 none mr_251 (P_251gx iL σ0 By Nb Sp) 39 [(0, .ref 159), (1, .retAddr (2 * iL + 1)), (2, .int y83), (3, .int y84)] [] σ85 := by
          intro n39
          induction n39 with
          | zero =>
            intro σ85 y83 y84 h86 h87 h88 h89 h90 h91 h92 h93 h94 h95 h96 h97
            exfalso; omega
          | succ n39 ih39 =>
            intro σ85 y83 y84 h86 h87 h88 h89 h90 h91 h92 h93 h94 h95 h96 h97
            refine En_Ps 2 (pc' := 41) (lv' := [(0, .ref 159), (1, .retAddr (2 * iL + 1)), (2, .int y83), (3, .int y84)]) (st' := [.retAddr (2 * iL + 1), .int y84]) rfl ?_
            refine En_slen iL nL rfl rfl gn rfl ?_
            refine En_icGe _ rfl gN rfl (fun h98 => ?_) (fun h98 => ?_)
            · refine En_Ps 1 (pc' := 83) (lv' := [(0, .ref 159), (1, .retAddr (2 * iL + 1)), (2, .int y83), (3, .int y84)]) (st' := [.int y83]) rfl ?_
              exact En_ret (v := some (.int y83)) rfl rfl (retZ rfl rfl (by omega) (by omega)) ⟨h86, h87, y83, rfl, ⟨by omega, by omega, ISQ_x h97 (by simp only [gL]; omega)⟩⟩
            · refine En_Ps 1 (pc' := 48) (lv' := [(0, .ref 159), (1, .retAddr (2 * iL + 1)), (2, .int y83), (3, .int y84)]) (st' := [.int y83]) rfl ?_
              refine En_iEq _ rfl rfl (fun h99 => ?_) (fun h99 => ?_)
              · refine En_Ps 1 (pc' := 83) (lv' := [(0, .ref 159), (1, .retAddr (2 * iL + 1)), (2, .int y83), (3, .int y84)]) (st' := [.int y83]) rfl ?_
                exact En_ret (v := some (.int y83)) rfl rfl (retZ rfl rfl (by omega) (by omega)) ⟨h86, h87, y83, rfl, ⟨by omega, by omega, ISQ_x h97 (by simp only [gL]; omega)⟩⟩
              · refine En_Ps 1 (pc' := 52) (lv' := [(0, .ref 159), (1, .retAddr (2 * iL + 1)), (2, .int y83), (3, .int y84)]) (st' := [.ref 159]) rfl ?_
                refine En_getU (j := 4) (u := 163) (g' := 39) (q := 0) rfl rfl rfl tgz_159 (by decide +kernel) h86 (by decide +kernel) (by decide +kernel) (fun h100 => ?_)
                refine En_Ps 1 (pc' := 56) (lv' := [(0, .ref 159), (1, .retAddr (2 * iL + 1)), (2, .int y83), (3, .int y84)]) (st' := [.ref 159, .ref 163]) rfl ?_
                refine En_getK (j := 9) h91 rfl rfl rfl tgz_159 (by decide +kernel) ?_
                refine En_Ps 2 (pc' := 61) (lv' := [(0, .ref 159), (1, .retAddr (2 * iL + 1)), (2, .int y83), (3, .int y84)]) (st' := [.int ((z14 + y84)), .ref 163]) rfl ?_
                refine En_top (addI rfl rfl (by omega) (by omega)) (fun z102 h103 => ?_)
                refine En_bald (l := (-128)) (u := 127) rfl rfl tgz_163 (by decide +kernel) h86 (by omega) (lnI (by decide +kernel : LN _ = 1600) (by omega)) (FTsgl (by decide +kernel)) (fun z105 h104 h106 h107 => ?_)
                refine En_Ps 2 (pc' := 64) (lv' := [(0, .ref 159), (1, .retAddr (2 * iL + 1)), (2, .int y83), (3, .int y84)]) (st' := [.int y84, .retAddr (2 * iL + 1), .int z105]) rfl ?_
                refine En_scharX iL nL rfl rfl rfl gn (by omega) (by omega) rfl (fun z108 h109 h110 h111 => ?_)
                refine En_icNe _ rfl rfl rfl (fun h112 => ?_) (fun h112 => ?_)
                · refine En_Ps 3 (pc' := 79) (lv' := [(3, .int ((y84 + Int32.ofInt 1))), (2, .int ((Int32.ofInt 0))), (0, .ref 159), (1, .retAddr (2 * iL + 1))]) (st' := []) rfl ?_
                  refine En_lv1 (addI rfl (by decide : (Int32.ofInt 1).toInt = 1) (by omega) (by omega)) (fun z113 h114 => ?_)
                  refine En_Ps 1 (pc' := 39) (lv' := [(3, .int z113), (2, .int ((Int32.ofInt 0))), (0, .ref 159), (1, .retAddr (2 * iL + 1))]) (st' := []) rfl ?_
                  have := (by decide : (Int32.ofInt 0).toInt = 0)
                  refine En_lv (lv := [(0, .ref 159), (1, .retAddr (2 * iL + 1)), (2, .int ((Int32.ofInt 0))), (3, .int z113)]) ⟨rfl, rfl, rfl, rfl, trivial⟩ ?_
                  exact ih39 σ85 ((Int32.ofInt 0)) z113 h86 h87 h88 h89 h90 h91 (by omega) (by omega) (by omega) (by omega) (by omega) (ISQ_n (ML_fr hM h87 (by decide +kernel)) h97 (by omega) (by simp only [gL]; omega) (fun _ => by omega) h104 h111 (by omega) (by omega))
                · refine En_Ps 4 (pc' := 79) (lv' := [(3, .int ((y84 + Int32.ofInt 1))), (2, .int ((Int32.ofInt 1))), (0, .ref 159), (1, .retAddr (2 * iL + 1))]) (st' := []) rfl ?_
                  refine En_lv1 (addI rfl (by decide : (Int32.ofInt 1).toInt = 1) (by omega) (by omega)) (fun z115 h116 => ?_)
                  refine En_Ps 1 (pc' := 39) (lv' := [(3, .int z115), (2, .int ((Int32.ofInt 1))), (0, .ref 159), (1, .retAddr (2 * iL + 1))]) (st' := []) rfl ?_
                  have := (by decide : (Int32.ofInt 1).toInt = 1)
                  refine En_lv (lv := [(0, .ref 159), (1, .retAddr (2 * iL + 1)), (2, .int ((Int32.ofInt 1))), (3, .int z115)]) ⟨rfl, rfl, rfl, rfl, trivial⟩ ?_
                  exact ih39 σ85 ((Int32.ofInt 1)) z115 h86 h87 h88 h89 h90 h91 (by omega) (by omega) (by omega) (by omega) (by omega) (ISQ_n (ML_fr hM h87 (by decide +kernel)) h97 (by omega) (by simp only [gL]; omega) (fun _ => by omega) h104 h111 (by omega) (by omega))
        have := (by decide : (Int32.ofInt 1).toInt = 1)
        have := (by decide : (Int32.ofInt 0).toInt = 0)
        refine En_lv (lv := [(0, .ref 159), (1, .retAddr (2 * iL + 1)), (2, .int ((Int32.ofInt 1))), (3, .int ((Int32.ofInt 0)))]) ⟨rfl, rfl, rfl, rfl, trivial⟩ ?_
        exact key39 (Int.toNat (z10.toInt) + 1) σ0 ((Int32.ofInt 1)) ((Int32.ofInt 0)) hσ0 hF0 h1 h5 h9 h13 (by omega) (by omega) (by omega) (by omega) (by omega) (ISQ_s (by decide) (by (try have i0 := Imp_m h18 (by omega)); simp only [gL]; omega))
/-- DoorSchoolModel.is(Ljava/lang/String;)Z -/
abbrev P_251s0x (σ0 : SG) (By : Int → Int) (Nb : Int) (Sp : PS) : PO := fun v σ => WT σ ∧ Fr [] σ0 σ ∧ ∃ ret : Int32, v = some (.int ret) ∧ -ret.toInt ≤ 0 ∧ ret.toInt - 1 ≤ 0 ∧ ret.toInt = iW By Nb 0 Sp
set_option maxRecDepth 10000 in
set_option maxHeartbeats 4000000 in
theorem c_251s0x {By : Int → Int} {Nb : Int} {Sp : PS} (σ0 : SG) (hσ0 : WT σ0) (hM : ML By Nb σ0 Sp) : En 4 90 none mr_251 (P_251s0x σ0 By Nb Sp) 0 [(0, .ref 159), (1, .retAddr 1)] [] σ0 := c_251gx 0 5 (by decide) (by decide) (by decide) (by decide) (by decide) σ0 hσ0 hM
/-- DoorSchoolModel.is(Ljava/lang/String;)Z -/
abbrev P_251s1x (σ0 : SG) (By : Int → Int) (Nb : Int) (Sp : PS) : PO := fun v σ => WT σ ∧ Fr [] σ0 σ ∧ ∃ ret : Int32, v = some (.int ret) ∧ -ret.toInt ≤ 0 ∧ ret.toInt - 1 ≤ 0 ∧ ret.toInt = iW By Nb 1 Sp
set_option maxRecDepth 10000 in
set_option maxHeartbeats 4000000 in
theorem c_251s1x {By : Int → Int} {Nb : Int} {Sp : PS} (σ0 : SG) (hσ0 : WT σ0) (hM : ML By Nb σ0 Sp) : En 4 90 none mr_251 (P_251s1x σ0 By Nb Sp) 0 [(0, .ref 159), (1, .retAddr 3)] [] σ0 := c_251gx 1 6 (by decide) (by decide) (by decide) (by decide) (by decide) σ0 hσ0 hM
/-- DoorSchoolModel.is(Ljava/lang/String;)Z -/
abbrev P_251s2x (σ0 : SG) (By : Int → Int) (Nb : Int) (Sp : PS) : PO := fun v σ => WT σ ∧ Fr [] σ0 σ ∧ ∃ ret : Int32, v = some (.int ret) ∧ -ret.toInt ≤ 0 ∧ ret.toInt - 1 ≤ 0 ∧ ret.toInt = iW By Nb 2 Sp
set_option maxRecDepth 10000 in
set_option maxHeartbeats 4000000 in
theorem c_251s2x {By : Int → Int} {Nb : Int} {Sp : PS} (σ0 : SG) (hσ0 : WT σ0) (hM : ML By Nb σ0 Sp) : En 4 90 none mr_251 (P_251s2x σ0 By Nb Sp) 0 [(0, .ref 159), (1, .retAddr 5)] [] σ0 := c_251gx 2 4 (by decide) (by decide) (by decide) (by decide) (by decide) σ0 hσ0 hM
/-- DoorSchoolModel.is(Ljava/lang/String;)Z -/
abbrev P_251s3x (σ0 : SG) (By : Int → Int) (Nb : Int) (Sp : PS) : PO := fun v σ => WT σ ∧ Fr [] σ0 σ ∧ ∃ ret : Int32, v = some (.int ret) ∧ -ret.toInt ≤ 0 ∧ ret.toInt - 1 ≤ 0 ∧ ret.toInt = iW By Nb 3 Sp
set_option maxRecDepth 10000 in
set_option maxHeartbeats 4000000 in
theorem c_251s3x {By : Int → Int} {Nb : Int} {Sp : PS} (σ0 : SG) (hσ0 : WT σ0) (hM : ML By Nb σ0 Sp) : En 4 90 none mr_251 (P_251s3x σ0 By Nb Sp) 0 [(0, .ref 159), (1, .retAddr 7)] [] σ0 := c_251gx 3 4 (by decide) (by decide) (by decide) (by decide) (by decide) σ0 hσ0 hM
/-- DoorSchoolModel.is(Ljava/lang/String;)Z -/
abbrev P_251s5x (σ0 : SG) (By : Int → Int) (Nb : Int) (Sp : PS) : PO := fun v σ => WT σ ∧ Fr [] σ0 σ ∧ ∃ ret : Int32, v = some (.int ret) ∧ -ret.toInt ≤ 0 ∧ ret.toInt - 1 ≤ 0 ∧ ret.toInt = iW By Nb 5 Sp
set_option maxRecDepth 10000 in
set_option maxHeartbeats 4000000 in
theorem c_251s5x {By : Int → Int} {Nb : Int} {Sp : PS} (σ0 : SG) (hσ0 : WT σ0) (hM : ML By Nb σ0 Sp) : En 4 90 none mr_251 (P_251s5x σ0 By Nb Sp) 0 [(0, .ref 159), (1, .retAddr 11)] [] σ0 := c_251gx 5 5 (by decide) (by decide) (by decide) (by decide) (by decide) σ0 hσ0 hM
/-- DoorSchoolModel.is(Ljava/lang/String;)Z -/
abbrev P_251s6x (σ0 : SG) (By : Int → Int) (Nb : Int) (Sp : PS) : PO := fun v σ => WT σ ∧ Fr [] σ0 σ ∧ ∃ ret : Int32, v = some (.int ret) ∧ -ret.toInt ≤ 0 ∧ ret.toInt - 1 ≤ 0 ∧ ret.toInt = iW By Nb 6 Sp
set_option maxRecDepth 10000 in
set_option maxHeartbeats 4000000 in
theorem c_251s6x {By : Int → Int} {Nb : Int} {Sp : PS} (σ0 : SG) (hσ0 : WT σ0) (hM : ML By Nb σ0 Sp) : En 4 90 none mr_251 (P_251s6x σ0 By Nb Sp) 0 [(0, .ref 159), (1, .retAddr 13)] [] σ0 := c_251gx 6 6 (by decide) (by decide) (by decide) (by decide) (by decide) σ0 hσ0 hM
/-- DoorSchoolModel.is(Ljava/lang/String;)Z -/
abbrev P_251s9x (σ0 : SG) (By : Int → Int) (Nb : Int) (Sp : PS) : PO := fun v σ => WT σ ∧ Fr [] σ0 σ ∧ ∃ ret : Int32, v = some (.int ret) ∧ -ret.toInt ≤ 0 ∧ ret.toInt - 1 ≤ 0 ∧ ret.toInt = iW By Nb 9 Sp
set_option maxRecDepth 10000 in
set_option maxHeartbeats 4000000 in
theorem c_251s9x {By : Int → Int} {Nb : Int} {Sp : PS} (σ0 : SG) (hσ0 : WT σ0) (hM : ML By Nb σ0 Sp) : En 4 90 none mr_251 (P_251s9x σ0 By Nb Sp) 0 [(0, .ref 159), (1, .retAddr 19)] [] σ0 := c_251gx 9 5 (by decide) (by decide) (by decide) (by decide) (by decide) σ0 hσ0 hM
/-- DoorSchoolModel.is(Ljava/lang/String;)Z -/
abbrev P_251s17x (σ0 : SG) (By : Int → Int) (Nb : Int) (Sp : PS) : PO := fun v σ => WT σ ∧ Fr [] σ0 σ ∧ ∃ ret : Int32, v = some (.int ret) ∧ -ret.toInt ≤ 0 ∧ ret.toInt - 1 ≤ 0 ∧ ret.toInt = iW By Nb 17 Sp
set_option maxRecDepth 10000 in
set_option maxHeartbeats 4000000 in
theorem c_251s17x {By : Int → Int} {Nb : Int} {Sp : PS} (σ0 : SG) (hσ0 : WT σ0) (hM : ML By Nb σ0 Sp) : En 4 90 none mr_251 (P_251s17x σ0 By Nb Sp) 0 [(0, .ref 159), (1, .retAddr 35)] [] σ0 := c_251gx 17 4 (by decide) (by decide) (by decide) (by decide) (by decide) σ0 hσ0 hM
/-- DoorSchoolModel.takes(Ljava/lang/String;)Z -/
abbrev P_318gx (iL : Nat) (σ0 : SG) (By : Int → Int) (Nb : Int) (Sp : PS) (f : Int32) : PO := fun v σ => WT σ ∧ Fr [(35, 8), (35, 9), (35, 10), (35, 11)] σ0 σ ∧ ∃ f1 : Int32, (σ 159)[8]? = some (.int f1) ∧ ∃ ret : Int32, v = some (.int ret) ∧ -ret.toInt ≤ 0 ∧ ret.toInt - 1 ≤ 0 ∧ -f1.toInt ≤ 0 ∧ f1.toInt - 1600 ≤ 0 ∧ -f1.toInt + f.toInt ≤ 0 ∧ f.toInt - f1.toInt ≤ 0 ∧ ((ret.toInt = 0 → σ0 = σ) ∧ ret.toInt = iW By Nb iL Sp ∧ (ret.toInt = 1 → ML By Nb σ (adv By Nb Sp)))
set_option maxRecDepth 10000 in
set_option maxHeartbeats 4000000 in
theorem c_318gx (iL nL : Nat) (gn : (decide (iL < NSTR) && decide (LENS.getD iL 0 = nL)) = true) (gN : (Int32.ofNat nL).toInt = (nL : Int)) (gL : (LW iL).length = nL) (g1 : 1 ≤ nL) (g9 : nL ≤ 20) {By : Int → Int} {Nb : Int} {Sp : PS} (σ0 : SG) (hσ0 : WT σ0) (f : Int32) (h_f : (σ0 159)[8]? = some (.int f)) (hM : ML By Nb σ0 Sp) : En 5 113 none mr_318 (P_318gx iL σ0 By Nb Sp f) 0 [(0, .ref 159), (1, .retAddr (2 * iL + 1))] [] σ0 := by
  obtain ⟨hl_f, hu_f⟩ := WT_int hσ0 (g := 35) (by decide +kernel) (by decide +kernel) (l := 0) (u := 1600) (by decide +kernel) h_f
  have hF0 : Fr [(35, 8), (35, 9), (35, 10), (35, 11)] σ0 σ0 := Fr_rfl
  obtain ⟨z2, h1, h3, h4⟩ := WT_peekI hσ0 tgz_159 (by decide +kernel : FT 35 12 = (0, 0, 3)) (by decide +kernel)
  have h5 := ML_k hM h1
  refine En_Ps 2 (pc' := 2) (lv' := [(0, .ref 159), (1, .retAddr (2 * iL + 1))]) (st' := [.retAddr (2 * iL + 1), .ref 159]) rfl ?_
  refine En_callV rfl rfl rfl rfl rfl rfl rfl rfl tgz_159 (by decide +kernel) rfl (c_251gx iL nL gn gN gL g1 g9 σ0 hσ0 hM) (by decide) (by decide) (fun v7 σ8 h6 => ?_)
  obtain ⟨h9, h10, z12, rfl, h11⟩ := h6
  have h13 := h11.2.2
  obtain rfl : σ0 = σ8 := Fr_nil h10
  refine En_Ps 2 (pc' := 7) (lv' := [(2, .int z12), (0, .ref 159), (1, .retAddr (2 * iL + 1))]) (st' := [.int z12]) rfl ?_
  refine En_iEq _ rfl rfl (fun h14 => ?_) (fun h14 => ?_)
  · refine En_Ps 1 (pc' := 15) (lv' := [(2, .int z12), (0, .ref 159), (1, .retAddr (2 * iL + 1))]) (st' := [.int z12]) rfl ?_
    exact En_ret (v := some (.int z12)) rfl rfl (retZ rfl rfl (by omega) (by omega)) ⟨hσ0, hF0, f, h_f, z12, rfl, ⟨by omega, by omega, by omega, by omega, by omega, by omega, ⟨fun hz => rfl, by omega, fun hz => absurd hz (by omega)⟩⟩⟩
  · have h15 : Sp.1 = 0 := iW_g (i := iL) (B := By) (n := Nb) (by omega)
    refine En_Ps 1 (pc' := 11) (lv' := [(2, .int z12), (0, .ref 159), (1, .retAddr (2 * iL + 1))]) (st' := [.ref 159]) rfl ?_
    refine En_callV rfl rfl rfl rfl rfl rfl rfl rfl tgz_159 (by decide +kernel) rfl (c_189x σ0 hσ0 f h_f hM.1 (ML_at hM (by omega) h_f)) (by decide) (by decide) (fun v17 σ18 h16 => ?_)
    obtain ⟨h19, h20, z22, h23, z24, h25, rfl, h21⟩ := h16
    have h26 := h21.2.2.2.2.2.2.2
    have h27 := Fr_trans hF0 h20 (by decide +kernel)
    obtain ⟨S28, h29⟩ : ∃ q : PS, q = adv By Nb Sp := ⟨_, rfl⟩
    have h30 : ML By Nb σ18 S28 := by rw [h29]; exact (ML_adv hM (by omega) h_f h20 (by decide +kernel) h26.2)
    have h31 := ML_k h30 ((h20 _ _ (inW tgz_159 (by decide +kernel))).trans h1)
    have h32 : Imp (S28.1 = 0) (tK By Nb S28.2.2.1 = z24.toInt) := ML_t h30 h25
    have h33 : S28.2.2.2 = Sp.2.2.2 := by rw [h29]; exact adv_w
    refine En_Ps 1 (pc' := 15) (lv' := [(2, .int z12), (0, .ref 159), (1, .retAddr (2 * iL + 1))]) (st' := [.int z12]) rfl ?_
    exact En_ret (v := some (.int z12)) rfl rfl (retZ rfl rfl (by omega) (by omega)) ⟨h19, h27, z22, h23, z12, rfl, ⟨by omega, by omega, by omega, by omega, by omega, by omega, ⟨fun hz => absurd hz (by omega), by omega, fun hz => ML_eq h30 h29⟩⟩⟩
/-- DoorSchoolModel.takes(Ljava/lang/String;)Z -/
abbrev P_318s1x (σ0 : SG) (By : Int → Int) (Nb : Int) (Sp : PS) (f : Int32) : PO := fun v σ => WT σ ∧ Fr [(35, 8), (35, 9), (35, 10), (35, 11)] σ0 σ ∧ ∃ f1 : Int32, (σ 159)[8]? = some (.int f1) ∧ ∃ ret : Int32, v = some (.int ret) ∧ -ret.toInt ≤ 0 ∧ ret.toInt - 1 ≤ 0 ∧ -f1.toInt ≤ 0 ∧ f1.toInt - 1600 ≤ 0 ∧ -f1.toInt + f.toInt ≤ 0 ∧ f.toInt - f1.toInt ≤ 0 ∧ ((ret.toInt = 0 → σ0 = σ) ∧ ret.toInt = iW By Nb 1 Sp ∧ (ret.toInt = 1 → ML By Nb σ (adv By Nb Sp)))
set_option maxRecDepth 10000 in
set_option maxHeartbeats 4000000 in
theorem c_318s1x {By : Int → Int} {Nb : Int} {Sp : PS} (σ0 : SG) (hσ0 : WT σ0) (f : Int32) (h_f : (σ0 159)[8]? = some (.int f)) (hM : ML By Nb σ0 Sp) : En 5 113 none mr_318 (P_318s1x σ0 By Nb Sp f) 0 [(0, .ref 159), (1, .retAddr 3)] [] σ0 := c_318gx 1 6 (by decide) (by decide) (by decide) (by decide) (by decide) σ0 hσ0 f h_f hM
/-- DoorSchoolModel.takes(Ljava/lang/String;)Z -/
abbrev P_318s2x (σ0 : SG) (By : Int → Int) (Nb : Int) (Sp : PS) (f : Int32) : PO := fun v σ => WT σ ∧ Fr [(35, 8), (35, 9), (35, 10), (35, 11)] σ0 σ ∧ ∃ f1 : Int32, (σ 159)[8]? = some (.int f1) ∧ ∃ ret : Int32, v = some (.int ret) ∧ -ret.toInt ≤ 0 ∧ ret.toInt - 1 ≤ 0 ∧ -f1.toInt ≤ 0 ∧ f1.toInt - 1600 ≤ 0 ∧ -f1.toInt + f.toInt ≤ 0 ∧ f.toInt - f1.toInt ≤ 0 ∧ ((ret.toInt = 0 → σ0 = σ) ∧ ret.toInt = iW By Nb 2 Sp ∧ (ret.toInt = 1 → ML By Nb σ (adv By Nb Sp)))
set_option maxRecDepth 10000 in
set_option maxHeartbeats 4000000 in
theorem c_318s2x {By : Int → Int} {Nb : Int} {Sp : PS} (σ0 : SG) (hσ0 : WT σ0) (f : Int32) (h_f : (σ0 159)[8]? = some (.int f)) (hM : ML By Nb σ0 Sp) : En 5 113 none mr_318 (P_318s2x σ0 By Nb Sp f) 0 [(0, .ref 159), (1, .retAddr 5)] [] σ0 := c_318gx 2 4 (by decide) (by decide) (by decide) (by decide) (by decide) σ0 hσ0 f h_f hM
/-- DoorSchoolModel.takes(Ljava/lang/String;)Z -/
abbrev P_318s3x (σ0 : SG) (By : Int → Int) (Nb : Int) (Sp : PS) (f : Int32) : PO := fun v σ => WT σ ∧ Fr [(35, 8), (35, 9), (35, 10), (35, 11)] σ0 σ ∧ ∃ f1 : Int32, (σ 159)[8]? = some (.int f1) ∧ ∃ ret : Int32, v = some (.int ret) ∧ -ret.toInt ≤ 0 ∧ ret.toInt - 1 ≤ 0 ∧ -f1.toInt ≤ 0 ∧ f1.toInt - 1600 ≤ 0 ∧ -f1.toInt + f.toInt ≤ 0 ∧ f.toInt - f1.toInt ≤ 0 ∧ ((ret.toInt = 0 → σ0 = σ) ∧ ret.toInt = iW By Nb 3 Sp ∧ (ret.toInt = 1 → ML By Nb σ (adv By Nb Sp)))
set_option maxRecDepth 10000 in
set_option maxHeartbeats 4000000 in
theorem c_318s3x {By : Int → Int} {Nb : Int} {Sp : PS} (σ0 : SG) (hσ0 : WT σ0) (f : Int32) (h_f : (σ0 159)[8]? = some (.int f)) (hM : ML By Nb σ0 Sp) : En 5 113 none mr_318 (P_318s3x σ0 By Nb Sp f) 0 [(0, .ref 159), (1, .retAddr 7)] [] σ0 := c_318gx 3 4 (by decide) (by decide) (by decide) (by decide) (by decide) σ0 hσ0 f h_f hM
/-- DoorSchoolModel.takes(Ljava/lang/String;)Z -/
abbrev P_318s4x (σ0 : SG) (By : Int → Int) (Nb : Int) (Sp : PS) (f : Int32) : PO := fun v σ => WT σ ∧ Fr [(35, 8), (35, 9), (35, 10), (35, 11)] σ0 σ ∧ ∃ f1 : Int32, (σ 159)[8]? = some (.int f1) ∧ ∃ ret : Int32, v = some (.int ret) ∧ -ret.toInt ≤ 0 ∧ ret.toInt - 1 ≤ 0 ∧ -f1.toInt ≤ 0 ∧ f1.toInt - 1600 ≤ 0 ∧ -f1.toInt + f.toInt ≤ 0 ∧ f.toInt - f1.toInt ≤ 0 ∧ ((ret.toInt = 0 → σ0 = σ) ∧ ret.toInt = iW By Nb 4 Sp ∧ (ret.toInt = 1 → ML By Nb σ (adv By Nb Sp)))
set_option maxRecDepth 10000 in
set_option maxHeartbeats 4000000 in
theorem c_318s4x {By : Int → Int} {Nb : Int} {Sp : PS} (σ0 : SG) (hσ0 : WT σ0) (f : Int32) (h_f : (σ0 159)[8]? = some (.int f)) (hM : ML By Nb σ0 Sp) : En 5 113 none mr_318 (P_318s4x σ0 By Nb Sp f) 0 [(0, .ref 159), (1, .retAddr 9)] [] σ0 := c_318gx 4 5 (by decide) (by decide) (by decide) (by decide) (by decide) σ0 hσ0 f h_f hM
/-- DoorSchoolModel.takes(Ljava/lang/String;)Z -/
abbrev P_318s5x (σ0 : SG) (By : Int → Int) (Nb : Int) (Sp : PS) (f : Int32) : PO := fun v σ => WT σ ∧ Fr [(35, 8), (35, 9), (35, 10), (35, 11)] σ0 σ ∧ ∃ f1 : Int32, (σ 159)[8]? = some (.int f1) ∧ ∃ ret : Int32, v = some (.int ret) ∧ -ret.toInt ≤ 0 ∧ ret.toInt - 1 ≤ 0 ∧ -f1.toInt ≤ 0 ∧ f1.toInt - 1600 ≤ 0 ∧ -f1.toInt + f.toInt ≤ 0 ∧ f.toInt - f1.toInt ≤ 0 ∧ ((ret.toInt = 0 → σ0 = σ) ∧ ret.toInt = iW By Nb 5 Sp ∧ (ret.toInt = 1 → ML By Nb σ (adv By Nb Sp)))
set_option maxRecDepth 10000 in
set_option maxHeartbeats 4000000 in
theorem c_318s5x {By : Int → Int} {Nb : Int} {Sp : PS} (σ0 : SG) (hσ0 : WT σ0) (f : Int32) (h_f : (σ0 159)[8]? = some (.int f)) (hM : ML By Nb σ0 Sp) : En 5 113 none mr_318 (P_318s5x σ0 By Nb Sp f) 0 [(0, .ref 159), (1, .retAddr 11)] [] σ0 := c_318gx 5 5 (by decide) (by decide) (by decide) (by decide) (by decide) σ0 hσ0 f h_f hM
/-- DoorSchoolModel.takes(Ljava/lang/String;)Z -/
abbrev P_318s6x (σ0 : SG) (By : Int → Int) (Nb : Int) (Sp : PS) (f : Int32) : PO := fun v σ => WT σ ∧ Fr [(35, 8), (35, 9), (35, 10), (35, 11)] σ0 σ ∧ ∃ f1 : Int32, (σ 159)[8]? = some (.int f1) ∧ ∃ ret : Int32, v = some (.int ret) ∧ -ret.toInt ≤ 0 ∧ ret.toInt - 1 ≤ 0 ∧ -f1.toInt ≤ 0 ∧ f1.toInt - 1600 ≤ 0 ∧ -f1.toInt + f.toInt ≤ 0 ∧ f.toInt - f1.toInt ≤ 0 ∧ ((ret.toInt = 0 → σ0 = σ) ∧ ret.toInt = iW By Nb 6 Sp ∧ (ret.toInt = 1 → ML By Nb σ (adv By Nb Sp)))
set_option maxRecDepth 10000 in
set_option maxHeartbeats 4000000 in
theorem c_318s6x {By : Int → Int} {Nb : Int} {Sp : PS} (σ0 : SG) (hσ0 : WT σ0) (f : Int32) (h_f : (σ0 159)[8]? = some (.int f)) (hM : ML By Nb σ0 Sp) : En 5 113 none mr_318 (P_318s6x σ0 By Nb Sp f) 0 [(0, .ref 159), (1, .retAddr 13)] [] σ0 := c_318gx 6 6 (by decide) (by decide) (by decide) (by decide) (by decide) σ0 hσ0 f h_f hM
/-- DoorSchoolModel.takes(Ljava/lang/String;)Z -/
abbrev P_318s8x (σ0 : SG) (By : Int → Int) (Nb : Int) (Sp : PS) (f : Int32) : PO := fun v σ => WT σ ∧ Fr [(35, 8), (35, 9), (35, 10), (35, 11)] σ0 σ ∧ ∃ f1 : Int32, (σ 159)[8]? = some (.int f1) ∧ ∃ ret : Int32, v = some (.int ret) ∧ -ret.toInt ≤ 0 ∧ ret.toInt - 1 ≤ 0 ∧ -f1.toInt ≤ 0 ∧ f1.toInt - 1600 ≤ 0 ∧ -f1.toInt + f.toInt ≤ 0 ∧ f.toInt - f1.toInt ≤ 0 ∧ ((ret.toInt = 0 → σ0 = σ) ∧ ret.toInt = iW By Nb 8 Sp ∧ (ret.toInt = 1 → ML By Nb σ (adv By Nb Sp)))
set_option maxRecDepth 10000 in
set_option maxHeartbeats 4000000 in
theorem c_318s8x {By : Int → Int} {Nb : Int} {Sp : PS} (σ0 : SG) (hσ0 : WT σ0) (f : Int32) (h_f : (σ0 159)[8]? = some (.int f)) (hM : ML By Nb σ0 Sp) : En 5 113 none mr_318 (P_318s8x σ0 By Nb Sp f) 0 [(0, .ref 159), (1, .retAddr 17)] [] σ0 := c_318gx 8 4 (by decide) (by decide) (by decide) (by decide) (by decide) σ0 hσ0 f h_f hM
/-- DoorSchoolModel.takes(Ljava/lang/String;)Z -/
abbrev P_318s9x (σ0 : SG) (By : Int → Int) (Nb : Int) (Sp : PS) (f : Int32) : PO := fun v σ => WT σ ∧ Fr [(35, 8), (35, 9), (35, 10), (35, 11)] σ0 σ ∧ ∃ f1 : Int32, (σ 159)[8]? = some (.int f1) ∧ ∃ ret : Int32, v = some (.int ret) ∧ -ret.toInt ≤ 0 ∧ ret.toInt - 1 ≤ 0 ∧ -f1.toInt ≤ 0 ∧ f1.toInt - 1600 ≤ 0 ∧ -f1.toInt + f.toInt ≤ 0 ∧ f.toInt - f1.toInt ≤ 0 ∧ ((ret.toInt = 0 → σ0 = σ) ∧ ret.toInt = iW By Nb 9 Sp ∧ (ret.toInt = 1 → ML By Nb σ (adv By Nb Sp)))
set_option maxRecDepth 10000 in
set_option maxHeartbeats 4000000 in
theorem c_318s9x {By : Int → Int} {Nb : Int} {Sp : PS} (σ0 : SG) (hσ0 : WT σ0) (f : Int32) (h_f : (σ0 159)[8]? = some (.int f)) (hM : ML By Nb σ0 Sp) : En 5 113 none mr_318 (P_318s9x σ0 By Nb Sp f) 0 [(0, .ref 159), (1, .retAddr 19)] [] σ0 := c_318gx 9 5 (by decide) (by decide) (by decide) (by decide) (by decide) σ0 hσ0 f h_f hM
/-- DoorSchoolModel.takes(Ljava/lang/String;)Z -/
abbrev P_318s11x (σ0 : SG) (By : Int → Int) (Nb : Int) (Sp : PS) (f : Int32) : PO := fun v σ => WT σ ∧ Fr [(35, 8), (35, 9), (35, 10), (35, 11)] σ0 σ ∧ ∃ f1 : Int32, (σ 159)[8]? = some (.int f1) ∧ ∃ ret : Int32, v = some (.int ret) ∧ -ret.toInt ≤ 0 ∧ ret.toInt - 1 ≤ 0 ∧ -f1.toInt ≤ 0 ∧ f1.toInt - 1600 ≤ 0 ∧ -f1.toInt + f.toInt ≤ 0 ∧ f.toInt - f1.toInt ≤ 0 ∧ ((ret.toInt = 0 → σ0 = σ) ∧ ret.toInt = iW By Nb 11 Sp ∧ (ret.toInt = 1 → ML By Nb σ (adv By Nb Sp)))
set_option maxRecDepth 10000 in
set_option maxHeartbeats 4000000 in
theorem c_318s11x {By : Int → Int} {Nb : Int} {Sp : PS} (σ0 : SG) (hσ0 : WT σ0) (f : Int32) (h_f : (σ0 159)[8]? = some (.int f)) (hM : ML By Nb σ0 Sp) : En 5 113 none mr_318 (P_318s11x σ0 By Nb Sp f) 0 [(0, .ref 159), (1, .retAddr 23)] [] σ0 := c_318gx 11 8 (by decide) (by decide) (by decide) (by decide) (by decide) σ0 hσ0 f h_f hM
/-- DoorSchoolModel.takes(Ljava/lang/String;)Z -/
abbrev P_318s17x (σ0 : SG) (By : Int → Int) (Nb : Int) (Sp : PS) (f : Int32) : PO := fun v σ => WT σ ∧ Fr [(35, 8), (35, 9), (35, 10), (35, 11)] σ0 σ ∧ ∃ f1 : Int32, (σ 159)[8]? = some (.int f1) ∧ ∃ ret : Int32, v = some (.int ret) ∧ -ret.toInt ≤ 0 ∧ ret.toInt - 1 ≤ 0 ∧ -f1.toInt ≤ 0 ∧ f1.toInt - 1600 ≤ 0 ∧ -f1.toInt + f.toInt ≤ 0 ∧ f.toInt - f1.toInt ≤ 0 ∧ ((ret.toInt = 0 → σ0 = σ) ∧ ret.toInt = iW By Nb 17 Sp ∧ (ret.toInt = 1 → ML By Nb σ (adv By Nb Sp)))
set_option maxRecDepth 10000 in
set_option maxHeartbeats 4000000 in
theorem c_318s17x {By : Int → Int} {Nb : Int} {Sp : PS} (σ0 : SG) (hσ0 : WT σ0) (f : Int32) (h_f : (σ0 159)[8]? = some (.int f)) (hM : ML By Nb σ0 Sp) : En 5 113 none mr_318 (P_318s17x σ0 By Nb Sp f) 0 [(0, .ref 159), (1, .retAddr 35)] [] σ0 := c_318gx 17 4 (by decide) (by decide) (by decide) (by decide) (by decide) σ0 hσ0 f h_f hM
/-- DoorSchoolModel.errs(I)V -/
abbrev P_223x (σ0 : SG) (By : Int → Int) (Nb : Int) (Sp : PS) (a : Int32) (k : Int32) : PO := fun v σ => WT σ ∧ Fr [(35, 12), (35, 13)] σ0 σ ∧ ∃ k1 : Int32, (σ 159)[12]? = some (.int k1) ∧ v = none ∧ -k1.toInt + 1 ≤ 0 ∧ k1.toInt - 3 ≤ 0 ∧ -k1.toInt + k.toInt ≤ 0 ∧ -k1.toInt + 1 ≤ 0 ∧ ML By Nb σ (err By Nb a.toInt Sp)
set_option maxRecDepth 10000 in
set_option maxHeartbeats 4000000 in
theorem c_223x {By : Int → Int} {Nb : Int} {Sp : PS} (σ0 : SG) (hσ0 : WT σ0) (a : Int32) (hl_a : 1 ≤ a.toInt) (hu_a : a.toInt ≤ 3) (k : Int32) (h_k : (σ0 159)[12]? = some (.int k)) (hM : ML By Nb σ0 Sp) : En 1 20 none mr_223 (P_223x σ0 By Nb Sp a k) 0 [(0, .ref 159), (1, .int a)] [] σ0 := by
  obtain ⟨hl_k, hu_k⟩ := WT_int hσ0 (g := 35) (by decide +kernel) (by decide +kernel) (l := 0) (u := 3) (by decide +kernel) h_k
  have hF0 : Fr [(35, 12), (35, 13)] σ0 σ0 := Fr_rfl
  have h1 := ML_k hM h_k
  obtain ⟨z3, h2, h4, h5⟩ := WT_peekI hσ0 tgz_159 (by decide +kernel : FT 35 9 = (0, 0, 1600)) (by decide +kernel)
  refine En_Ps 1 (pc' := 1) (lv' := [(0, .ref 159), (1, .int a)]) (st' := [.ref 159]) rfl ?_
  refine En_callV rfl rfl rfl rfl rfl rfl rfl rfl tgz_159 (by decide +kernel) rfl (c_237 σ0 hσ0 k h_k) (by decide) (by decide) (fun v7 σ8 h6 => ?_)
  obtain ⟨h9, h10, z12, rfl, h11⟩ := h6
  obtain rfl : σ0 = σ8 := Fr_nil h10
  refine En_iNe _ rfl rfl (fun h13 => ?_) (fun h13 => ?_)
  · refine En_Ps 2 (pc' := 10) (lv' := [(0, .ref 159), (1, .int a)]) (st' := [.int a, .ref 159]) rfl ?_
    refine En_put (j := 12) rfl rfl rfl tgz_159 (by decide +kernel) rfl (vI (l := 0) (u := 3) (by decide +kernel) rfl (by omega) (by omega)) hσ0 hF0 (by decide +kernel) (fun σ14 h15 h16 h17 h18 => ?_)
    refine En_Ps 2 (pc' := 15) (lv' := [(0, .ref 159), (1, .int a)]) (st' := [.ref 159, .ref 159]) rfl ?_
    refine En_getK (j := 9) ((h18 _ _ (Or.inr (by decide))).trans h2) rfl rfl rfl tgz_159 (by decide +kernel) ?_
    refine En_put (j := 13) rfl rfl rfl tgz_159 (by decide +kernel) rfl (vI (l := (-1)) (u := 1600) (by decide +kernel) rfl (by omega) (by omega)) h15 h16 (by decide +kernel) (fun σ19 h20 h21 h22 h23 => ?_)
    exact En_ret (v := none) rfl rfl rfl ⟨h20, h21, a, ((h23 _ _ (Or.inr (by decide))).trans h17), rfl, ⟨by omega, by omega, by omega, by omega, ML_err hM (by omega) (by omega) h21 (by decide +kernel) (ci_at (j := 12) ((h23 _ _ (Or.inr (by decide))).trans h17) rfl) h2 (ci_at (j := 13) h22 rfl)⟩⟩
  · exact En_ret (v := none) rfl rfl rfl ⟨hσ0, hF0, k, h_k, rfl, ⟨by omega, by omega, by omega, by omega, (by rw [err_bad (by omega)]; exact hM)⟩⟩
/-- DoorSchoolModel.needs(Ljava/lang/String;)V -/
abbrev P_286gx (iL : Nat) (σ0 : SG) (By : Int → Int) (Nb : Int) (Sp : PS) (f : Int32) (k : Int32) : PO := fun v σ => WT σ ∧ Fr [(35, 8), (35, 9), (35, 10), (35, 11), (35, 12), (35, 13)] σ0 σ ∧ ∃ f1 : Int32, (σ 159)[8]? = some (.int f1) ∧ ∃ k1 : Int32, (σ 159)[12]? = some (.int k1) ∧ v = none ∧ -f1.toInt ≤ 0 ∧ f1.toInt - 1600 ≤ 0 ∧ -f1.toInt + f.toInt ≤ 0 ∧ -k1.toInt ≤ 0 ∧ k1.toInt - 3 ≤ 0 ∧ -k1.toInt + k.toInt ≤ 0 ∧ f.toInt - f1.toInt ≤ 0 ∧ Imp (k1.toInt ≤ 0) (k.toInt ≤ 0) ∧ ML By Nb σ (pss By Nb (iW By Nb iL Sp) Sp)
set_option maxRecDepth 10000 in
set_option maxHeartbeats 4000000 in
theorem c_286gx (iL nL : Nat) (gn : (decide (iL < NSTR) && decide (LENS.getD iL 0 = nL)) = true) (gN : (Int32.ofNat nL).toInt = (nL : Int)) (gL : (LW iL).length = nL) (g1 : 1 ≤ nL) (g9 : nL ≤ 20) {By : Int → Int} {Nb : Int} {Sp : PS} (σ0 : SG) (hσ0 : WT σ0) (f : Int32) (h_f : (σ0 159)[8]? = some (.int f)) (k : Int32) (h_k : (σ0 159)[12]? = some (.int k)) (hM : ML By Nb σ0 Sp) : En 6 135 none mr_286 (P_286gx iL σ0 By Nb Sp f k) 0 [(0, .ref 159), (1, .retAddr (2 * iL + 1))] [] σ0 := by
  obtain ⟨hl_f, hu_f⟩ := WT_int hσ0 (g := 35) (by decide +kernel) (by decide +kernel) (l := 0) (u := 1600) (by decide +kernel) h_f
  obtain ⟨hl_k, hu_k⟩ := WT_int hσ0 (g := 35) (by decide +kernel) (by decide +kernel) (l := 0) (u := 3) (by decide +kernel) h_k
  have hF0 : Fr [(35, 8), (35, 9), (35, 10), (35, 11), (35, 12), (35, 13)] σ0 σ0 := Fr_rfl
  have h1 := ML_k hM h_k
  refine En_Ps 2 (pc' := 2) (lv' := [(0, .ref 159), (1, .retAddr (2 * iL + 1))]) (st' := [.retAddr (2 * iL + 1), .ref 159]) rfl ?_
  refine En_callV rfl rfl rfl rfl rfl rfl rfl rfl tgz_159 (by decide +kernel) rfl (c_318gx iL nL gn gN gL g1 g9 σ0 hσ0 f h_f hM) (by decide) (by decide) (fun v3 σ4 h2 => ?_)
  obtain ⟨h5, h6, z8, h9, z10, rfl, h7⟩ := h2
  have h11 := h7.2.2.2.2.2.2
  have h12 := Fr_trans hF0 h6 (by decide +kernel)
  have h13 := h11.2.1
  refine En_iNe _ rfl rfl (fun h14 => ?_) (fun h14 => ?_)
  · have h15 : Sp.1 = 0 := iW_g (i := iL) (B := By) (n := Nb) (by omega)
    obtain ⟨S16, h17⟩ : ∃ q : PS, q = adv By Nb Sp := ⟨_, rfl⟩
    have h18 : ML By Nb σ4 S16 := by rw [h17]; exact h11.2.2 (by omega)
    have h19 := ML_k h18 ((h6 _ _ (inW tgz_159 (by decide +kernel))).trans h_k)
    have h20 : S16.2.2.2 = Sp.2.2.2 := by rw [h17]; exact adv_w
    have h21 : S16.1 = 0 := by rw [h17, adv_1]; exact h15
    exact En_ret (v := none) rfl rfl rfl ⟨h5, h12, z8, h9, k, ((h6 _ _ (inW tgz_159 (by decide +kernel))).trans h_k), rfl, ⟨by omega, by omega, by omega, by omega, by omega, by omega, by omega, fun _ => by omega, ML_eq h18 (by subst h17; unfold pss; first | done | rfl | ((repeat' split) <;> first | rfl | (exfalso; omega) | (exfalso; omega)))⟩⟩
  · obtain rfl : σ0 = σ4 := h11.1 (by omega)
    refine En_Ps 2 (pc' := 10) (lv' := [(0, .ref 159), (1, .retAddr (2 * iL + 1))]) (st' := [.int ((Int32.ofInt 1)), .ref 159]) rfl ?_
    have := (by decide : ((Int32.ofInt 1)).toInt = 1)
    refine En_callV rfl rfl rfl rfl rfl rfl rfl rfl tgz_159 (by decide +kernel) rfl (c_223x σ0 hσ0 ((Int32.ofInt 1)) (geI (by decide : (Int32.ofInt 1).toInt = 1) (by omega)) (leI (by decide : (Int32.ofInt 1).toInt = 1) (by omega)) k h_k hM) (by decide) (by decide) (fun v23 σ24 h22 => ?_)
    obtain ⟨h25, h26, z28, h29, rfl, h27⟩ := h22
    have h30 := h27.2.2.2.2
    have h31 := Fr_trans hF0 h26 (by decide +kernel)
    obtain ⟨S32, h33⟩ : ∃ q : PS, q = err By Nb 1 Sp := ⟨_, rfl⟩
    have h34 : ML By Nb σ24 S32 := by rw [h33]; exact (ML_eq h30 (err_cg (by omega)))
    have h35 := ML_k h34 h29
    have h36 : S32.2.2.2 = Sp.2.2.2 := by rw [h33]; exact err_w
    exact En_ret (v := none) rfl rfl rfl ⟨h25, h31, f, ((h26 _ _ (inW tgz_159 (by decide +kernel))).trans h_f), z28, h29, rfl, ⟨by omega, by omega, by omega, by omega, by omega, by omega, by omega, fun _ => by omega, ML_eq h34 (by subst h33; unfold pss; first | done | rfl | ((repeat' split) <;> first | rfl | (exfalso; omega) | (exfalso; omega)))⟩⟩
/-- DoorSchoolModel.needs(Ljava/lang/String;)V -/
abbrev P_286s7x (σ0 : SG) (By : Int → Int) (Nb : Int) (Sp : PS) (f : Int32) (k : Int32) : PO := fun v σ => WT σ ∧ Fr [(35, 8), (35, 9), (35, 10), (35, 11), (35, 12), (35, 13)] σ0 σ ∧ ∃ f1 : Int32, (σ 159)[8]? = some (.int f1) ∧ ∃ k1 : Int32, (σ 159)[12]? = some (.int k1) ∧ v = none ∧ -f1.toInt ≤ 0 ∧ f1.toInt - 1600 ≤ 0 ∧ -f1.toInt + f.toInt ≤ 0 ∧ -k1.toInt ≤ 0 ∧ k1.toInt - 3 ≤ 0 ∧ -k1.toInt + k.toInt ≤ 0 ∧ f.toInt - f1.toInt ≤ 0 ∧ Imp (k1.toInt ≤ 0) (k.toInt ≤ 0) ∧ ML By Nb σ (pss By Nb (iW By Nb 7 Sp) Sp)
set_option maxRecDepth 10000 in
set_option maxHeartbeats 4000000 in
theorem c_286s7x {By : Int → Int} {Nb : Int} {Sp : PS} (σ0 : SG) (hσ0 : WT σ0) (f : Int32) (h_f : (σ0 159)[8]? = some (.int f)) (k : Int32) (h_k : (σ0 159)[12]? = some (.int k)) (hM : ML By Nb σ0 Sp) : En 6 135 none mr_286 (P_286s7x σ0 By Nb Sp f k) 0 [(0, .ref 159), (1, .retAddr 15)] [] σ0 := c_286gx 7 7 (by decide) (by decide) (by decide) (by decide) (by decide) σ0 hσ0 f h_f k h_k hM
/-- DoorSchoolModel.needs(Ljava/lang/String;)V -/
abbrev P_286s10x (σ0 : SG) (By : Int → Int) (Nb : Int) (Sp : PS) (f : Int32) (k : Int32) : PO := fun v σ => WT σ ∧ Fr [(35, 8), (35, 9), (35, 10), (35, 11), (35, 12), (35, 13)] σ0 σ ∧ ∃ f1 : Int32, (σ 159)[8]? = some (.int f1) ∧ ∃ k1 : Int32, (σ 159)[12]? = some (.int k1) ∧ v = none ∧ -f1.toInt ≤ 0 ∧ f1.toInt - 1600 ≤ 0 ∧ -f1.toInt + f.toInt ≤ 0 ∧ -k1.toInt ≤ 0 ∧ k1.toInt - 3 ≤ 0 ∧ -k1.toInt + k.toInt ≤ 0 ∧ f.toInt - f1.toInt ≤ 0 ∧ Imp (k1.toInt ≤ 0) (k.toInt ≤ 0) ∧ ML By Nb σ (pss By Nb (iW By Nb 10 Sp) Sp)
set_option maxRecDepth 10000 in
set_option maxHeartbeats 4000000 in
theorem c_286s10x {By : Int → Int} {Nb : Int} {Sp : PS} (σ0 : SG) (hσ0 : WT σ0) (f : Int32) (h_f : (σ0 159)[8]? = some (.int f)) (k : Int32) (h_k : (σ0 159)[12]? = some (.int k)) (hM : ML By Nb σ0 Sp) : En 6 135 none mr_286 (P_286s10x σ0 By Nb Sp f k) 0 [(0, .ref 159), (1, .retAddr 21)] [] σ0 := c_286gx 10 6 (by decide) (by decide) (by decide) (by decide) (by decide) σ0 hσ0 f h_f k h_k hM

