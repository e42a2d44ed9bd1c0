/-- DoorSchoolModel.idle(I)I -/
abbrev P_247x (σ0 : SG) (a : Int32) : PO := fun v σ => WT σ ∧ Fr [(35, 18), (35, 21), (42, 0), (43, 0), (44, 0), (45, 0), (46, 0)] σ0 σ ∧ ∃ ret : Int32, v = some (.int ret) ∧ -ret.toInt - 2 ≤ 0 ∧ ret.toInt - 65535 ≤ 0 ∧ ret.toInt = idR (wf σ0) a.toInt
set_option maxRecDepth 10000 in
set_option maxHeartbeats 4000000 in
theorem c_247x (σ0 : SG) (hσ0 : WT σ0) (a : Int32) (hq : QX (wf σ0)) : En 5 114 none mr_247 (P_247x σ0 a) 0 [(0, .ref 159), (1, .int a)] [] σ0 := by
  have hF0 : Fr [(35, 18), (35, 21), (42, 0), (43, 0), (44, 0), (45, 0), (46, 0)] σ0 σ0 := Fr_rfl
  refine En_Ps 2 (pc' := 2) (lv' := [(0, .ref 159), (1, .int a)]) (st' := [.int a, .ref 159]) rfl ?_
  obtain ⟨z2, h1, h3, h4⟩ := WT_peekI hσ0 (by decide +kernel : TG 160 = 36) (by decide +kernel : FT 36 (2 : Int).toNat = (0, 0, 4)) (by decide +kernel)
  refine En_callV rfl rfl rfl rfl rfl rfl rfl rfl (by decide +kernel : TG 159 = 35) (by decide +kernel) rfl (c_254 σ0 hσ0 a z2 h1) (by decide) (by decide) (fun v6 σ7 h5 => ?_)
  obtain ⟨h8, h9, z11, rfl, h10⟩ := h5
  obtain rfl : σ0 = σ7 := Fr_nil h9
  have w12 : wf σ0 (2) = z2.toInt := ci_at h1 (by omega)
  refine En_iNe _ rfl rfl (fun h13 => ?_) (fun h13 => ?_)
  · obtain ⟨z15, h14, h16, h17⟩ := WT_peekI hσ0 (by decide +kernel : TG 160 = 36) (by decide +kernel : FT 36 (0 : Int).toNat = (0, 0, 4)) (by decide +kernel)
    obtain ⟨z19, h18, h20, h21⟩ := WT_peekI hσ0 (by decide +kernel : TG 160 = 36) (by decide +kernel : FT 36 (7 : Int).toNat = (0, 0, 1600)) (by decide +kernel)
    have w22 : wf σ0 (0) = z15.toInt := ci_at h14 (by omega)
    have w23 : wf σ0 (7) = z19.toInt := ci_at h18 (by omega)
    have h24 : 1 ≤ z19.toInt := by have e9 := hq (by omega); omega
    have h25 := pI_rng (s := z15.toInt) (by omega) (by omega)
    have h26 := (kI_val z19.toInt z15.toInt).2 (by omega)
    have h27 : pI (wf σ0 0) = pI (z15.toInt) := by rw [w22]
    refine En_Ps 2 (pc' := 13) (lv' := [(0, .ref 159), (1, .int a)]) (st' := [.int a, .ref 159]) rfl ?_
    refine En_callV rfl rfl rfl rfl rfl rfl rfl rfl (by decide +kernel : TG 159 = 35) (by decide +kernel) rfl (c_213x σ0 hσ0 a (geI rfl (by omega)) (leI rfl (by omega)) z15 h14 z19 h18 (by omega)) (by decide) (by decide) (fun v29 σ30 h28 => ?_)
    obtain ⟨h31, h32, z34, h35, z36, rfl, h33⟩ := h28
    have h37 := h33.2.2.2.2.2.2.2.2.1
    have h38 := Fr_trans hF0 h32 (by decide +kernel)
    have h39 : wf σ30 = wf σ0 := wf_fr h32 (by decide +kernel)
    refine En_Ps 5 (pc' := 22) (lv' := [(4, .int ((Int32.ofInt 0))), (3, .int ((Int32.ofInt 0))), (2, .int z36), (0, .ref 159), (1, .int a)]) (st' := []) rfl ?_
    have key22 : ∀ (n22 : Nat) (σ42 : SG) (y40 : Int32) (y41 : Int32), WT σ42 → Fr [(35, 18), (35, 21), (42, 0), (43, 0), (44, 0), (45, 0), (46, 0)] σ0 σ42 → (σ42 160)[(2 : Int).toNat]? = some (.int z2) → (σ42 160)[(0 : Int).toNat]? = some (.int z15) → (σ42 160)[(7 : Int).toNat]? = some (.int z19) → 0 ≤ y40.toInt → y40.toInt ≤ 65535 → 0 ≤ y41.toInt → y41.toInt ≤ 13 → -y41.toInt + 13 < (n22 : Int) → y40.toInt = AAS (idP (wf σ0) a.toInt) (y41.toInt).toNat → wf σ42 = wf σ0 → y41.toInt ≤ wf σ0 (12 + 4 * a.toInt) → En 5 114 none mr_247 (P_247x σ0 a) 22 [(0, .ref 159), (1, .int a), (2, .int z36), (3, .int y40), (4, .int y41)] [] σ42 := by
      intro n22
      induction n22 with
      | zero =>
        intro σ42 y40 y41 h43 h44 h45 h46 h47 h48 h49 h50 h51 h52 h53 h54 h55
        exfalso; omega
      | succ n22 ih22 =>
        intro σ42 y40 y41 h43 h44 h45 h46 h47 h48 h49 h50 h51 h52 h53 h54 h55
        refine En_Ps 4 (pc' := 27) (lv' := [(0, .ref 159), (1, .int a), (2, .int z36), (3, .int y40), (4, .int y41)]) (st' := [.int ((Int32.ofInt 2)), .int a, .ref 159, .int y41]) rfl ?_
        have := (by decide : ((Int32.ofInt 2)).toInt = 2)
        obtain ⟨z56, h57, h58, h59⟩ := WT_peekJ (J := (4 * a.toInt + ((Int32.ofInt 2)).toInt + 10)) (l := 0) (u := 12) h43 (by decide +kernel : TG 160 = 36) (by decide +kernel) (by omega) (lnI (by decide +kernel : LN _ = 226) (by omega)) (FTrow 36 12 4 4 (by decide +kernel) (by omega) (by omega) (by omega))
        have := (by decide : ((Int32.ofInt 2)).toInt = 2)
        refine En_callV rfl rfl rfl rfl rfl rfl rfl rfl (by decide +kernel : TG 159 = 35) (by decide +kernel) rfl (c_290c σ42 h43 a ((Int32.ofInt 2)) (geI rfl (by omega)) (leI rfl (by omega)) (geI (by decide : (Int32.ofInt 2).toInt = 2) (by omega)) (leI (by decide : (Int32.ofInt 2).toInt = 2) (by omega)) z56 h57) (by decide) (by decide) (fun v61 σ62 h60 => ?_)
        obtain ⟨h63, h64, z66, rfl, h65⟩ := h60
        obtain rfl : σ42 = σ62 := Fr_nil h64
        have h67 : wf σ0 (12 + 4 * a.toInt) = z66.toInt := by rw [← h54]; exact (ci_at h57 (by omega)).trans (by omega)
        have h68 := M12_w hσ0 (d := a.toInt) (by omega) (by omega)
        refine En_icGe _ rfl rfl rfl (fun h69 => ?_) (fun h69 => ?_)
        · refine En_Ps 1 (pc' := 71) (lv' := [(0, .ref 159), (1, .int a), (2, .int z36), (3, .int y40), (4, .int y41)]) (st' := [.int y40]) rfl ?_
          exact En_ret (v := some (.int y40)) rfl rfl rfl ⟨h43, h44, y40, rfl, ⟨by omega, by omega, idR_y ⟨by omega, by omega⟩ (i := y41.toInt) (by omega) h53⟩⟩
        · refine En_Ps 3 (pc' := 36) (lv' := [(0, .ref 159), (1, .int a), (2, .int z36), (3, .int y40), (4, .int y41)]) (st' := [.int a, .ref 159, .int y40]) rfl ?_
          refine En_callV rfl rfl rfl rfl rfl rfl rfl rfl (by decide +kernel : TG 159 = 35) (by decide +kernel) rfl (c_305x σ42 h43 a (geI rfl (by omega)) (leI rfl (by omega)) z2 h45) (by decide) (by decide) (fun v71 σ72 h70 => ?_)
          obtain ⟨h73, h74, z76, rfl, h75⟩ := h70
          have h77 := h75.2.2
          obtain rfl : σ42 = σ72 := Fr_nil h74
          have h78 : z76.toInt = rlW (wf σ0) a.toInt := by rw [← h54]; exact h77
          refine En_Ps 1 (pc' := 40) (lv' := [(0, .ref 159), (1, .int a), (2, .int z36), (3, .int y40), (4, .int y41)]) (st' := [.int a, .int z76, .int y40]) rfl ?_
          refine En_icNe _ rfl rfl rfl (fun h79 => ?_) (fun h79 => ?_)
          · refine En_Ps 3 (pc' := 58) (lv' := [(0, .ref 159), (1, .int a), (2, .int z36), (3, .int y40), (4, .int y41)]) (st' := [.int ((((Int32.ofInt 1)) <<< (y41 &&& 31))), .int y40]) rfl ?_
            refine En_nam (fun z80 h81 => ?_)
            have h82 : z80.toInt = pI y41.toInt := shl_v h81 rfl (by omega) (by omega)
            have := pI_pos y41.toInt
            have : pI y41.toInt ≤ 2048 := pI_mono (Y := 11) (by omega)
            refine En_Ps 2 (pc' := 63) (lv' := [(0, .ref 159), (1, .int a), (2, .int z36), (3, .int y40), (4, .int y41)]) (st' := [.int ((y40 ||| z80))]) rfl ?_
            refine En_nam (fun z83 h84 => ?_)
            have h85 : z83.toInt = oN y40.toInt z80.toInt := or_v h84 rfl rfl (by omega) (by omega)
            have := oN_lt (X := y40.toInt) (Y := z80.toInt) 16 (by omega) (by omega) (Int.lt_of_le_of_lt (by omega : _ ≤ (65535 : Int)) (by decide)) (Int.lt_of_le_of_lt (by omega : _ ≤ (65535 : Int)) (by decide))
            have two16 : ((2 ^ 16 : Nat) : Int) = 65536 := by decide
            refine En_Ps 2 (pc' := 67) (lv' := [(4, .int ((y41 + Int32.ofInt 1))), (3, .int z83), (0, .ref 159), (1, .int a), (2, .int z36)]) (st' := []) rfl ?_
            refine En_lv1 (addI rfl (by decide : (Int32.ofInt 1).toInt = 1) (by omega) (by omega)) (fun z86 h87 => ?_)
            refine En_Ps 1 (pc' := 22) (lv' := [(4, .int z86), (3, .int z83), (0, .ref 159), (1, .int a), (2, .int z36)]) (st' := []) rfl ?_
            refine En_lv (lv := [(0, .ref 159), (1, .int a), (2, .int z36), (3, .int z83), (4, .int z86)]) ⟨rfl, rfl, rfl, rfl, rfl, trivial⟩ ?_
            exact ih22 σ42 z83 z86 h43 h44 h45 h46 h47 (by omega) (by omega) (by omega) (by omega) (by omega) (AAS_y (q := z80.toInt) (by omega) h53 (idP_t (fun q => by omega)) (by omega) (by omega) (by omega)) (h54) ((by omega))
          · have h88 : rlW (wf σ42) a.toInt = a.toInt := by rw [h54]; omega
            have h89 : y41.toInt < wf σ42 (12 + 4 * a.toInt) := by rw [h54]; omega
            refine En_Ps 3 (pc' := 47) (lv' := [(0, .ref 159), (1, .int a), (2, .int z36), (3, .int y40), (4, .int y41)]) (st' := [.int y41, .int a, .ref 159, .int y40]) rfl ?_
            refine En_callV rfl rfl rfl rfl rfl rfl rfl rfl (by decide +kernel : TG 159 = 35) (by decide +kernel) rfl (c_215x σ42 h43 a y41 (geI rfl (by omega)) (leI rfl (by omega)) (geI rfl (by omega)) (leI rfl (by omega)) z15 h46 z19 h47 (by omega) h88 (by omega)) (by decide) (by decide) (fun v91 σ92 h90 => ?_)
            obtain ⟨h93, h94, z96, rfl, h95⟩ := h90
            have h97 := h95
            have h98 := Fr_trans h44 h94 (by decide +kernel)
            have h99 : wf σ92 = wf σ0 := (wf_fr h94 (by decide +kernel)).trans h54
            have h100 : z96.toInt = DDo (wf σ0) a.toInt y41.toInt := by rw [← h54]; exact h97
            refine En_Ps 1 (pc' := 51) (lv' := [(0, .ref 159), (1, .int a), (2, .int z36), (3, .int y40), (4, .int y41)]) (st' := [.int z36, .int z96, .int y40]) rfl ?_
            refine En_icNe _ rfl rfl rfl (fun h101 => ?_) (fun h101 => ?_)
            · refine En_Ps 2 (pc' := 63) (lv' := [(0, .ref 159), (1, .int a), (2, .int z36), (3, .int y40), (4, .int y41)]) (st' := [.int ((y40 ||| ((Int32.ofInt 0))))]) rfl ?_
              refine En_nam (fun z102 h103 => ?_)
              have h104 : z102.toInt = oN y40.toInt 0 := or_v h103 rfl (by decide : (Int32.ofInt 0).toInt = 0) (by omega) (by omega)
              have := oN_lt (X := y40.toInt) (Y := 0) 16 (by omega) (by omega) (Int.lt_of_le_of_lt (by omega : _ ≤ (65535 : Int)) (by decide)) (Int.lt_of_le_of_lt (by omega : _ ≤ (65535 : Int)) (by decide))
              have two16 : ((2 ^ 16 : Nat) : Int) = 65536 := by decide
              refine En_Ps 2 (pc' := 67) (lv' := [(4, .int ((y41 + Int32.ofInt 1))), (3, .int z102), (0, .ref 159), (1, .int a), (2, .int z36)]) (st' := []) rfl ?_
              refine En_lv1 (addI rfl (by decide : (Int32.ofInt 1).toInt = 1) (by omega) (by omega)) (fun z105 h106 => ?_)
              refine En_Ps 1 (pc' := 22) (lv' := [(4, .int z105), (3, .int z102), (0, .ref 159), (1, .int a), (2, .int z36)]) (st' := []) rfl ?_
              refine En_lv (lv := [(0, .ref 159), (1, .int a), (2, .int z36), (3, .int z102), (4, .int z105)]) ⟨rfl, rfl, rfl, rfl, rfl, trivial⟩ ?_
              exact ih22 σ92 z102 z105 h93 h98 ((h94 _ _ (inWa (by decide +kernel : TG 160 = 36) (by decide +kernel))).trans h45) ((h94 _ _ (inWa (by decide +kernel : TG 160 = 36) (by decide +kernel))).trans h46) ((h94 _ _ (inWa (by decide +kernel : TG 160 = 36) (by decide +kernel))).trans h47) (by omega) (by omega) (by omega) (by omega) (by omega) (AAS_z (q := 0) (by omega) h53 (idP_n h100 h37 (by omega)) (by omega) (by omega) (by omega) (by omega)) (h99) ((by omega))
            · refine En_Ps 3 (pc' := 58) (lv' := [(0, .ref 159), (1, .int a), (2, .int z36), (3, .int y40), (4, .int y41)]) (st' := [.int ((((Int32.ofInt 1)) <<< (y41 &&& 31))), .int y40]) rfl ?_
              refine En_nam (fun z107 h108 => ?_)
              have h109 : z107.toInt = pI y41.toInt := shl_v h108 rfl (by omega) (by omega)
              have := pI_pos y41.toInt
              have : pI y41.toInt ≤ 2048 := pI_mono (Y := 11) (by omega)
              refine En_Ps 2 (pc' := 63) (lv' := [(0, .ref 159), (1, .int a), (2, .int z36), (3, .int y40), (4, .int y41)]) (st' := [.int ((y40 ||| z107))]) rfl ?_
              refine En_nam (fun z110 h111 => ?_)
              have h112 : z110.toInt = oN y40.toInt z107.toInt := or_v h111 rfl rfl (by omega) (by omega)
              have := oN_lt (X := y40.toInt) (Y := z107.toInt) 16 (by omega) (by omega) (Int.lt_of_le_of_lt (by omega : _ ≤ (65535 : Int)) (by decide)) (Int.lt_of_le_of_lt (by omega : _ ≤ (65535 : Int)) (by decide))
              have two16 : ((2 ^ 16 : Nat) : Int) = 65536 := by decide
              refine En_Ps 2 (pc' := 67) (lv' := [(4, .int ((y41 + Int32.ofInt 1))), (3, .int z110), (0, .ref 159), (1, .int a), (2, .int z36)]) (st' := []) rfl ?_
              refine En_lv1 (addI rfl (by decide : (Int32.ofInt 1).toInt = 1) (by omega) (by omega)) (fun z113 h114 => ?_)
              refine En_Ps 1 (pc' := 22) (lv' := [(4, .int z113), (3, .int z110), (0, .ref 159), (1, .int a), (2, .int z36)]) (st' := []) rfl ?_
              refine En_lv (lv := [(0, .ref 159), (1, .int a), (2, .int z36), (3, .int z110), (4, .int z113)]) ⟨rfl, rfl, rfl, rfl, rfl, trivial⟩ ?_
              exact ih22 σ92 z110 z113 h93 h98 ((h94 _ _ (inWa (by decide +kernel : TG 160 = 36) (by decide +kernel))).trans h45) ((h94 _ _ (inWa (by decide +kernel : TG 160 = 36) (by decide +kernel))).trans h46) ((h94 _ _ (inWa (by decide +kernel : TG 160 = 36) (by decide +kernel))).trans h47) (by omega) (by omega) (by omega) (by omega) (by omega) (AAS_y (q := z107.toInt) (by omega) h53 (idP_y h100 h37 (by omega)) (by omega) (by omega) (by omega)) (h99) ((by omega))
    have := (by decide : (Int32.ofInt 0).toInt = 0)
    have := (by decide : (Int32.ofInt 0).toInt = 0)
    refine En_lv (lv := [(0, .ref 159), (1, .int a), (2, .int z36), (3, .int ((Int32.ofInt 0))), (4, .int ((Int32.ofInt 0)))]) ⟨rfl, rfl, rfl, rfl, rfl, trivial⟩ ?_
    exact key22 (Int.toNat (13) + 1) σ30 ((Int32.ofInt 0)) ((Int32.ofInt 0)) h31 h38 ((h32 _ _ (inWa (by decide +kernel : TG 160 = 36) (by decide +kernel))).trans h1) ((h32 _ _ (inWa (by decide +kernel : TG 160 = 36) (by decide +kernel))).trans h14) ((h32 _ _ (inWa (by decide +kernel : TG 160 = 36) (by decide +kernel))).trans h18) (by omega) (by omega) (by omega) (by omega) (by omega) (AAS_0 (by omega) (by omega)) (h39) ((by have e9 := (NNw_w hσ0).2.2 a.toInt (by omega) (by omega); omega))
  · refine En_Ps 1 (pc' := 10) (lv' := [(0, .ref 159), (1, .int a)]) (st' := [.int (((Int8.ofInt (-2)).toInt32))]) rfl ?_
    refine En_top (by decide : ((Int8.ofInt (-2)).toInt32).toInt = -2) (fun z115 h116 => ?_)
    exact En_ret (v := some (.int z115)) rfl rfl rfl ⟨hσ0, hF0, z115, rfl, ⟨by omega, by omega, idR_n (fun ⟨q1, q2⟩ => by omega) (by omega)⟩⟩
/-- DoorSchoolModel.image(I)I -/
abbrev P_248x (σ0 : SG) (a : Int32) : PO := fun v σ => WT σ ∧ Fr [(37, 0), (38, 0)] σ0 σ ∧ ∃ ret : Int32, v = some (.int ret) ∧ -ret.toInt - 2 ≤ 0 ∧ ret.toInt ≤ 0 ∧ Imp (-a.toInt ≤ 0 ∧ a.toInt - 2 ≤ 0) (ret.toInt ≤ 0 ∧ -ret.toInt ≤ 0) ∧ Imp (a.toInt + 1 ≤ 0) (ret.toInt + 2 ≤ 0 ∧ -ret.toInt - 2 ≤ 0) ∧ Imp (-a.toInt + 3 ≤ 0) (ret.toInt + 2 ≤ 0 ∧ -ret.toInt - 2 ≤ 0) ∧ (WI σ ∧ BSET σ0 σ 162 a.toInt ∧ IMW σ0 σ a.toInt)
set_option maxRecDepth 10000 in
set_option maxHeartbeats 4000000 in
theorem c_248x (σ0 : SG) (hσ0 : WT σ0) (a : Int32) (hI : WI σ0) : En 1 25 none mr_248 (P_248x σ0 a) 0 [(0, .ref 159), (1, .int a)] [] σ0 := by
  have hF0 : Fr [(37, 0), (38, 0)] σ0 σ0 := Fr_rfl
  refine En_Ps 4 (pc' := 6) (lv' := [(0, .ref 159), (1, .int a)]) (st' := [.long ((2 : Int64)), .long ((Int64.ofNat 0)), .long a.toInt64]) rfl ?_
  have : a.toInt64.toInt = a.toInt := (i2lI rfl)
  have := (by decide : ((Int64.ofNat 0)).toInt = 0)
  have := (by decide : ((2 : Int64)).toInt = 2)
  refine En_callS rfl rfl rfl rfl rfl rfl rfl rfl rfl (c_249 σ0 hσ0 a.toInt64 ((Int64.ofNat 0)) ((2 : Int64))) (by decide) (by decide) (fun v2 σ3 h1 => ?_)
  obtain ⟨h4, h5, z7, rfl, h6⟩ := h1
  obtain rfl : σ0 = σ3 := Fr_nil h5
  refine En_iNe _ rfl rfl (fun h8 => ?_) (fun h8 => ?_)
  · refine En_Ps 2 (pc' := 17) (lv' := [(2, .int ((Int32.ofInt 0))), (0, .ref 159), (1, .int a)]) (st' := []) rfl ?_
    have key17 : ∀ (n17 : Nat) (σ10 : SG) (y9 : Int32), WT σ10 → Fr [(37, 0), (38, 0)] σ0 σ10 → 0 ≤ y9.toInt → y9.toInt ≤ 226 → -y9.toInt + 226 < (n17 : Int) → CPI σ0 σ10 a.toInt y9.toInt → SAMr σ0 σ10 162 → En 1 25 none mr_248 (P_248x σ0 a) 17 [(0, .ref 159), (1, .int a), (2, .int y9)] [] σ10 := by
      intro n17
      induction n17 with
      | zero =>
        intro σ10 y9 h11 h12 h13 h14 h15 h16 h17
        exfalso; omega
      | succ n17 ih17 =>
        intro σ10 y9 h11 h12 h13 h14 h15 h16 h17
        refine En_Ps 2 (pc' := 21) (lv' := [(0, .ref 159), (1, .int a), (2, .int y9)]) (st' := [.int (((Int16.ofInt 226).toInt32)), .int y9]) rfl ?_
        refine En_icGe _ rfl (by decide : ((Int16.ofInt 226).toInt32).toInt = 226) rfl (fun h18 => ?_) (fun h18 => ?_)
        · refine En_Ps 1 (pc' := 49) (lv' := [(0, .ref 159), (1, .int a), (2, .int y9)]) (st' := [.ref 159]) rfl ?_
          refine En_getU (j := 3) (u := 162) (g' := 38) (q := 0) rfl rfl rfl (by decide +kernel : TG 159 = 35) (by decide +kernel) h11 (by decide +kernel) (by decide +kernel) (fun h19 => ?_)
          refine En_Ps 2 (pc' := 54) (lv' := [(0, .ref 159), (1, .int a), (2, .int y9)]) (st' := [.int ((Int32.ofInt 1)), .int a, .ref 162]) rfl ?_
          refine En_bast (l := 0) (u := 1) rfl rfl (by decide +kernel : TG 162 = 38) (by decide +kernel) (narZ (by decide : (Int32.ofInt 1).toInt = 1) (by omega) (by omega)) (by omega) (lnI (by decide +kernel : LN _ = 3) (by omega)) (FTsgl (by decide +kernel)) (rngI (by decide : (Int32.ofInt 1).toInt = 1) (by omega) (by omega)) h11 h12 (by decide +kernel) (fun σ21 h22 h23 h24 h25 => ?_)
          refine En_Ps 1 (pc' := 56) (lv' := [(0, .ref 159), (1, .int a), (2, .int y9)]) (st' := [.int ((Int32.ofInt 0))]) rfl ?_
          refine En_top (by decide : (Int32.ofInt 0).toInt = 0) (fun z26 h27 => ?_)
          exact En_ret (v := some (.int z26)) rfl rfl rfl ⟨h22, h23, z26, rfl, ⟨by omega, by omega, fun _ => by omega, fun _ => by omega, fun _ => by omega, ⟨WI_nx h25 (by decide) (by decide) (CPI_x (W := []) h16 (by omega) (SWd_fr h12 (by decide +kernel)) (by omega) (by omega) hI), BSET_st h17 h24 h25 (by decide) (by omega), IMW_ok h16 (by omega) (by omega) (by omega) (SWd_fr h12 (by decide +kernel)) h25 (by decide)⟩⟩⟩
        · refine En_Ps 1 (pc' := 25) (lv' := [(0, .ref 159), (1, .int a), (2, .int y9)]) (st' := [.ref 159]) rfl ?_
          refine En_getU (j := 2) (u := 161) (g' := 37) (q := 0) rfl rfl rfl (by decide +kernel : TG 159 = 35) (by decide +kernel) h11 (by decide +kernel) (by decide +kernel) (fun h28 => ?_)
          refine En_Ps 3 (pc' := 33) (lv' := [(0, .ref 159), (1, .int a), (2, .int y9)]) (st' := [.int (((((Int16.ofInt 226).toInt32)) * a)), .ref 161]) rfl ?_
          refine En_top (mulI (by decide : ((Int16.ofInt 226).toInt32).toInt = 226) rfl (Z := 226 * a.toInt) (by omega) (by omega) (by omega)) (fun z30 h31 => ?_)
          refine En_Ps 2 (pc' := 35) (lv' := [(0, .ref 159), (1, .int a), (2, .int y9)]) (st' := [.int ((z30 + y9)), .ref 161]) rfl ?_
          refine En_top (addI rfl rfl (by omega) (by omega)) (fun z32 h33 => ?_)
          refine En_Ps 1 (pc' := 36) (lv' := [(0, .ref 159), (1, .int a), (2, .int y9)]) (st' := [.ref 159, .int z32, .ref 161]) rfl ?_
          refine En_getU (j := 1) (u := 160) (g' := 36) (q := 0) rfl rfl rfl (by decide +kernel : TG 159 = 35) (by decide +kernel) h11 (by decide +kernel) (by decide +kernel) (fun h34 => ?_)
          refine En_Ps 1 (pc' := 40) (lv' := [(0, .ref 159), (1, .int a), (2, .int y9)]) (st' := [.int y9, .ref 160, .int z32, .ref 161]) rfl ?_
          refine En_ialdW (n := 226) rfl rfl (by decide +kernel : TG 160 = 36) (by decide +kernel) h11 (by omega) (by decide +kernel) (by omega) (by decide +kernel) (fun z36 h37 h38 => ?_)
          refine En_iastW (n := 678) rfl rfl (by decide +kernel : TG 161 = 37) (by decide +kernel) (by omega) (by decide +kernel) (by omega) (ft_wi h38 (by omega) (by omega) (k := a.toInt) (by omega) (by omega) (by omega)) h11 h12 (by decide +kernel) (fun σ39 h40 h41 h42 h43 => ?_)
          refine En_Ps 1 (pc' := 45) (lv' := [(2, .int ((y9 + Int32.ofInt 1))), (0, .ref 159), (1, .int a)]) (st' := []) rfl ?_
          refine En_lv1 (addI rfl (by decide : (Int32.ofInt 1).toInt = 1) (by omega) (by omega)) (fun z44 h45 => ?_)
          refine En_Ps 1 (pc' := 17) (lv' := [(2, .int z44), (0, .ref 159), (1, .int a)]) (st' := []) rfl ?_
          refine En_lv (lv := [(0, .ref 159), (1, .int a), (2, .int z44)]) ⟨rfl, rfl, rfl, trivial⟩ ?_
          exact ih17 σ39 z44 h40 h41 (by omega) (by omega) (by omega) (CPI_s h16 (SWd_fr h12 (by decide +kernel)) h37 h42 h43 (by omega) (by omega) (by omega) (by omega) (by omega)) (SAMr_st h17 h43 (by decide))
    have := (by decide : (Int32.ofInt 0).toInt = 0)
    refine En_lv (lv := [(0, .ref 159), (1, .int a), (2, .int ((Int32.ofInt 0)))]) ⟨rfl, rfl, rfl, trivial⟩ ?_
    exact key17 (Int.toNat (226) + 1) σ0 ((Int32.ofInt 0)) hσ0 hF0 (by omega) (by omega) (by omega) (CPI_0 (by decide)) (SAMr_0)
  · refine En_Ps 1 (pc' := 14) (lv' := [(0, .ref 159), (1, .int a)]) (st' := [.int (((Int8.ofInt (-2)).toInt32))]) rfl ?_
    refine En_top (by decide : ((Int8.ofInt (-2)).toInt32).toInt = -2) (fun z46 h47 => ?_)
    exact En_ret (v := some (.int z46)) rfl rfl rfl ⟨hσ0, hF0, z46, rfl, ⟨by omega, by omega, fun _ => by omega, fun _ => by omega, fun _ => by omega, ⟨hI, BSET_no SAMr_0 (by omega), IMW_no (by omega)⟩⟩⟩
/-- DoorSchoolModel.isFreshCopied(I)Z -/
abbrev P_257x (σ0 : SG) (a : Int32) : PO := fun v σ => WT σ ∧ Fr [] σ0 σ ∧ ∃ ret : Int32, v = some (.int ret) ∧ -ret.toInt ≤ 0 ∧ ret.toInt - 1 ≤ 0 ∧ Imp (ret.toInt - 1 ≤ 0 ∧ -ret.toInt + 1 ≤ 0) (-a.toInt - 1 ≤ 0 ∧ a.toInt - 3 ≤ 0) ∧ ret.toInt = cpI (ci σ0 165) a.toInt
set_option maxRecDepth 10000 in
set_option maxHeartbeats 4000000 in
theorem c_257x (σ0 : SG) (hσ0 : WT σ0) (a : Int32) : En 0 0 none mr_257 (P_257x σ0 a) 0 [(0, .ref 159), (1, .int a)] [] σ0 := by
  have hF0 : Fr [] σ0 σ0 := Fr_rfl
  refine En_Ps 2 (pc' := 2) (lv' := [(2, .int ((Int32.ofInt 0))), (0, .ref 159), (1, .int a)]) (st' := []) rfl ?_
  have key2 : ∀ (n2 : Nat) (y1 : Int32), 0 ≤ y1.toInt → y1.toInt ≤ 4 → -y1.toInt + 4 < (n2 : Int) → NCP σ0 a.toInt y1.toInt → En 0 0 none mr_257 (P_257x σ0 a) 2 [(0, .ref 159), (1, .int a), (2, .int y1)] [] σ0 := by
    intro n2
    induction n2 with
    | zero =>
      intro y1 h5 h6 h7 h8
      exfalso; omega
    | succ n2 ih2 =>
      intro y1 h5 h6 h7 h8
      refine En_Ps 2 (pc' := 4) (lv' := [(0, .ref 159), (1, .int a), (2, .int y1)]) (st' := [.ref 159, .int y1]) rfl ?_
      refine En_getU (j := 14) (u := 165) (g' := 41) (q := 0) rfl rfl rfl (by decide +kernel : TG 159 = 35) (by decide +kernel) hσ0 (by decide +kernel) (by decide +kernel) (fun h9 => ?_)
      refine En_Ps 1 (pc' := 8) (lv' := [(0, .ref 159), (1, .int a), (2, .int y1)]) (st' := [.int ((Int32.ofInt 2)), .ref 165, .int y1]) rfl ?_
      refine En_iald (l := 0) (u := 4) rfl (by decide : (Int32.ofInt 2).toInt = 2) (by decide +kernel : TG 165 = 41) (by decide +kernel) hσ0 (by omega) (lnI (by decide +kernel : LN _ = 226) (by omega)) (by decide +kernel) (fun z12 h11 h13 h14 => ?_)
      refine En_icGe _ rfl rfl rfl (fun h15 => ?_) (fun h15 => ?_)
      · refine En_Ps 1 (pc' := 38) (lv' := [(0, .ref 159), (1, .int a), (2, .int y1)]) (st' := [.int ((Int32.ofInt 0))]) rfl ?_
        refine En_top (by decide : (Int32.ofInt 0).toInt = 0) (fun z16 h17 => ?_)
        exact En_ret (v := some (.int z16)) rfl rfl (retZ rfl rfl (by omega) (by omega)) ⟨hσ0, hF0, z16, rfl, ⟨by omega, by omega, fun _ => by omega, CPI_n h11 h8 (by omega) (by omega) (by omega)⟩⟩
      · refine En_Ps 1 (pc' := 13) (lv' := [(0, .ref 159), (1, .int a), (2, .int y1)]) (st' := [.ref 159]) rfl ?_
        refine En_getK (j := 14) h9 rfl rfl rfl (by decide +kernel : TG 159 = 35) (by decide +kernel) ?_
        refine En_Ps 4 (pc' := 21) (lv' := [(0, .ref 159), (1, .int a), (2, .int y1)]) (st' := [.int ((((Int32.ofInt 4)) * y1)), .int (((Int8.ofInt 10).toInt32)), .ref 165]) rfl ?_
        refine En_top (mulI (by decide : (Int32.ofInt 4).toInt = 4) rfl (Z := 4 * y1.toInt) (by omega) (by omega) (by omega)) (fun z18 h19 => ?_)
        refine En_Ps 1 (pc' := 22) (lv' := [(0, .ref 159), (1, .int a), (2, .int y1)]) (st' := [.int (((((Int8.ofInt 10).toInt32)) + z18)), .ref 165]) rfl ?_
        refine En_top (addI (by decide : ((Int8.ofInt 10).toInt32).toInt = 10) rfl (by omega) (by omega)) (fun z20 h21 => ?_)
        refine En_Ps 2 (pc' := 24) (lv' := [(0, .ref 159), (1, .int a), (2, .int y1)]) (st' := [.int ((z20 + ((Int32.ofInt 3)))), .ref 165]) rfl ?_
        refine En_top (addI rfl (by decide : (Int32.ofInt 3).toInt = 3) (by omega) (by omega)) (fun z22 h23 => ?_)
        refine En_iald (l := (-1)) (u := 3) rfl rfl (by decide +kernel : TG 165 = 41) (by decide +kernel) hσ0 (by omega) (lnI (by decide +kernel : LN _ = 226) (by omega)) (FTrow 41 13 4 4 (by decide +kernel) (by omega) (by omega) (by omega)) (fun z25 h24 h26 h27 => ?_)
        refine En_Ps 1 (pc' := 26) (lv' := [(0, .ref 159), (1, .int a), (2, .int y1)]) (st' := [.int a, .int z25]) rfl ?_
        refine En_icNe _ rfl rfl rfl (fun h28 => ?_) (fun h28 => ?_)
        · refine En_Ps 1 (pc' := 34) (lv' := [(2, .int ((y1 + Int32.ofInt 1))), (0, .ref 159), (1, .int a)]) (st' := []) rfl ?_
          refine En_lv1 (addI rfl (by decide : (Int32.ofInt 1).toInt = 1) (by omega) (by omega)) (fun z29 h30 => ?_)
          refine En_Ps 1 (pc' := 2) (lv' := [(2, .int z29), (0, .ref 159), (1, .int a)]) (st' := []) rfl ?_
          refine En_lv (lv := [(0, .ref 159), (1, .int a), (2, .int z29)]) ⟨rfl, rfl, rfl, trivial⟩ ?_
          exact ih2 z29 (by omega) (by omega) (by omega) (NCP_s h8 h24 (by omega) (by omega) (by omega))
        · refine En_Ps 1 (pc' := 30) (lv' := [(0, .ref 159), (1, .int a), (2, .int y1)]) (st' := [.int ((Int32.ofInt 1))]) rfl ?_
          refine En_top (by decide : (Int32.ofInt 1).toInt = 1) (fun z31 h32 => ?_)
          exact En_ret (v := some (.int z31)) rfl rfl (retZ rfl rfl (by omega) (by omega)) ⟨hσ0, hF0, z31, rfl, ⟨by omega, by omega, fun _ => by omega, CPI_1 (y := y1.toInt) h11 h24 (by omega) (by omega) (by omega) (by omega) (by omega) (by omega)⟩⟩
  have := (by decide : (Int32.ofInt 0).toInt = 0)
  refine En_lv (lv := [(0, .ref 159), (1, .int a), (2, .int ((Int32.ofInt 0)))]) ⟨rfl, rfl, rfl, trivial⟩ ?_
  exact key2 (Int.toNat (4) + 1) ((Int32.ofInt 0)) (by omega) (by omega) (by omega) (fun q q0 q1 => by omega)
/-- DoorSchoolModel.isNextIn(I)Z -/
abbrev P_260x (σ0 : SG) (a : Int32) (k : Int32) (t : Int32) (u : Int32) : PO := fun v σ => WT σ ∧ Fr [] σ0 σ ∧ ∃ ret : Int32, v = some (.int ret) ∧ -ret.toInt ≤ 0 ∧ ret.toInt - 1 ≤ 0 ∧ Imp (-ret.toInt + 1 ≤ 0) (k.toInt ≤ 0 ∧ t.toInt - 2 ≤ 0 ∧ -t.toInt + 2 ≤ 0 ∧ u.toInt - a.toInt + 1 ≤ 0) ∧ Imp (ret.toInt ≤ 0 ∧ k.toInt ≤ 0 ∧ t.toInt - 2 ≤ 0 ∧ -t.toInt + 2 ≤ 0) (a.toInt - u.toInt ≤ 0)
set_option maxRecDepth 10000 in
set_option maxHeartbeats 4000000 in
theorem c_260x (σ0 : SG) (hσ0 : WT σ0) (a : Int32) (k : Int32) (h_k : (σ0 159)[12]? = some (.int k)) (t : Int32) (h_t : (σ0 159)[10]? = some (.int t)) (u : Int32) (h_u : (σ0 159)[11]? = some (.int u)) : En 1 20 none mr_260 (P_260x σ0 a k t u) 0 [(0, .ref 159), (1, .int a)] [] σ0 := by
  obtain ⟨hl_k, hu_k⟩ := WT_int hσ0 (g := 35) (by decide +kernel) (by decide +kernel) (l := 0) (u := 3) (by decide +kernel) h_k
  obtain ⟨hl_t, hu_t⟩ := WT_int hσ0 (g := 35) (by decide +kernel) (by decide +kernel) (l := 0) (u := 4) (by decide +kernel) h_t
  obtain ⟨hl_u, hu_u⟩ := WT_int hσ0 (g := 35) (by decide +kernel) (by decide +kernel) (l := 0) (u := 99999) (by decide +kernel) h_u
  have hF0 : Fr [] σ0 σ0 := Fr_rfl
  refine En_Ps 1 (pc' := 1) (lv' := [(0, .ref 159), (1, .int a)]) (st' := [.ref 159]) rfl ?_
  refine En_callV rfl rfl rfl rfl rfl rfl rfl rfl (by decide +kernel : TG 159 = 35) (by decide +kernel) rfl (c_237 σ0 hσ0 k h_k) (by decide) (by decide) (fun v2 σ3 h1 => ?_)
  obtain ⟨h4, h5, z7, rfl, h6⟩ := h1
  obtain rfl : σ0 = σ3 := Fr_nil h5
  refine En_iEq _ rfl rfl (fun h8 => ?_) (fun h8 => ?_)
  · refine En_Ps 1 (pc' := 28) (lv' := [(0, .ref 159), (1, .int a)]) (st' := [.int ((Int32.ofInt 0))]) rfl ?_
    refine En_top (by decide : (Int32.ofInt 0).toInt = 0) (fun z9 h10 => ?_)
    exact En_ret (v := some (.int z9)) rfl rfl (retZ rfl rfl (by omega) (by omega)) ⟨hσ0, hF0, z9, rfl, ⟨by omega, by omega, fun _ => by omega, fun _ => by omega⟩⟩
  · refine En_Ps 1 (pc' := 8) (lv' := [(0, .ref 159), (1, .int a)]) (st' := [.ref 159]) rfl ?_
    refine En_getK (j := 10) h_t rfl rfl rfl (by decide +kernel : TG 159 = 35) (by decide +kernel) ?_
    refine En_Ps 1 (pc' := 12) (lv' := [(0, .ref 159), (1, .int a)]) (st' := [.int ((Int32.ofInt 2)), .int t]) rfl ?_
    refine En_icNe _ rfl (by decide : (Int32.ofInt 2).toInt = 2) rfl (fun h11 => ?_) (fun h11 => ?_)
    · refine En_Ps 1 (pc' := 28) (lv' := [(0, .ref 159), (1, .int a)]) (st' := [.int ((Int32.ofInt 0))]) rfl ?_
      refine En_top (by decide : (Int32.ofInt 0).toInt = 0) (fun z12 h13 => ?_)
      exact En_ret (v := some (.int z12)) rfl rfl (retZ rfl rfl (by omega) (by omega)) ⟨hσ0, hF0, z12, rfl, ⟨by omega, by omega, fun _ => by omega, fun _ => by omega⟩⟩
    · refine En_Ps 1 (pc' := 16) (lv' := [(0, .ref 159), (1, .int a)]) (st' := [.ref 159]) rfl ?_
      refine En_getK (j := 11) h_u rfl rfl rfl (by decide +kernel : TG 159 = 35) (by decide +kernel) ?_
      refine En_Ps 1 (pc' := 20) (lv' := [(0, .ref 159), (1, .int a)]) (st' := [.int a, .int u]) rfl ?_
      refine En_icGe _ rfl rfl rfl (fun h14 => ?_) (fun h14 => ?_)
      · refine En_Ps 1 (pc' := 28) (lv' := [(0, .ref 159), (1, .int a)]) (st' := [.int ((Int32.ofInt 0))]) rfl ?_
        refine En_top (by decide : (Int32.ofInt 0).toInt = 0) (fun z15 h16 => ?_)
        exact En_ret (v := some (.int z15)) rfl rfl (retZ rfl rfl (by omega) (by omega)) ⟨hσ0, hF0, z15, rfl, ⟨by omega, by omega, fun _ => by omega, fun _ => by omega⟩⟩
      · refine En_Ps 2 (pc' := 28) (lv' := [(0, .ref 159), (1, .int a)]) (st' := [.int ((Int32.ofInt 1))]) rfl ?_
        refine En_top (by decide : (Int32.ofInt 1).toInt = 1) (fun z17 h18 => ?_)
        exact En_ret (v := some (.int z17)) rfl rfl (retZ rfl rfl (by omega) (by omega)) ⟨hσ0, hF0, z17, rfl, ⟨by omega, by omega, fun _ => by omega, fun _ => by omega⟩⟩
/-- DoorSchoolModel.isRest(III)Z -/
abbrev P_261x (σ0 : SG) (a : Int32) (b : Int32) (c : Int32) (s : Int32) (sc : Int32) : PO := fun v σ => WT σ ∧ Fr [(35, 18), (35, 21), (42, 0), (43, 0), (44, 0), (45, 0), (46, 0)] σ0 σ ∧ ∃ ret : Int32, v = some (.int ret) ∧ -ret.toInt ≤ 0 ∧ ret.toInt - 1 ≤ 0 ∧ ((ret.toInt = 1 ∧ RSP (wf σ0) a.toInt b.toInt c.toInt) ∨ (ret.toInt = 0 ∧ ¬ RSP (wf σ0) a.toInt b.toInt c.toInt))
set_option maxRecDepth 10000 in
set_option maxHeartbeats 4000000 in
theorem c_261x (σ0 : SG) (hσ0 : WT σ0) (a : Int32) (b : Int32) (c : Int32) (hl_a : 0 ≤ a.toInt) (hu_a : a.toInt ≤ 3) (hl_b : 0 ≤ b.toInt) (hu_b : b.toInt ≤ 2) (hl_c : 0 ≤ c.toInt) (hu_c : c.toInt ≤ 15) (s : Int32) (h_s : (σ0 160)[(0 : Int).toNat]? = some (.int s)) (sc : Int32) (h_sc : (σ0 160)[(7 : Int).toNat]? = some (.int sc)) (hp0 : -sc.toInt + 1 ≤ 0) : En 5 113 none mr_261 (P_261x σ0 a b c s sc) 0 [(0, .ref 159), (1, .int a), (2, .int b), (3, .int c)] [] σ0 := by
  obtain ⟨hl_s, hu_s⟩ := WT_int hσ0 (g := 36) (by decide +kernel) (by decide +kernel) (l := 0) (u := 4) (by decide +kernel) h_s
  obtain ⟨hl_sc, hu_sc⟩ := WT_int hσ0 (g := 36) (by decide +kernel) (by decide +kernel) (l := 0) (u := 1600) (by decide +kernel) h_sc
  have hF0 : Fr [(35, 18), (35, 21), (42, 0), (43, 0), (44, 0), (45, 0), (46, 0)] σ0 σ0 := Fr_rfl
  have kv := (kI_val sc.toInt s.toInt).2 (by omega)
  have := pI_rng (s := s.toInt) (by omega) (by omega)
  have w0 : wf σ0 0 = s.toInt := ci_at h_s rfl
  have : pI (wf σ0 0) = pI s.toInt := by rw [w0]
  refine En_Ps 3 (pc' := 3) (lv' := [(0, .ref 159), (1, .int a), (2, .int b), (3, .int c)]) (st' := [.int b, .int a, .ref 159]) rfl ?_
  refine En_callV rfl rfl rfl rfl rfl rfl rfl rfl (by decide +kernel : TG 159 = 35) (by decide +kernel) rfl (c_211x σ0 hσ0 a b (geI rfl (by omega)) (leI rfl (by omega)) (geI rfl (by omega)) (leI rfl (by omega)) s h_s sc h_sc (by omega)) (by decide) (by decide) (fun v2 σ3 h1 => ?_)
  obtain ⟨h4, h5, z7, rfl, h6⟩ := h1
  have h8 := h6.2.2
  have h9 := Fr_trans hF0 h5 (by decide +kernel)
  have h10 : wf σ3 = wf σ0 := wf_fr h5 (by decide +kernel)
  refine En_Ps 1 (pc' := 7) (lv' := [(0, .ref 159), (1, .int a), (2, .int b), (3, .int c)]) (st' := [.int c, .int z7]) rfl ?_
  refine En_callS rfl rfl rfl rfl rfl rfl rfl rfl rfl (c_202ax σ3 h4 z7 c (geI rfl (by omega)) (leI rfl (by omega)) (geI rfl (by omega)) (leI rfl (by omega))) (by decide) (by decide) (fun v12 σ13 h11 => ?_)
  obtain ⟨h14, h15, z17, rfl, h16⟩ := h11
  have h18 := h16.2.2
  obtain rfl : σ3 = σ13 := Fr_nil h15
  have h19 : z17.toInt = btI (WDw (wf σ0) a.toInt b.toInt) c.toInt := h18.trans (btI_cg h8)
  refine En_Ps 3 (pc' := 15) (lv' := [(5, .int ((Int32.ofInt 0))), (4, .int z17), (0, .ref 159), (1, .int a), (2, .int b), (3, .int c)]) (st' := []) rfl ?_
  have key15 : ∀ (n15 : Nat) (σ21 : SG) (y20 : Int32), WT σ21 → Fr [(35, 18), (35, 21), (42, 0), (43, 0), (44, 0), (45, 0), (46, 0)] σ0 σ21 → (σ21 160)[(0 : Int).toNat]? = some (.int s) → (σ21 160)[(7 : Int).toNat]? = some (.int sc) → 0 ≤ y20.toInt → y20.toInt ≤ 16 → -y20.toInt + 16 < (n15 : Int) → RK1 (wf σ0) a.toInt b.toInt z17.toInt y20.toInt → wf σ21 = wf σ0 → y20.toInt ≤ pI (wf σ0 0) → En 5 113 none mr_261 (P_261x σ0 a b c s sc) 15 [(0, .ref 159), (1, .int a), (2, .int b), (3, .int c), (4, .int z17), (5, .int y20)] [] σ21 := by
    intro n15
    induction n15 with
    | zero =>
      intro σ21 y20 h22 h23 h24 h25 h26 h27 h28 h29 h30 h31
      exfalso; omega
    | succ n15 ih15 =>
      intro σ21 y20 h22 h23 h24 h25 h26 h27 h28 h29 h30 h31
      refine En_Ps 2 (pc' := 18) (lv' := [(0, .ref 159), (1, .int a), (2, .int b), (3, .int c), (4, .int z17), (5, .int y20)]) (st' := [.ref 159, .int y20]) rfl ?_
      refine En_callV rfl rfl rfl rfl rfl rfl rfl rfl (by decide +kernel : TG 159 = 35) (by decide +kernel) rfl (c_269 σ21 h22 s h24 sc h25) (by decide) (by decide) (fun v33 σ34 h32 => ?_)
      obtain ⟨h35, h36, z38, rfl, h37⟩ := h32
      have h39 := h37.2.2
      obtain rfl : σ21 = σ34 := Fr_nil h36
      have h40 := h39
      refine En_icGe _ rfl rfl rfl (fun h41 => ?_) (fun h41 => ?_)
      · refine En_Ps 2 (pc' := 60) (lv' := [(5, .int ((Int32.ofInt 0))), (0, .ref 159), (1, .int a), (2, .int b), (3, .int c), (4, .int z17)]) (st' := []) rfl ?_
        have key60 : ∀ (n60 : Nat) (σ43 : SG) (y42 : Int32), WT σ43 → Fr [(35, 18), (35, 21), (42, 0), (43, 0), (44, 0), (45, 0), (46, 0)] σ0 σ43 → (σ43 160)[(0 : Int).toNat]? = some (.int s) → (σ43 160)[(7 : Int).toNat]? = some (.int sc) → 0 ≤ y42.toInt → y42.toInt ≤ 3 → -y42.toInt + 3 < (n60 : Int) → RK2 (wf σ0) a.toInt c.toInt z17.toInt y42.toInt → wf σ43 = wf σ0 → En 5 113 none mr_261 (P_261x σ0 a b c s sc) 60 [(0, .ref 159), (1, .int a), (2, .int b), (3, .int c), (4, .int z17), (5, .int y42)] [] σ43 := by
          intro n60
          induction n60 with
          | zero =>
            intro σ43 y42 h44 h45 h46 h47 h48 h49 h50 h51 h52
            exfalso; omega
          | succ n60 ih60 =>
            intro σ43 y42 h44 h45 h46 h47 h48 h49 h50 h51 h52
            refine En_Ps 2 (pc' := 63) (lv' := [(0, .ref 159), (1, .int a), (2, .int b), (3, .int c), (4, .int z17), (5, .int y42)]) (st' := [.int ((Int32.ofInt 3)), .int y42]) rfl ?_
            refine En_icGe _ rfl (by decide : (Int32.ofInt 3).toInt = 3) rfl (fun h53 => ?_) (fun h53 => ?_)
            · refine En_Ps 1 (pc' := 91) (lv' := [(0, .ref 159), (1, .int a), (2, .int b), (3, .int c), (4, .int z17), (5, .int y42)]) (st' := [.int ((Int32.ofInt 1))]) rfl ?_
              refine En_top (by decide : (Int32.ofInt 1).toInt = 1) (fun z54 h55 => ?_)
              exact En_ret (v := some (.int z54)) rfl rfl (retZ rfl rfl (by omega) (by omega)) ⟨h44, h45, z54, rfl, ⟨by omega, by omega, Or.inl ⟨(by omega), RSP_y h19 h29 (by omega) h51 (by omega)⟩⟩⟩
            · refine En_Ps 3 (pc' := 70) (lv' := [(0, .ref 159), (1, .int a), (2, .int b), (3, .int c), (4, .int z17), (5, .int y42)]) (st' := [.int y42, .int a, .ref 159]) rfl ?_
              refine En_callV rfl rfl rfl rfl rfl rfl rfl rfl (by decide +kernel : TG 159 = 35) (by decide +kernel) rfl (c_211x σ43 h44 a y42 (geI rfl (by omega)) (leI rfl (by omega)) (geI rfl (by omega)) (leI rfl (by omega)) s h46 sc h47 (by omega)) (by decide) (by decide) (fun v57 σ58 h56 => ?_)
              obtain ⟨h59, h60, z62, rfl, h61⟩ := h56
              have h63 := h61.2.2
              have h64 := Fr_trans h45 h60 (by decide +kernel)
              have h65 : wf σ58 = wf σ0 := (wf_fr h60 (by decide +kernel)).trans h52
              have h66 : z62.toInt = WDw (wf σ0) a.toInt y42.toInt := by rw [← h52]; exact h63
              refine En_Ps 1 (pc' := 74) (lv' := [(0, .ref 159), (1, .int a), (2, .int b), (3, .int c), (4, .int z17), (5, .int y42)]) (st' := [.int c, .int z62]) rfl ?_
              refine En_callS rfl rfl rfl rfl rfl rfl rfl rfl rfl (c_202ax σ58 h59 z62 c (geI rfl (by omega)) (leI rfl (by omega)) (geI rfl (by omega)) (leI rfl (by omega))) (by decide) (by decide) (fun v68 σ69 h67 => ?_)
              obtain ⟨h70, h71, z73, rfl, h72⟩ := h67
              have h74 := h72.2.2
              obtain rfl : σ58 = σ69 := Fr_nil h71
              have h75 : z73.toInt = btI (WDw (wf σ0) a.toInt y42.toInt) c.toInt := h74.trans (btI_cg h66)
              refine En_Ps 1 (pc' := 79) (lv' := [(0, .ref 159), (1, .int a), (2, .int b), (3, .int c), (4, .int z17), (5, .int y42)]) (st' := [.int z17, .int z73]) rfl ?_
              refine En_icGe _ rfl rfl rfl (fun h76 => ?_) (fun h76 => ?_)
              · refine En_Ps 1 (pc' := 87) (lv' := [(5, .int ((y42 + Int32.ofInt 1))), (0, .ref 159), (1, .int a), (2, .int b), (3, .int c), (4, .int z17)]) (st' := []) rfl ?_
                refine En_lv1 (addI rfl (by decide : (Int32.ofInt 1).toInt = 1) (by omega) (by omega)) (fun z77 h78 => ?_)
                refine En_Ps 1 (pc' := 60) (lv' := [(5, .int z77), (0, .ref 159), (1, .int a), (2, .int b), (3, .int c), (4, .int z17)]) (st' := []) rfl ?_
                refine En_lv (lv := [(0, .ref 159), (1, .int a), (2, .int b), (3, .int c), (4, .int z17), (5, .int z77)]) ⟨rfl, rfl, rfl, rfl, rfl, rfl, trivial⟩ ?_
                exact ih60 σ58 z77 h59 h64 ((h60 _ _ (inWa (by decide +kernel : TG 160 = 36) (by decide +kernel))).trans h46) ((h60 _ _ (inWa (by decide +kernel : TG 160 = 36) (by decide +kernel))).trans h47) (by omega) (by omega) (by omega) (RK2_s h51 h75 (by omega) (by omega)) (h65)
              · refine En_Ps 1 (pc' := 83) (lv' := [(0, .ref 159), (1, .int a), (2, .int b), (3, .int c), (4, .int z17), (5, .int y42)]) (st' := [.int ((Int32.ofInt 0))]) rfl ?_
                refine En_top (by decide : (Int32.ofInt 0).toInt = 0) (fun z79 h80 => ?_)
                exact En_ret (v := some (.int z79)) rfl rfl (retZ rfl rfl (by omega) (by omega)) ⟨h59, h64, z79, rfl, ⟨by omega, by omega, Or.inr ⟨(by omega), RSP_2 h19 (v := y42.toInt) (by omega) (by omega) h75 (by omega)⟩⟩⟩
        have := (by decide : (Int32.ofInt 0).toInt = 0)
        refine En_lv (lv := [(0, .ref 159), (1, .int a), (2, .int b), (3, .int c), (4, .int z17), (5, .int ((Int32.ofInt 0)))]) ⟨rfl, rfl, rfl, rfl, rfl, rfl, trivial⟩ ?_
        exact key60 (Int.toNat (3) + 1) σ21 ((Int32.ofInt 0)) h22 h23 h24 h25 (by omega) (by omega) (by omega) (RK2_0 (by omega)) (h30)
      · refine En_Ps 2 (pc' := 27) (lv' := [(0, .ref 159), (1, .int a), (2, .int b), (3, .int c), (4, .int z17), (5, .int y20)]) (st' := [.int y20, .ref 159]) rfl ?_
        refine En_callV rfl rfl rfl rfl rfl rfl rfl rfl (by decide +kernel : TG 159 = 35) (by decide +kernel) rfl (c_267x σ21 h22 y20 s h24 sc h25) (by decide) (by decide) (fun v82 σ83 h81 => ?_)
        obtain ⟨h84, h85, z87, rfl, h86⟩ := h81
        have h88 := h86.2.2.2
        obtain rfl : σ21 = σ83 := Fr_nil h85
        have h89 := h88
        rw [h30] at h89
        refine En_iEq _ rfl rfl (fun h90 => ?_) (fun h90 => ?_)
        · refine En_Ps 1 (pc' := 54) (lv' := [(5, .int ((y20 + Int32.ofInt 1))), (0, .ref 159), (1, .int a), (2, .int b), (3, .int c), (4, .int z17)]) (st' := []) rfl ?_
          refine En_lv1 (addI rfl (by decide : (Int32.ofInt 1).toInt = 1) (by omega) (by omega)) (fun z91 h92 => ?_)
          refine En_Ps 1 (pc' := 15) (lv' := [(5, .int z91), (0, .ref 159), (1, .int a), (2, .int b), (3, .int c), (4, .int z17)]) (st' := []) rfl ?_
          refine En_lv (lv := [(0, .ref 159), (1, .int a), (2, .int b), (3, .int c), (4, .int z17), (5, .int z91)]) ⟨rfl, rfl, rfl, rfl, rfl, rfl, trivial⟩ ?_
          exact ih15 σ21 z91 h22 h23 h24 h25 (by omega) (by omega) (by omega) (RK1_n h29 (fun q => by rcases h89 with e9 | e9; omega; exact e9.2 ⟨by omega, by omega, by omega, q⟩) (by omega)) (h30) ((by omega))
        · have h93 := Imp_m h86.2.2.1 (by omega)
          refine En_Ps 3 (pc' := 36) (lv' := [(0, .ref 159), (1, .int a), (2, .int b), (3, .int c), (4, .int z17), (5, .int y20)]) (st' := [.int b, .int a, .ref 159]) rfl ?_
          refine En_callV rfl rfl rfl rfl rfl rfl rfl rfl (by decide +kernel : TG 159 = 35) (by decide +kernel) rfl (c_211x σ21 h22 a b (geI rfl (by omega)) (leI rfl (by omega)) (geI rfl (by omega)) (leI rfl (by omega)) s h24 sc h25 (by omega)) (by decide) (by decide) (fun v95 σ96 h94 => ?_)
          obtain ⟨h97, h98, z100, rfl, h99⟩ := h94
          have h101 := h99.2.2
          have h102 := Fr_trans h23 h98 (by decide +kernel)
          have h103 : wf σ96 = wf σ0 := (wf_fr h98 (by decide +kernel)).trans h30
          have h104 : z100.toInt = WDw (wf σ0) a.toInt b.toInt := by rw [← h30]; exact h101
          refine En_Ps 1 (pc' := 41) (lv' := [(0, .ref 159), (1, .int a), (2, .int b), (3, .int c), (4, .int z17), (5, .int y20)]) (st' := [.int y20, .int z100]) rfl ?_
          refine En_callS rfl rfl rfl rfl rfl rfl rfl rfl rfl (c_202ax σ96 h97 z100 y20 (geI rfl (by omega)) (leI rfl (by omega)) (geI rfl (by omega)) (leI rfl (by omega))) (by decide) (by decide) (fun v106 σ107 h105 => ?_)
          obtain ⟨h108, h109, z111, rfl, h110⟩ := h105
          have h112 := h110.2.2
          obtain rfl : σ96 = σ107 := Fr_nil h109
          have h113 : z111.toInt = btI (WDw (wf σ0) a.toInt b.toInt) y20.toInt := h112.trans (btI_cg h104)
          refine En_Ps 1 (pc' := 46) (lv' := [(0, .ref 159), (1, .int a), (2, .int b), (3, .int c), (4, .int z17), (5, .int y20)]) (st' := [.int z17, .int z111]) rfl ?_
          refine En_icLe _ rfl rfl rfl (fun h114 => ?_) (fun h114 => ?_)
          · refine En_Ps 1 (pc' := 54) (lv' := [(5, .int ((y20 + Int32.ofInt 1))), (0, .ref 159), (1, .int a), (2, .int b), (3, .int c), (4, .int z17)]) (st' := []) rfl ?_
            refine En_lv1 (addI rfl (by decide : (Int32.ofInt 1).toInt = 1) (by omega) (by omega)) (fun z115 h116 => ?_)
            refine En_Ps 1 (pc' := 15) (lv' := [(5, .int z115), (0, .ref 159), (1, .int a), (2, .int b), (3, .int c), (4, .int z17)]) (st' := []) rfl ?_
            refine En_lv (lv := [(0, .ref 159), (1, .int a), (2, .int b), (3, .int c), (4, .int z17), (5, .int z115)]) ⟨rfl, rfl, rfl, rfl, rfl, rfl, trivial⟩ ?_
            exact ih15 σ96 z115 h97 h102 ((h98 _ _ (inWa (by decide +kernel : TG 160 = 36) (by decide +kernel))).trans h24) ((h98 _ _ (inWa (by decide +kernel : TG 160 = 36) (by decide +kernel))).trans h25) (by omega) (by omega) (by omega) (RK1_y h29 h113 (by omega) (by omega)) (h103) ((by omega))
          · refine En_Ps 1 (pc' := 50) (lv' := [(0, .ref 159), (1, .int a), (2, .int b), (3, .int c), (4, .int z17), (5, .int y20)]) (st' := [.int ((Int32.ofInt 0))]) rfl ?_
            refine En_top (by decide : (Int32.ofInt 0).toInt = 0) (fun z117 h118 => ?_)
            exact En_ret (v := some (.int z117)) rfl rfl (retZ rfl rfl (by omega) (by omega)) ⟨h97, h102, z117, rfl, ⟨by omega, by omega, Or.inr ⟨(by omega), RSP_1 h19 (k := y20.toInt) (by omega) (by omega) (by rcases h89 with e9 | e9; exact e9.2.2.2.2; exfalso; omega) h113 (by omega)⟩⟩⟩
  have := (by decide : (Int32.ofInt 0).toInt = 0)
  refine En_lv (lv := [(0, .ref 159), (1, .int a), (2, .int b), (3, .int c), (4, .int z17), (5, .int ((Int32.ofInt 0)))]) ⟨rfl, rfl, rfl, rfl, rfl, rfl, trivial⟩ ?_
  exact key15 (Int.toNat (16) + 1) σ3 ((Int32.ofInt 0)) h4 h9 ((h5 _ _ (inWa (by decide +kernel : TG 160 = 36) (by decide +kernel))).trans h_s) ((h5 _ _ (inWa (by decide +kernel : TG 160 = 36) (by decide +kernel))).trans h_sc) (by omega) (by omega) (by omega) (RK1_0 (by omega)) (h10) ((by have := pI_pos (wf σ0 0); omega))
/-- DoorSchoolModel.left(I)I -/
abbrev P_279x (σ0 : SG) (a : Int32) : PO := fun v σ => WT σ ∧ Fr [(35, 18), (35, 21), (42, 0), (43, 0), (44, 0), (45, 0), (46, 0)] σ0 σ ∧ ∃ ret : Int32, v = some (.int ret) ∧ -ret.toInt - 2 ≤ 0 ∧ ret.toInt - 16 ≤ 0 ∧ ret.toInt = lfR (wf σ0) a.toInt
set_option maxRecDepth 10000 in
set_option maxHeartbeats 4000000 in
theorem c_279x (σ0 : SG) (hσ0 : WT σ0) (a : Int32) (hq : QX (wf σ0)) : En 8 183 none mr_279 (P_279x σ0 a) 0 [(0, .ref 159), (1, .int a)] [] σ0 := by
  have hF0 : Fr [(35, 18), (35, 21), (42, 0), (43, 0), (44, 0), (45, 0), (46, 0)] σ0 σ0 := Fr_rfl
  refine En_Ps 2 (pc' := 2) (lv' := [(0, .ref 159), (1, .int a)]) (st' := [.int a, .ref 159]) rfl ?_
  obtain ⟨z2, h1, h3, h4⟩ := WT_peekI hσ0 (by decide +kernel : TG 160 = 36) (by decide +kernel : FT 36 (2 : Int).toNat = (0, 0, 4)) (by decide +kernel)
  refine En_callV rfl rfl rfl rfl rfl rfl rfl rfl (by decide +kernel : TG 159 = 35) (by decide +kernel) rfl (c_254 σ0 hσ0 a z2 h1) (by decide) (by decide) (fun v6 σ7 h5 => ?_)
  obtain ⟨h8, h9, z11, rfl, h10⟩ := h5
  obtain rfl : σ0 = σ7 := Fr_nil h9
  have w12 : wf σ0 (2) = z2.toInt := ci_at h1 (by omega)
  refine En_iNe _ rfl rfl (fun h13 => ?_) (fun h13 => ?_)
  · obtain ⟨z15, h14, h16, h17⟩ := WT_peekI hσ0 (by decide +kernel : TG 160 = 36) (by decide +kernel : FT 36 (0 : Int).toNat = (0, 0, 4)) (by decide +kernel)
    obtain ⟨z19, h18, h20, h21⟩ := WT_peekI hσ0 (by decide +kernel : TG 160 = 36) (by decide +kernel : FT 36 (7 : Int).toNat = (0, 0, 1600)) (by decide +kernel)
    have w22 : wf σ0 (0) = z15.toInt := ci_at h14 (by omega)
    have w23 : wf σ0 (7) = z19.toInt := ci_at h18 (by omega)
    have h24 : 1 ≤ z19.toInt := by have e9 := hq (by omega); omega
    have h25 := pI_rng (s := z15.toInt) (by omega) (by omega)
    have h26 := (kI_val z19.toInt z15.toInt).2 (by omega)
    have h27 : pI (wf σ0 0) = pI (z15.toInt) := by rw [w22]
    refine En_Ps 2 (pc' := 13) (lv' := [(0, .ref 159), (1, .int a)]) (st' := [.int a, .ref 159]) rfl ?_
    refine En_callV rfl rfl rfl rfl rfl rfl rfl rfl (by decide +kernel : TG 159 = 35) (by decide +kernel) rfl (c_241x σ0 hσ0 a z2 h1 hq) (by decide) (by decide) (fun v29 σ30 h28 => ?_)
    obtain ⟨h31, h32, z34, rfl, h33⟩ := h28
    have h35 := h33.2.2.2.2.2
    have h36 := Fr_trans hF0 h32 (by decide +kernel)
    have h37 := Imp_m h33.2.2.2.2.1 (by omega)
    have h38 := Imp_m h33.2.2.1 (by omega)
    have h39 := hnR_ge h35 (fun q => (hnR_lt h35 q) ⟨by omega, by omega⟩)
    have h40 : wf σ30 = wf σ0 := wf_fr h32 (by decide +kernel)
    have h41 := h39.2
    have h42 := hnN_rg (w := wf σ0) (d := a.toInt)
    refine En_Ps 3 (pc' := 19) (lv' := [(2, .int z34), (0, .ref 159), (1, .int a)]) (st' := [.int ((Int32.ofInt (-1))), .int z34]) rfl ?_
    refine En_icNe _ rfl (by decide : (Int32.ofInt (-1)).toInt = -1) rfl (fun h43 => ?_) (fun h43 => ?_)
    · have h44 := Imp_m h33.2.2.2.1 (by omega)
      refine En_Ps 3 (pc' := 37) (lv' := [(2, .int z34), (0, .ref 159), (1, .int a)]) (st' := [.int z34, .int a, .ref 159]) rfl ?_
      refine En_callV rfl rfl rfl rfl rfl rfl rfl rfl (by decide +kernel : TG 159 = 35) (by decide +kernel) rfl (c_242x σ30 h31 a z34 (geI rfl (by omega)) (leI rfl (by omega)) (geI rfl (by omega)) (leI rfl (by omega)) z15 ((h32 _ _ (inWa (by decide +kernel : TG 160 = 36) (by decide +kernel))).trans h14) z19 ((h32 _ _ (inWa (by decide +kernel : TG 160 = 36) (by decide +kernel))).trans h18) (by omega)) (by decide) (by decide) (fun v46 σ47 h45 => ?_)
      obtain ⟨h48, h49, z51, rfl, h50⟩ := h45
      have h52 := h50.2.2
      have h53 := Fr_trans h36 h49 (by decide +kernel)
      exact En_ret (v := some (.int z51)) rfl rfl rfl ⟨h48, h53, z51, rfl, ⟨by omega, by omega, lfR_1 ⟨by omega, by omega⟩ h39.2 (by omega) (by rw [← h40]; exact h52)⟩⟩
    · refine En_Ps 3 (pc' := 25) (lv' := [(2, .int z34), (0, .ref 159), (1, .int a)]) (st' := [.int a, .ref 159, .ref 159]) rfl ?_
      refine En_callV rfl rfl rfl rfl rfl rfl rfl rfl (by decide +kernel : TG 159 = 35) (by decide +kernel) rfl (c_213x σ30 h31 a (geI rfl (by omega)) (leI rfl (by omega)) z15 ((h32 _ _ (inWa (by decide +kernel : TG 160 = 36) (by decide +kernel))).trans h14) z19 ((h32 _ _ (inWa (by decide +kernel : TG 160 = 36) (by decide +kernel))).trans h18) (by omega)) (by decide) (by decide) (fun v55 σ56 h54 => ?_)
      obtain ⟨h57, h58, z60, h61, z62, rfl, h59⟩ := h54
      have h63 := h59.2.2.2.2.2.2.2.2.1
      have h64 := Fr_trans h36 h58 (by decide +kernel)
      have h65 : wf σ56 = wf σ0 := (wf_fr h58 (by decide +kernel)).trans h40
      refine En_callV rfl rfl rfl rfl rfl rfl rfl rfl (by decide +kernel : TG 159 = 35) (by decide +kernel) rfl (c_233x σ56 h57 z62 (geI rfl (by omega)) (leI rfl (by omega)) z15 ((h58 _ _ (inWa (by decide +kernel : TG 160 = 36) (by decide +kernel))).trans ((h32 _ _ (inWa (by decide +kernel : TG 160 = 36) (by decide +kernel))).trans h14)) z19 ((h58 _ _ (inWa (by decide +kernel : TG 160 = 36) (by decide +kernel))).trans ((h32 _ _ (inWa (by decide +kernel : TG 160 = 36) (by decide +kernel))).trans h18)) (by omega)) (by decide) (by decide) (fun v67 σ68 h66 => ?_)
      obtain ⟨h69, h70, z72, rfl, h71⟩ := h66
      have h73 := h71.2.2
      obtain rfl : σ56 = σ68 := Fr_nil h70
      refine En_Ps 1 (pc' := 40) (lv' := [(2, .int z34), (0, .ref 159), (1, .int a)]) (st' := [.int z72]) rfl ?_
      exact En_ret (v := some (.int z72)) rfl rfl rfl ⟨h57, h64, z72, rfl, ⟨by omega, by omega, lfR_0 ⟨by omega, by omega⟩ h39.2 (by omega) (fon_2 (x := z62.toInt) (by rw [← h40]; exact h63) rfl rfl (by rw [← h65]; exact h73))⟩⟩
  · refine En_Ps 1 (pc' := 10) (lv' := [(0, .ref 159), (1, .int a)]) (st' := [.int (((Int8.ofInt (-2)).toInt32))]) rfl ?_
    refine En_top (by decide : ((Int8.ofInt (-2)).toInt32).toInt = -2) (fun z74 h75 => ?_)
    exact En_ret (v := some (.int z74)) rfl rfl rfl ⟨hσ0, hF0, z74, rfl, ⟨by omega, by omega, lfR_n (fun ⟨q1, q2⟩ => by omega) (by omega)⟩⟩
/-- DoorSchoolModel.lesson(III)I -/
abbrev P_280x (σ0 : SG) (a : Int32) (b : Int32) (c : Int32) : PO := fun v σ => WT σ ∧ Fr [] σ0 σ ∧ ∃ ret : Int32, v = some (.int ret) ∧ -ret.toInt - 2 ≤ 0 ∧ ret.toInt - 15 ≤ 0 ∧ ret.toInt = leR (wf σ0) a.toInt b.toInt c.toInt
set_option maxRecDepth 10000 in
set_option maxHeartbeats 4000000 in
theorem c_280x (σ0 : SG) (hσ0 : WT σ0) (a : Int32) (b : Int32) (c : Int32) : En 2 46 none mr_280 (P_280x σ0 a b c) 0 [(0, .ref 159), (1, .int a), (2, .int b), (3, .int c)] [] σ0 := by
  have hF0 : Fr [] σ0 σ0 := Fr_rfl
  refine En_Ps 2 (pc' := 2) (lv' := [(0, .ref 159), (1, .int a), (2, .int b), (3, .int c)]) (st' := [.int a, .ref 159]) rfl ?_
  obtain ⟨z2, h1, h3, h4⟩ := WT_peekI hσ0 (by decide +kernel : TG 160 = 36) (by decide +kernel : FT 36 (2 : Int).toNat = (0, 0, 4)) (by decide +kernel)
  refine En_callV rfl rfl rfl rfl rfl rfl rfl rfl (by decide +kernel : TG 159 = 35) (by decide +kernel) rfl (c_254 σ0 hσ0 a z2 h1) (by decide) (by decide) (fun v6 σ7 h5 => ?_)
  obtain ⟨h8, h9, z11, rfl, h10⟩ := h5
  obtain rfl : σ0 = σ7 := Fr_nil h9
  have w12 : wf σ0 (2) = z2.toInt := ci_at h1 (by omega)
  refine En_iEq _ rfl rfl (fun h13 => ?_) (fun h13 => ?_)
  · refine En_Ps 1 (pc' := 20) (lv' := [(0, .ref 159), (1, .int a), (2, .int b), (3, .int c)]) (st' := [.int (((Int8.ofInt (-2)).toInt32))]) rfl ?_
    refine En_top (by decide : ((Int8.ofInt (-2)).toInt32).toInt = -2) (fun z14 h15 => ?_)
    exact En_ret (v := some (.int z14)) rfl rfl rfl ⟨hσ0, hF0, z14, rfl, ⟨by omega, by omega, (by have e := leR_2 (w := wf σ0) (d := a.toInt) (i := b.toInt) (q := c.toInt) (by omega); omega)⟩⟩
  · refine En_Ps 4 (pc' := 12) (lv' := [(0, .ref 159), (1, .int a), (2, .int b), (3, .int c)]) (st' := [.long ((Int64.ofNat 1)), .long ((Int64.ofNat 0)), .long c.toInt64]) rfl ?_
    have : c.toInt64.toInt = c.toInt := (i2lI rfl)
    have := (by decide : ((Int64.ofNat 0)).toInt = 0)
    have := (by decide : ((Int64.ofNat 1)).toInt = 1)
    refine En_callS rfl rfl rfl rfl rfl rfl rfl rfl rfl (c_249 σ0 hσ0 c.toInt64 ((Int64.ofNat 0)) ((Int64.ofNat 1))) (by decide) (by decide) (fun v17 σ18 h16 => ?_)
    obtain ⟨h19, h20, z22, rfl, h21⟩ := h16
    obtain rfl : σ0 = σ18 := Fr_nil h20
    refine En_iNe _ rfl rfl (fun h23 => ?_) (fun h23 => ?_)
    · refine En_Ps 6 (pc' := 27) (lv' := [(0, .ref 159), (1, .int a), (2, .int b), (3, .int c)]) (st' := [.int ((Int32.ofInt 2)), .int a, .ref 159, .long ((Int64.ofNat 0)), .long b.toInt64]) rfl ?_
      have := (by decide : ((Int32.ofInt 2)).toInt = 2)
      obtain ⟨z24, h25, h26, h27⟩ := WT_peekJ (J := (4 * a.toInt + ((Int32.ofInt 2)).toInt + 10)) (l := 0) (u := 12) hσ0 (by decide +kernel : TG 160 = 36) (by decide +kernel) (by omega) (lnI (by decide +kernel : LN _ = 226) (by omega)) (FTrow 36 12 4 4 (by decide +kernel) (by omega) (by omega) (by omega))
      have := (by decide : ((Int32.ofInt 2)).toInt = 2)
      refine En_callV rfl rfl rfl rfl rfl rfl rfl rfl (by decide +kernel : TG 159 = 35) (by decide +kernel) rfl (c_290c σ0 hσ0 a ((Int32.ofInt 2)) (geI rfl (by omega)) (leI rfl (by omega)) (geI (by decide : (Int32.ofInt 2).toInt = 2) (by omega)) (leI (by decide : (Int32.ofInt 2).toInt = 2) (by omega)) z24 h25) (by decide) (by decide) (fun v29 σ30 h28 => ?_)
      obtain ⟨h31, h32, z34, rfl, h33⟩ := h28
      obtain rfl : σ0 = σ30 := Fr_nil h32
      refine En_Ps 2 (pc' := 32) (lv' := [(0, .ref 159), (1, .int a), (2, .int b), (3, .int c)]) (st' := [.int ((z34 - ((Int32.ofInt 1)))), .long ((Int64.ofNat 0)), .long b.toInt64]) rfl ?_
      refine En_top (subI rfl (by decide : (Int32.ofInt 1).toInt = 1) (by omega) (by omega)) (fun z35 h36 => ?_)
      refine En_Ps 1 (pc' := 33) (lv' := [(0, .ref 159), (1, .int a), (2, .int b), (3, .int c)]) (st' := [.long z35.toInt64, .long ((Int64.ofNat 0)), .long b.toInt64]) rfl ?_
      have : b.toInt64.toInt = b.toInt := (i2lI rfl)
      have := (by decide : ((Int64.ofNat 0)).toInt = 0)
      have : z35.toInt64.toInt = z35.toInt := (i2lI rfl)
      refine En_callS rfl rfl rfl rfl rfl rfl rfl rfl rfl (c_249 σ0 hσ0 b.toInt64 ((Int64.ofNat 0)) z35.toInt64) (by decide) (by decide) (fun v38 σ39 h37 => ?_)
      obtain ⟨h40, h41, z43, rfl, h42⟩ := h37
      obtain rfl : σ0 = σ39 := Fr_nil h41
      have w44 : wf σ0 (12 + 4 * a.toInt) = z24.toInt := ci_at h25 (by omega)
      refine En_iEq _ rfl rfl (fun h45 => ?_) (fun h45 => ?_)
      · refine En_Ps 1 (pc' := 55) (lv' := [(0, .ref 159), (1, .int a), (2, .int b), (3, .int c)]) (st' := [.int ((Int32.ofInt (-1)))]) rfl ?_
        refine En_top (by decide : (Int32.ofInt (-1)).toInt = -1) (fun z46 h47 => ?_)
        exact En_ret (v := some (.int z46)) rfl rfl rfl ⟨hσ0, hF0, z46, rfl, ⟨by omega, by omega, (by have e := leR_1 (w := wf σ0) (d := a.toInt) (i := b.toInt) (q := c.toInt) (by omega) (by omega); omega)⟩⟩
      · refine En_Ps 1 (pc' := 40) (lv' := [(0, .ref 159), (1, .int a), (2, .int b), (3, .int c)]) (st' := [.ref 159]) rfl ?_
        refine En_getU (j := 1) (u := 160) (g' := 36) (q := 0) rfl rfl rfl (by decide +kernel : TG 159 = 35) (by decide +kernel) hσ0 (by decide +kernel) (by decide +kernel) (fun h48 => ?_)
        refine En_Ps 2 (pc' := 45) (lv' := [(0, .ref 159), (1, .int a), (2, .int b), (3, .int c)]) (st' := [.int b, .int a, .ref 160]) rfl ?_
        refine En_callS rfl rfl rfl rfl rfl rfl rfl rfl rfl (c_281 σ0 hσ0 a b (geI rfl (by omega)) (leI rfl (by omega)) (geI rfl (by omega)) (leI rfl (by omega))) (by decide) (by decide) (fun v51 σ52 h50 => ?_)
        obtain ⟨h53, h54, z56, rfl, h55⟩ := h50
        obtain rfl : σ0 = σ52 := Fr_nil h54
        refine En_Ps 2 (pc' := 50) (lv' := [(0, .ref 159), (1, .int a), (2, .int b), (3, .int c)]) (st' := [.int ((z56 + c)), .ref 160]) rfl ?_
        refine En_top (addI rfl rfl (by omega) (by omega)) (fun z57 h58 => ?_)
        rcases (show z57.toInt = 26 ∨ z57.toInt = 27 ∨ z57.toInt = 28 ∨ z57.toInt = 29 ∨ z57.toInt = 30 ∨ z57.toInt = 31 ∨ z57.toInt = 32 ∨ z57.toInt = 33 ∨ z57.toInt = 34 ∨ z57.toInt = 35 ∨ z57.toInt = 36 ∨ z57.toInt = 37 ∨ z57.toInt = 38 ∨ z57.toInt = 39 ∨ z57.toInt = 40 ∨ z57.toInt = 41 ∨ z57.toInt = 42 ∨ z57.toInt = 43 ∨ z57.toInt = 44 ∨ z57.toInt = 45 ∨ z57.toInt = 46 ∨ z57.toInt = 47 ∨ z57.toInt = 48 ∨ z57.toInt = 49 ∨ z57.toInt = 50 ∨ z57.toInt = 51 ∨ z57.toInt = 52 ∨ z57.toInt = 53 ∨ z57.toInt = 54 ∨ z57.toInt = 55 ∨ z57.toInt = 56 ∨ z57.toInt = 57 ∨ z57.toInt = 58 ∨ z57.toInt = 59 ∨ z57.toInt = 60 ∨ z57.toInt = 61 ∨ z57.toInt = 62 ∨ z57.toInt = 63 ∨ z57.toInt = 64 ∨ z57.toInt = 65 ∨ z57.toInt = 66 ∨ z57.toInt = 67 ∨ z57.toInt = 68 ∨ z57.toInt = 69 ∨ z57.toInt = 70 ∨ z57.toInt = 71 ∨ z57.toInt = 72 ∨ z57.toInt = 73 ∨ z57.toInt = 74 ∨ z57.toInt = 75 ∨ z57.toInt = 76 ∨ z57.toInt = 77 ∨ z57.toInt = 78 ∨ z57.toInt = 79 ∨ z57.toInt = 80 ∨ z57.toInt = 81 ∨ z57.toInt = 82 ∨ z57.toInt = 83 ∨ z57.toInt = 84 ∨ z57.toInt = 85 ∨ z57.toInt = 86 ∨ z57.toInt = 87 ∨ z57.toInt = 88 ∨ z57.toInt = 89 ∨ z57.toInt = 90 ∨ z57.toInt = 91 ∨ z57.toInt = 92 ∨ z57.toInt = 93 ∨ z57.toInt = 94 ∨ z57.toInt = 95 ∨ z57.toInt = 96 ∨ z57.toInt = 97 ∨ z57.toInt = 98 ∨ z57.toInt = 99 ∨ z57.toInt = 100 ∨ z57.toInt = 101 ∨ z57.toInt = 102 ∨ z57.toInt = 103 ∨ z57.toInt = 104 ∨ z57.toInt = 105 ∨ z57.toInt = 106 ∨ z57.toInt = 107 ∨ z57.toInt = 108 ∨ z57.toInt = 109 ∨ z57.toInt = 110 ∨ z57.toInt = 111 ∨ z57.toInt = 112 ∨ z57.toInt = 113 ∨ z57.toInt = 114 ∨ z57.toInt = 115 ∨ z57.toInt = 116 ∨ z57.toInt = 117 ∨ z57.toInt = 118 ∨ z57.toInt = 119 ∨ z57.toInt = 120 ∨ z57.toInt = 121 by omega) with h59 | h59 | h59 | h59 | h59 | h59 | h59 | h59 | h59 | h59 | h59 | h59 | h59 | h59 | h59 | h59 | h59 | h59 | h59 | h59 | h59 | h59 | h59 | h59 | h59 | h59 | h59 | h59 | h59 | h59 | h59 | h59 | h59 | h59 | h59 | h59 | h59 | h59 | h59 | h59 | h59 | h59 | h59 | h59 | h59 | h59 | h59 | h59 | h59 | h59 | h59 | h59 | h59 | h59 | h59 | h59 | h59 | h59 | h59 | h59 | h59 | h59 | h59 | h59 | h59 | h59 | h59 | h59 | h59 | h59 | h59 | h59 | h59 | h59 | h59 | h59 | h59 | h59 | h59 | h59 | h59 | h59 | h59 | h59 | h59 | h59 | h59 | h59 | h59 | h59 | h59 | h59 | h59 | h59 | h59 | h59
        · refine En_iald (l := 0) (u := 15) rfl h59 (by decide +kernel : TG 160 = 36) (by decide +kernel) hσ0 (by omega) (lnI (by decide +kernel : LN _ = 226) (by omega)) (by decide +kernel) (fun z61 h60 h62 h63 => ?_)
          refine En_Ps 1 (pc' := 55) (lv' := [(0, .ref 159), (1, .int a), (2, .int b), (3, .int c)]) (st' := [.int z61]) rfl ?_
          have w64 : wf σ0 (26) = z61.toInt := ci_at h60 (by omega)
          exact En_ret (v := some (.int z61)) rfl rfl rfl ⟨hσ0, hF0, z61, rfl, ⟨by omega, by omega, (by have e := leR_y (w := wf σ0) (d := a.toInt) (i := b.toInt) (q := c.toInt) (by omega) (by omega) w64; omega)⟩⟩
        · refine En_iald (l := 0) (u := 1) rfl h59 (by decide +kernel : TG 160 = 36) (by decide +kernel) hσ0 (by omega) (lnI (by decide +kernel : LN _ = 226) (by omega)) (by decide +kernel) (fun z66 h65 h67 h68 => ?_)
          refine En_Ps 1 (pc' := 55) (lv' := [(0, .ref 159), (1, .int a), (2, .int b), (3, .int c)]) (st' := [.int z66]) rfl ?_
          have w69 : wf σ0 (27) = z66.toInt := ci_at h65 (by omega)
          exact En_ret (v := some (.int z66)) rfl rfl rfl ⟨hσ0, hF0, z66, rfl, ⟨by omega, by omega, (by have e := leR_y (w := wf σ0) (d := a.toInt) (i := b.toInt) (q := c.toInt) (by omega) (by omega) w69; omega)⟩⟩
        · refine En_iald (l := 0) (u := 15) rfl h59 (by decide +kernel : TG 160 = 36) (by decide +kernel) hσ0 (by omega) (lnI (by decide +kernel : LN _ = 226) (by omega)) (by decide +kernel) (fun z71 h70 h72 h73 => ?_)
          refine En_Ps 1 (pc' := 55) (lv' := [(0, .ref 159), (1, .int a), (2, .int b), (3, .int c)]) (st' := [.int z71]) rfl ?_
          have w74 : wf σ0 (28) = z71.toInt := ci_at h70 (by omega)
          exact En_ret (v := some (.int z71)) rfl rfl rfl ⟨hσ0, hF0, z71, rfl, ⟨by omega, by omega, (by have e := leR_y (w := wf σ0) (d := a.toInt) (i := b.toInt) (q := c.toInt) (by omega) (by omega) w74; omega)⟩⟩
        · refine En_iald (l := 0) (u := 1) rfl h59 (by decide +kernel : TG 160 = 36) (by decide +kernel) hσ0 (by omega) (lnI (by decide +kernel : LN _ = 226) (by omega)) (by decide +kernel) (fun z76 h75 h77 h78 => ?_)
          refine En_Ps 1 (pc' := 55) (lv' := [(0, .ref 159), (1, .int a), (2, .int b), (3, .int c)]) (st' := [.int z76]) rfl ?_
          have w79 : wf σ0 (29) = z76.toInt := ci_at h75 (by omega)
          exact En_ret (v := some (.int z76)) rfl rfl rfl ⟨hσ0, hF0, z76, rfl, ⟨by omega, by omega, (by have e := leR_y (w := wf σ0) (d := a.toInt) (i := b.toInt) (q := c.toInt) (by omega) (by omega) w79; omega)⟩⟩
        · refine En_iald (l := 0) (u := 15) rfl h59 (by decide +kernel : TG 160 = 36) (by decide +kernel) hσ0 (by omega) (lnI (by decide +kernel : LN _ = 226) (by omega)) (by decide +kernel) (fun z81 h80 h82 h83 => ?_)
          refine En_Ps 1 (pc' := 55) (lv' := [(0, .ref 159), (1, .int a), (2, .int b), (3, .int c)]) (st' := [.int z81]) rfl ?_
          have w84 : wf σ0 (30) = z81.toInt := ci_at h80 (by omega)
          exact En_ret (v := some (.int z81)) rfl rfl rfl ⟨hσ0, hF0, z81, rfl, ⟨by omega, by omega, (by have e := leR_y (w := wf σ0) (d := a.toInt) (i := b.toInt) (q := c.toInt) (by omega) (by omega) w84; omega)⟩⟩
        · refine En_iald (l := 0) (u := 1) rfl h59 (by decide +kernel : TG 160 = 36) (by decide +kernel) hσ0 (by omega) (lnI (by decide +kernel : LN _ = 226) (by omega)) (by decide +kernel) (fun z86 h85 h87 h88 => ?_)
          refine En_Ps 1 (pc' := 55) (lv' := [(0, .ref 159), (1, .int a), (2, .int b), (3, .int c)]) (st' := [.int z86]) rfl ?_
          have w89 : wf σ0 (31) = z86.toInt := ci_at h85 (by omega)
          exact En_ret (v := some (.int z86)) rfl rfl rfl ⟨hσ0, hF0, z86, rfl, ⟨by omega, by omega, (by have e := leR_y (w := wf σ0) (d := a.toInt) (i := b.toInt) (q := c.toInt) (by omega) (by omega) w89; omega)⟩⟩
        · refine En_iald (l := 0) (u := 15) rfl h59 (by decide +kernel : TG 160 = 36) (by decide +kernel) hσ0 (by omega) (lnI (by decide +kernel : LN _ = 226) (by omega)) (by decide +kernel) (fun z91 h90 h92 h93 => ?_)
          refine En_Ps 1 (pc' := 55) (lv' := [(0, .ref 159), (1, .int a), (2, .int b), (3, .int c)]) (st' := [.int z91]) rfl ?_
          have w94 : wf σ0 (32) = z91.toInt := ci_at h90 (by omega)
          exact En_ret (v := some (.int z91)) rfl rfl rfl ⟨hσ0, hF0, z91, rfl, ⟨by omega, by omega, (by have e := leR_y (w := wf σ0) (d := a.toInt) (i := b.toInt) (q := c.toInt) (by omega) (by omega) w94; omega)⟩⟩
        · refine En_iald (l := 0) (u := 1) rfl h59 (by decide +kernel : TG 160 = 36) (by decide +kernel) hσ0 (by omega) (lnI (by decide +kernel : LN _ = 226) (by omega)) (by decide +kernel) (fun z96 h95 h97 h98 => ?_)
          refine En_Ps 1 (pc' := 55) (lv' := [(0, .ref 159), (1, .int a), (2, .int b), (3, .int c)]) (st' := [.int z96]) rfl ?_
          have w99 : wf σ0 (33) = z96.toInt := ci_at h95 (by omega)
          exact En_ret (v := some (.int z96)) rfl rfl rfl ⟨hσ0, hF0, z96, rfl, ⟨by omega, by omega, (by have e := leR_y (w := wf σ0) (d := a.toInt) (i := b.toInt) (q := c.toInt) (by omega) (by omega) w99; omega)⟩⟩
        · refine En_iald (l := 0) (u := 15) rfl h59 (by decide +kernel : TG 160 = 36) (by decide +kernel) hσ0 (by omega) (lnI (by decide +kernel : LN _ = 226) (by omega)) (by decide +kernel) (fun z101 h100 h102 h103 => ?_)
          refine En_Ps 1 (pc' := 55) (lv' := [(0, .ref 159), (1, .int a), (2, .int b), (3, .int c)]) (st' := [.int z101]) rfl ?_
          have w104 : wf σ0 (34) = z101.toInt := ci_at h100 (by omega)
          exact En_ret (v := some (.int z101)) rfl rfl rfl ⟨hσ0, hF0, z101, rfl, ⟨by omega, by omega, (by have e := leR_y (w := wf σ0) (d := a.toInt) (i := b.toInt) (q := c.toInt) (by omega) (by omega) w104; omega)⟩⟩
        · refine En_iald (l := 0) (u := 1) rfl h59 (by decide +kernel : TG 160 = 36) (by decide +kernel) hσ0 (by omega) (lnI (by decide +kernel : LN _ = 226) (by omega)) (by decide +kernel) (fun z106 h105 h107 h108 => ?_)
          refine En_Ps 1 (pc' := 55) (lv' := [(0, .ref 159), (1, .int a), (2, .int b), (3, .int c)]) (st' := [.int z106]) rfl ?_
          have w109 : wf σ0 (35) = z106.toInt := ci_at h105 (by omega)
          exact En_ret (v := some (.int z106)) rfl rfl rfl ⟨hσ0, hF0, z106, rfl, ⟨by omega, by omega, (by have e := leR_y (w := wf σ0) (d := a.toInt) (i := b.toInt) (q := c.toInt) (by omega) (by omega) w109; omega)⟩⟩
        · refine En_iald (l := 0) (u := 15) rfl h59 (by decide +kernel : TG 160 = 36) (by decide +kernel) hσ0 (by omega) (lnI (by decide +kernel : LN _ = 226) (by omega)) (by decide +kernel) (fun z111 h110 h112 h113 => ?_)
          refine En_Ps 1 (pc' := 55) (lv' := [(0, .ref 159), (1, .int a), (2, .int b), (3, .int c)]) (st' := [.int z111]) rfl ?_
          have w114 : wf σ0 (36) = z111.toInt := ci_at h110 (by omega)
          exact En_ret (v := some (.int z111)) rfl rfl rfl ⟨hσ0, hF0, z111, rfl, ⟨by omega, by omega, (by have e := leR_y (w := wf σ0) (d := a.toInt) (i := b.toInt) (q := c.toInt) (by omega) (by omega) w114; omega)⟩⟩
        · refine En_iald (l := 0) (u := 1) rfl h59 (by decide +kernel : TG 160 = 36) (by decide +kernel) hσ0 (by omega) (lnI (by decide +kernel : LN _ = 226) (by omega)) (by decide +kernel) (fun z116 h115 h117 h118 => ?_)
          refine En_Ps 1 (pc' := 55) (lv' := [(0, .ref 159), (1, .int a), (2, .int b), (3, .int c)]) (st' := [.int z116]) rfl ?_
          have w119 : wf σ0 (37) = z116.toInt := ci_at h115 (by omega)
          exact En_ret (v := some (.int z116)) rfl rfl rfl ⟨hσ0, hF0, z116, rfl, ⟨by omega, by omega, (by have e := leR_y (w := wf σ0) (d := a.toInt) (i := b.toInt) (q := c.toInt) (by omega) (by omega) w119; omega)⟩⟩
        · refine En_iald (l := 0) (u := 15) rfl h59 (by decide +kernel : TG 160 = 36) (by decide +kernel) hσ0 (by omega) (lnI (by decide +kernel : LN _ = 226) (by omega)) (by decide +kernel) (fun z121 h120 h122 h123 => ?_)
          refine En_Ps 1 (pc' := 55) (lv' := [(0, .ref 159), (1, .int a), (2, .int b), (3, .int c)]) (st' := [.int z121]) rfl ?_
          have w124 : wf σ0 (38) = z121.toInt := ci_at h120 (by omega)
          exact En_ret (v := some (.int z121)) rfl rfl rfl ⟨hσ0, hF0, z121, rfl, ⟨by omega, by omega, (by have e := leR_y (w := wf σ0) (d := a.toInt) (i := b.toInt) (q := c.toInt) (by omega) (by omega) w124; omega)⟩⟩
        · refine En_iald (l := 0) (u := 1) rfl h59 (by decide +kernel : TG 160 = 36) (by decide +kernel) hσ0 (by omega) (lnI (by decide +kernel : LN _ = 226) (by omega)) (by decide +kernel) (fun z126 h125 h127 h128 => ?_)
          refine En_Ps 1 (pc' := 55) (lv' := [(0, .ref 159), (1, .int a), (2, .int b), (3, .int c)]) (st' := [.int z126]) rfl ?_
          have w129 : wf σ0 (39) = z126.toInt := ci_at h125 (by omega)
          exact En_ret (v := some (.int z126)) rfl rfl rfl ⟨hσ0, hF0, z126, rfl, ⟨by omega, by omega, (by have e := leR_y (w := wf σ0) (d := a.toInt) (i := b.toInt) (q := c.toInt) (by omega) (by omega) w129; omega)⟩⟩
        · refine En_iald (l := 0) (u := 15) rfl h59 (by decide +kernel : TG 160 = 36) (by decide +kernel) hσ0 (by omega) (lnI (by decide +kernel : LN _ = 226) (by omega)) (by decide +kernel) (fun z131 h130 h132 h133 => ?_)
          refine En_Ps 1 (pc' := 55) (lv' := [(0, .ref 159), (1, .int a), (2, .int b), (3, .int c)]) (st' := [.int z131]) rfl ?_
          have w134 : wf σ0 (40) = z131.toInt := ci_at h130 (by omega)
          exact En_ret (v := some (.int z131)) rfl rfl rfl ⟨hσ0, hF0, z131, rfl, ⟨by omega, by omega, (by have e := leR_y (w := wf σ0) (d := a.toInt) (i := b.toInt) (q := c.toInt) (by omega) (by omega) w134; omega)⟩⟩
        · refine En_iald (l := 0) (u := 1) rfl h59 (by decide +kernel : TG 160 = 36) (by decide +kernel) hσ0 (by omega) (lnI (by decide +kernel : LN _ = 226) (by omega)) (by decide +kernel) (fun z136 h135 h137 h138 => ?_)
          refine En_Ps 1 (pc' := 55) (lv' := [(0, .ref 159), (1, .int a), (2, .int b), (3, .int c)]) (st' := [.int z136]) rfl ?_
          have w139 : wf σ0 (41) = z136.toInt := ci_at h135 (by omega)
          exact En_ret (v := some (.int z136)) rfl rfl rfl ⟨hσ0, hF0, z136, rfl, ⟨by omega, by omega, (by have e := leR_y (w := wf σ0) (d := a.toInt) (i := b.toInt) (q := c.toInt) (by omega) (by omega) w139; omega)⟩⟩
        · refine En_iald (l := 0) (u := 15) rfl h59 (by decide +kernel : TG 160 = 36) (by decide +kernel) hσ0 (by omega) (lnI (by decide +kernel : LN _ = 226) (by omega)) (by decide +kernel) (fun z141 h140 h142 h143 => ?_)
          refine En_Ps 1 (pc' := 55) (lv' := [(0, .ref 159), (1, .int a), (2, .int b), (3, .int c)]) (st' := [.int z141]) rfl ?_
          have w144 : wf σ0 (42) = z141.toInt := ci_at h140 (by omega)
          exact En_ret (v := some (.int z141)) rfl rfl rfl ⟨hσ0, hF0, z141, rfl, ⟨by omega, by omega, (by have e := leR_y (w := wf σ0) (d := a.toInt) (i := b.toInt) (q := c.toInt) (by omega) (by omega) w144; omega)⟩⟩
        · refine En_iald (l := 0) (u := 1) rfl h59 (by decide +kernel : TG 160 = 36) (by decide +kernel) hσ0 (by omega) (lnI (by decide +kernel : LN _ = 226) (by omega)) (by decide +kernel) (fun z146 h145 h147 h148 => ?_)
          refine En_Ps 1 (pc' := 55) (lv' := [(0, .ref 159), (1, .int a), (2, .int b), (3, .int c)]) (st' := [.int z146]) rfl ?_
          have w149 : wf σ0 (43) = z146.toInt := ci_at h145 (by omega)
          exact En_ret (v := some (.int z146)) rfl rfl rfl ⟨hσ0, hF0, z146, rfl, ⟨by omega, by omega, (by have e := leR_y (w := wf σ0) (d := a.toInt) (i := b.toInt) (q := c.toInt) (by omega) (by omega) w149; omega)⟩⟩
        · refine En_iald (l := 0) (u := 15) rfl h59 (by decide +kernel : TG 160 = 36) (by decide +kernel) hσ0 (by omega) (lnI (by decide +kernel : LN _ = 226) (by omega)) (by decide +kernel) (fun z151 h150 h152 h153 => ?_)
          refine En_Ps 1 (pc' := 55) (lv' := [(0, .ref 159), (1, .int a), (2, .int b), (3, .int c)]) (st' := [.int z151]) rfl ?_
          have w154 : wf σ0 (44) = z151.toInt := ci_at h150 (by omega)
          exact En_ret (v := some (.int z151)) rfl rfl rfl ⟨hσ0, hF0, z151, rfl, ⟨by omega, by omega, (by have e := leR_y (w := wf σ0) (d := a.toInt) (i := b.toInt) (q := c.toInt) (by omega) (by omega) w154; omega)⟩⟩
        · refine En_iald (l := 0) (u := 1) rfl h59 (by decide +kernel : TG 160 = 36) (by decide +kernel) hσ0 (by omega) (lnI (by decide +kernel : LN _ = 226) (by omega)) (by decide +kernel) (fun z156 h155 h157 h158 => ?_)
          refine En_Ps 1 (pc' := 55) (lv' := [(0, .ref 159), (1, .int a), (2, .int b), (3, .int c)]) (st' := [.int z156]) rfl ?_
          have w159 : wf σ0 (45) = z156.toInt := ci_at h155 (by omega)
          exact En_ret (v := some (.int z156)) rfl rfl rfl ⟨hσ0, hF0, z156, rfl, ⟨by omega, by omega, (by have e := leR_y (w := wf σ0) (d := a.toInt) (i := b.toInt) (q := c.toInt) (by omega) (by omega) w159; omega)⟩⟩
        · refine En_iald (l := 0) (u := 15) rfl h59 (by decide +kernel : TG 160 = 36) (by decide +kernel) hσ0 (by omega) (lnI (by decide +kernel : LN _ = 226) (by omega)) (by decide +kernel) (fun z161 h160 h162 h163 => ?_)
          refine En_Ps 1 (pc' := 55) (lv' := [(0, .ref 159), (1, .int a), (2, .int b), (3, .int c)]) (st' := [.int z161]) rfl ?_
          have w164 : wf σ0 (46) = z161.toInt := ci_at h160 (by omega)
          exact En_ret (v := some (.int z161)) rfl rfl rfl ⟨hσ0, hF0, z161, rfl, ⟨by omega, by omega, (by have e := leR_y (w := wf σ0) (d := a.toInt) (i := b.toInt) (q := c.toInt) (by omega) (by omega) w164; omega)⟩⟩
        · refine En_iald (l := 0) (u := 1) rfl h59 (by decide +kernel : TG 160 = 36) (by decide +kernel) hσ0 (by omega) (lnI (by decide +kernel : LN _ = 226) (by omega)) (by decide +kernel) (fun z166 h165 h167 h168 => ?_)
          refine En_Ps 1 (pc' := 55) (lv' := [(0, .ref 159), (1, .int a), (2, .int b), (3, .int c)]) (st' := [.int z166]) rfl ?_
          have w169 : wf σ0 (47) = z166.toInt := ci_at h165 (by omega)
          exact En_ret (v := some (.int z166)) rfl rfl rfl ⟨hσ0, hF0, z166, rfl, ⟨by omega, by omega, (by have e := leR_y (w := wf σ0) (d := a.toInt) (i := b.toInt) (q := c.toInt) (by omega) (by omega) w169; omega)⟩⟩
        · refine En_iald (l := 0) (u := 15) rfl h59 (by decide +kernel : TG 160 = 36) (by decide +kernel) hσ0 (by omega) (lnI (by decide +kernel : LN _ = 226) (by omega)) (by decide +kernel) (fun z171 h170 h172 h173 => ?_)
          refine En_Ps 1 (pc' := 55) (lv' := [(0, .ref 159), (1, .int a), (2, .int b), (3, .int c)]) (st' := [.int z171]) rfl ?_
          have w174 : wf σ0 (48) = z171.toInt := ci_at h170 (by omega)
          exact En_ret (v := some (.int z171)) rfl rfl rfl ⟨hσ0, hF0, z171, rfl, ⟨by omega, by omega, (by have e := leR_y (w := wf σ0) (d := a.toInt) (i := b.toInt) (q := c.toInt) (by omega) (by omega) w174; omega)⟩⟩
        · refine En_iald (l := 0) (u := 1) rfl h59 (by decide +kernel : TG 160 = 36) (by decide +kernel) hσ0 (by omega) (lnI (by decide +kernel : LN _ = 226) (by omega)) (by decide +kernel) (fun z176 h175 h177 h178 => ?_)
          refine En_Ps 1 (pc' := 55) (lv' := [(0, .ref 159), (1, .int a), (2, .int b), (3, .int c)]) (st' := [.int z176]) rfl ?_
          have w179 : wf σ0 (49) = z176.toInt := ci_at h175 (by omega)
          exact En_ret (v := some (.int z176)) rfl rfl rfl ⟨hσ0, hF0, z176, rfl, ⟨by omega, by omega, (by have e := leR_y (w := wf σ0) (d := a.toInt) (i := b.toInt) (q := c.toInt) (by omega) (by omega) w179; omega)⟩⟩
        · refine En_iald (l := 0) (u := 15) rfl h59 (by decide +kernel : TG 160 = 36) (by decide +kernel) hσ0 (by omega) (lnI (by decide +kernel : LN _ = 226) (by omega)) (by decide +kernel) (fun z181 h180 h182 h183 => ?_)
          refine En_Ps 1 (pc' := 55) (lv' := [(0, .ref 159), (1, .int a), (2, .int b), (3, .int c)]) (st' := [.int z181]) rfl ?_
          have w184 : wf σ0 (50) = z181.toInt := ci_at h180 (by omega)
          exact En_ret (v := some (.int z181)) rfl rfl rfl ⟨hσ0, hF0, z181, rfl, ⟨by omega, by omega, (by have e := leR_y (w := wf σ0) (d := a.toInt) (i := b.toInt) (q := c.toInt) (by omega) (by omega) w184; omega)⟩⟩
        · refine En_iald (l := 0) (u := 1) rfl h59 (by decide +kernel : TG 160 = 36) (by decide +kernel) hσ0 (by omega) (lnI (by decide +kernel : LN _ = 226) (by omega)) (by decide +kernel) (fun z186 h185 h187 h188 => ?_)
          refine En_Ps 1 (pc' := 55) (lv' := [(0, .ref 159), (1, .int a), (2, .int b), (3, .int c)]) (st' := [.int z186]) rfl ?_
          have w189 : wf σ0 (51) = z186.toInt := ci_at h185 (by omega)
          exact En_ret (v := some (.int z186)) rfl rfl rfl ⟨hσ0, hF0, z186, rfl, ⟨by omega, by omega, (by have e := leR_y (w := wf σ0) (d := a.toInt) (i := b.toInt) (q := c.toInt) (by omega) (by omega) w189; omega)⟩⟩
        · refine En_iald (l := 0) (u := 15) rfl h59 (by decide +kernel : TG 160 = 36) (by decide +kernel) hσ0 (by omega) (lnI (by decide +kernel : LN _ = 226) (by omega)) (by decide +kernel) (fun z191 h190 h192 h193 => ?_)
          refine En_Ps 1 (pc' := 55) (lv' := [(0, .ref 159), (1, .int a), (2, .int b), (3, .int c)]) (st' := [.int z191]) rfl ?_
          have w194 : wf σ0 (52) = z191.toInt := ci_at h190 (by omega)
          exact En_ret (v := some (.int z191)) rfl rfl rfl ⟨hσ0, hF0, z191, rfl, ⟨by omega, by omega, (by have e := leR_y (w := wf σ0) (d := a.toInt) (i := b.toInt) (q := c.toInt) (by omega) (by omega) w194; omega)⟩⟩
        · refine En_iald (l := 0) (u := 1) rfl h59 (by decide +kernel : TG 160 = 36) (by decide +kernel) hσ0 (by omega) (lnI (by decide +kernel : LN _ = 226) (by omega)) (by decide +kernel) (fun z196 h195 h197 h198 => ?_)
          refine En_Ps 1 (pc' := 55) (lv' := [(0, .ref 159), (1, .int a), (2, .int b), (3, .int c)]) (st' := [.int z196]) rfl ?_
          have w199 : wf σ0 (53) = z196.toInt := ci_at h195 (by omega)
          exact En_ret (v := some (.int z196)) rfl rfl rfl ⟨hσ0, hF0, z196, rfl, ⟨by omega, by omega, (by have e := leR_y (w := wf σ0) (d := a.toInt) (i := b.toInt) (q := c.toInt) (by omega) (by omega) w199; omega)⟩⟩
        · refine En_iald (l := 0) (u := 15) rfl h59 (by decide +kernel : TG 160 = 36) (by decide +kernel) hσ0 (by omega) (lnI (by decide +kernel : LN _ = 226) (by omega)) (by decide +kernel) (fun z201 h200 h202 h203 => ?_)
          refine En_Ps 1 (pc' := 55) (lv' := [(0, .ref 159), (1, .int a), (2, .int b), (3, .int c)]) (st' := [.int z201]) rfl ?_
          have w204 : wf σ0 (54) = z201.toInt := ci_at h200 (by omega)
          exact En_ret (v := some (.int z201)) rfl rfl rfl ⟨hσ0, hF0, z201, rfl, ⟨by omega, by omega, (by have e := leR_y (w := wf σ0) (d := a.toInt) (i := b.toInt) (q := c.toInt) (by omega) (by omega) w204; omega)⟩⟩
        · refine En_iald (l := 0) (u := 1) rfl h59 (by decide +kernel : TG 160 = 36) (by decide +kernel) hσ0 (by omega) (lnI (by decide +kernel : LN _ = 226) (by omega)) (by decide +kernel) (fun z206 h205 h207 h208 => ?_)
          refine En_Ps 1 (pc' := 55) (lv' := [(0, .ref 159), (1, .int a), (2, .int b), (3, .int c)]) (st' := [.int z206]) rfl ?_
          have w209 : wf σ0 (55) = z206.toInt := ci_at h205 (by omega)
          exact En_ret (v := some (.int z206)) rfl rfl rfl ⟨hσ0, hF0, z206, rfl, ⟨by omega, by omega, (by have e := leR_y (w := wf σ0) (d := a.toInt) (i := b.toInt) (q := c.toInt) (by omega) (by omega) w209; omega)⟩⟩
        · refine En_iald (l := 0) (u := 15) rfl h59 (by decide +kernel : TG 160 = 36) (by decide +kernel) hσ0 (by omega) (lnI (by decide +kernel : LN _ = 226) (by omega)) (by decide +kernel) (fun z211 h210 h212 h213 => ?_)
          refine En_Ps 1 (pc' := 55) (lv' := [(0, .ref 159), (1, .int a), (2, .int b), (3, .int c)]) (st' := [.int z211]) rfl ?_
          have w214 : wf σ0 (56) = z211.toInt := ci_at h210 (by omega)
          exact En_ret (v := some (.int z211)) rfl rfl rfl ⟨hσ0, hF0, z211, rfl, ⟨by omega, by omega, (by have e := leR_y (w := wf σ0) (d := a.toInt) (i := b.toInt) (q := c.toInt) (by omega) (by omega) w214; omega)⟩⟩
        · refine En_iald (l := 0) (u := 1) rfl h59 (by decide +kernel : TG 160 = 36) (by decide +kernel) hσ0 (by omega) (lnI (by decide +kernel : LN _ = 226) (by omega)) (by decide +kernel) (fun z216 h215 h217 h218 => ?_)
          refine En_Ps 1 (pc' := 55) (lv' := [(0, .ref 159), (1, .int a), (2, .int b), (3, .int c)]) (st' := [.int z216]) rfl ?_
          have w219 : wf σ0 (57) = z216.toInt := ci_at h215 (by omega)
          exact En_ret (v := some (.int z216)) rfl rfl rfl ⟨hσ0, hF0, z216, rfl, ⟨by omega, by omega, (by have e := leR_y (w := wf σ0) (d := a.toInt) (i := b.toInt) (q := c.toInt) (by omega) (by omega) w219; omega)⟩⟩
        · refine En_iald (l := 0) (u := 15) rfl h59 (by decide +kernel : TG 160 = 36) (by decide +kernel) hσ0 (by omega) (lnI (by decide +kernel : LN _ = 226) (by omega)) (by decide +kernel) (fun z221 h220 h222 h223 => ?_)
          refine En_Ps 1 (pc' := 55) (lv' := [(0, .ref 159), (1, .int a), (2, .int b), (3, .int c)]) (st' := [.int z221]) rfl ?_
          have w224 : wf σ0 (58) = z221.toInt := ci_at h220 (by omega)
          exact En_ret (v := some (.int z221)) rfl rfl rfl ⟨hσ0, hF0, z221, rfl, ⟨by omega, by omega, (by have e := leR_y (w := wf σ0) (d := a.toInt) (i := b.toInt) (q := c.toInt) (by omega) (by omega) w224; omega)⟩⟩
        · refine En_iald (l := 0) (u := 1) rfl h59 (by decide +kernel : TG 160 = 36) (by decide +kernel) hσ0 (by omega) (lnI (by decide +kernel : LN _ = 226) (by omega)) (by decide +kernel) (fun z226 h225 h227 h228 => ?_)
          refine En_Ps 1 (pc' := 55) (lv' := [(0, .ref 159), (1, .int a), (2, .int b), (3, .int c)]) (st' := [.int z226]) rfl ?_
          have w229 : wf σ0 (59) = z226.toInt := ci_at h225 (by omega)
          exact En_ret (v := some (.int z226)) rfl rfl rfl ⟨hσ0, hF0, z226, rfl, ⟨by omega, by omega, (by have e := leR_y (w := wf σ0) (d := a.toInt) (i := b.toInt) (q := c.toInt) (by omega) (by omega) w229; omega)⟩⟩
        · refine En_iald (l := 0) (u := 15) rfl h59 (by decide +kernel : TG 160 = 36) (by decide +kernel) hσ0 (by omega) (lnI (by decide +kernel : LN _ = 226) (by omega)) (by decide +kernel) (fun z231 h230 h232 h233 => ?_)
          refine En_Ps 1 (pc' := 55) (lv' := [(0, .ref 159), (1, .int a), (2, .int b), (3, .int c)]) (st' := [.int z231]) rfl ?_
          have w234 : wf σ0 (60) = z231.toInt := ci_at h230 (by omega)
          exact En_ret (v := some (.int z231)) rfl rfl rfl ⟨hσ0, hF0, z231, rfl, ⟨by omega, by omega, (by have e := leR_y (w := wf σ0) (d := a.toInt) (i := b.toInt) (q := c.toInt) (by omega) (by omega) w234; omega)⟩⟩
        · refine En_iald (l := 0) (u := 1) rfl h59 (by decide +kernel : TG 160 = 36) (by decide +kernel) hσ0 (by omega) (lnI (by decide +kernel : LN _ = 226) (by omega)) (by decide +kernel) (fun z236 h235 h237 h238 => ?_)
          refine En_Ps 1 (pc' := 55) (lv' := [(0, .ref 159), (1, .int a), (2, .int b), (3, .int c)]) (st' := [.int z236]) rfl ?_
          have w239 : wf σ0 (61) = z236.toInt := ci_at h235 (by omega)
          exact En_ret (v := some (.int z236)) rfl rfl rfl ⟨hσ0, hF0, z236, rfl, ⟨by omega, by omega, (by have e := leR_y (w := wf σ0) (d := a.toInt) (i := b.toInt) (q := c.toInt) (by omega) (by omega) w239; omega)⟩⟩
        · refine En_iald (l := 0) (u := 15) rfl h59 (by decide +kernel : TG 160 = 36) (by decide +kernel) hσ0 (by omega) (lnI (by decide +kernel : LN _ = 226) (by omega)) (by decide +kernel) (fun z241 h240 h242 h243 => ?_)
          refine En_Ps 1 (pc' := 55) (lv' := [(0, .ref 159), (1, .int a), (2, .int b), (3, .int c)]) (st' := [.int z241]) rfl ?_
          have w244 : wf σ0 (62) = z241.toInt := ci_at h240 (by omega)
          exact En_ret (v := some (.int z241)) rfl rfl rfl ⟨hσ0, hF0, z241, rfl, ⟨by omega, by omega, (by have e := leR_y (w := wf σ0) (d := a.toInt) (i := b.toInt) (q := c.toInt) (by omega) (by omega) w244; omega)⟩⟩
        · refine En_iald (l := 0) (u := 1) rfl h59 (by decide +kernel : TG 160 = 36) (by decide +kernel) hσ0 (by omega) (lnI (by decide +kernel : LN _ = 226) (by omega)) (by decide +kernel) (fun z246 h245 h247 h248 => ?_)
          refine En_Ps 1 (pc' := 55) (lv' := [(0, .ref 159), (1, .int a), (2, .int b), (3, .int c)]) (st' := [.int z246]) rfl ?_
          have w249 : wf σ0 (63) = z246.toInt := ci_at h245 (by omega)
          exact En_ret (v := some (.int z246)) rfl rfl rfl ⟨hσ0, hF0, z246, rfl, ⟨by omega, by omega, (by have e := leR_y (w := wf σ0) (d := a.toInt) (i := b.toInt) (q := c.toInt) (by omega) (by omega) w249; omega)⟩⟩
        · refine En_iald (l := 0) (u := 15) rfl h59 (by decide +kernel : TG 160 = 36) (by decide +kernel) hσ0 (by omega) (lnI (by decide +kernel : LN _ = 226) (by omega)) (by decide +kernel) (fun z251 h250 h252 h253 => ?_)
          refine En_Ps 1 (pc' := 55) (lv' := [(0, .ref 159), (1, .int a), (2, .int b), (3, .int c)]) (st' := [.int z251]) rfl ?_
          have w254 : wf σ0 (64) = z251.toInt := ci_at h250 (by omega)
          exact En_ret (v := some (.int z251)) rfl rfl rfl ⟨hσ0, hF0, z251, rfl, ⟨by omega, by omega, (by have e := leR_y (w := wf σ0) (d := a.toInt) (i := b.toInt) (q := c.toInt) (by omega) (by omega) w254; omega)⟩⟩
        · refine En_iald (l := 0) (u := 1) rfl h59 (by decide +kernel : TG 160 = 36) (by decide +kernel) hσ0 (by omega) (lnI (by decide +kernel : LN _ = 226) (by omega)) (by decide +kernel) (fun z256 h255 h257 h258 => ?_)
          refine En_Ps 1 (pc' := 55) (lv' := [(0, .ref 159), (1, .int a), (2, .int b), (3, .int c)]) (st' := [.int z256]) rfl ?_
          have w259 : wf σ0 (65) = z256.toInt := ci_at h255 (by omega)
          exact En_ret (v := some (.int z256)) rfl rfl rfl ⟨hσ0, hF0, z256, rfl, ⟨by omega, by omega, (by have e := leR_y (w := wf σ0) (d := a.toInt) (i := b.toInt) (q := c.toInt) (by omega) (by omega) w259; omega)⟩⟩
        · refine En_iald (l := 0) (u := 15) rfl h59 (by decide +kernel : TG 160 = 36) (by decide +kernel) hσ0 (by omega) (lnI (by decide +kernel : LN _ = 226) (by omega)) (by decide +kernel) (fun z261 h260 h262 h263 => ?_)
          refine En_Ps 1 (pc' := 55) (lv' := [(0, .ref 159), (1, .int a), (2, .int b), (3, .int c)]) (st' := [.int z261]) rfl ?_
          have w264 : wf σ0 (66) = z261.toInt := ci_at h260 (by omega)
          exact En_ret (v := some (.int z261)) rfl rfl rfl ⟨hσ0, hF0, z261, rfl, ⟨by omega, by omega, (by have e := leR_y (w := wf σ0) (d := a.toInt) (i := b.toInt) (q := c.toInt) (by omega) (by omega) w264; omega)⟩⟩
        · refine En_iald (l := 0) (u := 1) rfl h59 (by decide +kernel : TG 160 = 36) (by decide +kernel) hσ0 (by omega) (lnI (by decide +kernel : LN _ = 226) (by omega)) (by decide +kernel) (fun z266 h265 h267 h268 => ?_)
          refine En_Ps 1 (pc' := 55) (lv' := [(0, .ref 159), (1, .int a), (2, .int b), (3, .int c)]) (st' := [.int z266]) rfl ?_
          have w269 : wf σ0 (67) = z266.toInt := ci_at h265 (by omega)
          exact En_ret (v := some (.int z266)) rfl rfl rfl ⟨hσ0, hF0, z266, rfl, ⟨by omega, by omega, (by have e := leR_y (w := wf σ0) (d := a.toInt) (i := b.toInt) (q := c.toInt) (by omega) (by omega) w269; omega)⟩⟩
        · refine En_iald (l := 0) (u := 15) rfl h59 (by decide +kernel : TG 160 = 36) (by decide +kernel) hσ0 (by omega) (lnI (by decide +kernel : LN _ = 226) (by omega)) (by decide +kernel) (fun z271 h270 h272 h273 => ?_)
          refine En_Ps 1 (pc' := 55) (lv' := [(0, .ref 159), (1, .int a), (2, .int b), (3, .int c)]) (st' := [.int z271]) rfl ?_
          have w274 : wf σ0 (68) = z271.toInt := ci_at h270 (by omega)
          exact En_ret (v := some (.int z271)) rfl rfl rfl ⟨hσ0, hF0, z271, rfl, ⟨by omega, by omega, (by have e := leR_y (w := wf σ0) (d := a.toInt) (i := b.toInt) (q := c.toInt) (by omega) (by omega) w274; omega)⟩⟩
        · refine En_iald (l := 0) (u := 1) rfl h59 (by decide +kernel : TG 160 = 36) (by decide +kernel) hσ0 (by omega) (lnI (by decide +kernel : LN _ = 226) (by omega)) (by decide +kernel) (fun z276 h275 h277 h278 => ?_)
          refine En_Ps 1 (pc' := 55) (lv' := [(0, .ref 159), (1, .int a), (2, .int b), (3, .int c)]) (st' := [.int z276]) rfl ?_
          have w279 : wf σ0 (69) = z276.toInt := ci_at h275 (by omega)
          exact En_ret (v := some (.int z276)) rfl rfl rfl ⟨hσ0, hF0, z276, rfl, ⟨by omega, by omega, (by have e := leR_y (w := wf σ0) (d := a.toInt) (i := b.toInt) (q := c.toInt) (by omega) (by omega) w279; omega)⟩⟩
        · refine En_iald (l := 0) (u := 15) rfl h59 (by decide +kernel : TG 160 = 36) (by decide +kernel) hσ0 (by omega) (lnI (by decide +kernel : LN _ = 226) (by omega)) (by decide +kernel) (fun z281 h280 h282 h283 => ?_)
          refine En_Ps 1 (pc' := 55) (lv' := [(0, .ref 159), (1, .int a), (2, .int b), (3, .int c)]) (st' := [.int z281]) rfl ?_
          have w284 : wf σ0 (70) = z281.toInt := ci_at h280 (by omega)
          exact En_ret (v := some (.int z281)) rfl rfl rfl ⟨hσ0, hF0, z281, rfl, ⟨by omega, by omega, (by have e := leR_y (w := wf σ0) (d := a.toInt) (i := b.toInt) (q := c.toInt) (by omega) (by omega) w284; omega)⟩⟩
        · refine En_iald (l := 0) (u := 1) rfl h59 (by decide +kernel : TG 160 = 36) (by decide +kernel) hσ0 (by omega) (lnI (by decide +kernel : LN _ = 226) (by omega)) (by decide +kernel) (fun z286 h285 h287 h288 => ?_)
          refine En_Ps 1 (pc' := 55) (lv' := [(0, .ref 159), (1, .int a), (2, .int b), (3, .int c)]) (st' := [.int z286]) rfl ?_
          have w289 : wf σ0 (71) = z286.toInt := ci_at h285 (by omega)
          exact En_ret (v := some (.int z286)) rfl rfl rfl ⟨hσ0, hF0, z286, rfl, ⟨by omega, by omega, (by have e := leR_y (w := wf σ0) (d := a.toInt) (i := b.toInt) (q := c.toInt) (by omega) (by omega) w289; omega)⟩⟩
        · refine En_iald (l := 0) (u := 15) rfl h59 (by decide +kernel : TG 160 = 36) (by decide +kernel) hσ0 (by omega) (lnI (by decide +kernel : LN _ = 226) (by omega)) (by decide +kernel) (fun z291 h290 h292 h293 => ?_)
          refine En_Ps 1 (pc' := 55) (lv' := [(0, .ref 159), (1, .int a), (2, .int b), (3, .int c)]) (st' := [.int z291]) rfl ?_
          have w294 : wf σ0 (72) = z291.toInt := ci_at h290 (by omega)
          exact En_ret (v := some (.int z291)) rfl rfl rfl ⟨hσ0, hF0, z291, rfl, ⟨by omega, by omega, (by have e := leR_y (w := wf σ0) (d := a.toInt) (i := b.toInt) (q := c.toInt) (by omega) (by omega) w294; omega)⟩⟩
        · refine En_iald (l := 0) (u := 1) rfl h59 (by decide +kernel : TG 160 = 36) (by decide +kernel) hσ0 (by omega) (lnI (by decide +kernel : LN _ = 226) (by omega)) (by decide +kernel) (fun z296 h295 h297 h298 => ?_)
          refine En_Ps 1 (pc' := 55) (lv' := [(0, .ref 159), (1, .int a), (2, .int b), (3, .int c)]) (st' := [.int z296]) rfl ?_
          have w299 : wf σ0 (73) = z296.toInt := ci_at h295 (by omega)
          exact En_ret (v := some (.int z296)) rfl rfl rfl ⟨hσ0, hF0, z296, rfl, ⟨by omega, by omega, (by have e := leR_y (w := wf σ0) (d := a.toInt) (i := b.toInt) (q := c.toInt) (by omega) (by omega) w299; omega)⟩⟩
        · refine En_iald (l := 0) (u := 15) rfl h59 (by decide +kernel : TG 160 = 36) (by decide +kernel) hσ0 (by omega) (lnI (by decide +kernel : LN _ = 226) (by omega)) (by decide +kernel) (fun z301 h300 h302 h303 => ?_)
          refine En_Ps 1 (pc' := 55) (lv' := [(0, .ref 159), (1, .int a), (2, .int b), (3, .int c)]) (st' := [.int z301]) rfl ?_
          have w304 : wf σ0 (74) = z301.toInt := ci_at h300 (by omega)
          exact En_ret (v := some (.int z301)) rfl rfl rfl ⟨hσ0, hF0, z301, rfl, ⟨by omega, by omega, (by have e := leR_y (w := wf σ0) (d := a.toInt) (i := b.toInt) (q := c.toInt) (by omega) (by omega) w304; omega)⟩⟩
        · refine En_iald (l := 0) (u := 1) rfl h59 (by decide +kernel : TG 160 = 36) (by decide +kernel) hσ0 (by omega) (lnI (by decide +kernel : LN _ = 226) (by omega)) (by decide +kernel) (fun z306 h305 h307 h308 => ?_)
          refine En_Ps 1 (pc' := 55) (lv' := [(0, .ref 159), (1, .int a), (2, .int b), (3, .int c)]) (st' := [.int z306]) rfl ?_
          have w309 : wf σ0 (75) = z306.toInt := ci_at h305 (by omega)
          exact En_ret (v := some (.int z306)) rfl rfl rfl ⟨hσ0, hF0, z306, rfl, ⟨by omega, by omega, (by have e := leR_y (w := wf σ0) (d := a.toInt) (i := b.toInt) (q := c.toInt) (by omega) (by omega) w309; omega)⟩⟩
        · refine En_iald (l := 0) (u := 15) rfl h59 (by decide +kernel : TG 160 = 36) (by decide +kernel) hσ0 (by omega) (lnI (by decide +kernel : LN _ = 226) (by omega)) (by decide +kernel) (fun z311 h310 h312 h313 => ?_)
          refine En_Ps 1 (pc' := 55) (lv' := [(0, .ref 159), (1, .int a), (2, .int b), (3, .int c)]) (st' := [.int z311]) rfl ?_
          have w314 : wf σ0 (76) = z311.toInt := ci_at h310 (by omega)
          exact En_ret (v := some (.int z311)) rfl rfl rfl ⟨hσ0, hF0, z311, rfl, ⟨by omega, by omega, (by have e := leR_y (w := wf σ0) (d := a.toInt) (i := b.toInt) (q := c.toInt) (by omega) (by omega) w314; omega)⟩⟩
        · refine En_iald (l := 0) (u := 1) rfl h59 (by decide +kernel : TG 160 = 36) (by decide +kernel) hσ0 (by omega) (lnI (by decide +kernel : LN _ = 226) (by omega)) (by decide +kernel) (fun z316 h315 h317 h318 => ?_)
          refine En_Ps 1 (pc' := 55) (lv' := [(0, .ref 159), (1, .int a), (2, .int b), (3, .int c)]) (st' := [.int z316]) rfl ?_
          have w319 : wf σ0 (77) = z316.toInt := ci_at h315 (by omega)
          exact En_ret (v := some (.int z316)) rfl rfl rfl ⟨hσ0, hF0, z316, rfl, ⟨by omega, by omega, (by have e := leR_y (w := wf σ0) (d := a.toInt) (i := b.toInt) (q := c.toInt) (by omega) (by omega) w319; omega)⟩⟩
        · refine En_iald (l := 0) (u := 15) rfl h59 (by decide +kernel : TG 160 = 36) (by decide +kernel) hσ0 (by omega) (lnI (by decide +kernel : LN _ = 226) (by omega)) (by decide +kernel) (fun z321 h320 h322 h323 => ?_)
          refine En_Ps 1 (pc' := 55) (lv' := [(0, .ref 159), (1, .int a), (2, .int b), (3, .int c)]) (st' := [.int z321]) rfl ?_
          have w324 : wf σ0 (78) = z321.toInt := ci_at h320 (by omega)
          exact En_ret (v := some (.int z321)) rfl rfl rfl ⟨hσ0, hF0, z321, rfl, ⟨by omega, by omega, (by have e := leR_y (w := wf σ0) (d := a.toInt) (i := b.toInt) (q := c.toInt) (by omega) (by omega) w324; omega)⟩⟩
        · refine En_iald (l := 0) (u := 1) rfl h59 (by decide +kernel : TG 160 = 36) (by decide +kernel) hσ0 (by omega) (lnI (by decide +kernel : LN _ = 226) (by omega)) (by decide +kernel) (fun z326 h325 h327 h328 => ?_)
          refine En_Ps 1 (pc' := 55) (lv' := [(0, .ref 159), (1, .int a), (2, .int b), (3, .int c)]) (st' := [.int z326]) rfl ?_
          have w329 : wf σ0 (79) = z326.toInt := ci_at h325 (by omega)
          exact En_ret (v := some (.int z326)) rfl rfl rfl ⟨hσ0, hF0, z326, rfl, ⟨by omega, by omega, (by have e := leR_y (w := wf σ0) (d := a.toInt) (i := b.toInt) (q := c.toInt) (by omega) (by omega) w329; omega)⟩⟩
        · refine En_iald (l := 0) (u := 15) rfl h59 (by decide +kernel : TG 160 = 36) (by decide +kernel) hσ0 (by omega) (lnI (by decide +kernel : LN _ = 226) (by omega)) (by decide +kernel) (fun z331 h330 h332 h333 => ?_)
          refine En_Ps 1 (pc' := 55) (lv' := [(0, .ref 159), (1, .int a), (2, .int b), (3, .int c)]) (st' := [.int z331]) rfl ?_
          have w334 : wf σ0 (80) = z331.toInt := ci_at h330 (by omega)
          exact En_ret (v := some (.int z331)) rfl rfl rfl ⟨hσ0, hF0, z331, rfl, ⟨by omega, by omega, (by have e := leR_y (w := wf σ0) (d := a.toInt) (i := b.toInt) (q := c.toInt) (by omega) (by omega) w334; omega)⟩⟩
        · refine En_iald (l := 0) (u := 1) rfl h59 (by decide +kernel : TG 160 = 36) (by decide +kernel) hσ0 (by omega) (lnI (by decide +kernel : LN _ = 226) (by omega)) (by decide +kernel) (fun z336 h335 h337 h338 => ?_)
          refine En_Ps 1 (pc' := 55) (lv' := [(0, .ref 159), (1, .int a), (2, .int b), (3, .int c)]) (st' := [.int z336]) rfl ?_
          have w339 : wf σ0 (81) = z336.toInt := ci_at h335 (by omega)
          exact En_ret (v := some (.int z336)) rfl rfl rfl ⟨hσ0, hF0, z336, rfl, ⟨by omega, by omega, (by have e := leR_y (w := wf σ0) (d := a.toInt) (i := b.toInt) (q := c.toInt) (by omega) (by omega) w339; omega)⟩⟩
        · refine En_iald (l := 0) (u := 15) rfl h59 (by decide +kernel : TG 160 = 36) (by decide +kernel) hσ0 (by omega) (lnI (by decide +kernel : LN _ = 226) (by omega)) (by decide +kernel) (fun z341 h340 h342 h343 => ?_)
          refine En_Ps 1 (pc' := 55) (lv' := [(0, .ref 159), (1, .int a), (2, .int b), (3, .int c)]) (st' := [.int z341]) rfl ?_
          have w344 : wf σ0 (82) = z341.toInt := ci_at h340 (by omega)
          exact En_ret (v := some (.int z341)) rfl rfl rfl ⟨hσ0, hF0, z341, rfl, ⟨by omega, by omega, (by have e := leR_y (w := wf σ0) (d := a.toInt) (i := b.toInt) (q := c.toInt) (by omega) (by omega) w344; omega)⟩⟩
        · refine En_iald (l := 0) (u := 1) rfl h59 (by decide +kernel : TG 160 = 36) (by decide +kernel) hσ0 (by omega) (lnI (by decide +kernel : LN _ = 226) (by omega)) (by decide +kernel) (fun z346 h345 h347 h348 => ?_)
          refine En_Ps 1 (pc' := 55) (lv' := [(0, .ref 159), (1, .int a), (2, .int b), (3, .int c)]) (st' := [.int z346]) rfl ?_
          have w349 : wf σ0 (83) = z346.toInt := ci_at h345 (by omega)
          exact En_ret (v := some (.int z346)) rfl rfl rfl ⟨hσ0, hF0, z346, rfl, ⟨by omega, by omega, (by have e := leR_y (w := wf σ0) (d := a.toInt) (i := b.toInt) (q := c.toInt) (by omega) (by omega) w349; omega)⟩⟩
        · refine En_iald (l := 0) (u := 15) rfl h59 (by decide +kernel : TG 160 = 36) (by decide +kernel) hσ0 (by omega) (lnI (by decide +kernel : LN _ = 226) (by omega)) (by decide +kernel) (fun z351 h350 h352 h353 => ?_)
          refine En_Ps 1 (pc' := 55) (lv' := [(0, .ref 159), (1, .int a), (2, .int b), (3, .int c)]) (st' := [.int z351]) rfl ?_
          have w354 : wf σ0 (84) = z351.toInt := ci_at h350 (by omega)
          exact En_ret (v := some (.int z351)) rfl rfl rfl ⟨hσ0, hF0, z351, rfl, ⟨by omega, by omega, (by have e := leR_y (w := wf σ0) (d := a.toInt) (i := b.toInt) (q := c.toInt) (by omega) (by omega) w354; omega)⟩⟩
        · refine En_iald (l := 0) (u := 1) rfl h59 (by decide +kernel : TG 160 = 36) (by decide +kernel) hσ0 (by omega) (lnI (by decide +kernel : LN _ = 226) (by omega)) (by decide +kernel) (fun z356 h355 h357 h358 => ?_)
          refine En_Ps 1 (pc' := 55) (lv' := [(0, .ref 159), (1, .int a), (2, .int b), (3, .int c)]) (st' := [.int z356]) rfl ?_
          have w359 : wf σ0 (85) = z356.toInt := ci_at h355 (by omega)
          exact En_ret (v := some (.int z356)) rfl rfl rfl ⟨hσ0, hF0, z356, rfl, ⟨by omega, by omega, (by have e := leR_y (w := wf σ0) (d := a.toInt) (i := b.toInt) (q := c.toInt) (by omega) (by omega) w359; omega)⟩⟩
        · refine En_iald (l := 0) (u := 15) rfl h59 (by decide +kernel : TG 160 = 36) (by decide +kernel) hσ0 (by omega) (lnI (by decide +kernel : LN _ = 226) (by omega)) (by decide +kernel) (fun z361 h360 h362 h363 => ?_)
          refine En_Ps 1 (pc' := 55) (lv' := [(0, .ref 159), (1, .int a), (2, .int b), (3, .int c)]) (st' := [.int z361]) rfl ?_
          have w364 : wf σ0 (86) = z361.toInt := ci_at h360 (by omega)
          exact En_ret (v := some (.int z361)) rfl rfl rfl ⟨hσ0, hF0, z361, rfl, ⟨by omega, by omega, (by have e := leR_y (w := wf σ0) (d := a.toInt) (i := b.toInt) (q := c.toInt) (by omega) (by omega) w364; omega)⟩⟩
        · refine En_iald (l := 0) (u := 1) rfl h59 (by decide +kernel : TG 160 = 36) (by decide +kernel) hσ0 (by omega) (lnI (by decide +kernel : LN _ = 226) (by omega)) (by decide +kernel) (fun z366 h365 h367 h368 => ?_)
          refine En_Ps 1 (pc' := 55) (lv' := [(0, .ref 159), (1, .int a), (2, .int b), (3, .int c)]) (st' := [.int z366]) rfl ?_
          have w369 : wf σ0 (87) = z366.toInt := ci_at h365 (by omega)
          exact En_ret (v := some (.int z366)) rfl rfl rfl ⟨hσ0, hF0, z366, rfl, ⟨by omega, by omega, (by have e := leR_y (w := wf σ0) (d := a.toInt) (i := b.toInt) (q := c.toInt) (by omega) (by omega) w369; omega)⟩⟩
        · refine En_iald (l := 0) (u := 15) rfl h59 (by decide +kernel : TG 160 = 36) (by decide +kernel) hσ0 (by omega) (lnI (by decide +kernel : LN _ = 226) (by omega)) (by decide +kernel) (fun z371 h370 h372 h373 => ?_)
          refine En_Ps 1 (pc' := 55) (lv' := [(0, .ref 159), (1, .int a), (2, .int b), (3, .int c)]) (st' := [.int z371]) rfl ?_
          have w374 : wf σ0 (88) = z371.toInt := ci_at h370 (by omega)
          exact En_ret (v := some (.int z371)) rfl rfl rfl ⟨hσ0, hF0, z371, rfl, ⟨by omega, by omega, (by have e := leR_y (w := wf σ0) (d := a.toInt) (i := b.toInt) (q := c.toInt) (by omega) (by omega) w374; omega)⟩⟩
        · refine En_iald (l := 0) (u := 1) rfl h59 (by decide +kernel : TG 160 = 36) (by decide +kernel) hσ0 (by omega) (lnI (by decide +kernel : LN _ = 226) (by omega)) (by decide +kernel) (fun z376 h375 h377 h378 => ?_)
          refine En_Ps 1 (pc' := 55) (lv' := [(0, .ref 159), (1, .int a), (2, .int b), (3, .int c)]) (st' := [.int z376]) rfl ?_
          have w379 : wf σ0 (89) = z376.toInt := ci_at h375 (by omega)
          exact En_ret (v := some (.int z376)) rfl rfl rfl ⟨hσ0, hF0, z376, rfl, ⟨by omega, by omega, (by have e := leR_y (w := wf σ0) (d := a.toInt) (i := b.toInt) (q := c.toInt) (by omega) (by omega) w379; omega)⟩⟩
        · refine En_iald (l := 0) (u := 15) rfl h59 (by decide +kernel : TG 160 = 36) (by decide +kernel) hσ0 (by omega) (lnI (by decide +kernel : LN _ = 226) (by omega)) (by decide +kernel) (fun z381 h380 h382 h383 => ?_)
          refine En_Ps 1 (pc' := 55) (lv' := [(0, .ref 159), (1, .int a), (2, .int b), (3, .int c)]) (st' := [.int z381]) rfl ?_
          have w384 : wf σ0 (90) = z381.toInt := ci_at h380 (by omega)
          exact En_ret (v := some (.int z381)) rfl rfl rfl ⟨hσ0, hF0, z381, rfl, ⟨by omega, by omega, (by have e := leR_y (w := wf σ0) (d := a.toInt) (i := b.toInt) (q := c.toInt) (by omega) (by omega) w384; omega)⟩⟩
        · refine En_iald (l := 0) (u := 1) rfl h59 (by decide +kernel : TG 160 = 36) (by decide +kernel) hσ0 (by omega) (lnI (by decide +kernel : LN _ = 226) (by omega)) (by decide +kernel) (fun z386 h385 h387 h388 => ?_)
          refine En_Ps 1 (pc' := 55) (lv' := [(0, .ref 159), (1, .int a), (2, .int b), (3, .int c)]) (st' := [.int z386]) rfl ?_
          have w389 : wf σ0 (91) = z386.toInt := ci_at h385 (by omega)
          exact En_ret (v := some (.int z386)) rfl rfl rfl ⟨hσ0, hF0, z386, rfl, ⟨by omega, by omega, (by have e := leR_y (w := wf σ0) (d := a.toInt) (i := b.toInt) (q := c.toInt) (by omega) (by omega) w389; omega)⟩⟩
        · refine En_iald (l := 0) (u := 15) rfl h59 (by decide +kernel : TG 160 = 36) (by decide +kernel) hσ0 (by omega) (lnI (by decide +kernel : LN _ = 226) (by omega)) (by decide +kernel) (fun z391 h390 h392 h393 => ?_)
          refine En_Ps 1 (pc' := 55) (lv' := [(0, .ref 159), (1, .int a), (2, .int b), (3, .int c)]) (st' := [.int z391]) rfl ?_
          have w394 : wf σ0 (92) = z391.toInt := ci_at h390 (by omega)
          exact En_ret (v := some (.int z391)) rfl rfl rfl ⟨hσ0, hF0, z391, rfl, ⟨by omega, by omega, (by have e := leR_y (w := wf σ0) (d := a.toInt) (i := b.toInt) (q := c.toInt) (by omega) (by omega) w394; omega)⟩⟩
        · refine En_iald (l := 0) (u := 1) rfl h59 (by decide +kernel : TG 160 = 36) (by decide +kernel) hσ0 (by omega) (lnI (by decide +kernel : LN _ = 226) (by omega)) (by decide +kernel) (fun z396 h395 h397 h398 => ?_)
          refine En_Ps 1 (pc' := 55) (lv' := [(0, .ref 159), (1, .int a), (2, .int b), (3, .int c)]) (st' := [.int z396]) rfl ?_
          have w399 : wf σ0 (93) = z396.toInt := ci_at h395 (by omega)
          exact En_ret (v := some (.int z396)) rfl rfl rfl ⟨hσ0, hF0, z396, rfl, ⟨by omega, by omega, (by have e := leR_y (w := wf σ0) (d := a.toInt) (i := b.toInt) (q := c.toInt) (by omega) (by omega) w399; omega)⟩⟩
        · refine En_iald (l := 0) (u := 15) rfl h59 (by decide +kernel : TG 160 = 36) (by decide +kernel) hσ0 (by omega) (lnI (by decide +kernel : LN _ = 226) (by omega)) (by decide +kernel) (fun z401 h400 h402 h403 => ?_)
          refine En_Ps 1 (pc' := 55) (lv' := [(0, .ref 159), (1, .int a), (2, .int b), (3, .int c)]) (st' := [.int z401]) rfl ?_
          have w404 : wf σ0 (94) = z401.toInt := ci_at h400 (by omega)
          exact En_ret (v := some (.int z401)) rfl rfl rfl ⟨hσ0, hF0, z401, rfl, ⟨by omega, by omega, (by have e := leR_y (w := wf σ0) (d := a.toInt) (i := b.toInt) (q := c.toInt) (by omega) (by omega) w404; omega)⟩⟩
        · refine En_iald (l := 0) (u := 1) rfl h59 (by decide +kernel : TG 160 = 36) (by decide +kernel) hσ0 (by omega) (lnI (by decide +kernel : LN _ = 226) (by omega)) (by decide +kernel) (fun z406 h405 h407 h408 => ?_)
          refine En_Ps 1 (pc' := 55) (lv' := [(0, .ref 159), (1, .int a), (2, .int b), (3, .int c)]) (st' := [.int z406]) rfl ?_
          have w409 : wf σ0 (95) = z406.toInt := ci_at h405 (by omega)
          exact En_ret (v := some (.int z406)) rfl rfl rfl ⟨hσ0, hF0, z406, rfl, ⟨by omega, by omega, (by have e := leR_y (w := wf σ0) (d := a.toInt) (i := b.toInt) (q := c.toInt) (by omega) (by omega) w409; omega)⟩⟩
        · refine En_iald (l := 0) (u := 15) rfl h59 (by decide +kernel : TG 160 = 36) (by decide +kernel) hσ0 (by omega) (lnI (by decide +kernel : LN _ = 226) (by omega)) (by decide +kernel) (fun z411 h410 h412 h413 => ?_)
          refine En_Ps 1 (pc' := 55) (lv' := [(0, .ref 159), (1, .int a), (2, .int b), (3, .int c)]) (st' := [.int z411]) rfl ?_
          have w414 : wf σ0 (96) = z411.toInt := ci_at h410 (by omega)
          exact En_ret (v := some (.int z411)) rfl rfl rfl ⟨hσ0, hF0, z411, rfl, ⟨by omega, by omega, (by have e := leR_y (w := wf σ0) (d := a.toInt) (i := b.toInt) (q := c.toInt) (by omega) (by omega) w414; omega)⟩⟩
        · refine En_iald (l := 0) (u := 1) rfl h59 (by decide +kernel : TG 160 = 36) (by decide +kernel) hσ0 (by omega) (lnI (by decide +kernel : LN _ = 226) (by omega)) (by decide +kernel) (fun z416 h415 h417 h418 => ?_)
          refine En_Ps 1 (pc' := 55) (lv' := [(0, .ref 159), (1, .int a), (2, .int b), (3, .int c)]) (st' := [.int z416]) rfl ?_
          have w419 : wf σ0 (97) = z416.toInt := ci_at h415 (by omega)
          exact En_ret (v := some (.int z416)) rfl rfl rfl ⟨hσ0, hF0, z416, rfl, ⟨by omega, by omega, (by have e := leR_y (w := wf σ0) (d := a.toInt) (i := b.toInt) (q := c.toInt) (by omega) (by omega) w419; omega)⟩⟩
        · refine En_iald (l := 0) (u := 15) rfl h59 (by decide +kernel : TG 160 = 36) (by decide +kernel) hσ0 (by omega) (lnI (by decide +kernel : LN _ = 226) (by omega)) (by decide +kernel) (fun z421 h420 h422 h423 => ?_)
          refine En_Ps 1 (pc' := 55) (lv' := [(0, .ref 159), (1, .int a), (2, .int b), (3, .int c)]) (st' := [.int z421]) rfl ?_
          have w424 : wf σ0 (98) = z421.toInt := ci_at h420 (by omega)
          exact En_ret (v := some (.int z421)) rfl rfl rfl ⟨hσ0, hF0, z421, rfl, ⟨by omega, by omega, (by have e := leR_y (w := wf σ0) (d := a.toInt) (i := b.toInt) (q := c.toInt) (by omega) (by omega) w424; omega)⟩⟩
        · refine En_iald (l := 0) (u := 1) rfl h59 (by decide +kernel : TG 160 = 36) (by decide +kernel) hσ0 (by omega) (lnI (by decide +kernel : LN _ = 226) (by omega)) (by decide +kernel) (fun z426 h425 h427 h428 => ?_)
          refine En_Ps 1 (pc' := 55) (lv' := [(0, .ref 159), (1, .int a), (2, .int b), (3, .int c)]) (st' := [.int z426]) rfl ?_
          have w429 : wf σ0 (99) = z426.toInt := ci_at h425 (by omega)
          exact En_ret (v := some (.int z426)) rfl rfl rfl ⟨hσ0, hF0, z426, rfl, ⟨by omega, by omega, (by have e := leR_y (w := wf σ0) (d := a.toInt) (i := b.toInt) (q := c.toInt) (by omega) (by omega) w429; omega)⟩⟩
        · refine En_iald (l := 0) (u := 15) rfl h59 (by decide +kernel : TG 160 = 36) (by decide +kernel) hσ0 (by omega) (lnI (by decide +kernel : LN _ = 226) (by omega)) (by decide +kernel) (fun z431 h430 h432 h433 => ?_)
          refine En_Ps 1 (pc' := 55) (lv' := [(0, .ref 159), (1, .int a), (2, .int b), (3, .int c)]) (st' := [.int z431]) rfl ?_
          have w434 : wf σ0 (100) = z431.toInt := ci_at h430 (by omega)
          exact En_ret (v := some (.int z431)) rfl rfl rfl ⟨hσ0, hF0, z431, rfl, ⟨by omega, by omega, (by have e := leR_y (w := wf σ0) (d := a.toInt) (i := b.toInt) (q := c.toInt) (by omega) (by omega) w434; omega)⟩⟩
        · refine En_iald (l := 0) (u := 1) rfl h59 (by decide +kernel : TG 160 = 36) (by decide +kernel) hσ0 (by omega) (lnI (by decide +kernel : LN _ = 226) (by omega)) (by decide +kernel) (fun z436 h435 h437 h438 => ?_)
          refine En_Ps 1 (pc' := 55) (lv' := [(0, .ref 159), (1, .int a), (2, .int b), (3, .int c)]) (st' := [.int z436]) rfl ?_
          have w439 : wf σ0 (101) = z436.toInt := ci_at h435 (by omega)
          exact En_ret (v := some (.int z436)) rfl rfl rfl ⟨hσ0, hF0, z436, rfl, ⟨by omega, by omega, (by have e := leR_y (w := wf σ0) (d := a.toInt) (i := b.toInt) (q := c.toInt) (by omega) (by omega) w439; omega)⟩⟩
        · refine En_iald (l := 0) (u := 15) rfl h59 (by decide +kernel : TG 160 = 36) (by decide +kernel) hσ0 (by omega) (lnI (by decide +kernel : LN _ = 226) (by omega)) (by decide +kernel) (fun z441 h440 h442 h443 => ?_)
          refine En_Ps 1 (pc' := 55) (lv' := [(0, .ref 159), (1, .int a), (2, .int b), (3, .int c)]) (st' := [.int z441]) rfl ?_
          have w444 : wf σ0 (102) = z441.toInt := ci_at h440 (by omega)
          exact En_ret (v := some (.int z441)) rfl rfl rfl ⟨hσ0, hF0, z441, rfl, ⟨by omega, by omega, (by have e := leR_y (w := wf σ0) (d := a.toInt) (i := b.toInt) (q := c.toInt) (by omega) (by omega) w444; omega)⟩⟩
        · refine En_iald (l := 0) (u := 1) rfl h59 (by decide +kernel : TG 160 = 36) (by decide +kernel) hσ0 (by omega) (lnI (by decide +kernel : LN _ = 226) (by omega)) (by decide +kernel) (fun z446 h445 h447 h448 => ?_)
          refine En_Ps 1 (pc' := 55) (lv' := [(0, .ref 159), (1, .int a), (2, .int b), (3, .int c)]) (st' := [.int z446]) rfl ?_
          have w449 : wf σ0 (103) = z446.toInt := ci_at h445 (by omega)
          exact En_ret (v := some (.int z446)) rfl rfl rfl ⟨hσ0, hF0, z446, rfl, ⟨by omega, by omega, (by have e := leR_y (w := wf σ0) (d := a.toInt) (i := b.toInt) (q := c.toInt) (by omega) (by omega) w449; omega)⟩⟩
        · refine En_iald (l := 0) (u := 15) rfl h59 (by decide +kernel : TG 160 = 36) (by decide +kernel) hσ0 (by omega) (lnI (by decide +kernel : LN _ = 226) (by omega)) (by decide +kernel) (fun z451 h450 h452 h453 => ?_)
          refine En_Ps 1 (pc' := 55) (lv' := [(0, .ref 159), (1, .int a), (2, .int b), (3, .int c)]) (st' := [.int z451]) rfl ?_
          have w454 : wf σ0 (104) = z451.toInt := ci_at h450 (by omega)
          exact En_ret (v := some (.int z451)) rfl rfl rfl ⟨hσ0, hF0, z451, rfl, ⟨by omega, by omega, (by have e := leR_y (w := wf σ0) (d := a.toInt) (i := b.toInt) (q := c.toInt) (by omega) (by omega) w454; omega)⟩⟩
        · refine En_iald (l := 0) (u := 1) rfl h59 (by decide +kernel : TG 160 = 36) (by decide +kernel) hσ0 (by omega) (lnI (by decide +kernel : LN _ = 226) (by omega)) (by decide +kernel) (fun z456 h455 h457 h458 => ?_)
          refine En_Ps 1 (pc' := 55) (lv' := [(0, .ref 159), (1, .int a), (2, .int b), (3, .int c)]) (st' := [.int z456]) rfl ?_
          have w459 : wf σ0 (105) = z456.toInt := ci_at h455 (by omega)
          exact En_ret (v := some (.int z456)) rfl rfl rfl ⟨hσ0, hF0, z456, rfl, ⟨by omega, by omega, (by have e := leR_y (w := wf σ0) (d := a.toInt) (i := b.toInt) (q := c.toInt) (by omega) (by omega) w459; omega)⟩⟩
        · refine En_iald (l := 0) (u := 15) rfl h59 (by decide +kernel : TG 160 = 36) (by decide +kernel) hσ0 (by omega) (lnI (by decide +kernel : LN _ = 226) (by omega)) (by decide +kernel) (fun z461 h460 h462 h463 => ?_)
          refine En_Ps 1 (pc' := 55) (lv' := [(0, .ref 159), (1, .int a), (2, .int b), (3, .int c)]) (st' := [.int z461]) rfl ?_
          have w464 : wf σ0 (106) = z461.toInt := ci_at h460 (by omega)
          exact En_ret (v := some (.int z461)) rfl rfl rfl ⟨hσ0, hF0, z461, rfl, ⟨by omega, by omega, (by have e := leR_y (w := wf σ0) (d := a.toInt) (i := b.toInt) (q := c.toInt) (by omega) (by omega) w464; omega)⟩⟩
        · refine En_iald (l := 0) (u := 1) rfl h59 (by decide +kernel : TG 160 = 36) (by decide +kernel) hσ0 (by omega) (lnI (by decide +kernel : LN _ = 226) (by omega)) (by decide +kernel) (fun z466 h465 h467 h468 => ?_)
          refine En_Ps 1 (pc' := 55) (lv' := [(0, .ref 159), (1, .int a), (2, .int b), (3, .int c)]) (st' := [.int z466]) rfl ?_
          have w469 : wf σ0 (107) = z466.toInt := ci_at h465 (by omega)
          exact En_ret (v := some (.int z466)) rfl rfl rfl ⟨hσ0, hF0, z466, rfl, ⟨by omega, by omega, (by have e := leR_y (w := wf σ0) (d := a.toInt) (i := b.toInt) (q := c.toInt) (by omega) (by omega) w469; omega)⟩⟩
        · refine En_iald (l := 0) (u := 15) rfl h59 (by decide +kernel : TG 160 = 36) (by decide +kernel) hσ0 (by omega) (lnI (by decide +kernel : LN _ = 226) (by omega)) (by decide +kernel) (fun z471 h470 h472 h473 => ?_)
          refine En_Ps 1 (pc' := 55) (lv' := [(0, .ref 159), (1, .int a), (2, .int b), (3, .int c)]) (st' := [.int z471]) rfl ?_
          have w474 : wf σ0 (108) = z471.toInt := ci_at h470 (by omega)
          exact En_ret (v := some (.int z471)) rfl rfl rfl ⟨hσ0, hF0, z471, rfl, ⟨by omega, by omega, (by have e := leR_y (w := wf σ0) (d := a.toInt) (i := b.toInt) (q := c.toInt) (by omega) (by omega) w474; omega)⟩⟩
        · refine En_iald (l := 0) (u := 1) rfl h59 (by decide +kernel : TG 160 = 36) (by decide +kernel) hσ0 (by omega) (lnI (by decide +kernel : LN _ = 226) (by omega)) (by decide +kernel) (fun z476 h475 h477 h478 => ?_)
          refine En_Ps 1 (pc' := 55) (lv' := [(0, .ref 159), (1, .int a), (2, .int b), (3, .int c)]) (st' := [.int z476]) rfl ?_
          have w479 : wf σ0 (109) = z476.toInt := ci_at h475 (by omega)
          exact En_ret (v := some (.int z476)) rfl rfl rfl ⟨hσ0, hF0, z476, rfl, ⟨by omega, by omega, (by have e := leR_y (w := wf σ0) (d := a.toInt) (i := b.toInt) (q := c.toInt) (by omega) (by omega) w479; omega)⟩⟩
        · refine En_iald (l := 0) (u := 15) rfl h59 (by decide +kernel : TG 160 = 36) (by decide +kernel) hσ0 (by omega) (lnI (by decide +kernel : LN _ = 226) (by omega)) (by decide +kernel) (fun z481 h480 h482 h483 => ?_)
          refine En_Ps 1 (pc' := 55) (lv' := [(0, .ref 159), (1, .int a), (2, .int b), (3, .int c)]) (st' := [.int z481]) rfl ?_
          have w484 : wf σ0 (110) = z481.toInt := ci_at h480 (by omega)
          exact En_ret (v := some (.int z481)) rfl rfl rfl ⟨hσ0, hF0, z481, rfl, ⟨by omega, by omega, (by have e := leR_y (w := wf σ0) (d := a.toInt) (i := b.toInt) (q := c.toInt) (by omega) (by omega) w484; omega)⟩⟩
        · refine En_iald (l := 0) (u := 1) rfl h59 (by decide +kernel : TG 160 = 36) (by decide +kernel) hσ0 (by omega) (lnI (by decide +kernel : LN _ = 226) (by omega)) (by decide +kernel) (fun z486 h485 h487 h488 => ?_)
          refine En_Ps 1 (pc' := 55) (lv' := [(0, .ref 159), (1, .int a), (2, .int b), (3, .int c)]) (st' := [.int z486]) rfl ?_
          have w489 : wf σ0 (111) = z486.toInt := ci_at h485 (by omega)
          exact En_ret (v := some (.int z486)) rfl rfl rfl ⟨hσ0, hF0, z486, rfl, ⟨by omega, by omega, (by have e := leR_y (w := wf σ0) (d := a.toInt) (i := b.toInt) (q := c.toInt) (by omega) (by omega) w489; omega)⟩⟩
        · refine En_iald (l := 0) (u := 15) rfl h59 (by decide +kernel : TG 160 = 36) (by decide +kernel) hσ0 (by omega) (lnI (by decide +kernel : LN _ = 226) (by omega)) (by decide +kernel) (fun z491 h490 h492 h493 => ?_)
          refine En_Ps 1 (pc' := 55) (lv' := [(0, .ref 159), (1, .int a), (2, .int b), (3, .int c)]) (st' := [.int z491]) rfl ?_
          have w494 : wf σ0 (112) = z491.toInt := ci_at h490 (by omega)
          exact En_ret (v := some (.int z491)) rfl rfl rfl ⟨hσ0, hF0, z491, rfl, ⟨by omega, by omega, (by have e := leR_y (w := wf σ0) (d := a.toInt) (i := b.toInt) (q := c.toInt) (by omega) (by omega) w494; omega)⟩⟩
        · refine En_iald (l := 0) (u := 1) rfl h59 (by decide +kernel : TG 160 = 36) (by decide +kernel) hσ0 (by omega) (lnI (by decide +kernel : LN _ = 226) (by omega)) (by decide +kernel) (fun z496 h495 h497 h498 => ?_)
          refine En_Ps 1 (pc' := 55) (lv' := [(0, .ref 159), (1, .int a), (2, .int b), (3, .int c)]) (st' := [.int z496]) rfl ?_
          have w499 : wf σ0 (113) = z496.toInt := ci_at h495 (by omega)
          exact En_ret (v := some (.int z496)) rfl rfl rfl ⟨hσ0, hF0, z496, rfl, ⟨by omega, by omega, (by have e := leR_y (w := wf σ0) (d := a.toInt) (i := b.toInt) (q := c.toInt) (by omega) (by omega) w499; omega)⟩⟩
        · refine En_iald (l := 0) (u := 15) rfl h59 (by decide +kernel : TG 160 = 36) (by decide +kernel) hσ0 (by omega) (lnI (by decide +kernel : LN _ = 226) (by omega)) (by decide +kernel) (fun z501 h500 h502 h503 => ?_)
          refine En_Ps 1 (pc' := 55) (lv' := [(0, .ref 159), (1, .int a), (2, .int b), (3, .int c)]) (st' := [.int z501]) rfl ?_
          have w504 : wf σ0 (114) = z501.toInt := ci_at h500 (by omega)
          exact En_ret (v := some (.int z501)) rfl rfl rfl ⟨hσ0, hF0, z501, rfl, ⟨by omega, by omega, (by have e := leR_y (w := wf σ0) (d := a.toInt) (i := b.toInt) (q := c.toInt) (by omega) (by omega) w504; omega)⟩⟩
        · refine En_iald (l := 0) (u := 1) rfl h59 (by decide +kernel : TG 160 = 36) (by decide +kernel) hσ0 (by omega) (lnI (by decide +kernel : LN _ = 226) (by omega)) (by decide +kernel) (fun z506 h505 h507 h508 => ?_)
          refine En_Ps 1 (pc' := 55) (lv' := [(0, .ref 159), (1, .int a), (2, .int b), (3, .int c)]) (st' := [.int z506]) rfl ?_
          have w509 : wf σ0 (115) = z506.toInt := ci_at h505 (by omega)
          exact En_ret (v := some (.int z506)) rfl rfl rfl ⟨hσ0, hF0, z506, rfl, ⟨by omega, by omega, (by have e := leR_y (w := wf σ0) (d := a.toInt) (i := b.toInt) (q := c.toInt) (by omega) (by omega) w509; omega)⟩⟩
        · refine En_iald (l := 0) (u := 15) rfl h59 (by decide +kernel : TG 160 = 36) (by decide +kernel) hσ0 (by omega) (lnI (by decide +kernel : LN _ = 226) (by omega)) (by decide +kernel) (fun z511 h510 h512 h513 => ?_)
          refine En_Ps 1 (pc' := 55) (lv' := [(0, .ref 159), (1, .int a), (2, .int b), (3, .int c)]) (st' := [.int z511]) rfl ?_
          have w514 : wf σ0 (116) = z511.toInt := ci_at h510 (by omega)
          exact En_ret (v := some (.int z511)) rfl rfl rfl ⟨hσ0, hF0, z511, rfl, ⟨by omega, by omega, (by have e := leR_y (w := wf σ0) (d := a.toInt) (i := b.toInt) (q := c.toInt) (by omega) (by omega) w514; omega)⟩⟩
        · refine En_iald (l := 0) (u := 1) rfl h59 (by decide +kernel : TG 160 = 36) (by decide +kernel) hσ0 (by omega) (lnI (by decide +kernel : LN _ = 226) (by omega)) (by decide +kernel) (fun z516 h515 h517 h518 => ?_)
          refine En_Ps 1 (pc' := 55) (lv' := [(0, .ref 159), (1, .int a), (2, .int b), (3, .int c)]) (st' := [.int z516]) rfl ?_
          have w519 : wf σ0 (117) = z516.toInt := ci_at h515 (by omega)
          exact En_ret (v := some (.int z516)) rfl rfl rfl ⟨hσ0, hF0, z516, rfl, ⟨by omega, by omega, (by have e := leR_y (w := wf σ0) (d := a.toInt) (i := b.toInt) (q := c.toInt) (by omega) (by omega) w519; omega)⟩⟩
        · refine En_iald (l := 0) (u := 15) rfl h59 (by decide +kernel : TG 160 = 36) (by decide +kernel) hσ0 (by omega) (lnI (by decide +kernel : LN _ = 226) (by omega)) (by decide +kernel) (fun z521 h520 h522 h523 => ?_)
          refine En_Ps 1 (pc' := 55) (lv' := [(0, .ref 159), (1, .int a), (2, .int b), (3, .int c)]) (st' := [.int z521]) rfl ?_
          have w524 : wf σ0 (118) = z521.toInt := ci_at h520 (by omega)
          exact En_ret (v := some (.int z521)) rfl rfl rfl ⟨hσ0, hF0, z521, rfl, ⟨by omega, by omega, (by have e := leR_y (w := wf σ0) (d := a.toInt) (i := b.toInt) (q := c.toInt) (by omega) (by omega) w524; omega)⟩⟩
        · refine En_iald (l := 0) (u := 1) rfl h59 (by decide +kernel : TG 160 = 36) (by decide +kernel) hσ0 (by omega) (lnI (by decide +kernel : LN _ = 226) (by omega)) (by decide +kernel) (fun z526 h525 h527 h528 => ?_)
          refine En_Ps 1 (pc' := 55) (lv' := [(0, .ref 159), (1, .int a), (2, .int b), (3, .int c)]) (st' := [.int z526]) rfl ?_
          have w529 : wf σ0 (119) = z526.toInt := ci_at h525 (by omega)
          exact En_ret (v := some (.int z526)) rfl rfl rfl ⟨hσ0, hF0, z526, rfl, ⟨by omega, by omega, (by have e := leR_y (w := wf σ0) (d := a.toInt) (i := b.toInt) (q := c.toInt) (by omega) (by omega) w529; omega)⟩⟩
        · refine En_iald (l := 0) (u := 15) rfl h59 (by decide +kernel : TG 160 = 36) (by decide +kernel) hσ0 (by omega) (lnI (by decide +kernel : LN _ = 226) (by omega)) (by decide +kernel) (fun z531 h530 h532 h533 => ?_)
          refine En_Ps 1 (pc' := 55) (lv' := [(0, .ref 159), (1, .int a), (2, .int b), (3, .int c)]) (st' := [.int z531]) rfl ?_
          have w534 : wf σ0 (120) = z531.toInt := ci_at h530 (by omega)
          exact En_ret (v := some (.int z531)) rfl rfl rfl ⟨hσ0, hF0, z531, rfl, ⟨by omega, by omega, (by have e := leR_y (w := wf σ0) (d := a.toInt) (i := b.toInt) (q := c.toInt) (by omega) (by omega) w534; omega)⟩⟩
        · refine En_iald (l := 0) (u := 1) rfl h59 (by decide +kernel : TG 160 = 36) (by decide +kernel) hσ0 (by omega) (lnI (by decide +kernel : LN _ = 226) (by omega)) (by decide +kernel) (fun z536 h535 h537 h538 => ?_)
          refine En_Ps 1 (pc' := 55) (lv' := [(0, .ref 159), (1, .int a), (2, .int b), (3, .int c)]) (st' := [.int z536]) rfl ?_
          have w539 : wf σ0 (121) = z536.toInt := ci_at h535 (by omega)
          exact En_ret (v := some (.int z536)) rfl rfl rfl ⟨hσ0, hF0, z536, rfl, ⟨by omega, by omega, (by have e := leR_y (w := wf σ0) (d := a.toInt) (i := b.toInt) (q := c.toInt) (by omega) (by omega) w539; omega)⟩⟩
    · refine En_Ps 1 (pc' := 20) (lv' := [(0, .ref 159), (1, .int a), (2, .int b), (3, .int c)]) (st' := [.int (((Int8.ofInt (-2)).toInt32))]) rfl ?_
      refine En_top (by decide : ((Int8.ofInt (-2)).toInt32).toInt = -2) (fun z540 h541 => ?_)
      exact En_ret (v := some (.int z540)) rfl rfl rfl ⟨hσ0, hF0, z540, rfl, ⟨by omega, by omega, (by have e := leR_2 (w := wf σ0) (d := a.toInt) (i := b.toInt) (q := c.toInt) (by omega); omega)⟩⟩

