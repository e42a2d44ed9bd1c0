/-- DoorSchoolModel.is(Ljava/lang/String;)Z -/
abbrev P_251s3x (σ0 : SG) (By : Int → Int) (Nb : Int) (Sp : PS) : PO := fun v σ => WT σ ∧ Fr [] σ0 σ ∧ ∃ ret : Int32, v = some (.int ret) ∧ -ret.toInt ≤ 0 ∧ ret.toInt - 1 ≤ 0 ∧ ret.toInt = iW By Nb 3 Sp
set_option maxRecDepth 10000 in
set_option maxHeartbeats 4000000 in
theorem c_251s3x {By : Int → Int} {Nb : Int} {Sp : PS} (σ0 : SG) (hσ0 : WT σ0) (hM : ML By Nb σ0 Sp) : En 4 90 none mr_251 (P_251s3x σ0 By Nb Sp) 0 [(0, .ref 159), (1, .retAddr 7)] [] σ0 := by
  have hF0 : Fr [] σ0 σ0 := Fr_rfl
  obtain ⟨z2, h1, h3, h4⟩ := WT_peekI hσ0 tgz_159 (by decide +kernel : FT 35 12 = (0, 0, 3)) (by decide +kernel)
  obtain ⟨z6, h5, h7, h8⟩ := WT_peekI hσ0 tgz_159 (by decide +kernel : FT 35 10 = (0, 0, 4)) (by decide +kernel)
  obtain ⟨z10, h9, h11, h12⟩ := WT_peekI hσ0 tgz_159 (by decide +kernel : FT 35 8 = (0, 0, 1600)) (by decide +kernel)
  obtain ⟨z14, h13, h15, h16⟩ := WT_peekI hσ0 tgz_159 (by decide +kernel : FT 35 9 = (0, 0, 1600)) (by decide +kernel)
  have h17 := ML_k hM h1
  have h18 : Imp (Sp.1 = 0) (tK By Nb Sp.2.2.1 = z6.toInt) := ML_t hM h5
  have h19 := ML_fa hM h9 h13
  refine En_Ps 1 (pc' := 1) (lv' := [(0, .ref 159), (1, .retAddr 7)]) (st' := [.ref 159]) rfl ?_
  refine En_callV rfl rfl rfl rfl rfl rfl rfl rfl tgz_159 (by decide +kernel) rfl (c_237 σ0 hσ0 z2 h1) (by decide) (by decide) (fun v21 σ22 h20 => ?_)
  obtain ⟨h23, h24, z26, rfl, h25⟩ := h20
  obtain rfl : σ0 = σ22 := Fr_nil h24
  refine En_iEq _ rfl rfl (fun h27 => ?_) (fun h27 => ?_)
  · refine En_Ps 4 (pc' := 39) (lv' := [(3, .int ((Int32.ofInt 0))), (2, .int ((Int32.ofInt 0))), (0, .ref 159), (1, .retAddr 7)]) (st' := []) rfl ?_
    have key39 : ∀ (n39 : Nat) (σ30 : SG) (y28 : Int32) (y29 : Int32), WT σ30 → Fr [] σ0 σ30 → (σ30 159)[12]? = some (.int z2) → (σ30 159)[10]? = some (.int z6) → (σ30 159)[8]? = some (.int z10) → (σ30 159)[9]? = some (.int z14) → 0 ≤ y28.toInt → y28.toInt ≤ 0 → 0 ≤ y29.toInt → y29.toInt ≤ 0 → z2.toInt - y28.toInt < (n39 : Int) → ISQ By Nb 3 Sp y28.toInt y29.toInt → En 4 90 none mr_251 (P_251s3x σ0 By Nb Sp) 39 [(0, .ref 159), (1, .retAddr 7), (2, .int y28), (3, .int y29)] [] σ30 := by
      intro n39
      induction n39 with
      | zero =>
        intro σ30 y28 y29 h31 h32 h33 h34 h35 h36 h37 h38 h39 h40 h41 h42
        exfalso; omega
      | succ n39 ih39 =>
        intro σ30 y28 y29 h31 h32 h33 h34 h35 h36 h37 h38 h39 h40 h41 h42
        refine En_Ps 2 (pc' := 41) (lv' := [(0, .ref 159), (1, .retAddr 7), (2, .int y28), (3, .int y29)]) (st' := [.retAddr 7, .int y29]) rfl ?_
        refine En_slen 3 4 rfl rfl (by decide) rfl ?_
        refine En_icGe _ rfl (by decide : (Int32.ofNat 4).toInt = 4) rfl (fun hx => by exfalso; omega) (fun h43 => ?_)
        refine En_Ps 1 (pc' := 48) (lv' := [(0, .ref 159), (1, .retAddr 7), (2, .int y28), (3, .int y29)]) (st' := [.int y28]) rfl ?_
        refine En_iEq _ rfl rfl (fun h44 => ?_) (fun hx => by exfalso; omega)
        refine En_Ps 1 (pc' := 83) (lv' := [(0, .ref 159), (1, .retAddr 7), (2, .int y28), (3, .int y29)]) (st' := [.int y28]) rfl ?_
        exact En_ret (v := some (.int y28)) rfl rfl (retZ rfl rfl (by omega) (by omega)) ⟨h31, h32, y28, rfl, ⟨by omega, by omega, ISQ_x h42 (by simp only [LWl]; omega)⟩⟩
    have := (by decide : (Int32.ofInt 0).toInt = 0)
    have := (by decide : (Int32.ofInt 0).toInt = 0)
    refine En_lv (lv := [(0, .ref 159), (1, .retAddr 7), (2, .int ((Int32.ofInt 0))), (3, .int ((Int32.ofInt 0)))]) ⟨rfl, rfl, rfl, rfl, trivial⟩ ?_
    exact key39 (Int.toNat (z2.toInt) + 1) σ0 ((Int32.ofInt 0)) ((Int32.ofInt 0)) hσ0 hF0 h1 h5 h9 h13 (by omega) (by omega) (by omega) (by omega) (by omega) (ISQ_s (by decide) (by (try have i0 := Imp_m h18 (by omega)); simp only [LWl]; omega))
  · refine En_Ps 1 (pc' := 8) (lv' := [(0, .ref 159), (1, .retAddr 7)]) (st' := [.ref 159]) rfl ?_
    refine En_getK (j := 10) h5 rfl rfl rfl tgz_159 (by decide +kernel) ?_
    refine En_Ps 1 (pc' := 12) (lv' := [(0, .ref 159), (1, .retAddr 7)]) (st' := [.int ((Int32.ofInt 1)), .int z6]) rfl ?_
    refine En_icNe _ rfl (by decide : (Int32.ofInt 1).toInt = 1) rfl (fun h45 => ?_) (fun h45 => ?_)
    · refine En_Ps 4 (pc' := 39) (lv' := [(3, .int ((Int32.ofInt 0))), (2, .int ((Int32.ofInt 0))), (0, .ref 159), (1, .retAddr 7)]) (st' := []) rfl ?_
      have key39 : ∀ (n39 : Nat) (σ48 : SG) (y46 : Int32) (y47 : Int32), WT σ48 → Fr [] σ0 σ48 → (σ48 159)[12]? = some (.int z2) → (σ48 159)[10]? = some (.int z6) → (σ48 159)[8]? = some (.int z10) → (σ48 159)[9]? = some (.int z14) → 0 ≤ y46.toInt → y46.toInt ≤ 0 → 0 ≤ y47.toInt → y47.toInt ≤ 0 → z2.toInt - y46.toInt < (n39 : Int) → ISQ By Nb 3 Sp y46.toInt y47.toInt → En 4 90 none mr_251 (P_251s3x σ0 By Nb Sp) 39 [(0, .ref 159), (1, .retAddr 7), (2, .int y46), (3, .int y47)] [] σ48 := by
        intro n39
        induction n39 with
        | zero =>
          intro σ48 y46 y47 h49 h50 h51 h52 h53 h54 h55 h56 h57 h58 h59 h60
          exfalso; omega
        | succ n39 ih39 =>
          intro σ48 y46 y47 h49 h50 h51 h52 h53 h54 h55 h56 h57 h58 h59 h60
          refine En_Ps 2 (pc' := 41) (lv' := [(0, .ref 159), (1, .retAddr 7), (2, .int y46), (3, .int y47)]) (st' := [.retAddr 7, .int y47]) rfl ?_
          refine En_slen 3 4 rfl rfl (by decide) rfl ?_
          refine En_icGe _ rfl (by decide : (Int32.ofNat 4).toInt = 4) rfl (fun hx => by exfalso; omega) (fun h61 => ?_)
          refine En_Ps 1 (pc' := 48) (lv' := [(0, .ref 159), (1, .retAddr 7), (2, .int y46), (3, .int y47)]) (st' := [.int y46]) rfl ?_
          refine En_iEq _ rfl rfl (fun h62 => ?_) (fun hx => by exfalso; omega)
          refine En_Ps 1 (pc' := 83) (lv' := [(0, .ref 159), (1, .retAddr 7), (2, .int y46), (3, .int y47)]) (st' := [.int y46]) rfl ?_
          exact En_ret (v := some (.int y46)) rfl rfl (retZ rfl rfl (by omega) (by omega)) ⟨h49, h50, y46, rfl, ⟨by omega, by omega, ISQ_x h60 (by simp only [LWl]; omega)⟩⟩
      have := (by decide : (Int32.ofInt 0).toInt = 0)
      have := (by decide : (Int32.ofInt 0).toInt = 0)
      refine En_lv (lv := [(0, .ref 159), (1, .retAddr 7), (2, .int ((Int32.ofInt 0))), (3, .int ((Int32.ofInt 0)))]) ⟨rfl, rfl, rfl, rfl, trivial⟩ ?_
      exact key39 (Int.toNat (z2.toInt) + 1) σ0 ((Int32.ofInt 0)) ((Int32.ofInt 0)) hσ0 hF0 h1 h5 h9 h13 (by omega) (by omega) (by omega) (by omega) (by omega) (ISQ_s (by decide) (by (try have i0 := Imp_m h18 (by omega)); simp only [LWl]; omega))
    · refine En_Ps 1 (pc' := 16) (lv' := [(0, .ref 159), (1, .retAddr 7)]) (st' := [.ref 159]) rfl ?_
      refine En_getK (j := 8) h9 rfl rfl rfl tgz_159 (by decide +kernel) ?_
      refine En_Ps 1 (pc' := 20) (lv' := [(0, .ref 159), (1, .retAddr 7)]) (st' := [.ref 159, .int z10]) rfl ?_
      refine En_getK (j := 9) h13 rfl rfl rfl tgz_159 (by decide +kernel) ?_
      refine En_Ps 1 (pc' := 24) (lv' := [(0, .ref 159), (1, .retAddr 7)]) (st' := [.int ((z10 - z14))]) rfl ?_
      refine En_top (subI rfl rfl (by omega) (by omega)) (fun z63 h64 => ?_)
      refine En_Ps 1 (pc' := 25) (lv' := [(0, .ref 159), (1, .retAddr 7)]) (st' := [.retAddr 7, .int z63]) rfl ?_
      refine En_slen 3 4 rfl rfl (by decide) rfl ?_
      refine En_icNe _ rfl (by decide : (Int32.ofNat 4).toInt = 4) rfl (fun h65 => ?_) (fun h65 => ?_)
      · refine En_Ps 4 (pc' := 39) (lv' := [(3, .int ((Int32.ofInt 0))), (2, .int ((Int32.ofInt 0))), (0, .ref 159), (1, .retAddr 7)]) (st' := []) rfl ?_
        have key39 : ∀ (n39 : Nat) (σ68 : SG) (y66 : Int32) (y67 : Int32), WT σ68 → Fr [] σ0 σ68 → (σ68 159)[12]? = some (.int z2) → (σ68 159)[10]? = some (.int z6) → (σ68 159)[8]? = some (.int z10) → (σ68 159)[9]? = some (.int z14) → 0 ≤ y66.toInt → y66.toInt ≤ 0 → 0 ≤ y67.toInt → y67.toInt ≤ 0 → z2.toInt - y66.toInt < (n39 : Int) → ISQ By Nb 3 Sp y66.toInt y67.toInt → En 4 90 none mr_251 (P_251s3x σ0 By Nb Sp) 39 [(0, .ref 159), (1, .retAddr 7), (2, .int y66), (3, .int y67)] [] σ68 := by
          intro n39
          induction n39 with
          | zero =>
            intro σ68 y66 y67 h69 h70 h71 h72 h73 h74 h75 h76 h77 h78 h79 h80
            exfalso; omega
          | succ n39 ih39 =>
            intro σ68 y66 y67 h69 h70 h71 h72 h73 h74 h75 h76 h77 h78 h79 h80
            refine En_Ps 2 (pc' := 41) (lv' := [(0, .ref 159), (1, .retAddr 7), (2, .int y66), (3, .int y67)]) (st' := [.retAddr 7, .int y67]) rfl ?_
            refine En_slen 3 4 rfl rfl (by decide) rfl ?_
            refine En_icGe _ rfl (by decide : (Int32.ofNat 4).toInt = 4) rfl (fun hx => by exfalso; omega) (fun h81 => ?_)
            refine En_Ps 1 (pc' := 48) (lv' := [(0, .ref 159), (1, .retAddr 7), (2, .int y66), (3, .int y67)]) (st' := [.int y66]) rfl ?_
            refine En_iEq _ rfl rfl (fun h82 => ?_) (fun hx => by exfalso; omega)
            refine En_Ps 1 (pc' := 83) (lv' := [(0, .ref 159), (1, .retAddr 7), (2, .int y66), (3, .int y67)]) (st' := [.int y66]) rfl ?_
            exact En_ret (v := some (.int y66)) rfl rfl (retZ rfl rfl (by omega) (by omega)) ⟨h69, h70, y66, rfl, ⟨by omega, by omega, ISQ_x h80 (by simp only [LWl]; omega)⟩⟩
        have := (by decide : (Int32.ofInt 0).toInt = 0)
        have := (by decide : (Int32.ofInt 0).toInt = 0)
        refine En_lv (lv := [(0, .ref 159), (1, .retAddr 7), (2, .int ((Int32.ofInt 0))), (3, .int ((Int32.ofInt 0)))]) ⟨rfl, rfl, rfl, rfl, trivial⟩ ?_
        exact key39 (Int.toNat (z2.toInt) + 1) σ0 ((Int32.ofInt 0)) ((Int32.ofInt 0)) hσ0 hF0 h1 h5 h9 h13 (by omega) (by omega) (by omega) (by omega) (by omega) (ISQ_s (by decide) (by (try have i0 := Imp_m h18 (by omega)); simp only [LWl]; omega))
      · refine En_Ps 5 (pc' := 39) (lv' := [(3, .int ((Int32.ofInt 0))), (2, .int ((Int32.ofInt 1))), (0, .ref 159), (1, .retAddr 7)]) (st' := []) rfl ?_
        have key39 : ∀ (n39 : Nat) (σ85 : SG) (y83 : Int32) (y84 : Int32), WT σ85 → Fr [] σ0 σ85 → (σ85 159)[12]? = some (.int z2) → (σ85 159)[10]? = some (.int z6) → (σ85 159)[8]? = some (.int z10) → (σ85 159)[9]? = some (.int z14) → 0 ≤ y83.toInt → y83.toInt ≤ 1 → 0 ≤ y84.toInt → y84.toInt ≤ 4 → z10.toInt - y84.toInt < (n39 : Int) → ISQ By Nb 3 Sp y83.toInt y84.toInt → En 4 90 none mr_251 (P_251s3x σ0 By Nb Sp) 39 [(0, .ref 159), (1, .retAddr 7), (2, .int y83), (3, .int y84)] [] σ85 := by
          intro n39
          induction n39 with
          | zero =>
            intro σ85 y83 y84 h86 h87 h88 h89 h90 h91 h92 h93 h94 h95 h96 h97
            exfalso; omega
          | succ n39 ih39 =>
            intro σ85 y83 y84 h86 h87 h88 h89 h90 h91 h92 h93 h94 h95 h96 h97
            refine En_Ps 2 (pc' := 41) (lv' := [(0, .ref 159), (1, .retAddr 7), (2, .int y83), (3, .int y84)]) (st' := [.retAddr 7, .int y84]) rfl ?_
            refine En_slen 3 4 rfl rfl (by decide) rfl ?_
            refine En_icGe _ rfl (by decide : (Int32.ofNat 4).toInt = 4) rfl (fun h98 => ?_) (fun h98 => ?_)
            · refine En_Ps 1 (pc' := 83) (lv' := [(0, .ref 159), (1, .retAddr 7), (2, .int y83), (3, .int y84)]) (st' := [.int y83]) rfl ?_
              exact En_ret (v := some (.int y83)) rfl rfl (retZ rfl rfl (by omega) (by omega)) ⟨h86, h87, y83, rfl, ⟨by omega, by omega, ISQ_x h97 (by simp only [LWl]; omega)⟩⟩
            · refine En_Ps 1 (pc' := 48) (lv' := [(0, .ref 159), (1, .retAddr 7), (2, .int y83), (3, .int y84)]) (st' := [.int y83]) rfl ?_
              refine En_iEq _ rfl rfl (fun h99 => ?_) (fun h99 => ?_)
              · refine En_Ps 1 (pc' := 83) (lv' := [(0, .ref 159), (1, .retAddr 7), (2, .int y83), (3, .int y84)]) (st' := [.int y83]) rfl ?_
                exact En_ret (v := some (.int y83)) rfl rfl (retZ rfl rfl (by omega) (by omega)) ⟨h86, h87, y83, rfl, ⟨by omega, by omega, ISQ_x h97 (by simp only [LWl]; omega)⟩⟩
              · refine En_Ps 1 (pc' := 52) (lv' := [(0, .ref 159), (1, .retAddr 7), (2, .int y83), (3, .int y84)]) (st' := [.ref 159]) rfl ?_
                refine En_getU (j := 4) (u := 163) (g' := 39) (q := 0) rfl rfl rfl tgz_159 (by decide +kernel) h86 (by decide +kernel) (by decide +kernel) (fun h100 => ?_)
                refine En_Ps 1 (pc' := 56) (lv' := [(0, .ref 159), (1, .retAddr 7), (2, .int y83), (3, .int y84)]) (st' := [.ref 159, .ref 163]) rfl ?_
                refine En_getK (j := 9) h91 rfl rfl rfl tgz_159 (by decide +kernel) ?_
                refine En_Ps 2 (pc' := 61) (lv' := [(0, .ref 159), (1, .retAddr 7), (2, .int y83), (3, .int y84)]) (st' := [.int ((z14 + y84)), .ref 163]) rfl ?_
                refine En_top (addI rfl rfl (by omega) (by omega)) (fun z102 h103 => ?_)
                refine En_bald (l := (-128)) (u := 127) rfl rfl tgz_163 (by decide +kernel) h86 (by omega) (lnI (by decide +kernel : LN _ = 1600) (by omega)) (FTsgl (by decide +kernel)) (fun z105 h104 h106 h107 => ?_)
                refine En_Ps 2 (pc' := 64) (lv' := [(0, .ref 159), (1, .retAddr 7), (2, .int y83), (3, .int y84)]) (st' := [.int y84, .retAddr 7, .int z105]) rfl ?_
                refine En_scharX 3 4 rfl rfl rfl (by decide) (by omega) (by omega) rfl (fun z108 h109 h110 h111 => ?_)
                refine En_icNe _ rfl rfl rfl (fun h112 => ?_) (fun h112 => ?_)
                · refine En_Ps 3 (pc' := 79) (lv' := [(3, .int ((y84 + Int32.ofInt 1))), (2, .int ((Int32.ofInt 0))), (0, .ref 159), (1, .retAddr 7)]) (st' := []) rfl ?_
                  refine En_lv1 (addI rfl (by decide : (Int32.ofInt 1).toInt = 1) (by omega) (by omega)) (fun z113 h114 => ?_)
                  refine En_Ps 1 (pc' := 39) (lv' := [(3, .int z113), (2, .int ((Int32.ofInt 0))), (0, .ref 159), (1, .retAddr 7)]) (st' := []) rfl ?_
                  have := (by decide : (Int32.ofInt 0).toInt = 0)
                  refine En_lv (lv := [(0, .ref 159), (1, .retAddr 7), (2, .int ((Int32.ofInt 0))), (3, .int z113)]) ⟨rfl, rfl, rfl, rfl, trivial⟩ ?_
                  exact ih39 σ85 ((Int32.ofInt 0)) z113 h86 h87 h88 h89 h90 h91 (by omega) (by omega) (by omega) (by omega) (by omega) (ISQ_n (ML_fr hM h87 (by decide +kernel)) h97 (by omega) (by simp only [LWl]; omega) (fun _ => by omega) h104 h111 (by omega) (by omega))
                · refine En_Ps 4 (pc' := 79) (lv' := [(3, .int ((y84 + Int32.ofInt 1))), (2, .int ((Int32.ofInt 1))), (0, .ref 159), (1, .retAddr 7)]) (st' := []) rfl ?_
                  refine En_lv1 (addI rfl (by decide : (Int32.ofInt 1).toInt = 1) (by omega) (by omega)) (fun z115 h116 => ?_)
                  refine En_Ps 1 (pc' := 39) (lv' := [(3, .int z115), (2, .int ((Int32.ofInt 1))), (0, .ref 159), (1, .retAddr 7)]) (st' := []) rfl ?_
                  have := (by decide : (Int32.ofInt 1).toInt = 1)
                  refine En_lv (lv := [(0, .ref 159), (1, .retAddr 7), (2, .int ((Int32.ofInt 1))), (3, .int z115)]) ⟨rfl, rfl, rfl, rfl, trivial⟩ ?_
                  exact ih39 σ85 ((Int32.ofInt 1)) z115 h86 h87 h88 h89 h90 h91 (by omega) (by omega) (by omega) (by omega) (by omega) (ISQ_n (ML_fr hM h87 (by decide +kernel)) h97 (by omega) (by simp only [LWl]; omega) (fun _ => by omega) h104 h111 (by omega) (by omega))
        have := (by decide : (Int32.ofInt 1).toInt = 1)
        have := (by decide : (Int32.ofInt 0).toInt = 0)
        refine En_lv (lv := [(0, .ref 159), (1, .retAddr 7), (2, .int ((Int32.ofInt 1))), (3, .int ((Int32.ofInt 0)))]) ⟨rfl, rfl, rfl, rfl, trivial⟩ ?_
        exact key39 (Int.toNat (z10.toInt) + 1) σ0 ((Int32.ofInt 1)) ((Int32.ofInt 0)) hσ0 hF0 h1 h5 h9 h13 (by omega) (by omega) (by omega) (by omega) (by omega) (ISQ_s (by decide) (by (try have i0 := Imp_m h18 (by omega)); simp only [LWl]; omega))
/-- DoorSchoolModel.is(Ljava/lang/String;)Z -/
abbrev P_251s4x (σ0 : SG) (By : Int → Int) (Nb : Int) (Sp : PS) : PO := fun v σ => WT σ ∧ Fr [] σ0 σ ∧ ∃ ret : Int32, v = some (.int ret) ∧ -ret.toInt ≤ 0 ∧ ret.toInt - 1 ≤ 0 ∧ ret.toInt = iW By Nb 4 Sp
set_option maxRecDepth 10000 in
set_option maxHeartbeats 4000000 in
theorem c_251s4x {By : Int → Int} {Nb : Int} {Sp : PS} (σ0 : SG) (hσ0 : WT σ0) (hM : ML By Nb σ0 Sp) : En 4 90 none mr_251 (P_251s4x σ0 By Nb Sp) 0 [(0, .ref 159), (1, .retAddr 9)] [] σ0 := by
  have hF0 : Fr [] σ0 σ0 := Fr_rfl
  obtain ⟨z2, h1, h3, h4⟩ := WT_peekI hσ0 tgz_159 (by decide +kernel : FT 35 12 = (0, 0, 3)) (by decide +kernel)
  obtain ⟨z6, h5, h7, h8⟩ := WT_peekI hσ0 tgz_159 (by decide +kernel : FT 35 10 = (0, 0, 4)) (by decide +kernel)
  obtain ⟨z10, h9, h11, h12⟩ := WT_peekI hσ0 tgz_159 (by decide +kernel : FT 35 8 = (0, 0, 1600)) (by decide +kernel)
  obtain ⟨z14, h13, h15, h16⟩ := WT_peekI hσ0 tgz_159 (by decide +kernel : FT 35 9 = (0, 0, 1600)) (by decide +kernel)
  have h17 := ML_k hM h1
  have h18 : Imp (Sp.1 = 0) (tK By Nb Sp.2.2.1 = z6.toInt) := ML_t hM h5
  have h19 := ML_fa hM h9 h13
  refine En_Ps 1 (pc' := 1) (lv' := [(0, .ref 159), (1, .retAddr 9)]) (st' := [.ref 159]) rfl ?_
  refine En_callV rfl rfl rfl rfl rfl rfl rfl rfl tgz_159 (by decide +kernel) rfl (c_237 σ0 hσ0 z2 h1) (by decide) (by decide) (fun v21 σ22 h20 => ?_)
  obtain ⟨h23, h24, z26, rfl, h25⟩ := h20
  obtain rfl : σ0 = σ22 := Fr_nil h24
  refine En_iEq _ rfl rfl (fun h27 => ?_) (fun h27 => ?_)
  · refine En_Ps 4 (pc' := 39) (lv' := [(3, .int ((Int32.ofInt 0))), (2, .int ((Int32.ofInt 0))), (0, .ref 159), (1, .retAddr 9)]) (st' := []) rfl ?_
    have key39 : ∀ (n39 : Nat) (σ30 : SG) (y28 : Int32) (y29 : Int32), WT σ30 → Fr [] σ0 σ30 → (σ30 159)[12]? = some (.int z2) → (σ30 159)[10]? = some (.int z6) → (σ30 159)[8]? = some (.int z10) → (σ30 159)[9]? = some (.int z14) → 0 ≤ y28.toInt → y28.toInt ≤ 0 → 0 ≤ y29.toInt → y29.toInt ≤ 0 → z2.toInt - y28.toInt < (n39 : Int) → ISQ By Nb 4 Sp y28.toInt y29.toInt → En 4 90 none mr_251 (P_251s4x σ0 By Nb Sp) 39 [(0, .ref 159), (1, .retAddr 9), (2, .int y28), (3, .int y29)] [] σ30 := by
      intro n39
      induction n39 with
      | zero =>
        intro σ30 y28 y29 h31 h32 h33 h34 h35 h36 h37 h38 h39 h40 h41 h42
        exfalso; omega
      | succ n39 ih39 =>
        intro σ30 y28 y29 h31 h32 h33 h34 h35 h36 h37 h38 h39 h40 h41 h42
        refine En_Ps 2 (pc' := 41) (lv' := [(0, .ref 159), (1, .retAddr 9), (2, .int y28), (3, .int y29)]) (st' := [.retAddr 9, .int y29]) rfl ?_
        refine En_slen 4 5 rfl rfl (by decide) rfl ?_
        refine En_icGe _ rfl (by decide : (Int32.ofNat 5).toInt = 5) rfl (fun hx => by exfalso; omega) (fun h43 => ?_)
        refine En_Ps 1 (pc' := 48) (lv' := [(0, .ref 159), (1, .retAddr 9), (2, .int y28), (3, .int y29)]) (st' := [.int y28]) rfl ?_
        refine En_iEq _ rfl rfl (fun h44 => ?_) (fun hx => by exfalso; omega)
        refine En_Ps 1 (pc' := 83) (lv' := [(0, .ref 159), (1, .retAddr 9), (2, .int y28), (3, .int y29)]) (st' := [.int y28]) rfl ?_
        exact En_ret (v := some (.int y28)) rfl rfl (retZ rfl rfl (by omega) (by omega)) ⟨h31, h32, y28, rfl, ⟨by omega, by omega, ISQ_x h42 (by simp only [LWl]; omega)⟩⟩
    have := (by decide : (Int32.ofInt 0).toInt = 0)
    have := (by decide : (Int32.ofInt 0).toInt = 0)
    refine En_lv (lv := [(0, .ref 159), (1, .retAddr 9), (2, .int ((Int32.ofInt 0))), (3, .int ((Int32.ofInt 0)))]) ⟨rfl, rfl, rfl, rfl, trivial⟩ ?_
    exact key39 (Int.toNat (z2.toInt) + 1) σ0 ((Int32.ofInt 0)) ((Int32.ofInt 0)) hσ0 hF0 h1 h5 h9 h13 (by omega) (by omega) (by omega) (by omega) (by omega) (ISQ_s (by decide) (by (try have i0 := Imp_m h18 (by omega)); simp only [LWl]; omega))
  · refine En_Ps 1 (pc' := 8) (lv' := [(0, .ref 159), (1, .retAddr 9)]) (st' := [.ref 159]) rfl ?_
    refine En_getK (j := 10) h5 rfl rfl rfl tgz_159 (by decide +kernel) ?_
    refine En_Ps 1 (pc' := 12) (lv' := [(0, .ref 159), (1, .retAddr 9)]) (st' := [.int ((Int32.ofInt 1)), .int z6]) rfl ?_
    refine En_icNe _ rfl (by decide : (Int32.ofInt 1).toInt = 1) rfl (fun h45 => ?_) (fun h45 => ?_)
    · refine En_Ps 4 (pc' := 39) (lv' := [(3, .int ((Int32.ofInt 0))), (2, .int ((Int32.ofInt 0))), (0, .ref 159), (1, .retAddr 9)]) (st' := []) rfl ?_
      have key39 : ∀ (n39 : Nat) (σ48 : SG) (y46 : Int32) (y47 : Int32), WT σ48 → Fr [] σ0 σ48 → (σ48 159)[12]? = some (.int z2) → (σ48 159)[10]? = some (.int z6) → (σ48 159)[8]? = some (.int z10) → (σ48 159)[9]? = some (.int z14) → 0 ≤ y46.toInt → y46.toInt ≤ 0 → 0 ≤ y47.toInt → y47.toInt ≤ 0 → z2.toInt - y46.toInt < (n39 : Int) → ISQ By Nb 4 Sp y46.toInt y47.toInt → En 4 90 none mr_251 (P_251s4x σ0 By Nb Sp) 39 [(0, .ref 159), (1, .retAddr 9), (2, .int y46), (3, .int y47)] [] σ48 := by
        intro n39
        induction n39 with
        | zero =>
          intro σ48 y46 y47 h49 h50 h51 h52 h53 h54 h55 h56 h57 h58 h59 h60
          exfalso; omega
        | succ n39 ih39 =>
          intro σ48 y46 y47 h49 h50 h51 h52 h53 h54 h55 h56 h57 h58 h59 h60
          refine En_Ps 2 (pc' := 41) (lv' := [(0, .ref 159), (1, .retAddr 9), (2, .int y46), (3, .int y47)]) (st' := [.retAddr 9, .int y47]) rfl ?_
          refine En_slen 4 5 rfl rfl (by decide) rfl ?_
          refine En_icGe _ rfl (by decide : (Int32.ofNat 5).toInt = 5) rfl (fun hx => by exfalso; omega) (fun h61 => ?_)
          refine En_Ps 1 (pc' := 48) (lv' := [(0, .ref 159), (1, .retAddr 9), (2, .int y46), (3, .int y47)]) (st' := [.int y46]) rfl ?_
          refine En_iEq _ rfl rfl (fun h62 => ?_) (fun hx => by exfalso; omega)
          refine En_Ps 1 (pc' := 83) (lv' := [(0, .ref 159), (1, .retAddr 9), (2, .int y46), (3, .int y47)]) (st' := [.int y46]) rfl ?_
          exact En_ret (v := some (.int y46)) rfl rfl (retZ rfl rfl (by omega) (by omega)) ⟨h49, h50, y46, rfl, ⟨by omega, by omega, ISQ_x h60 (by simp only [LWl]; omega)⟩⟩
      have := (by decide : (Int32.ofInt 0).toInt = 0)
      have := (by decide : (Int32.ofInt 0).toInt = 0)
      refine En_lv (lv := [(0, .ref 159), (1, .retAddr 9), (2, .int ((Int32.ofInt 0))), (3, .int ((Int32.ofInt 0)))]) ⟨rfl, rfl, rfl, rfl, trivial⟩ ?_
      exact key39 (Int.toNat (z2.toInt) + 1) σ0 ((Int32.ofInt 0)) ((Int32.ofInt 0)) hσ0 hF0 h1 h5 h9 h13 (by omega) (by omega) (by omega) (by omega) (by omega) (ISQ_s (by decide) (by (try have i0 := Imp_m h18 (by omega)); simp only [LWl]; omega))
    · refine En_Ps 1 (pc' := 16) (lv' := [(0, .ref 159), (1, .retAddr 9)]) (st' := [.ref 159]) rfl ?_
      refine En_getK (j := 8) h9 rfl rfl rfl tgz_159 (by decide +kernel) ?_
      refine En_Ps 1 (pc' := 20) (lv' := [(0, .ref 159), (1, .retAddr 9)]) (st' := [.ref 159, .int z10]) rfl ?_
      refine En_getK (j := 9) h13 rfl rfl rfl tgz_159 (by decide +kernel) ?_
      refine En_Ps 1 (pc' := 24) (lv' := [(0, .ref 159), (1, .retAddr 9)]) (st' := [.int ((z10 - z14))]) rfl ?_
      refine En_top (subI rfl rfl (by omega) (by omega)) (fun z63 h64 => ?_)
      refine En_Ps 1 (pc' := 25) (lv' := [(0, .ref 159), (1, .retAddr 9)]) (st' := [.retAddr 9, .int z63]) rfl ?_
      refine En_slen 4 5 rfl rfl (by decide) rfl ?_
      refine En_icNe _ rfl (by decide : (Int32.ofNat 5).toInt = 5) rfl (fun h65 => ?_) (fun h65 => ?_)
      · refine En_Ps 4 (pc' := 39) (lv' := [(3, .int ((Int32.ofInt 0))), (2, .int ((Int32.ofInt 0))), (0, .ref 159), (1, .retAddr 9)]) (st' := []) rfl ?_
        have key39 : ∀ (n39 : Nat) (σ68 : SG) (y66 : Int32) (y67 : Int32), WT σ68 → Fr [] σ0 σ68 → (σ68 159)[12]? = some (.int z2) → (σ68 159)[10]? = some (.int z6) → (σ68 159)[8]? = some (.int z10) → (σ68 159)[9]? = some (.int z14) → 0 ≤ y66.toInt → y66.toInt ≤ 0 → 0 ≤ y67.toInt → y67.toInt ≤ 0 → z2.toInt - y66.toInt < (n39 : Int) → ISQ By Nb 4 Sp y66.toInt y67.toInt → En 4 90 none mr_251 (P_251s4x σ0 By Nb Sp) 39 [(0, .ref 159), (1, .retAddr 9), (2, .int y66), (3, .int y67)] [] σ68 := by
          intro n39
          induction n39 with
          | zero =>
            intro σ68 y66 y67 h69 h70 h71 h72 h73 h74 h75 h76 h77 h78 h79 h80
            exfalso; omega
          | succ n39 ih39 =>
            intro σ68 y66 y67 h69 h70 h71 h72 h73 h74 h75 h76 h77 h78 h79 h80
            refine En_Ps 2 (pc' := 41) (lv' := [(0, .ref 159), (1, .retAddr 9), (2, .int y66), (3, .int y67)]) (st' := [.retAddr 9, .int y67]) rfl ?_
            refine En_slen 4 5 rfl rfl (by decide) rfl ?_
            refine En_icGe _ rfl (by decide : (Int32.ofNat 5).toInt = 5) rfl (fun hx => by exfalso; omega) (fun h81 => ?_)
            refine En_Ps 1 (pc' := 48) (lv' := [(0, .ref 159), (1, .retAddr 9), (2, .int y66), (3, .int y67)]) (st' := [.int y66]) rfl ?_
            refine En_iEq _ rfl rfl (fun h82 => ?_) (fun hx => by exfalso; omega)
            refine En_Ps 1 (pc' := 83) (lv' := [(0, .ref 159), (1, .retAddr 9), (2, .int y66), (3, .int y67)]) (st' := [.int y66]) rfl ?_
            exact En_ret (v := some (.int y66)) rfl rfl (retZ rfl rfl (by omega) (by omega)) ⟨h69, h70, y66, rfl, ⟨by omega, by omega, ISQ_x h80 (by simp only [LWl]; omega)⟩⟩
        have := (by decide : (Int32.ofInt 0).toInt = 0)
        have := (by decide : (Int32.ofInt 0).toInt = 0)
        refine En_lv (lv := [(0, .ref 159), (1, .retAddr 9), (2, .int ((Int32.ofInt 0))), (3, .int ((Int32.ofInt 0)))]) ⟨rfl, rfl, rfl, rfl, trivial⟩ ?_
        exact key39 (Int.toNat (z2.toInt) + 1) σ0 ((Int32.ofInt 0)) ((Int32.ofInt 0)) hσ0 hF0 h1 h5 h9 h13 (by omega) (by omega) (by omega) (by omega) (by omega) (ISQ_s (by decide) (by (try have i0 := Imp_m h18 (by omega)); simp only [LWl]; omega))
      · refine En_Ps 5 (pc' := 39) (lv' := [(3, .int ((Int32.ofInt 0))), (2, .int ((Int32.ofInt 1))), (0, .ref 159), (1, .retAddr 9)]) (st' := []) rfl ?_
        have key39 : ∀ (n39 : Nat) (σ85 : SG) (y83 : Int32) (y84 : Int32), WT σ85 → Fr [] σ0 σ85 → (σ85 159)[12]? = some (.int z2) → (σ85 159)[10]? = some (.int z6) → (σ85 159)[8]? = some (.int z10) → (σ85 159)[9]? = some (.int z14) → 0 ≤ y83.toInt → y83.toInt ≤ 1 → 0 ≤ y84.toInt → y84.toInt ≤ 5 → z10.toInt - y84.toInt < (n39 : Int) → ISQ By Nb 4 Sp y83.toInt y84.toInt → En 4 90 none mr_251 (P_251s4x σ0 By Nb Sp) 39 [(0, .ref 159), (1, .retAddr 9), (2, .int y83), (3, .int y84)] [] σ85 := by
          intro n39
          induction n39 with
          | zero =>
            intro σ85 y83 y84 h86 h87 h88 h89 h90 h91 h92 h93 h94 h95 h96 h97
            exfalso; omega
          | succ n39 ih39 =>
            intro σ85 y83 y84 h86 h87 h88 h89 h90 h91 h92 h93 h94 h95 h96 h97
            refine En_Ps 2 (pc' := 41) (lv' := [(0, .ref 159), (1, .retAddr 9), (2, .int y83), (3, .int y84)]) (st' := [.retAddr 9, .int y84]) rfl ?_
            refine En_slen 4 5 rfl rfl (by decide) rfl ?_
            refine En_icGe _ rfl (by decide : (Int32.ofNat 5).toInt = 5) rfl (fun h98 => ?_) (fun h98 => ?_)
            · refine En_Ps 1 (pc' := 83) (lv' := [(0, .ref 159), (1, .retAddr 9), (2, .int y83), (3, .int y84)]) (st' := [.int y83]) rfl ?_
              exact En_ret (v := some (.int y83)) rfl rfl (retZ rfl rfl (by omega) (by omega)) ⟨h86, h87, y83, rfl, ⟨by omega, by omega, ISQ_x h97 (by simp only [LWl]; omega)⟩⟩
            · refine En_Ps 1 (pc' := 48) (lv' := [(0, .ref 159), (1, .retAddr 9), (2, .int y83), (3, .int y84)]) (st' := [.int y83]) rfl ?_
              refine En_iEq _ rfl rfl (fun h99 => ?_) (fun h99 => ?_)
              · refine En_Ps 1 (pc' := 83) (lv' := [(0, .ref 159), (1, .retAddr 9), (2, .int y83), (3, .int y84)]) (st' := [.int y83]) rfl ?_
                exact En_ret (v := some (.int y83)) rfl rfl (retZ rfl rfl (by omega) (by omega)) ⟨h86, h87, y83, rfl, ⟨by omega, by omega, ISQ_x h97 (by simp only [LWl]; omega)⟩⟩
              · refine En_Ps 1 (pc' := 52) (lv' := [(0, .ref 159), (1, .retAddr 9), (2, .int y83), (3, .int y84)]) (st' := [.ref 159]) rfl ?_
                refine En_getU (j := 4) (u := 163) (g' := 39) (q := 0) rfl rfl rfl tgz_159 (by decide +kernel) h86 (by decide +kernel) (by decide +kernel) (fun h100 => ?_)
                refine En_Ps 1 (pc' := 56) (lv' := [(0, .ref 159), (1, .retAddr 9), (2, .int y83), (3, .int y84)]) (st' := [.ref 159, .ref 163]) rfl ?_
                refine En_getK (j := 9) h91 rfl rfl rfl tgz_159 (by decide +kernel) ?_
                refine En_Ps 2 (pc' := 61) (lv' := [(0, .ref 159), (1, .retAddr 9), (2, .int y83), (3, .int y84)]) (st' := [.int ((z14 + y84)), .ref 163]) rfl ?_
                refine En_top (addI rfl rfl (by omega) (by omega)) (fun z102 h103 => ?_)
                refine En_bald (l := (-128)) (u := 127) rfl rfl tgz_163 (by decide +kernel) h86 (by omega) (lnI (by decide +kernel : LN _ = 1600) (by omega)) (FTsgl (by decide +kernel)) (fun z105 h104 h106 h107 => ?_)
                refine En_Ps 2 (pc' := 64) (lv' := [(0, .ref 159), (1, .retAddr 9), (2, .int y83), (3, .int y84)]) (st' := [.int y84, .retAddr 9, .int z105]) rfl ?_
                refine En_scharX 4 5 rfl rfl rfl (by decide) (by omega) (by omega) rfl (fun z108 h109 h110 h111 => ?_)
                refine En_icNe _ rfl rfl rfl (fun h112 => ?_) (fun h112 => ?_)
                · refine En_Ps 3 (pc' := 79) (lv' := [(3, .int ((y84 + Int32.ofInt 1))), (2, .int ((Int32.ofInt 0))), (0, .ref 159), (1, .retAddr 9)]) (st' := []) rfl ?_
                  refine En_lv1 (addI rfl (by decide : (Int32.ofInt 1).toInt = 1) (by omega) (by omega)) (fun z113 h114 => ?_)
                  refine En_Ps 1 (pc' := 39) (lv' := [(3, .int z113), (2, .int ((Int32.ofInt 0))), (0, .ref 159), (1, .retAddr 9)]) (st' := []) rfl ?_
                  have := (by decide : (Int32.ofInt 0).toInt = 0)
                  refine En_lv (lv := [(0, .ref 159), (1, .retAddr 9), (2, .int ((Int32.ofInt 0))), (3, .int z113)]) ⟨rfl, rfl, rfl, rfl, trivial⟩ ?_
                  exact ih39 σ85 ((Int32.ofInt 0)) z113 h86 h87 h88 h89 h90 h91 (by omega) (by omega) (by omega) (by omega) (by omega) (ISQ_n (ML_fr hM h87 (by decide +kernel)) h97 (by omega) (by simp only [LWl]; omega) (fun _ => by omega) h104 h111 (by omega) (by omega))
                · refine En_Ps 4 (pc' := 79) (lv' := [(3, .int ((y84 + Int32.ofInt 1))), (2, .int ((Int32.ofInt 1))), (0, .ref 159), (1, .retAddr 9)]) (st' := []) rfl ?_
                  refine En_lv1 (addI rfl (by decide : (Int32.ofInt 1).toInt = 1) (by omega) (by omega)) (fun z115 h116 => ?_)
                  refine En_Ps 1 (pc' := 39) (lv' := [(3, .int z115), (2, .int ((Int32.ofInt 1))), (0, .ref 159), (1, .retAddr 9)]) (st' := []) rfl ?_
                  have := (by decide : (Int32.ofInt 1).toInt = 1)
                  refine En_lv (lv := [(0, .ref 159), (1, .retAddr 9), (2, .int ((Int32.ofInt 1))), (3, .int z115)]) ⟨rfl, rfl, rfl, rfl, trivial⟩ ?_
                  exact ih39 σ85 ((Int32.ofInt 1)) z115 h86 h87 h88 h89 h90 h91 (by omega) (by omega) (by omega) (by omega) (by omega) (ISQ_n (ML_fr hM h87 (by decide +kernel)) h97 (by omega) (by simp only [LWl]; omega) (fun _ => by omega) h104 h111 (by omega) (by omega))
        have := (by decide : (Int32.ofInt 1).toInt = 1)
        have := (by decide : (Int32.ofInt 0).toInt = 0)
        refine En_lv (lv := [(0, .ref 159), (1, .retAddr 9), (2, .int ((Int32.ofInt 1))), (3, .int ((Int32.ofInt 0)))]) ⟨rfl, rfl, rfl, rfl, trivial⟩ ?_
        exact key39 (Int.toNat (z10.toInt) + 1) σ0 ((Int32.ofInt 1)) ((Int32.ofInt 0)) hσ0 hF0 h1 h5 h9 h13 (by omega) (by omega) (by omega) (by omega) (by omega) (ISQ_s (by decide) (by (try have i0 := Imp_m h18 (by omega)); simp only [LWl]; omega))
/-- DoorSchoolModel.is(Ljava/lang/String;)Z -/
abbrev P_251s5x (σ0 : SG) (By : Int → Int) (Nb : Int) (Sp : PS) : PO := fun v σ => WT σ ∧ Fr [] σ0 σ ∧ ∃ ret : Int32, v = some (.int ret) ∧ -ret.toInt ≤ 0 ∧ ret.toInt - 1 ≤ 0 ∧ ret.toInt = iW By Nb 5 Sp
set_option maxRecDepth 10000 in
set_option maxHeartbeats 4000000 in
theorem c_251s5x {By : Int → Int} {Nb : Int} {Sp : PS} (σ0 : SG) (hσ0 : WT σ0) (hM : ML By Nb σ0 Sp) : En 4 90 none mr_251 (P_251s5x σ0 By Nb Sp) 0 [(0, .ref 159), (1, .retAddr 11)] [] σ0 := by
  have hF0 : Fr [] σ0 σ0 := Fr_rfl
  obtain ⟨z2, h1, h3, h4⟩ := WT_peekI hσ0 tgz_159 (by decide +kernel : FT 35 12 = (0, 0, 3)) (by decide +kernel)
  obtain ⟨z6, h5, h7, h8⟩ := WT_peekI hσ0 tgz_159 (by decide +kernel : FT 35 10 = (0, 0, 4)) (by decide +kernel)
  obtain ⟨z10, h9, h11, h12⟩ := WT_peekI hσ0 tgz_159 (by decide +kernel : FT 35 8 = (0, 0, 1600)) (by decide +kernel)
  obtain ⟨z14, h13, h15, h16⟩ := WT_peekI hσ0 tgz_159 (by decide +kernel : FT 35 9 = (0, 0, 1600)) (by decide +kernel)
  have h17 := ML_k hM h1
  have h18 : Imp (Sp.1 = 0) (tK By Nb Sp.2.2.1 = z6.toInt) := ML_t hM h5
  have h19 := ML_fa hM h9 h13
  refine En_Ps 1 (pc' := 1) (lv' := [(0, .ref 159), (1, .retAddr 11)]) (st' := [.ref 159]) rfl ?_
  refine En_callV rfl rfl rfl rfl rfl rfl rfl rfl tgz_159 (by decide +kernel) rfl (c_237 σ0 hσ0 z2 h1) (by decide) (by decide) (fun v21 σ22 h20 => ?_)
  obtain ⟨h23, h24, z26, rfl, h25⟩ := h20
  obtain rfl : σ0 = σ22 := Fr_nil h24
  refine En_iEq _ rfl rfl (fun h27 => ?_) (fun h27 => ?_)
  · refine En_Ps 4 (pc' := 39) (lv' := [(3, .int ((Int32.ofInt 0))), (2, .int ((Int32.ofInt 0))), (0, .ref 159), (1, .retAddr 11)]) (st' := []) rfl ?_
    have key39 : ∀ (n39 : Nat) (σ30 : SG) (y28 : Int32) (y29 : Int32), WT σ30 → Fr [] σ0 σ30 → (σ30 159)[12]? = some (.int z2) → (σ30 159)[10]? = some (.int z6) → (σ30 159)[8]? = some (.int z10) → (σ30 159)[9]? = some (.int z14) → 0 ≤ y28.toInt → y28.toInt ≤ 0 → 0 ≤ y29.toInt → y29.toInt ≤ 0 → z2.toInt - y28.toInt < (n39 : Int) → ISQ By Nb 5 Sp y28.toInt y29.toInt → En 4 90 none mr_251 (P_251s5x σ0 By Nb Sp) 39 [(0, .ref 159), (1, .retAddr 11), (2, .int y28), (3, .int y29)] [] σ30 := by
      intro n39
      induction n39 with
      | zero =>
        intro σ30 y28 y29 h31 h32 h33 h34 h35 h36 h37 h38 h39 h40 h41 h42
        exfalso; omega
      | succ n39 ih39 =>
        intro σ30 y28 y29 h31 h32 h33 h34 h35 h36 h37 h38 h39 h40 h41 h42
        refine En_Ps 2 (pc' := 41) (lv' := [(0, .ref 159), (1, .retAddr 11), (2, .int y28), (3, .int y29)]) (st' := [.retAddr 11, .int y29]) rfl ?_
        refine En_slen 5 5 rfl rfl (by decide) rfl ?_
        refine En_icGe _ rfl (by decide : (Int32.ofNat 5).toInt = 5) rfl (fun hx => by exfalso; omega) (fun h43 => ?_)
        refine En_Ps 1 (pc' := 48) (lv' := [(0, .ref 159), (1, .retAddr 11), (2, .int y28), (3, .int y29)]) (st' := [.int y28]) rfl ?_
        refine En_iEq _ rfl rfl (fun h44 => ?_) (fun hx => by exfalso; omega)
        refine En_Ps 1 (pc' := 83) (lv' := [(0, .ref 159), (1, .retAddr 11), (2, .int y28), (3, .int y29)]) (st' := [.int y28]) rfl ?_
        exact En_ret (v := some (.int y28)) rfl rfl (retZ rfl rfl (by omega) (by omega)) ⟨h31, h32, y28, rfl, ⟨by omega, by omega, ISQ_x h42 (by simp only [LWl]; omega)⟩⟩
    have := (by decide : (Int32.ofInt 0).toInt = 0)
    have := (by decide : (Int32.ofInt 0).toInt = 0)
    refine En_lv (lv := [(0, .ref 159), (1, .retAddr 11), (2, .int ((Int32.ofInt 0))), (3, .int ((Int32.ofInt 0)))]) ⟨rfl, rfl, rfl, rfl, trivial⟩ ?_
    exact key39 (Int.toNat (z2.toInt) + 1) σ0 ((Int32.ofInt 0)) ((Int32.ofInt 0)) hσ0 hF0 h1 h5 h9 h13 (by omega) (by omega) (by omega) (by omega) (by omega) (ISQ_s (by decide) (by (try have i0 := Imp_m h18 (by omega)); simp only [LWl]; omega))
  · refine En_Ps 1 (pc' := 8) (lv' := [(0, .ref 159), (1, .retAddr 11)]) (st' := [.ref 159]) rfl ?_
    refine En_getK (j := 10) h5 rfl rfl rfl tgz_159 (by decide +kernel) ?_
    refine En_Ps 1 (pc' := 12) (lv' := [(0, .ref 159), (1, .retAddr 11)]) (st' := [.int ((Int32.ofInt 1)), .int z6]) rfl ?_
    refine En_icNe _ rfl (by decide : (Int32.ofInt 1).toInt = 1) rfl (fun h45 => ?_) (fun h45 => ?_)
    · refine En_Ps 4 (pc' := 39) (lv' := [(3, .int ((Int32.ofInt 0))), (2, .int ((Int32.ofInt 0))), (0, .ref 159), (1, .retAddr 11)]) (st' := []) rfl ?_
      have key39 : ∀ (n39 : Nat) (σ48 : SG) (y46 : Int32) (y47 : Int32), WT σ48 → Fr [] σ0 σ48 → (σ48 159)[12]? = some (.int z2) → (σ48 159)[10]? = some (.int z6) → (σ48 159)[8]? = some (.int z10) → (σ48 159)[9]? = some (.int z14) → 0 ≤ y46.toInt → y46.toInt ≤ 0 → 0 ≤ y47.toInt → y47.toInt ≤ 0 → z2.toInt - y46.toInt < (n39 : Int) → ISQ By Nb 5 Sp y46.toInt y47.toInt → En 4 90 none mr_251 (P_251s5x σ0 By Nb Sp) 39 [(0, .ref 159), (1, .retAddr 11), (2, .int y46), (3, .int y47)] [] σ48 := by
        intro n39
        induction n39 with
        | zero =>
          intro σ48 y46 y47 h49 h50 h51 h52 h53 h54 h55 h56 h57 h58 h59 h60
          exfalso; omega
        | succ n39 ih39 =>
          intro σ48 y46 y47 h49 h50 h51 h52 h53 h54 h55 h56 h57 h58 h59 h60
          refine En_Ps 2 (pc' := 41) (lv' := [(0, .ref 159), (1, .retAddr 11), (2, .int y46), (3, .int y47)]) (st' := [.retAddr 11, .int y47]) rfl ?_
          refine En_slen 5 5 rfl rfl (by decide) rfl ?_
          refine En_icGe _ rfl (by decide : (Int32.ofNat 5).toInt = 5) rfl (fun hx => by exfalso; omega) (fun h61 => ?_)
          refine En_Ps 1 (pc' := 48) (lv' := [(0, .ref 159), (1, .retAddr 11), (2, .int y46), (3, .int y47)]) (st' := [.int y46]) rfl ?_
          refine En_iEq _ rfl rfl (fun h62 => ?_) (fun hx => by exfalso; omega)
          refine En_Ps 1 (pc' := 83) (lv' := [(0, .ref 159), (1, .retAddr 11), (2, .int y46), (3, .int y47)]) (st' := [.int y46]) rfl ?_
          exact En_ret (v := some (.int y46)) rfl rfl (retZ rfl rfl (by omega) (by omega)) ⟨h49, h50, y46, rfl, ⟨by omega, by omega, ISQ_x h60 (by simp only [LWl]; omega)⟩⟩
      have := (by decide : (Int32.ofInt 0).toInt = 0)
      have := (by decide : (Int32.ofInt 0).toInt = 0)
      refine En_lv (lv := [(0, .ref 159), (1, .retAddr 11), (2, .int ((Int32.ofInt 0))), (3, .int ((Int32.ofInt 0)))]) ⟨rfl, rfl, rfl, rfl, trivial⟩ ?_
      exact key39 (Int.toNat (z2.toInt) + 1) σ0 ((Int32.ofInt 0)) ((Int32.ofInt 0)) hσ0 hF0 h1 h5 h9 h13 (by omega) (by omega) (by omega) (by omega) (by omega) (ISQ_s (by decide) (by (try have i0 := Imp_m h18 (by omega)); simp only [LWl]; omega))
    · refine En_Ps 1 (pc' := 16) (lv' := [(0, .ref 159), (1, .retAddr 11)]) (st' := [.ref 159]) rfl ?_
      refine En_getK (j := 8) h9 rfl rfl rfl tgz_159 (by decide +kernel) ?_
      refine En_Ps 1 (pc' := 20) (lv' := [(0, .ref 159), (1, .retAddr 11)]) (st' := [.ref 159, .int z10]) rfl ?_
      refine En_getK (j := 9) h13 rfl rfl rfl tgz_159 (by decide +kernel) ?_
      refine En_Ps 1 (pc' := 24) (lv' := [(0, .ref 159), (1, .retAddr 11)]) (st' := [.int ((z10 - z14))]) rfl ?_
      refine En_top (subI rfl rfl (by omega) (by omega)) (fun z63 h64 => ?_)
      refine En_Ps 1 (pc' := 25) (lv' := [(0, .ref 159), (1, .retAddr 11)]) (st' := [.retAddr 11, .int z63]) rfl ?_
      refine En_slen 5 5 rfl rfl (by decide) rfl ?_
      refine En_icNe _ rfl (by decide : (Int32.ofNat 5).toInt = 5) rfl (fun h65 => ?_) (fun h65 => ?_)
      · refine En_Ps 4 (pc' := 39) (lv' := [(3, .int ((Int32.ofInt 0))), (2, .int ((Int32.ofInt 0))), (0, .ref 159), (1, .retAddr 11)]) (st' := []) rfl ?_
        have key39 : ∀ (n39 : Nat) (σ68 : SG) (y66 : Int32) (y67 : Int32), WT σ68 → Fr [] σ0 σ68 → (σ68 159)[12]? = some (.int z2) → (σ68 159)[10]? = some (.int z6) → (σ68 159)[8]? = some (.int z10) → (σ68 159)[9]? = some (.int z14) → 0 ≤ y66.toInt → y66.toInt ≤ 0 → 0 ≤ y67.toInt → y67.toInt ≤ 0 → z2.toInt - y66.toInt < (n39 : Int) → ISQ By Nb 5 Sp y66.toInt y67.toInt → En 4 90 none mr_251 (P_251s5x σ0 By Nb Sp) 39 [(0, .ref 159), (1, .retAddr 11), (2, .int y66), (3, .int y67)] [] σ68 := by
          intro n39
          induction n39 with
          | zero =>
            intro σ68 y66 y67 h69 h70 h71 h72 h73 h74 h75 h76 h77 h78 h79 h80
            exfalso; omega
          | succ n39 ih39 =>
            intro σ68 y66 y67 h69 h70 h71 h72 h73 h74 h75 h76 h77 h78 h79 h80
            refine En_Ps 2 (pc' := 41) (lv' := [(0, .ref 159), (1, .retAddr 11), (2, .int y66), (3, .int y67)]) (st' := [.retAddr 11, .int y67]) rfl ?_
            refine En_slen 5 5 rfl rfl (by decide) rfl ?_
            refine En_icGe _ rfl (by decide : (Int32.ofNat 5).toInt = 5) rfl (fun hx => by exfalso; omega) (fun h81 => ?_)
            refine En_Ps 1 (pc' := 48) (lv' := [(0, .ref 159), (1, .retAddr 11), (2, .int y66), (3, .int y67)]) (st' := [.int y66]) rfl ?_
            refine En_iEq _ rfl rfl (fun h82 => ?_) (fun hx => by exfalso; omega)
            refine En_Ps 1 (pc' := 83) (lv' := [(0, .ref 159), (1, .retAddr 11), (2, .int y66), (3, .int y67)]) (st' := [.int y66]) rfl ?_
            exact En_ret (v := some (.int y66)) rfl rfl (retZ rfl rfl (by omega) (by omega)) ⟨h69, h70, y66, rfl, ⟨by omega, by omega, ISQ_x h80 (by simp only [LWl]; omega)⟩⟩
        have := (by decide : (Int32.ofInt 0).toInt = 0)
        have := (by decide : (Int32.ofInt 0).toInt = 0)
        refine En_lv (lv := [(0, .ref 159), (1, .retAddr 11), (2, .int ((Int32.ofInt 0))), (3, .int ((Int32.ofInt 0)))]) ⟨rfl, rfl, rfl, rfl, trivial⟩ ?_
        exact key39 (Int.toNat (z2.toInt) + 1) σ0 ((Int32.ofInt 0)) ((Int32.ofInt 0)) hσ0 hF0 h1 h5 h9 h13 (by omega) (by omega) (by omega) (by omega) (by omega) (ISQ_s (by decide) (by (try have i0 := Imp_m h18 (by omega)); simp only [LWl]; omega))
      · refine En_Ps 5 (pc' := 39) (lv' := [(3, .int ((Int32.ofInt 0))), (2, .int ((Int32.ofInt 1))), (0, .ref 159), (1, .retAddr 11)]) (st' := []) rfl ?_
        have key39 : ∀ (n39 : Nat) (σ85 : SG) (y83 : Int32) (y84 : Int32), WT σ85 → Fr [] σ0 σ85 → (σ85 159)[12]? = some (.int z2) → (σ85 159)[10]? = some (.int z6) → (σ85 159)[8]? = some (.int z10) → (σ85 159)[9]? = some (.int z14) → 0 ≤ y83.toInt → y83.toInt ≤ 1 → 0 ≤ y84.toInt → y84.toInt ≤ 5 → z10.toInt - y84.toInt < (n39 : Int) → ISQ By Nb 5 Sp y83.toInt y84.toInt → En 4 90 none mr_251 (P_251s5x σ0 By Nb Sp) 39 [(0, .ref 159), (1, .retAddr 11), (2, .int y83), (3, .int y84)] [] σ85 := by
          intro n39
          induction n39 with
          | zero =>
            intro σ85 y83 y84 h86 h87 h88 h89 h90 h91 h92 h93 h94 h95 h96 h97
            exfalso; omega
          | succ n39 ih39 =>
            intro σ85 y83 y84 h86 h87 h88 h89 h90 h91 h92 h93 h94 h95 h96 h97
            refine En_Ps 2 (pc' := 41) (lv' := [(0, .ref 159), (1, .retAddr 11), (2, .int y83), (3, .int y84)]) (st' := [.retAddr 11, .int y84]) rfl ?_
            refine En_slen 5 5 rfl rfl (by decide) rfl ?_
            refine En_icGe _ rfl (by decide : (Int32.ofNat 5).toInt = 5) rfl (fun h98 => ?_) (fun h98 => ?_)
            · refine En_Ps 1 (pc' := 83) (lv' := [(0, .ref 159), (1, .retAddr 11), (2, .int y83), (3, .int y84)]) (st' := [.int y83]) rfl ?_
              exact En_ret (v := some (.int y83)) rfl rfl (retZ rfl rfl (by omega) (by omega)) ⟨h86, h87, y83, rfl, ⟨by omega, by omega, ISQ_x h97 (by simp only [LWl]; omega)⟩⟩
            · refine En_Ps 1 (pc' := 48) (lv' := [(0, .ref 159), (1, .retAddr 11), (2, .int y83), (3, .int y84)]) (st' := [.int y83]) rfl ?_
              refine En_iEq _ rfl rfl (fun h99 => ?_) (fun h99 => ?_)
              · refine En_Ps 1 (pc' := 83) (lv' := [(0, .ref 159), (1, .retAddr 11), (2, .int y83), (3, .int y84)]) (st' := [.int y83]) rfl ?_
                exact En_ret (v := some (.int y83)) rfl rfl (retZ rfl rfl (by omega) (by omega)) ⟨h86, h87, y83, rfl, ⟨by omega, by omega, ISQ_x h97 (by simp only [LWl]; omega)⟩⟩
              · refine En_Ps 1 (pc' := 52) (lv' := [(0, .ref 159), (1, .retAddr 11), (2, .int y83), (3, .int y84)]) (st' := [.ref 159]) rfl ?_
                refine En_getU (j := 4) (u := 163) (g' := 39) (q := 0) rfl rfl rfl tgz_159 (by decide +kernel) h86 (by decide +kernel) (by decide +kernel) (fun h100 => ?_)
                refine En_Ps 1 (pc' := 56) (lv' := [(0, .ref 159), (1, .retAddr 11), (2, .int y83), (3, .int y84)]) (st' := [.ref 159, .ref 163]) rfl ?_
                refine En_getK (j := 9) h91 rfl rfl rfl tgz_159 (by decide +kernel) ?_
                refine En_Ps 2 (pc' := 61) (lv' := [(0, .ref 159), (1, .retAddr 11), (2, .int y83), (3, .int y84)]) (st' := [.int ((z14 + y84)), .ref 163]) rfl ?_
                refine En_top (addI rfl rfl (by omega) (by omega)) (fun z102 h103 => ?_)
                refine En_bald (l := (-128)) (u := 127) rfl rfl tgz_163 (by decide +kernel) h86 (by omega) (lnI (by decide +kernel : LN _ = 1600) (by omega)) (FTsgl (by decide +kernel)) (fun z105 h104 h106 h107 => ?_)
                refine En_Ps 2 (pc' := 64) (lv' := [(0, .ref 159), (1, .retAddr 11), (2, .int y83), (3, .int y84)]) (st' := [.int y84, .retAddr 11, .int z105]) rfl ?_
                refine En_scharX 5 5 rfl rfl rfl (by decide) (by omega) (by omega) rfl (fun z108 h109 h110 h111 => ?_)
                refine En_icNe _ rfl rfl rfl (fun h112 => ?_) (fun h112 => ?_)
                · refine En_Ps 3 (pc' := 79) (lv' := [(3, .int ((y84 + Int32.ofInt 1))), (2, .int ((Int32.ofInt 0))), (0, .ref 159), (1, .retAddr 11)]) (st' := []) rfl ?_
                  refine En_lv1 (addI rfl (by decide : (Int32.ofInt 1).toInt = 1) (by omega) (by omega)) (fun z113 h114 => ?_)
                  refine En_Ps 1 (pc' := 39) (lv' := [(3, .int z113), (2, .int ((Int32.ofInt 0))), (0, .ref 159), (1, .retAddr 11)]) (st' := []) rfl ?_
                  have := (by decide : (Int32.ofInt 0).toInt = 0)
                  refine En_lv (lv := [(0, .ref 159), (1, .retAddr 11), (2, .int ((Int32.ofInt 0))), (3, .int z113)]) ⟨rfl, rfl, rfl, rfl, trivial⟩ ?_
                  exact ih39 σ85 ((Int32.ofInt 0)) z113 h86 h87 h88 h89 h90 h91 (by omega) (by omega) (by omega) (by omega) (by omega) (ISQ_n (ML_fr hM h87 (by decide +kernel)) h97 (by omega) (by simp only [LWl]; omega) (fun _ => by omega) h104 h111 (by omega) (by omega))
                · refine En_Ps 4 (pc' := 79) (lv' := [(3, .int ((y84 + Int32.ofInt 1))), (2, .int ((Int32.ofInt 1))), (0, .ref 159), (1, .retAddr 11)]) (st' := []) rfl ?_
                  refine En_lv1 (addI rfl (by decide : (Int32.ofInt 1).toInt = 1) (by omega) (by omega)) (fun z115 h116 => ?_)
                  refine En_Ps 1 (pc' := 39) (lv' := [(3, .int z115), (2, .int ((Int32.ofInt 1))), (0, .ref 159), (1, .retAddr 11)]) (st' := []) rfl ?_
                  have := (by decide : (Int32.ofInt 1).toInt = 1)
                  refine En_lv (lv := [(0, .ref 159), (1, .retAddr 11), (2, .int ((Int32.ofInt 1))), (3, .int z115)]) ⟨rfl, rfl, rfl, rfl, trivial⟩ ?_
                  exact ih39 σ85 ((Int32.ofInt 1)) z115 h86 h87 h88 h89 h90 h91 (by omega) (by omega) (by omega) (by omega) (by omega) (ISQ_n (ML_fr hM h87 (by decide +kernel)) h97 (by omega) (by simp only [LWl]; omega) (fun _ => by omega) h104 h111 (by omega) (by omega))
        have := (by decide : (Int32.ofInt 1).toInt = 1)
        have := (by decide : (Int32.ofInt 0).toInt = 0)
        refine En_lv (lv := [(0, .ref 159), (1, .retAddr 11), (2, .int ((Int32.ofInt 1))), (3, .int ((Int32.ofInt 0)))]) ⟨rfl, rfl, rfl, rfl, trivial⟩ ?_
        exact key39 (Int.toNat (z10.toInt) + 1) σ0 ((Int32.ofInt 1)) ((Int32.ofInt 0)) hσ0 hF0 h1 h5 h9 h13 (by omega) (by omega) (by omega) (by omega) (by omega) (ISQ_s (by decide) (by (try have i0 := Imp_m h18 (by omega)); simp only [LWl]; omega))
/-- DoorSchoolModel.is(Ljava/lang/String;)Z -/
abbrev P_251s6x (σ0 : SG) (By : Int → Int) (Nb : Int) (Sp : PS) : PO := fun v σ => WT σ ∧ Fr [] σ0 σ ∧ ∃ ret : Int32, v = some (.int ret) ∧ -ret.toInt ≤ 0 ∧ ret.toInt - 1 ≤ 0 ∧ ret.toInt = iW By Nb 6 Sp
set_option maxRecDepth 10000 in
set_option maxHeartbeats 4000000 in
theorem c_251s6x {By : Int → Int} {Nb : Int} {Sp : PS} (σ0 : SG) (hσ0 : WT σ0) (hM : ML By Nb σ0 Sp) : En 4 90 none mr_251 (P_251s6x σ0 By Nb Sp) 0 [(0, .ref 159), (1, .retAddr 13)] [] σ0 := by
  have hF0 : Fr [] σ0 σ0 := Fr_rfl
  obtain ⟨z2, h1, h3, h4⟩ := WT_peekI hσ0 tgz_159 (by decide +kernel : FT 35 12 = (0, 0, 3)) (by decide +kernel)
  obtain ⟨z6, h5, h7, h8⟩ := WT_peekI hσ0 tgz_159 (by decide +kernel : FT 35 10 = (0, 0, 4)) (by decide +kernel)
  obtain ⟨z10, h9, h11, h12⟩ := WT_peekI hσ0 tgz_159 (by decide +kernel : FT 35 8 = (0, 0, 1600)) (by decide +kernel)
  obtain ⟨z14, h13, h15, h16⟩ := WT_peekI hσ0 tgz_159 (by decide +kernel : FT 35 9 = (0, 0, 1600)) (by decide +kernel)
  have h17 := ML_k hM h1
  have h18 : Imp (Sp.1 = 0) (tK By Nb Sp.2.2.1 = z6.toInt) := ML_t hM h5
  have h19 := ML_fa hM h9 h13
  refine En_Ps 1 (pc' := 1) (lv' := [(0, .ref 159), (1, .retAddr 13)]) (st' := [.ref 159]) rfl ?_
  refine En_callV rfl rfl rfl rfl rfl rfl rfl rfl tgz_159 (by decide +kernel) rfl (c_237 σ0 hσ0 z2 h1) (by decide) (by decide) (fun v21 σ22 h20 => ?_)
  obtain ⟨h23, h24, z26, rfl, h25⟩ := h20
  obtain rfl : σ0 = σ22 := Fr_nil h24
  refine En_iEq _ rfl rfl (fun h27 => ?_) (fun h27 => ?_)
  · refine En_Ps 4 (pc' := 39) (lv' := [(3, .int ((Int32.ofInt 0))), (2, .int ((Int32.ofInt 0))), (0, .ref 159), (1, .retAddr 13)]) (st' := []) rfl ?_
    have key39 : ∀ (n39 : Nat) (σ30 : SG) (y28 : Int32) (y29 : Int32), WT σ30 → Fr [] σ0 σ30 → (σ30 159)[12]? = some (.int z2) → (σ30 159)[10]? = some (.int z6) → (σ30 159)[8]? = some (.int z10) → (σ30 159)[9]? = some (.int z14) → 0 ≤ y28.toInt → y28.toInt ≤ 0 → 0 ≤ y29.toInt → y29.toInt ≤ 0 → z2.toInt - y28.toInt < (n39 : Int) → ISQ By Nb 6 Sp y28.toInt y29.toInt → En 4 90 none mr_251 (P_251s6x σ0 By Nb Sp) 39 [(0, .ref 159), (1, .retAddr 13), (2, .int y28), (3, .int y29)] [] σ30 := by
      intro n39
      induction n39 with
      | zero =>
        intro σ30 y28 y29 h31 h32 h33 h34 h35 h36 h37 h38 h39 h40 h41 h42
        exfalso; omega
      | succ n39 ih39 =>
        intro σ30 y28 y29 h31 h32 h33 h34 h35 h36 h37 h38 h39 h40 h41 h42
        refine En_Ps 2 (pc' := 41) (lv' := [(0, .ref 159), (1, .retAddr 13), (2, .int y28), (3, .int y29)]) (st' := [.retAddr 13, .int y29]) rfl ?_
        refine En_slen 6 6 rfl rfl (by decide) rfl ?_
        refine En_icGe _ rfl (by decide : (Int32.ofNat 6).toInt = 6) rfl (fun hx => by exfalso; omega) (fun h43 => ?_)
        refine En_Ps 1 (pc' := 48) (lv' := [(0, .ref 159), (1, .retAddr 13), (2, .int y28), (3, .int y29)]) (st' := [.int y28]) rfl ?_
        refine En_iEq _ rfl rfl (fun h44 => ?_) (fun hx => by exfalso; omega)
        refine En_Ps 1 (pc' := 83) (lv' := [(0, .ref 159), (1, .retAddr 13), (2, .int y28), (3, .int y29)]) (st' := [.int y28]) rfl ?_
        exact En_ret (v := some (.int y28)) rfl rfl (retZ rfl rfl (by omega) (by omega)) ⟨h31, h32, y28, rfl, ⟨by omega, by omega, ISQ_x h42 (by simp only [LWl]; omega)⟩⟩
    have := (by decide : (Int32.ofInt 0).toInt = 0)
    have := (by decide : (Int32.ofInt 0).toInt = 0)
    refine En_lv (lv := [(0, .ref 159), (1, .retAddr 13), (2, .int ((Int32.ofInt 0))), (3, .int ((Int32.ofInt 0)))]) ⟨rfl, rfl, rfl, rfl, trivial⟩ ?_
    exact key39 (Int.toNat (z2.toInt) + 1) σ0 ((Int32.ofInt 0)) ((Int32.ofInt 0)) hσ0 hF0 h1 h5 h9 h13 (by omega) (by omega) (by omega) (by omega) (by omega) (ISQ_s (by decide) (by (try have i0 := Imp_m h18 (by omega)); simp only [LWl]; omega))
  · refine En_Ps 1 (pc' := 8) (lv' := [(0, .ref 159), (1, .retAddr 13)]) (st' := [.ref 159]) rfl ?_
    refine En_getK (j := 10) h5 rfl rfl rfl tgz_159 (by decide +kernel) ?_
    refine En_Ps 1 (pc' := 12) (lv' := [(0, .ref 159), (1, .retAddr 13)]) (st' := [.int ((Int32.ofInt 1)), .int z6]) rfl ?_
    refine En_icNe _ rfl (by decide : (Int32.ofInt 1).toInt = 1) rfl (fun h45 => ?_) (fun h45 => ?_)
    · refine En_Ps 4 (pc' := 39) (lv' := [(3, .int ((Int32.ofInt 0))), (2, .int ((Int32.ofInt 0))), (0, .ref 159), (1, .retAddr 13)]) (st' := []) rfl ?_
      have key39 : ∀ (n39 : Nat) (σ48 : SG) (y46 : Int32) (y47 : Int32), WT σ48 → Fr [] σ0 σ48 → (σ48 159)[12]? = some (.int z2) → (σ48 159)[10]? = some (.int z6) → (σ48 159)[8]? = some (.int z10) → (σ48 159)[9]? = some (.int z14) → 0 ≤ y46.toInt → y46.toInt ≤ 0 → 0 ≤ y47.toInt → y47.toInt ≤ 0 → z2.toInt - y46.toInt < (n39 : Int) → ISQ By Nb 6 Sp y46.toInt y47.toInt → En 4 90 none mr_251 (P_251s6x σ0 By Nb Sp) 39 [(0, .ref 159), (1, .retAddr 13), (2, .int y46), (3, .int y47)] [] σ48 := by
        intro n39
        induction n39 with
        | zero =>
          intro σ48 y46 y47 h49 h50 h51 h52 h53 h54 h55 h56 h57 h58 h59 h60
          exfalso; omega
        | succ n39 ih39 =>
          intro σ48 y46 y47 h49 h50 h51 h52 h53 h54 h55 h56 h57 h58 h59 h60
          refine En_Ps 2 (pc' := 41) (lv' := [(0, .ref 159), (1, .retAddr 13), (2, .int y46), (3, .int y47)]) (st' := [.retAddr 13, .int y47]) rfl ?_
          refine En_slen 6 6 rfl rfl (by decide) rfl ?_
          refine En_icGe _ rfl (by decide : (Int32.ofNat 6).toInt = 6) rfl (fun hx => by exfalso; omega) (fun h61 => ?_)
          refine En_Ps 1 (pc' := 48) (lv' := [(0, .ref 159), (1, .retAddr 13), (2, .int y46), (3, .int y47)]) (st' := [.int y46]) rfl ?_
          refine En_iEq _ rfl rfl (fun h62 => ?_) (fun hx => by exfalso; omega)
          refine En_Ps 1 (pc' := 83) (lv' := [(0, .ref 159), (1, .retAddr 13), (2, .int y46), (3, .int y47)]) (st' := [.int y46]) rfl ?_
          exact En_ret (v := some (.int y46)) rfl rfl (retZ rfl rfl (by omega) (by omega)) ⟨h49, h50, y46, rfl, ⟨by omega, by omega, ISQ_x h60 (by simp only [LWl]; omega)⟩⟩
      have := (by decide : (Int32.ofInt 0).toInt = 0)
      have := (by decide : (Int32.ofInt 0).toInt = 0)
      refine En_lv (lv := [(0, .ref 159), (1, .retAddr 13), (2, .int ((Int32.ofInt 0))), (3, .int ((Int32.ofInt 0)))]) ⟨rfl, rfl, rfl, rfl, trivial⟩ ?_
      exact key39 (Int.toNat (z2.toInt) + 1) σ0 ((Int32.ofInt 0)) ((Int32.ofInt 0)) hσ0 hF0 h1 h5 h9 h13 (by omega) (by omega) (by omega) (by omega) (by omega) (ISQ_s (by decide) (by (try have i0 := Imp_m h18 (by omega)); simp only [LWl]; omega))
    · refine En_Ps 1 (pc' := 16) (lv' := [(0, .ref 159), (1, .retAddr 13)]) (st' := [.ref 159]) rfl ?_
      refine En_getK (j := 8) h9 rfl rfl rfl tgz_159 (by decide +kernel) ?_
      refine En_Ps 1 (pc' := 20) (lv' := [(0, .ref 159), (1, .retAddr 13)]) (st' := [.ref 159, .int z10]) rfl ?_
      refine En_getK (j := 9) h13 rfl rfl rfl tgz_159 (by decide +kernel) ?_
      refine En_Ps 1 (pc' := 24) (lv' := [(0, .ref 159), (1, .retAddr 13)]) (st' := [.int ((z10 - z14))]) rfl ?_
      refine En_top (subI rfl rfl (by omega) (by omega)) (fun z63 h64 => ?_)
      refine En_Ps 1 (pc' := 25) (lv' := [(0, .ref 159), (1, .retAddr 13)]) (st' := [.retAddr 13, .int z63]) rfl ?_
      refine En_slen 6 6 rfl rfl (by decide) rfl ?_
      refine En_icNe _ rfl (by decide : (Int32.ofNat 6).toInt = 6) rfl (fun h65 => ?_) (fun h65 => ?_)
      · refine En_Ps 4 (pc' := 39) (lv' := [(3, .int ((Int32.ofInt 0))), (2, .int ((Int32.ofInt 0))), (0, .ref 159), (1, .retAddr 13)]) (st' := []) rfl ?_
        have key39 : ∀ (n39 : Nat) (σ68 : SG) (y66 : Int32) (y67 : Int32), WT σ68 → Fr [] σ0 σ68 → (σ68 159)[12]? = some (.int z2) → (σ68 159)[10]? = some (.int z6) → (σ68 159)[8]? = some (.int z10) → (σ68 159)[9]? = some (.int z14) → 0 ≤ y66.toInt → y66.toInt ≤ 0 → 0 ≤ y67.toInt → y67.toInt ≤ 0 → z2.toInt - y66.toInt < (n39 : Int) → ISQ By Nb 6 Sp y66.toInt y67.toInt → En 4 90 none mr_251 (P_251s6x σ0 By Nb Sp) 39 [(0, .ref 159), (1, .retAddr 13), (2, .int y66), (3, .int y67)] [] σ68 := by
          intro n39
          induction n39 with
          | zero =>
            intro σ68 y66 y67 h69 h70 h71 h72 h73 h74 h75 h76 h77 h78 h79 h80
            exfalso; omega
          | succ n39 ih39 =>
            intro σ68 y66 y67 h69 h70 h71 h72 h73 h74 h75 h76 h77 h78 h79 h80
            refine En_Ps 2 (pc' := 41) (lv' := [(0, .ref 159), (1, .retAddr 13), (2, .int y66), (3, .int y67)]) (st' := [.retAddr 13, .int y67]) rfl ?_
            refine En_slen 6 6 rfl rfl (by decide) rfl ?_
            refine En_icGe _ rfl (by decide : (Int32.ofNat 6).toInt = 6) rfl (fun hx => by exfalso; omega) (fun h81 => ?_)
            refine En_Ps 1 (pc' := 48) (lv' := [(0, .ref 159), (1, .retAddr 13), (2, .int y66), (3, .int y67)]) (st' := [.int y66]) rfl ?_
            refine En_iEq _ rfl rfl (fun h82 => ?_) (fun hx => by exfalso; omega)
            refine En_Ps 1 (pc' := 83) (lv' := [(0, .ref 159), (1, .retAddr 13), (2, .int y66), (3, .int y67)]) (st' := [.int y66]) rfl ?_
            exact En_ret (v := some (.int y66)) rfl rfl (retZ rfl rfl (by omega) (by omega)) ⟨h69, h70, y66, rfl, ⟨by omega, by omega, ISQ_x h80 (by simp only [LWl]; omega)⟩⟩
        have := (by decide : (Int32.ofInt 0).toInt = 0)
        have := (by decide : (Int32.ofInt 0).toInt = 0)
        refine En_lv (lv := [(0, .ref 159), (1, .retAddr 13), (2, .int ((Int32.ofInt 0))), (3, .int ((Int32.ofInt 0)))]) ⟨rfl, rfl, rfl, rfl, trivial⟩ ?_
        exact key39 (Int.toNat (z2.toInt) + 1) σ0 ((Int32.ofInt 0)) ((Int32.ofInt 0)) hσ0 hF0 h1 h5 h9 h13 (by omega) (by omega) (by omega) (by omega) (by omega) (ISQ_s (by decide) (by (try have i0 := Imp_m h18 (by omega)); simp only [LWl]; omega))
      · refine En_Ps 5 (pc' := 39) (lv' := [(3, .int ((Int32.ofInt 0))), (2, .int ((Int32.ofInt 1))), (0, .ref 159), (1, .retAddr 13)]) (st' := []) rfl ?_
        have key39 : ∀ (n39 : Nat) (σ85 : SG) (y83 : Int32) (y84 : Int32), WT σ85 → Fr [] σ0 σ85 → (σ85 159)[12]? = some (.int z2) → (σ85 159)[10]? = some (.int z6) → (σ85 159)[8]? = some (.int z10) → (σ85 159)[9]? = some (.int z14) → 0 ≤ y83.toInt → y83.toInt ≤ 1 → 0 ≤ y84.toInt → y84.toInt ≤ 6 → z10.toInt - y84.toInt < (n39 : Int) → ISQ By Nb 6 Sp y83.toInt y84.toInt → En 4 90 none mr_251 (P_251s6x σ0 By Nb Sp) 39 [(0, .ref 159), (1, .retAddr 13), (2, .int y83), (3, .int y84)] [] σ85 := by
          intro n39
          induction n39 with
          | zero =>
            intro σ85 y83 y84 h86 h87 h88 h89 h90 h91 h92 h93 h94 h95 h96 h97
            exfalso; omega
          | succ n39 ih39 =>
            intro σ85 y83 y84 h86 h87 h88 h89 h90 h91 h92 h93 h94 h95 h96 h97
            refine En_Ps 2 (pc' := 41) (lv' := [(0, .ref 159), (1, .retAddr 13), (2, .int y83), (3, .int y84)]) (st' := [.retAddr 13, .int y84]) rfl ?_
            refine En_slen 6 6 rfl rfl (by decide) rfl ?_
            refine En_icGe _ rfl (by decide : (Int32.ofNat 6).toInt = 6) rfl (fun h98 => ?_) (fun h98 => ?_)
            · refine En_Ps 1 (pc' := 83) (lv' := [(0, .ref 159), (1, .retAddr 13), (2, .int y83), (3, .int y84)]) (st' := [.int y83]) rfl ?_
              exact En_ret (v := some (.int y83)) rfl rfl (retZ rfl rfl (by omega) (by omega)) ⟨h86, h87, y83, rfl, ⟨by omega, by omega, ISQ_x h97 (by simp only [LWl]; omega)⟩⟩
            · refine En_Ps 1 (pc' := 48) (lv' := [(0, .ref 159), (1, .retAddr 13), (2, .int y83), (3, .int y84)]) (st' := [.int y83]) rfl ?_
              refine En_iEq _ rfl rfl (fun h99 => ?_) (fun h99 => ?_)
              · refine En_Ps 1 (pc' := 83) (lv' := [(0, .ref 159), (1, .retAddr 13), (2, .int y83), (3, .int y84)]) (st' := [.int y83]) rfl ?_
                exact En_ret (v := some (.int y83)) rfl rfl (retZ rfl rfl (by omega) (by omega)) ⟨h86, h87, y83, rfl, ⟨by omega, by omega, ISQ_x h97 (by simp only [LWl]; omega)⟩⟩
              · refine En_Ps 1 (pc' := 52) (lv' := [(0, .ref 159), (1, .retAddr 13), (2, .int y83), (3, .int y84)]) (st' := [.ref 159]) rfl ?_
                refine En_getU (j := 4) (u := 163) (g' := 39) (q := 0) rfl rfl rfl tgz_159 (by decide +kernel) h86 (by decide +kernel) (by decide +kernel) (fun h100 => ?_)
                refine En_Ps 1 (pc' := 56) (lv' := [(0, .ref 159), (1, .retAddr 13), (2, .int y83), (3, .int y84)]) (st' := [.ref 159, .ref 163]) rfl ?_
                refine En_getK (j := 9) h91 rfl rfl rfl tgz_159 (by decide +kernel) ?_
                refine En_Ps 2 (pc' := 61) (lv' := [(0, .ref 159), (1, .retAddr 13), (2, .int y83), (3, .int y84)]) (st' := [.int ((z14 + y84)), .ref 163]) rfl ?_
                refine En_top (addI rfl rfl (by omega) (by omega)) (fun z102 h103 => ?_)
                refine En_bald (l := (-128)) (u := 127) rfl rfl tgz_163 (by decide +kernel) h86 (by omega) (lnI (by decide +kernel : LN _ = 1600) (by omega)) (FTsgl (by decide +kernel)) (fun z105 h104 h106 h107 => ?_)
                refine En_Ps 2 (pc' := 64) (lv' := [(0, .ref 159), (1, .retAddr 13), (2, .int y83), (3, .int y84)]) (st' := [.int y84, .retAddr 13, .int z105]) rfl ?_
                refine En_scharX 6 6 rfl rfl rfl (by decide) (by omega) (by omega) rfl (fun z108 h109 h110 h111 => ?_)
                refine En_icNe _ rfl rfl rfl (fun h112 => ?_) (fun h112 => ?_)
                · refine En_Ps 3 (pc' := 79) (lv' := [(3, .int ((y84 + Int32.ofInt 1))), (2, .int ((Int32.ofInt 0))), (0, .ref 159), (1, .retAddr 13)]) (st' := []) rfl ?_
                  refine En_lv1 (addI rfl (by decide : (Int32.ofInt 1).toInt = 1) (by omega) (by omega)) (fun z113 h114 => ?_)
                  refine En_Ps 1 (pc' := 39) (lv' := [(3, .int z113), (2, .int ((Int32.ofInt 0))), (0, .ref 159), (1, .retAddr 13)]) (st' := []) rfl ?_
                  have := (by decide : (Int32.ofInt 0).toInt = 0)
                  refine En_lv (lv := [(0, .ref 159), (1, .retAddr 13), (2, .int ((Int32.ofInt 0))), (3, .int z113)]) ⟨rfl, rfl, rfl, rfl, trivial⟩ ?_
                  exact ih39 σ85 ((Int32.ofInt 0)) z113 h86 h87 h88 h89 h90 h91 (by omega) (by omega) (by omega) (by omega) (by omega) (ISQ_n (ML_fr hM h87 (by decide +kernel)) h97 (by omega) (by simp only [LWl]; omega) (fun _ => by omega) h104 h111 (by omega) (by omega))
                · refine En_Ps 4 (pc' := 79) (lv' := [(3, .int ((y84 + Int32.ofInt 1))), (2, .int ((Int32.ofInt 1))), (0, .ref 159), (1, .retAddr 13)]) (st' := []) rfl ?_
                  refine En_lv1 (addI rfl (by decide : (Int32.ofInt 1).toInt = 1) (by omega) (by omega)) (fun z115 h116 => ?_)
                  refine En_Ps 1 (pc' := 39) (lv' := [(3, .int z115), (2, .int ((Int32.ofInt 1))), (0, .ref 159), (1, .retAddr 13)]) (st' := []) rfl ?_
                  have := (by decide : (Int32.ofInt 1).toInt = 1)
                  refine En_lv (lv := [(0, .ref 159), (1, .retAddr 13), (2, .int ((Int32.ofInt 1))), (3, .int z115)]) ⟨rfl, rfl, rfl, rfl, trivial⟩ ?_
                  exact ih39 σ85 ((Int32.ofInt 1)) z115 h86 h87 h88 h89 h90 h91 (by omega) (by omega) (by omega) (by omega) (by omega) (ISQ_n (ML_fr hM h87 (by decide +kernel)) h97 (by omega) (by simp only [LWl]; omega) (fun _ => by omega) h104 h111 (by omega) (by omega))
        have := (by decide : (Int32.ofInt 1).toInt = 1)
        have := (by decide : (Int32.ofInt 0).toInt = 0)
        refine En_lv (lv := [(0, .ref 159), (1, .retAddr 13), (2, .int ((Int32.ofInt 1))), (3, .int ((Int32.ofInt 0)))]) ⟨rfl, rfl, rfl, rfl, trivial⟩ ?_
        exact key39 (Int.toNat (z10.toInt) + 1) σ0 ((Int32.ofInt 1)) ((Int32.ofInt 0)) hσ0 hF0 h1 h5 h9 h13 (by omega) (by omega) (by omega) (by omega) (by omega) (ISQ_s (by decide) (by (try have i0 := Imp_m h18 (by omega)); simp only [LWl]; omega))
/-- DoorSchoolModel.is(Ljava/lang/String;)Z -/
abbrev P_251s7x (σ0 : SG) (By : Int → Int) (Nb : Int) (Sp : PS) : PO := fun v σ => WT σ ∧ Fr [] σ0 σ ∧ ∃ ret : Int32, v = some (.int ret) ∧ -ret.toInt ≤ 0 ∧ ret.toInt - 1 ≤ 0 ∧ ret.toInt = iW By Nb 7 Sp
set_option maxRecDepth 10000 in
set_option maxHeartbeats 4000000 in
theorem c_251s7x {By : Int → Int} {Nb : Int} {Sp : PS} (σ0 : SG) (hσ0 : WT σ0) (hM : ML By Nb σ0 Sp) : En 4 90 none mr_251 (P_251s7x σ0 By Nb Sp) 0 [(0, .ref 159), (1, .retAddr 15)] [] σ0 := by
  have hF0 : Fr [] σ0 σ0 := Fr_rfl
  obtain ⟨z2, h1, h3, h4⟩ := WT_peekI hσ0 tgz_159 (by decide +kernel : FT 35 12 = (0, 0, 3)) (by decide +kernel)
  obtain ⟨z6, h5, h7, h8⟩ := WT_peekI hσ0 tgz_159 (by decide +kernel : FT 35 10 = (0, 0, 4)) (by decide +kernel)
  obtain ⟨z10, h9, h11, h12⟩ := WT_peekI hσ0 tgz_159 (by decide +kernel : FT 35 8 = (0, 0, 1600)) (by decide +kernel)
  obtain ⟨z14, h13, h15, h16⟩ := WT_peekI hσ0 tgz_159 (by decide +kernel : FT 35 9 = (0, 0, 1600)) (by decide +kernel)
  have h17 := ML_k hM h1
  have h18 : Imp (Sp.1 = 0) (tK By Nb Sp.2.2.1 = z6.toInt) := ML_t hM h5
  have h19 := ML_fa hM h9 h13
  refine En_Ps 1 (pc' := 1) (lv' := [(0, .ref 159), (1, .retAddr 15)]) (st' := [.ref 159]) rfl ?_
  refine En_callV rfl rfl rfl rfl rfl rfl rfl rfl tgz_159 (by decide +kernel) rfl (c_237 σ0 hσ0 z2 h1) (by decide) (by decide) (fun v21 σ22 h20 => ?_)
  obtain ⟨h23, h24, z26, rfl, h25⟩ := h20
  obtain rfl : σ0 = σ22 := Fr_nil h24
  refine En_iEq _ rfl rfl (fun h27 => ?_) (fun h27 => ?_)
  · refine En_Ps 4 (pc' := 39) (lv' := [(3, .int ((Int32.ofInt 0))), (2, .int ((Int32.ofInt 0))), (0, .ref 159), (1, .retAddr 15)]) (st' := []) rfl ?_
    have key39 : ∀ (n39 : Nat) (σ30 : SG) (y28 : Int32) (y29 : Int32), WT σ30 → Fr [] σ0 σ30 → (σ30 159)[12]? = some (.int z2) → (σ30 159)[10]? = some (.int z6) → (σ30 159)[8]? = some (.int z10) → (σ30 159)[9]? = some (.int z14) → 0 ≤ y28.toInt → y28.toInt ≤ 0 → 0 ≤ y29.toInt → y29.toInt ≤ 0 → z2.toInt - y28.toInt < (n39 : Int) → ISQ By Nb 7 Sp y28.toInt y29.toInt → En 4 90 none mr_251 (P_251s7x σ0 By Nb Sp) 39 [(0, .ref 159), (1, .retAddr 15), (2, .int y28), (3, .int y29)] [] σ30 := by
      intro n39
      induction n39 with
      | zero =>
        intro σ30 y28 y29 h31 h32 h33 h34 h35 h36 h37 h38 h39 h40 h41 h42
        exfalso; omega
      | succ n39 ih39 =>
        intro σ30 y28 y29 h31 h32 h33 h34 h35 h36 h37 h38 h39 h40 h41 h42
        refine En_Ps 2 (pc' := 41) (lv' := [(0, .ref 159), (1, .retAddr 15), (2, .int y28), (3, .int y29)]) (st' := [.retAddr 15, .int y29]) rfl ?_
        refine En_slen 7 7 rfl rfl (by decide) rfl ?_
        refine En_icGe _ rfl (by decide : (Int32.ofNat 7).toInt = 7) rfl (fun hx => by exfalso; omega) (fun h43 => ?_)
        refine En_Ps 1 (pc' := 48) (lv' := [(0, .ref 159), (1, .retAddr 15), (2, .int y28), (3, .int y29)]) (st' := [.int y28]) rfl ?_
        refine En_iEq _ rfl rfl (fun h44 => ?_) (fun hx => by exfalso; omega)
        refine En_Ps 1 (pc' := 83) (lv' := [(0, .ref 159), (1, .retAddr 15), (2, .int y28), (3, .int y29)]) (st' := [.int y28]) rfl ?_
        exact En_ret (v := some (.int y28)) rfl rfl (retZ rfl rfl (by omega) (by omega)) ⟨h31, h32, y28, rfl, ⟨by omega, by omega, ISQ_x h42 (by simp only [LWl]; omega)⟩⟩
    have := (by decide : (Int32.ofInt 0).toInt = 0)
    have := (by decide : (Int32.ofInt 0).toInt = 0)
    refine En_lv (lv := [(0, .ref 159), (1, .retAddr 15), (2, .int ((Int32.ofInt 0))), (3, .int ((Int32.ofInt 0)))]) ⟨rfl, rfl, rfl, rfl, trivial⟩ ?_
    exact key39 (Int.toNat (z2.toInt) + 1) σ0 ((Int32.ofInt 0)) ((Int32.ofInt 0)) hσ0 hF0 h1 h5 h9 h13 (by omega) (by omega) (by omega) (by omega) (by omega) (ISQ_s (by decide) (by (try have i0 := Imp_m h18 (by omega)); simp only [LWl]; omega))
  · refine En_Ps 1 (pc' := 8) (lv' := [(0, .ref 159), (1, .retAddr 15)]) (st' := [.ref 159]) rfl ?_
    refine En_getK (j := 10) h5 rfl rfl rfl tgz_159 (by decide +kernel) ?_
    refine En_Ps 1 (pc' := 12) (lv' := [(0, .ref 159), (1, .retAddr 15)]) (st' := [.int ((Int32.ofInt 1)), .int z6]) rfl ?_
    refine En_icNe _ rfl (by decide : (Int32.ofInt 1).toInt = 1) rfl (fun h45 => ?_) (fun h45 => ?_)
    · refine En_Ps 4 (pc' := 39) (lv' := [(3, .int ((Int32.ofInt 0))), (2, .int ((Int32.ofInt 0))), (0, .ref 159), (1, .retAddr 15)]) (st' := []) rfl ?_
      have key39 : ∀ (n39 : Nat) (σ48 : SG) (y46 : Int32) (y47 : Int32), WT σ48 → Fr [] σ0 σ48 → (σ48 159)[12]? = some (.int z2) → (σ48 159)[10]? = some (.int z6) → (σ48 159)[8]? = some (.int z10) → (σ48 159)[9]? = some (.int z14) → 0 ≤ y46.toInt → y46.toInt ≤ 0 → 0 ≤ y47.toInt → y47.toInt ≤ 0 → z2.toInt - y46.toInt < (n39 : Int) → ISQ By Nb 7 Sp y46.toInt y47.toInt → En 4 90 none mr_251 (P_251s7x σ0 By Nb Sp) 39 [(0, .ref 159), (1, .retAddr 15), (2, .int y46), (3, .int y47)] [] σ48 := by
        intro n39
        induction n39 with
        | zero =>
          intro σ48 y46 y47 h49 h50 h51 h52 h53 h54 h55 h56 h57 h58 h59 h60
          exfalso; omega
        | succ n39 ih39 =>
          intro σ48 y46 y47 h49 h50 h51 h52 h53 h54 h55 h56 h57 h58 h59 h60
          refine En_Ps 2 (pc' := 41) (lv' := [(0, .ref 159), (1, .retAddr 15), (2, .int y46), (3, .int y47)]) (st' := [.retAddr 15, .int y47]) rfl ?_
          refine En_slen 7 7 rfl rfl (by decide) rfl ?_
          refine En_icGe _ rfl (by decide : (Int32.ofNat 7).toInt = 7) rfl (fun hx => by exfalso; omega) (fun h61 => ?_)
          refine En_Ps 1 (pc' := 48) (lv' := [(0, .ref 159), (1, .retAddr 15), (2, .int y46), (3, .int y47)]) (st' := [.int y46]) rfl ?_
          refine En_iEq _ rfl rfl (fun h62 => ?_) (fun hx => by exfalso; omega)
          refine En_Ps 1 (pc' := 83) (lv' := [(0, .ref 159), (1, .retAddr 15), (2, .int y46), (3, .int y47)]) (st' := [.int y46]) rfl ?_
          exact En_ret (v := some (.int y46)) rfl rfl (retZ rfl rfl (by omega) (by omega)) ⟨h49, h50, y46, rfl, ⟨by omega, by omega, ISQ_x h60 (by simp only [LWl]; omega)⟩⟩
      have := (by decide : (Int32.ofInt 0).toInt = 0)
      have := (by decide : (Int32.ofInt 0).toInt = 0)
      refine En_lv (lv := [(0, .ref 159), (1, .retAddr 15), (2, .int ((Int32.ofInt 0))), (3, .int ((Int32.ofInt 0)))]) ⟨rfl, rfl, rfl, rfl, trivial⟩ ?_
      exact key39 (Int.toNat (z2.toInt) + 1) σ0 ((Int32.ofInt 0)) ((Int32.ofInt 0)) hσ0 hF0 h1 h5 h9 h13 (by omega) (by omega) (by omega) (by omega) (by omega) (ISQ_s (by decide) (by (try have i0 := Imp_m h18 (by omega)); simp only [LWl]; omega))
    · refine En_Ps 1 (pc' := 16) (lv' := [(0, .ref 159), (1, .retAddr 15)]) (st' := [.ref 159]) rfl ?_
      refine En_getK (j := 8) h9 rfl rfl rfl tgz_159 (by decide +kernel) ?_
      refine En_Ps 1 (pc' := 20) (lv' := [(0, .ref 159), (1, .retAddr 15)]) (st' := [.ref 159, .int z10]) rfl ?_
      refine En_getK (j := 9) h13 rfl rfl rfl tgz_159 (by decide +kernel) ?_
      refine En_Ps 1 (pc' := 24) (lv' := [(0, .ref 159), (1, .retAddr 15)]) (st' := [.int ((z10 - z14))]) rfl ?_
      refine En_top (subI rfl rfl (by omega) (by omega)) (fun z63 h64 => ?_)
      refine En_Ps 1 (pc' := 25) (lv' := [(0, .ref 159), (1, .retAddr 15)]) (st' := [.retAddr 15, .int z63]) rfl ?_
      refine En_slen 7 7 rfl rfl (by decide) rfl ?_
      refine En_icNe _ rfl (by decide : (Int32.ofNat 7).toInt = 7) rfl (fun h65 => ?_) (fun h65 => ?_)
      · refine En_Ps 4 (pc' := 39) (lv' := [(3, .int ((Int32.ofInt 0))), (2, .int ((Int32.ofInt 0))), (0, .ref 159), (1, .retAddr 15)]) (st' := []) rfl ?_
        have key39 : ∀ (n39 : Nat) (σ68 : SG) (y66 : Int32) (y67 : Int32), WT σ68 → Fr [] σ0 σ68 → (σ68 159)[12]? = some (.int z2) → (σ68 159)[10]? = some (.int z6) → (σ68 159)[8]? = some (.int z10) → (σ68 159)[9]? = some (.int z14) → 0 ≤ y66.toInt → y66.toInt ≤ 0 → 0 ≤ y67.toInt → y67.toInt ≤ 0 → z2.toInt - y66.toInt < (n39 : Int) → ISQ By Nb 7 Sp y66.toInt y67.toInt → En 4 90 none mr_251 (P_251s7x σ0 By Nb Sp) 39 [(0, .ref 159), (1, .retAddr 15), (2, .int y66), (3, .int y67)] [] σ68 := by
          intro n39
          induction n39 with
          | zero =>
            intro σ68 y66 y67 h69 h70 h71 h72 h73 h74 h75 h76 h77 h78 h79 h80
            exfalso; omega
          | succ n39 ih39 =>
            intro σ68 y66 y67 h69 h70 h71 h72 h73 h74 h75 h76 h77 h78 h79 h80
            refine En_Ps 2 (pc' := 41) (lv' := [(0, .ref 159), (1, .retAddr 15), (2, .int y66), (3, .int y67)]) (st' := [.retAddr 15, .int y67]) rfl ?_
            refine En_slen 7 7 rfl rfl (by decide) rfl ?_
            refine En_icGe _ rfl (by decide : (Int32.ofNat 7).toInt = 7) rfl (fun hx => by exfalso; omega) (fun h81 => ?_)
            refine En_Ps 1 (pc' := 48) (lv' := [(0, .ref 159), (1, .retAddr 15), (2, .int y66), (3, .int y67)]) (st' := [.int y66]) rfl ?_
            refine En_iEq _ rfl rfl (fun h82 => ?_) (fun hx => by exfalso; omega)
            refine En_Ps 1 (pc' := 83) (lv' := [(0, .ref 159), (1, .retAddr 15), (2, .int y66), (3, .int y67)]) (st' := [.int y66]) rfl ?_
            exact En_ret (v := some (.int y66)) rfl rfl (retZ rfl rfl (by omega) (by omega)) ⟨h69, h70, y66, rfl, ⟨by omega, by omega, ISQ_x h80 (by simp only [LWl]; omega)⟩⟩
        have := (by decide : (Int32.ofInt 0).toInt = 0)
        have := (by decide : (Int32.ofInt 0).toInt = 0)
        refine En_lv (lv := [(0, .ref 159), (1, .retAddr 15), (2, .int ((Int32.ofInt 0))), (3, .int ((Int32.ofInt 0)))]) ⟨rfl, rfl, rfl, rfl, trivial⟩ ?_
        exact key39 (Int.toNat (z2.toInt) + 1) σ0 ((Int32.ofInt 0)) ((Int32.ofInt 0)) hσ0 hF0 h1 h5 h9 h13 (by omega) (by omega) (by omega) (by omega) (by omega) (ISQ_s (by decide) (by (try have i0 := Imp_m h18 (by omega)); simp only [LWl]; omega))
      · refine En_Ps 5 (pc' := 39) (lv' := [(3, .int ((Int32.ofInt 0))), (2, .int ((Int32.ofInt 1))), (0, .ref 159), (1, .retAddr 15)]) (st' := []) rfl ?_
        have key39 : ∀ (n39 : Nat) (σ85 : SG) (y83 : Int32) (y84 : Int32), WT σ85 → Fr [] σ0 σ85 → (σ85 159)[12]? = some (.int z2) → (σ85 159)[10]? = some (.int z6) → (σ85 159)[8]? = some (.int z10) → (σ85 159)[9]? = some (.int z14) → 0 ≤ y83.toInt → y83.toInt ≤ 1 → 0 ≤ y84.toInt → y84.toInt ≤ 7 → z10.toInt - y84.toInt < (n39 : Int) → ISQ By Nb 7 Sp y83.toInt y84.toInt → En 4 90 none mr_251 (P_251s7x σ0 By Nb Sp) 39 [(0, .ref 159), (1, .retAddr 15), (2, .int y83), (3, .int y84)] [] σ85 := by
          intro n39
          induction n39 with
          | zero =>
            intro σ85 y83 y84 h86 h87 h88 h89 h90 h91 h92 h93 h94 h95 h96 h97
            exfalso; omega
          | succ n39 ih39 =>
            intro σ85 y83 y84 h86 h87 h88 h89 h90 h91 h92 h93 h94 h95 h96 h97
            refine En_Ps 2 (pc' := 41) (lv' := [(0, .ref 159), (1, .retAddr 15), (2, .int y83), (3, .int y84)]) (st' := [.retAddr 15, .int y84]) rfl ?_
            refine En_slen 7 7 rfl rfl (by decide) rfl ?_
            refine En_icGe _ rfl (by decide : (Int32.ofNat 7).toInt = 7) rfl (fun h98 => ?_) (fun h98 => ?_)
            · refine En_Ps 1 (pc' := 83) (lv' := [(0, .ref 159), (1, .retAddr 15), (2, .int y83), (3, .int y84)]) (st' := [.int y83]) rfl ?_
              exact En_ret (v := some (.int y83)) rfl rfl (retZ rfl rfl (by omega) (by omega)) ⟨h86, h87, y83, rfl, ⟨by omega, by omega, ISQ_x h97 (by simp only [LWl]; omega)⟩⟩
            · refine En_Ps 1 (pc' := 48) (lv' := [(0, .ref 159), (1, .retAddr 15), (2, .int y83), (3, .int y84)]) (st' := [.int y83]) rfl ?_
              refine En_iEq _ rfl rfl (fun h99 => ?_) (fun h99 => ?_)
              · refine En_Ps 1 (pc' := 83) (lv' := [(0, .ref 159), (1, .retAddr 15), (2, .int y83), (3, .int y84)]) (st' := [.int y83]) rfl ?_
                exact En_ret (v := some (.int y83)) rfl rfl (retZ rfl rfl (by omega) (by omega)) ⟨h86, h87, y83, rfl, ⟨by omega, by omega, ISQ_x h97 (by simp only [LWl]; omega)⟩⟩
              · refine En_Ps 1 (pc' := 52) (lv' := [(0, .ref 159), (1, .retAddr 15), (2, .int y83), (3, .int y84)]) (st' := [.ref 159]) rfl ?_
                refine En_getU (j := 4) (u := 163) (g' := 39) (q := 0) rfl rfl rfl tgz_159 (by decide +kernel) h86 (by decide +kernel) (by decide +kernel) (fun h100 => ?_)
                refine En_Ps 1 (pc' := 56) (lv' := [(0, .ref 159), (1, .retAddr 15), (2, .int y83), (3, .int y84)]) (st' := [.ref 159, .ref 163]) rfl ?_
                refine En_getK (j := 9) h91 rfl rfl rfl tgz_159 (by decide +kernel) ?_
                refine En_Ps 2 (pc' := 61) (lv' := [(0, .ref 159), (1, .retAddr 15), (2, .int y83), (3, .int y84)]) (st' := [.int ((z14 + y84)), .ref 163]) rfl ?_
                refine En_top (addI rfl rfl (by omega) (by omega)) (fun z102 h103 => ?_)
                refine En_bald (l := (-128)) (u := 127) rfl rfl tgz_163 (by decide +kernel) h86 (by omega) (lnI (by decide +kernel : LN _ = 1600) (by omega)) (FTsgl (by decide +kernel)) (fun z105 h104 h106 h107 => ?_)
                refine En_Ps 2 (pc' := 64) (lv' := [(0, .ref 159), (1, .retAddr 15), (2, .int y83), (3, .int y84)]) (st' := [.int y84, .retAddr 15, .int z105]) rfl ?_
                refine En_scharX 7 7 rfl rfl rfl (by decide) (by omega) (by omega) rfl (fun z108 h109 h110 h111 => ?_)
                refine En_icNe _ rfl rfl rfl (fun h112 => ?_) (fun h112 => ?_)
                · refine En_Ps 3 (pc' := 79) (lv' := [(3, .int ((y84 + Int32.ofInt 1))), (2, .int ((Int32.ofInt 0))), (0, .ref 159), (1, .retAddr 15)]) (st' := []) rfl ?_
                  refine En_lv1 (addI rfl (by decide : (Int32.ofInt 1).toInt = 1) (by omega) (by omega)) (fun z113 h114 => ?_)
                  refine En_Ps 1 (pc' := 39) (lv' := [(3, .int z113), (2, .int ((Int32.ofInt 0))), (0, .ref 159), (1, .retAddr 15)]) (st' := []) rfl ?_
                  have := (by decide : (Int32.ofInt 0).toInt = 0)
                  refine En_lv (lv := [(0, .ref 159), (1, .retAddr 15), (2, .int ((Int32.ofInt 0))), (3, .int z113)]) ⟨rfl, rfl, rfl, rfl, trivial⟩ ?_
                  exact ih39 σ85 ((Int32.ofInt 0)) z113 h86 h87 h88 h89 h90 h91 (by omega) (by omega) (by omega) (by omega) (by omega) (ISQ_n (ML_fr hM h87 (by decide +kernel)) h97 (by omega) (by simp only [LWl]; omega) (fun _ => by omega) h104 h111 (by omega) (by omega))
                · refine En_Ps 4 (pc' := 79) (lv' := [(3, .int ((y84 + Int32.ofInt 1))), (2, .int ((Int32.ofInt 1))), (0, .ref 159), (1, .retAddr 15)]) (st' := []) rfl ?_
                  refine En_lv1 (addI rfl (by decide : (Int32.ofInt 1).toInt = 1) (by omega) (by omega)) (fun z115 h116 => ?_)
                  refine En_Ps 1 (pc' := 39) (lv' := [(3, .int z115), (2, .int ((Int32.ofInt 1))), (0, .ref 159), (1, .retAddr 15)]) (st' := []) rfl ?_
                  have := (by decide : (Int32.ofInt 1).toInt = 1)
                  refine En_lv (lv := [(0, .ref 159), (1, .retAddr 15), (2, .int ((Int32.ofInt 1))), (3, .int z115)]) ⟨rfl, rfl, rfl, rfl, trivial⟩ ?_
                  exact ih39 σ85 ((Int32.ofInt 1)) z115 h86 h87 h88 h89 h90 h91 (by omega) (by omega) (by omega) (by omega) (by omega) (ISQ_n (ML_fr hM h87 (by decide +kernel)) h97 (by omega) (by simp only [LWl]; omega) (fun _ => by omega) h104 h111 (by omega) (by omega))
        have := (by decide : (Int32.ofInt 1).toInt = 1)
        have := (by decide : (Int32.ofInt 0).toInt = 0)
        refine En_lv (lv := [(0, .ref 159), (1, .retAddr 15), (2, .int ((Int32.ofInt 1))), (3, .int ((Int32.ofInt 0)))]) ⟨rfl, rfl, rfl, rfl, trivial⟩ ?_
        exact key39 (Int.toNat (z10.toInt) + 1) σ0 ((Int32.ofInt 1)) ((Int32.ofInt 0)) hσ0 hF0 h1 h5 h9 h13 (by omega) (by omega) (by omega) (by omega) (by omega) (ISQ_s (by decide) (by (try have i0 := Imp_m h18 (by omega)); simp only [LWl]; omega))

