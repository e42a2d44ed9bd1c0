/-- DoorSchoolModel.is(Ljava/lang/String;)Z -/
abbrev P_251s7x (σ0 : SG) (By : Int → Int) (Nb : Int) (Sp : PS) : PO := fun v σ => WT σ ∧ Fr [] σ0 σ ∧ ∃ ret : Int32, v = some (.int ret) ∧ -ret.toInt ≤ 0 ∧ ret.toInt - 1 ≤ 0 ∧ ret.toInt = iW By Nb 7 Sp
set_option maxRecDepth 10000 in
set_option maxHeartbeats 4000000 in
theorem c_251s7x {By : Int → Int} {Nb : Int} {Sp : PS} (σ0 : SG) (hσ0 : WT σ0) (hM : ML By Nb σ0 Sp) : En 4 90 none mr_251 (P_251s7x σ0 By Nb Sp) 0 [(0, .ref 159), (1, .retAddr 15)] [] σ0 := by
  have hF0 : Fr [] σ0 σ0 := Fr_rfl
  obtain ⟨z2, h1, h3, h4⟩ := WT_peekI hσ0 (by decide +kernel : TG 159 = 35) (by decide +kernel : FT 35 12 = (0, 0, 3)) (by decide +kernel)
  obtain ⟨z6, h5, h7, h8⟩ := WT_peekI hσ0 (by decide +kernel : TG 159 = 35) (by decide +kernel : FT 35 10 = (0, 0, 4)) (by decide +kernel)
  obtain ⟨z10, h9, h11, h12⟩ := WT_peekI hσ0 (by decide +kernel : TG 159 = 35) (by decide +kernel : FT 35 8 = (0, 0, 1600)) (by decide +kernel)
  obtain ⟨z14, h13, h15, h16⟩ := WT_peekI hσ0 (by decide +kernel : TG 159 = 35) (by decide +kernel : FT 35 9 = (0, 0, 1600)) (by decide +kernel)
  have h17 := ML_k hM h1
  have h18 : Imp (Sp.1 = 0) (tK By Nb Sp.2.2.1 = z6.toInt) := ML_t hM h5
  have h19 := ML_fa hM h9 h13
  refine En_Ps 1 (pc' := 1) (lv' := [(0, .ref 159), (1, .retAddr 15)]) (st' := [.ref 159]) rfl ?_
  refine En_callV rfl rfl rfl rfl rfl rfl rfl rfl (by decide +kernel : TG 159 = 35) (by decide +kernel) rfl (c_237 σ0 hσ0 z2 h1) (by decide) (by decide) (fun v21 σ22 h20 => ?_)
  obtain ⟨h23, h24, z26, rfl, h25⟩ := h20
  obtain rfl : σ0 = σ22 := Fr_nil h24
  refine En_iEq _ rfl rfl (fun h27 => ?_) (fun h27 => ?_)
  · have h28 := Imp_m h25.2.2.2 (by omega)
    refine En_Ps 4 (pc' := 39) (lv' := [(3, .int ((Int32.ofInt 0))), (2, .int ((Int32.ofInt 0))), (0, .ref 159), (1, .retAddr 15)]) (st' := []) rfl ?_
    have key39 : ∀ (n39 : Nat) (σ31 : SG) (y29 : Int32) (y30 : Int32), WT σ31 → Fr [] σ0 σ31 → (σ31 159)[12]? = some (.int z2) → (σ31 159)[10]? = some (.int z6) → (σ31 159)[8]? = some (.int z10) → (σ31 159)[9]? = some (.int z14) → 0 ≤ y29.toInt → y29.toInt ≤ 0 → 0 ≤ y30.toInt → y30.toInt ≤ 0 → z2.toInt - y29.toInt < (n39 : Int) → ISQ By Nb 7 Sp y29.toInt y30.toInt → En 4 90 none mr_251 (P_251s7x σ0 By Nb Sp) 39 [(0, .ref 159), (1, .retAddr 15), (2, .int y29), (3, .int y30)] [] σ31 := by
      intro n39
      induction n39 with
      | zero =>
        intro σ31 y29 y30 h32 h33 h34 h35 h36 h37 h38 h39 h40 h41 h42 h43
        exfalso; omega
      | succ n39 ih39 =>
        intro σ31 y29 y30 h32 h33 h34 h35 h36 h37 h38 h39 h40 h41 h42 h43
        refine En_Ps 2 (pc' := 41) (lv' := [(0, .ref 159), (1, .retAddr 15), (2, .int y29), (3, .int y30)]) (st' := [.retAddr 15, .int y30]) rfl ?_
        refine En_slen 7 7 rfl rfl (by decide) rfl ?_
        refine En_icGe _ rfl (by decide : (Int32.ofNat 7).toInt = 7) rfl (fun hx => by exfalso; omega) (fun h44 => ?_)
        refine En_Ps 1 (pc' := 48) (lv' := [(0, .ref 159), (1, .retAddr 15), (2, .int y29), (3, .int y30)]) (st' := [.int y29]) rfl ?_
        refine En_iEq _ rfl rfl (fun h45 => ?_) (fun hx => by exfalso; omega)
        refine En_Ps 1 (pc' := 83) (lv' := [(0, .ref 159), (1, .retAddr 15), (2, .int y29), (3, .int y30)]) (st' := [.int y29]) rfl ?_
        exact En_ret (v := some (.int y29)) rfl rfl (retZ rfl rfl (by omega) (by omega)) ⟨h32, h33, y29, rfl, ⟨by omega, by omega, ISQ_x h43 (by simp only [LWl]; omega)⟩⟩
    have := (by decide : (Int32.ofInt 0).toInt = 0)
    have := (by decide : (Int32.ofInt 0).toInt = 0)
    refine En_lv (lv := [(0, .ref 159), (1, .retAddr 15), (2, .int ((Int32.ofInt 0))), (3, .int ((Int32.ofInt 0)))]) ⟨rfl, rfl, rfl, rfl, trivial⟩ ?_
    exact key39 (Int.toNat (z2.toInt) + 1) σ0 ((Int32.ofInt 0)) ((Int32.ofInt 0)) hσ0 hF0 h1 h5 h9 h13 (by omega) (by omega) (by omega) (by omega) (by omega) (ISQ_s (by decide) (by (try have i0 := Imp_m h18 (by omega)); simp only [LWl]; omega))
  · have h46 := Imp_m h25.2.2.1 (by omega)
    refine En_Ps 1 (pc' := 8) (lv' := [(0, .ref 159), (1, .retAddr 15)]) (st' := [.ref 159]) rfl ?_
    refine En_getK (j := 10) h5 rfl rfl rfl (by decide +kernel : TG 159 = 35) (by decide +kernel) ?_
    refine En_Ps 1 (pc' := 12) (lv' := [(0, .ref 159), (1, .retAddr 15)]) (st' := [.int ((Int32.ofInt 1)), .int z6]) rfl ?_
    refine En_icNe _ rfl (by decide : (Int32.ofInt 1).toInt = 1) rfl (fun h47 => ?_) (fun h47 => ?_)
    · refine En_Ps 4 (pc' := 39) (lv' := [(3, .int ((Int32.ofInt 0))), (2, .int ((Int32.ofInt 0))), (0, .ref 159), (1, .retAddr 15)]) (st' := []) rfl ?_
      have key39 : ∀ (n39 : Nat) (σ50 : SG) (y48 : Int32) (y49 : Int32), WT σ50 → Fr [] σ0 σ50 → (σ50 159)[12]? = some (.int z2) → (σ50 159)[10]? = some (.int z6) → (σ50 159)[8]? = some (.int z10) → (σ50 159)[9]? = some (.int z14) → 0 ≤ y48.toInt → y48.toInt ≤ 0 → 0 ≤ y49.toInt → y49.toInt ≤ 0 → z2.toInt - y48.toInt < (n39 : Int) → ISQ By Nb 7 Sp y48.toInt y49.toInt → En 4 90 none mr_251 (P_251s7x σ0 By Nb Sp) 39 [(0, .ref 159), (1, .retAddr 15), (2, .int y48), (3, .int y49)] [] σ50 := by
        intro n39
        induction n39 with
        | zero =>
          intro σ50 y48 y49 h51 h52 h53 h54 h55 h56 h57 h58 h59 h60 h61 h62
          exfalso; omega
        | succ n39 ih39 =>
          intro σ50 y48 y49 h51 h52 h53 h54 h55 h56 h57 h58 h59 h60 h61 h62
          refine En_Ps 2 (pc' := 41) (lv' := [(0, .ref 159), (1, .retAddr 15), (2, .int y48), (3, .int y49)]) (st' := [.retAddr 15, .int y49]) rfl ?_
          refine En_slen 7 7 rfl rfl (by decide) rfl ?_
          refine En_icGe _ rfl (by decide : (Int32.ofNat 7).toInt = 7) rfl (fun hx => by exfalso; omega) (fun h63 => ?_)
          refine En_Ps 1 (pc' := 48) (lv' := [(0, .ref 159), (1, .retAddr 15), (2, .int y48), (3, .int y49)]) (st' := [.int y48]) rfl ?_
          refine En_iEq _ rfl rfl (fun h64 => ?_) (fun hx => by exfalso; omega)
          refine En_Ps 1 (pc' := 83) (lv' := [(0, .ref 159), (1, .retAddr 15), (2, .int y48), (3, .int y49)]) (st' := [.int y48]) rfl ?_
          exact En_ret (v := some (.int y48)) rfl rfl (retZ rfl rfl (by omega) (by omega)) ⟨h51, h52, y48, rfl, ⟨by omega, by omega, ISQ_x h62 (by simp only [LWl]; omega)⟩⟩
      have := (by decide : (Int32.ofInt 0).toInt = 0)
      have := (by decide : (Int32.ofInt 0).toInt = 0)
      refine En_lv (lv := [(0, .ref 159), (1, .retAddr 15), (2, .int ((Int32.ofInt 0))), (3, .int ((Int32.ofInt 0)))]) ⟨rfl, rfl, rfl, rfl, trivial⟩ ?_
      exact key39 (Int.toNat (z2.toInt) + 1) σ0 ((Int32.ofInt 0)) ((Int32.ofInt 0)) hσ0 hF0 h1 h5 h9 h13 (by omega) (by omega) (by omega) (by omega) (by omega) (ISQ_s (by decide) (by (try have i0 := Imp_m h18 (by omega)); simp only [LWl]; omega))
    · refine En_Ps 1 (pc' := 16) (lv' := [(0, .ref 159), (1, .retAddr 15)]) (st' := [.ref 159]) rfl ?_
      refine En_getK (j := 8) h9 rfl rfl rfl (by decide +kernel : TG 159 = 35) (by decide +kernel) ?_
      refine En_Ps 1 (pc' := 20) (lv' := [(0, .ref 159), (1, .retAddr 15)]) (st' := [.ref 159, .int z10]) rfl ?_
      refine En_getK (j := 9) h13 rfl rfl rfl (by decide +kernel : TG 159 = 35) (by decide +kernel) ?_
      refine En_Ps 1 (pc' := 24) (lv' := [(0, .ref 159), (1, .retAddr 15)]) (st' := [.int ((z10 - z14))]) rfl ?_
      refine En_top (subI rfl rfl (by omega) (by omega)) (fun z65 h66 => ?_)
      refine En_Ps 1 (pc' := 25) (lv' := [(0, .ref 159), (1, .retAddr 15)]) (st' := [.retAddr 15, .int z65]) rfl ?_
      refine En_slen 7 7 rfl rfl (by decide) rfl ?_
      refine En_icNe _ rfl (by decide : (Int32.ofNat 7).toInt = 7) rfl (fun h67 => ?_) (fun h67 => ?_)
      · refine En_Ps 4 (pc' := 39) (lv' := [(3, .int ((Int32.ofInt 0))), (2, .int ((Int32.ofInt 0))), (0, .ref 159), (1, .retAddr 15)]) (st' := []) rfl ?_
        have key39 : ∀ (n39 : Nat) (σ70 : SG) (y68 : Int32) (y69 : Int32), WT σ70 → Fr [] σ0 σ70 → (σ70 159)[12]? = some (.int z2) → (σ70 159)[10]? = some (.int z6) → (σ70 159)[8]? = some (.int z10) → (σ70 159)[9]? = some (.int z14) → 0 ≤ y68.toInt → y68.toInt ≤ 0 → 0 ≤ y69.toInt → y69.toInt ≤ 0 → z2.toInt - y68.toInt < (n39 : Int) → ISQ By Nb 7 Sp y68.toInt y69.toInt → En 4 90 none mr_251 (P_251s7x σ0 By Nb Sp) 39 [(0, .ref 159), (1, .retAddr 15), (2, .int y68), (3, .int y69)] [] σ70 := by
          intro n39
          induction n39 with
          | zero =>
            intro σ70 y68 y69 h71 h72 h73 h74 h75 h76 h77 h78 h79 h80 h81 h82
            exfalso; omega
          | succ n39 ih39 =>
            intro σ70 y68 y69 h71 h72 h73 h74 h75 h76 h77 h78 h79 h80 h81 h82
            refine En_Ps 2 (pc' := 41) (lv' := [(0, .ref 159), (1, .retAddr 15), (2, .int y68), (3, .int y69)]) (st' := [.retAddr 15, .int y69]) rfl ?_
            refine En_slen 7 7 rfl rfl (by decide) rfl ?_
            refine En_icGe _ rfl (by decide : (Int32.ofNat 7).toInt = 7) rfl (fun hx => by exfalso; omega) (fun h83 => ?_)
            refine En_Ps 1 (pc' := 48) (lv' := [(0, .ref 159), (1, .retAddr 15), (2, .int y68), (3, .int y69)]) (st' := [.int y68]) rfl ?_
            refine En_iEq _ rfl rfl (fun h84 => ?_) (fun hx => by exfalso; omega)
            refine En_Ps 1 (pc' := 83) (lv' := [(0, .ref 159), (1, .retAddr 15), (2, .int y68), (3, .int y69)]) (st' := [.int y68]) rfl ?_
            exact En_ret (v := some (.int y68)) rfl rfl (retZ rfl rfl (by omega) (by omega)) ⟨h71, h72, y68, rfl, ⟨by omega, by omega, ISQ_x h82 (by simp only [LWl]; omega)⟩⟩
        have := (by decide : (Int32.ofInt 0).toInt = 0)
        have := (by decide : (Int32.ofInt 0).toInt = 0)
        refine En_lv (lv := [(0, .ref 159), (1, .retAddr 15), (2, .int ((Int32.ofInt 0))), (3, .int ((Int32.ofInt 0)))]) ⟨rfl, rfl, rfl, rfl, trivial⟩ ?_
        exact key39 (Int.toNat (z2.toInt) + 1) σ0 ((Int32.ofInt 0)) ((Int32.ofInt 0)) hσ0 hF0 h1 h5 h9 h13 (by omega) (by omega) (by omega) (by omega) (by omega) (ISQ_s (by decide) (by (try have i0 := Imp_m h18 (by omega)); simp only [LWl]; omega))
      · refine En_Ps 5 (pc' := 39) (lv' := [(3, .int ((Int32.ofInt 0))), (2, .int ((Int32.ofInt 1))), (0, .ref 159), (1, .retAddr 15)]) (st' := []) rfl ?_
        have key39 : ∀ (n39 : Nat) (σ87 : SG) (y85 : Int32) (y86 : Int32), WT σ87 → Fr [] σ0 σ87 → (σ87 159)[12]? = some (.int z2) → (σ87 159)[10]? = some (.int z6) → (σ87 159)[8]? = some (.int z10) → (σ87 159)[9]? = some (.int z14) → 0 ≤ y85.toInt → y85.toInt ≤ 1 → 0 ≤ y86.toInt → y86.toInt ≤ 7 → z10.toInt - y86.toInt < (n39 : Int) → ISQ By Nb 7 Sp y85.toInt y86.toInt → En 4 90 none mr_251 (P_251s7x σ0 By Nb Sp) 39 [(0, .ref 159), (1, .retAddr 15), (2, .int y85), (3, .int y86)] [] σ87 := by
          intro n39
          induction n39 with
          | zero =>
            intro σ87 y85 y86 h88 h89 h90 h91 h92 h93 h94 h95 h96 h97 h98 h99
            exfalso; omega
          | succ n39 ih39 =>
            intro σ87 y85 y86 h88 h89 h90 h91 h92 h93 h94 h95 h96 h97 h98 h99
            refine En_Ps 2 (pc' := 41) (lv' := [(0, .ref 159), (1, .retAddr 15), (2, .int y85), (3, .int y86)]) (st' := [.retAddr 15, .int y86]) rfl ?_
            refine En_slen 7 7 rfl rfl (by decide) rfl ?_
            refine En_icGe _ rfl (by decide : (Int32.ofNat 7).toInt = 7) rfl (fun h100 => ?_) (fun h100 => ?_)
            · refine En_Ps 1 (pc' := 83) (lv' := [(0, .ref 159), (1, .retAddr 15), (2, .int y85), (3, .int y86)]) (st' := [.int y85]) rfl ?_
              exact En_ret (v := some (.int y85)) rfl rfl (retZ rfl rfl (by omega) (by omega)) ⟨h88, h89, y85, rfl, ⟨by omega, by omega, ISQ_x h99 (by simp only [LWl]; omega)⟩⟩
            · refine En_Ps 1 (pc' := 48) (lv' := [(0, .ref 159), (1, .retAddr 15), (2, .int y85), (3, .int y86)]) (st' := [.int y85]) rfl ?_
              refine En_iEq _ rfl rfl (fun h101 => ?_) (fun h101 => ?_)
              · refine En_Ps 1 (pc' := 83) (lv' := [(0, .ref 159), (1, .retAddr 15), (2, .int y85), (3, .int y86)]) (st' := [.int y85]) rfl ?_
                exact En_ret (v := some (.int y85)) rfl rfl (retZ rfl rfl (by omega) (by omega)) ⟨h88, h89, y85, rfl, ⟨by omega, by omega, ISQ_x h99 (by simp only [LWl]; omega)⟩⟩
              · refine En_Ps 1 (pc' := 52) (lv' := [(0, .ref 159), (1, .retAddr 15), (2, .int y85), (3, .int y86)]) (st' := [.ref 159]) rfl ?_
                refine En_getU (j := 4) (u := 163) (g' := 39) (q := 0) rfl rfl rfl (by decide +kernel : TG 159 = 35) (by decide +kernel) h88 (by decide +kernel) (by decide +kernel) (fun h102 => ?_)
                refine En_Ps 1 (pc' := 56) (lv' := [(0, .ref 159), (1, .retAddr 15), (2, .int y85), (3, .int y86)]) (st' := [.ref 159, .ref 163]) rfl ?_
                refine En_getK (j := 9) h93 rfl rfl rfl (by decide +kernel : TG 159 = 35) (by decide +kernel) ?_
                refine En_Ps 2 (pc' := 61) (lv' := [(0, .ref 159), (1, .retAddr 15), (2, .int y85), (3, .int y86)]) (st' := [.int ((z14 + y86)), .ref 163]) rfl ?_
                refine En_top (addI rfl rfl (by omega) (by omega)) (fun z104 h105 => ?_)
                refine En_bald (l := (-128)) (u := 127) rfl rfl (by decide +kernel : TG 163 = 39) (by decide +kernel) h88 (by omega) (lnI (by decide +kernel : LN _ = 1600) (by omega)) (FTsgl (by decide +kernel)) (fun z107 h106 h108 h109 => ?_)
                refine En_Ps 2 (pc' := 64) (lv' := [(0, .ref 159), (1, .retAddr 15), (2, .int y85), (3, .int y86)]) (st' := [.int y86, .retAddr 15, .int z107]) rfl ?_
                refine En_scharX 7 7 rfl rfl rfl (by decide) (by omega) (by omega) rfl (fun z110 h111 h112 h113 => ?_)
                refine En_icNe _ rfl rfl rfl (fun h114 => ?_) (fun h114 => ?_)
                · refine En_Ps 3 (pc' := 79) (lv' := [(3, .int ((y86 + Int32.ofInt 1))), (2, .int ((Int32.ofInt 0))), (0, .ref 159), (1, .retAddr 15)]) (st' := []) rfl ?_
                  refine En_lv1 (addI rfl (by decide : (Int32.ofInt 1).toInt = 1) (by omega) (by omega)) (fun z115 h116 => ?_)
                  refine En_Ps 1 (pc' := 39) (lv' := [(3, .int z115), (2, .int ((Int32.ofInt 0))), (0, .ref 159), (1, .retAddr 15)]) (st' := []) rfl ?_
                  have := (by decide : (Int32.ofInt 0).toInt = 0)
                  refine En_lv (lv := [(0, .ref 159), (1, .retAddr 15), (2, .int ((Int32.ofInt 0))), (3, .int z115)]) ⟨rfl, rfl, rfl, rfl, trivial⟩ ?_
                  exact ih39 σ87 ((Int32.ofInt 0)) z115 h88 h89 h90 h91 h92 h93 (by omega) (by omega) (by omega) (by omega) (by omega) (ISQ_n (ML_fr hM h89 (by decide +kernel)) h99 (by omega) (by simp only [LWl]; omega) (fun _ => by omega) h106 h113 (by omega) (by omega))
                · refine En_Ps 4 (pc' := 79) (lv' := [(3, .int ((y86 + Int32.ofInt 1))), (2, .int ((Int32.ofInt 1))), (0, .ref 159), (1, .retAddr 15)]) (st' := []) rfl ?_
                  refine En_lv1 (addI rfl (by decide : (Int32.ofInt 1).toInt = 1) (by omega) (by omega)) (fun z117 h118 => ?_)
                  refine En_Ps 1 (pc' := 39) (lv' := [(3, .int z117), (2, .int ((Int32.ofInt 1))), (0, .ref 159), (1, .retAddr 15)]) (st' := []) rfl ?_
                  have := (by decide : (Int32.ofInt 1).toInt = 1)
                  refine En_lv (lv := [(0, .ref 159), (1, .retAddr 15), (2, .int ((Int32.ofInt 1))), (3, .int z117)]) ⟨rfl, rfl, rfl, rfl, trivial⟩ ?_
                  exact ih39 σ87 ((Int32.ofInt 1)) z117 h88 h89 h90 h91 h92 h93 (by omega) (by omega) (by omega) (by omega) (by omega) (ISQ_n (ML_fr hM h89 (by decide +kernel)) h99 (by omega) (by simp only [LWl]; omega) (fun _ => by omega) h106 h113 (by omega) (by omega))
        have := (by decide : (Int32.ofInt 1).toInt = 1)
        have := (by decide : (Int32.ofInt 0).toInt = 0)
        refine En_lv (lv := [(0, .ref 159), (1, .retAddr 15), (2, .int ((Int32.ofInt 1))), (3, .int ((Int32.ofInt 0)))]) ⟨rfl, rfl, rfl, rfl, trivial⟩ ?_
        exact key39 (Int.toNat (z10.toInt) + 1) σ0 ((Int32.ofInt 1)) ((Int32.ofInt 0)) hσ0 hF0 h1 h5 h9 h13 (by omega) (by omega) (by omega) (by omega) (by omega) (ISQ_s (by decide) (by (try have i0 := Imp_m h18 (by omega)); simp only [LWl]; omega))
/-- DoorSchoolModel.is(Ljava/lang/String;)Z -/
abbrev P_251s8x (σ0 : SG) (By : Int → Int) (Nb : Int) (Sp : PS) : PO := fun v σ => WT σ ∧ Fr [] σ0 σ ∧ ∃ ret : Int32, v = some (.int ret) ∧ -ret.toInt ≤ 0 ∧ ret.toInt - 1 ≤ 0 ∧ ret.toInt = iW By Nb 8 Sp
set_option maxRecDepth 10000 in
set_option maxHeartbeats 4000000 in
theorem c_251s8x {By : Int → Int} {Nb : Int} {Sp : PS} (σ0 : SG) (hσ0 : WT σ0) (hM : ML By Nb σ0 Sp) : En 4 90 none mr_251 (P_251s8x σ0 By Nb Sp) 0 [(0, .ref 159), (1, .retAddr 17)] [] σ0 := by
  have hF0 : Fr [] σ0 σ0 := Fr_rfl
  obtain ⟨z2, h1, h3, h4⟩ := WT_peekI hσ0 (by decide +kernel : TG 159 = 35) (by decide +kernel : FT 35 12 = (0, 0, 3)) (by decide +kernel)
  obtain ⟨z6, h5, h7, h8⟩ := WT_peekI hσ0 (by decide +kernel : TG 159 = 35) (by decide +kernel : FT 35 10 = (0, 0, 4)) (by decide +kernel)
  obtain ⟨z10, h9, h11, h12⟩ := WT_peekI hσ0 (by decide +kernel : TG 159 = 35) (by decide +kernel : FT 35 8 = (0, 0, 1600)) (by decide +kernel)
  obtain ⟨z14, h13, h15, h16⟩ := WT_peekI hσ0 (by decide +kernel : TG 159 = 35) (by decide +kernel : FT 35 9 = (0, 0, 1600)) (by decide +kernel)
  have h17 := ML_k hM h1
  have h18 : Imp (Sp.1 = 0) (tK By Nb Sp.2.2.1 = z6.toInt) := ML_t hM h5
  have h19 := ML_fa hM h9 h13
  refine En_Ps 1 (pc' := 1) (lv' := [(0, .ref 159), (1, .retAddr 17)]) (st' := [.ref 159]) rfl ?_
  refine En_callV rfl rfl rfl rfl rfl rfl rfl rfl (by decide +kernel : TG 159 = 35) (by decide +kernel) rfl (c_237 σ0 hσ0 z2 h1) (by decide) (by decide) (fun v21 σ22 h20 => ?_)
  obtain ⟨h23, h24, z26, rfl, h25⟩ := h20
  obtain rfl : σ0 = σ22 := Fr_nil h24
  refine En_iEq _ rfl rfl (fun h27 => ?_) (fun h27 => ?_)
  · have h28 := Imp_m h25.2.2.2 (by omega)
    refine En_Ps 4 (pc' := 39) (lv' := [(3, .int ((Int32.ofInt 0))), (2, .int ((Int32.ofInt 0))), (0, .ref 159), (1, .retAddr 17)]) (st' := []) rfl ?_
    have key39 : ∀ (n39 : Nat) (σ31 : SG) (y29 : Int32) (y30 : Int32), WT σ31 → Fr [] σ0 σ31 → (σ31 159)[12]? = some (.int z2) → (σ31 159)[10]? = some (.int z6) → (σ31 159)[8]? = some (.int z10) → (σ31 159)[9]? = some (.int z14) → 0 ≤ y29.toInt → y29.toInt ≤ 0 → 0 ≤ y30.toInt → y30.toInt ≤ 0 → z2.toInt - y29.toInt < (n39 : Int) → ISQ By Nb 8 Sp y29.toInt y30.toInt → En 4 90 none mr_251 (P_251s8x σ0 By Nb Sp) 39 [(0, .ref 159), (1, .retAddr 17), (2, .int y29), (3, .int y30)] [] σ31 := by
      intro n39
      induction n39 with
      | zero =>
        intro σ31 y29 y30 h32 h33 h34 h35 h36 h37 h38 h39 h40 h41 h42 h43
        exfalso; omega
      | succ n39 ih39 =>
        intro σ31 y29 y30 h32 h33 h34 h35 h36 h37 h38 h39 h40 h41 h42 h43
        refine En_Ps 2 (pc' := 41) (lv' := [(0, .ref 159), (1, .retAddr 17), (2, .int y29), (3, .int y30)]) (st' := [.retAddr 17, .int y30]) rfl ?_
        refine En_slen 8 4 rfl rfl (by decide) rfl ?_
        refine En_icGe _ rfl (by decide : (Int32.ofNat 4).toInt = 4) rfl (fun hx => by exfalso; omega) (fun h44 => ?_)
        refine En_Ps 1 (pc' := 48) (lv' := [(0, .ref 159), (1, .retAddr 17), (2, .int y29), (3, .int y30)]) (st' := [.int y29]) rfl ?_
        refine En_iEq _ rfl rfl (fun h45 => ?_) (fun hx => by exfalso; omega)
        refine En_Ps 1 (pc' := 83) (lv' := [(0, .ref 159), (1, .retAddr 17), (2, .int y29), (3, .int y30)]) (st' := [.int y29]) rfl ?_
        exact En_ret (v := some (.int y29)) rfl rfl (retZ rfl rfl (by omega) (by omega)) ⟨h32, h33, y29, rfl, ⟨by omega, by omega, ISQ_x h43 (by simp only [LWl]; omega)⟩⟩
    have := (by decide : (Int32.ofInt 0).toInt = 0)
    have := (by decide : (Int32.ofInt 0).toInt = 0)
    refine En_lv (lv := [(0, .ref 159), (1, .retAddr 17), (2, .int ((Int32.ofInt 0))), (3, .int ((Int32.ofInt 0)))]) ⟨rfl, rfl, rfl, rfl, trivial⟩ ?_
    exact key39 (Int.toNat (z2.toInt) + 1) σ0 ((Int32.ofInt 0)) ((Int32.ofInt 0)) hσ0 hF0 h1 h5 h9 h13 (by omega) (by omega) (by omega) (by omega) (by omega) (ISQ_s (by decide) (by (try have i0 := Imp_m h18 (by omega)); simp only [LWl]; omega))
  · have h46 := Imp_m h25.2.2.1 (by omega)
    refine En_Ps 1 (pc' := 8) (lv' := [(0, .ref 159), (1, .retAddr 17)]) (st' := [.ref 159]) rfl ?_
    refine En_getK (j := 10) h5 rfl rfl rfl (by decide +kernel : TG 159 = 35) (by decide +kernel) ?_
    refine En_Ps 1 (pc' := 12) (lv' := [(0, .ref 159), (1, .retAddr 17)]) (st' := [.int ((Int32.ofInt 1)), .int z6]) rfl ?_
    refine En_icNe _ rfl (by decide : (Int32.ofInt 1).toInt = 1) rfl (fun h47 => ?_) (fun h47 => ?_)
    · refine En_Ps 4 (pc' := 39) (lv' := [(3, .int ((Int32.ofInt 0))), (2, .int ((Int32.ofInt 0))), (0, .ref 159), (1, .retAddr 17)]) (st' := []) rfl ?_
      have key39 : ∀ (n39 : Nat) (σ50 : SG) (y48 : Int32) (y49 : Int32), WT σ50 → Fr [] σ0 σ50 → (σ50 159)[12]? = some (.int z2) → (σ50 159)[10]? = some (.int z6) → (σ50 159)[8]? = some (.int z10) → (σ50 159)[9]? = some (.int z14) → 0 ≤ y48.toInt → y48.toInt ≤ 0 → 0 ≤ y49.toInt → y49.toInt ≤ 0 → z2.toInt - y48.toInt < (n39 : Int) → ISQ By Nb 8 Sp y48.toInt y49.toInt → En 4 90 none mr_251 (P_251s8x σ0 By Nb Sp) 39 [(0, .ref 159), (1, .retAddr 17), (2, .int y48), (3, .int y49)] [] σ50 := by
        intro n39
        induction n39 with
        | zero =>
          intro σ50 y48 y49 h51 h52 h53 h54 h55 h56 h57 h58 h59 h60 h61 h62
          exfalso; omega
        | succ n39 ih39 =>
          intro σ50 y48 y49 h51 h52 h53 h54 h55 h56 h57 h58 h59 h60 h61 h62
          refine En_Ps 2 (pc' := 41) (lv' := [(0, .ref 159), (1, .retAddr 17), (2, .int y48), (3, .int y49)]) (st' := [.retAddr 17, .int y49]) rfl ?_
          refine En_slen 8 4 rfl rfl (by decide) rfl ?_
          refine En_icGe _ rfl (by decide : (Int32.ofNat 4).toInt = 4) rfl (fun hx => by exfalso; omega) (fun h63 => ?_)
          refine En_Ps 1 (pc' := 48) (lv' := [(0, .ref 159), (1, .retAddr 17), (2, .int y48), (3, .int y49)]) (st' := [.int y48]) rfl ?_
          refine En_iEq _ rfl rfl (fun h64 => ?_) (fun hx => by exfalso; omega)
          refine En_Ps 1 (pc' := 83) (lv' := [(0, .ref 159), (1, .retAddr 17), (2, .int y48), (3, .int y49)]) (st' := [.int y48]) rfl ?_
          exact En_ret (v := some (.int y48)) rfl rfl (retZ rfl rfl (by omega) (by omega)) ⟨h51, h52, y48, rfl, ⟨by omega, by omega, ISQ_x h62 (by simp only [LWl]; omega)⟩⟩
      have := (by decide : (Int32.ofInt 0).toInt = 0)
      have := (by decide : (Int32.ofInt 0).toInt = 0)
      refine En_lv (lv := [(0, .ref 159), (1, .retAddr 17), (2, .int ((Int32.ofInt 0))), (3, .int ((Int32.ofInt 0)))]) ⟨rfl, rfl, rfl, rfl, trivial⟩ ?_
      exact key39 (Int.toNat (z2.toInt) + 1) σ0 ((Int32.ofInt 0)) ((Int32.ofInt 0)) hσ0 hF0 h1 h5 h9 h13 (by omega) (by omega) (by omega) (by omega) (by omega) (ISQ_s (by decide) (by (try have i0 := Imp_m h18 (by omega)); simp only [LWl]; omega))
    · refine En_Ps 1 (pc' := 16) (lv' := [(0, .ref 159), (1, .retAddr 17)]) (st' := [.ref 159]) rfl ?_
      refine En_getK (j := 8) h9 rfl rfl rfl (by decide +kernel : TG 159 = 35) (by decide +kernel) ?_
      refine En_Ps 1 (pc' := 20) (lv' := [(0, .ref 159), (1, .retAddr 17)]) (st' := [.ref 159, .int z10]) rfl ?_
      refine En_getK (j := 9) h13 rfl rfl rfl (by decide +kernel : TG 159 = 35) (by decide +kernel) ?_
      refine En_Ps 1 (pc' := 24) (lv' := [(0, .ref 159), (1, .retAddr 17)]) (st' := [.int ((z10 - z14))]) rfl ?_
      refine En_top (subI rfl rfl (by omega) (by omega)) (fun z65 h66 => ?_)
      refine En_Ps 1 (pc' := 25) (lv' := [(0, .ref 159), (1, .retAddr 17)]) (st' := [.retAddr 17, .int z65]) rfl ?_
      refine En_slen 8 4 rfl rfl (by decide) rfl ?_
      refine En_icNe _ rfl (by decide : (Int32.ofNat 4).toInt = 4) rfl (fun h67 => ?_) (fun h67 => ?_)
      · refine En_Ps 4 (pc' := 39) (lv' := [(3, .int ((Int32.ofInt 0))), (2, .int ((Int32.ofInt 0))), (0, .ref 159), (1, .retAddr 17)]) (st' := []) rfl ?_
        have key39 : ∀ (n39 : Nat) (σ70 : SG) (y68 : Int32) (y69 : Int32), WT σ70 → Fr [] σ0 σ70 → (σ70 159)[12]? = some (.int z2) → (σ70 159)[10]? = some (.int z6) → (σ70 159)[8]? = some (.int z10) → (σ70 159)[9]? = some (.int z14) → 0 ≤ y68.toInt → y68.toInt ≤ 0 → 0 ≤ y69.toInt → y69.toInt ≤ 0 → z2.toInt - y68.toInt < (n39 : Int) → ISQ By Nb 8 Sp y68.toInt y69.toInt → En 4 90 none mr_251 (P_251s8x σ0 By Nb Sp) 39 [(0, .ref 159), (1, .retAddr 17), (2, .int y68), (3, .int y69)] [] σ70 := by
          intro n39
          induction n39 with
          | zero =>
            intro σ70 y68 y69 h71 h72 h73 h74 h75 h76 h77 h78 h79 h80 h81 h82
            exfalso; omega
          | succ n39 ih39 =>
            intro σ70 y68 y69 h71 h72 h73 h74 h75 h76 h77 h78 h79 h80 h81 h82
            refine En_Ps 2 (pc' := 41) (lv' := [(0, .ref 159), (1, .retAddr 17), (2, .int y68), (3, .int y69)]) (st' := [.retAddr 17, .int y69]) rfl ?_
            refine En_slen 8 4 rfl rfl (by decide) rfl ?_
            refine En_icGe _ rfl (by decide : (Int32.ofNat 4).toInt = 4) rfl (fun hx => by exfalso; omega) (fun h83 => ?_)
            refine En_Ps 1 (pc' := 48) (lv' := [(0, .ref 159), (1, .retAddr 17), (2, .int y68), (3, .int y69)]) (st' := [.int y68]) rfl ?_
            refine En_iEq _ rfl rfl (fun h84 => ?_) (fun hx => by exfalso; omega)
            refine En_Ps 1 (pc' := 83) (lv' := [(0, .ref 159), (1, .retAddr 17), (2, .int y68), (3, .int y69)]) (st' := [.int y68]) rfl ?_
            exact En_ret (v := some (.int y68)) rfl rfl (retZ rfl rfl (by omega) (by omega)) ⟨h71, h72, y68, rfl, ⟨by omega, by omega, ISQ_x h82 (by simp only [LWl]; omega)⟩⟩
        have := (by decide : (Int32.ofInt 0).toInt = 0)
        have := (by decide : (Int32.ofInt 0).toInt = 0)
        refine En_lv (lv := [(0, .ref 159), (1, .retAddr 17), (2, .int ((Int32.ofInt 0))), (3, .int ((Int32.ofInt 0)))]) ⟨rfl, rfl, rfl, rfl, trivial⟩ ?_
        exact key39 (Int.toNat (z2.toInt) + 1) σ0 ((Int32.ofInt 0)) ((Int32.ofInt 0)) hσ0 hF0 h1 h5 h9 h13 (by omega) (by omega) (by omega) (by omega) (by omega) (ISQ_s (by decide) (by (try have i0 := Imp_m h18 (by omega)); simp only [LWl]; omega))
      · refine En_Ps 5 (pc' := 39) (lv' := [(3, .int ((Int32.ofInt 0))), (2, .int ((Int32.ofInt 1))), (0, .ref 159), (1, .retAddr 17)]) (st' := []) rfl ?_
        have key39 : ∀ (n39 : Nat) (σ87 : SG) (y85 : Int32) (y86 : Int32), WT σ87 → Fr [] σ0 σ87 → (σ87 159)[12]? = some (.int z2) → (σ87 159)[10]? = some (.int z6) → (σ87 159)[8]? = some (.int z10) → (σ87 159)[9]? = some (.int z14) → 0 ≤ y85.toInt → y85.toInt ≤ 1 → 0 ≤ y86.toInt → y86.toInt ≤ 4 → z10.toInt - y86.toInt < (n39 : Int) → ISQ By Nb 8 Sp y85.toInt y86.toInt → En 4 90 none mr_251 (P_251s8x σ0 By Nb Sp) 39 [(0, .ref 159), (1, .retAddr 17), (2, .int y85), (3, .int y86)] [] σ87 := by
          intro n39
          induction n39 with
          | zero =>
            intro σ87 y85 y86 h88 h89 h90 h91 h92 h93 h94 h95 h96 h97 h98 h99
            exfalso; omega
          | succ n39 ih39 =>
            intro σ87 y85 y86 h88 h89 h90 h91 h92 h93 h94 h95 h96 h97 h98 h99
            refine En_Ps 2 (pc' := 41) (lv' := [(0, .ref 159), (1, .retAddr 17), (2, .int y85), (3, .int y86)]) (st' := [.retAddr 17, .int y86]) rfl ?_
            refine En_slen 8 4 rfl rfl (by decide) rfl ?_
            refine En_icGe _ rfl (by decide : (Int32.ofNat 4).toInt = 4) rfl (fun h100 => ?_) (fun h100 => ?_)
            · refine En_Ps 1 (pc' := 83) (lv' := [(0, .ref 159), (1, .retAddr 17), (2, .int y85), (3, .int y86)]) (st' := [.int y85]) rfl ?_
              exact En_ret (v := some (.int y85)) rfl rfl (retZ rfl rfl (by omega) (by omega)) ⟨h88, h89, y85, rfl, ⟨by omega, by omega, ISQ_x h99 (by simp only [LWl]; omega)⟩⟩
            · refine En_Ps 1 (pc' := 48) (lv' := [(0, .ref 159), (1, .retAddr 17), (2, .int y85), (3, .int y86)]) (st' := [.int y85]) rfl ?_
              refine En_iEq _ rfl rfl (fun h101 => ?_) (fun h101 => ?_)
              · refine En_Ps 1 (pc' := 83) (lv' := [(0, .ref 159), (1, .retAddr 17), (2, .int y85), (3, .int y86)]) (st' := [.int y85]) rfl ?_
                exact En_ret (v := some (.int y85)) rfl rfl (retZ rfl rfl (by omega) (by omega)) ⟨h88, h89, y85, rfl, ⟨by omega, by omega, ISQ_x h99 (by simp only [LWl]; omega)⟩⟩
              · refine En_Ps 1 (pc' := 52) (lv' := [(0, .ref 159), (1, .retAddr 17), (2, .int y85), (3, .int y86)]) (st' := [.ref 159]) rfl ?_
                refine En_getU (j := 4) (u := 163) (g' := 39) (q := 0) rfl rfl rfl (by decide +kernel : TG 159 = 35) (by decide +kernel) h88 (by decide +kernel) (by decide +kernel) (fun h102 => ?_)
                refine En_Ps 1 (pc' := 56) (lv' := [(0, .ref 159), (1, .retAddr 17), (2, .int y85), (3, .int y86)]) (st' := [.ref 159, .ref 163]) rfl ?_
                refine En_getK (j := 9) h93 rfl rfl rfl (by decide +kernel : TG 159 = 35) (by decide +kernel) ?_
                refine En_Ps 2 (pc' := 61) (lv' := [(0, .ref 159), (1, .retAddr 17), (2, .int y85), (3, .int y86)]) (st' := [.int ((z14 + y86)), .ref 163]) rfl ?_
                refine En_top (addI rfl rfl (by omega) (by omega)) (fun z104 h105 => ?_)
                refine En_bald (l := (-128)) (u := 127) rfl rfl (by decide +kernel : TG 163 = 39) (by decide +kernel) h88 (by omega) (lnI (by decide +kernel : LN _ = 1600) (by omega)) (FTsgl (by decide +kernel)) (fun z107 h106 h108 h109 => ?_)
                refine En_Ps 2 (pc' := 64) (lv' := [(0, .ref 159), (1, .retAddr 17), (2, .int y85), (3, .int y86)]) (st' := [.int y86, .retAddr 17, .int z107]) rfl ?_
                refine En_scharX 8 4 rfl rfl rfl (by decide) (by omega) (by omega) rfl (fun z110 h111 h112 h113 => ?_)
                refine En_icNe _ rfl rfl rfl (fun h114 => ?_) (fun h114 => ?_)
                · refine En_Ps 3 (pc' := 79) (lv' := [(3, .int ((y86 + Int32.ofInt 1))), (2, .int ((Int32.ofInt 0))), (0, .ref 159), (1, .retAddr 17)]) (st' := []) rfl ?_
                  refine En_lv1 (addI rfl (by decide : (Int32.ofInt 1).toInt = 1) (by omega) (by omega)) (fun z115 h116 => ?_)
                  refine En_Ps 1 (pc' := 39) (lv' := [(3, .int z115), (2, .int ((Int32.ofInt 0))), (0, .ref 159), (1, .retAddr 17)]) (st' := []) rfl ?_
                  have := (by decide : (Int32.ofInt 0).toInt = 0)
                  refine En_lv (lv := [(0, .ref 159), (1, .retAddr 17), (2, .int ((Int32.ofInt 0))), (3, .int z115)]) ⟨rfl, rfl, rfl, rfl, trivial⟩ ?_
                  exact ih39 σ87 ((Int32.ofInt 0)) z115 h88 h89 h90 h91 h92 h93 (by omega) (by omega) (by omega) (by omega) (by omega) (ISQ_n (ML_fr hM h89 (by decide +kernel)) h99 (by omega) (by simp only [LWl]; omega) (fun _ => by omega) h106 h113 (by omega) (by omega))
                · refine En_Ps 4 (pc' := 79) (lv' := [(3, .int ((y86 + Int32.ofInt 1))), (2, .int ((Int32.ofInt 1))), (0, .ref 159), (1, .retAddr 17)]) (st' := []) rfl ?_
                  refine En_lv1 (addI rfl (by decide : (Int32.ofInt 1).toInt = 1) (by omega) (by omega)) (fun z117 h118 => ?_)
                  refine En_Ps 1 (pc' := 39) (lv' := [(3, .int z117), (2, .int ((Int32.ofInt 1))), (0, .ref 159), (1, .retAddr 17)]) (st' := []) rfl ?_
                  have := (by decide : (Int32.ofInt 1).toInt = 1)
                  refine En_lv (lv := [(0, .ref 159), (1, .retAddr 17), (2, .int ((Int32.ofInt 1))), (3, .int z117)]) ⟨rfl, rfl, rfl, rfl, trivial⟩ ?_
                  exact ih39 σ87 ((Int32.ofInt 1)) z117 h88 h89 h90 h91 h92 h93 (by omega) (by omega) (by omega) (by omega) (by omega) (ISQ_n (ML_fr hM h89 (by decide +kernel)) h99 (by omega) (by simp only [LWl]; omega) (fun _ => by omega) h106 h113 (by omega) (by omega))
        have := (by decide : (Int32.ofInt 1).toInt = 1)
        have := (by decide : (Int32.ofInt 0).toInt = 0)
        refine En_lv (lv := [(0, .ref 159), (1, .retAddr 17), (2, .int ((Int32.ofInt 1))), (3, .int ((Int32.ofInt 0)))]) ⟨rfl, rfl, rfl, rfl, trivial⟩ ?_
        exact key39 (Int.toNat (z10.toInt) + 1) σ0 ((Int32.ofInt 1)) ((Int32.ofInt 0)) hσ0 hF0 h1 h5 h9 h13 (by omega) (by omega) (by omega) (by omega) (by omega) (ISQ_s (by decide) (by (try have i0 := Imp_m h18 (by omega)); simp only [LWl]; omega))
/-- DoorSchoolModel.is(Ljava/lang/String;)Z -/
abbrev P_251s9x (σ0 : SG) (By : Int → Int) (Nb : Int) (Sp : PS) : PO := fun v σ => WT σ ∧ Fr [] σ0 σ ∧ ∃ ret : Int32, v = some (.int ret) ∧ -ret.toInt ≤ 0 ∧ ret.toInt - 1 ≤ 0 ∧ ret.toInt = iW By Nb 9 Sp
set_option maxRecDepth 10000 in
set_option maxHeartbeats 4000000 in
theorem c_251s9x {By : Int → Int} {Nb : Int} {Sp : PS} (σ0 : SG) (hσ0 : WT σ0) (hM : ML By Nb σ0 Sp) : En 4 90 none mr_251 (P_251s9x σ0 By Nb Sp) 0 [(0, .ref 159), (1, .retAddr 19)] [] σ0 := by
  have hF0 : Fr [] σ0 σ0 := Fr_rfl
  obtain ⟨z2, h1, h3, h4⟩ := WT_peekI hσ0 (by decide +kernel : TG 159 = 35) (by decide +kernel : FT 35 12 = (0, 0, 3)) (by decide +kernel)
  obtain ⟨z6, h5, h7, h8⟩ := WT_peekI hσ0 (by decide +kernel : TG 159 = 35) (by decide +kernel : FT 35 10 = (0, 0, 4)) (by decide +kernel)
  obtain ⟨z10, h9, h11, h12⟩ := WT_peekI hσ0 (by decide +kernel : TG 159 = 35) (by decide +kernel : FT 35 8 = (0, 0, 1600)) (by decide +kernel)
  obtain ⟨z14, h13, h15, h16⟩ := WT_peekI hσ0 (by decide +kernel : TG 159 = 35) (by decide +kernel : FT 35 9 = (0, 0, 1600)) (by decide +kernel)
  have h17 := ML_k hM h1
  have h18 : Imp (Sp.1 = 0) (tK By Nb Sp.2.2.1 = z6.toInt) := ML_t hM h5
  have h19 := ML_fa hM h9 h13
  refine En_Ps 1 (pc' := 1) (lv' := [(0, .ref 159), (1, .retAddr 19)]) (st' := [.ref 159]) rfl ?_
  refine En_callV rfl rfl rfl rfl rfl rfl rfl rfl (by decide +kernel : TG 159 = 35) (by decide +kernel) rfl (c_237 σ0 hσ0 z2 h1) (by decide) (by decide) (fun v21 σ22 h20 => ?_)
  obtain ⟨h23, h24, z26, rfl, h25⟩ := h20
  obtain rfl : σ0 = σ22 := Fr_nil h24
  refine En_iEq _ rfl rfl (fun h27 => ?_) (fun h27 => ?_)
  · have h28 := Imp_m h25.2.2.2 (by omega)
    refine En_Ps 4 (pc' := 39) (lv' := [(3, .int ((Int32.ofInt 0))), (2, .int ((Int32.ofInt 0))), (0, .ref 159), (1, .retAddr 19)]) (st' := []) rfl ?_
    have key39 : ∀ (n39 : Nat) (σ31 : SG) (y29 : Int32) (y30 : Int32), WT σ31 → Fr [] σ0 σ31 → (σ31 159)[12]? = some (.int z2) → (σ31 159)[10]? = some (.int z6) → (σ31 159)[8]? = some (.int z10) → (σ31 159)[9]? = some (.int z14) → 0 ≤ y29.toInt → y29.toInt ≤ 0 → 0 ≤ y30.toInt → y30.toInt ≤ 0 → z2.toInt - y29.toInt < (n39 : Int) → ISQ By Nb 9 Sp y29.toInt y30.toInt → En 4 90 none mr_251 (P_251s9x σ0 By Nb Sp) 39 [(0, .ref 159), (1, .retAddr 19), (2, .int y29), (3, .int y30)] [] σ31 := by
      intro n39
      induction n39 with
      | zero =>
        intro σ31 y29 y30 h32 h33 h34 h35 h36 h37 h38 h39 h40 h41 h42 h43
        exfalso; omega
      | succ n39 ih39 =>
        intro σ31 y29 y30 h32 h33 h34 h35 h36 h37 h38 h39 h40 h41 h42 h43
        refine En_Ps 2 (pc' := 41) (lv' := [(0, .ref 159), (1, .retAddr 19), (2, .int y29), (3, .int y30)]) (st' := [.retAddr 19, .int y30]) rfl ?_
        refine En_slen 9 5 rfl rfl (by decide) rfl ?_
        refine En_icGe _ rfl (by decide : (Int32.ofNat 5).toInt = 5) rfl (fun hx => by exfalso; omega) (fun h44 => ?_)
        refine En_Ps 1 (pc' := 48) (lv' := [(0, .ref 159), (1, .retAddr 19), (2, .int y29), (3, .int y30)]) (st' := [.int y29]) rfl ?_
        refine En_iEq _ rfl rfl (fun h45 => ?_) (fun hx => by exfalso; omega)
        refine En_Ps 1 (pc' := 83) (lv' := [(0, .ref 159), (1, .retAddr 19), (2, .int y29), (3, .int y30)]) (st' := [.int y29]) rfl ?_
        exact En_ret (v := some (.int y29)) rfl rfl (retZ rfl rfl (by omega) (by omega)) ⟨h32, h33, y29, rfl, ⟨by omega, by omega, ISQ_x h43 (by simp only [LWl]; omega)⟩⟩
    have := (by decide : (Int32.ofInt 0).toInt = 0)
    have := (by decide : (Int32.ofInt 0).toInt = 0)
    refine En_lv (lv := [(0, .ref 159), (1, .retAddr 19), (2, .int ((Int32.ofInt 0))), (3, .int ((Int32.ofInt 0)))]) ⟨rfl, rfl, rfl, rfl, trivial⟩ ?_
    exact key39 (Int.toNat (z2.toInt) + 1) σ0 ((Int32.ofInt 0)) ((Int32.ofInt 0)) hσ0 hF0 h1 h5 h9 h13 (by omega) (by omega) (by omega) (by omega) (by omega) (ISQ_s (by decide) (by (try have i0 := Imp_m h18 (by omega)); simp only [LWl]; omega))
  · have h46 := Imp_m h25.2.2.1 (by omega)
    refine En_Ps 1 (pc' := 8) (lv' := [(0, .ref 159), (1, .retAddr 19)]) (st' := [.ref 159]) rfl ?_
    refine En_getK (j := 10) h5 rfl rfl rfl (by decide +kernel : TG 159 = 35) (by decide +kernel) ?_
    refine En_Ps 1 (pc' := 12) (lv' := [(0, .ref 159), (1, .retAddr 19)]) (st' := [.int ((Int32.ofInt 1)), .int z6]) rfl ?_
    refine En_icNe _ rfl (by decide : (Int32.ofInt 1).toInt = 1) rfl (fun h47 => ?_) (fun h47 => ?_)
    · refine En_Ps 4 (pc' := 39) (lv' := [(3, .int ((Int32.ofInt 0))), (2, .int ((Int32.ofInt 0))), (0, .ref 159), (1, .retAddr 19)]) (st' := []) rfl ?_
      have key39 : ∀ (n39 : Nat) (σ50 : SG) (y48 : Int32) (y49 : Int32), WT σ50 → Fr [] σ0 σ50 → (σ50 159)[12]? = some (.int z2) → (σ50 159)[10]? = some (.int z6) → (σ50 159)[8]? = some (.int z10) → (σ50 159)[9]? = some (.int z14) → 0 ≤ y48.toInt → y48.toInt ≤ 0 → 0 ≤ y49.toInt → y49.toInt ≤ 0 → z2.toInt - y48.toInt < (n39 : Int) → ISQ By Nb 9 Sp y48.toInt y49.toInt → En 4 90 none mr_251 (P_251s9x σ0 By Nb Sp) 39 [(0, .ref 159), (1, .retAddr 19), (2, .int y48), (3, .int y49)] [] σ50 := by
        intro n39
        induction n39 with
        | zero =>
          intro σ50 y48 y49 h51 h52 h53 h54 h55 h56 h57 h58 h59 h60 h61 h62
          exfalso; omega
        | succ n39 ih39 =>
          intro σ50 y48 y49 h51 h52 h53 h54 h55 h56 h57 h58 h59 h60 h61 h62
          refine En_Ps 2 (pc' := 41) (lv' := [(0, .ref 159), (1, .retAddr 19), (2, .int y48), (3, .int y49)]) (st' := [.retAddr 19, .int y49]) rfl ?_
          refine En_slen 9 5 rfl rfl (by decide) rfl ?_
          refine En_icGe _ rfl (by decide : (Int32.ofNat 5).toInt = 5) rfl (fun hx => by exfalso; omega) (fun h63 => ?_)
          refine En_Ps 1 (pc' := 48) (lv' := [(0, .ref 159), (1, .retAddr 19), (2, .int y48), (3, .int y49)]) (st' := [.int y48]) rfl ?_
          refine En_iEq _ rfl rfl (fun h64 => ?_) (fun hx => by exfalso; omega)
          refine En_Ps 1 (pc' := 83) (lv' := [(0, .ref 159), (1, .retAddr 19), (2, .int y48), (3, .int y49)]) (st' := [.int y48]) rfl ?_
          exact En_ret (v := some (.int y48)) rfl rfl (retZ rfl rfl (by omega) (by omega)) ⟨h51, h52, y48, rfl, ⟨by omega, by omega, ISQ_x h62 (by simp only [LWl]; omega)⟩⟩
      have := (by decide : (Int32.ofInt 0).toInt = 0)
      have := (by decide : (Int32.ofInt 0).toInt = 0)
      refine En_lv (lv := [(0, .ref 159), (1, .retAddr 19), (2, .int ((Int32.ofInt 0))), (3, .int ((Int32.ofInt 0)))]) ⟨rfl, rfl, rfl, rfl, trivial⟩ ?_
      exact key39 (Int.toNat (z2.toInt) + 1) σ0 ((Int32.ofInt 0)) ((Int32.ofInt 0)) hσ0 hF0 h1 h5 h9 h13 (by omega) (by omega) (by omega) (by omega) (by omega) (ISQ_s (by decide) (by (try have i0 := Imp_m h18 (by omega)); simp only [LWl]; omega))
    · refine En_Ps 1 (pc' := 16) (lv' := [(0, .ref 159), (1, .retAddr 19)]) (st' := [.ref 159]) rfl ?_
      refine En_getK (j := 8) h9 rfl rfl rfl (by decide +kernel : TG 159 = 35) (by decide +kernel) ?_
      refine En_Ps 1 (pc' := 20) (lv' := [(0, .ref 159), (1, .retAddr 19)]) (st' := [.ref 159, .int z10]) rfl ?_
      refine En_getK (j := 9) h13 rfl rfl rfl (by decide +kernel : TG 159 = 35) (by decide +kernel) ?_
      refine En_Ps 1 (pc' := 24) (lv' := [(0, .ref 159), (1, .retAddr 19)]) (st' := [.int ((z10 - z14))]) rfl ?_
      refine En_top (subI rfl rfl (by omega) (by omega)) (fun z65 h66 => ?_)
      refine En_Ps 1 (pc' := 25) (lv' := [(0, .ref 159), (1, .retAddr 19)]) (st' := [.retAddr 19, .int z65]) rfl ?_
      refine En_slen 9 5 rfl rfl (by decide) rfl ?_
      refine En_icNe _ rfl (by decide : (Int32.ofNat 5).toInt = 5) rfl (fun h67 => ?_) (fun h67 => ?_)
      · refine En_Ps 4 (pc' := 39) (lv' := [(3, .int ((Int32.ofInt 0))), (2, .int ((Int32.ofInt 0))), (0, .ref 159), (1, .retAddr 19)]) (st' := []) rfl ?_
        have key39 : ∀ (n39 : Nat) (σ70 : SG) (y68 : Int32) (y69 : Int32), WT σ70 → Fr [] σ0 σ70 → (σ70 159)[12]? = some (.int z2) → (σ70 159)[10]? = some (.int z6) → (σ70 159)[8]? = some (.int z10) → (σ70 159)[9]? = some (.int z14) → 0 ≤ y68.toInt → y68.toInt ≤ 0 → 0 ≤ y69.toInt → y69.toInt ≤ 0 → z2.toInt - y68.toInt < (n39 : Int) → ISQ By Nb 9 Sp y68.toInt y69.toInt → En 4 90 none mr_251 (P_251s9x σ0 By Nb Sp) 39 [(0, .ref 159), (1, .retAddr 19), (2, .int y68), (3, .int y69)] [] σ70 := by
          intro n39
          induction n39 with
          | zero =>
            intro σ70 y68 y69 h71 h72 h73 h74 h75 h76 h77 h78 h79 h80 h81 h82
            exfalso; omega
          | succ n39 ih39 =>
            intro σ70 y68 y69 h71 h72 h73 h74 h75 h76 h77 h78 h79 h80 h81 h82
            refine En_Ps 2 (pc' := 41) (lv' := [(0, .ref 159), (1, .retAddr 19), (2, .int y68), (3, .int y69)]) (st' := [.retAddr 19, .int y69]) rfl ?_
            refine En_slen 9 5 rfl rfl (by decide) rfl ?_
            refine En_icGe _ rfl (by decide : (Int32.ofNat 5).toInt = 5) rfl (fun hx => by exfalso; omega) (fun h83 => ?_)
            refine En_Ps 1 (pc' := 48) (lv' := [(0, .ref 159), (1, .retAddr 19), (2, .int y68), (3, .int y69)]) (st' := [.int y68]) rfl ?_
            refine En_iEq _ rfl rfl (fun h84 => ?_) (fun hx => by exfalso; omega)
            refine En_Ps 1 (pc' := 83) (lv' := [(0, .ref 159), (1, .retAddr 19), (2, .int y68), (3, .int y69)]) (st' := [.int y68]) rfl ?_
            exact En_ret (v := some (.int y68)) rfl rfl (retZ rfl rfl (by omega) (by omega)) ⟨h71, h72, y68, rfl, ⟨by omega, by omega, ISQ_x h82 (by simp only [LWl]; omega)⟩⟩
        have := (by decide : (Int32.ofInt 0).toInt = 0)
        have := (by decide : (Int32.ofInt 0).toInt = 0)
        refine En_lv (lv := [(0, .ref 159), (1, .retAddr 19), (2, .int ((Int32.ofInt 0))), (3, .int ((Int32.ofInt 0)))]) ⟨rfl, rfl, rfl, rfl, trivial⟩ ?_
        exact key39 (Int.toNat (z2.toInt) + 1) σ0 ((Int32.ofInt 0)) ((Int32.ofInt 0)) hσ0 hF0 h1 h5 h9 h13 (by omega) (by omega) (by omega) (by omega) (by omega) (ISQ_s (by decide) (by (try have i0 := Imp_m h18 (by omega)); simp only [LWl]; omega))
      · refine En_Ps 5 (pc' := 39) (lv' := [(3, .int ((Int32.ofInt 0))), (2, .int ((Int32.ofInt 1))), (0, .ref 159), (1, .retAddr 19)]) (st' := []) rfl ?_
        have key39 : ∀ (n39 : Nat) (σ87 : SG) (y85 : Int32) (y86 : Int32), WT σ87 → Fr [] σ0 σ87 → (σ87 159)[12]? = some (.int z2) → (σ87 159)[10]? = some (.int z6) → (σ87 159)[8]? = some (.int z10) → (σ87 159)[9]? = some (.int z14) → 0 ≤ y85.toInt → y85.toInt ≤ 1 → 0 ≤ y86.toInt → y86.toInt ≤ 5 → z10.toInt - y86.toInt < (n39 : Int) → ISQ By Nb 9 Sp y85.toInt y86.toInt → En 4 90 none mr_251 (P_251s9x σ0 By Nb Sp) 39 [(0, .ref 159), (1, .retAddr 19), (2, .int y85), (3, .int y86)] [] σ87 := by
          intro n39
          induction n39 with
          | zero =>
            intro σ87 y85 y86 h88 h89 h90 h91 h92 h93 h94 h95 h96 h97 h98 h99
            exfalso; omega
          | succ n39 ih39 =>
            intro σ87 y85 y86 h88 h89 h90 h91 h92 h93 h94 h95 h96 h97 h98 h99
            refine En_Ps 2 (pc' := 41) (lv' := [(0, .ref 159), (1, .retAddr 19), (2, .int y85), (3, .int y86)]) (st' := [.retAddr 19, .int y86]) rfl ?_
            refine En_slen 9 5 rfl rfl (by decide) rfl ?_
            refine En_icGe _ rfl (by decide : (Int32.ofNat 5).toInt = 5) rfl (fun h100 => ?_) (fun h100 => ?_)
            · refine En_Ps 1 (pc' := 83) (lv' := [(0, .ref 159), (1, .retAddr 19), (2, .int y85), (3, .int y86)]) (st' := [.int y85]) rfl ?_
              exact En_ret (v := some (.int y85)) rfl rfl (retZ rfl rfl (by omega) (by omega)) ⟨h88, h89, y85, rfl, ⟨by omega, by omega, ISQ_x h99 (by simp only [LWl]; omega)⟩⟩
            · refine En_Ps 1 (pc' := 48) (lv' := [(0, .ref 159), (1, .retAddr 19), (2, .int y85), (3, .int y86)]) (st' := [.int y85]) rfl ?_
              refine En_iEq _ rfl rfl (fun h101 => ?_) (fun h101 => ?_)
              · refine En_Ps 1 (pc' := 83) (lv' := [(0, .ref 159), (1, .retAddr 19), (2, .int y85), (3, .int y86)]) (st' := [.int y85]) rfl ?_
                exact En_ret (v := some (.int y85)) rfl rfl (retZ rfl rfl (by omega) (by omega)) ⟨h88, h89, y85, rfl, ⟨by omega, by omega, ISQ_x h99 (by simp only [LWl]; omega)⟩⟩
              · refine En_Ps 1 (pc' := 52) (lv' := [(0, .ref 159), (1, .retAddr 19), (2, .int y85), (3, .int y86)]) (st' := [.ref 159]) rfl ?_
                refine En_getU (j := 4) (u := 163) (g' := 39) (q := 0) rfl rfl rfl (by decide +kernel : TG 159 = 35) (by decide +kernel) h88 (by decide +kernel) (by decide +kernel) (fun h102 => ?_)
                refine En_Ps 1 (pc' := 56) (lv' := [(0, .ref 159), (1, .retAddr 19), (2, .int y85), (3, .int y86)]) (st' := [.ref 159, .ref 163]) rfl ?_
                refine En_getK (j := 9) h93 rfl rfl rfl (by decide +kernel : TG 159 = 35) (by decide +kernel) ?_
                refine En_Ps 2 (pc' := 61) (lv' := [(0, .ref 159), (1, .retAddr 19), (2, .int y85), (3, .int y86)]) (st' := [.int ((z14 + y86)), .ref 163]) rfl ?_
                refine En_top (addI rfl rfl (by omega) (by omega)) (fun z104 h105 => ?_)
                refine En_bald (l := (-128)) (u := 127) rfl rfl (by decide +kernel : TG 163 = 39) (by decide +kernel) h88 (by omega) (lnI (by decide +kernel : LN _ = 1600) (by omega)) (FTsgl (by decide +kernel)) (fun z107 h106 h108 h109 => ?_)
                refine En_Ps 2 (pc' := 64) (lv' := [(0, .ref 159), (1, .retAddr 19), (2, .int y85), (3, .int y86)]) (st' := [.int y86, .retAddr 19, .int z107]) rfl ?_
                refine En_scharX 9 5 rfl rfl rfl (by decide) (by omega) (by omega) rfl (fun z110 h111 h112 h113 => ?_)
                refine En_icNe _ rfl rfl rfl (fun h114 => ?_) (fun h114 => ?_)
                · refine En_Ps 3 (pc' := 79) (lv' := [(3, .int ((y86 + Int32.ofInt 1))), (2, .int ((Int32.ofInt 0))), (0, .ref 159), (1, .retAddr 19)]) (st' := []) rfl ?_
                  refine En_lv1 (addI rfl (by decide : (Int32.ofInt 1).toInt = 1) (by omega) (by omega)) (fun z115 h116 => ?_)
                  refine En_Ps 1 (pc' := 39) (lv' := [(3, .int z115), (2, .int ((Int32.ofInt 0))), (0, .ref 159), (1, .retAddr 19)]) (st' := []) rfl ?_
                  have := (by decide : (Int32.ofInt 0).toInt = 0)
                  refine En_lv (lv := [(0, .ref 159), (1, .retAddr 19), (2, .int ((Int32.ofInt 0))), (3, .int z115)]) ⟨rfl, rfl, rfl, rfl, trivial⟩ ?_
                  exact ih39 σ87 ((Int32.ofInt 0)) z115 h88 h89 h90 h91 h92 h93 (by omega) (by omega) (by omega) (by omega) (by omega) (ISQ_n (ML_fr hM h89 (by decide +kernel)) h99 (by omega) (by simp only [LWl]; omega) (fun _ => by omega) h106 h113 (by omega) (by omega))
                · refine En_Ps 4 (pc' := 79) (lv' := [(3, .int ((y86 + Int32.ofInt 1))), (2, .int ((Int32.ofInt 1))), (0, .ref 159), (1, .retAddr 19)]) (st' := []) rfl ?_
                  refine En_lv1 (addI rfl (by decide : (Int32.ofInt 1).toInt = 1) (by omega) (by omega)) (fun z117 h118 => ?_)
                  refine En_Ps 1 (pc' := 39) (lv' := [(3, .int z117), (2, .int ((Int32.ofInt 1))), (0, .ref 159), (1, .retAddr 19)]) (st' := []) rfl ?_
                  have := (by decide : (Int32.ofInt 1).toInt = 1)
                  refine En_lv (lv := [(0, .ref 159), (1, .retAddr 19), (2, .int ((Int32.ofInt 1))), (3, .int z117)]) ⟨rfl, rfl, rfl, rfl, trivial⟩ ?_
                  exact ih39 σ87 ((Int32.ofInt 1)) z117 h88 h89 h90 h91 h92 h93 (by omega) (by omega) (by omega) (by omega) (by omega) (ISQ_n (ML_fr hM h89 (by decide +kernel)) h99 (by omega) (by simp only [LWl]; omega) (fun _ => by omega) h106 h113 (by omega) (by omega))
        have := (by decide : (Int32.ofInt 1).toInt = 1)
        have := (by decide : (Int32.ofInt 0).toInt = 0)
        refine En_lv (lv := [(0, .ref 159), (1, .retAddr 19), (2, .int ((Int32.ofInt 1))), (3, .int ((Int32.ofInt 0)))]) ⟨rfl, rfl, rfl, rfl, trivial⟩ ?_
        exact key39 (Int.toNat (z10.toInt) + 1) σ0 ((Int32.ofInt 1)) ((Int32.ofInt 0)) hσ0 hF0 h1 h5 h9 h13 (by omega) (by omega) (by omega) (by omega) (by omega) (ISQ_s (by decide) (by (try have i0 := Imp_m h18 (by omega)); simp only [LWl]; omega))
/-- DoorSchoolModel.is(Ljava/lang/String;)Z -/
abbrev P_251s10x (σ0 : SG) (By : Int → Int) (Nb : Int) (Sp : PS) : PO := fun v σ => WT σ ∧ Fr [] σ0 σ ∧ ∃ ret : Int32, v = some (.int ret) ∧ -ret.toInt ≤ 0 ∧ ret.toInt - 1 ≤ 0 ∧ ret.toInt = iW By Nb 10 Sp
set_option maxRecDepth 10000 in
set_option maxHeartbeats 4000000 in
theorem c_251s10x {By : Int → Int} {Nb : Int} {Sp : PS} (σ0 : SG) (hσ0 : WT σ0) (hM : ML By Nb σ0 Sp) : En 4 90 none mr_251 (P_251s10x σ0 By Nb Sp) 0 [(0, .ref 159), (1, .retAddr 21)] [] σ0 := by
  have hF0 : Fr [] σ0 σ0 := Fr_rfl
  obtain ⟨z2, h1, h3, h4⟩ := WT_peekI hσ0 (by decide +kernel : TG 159 = 35) (by decide +kernel : FT 35 12 = (0, 0, 3)) (by decide +kernel)
  obtain ⟨z6, h5, h7, h8⟩ := WT_peekI hσ0 (by decide +kernel : TG 159 = 35) (by decide +kernel : FT 35 10 = (0, 0, 4)) (by decide +kernel)
  obtain ⟨z10, h9, h11, h12⟩ := WT_peekI hσ0 (by decide +kernel : TG 159 = 35) (by decide +kernel : FT 35 8 = (0, 0, 1600)) (by decide +kernel)
  obtain ⟨z14, h13, h15, h16⟩ := WT_peekI hσ0 (by decide +kernel : TG 159 = 35) (by decide +kernel : FT 35 9 = (0, 0, 1600)) (by decide +kernel)
  have h17 := ML_k hM h1
  have h18 : Imp (Sp.1 = 0) (tK By Nb Sp.2.2.1 = z6.toInt) := ML_t hM h5
  have h19 := ML_fa hM h9 h13
  refine En_Ps 1 (pc' := 1) (lv' := [(0, .ref 159), (1, .retAddr 21)]) (st' := [.ref 159]) rfl ?_
  refine En_callV rfl rfl rfl rfl rfl rfl rfl rfl (by decide +kernel : TG 159 = 35) (by decide +kernel) rfl (c_237 σ0 hσ0 z2 h1) (by decide) (by decide) (fun v21 σ22 h20 => ?_)
  obtain ⟨h23, h24, z26, rfl, h25⟩ := h20
  obtain rfl : σ0 = σ22 := Fr_nil h24
  refine En_iEq _ rfl rfl (fun h27 => ?_) (fun h27 => ?_)
  · have h28 := Imp_m h25.2.2.2 (by omega)
    refine En_Ps 4 (pc' := 39) (lv' := [(3, .int ((Int32.ofInt 0))), (2, .int ((Int32.ofInt 0))), (0, .ref 159), (1, .retAddr 21)]) (st' := []) rfl ?_
    have key39 : ∀ (n39 : Nat) (σ31 : SG) (y29 : Int32) (y30 : Int32), WT σ31 → Fr [] σ0 σ31 → (σ31 159)[12]? = some (.int z2) → (σ31 159)[10]? = some (.int z6) → (σ31 159)[8]? = some (.int z10) → (σ31 159)[9]? = some (.int z14) → 0 ≤ y29.toInt → y29.toInt ≤ 0 → 0 ≤ y30.toInt → y30.toInt ≤ 0 → z2.toInt - y29.toInt < (n39 : Int) → ISQ By Nb 10 Sp y29.toInt y30.toInt → En 4 90 none mr_251 (P_251s10x σ0 By Nb Sp) 39 [(0, .ref 159), (1, .retAddr 21), (2, .int y29), (3, .int y30)] [] σ31 := by
      intro n39
      induction n39 with
      | zero =>
        intro σ31 y29 y30 h32 h33 h34 h35 h36 h37 h38 h39 h40 h41 h42 h43
        exfalso; omega
      | succ n39 ih39 =>
        intro σ31 y29 y30 h32 h33 h34 h35 h36 h37 h38 h39 h40 h41 h42 h43
        refine En_Ps 2 (pc' := 41) (lv' := [(0, .ref 159), (1, .retAddr 21), (2, .int y29), (3, .int y30)]) (st' := [.retAddr 21, .int y30]) rfl ?_
        refine En_slen 10 6 rfl rfl (by decide) rfl ?_
        refine En_icGe _ rfl (by decide : (Int32.ofNat 6).toInt = 6) rfl (fun hx => by exfalso; omega) (fun h44 => ?_)
        refine En_Ps 1 (pc' := 48) (lv' := [(0, .ref 159), (1, .retAddr 21), (2, .int y29), (3, .int y30)]) (st' := [.int y29]) rfl ?_
        refine En_iEq _ rfl rfl (fun h45 => ?_) (fun hx => by exfalso; omega)
        refine En_Ps 1 (pc' := 83) (lv' := [(0, .ref 159), (1, .retAddr 21), (2, .int y29), (3, .int y30)]) (st' := [.int y29]) rfl ?_
        exact En_ret (v := some (.int y29)) rfl rfl (retZ rfl rfl (by omega) (by omega)) ⟨h32, h33, y29, rfl, ⟨by omega, by omega, ISQ_x h43 (by simp only [LWl]; omega)⟩⟩
    have := (by decide : (Int32.ofInt 0).toInt = 0)
    have := (by decide : (Int32.ofInt 0).toInt = 0)
    refine En_lv (lv := [(0, .ref 159), (1, .retAddr 21), (2, .int ((Int32.ofInt 0))), (3, .int ((Int32.ofInt 0)))]) ⟨rfl, rfl, rfl, rfl, trivial⟩ ?_
    exact key39 (Int.toNat (z2.toInt) + 1) σ0 ((Int32.ofInt 0)) ((Int32.ofInt 0)) hσ0 hF0 h1 h5 h9 h13 (by omega) (by omega) (by omega) (by omega) (by omega) (ISQ_s (by decide) (by (try have i0 := Imp_m h18 (by omega)); simp only [LWl]; omega))
  · have h46 := Imp_m h25.2.2.1 (by omega)
    refine En_Ps 1 (pc' := 8) (lv' := [(0, .ref 159), (1, .retAddr 21)]) (st' := [.ref 159]) rfl ?_
    refine En_getK (j := 10) h5 rfl rfl rfl (by decide +kernel : TG 159 = 35) (by decide +kernel) ?_
    refine En_Ps 1 (pc' := 12) (lv' := [(0, .ref 159), (1, .retAddr 21)]) (st' := [.int ((Int32.ofInt 1)), .int z6]) rfl ?_
    refine En_icNe _ rfl (by decide : (Int32.ofInt 1).toInt = 1) rfl (fun h47 => ?_) (fun h47 => ?_)
    · refine En_Ps 4 (pc' := 39) (lv' := [(3, .int ((Int32.ofInt 0))), (2, .int ((Int32.ofInt 0))), (0, .ref 159), (1, .retAddr 21)]) (st' := []) rfl ?_
      have key39 : ∀ (n39 : Nat) (σ50 : SG) (y48 : Int32) (y49 : Int32), WT σ50 → Fr [] σ0 σ50 → (σ50 159)[12]? = some (.int z2) → (σ50 159)[10]? = some (.int z6) → (σ50 159)[8]? = some (.int z10) → (σ50 159)[9]? = some (.int z14) → 0 ≤ y48.toInt → y48.toInt ≤ 0 → 0 ≤ y49.toInt → y49.toInt ≤ 0 → z2.toInt - y48.toInt < (n39 : Int) → ISQ By Nb 10 Sp y48.toInt y49.toInt → En 4 90 none mr_251 (P_251s10x σ0 By Nb Sp) 39 [(0, .ref 159), (1, .retAddr 21), (2, .int y48), (3, .int y49)] [] σ50 := by
        intro n39
        induction n39 with
        | zero =>
          intro σ50 y48 y49 h51 h52 h53 h54 h55 h56 h57 h58 h59 h60 h61 h62
          exfalso; omega
        | succ n39 ih39 =>
          intro σ50 y48 y49 h51 h52 h53 h54 h55 h56 h57 h58 h59 h60 h61 h62
          refine En_Ps 2 (pc' := 41) (lv' := [(0, .ref 159), (1, .retAddr 21), (2, .int y48), (3, .int y49)]) (st' := [.retAddr 21, .int y49]) rfl ?_
          refine En_slen 10 6 rfl rfl (by decide) rfl ?_
          refine En_icGe _ rfl (by decide : (Int32.ofNat 6).toInt = 6) rfl (fun hx => by exfalso; omega) (fun h63 => ?_)
          refine En_Ps 1 (pc' := 48) (lv' := [(0, .ref 159), (1, .retAddr 21), (2, .int y48), (3, .int y49)]) (st' := [.int y48]) rfl ?_
          refine En_iEq _ rfl rfl (fun h64 => ?_) (fun hx => by exfalso; omega)
          refine En_Ps 1 (pc' := 83) (lv' := [(0, .ref 159), (1, .retAddr 21), (2, .int y48), (3, .int y49)]) (st' := [.int y48]) rfl ?_
          exact En_ret (v := some (.int y48)) rfl rfl (retZ rfl rfl (by omega) (by omega)) ⟨h51, h52, y48, rfl, ⟨by omega, by omega, ISQ_x h62 (by simp only [LWl]; omega)⟩⟩
      have := (by decide : (Int32.ofInt 0).toInt = 0)
      have := (by decide : (Int32.ofInt 0).toInt = 0)
      refine En_lv (lv := [(0, .ref 159), (1, .retAddr 21), (2, .int ((Int32.ofInt 0))), (3, .int ((Int32.ofInt 0)))]) ⟨rfl, rfl, rfl, rfl, trivial⟩ ?_
      exact key39 (Int.toNat (z2.toInt) + 1) σ0 ((Int32.ofInt 0)) ((Int32.ofInt 0)) hσ0 hF0 h1 h5 h9 h13 (by omega) (by omega) (by omega) (by omega) (by omega) (ISQ_s (by decide) (by (try have i0 := Imp_m h18 (by omega)); simp only [LWl]; omega))
    · refine En_Ps 1 (pc' := 16) (lv' := [(0, .ref 159), (1, .retAddr 21)]) (st' := [.ref 159]) rfl ?_
      refine En_getK (j := 8) h9 rfl rfl rfl (by decide +kernel : TG 159 = 35) (by decide +kernel) ?_
      refine En_Ps 1 (pc' := 20) (lv' := [(0, .ref 159), (1, .retAddr 21)]) (st' := [.ref 159, .int z10]) rfl ?_
      refine En_getK (j := 9) h13 rfl rfl rfl (by decide +kernel : TG 159 = 35) (by decide +kernel) ?_
      refine En_Ps 1 (pc' := 24) (lv' := [(0, .ref 159), (1, .retAddr 21)]) (st' := [.int ((z10 - z14))]) rfl ?_
      refine En_top (subI rfl rfl (by omega) (by omega)) (fun z65 h66 => ?_)
      refine En_Ps 1 (pc' := 25) (lv' := [(0, .ref 159), (1, .retAddr 21)]) (st' := [.retAddr 21, .int z65]) rfl ?_
      refine En_slen 10 6 rfl rfl (by decide) rfl ?_
      refine En_icNe _ rfl (by decide : (Int32.ofNat 6).toInt = 6) rfl (fun h67 => ?_) (fun h67 => ?_)
      · refine En_Ps 4 (pc' := 39) (lv' := [(3, .int ((Int32.ofInt 0))), (2, .int ((Int32.ofInt 0))), (0, .ref 159), (1, .retAddr 21)]) (st' := []) rfl ?_
        have key39 : ∀ (n39 : Nat) (σ70 : SG) (y68 : Int32) (y69 : Int32), WT σ70 → Fr [] σ0 σ70 → (σ70 159)[12]? = some (.int z2) → (σ70 159)[10]? = some (.int z6) → (σ70 159)[8]? = some (.int z10) → (σ70 159)[9]? = some (.int z14) → 0 ≤ y68.toInt → y68.toInt ≤ 0 → 0 ≤ y69.toInt → y69.toInt ≤ 0 → z2.toInt - y68.toInt < (n39 : Int) → ISQ By Nb 10 Sp y68.toInt y69.toInt → En 4 90 none mr_251 (P_251s10x σ0 By Nb Sp) 39 [(0, .ref 159), (1, .retAddr 21), (2, .int y68), (3, .int y69)] [] σ70 := by
          intro n39
          induction n39 with
          | zero =>
            intro σ70 y68 y69 h71 h72 h73 h74 h75 h76 h77 h78 h79 h80 h81 h82
            exfalso; omega
          | succ n39 ih39 =>
            intro σ70 y68 y69 h71 h72 h73 h74 h75 h76 h77 h78 h79 h80 h81 h82
            refine En_Ps 2 (pc' := 41) (lv' := [(0, .ref 159), (1, .retAddr 21), (2, .int y68), (3, .int y69)]) (st' := [.retAddr 21, .int y69]) rfl ?_
            refine En_slen 10 6 rfl rfl (by decide) rfl ?_
            refine En_icGe _ rfl (by decide : (Int32.ofNat 6).toInt = 6) rfl (fun hx => by exfalso; omega) (fun h83 => ?_)
            refine En_Ps 1 (pc' := 48) (lv' := [(0, .ref 159), (1, .retAddr 21), (2, .int y68), (3, .int y69)]) (st' := [.int y68]) rfl ?_
            refine En_iEq _ rfl rfl (fun h84 => ?_) (fun hx => by exfalso; omega)
            refine En_Ps 1 (pc' := 83) (lv' := [(0, .ref 159), (1, .retAddr 21), (2, .int y68), (3, .int y69)]) (st' := [.int y68]) rfl ?_
            exact En_ret (v := some (.int y68)) rfl rfl (retZ rfl rfl (by omega) (by omega)) ⟨h71, h72, y68, rfl, ⟨by omega, by omega, ISQ_x h82 (by simp only [LWl]; omega)⟩⟩
        have := (by decide : (Int32.ofInt 0).toInt = 0)
        have := (by decide : (Int32.ofInt 0).toInt = 0)
        refine En_lv (lv := [(0, .ref 159), (1, .retAddr 21), (2, .int ((Int32.ofInt 0))), (3, .int ((Int32.ofInt 0)))]) ⟨rfl, rfl, rfl, rfl, trivial⟩ ?_
        exact key39 (Int.toNat (z2.toInt) + 1) σ0 ((Int32.ofInt 0)) ((Int32.ofInt 0)) hσ0 hF0 h1 h5 h9 h13 (by omega) (by omega) (by omega) (by omega) (by omega) (ISQ_s (by decide) (by (try have i0 := Imp_m h18 (by omega)); simp only [LWl]; omega))
      · refine En_Ps 5 (pc' := 39) (lv' := [(3, .int ((Int32.ofInt 0))), (2, .int ((Int32.ofInt 1))), (0, .ref 159), (1, .retAddr 21)]) (st' := []) rfl ?_
        have key39 : ∀ (n39 : Nat) (σ87 : SG) (y85 : Int32) (y86 : Int32), WT σ87 → Fr [] σ0 σ87 → (σ87 159)[12]? = some (.int z2) → (σ87 159)[10]? = some (.int z6) → (σ87 159)[8]? = some (.int z10) → (σ87 159)[9]? = some (.int z14) → 0 ≤ y85.toInt → y85.toInt ≤ 1 → 0 ≤ y86.toInt → y86.toInt ≤ 6 → z10.toInt - y86.toInt < (n39 : Int) → ISQ By Nb 10 Sp y85.toInt y86.toInt → En 4 90 none mr_251 (P_251s10x σ0 By Nb Sp) 39 [(0, .ref 159), (1, .retAddr 21), (2, .int y85), (3, .int y86)] [] σ87 := by
          intro n39
          induction n39 with
          | zero =>
            intro σ87 y85 y86 h88 h89 h90 h91 h92 h93 h94 h95 h96 h97 h98 h99
            exfalso; omega
          | succ n39 ih39 =>
            intro σ87 y85 y86 h88 h89 h90 h91 h92 h93 h94 h95 h96 h97 h98 h99
            refine En_Ps 2 (pc' := 41) (lv' := [(0, .ref 159), (1, .retAddr 21), (2, .int y85), (3, .int y86)]) (st' := [.retAddr 21, .int y86]) rfl ?_
            refine En_slen 10 6 rfl rfl (by decide) rfl ?_
            refine En_icGe _ rfl (by decide : (Int32.ofNat 6).toInt = 6) rfl (fun h100 => ?_) (fun h100 => ?_)
            · refine En_Ps 1 (pc' := 83) (lv' := [(0, .ref 159), (1, .retAddr 21), (2, .int y85), (3, .int y86)]) (st' := [.int y85]) rfl ?_
              exact En_ret (v := some (.int y85)) rfl rfl (retZ rfl rfl (by omega) (by omega)) ⟨h88, h89, y85, rfl, ⟨by omega, by omega, ISQ_x h99 (by simp only [LWl]; omega)⟩⟩
            · refine En_Ps 1 (pc' := 48) (lv' := [(0, .ref 159), (1, .retAddr 21), (2, .int y85), (3, .int y86)]) (st' := [.int y85]) rfl ?_
              refine En_iEq _ rfl rfl (fun h101 => ?_) (fun h101 => ?_)
              · refine En_Ps 1 (pc' := 83) (lv' := [(0, .ref 159), (1, .retAddr 21), (2, .int y85), (3, .int y86)]) (st' := [.int y85]) rfl ?_
                exact En_ret (v := some (.int y85)) rfl rfl (retZ rfl rfl (by omega) (by omega)) ⟨h88, h89, y85, rfl, ⟨by omega, by omega, ISQ_x h99 (by simp only [LWl]; omega)⟩⟩
              · refine En_Ps 1 (pc' := 52) (lv' := [(0, .ref 159), (1, .retAddr 21), (2, .int y85), (3, .int y86)]) (st' := [.ref 159]) rfl ?_
                refine En_getU (j := 4) (u := 163) (g' := 39) (q := 0) rfl rfl rfl (by decide +kernel : TG 159 = 35) (by decide +kernel) h88 (by decide +kernel) (by decide +kernel) (fun h102 => ?_)
                refine En_Ps 1 (pc' := 56) (lv' := [(0, .ref 159), (1, .retAddr 21), (2, .int y85), (3, .int y86)]) (st' := [.ref 159, .ref 163]) rfl ?_
                refine En_getK (j := 9) h93 rfl rfl rfl (by decide +kernel : TG 159 = 35) (by decide +kernel) ?_
                refine En_Ps 2 (pc' := 61) (lv' := [(0, .ref 159), (1, .retAddr 21), (2, .int y85), (3, .int y86)]) (st' := [.int ((z14 + y86)), .ref 163]) rfl ?_
                refine En_top (addI rfl rfl (by omega) (by omega)) (fun z104 h105 => ?_)
                refine En_bald (l := (-128)) (u := 127) rfl rfl (by decide +kernel : TG 163 = 39) (by decide +kernel) h88 (by omega) (lnI (by decide +kernel : LN _ = 1600) (by omega)) (FTsgl (by decide +kernel)) (fun z107 h106 h108 h109 => ?_)
                refine En_Ps 2 (pc' := 64) (lv' := [(0, .ref 159), (1, .retAddr 21), (2, .int y85), (3, .int y86)]) (st' := [.int y86, .retAddr 21, .int z107]) rfl ?_
                refine En_scharX 10 6 rfl rfl rfl (by decide) (by omega) (by omega) rfl (fun z110 h111 h112 h113 => ?_)
                refine En_icNe _ rfl rfl rfl (fun h114 => ?_) (fun h114 => ?_)
                · refine En_Ps 3 (pc' := 79) (lv' := [(3, .int ((y86 + Int32.ofInt 1))), (2, .int ((Int32.ofInt 0))), (0, .ref 159), (1, .retAddr 21)]) (st' := []) rfl ?_
                  refine En_lv1 (addI rfl (by decide : (Int32.ofInt 1).toInt = 1) (by omega) (by omega)) (fun z115 h116 => ?_)
                  refine En_Ps 1 (pc' := 39) (lv' := [(3, .int z115), (2, .int ((Int32.ofInt 0))), (0, .ref 159), (1, .retAddr 21)]) (st' := []) rfl ?_
                  have := (by decide : (Int32.ofInt 0).toInt = 0)
                  refine En_lv (lv := [(0, .ref 159), (1, .retAddr 21), (2, .int ((Int32.ofInt 0))), (3, .int z115)]) ⟨rfl, rfl, rfl, rfl, trivial⟩ ?_
                  exact ih39 σ87 ((Int32.ofInt 0)) z115 h88 h89 h90 h91 h92 h93 (by omega) (by omega) (by omega) (by omega) (by omega) (ISQ_n (ML_fr hM h89 (by decide +kernel)) h99 (by omega) (by simp only [LWl]; omega) (fun _ => by omega) h106 h113 (by omega) (by omega))
                · refine En_Ps 4 (pc' := 79) (lv' := [(3, .int ((y86 + Int32.ofInt 1))), (2, .int ((Int32.ofInt 1))), (0, .ref 159), (1, .retAddr 21)]) (st' := []) rfl ?_
                  refine En_lv1 (addI rfl (by decide : (Int32.ofInt 1).toInt = 1) (by omega) (by omega)) (fun z117 h118 => ?_)
                  refine En_Ps 1 (pc' := 39) (lv' := [(3, .int z117), (2, .int ((Int32.ofInt 1))), (0, .ref 159), (1, .retAddr 21)]) (st' := []) rfl ?_
                  have := (by decide : (Int32.ofInt 1).toInt = 1)
                  refine En_lv (lv := [(0, .ref 159), (1, .retAddr 21), (2, .int ((Int32.ofInt 1))), (3, .int z117)]) ⟨rfl, rfl, rfl, rfl, trivial⟩ ?_
                  exact ih39 σ87 ((Int32.ofInt 1)) z117 h88 h89 h90 h91 h92 h93 (by omega) (by omega) (by omega) (by omega) (by omega) (ISQ_n (ML_fr hM h89 (by decide +kernel)) h99 (by omega) (by simp only [LWl]; omega) (fun _ => by omega) h106 h113 (by omega) (by omega))
        have := (by decide : (Int32.ofInt 1).toInt = 1)
        have := (by decide : (Int32.ofInt 0).toInt = 0)
        refine En_lv (lv := [(0, .ref 159), (1, .retAddr 21), (2, .int ((Int32.ofInt 1))), (3, .int ((Int32.ofInt 0)))]) ⟨rfl, rfl, rfl, rfl, trivial⟩ ?_
        exact key39 (Int.toNat (z10.toInt) + 1) σ0 ((Int32.ofInt 1)) ((Int32.ofInt 0)) hσ0 hF0 h1 h5 h9 h13 (by omega) (by omega) (by omega) (by omega) (by omega) (ISQ_s (by decide) (by (try have i0 := Imp_m h18 (by omega)); simp only [LWl]; omega))
/-- DoorSchoolModel.is(Ljava/lang/String;)Z -/
abbrev P_251s11x (σ0 : SG) (By : Int → Int) (Nb : Int) (Sp : PS) : PO := fun v σ => WT σ ∧ Fr [] σ0 σ ∧ ∃ ret : Int32, v = some (.int ret) ∧ -ret.toInt ≤ 0 ∧ ret.toInt - 1 ≤ 0 ∧ ret.toInt = iW By Nb 11 Sp
set_option maxRecDepth 10000 in
set_option maxHeartbeats 4000000 in
theorem c_251s11x {By : Int → Int} {Nb : Int} {Sp : PS} (σ0 : SG) (hσ0 : WT σ0) (hM : ML By Nb σ0 Sp) : En 4 90 none mr_251 (P_251s11x σ0 By Nb Sp) 0 [(0, .ref 159), (1, .retAddr 23)] [] σ0 := by
  have hF0 : Fr [] σ0 σ0 := Fr_rfl
  obtain ⟨z2, h1, h3, h4⟩ := WT_peekI hσ0 (by decide +kernel : TG 159 = 35) (by decide +kernel : FT 35 12 = (0, 0, 3)) (by decide +kernel)
  obtain ⟨z6, h5, h7, h8⟩ := WT_peekI hσ0 (by decide +kernel : TG 159 = 35) (by decide +kernel : FT 35 10 = (0, 0, 4)) (by decide +kernel)
  obtain ⟨z10, h9, h11, h12⟩ := WT_peekI hσ0 (by decide +kernel : TG 159 = 35) (by decide +kernel : FT 35 8 = (0, 0, 1600)) (by decide +kernel)
  obtain ⟨z14, h13, h15, h16⟩ := WT_peekI hσ0 (by decide +kernel : TG 159 = 35) (by decide +kernel : FT 35 9 = (0, 0, 1600)) (by decide +kernel)
  have h17 := ML_k hM h1
  have h18 : Imp (Sp.1 = 0) (tK By Nb Sp.2.2.1 = z6.toInt) := ML_t hM h5
  have h19 := ML_fa hM h9 h13
  refine En_Ps 1 (pc' := 1) (lv' := [(0, .ref 159), (1, .retAddr 23)]) (st' := [.ref 159]) rfl ?_
  refine En_callV rfl rfl rfl rfl rfl rfl rfl rfl (by decide +kernel : TG 159 = 35) (by decide +kernel) rfl (c_237 σ0 hσ0 z2 h1) (by decide) (by decide) (fun v21 σ22 h20 => ?_)
  obtain ⟨h23, h24, z26, rfl, h25⟩ := h20
  obtain rfl : σ0 = σ22 := Fr_nil h24
  refine En_iEq _ rfl rfl (fun h27 => ?_) (fun h27 => ?_)
  · have h28 := Imp_m h25.2.2.2 (by omega)
    refine En_Ps 4 (pc' := 39) (lv' := [(3, .int ((Int32.ofInt 0))), (2, .int ((Int32.ofInt 0))), (0, .ref 159), (1, .retAddr 23)]) (st' := []) rfl ?_
    have key39 : ∀ (n39 : Nat) (σ31 : SG) (y29 : Int32) (y30 : Int32), WT σ31 → Fr [] σ0 σ31 → (σ31 159)[12]? = some (.int z2) → (σ31 159)[10]? = some (.int z6) → (σ31 159)[8]? = some (.int z10) → (σ31 159)[9]? = some (.int z14) → 0 ≤ y29.toInt → y29.toInt ≤ 0 → 0 ≤ y30.toInt → y30.toInt ≤ 0 → z2.toInt - y29.toInt < (n39 : Int) → ISQ By Nb 11 Sp y29.toInt y30.toInt → En 4 90 none mr_251 (P_251s11x σ0 By Nb Sp) 39 [(0, .ref 159), (1, .retAddr 23), (2, .int y29), (3, .int y30)] [] σ31 := by
      intro n39
      induction n39 with
      | zero =>
        intro σ31 y29 y30 h32 h33 h34 h35 h36 h37 h38 h39 h40 h41 h42 h43
        exfalso; omega
      | succ n39 ih39 =>
        intro σ31 y29 y30 h32 h33 h34 h35 h36 h37 h38 h39 h40 h41 h42 h43
        refine En_Ps 2 (pc' := 41) (lv' := [(0, .ref 159), (1, .retAddr 23), (2, .int y29), (3, .int y30)]) (st' := [.retAddr 23, .int y30]) rfl ?_
        refine En_slen 11 8 rfl rfl (by decide) rfl ?_
        refine En_icGe _ rfl (by decide : (Int32.ofNat 8).toInt = 8) rfl (fun hx => by exfalso; omega) (fun h44 => ?_)
        refine En_Ps 1 (pc' := 48) (lv' := [(0, .ref 159), (1, .retAddr 23), (2, .int y29), (3, .int y30)]) (st' := [.int y29]) rfl ?_
        refine En_iEq _ rfl rfl (fun h45 => ?_) (fun hx => by exfalso; omega)
        refine En_Ps 1 (pc' := 83) (lv' := [(0, .ref 159), (1, .retAddr 23), (2, .int y29), (3, .int y30)]) (st' := [.int y29]) rfl ?_
        exact En_ret (v := some (.int y29)) rfl rfl (retZ rfl rfl (by omega) (by omega)) ⟨h32, h33, y29, rfl, ⟨by omega, by omega, ISQ_x h43 (by simp only [LWl]; omega)⟩⟩
    have := (by decide : (Int32.ofInt 0).toInt = 0)
    have := (by decide : (Int32.ofInt 0).toInt = 0)
    refine En_lv (lv := [(0, .ref 159), (1, .retAddr 23), (2, .int ((Int32.ofInt 0))), (3, .int ((Int32.ofInt 0)))]) ⟨rfl, rfl, rfl, rfl, trivial⟩ ?_
    exact key39 (Int.toNat (z2.toInt) + 1) σ0 ((Int32.ofInt 0)) ((Int32.ofInt 0)) hσ0 hF0 h1 h5 h9 h13 (by omega) (by omega) (by omega) (by omega) (by omega) (ISQ_s (by decide) (by (try have i0 := Imp_m h18 (by omega)); simp only [LWl]; omega))
  · have h46 := Imp_m h25.2.2.1 (by omega)
    refine En_Ps 1 (pc' := 8) (lv' := [(0, .ref 159), (1, .retAddr 23)]) (st' := [.ref 159]) rfl ?_
    refine En_getK (j := 10) h5 rfl rfl rfl (by decide +kernel : TG 159 = 35) (by decide +kernel) ?_
    refine En_Ps 1 (pc' := 12) (lv' := [(0, .ref 159), (1, .retAddr 23)]) (st' := [.int ((Int32.ofInt 1)), .int z6]) rfl ?_
    refine En_icNe _ rfl (by decide : (Int32.ofInt 1).toInt = 1) rfl (fun h47 => ?_) (fun h47 => ?_)
    · refine En_Ps 4 (pc' := 39) (lv' := [(3, .int ((Int32.ofInt 0))), (2, .int ((Int32.ofInt 0))), (0, .ref 159), (1, .retAddr 23)]) (st' := []) rfl ?_
      have key39 : ∀ (n39 : Nat) (σ50 : SG) (y48 : Int32) (y49 : Int32), WT σ50 → Fr [] σ0 σ50 → (σ50 159)[12]? = some (.int z2) → (σ50 159)[10]? = some (.int z6) → (σ50 159)[8]? = some (.int z10) → (σ50 159)[9]? = some (.int z14) → 0 ≤ y48.toInt → y48.toInt ≤ 0 → 0 ≤ y49.toInt → y49.toInt ≤ 0 → z2.toInt - y48.toInt < (n39 : Int) → ISQ By Nb 11 Sp y48.toInt y49.toInt → En 4 90 none mr_251 (P_251s11x σ0 By Nb Sp) 39 [(0, .ref 159), (1, .retAddr 23), (2, .int y48), (3, .int y49)] [] σ50 := by
        intro n39
        induction n39 with
        | zero =>
          intro σ50 y48 y49 h51 h52 h53 h54 h55 h56 h57 h58 h59 h60 h61 h62
          exfalso; omega
        | succ n39 ih39 =>
          intro σ50 y48 y49 h51 h52 h53 h54 h55 h56 h57 h58 h59 h60 h61 h62
          refine En_Ps 2 (pc' := 41) (lv' := [(0, .ref 159), (1, .retAddr 23), (2, .int y48), (3, .int y49)]) (st' := [.retAddr 23, .int y49]) rfl ?_
          refine En_slen 11 8 rfl rfl (by decide) rfl ?_
          refine En_icGe _ rfl (by decide : (Int32.ofNat 8).toInt = 8) rfl (fun hx => by exfalso; omega) (fun h63 => ?_)
          refine En_Ps 1 (pc' := 48) (lv' := [(0, .ref 159), (1, .retAddr 23), (2, .int y48), (3, .int y49)]) (st' := [.int y48]) rfl ?_
          refine En_iEq _ rfl rfl (fun h64 => ?_) (fun hx => by exfalso; omega)
          refine En_Ps 1 (pc' := 83) (lv' := [(0, .ref 159), (1, .retAddr 23), (2, .int y48), (3, .int y49)]) (st' := [.int y48]) rfl ?_
          exact En_ret (v := some (.int y48)) rfl rfl (retZ rfl rfl (by omega) (by omega)) ⟨h51, h52, y48, rfl, ⟨by omega, by omega, ISQ_x h62 (by simp only [LWl]; omega)⟩⟩
      have := (by decide : (Int32.ofInt 0).toInt = 0)
      have := (by decide : (Int32.ofInt 0).toInt = 0)
      refine En_lv (lv := [(0, .ref 159), (1, .retAddr 23), (2, .int ((Int32.ofInt 0))), (3, .int ((Int32.ofInt 0)))]) ⟨rfl, rfl, rfl, rfl, trivial⟩ ?_
      exact key39 (Int.toNat (z2.toInt) + 1) σ0 ((Int32.ofInt 0)) ((Int32.ofInt 0)) hσ0 hF0 h1 h5 h9 h13 (by omega) (by omega) (by omega) (by omega) (by omega) (ISQ_s (by decide) (by (try have i0 := Imp_m h18 (by omega)); simp only [LWl]; omega))
    · refine En_Ps 1 (pc' := 16) (lv' := [(0, .ref 159), (1, .retAddr 23)]) (st' := [.ref 159]) rfl ?_
      refine En_getK (j := 8) h9 rfl rfl rfl (by decide +kernel : TG 159 = 35) (by decide +kernel) ?_
      refine En_Ps 1 (pc' := 20) (lv' := [(0, .ref 159), (1, .retAddr 23)]) (st' := [.ref 159, .int z10]) rfl ?_
      refine En_getK (j := 9) h13 rfl rfl rfl (by decide +kernel : TG 159 = 35) (by decide +kernel) ?_
      refine En_Ps 1 (pc' := 24) (lv' := [(0, .ref 159), (1, .retAddr 23)]) (st' := [.int ((z10 - z14))]) rfl ?_
      refine En_top (subI rfl rfl (by omega) (by omega)) (fun z65 h66 => ?_)
      refine En_Ps 1 (pc' := 25) (lv' := [(0, .ref 159), (1, .retAddr 23)]) (st' := [.retAddr 23, .int z65]) rfl ?_
      refine En_slen 11 8 rfl rfl (by decide) rfl ?_
      refine En_icNe _ rfl (by decide : (Int32.ofNat 8).toInt = 8) rfl (fun h67 => ?_) (fun h67 => ?_)
      · refine En_Ps 4 (pc' := 39) (lv' := [(3, .int ((Int32.ofInt 0))), (2, .int ((Int32.ofInt 0))), (0, .ref 159), (1, .retAddr 23)]) (st' := []) rfl ?_
        have key39 : ∀ (n39 : Nat) (σ70 : SG) (y68 : Int32) (y69 : Int32), WT σ70 → Fr [] σ0 σ70 → (σ70 159)[12]? = some (.int z2) → (σ70 159)[10]? = some (.int z6) → (σ70 159)[8]? = some (.int z10) → (σ70 159)[9]? = some (.int z14) → 0 ≤ y68.toInt → y68.toInt ≤ 0 → 0 ≤ y69.toInt → y69.toInt ≤ 0 → z2.toInt - y68.toInt < (n39 : Int) → ISQ By Nb 11 Sp y68.toInt y69.toInt → En 4 90 none mr_251 (P_251s11x σ0 By Nb Sp) 39 [(0, .ref 159), (1, .retAddr 23), (2, .int y68), (3, .int y69)] [] σ70 := by
          intro n39
          induction n39 with
          | zero =>
            intro σ70 y68 y69 h71 h72 h73 h74 h75 h76 h77 h78 h79 h80 h81 h82
            exfalso; omega
          | succ n39 ih39 =>
            intro σ70 y68 y69 h71 h72 h73 h74 h75 h76 h77 h78 h79 h80 h81 h82
            refine En_Ps 2 (pc' := 41) (lv' := [(0, .ref 159), (1, .retAddr 23), (2, .int y68), (3, .int y69)]) (st' := [.retAddr 23, .int y69]) rfl ?_
            refine En_slen 11 8 rfl rfl (by decide) rfl ?_
            refine En_icGe _ rfl (by decide : (Int32.ofNat 8).toInt = 8) rfl (fun hx => by exfalso; omega) (fun h83 => ?_)
            refine En_Ps 1 (pc' := 48) (lv' := [(0, .ref 159), (1, .retAddr 23), (2, .int y68), (3, .int y69)]) (st' := [.int y68]) rfl ?_
            refine En_iEq _ rfl rfl (fun h84 => ?_) (fun hx => by exfalso; omega)
            refine En_Ps 1 (pc' := 83) (lv' := [(0, .ref 159), (1, .retAddr 23), (2, .int y68), (3, .int y69)]) (st' := [.int y68]) rfl ?_
            exact En_ret (v := some (.int y68)) rfl rfl (retZ rfl rfl (by omega) (by omega)) ⟨h71, h72, y68, rfl, ⟨by omega, by omega, ISQ_x h82 (by simp only [LWl]; omega)⟩⟩
        have := (by decide : (Int32.ofInt 0).toInt = 0)
        have := (by decide : (Int32.ofInt 0).toInt = 0)
        refine En_lv (lv := [(0, .ref 159), (1, .retAddr 23), (2, .int ((Int32.ofInt 0))), (3, .int ((Int32.ofInt 0)))]) ⟨rfl, rfl, rfl, rfl, trivial⟩ ?_
        exact key39 (Int.toNat (z2.toInt) + 1) σ0 ((Int32.ofInt 0)) ((Int32.ofInt 0)) hσ0 hF0 h1 h5 h9 h13 (by omega) (by omega) (by omega) (by omega) (by omega) (ISQ_s (by decide) (by (try have i0 := Imp_m h18 (by omega)); simp only [LWl]; omega))
      · refine En_Ps 5 (pc' := 39) (lv' := [(3, .int ((Int32.ofInt 0))), (2, .int ((Int32.ofInt 1))), (0, .ref 159), (1, .retAddr 23)]) (st' := []) rfl ?_
        have key39 : ∀ (n39 : Nat) (σ87 : SG) (y85 : Int32) (y86 : Int32), WT σ87 → Fr [] σ0 σ87 → (σ87 159)[12]? = some (.int z2) → (σ87 159)[10]? = some (.int z6) → (σ87 159)[8]? = some (.int z10) → (σ87 159)[9]? = some (.int z14) → 0 ≤ y85.toInt → y85.toInt ≤ 1 → 0 ≤ y86.toInt → y86.toInt ≤ 8 → z10.toInt - y86.toInt < (n39 : Int) → ISQ By Nb 11 Sp y85.toInt y86.toInt → En 4 90 none mr_251 (P_251s11x σ0 By Nb Sp) 39 [(0, .ref 159), (1, .retAddr 23), (2, .int y85), (3, .int y86)] [] σ87 := by
          intro n39
          induction n39 with
          | zero =>
            intro σ87 y85 y86 h88 h89 h90 h91 h92 h93 h94 h95 h96 h97 h98 h99
            exfalso; omega
          | succ n39 ih39 =>
            intro σ87 y85 y86 h88 h89 h90 h91 h92 h93 h94 h95 h96 h97 h98 h99
            refine En_Ps 2 (pc' := 41) (lv' := [(0, .ref 159), (1, .retAddr 23), (2, .int y85), (3, .int y86)]) (st' := [.retAddr 23, .int y86]) rfl ?_
            refine En_slen 11 8 rfl rfl (by decide) rfl ?_
            refine En_icGe _ rfl (by decide : (Int32.ofNat 8).toInt = 8) rfl (fun h100 => ?_) (fun h100 => ?_)
            · refine En_Ps 1 (pc' := 83) (lv' := [(0, .ref 159), (1, .retAddr 23), (2, .int y85), (3, .int y86)]) (st' := [.int y85]) rfl ?_
              exact En_ret (v := some (.int y85)) rfl rfl (retZ rfl rfl (by omega) (by omega)) ⟨h88, h89, y85, rfl, ⟨by omega, by omega, ISQ_x h99 (by simp only [LWl]; omega)⟩⟩
            · refine En_Ps 1 (pc' := 48) (lv' := [(0, .ref 159), (1, .retAddr 23), (2, .int y85), (3, .int y86)]) (st' := [.int y85]) rfl ?_
              refine En_iEq _ rfl rfl (fun h101 => ?_) (fun h101 => ?_)
              · refine En_Ps 1 (pc' := 83) (lv' := [(0, .ref 159), (1, .retAddr 23), (2, .int y85), (3, .int y86)]) (st' := [.int y85]) rfl ?_
                exact En_ret (v := some (.int y85)) rfl rfl (retZ rfl rfl (by omega) (by omega)) ⟨h88, h89, y85, rfl, ⟨by omega, by omega, ISQ_x h99 (by simp only [LWl]; omega)⟩⟩
              · refine En_Ps 1 (pc' := 52) (lv' := [(0, .ref 159), (1, .retAddr 23), (2, .int y85), (3, .int y86)]) (st' := [.ref 159]) rfl ?_
                refine En_getU (j := 4) (u := 163) (g' := 39) (q := 0) rfl rfl rfl (by decide +kernel : TG 159 = 35) (by decide +kernel) h88 (by decide +kernel) (by decide +kernel) (fun h102 => ?_)
                refine En_Ps 1 (pc' := 56) (lv' := [(0, .ref 159), (1, .retAddr 23), (2, .int y85), (3, .int y86)]) (st' := [.ref 159, .ref 163]) rfl ?_
                refine En_getK (j := 9) h93 rfl rfl rfl (by decide +kernel : TG 159 = 35) (by decide +kernel) ?_
                refine En_Ps 2 (pc' := 61) (lv' := [(0, .ref 159), (1, .retAddr 23), (2, .int y85), (3, .int y86)]) (st' := [.int ((z14 + y86)), .ref 163]) rfl ?_
                refine En_top (addI rfl rfl (by omega) (by omega)) (fun z104 h105 => ?_)
                refine En_bald (l := (-128)) (u := 127) rfl rfl (by decide +kernel : TG 163 = 39) (by decide +kernel) h88 (by omega) (lnI (by decide +kernel : LN _ = 1600) (by omega)) (FTsgl (by decide +kernel)) (fun z107 h106 h108 h109 => ?_)
                refine En_Ps 2 (pc' := 64) (lv' := [(0, .ref 159), (1, .retAddr 23), (2, .int y85), (3, .int y86)]) (st' := [.int y86, .retAddr 23, .int z107]) rfl ?_
                refine En_scharX 11 8 rfl rfl rfl (by decide) (by omega) (by omega) rfl (fun z110 h111 h112 h113 => ?_)
                refine En_icNe _ rfl rfl rfl (fun h114 => ?_) (fun h114 => ?_)
                · refine En_Ps 3 (pc' := 79) (lv' := [(3, .int ((y86 + Int32.ofInt 1))), (2, .int ((Int32.ofInt 0))), (0, .ref 159), (1, .retAddr 23)]) (st' := []) rfl ?_
                  refine En_lv1 (addI rfl (by decide : (Int32.ofInt 1).toInt = 1) (by omega) (by omega)) (fun z115 h116 => ?_)
                  refine En_Ps 1 (pc' := 39) (lv' := [(3, .int z115), (2, .int ((Int32.ofInt 0))), (0, .ref 159), (1, .retAddr 23)]) (st' := []) rfl ?_
                  have := (by decide : (Int32.ofInt 0).toInt = 0)
                  refine En_lv (lv := [(0, .ref 159), (1, .retAddr 23), (2, .int ((Int32.ofInt 0))), (3, .int z115)]) ⟨rfl, rfl, rfl, rfl, trivial⟩ ?_
                  exact ih39 σ87 ((Int32.ofInt 0)) z115 h88 h89 h90 h91 h92 h93 (by omega) (by omega) (by omega) (by omega) (by omega) (ISQ_n (ML_fr hM h89 (by decide +kernel)) h99 (by omega) (by simp only [LWl]; omega) (fun _ => by omega) h106 h113 (by omega) (by omega))
                · refine En_Ps 4 (pc' := 79) (lv' := [(3, .int ((y86 + Int32.ofInt 1))), (2, .int ((Int32.ofInt 1))), (0, .ref 159), (1, .retAddr 23)]) (st' := []) rfl ?_
                  refine En_lv1 (addI rfl (by decide : (Int32.ofInt 1).toInt = 1) (by omega) (by omega)) (fun z117 h118 => ?_)
                  refine En_Ps 1 (pc' := 39) (lv' := [(3, .int z117), (2, .int ((Int32.ofInt 1))), (0, .ref 159), (1, .retAddr 23)]) (st' := []) rfl ?_
                  have := (by decide : (Int32.ofInt 1).toInt = 1)
                  refine En_lv (lv := [(0, .ref 159), (1, .retAddr 23), (2, .int ((Int32.ofInt 1))), (3, .int z117)]) ⟨rfl, rfl, rfl, rfl, trivial⟩ ?_
                  exact ih39 σ87 ((Int32.ofInt 1)) z117 h88 h89 h90 h91 h92 h93 (by omega) (by omega) (by omega) (by omega) (by omega) (ISQ_n (ML_fr hM h89 (by decide +kernel)) h99 (by omega) (by simp only [LWl]; omega) (fun _ => by omega) h106 h113 (by omega) (by omega))
        have := (by decide : (Int32.ofInt 1).toInt = 1)
        have := (by decide : (Int32.ofInt 0).toInt = 0)
        refine En_lv (lv := [(0, .ref 159), (1, .retAddr 23), (2, .int ((Int32.ofInt 1))), (3, .int ((Int32.ofInt 0)))]) ⟨rfl, rfl, rfl, rfl, trivial⟩ ?_
        exact key39 (Int.toNat (z10.toInt) + 1) σ0 ((Int32.ofInt 1)) ((Int32.ofInt 0)) hσ0 hF0 h1 h5 h9 h13 (by omega) (by omega) (by omega) (by omega) (by omega) (ISQ_s (by decide) (by (try have i0 := Imp_m h18 (by omega)); simp only [LWl]; omega))

