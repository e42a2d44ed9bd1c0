/-- DoorSchool$Reader.step()V -/
abbrev P_72x (σ0 : SG) (By : Int → Int) (Nb : Int) (p : Int32) : PO := fun v σ => WT σ ∧ Fr [(3, 1), (3, 2), (3, 3), (3, 4)] σ0 σ ∧ v = none ∧ (TPc By Nb σ ∧ TKc By Nb p.toInt σ)
set_option maxRecDepth 10000 in
set_option maxHeartbeats 4000000 in
theorem c_72x {By : Int → Int} {Nb : Int} (σ0 : SG) (hσ0 : WT σ0) (p : Int32) (h_p : (σ0 3)[3]? = some (.int p)) (hT : TPc By Nb σ0) (hf : p.toInt ≤ Nb) : En 1 22 none mr_72 (P_72x σ0 By Nb p) 0 [(0, .ref 3)] [] σ0 := by
  obtain ⟨hl_p, hu_p⟩ := WT_int hσ0 (g := 3) (by decide +kernel) (by decide +kernel) (l := 0) (u := 1600) (by decide +kernel) h_p
  have hF0 : Fr [(3, 1), (3, 2), (3, 3), (3, 4)] σ0 σ0 := Fr_rfl
  refine En_Ps 2 (pc' := 2) (lv' := [(0, .ref 3)]) (st' := [.ref 3, .ref 3]) rfl ?_
  refine En_getK (j := 3) h_p rfl rfl rfl tgz_3 (by decide +kernel) ?_
  refine En_put (j := 2) rfl rfl rfl tgz_3 (by decide +kernel) rfl (vI (l := 0) (u := 1600) (by decide +kernel) rfl (by omega) (by omega)) hσ0 hF0 (by decide +kernel) (fun σ1 h2 h3 h4 h5 => ?_)
  have key8 : ∀ (n8 : Nat) (σ7 : SG) (y6 : Int32), WT σ7 → Fr [(3, 1), (3, 2), (3, 3), (3, 4)] σ0 σ7 → (σ7 3)[3]? = some (.int p) → (σ7 3)[2]? = some (.int y6) → 0 ≤ y6.toInt → y6.toInt ≤ 1600 → p.toInt - y6.toInt ≤ 0 → -y6.toInt + 1600 < (n8 : Int) → tS By Nb (y6.toInt) = tS By Nb p.toInt → y6.toInt ≤ Nb → En 1 22 none mr_72 (P_72x σ0 By Nb p) 8 [(0, .ref 3)] [] σ7 := by
    intro n8
    induction n8 with
    | zero =>
      intro σ7 y6 h8 h9 h10 h11 h12 h13 h14 h15 h16 h17
      exfalso; omega
    | succ n8 ih8 =>
      intro σ7 y6 h8 h9 h10 h11 h12 h13 h14 h15 h16 h17
      refine En_Ps 1 (pc' := 9) (lv' := [(0, .ref 3)]) (st' := [.ref 3]) rfl ?_
      refine En_getK (j := 2) h11 rfl rfl rfl tgz_3 (by decide +kernel) ?_
      refine En_Ps 1 (pc' := 13) (lv' := [(0, .ref 3)]) (st' := [.ref 3, .int y6]) rfl ?_
      refine En_getU (j := 0) (u := 1) (g' := 1) (q := 0) rfl rfl rfl tgz_3 (by decide +kernel) h8 (by decide +kernel) (by decide +kernel) (fun h18 => ?_)
      refine En_getI (j := 1) (l := 0) (u := 1600) rfl rfl rfl tgz_1 (by decide +kernel) h8 (by decide +kernel) (fun z21 h20 h22 h23 => ?_)
      refine En_icGe _ rfl rfl rfl (fun h24 => ?_) (fun h24 => ?_)
      · have h25 := Nb_c (TPc_fr hT h9 (by decide +kernel)) h20
        have h26 : tS By Nb p.toInt = y6.toInt := BLc_no h16 (by omega)
        refine En_Ps 3 (pc' := 56) (lv' := [(0, .ref 3)]) (st' := [.ref 3, .ref 3, .ref 3]) rfl ?_
        refine En_getK (j := 2) h11 rfl rfl rfl tgz_3 (by decide +kernel) ?_
        refine En_callV rfl rfl rfl rfl rfl rfl rfl rfl tgz_3 (by decide +kernel) rfl (c_57x σ7 h8 y6 (geI rfl (by omega)) (leI rfl (by omega)) z21 h20 (TPc_fr hT h9 (by decide +kernel))) (by decide) (by decide) (fun v28 σ29 h27 => ?_)
        obtain ⟨h30, h31, z33, rfl, h32⟩ := h27
        have h34 := h32.2.2.2
        obtain rfl : σ7 = σ29 := Fr_nil h31
        have h35 := h34
        refine En_put (j := 1) rfl rfl rfl tgz_3 (by decide +kernel) rfl (vI (l := 0) (u := 4) (by decide +kernel) rfl (by omega) (by omega)) h8 h9 (by decide +kernel) (fun σ36 h37 h38 h39 h40 => ?_)
        refine En_Ps 2 (pc' := 67) (lv' := [(0, .ref 3)]) (st' := [.int ((Int32.ofInt 0)), .ref 3]) rfl ?_
        have := fullI ((Int32.ofInt 0))
        refine En_put (j := 4) rfl rfl rfl tgz_3 (by decide +kernel) rfl (vI (l := (-2147483648)) (u := 1000000) (by decide +kernel) (by decide : (Int32.ofInt 0).toInt = 0) (by omega) (by omega)) h37 h38 (by decide +kernel) (fun σ41 h42 h43 h44 h45 => ?_)
        refine En_Ps 2 (pc' := 72) (lv' := [(0, .ref 3)]) (st' := [.ref 3, .ref 3]) rfl ?_
        refine En_getK (j := 2) ((h45 _ _ (Or.inr (by decide))).trans ((h40 _ _ (Or.inr (by decide))).trans h11)) rfl rfl rfl tgz_3 (by decide +kernel) ?_
        refine En_put (j := 3) rfl rfl rfl tgz_3 (by decide +kernel) rfl (vI (l := 0) (u := 1600) (by decide +kernel) rfl (by omega) (by omega)) h42 h43 (by decide +kernel) (fun σ46 h47 h48 h49 h50 => ?_)
        refine En_Ps 1 (pc' := 79) (lv' := [(0, .ref 3)]) (st' := [.ref 3]) rfl ?_
        refine En_getK (j := 1) ((h50 _ _ (Or.inr (by decide))).trans ((h45 _ _ (Or.inr (by decide))).trans h39)) rfl rfl rfl tgz_3 (by decide +kernel) ?_
        refine En_Ps 1 (pc' := 83) (lv' := [(0, .ref 3)]) (st' := [.int ((Int32.ofInt 3)), .int z33]) rfl ?_
        refine En_icEq _ rfl (by decide : (Int32.ofInt 3).toInt = 3) rfl (fun hx => by exfalso; have := Imp_m h32.2.2.1 (by omega); omega) (fun h51 => ?_)
        refine En_Ps 1 (pc' := 87) (lv' := [(0, .ref 3)]) (st' := [.ref 3]) rfl ?_
        refine En_getK (j := 1) ((h50 _ _ (Or.inr (by decide))).trans ((h45 _ _ (Or.inr (by decide))).trans h39)) rfl rfl rfl tgz_3 (by decide +kernel) ?_
        refine En_Ps 1 (pc' := 91) (lv' := [(0, .ref 3)]) (st' := [.int ((Int32.ofInt 4)), .int z33]) rfl ?_
        refine En_icNe _ rfl (by decide : (Int32.ofInt 4).toInt = 4) rfl (fun h52 => ?_) (fun hx => by exfalso; have := Imp_m h32.2.2.1 (by omega); omega)
        have key104 : ∀ (n104 : Nat) (σ55 : SG) (y53 : Int32) (y54 : Int32), WT σ55 → Fr [(3, 1), (3, 2), (3, 3), (3, 4)] σ0 σ55 → (σ55 3)[2]? = some (.int y6) → (σ55 3)[0]? = some (.ref 1) → (σ55 1)[1]? = some (.int z21) → (σ55 3)[1]? = some (.int z33) → (σ55 3)[4]? = some (.int y53) → (σ55 3)[3]? = some (.int y54) → 0 ≤ y53.toInt → y53.toInt ≤ 1000000 → 0 ≤ y54.toInt → y54.toInt ≤ 1600 → 1600 - y54.toInt < (n104 : Int) → STL By Nb (z33.toInt) (y6.toInt) (y54.toInt) (y53.toInt) → y54.toInt ≤ 1600 → En 1 22 none mr_72 (P_72x σ0 By Nb p) 104 [(0, .ref 3)] [] σ55 := by
          intro n104
          induction n104 with
          | zero =>
            intro σ55 y53 y54 h56 h57 h58 h59 h60 h61 h62 h63 h64 h65 h66 h67 h68 h69 h70
            exfalso; omega
          | succ n104 ih104 =>
            intro σ55 y53 y54 h56 h57 h58 h59 h60 h61 h62 h63 h64 h65 h66 h67 h68 h69 h70
            refine En_Ps 1 (pc' := 105) (lv' := [(0, .ref 3)]) (st' := [.ref 3]) rfl ?_
            refine En_getK (j := 1) h61 rfl rfl rfl tgz_3 (by decide +kernel) ?_
            refine En_Ps 1 (pc' := 109) (lv' := [(0, .ref 3)]) (st' := [.int ((Int32.ofInt 1)), .int z33]) rfl ?_
            refine En_icEq _ rfl (by decide : (Int32.ofInt 1).toInt = 1) rfl (fun hx => by exfalso; have := Imp_m h32.2.2.1 (by omega); omega) (fun h71 => ?_)
            refine En_Ps 1 (pc' := 113) (lv' := [(0, .ref 3)]) (st' := [.ref 3]) rfl ?_
            refine En_getK (j := 1) h61 rfl rfl rfl tgz_3 (by decide +kernel) ?_
            refine En_Ps 1 (pc' := 117) (lv' := [(0, .ref 3)]) (st' := [.int ((Int32.ofInt 2)), .int z33]) rfl ?_
            refine En_icNe _ rfl (by decide : (Int32.ofInt 2).toInt = 2) rfl (fun h72 => ?_) (fun hx => by exfalso; have := Imp_m h32.2.2.1 (by omega); omega)
            have h73 := Nb_c (TPc_fr hT h57 (by decide +kernel)) h60
            have h74 := kA_ge (By := By) (Nb := Nb) (i := y54.toInt)
            exact En_ret (v := none) rfl rfl rfl ⟨h56, h57, rfl, ⟨(TPc_fr hT h57 (by decide +kernel)), TKc_of (y := y6.toInt) (k := z33.toInt) (e := y54.toInt) (by omega) hf h26 (by omega) (STL_x h69 (by omega) (by omega)) ((ci_at (j := 3) h63 rfl)) ((ci_at (j := 2) h58 rfl)) ((ci_at (j := 1) h61 rfl)) (fun zz => ((ci_at (j := 4) h62 rfl)).trans (h69.2.1 zz))⟩⟩
        have := (by decide : (Int32.ofInt 0).toInt = 0)
        exact key104 (Int.toNat (1600 - y6.toInt) + 1) σ46 ((Int32.ofInt 0)) y6 h47 h48 ((h50 _ _ (Or.inr (by decide))).trans ((h45 _ _ (Or.inr (by decide))).trans ((h40 _ _ (Or.inr (by decide))).trans h11))) ((h50 _ _ (Or.inr (by decide))).trans ((h45 _ _ (Or.inr (by decide))).trans ((h40 _ _ (Or.inr (by decide))).trans h18))) ((h50 _ _ (Or.inr (by decide))).trans ((h45 _ _ (Or.inr (by decide))).trans ((h40 _ _ (Or.inl (neTG tgz_1 tgz_3 (by decide)))).trans h20))) ((h50 _ _ (Or.inr (by decide))).trans ((h45 _ _ (Or.inr (by decide))).trans h39)) ((h50 _ _ (Or.inr (by decide))).trans h44) h49 (by omega) (by omega) (by omega) (by omega) (by omega) (STL_0 (by omega)) (by omega)
      · refine En_Ps 1 (pc' := 23) (lv' := [(0, .ref 3)]) (st' := [.ref 3]) rfl ?_
        refine En_getK (j := 0) h18 rfl rfl rfl tgz_3 (by decide +kernel) ?_
        refine En_getU (j := 0) (u := 2) (g' := 2) (q := 0) rfl rfl rfl tgz_1 (by decide +kernel) h8 (by decide +kernel) (by decide +kernel) (fun h75 => ?_)
        refine En_Ps 1 (pc' := 30) (lv' := [(0, .ref 3)]) (st' := [.ref 3, .ref 2]) rfl ?_
        refine En_getK (j := 2) h11 rfl rfl rfl tgz_3 (by decide +kernel) ?_
        refine En_bald (l := (-128)) (u := 127) rfl rfl tgz_2 (by decide +kernel) h8 (by omega) (lnI (by decide +kernel : LN _ = 1600) (by omega)) (FTsgl (by decide +kernel)) (fun z78 h77 h79 h80 => ?_)
        refine En_callS rfl rfl rfl rfl rfl rfl rfl rfl rfl (c_56x σ7 h8 z78 (geI rfl (by omega)) (leI rfl (by omega))) (by decide) (by decide) (fun v82 σ83 h81 => ?_)
        obtain ⟨h84, h85, z87, rfl, h86⟩ := h81
        have h88 := h86.2.2.2
        obtain rfl : σ7 = σ83 := Fr_nil h85
        have h89 := By_c (i := y6.toInt) (TPc_fr hT h9 (by decide +kernel)) h20 (by omega) (by omega) h77
        have h90 := h88
        refine En_iEq _ rfl rfl (fun h91 => ?_) (fun h91 => ?_)
        · have h92 := Nb_c (TPc_fr hT h9 (by decide +kernel)) h20
          have h93 : tS By Nb p.toInt = y6.toInt := BLc_no h16 (by omega)
          refine En_Ps 3 (pc' := 56) (lv' := [(0, .ref 3)]) (st' := [.ref 3, .ref 3, .ref 3]) rfl ?_
          refine En_getK (j := 2) h11 rfl rfl rfl tgz_3 (by decide +kernel) ?_
          refine En_callV rfl rfl rfl rfl rfl rfl rfl rfl tgz_3 (by decide +kernel) rfl (c_57x σ7 h8 y6 (geI rfl (by omega)) (leI rfl (by omega)) z21 h20 (TPc_fr hT h9 (by decide +kernel))) (by decide) (by decide) (fun v95 σ96 h94 => ?_)
          obtain ⟨h97, h98, z100, rfl, h99⟩ := h94
          have h101 := h99.2.2.2
          obtain rfl : σ7 = σ96 := Fr_nil h98
          have h102 := h101
          refine En_put (j := 1) rfl rfl rfl tgz_3 (by decide +kernel) rfl (vI (l := 0) (u := 4) (by decide +kernel) rfl (by omega) (by omega)) h8 h9 (by decide +kernel) (fun σ103 h104 h105 h106 h107 => ?_)
          refine En_Ps 2 (pc' := 67) (lv' := [(0, .ref 3)]) (st' := [.int ((Int32.ofInt 0)), .ref 3]) rfl ?_
          have := fullI ((Int32.ofInt 0))
          refine En_put (j := 4) rfl rfl rfl tgz_3 (by decide +kernel) rfl (vI (l := (-2147483648)) (u := 1000000) (by decide +kernel) (by decide : (Int32.ofInt 0).toInt = 0) (by omega) (by omega)) h104 h105 (by decide +kernel) (fun σ108 h109 h110 h111 h112 => ?_)
          refine En_Ps 2 (pc' := 72) (lv' := [(0, .ref 3)]) (st' := [.ref 3, .ref 3]) rfl ?_
          refine En_getK (j := 2) ((h112 _ _ (Or.inr (by decide))).trans ((h107 _ _ (Or.inr (by decide))).trans h11)) rfl rfl rfl tgz_3 (by decide +kernel) ?_
          refine En_put (j := 3) rfl rfl rfl tgz_3 (by decide +kernel) rfl (vI (l := 0) (u := 1600) (by decide +kernel) rfl (by omega) (by omega)) h109 h110 (by decide +kernel) (fun σ113 h114 h115 h116 h117 => ?_)
          refine En_Ps 1 (pc' := 79) (lv' := [(0, .ref 3)]) (st' := [.ref 3]) rfl ?_
          refine En_getK (j := 1) ((h117 _ _ (Or.inr (by decide))).trans ((h112 _ _ (Or.inr (by decide))).trans h106)) rfl rfl rfl tgz_3 (by decide +kernel) ?_
          refine En_Ps 1 (pc' := 83) (lv' := [(0, .ref 3)]) (st' := [.int ((Int32.ofInt 3)), .int z100]) rfl ?_
          refine En_icEq _ rfl (by decide : (Int32.ofInt 3).toInt = 3) rfl (fun h118 => ?_) (fun h118 => ?_)
          · have h119 := Imp_m h99.2.2.1 (by omega)
            refine En_Ps 2 (pc' := 96) (lv' := [(0, .ref 3)]) (st' := [.ref 3, .ref 3]) rfl ?_
            refine En_getK (j := 3) h116 rfl rfl rfl tgz_3 (by decide +kernel) ?_
            refine En_Ps 2 (pc' := 101) (lv' := [(0, .ref 3)]) (st' := [.int ((y6 + ((Int32.ofInt 1)))), .ref 3]) rfl ?_
            refine En_top (addI rfl (by decide : (Int32.ofInt 1).toInt = 1) (by omega) (by omega)) (fun z120 h121 => ?_)
            refine En_put (j := 3) rfl rfl rfl tgz_3 (by decide +kernel) rfl (vI (l := 0) (u := 1600) (by decide +kernel) rfl (by omega) (by omega)) h114 h115 (by decide +kernel) (fun σ122 h123 h124 h125 h126 => ?_)
            have key104 : ∀ (n104 : Nat) (σ129 : SG) (y127 : Int32) (y128 : Int32), WT σ129 → Fr [(3, 1), (3, 2), (3, 3), (3, 4)] σ0 σ129 → (σ129 3)[2]? = some (.int y6) → (σ129 3)[0]? = some (.ref 1) → (σ129 1)[1]? = some (.int z21) → (σ129 1)[0]? = some (.ref 2) → (σ129 2)[(y6.toInt).toNat]? = some (.int z78) → (σ129 3)[1]? = some (.int z100) → (σ129 3)[4]? = some (.int y127) → (σ129 3)[3]? = some (.int y128) → 0 ≤ y127.toInt → y127.toInt ≤ 1000000 → 0 ≤ y128.toInt → y128.toInt ≤ 1600 → 1600 - y128.toInt < (n104 : Int) → STL By Nb (z100.toInt) (y6.toInt) (y128.toInt) (y127.toInt) → y128.toInt ≤ 1600 → En 1 22 none mr_72 (P_72x σ0 By Nb p) 104 [(0, .ref 3)] [] σ129 := by
              intro n104
              induction n104 with
              | zero =>
                intro σ129 y127 y128 h130 h131 h132 h133 h134 h135 h136 h137 h138 h139 h140 h141 h142 h143 h144 h145 h146
                exfalso; omega
              | succ n104 ih104 =>
                intro σ129 y127 y128 h130 h131 h132 h133 h134 h135 h136 h137 h138 h139 h140 h141 h142 h143 h144 h145 h146
                refine En_Ps 1 (pc' := 105) (lv' := [(0, .ref 3)]) (st' := [.ref 3]) rfl ?_
                refine En_getK (j := 1) h137 rfl rfl rfl tgz_3 (by decide +kernel) ?_
                refine En_Ps 1 (pc' := 109) (lv' := [(0, .ref 3)]) (st' := [.int ((Int32.ofInt 1)), .int z100]) rfl ?_
                refine En_icEq _ rfl (by decide : (Int32.ofInt 1).toInt = 1) rfl (fun hx => by exfalso; omega) (fun h147 => ?_)
                refine En_Ps 1 (pc' := 113) (lv' := [(0, .ref 3)]) (st' := [.ref 3]) rfl ?_
                refine En_getK (j := 1) h137 rfl rfl rfl tgz_3 (by decide +kernel) ?_
                refine En_Ps 1 (pc' := 117) (lv' := [(0, .ref 3)]) (st' := [.int ((Int32.ofInt 2)), .int z100]) rfl ?_
                refine En_icNe _ rfl (by decide : (Int32.ofInt 2).toInt = 2) rfl (fun h148 => ?_) (fun hx => by exfalso; omega)
                have h149 := Nb_c (TPc_fr hT h131 (by decide +kernel)) h134
                have h150 := kA_ge (By := By) (Nb := Nb) (i := y128.toInt)
                exact En_ret (v := none) rfl rfl rfl ⟨h130, h131, rfl, ⟨(TPc_fr hT h131 (by decide +kernel)), TKc_of (y := y6.toInt) (k := z100.toInt) (e := y128.toInt) (by omega) hf h93 (by omega) (STL_x h145 (by omega) (by omega)) ((ci_at (j := 3) h139 rfl)) ((ci_at (j := 2) h132 rfl)) ((ci_at (j := 1) h137 rfl)) (fun zz => ((ci_at (j := 4) h138 rfl)).trans (h145.2.1 zz))⟩⟩
            have := (by decide : (Int32.ofInt 0).toInt = 0)
            exact key104 (Int.toNat (1600 - z120.toInt) + 1) σ122 ((Int32.ofInt 0)) z120 h123 h124 ((h126 _ _ (Or.inr (by decide))).trans ((h117 _ _ (Or.inr (by decide))).trans ((h112 _ _ (Or.inr (by decide))).trans ((h107 _ _ (Or.inr (by decide))).trans h11)))) ((h126 _ _ (Or.inr (by decide))).trans ((h117 _ _ (Or.inr (by decide))).trans ((h112 _ _ (Or.inr (by decide))).trans ((h107 _ _ (Or.inr (by decide))).trans h18)))) ((h126 _ _ (Or.inr (by decide))).trans ((h117 _ _ (Or.inr (by decide))).trans ((h112 _ _ (Or.inr (by decide))).trans ((h107 _ _ (Or.inl (neTG tgz_1 tgz_3 (by decide)))).trans h20)))) ((h126 _ _ (Or.inr (by decide))).trans ((h117 _ _ (Or.inr (by decide))).trans ((h112 _ _ (Or.inr (by decide))).trans ((h107 _ _ (Or.inr (by decide))).trans h75)))) ((h126 _ _ (Or.inl (neTG tgz_2 tgz_3 (by decide)))).trans ((h117 _ _ (Or.inl (neTG tgz_2 tgz_3 (by decide)))).trans ((h112 _ _ (Or.inl (neTG tgz_2 tgz_3 (by decide)))).trans ((h107 _ _ (Or.inl (neTG tgz_2 tgz_3 (by decide)))).trans h77)))) ((h126 _ _ (Or.inr (by decide))).trans ((h117 _ _ (Or.inr (by decide))).trans ((h112 _ _ (Or.inr (by decide))).trans h106))) ((h126 _ _ (Or.inr (by decide))).trans ((h117 _ _ (Or.inr (by decide))).trans h111)) h125 (by omega) (by omega) (by omega) (by omega) (by omega) (STL_0 (by omega)) (by omega)
          · refine En_Ps 1 (pc' := 87) (lv' := [(0, .ref 3)]) (st' := [.ref 3]) rfl ?_
            refine En_getK (j := 1) ((h117 _ _ (Or.inr (by decide))).trans ((h112 _ _ (Or.inr (by decide))).trans h106)) rfl rfl rfl tgz_3 (by decide +kernel) ?_
            refine En_Ps 1 (pc' := 91) (lv' := [(0, .ref 3)]) (st' := [.int ((Int32.ofInt 4)), .int z100]) rfl ?_
            refine En_icNe _ rfl (by decide : (Int32.ofInt 4).toInt = 4) rfl (fun h151 => ?_) (fun h151 => ?_)
            · have key104 : ∀ (n104 : Nat) (σ154 : SG) (y152 : Int32) (y153 : Int32), WT σ154 → Fr [(3, 1), (3, 2), (3, 3), (3, 4)] σ0 σ154 → (σ154 3)[2]? = some (.int y6) → (σ154 3)[0]? = some (.ref 1) → (σ154 1)[1]? = some (.int z21) → (σ154 1)[0]? = some (.ref 2) → (σ154 2)[(y6.toInt).toNat]? = some (.int z78) → (σ154 3)[1]? = some (.int z100) → (σ154 3)[4]? = some (.int y152) → (σ154 3)[3]? = some (.int y153) → 0 ≤ y152.toInt → y152.toInt ≤ 1000000 → 0 ≤ y153.toInt → y153.toInt ≤ 1600 → 1600 - y153.toInt < (n104 : Int) → STL By Nb (z100.toInt) (y6.toInt) (y153.toInt) (y152.toInt) → y153.toInt ≤ 1600 → En 1 22 none mr_72 (P_72x σ0 By Nb p) 104 [(0, .ref 3)] [] σ154 := by
                intro n104
                induction n104 with
                | zero =>
                  intro σ154 y152 y153 h155 h156 h157 h158 h159 h160 h161 h162 h163 h164 h165 h166 h167 h168 h169 h170 h171
                  exfalso; omega
                | succ n104 ih104 =>
                  intro σ154 y152 y153 h155 h156 h157 h158 h159 h160 h161 h162 h163 h164 h165 h166 h167 h168 h169 h170 h171
                  refine En_Ps 1 (pc' := 105) (lv' := [(0, .ref 3)]) (st' := [.ref 3]) rfl ?_
                  refine En_getK (j := 1) h162 rfl rfl rfl tgz_3 (by decide +kernel) ?_
                  refine En_Ps 1 (pc' := 109) (lv' := [(0, .ref 3)]) (st' := [.int ((Int32.ofInt 1)), .int z100]) rfl ?_
                  refine En_icEq _ rfl (by decide : (Int32.ofInt 1).toInt = 1) rfl (fun h172 => ?_) (fun h172 => ?_)
                  · have h173 := Imp_m h99.2.2.1 (by omega)
                    refine En_Ps 1 (pc' := 121) (lv' := [(0, .ref 3)]) (st' := [.ref 3]) rfl ?_
                    refine En_getK (j := 3) h164 rfl rfl rfl tgz_3 (by decide +kernel) ?_
                    refine En_Ps 1 (pc' := 125) (lv' := [(0, .ref 3)]) (st' := [.ref 3, .int y153]) rfl ?_
                    refine En_getK (j := 0) h158 rfl rfl rfl tgz_3 (by decide +kernel) ?_
                    refine En_getK (j := 1) h159 rfl rfl rfl tgz_1 (by decide +kernel) ?_
                    refine En_icGe _ rfl rfl rfl (fun h174 => ?_) (fun h174 => ?_)
                    · have h175 := Nb_c (TPc_fr hT h156 (by decide +kernel)) h159
                      have h176 := kA_ge (By := By) (Nb := Nb) (i := y153.toInt)
                      exact En_ret (v := none) rfl rfl rfl ⟨h155, h156, rfl, ⟨(TPc_fr hT h156 (by decide +kernel)), TKc_of (y := y6.toInt) (k := z100.toInt) (e := y153.toInt) (by omega) hf h93 (by omega) (STL_x h170 (by omega) (by omega)) ((ci_at (j := 3) h164 rfl)) ((ci_at (j := 2) h157 rfl)) ((ci_at (j := 1) h162 rfl)) (fun zz => ((ci_at (j := 4) h163 rfl)).trans (h170.2.1 zz))⟩⟩
                    · refine En_Ps 2 (pc' := 136) (lv' := [(0, .ref 3)]) (st' := [.ref 3, .ref 3]) rfl ?_
                      refine En_getK (j := 3) h164 rfl rfl rfl tgz_3 (by decide +kernel) ?_
                      refine En_callV rfl rfl rfl rfl rfl rfl rfl rfl tgz_3 (by decide +kernel) rfl (c_57x σ154 h155 y153 (geI rfl (by omega)) (leI rfl (by omega)) z21 h159 (TPc_fr hT h156 (by decide +kernel))) (by decide) (by decide) (fun v178 σ179 h177 => ?_)
                      obtain ⟨h180, h181, z183, rfl, h182⟩ := h177
                      have h184 := h182.2.2.2
                      obtain rfl : σ154 = σ179 := Fr_nil h181
                      have h185 := h184
                      refine En_Ps 1 (pc' := 143) (lv' := [(0, .ref 3)]) (st' := [.ref 3, .int z183]) rfl ?_
                      refine En_getK (j := 1) h162 rfl rfl rfl tgz_3 (by decide +kernel) ?_
                      refine En_icNe _ rfl rfl rfl (fun h186 => ?_) (fun h186 => ?_)
                      · have h187 := Nb_c (TPc_fr hT h156 (by decide +kernel)) h159
                        have h188 := kA_ge (By := By) (Nb := Nb) (i := y153.toInt)
                        exact En_ret (v := none) rfl rfl rfl ⟨h155, h156, rfl, ⟨(TPc_fr hT h156 (by decide +kernel)), TKc_of (y := y6.toInt) (k := z100.toInt) (e := y153.toInt) (by omega) hf h93 (by omega) (STL_x h170 (by omega) (by omega)) ((ci_at (j := 3) h164 rfl)) ((ci_at (j := 2) h157 rfl)) ((ci_at (j := 1) h162 rfl)) (fun zz => ((ci_at (j := 4) h163 rfl)).trans (h170.2.1 zz))⟩⟩
                      · have h189 := Imp_m h182.2.2.1 (by omega)
                        refine En_Ps 1 (pc' := 150) (lv' := [(0, .ref 3)]) (st' := [.ref 3]) rfl ?_
                        refine En_getK (j := 1) h162 rfl rfl rfl tgz_3 (by decide +kernel) ?_
                        refine En_Ps 1 (pc' := 154) (lv' := [(0, .ref 3)]) (st' := [.int ((Int32.ofInt 2)), .int z100]) rfl ?_
                        refine En_icNe _ rfl (by decide : (Int32.ofInt 2).toInt = 2) rfl (fun h190 => ?_) (fun hx => by exfalso; omega)
                        have h191 : z100.toInt = 2 → y152.toInt = min 1000000 (10 * y152.toInt + By (y153.toInt) - 48) := fun zz => by omega
                        refine En_Ps 2 (pc' := 191) (lv' := [(0, .ref 3)]) (st' := [.ref 3, .ref 3]) rfl ?_
                        refine En_getK (j := 3) h164 rfl rfl rfl tgz_3 (by decide +kernel) ?_
                        refine En_Ps 2 (pc' := 196) (lv' := [(0, .ref 3)]) (st' := [.int ((y153 + ((Int32.ofInt 1)))), .ref 3]) rfl ?_
                        refine En_top (addI rfl (by decide : (Int32.ofInt 1).toInt = 1) (by omega) (by omega)) (fun z192 h193 => ?_)
                        refine En_put (j := 3) rfl rfl rfl tgz_3 (by decide +kernel) rfl (vI (l := 0) (u := 1600) (by decide +kernel) rfl (by omega) (by omega)) h155 h156 (by decide +kernel) (fun σ194 h195 h196 h197 h198 => ?_)
                        refine En_Ps 1 (pc' := 104) (lv' := [(0, .ref 3)]) (st' := []) rfl ?_
                        exact ih104 σ194 y152 z192 h195 h196 ((h198 _ _ (Or.inr (by decide))).trans h157) ((h198 _ _ (Or.inr (by decide))).trans h158) ((h198 _ _ (Or.inr (by decide))).trans h159) ((h198 _ _ (Or.inr (by decide))).trans h160) ((h198 _ _ (Or.inl (neTG tgz_2 tgz_3 (by decide)))).trans h161) ((h198 _ _ (Or.inr (by decide))).trans h162) ((h198 _ _ (Or.inr (by decide))).trans h163) h197 (by omega) (by omega) (by omega) (by omega) (by omega) (STL_s (e := y153.toInt) h170 (by omega) (by omega) (by omega) (fun zz => h191 zz)) (by omega)
                  · refine En_Ps 1 (pc' := 113) (lv' := [(0, .ref 3)]) (st' := [.ref 3]) rfl ?_
                    refine En_getK (j := 1) h162 rfl rfl rfl tgz_3 (by decide +kernel) ?_
                    refine En_Ps 1 (pc' := 117) (lv' := [(0, .ref 3)]) (st' := [.int ((Int32.ofInt 2)), .int z100]) rfl ?_
                    refine En_icNe _ rfl (by decide : (Int32.ofInt 2).toInt = 2) rfl (fun h199 => ?_) (fun h199 => ?_)
                    · have h200 := Nb_c (TPc_fr hT h156 (by decide +kernel)) h159
                      have h201 := kA_ge (By := By) (Nb := Nb) (i := y153.toInt)
                      exact En_ret (v := none) rfl rfl rfl ⟨h155, h156, rfl, ⟨(TPc_fr hT h156 (by decide +kernel)), TKc_of (y := y6.toInt) (k := z100.toInt) (e := y153.toInt) (by omega) hf h93 (by omega) (STL_x h170 (by omega) (by omega)) ((ci_at (j := 3) h164 rfl)) ((ci_at (j := 2) h157 rfl)) ((ci_at (j := 1) h162 rfl)) (fun zz => ((ci_at (j := 4) h163 rfl)).trans (h170.2.1 zz))⟩⟩
                    · have h202 := Imp_m h99.2.2.1 (by omega)
                      refine En_Ps 1 (pc' := 121) (lv' := [(0, .ref 3)]) (st' := [.ref 3]) rfl ?_
                      refine En_getK (j := 3) h164 rfl rfl rfl tgz_3 (by decide +kernel) ?_
                      refine En_Ps 1 (pc' := 125) (lv' := [(0, .ref 3)]) (st' := [.ref 3, .int y153]) rfl ?_
                      refine En_getK (j := 0) h158 rfl rfl rfl tgz_3 (by decide +kernel) ?_
                      refine En_getK (j := 1) h159 rfl rfl rfl tgz_1 (by decide +kernel) ?_
                      refine En_icGe _ rfl rfl rfl (fun h203 => ?_) (fun h203 => ?_)
                      · have h204 := Nb_c (TPc_fr hT h156 (by decide +kernel)) h159
                        have h205 := kA_ge (By := By) (Nb := Nb) (i := y153.toInt)
                        exact En_ret (v := none) rfl rfl rfl ⟨h155, h156, rfl, ⟨(TPc_fr hT h156 (by decide +kernel)), TKc_of (y := y6.toInt) (k := z100.toInt) (e := y153.toInt) (by omega) hf h93 (by omega) (STL_x h170 (by omega) (by omega)) ((ci_at (j := 3) h164 rfl)) ((ci_at (j := 2) h157 rfl)) ((ci_at (j := 1) h162 rfl)) (fun zz => ((ci_at (j := 4) h163 rfl)).trans (h170.2.1 zz))⟩⟩
                      · refine En_Ps 2 (pc' := 136) (lv' := [(0, .ref 3)]) (st' := [.ref 3, .ref 3]) rfl ?_
                        refine En_getK (j := 3) h164 rfl rfl rfl tgz_3 (by decide +kernel) ?_
                        refine En_callV rfl rfl rfl rfl rfl rfl rfl rfl tgz_3 (by decide +kernel) rfl (c_57x σ154 h155 y153 (geI rfl (by omega)) (leI rfl (by omega)) z21 h159 (TPc_fr hT h156 (by decide +kernel))) (by decide) (by decide) (fun v207 σ208 h206 => ?_)
                        obtain ⟨h209, h210, z212, rfl, h211⟩ := h206
                        have h213 := h211.2.2.2
                        obtain rfl : σ154 = σ208 := Fr_nil h210
                        have h214 := h213
                        refine En_Ps 1 (pc' := 143) (lv' := [(0, .ref 3)]) (st' := [.ref 3, .int z212]) rfl ?_
                        refine En_getK (j := 1) h162 rfl rfl rfl tgz_3 (by decide +kernel) ?_
                        refine En_icNe _ rfl rfl rfl (fun h215 => ?_) (fun h215 => ?_)
                        · have h216 := Nb_c (TPc_fr hT h156 (by decide +kernel)) h159
                          have h217 := kA_ge (By := By) (Nb := Nb) (i := y153.toInt)
                          exact En_ret (v := none) rfl rfl rfl ⟨h155, h156, rfl, ⟨(TPc_fr hT h156 (by decide +kernel)), TKc_of (y := y6.toInt) (k := z100.toInt) (e := y153.toInt) (by omega) hf h93 (by omega) (STL_x h170 (by omega) (by omega)) ((ci_at (j := 3) h164 rfl)) ((ci_at (j := 2) h157 rfl)) ((ci_at (j := 1) h162 rfl)) (fun zz => ((ci_at (j := 4) h163 rfl)).trans (h170.2.1 zz))⟩⟩
                        · have h218 := Imp_m h211.2.2.1 (by omega)
                          refine En_Ps 1 (pc' := 150) (lv' := [(0, .ref 3)]) (st' := [.ref 3]) rfl ?_
                          refine En_getK (j := 1) h162 rfl rfl rfl tgz_3 (by decide +kernel) ?_
                          refine En_Ps 1 (pc' := 154) (lv' := [(0, .ref 3)]) (st' := [.int ((Int32.ofInt 2)), .int z100]) rfl ?_
                          refine En_icNe _ rfl (by decide : (Int32.ofInt 2).toInt = 2) rfl (fun hx => by exfalso; omega) (fun h219 => ?_)
                          refine En_Ps 3 (pc' := 161) (lv' := [(0, .ref 3)]) (st' := [.ref 3, .int (((Int8.ofInt 10).toInt32)), .ref 3]) rfl ?_
                          refine En_getK (j := 4) h163 rfl rfl rfl tgz_3 (by decide +kernel) ?_
                          refine En_Ps 1 (pc' := 165) (lv' := [(0, .ref 3)]) (st' := [.int (((((Int8.ofInt 10).toInt32)) * y152)), .ref 3]) rfl ?_
                          refine En_top (mulI (by decide : ((Int8.ofInt 10).toInt32).toInt = 10) rfl (Z := 10 * y152.toInt) (by omega) (by omega) (by omega)) (fun z220 h221 => ?_)
                          refine En_Ps 1 (pc' := 166) (lv' := [(0, .ref 3)]) (st' := [.ref 3, .int z220, .ref 3]) rfl ?_
                          refine En_getK (j := 0) h158 rfl rfl rfl tgz_3 (by decide +kernel) ?_
                          refine En_getK (j := 0) h160 rfl rfl rfl tgz_1 (by decide +kernel) ?_
                          refine En_Ps 1 (pc' := 173) (lv' := [(0, .ref 3)]) (st' := [.ref 3, .ref 2, .int z220, .ref 3]) rfl ?_
                          refine En_getK (j := 3) h164 rfl rfl rfl tgz_3 (by decide +kernel) ?_
                          refine En_bald (l := (-128)) (u := 127) rfl rfl tgz_2 (by decide +kernel) h155 (by omega) (lnI (by decide +kernel : LN _ = 1600) (by omega)) (FTsgl (by decide +kernel)) (fun z223 h222 h224 h225 => ?_)
                          have h226 := kA_c (i := y153.toInt) (TPc_fr hT h156 (by decide +kernel)) h159 (fun _ => h222) (by omega)
                          refine En_Ps 1 (pc' := 178) (lv' := [(0, .ref 3)]) (st' := [.int ((z220 + z223)), .ref 3]) rfl ?_
                          refine En_top (addI rfl rfl (by omega) (by omega)) (fun z227 h228 => ?_)
                          refine En_Ps 2 (pc' := 181) (lv' := [(0, .ref 3)]) (st' := [.int ((z227 - (((Int8.ofInt 48).toInt32)))), .ref 3]) rfl ?_
                          refine En_top (subI rfl (by decide : ((Int8.ofInt 48).toInt32).toInt = 48) (by omega) (by omega)) (fun z229 h230 => ?_)
                          refine En_Ps 1 (pc' := 183) (lv' := [(0, .ref 3)]) (st' := [.int ((1000000 : Int32)), .int z229, .ref 3]) rfl ?_
                          have := (by decide : ((1000000 : Int32)).toInt = 1000000)
                          refine En_callS rfl rfl rfl rfl rfl rfl rfl rfl rfl (c_11 σ154 h155 z229 ((1000000 : Int32))) (by decide) (by decide) (fun v232 σ233 h231 => ?_)
                          obtain ⟨h234, h235, z237, rfl, h236⟩ := h231
                          obtain rfl : σ154 = σ233 := Fr_nil h235
                          have := fullI z237
                          refine En_put (j := 4) rfl rfl rfl tgz_3 (by decide +kernel) rfl (vI (l := (-2147483648)) (u := 1000000) (by decide +kernel) rfl (by omega) (by omega)) h155 h156 (by decide +kernel) (fun σ238 h239 h240 h241 h242 => ?_)
                          have h244 := By_c (i := y153.toInt) (TPc_fr hT h240 (by decide +kernel)) ((h242 _ _ (Or.inr (by decide))).trans h159) (by omega) (by omega) ((h242 _ _ (Or.inl (neTG tgz_2 tgz_3 (by decide)))).trans h222)
                          have h243 : z100.toInt = 2 → z237.toInt = min 1000000 (10 * y152.toInt + By (y153.toInt) - 48) := fun zz => by omega
                          refine En_Ps 2 (pc' := 191) (lv' := [(0, .ref 3)]) (st' := [.ref 3, .ref 3]) rfl ?_
                          refine En_getK (j := 3) ((h242 _ _ (Or.inr (by decide))).trans h164) rfl rfl rfl tgz_3 (by decide +kernel) ?_
                          refine En_Ps 2 (pc' := 196) (lv' := [(0, .ref 3)]) (st' := [.int ((y153 + ((Int32.ofInt 1)))), .ref 3]) rfl ?_
                          refine En_top (addI rfl (by decide : (Int32.ofInt 1).toInt = 1) (by omega) (by omega)) (fun z245 h246 => ?_)
                          refine En_put (j := 3) rfl rfl rfl tgz_3 (by decide +kernel) rfl (vI (l := 0) (u := 1600) (by decide +kernel) rfl (by omega) (by omega)) h239 h240 (by decide +kernel) (fun σ247 h248 h249 h250 h251 => ?_)
                          refine En_Ps 1 (pc' := 104) (lv' := [(0, .ref 3)]) (st' := []) rfl ?_
                          exact ih104 σ247 z237 z245 h248 h249 ((h251 _ _ (Or.inr (by decide))).trans ((h242 _ _ (Or.inr (by decide))).trans h157)) ((h251 _ _ (Or.inr (by decide))).trans ((h242 _ _ (Or.inr (by decide))).trans h158)) ((h251 _ _ (Or.inr (by decide))).trans ((h242 _ _ (Or.inr (by decide))).trans h159)) ((h251 _ _ (Or.inr (by decide))).trans ((h242 _ _ (Or.inr (by decide))).trans h160)) ((h251 _ _ (Or.inl (neTG tgz_2 tgz_3 (by decide)))).trans ((h242 _ _ (Or.inl (neTG tgz_2 tgz_3 (by decide)))).trans h161)) ((h251 _ _ (Or.inr (by decide))).trans ((h242 _ _ (Or.inr (by decide))).trans h162)) ((h251 _ _ (Or.inr (by decide))).trans h241) h250 (by omega) (by omega) (by omega) (by omega) (by omega) (STL_s (e := y153.toInt) h170 (by omega) (by omega) (by omega) (fun zz => h243 zz)) (by omega)
              have := (by decide : (Int32.ofInt 0).toInt = 0)
              exact key104 (Int.toNat (1600 - y6.toInt) + 1) σ113 ((Int32.ofInt 0)) y6 h114 h115 ((h117 _ _ (Or.inr (by decide))).trans ((h112 _ _ (Or.inr (by decide))).trans ((h107 _ _ (Or.inr (by decide))).trans h11))) ((h117 _ _ (Or.inr (by decide))).trans ((h112 _ _ (Or.inr (by decide))).trans ((h107 _ _ (Or.inr (by decide))).trans h18))) ((h117 _ _ (Or.inr (by decide))).trans ((h112 _ _ (Or.inr (by decide))).trans ((h107 _ _ (Or.inl (neTG tgz_1 tgz_3 (by decide)))).trans h20))) ((h117 _ _ (Or.inr (by decide))).trans ((h112 _ _ (Or.inr (by decide))).trans ((h107 _ _ (Or.inr (by decide))).trans h75))) ((h117 _ _ (Or.inl (neTG tgz_2 tgz_3 (by decide)))).trans ((h112 _ _ (Or.inl (neTG tgz_2 tgz_3 (by decide)))).trans ((h107 _ _ (Or.inl (neTG tgz_2 tgz_3 (by decide)))).trans h77))) ((h117 _ _ (Or.inr (by decide))).trans ((h112 _ _ (Or.inr (by decide))).trans h106)) ((h117 _ _ (Or.inr (by decide))).trans h111) h116 (by omega) (by omega) (by omega) (by omega) (by omega) (STL_0 (by omega)) (by omega)
            · have h252 := Imp_m h99.2.2.1 (by omega)
              refine En_Ps 2 (pc' := 96) (lv' := [(0, .ref 3)]) (st' := [.ref 3, .ref 3]) rfl ?_
              refine En_getK (j := 3) h116 rfl rfl rfl tgz_3 (by decide +kernel) ?_
              refine En_Ps 2 (pc' := 101) (lv' := [(0, .ref 3)]) (st' := [.int ((y6 + ((Int32.ofInt 1)))), .ref 3]) rfl ?_
              refine En_top (addI rfl (by decide : (Int32.ofInt 1).toInt = 1) (by omega) (by omega)) (fun z253 h254 => ?_)
              refine En_put (j := 3) rfl rfl rfl tgz_3 (by decide +kernel) rfl (vI (l := 0) (u := 1600) (by decide +kernel) rfl (by omega) (by omega)) h114 h115 (by decide +kernel) (fun σ255 h256 h257 h258 h259 => ?_)
              have key104 : ∀ (n104 : Nat) (σ262 : SG) (y260 : Int32) (y261 : Int32), WT σ262 → Fr [(3, 1), (3, 2), (3, 3), (3, 4)] σ0 σ262 → (σ262 3)[2]? = some (.int y6) → (σ262 3)[0]? = some (.ref 1) → (σ262 1)[1]? = some (.int z21) → (σ262 1)[0]? = some (.ref 2) → (σ262 2)[(y6.toInt).toNat]? = some (.int z78) → (σ262 3)[1]? = some (.int z100) → (σ262 3)[4]? = some (.int y260) → (σ262 3)[3]? = some (.int y261) → 0 ≤ y260.toInt → y260.toInt ≤ 1000000 → 0 ≤ y261.toInt → y261.toInt ≤ 1600 → 1600 - y261.toInt < (n104 : Int) → STL By Nb (z100.toInt) (y6.toInt) (y261.toInt) (y260.toInt) → y261.toInt ≤ 1600 → En 1 22 none mr_72 (P_72x σ0 By Nb p) 104 [(0, .ref 3)] [] σ262 := by
                intro n104
                induction n104 with
                | zero =>
                  intro σ262 y260 y261 h263 h264 h265 h266 h267 h268 h269 h270 h271 h272 h273 h274 h275 h276 h277 h278 h279
                  exfalso; omega
                | succ n104 ih104 =>
                  intro σ262 y260 y261 h263 h264 h265 h266 h267 h268 h269 h270 h271 h272 h273 h274 h275 h276 h277 h278 h279
                  refine En_Ps 1 (pc' := 105) (lv' := [(0, .ref 3)]) (st' := [.ref 3]) rfl ?_
                  refine En_getK (j := 1) h270 rfl rfl rfl tgz_3 (by decide +kernel) ?_
                  refine En_Ps 1 (pc' := 109) (lv' := [(0, .ref 3)]) (st' := [.int ((Int32.ofInt 1)), .int z100]) rfl ?_
                  refine En_icEq _ rfl (by decide : (Int32.ofInt 1).toInt = 1) rfl (fun hx => by exfalso; omega) (fun h280 => ?_)
                  refine En_Ps 1 (pc' := 113) (lv' := [(0, .ref 3)]) (st' := [.ref 3]) rfl ?_
                  refine En_getK (j := 1) h270 rfl rfl rfl tgz_3 (by decide +kernel) ?_
                  refine En_Ps 1 (pc' := 117) (lv' := [(0, .ref 3)]) (st' := [.int ((Int32.ofInt 2)), .int z100]) rfl ?_
                  refine En_icNe _ rfl (by decide : (Int32.ofInt 2).toInt = 2) rfl (fun h281 => ?_) (fun hx => by exfalso; omega)
                  have h282 := Nb_c (TPc_fr hT h264 (by decide +kernel)) h267
                  have h283 := kA_ge (By := By) (Nb := Nb) (i := y261.toInt)
                  exact En_ret (v := none) rfl rfl rfl ⟨h263, h264, rfl, ⟨(TPc_fr hT h264 (by decide +kernel)), TKc_of (y := y6.toInt) (k := z100.toInt) (e := y261.toInt) (by omega) hf h93 (by omega) (STL_x h278 (by omega) (by omega)) ((ci_at (j := 3) h272 rfl)) ((ci_at (j := 2) h265 rfl)) ((ci_at (j := 1) h270 rfl)) (fun zz => ((ci_at (j := 4) h271 rfl)).trans (h278.2.1 zz))⟩⟩
              have := (by decide : (Int32.ofInt 0).toInt = 0)
              exact key104 (Int.toNat (1600 - z253.toInt) + 1) σ255 ((Int32.ofInt 0)) z253 h256 h257 ((h259 _ _ (Or.inr (by decide))).trans ((h117 _ _ (Or.inr (by decide))).trans ((h112 _ _ (Or.inr (by decide))).trans ((h107 _ _ (Or.inr (by decide))).trans h11)))) ((h259 _ _ (Or.inr (by decide))).trans ((h117 _ _ (Or.inr (by decide))).trans ((h112 _ _ (Or.inr (by decide))).trans ((h107 _ _ (Or.inr (by decide))).trans h18)))) ((h259 _ _ (Or.inr (by decide))).trans ((h117 _ _ (Or.inr (by decide))).trans ((h112 _ _ (Or.inr (by decide))).trans ((h107 _ _ (Or.inl (neTG tgz_1 tgz_3 (by decide)))).trans h20)))) ((h259 _ _ (Or.inr (by decide))).trans ((h117 _ _ (Or.inr (by decide))).trans ((h112 _ _ (Or.inr (by decide))).trans ((h107 _ _ (Or.inr (by decide))).trans h75)))) ((h259 _ _ (Or.inl (neTG tgz_2 tgz_3 (by decide)))).trans ((h117 _ _ (Or.inl (neTG tgz_2 tgz_3 (by decide)))).trans ((h112 _ _ (Or.inl (neTG tgz_2 tgz_3 (by decide)))).trans ((h107 _ _ (Or.inl (neTG tgz_2 tgz_3 (by decide)))).trans h77)))) ((h259 _ _ (Or.inr (by decide))).trans ((h117 _ _ (Or.inr (by decide))).trans ((h112 _ _ (Or.inr (by decide))).trans h106))) ((h259 _ _ (Or.inr (by decide))).trans ((h117 _ _ (Or.inr (by decide))).trans h111)) h258 (by omega) (by omega) (by omega) (by omega) (by omega) (STL_0 (by omega)) (by omega)
        · have h284 := Imp_m h86.2.2.1 (by omega)
          refine En_Ps 2 (pc' := 42) (lv' := [(0, .ref 3)]) (st' := [.ref 3, .ref 3]) rfl ?_
          refine En_getK (j := 2) h11 rfl rfl rfl tgz_3 (by decide +kernel) ?_
          refine En_Ps 2 (pc' := 47) (lv' := [(0, .ref 3)]) (st' := [.int ((y6 + ((Int32.ofInt 1)))), .ref 3]) rfl ?_
          refine En_top (addI rfl (by decide : (Int32.ofInt 1).toInt = 1) (by omega) (by omega)) (fun z285 h286 => ?_)
          refine En_put (j := 2) rfl rfl rfl tgz_3 (by decide +kernel) rfl (vI (l := 0) (u := 1600) (by decide +kernel) rfl (by omega) (by omega)) h8 h9 (by decide +kernel) (fun σ287 h288 h289 h290 h291 => ?_)
          have h292 := BLc_go (y := y6.toInt) (z := z285.toInt) (by omega) (by omega) (by omega) h16
          refine En_Ps 1 (pc' := 8) (lv' := [(0, .ref 3)]) (st' := []) rfl ?_
          exact ih8 σ287 z285 h288 h289 ((h291 _ _ (Or.inr (by decide))).trans h10) h290 (by omega) (by omega) (by omega) (by omega) (h292.1) (h292.2)
  exact key8 (Int.toNat (-p.toInt + 1600) + 1) σ1 p h2 h3 ((h5 _ _ (Or.inr (by decide))).trans h_p) h4 (by omega) (by omega) (by omega) (by omega) (rfl) (hf)
/-- DoorSchool$Reader.pass(Z)V -/
abbrev P_59x (σ0 : SG) (By : Int → Int) (Nb : Int) (Sp : PS) (a : Int32) (f : Int32) : PO := fun v σ => WT σ ∧ Fr [(3, 1), (3, 2), (3, 3), (3, 4), (3, 5), (3, 6)] σ0 σ ∧ ∃ f1 : Int32, (σ 3)[5]? = some (.int f1) ∧ v = none ∧ -f1.toInt ≤ 0 ∧ f1.toInt - 3 ≤ 0 ∧ -f1.toInt + f.toInt ≤ 0 ∧ Imp (-a.toInt + 1 ≤ 0) (f1.toInt - f.toInt ≤ 0 ∧ -f1.toInt + f.toInt ≤ 0) ∧ f.toInt - f1.toInt ≤ 0 ∧ Imp (a.toInt ≤ 0) (-f1.toInt + 1 ≤ 0) ∧ CT By Nb σ (pss By Nb a.toInt Sp)
set_option maxRecDepth 10000 in
set_option maxHeartbeats 4000000 in
theorem c_59x {By : Int → Int} {Nb : Int} {Sp : PS} (σ0 : SG) (hσ0 : WT σ0) (a : Int32) (hl_a : 0 ≤ a.toInt) (hu_a : a.toInt ≤ 1) (f : Int32) (h_f : (σ0 3)[5]? = some (.int f)) (hC : CT By Nb σ0 Sp) : En 2 42 none mr_59 (P_59x σ0 By Nb Sp a f) 0 [(0, .ref 3), (1, .int a)] [] σ0 := by
  obtain ⟨hl_f, hu_f⟩ := WT_int hσ0 (g := 3) (by decide +kernel) (by decide +kernel) (l := 0) (u := 3) (by decide +kernel) h_f
  have hF0 : Fr [(3, 1), (3, 2), (3, 3), (3, 4), (3, 5), (3, 6)] σ0 σ0 := Fr_rfl
  have h1 := CT_k hC h_f
  refine En_Ps 1 (pc' := 1) (lv' := [(0, .ref 3), (1, .int a)]) (st' := [.int a]) rfl ?_
  refine En_iNe _ rfl rfl (fun h2 => ?_) (fun h2 => ?_)
  · refine En_Ps 1 (pc' := 10) (lv' := [(0, .ref 3), (1, .int a)]) (st' := [.ref 3]) rfl ?_
    refine En_getK (j := 5) h_f rfl rfl rfl tgz_3 (by decide +kernel) ?_
    refine En_iNe _ rfl rfl (fun h3 => ?_) (fun h3 => ?_)
    · exact En_ret (v := none) rfl rfl rfl ⟨hσ0, hF0, f, h_f, rfl, ⟨by omega, by omega, by omega, fun _ => by omega, by omega, fun _ => by omega, (by first | exact CT_eq hC (pss_bad (by omega)).symm | exact CT_eq hC (psc_1 (by omega)) | exact CT_eq hC (psc_0 (by omega)))⟩⟩
    · refine En_Ps 1 (pc' := 17) (lv' := [(0, .ref 3), (1, .int a)]) (st' := [.ref 3]) rfl ?_
      obtain ⟨z5, h4, h6, h7⟩ := WT_peekI hσ0 tgz_3 (by decide +kernel : FT 3 3 = (0, 0, 1600)) (by decide +kernel)
      refine En_callV rfl rfl rfl rfl rfl rfl rfl rfl tgz_3 (by decide +kernel) rfl (c_72x σ0 hσ0 z5 h4 hC.1 (CT_at hC (by omega) h4)) (by decide) (by decide) (fun v9 σ10 h8 => ?_)
      obtain ⟨h11, h12, rfl, h13⟩ := h8
      have h14 := h13
      have h15 := Fr_trans hF0 h12 (by decide +kernel)
      obtain ⟨S16, h17⟩ : ∃ q : PS, q = adv By Nb Sp := ⟨_, rfl⟩
      have h18 : CT By Nb σ10 S16 := by rw [h17]; exact (CT_adv hC (by omega) h4 h12 (by decide +kernel) h14.2)
      have h19 := CT_k h18 ((h12 _ _ (inW tgz_3 (by decide +kernel))).trans h_f)
      have h20 : S16.2.2.2 = Sp.2.2.2 := by rw [h17]; exact adv_w
      have h21 : S16.1 = Sp.1 := by rw [h17]; exact adv_1
      exact En_ret (v := none) rfl rfl rfl ⟨h11, h15, f, ((h12 _ _ (inW tgz_3 (by decide +kernel))).trans h_f), rfl, ⟨by omega, by omega, by omega, fun _ => by omega, by omega, fun _ => by omega, (by subst h17; first | exact CT_eq h18 (pss_bad (by omega)).symm | exact CT_eq h18 (psc_1 (by omega)) | exact CT_eq h18 (psc_0 (by omega)))⟩⟩
  · refine En_Ps 2 (pc' := 6) (lv' := [(0, .ref 3), (1, .int a)]) (st' := [.int ((Int32.ofInt 1)), .ref 3]) rfl ?_
    have := (by decide : ((Int32.ofInt 1)).toInt = 1)
    refine En_callV rfl rfl rfl rfl rfl rfl rfl rfl tgz_3 (by decide +kernel) rfl (c_54x σ0 hσ0 ((Int32.ofInt 1)) (geI (by decide : (Int32.ofInt 1).toInt = 1) (by omega)) (leI (by decide : (Int32.ofInt 1).toInt = 1) (by omega)) f h_f hC) (by decide) (by decide) (fun v23 σ24 h22 => ?_)
    obtain ⟨h25, h26, z28, h29, rfl, h27⟩ := h22
    have h30 := h27.2.2.2.2.2
    have h31 := Fr_trans hF0 h26 (by decide +kernel)
    obtain ⟨S32, h33⟩ : ∃ q : PS, q = err By Nb 1 Sp := ⟨_, rfl⟩
    have h34 : CT By Nb σ24 S32 := by rw [h33]; exact (CT_eq h30 (err_cg (by omega)))
    have h35 := CT_k h34 h29
    have h36 : S32.2.2.2 = Sp.2.2.2 := by rw [h33]; exact err_w
    refine En_Ps 1 (pc' := 10) (lv' := [(0, .ref 3), (1, .int a)]) (st' := [.ref 3]) rfl ?_
    refine En_getK (j := 5) h29 rfl rfl rfl tgz_3 (by decide +kernel) ?_
    refine En_iNe _ rfl rfl (fun h37 => ?_) (fun hx => by exfalso; have := Imp_m h27.2.2.2.1 (by omega); have := Imp_m h27.2.2.2.2.1 (by omega); omega)
    exact En_ret (v := none) rfl rfl rfl ⟨h25, h31, z28, h29, rfl, ⟨by omega, by omega, by omega, fun _ => by omega, by omega, fun _ => by omega, (by subst h33; first | exact CT_eq h34 (pss_bad (by omega)).symm | exact CT_eq h34 (psc_1 (by omega)) | exact CT_eq h34 (psc_0 (by omega)))⟩⟩
/-- DoorSchool$Reader.stands(Ljava/lang/String;)Z -/
abbrev P_71gx (iL : Nat) (σ0 : SG) (By : Int → Int) (Nb : Int) (Sp : PS) : PO := fun v σ => WT σ ∧ Fr [] σ0 σ ∧ ∃ ret : Int32, v = some (.int ret) ∧ -ret.toInt ≤ 0 ∧ ret.toInt - 1 ≤ 0 ∧ Imp (Sp.1 = 0) (ret.toInt = iW By Nb iL Sp)
set_option maxRecDepth 10000 in
set_option maxHeartbeats 4000000 in
theorem c_71gx (iL nL : Nat) (gn : (decide (iL < NSTR) && decide (LENS.getD iL 0 = nL)) = true) (gN : (Int32.ofNat nL).toInt = (nL : Int)) (gL : (LW iL).length = nL) (g1 : 1 ≤ nL) (g9 : nL ≤ 20) {By : Int → Int} {Nb : Int} {Sp : PS} (σ0 : SG) (hσ0 : WT σ0) (hC : CT By Nb σ0 Sp) : En 4 90 none mr_71 (P_71gx iL σ0 By Nb Sp) 0 [(0, .ref 3), (1, .retAddr (2 * iL + 1))] [] σ0 := by
  have hF0 : Fr [] σ0 σ0 := Fr_rfl
  obtain ⟨z2, h1, h3, h4⟩ := WT_peekI hσ0 tgz_3 (by decide +kernel : FT 3 1 = (0, 0, 4)) (by decide +kernel)
  obtain ⟨z6, h5, h7, h8⟩ := WT_peekI hσ0 tgz_3 (by decide +kernel : FT 3 3 = (0, 0, 1600)) (by decide +kernel)
  obtain ⟨z10, h9, h11, h12⟩ := WT_peekI hσ0 tgz_3 (by decide +kernel : FT 3 2 = (0, 0, 1600)) (by decide +kernel)
  have h13 : Imp (Sp.1 = 0) (tK By Nb Sp.2.2.1 = z2.toInt) := CT_t hC h1
  refine En_Ps 1 (pc' := 1) (lv' := [(0, .ref 3), (1, .retAddr (2 * iL + 1))]) (st' := [.ref 3]) rfl ?_
  refine En_getK (j := 1) h1 rfl rfl rfl tgz_3 (by decide +kernel) ?_
  refine En_Ps 1 (pc' := 5) (lv' := [(0, .ref 3), (1, .retAddr (2 * iL + 1))]) (st' := [.int ((Int32.ofInt 1)), .int z2]) rfl ?_
  refine En_icNe _ rfl (by decide : (Int32.ofInt 1).toInt = 1) rfl (fun h14 => ?_) (fun h14 => ?_)
  · refine En_Ps 1 (pc' := 25) (lv' := [(0, .ref 3), (1, .retAddr (2 * iL + 1))]) (st' := [.int ((Int32.ofInt 0))]) rfl ?_
    refine En_top (by decide : (Int32.ofInt 0).toInt = 0) (fun z15 h16 => ?_)
    exact En_ret (v := some (.int z15)) rfl rfl (retZ rfl rfl (by omega) (by omega)) ⟨hσ0, hF0, z15, rfl, ⟨by omega, by omega, fun z => by have q1 := CT_t hC h1 z; have q2 := CT_fa hC h5 h9 z; have q := iW_0 (By := By) (Nb := Nb) (i := iL) (S := Sp) (by simp only [gL]; omega); omega⟩⟩
  · refine En_Ps 1 (pc' := 9) (lv' := [(0, .ref 3), (1, .retAddr (2 * iL + 1))]) (st' := [.ref 3]) rfl ?_
    refine En_getK (j := 3) h5 rfl rfl rfl tgz_3 (by decide +kernel) ?_
    refine En_Ps 1 (pc' := 13) (lv' := [(0, .ref 3), (1, .retAddr (2 * iL + 1))]) (st' := [.ref 3, .int z6]) rfl ?_
    refine En_getK (j := 2) h9 rfl rfl rfl tgz_3 (by decide +kernel) ?_
    refine En_Ps 1 (pc' := 17) (lv' := [(0, .ref 3), (1, .retAddr (2 * iL + 1))]) (st' := [.int ((z6 - z10))]) rfl ?_
    refine En_top (subI rfl rfl (by omega) (by omega)) (fun z17 h18 => ?_)
    refine En_Ps 1 (pc' := 18) (lv' := [(0, .ref 3), (1, .retAddr (2 * iL + 1))]) (st' := [.retAddr (2 * iL + 1), .int z17]) rfl ?_
    refine En_slen iL nL rfl rfl gn rfl ?_
    refine En_icEq _ rfl gN rfl (fun h19 => ?_) (fun h19 => ?_)
    · refine En_Ps 2 (pc' := 28) (lv' := [(2, .int ((Int32.ofInt 0))), (0, .ref 3), (1, .retAddr (2 * iL + 1))]) (st' := []) rfl ?_
      have key28 : ∀ (n28 : Nat) (σ21 : SG) (y20 : Int32), WT σ21 → Fr [] σ0 σ21 → (σ21 3)[1]? = some (.int z2) → (σ21 3)[3]? = some (.int z6) → (σ21 3)[2]? = some (.int z10) → 0 ≤ y20.toInt → y20.toInt ≤ nL → z6.toInt - y20.toInt < (n28 : Int) → Imp (Sp.1 = 0) (ISQ By Nb iL Sp 1 y20.toInt) → En 4 90 none mr_71 (P_71gx iL σ0 By Nb Sp) 28 [(0, .ref 3), (1, .retAddr (2 * iL + 1)), (2, .int y20)] [] σ21 := by
        intro n28
        induction n28 with
        | zero =>
          intro σ21 y20 h22 h23 h24 h25 h26 h27 h28 h29 h30
          exfalso; omega
        | succ n28 ih28 =>
          intro σ21 y20 h22 h23 h24 h25 h26 h27 h28 h29 h30
          refine En_Ps 2 (pc' := 30) (lv' := [(0, .ref 3), (1, .retAddr (2 * iL + 1)), (2, .int y20)]) (st' := [.retAddr (2 * iL + 1), .int y20]) rfl ?_
          refine En_slen iL nL rfl rfl gn rfl ?_
          refine En_icGe _ rfl gN rfl (fun h31 => ?_) (fun h31 => ?_)
          · refine En_Ps 1 (pc' := 67) (lv' := [(0, .ref 3), (1, .retAddr (2 * iL + 1)), (2, .int y20)]) (st' := [.int ((Int32.ofInt 1))]) rfl ?_
            refine En_top (by decide : (Int32.ofInt 1).toInt = 1) (fun z32 h33 => ?_)
            exact En_ret (v := some (.int z32)) rfl rfl (retZ rfl rfl (by omega) (by omega)) ⟨h22, h23, z32, rfl, ⟨by omega, by omega, fun z => by have q := ISQ_x (Imp_m h30 z) (Or.inr (by simp only [gL]; omega)); omega⟩⟩
          · refine En_Ps 1 (pc' := 37) (lv' := [(0, .ref 3), (1, .retAddr (2 * iL + 1)), (2, .int y20)]) (st' := [.ref 3]) rfl ?_
            refine En_getU (j := 0) (u := 1) (g' := 1) (q := 0) rfl rfl rfl tgz_3 (by decide +kernel) h22 (by decide +kernel) (by decide +kernel) (fun h34 => ?_)
            refine En_getU (j := 0) (u := 2) (g' := 2) (q := 0) rfl rfl rfl tgz_1 (by decide +kernel) h22 (by decide +kernel) (by decide +kernel) (fun h36 => ?_)
            refine En_Ps 1 (pc' := 44) (lv' := [(0, .ref 3), (1, .retAddr (2 * iL + 1)), (2, .int y20)]) (st' := [.ref 3, .ref 2]) rfl ?_
            refine En_getK (j := 2) h26 rfl rfl rfl tgz_3 (by decide +kernel) ?_
            refine En_Ps 2 (pc' := 49) (lv' := [(0, .ref 3), (1, .retAddr (2 * iL + 1)), (2, .int y20)]) (st' := [.int ((z10 + y20)), .ref 2]) rfl ?_
            refine En_top (addI rfl rfl (by omega) (by omega)) (fun z38 h39 => ?_)
            refine En_bald (l := (-128)) (u := 127) rfl rfl tgz_2 (by decide +kernel) h22 (by omega) (lnI (by decide +kernel : LN _ = 1600) (by omega)) (FTsgl (by decide +kernel)) (fun z41 h40 h42 h43 => ?_)
            refine En_Ps 2 (pc' := 52) (lv' := [(0, .ref 3), (1, .retAddr (2 * iL + 1)), (2, .int y20)]) (st' := [.int y20, .retAddr (2 * iL + 1), .int z41]) rfl ?_
            refine En_scharX iL nL rfl rfl rfl gn (by omega) (by omega) rfl (fun z44 h45 h46 h47 => ?_)
            refine En_icEq _ rfl rfl rfl (fun h48 => ?_) (fun h48 => ?_)
            · refine En_Ps 1 (pc' := 63) (lv' := [(2, .int ((y20 + Int32.ofInt 1))), (0, .ref 3), (1, .retAddr (2 * iL + 1))]) (st' := []) rfl ?_
              refine En_lv1 (addI rfl (by decide : (Int32.ofInt 1).toInt = 1) (by omega) (by omega)) (fun z49 h50 => ?_)
              refine En_Ps 1 (pc' := 28) (lv' := [(2, .int z49), (0, .ref 3), (1, .retAddr (2 * iL + 1))]) (st' := []) rfl ?_
              refine En_lv (lv := [(0, .ref 3), (1, .retAddr (2 * iL + 1)), (2, .int z49)]) ⟨rfl, rfl, rfl, trivial⟩ ?_
              exact ih28 σ21 z49 h22 h23 h24 h25 h26 (by omega) (by omega) (by omega) (fun z => by have q1 := CT_t hC h1 z; have q2 := CT_fa hC h5 h9 z; exact ISQc_n (CT_fr hC h23 (by decide +kernel)) (Imp_m h30 z) (by simp only [gL]; omega) (by omega) h40 h47 (by omega) (by omega))
            · refine En_Ps 1 (pc' := 59) (lv' := [(0, .ref 3), (1, .retAddr (2 * iL + 1)), (2, .int y20)]) (st' := [.int ((Int32.ofInt 0))]) rfl ?_
              refine En_top (by decide : (Int32.ofInt 0).toInt = 0) (fun z51 h52 => ?_)
              exact En_ret (v := some (.int z51)) rfl rfl (retZ rfl rfl (by omega) (by omega)) ⟨h22, h23, z51, rfl, ⟨by omega, by omega, fun z => by have q1 := CT_t hC h1 z; have q2 := CT_fa hC h5 h9 z; have q := ISQc_n (b' := 0) (CT_fr hC h23 (by decide +kernel)) (Imp_m h30 z) (by simp only [gL]; omega) (by omega) h40 h47 rfl (Or.inr ⟨rfl, by omega⟩); have q2 := ISQ_x q (Or.inl rfl); omega⟩⟩
      have := (by decide : (Int32.ofInt 0).toInt = 0)
      refine En_lv (lv := [(0, .ref 3), (1, .retAddr (2 * iL + 1)), (2, .int ((Int32.ofInt 0)))]) ⟨rfl, rfl, rfl, trivial⟩ ?_
      exact key28 (Int.toNat (z6.toInt) + 1) σ0 ((Int32.ofInt 0)) hσ0 hF0 h1 h5 h9 (by omega) (by omega) (by omega) (fun z => by have q1 := CT_t hC h1 z; have q2 := CT_fa hC h5 h9 z; exact ISQc_s (by decide) z (by omega) (by simp only [gL]; omega))
    · refine En_Ps 1 (pc' := 25) (lv' := [(0, .ref 3), (1, .retAddr (2 * iL + 1))]) (st' := [.int ((Int32.ofInt 0))]) rfl ?_
      refine En_top (by decide : (Int32.ofInt 0).toInt = 0) (fun z53 h54 => ?_)
      exact En_ret (v := some (.int z53)) rfl rfl (retZ rfl rfl (by omega) (by omega)) ⟨hσ0, hF0, z53, rfl, ⟨by omega, by omega, fun z => by have q1 := CT_t hC h1 z; have q2 := CT_fa hC h5 h9 z; have q := iW_0 (By := By) (Nb := Nb) (i := iL) (S := Sp) (by simp only [gL]; omega); omega⟩⟩
/-- DoorSchool$Reader.stands(Ljava/lang/String;)Z -/
abbrev P_71s0x (σ0 : SG) (By : Int → Int) (Nb : Int) (Sp : PS) : PO := fun v σ => WT σ ∧ Fr [] σ0 σ ∧ ∃ ret : Int32, v = some (.int ret) ∧ -ret.toInt ≤ 0 ∧ ret.toInt - 1 ≤ 0 ∧ Imp (Sp.1 = 0) (ret.toInt = iW By Nb 0 Sp)
set_option maxRecDepth 10000 in
set_option maxHeartbeats 4000000 in
theorem c_71s0x {By : Int → Int} {Nb : Int} {Sp : PS} (σ0 : SG) (hσ0 : WT σ0) (hC : CT By Nb σ0 Sp) : En 4 90 none mr_71 (P_71s0x σ0 By Nb Sp) 0 [(0, .ref 3), (1, .retAddr 1)] [] σ0 := c_71gx 0 5 (by decide) (by decide) (by decide) (by decide) (by decide) σ0 hσ0 hC
/-- DoorSchool$Reader.stands(Ljava/lang/String;)Z -/
abbrev P_71s1x (σ0 : SG) (By : Int → Int) (Nb : Int) (Sp : PS) : PO := fun v σ => WT σ ∧ Fr [] σ0 σ ∧ ∃ ret : Int32, v = some (.int ret) ∧ -ret.toInt ≤ 0 ∧ ret.toInt - 1 ≤ 0 ∧ Imp (Sp.1 = 0) (ret.toInt = iW By Nb 1 Sp)
set_option maxRecDepth 10000 in
set_option maxHeartbeats 4000000 in
theorem c_71s1x {By : Int → Int} {Nb : Int} {Sp : PS} (σ0 : SG) (hσ0 : WT σ0) (hC : CT By Nb σ0 Sp) : En 4 90 none mr_71 (P_71s1x σ0 By Nb Sp) 0 [(0, .ref 3), (1, .retAddr 3)] [] σ0 := c_71gx 1 6 (by decide) (by decide) (by decide) (by decide) (by decide) σ0 hσ0 hC
/-- DoorSchool$Reader.stands(Ljava/lang/String;)Z -/
abbrev P_71s2x (σ0 : SG) (By : Int → Int) (Nb : Int) (Sp : PS) : PO := fun v σ => WT σ ∧ Fr [] σ0 σ ∧ ∃ ret : Int32, v = some (.int ret) ∧ -ret.toInt ≤ 0 ∧ ret.toInt - 1 ≤ 0 ∧ Imp (Sp.1 = 0) (ret.toInt = iW By Nb 2 Sp)
set_option maxRecDepth 10000 in
set_option maxHeartbeats 4000000 in
theorem c_71s2x {By : Int → Int} {Nb : Int} {Sp : PS} (σ0 : SG) (hσ0 : WT σ0) (hC : CT By Nb σ0 Sp) : En 4 90 none mr_71 (P_71s2x σ0 By Nb Sp) 0 [(0, .ref 3), (1, .retAddr 5)] [] σ0 := c_71gx 2 4 (by decide) (by decide) (by decide) (by decide) (by decide) σ0 hσ0 hC
/-- DoorSchool$Reader.stands(Ljava/lang/String;)Z -/
abbrev P_71s3x (σ0 : SG) (By : Int → Int) (Nb : Int) (Sp : PS) : PO := fun v σ => WT σ ∧ Fr [] σ0 σ ∧ ∃ ret : Int32, v = some (.int ret) ∧ -ret.toInt ≤ 0 ∧ ret.toInt - 1 ≤ 0 ∧ Imp (Sp.1 = 0) (ret.toInt = iW By Nb 3 Sp)
set_option maxRecDepth 10000 in
set_option maxHeartbeats 4000000 in
theorem c_71s3x {By : Int → Int} {Nb : Int} {Sp : PS} (σ0 : SG) (hσ0 : WT σ0) (hC : CT By Nb σ0 Sp) : En 4 90 none mr_71 (P_71s3x σ0 By Nb Sp) 0 [(0, .ref 3), (1, .retAddr 7)] [] σ0 := c_71gx 3 4 (by decide) (by decide) (by decide) (by decide) (by decide) σ0 hσ0 hC
/-- DoorSchool$Reader.stands(Ljava/lang/String;)Z -/
abbrev P_71s4x (σ0 : SG) (By : Int → Int) (Nb : Int) (Sp : PS) : PO := fun v σ => WT σ ∧ Fr [] σ0 σ ∧ ∃ ret : Int32, v = some (.int ret) ∧ -ret.toInt ≤ 0 ∧ ret.toInt - 1 ≤ 0 ∧ Imp (Sp.1 = 0) (ret.toInt = iW By Nb 4 Sp)
set_option maxRecDepth 10000 in
set_option maxHeartbeats 4000000 in
theorem c_71s4x {By : Int → Int} {Nb : Int} {Sp : PS} (σ0 : SG) (hσ0 : WT σ0) (hC : CT By Nb σ0 Sp) : En 4 90 none mr_71 (P_71s4x σ0 By Nb Sp) 0 [(0, .ref 3), (1, .retAddr 9)] [] σ0 := c_71gx 4 5 (by decide) (by decide) (by decide) (by decide) (by decide) σ0 hσ0 hC
/-- DoorSchool$Reader.stands(Ljava/lang/String;)Z -/
abbrev P_71s5x (σ0 : SG) (By : Int → Int) (Nb : Int) (Sp : PS) : PO := fun v σ => WT σ ∧ Fr [] σ0 σ ∧ ∃ ret : Int32, v = some (.int ret) ∧ -ret.toInt ≤ 0 ∧ ret.toInt - 1 ≤ 0 ∧ Imp (Sp.1 = 0) (ret.toInt = iW By Nb 5 Sp)
set_option maxRecDepth 10000 in
set_option maxHeartbeats 4000000 in
theorem c_71s5x {By : Int → Int} {Nb : Int} {Sp : PS} (σ0 : SG) (hσ0 : WT σ0) (hC : CT By Nb σ0 Sp) : En 4 90 none mr_71 (P_71s5x σ0 By Nb Sp) 0 [(0, .ref 3), (1, .retAddr 11)] [] σ0 := c_71gx 5 5 (by decide) (by decide) (by decide) (by decide) (by decide) σ0 hσ0 hC
/-- DoorSchool$Reader.stands(Ljava/lang/String;)Z -/
abbrev P_71s6x (σ0 : SG) (By : Int → Int) (Nb : Int) (Sp : PS) : PO := fun v σ => WT σ ∧ Fr [] σ0 σ ∧ ∃ ret : Int32, v = some (.int ret) ∧ -ret.toInt ≤ 0 ∧ ret.toInt - 1 ≤ 0 ∧ Imp (Sp.1 = 0) (ret.toInt = iW By Nb 6 Sp)
set_option maxRecDepth 10000 in
set_option maxHeartbeats 4000000 in
theorem c_71s6x {By : Int → Int} {Nb : Int} {Sp : PS} (σ0 : SG) (hσ0 : WT σ0) (hC : CT By Nb σ0 Sp) : En 4 90 none mr_71 (P_71s6x σ0 By Nb Sp) 0 [(0, .ref 3), (1, .retAddr 13)] [] σ0 := c_71gx 6 6 (by decide) (by decide) (by decide) (by decide) (by decide) σ0 hσ0 hC
/-- DoorSchool$Reader.stands(Ljava/lang/String;)Z -/
abbrev P_71s7x (σ0 : SG) (By : Int → Int) (Nb : Int) (Sp : PS) : PO := fun v σ => WT σ ∧ Fr [] σ0 σ ∧ ∃ ret : Int32, v = some (.int ret) ∧ -ret.toInt ≤ 0 ∧ ret.toInt - 1 ≤ 0 ∧ Imp (Sp.1 = 0) (ret.toInt = iW By Nb 7 Sp)
set_option maxRecDepth 10000 in
set_option maxHeartbeats 4000000 in
theorem c_71s7x {By : Int → Int} {Nb : Int} {Sp : PS} (σ0 : SG) (hσ0 : WT σ0) (hC : CT By Nb σ0 Sp) : En 4 90 none mr_71 (P_71s7x σ0 By Nb Sp) 0 [(0, .ref 3), (1, .retAddr 15)] [] σ0 := c_71gx 7 7 (by decide) (by decide) (by decide) (by decide) (by decide) σ0 hσ0 hC
/-- DoorSchool$Reader.stands(Ljava/lang/String;)Z -/
abbrev P_71s8x (σ0 : SG) (By : Int → Int) (Nb : Int) (Sp : PS) : PO := fun v σ => WT σ ∧ Fr [] σ0 σ ∧ ∃ ret : Int32, v = some (.int ret) ∧ -ret.toInt ≤ 0 ∧ ret.toInt - 1 ≤ 0 ∧ Imp (Sp.1 = 0) (ret.toInt = iW By Nb 8 Sp)
set_option maxRecDepth 10000 in
set_option maxHeartbeats 4000000 in
theorem c_71s8x {By : Int → Int} {Nb : Int} {Sp : PS} (σ0 : SG) (hσ0 : WT σ0) (hC : CT By Nb σ0 Sp) : En 4 90 none mr_71 (P_71s8x σ0 By Nb Sp) 0 [(0, .ref 3), (1, .retAddr 17)] [] σ0 := c_71gx 8 4 (by decide) (by decide) (by decide) (by decide) (by decide) σ0 hσ0 hC
/-- DoorSchool$Reader.stands(Ljava/lang/String;)Z -/
abbrev P_71s9x (σ0 : SG) (By : Int → Int) (Nb : Int) (Sp : PS) : PO := fun v σ => WT σ ∧ Fr [] σ0 σ ∧ ∃ ret : Int32, v = some (.int ret) ∧ -ret.toInt ≤ 0 ∧ ret.toInt - 1 ≤ 0 ∧ Imp (Sp.1 = 0) (ret.toInt = iW By Nb 9 Sp)
set_option maxRecDepth 10000 in
set_option maxHeartbeats 4000000 in
theorem c_71s9x {By : Int → Int} {Nb : Int} {Sp : PS} (σ0 : SG) (hσ0 : WT σ0) (hC : CT By Nb σ0 Sp) : En 4 90 none mr_71 (P_71s9x σ0 By Nb Sp) 0 [(0, .ref 3), (1, .retAddr 19)] [] σ0 := c_71gx 9 5 (by decide) (by decide) (by decide) (by decide) (by decide) σ0 hσ0 hC
/-- DoorSchool$Reader.stands(Ljava/lang/String;)Z -/
abbrev P_71s10x (σ0 : SG) (By : Int → Int) (Nb : Int) (Sp : PS) : PO := fun v σ => WT σ ∧ Fr [] σ0 σ ∧ ∃ ret : Int32, v = some (.int ret) ∧ -ret.toInt ≤ 0 ∧ ret.toInt - 1 ≤ 0 ∧ Imp (Sp.1 = 0) (ret.toInt = iW By Nb 10 Sp)
set_option maxRecDepth 10000 in
set_option maxHeartbeats 4000000 in
theorem c_71s10x {By : Int → Int} {Nb : Int} {Sp : PS} (σ0 : SG) (hσ0 : WT σ0) (hC : CT By Nb σ0 Sp) : En 4 90 none mr_71 (P_71s10x σ0 By Nb Sp) 0 [(0, .ref 3), (1, .retAddr 21)] [] σ0 := c_71gx 10 6 (by decide) (by decide) (by decide) (by decide) (by decide) σ0 hσ0 hC
/-- DoorSchool$Reader.stands(Ljava/lang/String;)Z -/
abbrev P_71s11x (σ0 : SG) (By : Int → Int) (Nb : Int) (Sp : PS) : PO := fun v σ => WT σ ∧ Fr [] σ0 σ ∧ ∃ ret : Int32, v = some (.int ret) ∧ -ret.toInt ≤ 0 ∧ ret.toInt - 1 ≤ 0 ∧ Imp (Sp.1 = 0) (ret.toInt = iW By Nb 11 Sp)
set_option maxRecDepth 10000 in
set_option maxHeartbeats 4000000 in
theorem c_71s11x {By : Int → Int} {Nb : Int} {Sp : PS} (σ0 : SG) (hσ0 : WT σ0) (hC : CT By Nb σ0 Sp) : En 4 90 none mr_71 (P_71s11x σ0 By Nb Sp) 0 [(0, .ref 3), (1, .retAddr 23)] [] σ0 := c_71gx 11 8 (by decide) (by decide) (by decide) (by decide) (by decide) σ0 hσ0 hC
/-- DoorSchool$Reader.stands(Ljava/lang/String;)Z -/
abbrev P_71s12x (σ0 : SG) (By : Int → Int) (Nb : Int) (Sp : PS) : PO := fun v σ => WT σ ∧ Fr [] σ0 σ ∧ ∃ ret : Int32, v = some (.int ret) ∧ -ret.toInt ≤ 0 ∧ ret.toInt - 1 ≤ 0 ∧ Imp (Sp.1 = 0) (ret.toInt = iW By Nb 12 Sp)
set_option maxRecDepth 10000 in
set_option maxHeartbeats 4000000 in
theorem c_71s12x {By : Int → Int} {Nb : Int} {Sp : PS} (σ0 : SG) (hσ0 : WT σ0) (hC : CT By Nb σ0 Sp) : En 4 90 none mr_71 (P_71s12x σ0 By Nb Sp) 0 [(0, .ref 3), (1, .retAddr 25)] [] σ0 := c_71gx 12 4 (by decide) (by decide) (by decide) (by decide) (by decide) σ0 hσ0 hC
/-- DoorSchool$Reader.stands(Ljava/lang/String;)Z -/
abbrev P_71s13x (σ0 : SG) (By : Int → Int) (Nb : Int) (Sp : PS) : PO := fun v σ => WT σ ∧ Fr [] σ0 σ ∧ ∃ ret : Int32, v = some (.int ret) ∧ -ret.toInt ≤ 0 ∧ ret.toInt - 1 ≤ 0 ∧ Imp (Sp.1 = 0) (ret.toInt = iW By Nb 13 Sp)
set_option maxRecDepth 10000 in
set_option maxHeartbeats 4000000 in
theorem c_71s13x {By : Int → Int} {Nb : Int} {Sp : PS} (σ0 : SG) (hσ0 : WT σ0) (hC : CT By Nb σ0 Sp) : En 4 90 none mr_71 (P_71s13x σ0 By Nb Sp) 0 [(0, .ref 3), (1, .retAddr 27)] [] σ0 := c_71gx 13 5 (by decide) (by decide) (by decide) (by decide) (by decide) σ0 hσ0 hC
/-- DoorSchool$Reader.stands(Ljava/lang/String;)Z -/
abbrev P_71s14x (σ0 : SG) (By : Int → Int) (Nb : Int) (Sp : PS) : PO := fun v σ => WT σ ∧ Fr [] σ0 σ ∧ ∃ ret : Int32, v = some (.int ret) ∧ -ret.toInt ≤ 0 ∧ ret.toInt - 1 ≤ 0 ∧ Imp (Sp.1 = 0) (ret.toInt = iW By Nb 14 Sp)
set_option maxRecDepth 10000 in
set_option maxHeartbeats 4000000 in
theorem c_71s14x {By : Int → Int} {Nb : Int} {Sp : PS} (σ0 : SG) (hσ0 : WT σ0) (hC : CT By Nb σ0 Sp) : En 4 90 none mr_71 (P_71s14x σ0 By Nb Sp) 0 [(0, .ref 3), (1, .retAddr 29)] [] σ0 := c_71gx 14 5 (by decide) (by decide) (by decide) (by decide) (by decide) σ0 hσ0 hC
/-- DoorSchool$Reader.stands(Ljava/lang/String;)Z -/
abbrev P_71s15x (σ0 : SG) (By : Int → Int) (Nb : Int) (Sp : PS) : PO := fun v σ => WT σ ∧ Fr [] σ0 σ ∧ ∃ ret : Int32, v = some (.int ret) ∧ -ret.toInt ≤ 0 ∧ ret.toInt - 1 ≤ 0 ∧ Imp (Sp.1 = 0) (ret.toInt = iW By Nb 15 Sp)
set_option maxRecDepth 10000 in
set_option maxHeartbeats 4000000 in
theorem c_71s15x {By : Int → Int} {Nb : Int} {Sp : PS} (σ0 : SG) (hσ0 : WT σ0) (hC : CT By Nb σ0 Sp) : En 4 90 none mr_71 (P_71s15x σ0 By Nb Sp) 0 [(0, .ref 3), (1, .retAddr 31)] [] σ0 := c_71gx 15 5 (by decide) (by decide) (by decide) (by decide) (by decide) σ0 hσ0 hC
/-- DoorSchool$Reader.stands(Ljava/lang/String;)Z -/
abbrev P_71s16x (σ0 : SG) (By : Int → Int) (Nb : Int) (Sp : PS) : PO := fun v σ => WT σ ∧ Fr [] σ0 σ ∧ ∃ ret : Int32, v = some (.int ret) ∧ -ret.toInt ≤ 0 ∧ ret.toInt - 1 ≤ 0 ∧ Imp (Sp.1 = 0) (ret.toInt = iW By Nb 16 Sp)
set_option maxRecDepth 10000 in
set_option maxHeartbeats 4000000 in
theorem c_71s16x {By : Int → Int} {Nb : Int} {Sp : PS} (σ0 : SG) (hσ0 : WT σ0) (hC : CT By Nb σ0 Sp) : En 4 90 none mr_71 (P_71s16x σ0 By Nb Sp) 0 [(0, .ref 3), (1, .retAddr 33)] [] σ0 := c_71gx 16 8 (by decide) (by decide) (by decide) (by decide) (by decide) σ0 hσ0 hC
/-- DoorSchool$Reader.stands(Ljava/lang/String;)Z -/
abbrev P_71s17x (σ0 : SG) (By : Int → Int) (Nb : Int) (Sp : PS) : PO := fun v σ => WT σ ∧ Fr [] σ0 σ ∧ ∃ ret : Int32, v = some (.int ret) ∧ -ret.toInt ≤ 0 ∧ ret.toInt - 1 ≤ 0 ∧ Imp (Sp.1 = 0) (ret.toInt = iW By Nb 17 Sp)
set_option maxRecDepth 10000 in
set_option maxHeartbeats 4000000 in
theorem c_71s17x {By : Int → Int} {Nb : Int} {Sp : PS} (σ0 : SG) (hσ0 : WT σ0) (hC : CT By Nb σ0 Sp) : En 4 90 none mr_71 (P_71s17x σ0 By Nb Sp) 0 [(0, .ref 3), (1, .retAddr 35)] [] σ0 := c_71gx 17 4 (by decide) (by decide) (by decide) (by decide) (by decide) σ0 hσ0 hC
/-- DoorSchool$Reader.takeNumber(II)I -/
abbrev P_73x (σ0 : SG) (By : Int → Int) (Nb : Int) (Sp : PS) (a : Int32) (b : Int32) (f : Int32) : PO := fun v σ => WT σ ∧ Fr [(3, 1), (3, 2), (3, 3), (3, 4), (3, 5), (3, 6)] σ0 σ ∧ ∃ f1 : Int32, (σ 3)[5]? = some (.int f1) ∧ ∃ ret : Int32, v = some (.int ret) ∧ ret.toInt - 1000000 ≤ 0 ∧ -f1.toInt ≤ 0 ∧ f1.toInt - 3 ≤ 0 ∧ -f1.toInt + f.toInt ≤ 0 ∧ f.toInt - f1.toInt ≤ 0 ∧ Imp (f1.toInt ≤ 0) (a.toInt - ret.toInt ≤ 0 ∧ ret.toInt - b.toInt ≤ 0) ∧ Imp (-f1.toInt + 1 ≤ 0) (ret.toInt + 1 ≤ 0 ∧ -ret.toInt - 1 ≤ 0) ∧ Imp (-b.toInt - 1 ≤ 0) (ret.toInt - b.toInt ≤ 0) ∧ Imp (-a.toInt - 1 ≤ 0) (-ret.toInt - 1 ≤ 0) ∧ (CT By Nb σ (tN By Nb a.toInt b.toInt Sp) ∧ Imp ((tN By Nb a.toInt b.toInt Sp).1 = 0) (ret.toInt = tV By Nb Sp.2.2.1))
set_option maxRecDepth 10000 in
set_option maxHeartbeats 4000000 in
theorem c_73x {By : Int → Int} {Nb : Int} {Sp : PS} (σ0 : SG) (hσ0 : WT σ0) (a : Int32) (b : Int32) (f : Int32) (h_f : (σ0 3)[5]? = some (.int f)) (hC : CT By Nb σ0 Sp) : En 2 43 none mr_73 (P_73x σ0 By Nb Sp a b f) 0 [(0, .ref 3), (1, .int a), (2, .int b)] [] σ0 := by
  obtain ⟨hl_f, hu_f⟩ := WT_int hσ0 (g := 3) (by decide +kernel) (by decide +kernel) (l := 0) (u := 3) (by decide +kernel) h_f
  have hF0 : Fr [(3, 1), (3, 2), (3, 3), (3, 4), (3, 5), (3, 6)] σ0 σ0 := Fr_rfl
  have h1 := CT_k hC h_f
  refine En_Ps 3 (pc' := 3) (lv' := [(0, .ref 3), (1, .int a), (2, .int b)]) (st' := [.int b, .int a, .ref 3]) rfl ?_
  refine En_callV rfl rfl rfl rfl rfl rfl rfl rfl tgz_3 (by decide +kernel) rfl (c_58x σ0 hσ0 a b f h_f hC) (by decide) (by decide) (fun v3 σ4 h2 => ?_)
  obtain ⟨h5, h6, z8, h9, z10, rfl, h7⟩ := h2
  have h11 := h7.2.2.2.2.2.2.2.2.2
  have h12 := Fr_trans hF0 h6 (by decide +kernel)
  have h13 : nH By Nb a.toInt b.toInt Sp = nH By Nb (a.toInt) (b.toInt) Sp := nH_cg2 (fun zz => by omega) (fun zz => by omega)
  obtain ⟨S14, h15⟩ : ∃ q : PS, q = nH By Nb (a.toInt) (b.toInt) Sp := ⟨_, rfl⟩
  have h16 : CT By Nb σ4 S14 := by rw [h15]; exact (CT_eq h11.1 h13)
  have h17 := CT_k h16 h9
  have h18 : Imp (S14.1 = 0) (z10.toInt = tV By Nb Sp.2.2.1) := fun z => Imp_m h11.2 (by rw [h13, ← h15]; exact z)
  have h19 : Imp (S14.1 = 0) (Sp.1 = 0 ∧ tK By Nb Sp.2.2.1 = 2 ∧ a.toInt ≤ tV By Nb Sp.2.2.1 ∧ tV By Nb Sp.2.2.1 ≤ b.toInt) := fun z => nH_gg (by rw [← h15]; exact z)
  have h20 : S14.2.2.2 = Sp.2.2.2 := by rw [h15]; exact nH_w
  refine En_Ps 2 (pc' := 8) (lv' := [(3, .int z10), (0, .ref 3), (1, .int a), (2, .int b)]) (st' := [.ref 3]) rfl ?_
  refine En_getK (j := 5) h9 rfl rfl rfl tgz_3 (by decide +kernel) ?_
  refine En_iNe _ rfl rfl (fun h21 => ?_) (fun h21 => ?_)
  · have h22 := Imp_m h7.2.2.2.2.2.2.1 (by omega)
    refine En_Ps 1 (pc' := 19) (lv' := [(3, .int z10), (0, .ref 3), (1, .int a), (2, .int b)]) (st' := [.int z10]) rfl ?_
    exact En_ret (v := some (.int z10)) rfl rfl rfl ⟨h5, h12, z8, h9, z10, rfl, ⟨by omega, by omega, by omega, by omega, by omega, fun _ => by have := Imp_m h7.2.2.2.2.2.1 (by omega); have := Imp_m h7.2.2.2.2.2.2.2.1 (by omega); omega, fun _ => by omega, fun _ => by omega, fun _ => by omega, (by have q0 : tN By Nb a.toInt b.toInt Sp = S14 := (by first | (subst h15; rfl) | (subst h15; unfold tN; exact adv_bad (by omega))); rw [q0]; exact ⟨h16, fun zz => by (try have i0 := Imp_m h19 (by omega)); (try have i1 := Imp_m h18 (by omega)); (try have i2 := Imp_m h7.2.2.2.2.2.1 (by omega)); (try have i3 := Imp_m h7.2.2.2.2.2.2.2.1 (by omega)); (try have i4 := Imp_m h7.2.2.2.2.2.2.2.2.1 (by omega)); omega⟩)⟩⟩
  · have h23 := Imp_m h7.2.2.2.2.2.1 (by omega)
    refine En_Ps 1 (pc' := 15) (lv' := [(3, .int z10), (0, .ref 3), (1, .int a), (2, .int b)]) (st' := [.ref 3]) rfl ?_
    obtain ⟨z25, h24, h26, h27⟩ := WT_peekI h5 tgz_3 (by decide +kernel : FT 3 3 = (0, 0, 1600)) (by decide +kernel)
    refine En_callV rfl rfl rfl rfl rfl rfl rfl rfl tgz_3 (by decide +kernel) rfl (c_72x σ4 h5 z25 h24 h16.1 (CT_at h16 (by omega) h24)) (by decide) (by decide) (fun v29 σ30 h28 => ?_)
    obtain ⟨h31, h32, rfl, h33⟩ := h28
    have h34 := h33
    have h35 := Fr_trans h12 h32 (by decide +kernel)
    obtain ⟨S36, h37⟩ : ∃ q : PS, q = adv By Nb S14 := ⟨_, rfl⟩
    have h38 : CT By Nb σ30 S36 := by rw [h37]; exact (CT_adv h16 (by omega) h24 h32 (by decide +kernel) h34.2)
    have h39 := CT_k h38 ((h32 _ _ (inW tgz_3 (by decide +kernel))).trans h9)
    have h40 : S36.2.2.2 = S14.2.2.2 := by rw [h37]; exact adv_w
    have h41 : S36.1 = S14.1 := by rw [h37]; exact adv_1
    refine En_Ps 1 (pc' := 19) (lv' := [(3, .int z10), (0, .ref 3), (1, .int a), (2, .int b)]) (st' := [.int z10]) rfl ?_
    exact En_ret (v := some (.int z10)) rfl rfl rfl ⟨h31, h35, z8, ((h32 _ _ (inW tgz_3 (by decide +kernel))).trans h9), z10, rfl, ⟨by omega, by omega, by omega, by omega, by omega, fun _ => by omega, fun _ => by have := Imp_m h7.2.2.2.2.2.2.1 (by omega); have := Imp_m h7.2.2.2.2.2.2.2.1 (by omega); omega, fun _ => by omega, fun _ => by omega, (by have q0 : tN By Nb a.toInt b.toInt Sp = S36 := (by first | (subst h37; subst h15; rfl) | (subst h37; subst h15; unfold tN; exact adv_bad (by omega))); rw [q0]; exact ⟨h38, fun zz => by (try have i0 := Imp_m h19 (by omega)); (try have i1 := Imp_m h18 (by omega)); (try have i2 := Imp_m h7.2.2.2.2.2.2.1 (by omega)); (try have i3 := Imp_m h7.2.2.2.2.2.2.2.1 (by omega)); (try have i4 := Imp_m h7.2.2.2.2.2.2.2.2.1 (by omega)); omega⟩)⟩⟩
/-- DoorSchool$Reader.readFirst(LDoorSchool$Plan;)V -/
abbrev P_65x (σ0 : SG) (By : Int → Int) (Nb : Int) (Sp : PS) (a : Nat) (f : Int32) : PO := fun v σ => WT σ ∧ Fr [(3, 1), (3, 2), (3, 3), (3, 4), (3, 5), (3, 6), (18, 1), (18, 2)] σ0 σ ∧ ∃ f1 : Int32, (σ 3)[5]? = some (.int f1) ∧ ∃ sg1 : Int32, (σ a)[1]? = some (.int sg1) ∧ v = none ∧ OUT σ0 σ a ∧ -f1.toInt ≤ 0 ∧ f1.toInt - 3 ≤ 0 ∧ -f1.toInt + f.toInt ≤ 0 ∧ -sg1.toInt - 1 ≤ 0 ∧ sg1.toInt - 4 ≤ 0 ∧ f.toInt - f1.toInt ≤ 0 ∧ -sg1.toInt - f1.toInt ≤ 0 ∧ (OTH a σ0 σ ∧ CT By Nb σ (fFirst By Nb Sp) ∧ ((fFirst By Nb Sp).1 = 0 → KN σ a (fFirst By Nb Sp).2.2.2 (act (fFirst By Nb Sp).2.2.2)))
set_option maxRecDepth 10000 in
set_option maxHeartbeats 4000000 in
theorem c_65x {By : Int → Int} {Nb : Int} {Sp : PS} (σ0 : SG) (hσ0 : WT σ0) (a : Nat) (ha : TG a = 18) (f : Int32) (h_f : (σ0 3)[5]? = some (.int f)) (hC : CT By Nb σ0 Sp) (hg : Sp.1 = 0) (hP : PLA a) (hX : FXP σ0 a) (hK : KN σ0 a Sp.2.2.2 (act Sp.2.2.2)) : En 5 112 none mr_65 (P_65x σ0 By Nb Sp a f) 0 [(0, .ref 3), (1, .ref a)] [] σ0 := by
  obtain ⟨hl_f, hu_f⟩ := WT_int hσ0 (g := 3) (by decide +kernel) (by decide +kernel) (l := 0) (u := 3) (by decide +kernel) h_f
  have hF0 : Fr [(3, 1), (3, 2), (3, 3), (3, 4), (3, 5), (3, 6), (18, 1), (18, 2)] σ0 σ0 := Fr_rfl
  have h1 := CT_k hC h_f
  have h2 : Imp (Sp.1 = 0) (KN σ0 a Sp.2.2.2 (fun t => act Sp.2.2.2 t)) := fun _ => hK
  refine En_Ps 2 (pc' := 2) (lv' := [(0, .ref 3), (1, .ref a)]) (st' := [.ref 3, .ref 3]) rfl ?_
  refine En_ldcS (i := 10) rfl rfl rfl ?_
  refine En_callV rfl rfl rfl rfl rfl rfl rfl rfl tgz_3 (by decide +kernel) rfl (c_71s10x σ0 hσ0 hC) (by decide) (by decide) (fun v4 σ5 h3 => ?_)
  obtain ⟨h6, h7, z9, rfl, h8⟩ := h3
  have h10 := h8.2.2
  obtain rfl : σ0 = σ5 := Fr_nil h7
  have h11 := h10
  refine En_callV rfl rfl rfl rfl rfl rfl rfl rfl tgz_3 (by decide +kernel) rfl (c_59x σ0 hσ0 z9 (geI rfl (by omega)) (leI rfl (by omega)) f h_f hC) (by decide) (by decide) (fun v13 σ14 h12 => ?_)
  obtain ⟨h15, h16, z18, h19, rfl, h17⟩ := h12
  have h20 := h17.2.2.2.2.2.2
  have h21 := Fr_trans hF0 h16 (by decide +kernel)
  have h22 := OTH_fr (OTH_0 (a := a) (σ := σ0)) h16 (by decide +kernel)
  have h23 : pss By Nb z9.toInt Sp = pss By Nb (iW By Nb 10 Sp) Sp := pss_cg2 (fun zz => by (try have i0 := Imp_m h11 (by omega)); omega)
  obtain ⟨S24, h25⟩ : ∃ q : PS, q = pss By Nb (iW By Nb 10 Sp) Sp := ⟨_, rfl⟩
  have h26 : CT By Nb σ14 S24 := by rw [h25]; exact (CT_eq h20 h23)
  have h27 := CT_k h26 h19
  have h28 : S24.2.2.2 = Sp.2.2.2 := by rw [h25]; exact pss_w
  have h29 : Imp (S24.1 = 0) (Sp.1 = 0) := fun z => (pss_g (by rw [h23, ← h25]; exact z)).1
  have h30 : Imp (S24.1 = 0) (z9.toInt = 1) := fun z => (pss_g (by rw [h23, ← h25]; exact z)).2.1
  have h31 : Imp (S24.1 = 0) (KN σ14 a Sp.2.2.2 (fun t => act Sp.2.2.2 t)) := fun zz => KN_fr hP (Imp_m h2 (by (try have i0 := Imp_m h30 (by omega)); (try have i1 := Imp_m h29 (by omega)); (try have i2 := Imp_m h11 (by omega)); omega)) h16 (by decide +kernel)
  have h32 : S24.2.2.2 = Sp.2.2.2 := h28.trans (rfl : Sp.2.2.2 = Sp.2.2.2)
  have o33 : OUT σ0 σ14 a := OUT_fr OUT_0 h16 (by decide +kernel)
  refine En_Ps 2 (pc' := 12) (lv' := [(0, .ref 3), (1, .ref a)]) (st' := [.ref 3, .ref 3]) rfl ?_
  refine En_ldcS (i := 13) rfl rfl rfl ?_
  refine En_callV rfl rfl rfl rfl rfl rfl rfl rfl tgz_3 (by decide +kernel) rfl (c_71s13x σ14 h15 h26) (by decide) (by decide) (fun v35 σ36 h34 => ?_)
  obtain ⟨h37, h38, z40, rfl, h39⟩ := h34
  have h41 := h39.2.2
  obtain rfl : σ14 = σ36 := Fr_nil h38
  have h42 := h41
  refine En_callV rfl rfl rfl rfl rfl rfl rfl rfl tgz_3 (by decide +kernel) rfl (c_59x σ14 h15 z40 (geI rfl (by omega)) (leI rfl (by omega)) z18 h19 h26) (by decide) (by decide) (fun v44 σ45 h43 => ?_)
  obtain ⟨h46, h47, z49, h50, rfl, h48⟩ := h43
  have h51 := h48.2.2.2.2.2.2
  have h52 := Fr_trans h21 h47 (by decide +kernel)
  have h53 := OTH_fr h22 h47 (by decide +kernel)
  have h54 : pss By Nb z40.toInt S24 = pss By Nb (iW By Nb 13 S24) S24 := pss_cg2 (fun zz => by (try have i0 := Imp_m h42 (by omega)); (try have i1 := Imp_m h30 (by omega)); (try have i2 := Imp_m h29 (by omega)); (try have i3 := Imp_m h11 (by omega)); (try have i4 := Imp_m h17.2.2.2.1 (by omega)); (try have i5 := Imp_m h17.2.2.2.2.2.1 (by omega)); omega)
  obtain ⟨S55, h56⟩ : ∃ q : PS, q = pss By Nb (iW By Nb 13 S24) S24 := ⟨_, rfl⟩
  have h57 : CT By Nb σ45 S55 := by rw [h56]; exact (CT_eq h51 h54)
  have h58 := CT_k h57 h50
  have h59 : S55.2.2.2 = S24.2.2.2 := by rw [h56]; exact pss_w
  have h60 : Imp (S55.1 = 0) (S24.1 = 0) := fun z => (pss_g (by rw [h54, ← h56]; exact z)).1
  have h61 : Imp (S55.1 = 0) (z40.toInt = 1) := fun z => (pss_g (by rw [h54, ← h56]; exact z)).2.1
  have h62 : Imp (S55.1 = 0) (KN σ45 a Sp.2.2.2 (fun t => act Sp.2.2.2 t)) := fun zz => KN_fr hP (Imp_m h31 (by (try have i0 := Imp_m h61 (by omega)); (try have i1 := Imp_m h60 (by omega)); (try have i2 := Imp_m h42 (by omega)); (try have i3 := Imp_m h30 (by omega)); (try have i4 := Imp_m h29 (by omega)); (try have i5 := Imp_m h11 (by omega)); (try have i6 := Imp_m h17.2.2.2.1 (by omega)); (try have i7 := Imp_m h17.2.2.2.2.2.1 (by omega)); omega)) h47 (by decide +kernel)
  have h63 : S55.2.2.2 = Sp.2.2.2 := h59.trans h32
  have o64 : OUT σ0 σ45 a := OUT_fr o33 h47 (by decide +kernel)
  refine En_Ps 4 (pc' := 24) (lv' := [(0, .ref 3), (1, .ref a)]) (st' := [.int ((Int32.ofInt 4)), .int ((Int32.ofInt 2)), .ref 3, .ref a]) rfl ?_
  have := (by decide : ((Int32.ofInt 2)).toInt = 2)
  have := (by decide : ((Int32.ofInt 4)).toInt = 4)
  refine En_callV rfl rfl rfl rfl rfl rfl rfl rfl tgz_3 (by decide +kernel) rfl (c_73x σ45 h46 ((Int32.ofInt 2)) ((Int32.ofInt 4)) z49 h50 h57) (by decide) (by decide) (fun v66 σ67 h65 => ?_)
  obtain ⟨h68, h69, z71, h72, z73, rfl, h70⟩ := h65
  have h74 := h70.2.2.2.2.2.2.2.2.2
  have h75 := Fr_trans h52 h69 (by decide +kernel)
  have h76 := Imp_m h70.2.2.2.2.2.1
  have h77 := Imp_m h70.2.2.2.2.2.2.1
  have h78 := Imp_m h70.2.2.2.2.2.2.2.1
  have h79 := Imp_m h70.2.2.2.2.2.2.2.2.1
  have h80 := OTH_fr h53 h69 (by decide +kernel)
  have h81 : tN By Nb ((Int32.ofInt 2)).toInt ((Int32.ofInt 4)).toInt S55 = tN By Nb (2) (4) S55 := tN_cg2 (fun zz => by omega) (fun zz => by omega)
  obtain ⟨S82, h83⟩ : ∃ q : PS, q = tN By Nb (2) (4) S55 := ⟨_, rfl⟩
  have h84 : CT By Nb σ67 S82 := by rw [h83]; exact (CT_eq h74.1 h81)
  have h85 := CT_k h84 h72
  have h86 : Imp (S82.1 = 0) (z73.toInt = tV By Nb S55.2.2.1) := fun z => Imp_m h74.2 (by rw [h81, ← h83]; exact z)
  have h87 : Imp (S82.1 = 0) (S55.1 = 0 ∧ tK By Nb S55.2.2.1 = 2 ∧ 2 ≤ tV By Nb S55.2.2.1 ∧ tV By Nb S55.2.2.1 ≤ 4) := fun z => tN_gg (by rw [← h83]; exact z)
  have h88 : S82.2.2.2 = S55.2.2.2 := by rw [h83]; exact tN_w
  have h89 : Imp (S82.1 = 0) (KN σ67 a Sp.2.2.2 (fun t => act Sp.2.2.2 t)) := fun zz => KN_fr hP (Imp_m h62 (by (try have i0 := Imp_m h87 (by omega)); (try have i1 := Imp_m h86 (by omega)); (try have i2 := Imp_m h61 (by omega)); (try have i3 := Imp_m h60 (by omega)); (try have i4 := Imp_m h42 (by omega)); (try have i5 := Imp_m h30 (by omega)); (try have i6 := Imp_m h29 (by omega)); (try have i7 := Imp_m h11 (by omega)); (try have i8 := Imp_m h17.2.2.2.1 (by omega)); (try have i9 := Imp_m h17.2.2.2.2.2.1 (by omega)); (try have i10 := Imp_m h48.2.2.2.1 (by omega)); (try have i11 := Imp_m h48.2.2.2.2.2.1 (by omega)); omega)) h69 (by decide +kernel)
  have h90 : S82.2.2.2 = Sp.2.2.2 := h88.trans h63
  have o91 : OUT σ0 σ67 a := OUT_fr o64 h69 (by decide +kernel)
  have h92 := Imp_m h70.2.2.2.2.2.2.2.1 (by omega)
  have h93 := Imp_m h70.2.2.2.2.2.2.2.2.1 (by omega)
  refine En_put (j := 1) rfl rfl rfl ha (by decide +kernel) rfl (vI (l := (-1)) (u := 4) (by decide +kernel) rfl (by omega) (by omega)) h68 h75 (by decide +kernel) (fun σ94 h95 h96 h97 h98 => ?_)
  have h99 := OTH_pt h80 h98
  obtain ⟨S100, h101⟩ : ∃ q : PS, q = wst S82 (0) ((tV By Nb S55.2.2.1)) := ⟨_, rfl⟩
  have h102 : CT By Nb σ94 S100 := by rw [h101]; exact CT_wst (CT_ne h84 h98 (by have := hP; unfold PLA at this; omega))
  have h103 : Imp (S100.1 = 0) (KN σ94 a (uPd Sp.2.2.2 (0) ((tV By Nb S55.2.2.1))) (fun t => (act Sp.2.2.2 t ∨ t = 0))) := fun zz => KN_st (Imp_m h89 (by rw [h101] at zz; exact zz)) h97 h98 (by omega) (by omega) (by rw [lcO_lt (by decide) (by decide), Nat.add_zero]) (by decide) (by have z2 : S82.1 = 0 := (by rw [h101] at zz; exact zz); (try have i0 := Imp_m h87 (by omega)); (try have i1 := Imp_m h86 (by omega)); (try have i2 := Imp_m h61 (by omega)); (try have i3 := Imp_m h60 (by omega)); (try have i4 := Imp_m h42 (by omega)); (try have i5 := Imp_m h30 (by omega)); (try have i6 := Imp_m h29 (by omega)); (try have i7 := Imp_m h11 (by omega)); (try have i8 := Imp_m h17.2.2.2.1 (by omega)); (try have i9 := Imp_m h17.2.2.2.2.2.1 (by omega)); (try have i10 := Imp_m h48.2.2.2.1 (by omega)); (try have i11 := Imp_m h48.2.2.2.2.2.1 (by omega)); (try have i12 := Imp_m h70.2.2.2.2.2.1 (by omega)); (try have i13 := Imp_m h70.2.2.2.2.2.2.1 (by omega)); omega)
  have h104 : S100.2.2.2 = (uPd Sp.2.2.2 (0) ((tV By Nb S55.2.2.1))) := by rw [h101]; show uPd S82.2.2.2 _ _ = _; rw [h90]
  have h105 : S100.1 = S82.1 := by rw [h101]; rfl
  have h106 := CT_k h102 ((h98 _ _ (Or.inr (by decide))).trans h72)
  have o107 : OUT σ0 σ94 a := OUT_st o91 h98 (by omega)
  refine En_Ps 2 (pc' := 32) (lv' := [(0, .ref 3), (1, .ref a)]) (st' := [.ref 3, .ref 3]) rfl ?_
  refine En_ldcS (i := 16) rfl rfl rfl ?_
  refine En_callV rfl rfl rfl rfl rfl rfl rfl rfl tgz_3 (by decide +kernel) rfl (c_71s16x σ94 h95 h102) (by decide) (by decide) (fun v109 σ110 h108 => ?_)
  obtain ⟨h111, h112, z114, rfl, h113⟩ := h108
  have h115 := h113.2.2
  obtain rfl : σ94 = σ110 := Fr_nil h112
  have h116 := h115
  refine En_callV rfl rfl rfl rfl rfl rfl rfl rfl tgz_3 (by decide +kernel) rfl (c_59x σ94 h95 z114 (geI rfl (by omega)) (leI rfl (by omega)) z71 ((h98 _ _ (Or.inr (by decide))).trans h72) h102) (by decide) (by decide) (fun v118 σ119 h117 => ?_)
  obtain ⟨h120, h121, z123, h124, rfl, h122⟩ := h117
  have h125 := h122.2.2.2.2.2.2
  have h126 := Fr_trans h96 h121 (by decide +kernel)
  have h127 := OTH_fr h99 h121 (by decide +kernel)
  have h128 : pss By Nb z114.toInt S100 = pss By Nb (iW By Nb 16 S100) S100 := pss_cg2 (fun zz => by (try have i0 := Imp_m h116 (by omega)); (try have i1 := Imp_m h87 (by omega)); (try have i2 := Imp_m h86 (by omega)); (try have i3 := Imp_m h61 (by omega)); (try have i4 := Imp_m h60 (by omega)); (try have i5 := Imp_m h42 (by omega)); (try have i6 := Imp_m h30 (by omega)); (try have i7 := Imp_m h29 (by omega)); (try have i8 := Imp_m h11 (by omega)); (try have i9 := Imp_m h17.2.2.2.1 (by omega)); (try have i10 := Imp_m h17.2.2.2.2.2.1 (by omega)); (try have i11 := Imp_m h48.2.2.2.1 (by omega)); (try have i12 := Imp_m h48.2.2.2.2.2.1 (by omega)); (try have i13 := Imp_m h70.2.2.2.2.2.1 (by omega)); (try have i14 := Imp_m h70.2.2.2.2.2.2.1 (by omega)); omega)
  obtain ⟨S129, h130⟩ : ∃ q : PS, q = pss By Nb (iW By Nb 16 S100) S100 := ⟨_, rfl⟩
  have h131 : CT By Nb σ119 S129 := by rw [h130]; exact (CT_eq h125 h128)
  have h132 := CT_k h131 h124
  have h133 : S129.2.2.2 = S100.2.2.2 := by rw [h130]; exact pss_w
  have h134 : Imp (S129.1 = 0) (S100.1 = 0) := fun z => (pss_g (by rw [h128, ← h130]; exact z)).1
  have h135 : Imp (S129.1 = 0) (z114.toInt = 1) := fun z => (pss_g (by rw [h128, ← h130]; exact z)).2.1
  have h136 : Imp (S129.1 = 0) (KN σ119 a (uPd Sp.2.2.2 (0) ((tV By Nb S55.2.2.1))) (fun t => (act Sp.2.2.2 t ∨ t = 0))) := fun zz => KN_fr hP (Imp_m h103 (by (try have i0 := Imp_m h135 (by omega)); (try have i1 := Imp_m h134 (by omega)); (try have i2 := Imp_m h116 (by omega)); (try have i3 := Imp_m h87 (by omega)); (try have i4 := Imp_m h86 (by omega)); (try have i5 := Imp_m h61 (by omega)); (try have i6 := Imp_m h60 (by omega)); (try have i7 := Imp_m h42 (by omega)); (try have i8 := Imp_m h30 (by omega)); (try have i9 := Imp_m h29 (by omega)); (try have i10 := Imp_m h11 (by omega)); (try have i11 := Imp_m h17.2.2.2.1 (by omega)); (try have i12 := Imp_m h17.2.2.2.2.2.1 (by omega)); (try have i13 := Imp_m h48.2.2.2.1 (by omega)); (try have i14 := Imp_m h48.2.2.2.2.2.1 (by omega)); (try have i15 := Imp_m h70.2.2.2.2.2.1 (by omega)); (try have i16 := Imp_m h70.2.2.2.2.2.2.1 (by omega)); omega)) h121 (by decide +kernel)
  have h137 : S129.2.2.2 = (uPd Sp.2.2.2 (0) ((tV By Nb S55.2.2.1))) := h133.trans h104
  have o138 : OUT σ0 σ119 a := OUT_fr o107 h121 (by decide +kernel)
  refine En_Ps 4 (pc' := 44) (lv' := [(0, .ref 3), (1, .ref a)]) (st' := [.int ((Int32.ofInt 3)), .int ((Int32.ofInt 1)), .ref 3, .ref a]) rfl ?_
  have := (by decide : ((Int32.ofInt 1)).toInt = 1)
  have := (by decide : ((Int32.ofInt 3)).toInt = 3)
  refine En_callV rfl rfl rfl rfl rfl rfl rfl rfl tgz_3 (by decide +kernel) rfl (c_73x σ119 h120 ((Int32.ofInt 1)) ((Int32.ofInt 3)) z123 h124 h131) (by decide) (by decide) (fun v140 σ141 h139 => ?_)
  obtain ⟨h142, h143, z145, h146, z147, rfl, h144⟩ := h139
  have h148 := h144.2.2.2.2.2.2.2.2.2
  have h149 := Fr_trans h126 h143 (by decide +kernel)
  have h150 := Imp_m h144.2.2.2.2.2.1
  have h151 := Imp_m h144.2.2.2.2.2.2.1
  have h152 := Imp_m h144.2.2.2.2.2.2.2.1
  have h153 := Imp_m h144.2.2.2.2.2.2.2.2.1
  have h154 := OTH_fr h127 h143 (by decide +kernel)
  have h155 : tN By Nb ((Int32.ofInt 1)).toInt ((Int32.ofInt 3)).toInt S129 = tN By Nb (1) (3) S129 := tN_cg2 (fun zz => by omega) (fun zz => by omega)
  obtain ⟨S156, h157⟩ : ∃ q : PS, q = tN By Nb (1) (3) S129 := ⟨_, rfl⟩
  have h158 : CT By Nb σ141 S156 := by rw [h157]; exact (CT_eq h148.1 h155)
  have h159 := CT_k h158 h146
  have h160 : Imp (S156.1 = 0) (z147.toInt = tV By Nb S129.2.2.1) := fun z => Imp_m h148.2 (by rw [h155, ← h157]; exact z)
  have h161 : Imp (S156.1 = 0) (S129.1 = 0 ∧ tK By Nb S129.2.2.1 = 2 ∧ 1 ≤ tV By Nb S129.2.2.1 ∧ tV By Nb S129.2.2.1 ≤ 3) := fun z => tN_gg (by rw [← h157]; exact z)
  have h162 : S156.2.2.2 = S129.2.2.2 := by rw [h157]; exact tN_w
  have h163 : Imp (S156.1 = 0) (KN σ141 a (uPd Sp.2.2.2 (0) ((tV By Nb S55.2.2.1))) (fun t => (act Sp.2.2.2 t ∨ t = 0))) := fun zz => KN_fr hP (Imp_m h136 (by (try have i0 := Imp_m h161 (by omega)); (try have i1 := Imp_m h160 (by omega)); (try have i2 := Imp_m h135 (by omega)); (try have i3 := Imp_m h134 (by omega)); (try have i4 := Imp_m h116 (by omega)); (try have i5 := Imp_m h87 (by omega)); (try have i6 := Imp_m h86 (by omega)); (try have i7 := Imp_m h61 (by omega)); (try have i8 := Imp_m h60 (by omega)); (try have i9 := Imp_m h42 (by omega)); (try have i10 := Imp_m h30 (by omega)); (try have i11 := Imp_m h29 (by omega)); (try have i12 := Imp_m h11 (by omega)); (try have i13 := Imp_m h17.2.2.2.1 (by omega)); (try have i14 := Imp_m h17.2.2.2.2.2.1 (by omega)); (try have i15 := Imp_m h48.2.2.2.1 (by omega)); (try have i16 := Imp_m h48.2.2.2.2.2.1 (by omega)); (try have i17 := Imp_m h70.2.2.2.2.2.1 (by omega)); (try have i18 := Imp_m h70.2.2.2.2.2.2.1 (by omega)); (try have i19 := Imp_m h122.2.2.2.1 (by omega)); (try have i20 := Imp_m h122.2.2.2.2.2.1 (by omega)); omega)) h143 (by decide +kernel)
  have h164 : S156.2.2.2 = (uPd Sp.2.2.2 (0) ((tV By Nb S55.2.2.1))) := h162.trans h137
  have o165 : OUT σ0 σ141 a := OUT_fr o138 h143 (by decide +kernel)
  have h166 := Imp_m h144.2.2.2.2.2.2.2.1 (by omega)
  have h167 := Imp_m h144.2.2.2.2.2.2.2.2.1 (by omega)
  refine En_put (j := 2) rfl rfl rfl ha (by decide +kernel) rfl (vI (l := (-1)) (u := 3) (by decide +kernel) rfl (by omega) (by omega)) h142 h149 (by decide +kernel) (fun σ168 h169 h170 h171 h172 => ?_)
  have h173 := OTH_pj h154 h172 (by decide)
  obtain ⟨S174, h175⟩ : ∃ q : PS, q = wst S156 (1) ((tV By Nb S129.2.2.1)) := ⟨_, rfl⟩
  have h176 : CT By Nb σ168 S174 := by rw [h175]; exact CT_wst (CT_ne h158 h172 (by have := hP; unfold PLA at this; omega))
  have h177 : Imp (S174.1 = 0) (KN σ168 a (uPd (uPd Sp.2.2.2 (0) ((tV By Nb S55.2.2.1))) (1) ((tV By Nb S129.2.2.1))) (fun t => ((act Sp.2.2.2 t ∨ t = 0) ∨ t = 1))) := fun zz => KN_st (Imp_m h163 (by rw [h175] at zz; exact zz)) h171 h172 (by omega) (by omega) (by rw [lcO_lt (by decide) (by decide), Nat.add_zero]) (by decide) (by have z2 : S156.1 = 0 := (by rw [h175] at zz; exact zz); (try have i0 := Imp_m h161 (by omega)); (try have i1 := Imp_m h160 (by omega)); (try have i2 := Imp_m h135 (by omega)); (try have i3 := Imp_m h134 (by omega)); (try have i4 := Imp_m h116 (by omega)); (try have i5 := Imp_m h87 (by omega)); (try have i6 := Imp_m h86 (by omega)); (try have i7 := Imp_m h61 (by omega)); (try have i8 := Imp_m h60 (by omega)); (try have i9 := Imp_m h42 (by omega)); (try have i10 := Imp_m h30 (by omega)); (try have i11 := Imp_m h29 (by omega)); (try have i12 := Imp_m h11 (by omega)); (try have i13 := Imp_m h17.2.2.2.1 (by omega)); (try have i14 := Imp_m h17.2.2.2.2.2.1 (by omega)); (try have i15 := Imp_m h48.2.2.2.1 (by omega)); (try have i16 := Imp_m h48.2.2.2.2.2.1 (by omega)); (try have i17 := Imp_m h70.2.2.2.2.2.1 (by omega)); (try have i18 := Imp_m h70.2.2.2.2.2.2.1 (by omega)); (try have i19 := Imp_m h122.2.2.2.1 (by omega)); (try have i20 := Imp_m h122.2.2.2.2.2.1 (by omega)); (try have i21 := Imp_m h144.2.2.2.2.2.1 (by omega)); (try have i22 := Imp_m h144.2.2.2.2.2.2.1 (by omega)); omega)
  have h178 : S174.2.2.2 = (uPd (uPd Sp.2.2.2 (0) ((tV By Nb S55.2.2.1))) (1) ((tV By Nb S129.2.2.1))) := by rw [h175]; show uPd S156.2.2.2 _ _ = _; rw [h164]
  have h179 : S174.1 = S156.1 := by rw [h175]; rfl
  have h180 := CT_k h176 ((h172 _ _ (Or.inr (by decide))).trans h146)
  have o181 : OUT σ0 σ168 a := OUT_st o165 h172 (by omega)
  have h182 : fFirst By Nb Sp = S174 := by unfold fFirst; (try dsimp only); first | (rw [← h25, ← h56, ← h83, ← h101, ← h130, ← h157, ← h175]; first | done | rfl) | (rw [← h25, ← h56, ← h83, ← h101, ← h130, ← h157, ← h175]; rw [if_pos (by omega)]; first | done | rfl) | (rw [← h25, ← h56, ← h83, ← h101, ← h130, ← h157, ← h175]; rw [if_neg (by omega)]; first | done | rfl) | (rw [← h25, ← h56, ← h83, ← h101, ← h130, ← h157, ← h175]; rw [if_neg (by omega), if_pos (by omega)]; first | done | rfl) | (rw [← h25, ← h56, ← h83, ← h101, ← h130, ← h157, ← h175]; rw [if_neg (by omega), if_neg (by omega)]; first | done | rfl) | (rw [← h25, ← h56, ← h83, ← h101, ← h130, ← h157, ← h175]; rw [if_neg (by omega), if_neg (by omega), if_neg (by omega)]; first | done | rfl)
  exact En_ret (v := none) rfl rfl rfl ⟨h169, h170, z145, ((h172 _ _ (Or.inr (by decide))).trans h146), z73, ((h172 _ _ (Or.inr (by decide))).trans ((h143 _ _ (inW ha (by decide +kernel))).trans ((h121 _ _ (inW ha (by decide +kernel))).trans h97))), rfl, ⟨o181, by omega, by omega, by omega, by omega, by omega, by omega, by omega, (by rw [h182]; exact ⟨h173, h176, fun zz => by rw [h178]; exact KN_sub (Imp_m h177 zz) (fun t t0 t1 y => Or.inl (Or.inl (act_low (by omega) (act_low (by omega) y))))⟩)⟩⟩

