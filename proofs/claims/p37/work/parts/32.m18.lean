/-- DoorSchoolModel.rules(I)I -/
abbrev P_310x (σ0 : SG) (a : Int32) : PO := fun v σ => WT σ ∧ Fr [(35, 18), (35, 21), (42, 0), (43, 0), (44, 0), (45, 0), (46, 0)] σ0 σ ∧ ∃ ret : Int32, v = some (.int ret) ∧ -ret.toInt - 2 ≤ 0 ∧ ret.toInt - 81 ≤ 0 ∧ ret.toInt = rsR (wf σ0) a.toInt
set_option maxRecDepth 10000 in
set_option maxHeartbeats 4000000 in
theorem c_310x (σ0 : SG) (hσ0 : WT σ0) (a : Int32) (hq : QX (wf σ0)) : En 4 87 none mr_310 (P_310x σ0 a) 0 [(0, .ref 159), (1, .int a)] [] σ0 := by
  have hF0 : Fr [(35, 18), (35, 21), (42, 0), (43, 0), (44, 0), (45, 0), (46, 0)] σ0 σ0 := Fr_rfl
  refine En_Ps 2 (pc' := 2) (lv' := [(0, .ref 159), (1, .int a)]) (st' := [.int a, .ref 159]) rfl ?_
  obtain ⟨z2, h1, h3, h4⟩ := WT_peekI hσ0 (by decide +kernel : TG 160 = 36) (by decide +kernel : FT 36 (2 : Int).toNat = (0, 0, 4)) (by decide +kernel)
  refine En_callV rfl rfl rfl rfl rfl rfl rfl rfl (by decide +kernel : TG 159 = 35) (by decide +kernel) rfl (c_254 σ0 hσ0 a z2 h1) (by decide) (by decide) (fun v6 σ7 h5 => ?_)
  obtain ⟨h8, h9, z11, rfl, h10⟩ := h5
  obtain rfl : σ0 = σ7 := Fr_nil h9
  have w12 : wf σ0 (2) = z2.toInt := ci_at h1 (by omega)
  refine En_iNe _ rfl rfl (fun h13 => ?_) (fun h13 => ?_)
  · obtain ⟨z15, h14, h16, h17⟩ := WT_peekI hσ0 (by decide +kernel : TG 160 = 36) (by decide +kernel : FT 36 (0 : Int).toNat = (0, 0, 4)) (by decide +kernel)
    obtain ⟨z19, h18, h20, h21⟩ := WT_peekI hσ0 (by decide +kernel : TG 160 = 36) (by decide +kernel : FT 36 (7 : Int).toNat = (0, 0, 1600)) (by decide +kernel)
    have w22 : wf σ0 (0) = z15.toInt := ci_at h14 (by omega)
    have w23 : wf σ0 (7) = z19.toInt := ci_at h18 (by omega)
    have h24 : 1 ≤ z19.toInt := by have e9 := hq (by omega); omega
    have h25 := pI_rng (s := z15.toInt) (by omega) (by omega)
    have h26 := (kI_val z19.toInt z15.toInt).2 (by omega)
    refine En_Ps 1 (pc' := 12) (lv' := [(0, .ref 159), (1, .int a)]) (st' := [.ref 159]) rfl ?_
    refine En_callV rfl rfl rfl rfl rfl rfl rfl rfl (by decide +kernel : TG 159 = 35) (by decide +kernel) rfl (c_272x σ0 hσ0 z15 h14 z19 h18) (by decide) (by decide) (fun v28 σ29 h27 => ?_)
    obtain ⟨h30, h31, z33, h34, rfl, h32⟩ := h27
    have h35 := h32.2.2.2.2.2.2
    have h36 := Fr_trans hF0 h31 (by decide +kernel)
    have h37 : wf σ29 = wf σ0 := wf_fr h31 (by decide +kernel)
    have h38 : z33.toInt = nR z15.toInt := h35.1 (by omega)
    have h39 := nR_rg (s := z15.toInt) (by omega) (by omega)
    refine En_Ps 2 (pc' := 17) (lv' := [(0, .ref 159), (1, .int a)]) (st' := [.int a, .ref 159]) rfl ?_
    refine En_callV rfl rfl rfl rfl rfl rfl rfl rfl (by decide +kernel : TG 159 = 35) (by decide +kernel) rfl (c_271x σ29 h30 a (geI rfl (by omega)) (leI rfl (by omega))) (by decide) (by decide) (fun v41 σ42 h40 => ?_)
    obtain ⟨h43, h44, z46, h47, rfl, h45⟩ := h40
    have h48 := h45.2.2
    have h49 := Fr_trans h36 h44 (by decide +kernel)
    have h50 : z46.toInt = wf σ0 (12 + 4 * a.toInt) := by rw [← h37]; exact h48.1
    have h51 : LSQ σ42 (wf σ0) a.toInt z46.toInt := by rw [← h37]; exact h48.2
    have h52 : TB σ42 166 167 168 (kI z19.toInt z15.toInt) z33.toInt := TB_fr h35.2 h44 (by decide +kernel : TG 166 = 42) (by decide +kernel : TG 167 = 43) (by decide +kernel : TG 168 = 44) (by decide +kernel)
    refine En_Ps 4 (pc' := 24) (lv' := [(3, .int ((Int32.ofInt 0))), (2, .int ((Int32.ofInt 0))), (0, .ref 159), (1, .int a)]) (st' := []) rfl ?_
    have key24 : ∀ (n24 : Nat) (y53 : Int32) (y54 : Int32), 0 ≤ y53.toInt → y53.toInt ≤ 81 → 0 ≤ y54.toInt → y54.toInt ≤ 81 → y54.toInt - z33.toInt ≤ 0 → y53.toInt - y54.toInt ≤ 0 → z33.toInt - y54.toInt < (n24 : Int) → y53.toInt = CNT (fun i => ASP (ci σ42 168 i) (ci σ42 169) (ci σ42 170) z46.toInt) (y54.toInt).toNat → y54.toInt ≤ z33.toInt → En 4 87 none mr_310 (P_310x σ0 a) 24 [(0, .ref 159), (1, .int a), (2, .int y53), (3, .int y54)] [] σ42 := by
      intro n24
      induction n24 with
      | zero =>
        intro y53 y54 h58 h59 h60 h61 h62 h63 h64 h65 h66
        exfalso; omega
      | succ n24 ih24 =>
        intro y53 y54 h58 h59 h60 h61 h62 h63 h64 h65 h66
        refine En_Ps 2 (pc' := 26) (lv' := [(0, .ref 159), (1, .int a), (2, .int y53), (3, .int y54)]) (st' := [.ref 159, .int y54]) rfl ?_
        refine En_getK (j := 18) ((h44 _ _ (inW (by decide +kernel : TG 159 = 35) (by decide +kernel))).trans h34) rfl rfl rfl (by decide +kernel : TG 159 = 35) (by decide +kernel) ?_
        refine En_icGe _ rfl rfl rfl (fun h67 => ?_) (fun h67 => ?_)
        · refine En_Ps 1 (pc' := 60) (lv' := [(0, .ref 159), (1, .int a), (2, .int y53), (3, .int y54)]) (st' := [.int y53]) rfl ?_
          exact En_ret (v := some (.int y53)) rfl rfl rfl ⟨h43, h49, y53, rfl, ⟨by omega, by omega, rsR_y ⟨by omega, by omega⟩ (fc1_of (z := z33.toInt) h50.symm (by rw [w22]; exact h38) (fun i i0 i1 => (h51 i i0 i1).1) (fun i i0 i1 => (h51 i i0 i1).2) (fun i i0 i1 => by rw [w22, ← h26]; exact TB_D h52 i i0 i1) (CNT_e h65 (by omega) (by omega)))⟩⟩
        · refine En_Ps 3 (pc' := 35) (lv' := [(0, .ref 159), (1, .int a), (2, .int y53), (3, .int y54)]) (st' := [.ref 159, .ref 159, .int y53]) rfl ?_
          refine En_getU (j := 17) (u := 168) (g' := 44) (q := 0) rfl rfl rfl (by decide +kernel : TG 159 = 35) (by decide +kernel) h43 (by decide +kernel) (by decide +kernel) (fun h68 => ?_)
          refine En_Ps 1 (pc' := 39) (lv' := [(0, .ref 159), (1, .int a), (2, .int y53), (3, .int y54)]) (st' := [.int y54, .ref 168, .ref 159, .int y53]) rfl ?_
          refine En_iald (l := (-2147483648)) (u := 2147483647) rfl rfl (by decide +kernel : TG 168 = 44) (by decide +kernel) h43 (by omega) (lnI (by decide +kernel : LN _ = 81) (by omega)) (FTsgl (by decide +kernel)) (fun z71 h70 h72 h73 => ?_)
          have h74 : ci σ42 168 (y54.toInt) = z71.toInt := ci_at h70 rfl
          have h75 := TB_rg h52 (by omega) y54.toInt (by omega) (by omega)
          refine En_callV rfl rfl rfl rfl rfl rfl rfl rfl (by decide +kernel : TG 159 = 35) (by decide +kernel) rfl (c_252x σ42 h43 z71 (geI rfl (by omega)) (leI rfl (by omega)) z46 h47) (by decide) (by decide) (fun v77 σ78 h76 => ?_)
          obtain ⟨h79, h80, z82, rfl, h81⟩ := h76
          have h83 := h81.2.2
          obtain rfl : σ42 = σ78 := Fr_nil h80
          refine En_iEq _ rfl rfl (fun h84 => ?_) (fun h84 => ?_)
          · refine En_Ps 2 (pc' := 52) (lv' := [(0, .ref 159), (1, .int a), (2, .int y53), (3, .int y54)]) (st' := [.int ((y53 + ((Int32.ofInt 0))))]) rfl ?_
            refine En_top (addI rfl (by decide : (Int32.ofInt 0).toInt = 0) (by omega) (by omega)) (fun z85 h86 => ?_)
            refine En_Ps 2 (pc' := 56) (lv' := [(3, .int ((y54 + Int32.ofInt 1))), (2, .int z85), (0, .ref 159), (1, .int a)]) (st' := []) rfl ?_
            refine En_lv1 (addI rfl (by decide : (Int32.ofInt 1).toInt = 1) (by omega) (by omega)) (fun z87 h88 => ?_)
            refine En_Ps 1 (pc' := 24) (lv' := [(3, .int z87), (2, .int z85), (0, .ref 159), (1, .int a)]) (st' := []) rfl ?_
            refine En_lv (lv := [(0, .ref 159), (1, .int a), (2, .int z85), (3, .int z87)]) ⟨rfl, rfl, rfl, rfl, trivial⟩ ?_
            exact ih24 z85 z87 (by omega) (by omega) (by omega) (by omega) (by omega) (by omega) (by omega) ((by first | exact CNT_y (by omega) h65 (by show ASP (ci _ 168 _) _ _ _; rw [h74]; rcases h83 with e9 | e9; exact e9.2; exfalso; omega) (by omega) (by omega) | exact CNT_n (by omega) h65 (by show ¬ ASP (ci _ 168 _) _ _ _; rw [h74]; rcases h83 with e9 | e9; exfalso; omega; exact e9.2) (by omega) (by omega))) ((by omega))
          · refine En_Ps 3 (pc' := 52) (lv' := [(0, .ref 159), (1, .int a), (2, .int y53), (3, .int y54)]) (st' := [.int ((y53 + ((Int32.ofInt 1))))]) rfl ?_
            refine En_top (addI rfl (by decide : (Int32.ofInt 1).toInt = 1) (by omega) (by omega)) (fun z89 h90 => ?_)
            refine En_Ps 2 (pc' := 56) (lv' := [(3, .int ((y54 + Int32.ofInt 1))), (2, .int z89), (0, .ref 159), (1, .int a)]) (st' := []) rfl ?_
            refine En_lv1 (addI rfl (by decide : (Int32.ofInt 1).toInt = 1) (by omega) (by omega)) (fun z91 h92 => ?_)
            refine En_Ps 1 (pc' := 24) (lv' := [(3, .int z91), (2, .int z89), (0, .ref 159), (1, .int a)]) (st' := []) rfl ?_
            refine En_lv (lv := [(0, .ref 159), (1, .int a), (2, .int z89), (3, .int z91)]) ⟨rfl, rfl, rfl, rfl, trivial⟩ ?_
            exact ih24 z89 z91 (by omega) (by omega) (by omega) (by omega) (by omega) (by omega) (by omega) ((by first | exact CNT_y (by omega) h65 (by show ASP (ci _ 168 _) _ _ _; rw [h74]; rcases h83 with e9 | e9; exact e9.2; exfalso; omega) (by omega) (by omega) | exact CNT_n (by omega) h65 (by show ¬ ASP (ci _ 168 _) _ _ _; rw [h74]; rcases h83 with e9 | e9; exfalso; omega; exact e9.2) (by omega) (by omega))) ((by omega))
    have := (by decide : (Int32.ofInt 0).toInt = 0)
    have := (by decide : (Int32.ofInt 0).toInt = 0)
    refine En_lv (lv := [(0, .ref 159), (1, .int a), (2, .int ((Int32.ofInt 0))), (3, .int ((Int32.ofInt 0)))]) ⟨rfl, rfl, rfl, rfl, trivial⟩ ?_
    exact key24 (Int.toNat (z33.toInt) + 1) ((Int32.ofInt 0)) ((Int32.ofInt 0)) (by omega) (by omega) (by omega) (by omega) (by omega) (by omega) (by omega) (CNT_0 (by omega) (by omega)) ((by omega))
  · refine En_Ps 1 (pc' := 10) (lv' := [(0, .ref 159), (1, .int a)]) (st' := [.int (((Int8.ofInt (-2)).toInt32))]) rfl ?_
    refine En_top (by decide : ((Int8.ofInt (-2)).toInt32).toInt = -2) (fun z93 h94 => ?_)
    exact En_ret (v := some (.int z93)) rfl rfl rfl ⟨hσ0, hF0, z93, rfl, ⟨by omega, by omega, rsR_n (fun ⟨q1, q2⟩ => by omega) (by omega)⟩⟩
/-- DoorSchoolModel.school()I -/
abbrev P_312x (σ0 : SG) (By : Int → Int) (Nb : Int) : PO := fun v σ => WT σ ∧ Fr [(35, 5), (35, 7), (35, 8), (35, 9), (35, 10), (35, 11), (35, 12), (35, 13), (36, 0), (41, 0)] σ0 σ ∧ ∃ m1 : Int32, (σ 159)[5]? = some (.int m1) ∧ ∃ ret : Int32, v = some (.int ret) ∧ -ret.toInt - 4 ≤ 0 ∧ ret.toInt - 1600 ≤ 0 ∧ -m1.toInt ≤ 0 ∧ m1.toInt ≤ 0 ∧ m1.toInt ≤ 0 ∧ -m1.toInt ≤ 0 ∧ ((WI σ ∧ MSC By Nb σ0 σ ret.toInt) ∧ ((fRead By Nb 1601 S00).1 = 0 → TW6 (fRead By Nb 1601 S00).2.2.2))
set_option maxRecDepth 10000 in
set_option maxHeartbeats 4000000 in
theorem c_312x {By : Int → Int} {Nb : Int} (σ0 : SG) (hσ0 : WT σ0) (hI : WI σ0) (hB : TBm By Nb σ0) : En 11 243 none mr_312 (P_312x σ0 By Nb) 0 [(0, .ref 159)] [] σ0 := by
  have hF0 : Fr [(35, 5), (35, 7), (35, 8), (35, 9), (35, 10), (35, 11), (35, 12), (35, 13), (36, 0), (41, 0)] σ0 σ0 := Fr_rfl
  refine En_Ps 2 (pc' := 2) (lv' := [(0, .ref 159)]) (st' := [.ref 159, .ref 159]) rfl ?_
  refine En_getI (j := 5) (l := 0) (u := 1600) rfl rfl rfl (by decide +kernel : TG 159 = 35) (by decide +kernel) hσ0 (by decide +kernel) (fun z2 h1 h3 h4 => ?_)
  refine En_put (j := 7) rfl rfl rfl (by decide +kernel : TG 159 = 35) (by decide +kernel) rfl (vI (l := 0) (u := 1600) (by decide +kernel) rfl (by omega) (by omega)) hσ0 hF0 (by decide +kernel) (fun σ5 h6 h7 h8 h9 => ?_)
  have h10 : SWd σ0 σ5 := SWd_tr (fun _ => rfl : SWd σ0 σ0) (fun i => ci_ne h9 (by decide) i)
  refine En_Ps 2 (pc' := 10) (lv' := [(0, .ref 159)]) (st' := [.int ((Int32.ofInt 0)), .ref 159]) rfl ?_
  refine En_put (j := 5) rfl rfl rfl (by decide +kernel : TG 159 = 35) (by decide +kernel) rfl (vI (l := 0) (u := 1600) (by decide +kernel) (by decide : (Int32.ofInt 0).toInt = 0) (by omega) (by omega)) h6 h7 (by decide +kernel) (fun σ11 h12 h13 h14 h15 => ?_)
  have h16 : SWd σ0 σ11 := SWd_tr h10 (fun i => ci_ne h15 (by decide) i)
  refine En_Ps 2 (pc' := 15) (lv' := [(0, .ref 159)]) (st' := [.int ((Int32.ofInt 0)), .ref 159]) rfl ?_
  refine En_put (j := 8) rfl rfl rfl (by decide +kernel : TG 159 = 35) (by decide +kernel) rfl (vI (l := 0) (u := 1600) (by decide +kernel) (by decide : (Int32.ofInt 0).toInt = 0) (by omega) (by omega)) h12 h13 (by decide +kernel) (fun σ17 h18 h19 h20 h21 => ?_)
  have h22 : SWd σ0 σ17 := SWd_tr h16 (fun i => ci_ne h21 (by decide) i)
  refine En_Ps 2 (pc' := 20) (lv' := [(0, .ref 159)]) (st' := [.int ((Int32.ofInt 0)), .ref 159]) rfl ?_
  refine En_put (j := 12) rfl rfl rfl (by decide +kernel : TG 159 = 35) (by decide +kernel) rfl (vI (l := 0) (u := 3) (by decide +kernel) (by decide : (Int32.ofInt 0).toInt = 0) (by omega) (by omega)) h18 h19 (by decide +kernel) (fun σ23 h24 h25 h26 h27 => ?_)
  have h28 : SWd σ0 σ23 := SWd_tr h22 (fun i => ci_ne h27 (by decide) i)
  refine En_Ps 2 (pc' := 25) (lv' := [(0, .ref 159)]) (st' := [.int ((Int32.ofInt (-1))), .ref 159]) rfl ?_
  refine En_put (j := 13) rfl rfl rfl (by decide +kernel : TG 159 = 35) (by decide +kernel) rfl (vI (l := (-1)) (u := 1600) (by decide +kernel) (by decide : (Int32.ofInt (-1)).toInt = -1) (by omega) (by omega)) h24 h25 (by decide +kernel) (fun σ29 h30 h31 h32 h33 => ?_)
  have h34 : SWd σ0 σ29 := SWd_tr h28 (fun i => ci_ne h33 (by decide) i)
  refine En_Ps 2 (pc' := 30) (lv' := [(1, .int ((Int32.ofInt 0))), (0, .ref 159)]) (st' := []) rfl ?_
  have key30 : ∀ (n30 : Nat) (σ36 : SG) (y35 : Int32), WT σ36 → Fr [(35, 5), (35, 7), (35, 8), (35, 9), (35, 10), (35, 11), (35, 12), (35, 13), (36, 0), (41, 0)] σ0 σ36 → (σ36 159)[7]? = some (.int z2) → (σ36 159)[5]? = some (.int ((Int32.ofInt 0))) → (σ36 159)[8]? = some (.int ((Int32.ofInt 0))) → (σ36 159)[12]? = some (.int ((Int32.ofInt 0))) → (σ36 159)[13]? = some (.int ((Int32.ofInt (-1)))) → 0 ≤ y35.toInt → y35.toInt ≤ 226 → -y35.toInt + 226 < (n30 : Int) → CLF σ36 y35.toInt → SWd σ0 σ36 → En 11 243 none mr_312 (P_312x σ0 By Nb) 30 [(0, .ref 159), (1, .int y35)] [] σ36 := by
    intro n30
    induction n30 with
    | zero =>
      intro σ36 y35 h37 h38 h39 h40 h41 h42 h43 h44 h45 h46 h47 h48
      exfalso; omega
    | succ n30 ih30 =>
      intro σ36 y35 h37 h38 h39 h40 h41 h42 h43 h44 h45 h46 h47 h48
      refine En_Ps 2 (pc' := 34) (lv' := [(0, .ref 159), (1, .int y35)]) (st' := [.int (((Int16.ofInt 226).toInt32)), .int y35]) rfl ?_
      refine En_icGe _ rfl (by decide : ((Int16.ofInt 226).toInt32).toInt = 226) rfl (fun h49 => ?_) (fun h49 => ?_)
      · have h50 := TPm_of hB h38 (by decide +kernel) h1 h39
        refine En_Ps 1 (pc' := 51) (lv' := [(0, .ref 159), (1, .int y35)]) (st' := [.ref 159]) rfl ?_
        refine En_callV rfl rfl rfl rfl rfl rfl rfl rfl (by decide +kernel : TG 159 = 35) (by decide +kernel) rfl (c_189x σ36 h37 ((Int32.ofInt 0)) h41 h50 (by have := (by decide : (Int32.ofInt 0).toInt = 0); have := hB.1; omega)) (by decide) (by decide) (fun v52 σ53 h51 => ?_)
        obtain ⟨h54, h55, z57, h58, z59, h60, rfl, h56⟩ := h51
        have h61 := h56.2.2.2.2.2.2.2.2.2.2
        have h62 := Fr_trans h38 h55 (by decide +kernel)
        have h63 := Imp_m h56.2.2.2.2.2.2.2.2.2.1
        have h64 : SWd σ0 σ53 := SWd_tr h48 (SWd_fr h55 (by decide +kernel))
        have key54 : ∀ (n54 : Nat) (σ84 : SG) (y65 : Int32) (y66 : Int32) (y67 : Int32), WT σ84 → Fr [(35, 5), (35, 7), (35, 8), (35, 9), (35, 10), (35, 11), (35, 12), (35, 13), (36, 0), (41, 0)] σ0 σ84 → (σ84 159)[7]? = some (.int z2) → (σ84 159)[5]? = some (.int ((Int32.ofInt 0))) → (σ84 159)[12]? = some (.int y65) → (σ84 159)[8]? = some (.int y66) → (σ84 159)[10]? = some (.int y67) → 0 ≤ y65.toInt → y65.toInt ≤ 3 → 0 ≤ y66.toInt → y66.toInt ≤ 1600 → 0 ≤ y67.toInt → y67.toInt ≤ 4 → 5 * (1600 - y66.toInt) + y67.toInt + 9000 * (3 - y65.toInt) < (n54 : Int) → FI σ84 y65.toInt → (y65.toInt = 0 → y67.toInt ≠ 0 → ci σ84 165 7 + 1 ≤ y66.toInt) → SWd σ0 σ84 → LPJ By Nb σ84 → En 11 243 none mr_312 (P_312x σ0 By Nb) 54 [(0, .ref 159), (1, .int y35)] [] σ84 := by
          intro n54
          induction n54 with
          | zero =>
            intro σ84 y65 y66 y67 h85 h86 h87 h88 h89 h90 h91 h92 h93 h94 h95 h96 h97 h98 h99 h100 h101 h102
            obtain ⟨S103, f104, h105, h106, h107, h110⟩ := h102
            have h108 := ML_k h105 h89
            have h109 := ML_t h105 h91
            exfalso; omega
          | succ n54 ih54 =>
            intro σ84 y65 y66 y67 h85 h86 h87 h88 h89 h90 h91 h92 h93 h94 h95 h96 h97 h98 h99 h100 h101 h102
            obtain ⟨S127, f128, h129, h130, h131, h134⟩ := h102
            have h132 := ML_k h129 h89
            have h133 := ML_t h129 h91
            refine En_Ps 1 (pc' := 55) (lv' := [(0, .ref 159), (1, .int y35)]) (st' := [.ref 159]) rfl ?_
            refine En_callV rfl rfl rfl rfl rfl rfl rfl rfl (by decide +kernel : TG 159 = 35) (by decide +kernel) rfl (c_237 σ84 h85 y65 h89) (by decide) (by decide) (fun v136 σ137 h135 => ?_)
            obtain ⟨h138, h139, z141, rfl, h140⟩ := h135
            obtain rfl : σ84 = σ137 := Fr_nil h139
            refine En_iEq _ rfl rfl (fun h142 => ?_) (fun h142 => ?_)
            · refine En_Ps 1 (pc' := 76) (lv' := [(0, .ref 159), (1, .int y35)]) (st' := [.ref 159]) rfl ?_
              refine En_callV rfl rfl rfl rfl rfl rfl rfl rfl (by decide +kernel : TG 159 = 35) (by decide +kernel) rfl (c_237 σ84 h85 y65 h89) (by decide) (by decide) (fun v144 σ145 h143 => ?_)
              obtain ⟨h146, h147, z149, rfl, h148⟩ := h143
              obtain rfl : σ84 = σ145 := Fr_nil h147
              refine En_iNe _ rfl rfl (fun hx => by exfalso; omega) (fun h150 => ?_)
              refine En_Ps 1 (pc' := 84) (lv' := [(0, .ref 159), (1, .int y35)]) (st' := [.int (((Int8.ofInt (-4)).toInt32))]) rfl ?_
              have := (by decide : (Int32.ofInt 0).toInt = 0)
              refine En_top (by decide : ((Int8.ofInt (-4)).toInt32).toInt = -4) (fun z151 h152 => ?_)
              exact En_ret (v := some (.int z151)) rfl rfl rfl ⟨h85, h86, (Int32.ofInt 0), h88, z151, rfl, ⟨by omega, by omega, by omega, by omega, by omega, by omega, ⟨⟨WI_sw h101 h86 (by decide +kernel) hI, MSC_bad h129 h130 (by omega) (by omega) h101⟩, fun zz => by exfalso; rw [← h130, fRead_x (Or.inl (by omega))] at zz; omega⟩⟩⟩
            · refine En_Ps 1 (pc' := 62) (lv' := [(0, .ref 159), (1, .int y35)]) (st' := [.ref 159]) rfl ?_
              refine En_getK (j := 10) h91 rfl rfl rfl (by decide +kernel : TG 159 = 35) (by decide +kernel) ?_
              refine En_iEq _ rfl rfl (fun h153 => ?_) (fun h153 => ?_)
              · refine En_Ps 1 (pc' := 76) (lv' := [(0, .ref 159), (1, .int y35)]) (st' := [.ref 159]) rfl ?_
                refine En_callV rfl rfl rfl rfl rfl rfl rfl rfl (by decide +kernel : TG 159 = 35) (by decide +kernel) rfl (c_237 σ84 h85 y65 h89) (by decide) (by decide) (fun v155 σ156 h154 => ?_)
                obtain ⟨h157, h158, z160, rfl, h159⟩ := h154
                obtain rfl : σ84 = σ156 := Fr_nil h158
                refine En_iNe _ rfl rfl (fun h161 => ?_) (fun hx => by exfalso; omega)
                refine En_Ps 2 (pc' := 87) (lv' := [(1, .int ((Int32.ofInt 0))), (0, .ref 159)]) (st' := []) rfl ?_
                have key87 : ∀ (n87 : Nat) (σ163 : SG) (y162 : Int32), WT σ163 → Fr [(35, 5), (35, 7), (35, 8), (35, 9), (35, 10), (35, 11), (35, 12), (35, 13), (36, 0), (41, 0)] σ0 σ163 → (σ163 159)[7]? = some (.int z2) → (σ163 159)[5]? = some (.int ((Int32.ofInt 0))) → (σ163 159)[12]? = some (.int y65) → (σ163 159)[8]? = some (.int y66) → (σ163 159)[10]? = some (.int y67) → 0 ≤ y162.toInt → y162.toInt ≤ 226 → -y162.toInt + 226 < (n87 : Int) → CPY (ff σ163) (wf σ163) y162.toInt → FI σ163 0 → ML By Nb σ163 S127 → En 11 243 none mr_312 (P_312x σ0 By Nb) 87 [(0, .ref 159), (1, .int y162)] [] σ163 := by
                  intro n87
                  induction n87 with
                  | zero =>
                    intro σ163 y162 h164 h165 h166 h167 h168 h169 h170 h171 h172 h173 h174 h175 h176
                    exfalso; omega
                  | succ n87 ih87 =>
                    intro σ163 y162 h164 h165 h166 h167 h168 h169 h170 h171 h172 h173 h174 h175 h176
                    refine En_Ps 2 (pc' := 91) (lv' := [(0, .ref 159), (1, .int y162)]) (st' := [.int (((Int16.ofInt 226).toInt32)), .int y162]) rfl ?_
                    refine En_icGe _ rfl (by decide : ((Int16.ofInt 226).toInt32).toInt = 226) rfl (fun h177 => ?_) (fun h177 => ?_)
                    · refine En_Ps 1 (pc' := 113) (lv' := [(0, .ref 159), (1, .int y162)]) (st' := [.ref 159]) rfl ?_
                      refine En_getU (j := 1) (u := 160) (g' := 36) (q := 0) rfl rfl rfl (by decide +kernel : TG 159 = 35) (by decide +kernel) h164 (by decide +kernel) (by decide +kernel) (fun h178 => ?_)
                      refine En_Ps 1 (pc' := 118) (lv' := [(0, .ref 159), (1, .int y162)]) (st' := [.int (((Int8.ofInt 7).toInt32)), .ref 160]) rfl ?_
                      refine En_iald (l := 0) (u := 1600) rfl (by decide : ((Int8.ofInt 7).toInt32).toInt = 7) (by decide +kernel : TG 160 = 36) (by decide +kernel) h164 (by omega) (lnI (by decide +kernel : LN _ = 226) (by omega)) (by decide +kernel) (fun z181 h180 h182 h183 => ?_)
                      have := (by decide : (Int32.ofInt 0).toInt = 0)
                      exact En_ret (v := some (.int z181)) rfl rfl rfl ⟨h164, h165, (Int32.ofInt 0), h167, z181, rfl, ⟨by omega, by omega, by omega, by omega, by omega, by omega, ⟨⟨FI_x h164 h175 rfl h174 (by omega) h165 (by decide +kernel) hI, MSC_ok h176 h130 (by omega) (by omega) h174 (by omega) h180⟩, fun _ => TW6_x h130 (by omega) (by omega) h134⟩⟩⟩
                    · refine En_Ps 1 (pc' := 95) (lv' := [(0, .ref 159), (1, .int y162)]) (st' := [.ref 159]) rfl ?_
                      refine En_getU (j := 1) (u := 160) (g' := 36) (q := 0) rfl rfl rfl (by decide +kernel : TG 159 = 35) (by decide +kernel) h164 (by decide +kernel) (by decide +kernel) (fun h184 => ?_)
                      refine En_Ps 2 (pc' := 100) (lv' := [(0, .ref 159), (1, .int y162)]) (st' := [.ref 159, .int y162, .ref 160]) rfl ?_
                      refine En_getU (j := 14) (u := 165) (g' := 41) (q := 0) rfl rfl rfl (by decide +kernel : TG 159 = 35) (by decide +kernel) h164 (by decide +kernel) (by decide +kernel) (fun h186 => ?_)
                      refine En_Ps 1 (pc' := 104) (lv' := [(0, .ref 159), (1, .int y162)]) (st' := [.int y162, .ref 165, .int y162, .ref 160]) rfl ?_
                      refine En_ialdW (n := 226) rfl rfl (by decide +kernel : TG 165 = 41) (by decide +kernel) h164 (by omega) (by decide +kernel) (by omega) (by decide +kernel) (fun z188 h189 h190 => ?_)
                      refine En_iastW (n := 226) rfl rfl (by decide +kernel : TG 160 = 36) (by decide +kernel) (by omega) (by decide +kernel) (by omega) (ft_fw h190 (by omega) (by omega) (by omega)) h164 h165 (by decide +kernel) (fun σ191 h192 h193 h194 h195 => ?_)
                      refine En_Ps 1 (pc' := 109) (lv' := [(1, .int ((y162 + Int32.ofInt 1))), (0, .ref 159)]) (st' := []) rfl ?_
                      refine En_lv1 (addI rfl (by decide : (Int32.ofInt 1).toInt = 1) (by omega) (by omega)) (fun z196 h197 => ?_)
                      refine En_Ps 1 (pc' := 87) (lv' := [(1, .int z196), (0, .ref 159)]) (st' := []) rfl ?_
                      refine En_lv (lv := [(0, .ref 159), (1, .int z196)]) ⟨rfl, rfl, trivial⟩ ?_
                      exact ih87 σ191 z196 h192 h193 ((h195 _ _ (Or.inl (neTG (by decide +kernel : TG 159 = 35) (by decide +kernel : TG 160 = 36) (by decide)))).trans h166) ((h195 _ _ (Or.inl (neTG (by decide +kernel : TG 159 = 35) (by decide +kernel : TG 160 = 36) (by decide)))).trans h167) ((h195 _ _ (Or.inl (neTG (by decide +kernel : TG 159 = 35) (by decide +kernel : TG 160 = 36) (by decide)))).trans h168) ((h195 _ _ (Or.inl (neTG (by decide +kernel : TG 159 = 35) (by decide +kernel : TG 160 = 36) (by decide)))).trans h169) ((h195 _ _ (Or.inl (neTG (by decide +kernel : TG 159 = 35) (by decide +kernel : TG 160 = 36) (by decide)))).trans h170) (by omega) (by omega) (by omega) (CPY_fw h174 h189 h194 h195 (by omega) (by omega)) (FI_ne h175 h195 (by decide)) (ML_ne h176 h195 (by decide))
                have := (by decide : (Int32.ofInt 0).toInt = 0)
                refine En_lv (lv := [(0, .ref 159), (1, .int ((Int32.ofInt 0)))]) ⟨rfl, rfl, trivial⟩ ?_
                exact key87 (Int.toNat (226) + 1) σ84 ((Int32.ofInt 0)) h85 h86 h87 h88 h89 h90 h91 (by omega) (by omega) (by omega) (CPY_0 (by decide)) (FI_z h99 (by omega)) (h129)
              · refine En_Ps 1 (pc' := 69) (lv' := [(0, .ref 159), (1, .int y35)]) (st' := [.ref 159]) rfl ?_
                obtain ⟨z199, h198, h200, h201⟩ := WT_peekI h85 (by decide +kernel : TG 165 = 41) (by decide +kernel : FT 41 (7 : Int).toNat = (0, 0, 1600)) (by decide +kernel)
                have h202 := ci_at h198 (rfl : (7 : Int) = 7)
                have h203 := h100 (by omega) (by omega)
                refine En_callV rfl rfl rfl rfl rfl rfl rfl rfl (by decide +kernel : TG 159 = 35) (by decide +kernel) rfl (c_301x σ84 h85 y66 h90 y65 h89 z199 h198 (by omega) (by omega) h99 h129 (by omega)) (by decide) (by decide) (fun v205 σ206 h204 => ?_)
                obtain ⟨h207, h208, z210, h211, z212, h213, z214, h215, z216, h217, rfl, h209⟩ := h204
                have h218 := h209.2.2.2.2.2.2.2.2.2.2.2.2.2.2.2.2.2.2.2.2.2.2.2.2.2.2.2.2.2.2.2.2.2.2.2.2
                have h219 := Fr_trans h86 h208 (by decide +kernel)
                have h220 := Imp_m h209.2.2.2.2.2.2.2.2.2.2.2.2.2.2.2.2.2.2.2.2.2.2.2.2.2.2.2.2.2.2.2.2.2.1
                have h221 : SWd σ0 σ206 := SWd_tr h101 (SWd_fr h208 (by decide +kernel))
                refine En_Ps 1 (pc' := 54) (lv' := [(0, .ref 159), (1, .int y35)]) (st' := []) rfl ?_
                have h222 := ci_at h217 (rfl : (7 : Int) = 7)
                exact ih54 σ206 z214 z210 z212 h207 h219 ((h208 _ _ (inW (by decide +kernel : TG 159 = 35) (by decide +kernel))).trans h87) ((h208 _ _ (inW (by decide +kernel : TG 159 = 35) (by decide +kernel))).trans h88) h215 h211 h213 (by omega) (by omega) (by omega) (by omega) (by omega) (by omega) (by omega) (h218.1 _ rfl) (fun _ _ => (by omega)) (h221) (LPJ_s h129 h85 (by omega) (by omega) h130 h131 h134 h218.2)
        have := (by decide : (Int32.ofInt 0).toInt = 0)
        have h223 := FI_0 (k := (Int32.ofInt 0).toInt) (CLF_fr (CLF_226 h47 (by omega)) h55 (by decide +kernel))
        have h224 := CLF_fr (CLF_226 h47 (by omega)) h55 (by decide +kernel) 7 (by omega) (by omega)
        exact key54 (Int.toNat (5 * (1600 - z57.toInt) + z59.toInt + 9000 * (3 - 0)) + 1) σ53 ((Int32.ofInt 0)) z57 z59 h54 h62 ((h55 _ _ (inW (by decide +kernel : TG 159 = 35) (by decide +kernel))).trans h39) ((h55 _ _ (inW (by decide +kernel : TG 159 = 35) (by decide +kernel))).trans h40) ((h55 _ _ (inW (by decide +kernel : TG 159 = 35) (by decide +kernel))).trans h42) h58 h60 (by omega) (by omega) (by omega) (by omega) (by omega) (by omega) (by omega) (h223) (fun _ _ => (by omega)) (h64) (LPJ_0 h61 (by decide) ((h55 _ _ (inW (by decide +kernel : TG 159 = 35) (by decide +kernel))).trans h42) (by decide) ((h55 _ _ (inW (by decide +kernel : TG 159 = 35) (by decide +kernel))).trans h43) (by decide) (CLF_fr (CLF_226 h47 (by omega)) h55 (by decide +kernel)))
      · refine En_Ps 1 (pc' := 38) (lv' := [(0, .ref 159), (1, .int y35)]) (st' := [.ref 159]) rfl ?_
        refine En_getU (j := 14) (u := 165) (g' := 41) (q := 0) rfl rfl rfl (by decide +kernel : TG 159 = 35) (by decide +kernel) h37 (by decide +kernel) (by decide +kernel) (fun h225 => ?_)
        refine En_Ps 2 (pc' := 43) (lv' := [(0, .ref 159), (1, .int y35)]) (st' := [.int ((Int32.ofInt 0)), .int y35, .ref 165]) rfl ?_
        refine En_iastW (n := 226) rfl rfl (by decide +kernel : TG 165 = 41) (by decide +kernel) (by omega) (by decide +kernel) (by omega) (ft_zero (by omega) (by omega) (by decide)) h37 h38 (by decide +kernel) (fun σ227 h228 h229 h230 h231 => ?_)
        have h232 : SWd σ0 σ227 := SWd_tr h48 (fun i => ci_ne h231 (by decide) i)
        refine En_Ps 1 (pc' := 47) (lv' := [(1, .int ((y35 + Int32.ofInt 1))), (0, .ref 159)]) (st' := []) rfl ?_
        refine En_lv1 (addI rfl (by decide : (Int32.ofInt 1).toInt = 1) (by omega) (by omega)) (fun z233 h234 => ?_)
        refine En_Ps 1 (pc' := 30) (lv' := [(1, .int z233), (0, .ref 159)]) (st' := []) rfl ?_
        refine En_lv (lv := [(0, .ref 159), (1, .int z233)]) ⟨rfl, rfl, trivial⟩ ?_
        exact ih30 σ227 z233 h228 h229 ((h231 _ _ (Or.inl (neTG (by decide +kernel : TG 159 = 35) (by decide +kernel : TG 165 = 41) (by decide)))).trans h39) ((h231 _ _ (Or.inl (neTG (by decide +kernel : TG 159 = 35) (by decide +kernel : TG 165 = 41) (by decide)))).trans h40) ((h231 _ _ (Or.inl (neTG (by decide +kernel : TG 159 = 35) (by decide +kernel : TG 165 = 41) (by decide)))).trans h41) ((h231 _ _ (Or.inl (neTG (by decide +kernel : TG 159 = 35) (by decide +kernel : TG 165 = 41) (by decide)))).trans h42) ((h231 _ _ (Or.inl (neTG (by decide +kernel : TG 159 = 35) (by decide +kernel : TG 165 = 41) (by decide)))).trans h43) (by omega) (by omega) (by omega) (CLF_s h47 h230 h231 (by decide) (by omega) (by omega)) (h232)
  have := (by decide : (Int32.ofInt 0).toInt = 0)
  refine En_lv (lv := [(0, .ref 159), (1, .int ((Int32.ofInt 0)))]) ⟨rfl, rfl, trivial⟩ ?_
  exact key30 (Int.toNat (226) + 1) σ29 ((Int32.ofInt 0)) h30 h31 ((h33 _ _ (Or.inr (by decide))).trans ((h27 _ _ (Or.inr (by decide))).trans ((h21 _ _ (Or.inr (by decide))).trans ((h15 _ _ (Or.inr (by decide))).trans h8)))) ((h33 _ _ (Or.inr (by decide))).trans ((h27 _ _ (Or.inr (by decide))).trans ((h21 _ _ (Or.inr (by decide))).trans h14))) ((h33 _ _ (Or.inr (by decide))).trans ((h27 _ _ (Or.inr (by decide))).trans h20)) ((h33 _ _ (Or.inr (by decide))).trans h26) h32 (by omega) (by omega) (by omega) (CLF_0 (by decide)) (h34)
/-- DoorSchoolModel.stormed(JI)I -/
abbrev P_316x (σ0 : SG) (a : Int64) (b : Int32) (s : Int32) (sc : Int32) : PO := fun v σ => WT σ ∧ Fr [(35, 18), (35, 21), (35, 31), (42, 0), (43, 0), (44, 0), (45, 0), (46, 0)] σ0 σ ∧ ∃ sl1 : Int32, (σ 159)[31]? = some (.int sl1) ∧ ∃ ret : Int32, v = some (.int ret) ∧ -ret.toInt ≤ 0 ∧ ret.toInt - 65535 ≤ 0 ∧ -sl1.toInt ≤ 0 ∧ sl1.toInt - 16 ≤ 0 ∧ -sl1.toInt + s.toInt - 4 ≤ 0 ∧ sl1.toInt - s.toInt - 16 ≤ 0 ∧ -sl1.toInt + sc.toInt - 1600 ≤ 0 ∧ sl1.toInt - sc.toInt - 15 ≤ 0 ∧ (ret.toInt = STD (wf σ0) a.toInt b.toInt ∧ sl1.toInt = STN (wf σ0) a.toInt b.toInt)
set_option maxRecDepth 10000 in
set_option maxHeartbeats 4000000 in
theorem c_316x (σ0 : SG) (hσ0 : WT σ0) (a : Int64) (b : Int32) (hl_b : 0 ≤ b.toInt) (hu_b : b.toInt ≤ 3) (s : Int32) (h_s : (σ0 160)[(0 : Int).toNat]? = some (.int s)) (sc : Int32) (h_sc : (σ0 160)[(7 : Int).toNat]? = some (.int sc)) (hp0 : -a.toInt ≤ 0) (hp1 : a.toInt - 2147483647 ≤ 0) (hp2 : -sc.toInt + 1 ≤ 0) : En 5 112 none mr_316 (P_316x σ0 a b s sc) 0 [(0, .ref 159), (1, .long a), (3, .int b)] [] σ0 := by
  obtain ⟨hl_s, hu_s⟩ := WT_int hσ0 (g := 36) (by decide +kernel) (by decide +kernel) (l := 0) (u := 4) (by decide +kernel) h_s
  obtain ⟨hl_sc, hu_sc⟩ := WT_int hσ0 (g := 36) (by decide +kernel) (by decide +kernel) (l := 0) (u := 1600) (by decide +kernel) h_sc
  have hF0 : Fr [(35, 18), (35, 21), (35, 31), (42, 0), (43, 0), (44, 0), (45, 0), (46, 0)] σ0 σ0 := Fr_rfl
  have kv := (kI_val sc.toInt s.toInt).2 (by omega)
  have := pI_rng (s := s.toInt) (by omega) (by omega)
  have w0 : wf σ0 0 = s.toInt := ci_at h_s rfl
  have : pI (wf σ0 0) = pI s.toInt := by rw [w0]
  refine En_Ps 4 (pc' := 5) (lv' := [(4, .long a), (0, .ref 159), (1, .long a), (3, .int b)]) (st' := [.int ((Int32.ofInt 0)), .ref 159]) rfl ?_
  refine En_put (j := 31) rfl rfl rfl (by decide +kernel : TG 159 = 35) (by decide +kernel) rfl (vF (by decide +kernel)) hσ0 hF0 (by decide +kernel) (fun σ1 h2 h3 h4 h5 => ?_)
  refine En_Ps 2 (pc' := 10) (lv' := [(4, .long a), (0, .ref 159), (1, .long a), (3, .int b)]) (st' := [.int b, .ref 159]) rfl ?_
  refine En_callV rfl rfl rfl rfl rfl rfl rfl rfl (by decide +kernel : TG 159 = 35) (by decide +kernel) rfl (c_213x σ1 h2 b (geI rfl (by omega)) (leI rfl (by omega)) s ((h5 _ _ (Or.inl (neTG (by decide +kernel : TG 160 = 36) (by decide +kernel : TG 159 = 35) (by decide)))).trans h_s) sc ((h5 _ _ (Or.inl (neTG (by decide +kernel : TG 160 = 36) (by decide +kernel : TG 159 = 35) (by decide)))).trans h_sc) (by omega)) (by decide) (by decide) (fun v7 σ8 h6 => ?_)
  obtain ⟨h9, h10, z12, h13, z14, rfl, h11⟩ := h6
  have h15 := h11.2.2.2.2.2.2.2.2.1
  have h16 := Fr_trans h3 h10 (by decide +kernel)
  have h17 : wf σ1 = wf σ0 := wf_fr h3 (by decide +kernel)
  have h18 : wf σ8 = wf σ0 := (wf_fr h10 (by decide +kernel)).trans h17
  have h19 : z14.toInt = DDw (wf σ0) b.toInt := by rw [← h17]; exact h15
  have h20 := DDw_rg (w := wf σ0) (d := b.toInt) (by omega) (by omega)
  refine En_Ps 3 (pc' := 18) (lv' := [(7, .int ((Int32.ofInt 0))), (6, .int z14), (4, .long a), (0, .ref 159), (1, .long a), (3, .int b)]) (st' := []) rfl ?_
  have key18 : ∀ (n18 : Nat) (σ25 : SG) (y21 : Int64) (y22 : Int32) (y23 : Int32) (y24 : Int32), WT σ25 → Fr [(35, 18), (35, 21), (35, 31), (42, 0), (43, 0), (44, 0), (45, 0), (46, 0)] σ0 σ25 → (σ25 160)[(0 : Int).toNat]? = some (.int s) → (σ25 160)[(7 : Int).toNat]? = some (.int sc) → (σ25 159)[21]? = some (.int z12) → (σ25 159)[31]? = some (.int y24) → 0 ≤ y21.toInt → y21.toInt ≤ 2147483647 → 0 ≤ y22.toInt → y22.toInt ≤ 65535 → 0 ≤ y23.toInt → y23.toInt ≤ 16 → 0 ≤ y24.toInt → y24.toInt ≤ 16 → y24.toInt - y23.toInt ≤ 0 → -y23.toInt + 16 < (n18 : Int) → y21.toInt = STX a.toInt (y23.toInt).toNat → y22.toInt = xN (DDw (wf σ0) b.toInt) (AAS (STQ a.toInt (wf σ0 (11 + 4 * b.toInt))) (y23.toInt).toNat) → y23.toInt ≤ pI (wf σ0 0) → wf σ25 = wf σ0 → y24.toInt = CNT (STQ a.toInt (wf σ0 (11 + 4 * b.toInt))) (y23.toInt).toNat → En 5 112 none mr_316 (P_316x σ0 a b s sc) 18 [(0, .ref 159), (1, .long a), (3, .int b), (4, .long y21), (6, .int y22), (7, .int y23)] [] σ25 := by
    intro n18
    induction n18 with
    | zero =>
      intro σ25 y21 y22 y23 y24 h26 h27 h28 h29 h30 h31 h32 h33 h34 h35 h36 h37 h38 h39 h40 h41 h42 h43 h44 h45 h46
      exfalso; omega
    | succ n18 ih18 =>
      intro σ25 y21 y22 y23 y24 h26 h27 h28 h29 h30 h31 h32 h33 h34 h35 h36 h37 h38 h39 h40 h41 h42 h43 h44 h45 h46
      refine En_Ps 2 (pc' := 21) (lv' := [(0, .ref 159), (1, .long a), (3, .int b), (4, .long y21), (6, .int y22), (7, .int y23)]) (st' := [.ref 159, .int y23]) rfl ?_
      refine En_callV rfl rfl rfl rfl rfl rfl rfl rfl (by decide +kernel : TG 159 = 35) (by decide +kernel) rfl (c_269 σ25 h26 s h28 sc h29) (by decide) (by decide) (fun v48 σ49 h47 => ?_)
      obtain ⟨h50, h51, z53, rfl, h52⟩ := h47
      have h54 := h52.2.2
      obtain rfl : σ25 = σ49 := Fr_nil h51
      have h55 := h54
      refine En_icGe _ rfl rfl rfl (fun h56 => ?_) (fun h56 => ?_)
      · refine En_Ps 1 (pc' := 94) (lv' := [(0, .ref 159), (1, .long a), (3, .int b), (4, .long y21), (6, .int y22), (7, .int y23)]) (st' := [.int y22]) rfl ?_
        exact En_ret (v := some (.int y22)) rfl rfl rfl ⟨h26, h27, y24, h31, y22, rfl, ⟨by omega, by omega, by omega, by omega, by omega, by omega, by omega, by omega, ⟨STD_of rfl (i := y23.toInt) (by omega) h43, STN_of (i := y23.toInt) (by omega) h46⟩⟩⟩
      · refine En_Ps 3 (pc' := 33) (lv' := [(0, .ref 159), (1, .long a), (3, .int b), (4, .long y21), (6, .int y22), (7, .int y23)]) (st' := [.long ((((1103515245 : Int64)) * y21))]) rfl ?_
        refine En_topL (mulL (by decide : (1103515245 : Int64).toInt = 1103515245) rfl (Z := 1103515245 * y21.toInt) (by omega) (by omega) (by omega)) (fun z57 h58 => ?_)
        refine En_Ps 2 (pc' := 37) (lv' := [(0, .ref 159), (1, .long a), (3, .int b), (4, .long y21), (6, .int y22), (7, .int y23)]) (st' := [.long ((z57 + ((12345 : Int64))))]) rfl ?_
        refine En_topL (addL rfl (by decide : (12345 : Int64).toInt = 12345) (by omega) (by omega)) (fun z59 h60 => ?_)
        refine En_Ps 1 (pc' := 40) (lv' := [(0, .ref 159), (1, .long a), (3, .int b), (4, .long y21), (6, .int y22), (7, .int y23)]) (st' := [.long ((2147483648 : Int64)), .long z59]) rfl ?_
        refine En_lrem (c := 2147483648) rfl rfl (by decide : (2147483648 : Int64).toInt = 2147483648) (by omega) (by decide) (fun z61 h62 => ?_)
        refine En_Ps 1 (pc' := 43) (lv' := [(4, .long z61), (0, .ref 159), (1, .long a), (3, .int b), (6, .int y22), (7, .int y23)]) (st' := []) rfl ?_
        have h63 : z61.toInt = STX a.toInt (y23.toInt + 1).toNat := STX_s (by omega) h42 (by omega) rfl
        refine En_Ps 2 (pc' := 48) (lv' := [(4, .long z61), (0, .ref 159), (1, .long a), (3, .int b), (6, .int y22), (7, .int y23)]) (st' := [.long ((65536 : Int64)), .long z61]) rfl ?_
        refine En_ldiv (c := 65536) rfl rfl (by decide : (65536 : Int64).toInt = 65536) (by omega) (by decide) (fun z64 h65 => ?_)
        refine En_Ps 1 (pc' := 52) (lv' := [(4, .long z61), (0, .ref 159), (1, .long a), (3, .int b), (6, .int y22), (7, .int y23)]) (st' := [.long ((100 : Int64)), .long z64]) rfl ?_
        refine En_lrem (c := 100) rfl rfl (by decide : (100 : Int64).toInt = 100) (by omega) (by decide) (fun z66 h67 => ?_)
        refine En_Ps 3 (pc' := 56) (lv' := [(4, .long z61), (0, .ref 159), (1, .long a), (3, .int b), (6, .int y22), (7, .int y23)]) (st' := [.int ((Int32.ofInt 1)), .int b, .ref 159, .long z66]) rfl ?_
        have := (by decide : ((Int32.ofInt 1)).toInt = 1)
        obtain ⟨z68, h69, h70, h71⟩ := WT_peekJ (J := (4 * b.toInt + ((Int32.ofInt 1)).toInt + 10)) (l := 0) (u := 50) h26 (by decide +kernel : TG 160 = 36) (by decide +kernel) (by omega) (lnI (by decide +kernel : LN _ = 226) (by omega)) (FTrow 36 11 4 4 (by decide +kernel) (by omega) (by omega) (by omega))
        have := (by decide : ((Int32.ofInt 1)).toInt = 1)
        refine En_callV rfl rfl rfl rfl rfl rfl rfl rfl (by decide +kernel : TG 159 = 35) (by decide +kernel) rfl (c_290b σ25 h26 b ((Int32.ofInt 1)) (geI rfl (by omega)) (leI rfl (by omega)) (geI (by decide : (Int32.ofInt 1).toInt = 1) (by omega)) (leI (by decide : (Int32.ofInt 1).toInt = 1) (by omega)) z68 h69) (by decide) (by decide) (fun v73 σ74 h72 => ?_)
        obtain ⟨h75, h76, z78, rfl, h77⟩ := h72
        obtain rfl : σ25 = σ74 := Fr_nil h76
        have h79 : (wf σ0 (11 + 4 * b.toInt)) = z78.toInt := by rw [← h45]; exact (ci_at h69 (by omega)).trans (by omega)
        refine En_Ps 2 (pc' := 61) (lv' := [(4, .long z61), (0, .ref 159), (1, .long a), (3, .int b), (6, .int y22), (7, .int y23)]) (st' := [.int (lg_cmp z66 z78.toInt64)]) rfl ?_
        refine En_lgLt _ rfl (i2lI rfl) rfl (fun h80 => ?_) (fun h80 => ?_)
        · refine En_Ps 4 (pc' := 73) (lv' := [(4, .long z61), (0, .ref 159), (1, .long a), (3, .int b), (6, .int y22), (7, .int y23)]) (st' := [.int ((((Int32.ofInt 1)) <<< (y23 &&& 31))), .int y22]) rfl ?_
          refine En_nam (fun z81 h82 => ?_)
          have h83 : z81.toInt = pI y23.toInt := shl_v h82 rfl (by omega) (by omega)
          have := pI_pos y23.toInt
          have : pI y23.toInt ≤ 32768 := pI_mono (Y := 15) (by omega)
          refine En_Ps 1 (pc' := 74) (lv' := [(4, .long z61), (0, .ref 159), (1, .long a), (3, .int b), (6, .int y22), (7, .int y23)]) (st' := [.int ((y22 ^^^ z81))]) rfl ?_
          refine En_nam (fun z84 h85 => ?_)
          have h86 : z84.toInt = xN y22.toInt z81.toInt := xor_v h85 rfl rfl (by omega) (by omega)
          have := xN_lt (X := y22.toInt) (Y := z81.toInt) 16 (by omega) (by omega) (Int.lt_of_le_of_lt (by omega : _ ≤ (65535 : Int)) (by decide)) (Int.lt_of_le_of_lt (by omega : _ ≤ (65535 : Int)) (by decide))
          have two16 : ((2 ^ 16 : Nat) : Int) = 65536 := by decide
          refine En_Ps 3 (pc' := 78) (lv' := [(6, .int z84), (4, .long z61), (0, .ref 159), (1, .long a), (3, .int b), (7, .int y23)]) (st' := [.ref 159, .ref 159]) rfl ?_
          refine En_getK (j := 31) h31 rfl rfl rfl (by decide +kernel : TG 159 = 35) (by decide +kernel) ?_
          refine En_Ps 2 (pc' := 83) (lv' := [(6, .int z84), (4, .long z61), (0, .ref 159), (1, .long a), (3, .int b), (7, .int y23)]) (st' := [.int ((y24 + ((Int32.ofInt 1)))), .ref 159]) rfl ?_
          refine En_top (addI rfl (by decide : (Int32.ofInt 1).toInt = 1) (by omega) (by omega)) (fun z87 h88 => ?_)
          refine En_put (j := 31) rfl rfl rfl (by decide +kernel : TG 159 = 35) (by decide +kernel) rfl (vF (by decide +kernel)) h26 h27 (by decide +kernel) (fun σ89 h90 h91 h92 h93 => ?_)
          refine En_Ps 1 (pc' := 89) (lv' := [(7, .int ((y23 + Int32.ofInt 1))), (6, .int z84), (4, .long z61), (0, .ref 159), (1, .long a), (3, .int b)]) (st' := []) rfl ?_
          refine En_lv1 (addI rfl (by decide : (Int32.ofInt 1).toInt = 1) (by omega) (by omega)) (fun z94 h95 => ?_)
          refine En_Ps 1 (pc' := 18) (lv' := [(7, .int z94), (6, .int z84), (4, .long z61), (0, .ref 159), (1, .long a), (3, .int b)]) (st' := []) rfl ?_
          refine En_lv (lv := [(0, .ref 159), (1, .long a), (3, .int b), (4, .long z61), (6, .int z84), (7, .int z94)]) ⟨rfl, rfl, rfl, rfl, rfl, rfl, trivial⟩ ?_
          exact ih18 σ89 z61 z84 z94 z87 h90 h91 ((h93 _ _ (Or.inl (neTG (by decide +kernel : TG 160 = 36) (by decide +kernel : TG 159 = 35) (by decide)))).trans h28) ((h93 _ _ (Or.inl (neTG (by decide +kernel : TG 160 = 36) (by decide +kernel : TG 159 = 35) (by decide)))).trans h29) ((h93 _ _ (Or.inr (by decide))).trans h30) h92 (by omega) (by omega) (by omega) (by omega) (by omega) (by omega) (by omega) (by omega) (by omega) (by omega) ((STX_s (by omega) h42 (by omega) (by omega))) (xas_y (by omega) h43 (STQ_y (by omega) h63 (q := z66.toInt) (by omega) h79 (by omega)) (q := z81.toInt) (by omega) (by omega) (by omega)) ((by omega)) ((wf_ne h93 (by decide)).trans h45) (CNT_y (by omega) h46 (STQ_y (by omega) h63 (q := z66.toInt) (by omega) h79 (by omega)) (by omega) (by omega))
        · refine En_Ps 2 (pc' := 89) (lv' := [(7, .int ((y23 + Int32.ofInt 1))), (4, .long z61), (0, .ref 159), (1, .long a), (3, .int b), (6, .int y22)]) (st' := []) rfl ?_
          refine En_lv1 (addI rfl (by decide : (Int32.ofInt 1).toInt = 1) (by omega) (by omega)) (fun z96 h97 => ?_)
          refine En_Ps 1 (pc' := 18) (lv' := [(7, .int z96), (4, .long z61), (0, .ref 159), (1, .long a), (3, .int b), (6, .int y22)]) (st' := []) rfl ?_
          refine En_lv (lv := [(0, .ref 159), (1, .long a), (3, .int b), (4, .long z61), (6, .int y22), (7, .int z96)]) ⟨rfl, rfl, rfl, rfl, rfl, rfl, trivial⟩ ?_
          exact ih18 σ25 z61 y22 z96 y24 h26 h27 h28 h29 h30 h31 (by omega) (by omega) (by omega) (by omega) (by omega) (by omega) (by omega) (by omega) (by omega) (by omega) ((STX_s (by omega) h42 (by omega) (by omega))) (xas_n (by omega) h43 (STQ_n (by omega) h63 (q := z66.toInt) (by omega) h79 (by omega)) (by omega) (by omega)) ((by omega)) (h45) (CNT_n (by omega) h46 (STQ_n (by omega) h63 (q := z66.toInt) (by omega) h79 (by omega)) (by omega) (by omega))
  have := (by decide : (Int32.ofInt 0).toInt = 0)
  have := (by decide : (Int32.ofInt 0).toInt = 0)
  refine En_lv (lv := [(0, .ref 159), (1, .long a), (3, .int b), (4, .long a), (6, .int z14), (7, .int ((Int32.ofInt 0)))]) ⟨rfl, rfl, rfl, rfl, rfl, rfl, trivial⟩ ?_
  exact key18 (Int.toNat (16) + 1) σ8 a z14 ((Int32.ofInt 0)) ((Int32.ofInt 0)) h9 h16 ((h10 _ _ (inWa (by decide +kernel : TG 160 = 36) (by decide +kernel))).trans ((h5 _ _ (Or.inl (neTG (by decide +kernel : TG 160 = 36) (by decide +kernel : TG 159 = 35) (by decide)))).trans h_s)) ((h10 _ _ (inWa (by decide +kernel : TG 160 = 36) (by decide +kernel))).trans ((h5 _ _ (Or.inl (neTG (by decide +kernel : TG 160 = 36) (by decide +kernel : TG 159 = 35) (by decide)))).trans h_sc)) h13 ((h10 _ _ (inW (by decide +kernel : TG 159 = 35) (by decide +kernel))).trans h4) (by omega) (by omega) (by omega) (by omega) (by omega) (by omega) (by omega) (by omega) (by omega) (by omega) (STX_0 (by omega) (by omega)) (xas_0 h19 (by omega) (by omega)) ((by omega)) (h18) (CNT_0 (by omega) (by omega))
/-- DoorSchoolModel.storm(III)I -/
abbrev P_315x (σ0 : SG) (a : Int32) (b : Int32) (c : Int32) : PO := fun v σ => WT σ ∧ Fr [(35, 18), (35, 21), (35, 31), (42, 0), (43, 0), (44, 0), (45, 0), (46, 0)] σ0 σ ∧ ∃ ret : Int32, v = some (.int ret) ∧ -ret.toInt - 2 ≤ 0 ∧ ret.toInt - 65535 ≤ 0 ∧ ret.toInt = smR (wf σ0) a.toInt b.toInt c.toInt
set_option maxRecDepth 10000 in
set_option maxHeartbeats 4000000 in
theorem c_315x (σ0 : SG) (hσ0 : WT σ0) (a : Int32) (b : Int32) (c : Int32) (hq : QX (wf σ0)) : En 6 139 none mr_315 (P_315x σ0 a b c) 0 [(0, .ref 159), (1, .int a), (2, .int b), (3, .int c)] [] σ0 := by
  have hF0 : Fr [(35, 18), (35, 21), (35, 31), (42, 0), (43, 0), (44, 0), (45, 0), (46, 0)] σ0 σ0 := Fr_rfl
  refine En_Ps 1 (pc' := 1) (lv' := [(0, .ref 159), (1, .int a), (2, .int b), (3, .int c)]) (st' := [.int a]) rfl ?_
  refine En_callS rfl rfl rfl rfl rfl rfl rfl rfl rfl (c_265 σ0 hσ0 a) (by decide) (by decide) (fun v2 σ3 h1 => ?_)
  obtain ⟨h4, h5, z7, rfl, h6⟩ := h1
  obtain rfl : σ0 = σ3 := Fr_nil h5
  refine En_iEq _ rfl rfl (fun h8 => ?_) (fun h8 => ?_)
  · refine En_Ps 1 (pc' := 29) (lv' := [(0, .ref 159), (1, .int a), (2, .int b), (3, .int c)]) (st' := [.int (((Int8.ofInt (-2)).toInt32))]) rfl ?_
    refine En_top (by decide : ((Int8.ofInt (-2)).toInt32).toInt = -2) (fun z9 h10 => ?_)
    exact En_ret (v := some (.int z9)) rfl rfl rfl ⟨hσ0, hF0, z9, rfl, ⟨by omega, by omega, smR_n (fun ⟨q1, q2, q3, q4, q5, q6⟩ => by omega) (by omega)⟩⟩
  · refine En_Ps 2 (pc' := 9) (lv' := [(0, .ref 159), (1, .int a), (2, .int b), (3, .int c)]) (st' := [.int b, .ref 159]) rfl ?_
    obtain ⟨z12, h11, h13, h14⟩ := WT_peekI hσ0 (by decide +kernel : TG 160 = 36) (by decide +kernel : FT 36 (2 : Int).toNat = (0, 0, 4)) (by decide +kernel)
    refine En_callV rfl rfl rfl rfl rfl rfl rfl rfl (by decide +kernel : TG 159 = 35) (by decide +kernel) rfl (c_254 σ0 hσ0 b z12 h11) (by decide) (by decide) (fun v16 σ17 h15 => ?_)
    obtain ⟨h18, h19, z21, rfl, h20⟩ := h15
    obtain rfl : σ0 = σ17 := Fr_nil h19
    have w22 : wf σ0 (2) = z12.toInt := ci_at h11 (by omega)
    refine En_iEq _ rfl rfl (fun h23 => ?_) (fun h23 => ?_)
    · refine En_Ps 1 (pc' := 29) (lv' := [(0, .ref 159), (1, .int a), (2, .int b), (3, .int c)]) (st' := [.int (((Int8.ofInt (-2)).toInt32))]) rfl ?_
      refine En_top (by decide : ((Int8.ofInt (-2)).toInt32).toInt = -2) (fun z24 h25 => ?_)
      exact En_ret (v := some (.int z24)) rfl rfl rfl ⟨hσ0, hF0, z24, rfl, ⟨by omega, by omega, smR_n (fun ⟨q1, q2, q3, q4, q5, q6⟩ => by omega) (by omega)⟩⟩
    · refine En_Ps 4 (pc' := 21) (lv' := [(0, .ref 159), (1, .int a), (2, .int b), (3, .int c)]) (st' := [.long ((2 : Int64)), .long ((Int64.ofNat 0)), .long c.toInt64]) rfl ?_
      have : c.toInt64.toInt = c.toInt := (i2lI rfl)
      have := (by decide : ((Int64.ofNat 0)).toInt = 0)
      have := (by decide : ((2 : Int64)).toInt = 2)
      refine En_callS rfl rfl rfl rfl rfl rfl rfl rfl rfl (c_249 σ0 hσ0 c.toInt64 ((Int64.ofNat 0)) ((2 : Int64))) (by decide) (by decide) (fun v27 σ28 h26 => ?_)
      obtain ⟨h29, h30, z32, rfl, h31⟩ := h26
      obtain rfl : σ0 = σ28 := Fr_nil h30
      refine En_iNe _ rfl rfl (fun h33 => ?_) (fun h33 => ?_)
      · obtain ⟨z35, h34, h36, h37⟩ := WT_peekI hσ0 (by decide +kernel : TG 160 = 36) (by decide +kernel : FT 36 (0 : Int).toNat = (0, 0, 4)) (by decide +kernel)
        obtain ⟨z39, h38, h40, h41⟩ := WT_peekI hσ0 (by decide +kernel : TG 160 = 36) (by decide +kernel : FT 36 (7 : Int).toNat = (0, 0, 1600)) (by decide +kernel)
        have w42 : wf σ0 (0) = z35.toInt := ci_at h34 (by omega)
        have w43 : wf σ0 (7) = z39.toInt := ci_at h38 (by omega)
        have h44 : 1 ≤ z39.toInt := by have e9 := hq (by omega); omega
        refine En_Ps 4 (pc' := 34) (lv' := [(0, .ref 159), (1, .int a), (2, .int b), (3, .int c)]) (st' := [.int b, .long a.toInt64, .ref 159]) rfl ?_
        have : a.toInt64.toInt = a.toInt := (i2lI rfl)
        refine En_callV rfl rfl rfl rfl rfl rfl rfl rfl (by decide +kernel : TG 159 = 35) (by decide +kernel) rfl (c_316x σ0 hσ0 a.toInt64 b (geI rfl (by omega)) (leI rfl (by omega)) z35 h34 z39 h38 (by omega) (by omega) (by omega)) (by decide) (by decide) (fun v46 σ47 h45 => ?_)
        obtain ⟨h48, h49, z51, h52, z53, rfl, h50⟩ := h45
        have h54 := h50.2.2.2.2.2.2.2.2
        have h55 := Fr_trans hF0 h49 (by decide +kernel)
        have h56 : wf σ47 = wf σ0 := wf_fr h49 (by decide +kernel)
        rw [show (a.toInt64).toInt = a.toInt from i2lI rfl] at h54
        refine En_Ps 2 (pc' := 40) (lv' := [(4, .int z53), (0, .ref 159), (1, .int a), (2, .int b), (3, .int c)]) (st' := [.int c]) rfl ?_
        refine En_iNe _ rfl rfl (fun h57 => ?_) (fun h57 => ?_)
        · refine En_Ps 2 (pc' := 50) (lv' := [(4, .int z53), (0, .ref 159), (1, .int a), (2, .int b), (3, .int c)]) (st' := [.int ((Int32.ofInt 1)), .int c]) rfl ?_
          refine En_icNe _ rfl (by decide : (Int32.ofInt 1).toInt = 1) rfl (fun h58 => ?_) (fun h58 => ?_)
          · refine En_Ps 1 (pc' := 63) (lv' := [(4, .int z53), (0, .ref 159), (1, .int a), (2, .int b), (3, .int c)]) (st' := [.ref 159]) rfl ?_
            refine En_getK (j := 31) h52 rfl rfl rfl (by decide +kernel : TG 159 = 35) (by decide +kernel) ?_
            exact En_ret (v := some (.int z51)) rfl rfl rfl ⟨h48, h55, z51, rfl, ⟨by omega, by omega, (by first | exact smR_0 ⟨by omega, by omega, by omega, by omega, by omega, by omega⟩ (by omega) h54.1 | exact smR_c ⟨by omega, by omega, by omega, by omega, by omega, by omega⟩ (by omega) h54.2)⟩⟩
          · refine En_Ps 2 (pc' := 56) (lv' := [(4, .int z53), (0, .ref 159), (1, .int a), (2, .int b), (3, .int c)]) (st' := [.int z53, .ref 159]) rfl ?_
            refine En_callV rfl rfl rfl rfl rfl rfl rfl rfl (by decide +kernel : TG 159 = 35) (by decide +kernel) rfl (c_283x σ47 h48 z53 (geI rfl (by omega)) (leI rfl (by omega))) (by decide) (by decide) (fun v60 σ61 h59 => ?_)
            obtain ⟨h62, h63, z65, rfl, h64⟩ := h59
            have h66 := h64.2.2
            obtain rfl : σ47 = σ61 := Fr_nil h63
            refine En_Ps 1 (pc' := 66) (lv' := [(4, .int z53), (0, .ref 159), (1, .int a), (2, .int b), (3, .int c)]) (st' := [.int z65]) rfl ?_
            exact En_ret (v := some (.int z65)) rfl rfl rfl ⟨h48, h55, z65, rfl, ⟨by omega, by omega, smR_1 ⟨by omega, by omega, by omega, by omega, by omega, by omega⟩ (by omega) h54.1 (by rw [← h56]; exact h66)⟩⟩
        · refine En_Ps 2 (pc' := 66) (lv' := [(4, .int z53), (0, .ref 159), (1, .int a), (2, .int b), (3, .int c)]) (st' := [.int z53]) rfl ?_
          exact En_ret (v := some (.int z53)) rfl rfl rfl ⟨h48, h55, z53, rfl, ⟨by omega, by omega, (by first | exact smR_0 ⟨by omega, by omega, by omega, by omega, by omega, by omega⟩ (by omega) h54.1 | exact smR_c ⟨by omega, by omega, by omega, by omega, by omega, by omega⟩ (by omega) h54.2)⟩⟩
      · refine En_Ps 1 (pc' := 29) (lv' := [(0, .ref 159), (1, .int a), (2, .int b), (3, .int c)]) (st' := [.int (((Int8.ofInt (-2)).toInt32))]) rfl ?_
        refine En_top (by decide : ((Int8.ofInt (-2)).toInt32).toInt = -2) (fun z67 h68 => ?_)
        exact En_ret (v := some (.int z67)) rfl rfl rfl ⟨hσ0, hF0, z67, rfl, ⟨by omega, by omega, smR_n (fun ⟨q1, q2, q3, q4, q5, q6⟩ => by omega) (by omega)⟩⟩
/-- DoorSchoolModel.teach(III)I -/
abbrev P_320x (σ0 : SG) (a : Int32) (b : Int32) (c : Int32) : PO := fun v σ => WT σ ∧ Fr [(36, 0)] σ0 σ ∧ ∃ ret : Int32, v = some (.int ret) ∧ -ret.toInt - 5 ≤ 0 ∧ ret.toInt - 12 ≤ 0 ∧ ((WINV (wf σ0) → WINV (wf σ)) ∧ ret.toInt = tcR (wf σ0) a.toInt b.toInt c.toInt ∧ (∀ i : Int, 0 ≤ i → i < 226 → wf σ i = tcW (wf σ0) a.toInt b.toInt c.toInt i))
set_option maxRecDepth 10000 in
set_option maxHeartbeats 4000000 in
theorem c_320x (σ0 : SG) (hσ0 : WT σ0) (a : Int32) (b : Int32) (c : Int32) : En 3 62 none mr_320 (P_320x σ0 a b c) 0 [(0, .ref 159), (1, .int a), (2, .int b), (3, .int c)] [] σ0 := by
  have hF0 : Fr [(36, 0)] σ0 σ0 := Fr_rfl
  refine En_Ps 2 (pc' := 2) (lv' := [(0, .ref 159), (1, .int a), (2, .int b), (3, .int c)]) (st' := [.int a, .ref 159]) rfl ?_
  obtain ⟨z2, h1, h3, h4⟩ := WT_peekI hσ0 (by decide +kernel : TG 160 = 36) (by decide +kernel : FT 36 (2 : Int).toNat = (0, 0, 4)) (by decide +kernel)
  refine En_callV rfl rfl rfl rfl rfl rfl rfl rfl (by decide +kernel : TG 159 = 35) (by decide +kernel) rfl (c_254 σ0 hσ0 a z2 h1) (by decide) (by decide) (fun v6 σ7 h5 => ?_)
  obtain ⟨h8, h9, z11, rfl, h10⟩ := h5
  obtain rfl : σ0 = σ7 := Fr_nil h9
  have w12 : wf σ0 (2) = z2.toInt := ci_at h1 (by omega)
  refine En_iEq _ rfl rfl (fun h13 => ?_) (fun h13 => ?_)
  · refine En_Ps 1 (pc' := 29) (lv' := [(0, .ref 159), (1, .int a), (2, .int b), (3, .int c)]) (st' := [.int (((Int8.ofInt (-2)).toInt32))]) rfl ?_
    refine En_top (by decide : ((Int8.ofInt (-2)).toInt32).toInt = -2) (fun z14 h15 => ?_)
    exact En_ret (v := some (.int z14)) rfl rfl rfl ⟨hσ0, hF0, z14, rfl, ⟨by omega, by omega, (by have q0 : ¬ okL (wf σ0) a.toInt b.toInt c.toInt := (fun ⟨q1, q2, q3, q4, q5, q6, q7⟩ => by omega); exact ⟨fun H => H, tcR_2 q0 (by omega), tcMn (fun q => q0 q.1) (fun i _ _ => rfl)⟩)⟩⟩
  · refine En_Ps 3 (pc' := 11) (lv' := [(0, .ref 159), (1, .int a), (2, .int b), (3, .int c)]) (st' := [.long b.toInt64, .ref 159]) rfl ?_
    obtain ⟨z17, h16, h18, h19⟩ := WT_peekI hσ0 (by decide +kernel : TG 160 = 36) (by decide +kernel : FT 36 (0 : Int).toNat = (0, 0, 4)) (by decide +kernel)
    obtain ⟨z21, h20, h22, h23⟩ := WT_peekI hσ0 (by decide +kernel : TG 160 = 36) (by decide +kernel : FT 36 (7 : Int).toNat = (0, 0, 1600)) (by decide +kernel)
    have : b.toInt64.toInt = b.toInt := (i2lI rfl)
    refine En_callV rfl rfl rfl rfl rfl rfl rfl rfl (by decide +kernel : TG 159 = 35) (by decide +kernel) rfl (c_259x σ0 hσ0 b.toInt64 z17 h16 z21 h20) (by decide) (by decide) (fun v25 σ26 h24 => ?_)
    obtain ⟨h27, h28, z30, rfl, h29⟩ := h24
    have h31 := h29.2.2.2
    obtain rfl : σ0 = σ26 := Fr_nil h28
    have h32 := h31
    have w33 : wf σ0 (0) = z17.toInt := ci_at h16 (by omega)
    have w34 : wf σ0 (7) = z21.toInt := ci_at h20 (by omega)
    have h35 : pI (wf σ0 0) = pI (z17.toInt) := by rw [w33]
    refine En_iEq _ rfl rfl (fun h36 => ?_) (fun h36 => ?_)
    · refine En_Ps 1 (pc' := 29) (lv' := [(0, .ref 159), (1, .int a), (2, .int b), (3, .int c)]) (st' := [.int (((Int8.ofInt (-2)).toInt32))]) rfl ?_
      refine En_top (by decide : ((Int8.ofInt (-2)).toInt32).toInt = -2) (fun z37 h38 => ?_)
      exact En_ret (v := some (.int z37)) rfl rfl rfl ⟨hσ0, hF0, z37, rfl, ⟨by omega, by omega, (by have q0 : ¬ okL (wf σ0) a.toInt b.toInt c.toInt := (fun ⟨q1, q2, q3, q4, q5, q6, q7⟩ => by omega); exact ⟨fun H => H, tcR_2 q0 (by omega), tcMn (fun q => q0 q.1) (fun i _ _ => rfl)⟩)⟩⟩
    · have h39 := Imp_m h29.2.2.1 (by omega)
      refine En_Ps 4 (pc' := 21) (lv' := [(0, .ref 159), (1, .int a), (2, .int b), (3, .int c)]) (st' := [.long ((Int64.ofNat 1)), .long ((Int64.ofNat 0)), .long c.toInt64]) rfl ?_
      have : c.toInt64.toInt = c.toInt := (i2lI rfl)
      have := (by decide : ((Int64.ofNat 0)).toInt = 0)
      have := (by decide : ((Int64.ofNat 1)).toInt = 1)
      refine En_callS rfl rfl rfl rfl rfl rfl rfl rfl rfl (c_249 σ0 hσ0 c.toInt64 ((Int64.ofNat 0)) ((Int64.ofNat 1))) (by decide) (by decide) (fun v41 σ42 h40 => ?_)
      obtain ⟨h43, h44, z46, rfl, h45⟩ := h40
      obtain rfl : σ0 = σ42 := Fr_nil h44
      refine En_iNe _ rfl rfl (fun h47 => ?_) (fun h47 => ?_)
      · refine En_Ps 3 (pc' := 33) (lv' := [(0, .ref 159), (1, .int a), (2, .int b), (3, .int c)]) (st' := [.int ((Int32.ofInt 2)), .int a, .ref 159]) rfl ?_
        have := (by decide : ((Int32.ofInt 2)).toInt = 2)
        obtain ⟨z48, h49, h50, h51⟩ := WT_peekJ (J := (4 * a.toInt + ((Int32.ofInt 2)).toInt + 10)) (l := 0) (u := 12) hσ0 (by decide +kernel : TG 160 = 36) (by decide +kernel) (by omega) (lnI (by decide +kernel : LN _ = 226) (by omega)) (FTrow 36 12 4 4 (by decide +kernel) (by omega) (by omega) (by omega))
        have := (by decide : ((Int32.ofInt 2)).toInt = 2)
        refine En_callV rfl rfl rfl rfl rfl rfl rfl rfl (by decide +kernel : TG 159 = 35) (by decide +kernel) rfl (c_290c σ0 hσ0 a ((Int32.ofInt 2)) (geI rfl (by omega)) (leI rfl (by omega)) (geI (by decide : (Int32.ofInt 2).toInt = 2) (by omega)) (leI (by decide : (Int32.ofInt 2).toInt = 2) (by omega)) z48 h49) (by decide) (by decide) (fun v53 σ54 h52 => ?_)
        obtain ⟨h55, h56, z58, rfl, h57⟩ := h52
        obtain rfl : σ0 = σ54 := Fr_nil h56
        refine En_Ps 1 (pc' := 38) (lv' := [(0, .ref 159), (1, .int a), (2, .int b), (3, .int c)]) (st' := [.int (((Int8.ofInt 12).toInt32)), .int z58]) rfl ?_
        have w59 : wf σ0 (12 + 4 * a.toInt) = z48.toInt := ci_at h49 (by omega)
        refine En_icNe _ rfl (by decide : ((Int8.ofInt 12).toInt32).toInt = 12) rfl (fun h60 => ?_) (fun h60 => ?_)
        · refine En_Ps 1 (pc' := 45) (lv' := [(0, .ref 159), (1, .int a), (2, .int b), (3, .int c)]) (st' := [.ref 159]) rfl ?_
          refine En_getU (j := 1) (u := 160) (g' := 36) (q := 0) rfl rfl rfl (by decide +kernel : TG 159 = 35) (by decide +kernel) hσ0 (by decide +kernel) (by decide +kernel) (fun h61 => ?_)
          refine En_Ps 1 (pc' := 50) (lv' := [(0, .ref 159), (1, .int a), (2, .int b), (3, .int c)]) (st' := [.int (((Int8.ofInt 6).toInt32)), .ref 160]) rfl ?_
          refine En_iald (l := 0) (u := 60) rfl (by decide : ((Int8.ofInt 6).toInt32).toInt = 6) (by decide +kernel : TG 160 = 36) (by decide +kernel) hσ0 (by omega) (lnI (by decide +kernel : LN _ = 226) (by omega)) (by decide +kernel) (fun z64 h63 h65 h66 => ?_)
          refine En_Ps 1 (pc' := 53) (lv' := [(0, .ref 159), (1, .int a), (2, .int b), (3, .int c)]) (st' := [.int (((Int8.ofInt 60).toInt32)), .int z64]) rfl ?_
          have w67 : wf σ0 (6) = z64.toInt := ci_at h63 (by omega)
          refine En_icNe _ rfl (by decide : ((Int8.ofInt 60).toInt32).toInt = 60) rfl (fun h68 => ?_) (fun h68 => ?_)
          · refine En_Ps 4 (pc' := 63) (lv' := [(0, .ref 159), (1, .int a), (2, .int b), (3, .int c)]) (st' := [.int ((Int32.ofInt 2)), .int a, .ref 159, .int a]) rfl ?_
            have := (by decide : ((Int32.ofInt 2)).toInt = 2)
            have := (by decide : ((Int32.ofInt 2)).toInt = 2)
            refine En_callV rfl rfl rfl rfl rfl rfl rfl rfl (by decide +kernel : TG 159 = 35) (by decide +kernel) rfl (c_290c σ0 hσ0 a ((Int32.ofInt 2)) (geI rfl (by omega)) (leI rfl (by omega)) (geI (by decide : (Int32.ofInt 2).toInt = 2) (by omega)) (leI (by decide : (Int32.ofInt 2).toInt = 2) (by omega)) z48 h49) (by decide) (by decide) (fun v70 σ71 h69 => ?_)
            obtain ⟨h72, h73, z75, rfl, h74⟩ := h69
            obtain rfl : σ0 = σ71 := Fr_nil h73
            refine En_callS rfl rfl rfl rfl rfl rfl rfl rfl rfl (c_281 σ0 hσ0 a z75 (geI rfl (by omega)) (leI rfl (by omega)) (geI rfl (by omega)) (leI rfl (by omega))) (by decide) (by decide) (fun v77 σ78 h76 => ?_)
            obtain ⟨h79, h80, z82, rfl, h81⟩ := h76
            obtain rfl : σ0 = σ78 := Fr_nil h80
            refine En_Ps 1 (pc' := 71) (lv' := [(4, .int z82), (0, .ref 159), (1, .int a), (2, .int b), (3, .int c)]) (st' := []) rfl ?_
            refine En_Ps 1 (pc' := 72) (lv' := [(4, .int z82), (0, .ref 159), (1, .int a), (2, .int b), (3, .int c)]) (st' := [.ref 159]) rfl ?_
            refine En_getK (j := 1) h61 rfl rfl rfl (by decide +kernel : TG 159 = 35) (by decide +kernel) ?_
            refine En_Ps 2 (pc' := 78) (lv' := [(4, .int z82), (0, .ref 159), (1, .int a), (2, .int b), (3, .int c)]) (st' := [.int b, .int z82, .ref 160]) rfl ?_
            refine En_iast (l := 0) (u := 15) rfl rfl (by decide +kernel : TG 160 = 36) (by decide +kernel) (by omega) (lnI (by decide +kernel : LN _ = 226) (by omega)) (FTrow 36 26 2 48 (by decide +kernel) (by omega) (by omega) (by omega)) (rngI rfl (by omega) (by omega)) hσ0 hF0 (by decide +kernel) (fun σ83 h84 h85 h86 h87 => ?_)
            refine En_Ps 1 (pc' := 80) (lv' := [(4, .int z82), (0, .ref 159), (1, .int a), (2, .int b), (3, .int c)]) (st' := [.ref 159]) rfl ?_
            refine En_getK (j := 1) ((h87 _ _ (Or.inl (neTG (by decide +kernel : TG 159 = 35) (by decide +kernel : TG 160 = 36) (by decide)))).trans h61) rfl rfl rfl (by decide +kernel : TG 159 = 35) (by decide +kernel) ?_
            refine En_Ps 3 (pc' := 87) (lv' := [(4, .int z82), (0, .ref 159), (1, .int a), (2, .int b), (3, .int c)]) (st' := [.int ((z82 + ((Int32.ofInt 1)))), .ref 160]) rfl ?_
            refine En_top (addI rfl (by decide : (Int32.ofInt 1).toInt = 1) (by omega) (by omega)) (fun z88 h89 => ?_)
            refine En_Ps 1 (pc' := 88) (lv' := [(4, .int z82), (0, .ref 159), (1, .int a), (2, .int b), (3, .int c)]) (st' := [.int c, .int z88, .ref 160]) rfl ?_
            refine En_iast (l := 0) (u := 1) rfl rfl (by decide +kernel : TG 160 = 36) (by decide +kernel) (by omega) (lnI (by decide +kernel : LN _ = 226) (by omega)) (FTrow 36 27 2 48 (by decide +kernel) (by omega) (by omega) (by omega)) (rngI rfl (by omega) (by omega)) h84 h85 (by decide +kernel) (fun σ90 h91 h92 h93 h94 => ?_)
            refine En_Ps 1 (pc' := 90) (lv' := [(4, .int z82), (0, .ref 159), (1, .int a), (2, .int b), (3, .int c)]) (st' := [.ref 159]) rfl ?_
            refine En_getK (j := 1) ((h94 _ _ (Or.inl (neTG (by decide +kernel : TG 159 = 35) (by decide +kernel : TG 160 = 36) (by decide)))).trans ((h87 _ _ (Or.inl (neTG (by decide +kernel : TG 159 = 35) (by decide +kernel : TG 160 = 36) (by decide)))).trans h61)) rfl rfl rfl (by decide +kernel : TG 159 = 35) (by decide +kernel) ?_
            refine En_Ps 4 (pc' := 98) (lv' := [(4, .int z82), (0, .ref 159), (1, .int a), (2, .int b), (3, .int c)]) (st' := [.int ((((Int32.ofInt 4)) * a)), .int (((Int8.ofInt 10).toInt32)), .ref 160]) rfl ?_
            refine En_top (mulI (by decide : (Int32.ofInt 4).toInt = 4) rfl (Z := 4 * a.toInt) (by omega) (by omega) (by omega)) (fun z95 h96 => ?_)
            refine En_Ps 1 (pc' := 99) (lv' := [(4, .int z82), (0, .ref 159), (1, .int a), (2, .int b), (3, .int c)]) (st' := [.int (((((Int8.ofInt 10).toInt32)) + z95)), .ref 160]) rfl ?_
            refine En_top (addI (by decide : ((Int8.ofInt 10).toInt32).toInt = 10) rfl (by omega) (by omega)) (fun z97 h98 => ?_)
            refine En_Ps 2 (pc' := 101) (lv' := [(4, .int z82), (0, .ref 159), (1, .int a), (2, .int b), (3, .int c)]) (st' := [.int ((z97 + ((Int32.ofInt 2)))), .ref 160]) rfl ?_
            refine En_top (addI rfl (by decide : (Int32.ofInt 2).toInt = 2) (by omega) (by omega)) (fun z99 h100 => ?_)
            refine En_Ps 1 (pc' := 102) (lv' := [(4, .int z82), (0, .ref 159), (1, .int a), (2, .int b), (3, .int c)]) (st' := [.int z99, .ref 160, .int z99, .ref 160]) rfl ?_
            have h102 : (σ90 160)[(z99.toInt).toNat]? = some (.int z48) := by rw [show (z99.toInt) = (4 * a.toInt + ((Int32.ofInt 2)).toInt + 10) by omega]; exact ((h94 _ _ (Or.inr (by omega))).trans ((h87 _ _ (Or.inr (by omega))).trans h49))
            refine En_ialdK h102 rfl rfl (by decide +kernel : TG 160 = 36) (by decide +kernel) h91 (by omega) (lnI (by decide +kernel : LN _ = 226) (by omega)) ?_
            refine En_Ps 2 (pc' := 105) (lv' := [(4, .int z82), (0, .ref 159), (1, .int a), (2, .int b), (3, .int c)]) (st' := [.int ((z48 + ((Int32.ofInt 1)))), .int z99, .ref 160]) rfl ?_
            refine En_top (addI rfl (by decide : (Int32.ofInt 1).toInt = 1) (by omega) (by omega)) (fun z103 h104 => ?_)
            refine En_iast (l := 0) (u := 12) rfl rfl (by decide +kernel : TG 160 = 36) (by decide +kernel) (by omega) (lnI (by decide +kernel : LN _ = 226) (by omega)) (FTrow 36 12 4 4 (by decide +kernel) (by omega) (by omega) (by omega)) (rngI rfl (by omega) (by omega)) h91 h92 (by decide +kernel) (fun σ105 h106 h107 h108 h109 => ?_)
            refine En_Ps 1 (pc' := 107) (lv' := [(4, .int z82), (0, .ref 159), (1, .int a), (2, .int b), (3, .int c)]) (st' := [.ref 159]) rfl ?_
            refine En_getK (j := 1) ((h109 _ _ (Or.inl (neTG (by decide +kernel : TG 159 = 35) (by decide +kernel : TG 160 = 36) (by decide)))).trans ((h94 _ _ (Or.inl (neTG (by decide +kernel : TG 159 = 35) (by decide +kernel : TG 160 = 36) (by decide)))).trans ((h87 _ _ (Or.inl (neTG (by decide +kernel : TG 159 = 35) (by decide +kernel : TG 160 = 36) (by decide)))).trans h61))) rfl rfl rfl (by decide +kernel : TG 159 = 35) (by decide +kernel) ?_
            refine En_Ps 2 (pc' := 114) (lv' := [(4, .int z82), (0, .ref 159), (1, .int a), (2, .int b), (3, .int c)]) (st' := [.ref 159, .int (((Int16.ofInt 166).toInt32)), .ref 160]) rfl ?_
            refine En_getK (j := 1) ((h109 _ _ (Or.inl (neTG (by decide +kernel : TG 159 = 35) (by decide +kernel : TG 160 = 36) (by decide)))).trans ((h94 _ _ (Or.inl (neTG (by decide +kernel : TG 159 = 35) (by decide +kernel : TG 160 = 36) (by decide)))).trans ((h87 _ _ (Or.inl (neTG (by decide +kernel : TG 159 = 35) (by decide +kernel : TG 160 = 36) (by decide)))).trans h61))) rfl rfl rfl (by decide +kernel : TG 159 = 35) (by decide +kernel) ?_
            refine En_Ps 1 (pc' := 119) (lv' := [(4, .int z82), (0, .ref 159), (1, .int a), (2, .int b), (3, .int c)]) (st' := [.int (((Int8.ofInt 6).toInt32)), .ref 160, .int (((Int16.ofInt 166).toInt32)), .ref 160]) rfl ?_
            refine En_ialdK ((h109 _ _ (Or.inr (by omega))).trans ((h94 _ _ (Or.inr (by omega))).trans ((h87 _ _ (Or.inr (by omega))).trans h63))) rfl (by decide : ((Int8.ofInt 6).toInt32).toInt = 6) (by decide +kernel : TG 160 = 36) (by decide +kernel) h106 (by omega) (lnI (by decide +kernel : LN _ = 226) (by omega)) ?_
            refine En_Ps 1 (pc' := 121) (lv' := [(4, .int z82), (0, .ref 159), (1, .int a), (2, .int b), (3, .int c)]) (st' := [.int (((((Int16.ofInt 166).toInt32)) + z64)), .ref 160]) rfl ?_
            refine En_top (addI (by decide : ((Int16.ofInt 166).toInt32).toInt = 166) rfl (by omega) (by omega)) (fun z111 h112 => ?_)
            refine En_Ps 1 (pc' := 122) (lv' := [(4, .int z82), (0, .ref 159), (1, .int a), (2, .int b), (3, .int c)]) (st' := [.int a, .int z111, .ref 160]) rfl ?_
            refine En_iast (l := 0) (u := 3) rfl rfl (by decide +kernel : TG 160 = 36) (by decide +kernel) (by omega) (lnI (by decide +kernel : LN _ = 226) (by omega)) (FTrow 36 166 1 60 (by decide +kernel) (by omega) (by omega) (by omega)) (rngI rfl (by omega) (by omega)) h106 h107 (by decide +kernel) (fun σ113 h114 h115 h116 h117 => ?_)
            refine En_Ps 1 (pc' := 124) (lv' := [(4, .int z82), (0, .ref 159), (1, .int a), (2, .int b), (3, .int c)]) (st' := [.ref 159]) rfl ?_
            refine En_getK (j := 1) ((h117 _ _ (Or.inl (neTG (by decide +kernel : TG 159 = 35) (by decide +kernel : TG 160 = 36) (by decide)))).trans ((h109 _ _ (Or.inl (neTG (by decide +kernel : TG 159 = 35) (by decide +kernel : TG 160 = 36) (by decide)))).trans ((h94 _ _ (Or.inl (neTG (by decide +kernel : TG 159 = 35) (by decide +kernel : TG 160 = 36) (by decide)))).trans ((h87 _ _ (Or.inl (neTG (by decide +kernel : TG 159 = 35) (by decide +kernel : TG 160 = 36) (by decide)))).trans h61)))) rfl rfl rfl (by decide +kernel : TG 159 = 35) (by decide +kernel) ?_
            refine En_Ps 2 (pc' := 130) (lv' := [(4, .int z82), (0, .ref 159), (1, .int a), (2, .int b), (3, .int c)]) (st' := [.int (((Int8.ofInt 6).toInt32)), .ref 160, .int (((Int8.ofInt 6).toInt32)), .ref 160]) rfl ?_
            refine En_ialdK ((h117 _ _ (Or.inr (by omega))).trans ((h109 _ _ (Or.inr (by omega))).trans ((h94 _ _ (Or.inr (by omega))).trans ((h87 _ _ (Or.inr (by omega))).trans h63)))) rfl (by decide : ((Int8.ofInt 6).toInt32).toInt = 6) (by decide +kernel : TG 160 = 36) (by decide +kernel) h114 (by omega) (lnI (by decide +kernel : LN _ = 226) (by omega)) ?_
            refine En_Ps 2 (pc' := 133) (lv' := [(4, .int z82), (0, .ref 159), (1, .int a), (2, .int b), (3, .int c)]) (st' := [.int ((z64 + ((Int32.ofInt 1)))), .int (((Int8.ofInt 6).toInt32)), .ref 160]) rfl ?_
            refine En_top (addI rfl (by decide : (Int32.ofInt 1).toInt = 1) (by omega) (by omega)) (fun z119 h120 => ?_)
            refine En_iast (l := 0) (u := 60) rfl (by decide : ((Int8.ofInt 6).toInt32).toInt = 6) (by decide +kernel : TG 160 = 36) (by decide +kernel) (by omega) (lnI (by decide +kernel : LN _ = 226) (by omega)) (by decide +kernel) (rngI rfl (by omega) (by omega)) h114 h115 (by decide +kernel) (fun σ121 h122 h123 h124 h125 => ?_)
            refine En_Ps 3 (pc' := 137) (lv' := [(4, .int z82), (0, .ref 159), (1, .int a), (2, .int b), (3, .int c)]) (st' := [.int ((Int32.ofInt 2)), .int a, .ref 159]) rfl ?_
            have := (by decide : ((Int32.ofInt 2)).toInt = 2)
            have h126 : (σ121 160)[(4 * a.toInt + ((Int32.ofInt 2)).toInt + 10).toNat]? = some (.int z103) := by rw [show (4 * a.toInt + ((Int32.ofInt 2)).toInt + 10) = (z99.toInt) by omega]; exact ((h125 _ _ (Or.inr (by omega))).trans ((h117 _ _ (Or.inr (by omega))).trans h108))
            have := (by decide : ((Int32.ofInt 2)).toInt = 2)
            refine En_callV rfl rfl rfl rfl rfl rfl rfl rfl (by decide +kernel : TG 159 = 35) (by decide +kernel) rfl (c_290c σ121 h122 a ((Int32.ofInt 2)) (geI rfl (by omega)) (leI rfl (by omega)) (geI (by decide : (Int32.ofInt 2).toInt = 2) (by omega)) (leI (by decide : (Int32.ofInt 2).toInt = 2) (by omega)) z103 h126) (by decide) (by decide) (fun v128 σ129 h127 => ?_)
            obtain ⟨h130, h131, z133, rfl, h132⟩ := h127
            obtain rfl : σ121 = σ129 := Fr_nil h131
            exact En_ret (v := some (.int z133)) rfl rfl rfl ⟨h122, h123, z133, rfl, ⟨by omega, by omega, ⟨fun H => WINV_teach2 (d := a.toInt) (j := z82.toInt) (m := z103.toInt - 1) (nt := z119.toInt - 1) H (fun i hi => (by rw [show wf _ i = ci _ 160 i from rfl, ci_st h124 h125 (by omega) i hi, ci_st h116 h117 (by omega) i hi, ci_st h108 h109 (by omega) i hi, ci_st h93 h94 (by omega) i hi, ci_st h86 h87 (by omega) i hi]; rfl)) (by have e1 := ci_at h49 (show 12 + 4 * a.toInt = (4 * a.toInt + ((Int32.ofInt 2)).toInt + 10) by omega); show _ = ci _ 160 _; omega) (by have e1 := ci_at h63 (show (6 : Int) = (6 : Int) by omega); show _ = ci _ 160 _; omega) (by omega) (by omega) (by omega) (by omega) (by omega) (by omega) (by omega) (by omega) (by omega) (by omega) (by omega) (by omega) (by omega), tcR_y (show okL (wf σ0) a.toInt b.toInt c.toInt from ⟨by omega, by omega, by omega, by omega, by omega, by omega, by omega⟩) (by omega) (by omega) (by omega), tcM (j := z82.toInt) (m := z103.toInt - 1) (nt := z119.toInt - 1) (fun i hi => (by rw [show wf _ i = ci _ 160 i from rfl, ci_st h124 h125 (by omega) i hi, ci_st h116 h117 (by omega) i hi, ci_st h108 h109 (by omega) i hi, ci_st h93 h94 (by omega) i hi, ci_st h86 h87 (by omega) i hi]; rfl)) (by omega) (by omega) (show okL (wf σ0) a.toInt b.toInt c.toInt from ⟨by omega, by omega, by omega, by omega, by omega, by omega, by omega⟩) (by omega) (by omega) (by omega) (by omega) (by omega) (by omega) (by omega) (by omega) (by omega) (by omega) (by omega) (by omega) (by omega)⟩⟩⟩
          · refine En_Ps 1 (pc' := 58) (lv' := [(0, .ref 159), (1, .int a), (2, .int b), (3, .int c)]) (st' := [.int (((Int8.ofInt (-5)).toInt32))]) rfl ?_
            refine En_top (by decide : ((Int8.ofInt (-5)).toInt32).toInt = -5) (fun z134 h135 => ?_)
            exact En_ret (v := some (.int z134)) rfl rfl rfl ⟨hσ0, hF0, z134, rfl, ⟨by omega, by omega, ⟨fun H => H, tcR_5 (show okL (wf σ0) a.toInt b.toInt c.toInt from ⟨by omega, by omega, by omega, by omega, by omega, by omega, by omega⟩) (by omega) (by omega) (by omega), tcMn (fun q => by omega) (fun i _ _ => rfl)⟩⟩⟩
        · refine En_Ps 1 (pc' := 43) (lv' := [(0, .ref 159), (1, .int a), (2, .int b), (3, .int c)]) (st' := [.int (((Int8.ofInt (-3)).toInt32))]) rfl ?_
          refine En_top (by decide : ((Int8.ofInt (-3)).toInt32).toInt = -3) (fun z136 h137 => ?_)
          exact En_ret (v := some (.int z136)) rfl rfl rfl ⟨hσ0, hF0, z136, rfl, ⟨by omega, by omega, ⟨fun H => H, tcR_3 (show okL (wf σ0) a.toInt b.toInt c.toInt from ⟨by omega, by omega, by omega, by omega, by omega, by omega, by omega⟩) (by omega) (by omega), tcMn (fun q => by omega) (fun i _ _ => rfl)⟩⟩⟩
      · refine En_Ps 1 (pc' := 29) (lv' := [(0, .ref 159), (1, .int a), (2, .int b), (3, .int c)]) (st' := [.int (((Int8.ofInt (-2)).toInt32))]) rfl ?_
        refine En_top (by decide : ((Int8.ofInt (-2)).toInt32).toInt = -2) (fun z138 h139 => ?_)
        exact En_ret (v := some (.int z138)) rfl rfl rfl ⟨hσ0, hF0, z138, rfl, ⟨by omega, by omega, (by have q0 : ¬ okL (wf σ0) a.toInt b.toInt c.toInt := (fun ⟨q1, q2, q3, q4, q5, q6, q7⟩ => by omega); exact ⟨fun H => H, tcR_2 q0 (by omega), tcMn (fun q => q0 q.1) (fun i _ _ => rfl)⟩)⟩⟩
/-- DoorSchoolModel.told(II)I -/
abbrev P_324x (σ0 : SG) (a : Int32) (b : Int32) : PO := fun v σ => WT σ ∧ Fr [(35, 18), (42, 0), (43, 0), (44, 0)] σ0 σ ∧ ∃ ret : Int32, v = some (.int ret) ∧ -ret.toInt - 2 ≤ 0 ∧ ret.toInt - 15 ≤ 0 ∧ ret.toInt = tdR (wf σ0) a.toInt b.toInt
set_option maxRecDepth 10000 in
set_option maxHeartbeats 4000000 in
theorem c_324x (σ0 : SG) (hσ0 : WT σ0) (a : Int32) (b : Int32) : En 4 87 none mr_324 (P_324x σ0 a b) 0 [(0, .ref 159), (1, .int a), (2, .int b)] [] σ0 := by
  have hF0 : Fr [(35, 18), (42, 0), (43, 0), (44, 0)] σ0 σ0 := Fr_rfl
  refine En_Ps 2 (pc' := 2) (lv' := [(0, .ref 159), (1, .int a), (2, .int b)]) (st' := [.int a, .ref 159]) rfl ?_
  obtain ⟨z2, h1, h3, h4⟩ := WT_peekI hσ0 (by decide +kernel : TG 160 = 36) (by decide +kernel : FT 36 (0 : Int).toNat = (0, 0, 4)) (by decide +kernel)
  obtain ⟨z6, h5, h7, h8⟩ := WT_peekI hσ0 (by decide +kernel : TG 160 = 36) (by decide +kernel : FT 36 (7 : Int).toNat = (0, 0, 1600)) (by decide +kernel)
  refine En_callV rfl rfl rfl rfl rfl rfl rfl rfl (by decide +kernel : TG 159 = 35) (by decide +kernel) rfl (c_195x σ0 hσ0 a z2 h1 z6 h5) (by decide) (by decide) (fun v10 σ11 h9 => ?_)
  obtain ⟨h12, h13, z15, rfl, h14⟩ := h9
  have h16 := h14.2.2.2
  obtain rfl : σ0 = σ11 := Fr_nil h13
  have h17 := h16
  have w18 : wf σ0 (0) = z2.toInt := ci_at h1 (by omega)
  have w19 : wf σ0 (7) = z6.toInt := ci_at h5 (by omega)
  have h20 : pI (pI (wf σ0 0)) = pI (pI (z2.toInt)) := by rw [w18]
  refine En_iEq _ rfl rfl (fun h21 => ?_) (fun h21 => ?_)
  · refine En_Ps 1 (pc' := 20) (lv' := [(0, .ref 159), (1, .int a), (2, .int b)]) (st' := [.int (((Int8.ofInt (-2)).toInt32))]) rfl ?_
    refine En_top (by decide : ((Int8.ofInt (-2)).toInt32).toInt = -2) (fun z22 h23 => ?_)
    exact En_ret (v := some (.int z22)) rfl rfl rfl ⟨hσ0, hF0, z22, rfl, ⟨by omega, by omega, tdR_n (fun ⟨q1, q2, q3, q4, q5⟩ => by omega) (by omega)⟩⟩
  · have h24 := Imp_m h14.2.2.1 (by omega)
    refine En_Ps 4 (pc' := 12) (lv' := [(0, .ref 159), (1, .int a), (2, .int b)]) (st' := [.long ((Int64.ofNat 1)), .long ((Int64.ofNat 0)), .long b.toInt64]) rfl ?_
    have : b.toInt64.toInt = b.toInt := (i2lI rfl)
    have := (by decide : ((Int64.ofNat 0)).toInt = 0)
    have := (by decide : ((Int64.ofNat 1)).toInt = 1)
    refine En_callS rfl rfl rfl rfl rfl rfl rfl rfl rfl (c_249 σ0 hσ0 b.toInt64 ((Int64.ofNat 0)) ((Int64.ofNat 1))) (by decide) (by decide) (fun v26 σ27 h25 => ?_)
    obtain ⟨h28, h29, z31, rfl, h30⟩ := h25
    obtain rfl : σ0 = σ27 := Fr_nil h29
    refine En_iNe _ rfl rfl (fun h32 => ?_) (fun h32 => ?_)
    · obtain ⟨z34, h33, h35, h36⟩ := WT_peekI hσ0 (by decide +kernel : TG 160 = 36) (by decide +kernel : FT 36 (2 : Int).toNat = (0, 0, 4)) (by decide +kernel)
      have w37 : wf σ0 (2) = z34.toInt := ci_at h33 (by omega)
      have h38 : 1 ≤ z6.toInt := by omega
      have h39 := pI_rng (s := z2.toInt) (by omega) (by omega)
      have h40 := (kI_val z6.toInt z2.toInt).2 (by omega)
      refine En_Ps 1 (pc' := 22) (lv' := [(0, .ref 159), (1, .int a), (2, .int b)]) (st' := [.ref 159]) rfl ?_
      refine En_callV rfl rfl rfl rfl rfl rfl rfl rfl (by decide +kernel : TG 159 = 35) (by decide +kernel) rfl (c_272x σ0 hσ0 z2 h1 z6 h5) (by decide) (by decide) (fun v42 σ43 h41 => ?_)
      obtain ⟨h44, h45, z47, h48, rfl, h46⟩ := h41
      have h49 := h46.2.2.2.2.2.2
      have h50 := Fr_trans hF0 h45 (by decide +kernel)
      have h51 : wf σ43 = wf σ0 := wf_fr h45 (by decide +kernel)
      have h52 : z47.toInt = nR z2.toInt := h49.1 (by omega)
      have h53 := nR_rg (s := z2.toInt) (by omega) (by omega)
      refine En_Ps 2 (pc' := 27) (lv' := [(3, .int ((Int32.ofInt 0))), (0, .ref 159), (1, .int a), (2, .int b)]) (st' := []) rfl ?_
      have key27 : ∀ (n27 : Nat) (y54 : Int32), 0 ≤ y54.toInt → y54.toInt ≤ 81 → y54.toInt - z47.toInt ≤ 0 → z47.toInt - y54.toInt < (n27 : Int) → NOP (fun i => ci σ43 168 i = a.toInt) y54.toInt → En 4 87 none mr_324 (P_324x σ0 a b) 27 [(0, .ref 159), (1, .int a), (2, .int b), (3, .int y54)] [] σ43 := by
        intro n27
        induction n27 with
        | zero =>
          intro y54 h58 h59 h60 h61 h62
          exfalso; omega
        | succ n27 ih27 =>
          intro y54 h58 h59 h60 h61 h62
          refine En_Ps 2 (pc' := 29) (lv' := [(0, .ref 159), (1, .int a), (2, .int b), (3, .int y54)]) (st' := [.ref 159, .int y54]) rfl ?_
          refine En_getK (j := 18) h48 rfl rfl rfl (by decide +kernel : TG 159 = 35) (by decide +kernel) ?_
          refine En_icGe _ rfl rfl rfl (fun h63 => ?_) (fun h63 => ?_)
          · refine En_Ps 1 (pc' := 72) (lv' := [(0, .ref 159), (1, .int a), (2, .int b), (3, .int y54)]) (st' := [.int ((Int32.ofInt (-1)))]) rfl ?_
            refine En_top (by decide : (Int32.ofInt (-1)).toInt = -1) (fun z64 h65 => ?_)
            exact En_ret (v := some (.int z64)) rfl rfl rfl ⟨h44, h50, z64, rfl, ⟨by omega, by omega, tdR_y ⟨by omega, by omega, by omega, by omega, by omega⟩ (fr2_of (z := z47.toInt) (by rw [w18]; exact h52) (fun i i0 i1 => by rw [w18, ← h40]; exact TB_D h49.2 i i0 i1) (NOP_n h62 (by omega) (by omega) rfl)) (pkR_1 (by omega) (by omega))⟩⟩
          · refine En_Ps 1 (pc' := 36) (lv' := [(0, .ref 159), (1, .int a), (2, .int b), (3, .int y54)]) (st' := [.ref 159]) rfl ?_
            refine En_getU (j := 17) (u := 168) (g' := 44) (q := 0) rfl rfl rfl (by decide +kernel : TG 159 = 35) (by decide +kernel) h44 (by decide +kernel) (by decide +kernel) (fun h66 => ?_)
            refine En_Ps 1 (pc' := 40) (lv' := [(0, .ref 159), (1, .int a), (2, .int b), (3, .int y54)]) (st' := [.int y54, .ref 168]) rfl ?_
            refine En_iald (l := (-2147483648)) (u := 2147483647) rfl rfl (by decide +kernel : TG 168 = 44) (by decide +kernel) h44 (by omega) (lnI (by decide +kernel : LN _ = 81) (by omega)) (FTsgl (by decide +kernel)) (fun z69 h68 h70 h71 => ?_)
            have h72 : ci σ43 168 (y54.toInt) = z69.toInt := ci_at h68 rfl
            refine En_Ps 1 (pc' := 42) (lv' := [(0, .ref 159), (1, .int a), (2, .int b), (3, .int y54)]) (st' := [.int a, .int z69]) rfl ?_
            refine En_icNe _ rfl rfl rfl (fun h73 => ?_) (fun h73 => ?_)
            · refine En_Ps 1 (pc' := 68) (lv' := [(3, .int ((y54 + Int32.ofInt 1))), (0, .ref 159), (1, .int a), (2, .int b)]) (st' := []) rfl ?_
              refine En_lv1 (addI rfl (by decide : (Int32.ofInt 1).toInt = 1) (by omega) (by omega)) (fun z74 h75 => ?_)
              refine En_Ps 1 (pc' := 27) (lv' := [(3, .int z74), (0, .ref 159), (1, .int a), (2, .int b)]) (st' := []) rfl ?_
              refine En_lv (lv := [(0, .ref 159), (1, .int a), (2, .int b), (3, .int z74)]) ⟨rfl, rfl, rfl, rfl, trivial⟩ ?_
              exact ih27 z74 (by omega) (by omega) (by omega) (by omega) (NOP_s h62 (by show ¬ (ci _ 168 _ = a.toInt); rw [h72]; omega) (by omega))
            · refine En_Ps 1 (pc' := 46) (lv' := [(0, .ref 159), (1, .int a), (2, .int b), (3, .int y54)]) (st' := [.int b]) rfl ?_
              refine En_iNe _ rfl rfl (fun h76 => ?_) (fun h76 => ?_)
              · refine En_Ps 1 (pc' := 59) (lv' := [(0, .ref 159), (1, .int a), (2, .int b), (3, .int y54)]) (st' := [.ref 159]) rfl ?_
                refine En_getU (j := 16) (u := 167) (g' := 43) (q := 0) rfl rfl rfl (by decide +kernel : TG 159 = 35) (by decide +kernel) h44 (by decide +kernel) (by decide +kernel) (fun h77 => ?_)
                refine En_Ps 1 (pc' := 63) (lv' := [(0, .ref 159), (1, .int a), (2, .int b), (3, .int y54)]) (st' := [.int y54, .ref 167]) rfl ?_
                refine En_iald (l := 0) (u := 15) rfl rfl (by decide +kernel : TG 167 = 43) (by decide +kernel) h44 (by omega) (lnI (by decide +kernel : LN _ = 81) (by omega)) (FTsgl (by decide +kernel)) (fun z80 h79 h81 h82 => ?_)
                have h83 : ci σ43 167 (y54.toInt) = z80.toInt := ci_at h79 rfl
                exact En_ret (v := some (.int z80)) rfl rfl rfl ⟨h44, h50, z80, rfl, ⟨by omega, by omega, tdR_y ⟨by omega, by omega, by omega, by omega, by omega⟩ (fr2_of (z := z47.toInt) (by rw [w18]; exact h52) (fun i i0 i1 => by rw [w18, ← h40]; exact TB_D h49.2 i i0 i1) (NOP_y (r := y54.toInt) h62 (by omega) (by show ci _ 168 _ = a.toInt; rw [h72]; omega) (by omega) rfl)) (pkR_V (by omega) (by omega) (by omega) (by rw [w18, ← h40]; exact h83.symm.trans (TB_MV h49.2 (by omega) (by omega)).2))⟩⟩
              · refine En_Ps 1 (pc' := 50) (lv' := [(0, .ref 159), (1, .int a), (2, .int b), (3, .int y54)]) (st' := [.ref 159]) rfl ?_
                refine En_getU (j := 15) (u := 166) (g' := 42) (q := 0) rfl rfl rfl (by decide +kernel : TG 159 = 35) (by decide +kernel) h44 (by decide +kernel) (by decide +kernel) (fun h84 => ?_)
                refine En_Ps 1 (pc' := 54) (lv' := [(0, .ref 159), (1, .int a), (2, .int b), (3, .int y54)]) (st' := [.int y54, .ref 166]) rfl ?_
                refine En_iald (l := 0) (u := 15) rfl rfl (by decide +kernel : TG 166 = 42) (by decide +kernel) h44 (by omega) (lnI (by decide +kernel : LN _ = 81) (by omega)) (FTsgl (by decide +kernel)) (fun z87 h86 h88 h89 => ?_)
                have h90 : ci σ43 166 (y54.toInt) = z87.toInt := ci_at h86 rfl
                refine En_Ps 1 (pc' := 64) (lv' := [(0, .ref 159), (1, .int a), (2, .int b), (3, .int y54)]) (st' := [.int z87]) rfl ?_
                exact En_ret (v := some (.int z87)) rfl rfl rfl ⟨h44, h50, z87, rfl, ⟨by omega, by omega, tdR_y ⟨by omega, by omega, by omega, by omega, by omega⟩ (fr2_of (z := z47.toInt) (by rw [w18]; exact h52) (fun i i0 i1 => by rw [w18, ← h40]; exact TB_D h49.2 i i0 i1) (NOP_y (r := y54.toInt) h62 (by omega) (by show ci _ 168 _ = a.toInt; rw [h72]; omega) (by omega) rfl)) (pkR_M (by omega) (by omega) (by rw [w18, ← h40]; exact h90.symm.trans (TB_MV h49.2 (by omega) (by omega)).1))⟩⟩
      have := (by decide : (Int32.ofInt 0).toInt = 0)
      refine En_lv (lv := [(0, .ref 159), (1, .int a), (2, .int b), (3, .int ((Int32.ofInt 0)))]) ⟨rfl, rfl, rfl, rfl, trivial⟩ ?_
      exact key27 (Int.toNat (z47.toInt) + 1) ((Int32.ofInt 0)) (by omega) (by omega) (by omega) (by omega) (NOP_0 (by omega))
    · refine En_Ps 1 (pc' := 20) (lv' := [(0, .ref 159), (1, .int a), (2, .int b)]) (st' := [.int (((Int8.ofInt (-2)).toInt32))]) rfl ?_
      refine En_top (by decide : ((Int8.ofInt (-2)).toInt32).toInt = -2) (fun z91 h92 => ?_)
      exact En_ret (v := some (.int z91)) rfl rfl rfl ⟨hσ0, hF0, z91, rfl, ⟨by omega, by omega, tdR_n (fun ⟨q1, q2, q3, q4, q5⟩ => by omega) (by omega)⟩⟩
/-- DoorSchoolModel.train(III)I -/
abbrev P_325x (σ0 : SG) (a : Int32) (b : Int32) (c : Int32) : PO := fun v σ => WT σ ∧ Fr [(36, 0)] σ0 σ ∧ ∃ ret : Int32, v = some (.int ret) ∧ -ret.toInt - 2 ≤ 0 ∧ ret.toInt - 50 ≤ 0 ∧ (SAM (wf σ0) (wf σ) ∧ ret.toInt = trR (wf σ0) a.toInt b.toInt c.toInt ∧ (∀ i : Int, 0 ≤ i → i < 226 → wf σ i = trW (wf σ0) a.toInt b.toInt c.toInt i))
set_option maxRecDepth 10000 in
set_option maxHeartbeats 4000000 in
theorem c_325x (σ0 : SG) (hσ0 : WT σ0) (a : Int32) (b : Int32) (c : Int32) : En 2 46 none mr_325 (P_325x σ0 a b c) 0 [(0, .ref 159), (1, .int a), (2, .int b), (3, .int c)] [] σ0 := by
  have hF0 : Fr [(36, 0)] σ0 σ0 := Fr_rfl
  refine En_Ps 2 (pc' := 2) (lv' := [(0, .ref 159), (1, .int a), (2, .int b), (3, .int c)]) (st' := [.int a, .ref 159]) rfl ?_
  obtain ⟨z2, h1, h3, h4⟩ := WT_peekI hσ0 (by decide +kernel : TG 160 = 36) (by decide +kernel : FT 36 (2 : Int).toNat = (0, 0, 4)) (by decide +kernel)
  refine En_callV rfl rfl rfl rfl rfl rfl rfl rfl (by decide +kernel : TG 159 = 35) (by decide +kernel) rfl (c_254 σ0 hσ0 a z2 h1) (by decide) (by decide) (fun v6 σ7 h5 => ?_)
  obtain ⟨h8, h9, z11, rfl, h10⟩ := h5
  obtain rfl : σ0 = σ7 := Fr_nil h9
  have w12 : wf σ0 (2) = z2.toInt := ci_at h1 (by omega)
  refine En_iEq _ rfl rfl (fun h13 => ?_) (fun h13 => ?_)
  · refine En_Ps 1 (pc' := 42) (lv' := [(0, .ref 159), (1, .int a), (2, .int b), (3, .int c)]) (st' := [.int (((Int8.ofInt (-2)).toInt32))]) rfl ?_
    refine En_top (by decide : ((Int8.ofInt (-2)).toInt32).toInt = -2) (fun z14 h15 => ?_)
    exact En_ret (v := some (.int z14)) rfl rfl rfl ⟨hσ0, hF0, z14, rfl, ⟨by omega, by omega, (by have q0 : ¬ trC (wf σ0) a.toInt b.toInt c.toInt := (by omega); exact ⟨fun _ _ => rfl, trR_n q0 (by omega), trMn q0⟩)⟩⟩
  · refine En_Ps 4 (pc' := 12) (lv' := [(0, .ref 159), (1, .int a), (2, .int b), (3, .int c)]) (st' := [.long ((Int64.ofNat 1)), .long ((Int64.ofNat 0)), .long b.toInt64]) rfl ?_
    have : b.toInt64.toInt = b.toInt := (i2lI rfl)
    have := (by decide : ((Int64.ofNat 0)).toInt = 0)
    have := (by decide : ((Int64.ofNat 1)).toInt = 1)
    refine En_callS rfl rfl rfl rfl rfl rfl rfl rfl rfl (c_249 σ0 hσ0 b.toInt64 ((Int64.ofNat 0)) ((Int64.ofNat 1))) (by decide) (by decide) (fun v17 σ18 h16 => ?_)
    obtain ⟨h19, h20, z22, rfl, h21⟩ := h16
    obtain rfl : σ0 = σ18 := Fr_nil h20
    refine En_iEq _ rfl rfl (fun h23 => ?_) (fun h23 => ?_)
    · refine En_Ps 1 (pc' := 42) (lv' := [(0, .ref 159), (1, .int a), (2, .int b), (3, .int c)]) (st' := [.int (((Int8.ofInt (-2)).toInt32))]) rfl ?_
      refine En_top (by decide : ((Int8.ofInt (-2)).toInt32).toInt = -2) (fun z24 h25 => ?_)
      exact En_ret (v := some (.int z24)) rfl rfl rfl ⟨hσ0, hF0, z24, rfl, ⟨by omega, by omega, (by have q0 : ¬ trC (wf σ0) a.toInt b.toInt c.toInt := (by omega); exact ⟨fun _ _ => rfl, trR_n q0 (by omega), trMn q0⟩)⟩⟩
    · refine En_Ps 4 (pc' := 22) (lv' := [(0, .ref 159), (1, .int a), (2, .int b), (3, .int c)]) (st' := [.int b, .long ((Int64.ofNat 0)), .long c.toInt64]) rfl ?_
      refine En_iNe _ rfl rfl (fun h26 => ?_) (fun h26 => ?_)
      · refine En_Ps 1 (pc' := 34) (lv' := [(0, .ref 159), (1, .int a), (2, .int b), (3, .int c)]) (st' := [.long ((50 : Int64)), .long ((Int64.ofNat 0)), .long c.toInt64]) rfl ?_
        have : c.toInt64.toInt = c.toInt := (i2lI rfl)
        have := (by decide : ((Int64.ofNat 0)).toInt = 0)
        have := (by decide : ((50 : Int64)).toInt = 50)
        refine En_callS rfl rfl rfl rfl rfl rfl rfl rfl rfl (c_249 σ0 hσ0 c.toInt64 ((Int64.ofNat 0)) ((50 : Int64))) (by decide) (by decide) (fun v28 σ29 h27 => ?_)
        obtain ⟨h30, h31, z33, rfl, h32⟩ := h27
        obtain rfl : σ0 = σ29 := Fr_nil h31
        refine En_iNe _ rfl rfl (fun h34 => ?_) (fun h34 => ?_)
        · refine En_Ps 3 (pc' := 46) (lv' := [(0, .ref 159), (1, .int a), (2, .int b), (3, .int c)]) (st' := [.int b, .int a, .ref 159]) rfl ?_
          obtain ⟨z35, h36, h37, h38⟩ := WT_peekJ (J := (4 * a.toInt + b.toInt + 10)) (l := 0) (u := 50) hσ0 (by decide +kernel : TG 160 = 36) (by decide +kernel) (by omega) (lnI (by decide +kernel : LN _ = 226) (by omega)) (FTrow 36 11 4 4 (by decide +kernel) (by omega) (by omega) (by omega))
          refine En_callV rfl rfl rfl rfl rfl rfl rfl rfl (by decide +kernel : TG 159 = 35) (by decide +kernel) rfl (c_290b σ0 hσ0 a b (geI rfl (by omega)) (leI rfl (by omega)) (geI rfl (by omega)) (leI rfl (by omega)) z35 h36) (by decide) (by decide) (fun v40 σ41 h39 => ?_)
          obtain ⟨h42, h43, z45, rfl, h44⟩ := h39
          obtain rfl : σ0 = σ41 := Fr_nil h43
          refine En_Ps 2 (pc' := 52) (lv' := [(4, .int z45), (0, .ref 159), (1, .int a), (2, .int b), (3, .int c)]) (st' := [.ref 159]) rfl ?_
          refine En_getU (j := 1) (u := 160) (g' := 36) (q := 0) rfl rfl rfl (by decide +kernel : TG 159 = 35) (by decide +kernel) hσ0 (by decide +kernel) (by decide +kernel) (fun h46 => ?_)
          refine En_Ps 4 (pc' := 60) (lv' := [(4, .int z45), (0, .ref 159), (1, .int a), (2, .int b), (3, .int c)]) (st' := [.int ((((Int32.ofInt 4)) * a)), .int (((Int8.ofInt 10).toInt32)), .ref 160]) rfl ?_
          refine En_top (mulI (by decide : (Int32.ofInt 4).toInt = 4) rfl (Z := 4 * a.toInt) (by omega) (by omega) (by omega)) (fun z48 h49 => ?_)
          refine En_Ps 1 (pc' := 61) (lv' := [(4, .int z45), (0, .ref 159), (1, .int a), (2, .int b), (3, .int c)]) (st' := [.int (((((Int8.ofInt 10).toInt32)) + z48)), .ref 160]) rfl ?_
          refine En_top (addI (by decide : ((Int8.ofInt 10).toInt32).toInt = 10) rfl (by omega) (by omega)) (fun z50 h51 => ?_)
          refine En_Ps 2 (pc' := 63) (lv' := [(4, .int z45), (0, .ref 159), (1, .int a), (2, .int b), (3, .int c)]) (st' := [.int ((z50 + b)), .ref 160]) rfl ?_
          refine En_top (addI rfl rfl (by omega) (by omega)) (fun z52 h53 => ?_)
          refine En_Ps 1 (pc' := 64) (lv' := [(4, .int z45), (0, .ref 159), (1, .int a), (2, .int b), (3, .int c)]) (st' := [.int c, .int z52, .ref 160]) rfl ?_
          have w54 : wf σ0 (10 + 4 * a.toInt + b.toInt) = z35.toInt := ci_at h36 (by omega)
          refine En_iast (l := 0) (u := 50) rfl rfl (by decide +kernel : TG 160 = 36) (by decide +kernel) (by omega) (lnI (by decide +kernel : LN _ = 226) (by omega)) (FTrow 36 11 4 4 (by decide +kernel) (by omega) (by omega) (by omega)) (rngI rfl (by omega) (by omega)) hσ0 hF0 (by decide +kernel) (fun σ55 h56 h57 h58 h59 => ?_)
          refine En_Ps 1 (pc' := 67) (lv' := [(4, .int z45), (0, .ref 159), (1, .int a), (2, .int b), (3, .int c)]) (st' := [.int z45]) rfl ?_
          exact En_ret (v := some (.int z45)) rfl rfl rfl ⟨h56, h57, z45, rfl, ⟨by omega, by omega, ⟨fun i hi => (by rw [show wf _ i = ci _ 160 i from rfl, ci_st h58 h59 (by omega) i (by omega), if_neg (by omega)]; rfl), trR_y (i := 10 + 4 * a.toInt + b.toInt) (by omega) (by omega) (w54.trans (by omega)), trM (fun i hi => (by rw [show wf _ i = ci _ 160 i from rfl, ci_st h58 h59 (by omega) i hi]; rfl)) (by omega) (by omega) rfl⟩⟩⟩
        · refine En_Ps 1 (pc' := 42) (lv' := [(0, .ref 159), (1, .int a), (2, .int b), (3, .int c)]) (st' := [.int (((Int8.ofInt (-2)).toInt32))]) rfl ?_
          refine En_top (by decide : ((Int8.ofInt (-2)).toInt32).toInt = -2) (fun z60 h61 => ?_)
          exact En_ret (v := some (.int z60)) rfl rfl rfl ⟨hσ0, hF0, z60, rfl, ⟨by omega, by omega, (by have q0 : ¬ trC (wf σ0) a.toInt b.toInt c.toInt := (by omega); exact ⟨fun _ _ => rfl, trR_n q0 (by omega), trMn q0⟩)⟩⟩
      · refine En_Ps 2 (pc' := 34) (lv' := [(0, .ref 159), (1, .int a), (2, .int b), (3, .int c)]) (st' := [.long ((2 : Int64)), .long ((Int64.ofNat 0)), .long c.toInt64]) rfl ?_
        have : c.toInt64.toInt = c.toInt := (i2lI rfl)
        have := (by decide : ((Int64.ofNat 0)).toInt = 0)
        have := (by decide : ((2 : Int64)).toInt = 2)
        refine En_callS rfl rfl rfl rfl rfl rfl rfl rfl rfl (c_249 σ0 hσ0 c.toInt64 ((Int64.ofNat 0)) ((2 : Int64))) (by decide) (by decide) (fun v63 σ64 h62 => ?_)
        obtain ⟨h65, h66, z68, rfl, h67⟩ := h62
        obtain rfl : σ0 = σ64 := Fr_nil h66
        refine En_iNe _ rfl rfl (fun h69 => ?_) (fun h69 => ?_)
        · refine En_Ps 3 (pc' := 46) (lv' := [(0, .ref 159), (1, .int a), (2, .int b), (3, .int c)]) (st' := [.int b, .int a, .ref 159]) rfl ?_
          obtain ⟨z70, h71, h72, h73⟩ := WT_peekJ (J := (4 * a.toInt + b.toInt + 10)) (l := 0) (u := 2) hσ0 (by decide +kernel : TG 160 = 36) (by decide +kernel) (by omega) (lnI (by decide +kernel : LN _ = 226) (by omega)) (FTrow 36 10 4 4 (by decide +kernel) (by omega) (by omega) (by omega))
          refine En_callV rfl rfl rfl rfl rfl rfl rfl rfl (by decide +kernel : TG 159 = 35) (by decide +kernel) rfl (c_290a σ0 hσ0 a b (geI rfl (by omega)) (leI rfl (by omega)) (geI rfl (by omega)) (leI rfl (by omega)) z70 h71) (by decide) (by decide) (fun v75 σ76 h74 => ?_)
          obtain ⟨h77, h78, z80, rfl, h79⟩ := h74
          obtain rfl : σ0 = σ76 := Fr_nil h78
          refine En_Ps 2 (pc' := 52) (lv' := [(4, .int z80), (0, .ref 159), (1, .int a), (2, .int b), (3, .int c)]) (st' := [.ref 159]) rfl ?_
          refine En_getU (j := 1) (u := 160) (g' := 36) (q := 0) rfl rfl rfl (by decide +kernel : TG 159 = 35) (by decide +kernel) hσ0 (by decide +kernel) (by decide +kernel) (fun h81 => ?_)
          refine En_Ps 4 (pc' := 60) (lv' := [(4, .int z80), (0, .ref 159), (1, .int a), (2, .int b), (3, .int c)]) (st' := [.int ((((Int32.ofInt 4)) * a)), .int (((Int8.ofInt 10).toInt32)), .ref 160]) rfl ?_
          refine En_top (mulI (by decide : (Int32.ofInt 4).toInt = 4) rfl (Z := 4 * a.toInt) (by omega) (by omega) (by omega)) (fun z83 h84 => ?_)
          refine En_Ps 1 (pc' := 61) (lv' := [(4, .int z80), (0, .ref 159), (1, .int a), (2, .int b), (3, .int c)]) (st' := [.int (((((Int8.ofInt 10).toInt32)) + z83)), .ref 160]) rfl ?_
          refine En_top (addI (by decide : ((Int8.ofInt 10).toInt32).toInt = 10) rfl (by omega) (by omega)) (fun z85 h86 => ?_)
          refine En_Ps 2 (pc' := 63) (lv' := [(4, .int z80), (0, .ref 159), (1, .int a), (2, .int b), (3, .int c)]) (st' := [.int ((z85 + b)), .ref 160]) rfl ?_
          refine En_top (addI rfl rfl (by omega) (by omega)) (fun z87 h88 => ?_)
          refine En_Ps 1 (pc' := 64) (lv' := [(4, .int z80), (0, .ref 159), (1, .int a), (2, .int b), (3, .int c)]) (st' := [.int c, .int z87, .ref 160]) rfl ?_
          have w89 : wf σ0 (10 + 4 * a.toInt + b.toInt) = z70.toInt := ci_at h71 (by omega)
          refine En_iast (l := 0) (u := 2) rfl rfl (by decide +kernel : TG 160 = 36) (by decide +kernel) (by omega) (lnI (by decide +kernel : LN _ = 226) (by omega)) (FTrow 36 10 4 4 (by decide +kernel) (by omega) (by omega) (by omega)) (rngI rfl (by omega) (by omega)) hσ0 hF0 (by decide +kernel) (fun σ90 h91 h92 h93 h94 => ?_)
          refine En_Ps 1 (pc' := 67) (lv' := [(4, .int z80), (0, .ref 159), (1, .int a), (2, .int b), (3, .int c)]) (st' := [.int z80]) rfl ?_
          exact En_ret (v := some (.int z80)) rfl rfl rfl ⟨h91, h92, z80, rfl, ⟨by omega, by omega, ⟨fun i hi => (by rw [show wf _ i = ci _ 160 i from rfl, ci_st h93 h94 (by omega) i (by omega), if_neg (by omega)]; rfl), trR_y (i := 10 + 4 * a.toInt + b.toInt) (by omega) (by omega) (w89.trans (by omega)), trM (fun i hi => (by rw [show wf _ i = ci _ 160 i from rfl, ci_st h93 h94 (by omega) i hi]; rfl)) (by omega) (by omega) rfl⟩⟩⟩
        · refine En_Ps 1 (pc' := 42) (lv' := [(0, .ref 159), (1, .int a), (2, .int b), (3, .int c)]) (st' := [.int (((Int8.ofInt (-2)).toInt32))]) rfl ?_
          refine En_top (by decide : ((Int8.ofInt (-2)).toInt32).toInt = -2) (fun z95 h96 => ?_)
          exact En_ret (v := some (.int z95)) rfl rfl rfl ⟨hσ0, hF0, z95, rfl, ⟨by omega, by omega, (by have q0 : ¬ trC (wf σ0) a.toInt b.toInt c.toInt := (by omega); exact ⟨fun _ _ => rfl, trR_n q0 (by omega), trMn q0⟩)⟩⟩

