/-- DoorSchoolModel.row(III)I -/
abbrev P_308x (σ0 : SG) (a : Int32) (b : Int32) (c : Int32) : PO := fun v σ => WT σ ∧ Fr [(53, 0), (54, 0), (55, 0)] σ0 σ ∧ ∃ ret : Int32, v = some (.int ret) ∧ -ret.toInt - 3 ≤ 0 ∧ ret.toInt ≤ 0 ∧ Imp (-a.toInt ≤ 0 ∧ a.toInt - 3 ≤ 0 ∧ -b.toInt ≤ 0 ∧ b.toInt - 3 ≤ 0 ∧ c.toInt - 60 ≤ 0 ∧ -c.toInt ≤ 0) (ret.toInt ≤ 0 ∧ -ret.toInt ≤ 0) ∧ Imp (-a.toInt ≤ 0 ∧ a.toInt - 3 ≤ 0 ∧ -b.toInt ≤ 0 ∧ b.toInt - 3 ≤ 0 ∧ c.toInt - 60 ≤ 0 ∧ c.toInt + 1 ≤ 0) (ret.toInt + 3 ≤ 0 ∧ -ret.toInt - 3 ≤ 0) ∧ Imp (a.toInt + 1 ≤ 0) (ret.toInt + 2 ≤ 0 ∧ -ret.toInt - 2 ≤ 0) ∧ Imp (-a.toInt + 4 ≤ 0) (ret.toInt + 2 ≤ 0 ∧ -ret.toInt - 2 ≤ 0) ∧ Imp (b.toInt + 1 ≤ 0) (ret.toInt + 2 ≤ 0 ∧ -ret.toInt - 2 ≤ 0) ∧ Imp (-b.toInt + 4 ≤ 0) (ret.toInt + 2 ≤ 0 ∧ -ret.toInt - 2 ≤ 0) ∧ Imp (-c.toInt + 61 ≤ 0) (ret.toInt + 2 ≤ 0 ∧ -ret.toInt - 2 ≤ 0)
set_option maxRecDepth 10000 in
set_option maxHeartbeats 4000000 in
theorem c_308x (σ0 : SG) (hσ0 : WT σ0) (a : Int32) (b : Int32) (c : Int32) : En 2 45 none mr_308 (P_308x σ0 a b c) 0 [(0, .ref 159), (1, .int a), (2, .int b), (3, .int c)] [] σ0 := by
  have hF0 : Fr [(53, 0), (54, 0), (55, 0)] σ0 σ0 := Fr_rfl
  refine En_Ps 1 (pc' := 1) (lv' := [(0, .ref 159), (1, .int a), (2, .int b), (3, .int c)]) (st' := [.int a]) rfl ?_
  refine En_callS rfl rfl rfl rfl rfl rfl rfl rfl rfl (c_266 σ0 hσ0 a) (by decide) (by decide) (fun v2 σ3 h1 => ?_)
  obtain ⟨h4, h5, z7, rfl, h6⟩ := h1
  have h8 := Fr_trans hF0 h5 (by decide +kernel)
  refine En_iEq _ rfl rfl (fun h9 => ?_) (fun h9 => ?_)
  · refine En_Ps 1 (pc' := 27) (lv' := [(0, .ref 159), (1, .int a), (2, .int b), (3, .int c)]) (st' := [.int (((Int8.ofInt (-2)).toInt32))]) rfl ?_
    refine En_top (by decide : ((Int8.ofInt (-2)).toInt32).toInt = -2) (fun z10 h11 => ?_)
    exact En_ret (v := some (.int z10)) rfl rfl rfl ⟨h4, h8, z10, rfl, ⟨by omega, by omega, fun _ => by omega, fun _ => by omega, fun _ => by omega, fun _ => by omega, fun _ => by omega, fun _ => by omega, fun _ => by omega⟩⟩
  · refine En_Ps 4 (pc' := 13) (lv' := [(0, .ref 159), (1, .int a), (2, .int b), (3, .int c)]) (st' := [.long ((3 : Int64)), .long ((Int64.ofNat 0)), .long b.toInt64]) rfl ?_
    have : b.toInt64.toInt = b.toInt := (i2lI rfl)
    have := (by decide : ((Int64.ofNat 0)).toInt = 0)
    have := (by decide : ((3 : Int64)).toInt = 3)
    refine En_callS rfl rfl rfl rfl rfl rfl rfl rfl rfl (c_249 σ3 h4 b.toInt64 ((Int64.ofNat 0)) ((3 : Int64))) (by decide) (by decide) (fun v13 σ14 h12 => ?_)
    obtain ⟨h15, h16, z18, rfl, h17⟩ := h12
    have h19 := Fr_trans h8 h16 (by decide +kernel)
    refine En_iEq _ rfl rfl (fun h20 => ?_) (fun h20 => ?_)
    · refine En_Ps 1 (pc' := 27) (lv' := [(0, .ref 159), (1, .int a), (2, .int b), (3, .int c)]) (st' := [.int (((Int8.ofInt (-2)).toInt32))]) rfl ?_
      refine En_top (by decide : ((Int8.ofInt (-2)).toInt32).toInt = -2) (fun z21 h22 => ?_)
      exact En_ret (v := some (.int z21)) rfl rfl rfl ⟨h15, h19, z21, rfl, ⟨by omega, by omega, fun _ => by omega, fun _ => by omega, fun _ => by omega, fun _ => by omega, fun _ => by omega, fun _ => by omega, fun _ => by omega⟩⟩
    · refine En_Ps 2 (pc' := 22) (lv' := [(0, .ref 159), (1, .int a), (2, .int b), (3, .int c)]) (st' := [.int (((Int8.ofInt 60).toInt32)), .int c]) rfl ?_
      refine En_icLe _ rfl (by decide : ((Int8.ofInt 60).toInt32).toInt = 60) rfl (fun h23 => ?_) (fun h23 => ?_)
      · refine En_Ps 1 (pc' := 29) (lv' := [(0, .ref 159), (1, .int a), (2, .int b), (3, .int c)]) (st' := [.int c]) rfl ?_
        refine En_iGe _ rfl rfl (fun h24 => ?_) (fun h24 => ?_)
        · refine En_Ps 1 (pc' := 36) (lv' := [(0, .ref 159), (1, .int a), (2, .int b), (3, .int c)]) (st' := [.ref 159]) rfl ?_
          refine En_getU (j := 32) (u := 177) (g' := 53) (q := 0) rfl rfl rfl (by decide +kernel : TG 159 = 35) (by decide +kernel) h15 (by decide +kernel) (by decide +kernel) (fun h25 => ?_)
          refine En_Ps 2 (pc' := 41) (lv' := [(0, .ref 159), (1, .int a), (2, .int b), (3, .int c)]) (st' := [.int c, .int a, .ref 177]) rfl ?_
          refine En_iast (l := (-1)) (u := 60) rfl rfl (by decide +kernel : TG 177 = 53) (by decide +kernel) (by omega) (lnI (by decide +kernel : LN _ = 4) (by omega)) (FTsgl (by decide +kernel)) (rngI rfl (by omega) (by omega)) h15 h19 (by decide +kernel) (fun σ27 h28 h29 h30 h31 => ?_)
          refine En_Ps 1 (pc' := 43) (lv' := [(0, .ref 159), (1, .int a), (2, .int b), (3, .int c)]) (st' := [.ref 159]) rfl ?_
          refine En_getU (j := 33) (u := 178) (g' := 54) (q := 0) rfl rfl rfl (by decide +kernel : TG 159 = 35) (by decide +kernel) h28 (by decide +kernel) (by decide +kernel) (fun h32 => ?_)
          refine En_Ps 2 (pc' := 48) (lv' := [(0, .ref 159), (1, .int a), (2, .int b), (3, .int c)]) (st' := [.int b, .int a, .ref 178]) rfl ?_
          refine En_iast (l := 0) (u := 3) rfl rfl (by decide +kernel : TG 178 = 54) (by decide +kernel) (by omega) (lnI (by decide +kernel : LN _ = 4) (by omega)) (FTsgl (by decide +kernel)) (rngI rfl (by omega) (by omega)) h28 h29 (by decide +kernel) (fun σ34 h35 h36 h37 h38 => ?_)
          refine En_Ps 2 (pc' := 52) (lv' := [(4, .int ((Int32.ofInt 0))), (0, .ref 159), (1, .int a), (2, .int b), (3, .int c)]) (st' := []) rfl ?_
          have key52 : ∀ (n52 : Nat) (σ40 : SG) (y39 : Int32), WT σ40 → Fr [(53, 0), (54, 0), (55, 0)] σ0 σ40 → (σ40 159)[32]? = some (.ref 177) → (σ40 159)[33]? = some (.ref 178) → 0 ≤ y39.toInt → y39.toInt ≤ 60 → -y39.toInt + 60 < (n52 : Int) → En 2 45 none mr_308 (P_308x σ0 a b c) 52 [(0, .ref 159), (1, .int a), (2, .int b), (3, .int c), (4, .int y39)] [] σ40 := by
            intro n52
            induction n52 with
            | zero =>
              intro σ40 y39 h41 h42 h43 h44 h45 h46 h47
              exfalso; omega
            | succ n52 ih52 =>
              intro σ40 y39 h41 h42 h43 h44 h45 h46 h47
              refine En_Ps 2 (pc' := 56) (lv' := [(0, .ref 159), (1, .int a), (2, .int b), (3, .int c), (4, .int y39)]) (st' := [.int (((Int8.ofInt 60).toInt32)), .int y39]) rfl ?_
              refine En_icGe _ rfl (by decide : ((Int8.ofInt 60).toInt32).toInt = 60) rfl (fun h48 => ?_) (fun h48 => ?_)
              · refine En_Ps 1 (pc' := 79) (lv' := [(0, .ref 159), (1, .int a), (2, .int b), (3, .int c), (4, .int y39)]) (st' := [.int ((Int32.ofInt 0))]) rfl ?_
                refine En_top (by decide : (Int32.ofInt 0).toInt = 0) (fun z49 h50 => ?_)
                exact En_ret (v := some (.int z49)) rfl rfl rfl ⟨h41, h42, z49, rfl, ⟨by omega, by omega, fun _ => by omega, fun _ => by omega, fun _ => by omega, fun _ => by omega, fun _ => by omega, fun _ => by omega, fun _ => by omega⟩⟩
              · refine En_Ps 1 (pc' := 60) (lv' := [(0, .ref 159), (1, .int a), (2, .int b), (3, .int c), (4, .int y39)]) (st' := [.ref 159]) rfl ?_
                refine En_getU (j := 34) (u := 179) (g' := 55) (q := 0) rfl rfl rfl (by decide +kernel : TG 159 = 35) (by decide +kernel) h41 (by decide +kernel) (by decide +kernel) (fun h51 => ?_)
                refine En_Ps 3 (pc' := 67) (lv' := [(0, .ref 159), (1, .int a), (2, .int b), (3, .int c), (4, .int y39)]) (st' := [.int (((((Int8.ofInt 60).toInt32)) * a)), .ref 179]) rfl ?_
                refine En_top (mulI (by decide : ((Int8.ofInt 60).toInt32).toInt = 60) rfl (Z := 60 * a.toInt) (by omega) (by omega) (by omega)) (fun z53 h54 => ?_)
                refine En_Ps 2 (pc' := 70) (lv' := [(0, .ref 159), (1, .int a), (2, .int b), (3, .int c), (4, .int y39)]) (st' := [.int ((z53 + y39)), .ref 179]) rfl ?_
                refine En_top (addI rfl rfl (by omega) (by omega)) (fun z55 h56 => ?_)
                refine En_Ps 1 (pc' := 71) (lv' := [(0, .ref 159), (1, .int a), (2, .int b), (3, .int c), (4, .int y39)]) (st' := [.long ((Int64.ofNat 0)), .int z55, .ref 179]) rfl ?_
                refine En_last (l := (-9223372036854775808)) (u := 9223372036854775807) rfl rfl (by decide +kernel : TG 179 = 55) (by decide +kernel) (by omega) (lnI (by decide +kernel : LN _ = 240) (by omega)) (FTsgl (by decide +kernel)) (fullL _) h41 h42 (by decide +kernel) (fun σ57 h58 h59 h60 h61 => ?_)
                refine En_Ps 1 (pc' := 75) (lv' := [(4, .int ((y39 + Int32.ofInt 1))), (0, .ref 159), (1, .int a), (2, .int b), (3, .int c)]) (st' := []) rfl ?_
                refine En_lv1 (addI rfl (by decide : (Int32.ofInt 1).toInt = 1) (by omega) (by omega)) (fun z62 h63 => ?_)
                refine En_Ps 1 (pc' := 52) (lv' := [(4, .int z62), (0, .ref 159), (1, .int a), (2, .int b), (3, .int c)]) (st' := []) rfl ?_
                refine En_lv (lv := [(0, .ref 159), (1, .int a), (2, .int b), (3, .int c), (4, .int z62)]) ⟨rfl, rfl, rfl, rfl, rfl, trivial⟩ ?_
                exact ih52 σ57 z62 h58 h59 ((h61 _ _ (Or.inl (neTG (by decide +kernel : TG 159 = 35) (by decide +kernel : TG 179 = 55) (by decide)))).trans h43) ((h61 _ _ (Or.inl (neTG (by decide +kernel : TG 159 = 35) (by decide +kernel : TG 179 = 55) (by decide)))).trans h44) (by omega) (by omega) (by omega)
          have := (by decide : (Int32.ofInt 0).toInt = 0)
          refine En_lv (lv := [(0, .ref 159), (1, .int a), (2, .int b), (3, .int c), (4, .int ((Int32.ofInt 0)))]) ⟨rfl, rfl, rfl, rfl, rfl, trivial⟩ ?_
          exact key52 (Int.toNat (60) + 1) σ34 ((Int32.ofInt 0)) h35 h36 ((h38 _ _ (Or.inl (neTG (by decide +kernel : TG 159 = 35) (by decide +kernel : TG 178 = 54) (by decide)))).trans ((h31 _ _ (Or.inl (neTG (by decide +kernel : TG 159 = 35) (by decide +kernel : TG 177 = 53) (by decide)))).trans h25)) ((h38 _ _ (Or.inl (neTG (by decide +kernel : TG 159 = 35) (by decide +kernel : TG 178 = 54) (by decide)))).trans h32) (by omega) (by omega) (by omega)
        · refine En_Ps 1 (pc' := 34) (lv' := [(0, .ref 159), (1, .int a), (2, .int b), (3, .int c)]) (st' := [.int (((Int8.ofInt (-3)).toInt32))]) rfl ?_
          refine En_top (by decide : ((Int8.ofInt (-3)).toInt32).toInt = -3) (fun z64 h65 => ?_)
          exact En_ret (v := some (.int z64)) rfl rfl rfl ⟨h15, h19, z64, rfl, ⟨by omega, by omega, fun _ => by omega, fun _ => by omega, fun _ => by omega, fun _ => by omega, fun _ => by omega, fun _ => by omega, fun _ => by omega⟩⟩
      · refine En_Ps 1 (pc' := 27) (lv' := [(0, .ref 159), (1, .int a), (2, .int b), (3, .int c)]) (st' := [.int (((Int8.ofInt (-2)).toInt32))]) rfl ?_
        refine En_top (by decide : ((Int8.ofInt (-2)).toInt32).toInt = -2) (fun z66 h67 => ?_)
        exact En_ret (v := some (.int z66)) rfl rfl rfl ⟨h15, h19, z66, rfl, ⟨by omega, by omega, fun _ => by omega, fun _ => by omega, fun _ => by omega, fun _ => by omega, fun _ => by omega, fun _ => by omega, fun _ => by omega⟩⟩
/-- DoorSchoolModel.school()I -/
abbrev P_312x (σ0 : SG) (By : Int → Int) (Nb : Int) : PO := fun v σ => WT σ ∧ Fr [(35, 5), (35, 7), (35, 8), (35, 9), (35, 10), (35, 11), (35, 12), (35, 13), (36, 0), (41, 0)] σ0 σ ∧ ∃ m1 : Int32, (σ 159)[5]? = some (.int m1) ∧ ∃ ret : Int32, v = some (.int ret) ∧ -ret.toInt - 4 ≤ 0 ∧ ret.toInt - 1600 ≤ 0 ∧ -m1.toInt ≤ 0 ∧ m1.toInt ≤ 0 ∧ m1.toInt ≤ 0 ∧ -m1.toInt ≤ 0 ∧ (WI σ ∧ MSC By Nb σ0 σ ret.toInt)
set_option maxRecDepth 10000 in
set_option maxHeartbeats 4000000 in
theorem c_312x {By : Int → Int} {Nb : Int} (σ0 : SG) (hσ0 : WT σ0) (hI : WI σ0) (hB : TBm By Nb σ0) : En 11 243 none mr_312 (P_312x σ0 By Nb) 0 [(0, .ref 159)] [] σ0 := by
  have hF0 : Fr [(35, 5), (35, 7), (35, 8), (35, 9), (35, 10), (35, 11), (35, 12), (35, 13), (36, 0), (41, 0)] σ0 σ0 := Fr_rfl
  refine En_Ps 2 (pc' := 2) (lv' := [(0, .ref 159)]) (st' := [.ref 159, .ref 159]) rfl ?_
  refine En_getI (j := 5) (l := 0) (u := 1600) rfl rfl rfl (by decide +kernel : TG 159 = 35) (by decide +kernel) hσ0 (by decide +kernel) (fun z2 h1 h3 h4 => ?_)
  refine En_put (j := 7) rfl rfl rfl (by decide +kernel : TG 159 = 35) (by decide +kernel) rfl (vI (l := 0) (u := 1600) (by decide +kernel) rfl (by omega) (by omega)) hσ0 hF0 (by decide +kernel) (fun σ5 h6 h7 h8 h9 => ?_)
  have h10 : SWd σ0 σ5 := SWd_tr (fun _ => rfl : SWd σ0 σ0) (fun i => ci_ne h9 (by decide) i)
  refine En_Ps 2 (pc' := 10) (lv' := [(0, .ref 159)]) (st' := [.int ((Int32.ofInt 0)), .ref 159]) rfl ?_
  refine En_put (j := 5) rfl rfl rfl (by decide +kernel : TG 159 = 35) (by decide +kernel) rfl (vI (l := 0) (u := 1600) (by decide +kernel) (by decide : (Int32.ofInt 0).toInt = 0) (by omega) (by omega)) h6 h7 (by decide +kernel) (fun σ11 h12 h13 h14 h15 => ?_)
  have h16 : SWd σ0 σ11 := SWd_tr h10 (fun i => ci_ne h15 (by decide) i)
  refine En_Ps 2 (pc' := 15) (lv' := [(0, .ref 159)]) (st' := [.int ((Int32.ofInt 0)), .ref 159]) rfl ?_
  refine En_put (j := 8) rfl rfl rfl (by decide +kernel : TG 159 = 35) (by decide +kernel) rfl (vI (l := 0) (u := 1600) (by decide +kernel) (by decide : (Int32.ofInt 0).toInt = 0) (by omega) (by omega)) h12 h13 (by decide +kernel) (fun σ17 h18 h19 h20 h21 => ?_)
  have h22 : SWd σ0 σ17 := SWd_tr h16 (fun i => ci_ne h21 (by decide) i)
  refine En_Ps 2 (pc' := 20) (lv' := [(0, .ref 159)]) (st' := [.int ((Int32.ofInt 0)), .ref 159]) rfl ?_
  refine En_put (j := 12) rfl rfl rfl (by decide +kernel : TG 159 = 35) (by decide +kernel) rfl (vI (l := 0) (u := 3) (by decide +kernel) (by decide : (Int32.ofInt 0).toInt = 0) (by omega) (by omega)) h18 h19 (by decide +kernel) (fun σ23 h24 h25 h26 h27 => ?_)
  have h28 : SWd σ0 σ23 := SWd_tr h22 (fun i => ci_ne h27 (by decide) i)
  refine En_Ps 2 (pc' := 25) (lv' := [(0, .ref 159)]) (st' := [.int ((Int32.ofInt (-1))), .ref 159]) rfl ?_
  refine En_put (j := 13) rfl rfl rfl (by decide +kernel : TG 159 = 35) (by decide +kernel) rfl (vI (l := (-1)) (u := 1600) (by decide +kernel) (by decide : (Int32.ofInt (-1)).toInt = -1) (by omega) (by omega)) h24 h25 (by decide +kernel) (fun σ29 h30 h31 h32 h33 => ?_)
  have h34 : SWd σ0 σ29 := SWd_tr h28 (fun i => ci_ne h33 (by decide) i)
  refine En_Ps 2 (pc' := 30) (lv' := [(1, .int ((Int32.ofInt 0))), (0, .ref 159)]) (st' := []) rfl ?_
  have key30 : ∀ (n30 : Nat) (σ36 : SG) (y35 : Int32), WT σ36 → Fr [(35, 5), (35, 7), (35, 8), (35, 9), (35, 10), (35, 11), (35, 12), (35, 13), (36, 0), (41, 0)] σ0 σ36 → (σ36 159)[7]? = some (.int z2) → (σ36 159)[5]? = some (.int ((Int32.ofInt 0))) → (σ36 159)[8]? = some (.int ((Int32.ofInt 0))) → (σ36 159)[12]? = some (.int ((Int32.ofInt 0))) → (σ36 159)[13]? = some (.int ((Int32.ofInt (-1)))) → 0 ≤ y35.toInt → y35.toInt ≤ 226 → -y35.toInt + 226 < (n30 : Int) → CLF σ36 y35.toInt → SWd σ0 σ36 → En 11 243 none mr_312 (P_312x σ0 By Nb) 30 [(0, .ref 159), (1, .int y35)] [] σ36 := by
    intro n30
    induction n30 with
    | zero =>
      intro σ36 y35 h37 h38 h39 h40 h41 h42 h43 h44 h45 h46 h47 h48
      exfalso; omega
    | succ n30 ih30 =>
      intro σ36 y35 h37 h38 h39 h40 h41 h42 h43 h44 h45 h46 h47 h48
      refine En_Ps 2 (pc' := 34) (lv' := [(0, .ref 159), (1, .int y35)]) (st' := [.int (((Int16.ofInt 226).toInt32)), .int y35]) rfl ?_
      refine En_icGe _ rfl (by decide : ((Int16.ofInt 226).toInt32).toInt = 226) rfl (fun h49 => ?_) (fun h49 => ?_)
      · have h50 := TPm_of hB h38 (by decide +kernel) h1 h39
        refine En_Ps 1 (pc' := 51) (lv' := [(0, .ref 159), (1, .int y35)]) (st' := [.ref 159]) rfl ?_
        refine En_callV rfl rfl rfl rfl rfl rfl rfl rfl (by decide +kernel : TG 159 = 35) (by decide +kernel) rfl (c_189x σ36 h37 ((Int32.ofInt 0)) h41 h50 (by have := (by decide : (Int32.ofInt 0).toInt = 0); have := hB.1; omega)) (by decide) (by decide) (fun v52 σ53 h51 => ?_)
        obtain ⟨h54, h55, z57, h58, z59, h60, rfl, h56⟩ := h51
        have h61 := h56.2.2.2.2.2.2.2.2.2.2
        have h62 := Fr_trans h38 h55 (by decide +kernel)
        have h63 := Imp_m h56.2.2.2.2.2.2.2.2.2.1
        have h64 : SWd σ0 σ53 := SWd_tr h48 (SWd_fr h55 (by decide +kernel))
        have key54 : ∀ (n54 : Nat) (σ82 : SG) (y65 : Int32) (y66 : Int32) (y67 : Int32), WT σ82 → Fr [(35, 5), (35, 7), (35, 8), (35, 9), (35, 10), (35, 11), (35, 12), (35, 13), (36, 0), (41, 0)] σ0 σ82 → (σ82 159)[7]? = some (.int z2) → (σ82 159)[5]? = some (.int ((Int32.ofInt 0))) → (σ82 159)[12]? = some (.int y65) → (σ82 159)[8]? = some (.int y66) → (σ82 159)[10]? = some (.int y67) → 0 ≤ y65.toInt → y65.toInt ≤ 3 → 0 ≤ y66.toInt → y66.toInt ≤ 1600 → 0 ≤ y67.toInt → y67.toInt ≤ 4 → 5 * (1600 - y66.toInt) + y67.toInt + 9000 * (3 - y65.toInt) < (n54 : Int) → FI σ82 y65.toInt → (y65.toInt = 0 → y67.toInt ≠ 0 → ci σ82 165 7 + 1 ≤ y66.toInt) → SWd σ0 σ82 → LPI By Nb σ82 → En 11 243 none mr_312 (P_312x σ0 By Nb) 54 [(0, .ref 159), (1, .int y35)] [] σ82 := by
          intro n54
          induction n54 with
          | zero =>
            intro σ82 y65 y66 y67 h83 h84 h85 h86 h87 h88 h89 h90 h91 h92 h93 h94 h95 h96 h97 h98 h99 h100
            obtain ⟨S101, f102, h103, h104, h105⟩ := h100
            have h106 := ML_k h103 h87
            have h107 := ML_t h103 h89
            exfalso; omega
          | succ n54 ih54 =>
            intro σ82 y65 y66 y67 h83 h84 h85 h86 h87 h88 h89 h90 h91 h92 h93 h94 h95 h96 h97 h98 h99 h100
            obtain ⟨S122, f123, h124, h125, h126⟩ := h100
            have h127 := ML_k h124 h87
            have h128 := ML_t h124 h89
            refine En_Ps 1 (pc' := 55) (lv' := [(0, .ref 159), (1, .int y35)]) (st' := [.ref 159]) rfl ?_
            refine En_callV rfl rfl rfl rfl rfl rfl rfl rfl (by decide +kernel : TG 159 = 35) (by decide +kernel) rfl (c_237 σ82 h83 y65 h87) (by decide) (by decide) (fun v130 σ131 h129 => ?_)
            obtain ⟨h132, h133, z135, rfl, h134⟩ := h129
            obtain rfl : σ82 = σ131 := Fr_nil h133
            refine En_iEq _ rfl rfl (fun h136 => ?_) (fun h136 => ?_)
            · refine En_Ps 1 (pc' := 76) (lv' := [(0, .ref 159), (1, .int y35)]) (st' := [.ref 159]) rfl ?_
              refine En_callV rfl rfl rfl rfl rfl rfl rfl rfl (by decide +kernel : TG 159 = 35) (by decide +kernel) rfl (c_237 σ82 h83 y65 h87) (by decide) (by decide) (fun v138 σ139 h137 => ?_)
              obtain ⟨h140, h141, z143, rfl, h142⟩ := h137
              obtain rfl : σ82 = σ139 := Fr_nil h141
              refine En_iNe _ rfl rfl (fun hx => by exfalso; omega) (fun h144 => ?_)
              refine En_Ps 1 (pc' := 84) (lv' := [(0, .ref 159), (1, .int y35)]) (st' := [.int (((Int8.ofInt (-4)).toInt32))]) rfl ?_
              have := (by decide : (Int32.ofInt 0).toInt = 0)
              refine En_top (by decide : ((Int8.ofInt (-4)).toInt32).toInt = -4) (fun z145 h146 => ?_)
              exact En_ret (v := some (.int z145)) rfl rfl rfl ⟨h83, h84, (Int32.ofInt 0), h86, z145, rfl, ⟨by omega, by omega, by omega, by omega, by omega, by omega, ⟨WI_sw h99 h84 (by decide +kernel) hI, MSC_bad h124 h125 (by omega) (by omega) h99⟩⟩⟩
            · refine En_Ps 1 (pc' := 62) (lv' := [(0, .ref 159), (1, .int y35)]) (st' := [.ref 159]) rfl ?_
              refine En_getK (j := 10) h89 rfl rfl rfl (by decide +kernel : TG 159 = 35) (by decide +kernel) ?_
              refine En_iEq _ rfl rfl (fun h147 => ?_) (fun h147 => ?_)
              · refine En_Ps 1 (pc' := 76) (lv' := [(0, .ref 159), (1, .int y35)]) (st' := [.ref 159]) rfl ?_
                refine En_callV rfl rfl rfl rfl rfl rfl rfl rfl (by decide +kernel : TG 159 = 35) (by decide +kernel) rfl (c_237 σ82 h83 y65 h87) (by decide) (by decide) (fun v149 σ150 h148 => ?_)
                obtain ⟨h151, h152, z154, rfl, h153⟩ := h148
                obtain rfl : σ82 = σ150 := Fr_nil h152
                refine En_iNe _ rfl rfl (fun h155 => ?_) (fun hx => by exfalso; omega)
                refine En_Ps 2 (pc' := 87) (lv' := [(1, .int ((Int32.ofInt 0))), (0, .ref 159)]) (st' := []) rfl ?_
                have key87 : ∀ (n87 : Nat) (σ157 : SG) (y156 : Int32), WT σ157 → Fr [(35, 5), (35, 7), (35, 8), (35, 9), (35, 10), (35, 11), (35, 12), (35, 13), (36, 0), (41, 0)] σ0 σ157 → (σ157 159)[7]? = some (.int z2) → (σ157 159)[5]? = some (.int ((Int32.ofInt 0))) → (σ157 159)[12]? = some (.int y65) → (σ157 159)[8]? = some (.int y66) → (σ157 159)[10]? = some (.int y67) → 0 ≤ y156.toInt → y156.toInt ≤ 226 → -y156.toInt + 226 < (n87 : Int) → CPY (ff σ157) (wf σ157) y156.toInt → FI σ157 0 → ML By Nb σ157 S122 → En 11 243 none mr_312 (P_312x σ0 By Nb) 87 [(0, .ref 159), (1, .int y156)] [] σ157 := by
                  intro n87
                  induction n87 with
                  | zero =>
                    intro σ157 y156 h158 h159 h160 h161 h162 h163 h164 h165 h166 h167 h168 h169 h170
                    exfalso; omega
                  | succ n87 ih87 =>
                    intro σ157 y156 h158 h159 h160 h161 h162 h163 h164 h165 h166 h167 h168 h169 h170
                    refine En_Ps 2 (pc' := 91) (lv' := [(0, .ref 159), (1, .int y156)]) (st' := [.int (((Int16.ofInt 226).toInt32)), .int y156]) rfl ?_
                    refine En_icGe _ rfl (by decide : ((Int16.ofInt 226).toInt32).toInt = 226) rfl (fun h171 => ?_) (fun h171 => ?_)
                    · refine En_Ps 1 (pc' := 113) (lv' := [(0, .ref 159), (1, .int y156)]) (st' := [.ref 159]) rfl ?_
                      refine En_getU (j := 1) (u := 160) (g' := 36) (q := 0) rfl rfl rfl (by decide +kernel : TG 159 = 35) (by decide +kernel) h158 (by decide +kernel) (by decide +kernel) (fun h172 => ?_)
                      refine En_Ps 1 (pc' := 118) (lv' := [(0, .ref 159), (1, .int y156)]) (st' := [.int (((Int8.ofInt 7).toInt32)), .ref 160]) rfl ?_
                      refine En_iald (l := 0) (u := 1600) rfl (by decide : ((Int8.ofInt 7).toInt32).toInt = 7) (by decide +kernel : TG 160 = 36) (by decide +kernel) h158 (by omega) (lnI (by decide +kernel : LN _ = 226) (by omega)) (by decide +kernel) (fun z175 h174 h176 h177 => ?_)
                      have := (by decide : (Int32.ofInt 0).toInt = 0)
                      exact En_ret (v := some (.int z175)) rfl rfl rfl ⟨h158, h159, (Int32.ofInt 0), h161, z175, rfl, ⟨by omega, by omega, by omega, by omega, by omega, by omega, ⟨FI_x h158 h169 rfl h168 (by omega) h159 (by decide +kernel) hI, MSC_ok h170 h125 (by omega) (by omega) h168 (by omega) h174⟩⟩⟩
                    · refine En_Ps 1 (pc' := 95) (lv' := [(0, .ref 159), (1, .int y156)]) (st' := [.ref 159]) rfl ?_
                      refine En_getU (j := 1) (u := 160) (g' := 36) (q := 0) rfl rfl rfl (by decide +kernel : TG 159 = 35) (by decide +kernel) h158 (by decide +kernel) (by decide +kernel) (fun h178 => ?_)
                      refine En_Ps 2 (pc' := 100) (lv' := [(0, .ref 159), (1, .int y156)]) (st' := [.ref 159, .int y156, .ref 160]) rfl ?_
                      refine En_getU (j := 14) (u := 165) (g' := 41) (q := 0) rfl rfl rfl (by decide +kernel : TG 159 = 35) (by decide +kernel) h158 (by decide +kernel) (by decide +kernel) (fun h180 => ?_)
                      refine En_Ps 1 (pc' := 104) (lv' := [(0, .ref 159), (1, .int y156)]) (st' := [.int y156, .ref 165, .int y156, .ref 160]) rfl ?_
                      refine En_ialdW (n := 226) rfl rfl (by decide +kernel : TG 165 = 41) (by decide +kernel) h158 (by omega) (by decide +kernel) (by omega) (by decide +kernel) (fun z182 h183 h184 => ?_)
                      refine En_iastW (n := 226) rfl rfl (by decide +kernel : TG 160 = 36) (by decide +kernel) (by omega) (by decide +kernel) (by omega) (ft_fw h184 (by omega) (by omega) (by omega)) h158 h159 (by decide +kernel) (fun σ185 h186 h187 h188 h189 => ?_)
                      refine En_Ps 1 (pc' := 109) (lv' := [(1, .int ((y156 + Int32.ofInt 1))), (0, .ref 159)]) (st' := []) rfl ?_
                      refine En_lv1 (addI rfl (by decide : (Int32.ofInt 1).toInt = 1) (by omega) (by omega)) (fun z190 h191 => ?_)
                      refine En_Ps 1 (pc' := 87) (lv' := [(1, .int z190), (0, .ref 159)]) (st' := []) rfl ?_
                      refine En_lv (lv := [(0, .ref 159), (1, .int z190)]) ⟨rfl, rfl, trivial⟩ ?_
                      exact ih87 σ185 z190 h186 h187 ((h189 _ _ (Or.inl (neTG (by decide +kernel : TG 159 = 35) (by decide +kernel : TG 160 = 36) (by decide)))).trans h160) ((h189 _ _ (Or.inl (neTG (by decide +kernel : TG 159 = 35) (by decide +kernel : TG 160 = 36) (by decide)))).trans h161) ((h189 _ _ (Or.inl (neTG (by decide +kernel : TG 159 = 35) (by decide +kernel : TG 160 = 36) (by decide)))).trans h162) ((h189 _ _ (Or.inl (neTG (by decide +kernel : TG 159 = 35) (by decide +kernel : TG 160 = 36) (by decide)))).trans h163) ((h189 _ _ (Or.inl (neTG (by decide +kernel : TG 159 = 35) (by decide +kernel : TG 160 = 36) (by decide)))).trans h164) (by omega) (by omega) (by omega) (CPY_fw h168 h183 h188 h189 (by omega) (by omega)) (FI_ne h169 h189 (by decide)) (ML_ne h170 h189 (by decide))
                have := (by decide : (Int32.ofInt 0).toInt = 0)
                refine En_lv (lv := [(0, .ref 159), (1, .int ((Int32.ofInt 0)))]) ⟨rfl, rfl, trivial⟩ ?_
                exact key87 (Int.toNat (226) + 1) σ82 ((Int32.ofInt 0)) h83 h84 h85 h86 h87 h88 h89 (by omega) (by omega) (by omega) (CPY_0 (by decide)) (FI_z h97 (by omega)) (h124)
              · refine En_Ps 1 (pc' := 69) (lv' := [(0, .ref 159), (1, .int y35)]) (st' := [.ref 159]) rfl ?_
                obtain ⟨z193, h192, h194, h195⟩ := WT_peekI h83 (by decide +kernel : TG 165 = 41) (by decide +kernel : FT 41 (7 : Int).toNat = (0, 0, 1600)) (by decide +kernel)
                have h196 := ci_at h192 (rfl : (7 : Int) = 7)
                have h197 := h98 (by omega) (by omega)
                refine En_callV rfl rfl rfl rfl rfl rfl rfl rfl (by decide +kernel : TG 159 = 35) (by decide +kernel) rfl (c_301x σ82 h83 y66 h88 y65 h87 z193 h192 (by omega) (by omega) h97 h124 (by omega)) (by decide) (by decide) (fun v199 σ200 h198 => ?_)
                obtain ⟨h201, h202, z204, h205, z206, h207, z208, h209, z210, h211, rfl, h203⟩ := h198
                have h212 := h203.2.2.2.2.2.2.2.2.2.2.2.2.2.2.2.2.2.2.2.2.2.2.2.2.2.2.2.2.2.2.2.2.2.2.2.2
                have h213 := Fr_trans h84 h202 (by decide +kernel)
                have h214 := Imp_m h203.2.2.2.2.2.2.2.2.2.2.2.2.2.2.2.2.2.2.2.2.2.2.2.2.2.2.2.2.2.2.2.2.2.1
                have h215 : SWd σ0 σ200 := SWd_tr h99 (SWd_fr h202 (by decide +kernel))
                refine En_Ps 1 (pc' := 54) (lv' := [(0, .ref 159), (1, .int y35)]) (st' := []) rfl ?_
                have h216 := ci_at h211 (rfl : (7 : Int) = 7)
                exact ih54 σ200 z208 z204 z206 h201 h213 ((h202 _ _ (inW (by decide +kernel : TG 159 = 35) (by decide +kernel))).trans h85) ((h202 _ _ (inW (by decide +kernel : TG 159 = 35) (by decide +kernel))).trans h86) h209 h205 h207 (by omega) (by omega) (by omega) (by omega) (by omega) (by omega) (by omega) (h212.1 _ rfl) (fun _ _ => (by omega)) (h215) (LPI_s h124 h83 (by omega) (by omega) h125 h126 h212.2)
        have := (by decide : (Int32.ofInt 0).toInt = 0)
        have h217 := FI_0 (k := (Int32.ofInt 0).toInt) (CLF_fr (CLF_226 h47 (by omega)) h55 (by decide +kernel))
        have h218 := CLF_fr (CLF_226 h47 (by omega)) h55 (by decide +kernel) 7 (by omega) (by omega)
        exact key54 (Int.toNat (5 * (1600 - z57.toInt) + z59.toInt + 9000 * (3 - 0)) + 1) σ53 ((Int32.ofInt 0)) z57 z59 h54 h62 ((h55 _ _ (inW (by decide +kernel : TG 159 = 35) (by decide +kernel))).trans h39) ((h55 _ _ (inW (by decide +kernel : TG 159 = 35) (by decide +kernel))).trans h40) ((h55 _ _ (inW (by decide +kernel : TG 159 = 35) (by decide +kernel))).trans h42) h58 h60 (by omega) (by omega) (by omega) (by omega) (by omega) (by omega) (by omega) (h217) (fun _ _ => (by omega)) (h64) (LPI_0 h61 (by decide) ((h55 _ _ (inW (by decide +kernel : TG 159 = 35) (by decide +kernel))).trans h42) (by decide) ((h55 _ _ (inW (by decide +kernel : TG 159 = 35) (by decide +kernel))).trans h43) (by decide) (CLF_fr (CLF_226 h47 (by omega)) h55 (by decide +kernel)))
      · refine En_Ps 1 (pc' := 38) (lv' := [(0, .ref 159), (1, .int y35)]) (st' := [.ref 159]) rfl ?_
        refine En_getU (j := 14) (u := 165) (g' := 41) (q := 0) rfl rfl rfl (by decide +kernel : TG 159 = 35) (by decide +kernel) h37 (by decide +kernel) (by decide +kernel) (fun h219 => ?_)
        refine En_Ps 2 (pc' := 43) (lv' := [(0, .ref 159), (1, .int y35)]) (st' := [.int ((Int32.ofInt 0)), .int y35, .ref 165]) rfl ?_
        refine En_iastW (n := 226) rfl rfl (by decide +kernel : TG 165 = 41) (by decide +kernel) (by omega) (by decide +kernel) (by omega) (ft_zero (by omega) (by omega) (by decide)) h37 h38 (by decide +kernel) (fun σ221 h222 h223 h224 h225 => ?_)
        have h226 : SWd σ0 σ221 := SWd_tr h48 (fun i => ci_ne h225 (by decide) i)
        refine En_Ps 1 (pc' := 47) (lv' := [(1, .int ((y35 + Int32.ofInt 1))), (0, .ref 159)]) (st' := []) rfl ?_
        refine En_lv1 (addI rfl (by decide : (Int32.ofInt 1).toInt = 1) (by omega) (by omega)) (fun z227 h228 => ?_)
        refine En_Ps 1 (pc' := 30) (lv' := [(1, .int z227), (0, .ref 159)]) (st' := []) rfl ?_
        refine En_lv (lv := [(0, .ref 159), (1, .int z227)]) ⟨rfl, rfl, trivial⟩ ?_
        exact ih30 σ221 z227 h222 h223 ((h225 _ _ (Or.inl (neTG (by decide +kernel : TG 159 = 35) (by decide +kernel : TG 165 = 41) (by decide)))).trans h39) ((h225 _ _ (Or.inl (neTG (by decide +kernel : TG 159 = 35) (by decide +kernel : TG 165 = 41) (by decide)))).trans h40) ((h225 _ _ (Or.inl (neTG (by decide +kernel : TG 159 = 35) (by decide +kernel : TG 165 = 41) (by decide)))).trans h41) ((h225 _ _ (Or.inl (neTG (by decide +kernel : TG 159 = 35) (by decide +kernel : TG 165 = 41) (by decide)))).trans h42) ((h225 _ _ (Or.inl (neTG (by decide +kernel : TG 159 = 35) (by decide +kernel : TG 165 = 41) (by decide)))).trans h43) (by omega) (by omega) (by omega) (CLF_s h47 h224 h225 (by decide) (by omega) (by omega)) (h226)
  have := (by decide : (Int32.ofInt 0).toInt = 0)
  refine En_lv (lv := [(0, .ref 159), (1, .int ((Int32.ofInt 0)))]) ⟨rfl, rfl, trivial⟩ ?_
  exact key30 (Int.toNat (226) + 1) σ29 ((Int32.ofInt 0)) h30 h31 ((h33 _ _ (Or.inr (by decide))).trans ((h27 _ _ (Or.inr (by decide))).trans ((h21 _ _ (Or.inr (by decide))).trans ((h15 _ _ (Or.inr (by decide))).trans h8)))) ((h33 _ _ (Or.inr (by decide))).trans ((h27 _ _ (Or.inr (by decide))).trans ((h21 _ _ (Or.inr (by decide))).trans h14))) ((h33 _ _ (Or.inr (by decide))).trans ((h27 _ _ (Or.inr (by decide))).trans h20)) ((h33 _ _ (Or.inr (by decide))).trans h26) h32 (by omega) (by omega) (by omega) (CLF_0 (by decide)) (h34)
