/-- DoorSchool$Lessons.putIn(III)V -/
abbrev P_38 (σ0 : SG) (s : Nat) (a : Int32) (b : Int32) (c : Int32) : PO := fun v σ => WT σ ∧ Fr [(20, 2), (21, 0), (22, 0)] σ0 σ ∧ v = none ∧ True
set_option maxRecDepth 10000 in
set_option maxHeartbeats 4000000 in
theorem c_38 (σ0 : SG) (hσ0 : WT σ0) (s : Nat) (hs : TG s = 20) (a : Int32) (b : Int32) (c : Int32) (hl_b : 0 ≤ b.toInt) (hu_b : b.toInt ≤ 15) (hl_c : 0 ≤ c.toInt) (hu_c : c.toInt ≤ 1) : En 0 0 none mr_38 (P_38 σ0 s a b c) 0 [(0, .ref s), (1, .int a), (2, .int b), (3, .int c)] [] σ0 := by
  have hF0 : Fr [(20, 2), (21, 0), (22, 0)] σ0 σ0 := Fr_rfl
  refine En_Ps 1 (pc' := 1) (lv' := [(0, .ref s), (1, .int a), (2, .int b), (3, .int c)]) (st' := [.int a]) rfl ?_
  refine En_iLt _ rfl rfl (fun h1 => ?_) (fun h1 => ?_)
  · exact En_ret (v := none) rfl rfl rfl ⟨hσ0, hF0, rfl, trivial⟩
  · refine En_Ps 2 (pc' := 6) (lv' := [(0, .ref s), (1, .int a), (2, .int b), (3, .int c)]) (st' := [.ref s, .int a]) rfl ?_
    refine En_getI (j := 2) (l := 0) (u := 13) rfl rfl rfl hs (by decide +kernel) hσ0 (by decide +kernel) (fun z3 h2 h4 h5 => ?_)
    refine En_icGt _ rfl rfl rfl (fun h6 => ?_) (fun h6 => ?_)
    · exact En_ret (v := none) rfl rfl rfl ⟨hσ0, hF0, rfl, trivial⟩
    · refine En_Ps 1 (pc' := 13) (lv' := [(0, .ref s), (1, .int a), (2, .int b), (3, .int c)]) (st' := [.ref s]) rfl ?_
      refine En_getK (j := 2) h2 rfl rfl rfl hs (by decide +kernel) ?_
      refine En_Ps 1 (pc' := 18) (lv' := [(0, .ref s), (1, .int a), (2, .int b), (3, .int c)]) (st' := [.int (((Int8.ofInt 13).toInt32)), .int z3]) rfl ?_
      refine En_icLt _ rfl (by decide : ((Int8.ofInt 13).toInt32).toInt = 13) rfl (fun h7 => ?_) (fun h7 => ?_)
      · refine En_Ps 1 (pc' := 23) (lv' := [(0, .ref s), (1, .int a), (2, .int b), (3, .int c)]) (st' := [.ref s]) rfl ?_
        refine En_getK (j := 2) h2 rfl rfl rfl hs (by decide +kernel) ?_
        refine En_Ps 1 (pc' := 28) (lv' := [(4, .int z3), (0, .ref s), (1, .int a), (2, .int b), (3, .int c)]) (st' := []) rfl ?_
        have key28 : ∀ (n28 : Nat) (σ9 : SG) (y8 : Int32), WT σ9 → Fr [(20, 2), (21, 0), (22, 0)] σ0 σ9 → (σ9 s)[2]? = some (.int z3) → 0 ≤ y8.toInt → y8.toInt ≤ 12 → a.toInt - y8.toInt ≤ 0 → y8.toInt - z3.toInt ≤ 0 → y8.toInt - a.toInt < (n28 : Int) → En 0 0 none mr_38 (P_38 σ0 s a b c) 28 [(0, .ref s), (1, .int a), (2, .int b), (3, .int c), (4, .int y8)] [] σ9 := by
          intro n28
          induction n28 with
          | zero =>
            intro σ9 y8 h10 h11 h12 h13 h14 h15 h16 h17
            exfalso; omega
          | succ n28 ih28 =>
            intro σ9 y8 h10 h11 h12 h13 h14 h15 h16 h17
            refine En_Ps 2 (pc' := 31) (lv' := [(0, .ref s), (1, .int a), (2, .int b), (3, .int c), (4, .int y8)]) (st' := [.int a, .int y8]) rfl ?_
            refine En_icLe _ rfl rfl rfl (fun h18 => ?_) (fun h18 => ?_)
            · refine En_Ps 1 (pc' := 73) (lv' := [(0, .ref s), (1, .int a), (2, .int b), (3, .int c), (4, .int y8)]) (st' := [.ref s]) rfl ?_
              refine En_getR (j := 0) (g' := 21) (u := 0) rfl rfl rfl hs (by decide +kernel) h10 (by decide +kernel) (fun a20 h19 ha20 => ?_)
              refine En_Ps 2 (pc' := 78) (lv' := [(0, .ref s), (1, .int a), (2, .int b), (3, .int c), (4, .int y8)]) (st' := [.int b, .int a, .ref a20]) rfl ?_
              refine En_iast (l := 0) (u := 15) rfl rfl ha20 (by decide +kernel) (by omega) (lnI (by decide +kernel : LN _ = 13) (by omega)) (FTsgl (by decide +kernel)) (rngI rfl (by omega) (by omega)) h10 h11 (by decide +kernel) (fun σ21 h22 h23 h24 h25 => ?_)
              refine En_Ps 1 (pc' := 80) (lv' := [(0, .ref s), (1, .int a), (2, .int b), (3, .int c), (4, .int y8)]) (st' := [.ref s]) rfl ?_
              refine En_getR (j := 1) (g' := 22) (u := 0) rfl rfl rfl hs (by decide +kernel) h22 (by decide +kernel) (fun a27 h26 ha27 => ?_)
              refine En_Ps 2 (pc' := 85) (lv' := [(0, .ref s), (1, .int a), (2, .int b), (3, .int c), (4, .int y8)]) (st' := [.int c, .int a, .ref a27]) rfl ?_
              refine En_iast (l := 0) (u := 1) rfl rfl ha27 (by decide +kernel) (by omega) (lnI (by decide +kernel : LN _ = 13) (by omega)) (FTsgl (by decide +kernel)) (rngI rfl (by omega) (by omega)) h22 h23 (by decide +kernel) (fun σ28 h29 h30 h31 h32 => ?_)
              refine En_Ps 2 (pc' := 88) (lv' := [(0, .ref s), (1, .int a), (2, .int b), (3, .int c), (4, .int y8)]) (st' := [.ref s, .ref s]) rfl ?_
              refine En_getK (j := 2) ((h32 _ _ (Or.inl (neTG hs ha27 (by decide)))).trans ((h25 _ _ (Or.inl (neTG hs ha20 (by decide)))).trans h12)) rfl rfl rfl hs (by decide +kernel) ?_
              refine En_Ps 2 (pc' := 93) (lv' := [(0, .ref s), (1, .int a), (2, .int b), (3, .int c), (4, .int y8)]) (st' := [.int ((z3 + ((Int32.ofInt 1)))), .ref s]) rfl ?_
              refine En_top (addI rfl (by decide : (Int32.ofInt 1).toInt = 1) (by omega) (by omega)) (fun z33 h34 => ?_)
              refine En_put (j := 2) rfl rfl rfl hs (by decide +kernel) rfl (vI (l := 0) (u := 13) (by decide +kernel) rfl (by omega) (by omega)) h29 h30 (by decide +kernel) (fun σ35 h36 h37 h38 h39 => ?_)
              exact En_ret (v := none) rfl rfl rfl ⟨h36, h37, rfl, trivial⟩
            · refine En_Ps 1 (pc' := 35) (lv' := [(0, .ref s), (1, .int a), (2, .int b), (3, .int c), (4, .int y8)]) (st' := [.ref s]) rfl ?_
              refine En_getR (j := 0) (g' := 21) (u := 0) rfl rfl rfl hs (by decide +kernel) h10 (by decide +kernel) (fun a41 h40 ha41 => ?_)
              refine En_Ps 2 (pc' := 41) (lv' := [(0, .ref s), (1, .int a), (2, .int b), (3, .int c), (4, .int y8)]) (st' := [.ref s, .int y8, .ref a41]) rfl ?_
              refine En_getK (j := 0) h40 rfl rfl rfl hs (by decide +kernel) ?_
              refine En_Ps 3 (pc' := 48) (lv' := [(0, .ref s), (1, .int a), (2, .int b), (3, .int c), (4, .int y8)]) (st' := [.int ((y8 - ((Int32.ofInt 1)))), .ref a41, .int y8, .ref a41]) rfl ?_
              refine En_top (subI rfl (by decide : (Int32.ofInt 1).toInt = 1) (by omega) (by omega)) (fun z42 h43 => ?_)
              refine En_iald (l := 0) (u := 15) rfl rfl ha41 (by decide +kernel) h10 (by omega) (lnI (by decide +kernel : LN _ = 13) (by omega)) (FTsgl (by decide +kernel)) (fun z45 h44 h46 h47 => ?_)
              refine En_iast (l := 0) (u := 15) rfl rfl ha41 (by decide +kernel) (by omega) (lnI (by decide +kernel : LN _ = 13) (by omega)) (FTsgl (by decide +kernel)) (rngI rfl (by omega) (by omega)) h10 h11 (by decide +kernel) (fun σ48 h49 h50 h51 h52 => ?_)
              refine En_Ps 1 (pc' := 51) (lv' := [(0, .ref s), (1, .int a), (2, .int b), (3, .int c), (4, .int y8)]) (st' := [.ref s]) rfl ?_
              refine En_getR (j := 1) (g' := 22) (u := 0) rfl rfl rfl hs (by decide +kernel) h49 (by decide +kernel) (fun a54 h53 ha54 => ?_)
              refine En_Ps 2 (pc' := 57) (lv' := [(0, .ref s), (1, .int a), (2, .int b), (3, .int c), (4, .int y8)]) (st' := [.ref s, .int y8, .ref a54]) rfl ?_
              refine En_getK (j := 1) h53 rfl rfl rfl hs (by decide +kernel) ?_
              refine En_Ps 3 (pc' := 64) (lv' := [(0, .ref s), (1, .int a), (2, .int b), (3, .int c), (4, .int y8)]) (st' := [.int ((y8 - ((Int32.ofInt 1)))), .ref a54, .int y8, .ref a54]) rfl ?_
              refine En_top (subI rfl (by decide : (Int32.ofInt 1).toInt = 1) (by omega) (by omega)) (fun z55 h56 => ?_)
              refine En_iald (l := 0) (u := 1) rfl rfl ha54 (by decide +kernel) h49 (by omega) (lnI (by decide +kernel : LN _ = 13) (by omega)) (FTsgl (by decide +kernel)) (fun z58 h57 h59 h60 => ?_)
              refine En_iast (l := 0) (u := 1) rfl rfl ha54 (by decide +kernel) (by omega) (lnI (by decide +kernel : LN _ = 13) (by omega)) (FTsgl (by decide +kernel)) (rngI rfl (by omega) (by omega)) h49 h50 (by decide +kernel) (fun σ61 h62 h63 h64 h65 => ?_)
              refine En_Ps 1 (pc' := 69) (lv' := [(4, .int ((y8 + Int32.ofInt (-1)))), (0, .ref s), (1, .int a), (2, .int b), (3, .int c)]) (st' := []) rfl ?_
              refine En_lv1 (addI rfl (by decide : (Int32.ofInt (-1)).toInt = -1) (by omega) (by omega)) (fun z66 h67 => ?_)
              refine En_Ps 1 (pc' := 28) (lv' := [(4, .int z66), (0, .ref s), (1, .int a), (2, .int b), (3, .int c)]) (st' := []) rfl ?_
              refine En_lv (lv := [(0, .ref s), (1, .int a), (2, .int b), (3, .int c), (4, .int z66)]) ⟨rfl, rfl, rfl, rfl, rfl, trivial⟩ ?_
              exact ih28 σ61 z66 h62 h63 ((h65 _ _ (Or.inl (neTG hs ha54 (by decide)))).trans ((h52 _ _ (Or.inl (neTG hs ha41 (by decide)))).trans h12)) (by omega) (by omega) (by omega) (by omega) (by omega)
        refine En_lv (lv := [(0, .ref s), (1, .int a), (2, .int b), (3, .int c), (4, .int z3)]) ⟨rfl, rfl, rfl, rfl, rfl, trivial⟩ ?_
        exact key28 (Int.toNat (z3.toInt - a.toInt) + 1) σ0 z3 hσ0 hF0 h2 (by omega) (by omega) (by omega) (by omega) (by omega)
      · exact En_ret (v := none) rfl rfl rfl ⟨hσ0, hF0, rfl, trivial⟩
/-- DoorSchool$Lessons.add(II)V -/
abbrev P_31 (σ0 : SG) (s : Nat) (a : Int32) (b : Int32) : PO := fun v σ => WT σ ∧ Fr [(20, 2), (21, 0), (22, 0)] σ0 σ ∧ v = none ∧ True
set_option maxRecDepth 10000 in
set_option maxHeartbeats 4000000 in
theorem c_31 (σ0 : SG) (hσ0 : WT σ0) (s : Nat) (hs : TG s = 20) (a : Int32) (b : Int32) (hl_a : 0 ≤ a.toInt) (hu_a : a.toInt ≤ 15) (hl_b : 0 ≤ b.toInt) (hu_b : b.toInt ≤ 1) : En 1 24 none mr_31 (P_31 σ0 s a b) 0 [(0, .ref s), (1, .int a), (2, .int b)] [] σ0 := by
  have hF0 : Fr [(20, 2), (21, 0), (22, 0)] σ0 σ0 := Fr_rfl
  refine En_Ps 2 (pc' := 2) (lv' := [(0, .ref s), (1, .int a), (2, .int b)]) (st' := [.ref s, .ref s]) rfl ?_
  refine En_getI (j := 2) (l := 0) (u := 13) rfl rfl rfl hs (by decide +kernel) hσ0 (by decide +kernel) (fun z2 h1 h3 h4 => ?_)
  refine En_Ps 2 (pc' := 7) (lv' := [(0, .ref s), (1, .int a), (2, .int b)]) (st' := [.int b, .int a, .int z2, .ref s]) rfl ?_
  refine En_callV rfl rfl rfl rfl rfl rfl rfl rfl hs (by decide +kernel) rfl (c_38 σ0 hσ0 s hs z2 a b (geI rfl (by omega)) (leI rfl (by omega)) (geI rfl (by omega)) (leI rfl (by omega))) (by decide) (by decide) (fun v6 σ7 h5 => ?_)
  obtain ⟨h8, h9, rfl, h10⟩ := h5
  have h11 := Fr_trans hF0 h9 (by decide +kernel)
  exact En_ret (v := none) rfl rfl rfl ⟨h8, h11, rfl, trivial⟩
/-- DoorSchool$Lessons.allAs(I)I -/
abbrev P_32 (σ0 : SG) (s : Nat) (a : Int32) : PO := fun v σ => WT σ ∧ Fr [] σ0 σ ∧ ∃ ret : Int32, v = some (.int ret) ∧ -ret.toInt ≤ 0 ∧ ret.toInt - 65535 ≤ 0
set_option maxRecDepth 10000 in
set_option maxHeartbeats 4000000 in
theorem c_32 (σ0 : SG) (hσ0 : WT σ0) (s : Nat) (hs : TG s = 20) (a : Int32) : En 1 21 none mr_32 (P_32 σ0 s a) 0 [(0, .ref s), (1, .int a)] [] σ0 := by
  have hF0 : Fr [] σ0 σ0 := Fr_rfl
  refine En_Ps 4 (pc' := 4) (lv' := [(3, .int ((Int32.ofInt 0))), (2, .int ((Int32.ofInt 0))), (0, .ref s), (1, .int a)]) (st' := []) rfl ?_
  have key4 : ∀ (n4 : Nat) (σ3 : SG) (y1 : Int32) (y2 : Int32), WT σ3 → Fr [] σ0 σ3 → 0 ≤ y1.toInt → y1.toInt ≤ 65535 → 0 ≤ y2.toInt → y2.toInt ≤ 13 → -y2.toInt + 13 < (n4 : Int) → En 1 21 none mr_32 (P_32 σ0 s a) 4 [(0, .ref s), (1, .int a), (2, .int y1), (3, .int y2)] [] σ3 := by
    intro n4
    induction n4 with
    | zero =>
      intro σ3 y1 y2 h4 h5 h6 h7 h8 h9 h10
      exfalso; omega
    | succ n4 ih4 =>
      intro σ3 y1 y2 h4 h5 h6 h7 h8 h9 h10
      refine En_Ps 2 (pc' := 6) (lv' := [(0, .ref s), (1, .int a), (2, .int y1), (3, .int y2)]) (st' := [.ref s, .int y2]) rfl ?_
      refine En_getI (j := 2) (l := 0) (u := 13) rfl rfl rfl hs (by decide +kernel) h4 (by decide +kernel) (fun z12 h11 h13 h14 => ?_)
      refine En_icGe _ rfl rfl rfl (fun h15 => ?_) (fun h15 => ?_)
      · refine En_Ps 1 (pc' := 44) (lv' := [(0, .ref s), (1, .int a), (2, .int y1), (3, .int y2)]) (st' := [.int y1]) rfl ?_
        exact En_ret (v := some (.int y1)) rfl rfl rfl ⟨h4, h5, y1, rfl, (by omega)⟩
      · refine En_Ps 2 (pc' := 14) (lv' := [(0, .ref s), (1, .int a), (2, .int y1), (3, .int y2)]) (st' := [.ref s, .int a]) rfl ?_
        refine En_getR (j := 0) (g' := 21) (u := 0) rfl rfl rfl hs (by decide +kernel) h4 (by decide +kernel) (fun a17 h16 ha17 => ?_)
        refine En_Ps 1 (pc' := 18) (lv' := [(0, .ref s), (1, .int a), (2, .int y1), (3, .int y2)]) (st' := [.int y2, .ref a17, .int a]) rfl ?_
        refine En_iald (l := 0) (u := 15) rfl rfl ha17 (by decide +kernel) h4 (by omega) (lnI (by decide +kernel : LN _ = 13) (by omega)) (FTsgl (by decide +kernel)) (fun z19 h18 h20 h21 => ?_)
        refine En_callS rfl rfl rfl rfl rfl rfl rfl rfl rfl (c_108 σ3 h4 a z19) (by decide) (by decide) (fun v23 σ24 h22 => ?_)
        obtain ⟨h25, h26, z28, rfl, h27⟩ := h22
        have h29 := Fr_trans h5 h26 (by decide +kernel)
        refine En_Ps 1 (pc' := 23) (lv' := [(0, .ref s), (1, .int a), (2, .int y1), (3, .int y2)]) (st' := [.ref s, .int z28]) rfl ?_
        refine En_getR (j := 1) (g' := 22) (u := 0) rfl rfl rfl hs (by decide +kernel) h25 (by decide +kernel) (fun a31 h30 ha31 => ?_)
        refine En_Ps 1 (pc' := 27) (lv' := [(0, .ref s), (1, .int a), (2, .int y1), (3, .int y2)]) (st' := [.int y2, .ref a31, .int z28]) rfl ?_
        refine En_iald (l := 0) (u := 1) rfl rfl ha31 (by decide +kernel) h25 (by omega) (lnI (by decide +kernel : LN _ = 13) (by omega)) (FTsgl (by decide +kernel)) (fun z33 h32 h34 h35 => ?_)
        refine En_icNe _ rfl rfl rfl (fun h36 => ?_) (fun h36 => ?_)
        · refine En_Ps 1 (pc' := 40) (lv' := [(3, .int ((y2 + Int32.ofInt 1))), (0, .ref s), (1, .int a), (2, .int y1)]) (st' := []) rfl ?_
          refine En_lv1 (addI rfl (by decide : (Int32.ofInt 1).toInt = 1) (by omega) (by omega)) (fun z37 h38 => ?_)
          refine En_Ps 1 (pc' := 4) (lv' := [(3, .int z37), (0, .ref s), (1, .int a), (2, .int y1)]) (st' := []) rfl ?_
          refine En_lv (lv := [(0, .ref s), (1, .int a), (2, .int y1), (3, .int z37)]) ⟨rfl, rfl, rfl, rfl, trivial⟩ ?_
          exact ih4 σ24 y1 z37 h25 h29 (by omega) (by omega) (by omega) (by omega) (by omega)
        · refine En_Ps 4 (pc' := 35) (lv' := [(0, .ref s), (1, .int a), (2, .int y1), (3, .int y2)]) (st' := [.int ((((Int32.ofInt 1)) <<< (y2 &&& 31))), .int y1]) rfl ?_
          refine En_rng (shl1_p 12 rfl (by omega) (by omega) (by decide)) (fun z39 h40 h41 => ?_)
          refine En_Ps 1 (pc' := 36) (lv' := [(0, .ref s), (1, .int a), (2, .int y1), (3, .int y2)]) (st' := [.int ((y1 ||| z39))]) rfl ?_
          refine En_rng (l := 0) (u := 65535) (or_rng 16 rfl rfl (by omega) (by omega) (by omega) (by omega) (by decide)) (fun z42 h43 h44 => ?_)
          refine En_Ps 2 (pc' := 40) (lv' := [(3, .int ((y2 + Int32.ofInt 1))), (2, .int z42), (0, .ref s), (1, .int a)]) (st' := []) rfl ?_
          refine En_lv1 (addI rfl (by decide : (Int32.ofInt 1).toInt = 1) (by omega) (by omega)) (fun z45 h46 => ?_)
          refine En_Ps 1 (pc' := 4) (lv' := [(3, .int z45), (2, .int z42), (0, .ref s), (1, .int a)]) (st' := []) rfl ?_
          refine En_lv (lv := [(0, .ref s), (1, .int a), (2, .int z42), (3, .int z45)]) ⟨rfl, rfl, rfl, rfl, trivial⟩ ?_
          exact ih4 σ24 z42 z45 h25 h29 (by omega) (by omega) (by omega) (by omega) (by omega)
  have := (by decide : (Int32.ofInt 0).toInt = 0)
  have := (by decide : (Int32.ofInt 0).toInt = 0)
  refine En_lv (lv := [(0, .ref s), (1, .int a), (2, .int ((Int32.ofInt 0))), (3, .int ((Int32.ofInt 0)))]) ⟨rfl, rfl, rfl, rfl, trivial⟩ ?_
  exact key4 (Int.toNat (13) + 1) σ0 ((Int32.ofInt 0)) ((Int32.ofInt 0)) hσ0 hF0 (by omega) (by omega) (by omega) (by omega) (by omega)
/-- DoorSchool$Lessons.takeOut(I)V -/
abbrev P_41 (σ0 : SG) (s : Nat) (a : Int32) : PO := fun v σ => WT σ ∧ Fr [(20, 2), (21, 0), (22, 0)] σ0 σ ∧ v = none ∧ True
set_option maxRecDepth 10000 in
set_option maxHeartbeats 4000000 in
theorem c_41 (σ0 : SG) (hσ0 : WT σ0) (s : Nat) (hs : TG s = 20) (a : Int32) : En 0 0 none mr_41 (P_41 σ0 s a) 0 [(0, .ref s), (1, .int a)] [] σ0 := by
  have hF0 : Fr [(20, 2), (21, 0), (22, 0)] σ0 σ0 := Fr_rfl
  refine En_Ps 1 (pc' := 1) (lv' := [(0, .ref s), (1, .int a)]) (st' := [.int a]) rfl ?_
  refine En_iLt _ rfl rfl (fun h1 => ?_) (fun h1 => ?_)
  · exact En_ret (v := none) rfl rfl rfl ⟨hσ0, hF0, rfl, trivial⟩
  · refine En_Ps 2 (pc' := 6) (lv' := [(0, .ref s), (1, .int a)]) (st' := [.ref s, .int a]) rfl ?_
    refine En_getI (j := 2) (l := 0) (u := 13) rfl rfl rfl hs (by decide +kernel) hσ0 (by decide +kernel) (fun z3 h2 h4 h5 => ?_)
    refine En_icLt _ rfl rfl rfl (fun h6 => ?_) (fun h6 => ?_)
    · refine En_Ps 2 (pc' := 15) (lv' := [(2, .int a), (0, .ref s), (1, .int a)]) (st' := []) rfl ?_
      have key15 : ∀ (n15 : Nat) (σ8 : SG) (y7 : Int32), WT σ8 → Fr [(20, 2), (21, 0), (22, 0)] σ0 σ8 → (σ8 s)[2]? = some (.int z3) → 0 ≤ y7.toInt → y7.toInt ≤ 12 → a.toInt - y7.toInt ≤ 0 → y7.toInt - z3.toInt + 1 ≤ 0 → z3.toInt - y7.toInt < (n15 : Int) → En 0 0 none mr_41 (P_41 σ0 s a) 15 [(0, .ref s), (1, .int a), (2, .int y7)] [] σ8 := by
        intro n15
        induction n15 with
        | zero =>
          intro σ8 y7 h9 h10 h11 h12 h13 h14 h15 h16
          exfalso; omega
        | succ n15 ih15 =>
          intro σ8 y7 h9 h10 h11 h12 h13 h14 h15 h16
          refine En_Ps 3 (pc' := 18) (lv' := [(0, .ref s), (1, .int a), (2, .int y7)]) (st' := [.int ((y7 + ((Int32.ofInt 1))))]) rfl ?_
          refine En_top (addI rfl (by decide : (Int32.ofInt 1).toInt = 1) (by omega) (by omega)) (fun z17 h18 => ?_)
          refine En_Ps 1 (pc' := 19) (lv' := [(0, .ref s), (1, .int a), (2, .int y7)]) (st' := [.ref s, .int z17]) rfl ?_
          refine En_getK (j := 2) h11 rfl rfl rfl hs (by decide +kernel) ?_
          refine En_icGe _ rfl rfl rfl (fun h19 => ?_) (fun h19 => ?_)
          · refine En_Ps 2 (pc' := 61) (lv' := [(0, .ref s), (1, .int a), (2, .int y7)]) (st' := [.ref s, .ref s]) rfl ?_
            refine En_getK (j := 2) h11 rfl rfl rfl hs (by decide +kernel) ?_
            refine En_Ps 2 (pc' := 66) (lv' := [(0, .ref s), (1, .int a), (2, .int y7)]) (st' := [.int ((z3 - ((Int32.ofInt 1)))), .ref s]) rfl ?_
            refine En_top (subI rfl (by decide : (Int32.ofInt 1).toInt = 1) (by omega) (by omega)) (fun z20 h21 => ?_)
            refine En_put (j := 2) rfl rfl rfl hs (by decide +kernel) rfl (vI (l := 0) (u := 13) (by decide +kernel) rfl (by omega) (by omega)) h9 h10 (by decide +kernel) (fun σ22 h23 h24 h25 h26 => ?_)
            exact En_ret (v := none) rfl rfl rfl ⟨h23, h24, rfl, trivial⟩
          · refine En_Ps 1 (pc' := 26) (lv' := [(0, .ref s), (1, .int a), (2, .int y7)]) (st' := [.ref s]) rfl ?_
            refine En_getR (j := 0) (g' := 21) (u := 0) rfl rfl rfl hs (by decide +kernel) h9 (by decide +kernel) (fun a28 h27 ha28 => ?_)
            refine En_Ps 2 (pc' := 31) (lv' := [(0, .ref s), (1, .int a), (2, .int y7)]) (st' := [.ref s, .int y7, .ref a28]) rfl ?_
            refine En_getK (j := 0) h27 rfl rfl rfl hs (by decide +kernel) ?_
            refine En_Ps 3 (pc' := 37) (lv' := [(0, .ref s), (1, .int a), (2, .int y7)]) (st' := [.int ((y7 + ((Int32.ofInt 1)))), .ref a28, .int y7, .ref a28]) rfl ?_
            refine En_top (addI rfl (by decide : (Int32.ofInt 1).toInt = 1) (by omega) (by omega)) (fun z29 h30 => ?_)
            refine En_iald (l := 0) (u := 15) rfl rfl ha28 (by decide +kernel) h9 (by omega) (lnI (by decide +kernel : LN _ = 13) (by omega)) (FTsgl (by decide +kernel)) (fun z32 h31 h33 h34 => ?_)
            refine En_iast (l := 0) (u := 15) rfl rfl ha28 (by decide +kernel) (by omega) (lnI (by decide +kernel : LN _ = 13) (by omega)) (FTsgl (by decide +kernel)) (rngI rfl (by omega) (by omega)) h9 h10 (by decide +kernel) (fun σ35 h36 h37 h38 h39 => ?_)
            refine En_Ps 1 (pc' := 40) (lv' := [(0, .ref s), (1, .int a), (2, .int y7)]) (st' := [.ref s]) rfl ?_
            refine En_getR (j := 1) (g' := 22) (u := 0) rfl rfl rfl hs (by decide +kernel) h36 (by decide +kernel) (fun a41 h40 ha41 => ?_)
            refine En_Ps 2 (pc' := 45) (lv' := [(0, .ref s), (1, .int a), (2, .int y7)]) (st' := [.ref s, .int y7, .ref a41]) rfl ?_
            refine En_getK (j := 1) h40 rfl rfl rfl hs (by decide +kernel) ?_
            refine En_Ps 3 (pc' := 51) (lv' := [(0, .ref s), (1, .int a), (2, .int y7)]) (st' := [.int ((y7 + ((Int32.ofInt 1)))), .ref a41, .int y7, .ref a41]) rfl ?_
            refine En_top (addI rfl (by decide : (Int32.ofInt 1).toInt = 1) (by omega) (by omega)) (fun z42 h43 => ?_)
            refine En_iald (l := 0) (u := 1) rfl rfl ha41 (by decide +kernel) h36 (by omega) (lnI (by decide +kernel : LN _ = 13) (by omega)) (FTsgl (by decide +kernel)) (fun z45 h44 h46 h47 => ?_)
            refine En_iast (l := 0) (u := 1) rfl rfl ha41 (by decide +kernel) (by omega) (lnI (by decide +kernel : LN _ = 13) (by omega)) (FTsgl (by decide +kernel)) (rngI rfl (by omega) (by omega)) h36 h37 (by decide +kernel) (fun σ48 h49 h50 h51 h52 => ?_)
            refine En_Ps 1 (pc' := 56) (lv' := [(2, .int ((y7 + Int32.ofInt 1))), (0, .ref s), (1, .int a)]) (st' := []) rfl ?_
            refine En_lv1 (addI rfl (by decide : (Int32.ofInt 1).toInt = 1) (by omega) (by omega)) (fun z53 h54 => ?_)
            refine En_Ps 1 (pc' := 15) (lv' := [(2, .int z53), (0, .ref s), (1, .int a)]) (st' := []) rfl ?_
            refine En_lv (lv := [(0, .ref s), (1, .int a), (2, .int z53)]) ⟨rfl, rfl, rfl, trivial⟩ ?_
            exact ih15 σ48 z53 h49 h50 ((h52 _ _ (Or.inl (neTG hs ha41 (by decide)))).trans ((h39 _ _ (Or.inl (neTG hs ha28 (by decide)))).trans h11)) (by omega) (by omega) (by omega) (by omega) (by omega)
      refine En_lv (lv := [(0, .ref s), (1, .int a), (2, .int a)]) ⟨rfl, rfl, rfl, trivial⟩ ?_
      exact key15 (Int.toNat (z3.toInt - a.toInt) + 1) σ0 a hσ0 hF0 h2 (by omega) (by omega) (by omega) (by omega) (by omega)
    · exact En_ret (v := none) rfl rfl rfl ⟨hσ0, hF0, rfl, trivial⟩
/-- DoorSchool$Lessons.dropLast()V -/
abbrev P_33 (σ0 : SG) (s : Nat) : PO := fun v σ => WT σ ∧ Fr [(20, 2), (21, 0), (22, 0)] σ0 σ ∧ v = none ∧ True
set_option maxRecDepth 10000 in
set_option maxHeartbeats 4000000 in
theorem c_33 (σ0 : SG) (hσ0 : WT σ0) (s : Nat) (hs : TG s = 20) : En 1 22 none mr_33 (P_33 σ0 s) 0 [(0, .ref s)] [] σ0 := by
  have hF0 : Fr [(20, 2), (21, 0), (22, 0)] σ0 σ0 := Fr_rfl
  refine En_Ps 2 (pc' := 2) (lv' := [(0, .ref s)]) (st' := [.ref s, .ref s]) rfl ?_
  refine En_getI (j := 2) (l := 0) (u := 13) rfl rfl rfl hs (by decide +kernel) hσ0 (by decide +kernel) (fun z2 h1 h3 h4 => ?_)
  refine En_Ps 2 (pc' := 7) (lv' := [(0, .ref s)]) (st' := [.int ((z2 - ((Int32.ofInt 1)))), .ref s]) rfl ?_
  refine En_top (subI rfl (by decide : (Int32.ofInt 1).toInt = 1) (by omega) (by omega)) (fun z5 h6 => ?_)
  refine En_callV rfl rfl rfl rfl rfl rfl rfl rfl hs (by decide +kernel) rfl (c_41 σ0 hσ0 s hs z5) (by decide) (by decide) (fun v8 σ9 h7 => ?_)
  obtain ⟨h10, h11, rfl, h12⟩ := h7
  have h13 := Fr_trans hF0 h11 (by decide +kernel)
  exact En_ret (v := none) rfl rfl rfl ⟨h10, h13, rfl, trivial⟩
/-- DoorSchool$Lessons.firstNotAs(I)I -/
abbrev P_34 (σ0 : SG) (s : Nat) (a : Int32) : PO := fun v σ => WT σ ∧ Fr [] σ0 σ ∧ ∃ ret : Int32, v = some (.int ret) ∧ -ret.toInt - 1 ≤ 0 ∧ ret.toInt - 12 ≤ 0
set_option maxRecDepth 10000 in
set_option maxHeartbeats 4000000 in
theorem c_34 (σ0 : SG) (hσ0 : WT σ0) (s : Nat) (hs : TG s = 20) (a : Int32) : En 1 21 none mr_34 (P_34 σ0 s a) 0 [(0, .ref s), (1, .int a)] [] σ0 := by
  have hF0 : Fr [] σ0 σ0 := Fr_rfl
  refine En_Ps 2 (pc' := 2) (lv' := [(2, .int ((Int32.ofInt 0))), (0, .ref s), (1, .int a)]) (st' := []) rfl ?_
  have key2 : ∀ (n2 : Nat) (σ2 : SG) (y1 : Int32), WT σ2 → Fr [] σ0 σ2 → 0 ≤ y1.toInt → y1.toInt ≤ 13 → -y1.toInt + 13 < (n2 : Int) → En 1 21 none mr_34 (P_34 σ0 s a) 2 [(0, .ref s), (1, .int a), (2, .int y1)] [] σ2 := by
    intro n2
    induction n2 with
    | zero =>
      intro σ2 y1 h3 h4 h5 h6 h7
      exfalso; omega
    | succ n2 ih2 =>
      intro σ2 y1 h3 h4 h5 h6 h7
      refine En_Ps 2 (pc' := 4) (lv' := [(0, .ref s), (1, .int a), (2, .int y1)]) (st' := [.ref s, .int y1]) rfl ?_
      refine En_getI (j := 2) (l := 0) (u := 13) rfl rfl rfl hs (by decide +kernel) h3 (by decide +kernel) (fun z9 h8 h10 h11 => ?_)
      refine En_icGe _ rfl rfl rfl (fun h12 => ?_) (fun h12 => ?_)
      · refine En_Ps 1 (pc' := 38) (lv' := [(0, .ref s), (1, .int a), (2, .int y1)]) (st' := [.int ((Int32.ofInt (-1)))]) rfl ?_
        refine En_top (by decide : (Int32.ofInt (-1)).toInt = -1) (fun z13 h14 => ?_)
        exact En_ret (v := some (.int z13)) rfl rfl rfl ⟨h3, h4, z13, rfl, (by omega)⟩
      · refine En_Ps 2 (pc' := 12) (lv' := [(0, .ref s), (1, .int a), (2, .int y1)]) (st' := [.ref s, .int a]) rfl ?_
        refine En_getR (j := 0) (g' := 21) (u := 0) rfl rfl rfl hs (by decide +kernel) h3 (by decide +kernel) (fun a16 h15 ha16 => ?_)
        refine En_Ps 1 (pc' := 16) (lv' := [(0, .ref s), (1, .int a), (2, .int y1)]) (st' := [.int y1, .ref a16, .int a]) rfl ?_
        refine En_iald (l := 0) (u := 15) rfl rfl ha16 (by decide +kernel) h3 (by omega) (lnI (by decide +kernel : LN _ = 13) (by omega)) (FTsgl (by decide +kernel)) (fun z18 h17 h19 h20 => ?_)
        refine En_callS rfl rfl rfl rfl rfl rfl rfl rfl rfl (c_108 σ2 h3 a z18) (by decide) (by decide) (fun v22 σ23 h21 => ?_)
        obtain ⟨h24, h25, z27, rfl, h26⟩ := h21
        have h28 := Fr_trans h4 h25 (by decide +kernel)
        refine En_Ps 1 (pc' := 21) (lv' := [(0, .ref s), (1, .int a), (2, .int y1)]) (st' := [.ref s, .int z27]) rfl ?_
        refine En_getR (j := 1) (g' := 22) (u := 0) rfl rfl rfl hs (by decide +kernel) h24 (by decide +kernel) (fun a30 h29 ha30 => ?_)
        refine En_Ps 1 (pc' := 25) (lv' := [(0, .ref s), (1, .int a), (2, .int y1)]) (st' := [.int y1, .ref a30, .int z27]) rfl ?_
        refine En_iald (l := 0) (u := 1) rfl rfl ha30 (by decide +kernel) h24 (by omega) (lnI (by decide +kernel : LN _ = 13) (by omega)) (FTsgl (by decide +kernel)) (fun z32 h31 h33 h34 => ?_)
        refine En_icEq _ rfl rfl rfl (fun h35 => ?_) (fun h35 => ?_)
        · refine En_Ps 1 (pc' := 34) (lv' := [(2, .int ((y1 + Int32.ofInt 1))), (0, .ref s), (1, .int a)]) (st' := []) rfl ?_
          refine En_lv1 (addI rfl (by decide : (Int32.ofInt 1).toInt = 1) (by omega) (by omega)) (fun z36 h37 => ?_)
          refine En_Ps 1 (pc' := 2) (lv' := [(2, .int z36), (0, .ref s), (1, .int a)]) (st' := []) rfl ?_
          refine En_lv (lv := [(0, .ref s), (1, .int a), (2, .int z36)]) ⟨rfl, rfl, rfl, trivial⟩ ?_
          exact ih2 σ23 z36 h24 h28 (by omega) (by omega) (by omega)
        · refine En_Ps 1 (pc' := 30) (lv' := [(0, .ref s), (1, .int a), (2, .int y1)]) (st' := [.int y1]) rfl ?_
          exact En_ret (v := some (.int y1)) rfl rfl rfl ⟨h24, h28, y1, rfl, (by omega)⟩
  have := (by decide : (Int32.ofInt 0).toInt = 0)
  refine En_lv (lv := [(0, .ref s), (1, .int a), (2, .int ((Int32.ofInt 0)))]) ⟨rfl, rfl, rfl, trivial⟩ ?_
  exact key2 (Int.toNat (13) + 1) σ0 ((Int32.ofInt 0)) hσ0 hF0 (by omega) (by omega) (by omega)
/-- DoorSchool$Plan.exists()Z -/
abbrev P_43 (σ0 : SG) (s : Nat) : PO := fun v σ => WT σ ∧ Fr [] σ0 σ ∧ ∃ ret : Int32, v = some (.int ret) ∧ -ret.toInt ≤ 0 ∧ ret.toInt - 1 ≤ 0
set_option maxRecDepth 10000 in
set_option maxHeartbeats 4000000 in
theorem c_43 (σ0 : SG) (hσ0 : WT σ0) (s : Nat) (hs : TG s = 18) : En 0 0 none mr_43 (P_43 σ0 s) 0 [(0, .ref s)] [] σ0 := by
  have hF0 : Fr [] σ0 σ0 := Fr_rfl
  refine En_Ps 1 (pc' := 1) (lv' := [(0, .ref s)]) (st' := [.ref s]) rfl ?_
  refine En_getI (j := 0) (l := 0) (u := 1601) rfl rfl rfl hs (by decide +kernel) hσ0 (by decide +kernel) (fun z2 h1 h3 h4 => ?_)
  refine En_iLe _ rfl rfl (fun h5 => ?_) (fun h5 => ?_)
  · refine En_Ps 1 (pc' := 12) (lv' := [(0, .ref s)]) (st' := [.int ((Int32.ofInt 0))]) rfl ?_
    refine En_top (by decide : (Int32.ofInt 0).toInt = 0) (fun z6 h7 => ?_)
    exact En_ret (v := some (.int z6)) rfl rfl (retZ rfl rfl (by omega) (by omega)) ⟨hσ0, hF0, z6, rfl, (by omega)⟩
  · refine En_Ps 2 (pc' := 12) (lv' := [(0, .ref s)]) (st' := [.int ((Int32.ofInt 1))]) rfl ?_
    refine En_top (by decide : (Int32.ofInt 1).toInt = 1) (fun z8 h9 => ?_)
    exact En_ret (v := some (.int z8)) rfl rfl (retZ rfl rfl (by omega) (by omega)) ⟨hσ0, hF0, z8, rfl, (by omega)⟩
/-- DoorSchool$Plan.isCopied(I)Z -/
abbrev P_45 (σ0 : SG) (s : Nat) (a : Int32) : PO := fun v σ => WT σ ∧ Fr [] σ0 σ ∧ ∃ ret : Int32, v = some (.int ret) ∧ -ret.toInt ≤ 0 ∧ ret.toInt - 1 ≤ 0 ∧ (ret.toInt - 1 ≤ 0 ∧ -ret.toInt + 1 ≤ 0 → -a.toInt - 1 ≤ 0 ∧ a.toInt - 3 ≤ 0)
set_option maxRecDepth 10000 in
set_option maxHeartbeats 4000000 in
theorem c_45 (σ0 : SG) (hσ0 : WT σ0) (s : Nat) (hs : TG s = 18) (a : Int32) : En 0 0 none mr_45 (P_45 σ0 s a) 0 [(0, .ref s), (1, .int a)] [] σ0 := by
  have hF0 : Fr [] σ0 σ0 := Fr_rfl
  refine En_Ps 2 (pc' := 2) (lv' := [(2, .int ((Int32.ofInt 0))), (0, .ref s), (1, .int a)]) (st' := []) rfl ?_
  have key2 : ∀ (n2 : Nat) (σ2 : SG) (y1 : Int32), WT σ2 → Fr [] σ0 σ2 → 0 ≤ y1.toInt → y1.toInt ≤ 4 → -y1.toInt + 4 < (n2 : Int) → En 0 0 none mr_45 (P_45 σ0 s a) 2 [(0, .ref s), (1, .int a), (2, .int y1)] [] σ2 := by
    intro n2
    induction n2 with
    | zero =>
      intro σ2 y1 h3 h4 h5 h6 h7
      exfalso; omega
    | succ n2 ih2 =>
      intro σ2 y1 h3 h4 h5 h6 h7
      refine En_Ps 2 (pc' := 4) (lv' := [(0, .ref s), (1, .int a), (2, .int y1)]) (st' := [.ref s, .int y1]) rfl ?_
      refine En_getI (j := 3) (l := 0) (u := 4) rfl rfl rfl hs (by decide +kernel) h3 (by decide +kernel) (fun z9 h8 h10 h11 => ?_)
      refine En_icGe _ rfl rfl rfl (fun h12 => ?_) (fun h12 => ?_)
      · refine En_Ps 1 (pc' := 32) (lv' := [(0, .ref s), (1, .int a), (2, .int y1)]) (st' := [.int ((Int32.ofInt 0))]) rfl ?_
        refine En_top (by decide : (Int32.ofInt 0).toInt = 0) (fun z13 h14 => ?_)
        exact En_ret (v := some (.int z13)) rfl rfl (retZ rfl rfl (by omega) (by omega)) ⟨h3, h4, z13, rfl, (by omega)⟩
      · refine En_Ps 1 (pc' := 11) (lv' := [(0, .ref s), (1, .int a), (2, .int y1)]) (st' := [.ref s]) rfl ?_
        refine En_getR (j := 4) (g' := 19) (u := 0) rfl rfl rfl hs (by decide +kernel) h3 (by decide +kernel) (fun a16 h15 ha16 => ?_)
        refine En_Ps 1 (pc' := 15) (lv' := [(0, .ref s), (1, .int a), (2, .int y1)]) (st' := [.int y1, .ref a16]) rfl ?_
        refine En_aald (g' := 28) (u := 0) rfl rfl ha16 (by decide +kernel) h3 (by omega) (lnI (by decide +kernel : LN _ = 4) (by omega)) (FTsgl (by decide +kernel)) (fun a18 h17 ha18 => ?_)
        refine En_getI (j := 3) (l := (-1)) (u := 3) rfl rfl rfl ha18 (by decide +kernel) h3 (by decide +kernel) (fun z20 h19 h21 h22 => ?_)
        refine En_Ps 1 (pc' := 20) (lv' := [(0, .ref s), (1, .int a), (2, .int y1)]) (st' := [.int a, .int z20]) rfl ?_
        refine En_icNe _ rfl rfl rfl (fun h23 => ?_) (fun h23 => ?_)
        · refine En_Ps 1 (pc' := 28) (lv' := [(2, .int ((y1 + Int32.ofInt 1))), (0, .ref s), (1, .int a)]) (st' := []) rfl ?_
          refine En_lv1 (addI rfl (by decide : (Int32.ofInt 1).toInt = 1) (by omega) (by omega)) (fun z24 h25 => ?_)
          refine En_Ps 1 (pc' := 2) (lv' := [(2, .int z24), (0, .ref s), (1, .int a)]) (st' := []) rfl ?_
          refine En_lv (lv := [(0, .ref s), (1, .int a), (2, .int z24)]) ⟨rfl, rfl, rfl, trivial⟩ ?_
          exact ih2 σ2 z24 h3 h4 (by omega) (by omega) (by omega)
        · refine En_Ps 1 (pc' := 24) (lv' := [(0, .ref s), (1, .int a), (2, .int y1)]) (st' := [.int ((Int32.ofInt 1))]) rfl ?_
          refine En_top (by decide : (Int32.ofInt 1).toInt = 1) (fun z26 h27 => ?_)
          exact En_ret (v := some (.int z26)) rfl rfl (retZ rfl rfl (by omega) (by omega)) ⟨h3, h4, z26, rfl, (by omega)⟩
  have := (by decide : (Int32.ofInt 0).toInt = 0)
  refine En_lv (lv := [(0, .ref s), (1, .int a), (2, .int ((Int32.ofInt 0)))]) ⟨rfl, rfl, rfl, trivial⟩ ?_
  exact key2 (Int.toNat (4) + 1) σ0 ((Int32.ofInt 0)) hσ0 hF0 (by omega) (by omega) (by omega)
/-- DoorSchool$Plan.knocks()I -/
abbrev P_51 (σ0 : SG) (s : Nat) (sg : Int32) : PO := fun v σ => WT σ ∧ Fr [] σ0 σ ∧ ∃ ret : Int32, v = some (.int ret) ∧ -ret.toInt + 1 ≤ 0 ∧ ret.toInt - 16 ≤ 0
set_option maxRecDepth 10000 in
set_option maxHeartbeats 4000000 in
theorem c_51 (σ0 : SG) (hσ0 : WT σ0) (s : Nat) (hs : TG s = 18) (sg : Int32) (h_sg : (σ0 s)[1]? = some (.int sg)) (hp0 : -sg.toInt ≤ 0) : En 0 0 none mr_51 (P_51 σ0 s sg) 0 [(0, .ref s)] [] σ0 := by
  obtain ⟨hl_sg, hu_sg⟩ := WT_int hσ0 (g := 18) hs (by decide +kernel) (l := (-1)) (u := 4) (by decide +kernel) h_sg
  have hF0 : Fr [] σ0 σ0 := Fr_rfl
  refine En_Ps 2 (pc' := 2) (lv' := [(0, .ref s)]) (st' := [.ref s, .int ((Int32.ofInt 1))]) rfl ?_
  refine En_getK (j := 1) h_sg rfl rfl rfl hs (by decide +kernel) ?_
  refine En_Ps 1 (pc' := 6) (lv' := [(0, .ref s)]) (st' := [.int ((((Int32.ofInt 1)) <<< (sg &&& 31)))]) rfl ?_
  refine En_rng (shl1_p 4 rfl (by omega) (by omega) (by decide)) (fun z1 h2 h3 => ?_)
  exact En_ret (v := some (.int z1)) rfl rfl rfl ⟨hσ0, hF0, z1, rfl, (by omega)⟩
/-- DoorSchool$Plan.isDeeds(I)Z -/
abbrev P_46 (σ0 : SG) (s : Nat) (a : Int32) (sg : Int32) : PO := fun v σ => WT σ ∧ Fr [] σ0 σ ∧ ∃ ret : Int32, v = some (.int ret) ∧ -ret.toInt ≤ 0 ∧ ret.toInt - 1 ≤ 0 ∧ (ret.toInt - 1 ≤ 0 ∧ -ret.toInt + 1 ≤ 0 → -a.toInt ≤ 0 ∧ a.toInt - 65535 ≤ 0)
set_option maxRecDepth 10000 in
set_option maxHeartbeats 4000000 in
theorem c_46 (σ0 : SG) (hσ0 : WT σ0) (s : Nat) (hs : TG s = 18) (a : Int32) (sg : Int32) (h_sg : (σ0 s)[1]? = some (.int sg)) (hp0 : -sg.toInt ≤ 0) : En 1 20 none mr_46 (P_46 σ0 s a sg) 0 [(0, .ref s), (1, .int a)] [] σ0 := by
  obtain ⟨hl_sg, hu_sg⟩ := WT_int hσ0 (g := 18) hs (by decide +kernel) (l := (-1)) (u := 4) (by decide +kernel) h_sg
  have hF0 : Fr [] σ0 σ0 := Fr_rfl
  refine En_Ps 1 (pc' := 1) (lv' := [(0, .ref s), (1, .int a)]) (st' := [.ref s]) rfl ?_
  refine En_callV rfl rfl rfl rfl rfl rfl rfl rfl hs (by decide +kernel) rfl (c_43 σ0 hσ0 s hs) (by decide) (by decide) (fun v2 σ3 h1 => ?_)
  obtain ⟨h4, h5, z7, rfl, h6⟩ := h1
  have h8 := Fr_trans hF0 h5 (by decide +kernel)
  refine En_iEq _ rfl rfl (fun h9 => ?_) (fun h9 => ?_)
  · refine En_Ps 1 (pc' := 26) (lv' := [(0, .ref s), (1, .int a)]) (st' := [.int ((Int32.ofInt 0))]) rfl ?_
    refine En_top (by decide : (Int32.ofInt 0).toInt = 0) (fun z10 h11 => ?_)
    exact En_ret (v := some (.int z10)) rfl rfl (retZ rfl rfl (by omega) (by omega)) ⟨h4, h8, z10, rfl, (by omega)⟩
  · refine En_Ps 1 (pc' := 8) (lv' := [(0, .ref s), (1, .int a)]) (st' := [.int a]) rfl ?_
    refine En_iLt _ rfl rfl (fun h12 => ?_) (fun h12 => ?_)
    · refine En_Ps 1 (pc' := 26) (lv' := [(0, .ref s), (1, .int a)]) (st' := [.int ((Int32.ofInt 0))]) rfl ?_
      refine En_top (by decide : (Int32.ofInt 0).toInt = 0) (fun z13 h14 => ?_)
      exact En_ret (v := some (.int z13)) rfl rfl (retZ rfl rfl (by omega) (by omega)) ⟨h4, h8, z13, rfl, (by omega)⟩
    · refine En_Ps 3 (pc' := 14) (lv' := [(0, .ref s), (1, .int a)]) (st' := [.ref s, .int ((Int32.ofInt 1)), .int a]) rfl ?_
      refine En_callV rfl rfl rfl rfl rfl rfl rfl rfl hs (by decide +kernel) rfl (c_51 σ3 h4 s hs sg ((h5 _ _ (inW hs (by decide +kernel))).trans h_sg) (by omega)) (by decide) (by decide) (fun v16 σ17 h15 => ?_)
      obtain ⟨h18, h19, z21, rfl, h20⟩ := h15
      have h22 := Fr_trans h8 h19 (by decide +kernel)
      refine En_Ps 1 (pc' := 18) (lv' := [(0, .ref s), (1, .int a)]) (st' := [.int ((((Int32.ofInt 1)) <<< (z21 &&& 31))), .int a]) rfl ?_
      refine En_rng (shl1_p 16 rfl (by omega) (by omega) (by decide)) (fun z23 h24 h25 => ?_)
      refine En_icGe _ rfl rfl rfl (fun h26 => ?_) (fun h26 => ?_)
      · refine En_Ps 1 (pc' := 26) (lv' := [(0, .ref s), (1, .int a)]) (st' := [.int ((Int32.ofInt 0))]) rfl ?_
        refine En_top (by decide : (Int32.ofInt 0).toInt = 0) (fun z27 h28 => ?_)
        exact En_ret (v := some (.int z27)) rfl rfl (retZ rfl rfl (by omega) (by omega)) ⟨h18, h22, z27, rfl, (by omega)⟩
      · refine En_Ps 2 (pc' := 26) (lv' := [(0, .ref s), (1, .int a)]) (st' := [.int ((Int32.ofInt 1))]) rfl ?_
        refine En_top (by decide : (Int32.ofInt 1).toInt = 1) (fun z29 h30 => ?_)
        exact En_ret (v := some (.int z29)) rfl rfl (retZ rfl rfl (by omega) (by omega)) ⟨h18, h22, z29, rfl, (by omega)⟩
/-- DoorSchool$Plan.isDoor(I)Z -/
abbrev P_47 (σ0 : SG) (s : Nat) (a : Int32) : PO := fun v σ => WT σ ∧ Fr [] σ0 σ ∧ ∃ ret : Int32, v = some (.int ret) ∧ -ret.toInt ≤ 0 ∧ ret.toInt - 1 ≤ 0 ∧ (ret.toInt - 1 ≤ 0 ∧ -ret.toInt + 1 ≤ 0 → -a.toInt ≤ 0 ∧ a.toInt - 3 ≤ 0)
set_option maxRecDepth 10000 in
set_option maxHeartbeats 4000000 in
theorem c_47 (σ0 : SG) (hσ0 : WT σ0) (s : Nat) (hs : TG s = 18) (a : Int32) : En 0 0 none mr_47 (P_47 σ0 s a) 0 [(0, .ref s), (1, .int a)] [] σ0 := by
  have hF0 : Fr [] σ0 σ0 := Fr_rfl
  refine En_Ps 1 (pc' := 1) (lv' := [(0, .ref s), (1, .int a)]) (st' := [.int a]) rfl ?_
  refine En_iLt _ rfl rfl (fun h1 => ?_) (fun h1 => ?_)
  · refine En_Ps 1 (pc' := 17) (lv' := [(0, .ref s), (1, .int a)]) (st' := [.int ((Int32.ofInt 0))]) rfl ?_
    refine En_top (by decide : (Int32.ofInt 0).toInt = 0) (fun z2 h3 => ?_)
    exact En_ret (v := some (.int z2)) rfl rfl (retZ rfl rfl (by omega) (by omega)) ⟨hσ0, hF0, z2, rfl, (by omega)⟩
  · refine En_Ps 2 (pc' := 6) (lv' := [(0, .ref s), (1, .int a)]) (st' := [.ref s, .int a]) rfl ?_
    refine En_getI (j := 3) (l := 0) (u := 4) rfl rfl rfl hs (by decide +kernel) hσ0 (by decide +kernel) (fun z5 h4 h6 h7 => ?_)
    refine En_icGe _ rfl rfl rfl (fun h8 => ?_) (fun h8 => ?_)
    · refine En_Ps 1 (pc' := 17) (lv' := [(0, .ref s), (1, .int a)]) (st' := [.int ((Int32.ofInt 0))]) rfl ?_
      refine En_top (by decide : (Int32.ofInt 0).toInt = 0) (fun z9 h10 => ?_)
      exact En_ret (v := some (.int z9)) rfl rfl (retZ rfl rfl (by omega) (by omega)) ⟨hσ0, hF0, z9, rfl, (by omega)⟩
    · refine En_Ps 2 (pc' := 17) (lv' := [(0, .ref s), (1, .int a)]) (st' := [.int ((Int32.ofInt 1))]) rfl ?_
      refine En_top (by decide : (Int32.ofInt 1).toInt = 1) (fun z11 h12 => ?_)
      exact En_ret (v := some (.int z11)) rfl rfl (retZ rfl rfl (by omega) (by omega)) ⟨hσ0, hF0, z11, rfl, (by omega)⟩
/-- DoorSchool$Plan.isHouse(I)Z -/
abbrev P_48 (σ0 : SG) (s : Nat) (a : Int32) : PO := fun v σ => WT σ ∧ Fr [] σ0 σ ∧ ∃ ret : Int32, v = some (.int ret) ∧ -ret.toInt ≤ 0 ∧ ret.toInt - 1 ≤ 0 ∧ (ret.toInt - 1 ≤ 0 ∧ -ret.toInt + 1 ≤ 0 → -a.toInt ≤ 0 ∧ a.toInt - 3 ≤ 0)
set_option maxRecDepth 10000 in
set_option maxHeartbeats 4000000 in
theorem c_48 (σ0 : SG) (hσ0 : WT σ0) (s : Nat) (hs : TG s = 18) (a : Int32) : En 0 0 none mr_48 (P_48 σ0 s a) 0 [(0, .ref s), (1, .int a)] [] σ0 := by
  have hF0 : Fr [] σ0 σ0 := Fr_rfl
  refine En_Ps 1 (pc' := 1) (lv' := [(0, .ref s), (1, .int a)]) (st' := [.int a]) rfl ?_
  refine En_iLt _ rfl rfl (fun h1 => ?_) (fun h1 => ?_)
  · refine En_Ps 1 (pc' := 17) (lv' := [(0, .ref s), (1, .int a)]) (st' := [.int ((Int32.ofInt 0))]) rfl ?_
    refine En_top (by decide : (Int32.ofInt 0).toInt = 0) (fun z2 h3 => ?_)
    exact En_ret (v := some (.int z2)) rfl rfl (retZ rfl rfl (by omega) (by omega)) ⟨hσ0, hF0, z2, rfl, (by omega)⟩
  · refine En_Ps 2 (pc' := 6) (lv' := [(0, .ref s), (1, .int a)]) (st' := [.ref s, .int a]) rfl ?_
    refine En_getI (j := 8) (l := 0) (u := 4) rfl rfl rfl hs (by decide +kernel) hσ0 (by decide +kernel) (fun z5 h4 h6 h7 => ?_)
    refine En_icGe _ rfl rfl rfl (fun h8 => ?_) (fun h8 => ?_)
    · refine En_Ps 1 (pc' := 17) (lv' := [(0, .ref s), (1, .int a)]) (st' := [.int ((Int32.ofInt 0))]) rfl ?_
      refine En_top (by decide : (Int32.ofInt 0).toInt = 0) (fun z9 h10 => ?_)
      exact En_ret (v := some (.int z9)) rfl rfl (retZ rfl rfl (by omega) (by omega)) ⟨hσ0, hF0, z9, rfl, (by omega)⟩
    · refine En_Ps 2 (pc' := 17) (lv' := [(0, .ref s), (1, .int a)]) (st' := [.int ((Int32.ofInt 1))]) rfl ?_
      refine En_top (by decide : (Int32.ofInt 1).toInt = 1) (fun z11 h12 => ?_)
      exact En_ret (v := some (.int z11)) rfl rfl (retZ rfl rfl (by omega) (by omega)) ⟨hσ0, hF0, z11, rfl, (by omega)⟩
/-- DoorSchool$Plan.isKnock(I)Z -/
abbrev P_49 (σ0 : SG) (s : Nat) (a : Int32) (sg : Int32) : PO := fun v σ => WT σ ∧ Fr [] σ0 σ ∧ ∃ ret : Int32, v = some (.int ret) ∧ -ret.toInt ≤ 0 ∧ ret.toInt - 1 ≤ 0 ∧ (ret.toInt - 1 ≤ 0 ∧ -ret.toInt + 1 ≤ 0 → -a.toInt ≤ 0 ∧ a.toInt - 15 ≤ 0)
set_option maxRecDepth 10000 in
set_option maxHeartbeats 4000000 in
theorem c_49 (σ0 : SG) (hσ0 : WT σ0) (s : Nat) (hs : TG s = 18) (a : Int32) (sg : Int32) (h_sg : (σ0 s)[1]? = some (.int sg)) (hp0 : -sg.toInt ≤ 0) : En 1 20 none mr_49 (P_49 σ0 s a sg) 0 [(0, .ref s), (1, .int a)] [] σ0 := by
  obtain ⟨hl_sg, hu_sg⟩ := WT_int hσ0 (g := 18) hs (by decide +kernel) (l := (-1)) (u := 4) (by decide +kernel) h_sg
  have hF0 : Fr [] σ0 σ0 := Fr_rfl
  refine En_Ps 1 (pc' := 1) (lv' := [(0, .ref s), (1, .int a)]) (st' := [.ref s]) rfl ?_
  refine En_callV rfl rfl rfl rfl rfl rfl rfl rfl hs (by decide +kernel) rfl (c_43 σ0 hσ0 s hs) (by decide) (by decide) (fun v2 σ3 h1 => ?_)
  obtain ⟨h4, h5, z7, rfl, h6⟩ := h1
  have h8 := Fr_trans hF0 h5 (by decide +kernel)
  refine En_iEq _ rfl rfl (fun h9 => ?_) (fun h9 => ?_)
  · refine En_Ps 1 (pc' := 24) (lv' := [(0, .ref s), (1, .int a)]) (st' := [.int ((Int32.ofInt 0))]) rfl ?_
    refine En_top (by decide : (Int32.ofInt 0).toInt = 0) (fun z10 h11 => ?_)
    exact En_ret (v := some (.int z10)) rfl rfl (retZ rfl rfl (by omega) (by omega)) ⟨h4, h8, z10, rfl, (by omega)⟩
  · refine En_Ps 1 (pc' := 8) (lv' := [(0, .ref s), (1, .int a)]) (st' := [.int a]) rfl ?_
    refine En_iLt _ rfl rfl (fun h12 => ?_) (fun h12 => ?_)
    · refine En_Ps 1 (pc' := 24) (lv' := [(0, .ref s), (1, .int a)]) (st' := [.int ((Int32.ofInt 0))]) rfl ?_
      refine En_top (by decide : (Int32.ofInt 0).toInt = 0) (fun z13 h14 => ?_)
      exact En_ret (v := some (.int z13)) rfl rfl (retZ rfl rfl (by omega) (by omega)) ⟨h4, h8, z13, rfl, (by omega)⟩
    · refine En_Ps 2 (pc' := 13) (lv' := [(0, .ref s), (1, .int a)]) (st' := [.ref s, .int a]) rfl ?_
      refine En_callV rfl rfl rfl rfl rfl rfl rfl rfl hs (by decide +kernel) rfl (c_51 σ3 h4 s hs sg ((h5 _ _ (inW hs (by decide +kernel))).trans h_sg) (by omega)) (by decide) (by decide) (fun v16 σ17 h15 => ?_)
      obtain ⟨h18, h19, z21, rfl, h20⟩ := h15
      have h22 := Fr_trans h8 h19 (by decide +kernel)
      refine En_icGe _ rfl rfl rfl (fun h23 => ?_) (fun h23 => ?_)
      · refine En_Ps 1 (pc' := 24) (lv' := [(0, .ref s), (1, .int a)]) (st' := [.int ((Int32.ofInt 0))]) rfl ?_
        refine En_top (by decide : (Int32.ofInt 0).toInt = 0) (fun z24 h25 => ?_)
        exact En_ret (v := some (.int z24)) rfl rfl (retZ rfl rfl (by omega) (by omega)) ⟨h18, h22, z24, rfl, (by omega)⟩
      · refine En_Ps 2 (pc' := 24) (lv' := [(0, .ref s), (1, .int a)]) (st' := [.int ((Int32.ofInt 1))]) rfl ?_
        refine En_top (by decide : (Int32.ofInt 1).toInt = 1) (fun z26 h27 => ?_)
        exact En_ret (v := some (.int z26)) rfl rfl (retZ rfl rfl (by omega) (by omega)) ⟨h18, h22, z26, rfl, (by omega)⟩
/-- DoorSchool$Plan.isRule(II)Z -/
abbrev P_50 (σ0 : SG) (s : Nat) (a : Int32) (b : Int32) (sg : Int32) : PO := fun v σ => WT σ ∧ Fr [] σ0 σ ∧ ∃ ret : Int32, v = some (.int ret) ∧ -ret.toInt ≤ 0 ∧ ret.toInt - 1 ≤ 0 ∧ (ret.toInt - 1 ≤ 0 ∧ -ret.toInt + 1 ≤ 0 → -a.toInt ≤ 0 ∧ a.toInt - 15 ≤ 0 ∧ -b.toInt ≤ 0 ∧ b.toInt - 15 ≤ 0)
set_option maxRecDepth 10000 in
set_option maxHeartbeats 4000000 in
theorem c_50 (σ0 : SG) (hσ0 : WT σ0) (s : Nat) (hs : TG s = 18) (a : Int32) (b : Int32) (sg : Int32) (h_sg : (σ0 s)[1]? = some (.int sg)) (hp0 : -sg.toInt ≤ 0) : En 2 41 none mr_50 (P_50 σ0 s a b sg) 0 [(0, .ref s), (1, .int a), (2, .int b)] [] σ0 := by
  obtain ⟨hl_sg, hu_sg⟩ := WT_int hσ0 (g := 18) hs (by decide +kernel) (l := (-1)) (u := 4) (by decide +kernel) h_sg
  have hF0 : Fr [] σ0 σ0 := Fr_rfl
  refine En_Ps 2 (pc' := 2) (lv' := [(0, .ref s), (1, .int a), (2, .int b)]) (st' := [.int a, .ref s]) rfl ?_
  refine En_callV rfl rfl rfl rfl rfl rfl rfl rfl hs (by decide +kernel) rfl (c_49 σ0 hσ0 s hs a sg h_sg (by omega)) (by decide) (by decide) (fun v2 σ3 h1 => ?_)
  obtain ⟨h4, h5, z7, rfl, h6⟩ := h1
  have h8 := Fr_trans hF0 h5 (by decide +kernel)
  refine En_iEq _ rfl rfl (fun h9 => ?_) (fun h9 => ?_)
  · refine En_Ps 1 (pc' := 21) (lv' := [(0, .ref s), (1, .int a), (2, .int b)]) (st' := [.int ((Int32.ofInt 0))]) rfl ?_
    refine En_top (by decide : (Int32.ofInt 0).toInt = 0) (fun z10 h11 => ?_)
    exact En_ret (v := some (.int z10)) rfl rfl (retZ rfl rfl (by omega) (by omega)) ⟨h4, h8, z10, rfl, (by omega)⟩
  · refine En_Ps 4 (pc' := 12) (lv' := [(0, .ref s), (1, .int a), (2, .int b)]) (st' := [.int ((a ^^^ ((Int32.ofInt (-1))))), .int b]) rfl ?_
    refine En_nam (fun z12 h13 => ?_)
    refine En_Ps 1 (pc' := 13) (lv' := [(0, .ref s), (1, .int a), (2, .int b)]) (st' := [.int ((b &&& z12))]) rfl ?_
    refine En_nam (fun z14 h15 => ?_)
    refine En_iNe _ rfl rfl (fun h16 => ?_) (fun h16 => ?_)
    · refine En_Ps 1 (pc' := 21) (lv' := [(0, .ref s), (1, .int a), (2, .int b)]) (st' := [.int ((Int32.ofInt 0))]) rfl ?_
      refine En_top (by decide : (Int32.ofInt 0).toInt = 0) (fun z17 h18 => ?_)
      exact En_ret (v := some (.int z17)) rfl rfl (retZ rfl rfl (by omega) (by omega)) ⟨h4, h8, z17, rfl, (by omega)⟩
    · obtain ⟨h19, h20⟩ := andn_zero h15 h13 h16 rfl rfl (by omega)
      refine En_Ps 2 (pc' := 21) (lv' := [(0, .ref s), (1, .int a), (2, .int b)]) (st' := [.int ((Int32.ofInt 1))]) rfl ?_
      refine En_top (by decide : (Int32.ofInt 1).toInt = 1) (fun z21 h22 => ?_)
      exact En_ret (v := some (.int z21)) rfl rfl (retZ rfl rfl (by omega) (by omega)) ⟨h4, h8, z21, rfl, (by omega)⟩
/-- DoorSchool$Plan.modelOf(I)LDoorSchool$Door; -/
abbrev P_52 (σ0 : SG) (s : Nat) (a : Int32) : PO := fun v σ => WT σ ∧ Fr [] σ0 σ ∧ ∃ ret : Nat, TG ret = 28 ∧ v = some (.ref ret) ∧ True
set_option maxRecDepth 10000 in
set_option maxHeartbeats 4000000 in
theorem c_52 (σ0 : SG) (hσ0 : WT σ0) (s : Nat) (hs : TG s = 18) (a : Int32) (hl_a : 0 ≤ a.toInt) (hu_a : a.toInt ≤ 3) : En 0 0 none mr_52 (P_52 σ0 s a) 0 [(0, .ref s), (1, .int a)] [] σ0 := by
  have hF0 : Fr [] σ0 σ0 := Fr_rfl
  refine En_Ps 1 (pc' := 1) (lv' := [(0, .ref s), (1, .int a)]) (st' := [.ref s]) rfl ?_
  refine En_getR (j := 4) (g' := 19) (u := 0) rfl rfl rfl hs (by decide +kernel) hσ0 (by decide +kernel) (fun a2 h1 ha2 => ?_)
  refine En_Ps 1 (pc' := 5) (lv' := [(0, .ref s), (1, .int a)]) (st' := [.int a, .ref a2]) rfl ?_
  refine En_aald (g' := 28) (u := 0) rfl rfl ha2 (by decide +kernel) hσ0 (by omega) (lnI (by decide +kernel : LN _ = 4) (by omega)) (FTsgl (by decide +kernel)) (fun a4 h3 ha4 => ?_)
  refine En_getI (j := 3) (l := (-1)) (u := 3) rfl rfl rfl ha4 (by decide +kernel) hσ0 (by decide +kernel) (fun z6 h5 h7 h8 => ?_)
  refine En_Ps 3 (pc' := 12) (lv' := [(2, .int z6), (0, .ref s), (1, .int a)]) (st' := [.int ((Int32.ofInt (-1))), .int z6]) rfl ?_
  refine En_icNe _ rfl (by decide : (Int32.ofInt (-1)).toInt = -1) rfl (fun h9 => ?_) (fun h9 => ?_)
  · refine En_Ps 1 (pc' := 25) (lv' := [(2, .int z6), (0, .ref s), (1, .int a)]) (st' := [.ref s]) rfl ?_
    refine En_getK (j := 4) h1 rfl rfl rfl hs (by decide +kernel) ?_
    refine En_Ps 1 (pc' := 29) (lv' := [(2, .int z6), (0, .ref s), (1, .int a)]) (st' := [.int z6, .ref a2]) rfl ?_
    refine En_aald (g' := 28) (u := 0) rfl rfl ha2 (by decide +kernel) hσ0 (by omega) (lnI (by decide +kernel : LN _ = 4) (by omega)) (FTsgl (by decide +kernel)) (fun a11 h10 ha11 => ?_)
    exact En_ret (v := some (.ref a11)) rfl rfl rfl ⟨hσ0, hF0, a11, ha11, rfl, trivial⟩
  · refine En_Ps 1 (pc' := 16) (lv' := [(2, .int z6), (0, .ref s), (1, .int a)]) (st' := [.ref s]) rfl ?_
    refine En_getK (j := 4) h1 rfl rfl rfl hs (by decide +kernel) ?_
    refine En_Ps 1 (pc' := 20) (lv' := [(2, .int z6), (0, .ref s), (1, .int a)]) (st' := [.int a, .ref a2]) rfl ?_
    refine En_aald (g' := 28) (u := 0) rfl rfl ha2 (by decide +kernel) hσ0 (by omega) (lnI (by decide +kernel : LN _ = 4) (by omega)) (FTsgl (by decide +kernel)) (fun a13 h12 ha13 => ?_)
    refine En_Ps 1 (pc' := 30) (lv' := [(2, .int z6), (0, .ref s), (1, .int a)]) (st' := [.ref a13]) rfl ?_
    exact En_ret (v := some (.ref a13)) rfl rfl rfl ⟨hσ0, hF0, a13, ha13, rfl, trivial⟩
/-- DoorSchool$Plan.takeFrom(LDoorSchool$Plan;)V -/
abbrev P_53a (σ0 : SG) (s : Nat) (a : Nat) (sg : Int32) : PO := fun v σ => WT σ ∧ Fr [(20, 2), (21, 0), (22, 0), (23, 0), (24, 0), (25, 0), (26, 0), (27, 0), (28, 1), (28, 2), (28, 3), (31, 0), (31, 1), (31, 2), (31, 3), (31, 6), (31, 7), (31, 8), (31, 11), (31, 14)] σ0 σ ∧ v = none ∧ True
set_option maxRecDepth 10000 in
set_option maxHeartbeats 4000000 in
theorem c_53a (σ0 : SG) (hσ0 : WT σ0) (s : Nat) (hs : TG s = 31) (a : Nat) (ha : TG a = 18) (sg : Int32) (h_sg : (σ0 a)[1]? = some (.int sg)) (hp0 : -sg.toInt ≤ 0) : En 3 102 none mr_53 (P_53a σ0 s a sg) 0 [(0, .ref s), (1, .ref a)] [] σ0 := by
  obtain ⟨hl_sg, hu_sg⟩ := WT_int hσ0 (g := 18) ha (by decide +kernel) (l := (-1)) (u := 4) (by decide +kernel) h_sg
  have hF0 : Fr [(20, 2), (21, 0), (22, 0), (23, 0), (24, 0), (25, 0), (26, 0), (27, 0), (28, 1), (28, 2), (28, 3), (31, 0), (31, 1), (31, 2), (31, 3), (31, 6), (31, 7), (31, 8), (31, 11), (31, 14)] σ0 σ0 := Fr_rfl
  refine En_Ps 2 (pc' := 2) (lv' := [(0, .ref s), (1, .ref a)]) (st' := [.ref a, .ref s]) rfl ?_
  refine En_getI (j := 0) (l := 0) (u := 1601) rfl rfl rfl ha (by decide +kernel) hσ0 (by decide +kernel) (fun z2 h1 h3 h4 => ?_)
  refine En_put (j := 0) rfl rfl rfl hs (by decide +kernel) rfl (vI (l := 0) (u := 1601) (by decide +kernel) rfl (by omega) (by omega)) hσ0 hF0 (by decide +kernel) (fun σ5 h6 h7 h8 h9 => ?_)
  refine En_Ps 2 (pc' := 10) (lv' := [(0, .ref s), (1, .ref a)]) (st' := [.ref a, .ref s]) rfl ?_
  refine En_getK (j := 1) ((h9 _ _ (Or.inr (by decide))).trans h_sg) rfl rfl rfl ha (by decide +kernel) ?_
  refine En_put (j := 1) rfl rfl rfl hs (by decide +kernel) rfl (vI (l := 0) (u := 4) (by decide +kernel) rfl (by omega) (by omega)) h6 h7 (by decide +kernel) (fun σ10 h11 h12 h13 h14 => ?_)
  refine En_Ps 2 (pc' := 18) (lv' := [(0, .ref s), (1, .ref a)]) (st' := [.ref a, .ref s]) rfl ?_
  refine En_getI (j := 2) (l := (-1)) (u := 3) rfl rfl rfl ha (by decide +kernel) h11 (by decide +kernel) (fun z16 h15 h17 h18 => ?_)
  refine En_put (j := 2) rfl rfl rfl hs (by decide +kernel) rfl (vI (l := (-1)) (u := 3) (by decide +kernel) rfl (by omega) (by omega)) h11 h12 (by decide +kernel) (fun σ19 h20 h21 h22 h23 => ?_)
  refine En_Ps 2 (pc' := 26) (lv' := [(0, .ref s), (1, .ref a)]) (st' := [.ref a, .ref s]) rfl ?_
  refine En_getI (j := 3) (l := 0) (u := 4) rfl rfl rfl ha (by decide +kernel) h20 (by decide +kernel) (fun z25 h24 h26 h27 => ?_)
  refine En_put (j := 3) rfl rfl rfl hs (by decide +kernel) rfl (vI (l := 0) (u := 4) (by decide +kernel) rfl (by omega) (by omega)) h20 h21 (by decide +kernel) (fun σ28 h29 h30 h31 h32 => ?_)
  refine En_Ps 2 (pc' := 34) (lv' := [(2, .int ((Int32.ofInt 0))), (0, .ref s), (1, .ref a)]) (st' := []) rfl ?_
  have key34 : ∀ (n34 : Nat) (σ34 : SG) (y33 : Int32), WT σ34 → Fr [(20, 2), (21, 0), (22, 0), (23, 0), (24, 0), (25, 0), (26, 0), (27, 0), (28, 1), (28, 2), (28, 3), (31, 0), (31, 1), (31, 2), (31, 3), (31, 6), (31, 7), (31, 8), (31, 11), (31, 14)] σ0 σ34 → (σ34 a)[1]? = some (.int sg) → (σ34 a)[0]? = some (.int z2) → (σ34 s)[0]? = some (.int z2) → (σ34 s)[1]? = some (.int sg) → (σ34 a)[2]? = some (.int z16) → (σ34 s)[2]? = some (.int z16) → (σ34 a)[3]? = some (.int z25) → (σ34 s)[3]? = some (.int z25) → 0 ≤ y33.toInt → y33.toInt ≤ 4 → -y33.toInt + 4 < (n34 : Int) → En 3 102 none mr_53 (P_53a σ0 s a sg) 34 [(0, .ref s), (1, .ref a), (2, .int y33)] [] σ34 := by
    intro n34
    induction n34 with
    | zero =>
      intro σ34 y33 h35 h36 h37 h38 h39 h40 h41 h42 h43 h44 h45 h46 h47
      exfalso; omega
    | succ n34 ih34 =>
      intro σ34 y33 h35 h36 h37 h38 h39 h40 h41 h42 h43 h44 h45 h46 h47
      refine En_Ps 2 (pc' := 36) (lv' := [(0, .ref s), (1, .ref a), (2, .int y33)]) (st' := [.int ((Int32.ofInt 4)), .int y33]) rfl ?_
      refine En_icGe _ rfl (by decide : (Int32.ofInt 4).toInt = 4) rfl (fun h48 => ?_) (fun h48 => ?_)
      · refine En_Ps 1 (pc' := 61) (lv' := [(0, .ref s), (1, .ref a), (2, .int y33)]) (st' := [.ref s]) rfl ?_
        refine En_getR (j := 5) (g' := 20) (u := 0) rfl rfl rfl hs (by decide +kernel) h35 (by decide +kernel) (fun a50 h49 ha50 => ?_)
        refine En_Ps 1 (pc' := 65) (lv' := [(0, .ref s), (1, .ref a), (2, .int y33)]) (st' := [.ref a, .ref a50]) rfl ?_
        refine En_getR (j := 5) (g' := 20) (u := 0) rfl rfl rfl ha (by decide +kernel) h35 (by decide +kernel) (fun a52 h51 ha52 => ?_)
        refine En_callV rfl rfl rfl rfl rfl rfl rfl rfl ha50 (by decide +kernel) rfl (c_40 σ34 h35 a50 ha50 a52 ha52) (by decide) (by decide) (fun v54 σ55 h53 => ?_)
        obtain ⟨h56, h57, rfl, h58⟩ := h53
        have h59 := Fr_trans h36 h57 (by decide +kernel)
        refine En_Ps 2 (pc' := 73) (lv' := [(0, .ref s), (1, .ref a), (2, .int y33)]) (st' := [.ref a, .ref s]) rfl ?_
        refine En_getI (j := 6) (l := 0) (u := 15) rfl rfl rfl ha (by decide +kernel) h56 (by decide +kernel) (fun z61 h60 h62 h63 => ?_)
        refine En_put (j := 6) rfl rfl rfl hs (by decide +kernel) rfl (vI (l := 0) (u := 15) (by decide +kernel) rfl (by omega) (by omega)) h56 h59 (by decide +kernel) (fun σ64 h65 h66 h67 h68 => ?_)
        refine En_Ps 2 (pc' := 81) (lv' := [(0, .ref s), (1, .ref a), (2, .int y33)]) (st' := [.ref a, .ref s]) rfl ?_
        refine En_getI (j := 7) (l := 0) (u := 15) rfl rfl rfl ha (by decide +kernel) h65 (by decide +kernel) (fun z70 h69 h71 h72 => ?_)
        refine En_put (j := 7) rfl rfl rfl hs (by decide +kernel) rfl (vI (l := 0) (u := 15) (by decide +kernel) rfl (by omega) (by omega)) h65 h66 (by decide +kernel) (fun σ73 h74 h75 h76 h77 => ?_)
        refine En_Ps 2 (pc' := 89) (lv' := [(0, .ref s), (1, .ref a), (2, .int y33)]) (st' := [.ref a, .ref s]) rfl ?_
        refine En_getI (j := 8) (l := 0) (u := 4) rfl rfl rfl ha (by decide +kernel) h74 (by decide +kernel) (fun z79 h78 h80 h81 => ?_)
        refine En_put (j := 8) rfl rfl rfl hs (by decide +kernel) rfl (vI (l := 0) (u := 4) (by decide +kernel) rfl (by omega) (by omega)) h74 h75 (by decide +kernel) (fun σ82 h83 h84 h85 h86 => ?_)
        refine En_Ps 1 (pc' := 96) (lv' := [(0, .ref s), (1, .ref a), (2, .int y33)]) (st' := [.ref a]) rfl ?_
        refine En_getR (j := 9) (g' := 23) (u := 0) rfl rfl rfl ha (by decide +kernel) h83 (by decide +kernel) (fun a88 h87 ha88 => ?_)
        refine En_Ps 2 (pc' := 101) (lv' := [(0, .ref s), (1, .ref a), (2, .int y33)]) (st' := [.ref s, .int ((Int32.ofInt 0)), .ref a88]) rfl ?_
        refine En_getR (j := 9) (g' := 23) (u := 0) rfl rfl rfl hs (by decide +kernel) h83 (by decide +kernel) (fun a90 h89 ha90 => ?_)
        refine En_Ps 2 (pc' := 106) (lv' := [(0, .ref s), (1, .ref a), (2, .int y33)]) (st' := [.int ((Int32.ofInt 4)), .int ((Int32.ofInt 0)), .ref a90, .int ((Int32.ofInt 0)), .ref a88]) rfl ?_
        refine En_copy (n0 := 4) (n1 := 4) (by decide : (Int32.ofInt 4).toInt = 4) (by decide : (Int32.ofInt 0).toInt = 0) (by decide : (Int32.ofInt 0).toInt = 0) rfl rfl rfl rfl ha88 ha90 (by decide +kernel) (by decide +kernel) (by decide +kernel) (by decide +kernel) (by decide +kernel) (by omega) (by omega) (by omega) (by omega) (by omega) h83 h84 (by decide +kernel) (fun σ91 h92 h93 h94 => ?_)
        refine En_Ps 1 (pc' := 110) (lv' := [(0, .ref s), (1, .ref a), (2, .int y33)]) (st' := [.ref a]) rfl ?_
        refine En_getR (j := 10) (g' := 24) (u := 0) rfl rfl rfl ha (by decide +kernel) h92 (by decide +kernel) (fun a96 h95 ha96 => ?_)
        refine En_Ps 2 (pc' := 115) (lv' := [(0, .ref s), (1, .ref a), (2, .int y33)]) (st' := [.ref s, .int ((Int32.ofInt 0)), .ref a96]) rfl ?_
        refine En_getR (j := 10) (g' := 24) (u := 0) rfl rfl rfl hs (by decide +kernel) h92 (by decide +kernel) (fun a98 h97 ha98 => ?_)
        refine En_Ps 2 (pc' := 120) (lv' := [(0, .ref s), (1, .ref a), (2, .int y33)]) (st' := [.int ((Int32.ofInt 4)), .int ((Int32.ofInt 0)), .ref a98, .int ((Int32.ofInt 0)), .ref a96]) rfl ?_
        refine En_copy (n0 := 4) (n1 := 4) (by decide : (Int32.ofInt 4).toInt = 4) (by decide : (Int32.ofInt 0).toInt = 0) (by decide : (Int32.ofInt 0).toInt = 0) rfl rfl rfl rfl ha96 ha98 (by decide +kernel) (by decide +kernel) (by decide +kernel) (by decide +kernel) (by decide +kernel) (by omega) (by omega) (by omega) (by omega) (by omega) h92 h93 (by decide +kernel) (fun σ99 h100 h101 h102 => ?_)
        refine En_Ps 2 (pc' := 125) (lv' := [(0, .ref s), (1, .ref a), (2, .int y33)]) (st' := [.ref a, .ref s]) rfl ?_
        refine En_getI (j := 11) (l := 0) (u := 6) rfl rfl rfl ha (by decide +kernel) h100 (by decide +kernel) (fun z104 h103 h105 h106 => ?_)
        refine En_put (j := 11) rfl rfl rfl hs (by decide +kernel) rfl (vI (l := 0) (u := 6) (by decide +kernel) rfl (by omega) (by omega)) h100 h101 (by decide +kernel) (fun σ107 h108 h109 h110 h111 => ?_)
        refine En_Ps 1 (pc' := 132) (lv' := [(0, .ref s), (1, .ref a), (2, .int y33)]) (st' := [.ref a]) rfl ?_
        refine En_getR (j := 12) (g' := 25) (u := 0) rfl rfl rfl ha (by decide +kernel) h108 (by decide +kernel) (fun a113 h112 ha113 => ?_)
        refine En_Ps 2 (pc' := 137) (lv' := [(0, .ref s), (1, .ref a), (2, .int y33)]) (st' := [.ref s, .int ((Int32.ofInt 0)), .ref a113]) rfl ?_
        refine En_getR (j := 12) (g' := 25) (u := 0) rfl rfl rfl hs (by decide +kernel) h108 (by decide +kernel) (fun a115 h114 ha115 => ?_)
        refine En_Ps 2 (pc' := 143) (lv' := [(0, .ref s), (1, .ref a), (2, .int y33)]) (st' := [.int (((Int8.ofInt 6).toInt32)), .int ((Int32.ofInt 0)), .ref a115, .int ((Int32.ofInt 0)), .ref a113]) rfl ?_
        refine En_copy (n0 := 6) (n1 := 6) (by decide : ((Int8.ofInt 6).toInt32).toInt = 6) (by decide : (Int32.ofInt 0).toInt = 0) (by decide : (Int32.ofInt 0).toInt = 0) rfl rfl rfl rfl ha113 ha115 (by decide +kernel) (by decide +kernel) (by decide +kernel) (by decide +kernel) (by decide +kernel) (by omega) (by omega) (by omega) (by omega) (by omega) h108 h109 (by decide +kernel) (fun σ116 h117 h118 h119 => ?_)
        refine En_Ps 1 (pc' := 147) (lv' := [(0, .ref s), (1, .ref a), (2, .int y33)]) (st' := [.ref a]) rfl ?_
        refine En_getR (j := 13) (g' := 26) (u := 0) rfl rfl rfl ha (by decide +kernel) h117 (by decide +kernel) (fun a121 h120 ha121 => ?_)
        refine En_Ps 2 (pc' := 152) (lv' := [(0, .ref s), (1, .ref a), (2, .int y33)]) (st' := [.ref s, .int ((Int32.ofInt 0)), .ref a121]) rfl ?_
        refine En_getR (j := 13) (g' := 26) (u := 0) rfl rfl rfl hs (by decide +kernel) h117 (by decide +kernel) (fun a123 h122 ha123 => ?_)
        refine En_Ps 2 (pc' := 158) (lv' := [(0, .ref s), (1, .ref a), (2, .int y33)]) (st' := [.int (((Int8.ofInt 6).toInt32)), .int ((Int32.ofInt 0)), .ref a123, .int ((Int32.ofInt 0)), .ref a121]) rfl ?_
        refine En_copy (n0 := 6) (n1 := 6) (by decide : ((Int8.ofInt 6).toInt32).toInt = 6) (by decide : (Int32.ofInt 0).toInt = 0) (by decide : (Int32.ofInt 0).toInt = 0) rfl rfl rfl rfl ha121 ha123 (by decide +kernel) (by decide +kernel) (by decide +kernel) (by decide +kernel) (by decide +kernel) (by omega) (by omega) (by omega) (by omega) (by omega) h117 h118 (by decide +kernel) (fun σ124 h125 h126 h127 => ?_)
        refine En_Ps 2 (pc' := 163) (lv' := [(0, .ref s), (1, .ref a), (2, .int y33)]) (st' := [.ref a, .ref s]) rfl ?_
        refine En_getI (j := 14) (l := 0) (u := 60) rfl rfl rfl ha (by decide +kernel) h125 (by decide +kernel) (fun z129 h128 h130 h131 => ?_)
        refine En_put (j := 14) rfl rfl rfl hs (by decide +kernel) rfl (vI (l := 0) (u := 60) (by decide +kernel) rfl (by omega) (by omega)) h125 h126 (by decide +kernel) (fun σ132 h133 h134 h135 h136 => ?_)
        refine En_Ps 1 (pc' := 170) (lv' := [(0, .ref s), (1, .ref a), (2, .int y33)]) (st' := [.ref a]) rfl ?_
        refine En_getR (j := 15) (g' := 27) (u := 0) rfl rfl rfl ha (by decide +kernel) h133 (by decide +kernel) (fun a138 h137 ha138 => ?_)
        refine En_Ps 2 (pc' := 175) (lv' := [(0, .ref s), (1, .ref a), (2, .int y33)]) (st' := [.ref s, .int ((Int32.ofInt 0)), .ref a138]) rfl ?_
        refine En_getR (j := 15) (g' := 27) (u := 0) rfl rfl rfl hs (by decide +kernel) h133 (by decide +kernel) (fun a140 h139 ha140 => ?_)
        refine En_Ps 2 (pc' := 181) (lv' := [(0, .ref s), (1, .ref a), (2, .int y33)]) (st' := [.int (((Int8.ofInt 60).toInt32)), .int ((Int32.ofInt 0)), .ref a140, .int ((Int32.ofInt 0)), .ref a138]) rfl ?_
        refine En_copy (n0 := 60) (n1 := 60) (by decide : ((Int8.ofInt 60).toInt32).toInt = 60) (by decide : (Int32.ofInt 0).toInt = 0) (by decide : (Int32.ofInt 0).toInt = 0) rfl rfl rfl rfl ha138 ha140 (by decide +kernel) (by decide +kernel) (by decide +kernel) (by decide +kernel) (by decide +kernel) (by omega) (by omega) (by omega) (by omega) (by omega) h133 h134 (by decide +kernel) (fun σ141 h142 h143 h144 => ?_)
        exact En_ret (v := none) rfl rfl rfl ⟨h142, h143, rfl, trivial⟩
      · refine En_Ps 1 (pc' := 40) (lv' := [(0, .ref s), (1, .ref a), (2, .int y33)]) (st' := [.ref s]) rfl ?_
        refine En_getR (j := 4) (g' := 19) (u := 0) rfl rfl rfl hs (by decide +kernel) h35 (by decide +kernel) (fun a146 h145 ha146 => ?_)
        refine En_Ps 1 (pc' := 44) (lv' := [(0, .ref s), (1, .ref a), (2, .int y33)]) (st' := [.int y33, .ref a146]) rfl ?_
        refine En_aald (g' := 28) (u := 0) rfl rfl ha146 (by decide +kernel) h35 (by omega) (lnI (by decide +kernel : LN _ = 4) (by omega)) (FTsgl (by decide +kernel)) (fun a148 h147 ha148 => ?_)
        refine En_Ps 1 (pc' := 46) (lv' := [(0, .ref s), (1, .ref a), (2, .int y33)]) (st' := [.ref a, .ref a148]) rfl ?_
        refine En_getR (j := 4) (g' := 19) (u := 0) rfl rfl rfl ha (by decide +kernel) h35 (by decide +kernel) (fun a150 h149 ha150 => ?_)
        refine En_Ps 1 (pc' := 50) (lv' := [(0, .ref s), (1, .ref a), (2, .int y33)]) (st' := [.int y33, .ref a150, .ref a148]) rfl ?_
        refine En_aald (g' := 28) (u := 0) rfl rfl ha150 (by decide +kernel) h35 (by omega) (lnI (by decide +kernel : LN _ = 4) (by omega)) (FTsgl (by decide +kernel)) (fun a152 h151 ha152 => ?_)
        refine En_callV rfl rfl rfl rfl rfl rfl rfl rfl ha148 (by decide +kernel) rfl (c_14 σ34 h35 a148 ha148 a152 ha152) (by decide) (by decide) (fun v154 σ155 h153 => ?_)
        obtain ⟨h156, h157, rfl, h158⟩ := h153
        have h159 := Fr_trans h36 h157 (by decide +kernel)
        refine En_Ps 1 (pc' := 57) (lv' := [(2, .int ((y33 + Int32.ofInt 1))), (0, .ref s), (1, .ref a)]) (st' := []) rfl ?_
        refine En_lv1 (addI rfl (by decide : (Int32.ofInt 1).toInt = 1) (by omega) (by omega)) (fun z160 h161 => ?_)
        refine En_Ps 1 (pc' := 34) (lv' := [(2, .int z160), (0, .ref s), (1, .ref a)]) (st' := []) rfl ?_
        refine En_lv (lv := [(0, .ref s), (1, .ref a), (2, .int z160)]) ⟨rfl, rfl, rfl, trivial⟩ ?_
        exact ih34 σ155 z160 h156 h159 ((h157 _ _ (inW ha (by decide +kernel))).trans h37) ((h157 _ _ (inW ha (by decide +kernel))).trans h38) ((h157 _ _ (inW hs (by decide +kernel))).trans h39) ((h157 _ _ (inW hs (by decide +kernel))).trans h40) ((h157 _ _ (inW ha (by decide +kernel))).trans h41) ((h157 _ _ (inW hs (by decide +kernel))).trans h42) ((h157 _ _ (inW ha (by decide +kernel))).trans h43) ((h157 _ _ (inW hs (by decide +kernel))).trans h44) (by omega) (by omega) (by omega)
  have := (by decide : (Int32.ofInt 0).toInt = 0)
  refine En_lv (lv := [(0, .ref s), (1, .ref a), (2, .int ((Int32.ofInt 0)))]) ⟨rfl, rfl, rfl, trivial⟩ ?_
  exact key34 (Int.toNat (4) + 1) σ28 ((Int32.ofInt 0)) h29 h30 ((h32 _ _ (Or.inr (by decide))).trans ((h23 _ _ (Or.inr (by decide))).trans ((h14 _ _ (Or.inl (neTG ha hs (by decide)))).trans ((h9 _ _ (Or.inr (by decide))).trans h_sg)))) ((h32 _ _ (Or.inr (by decide))).trans ((h23 _ _ (Or.inr (by decide))).trans ((h14 _ _ (Or.inr (by decide))).trans ((h9 _ _ (Or.inl (neTG ha hs (by decide)))).trans h1)))) ((h32 _ _ (Or.inr (by decide))).trans ((h23 _ _ (Or.inr (by decide))).trans ((h14 _ _ (Or.inr (by decide))).trans h8))) ((h32 _ _ (Or.inr (by decide))).trans ((h23 _ _ (Or.inr (by decide))).trans h13)) ((h32 _ _ (Or.inr (by decide))).trans ((h23 _ _ (Or.inl (neTG ha hs (by decide)))).trans h15)) ((h32 _ _ (Or.inr (by decide))).trans h22) ((h32 _ _ (Or.inl (neTG ha hs (by decide)))).trans h24) h31 (by omega) (by omega) (by omega)
/-- DoorSchool$Plan.takeFrom(LDoorSchool$Plan;)V -/
abbrev P_53b (σ0 : SG) (s : Nat) (a : Nat) : PO := fun v σ => WT σ ∧ Fr [(18, 0), (18, 1), (18, 2), (18, 3), (18, 6), (18, 7), (18, 8), (18, 11), (18, 14), (20, 2), (21, 0), (22, 0), (23, 0), (24, 0), (25, 0), (26, 0), (27, 0), (28, 1), (28, 2), (28, 3)] σ0 σ ∧ ∃ sh : Int32, (σ s)[1]? = some (.int sh) ∧ v = none ∧ -sh.toInt ≤ 0 ∧ sh.toInt - 4 ≤ 0
set_option maxRecDepth 10000 in
set_option maxHeartbeats 4000000 in
theorem c_53b (σ0 : SG) (hσ0 : WT σ0) (s : Nat) (hs : TG s = 18) (a : Nat) (ha : TG a = 31) : En 3 102 none mr_53 (P_53b σ0 s a) 0 [(0, .ref s), (1, .ref a)] [] σ0 := by
  have hF0 : Fr [(18, 0), (18, 1), (18, 2), (18, 3), (18, 6), (18, 7), (18, 8), (18, 11), (18, 14), (20, 2), (21, 0), (22, 0), (23, 0), (24, 0), (25, 0), (26, 0), (27, 0), (28, 1), (28, 2), (28, 3)] σ0 σ0 := Fr_rfl
  refine En_Ps 2 (pc' := 2) (lv' := [(0, .ref s), (1, .ref a)]) (st' := [.ref a, .ref s]) rfl ?_
  refine En_getI (j := 0) (l := 0) (u := 1601) rfl rfl rfl ha (by decide +kernel) hσ0 (by decide +kernel) (fun z2 h1 h3 h4 => ?_)
  refine En_put (j := 0) rfl rfl rfl hs (by decide +kernel) rfl (vI (l := 0) (u := 1601) (by decide +kernel) rfl (by omega) (by omega)) hσ0 hF0 (by decide +kernel) (fun σ5 h6 h7 h8 h9 => ?_)
  refine En_Ps 2 (pc' := 10) (lv' := [(0, .ref s), (1, .ref a)]) (st' := [.ref a, .ref s]) rfl ?_
  refine En_getI (j := 1) (l := 0) (u := 4) rfl rfl rfl ha (by decide +kernel) h6 (by decide +kernel) (fun z11 h10 h12 h13 => ?_)
  refine En_put (j := 1) rfl rfl rfl hs (by decide +kernel) rfl (vI (l := (-1)) (u := 4) (by decide +kernel) rfl (by omega) (by omega)) h6 h7 (by decide +kernel) (fun σ14 h15 h16 h17 h18 => ?_)
  refine En_Ps 2 (pc' := 18) (lv' := [(0, .ref s), (1, .ref a)]) (st' := [.ref a, .ref s]) rfl ?_
  refine En_getI (j := 2) (l := (-1)) (u := 3) rfl rfl rfl ha (by decide +kernel) h15 (by decide +kernel) (fun z20 h19 h21 h22 => ?_)
  refine En_put (j := 2) rfl rfl rfl hs (by decide +kernel) rfl (vI (l := (-1)) (u := 3) (by decide +kernel) rfl (by omega) (by omega)) h15 h16 (by decide +kernel) (fun σ23 h24 h25 h26 h27 => ?_)
  refine En_Ps 2 (pc' := 26) (lv' := [(0, .ref s), (1, .ref a)]) (st' := [.ref a, .ref s]) rfl ?_
  refine En_getI (j := 3) (l := 0) (u := 4) rfl rfl rfl ha (by decide +kernel) h24 (by decide +kernel) (fun z29 h28 h30 h31 => ?_)
  refine En_put (j := 3) rfl rfl rfl hs (by decide +kernel) rfl (vI (l := 0) (u := 4) (by decide +kernel) rfl (by omega) (by omega)) h24 h25 (by decide +kernel) (fun σ32 h33 h34 h35 h36 => ?_)
  refine En_Ps 2 (pc' := 34) (lv' := [(2, .int ((Int32.ofInt 0))), (0, .ref s), (1, .ref a)]) (st' := []) rfl ?_
  have key34 : ∀ (n34 : Nat) (σ38 : SG) (y37 : Int32), WT σ38 → Fr [(18, 0), (18, 1), (18, 2), (18, 3), (18, 6), (18, 7), (18, 8), (18, 11), (18, 14), (20, 2), (21, 0), (22, 0), (23, 0), (24, 0), (25, 0), (26, 0), (27, 0), (28, 1), (28, 2), (28, 3)] σ0 σ38 → (σ38 a)[0]? = some (.int z2) → (σ38 s)[0]? = some (.int z2) → (σ38 a)[1]? = some (.int z11) → (σ38 s)[1]? = some (.int z11) → (σ38 a)[2]? = some (.int z20) → (σ38 s)[2]? = some (.int z20) → (σ38 a)[3]? = some (.int z29) → (σ38 s)[3]? = some (.int z29) → 0 ≤ y37.toInt → y37.toInt ≤ 4 → -y37.toInt + 4 < (n34 : Int) → En 3 102 none mr_53 (P_53b σ0 s a) 34 [(0, .ref s), (1, .ref a), (2, .int y37)] [] σ38 := by
    intro n34
    induction n34 with
    | zero =>
      intro σ38 y37 h39 h40 h41 h42 h43 h44 h45 h46 h47 h48 h49 h50 h51
      exfalso; omega
    | succ n34 ih34 =>
      intro σ38 y37 h39 h40 h41 h42 h43 h44 h45 h46 h47 h48 h49 h50 h51
      refine En_Ps 2 (pc' := 36) (lv' := [(0, .ref s), (1, .ref a), (2, .int y37)]) (st' := [.int ((Int32.ofInt 4)), .int y37]) rfl ?_
      refine En_icGe _ rfl (by decide : (Int32.ofInt 4).toInt = 4) rfl (fun h52 => ?_) (fun h52 => ?_)
      · refine En_Ps 1 (pc' := 61) (lv' := [(0, .ref s), (1, .ref a), (2, .int y37)]) (st' := [.ref s]) rfl ?_
        refine En_getR (j := 5) (g' := 20) (u := 0) rfl rfl rfl hs (by decide +kernel) h39 (by decide +kernel) (fun a54 h53 ha54 => ?_)
        refine En_Ps 1 (pc' := 65) (lv' := [(0, .ref s), (1, .ref a), (2, .int y37)]) (st' := [.ref a, .ref a54]) rfl ?_
        refine En_getR (j := 5) (g' := 20) (u := 0) rfl rfl rfl ha (by decide +kernel) h39 (by decide +kernel) (fun a56 h55 ha56 => ?_)
        refine En_callV rfl rfl rfl rfl rfl rfl rfl rfl ha54 (by decide +kernel) rfl (c_40 σ38 h39 a54 ha54 a56 ha56) (by decide) (by decide) (fun v58 σ59 h57 => ?_)
        obtain ⟨h60, h61, rfl, h62⟩ := h57
        have h63 := Fr_trans h40 h61 (by decide +kernel)
        refine En_Ps 2 (pc' := 73) (lv' := [(0, .ref s), (1, .ref a), (2, .int y37)]) (st' := [.ref a, .ref s]) rfl ?_
        refine En_getI (j := 6) (l := 0) (u := 15) rfl rfl rfl ha (by decide +kernel) h60 (by decide +kernel) (fun z65 h64 h66 h67 => ?_)
        refine En_put (j := 6) rfl rfl rfl hs (by decide +kernel) rfl (vI (l := 0) (u := 15) (by decide +kernel) rfl (by omega) (by omega)) h60 h63 (by decide +kernel) (fun σ68 h69 h70 h71 h72 => ?_)
        refine En_Ps 2 (pc' := 81) (lv' := [(0, .ref s), (1, .ref a), (2, .int y37)]) (st' := [.ref a, .ref s]) rfl ?_
        refine En_getI (j := 7) (l := 0) (u := 15) rfl rfl rfl ha (by decide +kernel) h69 (by decide +kernel) (fun z74 h73 h75 h76 => ?_)
        refine En_put (j := 7) rfl rfl rfl hs (by decide +kernel) rfl (vI (l := 0) (u := 15) (by decide +kernel) rfl (by omega) (by omega)) h69 h70 (by decide +kernel) (fun σ77 h78 h79 h80 h81 => ?_)
        refine En_Ps 2 (pc' := 89) (lv' := [(0, .ref s), (1, .ref a), (2, .int y37)]) (st' := [.ref a, .ref s]) rfl ?_
        refine En_getI (j := 8) (l := 0) (u := 4) rfl rfl rfl ha (by decide +kernel) h78 (by decide +kernel) (fun z83 h82 h84 h85 => ?_)
        refine En_put (j := 8) rfl rfl rfl hs (by decide +kernel) rfl (vI (l := 0) (u := 4) (by decide +kernel) rfl (by omega) (by omega)) h78 h79 (by decide +kernel) (fun σ86 h87 h88 h89 h90 => ?_)
        refine En_Ps 1 (pc' := 96) (lv' := [(0, .ref s), (1, .ref a), (2, .int y37)]) (st' := [.ref a]) rfl ?_
        refine En_getR (j := 9) (g' := 23) (u := 0) rfl rfl rfl ha (by decide +kernel) h87 (by decide +kernel) (fun a92 h91 ha92 => ?_)
        refine En_Ps 2 (pc' := 101) (lv' := [(0, .ref s), (1, .ref a), (2, .int y37)]) (st' := [.ref s, .int ((Int32.ofInt 0)), .ref a92]) rfl ?_
        refine En_getR (j := 9) (g' := 23) (u := 0) rfl rfl rfl hs (by decide +kernel) h87 (by decide +kernel) (fun a94 h93 ha94 => ?_)
        refine En_Ps 2 (pc' := 106) (lv' := [(0, .ref s), (1, .ref a), (2, .int y37)]) (st' := [.int ((Int32.ofInt 4)), .int ((Int32.ofInt 0)), .ref a94, .int ((Int32.ofInt 0)), .ref a92]) rfl ?_
        refine En_copy (n0 := 4) (n1 := 4) (by decide : (Int32.ofInt 4).toInt = 4) (by decide : (Int32.ofInt 0).toInt = 0) (by decide : (Int32.ofInt 0).toInt = 0) rfl rfl rfl rfl ha92 ha94 (by decide +kernel) (by decide +kernel) (by decide +kernel) (by decide +kernel) (by decide +kernel) (by omega) (by omega) (by omega) (by omega) (by omega) h87 h88 (by decide +kernel) (fun σ95 h96 h97 h98 => ?_)
        refine En_Ps 1 (pc' := 110) (lv' := [(0, .ref s), (1, .ref a), (2, .int y37)]) (st' := [.ref a]) rfl ?_
        refine En_getR (j := 10) (g' := 24) (u := 0) rfl rfl rfl ha (by decide +kernel) h96 (by decide +kernel) (fun a100 h99 ha100 => ?_)
        refine En_Ps 2 (pc' := 115) (lv' := [(0, .ref s), (1, .ref a), (2, .int y37)]) (st' := [.ref s, .int ((Int32.ofInt 0)), .ref a100]) rfl ?_
        refine En_getR (j := 10) (g' := 24) (u := 0) rfl rfl rfl hs (by decide +kernel) h96 (by decide +kernel) (fun a102 h101 ha102 => ?_)
        refine En_Ps 2 (pc' := 120) (lv' := [(0, .ref s), (1, .ref a), (2, .int y37)]) (st' := [.int ((Int32.ofInt 4)), .int ((Int32.ofInt 0)), .ref a102, .int ((Int32.ofInt 0)), .ref a100]) rfl ?_
        refine En_copy (n0 := 4) (n1 := 4) (by decide : (Int32.ofInt 4).toInt = 4) (by decide : (Int32.ofInt 0).toInt = 0) (by decide : (Int32.ofInt 0).toInt = 0) rfl rfl rfl rfl ha100 ha102 (by decide +kernel) (by decide +kernel) (by decide +kernel) (by decide +kernel) (by decide +kernel) (by omega) (by omega) (by omega) (by omega) (by omega) h96 h97 (by decide +kernel) (fun σ103 h104 h105 h106 => ?_)
        refine En_Ps 2 (pc' := 125) (lv' := [(0, .ref s), (1, .ref a), (2, .int y37)]) (st' := [.ref a, .ref s]) rfl ?_
        refine En_getI (j := 11) (l := 0) (u := 6) rfl rfl rfl ha (by decide +kernel) h104 (by decide +kernel) (fun z108 h107 h109 h110 => ?_)
        refine En_put (j := 11) rfl rfl rfl hs (by decide +kernel) rfl (vI (l := 0) (u := 6) (by decide +kernel) rfl (by omega) (by omega)) h104 h105 (by decide +kernel) (fun σ111 h112 h113 h114 h115 => ?_)
        refine En_Ps 1 (pc' := 132) (lv' := [(0, .ref s), (1, .ref a), (2, .int y37)]) (st' := [.ref a]) rfl ?_
        refine En_getR (j := 12) (g' := 25) (u := 0) rfl rfl rfl ha (by decide +kernel) h112 (by decide +kernel) (fun a117 h116 ha117 => ?_)
        refine En_Ps 2 (pc' := 137) (lv' := [(0, .ref s), (1, .ref a), (2, .int y37)]) (st' := [.ref s, .int ((Int32.ofInt 0)), .ref a117]) rfl ?_
        refine En_getR (j := 12) (g' := 25) (u := 0) rfl rfl rfl hs (by decide +kernel) h112 (by decide +kernel) (fun a119 h118 ha119 => ?_)
        refine En_Ps 2 (pc' := 143) (lv' := [(0, .ref s), (1, .ref a), (2, .int y37)]) (st' := [.int (((Int8.ofInt 6).toInt32)), .int ((Int32.ofInt 0)), .ref a119, .int ((Int32.ofInt 0)), .ref a117]) rfl ?_
        refine En_copy (n0 := 6) (n1 := 6) (by decide : ((Int8.ofInt 6).toInt32).toInt = 6) (by decide : (Int32.ofInt 0).toInt = 0) (by decide : (Int32.ofInt 0).toInt = 0) rfl rfl rfl rfl ha117 ha119 (by decide +kernel) (by decide +kernel) (by decide +kernel) (by decide +kernel) (by decide +kernel) (by omega) (by omega) (by omega) (by omega) (by omega) h112 h113 (by decide +kernel) (fun σ120 h121 h122 h123 => ?_)
        refine En_Ps 1 (pc' := 147) (lv' := [(0, .ref s), (1, .ref a), (2, .int y37)]) (st' := [.ref a]) rfl ?_
        refine En_getR (j := 13) (g' := 26) (u := 0) rfl rfl rfl ha (by decide +kernel) h121 (by decide +kernel) (fun a125 h124 ha125 => ?_)
        refine En_Ps 2 (pc' := 152) (lv' := [(0, .ref s), (1, .ref a), (2, .int y37)]) (st' := [.ref s, .int ((Int32.ofInt 0)), .ref a125]) rfl ?_
        refine En_getR (j := 13) (g' := 26) (u := 0) rfl rfl rfl hs (by decide +kernel) h121 (by decide +kernel) (fun a127 h126 ha127 => ?_)
        refine En_Ps 2 (pc' := 158) (lv' := [(0, .ref s), (1, .ref a), (2, .int y37)]) (st' := [.int (((Int8.ofInt 6).toInt32)), .int ((Int32.ofInt 0)), .ref a127, .int ((Int32.ofInt 0)), .ref a125]) rfl ?_
        refine En_copy (n0 := 6) (n1 := 6) (by decide : ((Int8.ofInt 6).toInt32).toInt = 6) (by decide : (Int32.ofInt 0).toInt = 0) (by decide : (Int32.ofInt 0).toInt = 0) rfl rfl rfl rfl ha125 ha127 (by decide +kernel) (by decide +kernel) (by decide +kernel) (by decide +kernel) (by decide +kernel) (by omega) (by omega) (by omega) (by omega) (by omega) h121 h122 (by decide +kernel) (fun σ128 h129 h130 h131 => ?_)
        refine En_Ps 2 (pc' := 163) (lv' := [(0, .ref s), (1, .ref a), (2, .int y37)]) (st' := [.ref a, .ref s]) rfl ?_
        refine En_getI (j := 14) (l := 0) (u := 60) rfl rfl rfl ha (by decide +kernel) h129 (by decide +kernel) (fun z133 h132 h134 h135 => ?_)
        refine En_put (j := 14) rfl rfl rfl hs (by decide +kernel) rfl (vI (l := 0) (u := 60) (by decide +kernel) rfl (by omega) (by omega)) h129 h130 (by decide +kernel) (fun σ136 h137 h138 h139 h140 => ?_)
        refine En_Ps 1 (pc' := 170) (lv' := [(0, .ref s), (1, .ref a), (2, .int y37)]) (st' := [.ref a]) rfl ?_
        refine En_getR (j := 15) (g' := 27) (u := 0) rfl rfl rfl ha (by decide +kernel) h137 (by decide +kernel) (fun a142 h141 ha142 => ?_)
        refine En_Ps 2 (pc' := 175) (lv' := [(0, .ref s), (1, .ref a), (2, .int y37)]) (st' := [.ref s, .int ((Int32.ofInt 0)), .ref a142]) rfl ?_
        refine En_getR (j := 15) (g' := 27) (u := 0) rfl rfl rfl hs (by decide +kernel) h137 (by decide +kernel) (fun a144 h143 ha144 => ?_)
        refine En_Ps 2 (pc' := 181) (lv' := [(0, .ref s), (1, .ref a), (2, .int y37)]) (st' := [.int (((Int8.ofInt 60).toInt32)), .int ((Int32.ofInt 0)), .ref a144, .int ((Int32.ofInt 0)), .ref a142]) rfl ?_
        refine En_copy (n0 := 60) (n1 := 60) (by decide : ((Int8.ofInt 60).toInt32).toInt = 60) (by decide : (Int32.ofInt 0).toInt = 0) (by decide : (Int32.ofInt 0).toInt = 0) rfl rfl rfl rfl ha142 ha144 (by decide +kernel) (by decide +kernel) (by decide +kernel) (by decide +kernel) (by decide +kernel) (by omega) (by omega) (by omega) (by omega) (by omega) h137 h138 (by decide +kernel) (fun σ145 h146 h147 h148 => ?_)
        exact En_ret (v := none) rfl rfl rfl ⟨h146, h147, z11, ((h148 _ _ (neTG hs ha144 (by decide))).trans ((h140 _ _ (Or.inr (by decide))).trans ((h131 _ _ (neTG hs ha127 (by decide))).trans ((h123 _ _ (neTG hs ha119 (by decide))).trans ((h115 _ _ (Or.inr (by decide))).trans ((h106 _ _ (neTG hs ha102 (by decide))).trans ((h98 _ _ (neTG hs ha94 (by decide))).trans ((h90 _ _ (Or.inr (by decide))).trans ((h81 _ _ (Or.inr (by decide))).trans ((h72 _ _ (Or.inr (by decide))).trans ((h61 _ _ (inW hs (by decide +kernel))).trans h44))))))))))), rfl, (by omega)⟩
      · refine En_Ps 1 (pc' := 40) (lv' := [(0, .ref s), (1, .ref a), (2, .int y37)]) (st' := [.ref s]) rfl ?_
        refine En_getR (j := 4) (g' := 19) (u := 0) rfl rfl rfl hs (by decide +kernel) h39 (by decide +kernel) (fun a150 h149 ha150 => ?_)
        refine En_Ps 1 (pc' := 44) (lv' := [(0, .ref s), (1, .ref a), (2, .int y37)]) (st' := [.int y37, .ref a150]) rfl ?_
        refine En_aald (g' := 28) (u := 0) rfl rfl ha150 (by decide +kernel) h39 (by omega) (lnI (by decide +kernel : LN _ = 4) (by omega)) (FTsgl (by decide +kernel)) (fun a152 h151 ha152 => ?_)
        refine En_Ps 1 (pc' := 46) (lv' := [(0, .ref s), (1, .ref a), (2, .int y37)]) (st' := [.ref a, .ref a152]) rfl ?_
        refine En_getR (j := 4) (g' := 19) (u := 0) rfl rfl rfl ha (by decide +kernel) h39 (by decide +kernel) (fun a154 h153 ha154 => ?_)
        refine En_Ps 1 (pc' := 50) (lv' := [(0, .ref s), (1, .ref a), (2, .int y37)]) (st' := [.int y37, .ref a154, .ref a152]) rfl ?_
        refine En_aald (g' := 28) (u := 0) rfl rfl ha154 (by decide +kernel) h39 (by omega) (lnI (by decide +kernel : LN _ = 4) (by omega)) (FTsgl (by decide +kernel)) (fun a156 h155 ha156 => ?_)
        refine En_callV rfl rfl rfl rfl rfl rfl rfl rfl ha152 (by decide +kernel) rfl (c_14 σ38 h39 a152 ha152 a156 ha156) (by decide) (by decide) (fun v158 σ159 h157 => ?_)
        obtain ⟨h160, h161, rfl, h162⟩ := h157
        have h163 := Fr_trans h40 h161 (by decide +kernel)
        refine En_Ps 1 (pc' := 57) (lv' := [(2, .int ((y37 + Int32.ofInt 1))), (0, .ref s), (1, .ref a)]) (st' := []) rfl ?_
        refine En_lv1 (addI rfl (by decide : (Int32.ofInt 1).toInt = 1) (by omega) (by omega)) (fun z164 h165 => ?_)
        refine En_Ps 1 (pc' := 34) (lv' := [(2, .int z164), (0, .ref s), (1, .ref a)]) (st' := []) rfl ?_
        refine En_lv (lv := [(0, .ref s), (1, .ref a), (2, .int z164)]) ⟨rfl, rfl, rfl, trivial⟩ ?_
        exact ih34 σ159 z164 h160 h163 ((h161 _ _ (inW ha (by decide +kernel))).trans h41) ((h161 _ _ (inW hs (by decide +kernel))).trans h42) ((h161 _ _ (inW ha (by decide +kernel))).trans h43) ((h161 _ _ (inW hs (by decide +kernel))).trans h44) ((h161 _ _ (inW ha (by decide +kernel))).trans h45) ((h161 _ _ (inW hs (by decide +kernel))).trans h46) ((h161 _ _ (inW ha (by decide +kernel))).trans h47) ((h161 _ _ (inW hs (by decide +kernel))).trans h48) (by omega) (by omega) (by omega)
  have := (by decide : (Int32.ofInt 0).toInt = 0)
  refine En_lv (lv := [(0, .ref s), (1, .ref a), (2, .int ((Int32.ofInt 0)))]) ⟨rfl, rfl, rfl, trivial⟩ ?_
  exact key34 (Int.toNat (4) + 1) σ32 ((Int32.ofInt 0)) h33 h34 ((h36 _ _ (Or.inr (by decide))).trans ((h27 _ _ (Or.inr (by decide))).trans ((h18 _ _ (Or.inr (by decide))).trans ((h9 _ _ (Or.inl (neTG ha hs (by decide)))).trans h1)))) ((h36 _ _ (Or.inr (by decide))).trans ((h27 _ _ (Or.inr (by decide))).trans ((h18 _ _ (Or.inr (by decide))).trans h8))) ((h36 _ _ (Or.inr (by decide))).trans ((h27 _ _ (Or.inr (by decide))).trans ((h18 _ _ (Or.inl (neTG ha hs (by decide)))).trans h10))) ((h36 _ _ (Or.inr (by decide))).trans ((h27 _ _ (Or.inr (by decide))).trans h17)) ((h36 _ _ (Or.inr (by decide))).trans ((h27 _ _ (Or.inl (neTG ha hs (by decide)))).trans h19)) ((h36 _ _ (Or.inr (by decide))).trans h26) ((h36 _ _ (Or.inl (neTG ha hs (by decide)))).trans h28) h35 (by omega) (by omega) (by omega)

