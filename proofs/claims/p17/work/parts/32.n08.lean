/-- DoorSchool.told(II)I -/
abbrev P_176x (σ0 : SG) (Wv : Int → Int) (a : Int32) (b : Int32) (p : Nat) (sg : Int32) : PO := fun v σ => WT σ ∧ Fr [] σ0 σ ∧ ∃ ret : Int32, v = some (.int ret) ∧ -ret.toInt - 2 ≤ 0 ∧ ret.toInt - 15 ≤ 0 ∧ ret.toInt = tdR Wv a.toInt b.toInt
set_option maxRecDepth 10000 in
set_option maxHeartbeats 4000000 in
theorem c_176x {Wv : Int → Int} (σ0 : SG) (hσ0 : WT σ0) (a : Int32) (b : Int32) (p : Nat) (hp : TG p = 18) (h_p : (σ0 0)[9]? = some (.ref p)) (sg : Int32) (h_sg : (σ0 p)[1]? = some (.int sg)) (hp0 : -sg.toInt ≤ 0) (hP : PLA p) (hX : FXP σ0 p) (hK : KN σ0 p Wv (act Wv)) (hB : WFw Wv) (hT : TWN Wv) (hQ : 0 < Wv 7 → RULx σ0 (Wv 0)) (hq : QX Wv) : En 2 41 none mr_176 (P_176x σ0 Wv a b p sg) 0 [(0, .ref 0), (1, .int a), (2, .int b)] [] σ0 := by
  obtain ⟨hl_sg, hu_sg⟩ := WT_int hσ0 (g := 18) hp (by decide +kernel) (l := (-1)) (u := 4) (by decide +kernel) h_sg
  have hF0 : Fr [] σ0 σ0 := Fr_rfl
  have t1 : Wv (0) = sg.toInt := KN_v hK (Or.inl (by decide)) (by omega) (by omega) (by rw [lcO_lt (by decide) (by decide), Nat.add_zero]) rfl h_sg
  obtain ⟨z3, h2, h4, h5⟩ := WT_peekI hσ0 hp (by decide +kernel : FT 18 3 = (0, 0, 4)) (by decide +kernel)
  have t6 : Wv (2) = z3.toInt := KN_v hK (Or.inl (by decide)) (by omega) (by omega) (by rw [lcO_lt (by decide) (by decide), Nat.add_zero]) rfl h2
  have h7 := hB.2.2.1
  have h8 := hB.1
  have h9 := hB.2.1
  refine En_Ps 1 (pc' := 1) (lv' := [(0, .ref 0), (1, .int a), (2, .int b)]) (st' := [.ref 0]) rfl ?_
  refine En_getK (j := 9) h_p rfl rfl rfl tgz_0 (by decide +kernel) ?_
  refine En_Ps 1 (pc' := 5) (lv' := [(0, .ref 0), (1, .int a), (2, .int b)]) (st' := [.int a, .ref p]) rfl ?_
  obtain ⟨z11, h10, h12, h13⟩ := WT_peekI hσ0 hp (by decide +kernel : FT 18 0 = (0, 0, 1601)) (by decide +kernel)
  have t14 : Wv (7) = z11.toInt := KN_v hK (Or.inl (by decide)) (by omega) (by omega) (by rw [lcO_lt (by decide) (by decide), Nat.add_zero]) rfl h10
  refine En_callV rfl rfl rfl rfl rfl rfl rfl rfl hp (by decide +kernel) rfl (c_46x σ0 hσ0 p hp a z11 h10 sg h_sg (by omega)) (by decide) (by decide) (fun v16 σ17 h15 => ?_)
  obtain ⟨h18, h19, z21, rfl, h20⟩ := h15
  have h22 := h20.2.2.2
  obtain rfl : σ0 = σ17 := Fr_nil h19
  have h23 := h22
  have h24 : pI (pI (Wv 0)) = pI (pI (sg.toInt)) := by rw [t1]
  refine En_iEq _ rfl rfl (fun h25 => ?_) (fun h25 => ?_)
  · refine En_Ps 1 (pc' := 20) (lv' := [(0, .ref 0), (1, .int a), (2, .int b)]) (st' := [.int (((Int8.ofInt (-2)).toInt32))]) rfl ?_
    refine En_top (by decide : ((Int8.ofInt (-2)).toInt32).toInt = -2) (fun z26 h27 => ?_)
    exact En_ret (v := some (.int z26)) rfl rfl rfl ⟨hσ0, hF0, z26, rfl, ⟨by omega, by omega, tdR_n (fun ⟨q1, q2, q3, q4, q5⟩ => by omega) (by omega)⟩⟩
  · have h28 := Imp_m h20.2.2.1 (by omega)
    refine En_Ps 1 (pc' := 12) (lv' := [(0, .ref 0), (1, .int a), (2, .int b)]) (st' := [.int b]) rfl ?_
    refine En_callS rfl rfl rfl rfl rfl rfl rfl rfl rfl (c_149x σ0 hσ0 b) (by decide) (by decide) (fun v30 σ31 h29 => ?_)
    obtain ⟨h32, h33, z35, rfl, h34⟩ := h29
    have h36 := h34.2.2.2
    obtain rfl : σ0 = σ31 := Fr_nil h33
    have h37 := Imp_m h34.2.2.1
    refine En_iNe _ rfl rfl (fun h38 => ?_) (fun h38 => ?_)
    · have h39 := Imp_m h34.2.2.1 (by omega)
      obtain ⟨z41, h40, h42, h43⟩ := WT_peekI hσ0 tgz_4 (by decide +kernel : FT 4 0 = (0, 0, 16)) (by decide +kernel)
      obtain ⟨z45, h44, h46, h47⟩ := WT_peekI hσ0 tgz_4 (by decide +kernel : FT 4 1 = (0, 0, 81)) (by decide +kernel)
      have h48 : z41.toInt = pI (Wv 0) := (ci_at (j := 0) h40 rfl).symm.trans (hQ (by omega)).1
      have h49 : z45.toInt = nR (Wv 0) := (ci_at (j := 1) h44 rfl).symm.trans (hQ (by omega)).2.1
      have h50 := pI_rng (s := Wv 0) (by omega) (by omega)
      have h51 := nR_rg (s := Wv 0) (by omega) (by omega)
      refine En_Ps 1 (pc' := 22) (lv' := [(0, .ref 0), (1, .int a), (2, .int b)]) (st' := [.ref 0]) rfl ?_
      refine En_getU (j := 2) (u := 4) (g' := 4) (q := 0) rfl rfl rfl tgz_0 (by decide +kernel) hσ0 (by decide +kernel) (by decide +kernel) (fun h52 => ?_)
      refine En_Ps 1 (pc' := 26) (lv' := [(0, .ref 0), (1, .int a), (2, .int b)]) (st' := [.int a, .ref 4]) rfl ?_
      refine En_callV rfl rfl rfl rfl rfl rfl rfl rfl tgz_4 (by decide +kernel) rfl (c_81x σ0 hσ0 a z45 h44) (by decide) (by decide) (fun v55 σ56 h54 => ?_)
      obtain ⟨h57, h58, z60, rfl, h59⟩ := h54
      have h61 := h59.2.2
      obtain rfl : σ0 = σ56 := Fr_nil h58
      have h62 : z60.toInt = fr2 Wv a.toInt := fr2_of h49 (fun i i0 i1 => TB_D (hQ (by omega)).2.2 i i0 (by omega)) h61
      have h63 := fr2_rg (w := Wv) (a := a.toInt)
      refine En_Ps 3 (pc' := 32) (lv' := [(3, .int z60), (0, .ref 0), (1, .int a), (2, .int b)]) (st' := [.int ((Int32.ofInt (-1))), .int z60]) rfl ?_
      refine En_icNe _ rfl (by decide : (Int32.ofInt (-1)).toInt = -1) rfl (fun h64 => ?_) (fun h64 => ?_)
      · refine En_Ps 1 (pc' := 38) (lv' := [(3, .int z60), (0, .ref 0), (1, .int a), (2, .int b)]) (st' := [.int b]) rfl ?_
        refine En_iNe _ rfl rfl (fun h65 => ?_) (fun h65 => ?_)
        · refine En_Ps 1 (pc' := 54) (lv' := [(3, .int z60), (0, .ref 0), (1, .int a), (2, .int b)]) (st' := [.ref 0]) rfl ?_
          refine En_getK (j := 2) h52 rfl rfl rfl tgz_0 (by decide +kernel) ?_
          refine En_getU (j := 3) (u := 6) (g' := 6) (q := 0) rfl rfl rfl tgz_4 (by decide +kernel) hσ0 (by decide +kernel) (by decide +kernel) (fun h66 => ?_)
          refine En_Ps 1 (pc' := 61) (lv' := [(3, .int z60), (0, .ref 0), (1, .int a), (2, .int b)]) (st' := [.int z60, .ref 6]) rfl ?_
          refine En_iald (l := 0) (u := 15) rfl rfl tgz_6 (by decide +kernel) hσ0 (by omega) (lnI (by decide +kernel : LN _ = 81) (by omega)) (FTsgl (by decide +kernel)) (fun z69 h68 h70 h71 => ?_)
          have h72 : ci σ0 6 (z60.toInt) = z69.toInt := ci_at h68 rfl
          exact En_ret (v := some (.int z69)) rfl rfl rfl ⟨hσ0, hF0, z69, rfl, ⟨by omega, by omega, tdR_y ⟨by omega, by omega, by omega, by omega, by omega⟩ h62 (pkR_V (by omega) (by omega) (by omega) (h72.symm.trans (TB_MV (hQ (by omega)).2.2 (by omega) (by omega)).2))⟩⟩
        · refine En_Ps 1 (pc' := 42) (lv' := [(3, .int z60), (0, .ref 0), (1, .int a), (2, .int b)]) (st' := [.ref 0]) rfl ?_
          refine En_getK (j := 2) h52 rfl rfl rfl tgz_0 (by decide +kernel) ?_
          refine En_getU (j := 2) (u := 5) (g' := 5) (q := 0) rfl rfl rfl tgz_4 (by decide +kernel) hσ0 (by decide +kernel) (by decide +kernel) (fun h73 => ?_)
          refine En_Ps 1 (pc' := 49) (lv' := [(3, .int z60), (0, .ref 0), (1, .int a), (2, .int b)]) (st' := [.int z60, .ref 5]) rfl ?_
          refine En_iald (l := 0) (u := 15) rfl rfl tgz_5 (by decide +kernel) hσ0 (by omega) (lnI (by decide +kernel : LN _ = 81) (by omega)) (FTsgl (by decide +kernel)) (fun z76 h75 h77 h78 => ?_)
          have h79 : ci σ0 5 (z60.toInt) = z76.toInt := ci_at h75 rfl
          refine En_Ps 1 (pc' := 62) (lv' := [(3, .int z60), (0, .ref 0), (1, .int a), (2, .int b)]) (st' := [.int z76]) rfl ?_
          exact En_ret (v := some (.int z76)) rfl rfl rfl ⟨hσ0, hF0, z76, rfl, ⟨by omega, by omega, tdR_y ⟨by omega, by omega, by omega, by omega, by omega⟩ h62 (pkR_M (by omega) (by omega) (h79.symm.trans (TB_MV (hQ (by omega)).2.2 (by omega) (by omega)).1))⟩⟩
      · refine En_Ps 1 (pc' := 36) (lv' := [(3, .int z60), (0, .ref 0), (1, .int a), (2, .int b)]) (st' := [.int ((Int32.ofInt (-1)))]) rfl ?_
        refine En_top (by decide : (Int32.ofInt (-1)).toInt = -1) (fun z80 h81 => ?_)
        exact En_ret (v := some (.int z80)) rfl rfl rfl ⟨hσ0, hF0, z80, rfl, ⟨by omega, by omega, tdR_y ⟨by omega, by omega, by omega, by omega, by omega⟩ h62 (pkR_1 (by omega) (by omega))⟩⟩
    · refine En_Ps 1 (pc' := 20) (lv' := [(0, .ref 0), (1, .int a), (2, .int b)]) (st' := [.int (((Int8.ofInt (-2)).toInt32))]) rfl ?_
      refine En_top (by decide : ((Int8.ofInt (-2)).toInt32).toInt = -2) (fun z82 h83 => ?_)
      exact En_ret (v := some (.int z82)) rfl rfl rfl ⟨hσ0, hF0, z82, rfl, ⟨by omega, by omega, tdR_n (fun ⟨q1, q2, q3, q4, q5⟩ => by omega) (by omega)⟩⟩
/-- DoorSchool.train(III)I -/
abbrev P_177x (σ0 : SG) (Wv : Int → Int) (a : Int32) (b : Int32) (c : Int32) (p : Nat) (sg : Int32) : PO := fun v σ => WT σ ∧ Fr [(28, 1), (28, 2)] σ0 σ ∧ ∃ ret : Int32, v = some (.int ret) ∧ -ret.toInt - 2 ≤ 0 ∧ ret.toInt - 50 ≤ 0 ∧ (ret.toInt = trR Wv a.toInt b.toInt c.toInt ∧ KN σ p (trW Wv a.toInt b.toInt c.toInt) (act (trW Wv a.toInt b.toInt c.toInt)) ∧ OUT σ0 σ p)
set_option maxRecDepth 10000 in
set_option maxHeartbeats 4000000 in
theorem c_177x {Wv : Int → Int} (σ0 : SG) (hσ0 : WT σ0) (a : Int32) (b : Int32) (c : Int32) (p : Nat) (hp : TG p = 18) (h_p : (σ0 0)[9]? = some (.ref p)) (sg : Int32) (h_sg : (σ0 p)[1]? = some (.int sg)) (hp0 : -sg.toInt ≤ 0) (hP : PLA p) (hX : FXP σ0 p) (hK : KN σ0 p Wv (act Wv)) : En 1 21 none mr_177 (P_177x σ0 Wv a b c p sg) 0 [(0, .ref 0), (1, .int a), (2, .int b), (3, .int c)] [] σ0 := by
  obtain ⟨hl_sg, hu_sg⟩ := WT_int hσ0 (g := 18) hp (by decide +kernel) (l := (-1)) (u := 4) (by decide +kernel) h_sg
  have hF0 : Fr [(28, 1), (28, 2)] σ0 σ0 := Fr_rfl
  have t1 : Wv (0) = sg.toInt := KN_v hK (Or.inl (by decide)) (by omega) (by omega) (by rw [lcO_lt (by decide) (by decide), Nat.add_zero]) rfl h_sg
  obtain ⟨z3, h2, h4, h5⟩ := WT_peekI hσ0 hp (by decide +kernel : FT 18 3 = (0, 0, 4)) (by decide +kernel)
  have t6 : Wv (2) = z3.toInt := KN_v hK (Or.inl (by decide)) (by omega) (by omega) (by rw [lcO_lt (by decide) (by decide), Nat.add_zero]) rfl h2
  refine En_Ps 1 (pc' := 1) (lv' := [(0, .ref 0), (1, .int a), (2, .int b), (3, .int c)]) (st' := [.ref 0]) rfl ?_
  refine En_getK (j := 9) h_p rfl rfl rfl tgz_0 (by decide +kernel) ?_
  refine En_Ps 1 (pc' := 5) (lv' := [(0, .ref 0), (1, .int a), (2, .int b), (3, .int c)]) (st' := [.int a, .ref p]) rfl ?_
  refine En_callV rfl rfl rfl rfl rfl rfl rfl rfl hp (by decide +kernel) rfl (c_47x σ0 hσ0 p hp a z3 h2) (by decide) (by decide) (fun v8 σ9 h7 => ?_)
  obtain ⟨h10, h11, z13, rfl, h12⟩ := h7
  obtain rfl : σ0 = σ9 := Fr_nil h11
  have h14 := Imp_m h12.2.2.1
  have h15 := Imp_m h12.2.2.2.1
  have h16 := Imp_m h12.2.2.2.2.1
  have h17 := Imp_m h12.2.2.2.2.2
  refine En_iEq _ rfl rfl (fun h18 => ?_) (fun h18 => ?_)
  · have h19 := Imp_m h12.2.2.2.2.1 (by omega)
    refine En_Ps 1 (pc' := 20) (lv' := [(0, .ref 0), (1, .int a), (2, .int b), (3, .int c)]) (st' := [.int (((Int8.ofInt (-2)).toInt32))]) rfl ?_
    refine En_top (by decide : ((Int8.ofInt (-2)).toInt32).toInt = -2) (fun z20 h21 => ?_)
    exact En_ret (v := some (.int z20)) rfl rfl rfl ⟨hσ0, hF0, z20, rfl, ⟨by omega, by omega, (by have q0 : ¬ trC Wv a.toInt b.toInt c.toInt := (by omega); rw [trW_n q0]; exact ⟨trR_n q0 (by omega), hK, OUT_0⟩)⟩⟩
  · have h22 := Imp_m h12.2.2.1 (by omega)
    have h23 := Imp_m h12.2.2.2.1 (by omega)
    have h24 := Imp_m h12.2.2.2.2.2 (by omega)
    refine En_Ps 1 (pc' := 12) (lv' := [(0, .ref 0), (1, .int a), (2, .int b), (3, .int c)]) (st' := [.int b]) rfl ?_
    refine En_callS rfl rfl rfl rfl rfl rfl rfl rfl rfl (c_149x σ0 hσ0 b) (by decide) (by decide) (fun v26 σ27 h25 => ?_)
    obtain ⟨h28, h29, z31, rfl, h30⟩ := h25
    have h32 := h30.2.2.2
    obtain rfl : σ0 = σ27 := Fr_nil h29
    have h33 := Imp_m h30.2.2.1
    refine En_iNe _ rfl rfl (fun h34 => ?_) (fun h34 => ?_)
    · have h35 := Imp_m h30.2.2.1 (by omega)
      refine En_Ps 1 (pc' := 22) (lv' := [(0, .ref 0), (1, .int a), (2, .int b), (3, .int c)]) (st' := [.ref 0]) rfl ?_
      refine En_getK (j := 9) h_p rfl rfl rfl tgz_0 (by decide +kernel) ?_
      refine En_getR (j := 4) (g' := 19) (u := 0) rfl rfl rfl hp (by decide +kernel) hσ0 (by decide +kernel) (fun a37 h36 ha37 => ?_)
      have t38 : a37 = p + 1 := ref_uniq h36 (FXP_fr hP hX hF0 (by decide +kernel)).1
      refine En_Ps 1 (pc' := 29) (lv' := [(0, .ref 0), (1, .int a), (2, .int b), (3, .int c)]) (st' := [.int a, .ref a37]) rfl ?_
      refine En_aald (g' := 28) (u := 0) rfl rfl ha37 (by decide +kernel) hσ0 (by omega) (lnI (by decide +kernel : LN _ = 4) (by omega)) (FTsgl (by decide +kernel)) (fun a40 h39 ha40 => ?_)
      have t41 : a40 = p + 10 + 4 * (a.toInt).toNat := DRe (d := a.toInt) (FXP_fr hP hX hF0 (by decide +kernel)) t38 h39 (by omega) (by omega)
      have t42 := lc_d (d := a.toInt) (by omega) (by omega)
      refine En_Ps 2 (pc' := 33) (lv' := [(4, .ref a40), (0, .ref 0), (1, .int a), (2, .int b), (3, .int c)]) (st' := [.int b]) rfl ?_
      refine En_iNe _ rfl rfl (fun h43 => ?_) (fun h43 => ?_)
      · refine En_Ps 1 (pc' := 63) (lv' := [(4, .ref a40), (0, .ref 0), (1, .int a), (2, .int b), (3, .int c)]) (st' := [.int c]) rfl ?_
        refine En_iLt _ rfl rfl (fun h44 => ?_) (fun h44 => ?_)
        · refine En_Ps 1 (pc' := 74) (lv' := [(4, .ref a40), (0, .ref 0), (1, .int a), (2, .int b), (3, .int c)]) (st' := [.int (((Int8.ofInt (-2)).toInt32))]) rfl ?_
          refine En_top (by decide : ((Int8.ofInt (-2)).toInt32).toInt = -2) (fun z45 h46 => ?_)
          exact En_ret (v := some (.int z45)) rfl rfl rfl ⟨hσ0, hF0, z45, rfl, ⟨by omega, by omega, (by have q0 : ¬ trC Wv a.toInt b.toInt c.toInt := (by omega); rw [trW_n q0]; exact ⟨trR_n q0 (by omega), hK, OUT_0⟩)⟩⟩
        · refine En_Ps 2 (pc' := 69) (lv' := [(4, .ref a40), (0, .ref 0), (1, .int a), (2, .int b), (3, .int c)]) (st' := [.int (((Int8.ofInt 50).toInt32)), .int c]) rfl ?_
          refine En_icLe _ rfl (by decide : ((Int8.ofInt 50).toInt32).toInt = 50) rfl (fun h47 => ?_) (fun h47 => ?_)
          · refine En_Ps 1 (pc' := 77) (lv' := [(4, .ref a40), (0, .ref 0), (1, .int a), (2, .int b), (3, .int c)]) (st' := [.ref a40]) rfl ?_
            refine En_getI (j := 2) (l := 0) (u := 50) rfl rfl rfl ha40 (by decide +kernel) hσ0 (by decide +kernel) (fun z49 h48 h50 h51 => ?_)
            have t52 : Wv (11 + 4 * (a.toInt)) = z49.toInt := KN_v hK (Or.inr (Or.inl ⟨by omega, by omega, by omega⟩)) (by omega) (by omega) (by omega) (by omega) h48
            refine En_Ps 3 (pc' := 85) (lv' := [(5, .int z49), (4, .ref a40), (0, .ref 0), (1, .int a), (2, .int b), (3, .int c)]) (st' := [.int c, .ref a40]) rfl ?_
            refine En_put (j := 2) rfl rfl rfl ha40 (by decide +kernel) rfl (vI (l := 0) (u := 50) (by decide +kernel) rfl (by omega) (by omega)) hσ0 hF0 (by decide +kernel) (fun σ53 h54 h55 h56 h57 => ?_)
            refine En_Ps 1 (pc' := 90) (lv' := [(5, .int z49), (4, .ref a40), (0, .ref 0), (1, .int a), (2, .int b), (3, .int c)]) (st' := [.int z49]) rfl ?_
            exact En_ret (v := some (.int z49)) rfl rfl rfl ⟨h54, h55, z49, rfl, ⟨by omega, by omega, (by have l := lc_d (d := a.toInt) (by omega) (by omega); have q0 := KN_one hK (PLA_B hP) (i := 11 + 4 * (a.toInt)) (v := c.toInt) h56 h57 (by omega) (by omega) ⟨by omega, by omega⟩ rfl (by omega) (Or.inr (Or.inl ⟨by omega, by omega, by omega⟩)); rw [trW_y (i := 11 + 4 * (a.toInt)) (by omega) (by omega)]; exact ⟨trR_y (i := 11 + 4 * (a.toInt)) (by omega) (by omega) t52, q0⟩)⟩⟩
          · refine En_Ps 1 (pc' := 74) (lv' := [(4, .ref a40), (0, .ref 0), (1, .int a), (2, .int b), (3, .int c)]) (st' := [.int (((Int8.ofInt (-2)).toInt32))]) rfl ?_
            refine En_top (by decide : ((Int8.ofInt (-2)).toInt32).toInt = -2) (fun z58 h59 => ?_)
            exact En_ret (v := some (.int z58)) rfl rfl rfl ⟨hσ0, hF0, z58, rfl, ⟨by omega, by omega, (by have q0 : ¬ trC Wv a.toInt b.toInt c.toInt := (by omega); rw [trW_n q0]; exact ⟨trR_n q0 (by omega), hK, OUT_0⟩)⟩⟩
      · refine En_Ps 1 (pc' := 37) (lv' := [(4, .ref a40), (0, .ref 0), (1, .int a), (2, .int b), (3, .int c)]) (st' := [.int c]) rfl ?_
        refine En_callS rfl rfl rfl rfl rfl rfl rfl rfl rfl (c_148 σ0 hσ0 c) (by decide) (by decide) (fun v61 σ62 h60 => ?_)
        obtain ⟨h63, h64, z66, rfl, h65⟩ := h60
        obtain rfl : σ0 = σ62 := Fr_nil h64
        refine En_iNe _ rfl rfl (fun h67 => ?_) (fun h67 => ?_)
        · refine En_Ps 1 (pc' := 48) (lv' := [(4, .ref a40), (0, .ref 0), (1, .int a), (2, .int b), (3, .int c)]) (st' := [.ref a40]) rfl ?_
          refine En_getI (j := 1) (l := 0) (u := 2) rfl rfl rfl ha40 (by decide +kernel) hσ0 (by decide +kernel) (fun z69 h68 h70 h71 => ?_)
          have t72 : Wv (10 + 4 * (a.toInt)) = z69.toInt := KN_v hK (Or.inr (Or.inl ⟨by omega, by omega, by omega⟩)) (by omega) (by omega) (by omega) (by omega) h68
          refine En_Ps 3 (pc' := 56) (lv' := [(5, .int z69), (4, .ref a40), (0, .ref 0), (1, .int a), (2, .int b), (3, .int c)]) (st' := [.int c, .ref a40]) rfl ?_
          refine En_put (j := 1) rfl rfl rfl ha40 (by decide +kernel) rfl (vI (l := 0) (u := 2) (by decide +kernel) rfl (by omega) (by omega)) hσ0 hF0 (by decide +kernel) (fun σ73 h74 h75 h76 h77 => ?_)
          refine En_Ps 1 (pc' := 61) (lv' := [(5, .int z69), (4, .ref a40), (0, .ref 0), (1, .int a), (2, .int b), (3, .int c)]) (st' := [.int z69]) rfl ?_
          exact En_ret (v := some (.int z69)) rfl rfl rfl ⟨h74, h75, z69, rfl, ⟨by omega, by omega, (by have l := lc_d (d := a.toInt) (by omega) (by omega); have q0 := KN_one hK (PLA_B hP) (i := 10 + 4 * (a.toInt)) (v := c.toInt) h76 h77 (by omega) (by omega) ⟨by omega, by omega⟩ rfl (by omega) (Or.inr (Or.inl ⟨by omega, by omega, by omega⟩)); rw [trW_y (i := 10 + 4 * (a.toInt)) (by omega) (by omega)]; exact ⟨trR_y (i := 10 + 4 * (a.toInt)) (by omega) (by omega) t72, q0⟩)⟩⟩
        · refine En_Ps 1 (pc' := 45) (lv' := [(4, .ref a40), (0, .ref 0), (1, .int a), (2, .int b), (3, .int c)]) (st' := [.int (((Int8.ofInt (-2)).toInt32))]) rfl ?_
          refine En_top (by decide : ((Int8.ofInt (-2)).toInt32).toInt = -2) (fun z78 h79 => ?_)
          exact En_ret (v := some (.int z78)) rfl rfl rfl ⟨hσ0, hF0, z78, rfl, ⟨by omega, by omega, (by have q0 : ¬ trC Wv a.toInt b.toInt c.toInt := (by omega); rw [trW_n q0]; exact ⟨trR_n q0 (by omega), hK, OUT_0⟩)⟩⟩
    · refine En_Ps 1 (pc' := 20) (lv' := [(0, .ref 0), (1, .int a), (2, .int b), (3, .int c)]) (st' := [.int (((Int8.ofInt (-2)).toInt32))]) rfl ?_
      refine En_top (by decide : ((Int8.ofInt (-2)).toInt32).toInt = -2) (fun z80 h81 => ?_)
      exact En_ret (v := some (.int z80)) rfl rfl rfl ⟨hσ0, hF0, z80, rfl, ⟨by omega, by omega, (by have q0 : ¬ trC Wv a.toInt b.toInt c.toInt := (by omega); rw [trW_n q0]; exact ⟨trR_n q0 (by omega), hK, OUT_0⟩)⟩⟩
/-- DoorSchool.unteach()I -/
abbrev P_181x (σ0 : SG) (Wv : Int → Int) (p : Nat) (sg : Int32) : PO := fun v σ => WT σ ∧ Fr [(18, 14), (20, 2)] σ0 σ ∧ ∃ ret : Int32, v = some (.int ret) ∧ -ret.toInt - 5 ≤ 0 ∧ ret.toInt - 3 ≤ 0 ∧ (ret.toInt = utR Wv ∧ KN σ p (utW Wv) (act (utW Wv)) ∧ OUT σ0 σ p)
set_option maxRecDepth 10000 in
set_option maxHeartbeats 4000000 in
theorem c_181x {Wv : Int → Int} (σ0 : SG) (hσ0 : WT σ0) (p : Nat) (hp : TG p = 18) (h_p : (σ0 0)[9]? = some (.ref p)) (sg : Int32) (h_sg : (σ0 p)[1]? = some (.int sg)) (hp0 : -sg.toInt ≤ 0) (hP : PLA p) (hX : FXP σ0 p) (hK : KN σ0 p Wv (act Wv)) (hI : WINV Wv) (hT : TGT Wv) : En 2 42 none mr_181 (P_181x σ0 Wv p sg) 0 [(0, .ref 0)] [] σ0 := by
  obtain ⟨hl_sg, hu_sg⟩ := WT_int hσ0 (g := 18) hp (by decide +kernel) (l := (-1)) (u := 4) (by decide +kernel) h_sg
  have hF0 : Fr [(18, 14), (20, 2)] σ0 σ0 := Fr_rfl
  have t1 : Wv (0) = sg.toInt := KN_v hK (Or.inl (by decide)) (by omega) (by omega) (by rw [lcO_lt (by decide) (by decide), Nat.add_zero]) rfl h_sg
  refine En_Ps 1 (pc' := 1) (lv' := [(0, .ref 0)]) (st' := [.ref 0]) rfl ?_
  refine En_getK (j := 9) h_p rfl rfl rfl tgz_0 (by decide +kernel) ?_
  obtain ⟨z3, h2, h4, h5⟩ := WT_peekI hσ0 hp (by decide +kernel : FT 18 0 = (0, 0, 1601)) (by decide +kernel)
  have t6 : Wv (7) = z3.toInt := KN_v hK (Or.inl (by decide)) (by omega) (by omega) (by rw [lcO_lt (by decide) (by decide), Nat.add_zero]) rfl h2
  refine En_callV rfl rfl rfl rfl rfl rfl rfl rfl hp (by decide +kernel) rfl (c_43x σ0 hσ0 p hp z3 h2) (by decide) (by decide) (fun v8 σ9 h7 => ?_)
  obtain ⟨h10, h11, z13, rfl, h12⟩ := h7
  obtain rfl : σ0 = σ9 := Fr_nil h11
  have h14 := Imp_m h12.2.2.1
  have h15 := Imp_m h12.2.2.2
  refine En_iNe _ rfl rfl (fun h16 => ?_) (fun h16 => ?_)
  · have h17 := Imp_m h12.2.2.1 (by omega)
    have h18 := Imp_m h12.2.2.2 (by omega)
    refine En_Ps 1 (pc' := 14) (lv' := [(0, .ref 0)]) (st' := [.ref 0]) rfl ?_
    refine En_getK (j := 9) h_p rfl rfl rfl tgz_0 (by decide +kernel) ?_
    refine En_getI (j := 14) (l := 0) (u := 60) rfl rfl rfl hp (by decide +kernel) hσ0 (by decide +kernel) (fun z20 h19 h21 h22 => ?_)
    have t23 : Wv (6) = z20.toInt := KN_v hK (Or.inl (by decide)) (by omega) (by omega) (by rw [lcO_lt (by decide) (by decide), Nat.add_zero]) rfl h19
    refine En_iGt _ rfl rfl (fun h24 => ?_) (fun h24 => ?_)
    · obtain ⟨z26, h25, h27, h28⟩ := WT_peekI hσ0 hp (by decide +kernel : FT 18 3 = (0, 0, 4)) (by decide +kernel)
      have t29 : Wv (2) = z26.toInt := KN_v hK (Or.inl (by decide)) (by omega) (by omega) (by rw [lcO_lt (by decide) (by decide), Nat.add_zero]) rfl h25
      obtain ⟨a31, h30, ha31⟩ := WT_peekR (g := 18) (j := 15) (g' := 27) (u := 0) hσ0 hp (by decide +kernel) (by decide +kernel)
      have t32 : a31 = p + 9 := ref_uniq h30 (FXP_fr hP hX hF0 (by decide +kernel)).2.2.2.2.2.2.1
      obtain ⟨a34, h33, ha34⟩ := WT_peekR (g := 18) (j := 4) (g' := 19) (u := 0) hσ0 hp (by decide +kernel) (by decide +kernel)
      have t35 : a34 = p + 1 := ref_uniq h33 (FXP_fr hP hX hF0 (by decide +kernel)).1
      refine En_Ps 1 (pc' := 27) (lv' := [(0, .ref 0)]) (st' := [.ref 0]) rfl ?_
      refine En_getK (j := 9) h_p rfl rfl rfl tgz_0 (by decide +kernel) ?_
      refine En_Ps 1 (pc' := 31) (lv' := [(0, .ref 0)]) (st' := [.ref p, .ref p]) rfl ?_
      refine En_getK (j := 14) h19 rfl rfl rfl hp (by decide +kernel) ?_
      refine En_Ps 2 (pc' := 36) (lv' := [(0, .ref 0)]) (st' := [.int ((z20 - ((Int32.ofInt 1)))), .ref p]) rfl ?_
      refine En_top (subI rfl (by decide : (Int32.ofInt 1).toInt = 1) (by omega) (by omega)) (fun z36 h37 => ?_)
      refine En_put (j := 14) rfl rfl rfl hp (by decide +kernel) rfl (vI (l := 0) (u := 60) (by decide +kernel) rfl (by omega) (by omega)) hσ0 hF0 (by decide +kernel) (fun σ38 h39 h40 h41 h42 => ?_)
      refine En_Ps 1 (pc' := 40) (lv' := [(0, .ref 0)]) (st' := [.ref 0]) rfl ?_
      refine En_getK (j := 9) ((h42 _ _ (Or.inr (by decide))).trans h_p) rfl rfl rfl tgz_0 (by decide +kernel) ?_
      refine En_getK (j := 15) ((h42 _ _ (Or.inr (by decide))).trans h30) rfl rfl rfl hp (by decide +kernel) ?_
      refine En_Ps 1 (pc' := 47) (lv' := [(0, .ref 0)]) (st' := [.ref 0, .ref a31]) rfl ?_
      refine En_getK (j := 9) ((h42 _ _ (Or.inr (by decide))).trans h_p) rfl rfl rfl tgz_0 (by decide +kernel) ?_
      refine En_getK (j := 14) h41 rfl rfl rfl hp (by decide +kernel) ?_
      refine En_iald (l := 0) (u := 3) rfl rfl ha31 (by decide +kernel) h39 (by omega) (lnI (by decide +kernel : LN _ = 60) (by omega)) (FTsgl (by decide +kernel)) (fun z44 h43 h45 h46 => ?_)
      have t47 := lc_t (m := z36.toInt) (by omega) (by omega)
      have h52 := lc_t (m := z20.toInt - 1) (by omega) (by omega)
      have h48 : Wv (166 + (z20.toInt - 1)) = z44.toInt := KN_v hK (Or.inr (Or.inr (Or.inr (Or.inr (Or.inr (Or.inr ⟨by omega, by omega⟩)))))) (by omega) (by omega) (by omega) (by omega) ((h42 _ _ (Or.inl (by omega))).symm.trans h43)
      have h49 : utD Wv = z44.toInt := by unfold utD; rw [t23]; exact h48
      have h50 := hT (z20.toInt - 1) (by omega) (by omega)
      rw [h48] at h50
      have h51 := WINV_ge hI (d := z44.toInt) (nt := z20.toInt) (by omega) (by omega) h48.symm (by omega) (by omega)
      refine En_Ps 2 (pc' := 56) (lv' := [(1, .int z44), (0, .ref 0)]) (st' := [.ref 0]) rfl ?_
      refine En_getK (j := 9) ((h42 _ _ (Or.inr (by decide))).trans h_p) rfl rfl rfl tgz_0 (by decide +kernel) ?_
      refine En_getK (j := 4) ((h42 _ _ (Or.inr (by decide))).trans h33) rfl rfl rfl hp (by decide +kernel) ?_
      refine En_Ps 1 (pc' := 63) (lv' := [(1, .int z44), (0, .ref 0)]) (st' := [.int z44, .ref a34]) rfl ?_
      refine En_aald (g' := 28) (u := 0) rfl rfl ha34 (by decide +kernel) h39 (by omega) (lnI (by decide +kernel : LN _ = 4) (by omega)) (FTsgl (by decide +kernel)) (fun a54 h53 ha54 => ?_)
      have t55 : a54 = p + 10 + 4 * (z44.toInt).toNat := DRe (d := z44.toInt) (FXP_fr hP hX h40 (by decide +kernel)) t35 h53 (by omega) (by omega)
      have t56 := lc_d (d := z44.toInt) (by omega) (by omega)
      refine En_getR (j := 0) (g' := 20) (u := 0) rfl rfl rfl ha54 (by decide +kernel) h39 (by decide +kernel) (fun a58 h57 ha58 => ?_)
      have t59 : a58 = p + 11 + 4 * (z44.toInt).toNat := DLc (d := z44.toInt) (FXP_fr hP hX h40 (by decide +kernel)) t55 h57 (by omega) (by omega)
      obtain ⟨a61, h60, ha61⟩ := WT_peekR (g := 20) (j := 0) (g' := 21) (u := 0) h39 ha58 (by decide +kernel) (by decide +kernel)
      have t62 : a61 = p + 12 + 4 * (z44.toInt).toNat := DKk (d := z44.toInt) (FXP_fr hP hX h40 (by decide +kernel)) t59 h60 (by omega) (by omega)
      obtain ⟨a64, h63, ha64⟩ := WT_peekR (g := 20) (j := 1) (g' := 22) (u := 0) h39 ha58 (by decide +kernel) (by decide +kernel)
      have t65 : a64 = p + 13 + 4 * (z44.toInt).toNat := DKo (d := z44.toInt) (FXP_fr hP hX h40 (by decide +kernel)) t59 h63 (by omega) (by omega)
      obtain ⟨z67, h66, h68, h69⟩ := WT_peekI h39 ha58 (by decide +kernel : FT 20 2 = (0, 0, 13)) (by decide +kernel)
      have h71 := ((h42 _ _ (Or.inl (by omega))).symm.trans h66)
      have h70 : Wv (12 + 4 * (z44.toInt)) = z67.toInt := KN_v hK (Or.inr (Or.inl ⟨by omega, by omega, by omega⟩)) (by omega) (by omega) (by omega) (by omega) h71
      have : 1 ≤ z67.toInt := by omega
      refine En_callV rfl rfl rfl rfl rfl rfl rfl rfl ha58 (by decide +kernel) rfl (c_33x σ38 h39 a58 ha58 a61 ha61 h60 a64 ha64 h63 z67 h66 (by omega)) (by decide) (by decide) (fun v73 σ74 h72 => ?_)
      obtain ⟨h75, h76, z78, h79, rfl, h77⟩ := h72
      have h80 := h77.2.2.2.2.2.2
      have h81 := Fr_trans h40 h76 (by decide +kernel)
      refine En_Ps 1 (pc' := 71) (lv' := [(1, .int z44), (0, .ref 0)]) (st' := [.int z44]) rfl ?_
      exact En_ret (v := some (.int z44)) rfl rfl rfl ⟨h75, h81, z44, rfl, ⟨by omega, by omega, (by have q0 := KN_unteach hK (PLA_B hP) h70 t23 h49 h41 h42 h80 t59 (by omega) (by omega) (by omega); exact ⟨by unfold utR; rw [if_neg (by omega), if_neg (by omega), h49], by unfold utW; rw [if_neg (by omega), if_neg (by omega)]; exact q0.1, q0.2⟩)⟩⟩
    · refine En_Ps 1 (pc' := 25) (lv' := [(0, .ref 0)]) (st' := [.int (((Int8.ofInt (-5)).toInt32))]) rfl ?_
      refine En_top (by decide : ((Int8.ofInt (-5)).toInt32).toInt = -5) (fun z82 h83 => ?_)
      exact En_ret (v := some (.int z82)) rfl rfl rfl ⟨hσ0, hF0, z82, rfl, ⟨by omega, by omega, ⟨by unfold utR; rw [if_neg (by omega), if_pos (by omega)]; omega, by unfold utW; rw [if_neg (by omega), if_pos (by omega)]; exact hK, OUT_0⟩⟩⟩
  · refine En_Ps 1 (pc' := 12) (lv' := [(0, .ref 0)]) (st' := [.int (((Int8.ofInt (-2)).toInt32))]) rfl ?_
    refine En_top (by decide : ((Int8.ofInt (-2)).toInt32).toInt = -2) (fun z84 h85 => ?_)
    exact En_ret (v := some (.int z84)) rfl rfl rfl ⟨hσ0, hF0, z84, rfl, ⟨by omega, by omega, ⟨by unfold utR; rw [if_pos (by omega)]; omega, by unfold utW; rw [if_pos (by omega)]; exact hK, OUT_0⟩⟩⟩

