/-- DoorSchool.left(I)I -/
abbrev P_152x (σ0 : SG) (Wv : Int → Int) (a : Int32) (p : Nat) (sg : Int32) : PO := fun v σ => WT σ ∧ Fr [(20, 2), (21, 0), (22, 0)] σ0 σ ∧ ∃ ret : Int32, v = some (.int ret) ∧ -ret.toInt - 2 ≤ 0 ∧ ret.toInt - 16 ≤ 0 ∧ (ret.toInt = lfR Wv a.toInt ∧ (KN σ p Wv (act Wv) ∧ OUT σ0 σ p))
set_option maxRecDepth 10000 in
set_option maxHeartbeats 4000000 in
theorem c_152x {Wv : Int → Int} (σ0 : SG) (hσ0 : WT σ0) (a : Int32) (p : Nat) (hp : TG p = 18) (h_p : (σ0 0)[9]? = some (.ref p)) (sg : Int32) (h_sg : (σ0 p)[1]? = some (.int sg)) (hp0 : -sg.toInt ≤ 0) (hP : PLA p) (hX : FXP σ0 p) (hK : KN σ0 p Wv (act Wv)) (hB : WFw Wv) (hT : TWN Wv) (hQ : 0 < Wv 7 → RULx σ0 (Wv 0)) (hq : QX Wv) : En 6 141 none mr_152 (P_152x σ0 Wv a p sg) 0 [(0, .ref 0), (1, .int a)] [] σ0 := by
  obtain ⟨hl_sg, hu_sg⟩ := WT_int hσ0 (g := 18) hp (by decide +kernel) (l := (-1)) (u := 4) (by decide +kernel) h_sg
  have hF0 : Fr [(20, 2), (21, 0), (22, 0)] σ0 σ0 := Fr_rfl
  have t1 : Wv (0) = sg.toInt := KN_v hK (Or.inl (by decide)) (by omega) (by omega) (by rw [lcO_lt (by decide) (by decide), Nat.add_zero]) rfl h_sg
  obtain ⟨z3, h2, h4, h5⟩ := WT_peekI hσ0 hp (by decide +kernel : FT 18 3 = (0, 0, 4)) (by decide +kernel)
  have t6 : Wv (2) = z3.toInt := KN_v hK (Or.inl (by decide)) (by omega) (by omega) (by rw [lcO_lt (by decide) (by decide), Nat.add_zero]) rfl h2
  refine En_Ps 2 (pc' := 2) (lv' := [(0, .ref 0), (1, .int a)]) (st' := [.int a, .ref 0]) rfl ?_
  refine En_callV rfl rfl rfl rfl rfl rfl rfl rfl (by decide +kernel : TG 0 = 0) (by decide +kernel) rfl (c_135x σ0 hσ0 a p hp h_p sg h_sg (by omega) hP (FXP_fr hP hX hF0 (by decide +kernel)) hK hB hT hQ hq) (by decide) (by decide) (fun v8 σ9 h7 => ?_)
  obtain ⟨h10, h11, z13, rfl, h12⟩ := h7
  have h14 := h12.2.2.2.2.2
  have h15 := Fr_trans hF0 h11 (by decide +kernel)
  have h16 := h14.2.2
  refine En_Ps 3 (pc' := 9) (lv' := [(2, .int z13), (0, .ref 0), (1, .int a)]) (st' := [.int (((Int8.ofInt (-2)).toInt32)), .int z13]) rfl ?_
  refine En_icNe _ rfl (by decide : ((Int8.ofInt (-2)).toInt32).toInt = -2) rfl (fun h17 => ?_) (fun h17 => ?_)
  · have h18 := Imp_m h12.2.2.1 (by omega)
    have h19 := Imp_m h12.2.2.2.2.1 (by omega)
    have h20 := hnR_ge h14.1 (by omega)
    have h21 := h20.1
    have h22 := h20.2
    have h23 := hnN_rg (w := Wv) (d := a.toInt)
    have h24 := pI_rng (s := Wv 0) (by omega) (by omega)
    have h25 : 0 ≤ a.toInt ∧ a.toInt ≤ 3 := by omega
    refine En_Ps 2 (pc' := 17) (lv' := [(2, .int z13), (0, .ref 0), (1, .int a)]) (st' := [.int ((Int32.ofInt (-1))), .int z13]) rfl ?_
    refine En_icNe _ rfl (by decide : (Int32.ofInt (-1)).toInt = -1) rfl (fun h26 => ?_) (fun h26 => ?_)
    · have h27 := Imp_m h12.2.2.2.1 (by omega)
      refine En_Ps 3 (pc' := 34) (lv' := [(2, .int z13), (0, .ref 0), (1, .int a)]) (st' := [.int z13, .int a, .ref 0]) rfl ?_
      refine En_callV rfl rfl rfl rfl rfl rfl rfl rfl (by decide +kernel : TG 0 = 0) (by decide +kernel) rfl (c_127x σ9 h10 a z13 (geI rfl (by omega)) (leI rfl (by omega)) (geI rfl (by omega)) (leI rfl (by omega)) p hp ((h11 _ _ (inW (by decide +kernel : TG 0 = 0) (by decide +kernel))).trans h_p) sg ((h11 _ _ (inW hp (by decide +kernel))).trans h_sg) (by omega) hP (FXP_fr hP hX h15 (by decide +kernel)) h14.2.1 hB hT (by omega) (RULx_sam (hQ (hq (by omega))) (RSAM_fr h15 (by decide +kernel)))) (by decide) (by decide) (fun v29 σ30 h28 => ?_)
      obtain ⟨h31, h32, z34, rfl, h33⟩ := h28
      have h35 := h33.2.2
      have h36 := Fr_trans h15 h32 (by decide +kernel)
      have h37 := OUT_tr h16 h35.2.2
      exact En_ret (v := some (.int z34)) rfl rfl rfl ⟨h31, h36, z34, rfl, ⟨by omega, by omega, ⟨lfR_1 h20.1 h20.2 (by omega) h35.1, ⟨h35.2.1, h37⟩⟩⟩⟩
    · refine En_Ps 2 (pc' := 22) (lv' := [(2, .int z13), (0, .ref 0), (1, .int a)]) (st' := [.int a, .ref 0]) rfl ?_
      refine En_callV rfl rfl rfl rfl rfl rfl rfl rfl (by decide +kernel : TG 0 = 0) (by decide +kernel) rfl (c_126x σ9 h10 a (geI rfl (by omega)) (leI rfl (by omega)) p hp ((h11 _ _ (inW (by decide +kernel : TG 0 = 0) (by decide +kernel))).trans h_p) sg ((h11 _ _ (inW hp (by decide +kernel))).trans h_sg) (by omega) hP (FXP_fr hP hX h15 (by decide +kernel)) h14.2.1 hB hT (RULx_sam (hQ (hq (by omega))) (RSAM_fr h15 (by decide +kernel))) (by omega)) (by decide) (by decide) (fun v39 σ40 h38 => ?_)
      obtain ⟨h41, h42, z44, rfl, h43⟩ := h38
      have h45 := h43.2.2
      obtain rfl : σ9 = σ40 := Fr_nil h42
      refine En_callS rfl rfl rfl rfl rfl rfl rfl rfl rfl (c_7bx σ9 h10 z44 (geI rfl (by omega)) (leI rfl (by omega))) (by decide) (by decide) (fun v47 σ48 h46 => ?_)
      obtain ⟨h49, h50, z52, rfl, h51⟩ := h46
      have h53 := h51.2.2
      obtain rfl : σ9 = σ48 := Fr_nil h50
      refine En_Ps 1 (pc' := 37) (lv' := [(2, .int z13), (0, .ref 0), (1, .int a)]) (st' := [.int z52]) rfl ?_
      exact En_ret (v := some (.int z52)) rfl rfl rfl ⟨h10, h15, z52, rfl, ⟨by omega, by omega, ⟨lfR_0 h20.1 h20.2 (by omega) (fon_of h45 h53), ⟨h14.2.1, h16⟩⟩⟩⟩
  · refine En_Ps 1 (pc' := 14) (lv' := [(2, .int z13), (0, .ref 0), (1, .int a)]) (st' := [.int (((Int8.ofInt (-2)).toInt32))]) rfl ?_
    refine En_top (by decide : ((Int8.ofInt (-2)).toInt32).toInt = -2) (fun z54 h55 => ?_)
    exact En_ret (v := some (.int z54)) rfl rfl rfl ⟨h10, h15, z54, rfl, ⟨by omega, by omega, ⟨lfR_n (hnR_lt h14.1 (by omega)) (by omega), ⟨h14.2.1, h16⟩⟩⟩⟩
/-- DoorSchool.lesson(III)I -/
abbrev P_154x (σ0 : SG) (Wv : Int → Int) (a : Int32) (b : Int32) (c : Int32) (p : Nat) (sg : Int32) : PO := fun v σ => WT σ ∧ Fr [] σ0 σ ∧ ∃ ret : Int32, v = some (.int ret) ∧ -ret.toInt - 2 ≤ 0 ∧ ret.toInt - 15 ≤ 0 ∧ ret.toInt = leR Wv a.toInt b.toInt c.toInt
set_option maxRecDepth 10000 in
set_option maxHeartbeats 4000000 in
theorem c_154x {Wv : Int → Int} (σ0 : SG) (hσ0 : WT σ0) (a : Int32) (b : Int32) (c : Int32) (p : Nat) (hp : TG p = 18) (h_p : (σ0 0)[9]? = some (.ref p)) (sg : Int32) (h_sg : (σ0 p)[1]? = some (.int sg)) (hp0 : -sg.toInt ≤ 0) (hP : PLA p) (hX : FXP σ0 p) (hK : KN σ0 p Wv (act Wv)) (hB : WFw Wv) : En 1 21 none mr_154 (P_154x σ0 Wv a b c p sg) 0 [(0, .ref 0), (1, .int a), (2, .int b), (3, .int c)] [] σ0 := by
  obtain ⟨hl_sg, hu_sg⟩ := WT_int hσ0 (g := 18) hp (by decide +kernel) (l := (-1)) (u := 4) (by decide +kernel) h_sg
  have hF0 : Fr [] σ0 σ0 := Fr_rfl
  have t1 : Wv (0) = sg.toInt := KN_v hK (Or.inl (by decide)) (by omega) (by omega) (by rw [lcO_lt (by decide) (by decide), Nat.add_zero]) rfl h_sg
  refine En_Ps 1 (pc' := 1) (lv' := [(0, .ref 0), (1, .int a), (2, .int b), (3, .int c)]) (st' := [.ref 0]) rfl ?_
  refine En_getK (j := 9) h_p rfl rfl rfl (by decide +kernel : TG 0 = 0) (by decide +kernel) ?_
  refine En_Ps 1 (pc' := 5) (lv' := [(0, .ref 0), (1, .int a), (2, .int b), (3, .int c)]) (st' := [.int a, .ref p]) rfl ?_
  obtain ⟨z3, h2, h4, h5⟩ := WT_peekI hσ0 hp (by decide +kernel : FT 18 3 = (0, 0, 4)) (by decide +kernel)
  have t6 : Wv (2) = z3.toInt := KN_v hK (Or.inl (by decide)) (by omega) (by omega) (by rw [lcO_lt (by decide) (by decide), Nat.add_zero]) rfl h2
  refine En_callV rfl rfl rfl rfl rfl rfl rfl rfl hp (by decide +kernel) rfl (c_47x σ0 hσ0 p hp a z3 h2) (by decide) (by decide) (fun v8 σ9 h7 => ?_)
  obtain ⟨h10, h11, z13, rfl, h12⟩ := h7
  obtain rfl : σ0 = σ9 := Fr_nil h11
  have h14 := Imp_m h12.2.2.1
  have h15 := Imp_m h12.2.2.2.1
  have h16 := Imp_m h12.2.2.2.2.1
  have h17 := Imp_m h12.2.2.2.2.2
  refine En_iEq _ rfl rfl (fun h18 => ?_) (fun h18 => ?_)
  · have h19 := Imp_m h12.2.2.2.2.1 (by omega)
    refine En_Ps 1 (pc' := 20) (lv' := [(0, .ref 0), (1, .int a), (2, .int b), (3, .int c)]) (st' := [.int (((Int8.ofInt (-2)).toInt32))]) rfl ?_
    refine En_top (by decide : ((Int8.ofInt (-2)).toInt32).toInt = -2) (fun z20 h21 => ?_)
    exact En_ret (v := some (.int z20)) rfl rfl rfl ⟨hσ0, hF0, z20, rfl, ⟨by omega, by omega, (by have e := leR_2 (w := Wv) (d := a.toInt) (i := b.toInt) (q := c.toInt) (by omega); omega)⟩⟩
  · have h22 := Imp_m h12.2.2.1 (by omega)
    have h23 := Imp_m h12.2.2.2.1 (by omega)
    have h24 := Imp_m h12.2.2.2.2.2 (by omega)
    refine En_Ps 1 (pc' := 12) (lv' := [(0, .ref 0), (1, .int a), (2, .int b), (3, .int c)]) (st' := [.int c]) rfl ?_
    refine En_callS rfl rfl rfl rfl rfl rfl rfl rfl rfl (c_149x σ0 hσ0 c) (by decide) (by decide) (fun v26 σ27 h25 => ?_)
    obtain ⟨h28, h29, z31, rfl, h30⟩ := h25
    have h32 := h30.2.2.2
    obtain rfl : σ0 = σ27 := Fr_nil h29
    have h33 := Imp_m h30.2.2.1
    refine En_iNe _ rfl rfl (fun h34 => ?_) (fun h34 => ?_)
    · have h35 := Imp_m h30.2.2.1 (by omega)
      have h36 := hB.2.2.2.2.2.2 a.toInt (by omega) (by omega)
      refine En_Ps 1 (pc' := 22) (lv' := [(0, .ref 0), (1, .int a), (2, .int b), (3, .int c)]) (st' := [.ref 0]) rfl ?_
      refine En_getK (j := 9) h_p rfl rfl rfl (by decide +kernel : TG 0 = 0) (by decide +kernel) ?_
      refine En_getR (j := 4) (g' := 19) (u := 0) rfl rfl rfl hp (by decide +kernel) hσ0 (by decide +kernel) (fun a38 h37 ha38 => ?_)
      have t39 : a38 = p + 1 := ref_uniq h37 (FXP_fr hP hX hF0 (by decide +kernel)).1
      refine En_Ps 1 (pc' := 29) (lv' := [(0, .ref 0), (1, .int a), (2, .int b), (3, .int c)]) (st' := [.int a, .ref a38]) rfl ?_
      refine En_aald (g' := 28) (u := 0) rfl rfl ha38 (by decide +kernel) hσ0 (by omega) (lnI (by decide +kernel : LN _ = 4) (by omega)) (FTsgl (by decide +kernel)) (fun a41 h40 ha41 => ?_)
      have t42 : a41 = p + 10 + 4 * (a.toInt).toNat := DRe (d := a.toInt) (FXP_fr hP hX hF0 (by decide +kernel)) t39 h40 (by omega) (by omega)
      have t43 := lc_d (d := a.toInt) (by omega) (by omega)
      refine En_getR (j := 0) (g' := 20) (u := 0) rfl rfl rfl ha41 (by decide +kernel) hσ0 (by decide +kernel) (fun a45 h44 ha45 => ?_)
      have t46 : a45 = p + 11 + 4 * (a.toInt).toNat := DLc (d := a.toInt) (FXP_fr hP hX hF0 (by decide +kernel)) t42 h44 (by omega) (by omega)
      refine En_Ps 2 (pc' := 36) (lv' := [(4, .ref a45), (0, .ref 0), (1, .int a), (2, .int b), (3, .int c)]) (st' := [.int b]) rfl ?_
      refine En_iLt _ rfl rfl (fun h47 => ?_) (fun h47 => ?_)
      · refine En_Ps 1 (pc' := 49) (lv' := [(4, .ref a45), (0, .ref 0), (1, .int a), (2, .int b), (3, .int c)]) (st' := [.int ((Int32.ofInt (-1)))]) rfl ?_
        refine En_top (by decide : (Int32.ofInt (-1)).toInt = -1) (fun z48 h49 => ?_)
        exact En_ret (v := some (.int z48)) rfl rfl rfl ⟨hσ0, hF0, z48, rfl, ⟨by omega, by omega, (by have e := leR_1 (w := Wv) (d := a.toInt) (i := b.toInt) (q := c.toInt) (by omega) (by omega); omega)⟩⟩
      · refine En_Ps 2 (pc' := 42) (lv' := [(4, .ref a45), (0, .ref 0), (1, .int a), (2, .int b), (3, .int c)]) (st' := [.ref a45, .int b]) rfl ?_
        refine En_getI (j := 2) (l := 0) (u := 13) rfl rfl rfl ha45 (by decide +kernel) hσ0 (by decide +kernel) (fun z51 h50 h52 h53 => ?_)
        have t54 : Wv (12 + 4 * (a.toInt)) = z51.toInt := KN_v hK (Or.inr (Or.inl ⟨by omega, by omega, by omega⟩)) (by omega) (by omega) (by omega) (by omega) h50
        refine En_icLt _ rfl rfl rfl (fun h55 => ?_) (fun h55 => ?_)
        · refine En_Ps 1 (pc' := 51) (lv' := [(4, .ref a45), (0, .ref 0), (1, .int a), (2, .int b), (3, .int c)]) (st' := [.int c]) rfl ?_
          refine En_iNe _ rfl rfl (fun h56 => ?_) (fun h56 => ?_)
          · refine En_Ps 1 (pc' := 66) (lv' := [(4, .ref a45), (0, .ref 0), (1, .int a), (2, .int b), (3, .int c)]) (st' := [.ref a45]) rfl ?_
            refine En_getR (j := 1) (g' := 22) (u := 0) rfl rfl rfl ha45 (by decide +kernel) hσ0 (by decide +kernel) (fun a58 h57 ha58 => ?_)
            have t59 : a58 = p + 13 + 4 * (a.toInt).toNat := DKo (d := a.toInt) (FXP_fr hP hX hF0 (by decide +kernel)) t46 h57 (by omega) (by omega)
            refine En_Ps 1 (pc' := 70) (lv' := [(4, .ref a45), (0, .ref 0), (1, .int a), (2, .int b), (3, .int c)]) (st' := [.int b, .ref a58]) rfl ?_
            refine En_iald (l := 0) (u := 1) rfl rfl ha58 (by decide +kernel) hσ0 (by omega) (lnI (by decide +kernel : LN _ = 13) (by omega)) (FTsgl (by decide +kernel)) (fun z61 h60 h62 h63 => ?_)
            have t64 := lc_l (d := a.toInt) (m := b.toInt) (by omega) (by omega) (by omega) (by omega)
            have t65 : Wv (26 + 24 * (a.toInt) + 2 * (b.toInt) + 1) = z61.toInt := KN_v hK (act_lo (d := a.toInt) (m := b.toInt) (by omega) (by omega) (by omega) (by omega) (by omega) (by omega)) (by omega) (by omega) (by omega) (by omega) h60
            exact En_ret (v := some (.int z61)) rfl rfl rfl ⟨hσ0, hF0, z61, rfl, ⟨by omega, by omega, (by have e := leR_y (w := Wv) (d := a.toInt) (i := b.toInt) (q := c.toInt) (by omega) (by omega) t65; omega)⟩⟩
          · refine En_Ps 1 (pc' := 56) (lv' := [(4, .ref a45), (0, .ref 0), (1, .int a), (2, .int b), (3, .int c)]) (st' := [.ref a45]) rfl ?_
            refine En_getR (j := 0) (g' := 21) (u := 0) rfl rfl rfl ha45 (by decide +kernel) hσ0 (by decide +kernel) (fun a67 h66 ha67 => ?_)
            have t68 : a67 = p + 12 + 4 * (a.toInt).toNat := DKk (d := a.toInt) (FXP_fr hP hX hF0 (by decide +kernel)) t46 h66 (by omega) (by omega)
            refine En_Ps 1 (pc' := 60) (lv' := [(4, .ref a45), (0, .ref 0), (1, .int a), (2, .int b), (3, .int c)]) (st' := [.int b, .ref a67]) rfl ?_
            refine En_iald (l := 0) (u := 15) rfl rfl ha67 (by decide +kernel) hσ0 (by omega) (lnI (by decide +kernel : LN _ = 13) (by omega)) (FTsgl (by decide +kernel)) (fun z70 h69 h71 h72 => ?_)
            have t73 := lc_l (d := a.toInt) (m := b.toInt) (by omega) (by omega) (by omega) (by omega)
            have t74 : Wv (26 + 24 * (a.toInt) + 2 * (b.toInt)) = z70.toInt := KN_v hK (act_lk (d := a.toInt) (m := b.toInt) (by omega) (by omega) (by omega) (by omega) (by omega) (by omega)) (by omega) (by omega) (by omega) (by omega) h69
            refine En_Ps 1 (pc' := 71) (lv' := [(4, .ref a45), (0, .ref 0), (1, .int a), (2, .int b), (3, .int c)]) (st' := [.int z70]) rfl ?_
            exact En_ret (v := some (.int z70)) rfl rfl rfl ⟨hσ0, hF0, z70, rfl, ⟨by omega, by omega, (by have e := leR_y (w := Wv) (d := a.toInt) (i := b.toInt) (q := c.toInt) (by omega) (by omega) t74; omega)⟩⟩
        · refine En_Ps 1 (pc' := 49) (lv' := [(4, .ref a45), (0, .ref 0), (1, .int a), (2, .int b), (3, .int c)]) (st' := [.int ((Int32.ofInt (-1)))]) rfl ?_
          refine En_top (by decide : (Int32.ofInt (-1)).toInt = -1) (fun z75 h76 => ?_)
          exact En_ret (v := some (.int z75)) rfl rfl rfl ⟨hσ0, hF0, z75, rfl, ⟨by omega, by omega, (by have e := leR_1 (w := Wv) (d := a.toInt) (i := b.toInt) (q := c.toInt) (by omega) (by omega); omega)⟩⟩
    · refine En_Ps 1 (pc' := 20) (lv' := [(0, .ref 0), (1, .int a), (2, .int b), (3, .int c)]) (st' := [.int (((Int8.ofInt (-2)).toInt32))]) rfl ?_
      refine En_top (by decide : ((Int8.ofInt (-2)).toInt32).toInt = -2) (fun z77 h78 => ?_)
      exact En_ret (v := some (.int z77)) rfl rfl rfl ⟨hσ0, hF0, z77, rfl, ⟨by omega, by omega, (by have e := leR_2 (w := Wv) (d := a.toInt) (i := b.toInt) (q := c.toInt) (by omega); omega)⟩⟩
/-- DoorSchool.marks(I)I -/
abbrev P_155x (σ0 : SG) (Wv : Int → Int) (a : Int32) (p : Nat) (sg : Int32) : PO := fun v σ => WT σ ∧ Fr [] σ0 σ ∧ ∃ ret : Int32, v = some (.int ret) ∧ -ret.toInt - 2 ≤ 0 ∧ ret.toInt - 16 ≤ 0 ∧ ret.toInt = mkR Wv a.toInt
set_option maxRecDepth 10000 in
set_option maxHeartbeats 4000000 in
theorem c_155x {Wv : Int → Int} (σ0 : SG) (hσ0 : WT σ0) (a : Int32) (p : Nat) (hp : TG p = 18) (h_p : (σ0 0)[9]? = some (.ref p)) (sg : Int32) (h_sg : (σ0 p)[1]? = some (.int sg)) (hp0 : -sg.toInt ≤ 0) (hP : PLA p) (hX : FXP σ0 p) (hK : KN σ0 p Wv (act Wv)) (hB : WFw Wv) (hT : TWN Wv) (hQ : 0 < Wv 7 → RULx σ0 (Wv 0)) (hq : QX Wv) : En 4 92 none mr_155 (P_155x σ0 Wv a p sg) 0 [(0, .ref 0), (1, .int a)] [] σ0 := by
  obtain ⟨hl_sg, hu_sg⟩ := WT_int hσ0 (g := 18) hp (by decide +kernel) (l := (-1)) (u := 4) (by decide +kernel) h_sg
  have hF0 : Fr [] σ0 σ0 := Fr_rfl
  have t1 : Wv (0) = sg.toInt := KN_v hK (Or.inl (by decide)) (by omega) (by omega) (by rw [lcO_lt (by decide) (by decide), Nat.add_zero]) rfl h_sg
  obtain ⟨z3, h2, h4, h5⟩ := WT_peekI hσ0 hp (by decide +kernel : FT 18 3 = (0, 0, 4)) (by decide +kernel)
  have t6 : Wv (2) = z3.toInt := KN_v hK (Or.inl (by decide)) (by omega) (by omega) (by rw [lcO_lt (by decide) (by decide), Nat.add_zero]) rfl h2
  have h7 := hB.2.2.1
  have h8 := hB.1
  have h9 := hB.2.1
  have h10 := hB.2.2.2.1
  refine En_Ps 1 (pc' := 1) (lv' := [(0, .ref 0), (1, .int a)]) (st' := [.ref 0]) rfl ?_
  refine En_getK (j := 9) h_p rfl rfl rfl (by decide +kernel : TG 0 = 0) (by decide +kernel) ?_
  refine En_Ps 1 (pc' := 5) (lv' := [(0, .ref 0), (1, .int a)]) (st' := [.int a, .ref p]) rfl ?_
  refine En_callV rfl rfl rfl rfl rfl rfl rfl rfl hp (by decide +kernel) rfl (c_47x σ0 hσ0 p hp a z3 h2) (by decide) (by decide) (fun v12 σ13 h11 => ?_)
  obtain ⟨h14, h15, z17, rfl, h16⟩ := h11
  obtain rfl : σ0 = σ13 := Fr_nil h15
  have h18 := Imp_m h16.2.2.1
  have h19 := Imp_m h16.2.2.2.1
  have h20 := Imp_m h16.2.2.2.2.1
  have h21 := Imp_m h16.2.2.2.2.2
  refine En_iEq _ rfl rfl (fun h22 => ?_) (fun h22 => ?_)
  · have h23 := Imp_m h16.2.2.2.2.1 (by omega)
    refine En_Ps 1 (pc' := 25) (lv' := [(0, .ref 0), (1, .int a)]) (st' := [.int (((Int8.ofInt (-2)).toInt32))]) rfl ?_
    refine En_top (by decide : ((Int8.ofInt (-2)).toInt32).toInt = -2) (fun z24 h25 => ?_)
    exact En_ret (v := some (.int z24)) rfl rfl rfl ⟨hσ0, hF0, z24, rfl, ⟨by omega, by omega, mkR_n (fun ⟨q1, q2⟩ => by omega) (by omega)⟩⟩
  · have h26 := Imp_m h16.2.2.1 (by omega)
    have h27 := Imp_m h16.2.2.2.1 (by omega)
    have h28 := Imp_m h16.2.2.2.2.2 (by omega)
    refine En_Ps 3 (pc' := 14) (lv' := [(0, .ref 0), (1, .int a)]) (st' := [.int a, .ref 0, .ref 0]) rfl ?_
    refine En_callV rfl rfl rfl rfl rfl rfl rfl rfl (by decide +kernel : TG 0 = 0) (by decide +kernel) rfl (c_114ax σ0 hσ0 a (geI rfl (by omega)) (leI rfl (by omega)) p hp h_p sg h_sg (by omega) hP (FXP_fr hP hX hF0 (by decide +kernel)) hK hB hT (by omega) (hQ (hq (by omega)))) (by decide) (by decide) (fun v30 σ31 h29 => ?_)
    obtain ⟨h32, h33, z35, rfl, h34⟩ := h29
    have h36 := h34.2.2
    obtain rfl : σ0 = σ31 := Fr_nil h33
    refine En_callV rfl rfl rfl rfl rfl rfl rfl rfl (by decide +kernel : TG 0 = 0) (by decide +kernel) rfl (c_156x σ0 hσ0 z35 (geI rfl (by omega)) (leI rfl (by omega)) p hp h_p sg h_sg (by omega) hP (FXP_fr hP hX hF0 (by decide +kernel)) (KN_aD (d := 4) hK) hB) (by decide) (by decide) (fun v38 σ39 h37 => ?_)
    obtain ⟨h40, h41, z43, rfl, h42⟩ := h37
    have h44 := h42.2.2
    obtain rfl : σ0 = σ39 := Fr_nil h41
    refine En_Ps 1 (pc' := 25) (lv' := [(0, .ref 0), (1, .int a)]) (st' := [.int z43]) rfl ?_
    exact En_ret (v := some (.int z43)) rfl rfl rfl ⟨hσ0, hF0, z43, rfl, ⟨by omega, by omega, mkR_y ⟨by omega, by omega⟩ h36 h44⟩⟩
/-- DoorSchool.often(I)I -/
abbrev P_158x (σ0 : SG) (Wv : Int → Int) (a : Int32) (p : Nat) (sg : Int32) : PO := fun v σ => WT σ ∧ Fr [] σ0 σ ∧ ∃ ret : Int32, v = some (.int ret) ∧ -ret.toInt - 2 ≤ 0 ∧ ret.toInt - 16 ≤ 0 ∧ ret.toInt = ofR Wv a.toInt
set_option maxRecDepth 10000 in
set_option maxHeartbeats 4000000 in
theorem c_158x {Wv : Int → Int} (σ0 : SG) (hσ0 : WT σ0) (a : Int32) (p : Nat) (hp : TG p = 18) (h_p : (σ0 0)[9]? = some (.ref p)) (sg : Int32) (h_sg : (σ0 p)[1]? = some (.int sg)) (hp0 : -sg.toInt ≤ 0) (hP : PLA p) (hX : FXP σ0 p) (hK : KN σ0 p Wv (act Wv)) (hB : WFw Wv) (hT : TWN Wv) (hQ : 0 < Wv 7 → RULx σ0 (Wv 0)) (hq : QX Wv) : En 4 92 none mr_158 (P_158x σ0 Wv a p sg) 0 [(0, .ref 0), (1, .int a)] [] σ0 := by
  obtain ⟨hl_sg, hu_sg⟩ := WT_int hσ0 (g := 18) hp (by decide +kernel) (l := (-1)) (u := 4) (by decide +kernel) h_sg
  have hF0 : Fr [] σ0 σ0 := Fr_rfl
  have t1 : Wv (0) = sg.toInt := KN_v hK (Or.inl (by decide)) (by omega) (by omega) (by rw [lcO_lt (by decide) (by decide), Nat.add_zero]) rfl h_sg
  obtain ⟨z3, h2, h4, h5⟩ := WT_peekI hσ0 hp (by decide +kernel : FT 18 3 = (0, 0, 4)) (by decide +kernel)
  have t6 : Wv (2) = z3.toInt := KN_v hK (Or.inl (by decide)) (by omega) (by omega) (by rw [lcO_lt (by decide) (by decide), Nat.add_zero]) rfl h2
  have h7 := hB.2.2.1
  have h8 := hB.1
  have h9 := hB.2.1
  have h10 := hB.2.2.2.1
  refine En_Ps 1 (pc' := 1) (lv' := [(0, .ref 0), (1, .int a)]) (st' := [.ref 0]) rfl ?_
  refine En_getK (j := 9) h_p rfl rfl rfl (by decide +kernel : TG 0 = 0) (by decide +kernel) ?_
  refine En_Ps 1 (pc' := 5) (lv' := [(0, .ref 0), (1, .int a)]) (st' := [.int a, .ref p]) rfl ?_
  refine En_callV rfl rfl rfl rfl rfl rfl rfl rfl hp (by decide +kernel) rfl (c_47x σ0 hσ0 p hp a z3 h2) (by decide) (by decide) (fun v12 σ13 h11 => ?_)
  obtain ⟨h14, h15, z17, rfl, h16⟩ := h11
  obtain rfl : σ0 = σ13 := Fr_nil h15
  have h18 := Imp_m h16.2.2.1
  have h19 := Imp_m h16.2.2.2.1
  have h20 := Imp_m h16.2.2.2.2.1
  have h21 := Imp_m h16.2.2.2.2.2
  refine En_iEq _ rfl rfl (fun h22 => ?_) (fun h22 => ?_)
  · have h23 := Imp_m h16.2.2.2.2.1 (by omega)
    refine En_Ps 1 (pc' := 24) (lv' := [(0, .ref 0), (1, .int a)]) (st' := [.int (((Int8.ofInt (-2)).toInt32))]) rfl ?_
    refine En_top (by decide : ((Int8.ofInt (-2)).toInt32).toInt = -2) (fun z24 h25 => ?_)
    exact En_ret (v := some (.int z24)) rfl rfl rfl ⟨hσ0, hF0, z24, rfl, ⟨by omega, by omega, ofR_n (fun ⟨q1, q2⟩ => by omega) (by omega)⟩⟩
  · have h26 := Imp_m h16.2.2.1 (by omega)
    have h27 := Imp_m h16.2.2.2.1 (by omega)
    have h28 := Imp_m h16.2.2.2.2.2 (by omega)
    refine En_Ps 2 (pc' := 13) (lv' := [(0, .ref 0), (1, .int a)]) (st' := [.int a, .ref 0]) rfl ?_
    refine En_callV rfl rfl rfl rfl rfl rfl rfl rfl (by decide +kernel : TG 0 = 0) (by decide +kernel) rfl (c_114ax σ0 hσ0 a (geI rfl (by omega)) (leI rfl (by omega)) p hp h_p sg h_sg (by omega) hP (FXP_fr hP hX hF0 (by decide +kernel)) hK hB hT (by omega) (hQ (hq (by omega)))) (by decide) (by decide) (fun v30 σ31 h29 => ?_)
    obtain ⟨h32, h33, z35, rfl, h34⟩ := h29
    have h36 := h34.2.2
    obtain rfl : σ0 = σ31 := Fr_nil h33
    refine En_callS rfl rfl rfl rfl rfl rfl rfl rfl rfl (c_7bx σ0 hσ0 z35 (geI rfl (by omega)) (leI rfl (by omega))) (by decide) (by decide) (fun v38 σ39 h37 => ?_)
    obtain ⟨h40, h41, z43, rfl, h42⟩ := h37
    have h44 := h42.2.2
    obtain rfl : σ0 = σ39 := Fr_nil h41
    refine En_Ps 1 (pc' := 24) (lv' := [(0, .ref 0), (1, .int a)]) (st' := [.int z43]) rfl ?_
    exact En_ret (v := some (.int z43)) rfl rfl rfl ⟨hσ0, hF0, z43, rfl, ⟨by omega, by omega, ofR_y ⟨by omega, by omega⟩ h36 h44⟩⟩
/-- DoorSchool.opens(II)I -/
abbrev P_159x (σ0 : SG) (Wv : Int → Int) (a : Int32) (b : Int32) (p : Nat) (sg : Int32) : PO := fun v σ => WT σ ∧ Fr [] σ0 σ ∧ ∃ ret : Int32, v = some (.int ret) ∧ -ret.toInt - 2 ≤ 0 ∧ ret.toInt - 1 ≤ 0 ∧ ret.toInt = opR Wv a.toInt b.toInt
set_option maxRecDepth 10000 in
set_option maxHeartbeats 4000000 in
theorem c_159x {Wv : Int → Int} (σ0 : SG) (hσ0 : WT σ0) (a : Int32) (b : Int32) (p : Nat) (hp : TG p = 18) (h_p : (σ0 0)[9]? = some (.ref p)) (sg : Int32) (h_sg : (σ0 p)[1]? = some (.int sg)) (hp0 : -sg.toInt ≤ 0) (hP : PLA p) (hX : FXP σ0 p) (hK : KN σ0 p Wv (act Wv)) (hB : WFw Wv) (hT : TWN Wv) (hQ : 0 < Wv 7 → RULx σ0 (Wv 0)) (hq : QX Wv) : En 4 92 none mr_159 (P_159x σ0 Wv a b p sg) 0 [(0, .ref 0), (1, .int a), (2, .int b)] [] σ0 := by
  obtain ⟨hl_sg, hu_sg⟩ := WT_int hσ0 (g := 18) hp (by decide +kernel) (l := (-1)) (u := 4) (by decide +kernel) h_sg
  have hF0 : Fr [] σ0 σ0 := Fr_rfl
  have t1 : Wv (0) = sg.toInt := KN_v hK (Or.inl (by decide)) (by omega) (by omega) (by rw [lcO_lt (by decide) (by decide), Nat.add_zero]) rfl h_sg
  obtain ⟨z3, h2, h4, h5⟩ := WT_peekI hσ0 hp (by decide +kernel : FT 18 3 = (0, 0, 4)) (by decide +kernel)
  have t6 : Wv (2) = z3.toInt := KN_v hK (Or.inl (by decide)) (by omega) (by omega) (by rw [lcO_lt (by decide) (by decide), Nat.add_zero]) rfl h2
  have h7 := hB.2.2.1
  have h8 := hB.1
  have h9 := hB.2.1
  refine En_Ps 1 (pc' := 1) (lv' := [(0, .ref 0), (1, .int a), (2, .int b)]) (st' := [.ref 0]) rfl ?_
  refine En_getK (j := 9) h_p rfl rfl rfl (by decide +kernel : TG 0 = 0) (by decide +kernel) ?_
  refine En_Ps 1 (pc' := 5) (lv' := [(0, .ref 0), (1, .int a), (2, .int b)]) (st' := [.int a, .ref p]) rfl ?_
  refine En_callV rfl rfl rfl rfl rfl rfl rfl rfl hp (by decide +kernel) rfl (c_47x σ0 hσ0 p hp a z3 h2) (by decide) (by decide) (fun v11 σ12 h10 => ?_)
  obtain ⟨h13, h14, z16, rfl, h15⟩ := h10
  obtain rfl : σ0 = σ12 := Fr_nil h14
  have h17 := Imp_m h15.2.2.1
  have h18 := Imp_m h15.2.2.2.1
  have h19 := Imp_m h15.2.2.2.2.1
  have h20 := Imp_m h15.2.2.2.2.2
  refine En_iEq _ rfl rfl (fun h21 => ?_) (fun h21 => ?_)
  · have h22 := Imp_m h15.2.2.2.2.1 (by omega)
    refine En_Ps 1 (pc' := 24) (lv' := [(0, .ref 0), (1, .int a), (2, .int b)]) (st' := [.int (((Int8.ofInt (-2)).toInt32))]) rfl ?_
    refine En_top (by decide : ((Int8.ofInt (-2)).toInt32).toInt = -2) (fun z23 h24 => ?_)
    exact En_ret (v := some (.int z23)) rfl rfl rfl ⟨hσ0, hF0, z23, rfl, ⟨by omega, by omega, opR_n (fun ⟨q1, q2, q3, q4, q5⟩ => by omega) (by omega)⟩⟩
  · have h25 := Imp_m h15.2.2.1 (by omega)
    have h26 := Imp_m h15.2.2.2.1 (by omega)
    have h27 := Imp_m h15.2.2.2.2.2 (by omega)
    refine En_Ps 1 (pc' := 12) (lv' := [(0, .ref 0), (1, .int a), (2, .int b)]) (st' := [.ref 0]) rfl ?_
    refine En_getK (j := 9) h_p rfl rfl rfl (by decide +kernel : TG 0 = 0) (by decide +kernel) ?_
    refine En_Ps 1 (pc' := 16) (lv' := [(0, .ref 0), (1, .int a), (2, .int b)]) (st' := [.int b, .ref p]) rfl ?_
    obtain ⟨z29, h28, h30, h31⟩ := WT_peekI hσ0 hp (by decide +kernel : FT 18 0 = (0, 0, 1601)) (by decide +kernel)
    have t32 : Wv (7) = z29.toInt := KN_v hK (Or.inl (by decide)) (by omega) (by omega) (by rw [lcO_lt (by decide) (by decide), Nat.add_zero]) rfl h28
    refine En_callV rfl rfl rfl rfl rfl rfl rfl rfl hp (by decide +kernel) rfl (c_49x σ0 hσ0 p hp b z29 h28 sg h_sg (by omega)) (by decide) (by decide) (fun v34 σ35 h33 => ?_)
    obtain ⟨h36, h37, z39, rfl, h38⟩ := h33
    have h40 := h38.2.2.2
    obtain rfl : σ0 = σ35 := Fr_nil h37
    have h41 := h40
    have h42 : pI (Wv 0) = pI (sg.toInt) := by rw [t1]
    refine En_iNe _ rfl rfl (fun h43 => ?_) (fun h43 => ?_)
    · have h44 := Imp_m h38.2.2.1 (by omega)
      have h45 := pI_rng (s := Wv 0) (by omega) (by omega)
      have h46 : 0 ≤ b.toInt ∧ b.toInt ≤ 15 := by omega
      refine En_Ps 2 (pc' := 27) (lv' := [(0, .ref 0), (1, .int a), (2, .int b)]) (st' := [.int a, .ref 0]) rfl ?_
      refine En_callV rfl rfl rfl rfl rfl rfl rfl rfl (by decide +kernel : TG 0 = 0) (by decide +kernel) rfl (c_114ax σ0 hσ0 a (geI rfl (by omega)) (leI rfl (by omega)) p hp h_p sg h_sg (by omega) hP (FXP_fr hP hX hF0 (by decide +kernel)) hK hB hT (by omega) (hQ (hq (by omega)))) (by decide) (by decide) (fun v48 σ49 h47 => ?_)
      obtain ⟨h50, h51, z53, rfl, h52⟩ := h47
      have h54 := h52.2.2
      obtain rfl : σ0 = σ49 := Fr_nil h51
      refine En_Ps 1 (pc' := 31) (lv' := [(0, .ref 0), (1, .int a), (2, .int b)]) (st' := [.int b, .int z53]) rfl ?_
      refine En_callS rfl rfl rfl rfl rfl rfl rfl rfl rfl (c_108ax σ0 hσ0 z53 b (geI rfl (by omega)) (leI rfl (by omega)) (geI rfl (by omega)) (leI rfl (by omega))) (by decide) (by decide) (fun v56 σ57 h55 => ?_)
      obtain ⟨h58, h59, z61, rfl, h60⟩ := h55
      have h62 := h60.2.2
      obtain rfl : σ0 = σ57 := Fr_nil h59
      exact En_ret (v := some (.int z61)) rfl rfl rfl ⟨hσ0, hF0, z61, rfl, ⟨by omega, by omega, opR_y ⟨by omega, by omega, by omega, by omega, by omega⟩ h62 h54⟩⟩
    · refine En_Ps 1 (pc' := 24) (lv' := [(0, .ref 0), (1, .int a), (2, .int b)]) (st' := [.int (((Int8.ofInt (-2)).toInt32))]) rfl ?_
      refine En_top (by decide : ((Int8.ofInt (-2)).toInt32).toInt = -2) (fun z63 h64 => ?_)
      exact En_ret (v := some (.int z63)) rfl rfl rfl ⟨hσ0, hF0, z63, rfl, ⟨by omega, by omega, opR_n (fun ⟨q1, q2, q3, q4, q5⟩ => by omega) (by omega)⟩⟩
/-- DoorSchool.owns(II)I -/
abbrev P_161x (σ0 : SG) (Wv : Int → Int) (a : Int32) (b : Int32) (p : Nat) (sg : Int32) : PO := fun v σ => WT σ ∧ Fr [(18, 6), (18, 7)] σ0 σ ∧ ∃ ret : Int32, v = some (.int ret) ∧ -ret.toInt - 2 ≤ 0 ∧ ret.toInt - 65535 ≤ 0 ∧ (ret.toInt = owR Wv a.toInt b.toInt ∧ (KN σ p (owW Wv a.toInt b.toInt) (act (owW Wv a.toInt b.toInt)) ∧ OUT σ0 σ p))
set_option maxRecDepth 10000 in
set_option maxHeartbeats 4000000 in
theorem c_161x {Wv : Int → Int} (σ0 : SG) (hσ0 : WT σ0) (a : Int32) (b : Int32) (p : Nat) (hp : TG p = 18) (h_p : (σ0 0)[9]? = some (.ref p)) (sg : Int32) (h_sg : (σ0 p)[1]? = some (.int sg)) (hp0 : -sg.toInt ≤ 0) (hP : PLA p) (hX : FXP σ0 p) (hK : KN σ0 p Wv (act Wv)) (hB : WFw Wv) (hT : TWN Wv) (hQ : 0 < Wv 7 → RULx σ0 (Wv 0)) (hq : QX Wv) : En 3 63 none mr_161 (P_161x σ0 Wv a b p sg) 0 [(0, .ref 0), (1, .int a), (2, .int b)] [] σ0 := by
  obtain ⟨hl_sg, hu_sg⟩ := WT_int hσ0 (g := 18) hp (by decide +kernel) (l := (-1)) (u := 4) (by decide +kernel) h_sg
  have hF0 : Fr [(18, 6), (18, 7)] σ0 σ0 := Fr_rfl
  have t1 : Wv (0) = sg.toInt := KN_v hK (Or.inl (by decide)) (by omega) (by omega) (by rw [lcO_lt (by decide) (by decide), Nat.add_zero]) rfl h_sg
  refine En_Ps 1 (pc' := 1) (lv' := [(0, .ref 0), (1, .int a), (2, .int b)]) (st' := [.ref 0]) rfl ?_
  refine En_getK (j := 9) h_p rfl rfl rfl (by decide +kernel : TG 0 = 0) (by decide +kernel) ?_
  refine En_Ps 2 (pc' := 6) (lv' := [(0, .ref 0), (1, .int a), (2, .int b)]) (st' := [.int b, .int a, .ref p]) rfl ?_
  obtain ⟨z3, h2, h4, h5⟩ := WT_peekI hσ0 hp (by decide +kernel : FT 18 0 = (0, 0, 1601)) (by decide +kernel)
  have t6 : Wv (7) = z3.toInt := KN_v hK (Or.inl (by decide)) (by omega) (by omega) (by rw [lcO_lt (by decide) (by decide), Nat.add_zero]) rfl h2
  refine En_callV rfl rfl rfl rfl rfl rfl rfl rfl hp (by decide +kernel) rfl (c_50x σ0 hσ0 p hp a b z3 h2 sg h_sg (by omega)) (by decide) (by decide) (fun v8 σ9 h7 => ?_)
  obtain ⟨h10, h11, z13, rfl, h12⟩ := h7
  have h14 := h12.2.2.2
  obtain rfl : σ0 = σ9 := Fr_nil h11
  have h15 := h14
  have h16 : pI (Wv 0) = pI (sg.toInt) := by rw [t1]
  refine En_iNe _ rfl rfl (fun h17 => ?_) (fun h17 => ?_)
  · have h18 := Imp_m h12.2.2.1 (by omega)
    have h19 := hB.2.2.1
    have h20 := hB.1
    have h21 := hB.2.1
    have h22 := hB.2.2.2.1
    refine En_Ps 1 (pc' := 16) (lv' := [(0, .ref 0), (1, .int a), (2, .int b)]) (st' := [.ref 0]) rfl ?_
    refine En_callV rfl rfl rfl rfl rfl rfl rfl rfl (by decide +kernel : TG 0 = 0) (by decide +kernel) rfl (c_160x σ0 hσ0 p hp h_p sg h_sg (by omega) hP (FXP_fr hP hX hF0 (by decide +kernel)) (KN_aD (d := 4) hK) hB (hQ (by omega))) (by decide) (by decide) (fun v24 σ25 h23 => ?_)
    obtain ⟨h26, h27, z29, rfl, h28⟩ := h23
    have h30 := h28.2.2
    obtain rfl : σ0 = σ25 := Fr_nil h27
    refine En_Ps 2 (pc' := 21) (lv' := [(3, .int z29), (0, .ref 0), (1, .int a), (2, .int b)]) (st' := [.ref 0]) rfl ?_
    refine En_getK (j := 9) h_p rfl rfl rfl (by decide +kernel : TG 0 = 0) (by decide +kernel) ?_
    refine En_Ps 1 (pc' := 25) (lv' := [(3, .int z29), (0, .ref 0), (1, .int a), (2, .int b)]) (st' := [.int a, .ref p]) rfl ?_
    refine En_put (j := 6) rfl rfl rfl hp (by decide +kernel) rfl (vI (l := 0) (u := 15) (by decide +kernel) rfl (by omega) (by omega)) hσ0 hF0 (by decide +kernel) (fun σ31 h32 h33 h34 h35 => ?_)
    refine En_Ps 1 (pc' := 29) (lv' := [(3, .int z29), (0, .ref 0), (1, .int a), (2, .int b)]) (st' := [.ref 0]) rfl ?_
    refine En_getK (j := 9) ((h35 _ _ (Or.inr (by decide))).trans h_p) rfl rfl rfl (by decide +kernel : TG 0 = 0) (by decide +kernel) ?_
    refine En_Ps 1 (pc' := 33) (lv' := [(3, .int z29), (0, .ref 0), (1, .int a), (2, .int b)]) (st' := [.int b, .ref p]) rfl ?_
    refine En_put (j := 7) rfl rfl rfl hp (by decide +kernel) rfl (vI (l := 0) (u := 15) (by decide +kernel) rfl (by omega) (by omega)) h32 h33 (by decide +kernel) (fun σ36 h37 h38 h39 h40 => ?_)
    refine En_Ps 1 (pc' := 37) (lv' := [(3, .int z29), (0, .ref 0), (1, .int a), (2, .int b)]) (st' := [.int z29]) rfl ?_
    exact En_ret (v := some (.int z29)) rfl rfl rfl ⟨h37, h38, z29, rfl, ⟨by omega, by omega, ⟨owR_y ⟨by omega, by omega, by omega, by omega, by omega, by omega⟩ h30, (by rw [owW_y (by omega)]; exact KN_two hK (PLA_B hP) h34 h35 h39 h40)⟩⟩⟩
  · refine En_Ps 1 (pc' := 14) (lv' := [(0, .ref 0), (1, .int a), (2, .int b)]) (st' := [.int (((Int8.ofInt (-2)).toInt32))]) rfl ?_
    refine En_top (by decide : ((Int8.ofInt (-2)).toInt32).toInt = -2) (fun z41 h42 => ?_)
    exact En_ret (v := some (.int z41)) rfl rfl rfl ⟨hσ0, hF0, z41, rfl, ⟨by omega, by omega, ⟨owR_n (fun ⟨q1, q2, q3, q4, q5, q6⟩ => by omega) (by omega), (by rw [owW_n (by omega)]; exact ⟨hK, OUT_0⟩)⟩⟩⟩
/-- DoorSchool.rest(I)I -/
abbrev P_163x (σ0 : SG) (Wv : Int → Int) (a : Int32) (p : Nat) (sg : Int32) : PO := fun v σ => WT σ ∧ Fr [] σ0 σ ∧ ∃ ret : Int32, v = some (.int ret) ∧ -ret.toInt - 2 ≤ 0 ∧ ret.toInt - 215 ≤ 0 ∧ ret.toInt = rtR Wv a.toInt
set_option maxRecDepth 10000 in
set_option maxHeartbeats 4000000 in
theorem c_163x {Wv : Int → Int} (σ0 : SG) (hσ0 : WT σ0) (a : Int32) (p : Nat) (hp : TG p = 18) (h_p : (σ0 0)[9]? = some (.ref p)) (sg : Int32) (h_sg : (σ0 p)[1]? = some (.int sg)) (hp0 : -sg.toInt ≤ 0) (hP : PLA p) (hX : FXP σ0 p) (hK : KN σ0 p Wv (act Wv)) (hB : WFw Wv) (hT : TWN Wv) (hQ : 0 < Wv 7 → RULx σ0 (Wv 0)) (hq : QX Wv) : En 6 138 none mr_163 (P_163x σ0 Wv a p sg) 0 [(0, .ref 0), (1, .int a)] [] σ0 := by
  obtain ⟨hl_sg, hu_sg⟩ := WT_int hσ0 (g := 18) hp (by decide +kernel) (l := (-1)) (u := 4) (by decide +kernel) h_sg
  have hF0 : Fr [] σ0 σ0 := Fr_rfl
  have t1 : Wv (0) = sg.toInt := KN_v hK (Or.inl (by decide)) (by omega) (by omega) (by rw [lcO_lt (by decide) (by decide), Nat.add_zero]) rfl h_sg
  obtain ⟨z3, h2, h4, h5⟩ := WT_peekI hσ0 hp (by decide +kernel : FT 18 3 = (0, 0, 4)) (by decide +kernel)
  have t6 : Wv (2) = z3.toInt := KN_v hK (Or.inl (by decide)) (by omega) (by omega) (by rw [lcO_lt (by decide) (by decide), Nat.add_zero]) rfl h2
  have h7 := hB.2.2.1
  have h8 := hB.1
  have h9 := hB.2.1
  have h10 := hB.2.2.2.1
  refine En_Ps 1 (pc' := 1) (lv' := [(0, .ref 0), (1, .int a)]) (st' := [.ref 0]) rfl ?_
  refine En_getK (j := 9) h_p rfl rfl rfl (by decide +kernel : TG 0 = 0) (by decide +kernel) ?_
  refine En_Ps 1 (pc' := 5) (lv' := [(0, .ref 0), (1, .int a)]) (st' := [.int a, .ref p]) rfl ?_
  refine En_callV rfl rfl rfl rfl rfl rfl rfl rfl hp (by decide +kernel) rfl (c_47x σ0 hσ0 p hp a z3 h2) (by decide) (by decide) (fun v12 σ13 h11 => ?_)
  obtain ⟨h14, h15, z17, rfl, h16⟩ := h11
  obtain rfl : σ0 = σ13 := Fr_nil h15
  have h18 := Imp_m h16.2.2.1
  have h19 := Imp_m h16.2.2.2.1
  have h20 := Imp_m h16.2.2.2.2.1
  have h21 := Imp_m h16.2.2.2.2.2
  refine En_iNe _ rfl rfl (fun h22 => ?_) (fun h22 => ?_)
  · have h23 := Imp_m h16.2.2.1 (by omega)
    have h24 := Imp_m h16.2.2.2.1 (by omega)
    have h25 := Imp_m h16.2.2.2.2.2 (by omega)
    refine En_Ps 2 (pc' := 16) (lv' := [(2, .int ((Int32.ofInt 0))), (0, .ref 0), (1, .int a)]) (st' := []) rfl ?_
    have key16 : ∀ (n16 : Nat) (y26 : Int32), 0 ≤ y26.toInt → y26.toInt ≤ 3 → -y26.toInt + 3 < (n16 : Int) → NR2 Wv a.toInt y26.toInt 0 → En 6 138 none mr_163 (P_163x σ0 Wv a p sg) 16 [(0, .ref 0), (1, .int a), (2, .int y26)] [] σ0 := by
      intro n16
      induction n16 with
      | zero =>
        intro y26 h30 h31 h32 h33
        exfalso; omega
      | succ n16 ih16 =>
        intro y26 h30 h31 h32 h33
        refine En_Ps 2 (pc' := 18) (lv' := [(0, .ref 0), (1, .int a), (2, .int y26)]) (st' := [.int ((Int32.ofInt 3)), .int y26]) rfl ?_
        refine En_icGe _ rfl (by decide : (Int32.ofInt 3).toInt = 3) rfl (fun h34 => ?_) (fun h34 => ?_)
        · refine En_Ps 1 (pc' := 64) (lv' := [(0, .ref 0), (1, .int a), (2, .int y26)]) (st' := [.int ((Int32.ofInt (-1)))]) rfl ?_
          refine En_top (by decide : (Int32.ofInt (-1)).toInt = -1) (fun z35 h36 => ?_)
          exact En_ret (v := some (.int z35)) rfl rfl rfl ⟨hσ0, hF0, z35, rfl, ⟨by omega, by omega, rtR_0 ⟨by omega, by omega⟩ (by omega) (by omega) h33 (by omega) (by omega)⟩⟩
        · refine En_Ps 2 (pc' := 23) (lv' := [(3, .int ((Int32.ofInt 0))), (0, .ref 0), (1, .int a), (2, .int y26)]) (st' := []) rfl ?_
          have key23 : ∀ (n23 : Nat) (y37 : Int32), 0 ≤ y37.toInt → y37.toInt ≤ 16 → -y37.toInt + 16 < (n23 : Int) → NR2 Wv a.toInt y26.toInt y37.toInt → y37.toInt ≤ pI (Wv 0) → En 6 138 none mr_163 (P_163x σ0 Wv a p sg) 23 [(0, .ref 0), (1, .int a), (2, .int y26), (3, .int y37)] [] σ0 := by
            intro n23
            induction n23 with
            | zero =>
              intro y37 h41 h42 h43 h44 h45
              exfalso; omega
            | succ n23 ih23 =>
              intro y37 h41 h42 h43 h44 h45
              refine En_Ps 2 (pc' := 25) (lv' := [(0, .ref 0), (1, .int a), (2, .int y26), (3, .int y37)]) (st' := [.ref 0, .int y37]) rfl ?_
              refine En_getK (j := 9) h_p rfl rfl rfl (by decide +kernel : TG 0 = 0) (by decide +kernel) ?_
              refine En_callV rfl rfl rfl rfl rfl rfl rfl rfl hp (by decide +kernel) rfl (c_51x σ0 hσ0 p hp sg h_sg (by omega)) (by decide) (by decide) (fun v47 σ48 h46 => ?_)
              obtain ⟨h49, h50, z52, rfl, h51⟩ := h46
              have h53 := h51.2.2
              obtain rfl : σ0 = σ48 := Fr_nil h50
              have h54 := h53
              have h55 : pI (Wv 0) = pI (sg.toInt) := by rw [t1]
              refine En_icGe _ rfl rfl rfl (fun h56 => ?_) (fun h56 => ?_)
              · refine En_Ps 1 (pc' := 60) (lv' := [(2, .int ((y26 + Int32.ofInt 1))), (0, .ref 0), (1, .int a), (3, .int y37)]) (st' := []) rfl ?_
                refine En_lv1 (addI rfl (by decide : (Int32.ofInt 1).toInt = 1) (by omega) (by omega)) (fun z57 h58 => ?_)
                refine En_Ps 1 (pc' := 16) (lv' := [(2, .int z57), (0, .ref 0), (1, .int a), (3, .int y37)]) (st' := []) rfl ?_
                refine En_lv (lv := [(0, .ref 0), (1, .int a), (2, .int z57)]) ⟨rfl, rfl, rfl, trivial⟩ ?_
                exact ih16 z57 (by omega) (by omega) (by omega) (NR2_y h44 (by omega) (by omega) 0 rfl)
              · refine En_Ps 4 (pc' := 38) (lv' := [(0, .ref 0), (1, .int a), (2, .int y26), (3, .int y37)]) (st' := [.int y37, .int y26, .int a, .ref 0]) rfl ?_
                refine En_callV rfl rfl rfl rfl rfl rfl rfl rfl (by decide +kernel : TG 0 = 0) (by decide +kernel) rfl (c_145x σ0 hσ0 a y26 y37 (geI rfl (by omega)) (leI rfl (by omega)) (geI rfl (by omega)) (leI rfl (by omega)) (geI rfl (by omega)) (leI rfl (by omega)) p hp h_p sg h_sg (by omega) hP (FXP_fr hP hX hF0 (by decide +kernel)) hK hB (hQ (hq (by omega))) (by omega)) (by decide) (by decide) (fun v60 σ61 h59 => ?_)
                obtain ⟨h62, h63, z65, rfl, h64⟩ := h59
                have h66 := h64.2.2
                obtain rfl : σ0 = σ61 := Fr_nil h63
                refine En_iEq _ rfl rfl (fun h67 => ?_) (fun h67 => ?_)
                · refine En_Ps 1 (pc' := 54) (lv' := [(3, .int ((y37 + Int32.ofInt 1))), (0, .ref 0), (1, .int a), (2, .int y26)]) (st' := []) rfl ?_
                  refine En_lv1 (addI rfl (by decide : (Int32.ofInt 1).toInt = 1) (by omega) (by omega)) (fun z68 h69 => ?_)
                  refine En_Ps 1 (pc' := 23) (lv' := [(3, .int z68), (0, .ref 0), (1, .int a), (2, .int y26)]) (st' := []) rfl ?_
                  refine En_lv (lv := [(0, .ref 0), (1, .int a), (2, .int y26), (3, .int z68)]) ⟨rfl, rfl, rfl, rfl, trivial⟩ ?_
                  exact ih23 z68 (by omega) (by omega) (by omega) (NR2_s h44 (by rcases h66 with e9 | e9; exfalso; omega; exact e9.2) (by omega)) ((by omega))
                · refine En_Ps 3 (pc' := 48) (lv' := [(0, .ref 0), (1, .int a), (2, .int y26), (3, .int y37)]) (st' := [.int (((((Int8.ofInt 100).toInt32)) * y26))]) rfl ?_
                  refine En_top (mulI (by decide : ((Int8.ofInt 100).toInt32).toInt = 100) rfl (Z := 100 * y26.toInt) (by omega) (by omega) (by omega)) (fun z70 h71 => ?_)
                  refine En_Ps 2 (pc' := 50) (lv' := [(0, .ref 0), (1, .int a), (2, .int y26), (3, .int y37)]) (st' := [.int ((z70 + y37))]) rfl ?_
                  refine En_top (addI rfl rfl (by omega) (by omega)) (fun z72 h73 => ?_)
                  exact En_ret (v := some (.int z72)) rfl rfl rfl ⟨hσ0, hF0, z72, rfl, ⟨by omega, by omega, rtR_y ⟨by omega, by omega⟩ (by omega) (by omega) (y := y26.toInt) (q := y37.toInt) (by omega) (by omega) (by omega) (by omega) (by rcases h66 with e9 | e9; exact e9.2; exfalso; omega) h44 (by omega)⟩⟩
          have := (by decide : (Int32.ofInt 0).toInt = 0)
          refine En_lv (lv := [(0, .ref 0), (1, .int a), (2, .int y26), (3, .int ((Int32.ofInt 0)))]) ⟨rfl, rfl, rfl, rfl, trivial⟩ ?_
          exact key23 (Int.toNat (16) + 1) ((Int32.ofInt 0)) (by omega) (by omega) (by omega) ((by have e9 := h33; first | (rw [show (Int32.ofInt 0).toInt = 0 from by decide]; exact e9) | exact e9)) ((by have := pI_pos (Wv 0); omega))
    have := (by decide : (Int32.ofInt 0).toInt = 0)
    refine En_lv (lv := [(0, .ref 0), (1, .int a), (2, .int ((Int32.ofInt 0)))]) ⟨rfl, rfl, rfl, trivial⟩ ?_
    exact key16 (Int.toNat (3) + 1) ((Int32.ofInt 0)) (by omega) (by omega) (by omega) (NR2_0 (by omega) rfl)
  · have h74 := Imp_m h16.2.2.2.2.1 (by omega)
    refine En_Ps 1 (pc' := 13) (lv' := [(0, .ref 0), (1, .int a)]) (st' := [.int (((Int8.ofInt (-2)).toInt32))]) rfl ?_
    refine En_top (by decide : ((Int8.ofInt (-2)).toInt32).toInt = -2) (fun z75 h76 => ?_)
    exact En_ret (v := some (.int z75)) rfl rfl rfl ⟨hσ0, hF0, z75, rfl, ⟨by omega, by omega, rtR_n (fun ⟨q1, q2⟩ => by omega) (by omega)⟩⟩
/-- DoorSchool.rests(I)I -/
abbrev P_164x (σ0 : SG) (Wv : Int → Int) (a : Int32) (p : Nat) (sg : Int32) : PO := fun v σ => WT σ ∧ Fr [] σ0 σ ∧ ∃ ret : Int32, v = some (.int ret) ∧ -ret.toInt - 2 ≤ 0 ∧ ret.toInt - 81 ≤ 0 ∧ ret.toInt = rzR Wv a.toInt
set_option maxRecDepth 10000 in
set_option maxHeartbeats 4000000 in
theorem c_164x {Wv : Int → Int} (σ0 : SG) (hσ0 : WT σ0) (a : Int32) (p : Nat) (hp : TG p = 18) (h_p : (σ0 0)[9]? = some (.ref p)) (sg : Int32) (h_sg : (σ0 p)[1]? = some (.int sg)) (hp0 : -sg.toInt ≤ 0) (hP : PLA p) (hX : FXP σ0 p) (hK : KN σ0 p Wv (act Wv)) (hB : WFw Wv) (hT : TWN Wv) (hQ : 0 < Wv 7 → RULx σ0 (Wv 0)) (hq : QX Wv) : En 6 138 none mr_164 (P_164x σ0 Wv a p sg) 0 [(0, .ref 0), (1, .int a)] [] σ0 := by
  obtain ⟨hl_sg, hu_sg⟩ := WT_int hσ0 (g := 18) hp (by decide +kernel) (l := (-1)) (u := 4) (by decide +kernel) h_sg
  have hF0 : Fr [] σ0 σ0 := Fr_rfl
  have t1 : Wv (0) = sg.toInt := KN_v hK (Or.inl (by decide)) (by omega) (by omega) (by rw [lcO_lt (by decide) (by decide), Nat.add_zero]) rfl h_sg
  obtain ⟨z3, h2, h4, h5⟩ := WT_peekI hσ0 hp (by decide +kernel : FT 18 3 = (0, 0, 4)) (by decide +kernel)
  have t6 : Wv (2) = z3.toInt := KN_v hK (Or.inl (by decide)) (by omega) (by omega) (by rw [lcO_lt (by decide) (by decide), Nat.add_zero]) rfl h2
  have h7 := hB.2.2.1
  have h8 := hB.1
  have h9 := hB.2.1
  have h10 := hB.2.2.2.1
  refine En_Ps 1 (pc' := 1) (lv' := [(0, .ref 0), (1, .int a)]) (st' := [.ref 0]) rfl ?_
  refine En_getK (j := 9) h_p rfl rfl rfl (by decide +kernel : TG 0 = 0) (by decide +kernel) ?_
  refine En_Ps 1 (pc' := 5) (lv' := [(0, .ref 0), (1, .int a)]) (st' := [.int a, .ref p]) rfl ?_
  refine En_callV rfl rfl rfl rfl rfl rfl rfl rfl hp (by decide +kernel) rfl (c_47x σ0 hσ0 p hp a z3 h2) (by decide) (by decide) (fun v12 σ13 h11 => ?_)
  obtain ⟨h14, h15, z17, rfl, h16⟩ := h11
  obtain rfl : σ0 = σ13 := Fr_nil h15
  have h18 := Imp_m h16.2.2.1
  have h19 := Imp_m h16.2.2.2.1
  have h20 := Imp_m h16.2.2.2.2.1
  have h21 := Imp_m h16.2.2.2.2.2
  refine En_iNe _ rfl rfl (fun h22 => ?_) (fun h22 => ?_)
  · have h23 := Imp_m h16.2.2.1 (by omega)
    have h24 := Imp_m h16.2.2.2.1 (by omega)
    have h25 := Imp_m h16.2.2.2.2.2 (by omega)
    refine En_Ps 4 (pc' := 18) (lv' := [(3, .int ((Int32.ofInt 0))), (2, .int ((Int32.ofInt 0))), (0, .ref 0), (1, .int a)]) (st' := []) rfl ?_
    have key18 : ∀ (n18 : Nat) (y26 : Int32) (y27 : Int32), 0 ≤ y26.toInt → y26.toInt ≤ 81 → 0 ≤ y27.toInt → y27.toInt ≤ 3 → -y27.toInt + 3 < (n18 : Int) → y26.toInt = RSs Wv a.toInt (y27.toInt).toNat → En 6 138 none mr_164 (P_164x σ0 Wv a p sg) 18 [(0, .ref 0), (1, .int a), (2, .int y26), (3, .int y27)] [] σ0 := by
      intro n18
      induction n18 with
      | zero =>
        intro y26 y27 h31 h32 h33 h34 h35 h36
        exfalso; omega
      | succ n18 ih18 =>
        intro y26 y27 h31 h32 h33 h34 h35 h36
        refine En_Ps 2 (pc' := 20) (lv' := [(0, .ref 0), (1, .int a), (2, .int y26), (3, .int y27)]) (st' := [.int ((Int32.ofInt 3)), .int y27]) rfl ?_
        refine En_icGe _ rfl (by decide : (Int32.ofInt 3).toInt = 3) rfl (fun h37 => ?_) (fun h37 => ?_)
        · refine En_Ps 1 (pc' := 65) (lv' := [(0, .ref 0), (1, .int a), (2, .int y26), (3, .int y27)]) (st' := [.int y26]) rfl ?_
          exact En_ret (v := some (.int y26)) rfl rfl rfl ⟨hσ0, hF0, y26, rfl, ⟨by omega, by omega, rzR_y ⟨by omega, by omega⟩ (y := y27.toInt) (by omega) h36⟩⟩
        · refine En_Ps 2 (pc' := 26) (lv' := [(4, .int ((Int32.ofInt 0))), (0, .ref 0), (1, .int a), (2, .int y26), (3, .int y27)]) (st' := []) rfl ?_
          have key26 : ∀ (n26 : Nat) (y38 : Int32) (y39 : Int32), 0 ≤ y38.toInt → y38.toInt ≤ 81 → 0 ≤ y39.toInt → y39.toInt ≤ 16 → -y39.toInt + 16 < (n26 : Int) → y38.toInt = RSc Wv a.toInt y27.toInt y39.toInt → y39.toInt ≤ pI (Wv 0) → En 6 138 none mr_164 (P_164x σ0 Wv a p sg) 26 [(0, .ref 0), (1, .int a), (2, .int y38), (3, .int y27), (4, .int y39)] [] σ0 := by
            intro n26
            induction n26 with
            | zero =>
              intro y38 y39 h43 h44 h45 h46 h47 h48 h49
              exfalso; omega
            | succ n26 ih26 =>
              intro y38 y39 h43 h44 h45 h46 h47 h48 h49
              refine En_Ps 2 (pc' := 29) (lv' := [(0, .ref 0), (1, .int a), (2, .int y38), (3, .int y27), (4, .int y39)]) (st' := [.ref 0, .int y39]) rfl ?_
              refine En_getK (j := 9) h_p rfl rfl rfl (by decide +kernel : TG 0 = 0) (by decide +kernel) ?_
              refine En_callV rfl rfl rfl rfl rfl rfl rfl rfl hp (by decide +kernel) rfl (c_51x σ0 hσ0 p hp sg h_sg (by omega)) (by decide) (by decide) (fun v51 σ52 h50 => ?_)
              obtain ⟨h53, h54, z56, rfl, h55⟩ := h50
              have h57 := h55.2.2
              obtain rfl : σ0 = σ52 := Fr_nil h54
              have h58 := h57
              have h59 : pI (Wv 0) = pI (sg.toInt) := by rw [t1]
              have h60 := RSc_rg (by omega) (by omega) (by omega) (by omega) h48
              refine En_icGe _ rfl rfl rfl (fun h61 => ?_) (fun h61 => ?_)
              · refine En_Ps 1 (pc' := 61) (lv' := [(3, .int ((y27 + Int32.ofInt 1))), (0, .ref 0), (1, .int a), (2, .int y38), (4, .int y39)]) (st' := []) rfl ?_
                refine En_lv1 (addI rfl (by decide : (Int32.ofInt 1).toInt = 1) (by omega) (by omega)) (fun z62 h63 => ?_)
                refine En_Ps 1 (pc' := 18) (lv' := [(3, .int z62), (0, .ref 0), (1, .int a), (2, .int y38), (4, .int y39)]) (st' := []) rfl ?_
                refine En_lv (lv := [(0, .ref 0), (1, .int a), (2, .int y38), (3, .int z62)]) ⟨rfl, rfl, rfl, rfl, trivial⟩ ?_
                exact ih18 y38 z62 (by omega) (by omega) (by omega) (by omega) (by omega) (RSs_s (by omega) h48 (q := y39.toInt) (by omega) (by omega) (by omega))
              · refine En_Ps 4 (pc' := 43) (lv' := [(0, .ref 0), (1, .int a), (2, .int y38), (3, .int y27), (4, .int y39)]) (st' := [.int y39, .int y27, .int a, .ref 0]) rfl ?_
                refine En_callV rfl rfl rfl rfl rfl rfl rfl rfl (by decide +kernel : TG 0 = 0) (by decide +kernel) rfl (c_145x σ0 hσ0 a y27 y39 (geI rfl (by omega)) (leI rfl (by omega)) (geI rfl (by omega)) (leI rfl (by omega)) (geI rfl (by omega)) (leI rfl (by omega)) p hp h_p sg h_sg (by omega) hP (FXP_fr hP hX hF0 (by decide +kernel)) hK hB (hQ (hq (by omega))) (by omega)) (by decide) (by decide) (fun v65 σ66 h64 => ?_)
                obtain ⟨h67, h68, z70, rfl, h69⟩ := h64
                have h71 := h69.2.2
                obtain rfl : σ0 = σ66 := Fr_nil h68
                refine En_iEq _ rfl rfl (fun h72 => ?_) (fun h72 => ?_)
                · refine En_Ps 1 (pc' := 55) (lv' := [(4, .int ((y39 + Int32.ofInt 1))), (0, .ref 0), (1, .int a), (2, .int y38), (3, .int y27)]) (st' := []) rfl ?_
                  refine En_lv1 (addI rfl (by decide : (Int32.ofInt 1).toInt = 1) (by omega) (by omega)) (fun z73 h74 => ?_)
                  refine En_Ps 1 (pc' := 26) (lv' := [(4, .int z73), (0, .ref 0), (1, .int a), (2, .int y38), (3, .int y27)]) (st' := []) rfl ?_
                  refine En_lv (lv := [(0, .ref 0), (1, .int a), (2, .int y38), (3, .int y27), (4, .int z73)]) ⟨rfl, rfl, rfl, rfl, rfl, trivial⟩ ?_
                  exact ih26 y38 z73 (by omega) (by omega) (by omega) (by omega) (by omega) ((by first | exact RSc_y (by omega) h48 (by rcases h71 with e9 | e9; exact e9.2; exfalso; omega) (by omega) (by omega) | exact RSc_n (by omega) h48 (by rcases h71 with e9 | e9; exfalso; omega; exact e9.2) (by omega) (by omega))) ((by omega))
                · refine En_Ps 1 (pc' := 52) (lv' := [(2, .int ((y38 + Int32.ofInt 1))), (0, .ref 0), (1, .int a), (3, .int y27), (4, .int y39)]) (st' := []) rfl ?_
                  refine En_lv1 (addI rfl (by decide : (Int32.ofInt 1).toInt = 1) (by omega) (by omega)) (fun z75 h76 => ?_)
                  refine En_Ps 1 (pc' := 55) (lv' := [(4, .int ((y39 + Int32.ofInt 1))), (2, .int z75), (0, .ref 0), (1, .int a), (3, .int y27)]) (st' := []) rfl ?_
                  refine En_lv1 (addI rfl (by decide : (Int32.ofInt 1).toInt = 1) (by omega) (by omega)) (fun z77 h78 => ?_)
                  refine En_Ps 1 (pc' := 26) (lv' := [(4, .int z77), (2, .int z75), (0, .ref 0), (1, .int a), (3, .int y27)]) (st' := []) rfl ?_
                  refine En_lv (lv := [(0, .ref 0), (1, .int a), (2, .int z75), (3, .int y27), (4, .int z77)]) ⟨rfl, rfl, rfl, rfl, rfl, trivial⟩ ?_
                  exact ih26 z75 z77 (by omega) (by omega) (by omega) (by omega) (by omega) ((by first | exact RSc_y (by omega) h48 (by rcases h71 with e9 | e9; exact e9.2; exfalso; omega) (by omega) (by omega) | exact RSc_n (by omega) h48 (by rcases h71 with e9 | e9; exfalso; omega; exact e9.2) (by omega) (by omega))) ((by omega))
          have := (by decide : (Int32.ofInt 0).toInt = 0)
          refine En_lv (lv := [(0, .ref 0), (1, .int a), (2, .int y26), (3, .int y27), (4, .int ((Int32.ofInt 0)))]) ⟨rfl, rfl, rfl, rfl, rfl, trivial⟩ ?_
          exact key26 (Int.toNat (16) + 1) y26 ((Int32.ofInt 0)) (by omega) (by omega) (by omega) (by omega) (by omega) (RSc_0 h36 (by omega)) ((by have := pI_pos (Wv 0); omega))
    have := (by decide : (Int32.ofInt 0).toInt = 0)
    have := (by decide : (Int32.ofInt 0).toInt = 0)
    refine En_lv (lv := [(0, .ref 0), (1, .int a), (2, .int ((Int32.ofInt 0))), (3, .int ((Int32.ofInt 0)))]) ⟨rfl, rfl, rfl, rfl, trivial⟩ ?_
    exact key18 (Int.toNat (3) + 1) ((Int32.ofInt 0)) ((Int32.ofInt 0)) (by omega) (by omega) (by omega) (by omega) (by omega) (RSs_0 (by omega) (by omega))
  · have h79 := Imp_m h16.2.2.2.2.1 (by omega)
    refine En_Ps 1 (pc' := 13) (lv' := [(0, .ref 0), (1, .int a)]) (st' := [.int (((Int8.ofInt (-2)).toInt32))]) rfl ?_
    refine En_top (by decide : ((Int8.ofInt (-2)).toInt32).toInt = -2) (fun z80 h81 => ?_)
    exact En_ret (v := some (.int z80)) rfl rfl rfl ⟨hσ0, hF0, z80, rfl, ⟨by omega, by omega, rzR_n (fun ⟨q1, q2⟩ => by omega) (by omega)⟩⟩
/-- DoorSchool.row(III)I -/
abbrev P_165x (σ0 : SG) (a : Int32) (b : Int32) (c : Int32) (p : Nat) (sg : Int32) : PO := fun v σ => WT σ ∧ Fr [(33, 1), (33, 2), (33, 3), (34, 0)] σ0 σ ∧ ∃ ret : Int32, v = some (.int ret) ∧ -ret.toInt - 3 ≤ 0 ∧ ret.toInt ≤ 0 ∧ Imp (-a.toInt ≤ 0 ∧ a.toInt - 3 ≤ 0 ∧ -b.toInt ≤ 0 ∧ b.toInt - 3 ≤ 0 ∧ c.toInt - 60 ≤ 0 ∧ -c.toInt ≤ 0) (ret.toInt ≤ 0 ∧ -ret.toInt ≤ 0) ∧ Imp (-a.toInt ≤ 0 ∧ a.toInt - 3 ≤ 0 ∧ -b.toInt ≤ 0 ∧ b.toInt - 3 ≤ 0 ∧ c.toInt - 60 ≤ 0 ∧ c.toInt + 1 ≤ 0) (ret.toInt + 3 ≤ 0 ∧ -ret.toInt - 3 ≤ 0) ∧ Imp (a.toInt + 1 ≤ 0) (ret.toInt + 2 ≤ 0 ∧ -ret.toInt - 2 ≤ 0) ∧ Imp (-a.toInt + 4 ≤ 0) (ret.toInt + 2 ≤ 0 ∧ -ret.toInt - 2 ≤ 0) ∧ Imp (b.toInt + 1 ≤ 0) (ret.toInt + 2 ≤ 0 ∧ -ret.toInt - 2 ≤ 0) ∧ Imp (-b.toInt + 4 ≤ 0) (ret.toInt + 2 ≤ 0 ∧ -ret.toInt - 2 ≤ 0) ∧ Imp (-c.toInt + 61 ≤ 0) (ret.toInt + 2 ≤ 0 ∧ -ret.toInt - 2 ≤ 0)
set_option maxRecDepth 10000 in
set_option maxHeartbeats 4000000 in
theorem c_165x (σ0 : SG) (hσ0 : WT σ0) (a : Int32) (b : Int32) (c : Int32) (p : Nat) (hp : TG p = 18) (h_p : (σ0 0)[9]? = some (.ref p)) (sg : Int32) (h_sg : (σ0 p)[1]? = some (.int sg)) (hp0 : -sg.toInt ≤ 0) : En 2 46 none mr_165 (P_165x σ0 a b c p sg) 0 [(0, .ref 0), (1, .int a), (2, .int b), (3, .int c)] [] σ0 := by
  obtain ⟨hl_sg, hu_sg⟩ := WT_int hσ0 (g := 18) hp (by decide +kernel) (l := (-1)) (u := 4) (by decide +kernel) h_sg
  have hF0 : Fr [(33, 1), (33, 2), (33, 3), (34, 0)] σ0 σ0 := Fr_rfl
  refine En_Ps 1 (pc' := 1) (lv' := [(0, .ref 0), (1, .int a), (2, .int b), (3, .int c)]) (st' := [.int a]) rfl ?_
  refine En_callS rfl rfl rfl rfl rfl rfl rfl rfl rfl (c_147 σ0 hσ0 a) (by decide) (by decide) (fun v2 σ3 h1 => ?_)
  obtain ⟨h4, h5, z7, rfl, h6⟩ := h1
  have h8 := Fr_trans hF0 h5 (by decide +kernel)
  refine En_iEq _ rfl rfl (fun h9 => ?_) (fun h9 => ?_)
  · refine En_Ps 1 (pc' := 24) (lv' := [(0, .ref 0), (1, .int a), (2, .int b), (3, .int c)]) (st' := [.int (((Int8.ofInt (-2)).toInt32))]) rfl ?_
    refine En_top (by decide : ((Int8.ofInt (-2)).toInt32).toInt = -2) (fun z10 h11 => ?_)
    exact En_ret (v := some (.int z10)) rfl rfl rfl ⟨h4, h8, z10, rfl, ⟨by omega, by omega, fun _ => by omega, fun _ => by omega, fun _ => by omega, fun _ => by omega, fun _ => by omega, fun _ => by omega, fun _ => by omega⟩⟩
  · refine En_Ps 1 (pc' := 8) (lv' := [(0, .ref 0), (1, .int a), (2, .int b), (3, .int c)]) (st' := [.int b]) rfl ?_
    refine En_iLt _ rfl rfl (fun h12 => ?_) (fun h12 => ?_)
    · refine En_Ps 1 (pc' := 24) (lv' := [(0, .ref 0), (1, .int a), (2, .int b), (3, .int c)]) (st' := [.int (((Int8.ofInt (-2)).toInt32))]) rfl ?_
      refine En_top (by decide : ((Int8.ofInt (-2)).toInt32).toInt = -2) (fun z13 h14 => ?_)
      exact En_ret (v := some (.int z13)) rfl rfl rfl ⟨h4, h8, z13, rfl, ⟨by omega, by omega, fun _ => by omega, fun _ => by omega, fun _ => by omega, fun _ => by omega, fun _ => by omega, fun _ => by omega, fun _ => by omega⟩⟩
    · refine En_Ps 2 (pc' := 13) (lv' := [(0, .ref 0), (1, .int a), (2, .int b), (3, .int c)]) (st' := [.int ((Int32.ofInt 4)), .int b]) rfl ?_
      refine En_icGe _ rfl (by decide : (Int32.ofInt 4).toInt = 4) rfl (fun h15 => ?_) (fun h15 => ?_)
      · refine En_Ps 1 (pc' := 24) (lv' := [(0, .ref 0), (1, .int a), (2, .int b), (3, .int c)]) (st' := [.int (((Int8.ofInt (-2)).toInt32))]) rfl ?_
        refine En_top (by decide : ((Int8.ofInt (-2)).toInt32).toInt = -2) (fun z16 h17 => ?_)
        exact En_ret (v := some (.int z16)) rfl rfl rfl ⟨h4, h8, z16, rfl, ⟨by omega, by omega, fun _ => by omega, fun _ => by omega, fun _ => by omega, fun _ => by omega, fun _ => by omega, fun _ => by omega, fun _ => by omega⟩⟩
      · refine En_Ps 2 (pc' := 19) (lv' := [(0, .ref 0), (1, .int a), (2, .int b), (3, .int c)]) (st' := [.int (((Int8.ofInt 60).toInt32)), .int c]) rfl ?_
        refine En_icLe _ rfl (by decide : ((Int8.ofInt 60).toInt32).toInt = 60) rfl (fun h18 => ?_) (fun h18 => ?_)
        · refine En_Ps 1 (pc' := 26) (lv' := [(0, .ref 0), (1, .int a), (2, .int b), (3, .int c)]) (st' := [.int c]) rfl ?_
          refine En_iGe _ rfl rfl (fun h19 => ?_) (fun h19 => ?_)
          · refine En_Ps 1 (pc' := 33) (lv' := [(0, .ref 0), (1, .int a), (2, .int b), (3, .int c)]) (st' := [.ref 0]) rfl ?_
            refine En_getU (j := 6) (u := 150) (g' := 32) (q := 0) rfl rfl rfl (by decide +kernel : TG 0 = 0) (by decide +kernel) h4 (by decide +kernel) (by decide +kernel) (fun h20 => ?_)
            refine En_Ps 1 (pc' := 37) (lv' := [(0, .ref 0), (1, .int a), (2, .int b), (3, .int c)]) (st' := [.int a, .ref 150]) rfl ?_
            refine En_aald (g' := 33) (u := 0) rfl rfl (by decide +kernel : TG 150 = 32) (by decide +kernel) h4 (by omega) (lnI (by decide +kernel : LN _ = 4) (by omega)) (FTsgl (by decide +kernel)) (fun a23 h22 ha23 => ?_)
            refine En_Ps 2 (pc' := 40) (lv' := [(0, .ref 0), (1, .int a), (2, .int b), (3, .int c)]) (st' := [.int c, .int b, .ref a23]) rfl ?_
            refine En_callV rfl rfl rfl rfl rfl rfl rfl rfl ha23 (by decide +kernel) rfl (c_84 σ3 h4 a23 ha23 b c (geI rfl (by omega)) (leI rfl (by omega)) (geI rfl (by omega)) (leI rfl (by omega))) (by decide) (by decide) (fun v25 σ26 h24 => ?_)
            obtain ⟨h27, h28, rfl, h29⟩ := h24
            have h30 := Fr_trans h8 h28 (by decide +kernel)
            refine En_Ps 1 (pc' := 44) (lv' := [(0, .ref 0), (1, .int a), (2, .int b), (3, .int c)]) (st' := [.int ((Int32.ofInt 0))]) rfl ?_
            refine En_top (by decide : (Int32.ofInt 0).toInt = 0) (fun z31 h32 => ?_)
            exact En_ret (v := some (.int z31)) rfl rfl rfl ⟨h27, h30, z31, rfl, ⟨by omega, by omega, fun _ => by omega, fun _ => by omega, fun _ => by omega, fun _ => by omega, fun _ => by omega, fun _ => by omega, fun _ => by omega⟩⟩
          · refine En_Ps 1 (pc' := 31) (lv' := [(0, .ref 0), (1, .int a), (2, .int b), (3, .int c)]) (st' := [.int (((Int8.ofInt (-3)).toInt32))]) rfl ?_
            refine En_top (by decide : ((Int8.ofInt (-3)).toInt32).toInt = -3) (fun z33 h34 => ?_)
            exact En_ret (v := some (.int z33)) rfl rfl rfl ⟨h4, h8, z33, rfl, ⟨by omega, by omega, fun _ => by omega, fun _ => by omega, fun _ => by omega, fun _ => by omega, fun _ => by omega, fun _ => by omega, fun _ => by omega⟩⟩
        · refine En_Ps 1 (pc' := 24) (lv' := [(0, .ref 0), (1, .int a), (2, .int b), (3, .int c)]) (st' := [.int (((Int8.ofInt (-2)).toInt32))]) rfl ?_
          refine En_top (by decide : ((Int8.ofInt (-2)).toInt32).toInt = -2) (fun z35 h36 => ?_)
          exact En_ret (v := some (.int z35)) rfl rfl rfl ⟨h4, h8, z35, rfl, ⟨by omega, by omega, fun _ => by omega, fun _ => by omega, fun _ => by omega, fun _ => by omega, fun _ => by omega, fun _ => by omega, fun _ => by omega⟩⟩
/-- DoorSchool.rule(II)I -/
abbrev P_166x (σ0 : SG) (Wv : Int → Int) (a : Int32) (b : Int32) (p : Nat) (sg : Int32) : PO := fun v σ => WT σ ∧ Fr [] σ0 σ ∧ ∃ ret : Int32, v = some (.int ret) ∧ -ret.toInt - 2 ≤ 0 ∧ ret.toInt - 80 ≤ 0 ∧ ret.toInt = ruR Wv a.toInt b.toInt
set_option maxRecDepth 10000 in
set_option maxHeartbeats 4000000 in
theorem c_166x {Wv : Int → Int} (σ0 : SG) (hσ0 : WT σ0) (a : Int32) (b : Int32) (p : Nat) (hp : TG p = 18) (h_p : (σ0 0)[9]? = some (.ref p)) (sg : Int32) (h_sg : (σ0 p)[1]? = some (.int sg)) (hp0 : -sg.toInt ≤ 0) (hP : PLA p) (hX : FXP σ0 p) (hK : KN σ0 p Wv (act Wv)) (hB : WFw Wv) (hT : TWN Wv) (hQ : 0 < Wv 7 → RULx σ0 (Wv 0)) (hq : QX Wv) : En 2 45 none mr_166 (P_166x σ0 Wv a b p sg) 0 [(0, .ref 0), (1, .int a), (2, .int b)] [] σ0 := by
  obtain ⟨hl_sg, hu_sg⟩ := WT_int hσ0 (g := 18) hp (by decide +kernel) (l := (-1)) (u := 4) (by decide +kernel) h_sg
  have hF0 : Fr [] σ0 σ0 := Fr_rfl
  have t1 : Wv (0) = sg.toInt := KN_v hK (Or.inl (by decide)) (by omega) (by omega) (by rw [lcO_lt (by decide) (by decide), Nat.add_zero]) rfl h_sg
  obtain ⟨z3, h2, h4, h5⟩ := WT_peekI hσ0 hp (by decide +kernel : FT 18 3 = (0, 0, 4)) (by decide +kernel)
  have t6 : Wv (2) = z3.toInt := KN_v hK (Or.inl (by decide)) (by omega) (by omega) (by rw [lcO_lt (by decide) (by decide), Nat.add_zero]) rfl h2
  have h7 := hB.2.2.1
  have h8 := hB.1
  have h9 := hB.2.1
  refine En_Ps 1 (pc' := 1) (lv' := [(0, .ref 0), (1, .int a), (2, .int b)]) (st' := [.ref 0]) rfl ?_
  refine En_getK (j := 9) h_p rfl rfl rfl (by decide +kernel : TG 0 = 0) (by decide +kernel) ?_
  refine En_Ps 1 (pc' := 5) (lv' := [(0, .ref 0), (1, .int a), (2, .int b)]) (st' := [.int a, .ref p]) rfl ?_
  refine En_callV rfl rfl rfl rfl rfl rfl rfl rfl hp (by decide +kernel) rfl (c_47x σ0 hσ0 p hp a z3 h2) (by decide) (by decide) (fun v11 σ12 h10 => ?_)
  obtain ⟨h13, h14, z16, rfl, h15⟩ := h10
  obtain rfl : σ0 = σ12 := Fr_nil h14
  have h17 := Imp_m h15.2.2.1
  have h18 := Imp_m h15.2.2.2.1
  have h19 := Imp_m h15.2.2.2.2.1
  have h20 := Imp_m h15.2.2.2.2.2
  refine En_iEq _ rfl rfl (fun h21 => ?_) (fun h21 => ?_)
  · have h22 := Imp_m h15.2.2.2.2.1 (by omega)
    refine En_Ps 1 (pc' := 22) (lv' := [(0, .ref 0), (1, .int a), (2, .int b)]) (st' := [.int (((Int8.ofInt (-2)).toInt32))]) rfl ?_
    refine En_top (by decide : ((Int8.ofInt (-2)).toInt32).toInt = -2) (fun z23 h24 => ?_)
    exact En_ret (v := some (.int z23)) rfl rfl rfl ⟨hσ0, hF0, z23, rfl, ⟨by omega, by omega, ruR_n (fun ⟨q1, q2, q3, q4⟩ => by omega) (by omega)⟩⟩
  · have h25 := Imp_m h15.2.2.1 (by omega)
    have h26 := Imp_m h15.2.2.2.1 (by omega)
    have h27 := Imp_m h15.2.2.2.2.2 (by omega)
    refine En_Ps 1 (pc' := 12) (lv' := [(0, .ref 0), (1, .int a), (2, .int b)]) (st' := [.int b]) rfl ?_
    refine En_iLt _ rfl rfl (fun h28 => ?_) (fun h28 => ?_)
    · refine En_Ps 1 (pc' := 22) (lv' := [(0, .ref 0), (1, .int a), (2, .int b)]) (st' := [.int (((Int8.ofInt (-2)).toInt32))]) rfl ?_
      refine En_top (by decide : ((Int8.ofInt (-2)).toInt32).toInt = -2) (fun z29 h30 => ?_)
      exact En_ret (v := some (.int z29)) rfl rfl rfl ⟨hσ0, hF0, z29, rfl, ⟨by omega, by omega, ruR_n (fun ⟨q1, q2, q3, q4⟩ => by omega) (by omega)⟩⟩
    · refine En_Ps 2 (pc' := 17) (lv' := [(0, .ref 0), (1, .int a), (2, .int b)]) (st' := [.int ((Int32.ofInt 2)), .int b]) rfl ?_
      refine En_icLe _ rfl (by decide : (Int32.ofInt 2).toInt = 2) rfl (fun h31 => ?_) (fun h31 => ?_)
      · refine En_Ps 1 (pc' := 24) (lv' := [(0, .ref 0), (1, .int a), (2, .int b)]) (st' := [.ref 0]) rfl ?_
        refine En_getK (j := 9) h_p rfl rfl rfl (by decide +kernel : TG 0 = 0) (by decide +kernel) ?_
        refine En_getR (j := 4) (g' := 19) (u := 0) rfl rfl rfl hp (by decide +kernel) hσ0 (by decide +kernel) (fun a33 h32 ha33 => ?_)
        have t34 : a33 = p + 1 := ref_uniq h32 (FXP_fr hP hX hF0 (by decide +kernel)).1
        refine En_Ps 1 (pc' := 31) (lv' := [(0, .ref 0), (1, .int a), (2, .int b)]) (st' := [.int a, .ref a33]) rfl ?_
        refine En_aald (g' := 28) (u := 0) rfl rfl ha33 (by decide +kernel) hσ0 (by omega) (lnI (by decide +kernel : LN _ = 4) (by omega)) (FTsgl (by decide +kernel)) (fun a36 h35 ha36 => ?_)
        have t37 : a36 = p + 10 + 4 * (a.toInt).toNat := DRe (d := a.toInt) (FXP_fr hP hX hF0 (by decide +kernel)) t34 h35 (by omega) (by omega)
        have t38 := lc_d (d := a.toInt) (by omega) (by omega)
        refine En_getR (j := 0) (g' := 20) (u := 0) rfl rfl rfl ha36 (by decide +kernel) hσ0 (by decide +kernel) (fun a40 h39 ha40 => ?_)
        have t41 : a40 = p + 11 + 4 * (a.toInt).toNat := DLc (d := a.toInt) (FXP_fr hP hX hF0 (by decide +kernel)) t37 h39 (by omega) (by omega)
        refine En_Ps 1 (pc' := 36) (lv' := [(3, .ref a40), (0, .ref 0), (1, .int a), (2, .int b)]) (st' := []) rfl ?_
        obtain ⟨z43, h42, h44, h45⟩ := WT_peekI hσ0 (by decide +kernel : TG 4 = 4) (by decide +kernel : FT 4 0 = (0, 0, 16)) (by decide +kernel)
        obtain ⟨z47, h46, h48, h49⟩ := WT_peekI hσ0 (by decide +kernel : TG 4 = 4) (by decide +kernel : FT 4 1 = (0, 0, 81)) (by decide +kernel)
        have h50 : z43.toInt = pI (Wv 0) := (ci_at (j := 0) h42 rfl).symm.trans (hQ (hq (by omega))).1
        have h51 : z47.toInt = nR (Wv 0) := (ci_at (j := 1) h46 rfl).symm.trans (hQ (hq (by omega))).2.1
        have h52 := pI_rng (s := Wv 0) (by omega) (by omega)
        have h53 := nR_rg (s := Wv 0) (by omega) (by omega)
        have h54 := hB.2.2.2.2.2.2 (a.toInt) (by omega) (by omega)
        refine En_Ps 1 (pc' := 37) (lv' := [(3, .ref a40), (0, .ref 0), (1, .int a), (2, .int b)]) (st' := [.ref 0]) rfl ?_
        refine En_getU (j := 2) (u := 4) (g' := 4) (q := 0) rfl rfl rfl (by decide +kernel : TG 0 = 0) (by decide +kernel) hσ0 (by decide +kernel) (by decide +kernel) (fun h55 => ?_)
        refine En_Ps 2 (pc' := 42) (lv' := [(3, .ref a40), (0, .ref 0), (1, .int a), (2, .int b)]) (st' := [.int ((Int32.ofInt 1)), .ref a40, .ref 4]) rfl ?_
        obtain ⟨a58, h57, ha58⟩ := WT_peekR (g := 20) (j := 0) (g' := 21) (u := 0) hσ0 ha40 (by decide +kernel) (by decide +kernel)
        have t59 : a58 = p + 12 + 4 * (a.toInt).toNat := DKk (d := a.toInt) (FXP_fr hP hX hF0 (by decide +kernel)) t41 h57 (by omega) (by omega)
        obtain ⟨a61, h60, ha61⟩ := WT_peekR (g := 20) (j := 1) (g' := 22) (u := 0) hσ0 ha40 (by decide +kernel) (by decide +kernel)
        have t62 : a61 = p + 13 + 4 * (a.toInt).toNat := DKo (d := a.toInt) (FXP_fr hP hX hF0 (by decide +kernel)) t41 h60 (by omega) (by omega)
        obtain ⟨z64, h63, h65, h66⟩ := WT_peekI hσ0 ha40 (by decide +kernel : FT 20 2 = (0, 0, 13)) (by decide +kernel)
        have t67 : Wv (12 + 4 * (a.toInt)) = z64.toInt := KN_v hK (Or.inr (Or.inl ⟨by omega, by omega, by omega⟩)) (by omega) (by omega) (by omega) (by omega) h63
        have := (by decide : ((Int32.ofInt 1)).toInt = 1)
        refine En_callV rfl rfl rfl rfl rfl rfl rfl rfl ha40 (by decide +kernel) rfl (c_39x σ0 hσ0 a40 ha40 ((Int32.ofInt 1)) a58 ha58 h57 a61 ha61 h60 z64 h63) (by decide) (by decide) (fun v69 σ70 h68 => ?_)
        obtain ⟨h71, h72, z74, rfl, h73⟩ := h68
        have h75 := h73.2.2
        obtain rfl : σ0 = σ70 := Fr_nil h72
        refine En_Ps 2 (pc' := 47) (lv' := [(3, .ref a40), (0, .ref 0), (1, .int a), (2, .int b)]) (st' := [.int ((Int32.ofInt 0)), .ref a40, .int z74, .ref 4]) rfl ?_
        have := (by decide : ((Int32.ofInt 0)).toInt = 0)
        refine En_callV rfl rfl rfl rfl rfl rfl rfl rfl ha40 (by decide +kernel) rfl (c_39x σ0 hσ0 a40 ha40 ((Int32.ofInt 0)) a58 ha58 h57 a61 ha61 h60 z64 h63) (by decide) (by decide) (fun v77 σ78 h76 => ?_)
        obtain ⟨h79, h80, z82, rfl, h81⟩ := h76
        have h83 := h81.2.2
        obtain rfl : σ0 = σ78 := Fr_nil h80
        refine En_callV rfl rfl rfl rfl rfl rfl rfl rfl (by decide +kernel : TG 4 = 4) (by decide +kernel) rfl (c_78x σ0 hσ0 z74 z82 (geI rfl (by omega)) (leI rfl (by omega)) (geI rfl (by omega)) (leI rfl (by omega)) z47 h46 (fun i i0 i1 => TB_rg (hQ (hq (by omega))).2.2 (by omega) i i0 (by omega))) (by decide) (by decide) (fun v85 σ86 h84 => ?_)
        obtain ⟨h87, h88, z90, rfl, h89⟩ := h84
        have h91 := h89.2.2
        obtain rfl : σ0 = σ86 := Fr_nil h88
        have h92 := FIR_ag (fun i i0 i1 => TB_rg (hQ (hq (by omega))).2.2 (by omega) i i0 (by omega)) (by omega) (fun i i0 i1 => row_rg (n := 13) (l := 0) (u := 15) hσ0 ha58 (by decide +kernel) i i0 (by omega)) (fun i i0 i1 => row_rg (n := 13) (l := 0) (u := 1) hσ0 ha61 (by decide +kernel) i i0 (by omega)) h75 h83 h91
        have h93 : z90.toInt = fr1 Wv a.toInt := fr1_of t67 h51 (KN_lk hK (by omega) (by omega) (by omega) t67.symm (by omega) t59) (KN_lo hK (by omega) (by omega) (by omega) t67.symm (by omega) t62) (fun i i0 i1 => TB_D (hQ (hq (by omega))).2.2 i i0 (by omega)) h92
        have h94 := fr1_rg (w := Wv) (d := a.toInt)
        refine En_Ps 3 (pc' := 58) (lv' := [(4, .int z90), (3, .ref a40), (0, .ref 0), (1, .int a), (2, .int b)]) (st' := [.int ((Int32.ofInt (-1))), .int z90]) rfl ?_
        refine En_icEq _ rfl (by decide : (Int32.ofInt (-1)).toInt = -1) rfl (fun h95 => ?_) (fun h95 => ?_)
        · refine En_Ps 1 (pc' := 68) (lv' := [(4, .int z90), (3, .ref a40), (0, .ref 0), (1, .int a), (2, .int b)]) (st' := [.int z90]) rfl ?_
          exact En_ret (v := some (.int z90)) rfl rfl rfl ⟨hσ0, hF0, z90, rfl, ⟨by omega, by omega, ruR_y ⟨by omega, by omega, by omega, by omega⟩ h93 (pkR_1 (by omega) (by omega))⟩⟩
        · refine En_Ps 2 (pc' := 63) (lv' := [(4, .int z90), (3, .ref a40), (0, .ref 0), (1, .int a), (2, .int b)]) (st' := [.int ((Int32.ofInt 2)), .int b]) rfl ?_
          refine En_icNe _ rfl (by decide : (Int32.ofInt 2).toInt = 2) rfl (fun h96 => ?_) (fun h96 => ?_)
          · refine En_Ps 1 (pc' := 70) (lv' := [(4, .int z90), (3, .ref a40), (0, .ref 0), (1, .int a), (2, .int b)]) (st' := [.int b]) rfl ?_
            refine En_iNe _ rfl rfl (fun h97 => ?_) (fun h97 => ?_)
            · refine En_Ps 1 (pc' := 87) (lv' := [(4, .int z90), (3, .ref a40), (0, .ref 0), (1, .int a), (2, .int b)]) (st' := [.ref 0]) rfl ?_
              refine En_getK (j := 2) h55 rfl rfl rfl (by decide +kernel : TG 0 = 0) (by decide +kernel) ?_
              refine En_getU (j := 3) (u := 6) (g' := 6) (q := 0) rfl rfl rfl (by decide +kernel : TG 4 = 4) (by decide +kernel) hσ0 (by decide +kernel) (by decide +kernel) (fun h98 => ?_)
              refine En_Ps 1 (pc' := 95) (lv' := [(4, .int z90), (3, .ref a40), (0, .ref 0), (1, .int a), (2, .int b)]) (st' := [.int z90, .ref 6]) rfl ?_
              refine En_iald (l := 0) (u := 15) rfl rfl (by decide +kernel : TG 6 = 6) (by decide +kernel) hσ0 (by omega) (lnI (by decide +kernel : LN _ = 81) (by omega)) (FTsgl (by decide +kernel)) (fun z101 h100 h102 h103 => ?_)
              have h104 : ci σ0 6 (z90.toInt) = z101.toInt := ci_at h100 rfl
              exact En_ret (v := some (.int z101)) rfl rfl rfl ⟨hσ0, hF0, z101, rfl, ⟨by omega, by omega, ruR_y ⟨by omega, by omega, by omega, by omega⟩ h93 (pkR_V (by omega) (by omega) (by omega) (h104.symm.trans (TB_MV (hQ (hq (by omega))).2.2 (by omega) (by omega)).2))⟩⟩
            · refine En_Ps 1 (pc' := 74) (lv' := [(4, .int z90), (3, .ref a40), (0, .ref 0), (1, .int a), (2, .int b)]) (st' := [.ref 0]) rfl ?_
              refine En_getK (j := 2) h55 rfl rfl rfl (by decide +kernel : TG 0 = 0) (by decide +kernel) ?_
              refine En_getU (j := 2) (u := 5) (g' := 5) (q := 0) rfl rfl rfl (by decide +kernel : TG 4 = 4) (by decide +kernel) hσ0 (by decide +kernel) (by decide +kernel) (fun h105 => ?_)
              refine En_Ps 1 (pc' := 82) (lv' := [(4, .int z90), (3, .ref a40), (0, .ref 0), (1, .int a), (2, .int b)]) (st' := [.int z90, .ref 5]) rfl ?_
              refine En_iald (l := 0) (u := 15) rfl rfl (by decide +kernel : TG 5 = 5) (by decide +kernel) hσ0 (by omega) (lnI (by decide +kernel : LN _ = 81) (by omega)) (FTsgl (by decide +kernel)) (fun z108 h107 h109 h110 => ?_)
              have h111 : ci σ0 5 (z90.toInt) = z108.toInt := ci_at h107 rfl
              refine En_Ps 1 (pc' := 96) (lv' := [(4, .int z90), (3, .ref a40), (0, .ref 0), (1, .int a), (2, .int b)]) (st' := [.int z108]) rfl ?_
              exact En_ret (v := some (.int z108)) rfl rfl rfl ⟨hσ0, hF0, z108, rfl, ⟨by omega, by omega, ruR_y ⟨by omega, by omega, by omega, by omega⟩ h93 (pkR_M (by omega) (by omega) (h111.symm.trans (TB_MV (hQ (hq (by omega))).2.2 (by omega) (by omega)).1))⟩⟩
          · refine En_Ps 1 (pc' := 68) (lv' := [(4, .int z90), (3, .ref a40), (0, .ref 0), (1, .int a), (2, .int b)]) (st' := [.int z90]) rfl ?_
            exact En_ret (v := some (.int z90)) rfl rfl rfl ⟨hσ0, hF0, z90, rfl, ⟨by omega, by omega, ruR_y ⟨by omega, by omega, by omega, by omega⟩ h93 (pkR_1 (by omega) (by omega))⟩⟩
      · refine En_Ps 1 (pc' := 22) (lv' := [(0, .ref 0), (1, .int a), (2, .int b)]) (st' := [.int (((Int8.ofInt (-2)).toInt32))]) rfl ?_
        refine En_top (by decide : ((Int8.ofInt (-2)).toInt32).toInt = -2) (fun z112 h113 => ?_)
        exact En_ret (v := some (.int z112)) rfl rfl rfl ⟨hσ0, hF0, z112, rfl, ⟨by omega, by omega, ruR_n (fun ⟨q1, q2, q3, q4⟩ => by omega) (by omega)⟩⟩

