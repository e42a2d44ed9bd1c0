/-- DoorSchool.unteach()I -/
abbrev P_181x (σ0 : SG) (Wv : Int → Int) (p : Nat) (sg : Int32) : PO := fun v σ => WT σ ∧ Fr [(18, 14), (20, 2)] σ0 σ ∧ ∃ ret : Int32, v = some (.int ret) ∧ -ret.toInt - 5 ≤ 0 ∧ ret.toInt - 3 ≤ 0 ∧ (ret.toInt = utR Wv ∧ KN σ p (utW Wv) (act (utW Wv)) ∧ OUT σ0 σ p)
set_option maxRecDepth 10000 in
set_option maxHeartbeats 4000000 in
theorem c_181x {Wv : Int → Int} (σ0 : SG) (hσ0 : WT σ0) (p : Nat) (hp : TG p = 18) (h_p : (σ0 0)[9]? = some (.ref p)) (sg : Int32) (h_sg : (σ0 p)[1]? = some (.int sg)) (hp0 : -sg.toInt ≤ 0) (hP : PLA p) (hX : FXP σ0 p) (hK : KN σ0 p Wv (act Wv)) (hI : WINV Wv) (hT : TGT Wv) : En 2 42 none mr_181 (P_181x σ0 Wv p sg) 0 [(0, .ref 0)] [] σ0 := by
  obtain ⟨hl_sg, hu_sg⟩ := WT_int hσ0 (g := 18) hp (by decide +kernel) (l := (-1)) (u := 4) (by decide +kernel) h_sg
  have hF0 : Fr [(18, 14), (20, 2)] σ0 σ0 := Fr_rfl
  have t1 : Wv (0) = sg.toInt := KN_v hK (Or.inl (by decide)) (by omega) (by omega) (by rw [lcO_lt (by decide) (by decide), Nat.add_zero]) rfl h_sg
  refine En_Ps 1 (pc' := 1) (lv' := [(0, .ref 0)]) (st' := [.ref 0]) rfl ?_
  refine En_getK (j := 9) h_p rfl rfl rfl (by decide +kernel : TG 0 = 0) (by decide +kernel) ?_
  obtain ⟨z3, h2, h4, h5⟩ := WT_peekI hσ0 hp (by decide +kernel : FT 18 0 = (0, 0, 1601)) (by decide +kernel)
  have t6 : Wv (7) = z3.toInt := KN_v hK (Or.inl (by decide)) (by omega) (by omega) (by rw [lcO_lt (by decide) (by decide), Nat.add_zero]) rfl h2
  refine En_callV rfl rfl rfl rfl rfl rfl rfl rfl hp (by decide +kernel) rfl (c_43x σ0 hσ0 p hp z3 h2) (by decide) (by decide) (fun v8 σ9 h7 => ?_)
  obtain ⟨h10, h11, z13, rfl, h12⟩ := h7
  obtain rfl : σ0 = σ9 := Fr_nil h11
  have h14 := Imp_m h12.2.2.1
  have h15 := Imp_m h12.2.2.2
  refine En_iNe _ rfl rfl (fun h16 => ?_) (fun h16 => ?_)
  · have h17 := Imp_m h12.2.2.1 (by omega)
    have h18 := Imp_m h12.2.2.2 (by omega)
    refine En_Ps 1 (pc' := 14) (lv' := [(0, .ref 0)]) (st' := [.ref 0]) rfl ?_
    refine En_getK (j := 9) h_p rfl rfl rfl (by decide +kernel : TG 0 = 0) (by decide +kernel) ?_
    refine En_getI (j := 14) (l := 0) (u := 60) rfl rfl rfl hp (by decide +kernel) hσ0 (by decide +kernel) (fun z20 h19 h21 h22 => ?_)
    have t23 : Wv (6) = z20.toInt := KN_v hK (Or.inl (by decide)) (by omega) (by omega) (by rw [lcO_lt (by decide) (by decide), Nat.add_zero]) rfl h19
    refine En_iGt _ rfl rfl (fun h24 => ?_) (fun h24 => ?_)
    · obtain ⟨z26, h25, h27, h28⟩ := WT_peekI hσ0 hp (by decide +kernel : FT 18 3 = (0, 0, 4)) (by decide +kernel)
      have t29 : Wv (2) = z26.toInt := KN_v hK (Or.inl (by decide)) (by omega) (by omega) (by rw [lcO_lt (by decide) (by decide), Nat.add_zero]) rfl h25
      obtain ⟨a31, h30, ha31⟩ := WT_peekR (g := 18) (j := 15) (g' := 27) (u := 0) hσ0 hp (by decide +kernel) (by decide +kernel)
      have t32 : a31 = p + 9 := ref_uniq h30 (FXP_fr hP hX hF0 (by decide +kernel)).2.2.2.2.2.2.1
      obtain ⟨a34, h33, ha34⟩ := WT_peekR (g := 18) (j := 4) (g' := 19) (u := 0) hσ0 hp (by decide +kernel) (by decide +kernel)
      have t35 : a34 = p + 1 := ref_uniq h33 (FXP_fr hP hX hF0 (by decide +kernel)).1
      refine En_Ps 1 (pc' := 27) (lv' := [(0, .ref 0)]) (st' := [.ref 0]) rfl ?_
      refine En_getK (j := 9) h_p rfl rfl rfl (by decide +kernel : TG 0 = 0) (by decide +kernel) ?_
      refine En_Ps 1 (pc' := 31) (lv' := [(0, .ref 0)]) (st' := [.ref p, .ref p]) rfl ?_
      refine En_getK (j := 14) h19 rfl rfl rfl hp (by decide +kernel) ?_
      refine En_Ps 2 (pc' := 36) (lv' := [(0, .ref 0)]) (st' := [.int ((z20 - ((Int32.ofInt 1)))), .ref p]) rfl ?_
      refine En_top (subI rfl (by decide : (Int32.ofInt 1).toInt = 1) (by omega) (by omega)) (fun z36 h37 => ?_)
      refine En_put (j := 14) rfl rfl rfl hp (by decide +kernel) rfl (vI (l := 0) (u := 60) (by decide +kernel) rfl (by omega) (by omega)) hσ0 hF0 (by decide +kernel) (fun σ38 h39 h40 h41 h42 => ?_)
      refine En_Ps 1 (pc' := 40) (lv' := [(0, .ref 0)]) (st' := [.ref 0]) rfl ?_
      refine En_getK (j := 9) ((h42 _ _ (Or.inr (by decide))).trans h_p) rfl rfl rfl (by decide +kernel : TG 0 = 0) (by decide +kernel) ?_
      refine En_getK (j := 15) ((h42 _ _ (Or.inr (by decide))).trans h30) rfl rfl rfl hp (by decide +kernel) ?_
      refine En_Ps 1 (pc' := 47) (lv' := [(0, .ref 0)]) (st' := [.ref 0, .ref a31]) rfl ?_
      refine En_getK (j := 9) ((h42 _ _ (Or.inr (by decide))).trans h_p) rfl rfl rfl (by decide +kernel : TG 0 = 0) (by decide +kernel) ?_
      refine En_getK (j := 14) h41 rfl rfl rfl hp (by decide +kernel) ?_
      refine En_iald (l := 0) (u := 3) rfl rfl ha31 (by decide +kernel) h39 (by omega) (lnI (by decide +kernel : LN _ = 60) (by omega)) (FTsgl (by decide +kernel)) (fun z44 h43 h45 h46 => ?_)
      have t47 := lc_t (m := z36.toInt) (by omega) (by omega)
      have h52 := lc_t (m := z20.toInt - 1) (by omega) (by omega)
      have h48 : Wv (166 + (z20.toInt - 1)) = z44.toInt := KN_v hK (Or.inr (Or.inr (Or.inr (Or.inr (Or.inr (Or.inr ⟨by omega, by omega⟩)))))) (by omega) (by omega) (by omega) (by omega) ((h42 _ _ (Or.inl (by omega))).symm.trans h43)
      have h49 : utD Wv = z44.toInt := by unfold utD; rw [t23]; exact h48
      have h50 := hT (z20.toInt - 1) (by omega) (by omega)
      rw [h48] at h50
      have h51 := WINV_ge hI (d := z44.toInt) (nt := z20.toInt) (by omega) (by omega) h48.symm (by omega) (by omega)
      refine En_Ps 2 (pc' := 56) (lv' := [(1, .int z44), (0, .ref 0)]) (st' := [.ref 0]) rfl ?_
      refine En_getK (j := 9) ((h42 _ _ (Or.inr (by decide))).trans h_p) rfl rfl rfl (by decide +kernel : TG 0 = 0) (by decide +kernel) ?_
      refine En_getK (j := 4) ((h42 _ _ (Or.inr (by decide))).trans h33) rfl rfl rfl hp (by decide +kernel) ?_
      refine En_Ps 1 (pc' := 63) (lv' := [(1, .int z44), (0, .ref 0)]) (st' := [.int z44, .ref a34]) rfl ?_
      refine En_aald (g' := 28) (u := 0) rfl rfl ha34 (by decide +kernel) h39 (by omega) (lnI (by decide +kernel : LN _ = 4) (by omega)) (FTsgl (by decide +kernel)) (fun a54 h53 ha54 => ?_)
      have t55 : a54 = p + 10 + 4 * (z44.toInt).toNat := DRe (d := z44.toInt) (FXP_fr hP hX h40 (by decide +kernel)) t35 h53 (by omega) (by omega)
      have t56 := lc_d (d := z44.toInt) (by omega) (by omega)
      refine En_getR (j := 0) (g' := 20) (u := 0) rfl rfl rfl ha54 (by decide +kernel) h39 (by decide +kernel) (fun a58 h57 ha58 => ?_)
      have t59 : a58 = p + 11 + 4 * (z44.toInt).toNat := DLc (d := z44.toInt) (FXP_fr hP hX h40 (by decide +kernel)) t55 h57 (by omega) (by omega)
      obtain ⟨a61, h60, ha61⟩ := WT_peekR (g := 20) (j := 0) (g' := 21) (u := 0) h39 ha58 (by decide +kernel) (by decide +kernel)
      have t62 : a61 = p + 12 + 4 * (z44.toInt).toNat := DKk (d := z44.toInt) (FXP_fr hP hX h40 (by decide +kernel)) t59 h60 (by omega) (by omega)
      obtain ⟨a64, h63, ha64⟩ := WT_peekR (g := 20) (j := 1) (g' := 22) (u := 0) h39 ha58 (by decide +kernel) (by decide +kernel)
      have t65 : a64 = p + 13 + 4 * (z44.toInt).toNat := DKo (d := z44.toInt) (FXP_fr hP hX h40 (by decide +kernel)) t59 h63 (by omega) (by omega)
      obtain ⟨z67, h66, h68, h69⟩ := WT_peekI h39 ha58 (by decide +kernel : FT 20 2 = (0, 0, 13)) (by decide +kernel)
      have h71 := ((h42 _ _ (Or.inl (by omega))).symm.trans h66)
      have h70 : Wv (12 + 4 * (z44.toInt)) = z67.toInt := KN_v hK (Or.inr (Or.inl ⟨by omega, by omega, by omega⟩)) (by omega) (by omega) (by omega) (by omega) h71
      have : 1 ≤ z67.toInt := by omega
      refine En_callV rfl rfl rfl rfl rfl rfl rfl rfl ha58 (by decide +kernel) rfl (c_33x σ38 h39 a58 ha58 a61 ha61 h60 a64 ha64 h63 z67 h66 (by omega)) (by decide) (by decide) (fun v73 σ74 h72 => ?_)
      obtain ⟨h75, h76, z78, h79, rfl, h77⟩ := h72
      have h80 := h77.2.2.2.2.2.2
      have h81 := Fr_trans h40 h76 (by decide +kernel)
      refine En_Ps 1 (pc' := 71) (lv' := [(1, .int z44), (0, .ref 0)]) (st' := [.int z44]) rfl ?_
      exact En_ret (v := some (.int z44)) rfl rfl rfl ⟨h75, h81, z44, rfl, ⟨by omega, by omega, (by have q0 := KN_unteach hK (PLA_B hP) h70 t23 h49 h41 h42 h80 t59 (by omega) (by omega) (by omega); exact ⟨by unfold utR; rw [if_neg (by omega), if_neg (by omega), h49], by unfold utW; rw [if_neg (by omega), if_neg (by omega)]; exact q0.1, q0.2⟩)⟩⟩
    · refine En_Ps 1 (pc' := 25) (lv' := [(0, .ref 0)]) (st' := [.int (((Int8.ofInt (-5)).toInt32))]) rfl ?_
      refine En_top (by decide : ((Int8.ofInt (-5)).toInt32).toInt = -5) (fun z82 h83 => ?_)
      exact En_ret (v := some (.int z82)) rfl rfl rfl ⟨hσ0, hF0, z82, rfl, ⟨by omega, by omega, ⟨by unfold utR; rw [if_neg (by omega), if_pos (by omega)]; omega, by unfold utW; rw [if_neg (by omega), if_pos (by omega)]; exact hK, OUT_0⟩⟩⟩
  · refine En_Ps 1 (pc' := 12) (lv' := [(0, .ref 0)]) (st' := [.int (((Int8.ofInt (-2)).toInt32))]) rfl ?_
    refine En_top (by decide : ((Int8.ofInt (-2)).toInt32).toInt = -2) (fun z84 h85 => ?_)
    exact En_ret (v := some (.int z84)) rfl rfl rfl ⟨hσ0, hF0, z84, rfl, ⟨by omega, by omega, ⟨by unfold utR; rw [if_pos (by omega)]; omega, by unfold utW; rw [if_pos (by omega)]; exact hK, OUT_0⟩⟩⟩
/-- DoorSchool.way(II)I -/
abbrev P_182x (σ0 : SG) (Wv : Int → Int) (a : Int32) (b : Int32) (p : Nat) (sg : Int32) : PO := fun v σ => WT σ ∧ Fr [] σ0 σ ∧ ∃ ret : Int32, v = some (.int ret) ∧ -ret.toInt - 2 ≤ 0 ∧ ret.toInt - 17 ≤ 0 ∧ ret.toInt = wyR Wv a.toInt b.toInt
set_option maxRecDepth 10000 in
set_option maxHeartbeats 4000000 in
theorem c_182x {Wv : Int → Int} (σ0 : SG) (hσ0 : WT σ0) (a : Int32) (b : Int32) (p : Nat) (hp : TG p = 18) (h_p : (σ0 0)[9]? = some (.ref p)) (sg : Int32) (h_sg : (σ0 p)[1]? = some (.int sg)) (hp0 : -sg.toInt ≤ 0) (hP : PLA p) (hX : FXP σ0 p) (hK : KN σ0 p Wv (act Wv)) (hB : WFw Wv) (hT : TWN Wv) (hQ : 0 < Wv 7 → RULx σ0 (Wv 0)) (hq : QX Wv) : En 4 92 none mr_182 (P_182x σ0 Wv a b p sg) 0 [(0, .ref 0), (1, .int a), (2, .int b)] [] σ0 := by
  obtain ⟨hl_sg, hu_sg⟩ := WT_int hσ0 (g := 18) hp (by decide +kernel) (l := (-1)) (u := 4) (by decide +kernel) h_sg
  have hF0 : Fr [] σ0 σ0 := Fr_rfl
  have t1 : Wv (0) = sg.toInt := KN_v hK (Or.inl (by decide)) (by omega) (by omega) (by rw [lcO_lt (by decide) (by decide), Nat.add_zero]) rfl h_sg
  obtain ⟨z3, h2, h4, h5⟩ := WT_peekI hσ0 hp (by decide +kernel : FT 18 3 = (0, 0, 4)) (by decide +kernel)
  have t6 : Wv (2) = z3.toInt := KN_v hK (Or.inl (by decide)) (by omega) (by omega) (by rw [lcO_lt (by decide) (by decide), Nat.add_zero]) rfl h2
  have h7 := hB.2.2.1
  have h8 := hB.1
  have h9 := hB.2.1
  have h10 := hB.2.2.2.1
  refine En_Ps 1 (pc' := 1) (lv' := [(0, .ref 0), (1, .int a), (2, .int b)]) (st' := [.ref 0]) rfl ?_
  refine En_getK (j := 9) h_p rfl rfl rfl (by decide +kernel : TG 0 = 0) (by decide +kernel) ?_
  refine En_Ps 1 (pc' := 5) (lv' := [(0, .ref 0), (1, .int a), (2, .int b)]) (st' := [.int a, .ref p]) rfl ?_
  refine En_callV rfl rfl rfl rfl rfl rfl rfl rfl hp (by decide +kernel) rfl (c_47x σ0 hσ0 p hp a z3 h2) (by decide) (by decide) (fun v12 σ13 h11 => ?_)
  obtain ⟨h14, h15, z17, rfl, h16⟩ := h11
  obtain rfl : σ0 = σ13 := Fr_nil h15
  have h18 := Imp_m h16.2.2.1
  have h19 := Imp_m h16.2.2.2.1
  have h20 := Imp_m h16.2.2.2.2.1
  have h21 := Imp_m h16.2.2.2.2.2
  refine En_iEq _ rfl rfl (fun h22 => ?_) (fun h22 => ?_)
  · have h23 := Imp_m h16.2.2.2.2.1 (by omega)
    refine En_Ps 1 (pc' := 20) (lv' := [(0, .ref 0), (1, .int a), (2, .int b)]) (st' := [.int (((Int8.ofInt (-2)).toInt32))]) rfl ?_
    refine En_top (by decide : ((Int8.ofInt (-2)).toInt32).toInt = -2) (fun z24 h25 => ?_)
    exact En_ret (v := some (.int z24)) rfl rfl rfl ⟨hσ0, hF0, z24, rfl, ⟨by omega, by omega, wyR_n (fun ⟨q1, q2, q3, q4⟩ => by omega) (by omega)⟩⟩
  · have h26 := Imp_m h16.2.2.1 (by omega)
    have h27 := Imp_m h16.2.2.2.1 (by omega)
    have h28 := Imp_m h16.2.2.2.2.2 (by omega)
    refine En_Ps 1 (pc' := 12) (lv' := [(0, .ref 0), (1, .int a), (2, .int b)]) (st' := [.int b]) rfl ?_
    refine En_callS rfl rfl rfl rfl rfl rfl rfl rfl rfl (c_149x σ0 hσ0 b) (by decide) (by decide) (fun v30 σ31 h29 => ?_)
    obtain ⟨h32, h33, z35, rfl, h34⟩ := h29
    have h36 := h34.2.2.2
    obtain rfl : σ0 = σ31 := Fr_nil h33
    have h37 := Imp_m h34.2.2.1
    refine En_iNe _ rfl rfl (fun h38 => ?_) (fun h38 => ?_)
    · have h39 := Imp_m h34.2.2.1 (by omega)
      refine En_Ps 6 (pc' := 30) (lv' := [(5, .int ((Int32.ofInt 0))), (4, .int (((Int8.ofInt 17).toInt32))), (3, .int ((Int32.ofInt (-1)))), (0, .ref 0), (1, .int a), (2, .int b)]) (st' := []) rfl ?_
      have key30 : ∀ (n30 : Nat) (y40 : Int32) (y41 : Int32) (y42 : Int32), (-1) ≤ y40.toInt → y40.toInt ≤ 2 → 0 ≤ y41.toInt → y41.toInt ≤ 17 → 0 ≤ y42.toInt → y42.toInt ≤ 3 → y40.toInt - y42.toInt + 1 ≤ 0 → -y42.toInt + 3 < (n30 : Int) → WYI Wv a.toInt y42.toInt y40.toInt y41.toInt 17 → En 4 92 none mr_182 (P_182x σ0 Wv a b p sg) 30 [(0, .ref 0), (1, .int a), (2, .int b), (3, .int y40), (4, .int y41), (5, .int y42)] [] σ0 := by
        intro n30
        induction n30 with
        | zero =>
          intro y40 y41 y42 h46 h47 h48 h49 h50 h51 h52 h53 h54
          exfalso; omega
        | succ n30 ih30 =>
          intro y40 y41 y42 h46 h47 h48 h49 h50 h51 h52 h53 h54
          refine En_Ps 2 (pc' := 33) (lv' := [(0, .ref 0), (1, .int a), (2, .int b), (3, .int y40), (4, .int y41), (5, .int y42)]) (st' := [.int ((Int32.ofInt 3)), .int y42]) rfl ?_
          refine En_icGe _ rfl (by decide : (Int32.ofInt 3).toInt = 3) rfl (fun h55 => ?_) (fun h55 => ?_)
          · refine En_Ps 1 (pc' := 74) (lv' := [(0, .ref 0), (1, .int a), (2, .int b), (3, .int y40), (4, .int y41), (5, .int y42)]) (st' := [.int b]) rfl ?_
            refine En_iNe _ rfl rfl (fun h56 => ?_) (fun h56 => ?_)
            · refine En_Ps 1 (pc' := 83) (lv' := [(0, .ref 0), (1, .int a), (2, .int b), (3, .int y40), (4, .int y41), (5, .int y42)]) (st' := [.int y41]) rfl ?_
              exact En_ret (v := some (.int y41)) rfl rfl rfl ⟨hσ0, hF0, y41, rfl, ⟨by omega, by omega, (by first | exact wyR_0 ⟨by omega, by omega, by omega, by omega⟩ (by omega) h54 (by omega) (by omega) | exact wyR_1 ⟨by omega, by omega, by omega, by omega⟩ (by omega) h54 (by omega) (by omega))⟩⟩
            · refine En_Ps 2 (pc' := 83) (lv' := [(0, .ref 0), (1, .int a), (2, .int b), (3, .int y40), (4, .int y41), (5, .int y42)]) (st' := [.int y40]) rfl ?_
              exact En_ret (v := some (.int y40)) rfl rfl rfl ⟨hσ0, hF0, y40, rfl, ⟨by omega, by omega, (by first | exact wyR_0 ⟨by omega, by omega, by omega, by omega⟩ (by omega) h54 (by omega) (by omega) | exact wyR_1 ⟨by omega, by omega, by omega, by omega⟩ (by omega) h54 (by omega) (by omega))⟩⟩
          · refine En_Ps 3 (pc' := 40) (lv' := [(0, .ref 0), (1, .int a), (2, .int b), (3, .int y40), (4, .int y41), (5, .int y42)]) (st' := [.int y42, .int a, .ref 0]) rfl ?_
            refine En_callV rfl rfl rfl rfl rfl rfl rfl rfl (by decide +kernel : TG 0 = 0) (by decide +kernel) rfl (c_184x σ0 hσ0 a y42 (geI rfl (by omega)) (leI rfl (by omega)) (geI rfl (by omega)) (leI rfl (by omega)) p hp h_p sg h_sg (by omega) hP (FXP_fr hP hX hF0 (by decide +kernel)) hK hB (hQ (hq (by omega))) (by omega)) (by decide) (by decide) (fun v58 σ59 h57 => ?_)
            obtain ⟨h60, h61, z63, rfl, h62⟩ := h57
            have h64 := h62.2.2
            obtain rfl : σ0 = σ59 := Fr_nil h61
            refine En_Ps 1 (pc' := 44) (lv' := [(0, .ref 0), (1, .int a), (2, .int b), (3, .int y40), (4, .int y41), (5, .int y42)]) (st' := [.ref 0, .int z63]) rfl ?_
            refine En_callV rfl rfl rfl rfl rfl rfl rfl rfl (by decide +kernel : TG 0 = 0) (by decide +kernel) rfl (c_160x σ0 hσ0 p hp h_p sg h_sg (by omega) hP (FXP_fr hP hX hF0 (by decide +kernel)) (KN_aD (d := 4) hK) hB (hQ (hq (by omega)))) (by decide) (by decide) (fun v66 σ67 h65 => ?_)
            obtain ⟨h68, h69, z71, rfl, h70⟩ := h65
            have h72 := h70.2.2
            obtain rfl : σ0 = σ67 := Fr_nil h69
            refine En_Ps 1 (pc' := 48) (lv' := [(0, .ref 0), (1, .int a), (2, .int b), (3, .int y40), (4, .int y41), (5, .int y42)]) (st' := [.int ((z63 ^^^ z71))]) rfl ?_
            refine En_nam (fun z73 h74 => ?_)
            have h75 : z73.toInt = xN z63.toInt z71.toInt := xor_v h74 rfl rfl (by omega) (by omega)
            have := xN_lt (X := z63.toInt) (Y := z71.toInt) 16 (by omega) (by omega) (Int.lt_of_le_of_lt (by omega : _ ≤ (65535 : Int)) (by decide)) (Int.lt_of_le_of_lt (by omega : _ ≤ (65535 : Int)) (by decide))
            have two16 : ((2 ^ 16 : Nat) : Int) = 65536 := by decide
            refine En_callS rfl rfl rfl rfl rfl rfl rfl rfl rfl (c_7bx σ0 hσ0 z73 (geI rfl (by omega)) (leI rfl (by omega))) (by decide) (by decide) (fun v77 σ78 h76 => ?_)
            obtain ⟨h79, h80, z82, rfl, h81⟩ := h76
            have h83 := h81.2.2
            obtain rfl : σ0 = σ78 := Fr_nil h80
            refine En_Ps 3 (pc' := 57) (lv' := [(6, .int z82), (0, .ref 0), (1, .int a), (2, .int b), (3, .int y40), (4, .int y41), (5, .int y42)]) (st' := [.int y41, .int z82]) rfl ?_
            refine En_icGe _ rfl rfl rfl (fun h84 => ?_) (fun h84 => ?_)
            · refine En_Ps 1 (pc' := 70) (lv' := [(5, .int ((y42 + Int32.ofInt 1))), (6, .int z82), (0, .ref 0), (1, .int a), (2, .int b), (3, .int y40), (4, .int y41)]) (st' := []) rfl ?_
              refine En_lv1 (addI rfl (by decide : (Int32.ofInt 1).toInt = 1) (by omega) (by omega)) (fun z85 h86 => ?_)
              refine En_Ps 1 (pc' := 30) (lv' := [(5, .int z85), (6, .int z82), (0, .ref 0), (1, .int a), (2, .int b), (3, .int y40), (4, .int y41)]) (st' := []) rfl ?_
              refine En_lv (lv := [(0, .ref 0), (1, .int a), (2, .int b), (3, .int y40), (4, .int y41), (5, .int z85)]) ⟨rfl, rfl, rfl, rfl, rfl, rfl, trivial⟩ ?_
              exact ih30 y40 y41 z85 (by omega) (by omega) (by omega) (by omega) (by omega) (by omega) (by omega) (by omega) ((by first | exact WYI_y h54 (by omega) (wyU_of h64 h72 (z := z73.toInt) (by omega) h83) (by omega) (by omega) (by omega) (by omega) | exact WYI_n h54 (by decide) (by omega) (wyU_of h64 h72 (z := z73.toInt) (by omega) h83) (by omega) (by omega) (by omega) (by omega)))
            · refine En_Ps 5 (pc' := 70) (lv' := [(5, .int ((y42 + Int32.ofInt 1))), (3, .int y42), (4, .int z82), (6, .int z82), (0, .ref 0), (1, .int a), (2, .int b)]) (st' := []) rfl ?_
              refine En_lv1 (addI rfl (by decide : (Int32.ofInt 1).toInt = 1) (by omega) (by omega)) (fun z87 h88 => ?_)
              refine En_Ps 1 (pc' := 30) (lv' := [(5, .int z87), (3, .int y42), (4, .int z82), (6, .int z82), (0, .ref 0), (1, .int a), (2, .int b)]) (st' := []) rfl ?_
              refine En_lv (lv := [(0, .ref 0), (1, .int a), (2, .int b), (3, .int y42), (4, .int z82), (5, .int z87)]) ⟨rfl, rfl, rfl, rfl, rfl, rfl, trivial⟩ ?_
              exact ih30 y42 z82 z87 (by omega) (by omega) (by omega) (by omega) (by omega) (by omega) (by omega) (by omega) ((by first | exact WYI_y h54 (by omega) (wyU_of h64 h72 (z := z73.toInt) (by omega) h83) (by omega) (by omega) (by omega) (by omega) | exact WYI_n h54 (by decide) (by omega) (wyU_of h64 h72 (z := z73.toInt) (by omega) h83) (by omega) (by omega) (by omega) (by omega)))
      have := (by decide : (Int32.ofInt (-1)).toInt = -1)
      have := (by decide : ((Int8.ofInt 17).toInt32).toInt = 17)
      have := (by decide : (Int32.ofInt 0).toInt = 0)
      refine En_lv (lv := [(0, .ref 0), (1, .int a), (2, .int b), (3, .int ((Int32.ofInt (-1)))), (4, .int (((Int8.ofInt 17).toInt32))), (5, .int ((Int32.ofInt 0)))]) ⟨rfl, rfl, rfl, rfl, rfl, rfl, trivial⟩ ?_
      exact key30 (Int.toNat (3) + 1) ((Int32.ofInt (-1))) (((Int8.ofInt 17).toInt32)) ((Int32.ofInt 0)) (by omega) (by omega) (by omega) (by omega) (by omega) (by omega) (by omega) (by omega) (WYI_0 (by omega) (by omega))
    · refine En_Ps 1 (pc' := 20) (lv' := [(0, .ref 0), (1, .int a), (2, .int b)]) (st' := [.int (((Int8.ofInt (-2)).toInt32))]) rfl ?_
      refine En_top (by decide : ((Int8.ofInt (-2)).toInt32).toInt = -2) (fun z89 h90 => ?_)
      exact En_ret (v := some (.int z89)) rfl rfl rfl ⟨hσ0, hF0, z89, rfl, ⟨by omega, by omega, wyR_n (fun ⟨q1, q2, q3, q4⟩ => by omega) (by omega)⟩⟩
/-- DoorSchool.why(II)I -/
abbrev P_183x (σ0 : SG) (Wv : Int → Int) (a : Int32) (b : Int32) (p : Nat) (sg : Int32) : PO := fun v σ => WT σ ∧ Fr [] σ0 σ ∧ ∃ ret : Int32, v = some (.int ret) ∧ -ret.toInt - 2 ≤ 0 ∧ ret.toInt - 12 ≤ 0 ∧ ret.toInt = whR Wv a.toInt b.toInt
set_option maxRecDepth 10000 in
set_option maxHeartbeats 4000000 in
theorem c_183x {Wv : Int → Int} (σ0 : SG) (hσ0 : WT σ0) (a : Int32) (b : Int32) (p : Nat) (hp : TG p = 18) (h_p : (σ0 0)[9]? = some (.ref p)) (sg : Int32) (h_sg : (σ0 p)[1]? = some (.int sg)) (hp0 : -sg.toInt ≤ 0) (hP : PLA p) (hX : FXP σ0 p) (hK : KN σ0 p Wv (act Wv)) (hB : WFw Wv) (hT : TWN Wv) (hQ : 0 < Wv 7 → RULx σ0 (Wv 0)) (hq : QX Wv) : En 2 45 none mr_183 (P_183x σ0 Wv a b p sg) 0 [(0, .ref 0), (1, .int a), (2, .int b)] [] σ0 := by
  obtain ⟨hl_sg, hu_sg⟩ := WT_int hσ0 (g := 18) hp (by decide +kernel) (l := (-1)) (u := 4) (by decide +kernel) h_sg
  have hF0 : Fr [] σ0 σ0 := Fr_rfl
  have t1 : Wv (0) = sg.toInt := KN_v hK (Or.inl (by decide)) (by omega) (by omega) (by rw [lcO_lt (by decide) (by decide), Nat.add_zero]) rfl h_sg
  obtain ⟨z3, h2, h4, h5⟩ := WT_peekI hσ0 hp (by decide +kernel : FT 18 3 = (0, 0, 4)) (by decide +kernel)
  have t6 : Wv (2) = z3.toInt := KN_v hK (Or.inl (by decide)) (by omega) (by omega) (by rw [lcO_lt (by decide) (by decide), Nat.add_zero]) rfl h2
  have h7 := hB.2.2.1
  have h8 := hB.1
  have h9 := hB.2.1
  refine En_Ps 1 (pc' := 1) (lv' := [(0, .ref 0), (1, .int a), (2, .int b)]) (st' := [.ref 0]) rfl ?_
  refine En_getK (j := 9) h_p rfl rfl rfl (by decide +kernel : TG 0 = 0) (by decide +kernel) ?_
  refine En_Ps 1 (pc' := 5) (lv' := [(0, .ref 0), (1, .int a), (2, .int b)]) (st' := [.int a, .ref p]) rfl ?_
  refine En_callV rfl rfl rfl rfl rfl rfl rfl rfl hp (by decide +kernel) rfl (c_47x σ0 hσ0 p hp a z3 h2) (by decide) (by decide) (fun v11 σ12 h10 => ?_)
  obtain ⟨h13, h14, z16, rfl, h15⟩ := h10
  obtain rfl : σ0 = σ12 := Fr_nil h14
  have h17 := Imp_m h15.2.2.1
  have h18 := Imp_m h15.2.2.2.1
  have h19 := Imp_m h15.2.2.2.2.1
  have h20 := Imp_m h15.2.2.2.2.2
  refine En_iEq _ rfl rfl (fun h21 => ?_) (fun h21 => ?_)
  · have h22 := Imp_m h15.2.2.2.2.1 (by omega)
    refine En_Ps 1 (pc' := 24) (lv' := [(0, .ref 0), (1, .int a), (2, .int b)]) (st' := [.int (((Int8.ofInt (-2)).toInt32))]) rfl ?_
    refine En_top (by decide : ((Int8.ofInt (-2)).toInt32).toInt = -2) (fun z23 h24 => ?_)
    exact En_ret (v := some (.int z23)) rfl rfl rfl ⟨hσ0, hF0, z23, rfl, ⟨by omega, by omega, whR_n (fun ⟨q1, q2, q3, q4, q5⟩ => by omega) (by omega)⟩⟩
  · have h25 := Imp_m h15.2.2.1 (by omega)
    have h26 := Imp_m h15.2.2.2.1 (by omega)
    have h27 := Imp_m h15.2.2.2.2.2 (by omega)
    refine En_Ps 1 (pc' := 12) (lv' := [(0, .ref 0), (1, .int a), (2, .int b)]) (st' := [.ref 0]) rfl ?_
    refine En_getK (j := 9) h_p rfl rfl rfl (by decide +kernel : TG 0 = 0) (by decide +kernel) ?_
    refine En_Ps 1 (pc' := 16) (lv' := [(0, .ref 0), (1, .int a), (2, .int b)]) (st' := [.int b, .ref p]) rfl ?_
    obtain ⟨z29, h28, h30, h31⟩ := WT_peekI hσ0 hp (by decide +kernel : FT 18 0 = (0, 0, 1601)) (by decide +kernel)
    have t32 : Wv (7) = z29.toInt := KN_v hK (Or.inl (by decide)) (by omega) (by omega) (by rw [lcO_lt (by decide) (by decide), Nat.add_zero]) rfl h28
    refine En_callV rfl rfl rfl rfl rfl rfl rfl rfl hp (by decide +kernel) rfl (c_49x σ0 hσ0 p hp b z29 h28 sg h_sg (by omega)) (by decide) (by decide) (fun v34 σ35 h33 => ?_)
    obtain ⟨h36, h37, z39, rfl, h38⟩ := h33
    have h40 := h38.2.2.2
    obtain rfl : σ0 = σ35 := Fr_nil h37
    have h41 := h40
    have h42 : pI (Wv 0) = pI (sg.toInt) := by rw [t1]
    refine En_iNe _ rfl rfl (fun h43 => ?_) (fun h43 => ?_)
    · have h44 := Imp_m h38.2.2.1 (by omega)
      have h45 := pI_rng (s := Wv 0) (by omega) (by omega)
      have h46 : 0 ≤ b.toInt ∧ b.toInt ≤ 15 := by omega
      refine En_Ps 1 (pc' := 26) (lv' := [(0, .ref 0), (1, .int a), (2, .int b)]) (st' := [.ref 0]) rfl ?_
      refine En_getK (j := 9) h_p rfl rfl rfl (by decide +kernel : TG 0 = 0) (by decide +kernel) ?_
      refine En_Ps 1 (pc' := 30) (lv' := [(0, .ref 0), (1, .int a), (2, .int b)]) (st' := [.int a, .ref p]) rfl ?_
      refine En_callV rfl rfl rfl rfl rfl rfl rfl rfl hp (by decide +kernel) rfl (c_52x σ0 hσ0 p hp a (geI rfl (by omega)) (leI rfl (by omega)) hP (FXP_fr hP hX hF0 (by decide +kernel)) (KN_aD (d := 4) hK) (by omega)) (by decide) (by decide) (fun v48 σ49 h47 => ?_)
      obtain ⟨h50, h51, a53, ha53, rfl, h52⟩ := h47
      have h54 := h52
      obtain rfl : σ0 = σ49 := Fr_nil h51
      have h55 := rlW_rg hT (by omega) (by omega) (by omega) h54.2
      have t56 := lc_d (d := rlW Wv a.toInt) (by omega) (by omega)
      have h57 := hB.2.2.2.2.2.2 (rlW Wv a.toInt) (by omega) (by omega)
      refine En_Ps 2 (pc' := 35) (lv' := [(3, .ref a53), (0, .ref 0), (1, .int a), (2, .int b)]) (st' := [.ref a53]) rfl ?_
      refine En_getI (j := 1) (l := 0) (u := 2) rfl rfl rfl ha53 (by decide +kernel) hσ0 (by decide +kernel) (fun z59 h58 h60 h61 => ?_)
      have t62 : Wv (10 + 4 * (rlW Wv a.toInt)) = z59.toInt := KN_v hK (Or.inr (Or.inl ⟨by omega, by omega, by omega⟩)) (by omega) (by omega) (by omega) (by omega) h58
      rcases (show z59.toInt = 0 ∨ z59.toInt = 2 ∨ z59.toInt = 1 by omega) with h63 | h63 | h63
      · refine En_lsw (t := 64) (n := 0) rfl h63 rfl (by decide +kernel) ?_
        refine En_Ps 1 (pc' := 65) (lv' := [(3, .ref a53), (0, .ref 0), (1, .int a), (2, .int b)]) (st' := [.ref a53]) rfl ?_
        refine En_getR (j := 0) (g' := 20) (u := 0) rfl rfl rfl ha53 (by decide +kernel) hσ0 (by decide +kernel) (fun a65 h64 ha65 => ?_)
        have t66 : a65 = p + 11 + 4 * (rlW Wv a.toInt).toNat := DLc (d := rlW Wv a.toInt) (FXP_fr hP hX hF0 (by decide +kernel)) h54.1 h64 (by omega) (by omega)
        refine En_Ps 1 (pc' := 69) (lv' := [(3, .ref a53), (0, .ref 0), (1, .int a), (2, .int b)]) (st' := [.int b, .ref a65]) rfl ?_
        obtain ⟨a68, h67, ha68⟩ := WT_peekR (g := 20) (j := 0) (g' := 21) (u := 0) hσ0 ha65 (by decide +kernel) (by decide +kernel)
        have t69 : a68 = p + 12 + 4 * (rlW Wv a.toInt).toNat := DKk (d := rlW Wv a.toInt) (FXP_fr hP hX hF0 (by decide +kernel)) t66 h67 (by omega) (by omega)
        obtain ⟨a71, h70, ha71⟩ := WT_peekR (g := 20) (j := 1) (g' := 22) (u := 0) hσ0 ha65 (by decide +kernel) (by decide +kernel)
        have t72 : a71 = p + 13 + 4 * (rlW Wv a.toInt).toNat := DKo (d := rlW Wv a.toInt) (FXP_fr hP hX hF0 (by decide +kernel)) t66 h70 (by omega) (by omega)
        obtain ⟨z74, h73, h75, h76⟩ := WT_peekI hσ0 ha65 (by decide +kernel : FT 20 2 = (0, 0, 13)) (by decide +kernel)
        have t77 : Wv (12 + 4 * (rlW Wv a.toInt)) = z74.toInt := KN_v hK (Or.inr (Or.inl ⟨by omega, by omega, by omega⟩)) (by omega) (by omega) (by omega) (by omega) h73
        refine En_callV rfl rfl rfl rfl rfl rfl rfl rfl ha65 (by decide +kernel) rfl (c_36x σ0 hσ0 a65 ha65 b a68 ha68 h67 a71 ha71 h70 z74 h73) (by decide) (by decide) (fun v79 σ80 h78 => ?_)
        obtain ⟨h81, h82, z84, rfl, h83⟩ := h78
        have h85 := h83.2.2
        obtain rfl : σ0 = σ80 := Fr_nil h82
        exact En_ret (v := some (.int z84)) rfl rfl rfl ⟨hσ0, hF0, z84, rfl, ⟨by omega, by omega, whR_y ⟨by omega, by omega, by omega, by omega, by omega⟩ rfl t62 t77 (KN_lk hK (by omega) (by omega) (by omega) t77.symm (by omega) t69) (whL_0 (by omega) h85)⟩⟩
      · refine En_lsw (t := 73) (n := 2) rfl h63 rfl (by decide +kernel) ?_
        refine En_Ps 1 (pc' := 74) (lv' := [(3, .ref a53), (0, .ref 0), (1, .int a), (2, .int b)]) (st' := [.ref a53]) rfl ?_
        refine En_getR (j := 0) (g' := 20) (u := 0) rfl rfl rfl ha53 (by decide +kernel) hσ0 (by decide +kernel) (fun a87 h86 ha87 => ?_)
        have t88 : a87 = p + 11 + 4 * (rlW Wv a.toInt).toNat := DLc (d := rlW Wv a.toInt) (FXP_fr hP hX hF0 (by decide +kernel)) h54.1 h86 (by omega) (by omega)
        refine En_Ps 1 (pc' := 78) (lv' := [(3, .ref a53), (0, .ref 0), (1, .int a), (2, .int b)]) (st' := [.int b, .ref a87]) rfl ?_
        obtain ⟨a90, h89, ha90⟩ := WT_peekR (g := 20) (j := 0) (g' := 21) (u := 0) hσ0 ha87 (by decide +kernel) (by decide +kernel)
        have t91 : a90 = p + 12 + 4 * (rlW Wv a.toInt).toNat := DKk (d := rlW Wv a.toInt) (FXP_fr hP hX hF0 (by decide +kernel)) t88 h89 (by omega) (by omega)
        obtain ⟨a93, h92, ha93⟩ := WT_peekR (g := 20) (j := 1) (g' := 22) (u := 0) hσ0 ha87 (by decide +kernel) (by decide +kernel)
        have t94 : a93 = p + 13 + 4 * (rlW Wv a.toInt).toNat := DKo (d := rlW Wv a.toInt) (FXP_fr hP hX hF0 (by decide +kernel)) t88 h92 (by omega) (by omega)
        obtain ⟨z96, h95, h97, h98⟩ := WT_peekI hσ0 ha87 (by decide +kernel : FT 20 2 = (0, 0, 13)) (by decide +kernel)
        have t99 : Wv (12 + 4 * (rlW Wv a.toInt)) = z96.toInt := KN_v hK (Or.inr (Or.inl ⟨by omega, by omega, by omega⟩)) (by omega) (by omega) (by omega) (by omega) h95
        refine En_callV rfl rfl rfl rfl rfl rfl rfl rfl ha87 (by decide +kernel) rfl (c_37x σ0 hσ0 a87 ha87 b (geI rfl (by omega)) (leI rfl (by omega)) a90 ha90 h89 a93 ha93 h92 z96 h95) (by decide) (by decide) (fun v101 σ102 h100 => ?_)
        obtain ⟨h103, h104, z106, rfl, h105⟩ := h100
        have h107 := h105.2.2
        obtain rfl : σ0 = σ102 := Fr_nil h104
        exact En_ret (v := some (.int z106)) rfl rfl rfl ⟨hσ0, hF0, z106, rfl, ⟨by omega, by omega, whR_y ⟨by omega, by omega, by omega, by omega, by omega⟩ rfl t62 t99 (KN_lk hK (by omega) (by omega) (by omega) t99.symm (by omega) t91) (whL_2 (by omega) h107)⟩⟩
      · refine En_lsw (t := 82) (n := 1) rfl h63 rfl (by decide +kernel) ?_
        refine En_Ps 1 (pc' := 83) (lv' := [(3, .ref a53), (0, .ref 0), (1, .int a), (2, .int b)]) (st' := [.int ((Int32.ofInt (-1)))]) rfl ?_
        refine En_top (by decide : (Int32.ofInt (-1)).toInt = -1) (fun z108 h109 => ?_)
        exact En_ret (v := some (.int z108)) rfl rfl rfl ⟨hσ0, hF0, z108, rfl, ⟨by omega, by omega, whR_y (n := Wv (12 + 4 * (rlW Wv a.toInt))) (k := lkW Wv (rlW Wv a.toInt)) ⟨by omega, by omega, by omega, by omega, by omega⟩ rfl t62 rfl (fun i _ _ => rfl) (whL_1 (by omega) (by omega))⟩⟩
    · refine En_Ps 1 (pc' := 24) (lv' := [(0, .ref 0), (1, .int a), (2, .int b)]) (st' := [.int (((Int8.ofInt (-2)).toInt32))]) rfl ?_
      refine En_top (by decide : ((Int8.ofInt (-2)).toInt32).toInt = -2) (fun z110 h111 => ?_)
      exact En_ret (v := some (.int z110)) rfl rfl rfl ⟨hσ0, hF0, z110, rfl, ⟨by omega, by omega, whR_n (fun ⟨q1, q2, q3, q4, q5⟩ => by omega) (by omega)⟩⟩
/-- DoorSchool.wrong(I)I -/
abbrev P_186x (σ0 : SG) (Wv : Int → Int) (a : Int32) (p : Nat) (sg : Int32) : PO := fun v σ => WT σ ∧ Fr [] σ0 σ ∧ ∃ ret : Int32, v = some (.int ret) ∧ -ret.toInt - 2 ≤ 0 ∧ ret.toInt - 12 ≤ 0 ∧ ret.toInt = wrR Wv a.toInt
set_option maxRecDepth 10000 in
set_option maxHeartbeats 4000000 in
theorem c_186x {Wv : Int → Int} (σ0 : SG) (hσ0 : WT σ0) (a : Int32) (p : Nat) (hp : TG p = 18) (h_p : (σ0 0)[9]? = some (.ref p)) (sg : Int32) (h_sg : (σ0 p)[1]? = some (.int sg)) (hp0 : -sg.toInt ≤ 0) (hP : PLA p) (hX : FXP σ0 p) (hK : KN σ0 p Wv (act Wv)) (hB : WFw Wv) (hT : TWN Wv) (hQ : 0 < Wv 7 → RULx σ0 (Wv 0)) (hq : QX Wv) : En 4 92 none mr_186 (P_186x σ0 Wv a p sg) 0 [(0, .ref 0), (1, .int a)] [] σ0 := by
  obtain ⟨hl_sg, hu_sg⟩ := WT_int hσ0 (g := 18) hp (by decide +kernel) (l := (-1)) (u := 4) (by decide +kernel) h_sg
  have hF0 : Fr [] σ0 σ0 := Fr_rfl
  have t1 : Wv (0) = sg.toInt := KN_v hK (Or.inl (by decide)) (by omega) (by omega) (by rw [lcO_lt (by decide) (by decide), Nat.add_zero]) rfl h_sg
  obtain ⟨z3, h2, h4, h5⟩ := WT_peekI hσ0 hp (by decide +kernel : FT 18 3 = (0, 0, 4)) (by decide +kernel)
  have t6 : Wv (2) = z3.toInt := KN_v hK (Or.inl (by decide)) (by omega) (by omega) (by rw [lcO_lt (by decide) (by decide), Nat.add_zero]) rfl h2
  have h7 := hB.2.2.1
  have h8 := hB.1
  have h9 := hB.2.1
  have h10 := hB.2.2.2.1
  refine En_Ps 1 (pc' := 1) (lv' := [(0, .ref 0), (1, .int a)]) (st' := [.ref 0]) rfl ?_
  refine En_getK (j := 9) h_p rfl rfl rfl (by decide +kernel : TG 0 = 0) (by decide +kernel) ?_
  refine En_Ps 1 (pc' := 5) (lv' := [(0, .ref 0), (1, .int a)]) (st' := [.int a, .ref p]) rfl ?_
  refine En_callV rfl rfl rfl rfl rfl rfl rfl rfl hp (by decide +kernel) rfl (c_47x σ0 hσ0 p hp a z3 h2) (by decide) (by decide) (fun v12 σ13 h11 => ?_)
  obtain ⟨h14, h15, z17, rfl, h16⟩ := h11
  obtain rfl : σ0 = σ13 := Fr_nil h15
  have h18 := Imp_m h16.2.2.1
  have h19 := Imp_m h16.2.2.2.1
  have h20 := Imp_m h16.2.2.2.2.1
  have h21 := Imp_m h16.2.2.2.2.2
  refine En_iEq _ rfl rfl (fun h22 => ?_) (fun h22 => ?_)
  · have h23 := Imp_m h16.2.2.2.2.1 (by omega)
    refine En_Ps 1 (pc' := 31) (lv' := [(0, .ref 0), (1, .int a)]) (st' := [.int (((Int8.ofInt (-2)).toInt32))]) rfl ?_
    refine En_top (by decide : ((Int8.ofInt (-2)).toInt32).toInt = -2) (fun z24 h25 => ?_)
    exact En_ret (v := some (.int z24)) rfl rfl rfl ⟨hσ0, hF0, z24, rfl, ⟨by omega, by omega, wrR_n (fun ⟨q1, q2⟩ => by omega) (by omega)⟩⟩
  · have h26 := Imp_m h16.2.2.1 (by omega)
    have h27 := Imp_m h16.2.2.2.1 (by omega)
    have h28 := Imp_m h16.2.2.2.2.2 (by omega)
    refine En_Ps 1 (pc' := 12) (lv' := [(0, .ref 0), (1, .int a)]) (st' := [.ref 0]) rfl ?_
    refine En_getK (j := 9) h_p rfl rfl rfl (by decide +kernel : TG 0 = 0) (by decide +kernel) ?_
    refine En_getR (j := 5) (g' := 20) (u := 0) rfl rfl rfl hp (by decide +kernel) hσ0 (by decide +kernel) (fun a30 h29 ha30 => ?_)
    have t31 : a30 = p + 2 := ref_uniq h29 (FXP_fr hP hX hF0 (by decide +kernel)).2.1
    refine En_Ps 2 (pc' := 20) (lv' := [(0, .ref 0), (1, .int a)]) (st' := [.int a, .ref 0, .ref a30]) rfl ?_
    refine En_callV rfl rfl rfl rfl rfl rfl rfl rfl (by decide +kernel : TG 0 = 0) (by decide +kernel) rfl (c_114ax σ0 hσ0 a (geI rfl (by omega)) (leI rfl (by omega)) p hp h_p sg h_sg (by omega) hP (FXP_fr hP hX hF0 (by decide +kernel)) hK hB hT (by omega) (hQ (hq (by omega)))) (by decide) (by decide) (fun v33 σ34 h32 => ?_)
    obtain ⟨h35, h36, z38, rfl, h37⟩ := h32
    have h39 := h37.2.2
    obtain rfl : σ0 = σ34 := Fr_nil h36
    obtain ⟨a41, h40, ha41⟩ := WT_peekR (g := 20) (j := 0) (g' := 21) (u := 0) hσ0 ha30 (by decide +kernel) (by decide +kernel)
    have t42 : a41 = p + 3 := EKk (FXP_fr hP hX hF0 (by decide +kernel)) t31 h40
    obtain ⟨a44, h43, ha44⟩ := WT_peekR (g := 20) (j := 1) (g' := 22) (u := 0) hσ0 ha30 (by decide +kernel) (by decide +kernel)
    have t45 : a44 = p + 4 := EKo (FXP_fr hP hX hF0 (by decide +kernel)) t31 h43
    obtain ⟨z47, h46, h48, h49⟩ := WT_peekI hσ0 ha30 (by decide +kernel : FT 20 2 = (0, 0, 13)) (by decide +kernel)
    have t50 : Wv (3) = z47.toInt := KN_v hK (Or.inl (by decide)) (by omega) (by omega) (by rw [lcO_3]; omega) (by decide) h46
    refine En_callV rfl rfl rfl rfl rfl rfl rfl rfl ha30 (by decide +kernel) rfl (c_34x σ0 hσ0 a30 ha30 z38 (geI rfl (by omega)) (leI rfl (by omega)) a41 ha41 h40 a44 ha44 h43 z47 h46) (by decide) (by decide) (fun v52 σ53 h51 => ?_)
    obtain ⟨h54, h55, z57, rfl, h56⟩ := h51
    have h58 := h56.2.2
    obtain rfl : σ0 = σ53 := Fr_nil h55
    refine En_Ps 1 (pc' := 31) (lv' := [(0, .ref 0), (1, .int a)]) (st' := [.int z57]) rfl ?_
    exact En_ret (v := some (.int z57)) rfl rfl rfl ⟨hσ0, hF0, z57, rfl, ⟨by omega, by omega, wrR_y ⟨by omega, by omega⟩ h39 (wrN_of t50.symm (KN_ek hK t50.symm (by omega) t42) (KN_eo hK t50.symm (by omega) t45) h58)⟩⟩
/-- DoorSchool.years(IIII)I -/
abbrev P_187x (σ0 : SG) (Wv : Int → Int) (a : Int32) (b : Int32) (c : Int32) (d : Int32) (p : Nat) (sg : Int32) : PO := fun v σ => WT σ ∧ Fr [] σ0 σ ∧ ∃ ret : Int32, v = some (.int ret) ∧ -ret.toInt - 2 ≤ 0 ∧ ret.toInt - 20 ≤ 0 ∧ ret.toInt = yrR Wv a.toInt b.toInt c.toInt d.toInt
set_option maxRecDepth 10000 in
set_option maxHeartbeats 4000000 in
theorem c_187x {Wv : Int → Int} (σ0 : SG) (hσ0 : WT σ0) (a : Int32) (b : Int32) (c : Int32) (d : Int32) (p : Nat) (hp : TG p = 18) (h_p : (σ0 0)[9]? = some (.ref p)) (sg : Int32) (h_sg : (σ0 p)[1]? = some (.int sg)) (hp0 : -sg.toInt ≤ 0) (hP : PLA p) (hX : FXP σ0 p) (hK : KN σ0 p Wv (act Wv)) (hB : WFw Wv) (hT : TWN Wv) (hQ : 0 < Wv 7 → RULx σ0 (Wv 0)) (hq : QX Wv) : En 5 118 none mr_187 (P_187x σ0 Wv a b c d p sg) 0 [(0, .ref 0), (1, .int a), (2, .int b), (3, .int c), (4, .int d)] [] σ0 := by
  obtain ⟨hl_sg, hu_sg⟩ := WT_int hσ0 (g := 18) hp (by decide +kernel) (l := (-1)) (u := 4) (by decide +kernel) h_sg
  have hF0 : Fr [] σ0 σ0 := Fr_rfl
  have t1 : Wv (0) = sg.toInt := KN_v hK (Or.inl (by decide)) (by omega) (by omega) (by rw [lcO_lt (by decide) (by decide), Nat.add_zero]) rfl h_sg
  obtain ⟨z3, h2, h4, h5⟩ := WT_peekI hσ0 hp (by decide +kernel : FT 18 3 = (0, 0, 4)) (by decide +kernel)
  have t6 : Wv (2) = z3.toInt := KN_v hK (Or.inl (by decide)) (by omega) (by omega) (by rw [lcO_lt (by decide) (by decide), Nat.add_zero]) rfl h2
  have h7 := hB.2.2.1
  have h8 := hB.1
  have h9 := hB.2.1
  have h10 := hB.2.2.2.1
  refine En_Ps 1 (pc' := 1) (lv' := [(0, .ref 0), (1, .int a), (2, .int b), (3, .int c), (4, .int d)]) (st' := [.int a]) rfl ?_
  refine En_callS rfl rfl rfl rfl rfl rfl rfl rfl rfl (c_146 σ0 hσ0 a) (by decide) (by decide) (fun v12 σ13 h11 => ?_)
  obtain ⟨h14, h15, z17, rfl, h16⟩ := h11
  obtain rfl : σ0 = σ13 := Fr_nil h15
  refine En_iEq _ rfl rfl (fun h18 => ?_) (fun h18 => ?_)
  · refine En_Ps 1 (pc' := 31) (lv' := [(0, .ref 0), (1, .int a), (2, .int b), (3, .int c), (4, .int d)]) (st' := [.int (((Int8.ofInt (-2)).toInt32))]) rfl ?_
    refine En_top (by decide : ((Int8.ofInt (-2)).toInt32).toInt = -2) (fun z19 h20 => ?_)
    exact En_ret (v := some (.int z19)) rfl rfl rfl ⟨hσ0, hF0, z19, rfl, ⟨by omega, by omega, yrR_n (fun ⟨q1, q2, q3, q4, q5, q6⟩ => by omega) (by omega)⟩⟩
  · refine En_Ps 2 (pc' := 9) (lv' := [(0, .ref 0), (1, .int a), (2, .int b), (3, .int c), (4, .int d)]) (st' := [.int ((Int32.ofInt 1)), .int b]) rfl ?_
    refine En_icLt _ rfl (by decide : (Int32.ofInt 1).toInt = 1) rfl (fun h21 => ?_) (fun h21 => ?_)
    · refine En_Ps 1 (pc' := 31) (lv' := [(0, .ref 0), (1, .int a), (2, .int b), (3, .int c), (4, .int d)]) (st' := [.int (((Int8.ofInt (-2)).toInt32))]) rfl ?_
      refine En_top (by decide : ((Int8.ofInt (-2)).toInt32).toInt = -2) (fun z22 h23 => ?_)
      exact En_ret (v := some (.int z22)) rfl rfl rfl ⟨hσ0, hF0, z22, rfl, ⟨by omega, by omega, yrR_n (fun ⟨q1, q2, q3, q4, q5, q6⟩ => by omega) (by omega)⟩⟩
    · refine En_Ps 2 (pc' := 15) (lv' := [(0, .ref 0), (1, .int a), (2, .int b), (3, .int c), (4, .int d)]) (st' := [.int (((Int8.ofInt 20).toInt32)), .int b]) rfl ?_
      refine En_icGt _ rfl (by decide : ((Int8.ofInt 20).toInt32).toInt = 20) rfl (fun h24 => ?_) (fun h24 => ?_)
      · refine En_Ps 1 (pc' := 31) (lv' := [(0, .ref 0), (1, .int a), (2, .int b), (3, .int c), (4, .int d)]) (st' := [.int (((Int8.ofInt (-2)).toInt32))]) rfl ?_
        refine En_top (by decide : ((Int8.ofInt (-2)).toInt32).toInt = -2) (fun z25 h26 => ?_)
        exact En_ret (v := some (.int z25)) rfl rfl rfl ⟨hσ0, hF0, z25, rfl, ⟨by omega, by omega, yrR_n (fun ⟨q1, q2, q3, q4, q5, q6⟩ => by omega) (by omega)⟩⟩
      · refine En_Ps 1 (pc' := 19) (lv' := [(0, .ref 0), (1, .int a), (2, .int b), (3, .int c), (4, .int d)]) (st' := [.ref 0]) rfl ?_
        refine En_getK (j := 9) h_p rfl rfl rfl (by decide +kernel : TG 0 = 0) (by decide +kernel) ?_
        refine En_Ps 1 (pc' := 23) (lv' := [(0, .ref 0), (1, .int a), (2, .int b), (3, .int c), (4, .int d)]) (st' := [.int c, .ref p]) rfl ?_
        refine En_callV rfl rfl rfl rfl rfl rfl rfl rfl hp (by decide +kernel) rfl (c_47x σ0 hσ0 p hp c z3 h2) (by decide) (by decide) (fun v28 σ29 h27 => ?_)
        obtain ⟨h30, h31, z33, rfl, h32⟩ := h27
        obtain rfl : σ0 = σ29 := Fr_nil h31
        have h34 := Imp_m h32.2.2.1
        have h35 := Imp_m h32.2.2.2.1
        have h36 := Imp_m h32.2.2.2.2.1
        have h37 := Imp_m h32.2.2.2.2.2
        refine En_iNe _ rfl rfl (fun h38 => ?_) (fun h38 => ?_)
        · have h39 := Imp_m h32.2.2.1 (by omega)
          have h40 := Imp_m h32.2.2.2.1 (by omega)
          have h41 := Imp_m h32.2.2.2.2.2 (by omega)
          refine En_Ps 4 (pc' := 38) (lv' := [(6, .int ((Int32.ofInt 0))), (5, .int ((Int32.ofInt 0))), (0, .ref 0), (1, .int a), (2, .int b), (3, .int c), (4, .int d)]) (st' := []) rfl ?_
          have key38 : ∀ (n38 : Nat) (y42 : Int32) (y43 : Int32), 0 ≤ y42.toInt → y42.toInt ≤ 20 → 0 ≤ y43.toInt → y43.toInt ≤ 20 → y43.toInt - b.toInt ≤ 0 → y42.toInt - y43.toInt ≤ 0 → b.toInt - y43.toInt < (n38 : Int) → y42.toInt = CNT (yrP Wv a.toInt c.toInt d.toInt) (y43.toInt).toNat → y43.toInt ≤ b.toInt → En 5 118 none mr_187 (P_187x σ0 Wv a b c d p sg) 38 [(0, .ref 0), (1, .int a), (2, .int b), (3, .int c), (4, .int d), (5, .int y42), (6, .int y43)] [] σ0 := by
            intro n38
            induction n38 with
            | zero =>
              intro y42 y43 h47 h48 h49 h50 h51 h52 h53 h54 h55
              exfalso; omega
            | succ n38 ih38 =>
              intro y42 y43 h47 h48 h49 h50 h51 h52 h53 h54 h55
              refine En_Ps 2 (pc' := 41) (lv' := [(0, .ref 0), (1, .int a), (2, .int b), (3, .int c), (4, .int d), (5, .int y42), (6, .int y43)]) (st' := [.int b, .int y43]) rfl ?_
              refine En_icGe _ rfl rfl rfl (fun h56 => ?_) (fun h56 => ?_)
              · refine En_Ps 1 (pc' := 73) (lv' := [(0, .ref 0), (1, .int a), (2, .int b), (3, .int c), (4, .int d), (5, .int y42), (6, .int y43)]) (st' := [.int y42]) rfl ?_
                exact En_ret (v := some (.int y42)) rfl rfl rfl ⟨hσ0, hF0, y42, rfl, ⟨by omega, by omega, yrR_y ⟨by omega, by omega, by omega, by omega, by omega, by omega⟩ (i := y43.toInt) (by omega) h54⟩⟩
              · refine En_Ps 5 (pc' := 50) (lv' := [(0, .ref 0), (1, .int a), (2, .int b), (3, .int c), (4, .int d), (5, .int y42), (6, .int y43)]) (st' := [.int ((a + y43)), .ref 0, .ref 0]) rfl ?_
                refine En_top (addI rfl rfl (by omega) (by omega)) (fun z57 h58 => ?_)
                refine En_Ps 1 (pc' := 51) (lv' := [(0, .ref 0), (1, .int a), (2, .int b), (3, .int c), (4, .int d), (5, .int y42), (6, .int y43)]) (st' := [.int c, .int z57, .ref 0, .ref 0]) rfl ?_
                refine En_callV rfl rfl rfl rfl rfl rfl rfl rfl (by decide +kernel : TG 0 = 0) (by decide +kernel) rfl (c_115x σ0 hσ0 z57 c (geI rfl (by omega)) (leI rfl (by omega)) (geI rfl (by omega)) (leI rfl (by omega)) p hp h_p sg h_sg (by omega) hP (FXP_fr hP hX hF0 (by decide +kernel)) hK hB hT (hQ (hq (by omega))) (by omega)) (by decide) (by decide) (fun v60 σ61 h59 => ?_)
                obtain ⟨h62, h63, z65, rfl, h64⟩ := h59
                have h66 := h64.2.2
                obtain rfl : σ0 = σ61 := Fr_nil h63
                refine En_callV rfl rfl rfl rfl rfl rfl rfl rfl (by decide +kernel : TG 0 = 0) (by decide +kernel) rfl (c_156x σ0 hσ0 z65 (geI rfl (by omega)) (leI rfl (by omega)) p hp h_p sg h_sg (by omega) hP (FXP_fr hP hX hF0 (by decide +kernel)) (KN_aD (d := 4) hK) hB) (by decide) (by decide) (fun v68 σ69 h67 => ?_)
                obtain ⟨h70, h71, z73, rfl, h72⟩ := h67
                have h74 := h72.2.2
                obtain rfl : σ0 = σ69 := Fr_nil h71
                refine En_Ps 1 (pc' := 59) (lv' := [(0, .ref 0), (1, .int a), (2, .int b), (3, .int c), (4, .int d), (5, .int y42), (6, .int y43)]) (st' := [.int d, .int z73]) rfl ?_
                refine En_icLt _ rfl rfl rfl (fun h75 => ?_) (fun h75 => ?_)
                · refine En_Ps 1 (pc' := 68) (lv' := [(6, .int ((y43 + Int32.ofInt 1))), (0, .ref 0), (1, .int a), (2, .int b), (3, .int c), (4, .int d), (5, .int y42)]) (st' := []) rfl ?_
                  refine En_lv1 (addI rfl (by decide : (Int32.ofInt 1).toInt = 1) (by omega) (by omega)) (fun z76 h77 => ?_)
                  refine En_Ps 1 (pc' := 38) (lv' := [(6, .int z76), (0, .ref 0), (1, .int a), (2, .int b), (3, .int c), (4, .int d), (5, .int y42)]) (st' := []) rfl ?_
                  refine En_lv (lv := [(0, .ref 0), (1, .int a), (2, .int b), (3, .int c), (4, .int d), (5, .int y42), (6, .int z76)]) ⟨rfl, rfl, rfl, rfl, rfl, rfl, rfl, trivial⟩ ?_
                  exact ih38 y42 z76 (by omega) (by omega) (by omega) (by omega) (by omega) (by omega) (by omega) ((by first | exact CNT_y (by omega) h54 (yrP_y (S := z57.toInt) (by omega) h66 h74 (by omega)) (by omega) (by omega) | exact CNT_n (by omega) h54 (yrP_n (S := z57.toInt) (by omega) h66 h74 (by omega)) (by omega) (by omega))) ((by omega))
                · refine En_Ps 1 (pc' := 65) (lv' := [(5, .int ((y42 + Int32.ofInt 1))), (0, .ref 0), (1, .int a), (2, .int b), (3, .int c), (4, .int d), (6, .int y43)]) (st' := []) rfl ?_
                  refine En_lv1 (addI rfl (by decide : (Int32.ofInt 1).toInt = 1) (by omega) (by omega)) (fun z78 h79 => ?_)
                  refine En_Ps 1 (pc' := 68) (lv' := [(6, .int ((y43 + Int32.ofInt 1))), (5, .int z78), (0, .ref 0), (1, .int a), (2, .int b), (3, .int c), (4, .int d)]) (st' := []) rfl ?_
                  refine En_lv1 (addI rfl (by decide : (Int32.ofInt 1).toInt = 1) (by omega) (by omega)) (fun z80 h81 => ?_)
                  refine En_Ps 1 (pc' := 38) (lv' := [(6, .int z80), (5, .int z78), (0, .ref 0), (1, .int a), (2, .int b), (3, .int c), (4, .int d)]) (st' := []) rfl ?_
                  refine En_lv (lv := [(0, .ref 0), (1, .int a), (2, .int b), (3, .int c), (4, .int d), (5, .int z78), (6, .int z80)]) ⟨rfl, rfl, rfl, rfl, rfl, rfl, rfl, trivial⟩ ?_
                  exact ih38 z78 z80 (by omega) (by omega) (by omega) (by omega) (by omega) (by omega) (by omega) ((by first | exact CNT_y (by omega) h54 (yrP_y (S := z57.toInt) (by omega) h66 h74 (by omega)) (by omega) (by omega) | exact CNT_n (by omega) h54 (yrP_n (S := z57.toInt) (by omega) h66 h74 (by omega)) (by omega) (by omega))) ((by omega))
          have := (by decide : (Int32.ofInt 0).toInt = 0)
          have := (by decide : (Int32.ofInt 0).toInt = 0)
          refine En_lv (lv := [(0, .ref 0), (1, .int a), (2, .int b), (3, .int c), (4, .int d), (5, .int ((Int32.ofInt 0))), (6, .int ((Int32.ofInt 0)))]) ⟨rfl, rfl, rfl, rfl, rfl, rfl, rfl, trivial⟩ ?_
          exact key38 (Int.toNat (b.toInt) + 1) ((Int32.ofInt 0)) ((Int32.ofInt 0)) (by omega) (by omega) (by omega) (by omega) (by omega) (by omega) (by omega) (CNT_0 (by omega) (by omega)) ((by omega))
        · have h82 := Imp_m h32.2.2.2.2.1 (by omega)
          refine En_Ps 1 (pc' := 31) (lv' := [(0, .ref 0), (1, .int a), (2, .int b), (3, .int c), (4, .int d)]) (st' := [.int (((Int8.ofInt (-2)).toInt32))]) rfl ?_
          refine En_top (by decide : ((Int8.ofInt (-2)).toInt32).toInt = -2) (fun z83 h84 => ?_)
          exact En_ret (v := some (.int z83)) rfl rfl rfl ⟨hσ0, hF0, z83, rfl, ⟨by omega, by omega, yrR_n (fun ⟨q1, q2, q3, q4, q5, q6⟩ => by omega) (by omega)⟩⟩

