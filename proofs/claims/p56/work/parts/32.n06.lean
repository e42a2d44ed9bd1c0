/-- DoorSchool.foolingAfter(II)I -/
abbrev P_127x (σ0 : SG) (Wv : Int → Int) (a : Int32) (b : Int32) (p : Nat) (sg : Int32) : PO := fun v σ => WT σ ∧ Fr [(20, 2), (21, 0), (22, 0)] σ0 σ ∧ ∃ ret : Int32, v = some (.int ret) ∧ -ret.toInt ≤ 0 ∧ ret.toInt - 63 ≤ 0 ∧ (KN σ p Wv (act Wv) ∧ OUT σ0 σ p)
set_option maxRecDepth 10000 in
set_option maxHeartbeats 4000000 in
theorem c_127x {Wv : Int → Int} (σ0 : SG) (hσ0 : WT σ0) (a : Int32) (b : Int32) (hl_a : 0 ≤ a.toInt) (hu_a : a.toInt ≤ 3) (hl_b : 0 ≤ b.toInt) (hu_b : b.toInt ≤ 15) (p : Nat) (hp : TG p = 18) (h_p : (σ0 0)[9]? = some (.ref p)) (sg : Int32) (h_sg : (σ0 p)[1]? = some (.int sg)) (hp0 : -sg.toInt ≤ 0) (hP : PLA p) (hX : FXP σ0 p) (hK : KN σ0 p Wv (act Wv)) (hB : WFw Wv) (ha : a.toInt < Wv 2) : En 4 92 none mr_127 (P_127x σ0 Wv a b p sg) 0 [(0, .ref 0), (1, .int a), (2, .int b)] [] σ0 := by
  obtain ⟨hl_sg, hu_sg⟩ := WT_int hσ0 (g := 18) hp (by decide +kernel) (l := (-1)) (u := 4) (by decide +kernel) h_sg
  have hF0 : Fr [(20, 2), (21, 0), (22, 0)] σ0 σ0 := Fr_rfl
  have t1 : Wv (0) = sg.toInt := KN_v hK (Or.inl (by decide)) (by decide) (by decide) (by rw [lcO_lt (by decide) (by decide), Nat.add_zero]) rfl h_sg
  obtain ⟨z3, h2, h4, h5⟩ := WT_peekI hσ0 hp (by decide +kernel : FT 18 3 = (0, 0, 4)) (by decide +kernel)
  have t6 : Wv (2) = z3.toInt := KN_v hK (Or.inl (by decide)) (by decide) (by decide) (by rw [lcO_lt (by decide) (by decide), Nat.add_zero]) rfl h2
  refine En_Ps 1 (pc' := 1) (lv' := [(0, .ref 0), (1, .int a), (2, .int b)]) (st' := [.ref 0]) rfl ?_
  refine En_getK (j := 9) h_p rfl rfl rfl tgz_0 (by decide +kernel) ?_
  refine En_getR (j := 4) (g' := 19) (u := 0) rfl rfl rfl hp (by decide +kernel) hσ0 (by decide +kernel) (fun a8 h7 ha8 => ?_)
  have t9 : a8 = p + 1 := ref_uniq h7 (FXP_fr hP hX hF0 (by decide +kernel)).1
  refine En_Ps 1 (pc' := 8) (lv' := [(0, .ref 0), (1, .int a), (2, .int b)]) (st' := [.int a, .ref a8]) rfl ?_
  refine En_aald (g' := 28) (u := 0) rfl rfl ha8 (by decide +kernel) hσ0 (by first | exact q_58e6e51dcc hl_a | omega) (lnI (by decide +kernel : LN _ = 4) (by first | exact q_f3bb6f88f7 hu_a | omega)) (FTsgl (by decide +kernel)) (fun a11 h10 ha11 => ?_)
  have t12 : a11 = p + 10 + 4 * (a.toInt).toNat := DRe (d := a.toInt) (FXP_fr hP hX hF0 (by decide +kernel)) t9 h10 (by omega) (by omega)
  have t13 := lc_d (d := a.toInt) (by omega) (by omega)
  refine En_getR (j := 0) (g' := 20) (u := 0) rfl rfl rfl ha11 (by decide +kernel) hσ0 (by decide +kernel) (fun a15 h14 ha15 => ?_)
  have t16 : a15 = p + 11 + 4 * (a.toInt).toNat := DLc (d := a.toInt) (FXP_fr hP hX hF0 (by decide +kernel)) t12 h14 (by omega) (by omega)
  obtain ⟨a18, h17, ha18⟩ := WT_peekR (g := 20) (j := 0) (g' := 21) (u := 0) hσ0 ha15 (by decide +kernel) (by decide +kernel)
  have t19 : a18 = p + 12 + 4 * (a.toInt).toNat := DKk (d := a.toInt) (FXP_fr hP hX hF0 (by decide +kernel)) t16 h17 (by omega) (by omega)
  obtain ⟨a21, h20, ha21⟩ := WT_peekR (g := 20) (j := 1) (g' := 22) (u := 0) hσ0 ha15 (by decide +kernel) (by decide +kernel)
  have t22 : a21 = p + 13 + 4 * (a.toInt).toNat := DKo (d := a.toInt) (FXP_fr hP hX hF0 (by decide +kernel)) t16 h20 (by omega) (by omega)
  obtain ⟨z24, h23, h25, h26⟩ := WT_peekI hσ0 ha15 (by decide +kernel : FT 20 2 = (0, 0, 13)) (by decide +kernel)
  have t27 : Wv (12 + 4 * (a.toInt)) = z24.toInt := KN_v hK (Or.inr (Or.inl ⟨by omega, by omega, by omega⟩)) (by omega) (by omega) (by omega) (by omega) h23
  have h28 := hB.2.2.2.2.2.2 a.toInt (by omega) (by omega)
  have : z24.toInt ≤ 12 := by omega
  refine En_Ps 4 (pc' := 16) (lv' := [(3, .ref a15), (0, .ref 0), (1, .int a), (2, .int b)]) (st' := [.ref 0, .int b, .ref a15]) rfl ?_
  refine En_callV rfl rfl rfl rfl rfl rfl rfl rfl tgz_0 (by decide +kernel) rfl (c_160 σ0 hσ0 p hp h_p sg h_sg (by first | exact q_a555021d16 hp0 | omega)) (by decide) (by decide) (fun v30 σ31 h29 => ?_)
  obtain ⟨h32, h33, z35, rfl, h34⟩ := h29
  obtain rfl : σ0 = σ31 := Fr_nil h33
  refine En_Ps 1 (pc' := 20) (lv' := [(3, .ref a15), (0, .ref 0), (1, .int a), (2, .int b)]) (st' := [.int b, .int z35, .int b, .ref a15]) rfl ?_
  refine En_callS rfl rfl rfl rfl rfl rfl rfl rfl rfl (c_108 σ0 hσ0 z35 b) (by decide) (by decide) (fun v37 σ38 h36 => ?_)
  obtain ⟨h39, h40, z42, rfl, h41⟩ := h36
  obtain rfl : σ0 = σ38 := Fr_nil h40
  refine En_callV rfl rfl rfl rfl rfl rfl rfl rfl ha15 (by decide +kernel) rfl (c_31x σ0 hσ0 a15 ha15 b z42 (geI rfl (by first | exact q_58e6e51dcc hl_b | omega)) (leI rfl (by first | exact q_5a4d8a7e08 hu_b | omega)) (geI rfl (by first | exact q_ef1e8e38bf h41.1 | omega)) (leI rfl (by first | exact q_733c8bfbae h41.2 | omega)) a18 ha18 h17 a21 ha21 h20 z24 h23 (by omega)) (by decide) (by decide) (fun v44 σ45 h43 => ?_)
  obtain ⟨h46, h47, z49, h50, rfl, h48⟩ := h43
  have h51 := h48.2.2.2.2
  have h52 := Fr_trans hF0 h47 (by decide +kernel)
  refine En_Ps 2 (pc' := 28) (lv' := [(3, .ref a15), (0, .ref 0), (1, .int a), (2, .int b)]) (st' := [.int a, .ref 0]) rfl ?_
  refine En_callV rfl rfl rfl rfl rfl rfl rfl rfl tgz_0 (by decide +kernel) rfl (c_114 σ45 h46 a (geI rfl (by first | exact q_58e6e51dcc hl_a | omega)) (leI rfl (by first | exact q_da5e9b976f hu_a | omega)) p hp ((h47 _ _ (inW tgz_0 (by decide +kernel))).trans h_p) sg ((h47 _ _ (inW hp (by decide +kernel))).trans h_sg) (by first | exact q_a555021d16 hp0 | omega)) (by decide) (by decide) (fun v54 σ55 h53 => ?_)
  obtain ⟨h56, h57, z59, rfl, h58⟩ := h53
  obtain rfl : σ45 = σ55 := Fr_nil h57
  refine En_Ps 2 (pc' := 34) (lv' := [(4, .int z59), (3, .ref a15), (0, .ref 0), (1, .int a), (2, .int b)]) (st' := [.ref a15]) rfl ?_
  refine En_callV rfl rfl rfl rfl rfl rfl rfl rfl ha15 (by decide +kernel) rfl (c_33x σ45 h46 a15 ha15 a18 ha18 ((h47 _ _ (inW ha15 (by decide +kernel))).trans h17) a21 ha21 ((h47 _ _ (inW ha15 (by decide +kernel))).trans h20) z49 h50 (by first | exact q_68fbff215b h48.1 | omega)) (by decide) (by decide) (fun v61 σ62 h60 => ?_)
  obtain ⟨h63, h64, z66, h67, rfl, h65⟩ := h60
  have h68 := h65.2.2.2.2.2.2
  have h69 := Fr_trans h52 h64 (by decide +kernel)
  refine En_Ps 2 (pc' := 40) (lv' := [(4, .int z59), (3, .ref a15), (0, .ref 0), (1, .int a), (2, .int b)]) (st' := [.ref 0, .int z59]) rfl ?_
  refine En_callV rfl rfl rfl rfl rfl rfl rfl rfl tgz_0 (by decide +kernel) rfl (c_160 σ62 h63 p hp ((h64 _ _ (inW tgz_0 (by decide +kernel))).trans ((h47 _ _ (inW tgz_0 (by decide +kernel))).trans h_p)) sg ((h64 _ _ (inW hp (by decide +kernel))).trans ((h47 _ _ (inW hp (by decide +kernel))).trans h_sg)) (by first | exact q_a555021d16 hp0 | omega)) (by decide) (by decide) (fun v71 σ72 h70 => ?_)
  obtain ⟨h73, h74, z76, rfl, h75⟩ := h70
  obtain rfl : σ62 = σ72 := Fr_nil h74
  refine En_Ps 2 (pc' := 45) (lv' := [(4, .int z59), (3, .ref a15), (0, .ref 0), (1, .int a), (2, .int b)]) (st' := [.int ((z76 ^^^ ((Int32.ofInt (-1))))), .int z59]) rfl ?_
  refine En_nam (fun z77 h78 => ?_)
  refine En_Ps 1 (pc' := 46) (lv' := [(4, .int z59), (3, .ref a15), (0, .ref 0), (1, .int a), (2, .int b)]) (st' := [.int ((z59 &&& z77))]) rfl ?_
  refine En_nam (fun z79 h80 => ?_)
  refine En_callS rfl rfl rfl rfl rfl rfl rfl rfl rfl (c_7bx σ62 h63 z79) (by decide) (by decide) (fun v82 σ83 h81 => ?_)
  obtain ⟨h84, h85, z87, rfl, h86⟩ := h81
  obtain rfl : σ62 = σ83 := Fr_nil h85
  exact En_ret (v := some (.int z87)) rfl rfl rfl ⟨h63, h69, z87, rfl, ⟨by first | exact q_a555021d16 h86.1 | omega, by first | exact q_4b9206e141 h86.2 | omega, KN_again hK (PLA_B hP) t27 h51 (DRP_e h68 (by omega)) t16 t19 t22 (by omega) (by omega) (by omega) (by omega)⟩⟩
/-- DoorSchool.gainOf(III)I -/
abbrev P_129x (σ0 : SG) (Wv : Int → Int) (a : Int32) (b : Int32) (c : Int32) (p : Nat) (sg : Int32) : PO := fun v σ => WT σ ∧ Fr [(20, 2), (21, 0), (22, 0)] σ0 σ ∧ ∃ ret : Int32, v = some (.int ret) ∧ -ret.toInt - 63 ≤ 0 ∧ ret.toInt - 63 ≤ 0 ∧ (KN σ p Wv (act Wv) ∧ OUT σ0 σ p)
set_option maxRecDepth 10000 in
set_option maxHeartbeats 4000000 in
theorem c_129x {Wv : Int → Int} (σ0 : SG) (hσ0 : WT σ0) (a : Int32) (b : Int32) (c : Int32) (hl_a : 0 ≤ a.toInt) (hu_a : a.toInt ≤ 3) (hl_b : 0 ≤ b.toInt) (hu_b : b.toInt ≤ 15) (hl_c : 0 ≤ c.toInt) (hu_c : c.toInt ≤ 1) (p : Nat) (hp : TG p = 18) (h_p : (σ0 0)[9]? = some (.ref p)) (sg : Int32) (h_sg : (σ0 p)[1]? = some (.int sg)) (hp0 : -sg.toInt ≤ 0) (hP : PLA p) (hX : FXP σ0 p) (hK : KN σ0 p Wv (act Wv)) (hB : WFw Wv) (ha : a.toInt < Wv 2) : En 4 92 none mr_129 (P_129x σ0 Wv a b c p sg) 0 [(0, .ref 0), (1, .int a), (2, .int b), (3, .int c)] [] σ0 := by
  obtain ⟨hl_sg, hu_sg⟩ := WT_int hσ0 (g := 18) hp (by decide +kernel) (l := (-1)) (u := 4) (by decide +kernel) h_sg
  have hF0 : Fr [(20, 2), (21, 0), (22, 0)] σ0 σ0 := Fr_rfl
  have t1 : Wv (0) = sg.toInt := KN_v hK (Or.inl (by decide)) (by decide) (by decide) (by rw [lcO_lt (by decide) (by decide), Nat.add_zero]) rfl h_sg
  obtain ⟨z3, h2, h4, h5⟩ := WT_peekI hσ0 hp (by decide +kernel : FT 18 3 = (0, 0, 4)) (by decide +kernel)
  have t6 : Wv (2) = z3.toInt := KN_v hK (Or.inl (by decide)) (by decide) (by decide) (by rw [lcO_lt (by decide) (by decide), Nat.add_zero]) rfl h2
  refine En_Ps 1 (pc' := 1) (lv' := [(0, .ref 0), (1, .int a), (2, .int b), (3, .int c)]) (st' := [.ref 0]) rfl ?_
  refine En_getK (j := 9) h_p rfl rfl rfl tgz_0 (by decide +kernel) ?_
  refine En_getR (j := 4) (g' := 19) (u := 0) rfl rfl rfl hp (by decide +kernel) hσ0 (by decide +kernel) (fun a8 h7 ha8 => ?_)
  have t9 : a8 = p + 1 := ref_uniq h7 (FXP_fr hP hX hF0 (by decide +kernel)).1
  refine En_Ps 1 (pc' := 8) (lv' := [(0, .ref 0), (1, .int a), (2, .int b), (3, .int c)]) (st' := [.int a, .ref a8]) rfl ?_
  refine En_aald (g' := 28) (u := 0) rfl rfl ha8 (by decide +kernel) hσ0 (by first | exact q_58e6e51dcc hl_a | omega) (lnI (by decide +kernel : LN _ = 4) (by first | exact q_f3bb6f88f7 hu_a | omega)) (FTsgl (by decide +kernel)) (fun a11 h10 ha11 => ?_)
  have t12 : a11 = p + 10 + 4 * (a.toInt).toNat := DRe (d := a.toInt) (FXP_fr hP hX hF0 (by decide +kernel)) t9 h10 (by omega) (by omega)
  have t13 := lc_d (d := a.toInt) (by omega) (by omega)
  refine En_getR (j := 0) (g' := 20) (u := 0) rfl rfl rfl ha11 (by decide +kernel) hσ0 (by decide +kernel) (fun a15 h14 ha15 => ?_)
  have t16 : a15 = p + 11 + 4 * (a.toInt).toNat := DLc (d := a.toInt) (FXP_fr hP hX hF0 (by decide +kernel)) t12 h14 (by omega) (by omega)
  obtain ⟨a18, h17, ha18⟩ := WT_peekR (g := 20) (j := 0) (g' := 21) (u := 0) hσ0 ha15 (by decide +kernel) (by decide +kernel)
  have t19 : a18 = p + 12 + 4 * (a.toInt).toNat := DKk (d := a.toInt) (FXP_fr hP hX hF0 (by decide +kernel)) t16 h17 (by omega) (by omega)
  obtain ⟨a21, h20, ha21⟩ := WT_peekR (g := 20) (j := 1) (g' := 22) (u := 0) hσ0 ha15 (by decide +kernel) (by decide +kernel)
  have t22 : a21 = p + 13 + 4 * (a.toInt).toNat := DKo (d := a.toInt) (FXP_fr hP hX hF0 (by decide +kernel)) t16 h20 (by omega) (by omega)
  obtain ⟨z24, h23, h25, h26⟩ := WT_peekI hσ0 ha15 (by decide +kernel : FT 20 2 = (0, 0, 13)) (by decide +kernel)
  have t27 : Wv (12 + 4 * (a.toInt)) = z24.toInt := KN_v hK (Or.inr (Or.inl ⟨by omega, by omega, by omega⟩)) (by omega) (by omega) (by omega) (by omega) h23
  have h28 := hB.2.2.2.2.2.2 a.toInt (by omega) (by omega)
  have : z24.toInt ≤ 12 := by omega
  refine En_Ps 4 (pc' := 17) (lv' := [(4, .ref a15), (0, .ref 0), (1, .int a), (2, .int b), (3, .int c)]) (st' := [.int a, .ref 0, .ref 0]) rfl ?_
  refine En_callV rfl rfl rfl rfl rfl rfl rfl rfl tgz_0 (by decide +kernel) rfl (c_114 σ0 hσ0 a (geI rfl (by first | exact q_58e6e51dcc hl_a | omega)) (leI rfl (by first | exact q_da5e9b976f hu_a | omega)) p hp h_p sg h_sg (by first | exact q_a555021d16 hp0 | omega)) (by decide) (by decide) (fun v30 σ31 h29 => ?_)
  obtain ⟨h32, h33, z35, rfl, h34⟩ := h29
  obtain rfl : σ0 = σ31 := Fr_nil h33
  refine En_callV rfl rfl rfl rfl rfl rfl rfl rfl tgz_0 (by decide +kernel) rfl (c_156 σ0 hσ0 z35 p hp h_p sg h_sg (by first | exact q_a555021d16 hp0 | omega)) (by decide) (by decide) (fun v37 σ38 h36 => ?_)
  obtain ⟨h39, h40, z42, rfl, h41⟩ := h36
  obtain rfl : σ0 = σ38 := Fr_nil h40
  refine En_Ps 4 (pc' := 29) (lv' := [(5, .int z42), (4, .ref a15), (0, .ref 0), (1, .int a), (2, .int b), (3, .int c)]) (st' := [.int c, .int b, .ref a15]) rfl ?_
  refine En_callV rfl rfl rfl rfl rfl rfl rfl rfl ha15 (by decide +kernel) rfl (c_31x σ0 hσ0 a15 ha15 b c (geI rfl (by first | exact q_58e6e51dcc hl_b | omega)) (leI rfl (by first | exact q_5a4d8a7e08 hu_b | omega)) (geI rfl (by first | exact q_58e6e51dcc hl_c | omega)) (leI rfl (by first | exact q_9d0c30f9c5 hu_c | omega)) a18 ha18 h17 a21 ha21 h20 z24 h23 (by omega)) (by decide) (by decide) (fun v44 σ45 h43 => ?_)
  obtain ⟨h46, h47, z49, h50, rfl, h48⟩ := h43
  have h51 := h48.2.2.2.2
  have h52 := Fr_trans hF0 h47 (by decide +kernel)
  refine En_Ps 3 (pc' := 35) (lv' := [(5, .int z42), (4, .ref a15), (0, .ref 0), (1, .int a), (2, .int b), (3, .int c)]) (st' := [.int a, .ref 0, .ref 0]) rfl ?_
  refine En_callV rfl rfl rfl rfl rfl rfl rfl rfl tgz_0 (by decide +kernel) rfl (c_114 σ45 h46 a (geI rfl (by first | exact q_58e6e51dcc hl_a | omega)) (leI rfl (by first | exact q_da5e9b976f hu_a | omega)) p hp ((h47 _ _ (inW tgz_0 (by decide +kernel))).trans h_p) sg ((h47 _ _ (inW hp (by decide +kernel))).trans h_sg) (by first | exact q_a555021d16 hp0 | omega)) (by decide) (by decide) (fun v54 σ55 h53 => ?_)
  obtain ⟨h56, h57, z59, rfl, h58⟩ := h53
  obtain rfl : σ45 = σ55 := Fr_nil h57
  refine En_callV rfl rfl rfl rfl rfl rfl rfl rfl tgz_0 (by decide +kernel) rfl (c_156 σ45 h46 z59 p hp ((h47 _ _ (inW tgz_0 (by decide +kernel))).trans h_p) sg ((h47 _ _ (inW hp (by decide +kernel))).trans h_sg) (by first | exact q_a555021d16 hp0 | omega)) (by decide) (by decide) (fun v61 σ62 h60 => ?_)
  obtain ⟨h63, h64, z66, rfl, h65⟩ := h60
  obtain rfl : σ45 = σ62 := Fr_nil h64
  refine En_Ps 2 (pc' := 45) (lv' := [(6, .int z66), (5, .int z42), (4, .ref a15), (0, .ref 0), (1, .int a), (2, .int b), (3, .int c)]) (st' := [.ref a15]) rfl ?_
  refine En_callV rfl rfl rfl rfl rfl rfl rfl rfl ha15 (by decide +kernel) rfl (c_33x σ45 h46 a15 ha15 a18 ha18 ((h47 _ _ (inW ha15 (by decide +kernel))).trans h17) a21 ha21 ((h47 _ _ (inW ha15 (by decide +kernel))).trans h20) z49 h50 (by first | exact q_68fbff215b h48.1 | omega)) (by decide) (by decide) (fun v68 σ69 h67 => ?_)
  obtain ⟨h70, h71, z73, h74, rfl, h72⟩ := h67
  have h75 := h72.2.2.2.2.2.2
  have h76 := Fr_trans h52 h71 (by decide +kernel)
  refine En_Ps 3 (pc' := 53) (lv' := [(6, .int z66), (5, .int z42), (4, .ref a15), (0, .ref 0), (1, .int a), (2, .int b), (3, .int c)]) (st' := [.int ((z66 - z42))]) rfl ?_
  refine En_top (subI rfl rfl (by first | exact q_d018790b8b h41.2 h65.1 | omega) (by first | exact q_3fa6c10ab4 h41.1 h65.2 | omega)) (fun z77 h78 => ?_)
  exact En_ret (v := some (.int z77)) rfl rfl rfl ⟨h70, h76, z77, rfl, ⟨by first | exact q_fb51dea35d h78 h41.2 h65.1 | omega, by first | exact q_5e305e2bed h78 h41.1 h65.2 | omega, KN_again hK (PLA_B hP) t27 h51 (DRP_e h75 (by omega)) t16 t19 t22 (by omega) (by omega) (by omega) (by omega)⟩⟩
/-- DoorSchool.isLesson(III)Z -/
abbrev P_144x (σ0 : SG) (Wv : Int → Int) (a : Int32) (b : Int32) (c : Int32) (p : Nat) (sg : Int32) : PO := fun v σ => WT σ ∧ Fr [] σ0 σ ∧ ∃ ret : Int32, v = some (.int ret) ∧ -ret.toInt ≤ 0 ∧ ret.toInt - 1 ≤ 0 ∧ Imp (ret.toInt ≤ 0 ∧ -ret.toInt ≤ 0) (-a.toInt - 2147483648 ≤ 0 ∧ a.toInt - 2147483647 ≤ 0) ∧ Imp (ret.toInt - 1 ≤ 0 ∧ -ret.toInt + 1 ≤ 0) (-a.toInt ≤ 0 ∧ a.toInt - 3 ≤ 0 ∧ -b.toInt ≤ 0 ∧ b.toInt - 15 ≤ 0 ∧ -c.toInt ≤ 0 ∧ c.toInt - 1 ≤ 0) ∧ ((ret.toInt = 1 ∧ okL Wv a.toInt b.toInt c.toInt) ∨ (ret.toInt = 0 ∧ ¬ okL Wv a.toInt b.toInt c.toInt))
set_option maxRecDepth 10000 in
set_option maxHeartbeats 4000000 in
theorem c_144x {Wv : Int → Int} (σ0 : SG) (hσ0 : WT σ0) (a : Int32) (b : Int32) (c : Int32) (p : Nat) (hp : TG p = 18) (h_p : (σ0 0)[9]? = some (.ref p)) (sg : Int32) (h_sg : (σ0 p)[1]? = some (.int sg)) (hp0 : -sg.toInt ≤ 0) (hP : PLA p) (hX : FXP σ0 p) (hK : KN σ0 p Wv (act Wv)) : En 2 41 none mr_144 (P_144x σ0 Wv a b c p sg) 0 [(0, .ref 0), (1, .int a), (2, .int b), (3, .int c)] [] σ0 := by
  obtain ⟨hl_sg, hu_sg⟩ := WT_int hσ0 (g := 18) hp (by decide +kernel) (l := (-1)) (u := 4) (by decide +kernel) h_sg
  have hF0 : Fr [] σ0 σ0 := Fr_rfl
  have t1 : Wv (0) = sg.toInt := KN_v hK (Or.inl (by decide)) (by decide) (by decide) (by rw [lcO_lt (by decide) (by decide), Nat.add_zero]) rfl h_sg
  refine En_Ps 1 (pc' := 1) (lv' := [(0, .ref 0), (1, .int a), (2, .int b), (3, .int c)]) (st' := [.ref 0]) rfl ?_
  refine En_getK (j := 9) h_p rfl rfl rfl tgz_0 (by decide +kernel) ?_
  refine En_Ps 1 (pc' := 5) (lv' := [(0, .ref 0), (1, .int a), (2, .int b), (3, .int c)]) (st' := [.int a, .ref p]) rfl ?_
  obtain ⟨z3, h2, h4, h5⟩ := WT_peekI hσ0 hp (by decide +kernel : FT 18 3 = (0, 0, 4)) (by decide +kernel)
  have t6 : Wv (2) = z3.toInt := KN_v hK (Or.inl (by decide)) (by decide) (by decide) (by rw [lcO_lt (by decide) (by decide), Nat.add_zero]) rfl h2
  refine En_callV rfl rfl rfl rfl rfl rfl rfl rfl hp (by decide +kernel) rfl (c_47x σ0 hσ0 p hp a z3 h2) (by decide) (by decide) (fun v8 σ9 h7 => ?_)
  obtain ⟨h10, h11, z13, rfl, h12⟩ := h7
  obtain rfl : σ0 = σ9 := Fr_nil h11
  have h14 := Imp_m h12.2.2.1
  have h15 := Imp_m h12.2.2.2.1
  have h16 := Imp_m h12.2.2.2.2.1
  have h17 := Imp_m h12.2.2.2.2.2
  refine En_iEq _ rfl rfl (fun h18 => ?_) (fun h18 => ?_)
  · have h19 := Imp_m h12.2.2.2.2.1 (by first | exact ⟨q_c5d285f1b9 h18, q_a555021d16 h12.1⟩ | omega)
    refine En_Ps 1 (pc' := 34) (lv' := [(0, .ref 0), (1, .int a), (2, .int b), (3, .int c)]) (st' := [.int ((Int32.ofInt 0))]) rfl ?_
    refine En_top (by decide : (Int32.ofInt 0).toInt = 0) (fun z20 h21 => ?_)
    exact En_ret (v := some (.int z20)) rfl rfl (retZ rfl rfl (by first | exact q_55451d0a83 h21 | omega) (by first | exact q_87849c3859 h21 | omega)) ⟨hσ0, hF0, z20, rfl, ⟨by first | exact q_097a37c2ae h21 | omega, by first | exact q_e269517bee h21 | omega, fun hh => by first | exact ⟨q_62fc0891e9 h19.1, q_2f9ec35db8 h19.2⟩ | omega, fun _ => by omega, Or.inr ⟨by omega, fun ⟨q1, q2, q3, q4, q5, q6, q7⟩ => by omega⟩⟩⟩
  · have h22 := Imp_m h12.2.2.1 (by first | exact q_e3350da514 h18 h12.1 | omega)
    have h23 := Imp_m h12.2.2.2.1 (by first | exact ⟨q_a555021d16 h22.1, q_ef157b5a0e h22.2⟩ | omega)
    have h24 := Imp_m h12.2.2.2.2.2 (by first | exact ⟨q_ad5b726bf8 h12.2.1, q_e3350da514 h18 h12.1⟩ | omega)
    refine En_Ps 1 (pc' := 12) (lv' := [(0, .ref 0), (1, .int a), (2, .int b), (3, .int c)]) (st' := [.ref 0]) rfl ?_
    refine En_getK (j := 9) h_p rfl rfl rfl tgz_0 (by decide +kernel) ?_
    refine En_Ps 1 (pc' := 16) (lv' := [(0, .ref 0), (1, .int a), (2, .int b), (3, .int c)]) (st' := [.int b, .ref p]) rfl ?_
    obtain ⟨z26, h25, h27, h28⟩ := WT_peekI hσ0 hp (by decide +kernel : FT 18 0 = (0, 0, 1601)) (by decide +kernel)
    have t29 : Wv (7) = z26.toInt := KN_v hK (Or.inl (by decide)) (by decide) (by decide) (by rw [lcO_lt (by decide) (by decide), Nat.add_zero]) rfl h25
    refine En_callV rfl rfl rfl rfl rfl rfl rfl rfl hp (by decide +kernel) rfl (c_49x σ0 hσ0 p hp b z26 h25 sg h_sg (by first | exact q_a555021d16 hp0 | omega)) (by decide) (by decide) (fun v31 σ32 h30 => ?_)
    obtain ⟨h33, h34, z36, rfl, h35⟩ := h30
    have h37 := h35.2.2.2
    obtain rfl : σ0 = σ32 := Fr_nil h34
    have h38 := Imp_m h35.2.2.1
    have h39 := h37
    have h40 : pI (Wv 0) = pI (sg.toInt) := by rw [t1]
    refine En_iEq _ rfl rfl (fun h41 => ?_) (fun h41 => ?_)
    · refine En_Ps 1 (pc' := 34) (lv' := [(0, .ref 0), (1, .int a), (2, .int b), (3, .int c)]) (st' := [.int ((Int32.ofInt 0))]) rfl ?_
      refine En_top (by decide : (Int32.ofInt 0).toInt = 0) (fun z42 h43 => ?_)
      exact En_ret (v := some (.int z42)) rfl rfl (retZ rfl rfl (by first | exact q_55451d0a83 h43 | omega) (by first | exact q_87849c3859 h43 | omega)) ⟨hσ0, hF0, z42, rfl, ⟨by first | exact q_097a37c2ae h43 | omega, by first | exact q_e269517bee h43 | omega, fun hh => by first | exact ⟨q_cbdb2feb0e h22.1, q_ae1cc60a52 h24.2⟩ | omega, fun _ => by omega, Or.inr ⟨by omega, fun ⟨q1, q2, q3, q4, q5, q6, q7⟩ => by omega⟩⟩⟩
    · have h44 := Imp_m h35.2.2.1 (by first | exact ⟨q_ad5b726bf8 h35.2.1, q_e3350da514 h41 h35.1⟩ | omega)
      refine En_Ps 1 (pc' := 23) (lv' := [(0, .ref 0), (1, .int a), (2, .int b), (3, .int c)]) (st' := [.int c]) rfl ?_
      refine En_callS rfl rfl rfl rfl rfl rfl rfl rfl rfl (c_149x σ0 hσ0 c) (by decide) (by decide) (fun v46 σ47 h45 => ?_)
      obtain ⟨h48, h49, z51, rfl, h50⟩ := h45
      have h52 := h50.2.2.2
      obtain rfl : σ0 = σ47 := Fr_nil h49
      have h53 := Imp_m h50.2.2.1
      refine En_iEq _ rfl rfl (fun h54 => ?_) (fun h54 => ?_)
      · refine En_Ps 1 (pc' := 34) (lv' := [(0, .ref 0), (1, .int a), (2, .int b), (3, .int c)]) (st' := [.int ((Int32.ofInt 0))]) rfl ?_
        refine En_top (by decide : (Int32.ofInt 0).toInt = 0) (fun z55 h56 => ?_)
        exact En_ret (v := some (.int z55)) rfl rfl (retZ rfl rfl (by first | exact q_55451d0a83 h56 | omega) (by first | exact q_87849c3859 h56 | omega)) ⟨hσ0, hF0, z55, rfl, ⟨by first | exact q_097a37c2ae h56 | omega, by first | exact q_e269517bee h56 | omega, fun hh => by first | exact ⟨q_cbdb2feb0e h22.1, q_ae1cc60a52 h24.2⟩ | omega, fun _ => by omega, Or.inr ⟨by omega, fun ⟨q1, q2, q3, q4, q5, q6, q7⟩ => by omega⟩⟩⟩
      · have h57 := Imp_m h50.2.2.1 (by first | exact ⟨q_ad5b726bf8 h50.2.1, q_e3350da514 h54 h50.1⟩ | omega)
        refine En_Ps 2 (pc' := 34) (lv' := [(0, .ref 0), (1, .int a), (2, .int b), (3, .int c)]) (st' := [.int ((Int32.ofInt 1))]) rfl ?_
        refine En_top (by decide : (Int32.ofInt 1).toInt = 1) (fun z58 h59 => ?_)
        exact En_ret (v := some (.int z58)) rfl rfl (retZ rfl rfl (by first | exact q_2b07c97645 h59 | omega) (by first | exact q_d9e7cbb253 h59 | omega)) ⟨hσ0, hF0, z58, rfl, ⟨by first | exact q_ad3eee31ca h59 | omega, by first | exact q_81cf297dc4 h59 | omega, fun hh => by first | exact ⟨q_cbdb2feb0e h22.1, q_ae1cc60a52 h24.2⟩ | omega, fun hh => by first | exact ⟨q_a555021d16 h22.1, q_c733b715bf h24.2, q_a555021d16 h44.1, q_cc7dfeacf0 h44.2, q_a555021d16 h57.1, q_ad5b726bf8 h57.2⟩ | omega, Or.inl ⟨by omega, by omega, by omega, by omega, by omega, by omega, by omega, by omega⟩⟩⟩
/-- DoorSchool.gains(III)I -/
abbrev P_130x (σ0 : SG) (Wv : Int → Int) (a : Int32) (b : Int32) (c : Int32) (p : Nat) (sg : Int32) : PO := fun v σ => WT σ ∧ Fr [(20, 2), (21, 0), (22, 0)] σ0 σ ∧ ∃ ret : Int32, v = some (.int ret) ∧ -ret.toInt - 1000 ≤ 0 ∧ ret.toInt - 63 ≤ 0 ∧ (KN σ p Wv (act Wv) ∧ OUT σ0 σ p)
set_option maxRecDepth 10000 in
set_option maxHeartbeats 4000000 in
theorem c_130x {Wv : Int → Int} (σ0 : SG) (hσ0 : WT σ0) (a : Int32) (b : Int32) (c : Int32) (p : Nat) (hp : TG p = 18) (h_p : (σ0 0)[9]? = some (.ref p)) (sg : Int32) (h_sg : (σ0 p)[1]? = some (.int sg)) (hp0 : -sg.toInt ≤ 0) (hP : PLA p) (hX : FXP σ0 p) (hK : KN σ0 p Wv (act Wv)) (hB : WFw Wv) : En 5 118 none mr_130 (P_130x σ0 Wv a b c p sg) 0 [(0, .ref 0), (1, .int a), (2, .int b), (3, .int c)] [] σ0 := by
  obtain ⟨hl_sg, hu_sg⟩ := WT_int hσ0 (g := 18) hp (by decide +kernel) (l := (-1)) (u := 4) (by decide +kernel) h_sg
  have hF0 : Fr [(20, 2), (21, 0), (22, 0)] σ0 σ0 := Fr_rfl
  have t1 : Wv (0) = sg.toInt := KN_v hK (Or.inl (by decide)) (by decide) (by decide) (by rw [lcO_lt (by decide) (by decide), Nat.add_zero]) rfl h_sg
  obtain ⟨z3, h2, h4, h5⟩ := WT_peekI hσ0 hp (by decide +kernel : FT 18 3 = (0, 0, 4)) (by decide +kernel)
  have t6 : Wv (2) = z3.toInt := KN_v hK (Or.inl (by decide)) (by decide) (by decide) (by rw [lcO_lt (by decide) (by decide), Nat.add_zero]) rfl h2
  refine En_Ps 4 (pc' := 4) (lv' := [(0, .ref 0), (1, .int a), (2, .int b), (3, .int c)]) (st' := [.int c, .int b, .int a, .ref 0]) rfl ?_
  refine En_callV rfl rfl rfl rfl rfl rfl rfl rfl tgz_0 (by decide +kernel) rfl (c_144x σ0 hσ0 a b c p hp h_p sg h_sg (by first | exact q_a555021d16 hp0 | omega) hP (FXP_fr hP hX hF0 (by decide +kernel)) hK) (by decide) (by decide) (fun v8 σ9 h7 => ?_)
  obtain ⟨h10, h11, z13, rfl, h12⟩ := h7
  have h14 := h12.2.2.2.2
  obtain rfl : σ0 = σ9 := Fr_nil h11
  have h15 := h14
  refine En_iEq _ rfl rfl (fun h16 => ?_) (fun h16 => ?_)
  · have h17 := Imp_m h12.2.2.1 (by first | exact ⟨q_c5d285f1b9 h16, q_a555021d16 h12.1⟩ | omega)
    refine En_Ps 1 (pc' := 23) (lv' := [(0, .ref 0), (1, .int a), (2, .int b), (3, .int c)]) (st' := [.int (((Int16.ofInt (-1000)).toInt32))]) rfl ?_
    refine En_top (by decide : ((Int16.ofInt (-1000)).toInt32).toInt = -1000) (fun z18 h19 => ?_)
    exact En_ret (v := some (.int z18)) rfl rfl rfl ⟨hσ0, hF0, z18, rfl, ⟨by first | exact q_44e84994b9 h19 | omega, by first | exact q_53bcfed32a h19 | omega, ⟨hK, OUT_0⟩⟩⟩
  · have h20 := Imp_m h12.2.2.2.1 (by first | exact ⟨q_ad5b726bf8 h12.2.1, q_e3350da514 h16 h12.1⟩ | omega)
    have h21 : okL Wv a.toInt b.toInt c.toInt := by rcases h15 with q | q; exact q.2; exfalso; omega
    have := h21.1
    have := h21.2.1
    refine En_Ps 4 (pc' := 14) (lv' := [(0, .ref 0), (1, .int a), (2, .int b), (3, .int c)]) (st' := [.int c, .int b, .int a, .ref 0]) rfl ?_
    refine En_callV rfl rfl rfl rfl rfl rfl rfl rfl tgz_0 (by decide +kernel) rfl (c_129x σ0 hσ0 a b c (geI rfl (by first | exact q_ef1e8e38bf h20.1 | omega)) (leI rfl (by first | exact q_87d9217d84 h20.2.1 | omega)) (geI rfl (by first | exact q_ef1e8e38bf h20.2.2.1 | omega)) (leI rfl (by first | exact q_5a5f544404 h20.2.2.2.1 | omega)) (geI rfl (by first | exact q_ef1e8e38bf h20.2.2.2.2.1 | omega)) (leI rfl (by first | exact q_733c8bfbae h20.2.2.2.2.2 | omega)) p hp h_p sg h_sg (by first | exact q_a555021d16 hp0 | omega) hP (FXP_fr hP hX hF0 (by decide +kernel)) hK hB (by omega)) (by decide) (by decide) (fun v23 σ24 h22 => ?_)
    obtain ⟨h25, h26, z28, rfl, h27⟩ := h22
    have h29 := h27.2.2
    have h30 := Fr_trans hF0 h26 (by decide +kernel)
    have h31 := h29.2
    refine En_Ps 1 (pc' := 23) (lv' := [(0, .ref 0), (1, .int a), (2, .int b), (3, .int c)]) (st' := [.int z28]) rfl ?_
    exact En_ret (v := some (.int z28)) rfl rfl rfl ⟨h25, h30, z28, rfl, ⟨by first | exact q_0dd3b74ee0 h27.1 | omega, by first | exact q_4b9206e141 h27.2.1 | omega, ⟨h29.1, h31⟩⟩⟩
/-- DoorSchool.harden(I)I -/
abbrev P_135x (σ0 : SG) (Wv : Int → Int) (a : Int32) (p : Nat) (sg : Int32) : PO := fun v σ => WT σ ∧ Fr [(20, 2), (21, 0), (22, 0)] σ0 σ ∧ ∃ ret : Int32, v = some (.int ret) ∧ -ret.toInt - 2 ≤ 0 ∧ ret.toInt - 15 ≤ 0 ∧ Imp (-ret.toInt - 1 ≤ 0) (-a.toInt ≤ 0 ∧ a.toInt - 3 ≤ 0) ∧ Imp (-ret.toInt ≤ 0) (ret.toInt - 15 ≤ 0) ∧ Imp (-ret.toInt - 1 ≤ 0) (a.toInt - Wv 2 + 1 ≤ 0) ∧ (KN σ p Wv (act Wv) ∧ OUT σ0 σ p)
set_option maxRecDepth 10000 in
set_option maxHeartbeats 4000000 in
theorem c_135x {Wv : Int → Int} (σ0 : SG) (hσ0 : WT σ0) (a : Int32) (p : Nat) (hp : TG p = 18) (h_p : (σ0 0)[9]? = some (.ref p)) (sg : Int32) (h_sg : (σ0 p)[1]? = some (.int sg)) (hp0 : -sg.toInt ≤ 0) (hP : PLA p) (hX : FXP σ0 p) (hK : KN σ0 p Wv (act Wv)) (hB : WFw Wv) : En 5 116 none mr_135 (P_135x σ0 Wv a p sg) 0 [(0, .ref 0), (1, .int a)] [] σ0 := by
  obtain ⟨hl_sg, hu_sg⟩ := WT_int hσ0 (g := 18) hp (by decide +kernel) (l := (-1)) (u := 4) (by decide +kernel) h_sg
  have hF0 : Fr [(20, 2), (21, 0), (22, 0)] σ0 σ0 := Fr_rfl
  have t1 : Wv (0) = sg.toInt := KN_v hK (Or.inl (by decide)) (by decide) (by decide) (by rw [lcO_lt (by decide) (by decide), Nat.add_zero]) rfl h_sg
  obtain ⟨z3, h2, h4, h5⟩ := WT_peekI hσ0 hp (by decide +kernel : FT 18 3 = (0, 0, 4)) (by decide +kernel)
  have t6 : Wv (2) = z3.toInt := KN_v hK (Or.inl (by decide)) (by decide) (by decide) (by rw [lcO_lt (by decide) (by decide), Nat.add_zero]) rfl h2
  refine En_Ps 1 (pc' := 1) (lv' := [(0, .ref 0), (1, .int a)]) (st' := [.ref 0]) rfl ?_
  refine En_getK (j := 9) h_p rfl rfl rfl tgz_0 (by decide +kernel) ?_
  refine En_Ps 1 (pc' := 5) (lv' := [(0, .ref 0), (1, .int a)]) (st' := [.int a, .ref p]) rfl ?_
  refine En_callV rfl rfl rfl rfl rfl rfl rfl rfl hp (by decide +kernel) rfl (c_47x σ0 hσ0 p hp a z3 h2) (by decide) (by decide) (fun v8 σ9 h7 => ?_)
  obtain ⟨h10, h11, z13, rfl, h12⟩ := h7
  obtain rfl : σ0 = σ9 := Fr_nil h11
  have h14 := Imp_m h12.2.2.1
  have h15 := Imp_m h12.2.2.2.1
  have h16 := Imp_m h12.2.2.2.2.1
  have h17 := Imp_m h12.2.2.2.2.2
  refine En_iNe _ rfl rfl (fun h18 => ?_) (fun h18 => ?_)
  · have h19 := Imp_m h12.2.2.1 (by first | exact q_e3350da514 h18 h12.1 | omega)
    have h20 := Imp_m h12.2.2.2.1 (by first | exact ⟨q_a555021d16 h19.1, q_ef157b5a0e h19.2⟩ | omega)
    have h21 := Imp_m h12.2.2.2.2.2 (by first | exact ⟨q_ad5b726bf8 h12.2.1, q_e3350da514 h18 h12.1⟩ | omega)
    refine En_Ps 4 (pc' := 18) (lv' := [(2, .int ((Int32.ofInt (-1)))), (0, .ref 0), (1, .int a)]) (st' := [.int a, .ref 0]) rfl ?_
    refine En_callV rfl rfl rfl rfl rfl rfl rfl rfl tgz_0 (by decide +kernel) rfl (c_126 σ0 hσ0 a (geI rfl (by first | exact q_ef1e8e38bf h19.1 | omega)) (leI rfl (by first | exact q_87d9217d84 h21.2 | omega)) p hp h_p sg h_sg (by first | exact q_a555021d16 hp0 | omega)) (by decide) (by decide) (fun v23 σ24 h22 => ?_)
    obtain ⟨h25, h26, z28, rfl, h27⟩ := h22
    obtain rfl : σ0 = σ24 := Fr_nil h26
    refine En_callS rfl rfl rfl rfl rfl rfl rfl rfl rfl (c_7bx σ0 hσ0 z28) (by decide) (by decide) (fun v30 σ31 h29 => ?_)
    obtain ⟨h32, h33, z35, rfl, h34⟩ := h29
    obtain rfl : σ0 = σ31 := Fr_nil h33
    refine En_Ps 3 (pc' := 28) (lv' := [(4, .int ((Int32.ofInt 0))), (3, .int z35), (2, .int ((Int32.ofInt (-1)))), (0, .ref 0), (1, .int a)]) (st' := []) rfl ?_
    have key28 : ∀ (n28 : Nat) (σ39 : SG) (y36 : Int32) (y37 : Int32) (y38 : Int32), WT σ39 → Fr [(20, 2), (21, 0), (22, 0)] σ0 σ39 → (σ39 0)[9]? = some (.ref p) → (σ39 p)[1]? = some (.int sg) → (σ39 p)[3]? = some (.int z3) → (-1) ≤ y36.toInt → y36.toInt ≤ 15 → 0 ≤ y37.toInt → y37.toInt ≤ 63 → 0 ≤ y38.toInt → y38.toInt ≤ 16 → y36.toInt - y38.toInt + 1 ≤ 0 → -y38.toInt + 16 < (n28 : Int) → KN σ39 p Wv (act Wv) → OUT σ0 σ39 p → En 5 116 none mr_135 (P_135x σ0 Wv a p sg) 28 [(0, .ref 0), (1, .int a), (2, .int y36), (3, .int y37), (4, .int y38)] [] σ39 := by
      intro n28
      induction n28 with
      | zero =>
        intro σ39 y36 y37 y38 h40 h41 h42 h43 h44 h45 h46 h47 h48 h49 h50 h51 h52 h53 h54
        first | exact (q_511f6d33ac h52 h50).elim | (exfalso; omega)
      | succ n28 ih28 =>
        intro σ39 y36 y37 y38 h40 h41 h42 h43 h44 h45 h46 h47 h48 h49 h50 h51 h52 h53 h54
        refine En_Ps 2 (pc' := 31) (lv' := [(0, .ref 0), (1, .int a), (2, .int y36), (3, .int y37), (4, .int y38)]) (st' := [.ref 0, .int y38]) rfl ?_
        refine En_getK (j := 9) h42 rfl rfl rfl tgz_0 (by decide +kernel) ?_
        refine En_callV rfl rfl rfl rfl rfl rfl rfl rfl hp (by decide +kernel) rfl (c_51x σ39 h40 p hp sg h43 (by first | exact q_a555021d16 hp0 | omega)) (by decide) (by decide) (fun v56 σ57 h55 => ?_)
        obtain ⟨h58, h59, z61, rfl, h60⟩ := h55
        have h62 := h60.2.2
        obtain rfl : σ39 = σ57 := Fr_nil h59
        refine En_icGe _ rfl rfl rfl (fun h63 => ?_) (fun h63 => ?_)
        · refine En_Ps 1 (pc' := 68) (lv' := [(0, .ref 0), (1, .int a), (2, .int y36), (3, .int y37), (4, .int y38)]) (st' := [.int y36]) rfl ?_
          exact En_ret (v := some (.int y36)) rfl rfl rfl ⟨h40, h41, y36, rfl, ⟨by first | exact q_fe58cd40d0 h45 | omega, by first | exact q_867a9ac627 h46 | omega, fun hh => by first | exact ⟨q_a555021d16 h19.1, q_c733b715bf h21.2⟩ | omega, fun hh => by first | exact q_867a9ac627 h46 | omega, fun _ => by omega, ⟨h53, h54⟩⟩⟩
        · refine En_Ps 3 (pc' := 44) (lv' := [(0, .ref 0), (1, .int a), (2, .int y36), (3, .int y37), (4, .int y38)]) (st' := [.int y38, .int a, .ref 0]) rfl ?_
          refine En_callV rfl rfl rfl rfl rfl rfl rfl rfl tgz_0 (by decide +kernel) rfl (c_127x σ39 h40 a y38 (geI rfl (by first | exact q_ef1e8e38bf h19.1 | omega)) (leI rfl (by first | exact q_87d9217d84 h21.2 | omega)) (geI rfl (by first | exact q_58e6e51dcc h49 | omega)) (leI rfl (by first | exact q_c15b485600 h63 h60.2.1 | omega)) p hp h42 sg h43 (by first | exact q_a555021d16 hp0 | omega) hP (FXP_fr hP hX h41 (by decide +kernel)) h53 hB (by omega)) (by decide) (by decide) (fun v65 σ66 h64 => ?_)
          obtain ⟨h67, h68, z70, rfl, h69⟩ := h64
          have h71 := h69.2.2
          have h72 := Fr_trans h41 h68 (by decide +kernel)
          have h73 := OUT_tr h54 h71.2
          refine En_Ps 3 (pc' := 52) (lv' := [(5, .int z70), (0, .ref 0), (1, .int a), (2, .int y36), (3, .int y37), (4, .int y38)]) (st' := [.int y37, .int z70]) rfl ?_
          refine En_icGe _ rfl rfl rfl (fun h74 => ?_) (fun h74 => ?_)
          · refine En_Ps 1 (pc' := 64) (lv' := [(4, .int ((y38 + Int32.ofInt 1))), (5, .int z70), (0, .ref 0), (1, .int a), (2, .int y36), (3, .int y37)]) (st' := []) rfl ?_
            refine En_lv1 (addI rfl (by decide : (Int32.ofInt 1).toInt = 1) (by first | exact q_465ab79ac1 h49 | omega) (by first | exact q_f3f8e04381 h50 | omega)) (fun z75 h76 => ?_)
            refine En_Ps 1 (pc' := 28) (lv' := [(4, .int z75), (5, .int z70), (0, .ref 0), (1, .int a), (2, .int y36), (3, .int y37)]) (st' := []) rfl ?_
            refine En_lv (lv := [(0, .ref 0), (1, .int a), (2, .int y36), (3, .int y37), (4, .int z75)]) ⟨rfl, rfl, rfl, rfl, rfl, trivial⟩ ?_
            exact ih28 σ66 y36 y37 z75 h67 h72 ((h68 _ _ (inW tgz_0 (by decide +kernel))).trans h42) ((h68 _ _ (inW hp (by decide +kernel))).trans h43) ((h68 _ _ (inW hp (by decide +kernel))).trans h44) (by first | exact q_77b189e83d h45 | omega) (by first | exact q_5a4d8a7e08 h46 | omega) (by first | exact q_58e6e51dcc h47 | omega) (by first | exact q_8bf848900a h48 | omega) (by first | exact q_35104ce9d3 h76 h49 | omega) (by first | exact q_34dc714687 h76 h63 h60.2.1 | omega) (by first | exact q_6591527e3e h51 h76 | omega) (by first | exact q_c5d740bdff h76 h52 | omega) (h71.1) (h73)
          · refine En_Ps 5 (pc' := 64) (lv' := [(4, .int ((y38 + Int32.ofInt 1))), (2, .int y38), (3, .int z70), (5, .int z70), (0, .ref 0), (1, .int a)]) (st' := []) rfl ?_
            refine En_lv1 (addI rfl (by decide : (Int32.ofInt 1).toInt = 1) (by first | exact q_465ab79ac1 h49 | omega) (by first | exact q_f3f8e04381 h50 | omega)) (fun z77 h78 => ?_)
            refine En_Ps 1 (pc' := 28) (lv' := [(4, .int z77), (2, .int y38), (3, .int z70), (5, .int z70), (0, .ref 0), (1, .int a)]) (st' := []) rfl ?_
            refine En_lv (lv := [(0, .ref 0), (1, .int a), (2, .int y38), (3, .int z70), (4, .int z77)]) ⟨rfl, rfl, rfl, rfl, rfl, trivial⟩ ?_
            exact ih28 σ66 y38 z70 z77 h67 h72 ((h68 _ _ (inW tgz_0 (by decide +kernel))).trans h42) ((h68 _ _ (inW hp (by decide +kernel))).trans h43) ((h68 _ _ (inW hp (by decide +kernel))).trans h44) (by first | exact q_5b439548fc h49 | omega) (by first | exact q_c15b485600 h63 h60.2.1 | omega) (by first | exact q_ef1e8e38bf h69.1 | omega) (by first | exact q_3ea7e55eca h69.2.1 | omega) (by first | exact q_35104ce9d3 h78 h49 | omega) (by first | exact q_34dc714687 h78 h63 h60.2.1 | omega) (by first | exact q_2fedec469a h78 | omega) (by first | exact q_c5d740bdff h78 h52 | omega) (h71.1) (h73)
    have := (by decide : (Int32.ofInt (-1)).toInt = -1)
    have := (by decide : (Int32.ofInt 0).toInt = 0)
    refine En_lv (lv := [(0, .ref 0), (1, .int a), (2, .int ((Int32.ofInt (-1)))), (3, .int z35), (4, .int ((Int32.ofInt 0)))]) ⟨rfl, rfl, rfl, rfl, rfl, trivial⟩ ?_
    exact key28 (Int.toNat (16) + 1) σ0 ((Int32.ofInt (-1))) z35 ((Int32.ofInt 0)) hσ0 hF0 h_p h_sg h2 (by decide) (by decide) (by first | exact q_ef1e8e38bf h34.1 | omega) (by first | exact q_3ea7e55eca h34.2 | omega) (by decide) (by decide) (by omega) (by first | exact toN_lt _ | omega) (hK) (OUT_0)
  · have h79 := Imp_m h12.2.2.2.2.1 (by first | exact ⟨q_c5d285f1b9 h18, q_a555021d16 h12.1⟩ | omega)
    refine En_Ps 1 (pc' := 13) (lv' := [(0, .ref 0), (1, .int a)]) (st' := [.int (((Int8.ofInt (-2)).toInt32))]) rfl ?_
    refine En_top (by decide : ((Int8.ofInt (-2)).toInt32).toInt = -2) (fun z80 h81 => ?_)
    exact En_ret (v := some (.int z80)) rfl rfl rfl ⟨hσ0, hF0, z80, rfl, ⟨by first | exact q_f35c5d346c h81 | omega, by first | exact q_12a74e12a3 h81 | omega, fun _ => by omega, fun hh => by first | exact q_12a74e12a3 h81 | omega, fun _ => by omega, ⟨hK, OUT_0⟩⟩⟩
/-- DoorSchool.help(I)I -/
abbrev P_136x (σ0 : SG) (Wv : Int → Int) (a : Int32) (p : Nat) (sg : Int32) : PO := fun v σ => WT σ ∧ Fr [(20, 2), (21, 0), (22, 0)] σ0 σ ∧ ∃ ret : Int32, v = some (.int ret) ∧ -ret.toInt - 2 ≤ 0 ∧ ret.toInt - 49 ≤ 0 ∧ (KN σ p Wv (act Wv) ∧ OUT σ0 σ p)
set_option maxRecDepth 10000 in
set_option maxHeartbeats 4000000 in
theorem c_136x {Wv : Int → Int} (σ0 : SG) (hσ0 : WT σ0) (a : Int32) (p : Nat) (hp : TG p = 18) (h_p : (σ0 0)[9]? = some (.ref p)) (sg : Int32) (h_sg : (σ0 p)[1]? = some (.int sg)) (hp0 : -sg.toInt ≤ 0) (hP : PLA p) (hX : FXP σ0 p) (hK : KN σ0 p Wv (act Wv)) (hB : WFw Wv) : En 5 118 none mr_136 (P_136x σ0 Wv a p sg) 0 [(0, .ref 0), (1, .int a)] [] σ0 := by
  obtain ⟨hl_sg, hu_sg⟩ := WT_int hσ0 (g := 18) hp (by decide +kernel) (l := (-1)) (u := 4) (by decide +kernel) h_sg
  have hF0 : Fr [(20, 2), (21, 0), (22, 0)] σ0 σ0 := Fr_rfl
  have t1 : Wv (0) = sg.toInt := KN_v hK (Or.inl (by decide)) (by decide) (by decide) (by rw [lcO_lt (by decide) (by decide), Nat.add_zero]) rfl h_sg
  obtain ⟨z3, h2, h4, h5⟩ := WT_peekI hσ0 hp (by decide +kernel : FT 18 3 = (0, 0, 4)) (by decide +kernel)
  have t6 : Wv (2) = z3.toInt := KN_v hK (Or.inl (by decide)) (by decide) (by decide) (by rw [lcO_lt (by decide) (by decide), Nat.add_zero]) rfl h2
  refine En_Ps 1 (pc' := 1) (lv' := [(0, .ref 0), (1, .int a)]) (st' := [.ref 0]) rfl ?_
  refine En_getK (j := 9) h_p rfl rfl rfl tgz_0 (by decide +kernel) ?_
  refine En_Ps 1 (pc' := 5) (lv' := [(0, .ref 0), (1, .int a)]) (st' := [.int a, .ref p]) rfl ?_
  refine En_callV rfl rfl rfl rfl rfl rfl rfl rfl hp (by decide +kernel) rfl (c_47x σ0 hσ0 p hp a z3 h2) (by decide) (by decide) (fun v8 σ9 h7 => ?_)
  obtain ⟨h10, h11, z13, rfl, h12⟩ := h7
  obtain rfl : σ0 = σ9 := Fr_nil h11
  have h14 := Imp_m h12.2.2.1
  have h15 := Imp_m h12.2.2.2.1
  have h16 := Imp_m h12.2.2.2.2.1
  have h17 := Imp_m h12.2.2.2.2.2
  refine En_iNe _ rfl rfl (fun h18 => ?_) (fun h18 => ?_)
  · have h19 := Imp_m h12.2.2.1 (by first | exact q_e3350da514 h18 h12.1 | omega)
    have h20 := Imp_m h12.2.2.2.1 (by first | exact ⟨q_a555021d16 h19.1, q_ef157b5a0e h19.2⟩ | omega)
    have h21 := Imp_m h12.2.2.2.2.2 (by first | exact ⟨q_ad5b726bf8 h12.2.1, q_e3350da514 h18 h12.1⟩ | omega)
    refine En_Ps 6 (pc' := 21) (lv' := [(4, .int ((Int32.ofInt 0))), (3, .int ((Int32.ofInt 0))), (2, .int ((Int32.ofInt (-1)))), (0, .ref 0), (1, .int a)]) (st' := []) rfl ?_
    have key21 : ∀ (n21 : Nat) (σ25 : SG) (y22 : Int32) (y23 : Int32) (y24 : Int32), WT σ25 → Fr [(20, 2), (21, 0), (22, 0)] σ0 σ25 → (σ25 0)[9]? = some (.ref p) → (σ25 p)[1]? = some (.int sg) → (σ25 p)[3]? = some (.int z3) → (-1) ≤ y22.toInt → y22.toInt ≤ 50 → 0 ≤ y23.toInt → y23.toInt ≤ 63 → 0 ≤ y24.toInt → y24.toInt ≤ 50 → y22.toInt - y24.toInt + 1 ≤ 0 → -y24.toInt + 50 < (n21 : Int) → KN σ25 p Wv (act Wv) → OUT σ0 σ25 p → En 5 118 none mr_136 (P_136x σ0 Wv a p sg) 21 [(0, .ref 0), (1, .int a), (2, .int y22), (3, .int y23), (4, .int y24)] [] σ25 := by
      intro n21
      induction n21 with
      | zero =>
        intro σ25 y22 y23 y24 h26 h27 h28 h29 h30 h31 h32 h33 h34 h35 h36 h37 h38 h39 h40
        first | exact (q_0f6934dca7 h38 h36).elim | (exfalso; omega)
      | succ n21 ih21 =>
        intro σ25 y22 y23 y24 h26 h27 h28 h29 h30 h31 h32 h33 h34 h35 h36 h37 h38 h39 h40
        refine En_Ps 3 (pc' := 25) (lv' := [(0, .ref 0), (1, .int a), (2, .int y22), (3, .int y23), (4, .int y24)]) (st' := [.ref 0, .int ((Int32.ofInt 2)), .int y24]) rfl ?_
        refine En_getK (j := 9) h28 rfl rfl rfl tgz_0 (by decide +kernel) ?_
        refine En_callV rfl rfl rfl rfl rfl rfl rfl rfl hp (by decide +kernel) rfl (c_51x σ25 h26 p hp sg h29 (by first | exact q_a555021d16 hp0 | omega)) (by decide) (by decide) (fun v42 σ43 h41 => ?_)
        obtain ⟨h44, h45, z47, rfl, h46⟩ := h41
        have h48 := h46.2.2
        obtain rfl : σ25 = σ43 := Fr_nil h45
        refine En_Ps 1 (pc' := 32) (lv' := [(0, .ref 0), (1, .int a), (2, .int y22), (3, .int y23), (4, .int y24)]) (st' := [.int ((((Int32.ofInt 2)) * z47)), .int y24]) rfl ?_
        refine En_top (mulI (by decide : (Int32.ofInt 2).toInt = 2) rfl (Z := 2 * z47.toInt) (by first | exact q_9c4c04fc55 | omega) (by first | exact q_ed0f500fe1 h46.1 | omega) (by first | exact q_9941f753b9 h46.2.1 | omega)) (fun z49 h50 => ?_)
        refine En_icGe _ rfl rfl rfl (fun h51 => ?_) (fun h51 => ?_)
        · refine En_Ps 1 (pc' := 69) (lv' := [(0, .ref 0), (1, .int a), (2, .int y22), (3, .int y23), (4, .int y24)]) (st' := [.int y22]) rfl ?_
          exact En_ret (v := some (.int y22)) rfl rfl rfl ⟨h26, h27, y22, rfl, ⟨by first | exact q_fe58cd40d0 h31 | omega, by first | exact q_61cf7f4980 h37 h36 | omega, ⟨h39, h40⟩⟩⟩
        · refine En_Ps 4 (pc' := 40) (lv' := [(0, .ref 0), (1, .int a), (2, .int y22), (3, .int y23), (4, .int y24)]) (st' := [.int ((Int32.ofInt 2)), .int y24, .int a, .ref 0]) rfl ?_
          refine En_idiv (c := 2) rfl rfl (by decide : (Int32.ofInt 2).toInt = 2) (by omega) (by decide) (fun z52 h53 => ?_)
          refine En_Ps 2 (pc' := 44) (lv' := [(0, .ref 0), (1, .int a), (2, .int y22), (3, .int y23), (4, .int y24)]) (st' := [.int ((Int32.ofInt 2)), .int y24, .int z52, .int a, .ref 0]) rfl ?_
          refine En_irem (c := 2) rfl rfl (by decide : (Int32.ofInt 2).toInt = 2) (by omega) (by decide) (fun z54 h55 => ?_)
          refine En_callV rfl rfl rfl rfl rfl rfl rfl rfl tgz_0 (by decide +kernel) rfl (c_129x σ25 h26 a z52 z54 (geI rfl (by first | exact q_ef1e8e38bf h19.1 | omega)) (leI rfl (by first | exact q_87d9217d84 h21.2 | omega)) (geI rfl (by first | exact q_5ea82835eb h53 h35 | omega)) (leI rfl (by first | exact q_346e83b918 h53 h51 h50 h46.2.1 | omega)) (geI rfl (by first | exact q_dafedd1c83 h55 | omega)) (leI rfl (by first | exact q_3228505f2f h55 | omega)) p hp h28 sg h29 (by first | exact q_a555021d16 hp0 | omega) hP (FXP_fr hP hX h27 (by decide +kernel)) h39 hB (by omega)) (by decide) (by decide) (fun v57 σ58 h56 => ?_)
          obtain ⟨h59, h60, z62, rfl, h61⟩ := h56
          have h63 := h61.2.2
          have h64 := Fr_trans h27 h60 (by decide +kernel)
          have h65 := OUT_tr h40 h63.2
          refine En_Ps 3 (pc' := 53) (lv' := [(5, .int z62), (0, .ref 0), (1, .int a), (2, .int y22), (3, .int y23), (4, .int y24)]) (st' := [.int y23, .int z62]) rfl ?_
          refine En_icLe _ rfl rfl rfl (fun h66 => ?_) (fun h66 => ?_)
          · refine En_Ps 1 (pc' := 65) (lv' := [(4, .int ((y24 + Int32.ofInt 1))), (5, .int z62), (0, .ref 0), (1, .int a), (2, .int y22), (3, .int y23)]) (st' := []) rfl ?_
            refine En_lv1 (addI rfl (by decide : (Int32.ofInt 1).toInt = 1) (by first | exact q_465ab79ac1 h35 | omega) (by first | exact q_c4feee4d2e h36 | omega)) (fun z67 h68 => ?_)
            refine En_Ps 1 (pc' := 21) (lv' := [(4, .int z67), (5, .int z62), (0, .ref 0), (1, .int a), (2, .int y22), (3, .int y23)]) (st' := []) rfl ?_
            refine En_lv (lv := [(0, .ref 0), (1, .int a), (2, .int y22), (3, .int y23), (4, .int z67)]) ⟨rfl, rfl, rfl, rfl, rfl, trivial⟩ ?_
            exact ih21 σ58 y22 y23 z67 h59 h64 ((h60 _ _ (inW tgz_0 (by decide +kernel))).trans h28) ((h60 _ _ (inW hp (by decide +kernel))).trans h29) ((h60 _ _ (inW hp (by decide +kernel))).trans h30) (by first | exact q_77b189e83d h31 | omega) (by first | exact q_2eaa18fab1 h32 | omega) (by first | exact q_58e6e51dcc h33 | omega) (by first | exact q_8bf848900a h34 | omega) (by first | exact q_35104ce9d3 h68 h35 | omega) (by first | exact q_7ba38ea167 h68 h51 h50 h46.2.1 | omega) (by first | exact q_6591527e3e h37 h68 | omega) (by first | exact q_fc5bfd9d02 h68 h38 | omega) (h63.1) (h65)
          · refine En_Ps 5 (pc' := 65) (lv' := [(4, .int ((y24 + Int32.ofInt 1))), (2, .int y24), (3, .int z62), (5, .int z62), (0, .ref 0), (1, .int a)]) (st' := []) rfl ?_
            refine En_lv1 (addI rfl (by decide : (Int32.ofInt 1).toInt = 1) (by first | exact q_465ab79ac1 h35 | omega) (by first | exact q_c4feee4d2e h36 | omega)) (fun z69 h70 => ?_)
            refine En_Ps 1 (pc' := 21) (lv' := [(4, .int z69), (2, .int y24), (3, .int z62), (5, .int z62), (0, .ref 0), (1, .int a)]) (st' := []) rfl ?_
            refine En_lv (lv := [(0, .ref 0), (1, .int a), (2, .int y24), (3, .int z62), (4, .int z69)]) ⟨rfl, rfl, rfl, rfl, rfl, trivial⟩ ?_
            exact ih21 σ58 y24 z62 z69 h59 h64 ((h60 _ _ (inW tgz_0 (by decide +kernel))).trans h28) ((h60 _ _ (inW hp (by decide +kernel))).trans h29) ((h60 _ _ (inW hp (by decide +kernel))).trans h30) (by first | exact q_5b439548fc h35 | omega) (by first | exact q_2eaa18fab1 h36 | omega) (by first | exact q_6360ebae75 h66 h33 | omega) (by first | exact q_3ea7e55eca h61.2.1 | omega) (by first | exact q_35104ce9d3 h70 h35 | omega) (by first | exact q_7ba38ea167 h70 h51 h50 h46.2.1 | omega) (by first | exact q_2fedec469a h70 | omega) (by first | exact q_fc5bfd9d02 h70 h38 | omega) (h63.1) (h65)
    have := (by decide : (Int32.ofInt (-1)).toInt = -1)
    have := (by decide : (Int32.ofInt 0).toInt = 0)
    have := (by decide : (Int32.ofInt 0).toInt = 0)
    refine En_lv (lv := [(0, .ref 0), (1, .int a), (2, .int ((Int32.ofInt (-1)))), (3, .int ((Int32.ofInt 0))), (4, .int ((Int32.ofInt 0)))]) ⟨rfl, rfl, rfl, rfl, rfl, trivial⟩ ?_
    exact key21 (Int.toNat (50) + 1) σ0 ((Int32.ofInt (-1))) ((Int32.ofInt 0)) ((Int32.ofInt 0)) hσ0 hF0 h_p h_sg h2 (by decide) (by decide) (by decide) (by decide) (by decide) (by decide) (by omega) (by first | exact toN_lt _ | omega) (hK) (OUT_0)
  · have h71 := Imp_m h12.2.2.2.2.1 (by first | exact ⟨q_c5d285f1b9 h18, q_a555021d16 h12.1⟩ | omega)
    refine En_Ps 1 (pc' := 13) (lv' := [(0, .ref 0), (1, .int a)]) (st' := [.int (((Int8.ofInt (-2)).toInt32))]) rfl ?_
    refine En_top (by decide : ((Int8.ofInt (-2)).toInt32).toInt = -2) (fun z72 h73 => ?_)
    exact En_ret (v := some (.int z72)) rfl rfl rfl ⟨hσ0, hF0, z72, rfl, ⟨by first | exact q_f35c5d346c h73 | omega, by first | exact q_2e1fc29cd6 h73 | omega, ⟨hK, OUT_0⟩⟩⟩
/-- DoorSchool.idle(I)I -/
abbrev P_141x (σ0 : SG) (Wv : Int → Int) (a : Int32) (p : Nat) (sg : Int32) : PO := fun v σ => WT σ ∧ Fr [(20, 2), (21, 0), (22, 0)] σ0 σ ∧ ∃ ret : Int32, v = some (.int ret) ∧ -ret.toInt - 2 ≤ 0 ∧ ret.toInt - 65535 ≤ 0 ∧ (KN σ p Wv (act Wv) ∧ OUT σ0 σ p)
set_option maxRecDepth 10000 in
set_option maxHeartbeats 4000000 in
theorem c_141x {Wv : Int → Int} (σ0 : SG) (hσ0 : WT σ0) (a : Int32) (p : Nat) (hp : TG p = 18) (h_p : (σ0 0)[9]? = some (.ref p)) (sg : Int32) (h_sg : (σ0 p)[1]? = some (.int sg)) (hp0 : -sg.toInt ≤ 0) (hP : PLA p) (hX : FXP σ0 p) (hK : KN σ0 p Wv (act Wv)) (hB : WFw Wv) : En 4 92 none mr_141 (P_141x σ0 Wv a p sg) 0 [(0, .ref 0), (1, .int a)] [] σ0 := by
  obtain ⟨hl_sg, hu_sg⟩ := WT_int hσ0 (g := 18) hp (by decide +kernel) (l := (-1)) (u := 4) (by decide +kernel) h_sg
  have hF0 : Fr [(20, 2), (21, 0), (22, 0)] σ0 σ0 := Fr_rfl
  have t1 : Wv (0) = sg.toInt := KN_v hK (Or.inl (by decide)) (by decide) (by decide) (by rw [lcO_lt (by decide) (by decide), Nat.add_zero]) rfl h_sg
  obtain ⟨z3, h2, h4, h5⟩ := WT_peekI hσ0 hp (by decide +kernel : FT 18 3 = (0, 0, 4)) (by decide +kernel)
  have t6 : Wv (2) = z3.toInt := KN_v hK (Or.inl (by decide)) (by decide) (by decide) (by rw [lcO_lt (by decide) (by decide), Nat.add_zero]) rfl h2
  refine En_Ps 1 (pc' := 1) (lv' := [(0, .ref 0), (1, .int a)]) (st' := [.ref 0]) rfl ?_
  refine En_getK (j := 9) h_p rfl rfl rfl tgz_0 (by decide +kernel) ?_
  refine En_Ps 1 (pc' := 5) (lv' := [(0, .ref 0), (1, .int a)]) (st' := [.int a, .ref p]) rfl ?_
  refine En_callV rfl rfl rfl rfl rfl rfl rfl rfl hp (by decide +kernel) rfl (c_47x σ0 hσ0 p hp a z3 h2) (by decide) (by decide) (fun v8 σ9 h7 => ?_)
  obtain ⟨h10, h11, z13, rfl, h12⟩ := h7
  obtain rfl : σ0 = σ9 := Fr_nil h11
  have h14 := Imp_m h12.2.2.1
  have h15 := Imp_m h12.2.2.2.1
  have h16 := Imp_m h12.2.2.2.2.1
  have h17 := Imp_m h12.2.2.2.2.2
  refine En_iNe _ rfl rfl (fun h18 => ?_) (fun h18 => ?_)
  · have h19 := Imp_m h12.2.2.1 (by first | exact q_e3350da514 h18 h12.1 | omega)
    have h20 := Imp_m h12.2.2.2.1 (by first | exact ⟨q_a555021d16 h19.1, q_ef157b5a0e h19.2⟩ | omega)
    have h21 := Imp_m h12.2.2.2.2.2 (by first | exact ⟨q_ad5b726bf8 h12.2.1, q_e3350da514 h18 h12.1⟩ | omega)
    refine En_Ps 1 (pc' := 15) (lv' := [(0, .ref 0), (1, .int a)]) (st' := [.ref 0]) rfl ?_
    refine En_getK (j := 9) h_p rfl rfl rfl tgz_0 (by decide +kernel) ?_
    refine En_getR (j := 4) (g' := 19) (u := 0) rfl rfl rfl hp (by decide +kernel) hσ0 (by decide +kernel) (fun a23 h22 ha23 => ?_)
    have t24 : a23 = p + 1 := ref_uniq h22 (FXP_fr hP hX hF0 (by decide +kernel)).1
    refine En_Ps 1 (pc' := 22) (lv' := [(0, .ref 0), (1, .int a)]) (st' := [.int a, .ref a23]) rfl ?_
    refine En_aald (g' := 28) (u := 0) rfl rfl ha23 (by decide +kernel) hσ0 (by first | exact q_ef1e8e38bf h19.1 | omega) (lnI (by decide +kernel : LN _ = 4) (by first | exact q_7fdbd2bd6a h21.2 | omega)) (FTsgl (by decide +kernel)) (fun a26 h25 ha26 => ?_)
    have t27 : a26 = p + 10 + 4 * (a.toInt).toNat := DRe (d := a.toInt) (FXP_fr hP hX hF0 (by decide +kernel)) t24 h25 (by omega) (by omega)
    have t28 := lc_d (d := a.toInt) (by omega) (by omega)
    refine En_getR (j := 0) (g' := 20) (u := 0) rfl rfl rfl ha26 (by decide +kernel) hσ0 (by decide +kernel) (fun a30 h29 ha30 => ?_)
    have t31 : a30 = p + 11 + 4 * (a.toInt).toNat := DLc (d := a.toInt) (FXP_fr hP hX hF0 (by decide +kernel)) t27 h29 (by omega) (by omega)
    obtain ⟨a33, h32, ha33⟩ := WT_peekR (g := 20) (j := 0) (g' := 21) (u := 0) hσ0 ha30 (by decide +kernel) (by decide +kernel)
    have t34 : a33 = p + 12 + 4 * (a.toInt).toNat := DKk (d := a.toInt) (FXP_fr hP hX hF0 (by decide +kernel)) t31 h32 (by omega) (by omega)
    obtain ⟨a36, h35, ha36⟩ := WT_peekR (g := 20) (j := 1) (g' := 22) (u := 0) hσ0 ha30 (by decide +kernel) (by decide +kernel)
    have t37 : a36 = p + 13 + 4 * (a.toInt).toNat := DKo (d := a.toInt) (FXP_fr hP hX hF0 (by decide +kernel)) t31 h35 (by omega) (by omega)
    obtain ⟨z39, h38, h40, h41⟩ := WT_peekI hσ0 ha30 (by decide +kernel : FT 20 2 = (0, 0, 13)) (by decide +kernel)
    have t42 : Wv (12 + 4 * (a.toInt)) = z39.toInt := KN_v hK (Or.inr (Or.inl ⟨by omega, by omega, by omega⟩)) (by omega) (by omega) (by omega) (by omega) h38
    have h43 := hB.2.2.2.2.2.2 a.toInt (by omega) (by omega)
    have : z39.toInt ≤ 12 := by omega
    refine En_Ps 3 (pc' := 29) (lv' := [(2, .ref a30), (0, .ref 0), (1, .int a)]) (st' := [.int a, .ref 0]) rfl ?_
    refine En_callV rfl rfl rfl rfl rfl rfl rfl rfl tgz_0 (by decide +kernel) rfl (c_114 σ0 hσ0 a (geI rfl (by first | exact q_ef1e8e38bf h19.1 | omega)) (leI rfl (by first | exact q_87d9217d84 h21.2 | omega)) p hp h_p sg h_sg (by first | exact q_a555021d16 hp0 | omega)) (by decide) (by decide) (fun v45 σ46 h44 => ?_)
    obtain ⟨h47, h48, z50, rfl, h49⟩ := h44
    obtain rfl : σ0 = σ46 := Fr_nil h48
    refine En_Ps 2 (pc' := 34) (lv' := [(3, .int z50), (2, .ref a30), (0, .ref 0), (1, .int a)]) (st' := [.ref a30]) rfl ?_
    refine En_getK (j := 2) h38 rfl rfl rfl ha30 (by decide +kernel) ?_
    refine En_Ps 5 (pc' := 45) (lv' := [(6, .int ((Int32.ofInt 0))), (5, .int ((Int32.ofInt 0))), (4, .int z39), (3, .int z50), (2, .ref a30), (0, .ref 0), (1, .int a)]) (st' := []) rfl ?_
    have key45 : ∀ (n45 : Nat) (σ54 : SG) (y51 : Int32) (y52 : Int32) (y53 : Int32), WT σ54 → Fr [(20, 2), (21, 0), (22, 0)] σ0 σ54 → (σ54 0)[9]? = some (.ref p) → (σ54 p)[1]? = some (.int sg) → (σ54 p)[3]? = some (.int z3) → (σ54 p)[4]? = some (.ref a23) → (σ54 a23)[(a.toInt).toNat]? = some (.ref a26) → (σ54 a26)[0]? = some (.ref a30) → (σ54 a30)[0]? = some (.ref a33) → (σ54 a30)[1]? = some (.ref a36) → (σ54 a30)[2]? = some (.int y53) → 0 ≤ y51.toInt → y51.toInt ≤ 65535 → 0 ≤ y52.toInt → y52.toInt ≤ 12 → 0 ≤ y53.toInt → y53.toInt ≤ 12 → y53.toInt - z39.toInt ≤ 0 → z39.toInt - y53.toInt ≤ 0 → y52.toInt - y53.toInt ≤ 0 → z39.toInt - y52.toInt < (n45 : Int) → KN σ54 p Wv (act Wv) → OUT σ0 σ54 p → En 4 92 none mr_141 (P_141x σ0 Wv a p sg) 45 [(0, .ref 0), (1, .int a), (2, .ref a30), (3, .int z50), (4, .int z39), (5, .int y51), (6, .int y52)] [] σ54 := by
      intro n45
      induction n45 with
      | zero =>
        intro σ54 y51 y52 y53 h55 h56 h57 h58 h59 h60 h61 h62 h63 h64 h65 h66 h67 h68 h69 h70 h71 h72 h73 h74 h75 h76 h77
        first | exact (q_c7de5743f6 h72 h74 h75).elim | (exfalso; omega)
      | succ n45 ih45 =>
        intro σ54 y51 y52 y53 h55 h56 h57 h58 h59 h60 h61 h62 h63 h64 h65 h66 h67 h68 h69 h70 h71 h72 h73 h74 h75 h76 h77
        refine En_Ps 2 (pc' := 49) (lv' := [(0, .ref 0), (1, .int a), (2, .ref a30), (3, .int z50), (4, .int z39), (5, .int y51), (6, .int y52)]) (st' := [.int z39, .int y52]) rfl ?_
        refine En_icGe _ rfl rfl rfl (fun h78 => ?_) (fun h78 => ?_)
        · refine En_Ps 1 (pc' := 112) (lv' := [(0, .ref 0), (1, .int a), (2, .ref a30), (3, .int z50), (4, .int z39), (5, .int y51), (6, .int y52)]) (st' := [.int y51]) rfl ?_
          exact En_ret (v := some (.int y51)) rfl rfl rfl ⟨h55, h56, y51, rfl, ⟨by first | exact q_ea7f0ffdb1 h66 | omega, by first | exact q_e7edf0f95a h67 | omega, ⟨h76, h77⟩⟩⟩
        · refine En_Ps 1 (pc' := 53) (lv' := [(0, .ref 0), (1, .int a), (2, .ref a30), (3, .int z50), (4, .int z39), (5, .int y51), (6, .int y52)]) (st' := [.ref a30]) rfl ?_
          refine En_getK (j := 0) h63 rfl rfl rfl ha30 (by decide +kernel) ?_
          refine En_Ps 1 (pc' := 58) (lv' := [(0, .ref 0), (1, .int a), (2, .ref a30), (3, .int z50), (4, .int z39), (5, .int y51), (6, .int y52)]) (st' := [.int y52, .ref a33]) rfl ?_
          refine En_iald (l := 0) (u := 15) rfl rfl ha33 (by decide +kernel) h55 (by first | exact q_58e6e51dcc h68 | omega) (lnI (by decide +kernel : LN _ = 13) (by first | exact q_eca5b91a1e h69 | omega)) (FTsgl (by decide +kernel)) (fun z80 h79 h81 h82 => ?_)
          have t83 := lc_l (d := a.toInt) (m := y52.toInt) (by omega) (by omega) (by omega) (by omega)
          have t84 : Wv (26 + 24 * (a.toInt) + 2 * (y52.toInt)) = z80.toInt := KN_v h76 (act_lk (d := a.toInt) (m := y52.toInt) (by omega) (by omega) (by omega) (by omega) (by omega) (by omega)) (by omega) (by omega) (by omega) (by omega) h79
          refine En_Ps 2 (pc' := 62) (lv' := [(7, .int z80), (0, .ref 0), (1, .int a), (2, .ref a30), (3, .int z50), (4, .int z39), (5, .int y51), (6, .int y52)]) (st' := [.ref a30]) rfl ?_
          refine En_getK (j := 1) h64 rfl rfl rfl ha30 (by decide +kernel) ?_
          refine En_Ps 1 (pc' := 67) (lv' := [(7, .int z80), (0, .ref 0), (1, .int a), (2, .ref a30), (3, .int z50), (4, .int z39), (5, .int y51), (6, .int y52)]) (st' := [.int y52, .ref a36]) rfl ?_
          refine En_iald (l := 0) (u := 1) rfl rfl ha36 (by decide +kernel) h55 (by first | exact q_58e6e51dcc h68 | omega) (lnI (by decide +kernel : LN _ = 13) (by first | exact q_eca5b91a1e h69 | omega)) (FTsgl (by decide +kernel)) (fun z86 h85 h87 h88 => ?_)
          have t89 := lc_l (d := a.toInt) (m := y52.toInt) (by omega) (by omega) (by omega) (by omega)
          have t90 : Wv (26 + 24 * (a.toInt) + 2 * (y52.toInt) + 1) = z86.toInt := KN_v h76 (act_lo (d := a.toInt) (m := y52.toInt) (by omega) (by omega) (by omega) (by omega) (by omega) (by omega)) (by omega) (by omega) (by omega) (by omega) h85
          refine En_Ps 1 (pc' := 70) (lv' := [(8, .int z86), (7, .int z80), (0, .ref 0), (1, .int a), (2, .ref a30), (3, .int z50), (4, .int z39), (5, .int y51), (6, .int y52)]) (st' := []) rfl ?_
          have h91 : ci σ54 a30 2 = y53.toInt := ci_at (j := 2) h65 rfl
          have h92 : z80.toInt = ci σ54 a33 (y52.toInt) := (ci_at h79 rfl).symm
          have h93 : z86.toInt = ci σ54 a36 (y52.toInt) := (ci_at h85 rfl).symm
          refine En_Ps 2 (pc' := 73) (lv' := [(8, .int z86), (7, .int z80), (0, .ref 0), (1, .int a), (2, .ref a30), (3, .int z50), (4, .int z39), (5, .int y51), (6, .int y52)]) (st' := [.int y52, .ref a30]) rfl ?_
          refine En_callV rfl rfl rfl rfl rfl rfl rfl rfl ha30 (by decide +kernel) rfl (c_41bx σ54 h55 a30 ha30 y52 (geI rfl (by first | exact q_58e6e51dcc h68 | omega)) (leI rfl (by first | exact q_7c77837619 h69 | omega)) a33 ha33 h63 a36 ha36 h64 y53 h65 (by first | exact q_a4451c6360 h73 h78 | omega)) (by decide) (by decide) (fun v95 σ96 h94 => ?_)
          obtain ⟨h97, h98, z100, h101, rfl, h99⟩ := h94
          have h102 := h99.2.2.2.2.2.2
          have h103 := Fr_trans h56 h98 (by decide +kernel)
          refine En_Ps 2 (pc' := 78) (lv' := [(8, .int z86), (7, .int z80), (0, .ref 0), (1, .int a), (2, .ref a30), (3, .int z50), (4, .int z39), (5, .int y51), (6, .int y52)]) (st' := [.int a, .ref 0]) rfl ?_
          refine En_callV rfl rfl rfl rfl rfl rfl rfl rfl tgz_0 (by decide +kernel) rfl (c_114 σ96 h97 a (geI rfl (by first | exact q_ef1e8e38bf h19.1 | omega)) (leI rfl (by first | exact q_87d9217d84 h21.2 | omega)) p hp ((h98 _ _ (inW tgz_0 (by decide +kernel))).trans h57) sg ((h98 _ _ (inW hp (by decide +kernel))).trans h58) (by first | exact q_a555021d16 hp0 | omega)) (by decide) (by decide) (fun v105 σ106 h104 => ?_)
          obtain ⟨h107, h108, z110, rfl, h109⟩ := h104
          obtain rfl : σ96 = σ106 := Fr_nil h108
          refine En_Ps 1 (pc' := 82) (lv' := [(8, .int z86), (7, .int z80), (0, .ref 0), (1, .int a), (2, .ref a30), (3, .int z50), (4, .int z39), (5, .int y51), (6, .int y52)]) (st' := [.int z50, .int z110]) rfl ?_
          refine En_icNe _ rfl rfl rfl (fun h111 => ?_) (fun h111 => ?_)
          · refine En_Ps 4 (pc' := 101) (lv' := [(8, .int z86), (7, .int z80), (0, .ref 0), (1, .int a), (2, .ref a30), (3, .int z50), (4, .int z39), (5, .int y51), (6, .int y52)]) (st' := [.int z86, .int z80, .int y52, .ref a30]) rfl ?_
            refine En_callV rfl rfl rfl rfl rfl rfl rfl rfl ha30 (by decide +kernel) rfl (c_38bx σ96 h97 a30 ha30 y52 z80 z86 (geI rfl (by first | exact q_58e6e51dcc h68 | omega)) (leI rfl (by first | exact q_7c77837619 h69 | omega)) (geI rfl (by first | exact q_58e6e51dcc h81 | omega)) (leI rfl (by first | exact q_5a4d8a7e08 h82 | omega)) (geI rfl (by first | exact q_58e6e51dcc h87 | omega)) (leI rfl (by first | exact q_9d0c30f9c5 h88 | omega)) a33 ha33 ((h98 _ _ (inW ha30 (by decide +kernel))).trans h63) a36 ha36 ((h98 _ _ (inW ha30 (by decide +kernel))).trans h64) z100 h101 (by first | exact q_ec0052c56b h78 h99.2.2.1 h73 | omega) (by first | exact q_1d71e39f5f h99.2.1 | omega)) (by decide) (by decide) (fun v113 σ114 h112 => ?_)
            obtain ⟨h115, h116, z118, h119, rfl, h117⟩ := h112
            have h120 := h117.2.2.2.2
            have h121 := Fr_trans h103 h116 (by decide +kernel)
            have h122 := KN_tp h76 h102 h120 (by omega) h91 h92 h93 (by omega) (by omega) (by omega) (by omega) (by omega)
            have h123 := OUT_tr h77 h122.2
            refine En_Ps 1 (pc' := 107) (lv' := [(6, .int ((y52 + Int32.ofInt 1))), (8, .int z86), (7, .int z80), (0, .ref 0), (1, .int a), (2, .ref a30), (3, .int z50), (4, .int z39), (5, .int y51)]) (st' := []) rfl ?_
            refine En_lv1 (addI rfl (by decide : (Int32.ofInt 1).toInt = 1) (by first | exact q_465ab79ac1 h68 | omega) (by first | exact q_1fdc13c345 h69 | omega)) (fun z124 h125 => ?_)
            refine En_Ps 1 (pc' := 45) (lv' := [(6, .int z124), (8, .int z86), (7, .int z80), (0, .ref 0), (1, .int a), (2, .ref a30), (3, .int z50), (4, .int z39), (5, .int y51)]) (st' := []) rfl ?_
            refine En_lv (lv := [(0, .ref 0), (1, .int a), (2, .ref a30), (3, .int z50), (4, .int z39), (5, .int y51), (6, .int z124)]) ⟨rfl, rfl, rfl, rfl, rfl, rfl, rfl, trivial⟩ ?_
            exact ih45 σ114 y51 z124 z118 h115 h121 ((h116 _ _ (inW tgz_0 (by decide +kernel))).trans ((h98 _ _ (inW tgz_0 (by decide +kernel))).trans h57)) ((h116 _ _ (inW hp (by decide +kernel))).trans ((h98 _ _ (inW hp (by decide +kernel))).trans h58)) ((h116 _ _ (inW hp (by decide +kernel))).trans ((h98 _ _ (inW hp (by decide +kernel))).trans h59)) ((h116 _ _ (inW hp (by decide +kernel))).trans ((h98 _ _ (inW hp (by decide +kernel))).trans h60)) ((h116 _ _ (inWa ha23 (by decide +kernel))).trans ((h98 _ _ (inWa ha23 (by decide +kernel))).trans h61)) ((h116 _ _ (inW ha26 (by decide +kernel))).trans ((h98 _ _ (inW ha26 (by decide +kernel))).trans h62)) ((h116 _ _ (inW ha30 (by decide +kernel))).trans ((h98 _ _ (inW ha30 (by decide +kernel))).trans h63)) ((h116 _ _ (inW ha30 (by decide +kernel))).trans ((h98 _ _ (inW ha30 (by decide +kernel))).trans h64)) h119 (by first | exact q_58e6e51dcc h66 | omega) (by first | exact q_36eb0a70bf h67 | omega) (by first | exact q_35104ce9d3 h125 h68 | omega) (by first | exact q_a537cdb1b6 h125 h78 h71 h73 | omega) (by first | exact q_996aa4c518 h117.1 | omega) (by first | exact q_0b81bedbd8 h117.2.2.2.1 h99.2.2.2.1 h71 | omega) (by first | exact q_d41ea3d59a h72 h99.2.2.2.1 h117.2.2.2.1 | omega) (by first | exact q_3d12b25be0 h73 h99.2.2.1 h117.2.2.1 | omega) (by first | exact q_e87956719a h117.2.2.1 h125 h78 h99.2.2.1 h73 | omega) (by first | exact q_8d03a5a7cb h125 h75 | omega) (h122.1) (h123)
          · refine En_Ps 4 (pc' := 91) (lv' := [(8, .int z86), (7, .int z80), (0, .ref 0), (1, .int a), (2, .ref a30), (3, .int z50), (4, .int z39), (5, .int y51), (6, .int y52)]) (st' := [.int ((((Int32.ofInt 1)) <<< (y52 &&& 31))), .int y51]) rfl ?_
            refine En_rng (shl1_p 11 rfl (by omega) (by omega) (by decide)) (fun z126 h127 h128 => ?_)
            refine En_Ps 1 (pc' := 92) (lv' := [(8, .int z86), (7, .int z80), (0, .ref 0), (1, .int a), (2, .ref a30), (3, .int z50), (4, .int z39), (5, .int y51), (6, .int y52)]) (st' := [.int ((y51 ||| z126))]) rfl ?_
            refine En_rng (l := 0) (u := 65535) (or_rng 16 rfl rfl (by omega) (by omega) (by omega) (by omega) (by decide)) (fun z129 h130 h131 => ?_)
            refine En_Ps 5 (pc' := 101) (lv' := [(5, .int z129), (8, .int z86), (7, .int z80), (0, .ref 0), (1, .int a), (2, .ref a30), (3, .int z50), (4, .int z39), (6, .int y52)]) (st' := [.int z86, .int z80, .int y52, .ref a30]) rfl ?_
            refine En_callV rfl rfl rfl rfl rfl rfl rfl rfl ha30 (by decide +kernel) rfl (c_38bx σ96 h97 a30 ha30 y52 z80 z86 (geI rfl (by first | exact q_58e6e51dcc h68 | omega)) (leI rfl (by first | exact q_7c77837619 h69 | omega)) (geI rfl (by first | exact q_58e6e51dcc h81 | omega)) (leI rfl (by first | exact q_5a4d8a7e08 h82 | omega)) (geI rfl (by first | exact q_58e6e51dcc h87 | omega)) (leI rfl (by first | exact q_9d0c30f9c5 h88 | omega)) a33 ha33 ((h98 _ _ (inW ha30 (by decide +kernel))).trans h63) a36 ha36 ((h98 _ _ (inW ha30 (by decide +kernel))).trans h64) z100 h101 (by first | exact q_ec0052c56b h78 h99.2.2.1 h73 | omega) (by first | exact q_1d71e39f5f h99.2.1 | omega)) (by decide) (by decide) (fun v133 σ134 h132 => ?_)
            obtain ⟨h135, h136, z138, h139, rfl, h137⟩ := h132
            have h140 := h137.2.2.2.2
            have h141 := Fr_trans h103 h136 (by decide +kernel)
            have h142 := KN_tp h76 h102 h140 (by omega) h91 h92 h93 (by omega) (by omega) (by omega) (by omega) (by omega)
            have h143 := OUT_tr h77 h142.2
            refine En_Ps 1 (pc' := 107) (lv' := [(6, .int ((y52 + Int32.ofInt 1))), (5, .int z129), (8, .int z86), (7, .int z80), (0, .ref 0), (1, .int a), (2, .ref a30), (3, .int z50), (4, .int z39)]) (st' := []) rfl ?_
            refine En_lv1 (addI rfl (by decide : (Int32.ofInt 1).toInt = 1) (by first | exact q_465ab79ac1 h68 | omega) (by first | exact q_1fdc13c345 h69 | omega)) (fun z144 h145 => ?_)
            refine En_Ps 1 (pc' := 45) (lv' := [(6, .int z144), (5, .int z129), (8, .int z86), (7, .int z80), (0, .ref 0), (1, .int a), (2, .ref a30), (3, .int z50), (4, .int z39)]) (st' := []) rfl ?_
            refine En_lv (lv := [(0, .ref 0), (1, .int a), (2, .ref a30), (3, .int z50), (4, .int z39), (5, .int z129), (6, .int z144)]) ⟨rfl, rfl, rfl, rfl, rfl, rfl, rfl, trivial⟩ ?_
            exact ih45 σ134 z129 z144 z138 h135 h141 ((h136 _ _ (inW tgz_0 (by decide +kernel))).trans ((h98 _ _ (inW tgz_0 (by decide +kernel))).trans h57)) ((h136 _ _ (inW hp (by decide +kernel))).trans ((h98 _ _ (inW hp (by decide +kernel))).trans h58)) ((h136 _ _ (inW hp (by decide +kernel))).trans ((h98 _ _ (inW hp (by decide +kernel))).trans h59)) ((h136 _ _ (inW hp (by decide +kernel))).trans ((h98 _ _ (inW hp (by decide +kernel))).trans h60)) ((h136 _ _ (inWa ha23 (by decide +kernel))).trans ((h98 _ _ (inWa ha23 (by decide +kernel))).trans h61)) ((h136 _ _ (inW ha26 (by decide +kernel))).trans ((h98 _ _ (inW ha26 (by decide +kernel))).trans h62)) ((h136 _ _ (inW ha30 (by decide +kernel))).trans ((h98 _ _ (inW ha30 (by decide +kernel))).trans h63)) ((h136 _ _ (inW ha30 (by decide +kernel))).trans ((h98 _ _ (inW ha30 (by decide +kernel))).trans h64)) h139 (by first | exact q_58e6e51dcc h130 | omega) (by first | exact q_36eb0a70bf h131 | omega) (by first | exact q_35104ce9d3 h145 h68 | omega) (by first | exact q_a537cdb1b6 h145 h78 h71 h73 | omega) (by first | exact q_996aa4c518 h137.1 | omega) (by first | exact q_0b81bedbd8 h137.2.2.2.1 h99.2.2.2.1 h71 | omega) (by first | exact q_d41ea3d59a h72 h99.2.2.2.1 h137.2.2.2.1 | omega) (by first | exact q_3d12b25be0 h73 h99.2.2.1 h137.2.2.1 | omega) (by first | exact q_e87956719a h137.2.2.1 h145 h78 h99.2.2.1 h73 | omega) (by first | exact q_8d03a5a7cb h145 h75 | omega) (h142.1) (h143)
    have := (by decide : (Int32.ofInt 0).toInt = 0)
    have := (by decide : (Int32.ofInt 0).toInt = 0)
    refine En_lv (lv := [(0, .ref 0), (1, .int a), (2, .ref a30), (3, .int z50), (4, .int z39), (5, .int ((Int32.ofInt 0))), (6, .int ((Int32.ofInt 0)))]) ⟨rfl, rfl, rfl, rfl, rfl, rfl, rfl, trivial⟩ ?_
    exact key45 (Int.toNat (z39.toInt) + 1) σ0 ((Int32.ofInt 0)) ((Int32.ofInt 0)) z39 hσ0 hF0 h_p h_sg h2 h22 h25 h29 h32 h35 h38 (by decide) (by decide) (by decide) (by decide) (by first | exact q_58e6e51dcc h40 | omega) (by omega) (by first | exact q_1bb76abeaf | omega) (by first | exact q_1bb76abeaf | omega) (by omega) (by first | exact toN_lt _ | omega) (hK) (OUT_0)
  · have h146 := Imp_m h12.2.2.2.2.1 (by first | exact ⟨q_c5d285f1b9 h18, q_a555021d16 h12.1⟩ | omega)
    refine En_Ps 1 (pc' := 13) (lv' := [(0, .ref 0), (1, .int a)]) (st' := [.int (((Int8.ofInt (-2)).toInt32))]) rfl ?_
    refine En_top (by decide : ((Int8.ofInt (-2)).toInt32).toInt = -2) (fun z147 h148 => ?_)
    exact En_ret (v := some (.int z147)) rfl rfl rfl ⟨hσ0, hF0, z147, rfl, ⟨by first | exact q_f35c5d346c h148 | omega, by first | exact q_7aab8371ca h148 | omega, ⟨hK, OUT_0⟩⟩⟩
/-- DoorSchool.image(I)I -/
abbrev P_142x (σ0 : SG) (a : Int32) (p : Nat) (sg : Int32) : PO := fun v σ => WT σ ∧ Fr [(20, 2), (21, 0), (22, 0), (23, 0), (24, 0), (25, 0), (26, 0), (27, 0), (28, 1), (28, 2), (28, 3), (30, 0), (31, 0), (31, 1), (31, 2), (31, 3), (31, 6), (31, 7), (31, 8), (31, 11), (31, 14)] σ0 σ ∧ ∃ ret : Int32, v = some (.int ret) ∧ -ret.toInt - 2 ≤ 0 ∧ ret.toInt ≤ 0 ∧ Imp (-a.toInt ≤ 0 ∧ a.toInt - 2 ≤ 0) (ret.toInt ≤ 0 ∧ -ret.toInt ≤ 0) ∧ Imp (a.toInt + 1 ≤ 0) (ret.toInt + 2 ≤ 0 ∧ -ret.toInt - 2 ≤ 0) ∧ Imp (-a.toInt + 3 ≤ 0) (ret.toInt + 2 ≤ 0 ∧ -ret.toInt - 2 ≤ 0) ∧ IMC σ0 σ p a.toInt
set_option maxRecDepth 10000 in
set_option maxHeartbeats 4000000 in
theorem c_142x (σ0 : SG) (hσ0 : WT σ0) (a : Int32) (p : Nat) (hp : TG p = 18) (h_p : (σ0 0)[9]? = some (.ref p)) (sg : Int32) (h_sg : (σ0 p)[1]? = some (.int sg)) (hp0 : -sg.toInt ≤ 0) (hP : PLA p) (hX : FXP σ0 p) (hM : IMX σ0) : En 4 124 none mr_142 (P_142x σ0 a p sg) 0 [(0, .ref 0), (1, .int a)] [] σ0 := by
  obtain ⟨hl_sg, hu_sg⟩ := WT_int hσ0 (g := 18) hp (by decide +kernel) (l := (-1)) (u := 4) (by decide +kernel) h_sg
  have hF0 : Fr [(20, 2), (21, 0), (22, 0), (23, 0), (24, 0), (25, 0), (26, 0), (27, 0), (28, 1), (28, 2), (28, 3), (30, 0), (31, 0), (31, 1), (31, 2), (31, 3), (31, 6), (31, 7), (31, 8), (31, 11), (31, 14)] σ0 σ0 := Fr_rfl
  refine En_Ps 1 (pc' := 1) (lv' := [(0, .ref 0), (1, .int a)]) (st' := [.int a]) rfl ?_
  refine En_iLt _ rfl rfl (fun h1 => ?_) (fun h1 => ?_)
  · refine En_Ps 1 (pc' := 11) (lv' := [(0, .ref 0), (1, .int a)]) (st' := [.int (((Int8.ofInt (-2)).toInt32))]) rfl ?_
    refine En_top (by decide : ((Int8.ofInt (-2)).toInt32).toInt = -2) (fun z2 h3 => ?_)
    exact En_ret (v := some (.int z2)) rfl rfl rfl ⟨hσ0, hF0, z2, rfl, ⟨by first | exact q_f35c5d346c h3 | omega, by first | exact q_bbb39ffa1e h3 | omega, fun _ => by omega, fun hh => by first | exact ⟨q_535bc65891 h3, q_f35c5d346c h3⟩ | omega, fun hh => by first | exact ⟨q_535bc65891 h3, q_f35c5d346c h3⟩ | omega, IMC_no (by omega)⟩⟩
  · refine En_Ps 2 (pc' := 6) (lv' := [(0, .ref 0), (1, .int a)]) (st' := [.int ((Int32.ofInt 3)), .int a]) rfl ?_
    refine En_icLt _ rfl (by decide : (Int32.ofInt 3).toInt = 3) rfl (fun h4 => ?_) (fun h4 => ?_)
    · refine En_Ps 1 (pc' := 13) (lv' := [(0, .ref 0), (1, .int a)]) (st' := [.ref 0]) rfl ?_
      refine En_getU (j := 7) (u := 70) (g' := 29) (q := 0) rfl rfl rfl tgz_0 (by decide +kernel) hσ0 (by decide +kernel) (by decide +kernel) (fun h5 => ?_)
      refine En_Ps 1 (pc' := 17) (lv' := [(0, .ref 0), (1, .int a)]) (st' := [.int a, .ref 70]) rfl ?_
      refine En_aald (g' := 31) (u := 0) rfl rfl tgz_70 (by decide +kernel) hσ0 (by first | exact q_58e6e51dcc h1 | omega) (lnI (by decide +kernel : LN _ = 3) (by first | exact q_59613c85e7 h4 | omega)) (FTsgl (by decide +kernel)) (fun a8 h7 ha8 => ?_)
      have h9 : a8 = 72 + 26 * (a.toInt).toNat := ref_uniq h7 (hM (a.toInt).toNat (by omega)).1
      refine En_Ps 1 (pc' := 19) (lv' := [(0, .ref 0), (1, .int a)]) (st' := [.ref 0, .ref a8]) rfl ?_
      refine En_getK (j := 9) h_p rfl rfl rfl tgz_0 (by decide +kernel) ?_
      refine En_callV rfl rfl rfl rfl rfl rfl rfl rfl ha8 (by decide +kernel) rfl (c_53ax σ0 hσ0 a8 ha8 p hp sg h_sg (by first | exact q_a555021d16 hp0 | omega) (by rw [h9]; exact (SEP_i (by omega) hP).1) (by rw [h9]; exact (hM (a.toInt).toNat (by omega)).2) hX) (by decide) (by decide) (fun v11 σ12 h10 => ?_)
      obtain ⟨h13, h14, rfl, h15⟩ := h10
      have h16 := h15
      have h17 := Fr_trans hF0 h14 (by decide +kernel)
      refine En_Ps 1 (pc' := 26) (lv' := [(0, .ref 0), (1, .int a)]) (st' := [.ref 0]) rfl ?_
      refine En_getU (j := 8) (u := 71) (g' := 30) (q := 0) rfl rfl rfl tgz_0 (by decide +kernel) h13 (by decide +kernel) (by decide +kernel) (fun h18 => ?_)
      refine En_Ps 2 (pc' := 31) (lv' := [(0, .ref 0), (1, .int a)]) (st' := [.int ((Int32.ofInt 1)), .int a, .ref 71]) rfl ?_
      refine En_bast (l := 0) (u := 1) rfl rfl tgz_71 (by decide +kernel) (narZ (by decide : (Int32.ofInt 1).toInt = 1) (by omega) (by omega)) (by first | exact q_58e6e51dcc h1 | omega) (lnI (by decide +kernel : LN _ = 3) (by first | exact q_59613c85e7 h4 | omega)) (FTsgl (by decide +kernel)) (rngI (by decide : (Int32.ofInt 1).toInt = 1) (by decide) (by decide)) h13 h17 (by decide +kernel) (fun σ20 h21 h22 h23 h24 => ?_)
      refine En_Ps 1 (pc' := 33) (lv' := [(0, .ref 0), (1, .int a)]) (st' := [.int ((Int32.ofInt 0))]) rfl ?_
      refine En_top (by decide : (Int32.ofInt 0).toInt = 0) (fun z25 h26 => ?_)
      exact En_ret (v := some (.int z25)) rfl rfl rfl ⟨h21, h22, z25, rfl, ⟨by first | exact q_bef0d034f7 h26 | omega, by first | exact q_c5d285f1b9 h26 | omega, fun hh => by first | exact ⟨q_c5d285f1b9 h26, q_097a37c2ae h26⟩ | omega, fun _ => by omega, fun _ => by omega, IMC_ok (by omega) (by omega) h16 h9 h23 h24 (by decide)⟩⟩
    · refine En_Ps 1 (pc' := 11) (lv' := [(0, .ref 0), (1, .int a)]) (st' := [.int (((Int8.ofInt (-2)).toInt32))]) rfl ?_
      refine En_top (by decide : ((Int8.ofInt (-2)).toInt32).toInt = -2) (fun z27 h28 => ?_)
      exact En_ret (v := some (.int z27)) rfl rfl rfl ⟨hσ0, hF0, z27, rfl, ⟨by first | exact q_f35c5d346c h28 | omega, by first | exact q_bbb39ffa1e h28 | omega, fun _ => by omega, fun hh => by first | exact ⟨q_535bc65891 h28, q_f35c5d346c h28⟩ | omega, fun hh => by first | exact ⟨q_535bc65891 h28, q_f35c5d346c h28⟩ | omega, IMC_no (by omega)⟩⟩
/-- DoorSchool.left(I)I -/
abbrev P_152x (σ0 : SG) (Wv : Int → Int) (a : Int32) (p : Nat) (sg : Int32) : PO := fun v σ => WT σ ∧ Fr [(20, 2), (21, 0), (22, 0)] σ0 σ ∧ ∃ ret : Int32, v = some (.int ret) ∧ -ret.toInt - 2 ≤ 0 ∧ ret.toInt - 63 ≤ 0 ∧ (KN σ p Wv (act Wv) ∧ OUT σ0 σ p)
set_option maxRecDepth 10000 in
set_option maxHeartbeats 4000000 in
theorem c_152x {Wv : Int → Int} (σ0 : SG) (hσ0 : WT σ0) (a : Int32) (p : Nat) (hp : TG p = 18) (h_p : (σ0 0)[9]? = some (.ref p)) (sg : Int32) (h_sg : (σ0 p)[1]? = some (.int sg)) (hp0 : -sg.toInt ≤ 0) (hP : PLA p) (hX : FXP σ0 p) (hK : KN σ0 p Wv (act Wv)) (hB : WFw Wv) : En 6 141 none mr_152 (P_152x σ0 Wv a p sg) 0 [(0, .ref 0), (1, .int a)] [] σ0 := by
  obtain ⟨hl_sg, hu_sg⟩ := WT_int hσ0 (g := 18) hp (by decide +kernel) (l := (-1)) (u := 4) (by decide +kernel) h_sg
  have hF0 : Fr [(20, 2), (21, 0), (22, 0)] σ0 σ0 := Fr_rfl
  have t1 : Wv (0) = sg.toInt := KN_v hK (Or.inl (by decide)) (by decide) (by decide) (by rw [lcO_lt (by decide) (by decide), Nat.add_zero]) rfl h_sg
  obtain ⟨z3, h2, h4, h5⟩ := WT_peekI hσ0 hp (by decide +kernel : FT 18 3 = (0, 0, 4)) (by decide +kernel)
  have t6 : Wv (2) = z3.toInt := KN_v hK (Or.inl (by decide)) (by decide) (by decide) (by rw [lcO_lt (by decide) (by decide), Nat.add_zero]) rfl h2
  refine En_Ps 2 (pc' := 2) (lv' := [(0, .ref 0), (1, .int a)]) (st' := [.int a, .ref 0]) rfl ?_
  refine En_callV rfl rfl rfl rfl rfl rfl rfl rfl tgz_0 (by decide +kernel) rfl (c_135x σ0 hσ0 a p hp h_p sg h_sg (by first | exact q_a555021d16 hp0 | omega) hP (FXP_fr hP hX hF0 (by decide +kernel)) hK hB) (by decide) (by decide) (fun v8 σ9 h7 => ?_)
  obtain ⟨h10, h11, z13, rfl, h12⟩ := h7
  have h14 := h12.2.2.2.2.2
  have h15 := Fr_trans hF0 h11 (by decide +kernel)
  have h16 := h14.2
  refine En_Ps 3 (pc' := 9) (lv' := [(2, .int z13), (0, .ref 0), (1, .int a)]) (st' := [.int (((Int8.ofInt (-2)).toInt32)), .int z13]) rfl ?_
  refine En_icNe _ rfl (by decide : ((Int8.ofInt (-2)).toInt32).toInt = -2) rfl (fun h17 => ?_) (fun h17 => ?_)
  · have h18 := Imp_m h12.2.2.1 (by first | exact q_416b1dfcd0 h17 h12.1 | omega)
    have h19 := Imp_m h12.2.2.2.2.1 (by first | exact q_416b1dfcd0 h17 h12.1 | omega)
    refine En_Ps 2 (pc' := 17) (lv' := [(2, .int z13), (0, .ref 0), (1, .int a)]) (st' := [.int ((Int32.ofInt (-1))), .int z13]) rfl ?_
    refine En_icNe _ rfl (by decide : (Int32.ofInt (-1)).toInt = -1) rfl (fun h20 => ?_) (fun h20 => ?_)
    · have h21 := Imp_m h12.2.2.2.1 (by first | exact q_c57f8bb8aa h20 h17 h12.1 | omega)
      refine En_Ps 3 (pc' := 34) (lv' := [(2, .int z13), (0, .ref 0), (1, .int a)]) (st' := [.int z13, .int a, .ref 0]) rfl ?_
      refine En_callV rfl rfl rfl rfl rfl rfl rfl rfl tgz_0 (by decide +kernel) rfl (c_127x σ9 h10 a z13 (geI rfl (by first | exact q_ef1e8e38bf h18.1 | omega)) (leI rfl (by first | exact q_87d9217d84 h18.2 | omega)) (geI rfl (by first | exact q_375eb53874 h20 h17 h12.1 | omega)) (leI rfl (by first | exact q_5a5f544404 h12.2.1 | omega)) p hp ((h11 _ _ (inW tgz_0 (by decide +kernel))).trans h_p) sg ((h11 _ _ (inW hp (by decide +kernel))).trans h_sg) (by first | exact q_a555021d16 hp0 | omega) hP (FXP_fr hP hX h15 (by decide +kernel)) h14.1 hB (by omega)) (by decide) (by decide) (fun v23 σ24 h22 => ?_)
      obtain ⟨h25, h26, z28, rfl, h27⟩ := h22
      have h29 := h27.2.2
      have h30 := Fr_trans h15 h26 (by decide +kernel)
      have h31 := OUT_tr h16 h29.2
      exact En_ret (v := some (.int z28)) rfl rfl rfl ⟨h25, h30, z28, rfl, ⟨by first | exact q_70a249c7f8 h27.1 | omega, by first | exact q_4b9206e141 h27.2.1 | omega, ⟨h29.1, h31⟩⟩⟩
    · refine En_Ps 2 (pc' := 22) (lv' := [(2, .int z13), (0, .ref 0), (1, .int a)]) (st' := [.int a, .ref 0]) rfl ?_
      refine En_callV rfl rfl rfl rfl rfl rfl rfl rfl tgz_0 (by decide +kernel) rfl (c_126 σ9 h10 a (geI rfl (by first | exact q_ef1e8e38bf h18.1 | omega)) (leI rfl (by first | exact q_87d9217d84 h18.2 | omega)) p hp ((h11 _ _ (inW tgz_0 (by decide +kernel))).trans h_p) sg ((h11 _ _ (inW hp (by decide +kernel))).trans h_sg) (by first | exact q_a555021d16 hp0 | omega)) (by decide) (by decide) (fun v33 σ34 h32 => ?_)
      obtain ⟨h35, h36, z38, rfl, h37⟩ := h32
      obtain rfl : σ9 = σ34 := Fr_nil h36
      refine En_callS rfl rfl rfl rfl rfl rfl rfl rfl rfl (c_7bx σ9 h10 z38) (by decide) (by decide) (fun v40 σ41 h39 => ?_)
      obtain ⟨h42, h43, z45, rfl, h44⟩ := h39
      obtain rfl : σ9 = σ41 := Fr_nil h43
      refine En_Ps 1 (pc' := 37) (lv' := [(2, .int z13), (0, .ref 0), (1, .int a)]) (st' := [.int z45]) rfl ?_
      exact En_ret (v := some (.int z45)) rfl rfl rfl ⟨h10, h15, z45, rfl, ⟨by first | exact q_70a249c7f8 h44.1 | omega, by first | exact q_4b9206e141 h44.2 | omega, ⟨h14.1, h16⟩⟩⟩
  · refine En_Ps 1 (pc' := 14) (lv' := [(2, .int z13), (0, .ref 0), (1, .int a)]) (st' := [.int (((Int8.ofInt (-2)).toInt32))]) rfl ?_
    refine En_top (by decide : ((Int8.ofInt (-2)).toInt32).toInt = -2) (fun z46 h47 => ?_)
    exact En_ret (v := some (.int z46)) rfl rfl rfl ⟨h10, h15, z46, rfl, ⟨by first | exact q_f35c5d346c h47 | omega, by first | exact q_443ead751f h47 | omega, ⟨h14.1, h16⟩⟩⟩
/-- DoorSchool.owns(II)I -/
abbrev P_161x (σ0 : SG) (Wv : Int → Int) (a : Int32) (b : Int32) (p : Nat) (sg : Int32) : PO := fun v σ => WT σ ∧ Fr [(18, 6), (18, 7)] σ0 σ ∧ ∃ ret : Int32, v = some (.int ret) ∧ -ret.toInt - 2 ≤ 0 ∧ ret.toInt - 65535 ≤ 0 ∧ (KN σ p (owW Wv a.toInt b.toInt) (act (owW Wv a.toInt b.toInt)) ∧ OUT σ0 σ p)
set_option maxRecDepth 10000 in
set_option maxHeartbeats 4000000 in
theorem c_161x {Wv : Int → Int} (σ0 : SG) (hσ0 : WT σ0) (a : Int32) (b : Int32) (p : Nat) (hp : TG p = 18) (h_p : (σ0 0)[9]? = some (.ref p)) (sg : Int32) (h_sg : (σ0 p)[1]? = some (.int sg)) (hp0 : -sg.toInt ≤ 0) (hP : PLA p) (hX : FXP σ0 p) (hK : KN σ0 p Wv (act Wv)) : En 3 63 none mr_161 (P_161x σ0 Wv a b p sg) 0 [(0, .ref 0), (1, .int a), (2, .int b)] [] σ0 := by
  obtain ⟨hl_sg, hu_sg⟩ := WT_int hσ0 (g := 18) hp (by decide +kernel) (l := (-1)) (u := 4) (by decide +kernel) h_sg
  have hF0 : Fr [(18, 6), (18, 7)] σ0 σ0 := Fr_rfl
  have t1 : Wv (0) = sg.toInt := KN_v hK (Or.inl (by decide)) (by decide) (by decide) (by rw [lcO_lt (by decide) (by decide), Nat.add_zero]) rfl h_sg
  refine En_Ps 1 (pc' := 1) (lv' := [(0, .ref 0), (1, .int a), (2, .int b)]) (st' := [.ref 0]) rfl ?_
  refine En_getK (j := 9) h_p rfl rfl rfl tgz_0 (by decide +kernel) ?_
  refine En_Ps 2 (pc' := 6) (lv' := [(0, .ref 0), (1, .int a), (2, .int b)]) (st' := [.int b, .int a, .ref p]) rfl ?_
  obtain ⟨z3, h2, h4, h5⟩ := WT_peekI hσ0 hp (by decide +kernel : FT 18 0 = (0, 0, 1601)) (by decide +kernel)
  have t6 : Wv (7) = z3.toInt := KN_v hK (Or.inl (by decide)) (by decide) (by decide) (by rw [lcO_lt (by decide) (by decide), Nat.add_zero]) rfl h2
  refine En_callV rfl rfl rfl rfl rfl rfl rfl rfl hp (by decide +kernel) rfl (c_50x σ0 hσ0 p hp a b z3 h2 sg h_sg (by first | exact q_a555021d16 hp0 | omega)) (by decide) (by decide) (fun v8 σ9 h7 => ?_)
  obtain ⟨h10, h11, z13, rfl, h12⟩ := h7
  have h14 := h12.2.2.2
  obtain rfl : σ0 = σ9 := Fr_nil h11
  have h15 := h14
  have h16 : pI (Wv 0) = pI (sg.toInt) := by rw [t1]
  refine En_iNe _ rfl rfl (fun h17 => ?_) (fun h17 => ?_)
  · have h18 := Imp_m h12.2.2.1 (by first | exact ⟨q_ad5b726bf8 h12.2.1, q_e3350da514 h17 h12.1⟩ | omega)
    refine En_Ps 1 (pc' := 16) (lv' := [(0, .ref 0), (1, .int a), (2, .int b)]) (st' := [.ref 0]) rfl ?_
    refine En_callV rfl rfl rfl rfl rfl rfl rfl rfl tgz_0 (by decide +kernel) rfl (c_160 σ0 hσ0 p hp h_p sg h_sg (by first | exact q_a555021d16 hp0 | omega)) (by decide) (by decide) (fun v20 σ21 h19 => ?_)
    obtain ⟨h22, h23, z25, rfl, h24⟩ := h19
    obtain rfl : σ0 = σ21 := Fr_nil h23
    refine En_Ps 2 (pc' := 21) (lv' := [(3, .int z25), (0, .ref 0), (1, .int a), (2, .int b)]) (st' := [.ref 0]) rfl ?_
    refine En_getK (j := 9) h_p rfl rfl rfl tgz_0 (by decide +kernel) ?_
    refine En_Ps 1 (pc' := 25) (lv' := [(3, .int z25), (0, .ref 0), (1, .int a), (2, .int b)]) (st' := [.int a, .ref p]) rfl ?_
    refine En_put (j := 6) rfl rfl rfl hp (by decide +kernel) rfl (vI (l := 0) (u := 15) (by decide +kernel) rfl (by first | exact q_ef1e8e38bf h18.1 | omega) (by first | exact q_5a5f544404 h18.2.1 | omega)) hσ0 hF0 (by decide +kernel) (fun σ26 h27 h28 h29 h30 => ?_)
    refine En_Ps 1 (pc' := 29) (lv' := [(3, .int z25), (0, .ref 0), (1, .int a), (2, .int b)]) (st' := [.ref 0]) rfl ?_
    refine En_getK (j := 9) ((h30 _ _ (Or.inr (by decide))).trans h_p) rfl rfl rfl tgz_0 (by decide +kernel) ?_
    refine En_Ps 1 (pc' := 33) (lv' := [(3, .int z25), (0, .ref 0), (1, .int a), (2, .int b)]) (st' := [.int b, .ref p]) rfl ?_
    refine En_put (j := 7) rfl rfl rfl hp (by decide +kernel) rfl (vI (l := 0) (u := 15) (by decide +kernel) rfl (by first | exact q_ef1e8e38bf h18.2.2.1 | omega) (by first | exact q_5a5f544404 h18.2.2.2 | omega)) h27 h28 (by decide +kernel) (fun σ31 h32 h33 h34 h35 => ?_)
    refine En_Ps 1 (pc' := 37) (lv' := [(3, .int z25), (0, .ref 0), (1, .int a), (2, .int b)]) (st' := [.int z25]) rfl ?_
    exact En_ret (v := some (.int z25)) rfl rfl rfl ⟨h32, h33, z25, rfl, ⟨by first | exact q_70a249c7f8 h24.1 | omega, by first | exact q_ef123ba13c h24.2 | omega, (by rw [owW_y (by omega)]; exact KN_two hK (PLA_B hP) h29 h30 h34 h35)⟩⟩
  · refine En_Ps 1 (pc' := 14) (lv' := [(0, .ref 0), (1, .int a), (2, .int b)]) (st' := [.int (((Int8.ofInt (-2)).toInt32))]) rfl ?_
    refine En_top (by decide : ((Int8.ofInt (-2)).toInt32).toInt = -2) (fun z36 h37 => ?_)
    exact En_ret (v := some (.int z36)) rfl rfl rfl ⟨hσ0, hF0, z36, rfl, ⟨by first | exact q_f35c5d346c h37 | omega, by first | exact q_7aab8371ca h37 | omega, (by rw [owW_n (by omega)]; exact ⟨hK, OUT_0⟩)⟩⟩
/-- DoorSchool.row(III)I -/
abbrev P_165x (σ0 : SG) (a : Int32) (b : Int32) (c : Int32) (p : Nat) (sg : Int32) : PO := fun v σ => WT σ ∧ Fr [(33, 1), (33, 2), (33, 3), (34, 0)] σ0 σ ∧ ∃ ret : Int32, v = some (.int ret) ∧ -ret.toInt - 3 ≤ 0 ∧ ret.toInt ≤ 0 ∧ Imp (-a.toInt ≤ 0 ∧ a.toInt - 3 ≤ 0 ∧ -b.toInt ≤ 0 ∧ b.toInt - 3 ≤ 0 ∧ c.toInt - 60 ≤ 0 ∧ -c.toInt ≤ 0) (ret.toInt ≤ 0 ∧ -ret.toInt ≤ 0) ∧ Imp (-a.toInt ≤ 0 ∧ a.toInt - 3 ≤ 0 ∧ -b.toInt ≤ 0 ∧ b.toInt - 3 ≤ 0 ∧ c.toInt - 60 ≤ 0 ∧ c.toInt + 1 ≤ 0) (ret.toInt + 3 ≤ 0 ∧ -ret.toInt - 3 ≤ 0) ∧ Imp (a.toInt + 1 ≤ 0) (ret.toInt + 2 ≤ 0 ∧ -ret.toInt - 2 ≤ 0) ∧ Imp (-a.toInt + 4 ≤ 0) (ret.toInt + 2 ≤ 0 ∧ -ret.toInt - 2 ≤ 0) ∧ Imp (b.toInt + 1 ≤ 0) (ret.toInt + 2 ≤ 0 ∧ -ret.toInt - 2 ≤ 0) ∧ Imp (-b.toInt + 4 ≤ 0) (ret.toInt + 2 ≤ 0 ∧ -ret.toInt - 2 ≤ 0) ∧ Imp (-c.toInt + 61 ≤ 0) (ret.toInt + 2 ≤ 0 ∧ -ret.toInt - 2 ≤ 0)
set_option maxRecDepth 10000 in
set_option maxHeartbeats 4000000 in
theorem c_165x (σ0 : SG) (hσ0 : WT σ0) (a : Int32) (b : Int32) (c : Int32) (p : Nat) (hp : TG p = 18) (h_p : (σ0 0)[9]? = some (.ref p)) (sg : Int32) (h_sg : (σ0 p)[1]? = some (.int sg)) (hp0 : -sg.toInt ≤ 0) : En 2 46 none mr_165 (P_165x σ0 a b c p sg) 0 [(0, .ref 0), (1, .int a), (2, .int b), (3, .int c)] [] σ0 := by
  obtain ⟨hl_sg, hu_sg⟩ := WT_int hσ0 (g := 18) hp (by decide +kernel) (l := (-1)) (u := 4) (by decide +kernel) h_sg
  have hF0 : Fr [(33, 1), (33, 2), (33, 3), (34, 0)] σ0 σ0 := Fr_rfl
  refine En_Ps 1 (pc' := 1) (lv' := [(0, .ref 0), (1, .int a), (2, .int b), (3, .int c)]) (st' := [.int a]) rfl ?_
  refine En_callS rfl rfl rfl rfl rfl rfl rfl rfl rfl (c_147 σ0 hσ0 a) (by decide) (by decide) (fun v2 σ3 h1 => ?_)
  obtain ⟨h4, h5, z7, rfl, h6⟩ := h1
  have h8 := Fr_trans hF0 h5 (by decide +kernel)
  refine En_iEq _ rfl rfl (fun h9 => ?_) (fun h9 => ?_)
  · refine En_Ps 1 (pc' := 24) (lv' := [(0, .ref 0), (1, .int a), (2, .int b), (3, .int c)]) (st' := [.int (((Int8.ofInt (-2)).toInt32))]) rfl ?_
    refine En_top (by decide : ((Int8.ofInt (-2)).toInt32).toInt = -2) (fun z10 h11 => ?_)
    exact En_ret (v := some (.int z10)) rfl rfl rfl ⟨h4, h8, z10, rfl, ⟨by first | exact q_65b477db59 h11 | omega, by first | exact q_bbb39ffa1e h11 | omega, fun _ => by omega, fun _ => by omega, fun hh => by first | exact ⟨q_535bc65891 h11, q_f35c5d346c h11⟩ | omega, fun hh => by first | exact ⟨q_535bc65891 h11, q_f35c5d346c h11⟩ | omega, fun hh => by first | exact ⟨q_535bc65891 h11, q_f35c5d346c h11⟩ | omega, fun hh => by first | exact ⟨q_535bc65891 h11, q_f35c5d346c h11⟩ | omega, fun hh => by first | exact ⟨q_535bc65891 h11, q_f35c5d346c h11⟩ | omega⟩⟩
  · refine En_Ps 1 (pc' := 8) (lv' := [(0, .ref 0), (1, .int a), (2, .int b), (3, .int c)]) (st' := [.int b]) rfl ?_
    refine En_iLt _ rfl rfl (fun h12 => ?_) (fun h12 => ?_)
    · refine En_Ps 1 (pc' := 24) (lv' := [(0, .ref 0), (1, .int a), (2, .int b), (3, .int c)]) (st' := [.int (((Int8.ofInt (-2)).toInt32))]) rfl ?_
      refine En_top (by decide : ((Int8.ofInt (-2)).toInt32).toInt = -2) (fun z13 h14 => ?_)
      exact En_ret (v := some (.int z13)) rfl rfl rfl ⟨h4, h8, z13, rfl, ⟨by first | exact q_65b477db59 h14 | omega, by first | exact q_bbb39ffa1e h14 | omega, fun _ => by omega, fun _ => by omega, fun hh => by first | exact ⟨q_535bc65891 h14, q_f35c5d346c h14⟩ | omega, fun hh => by first | exact ⟨q_535bc65891 h14, q_f35c5d346c h14⟩ | omega, fun hh => by first | exact ⟨q_535bc65891 h14, q_f35c5d346c h14⟩ | omega, fun hh => by first | exact ⟨q_535bc65891 h14, q_f35c5d346c h14⟩ | omega, fun hh => by first | exact ⟨q_535bc65891 h14, q_f35c5d346c h14⟩ | omega⟩⟩
    · refine En_Ps 2 (pc' := 13) (lv' := [(0, .ref 0), (1, .int a), (2, .int b), (3, .int c)]) (st' := [.int ((Int32.ofInt 4)), .int b]) rfl ?_
      refine En_icGe _ rfl (by decide : (Int32.ofInt 4).toInt = 4) rfl (fun h15 => ?_) (fun h15 => ?_)
      · refine En_Ps 1 (pc' := 24) (lv' := [(0, .ref 0), (1, .int a), (2, .int b), (3, .int c)]) (st' := [.int (((Int8.ofInt (-2)).toInt32))]) rfl ?_
        refine En_top (by decide : ((Int8.ofInt (-2)).toInt32).toInt = -2) (fun z16 h17 => ?_)
        exact En_ret (v := some (.int z16)) rfl rfl rfl ⟨h4, h8, z16, rfl, ⟨by first | exact q_65b477db59 h17 | omega, by first | exact q_bbb39ffa1e h17 | omega, fun _ => by omega, fun _ => by omega, fun hh => by first | exact ⟨q_535bc65891 h17, q_f35c5d346c h17⟩ | omega, fun hh => by first | exact ⟨q_535bc65891 h17, q_f35c5d346c h17⟩ | omega, fun hh => by first | exact ⟨q_535bc65891 h17, q_f35c5d346c h17⟩ | omega, fun hh => by first | exact ⟨q_535bc65891 h17, q_f35c5d346c h17⟩ | omega, fun hh => by first | exact ⟨q_535bc65891 h17, q_f35c5d346c h17⟩ | omega⟩⟩
      · refine En_Ps 2 (pc' := 19) (lv' := [(0, .ref 0), (1, .int a), (2, .int b), (3, .int c)]) (st' := [.int (((Int8.ofInt 60).toInt32)), .int c]) rfl ?_
        refine En_icLe _ rfl (by decide : ((Int8.ofInt 60).toInt32).toInt = 60) rfl (fun h18 => ?_) (fun h18 => ?_)
        · refine En_Ps 1 (pc' := 26) (lv' := [(0, .ref 0), (1, .int a), (2, .int b), (3, .int c)]) (st' := [.int c]) rfl ?_
          refine En_iGe _ rfl rfl (fun h19 => ?_) (fun h19 => ?_)
          · refine En_Ps 1 (pc' := 33) (lv' := [(0, .ref 0), (1, .int a), (2, .int b), (3, .int c)]) (st' := [.ref 0]) rfl ?_
            refine En_getU (j := 6) (u := 150) (g' := 32) (q := 0) rfl rfl rfl tgz_0 (by decide +kernel) h4 (by decide +kernel) (by decide +kernel) (fun h20 => ?_)
            refine En_Ps 1 (pc' := 37) (lv' := [(0, .ref 0), (1, .int a), (2, .int b), (3, .int c)]) (st' := [.int a, .ref 150]) rfl ?_
            refine En_aald (g' := 33) (u := 0) rfl rfl tgz_150 (by decide +kernel) h4 (by omega) (lnI (by decide +kernel : LN _ = 4) (by omega)) (FTsgl (by decide +kernel)) (fun a23 h22 ha23 => ?_)
            refine En_Ps 2 (pc' := 40) (lv' := [(0, .ref 0), (1, .int a), (2, .int b), (3, .int c)]) (st' := [.int c, .int b, .ref a23]) rfl ?_
            refine En_callV rfl rfl rfl rfl rfl rfl rfl rfl ha23 (by decide +kernel) rfl (c_84 σ3 h4 a23 ha23 b c (geI rfl (by first | exact q_58e6e51dcc h12 | omega)) (leI rfl (by first | exact q_795fc9ee7e h15 | omega)) (geI rfl (by first | exact q_58e6e51dcc h19 | omega)) (leI rfl (by first | exact q_d3912a5755 h18 | omega))) (by decide) (by decide) (fun v25 σ26 h24 => ?_)
            obtain ⟨h27, h28, rfl, h29⟩ := h24
            have h30 := Fr_trans h8 h28 (by decide +kernel)
            refine En_Ps 1 (pc' := 44) (lv' := [(0, .ref 0), (1, .int a), (2, .int b), (3, .int c)]) (st' := [.int ((Int32.ofInt 0))]) rfl ?_
            refine En_top (by decide : (Int32.ofInt 0).toInt = 0) (fun z31 h32 => ?_)
            exact En_ret (v := some (.int z31)) rfl rfl rfl ⟨h27, h30, z31, rfl, ⟨by first | exact q_fe9485f41f h32 | omega, by first | exact q_c5d285f1b9 h32 | omega, fun hh => by first | exact ⟨q_c5d285f1b9 h32, q_097a37c2ae h32⟩ | omega, fun _ => by omega, fun _ => by omega, fun _ => by omega, fun _ => by omega, fun _ => by omega, fun _ => by omega⟩⟩
          · refine En_Ps 1 (pc' := 31) (lv' := [(0, .ref 0), (1, .int a), (2, .int b), (3, .int c)]) (st' := [.int (((Int8.ofInt (-3)).toInt32))]) rfl ?_
            refine En_top (by decide : ((Int8.ofInt (-3)).toInt32).toInt = -3) (fun z33 h34 => ?_)
            exact En_ret (v := some (.int z33)) rfl rfl rfl ⟨h4, h8, z33, rfl, ⟨by first | exact q_3ed35d91e6 h34 | omega, by first | exact q_16f03d2a2f h34 | omega, fun _ => by omega, fun hh => by first | exact ⟨q_3a751255ef h34, q_3ed35d91e6 h34⟩ | omega, fun _ => by omega, fun _ => by omega, fun _ => by omega, fun _ => by omega, fun _ => by omega⟩⟩
        · refine En_Ps 1 (pc' := 24) (lv' := [(0, .ref 0), (1, .int a), (2, .int b), (3, .int c)]) (st' := [.int (((Int8.ofInt (-2)).toInt32))]) rfl ?_
          refine En_top (by decide : ((Int8.ofInt (-2)).toInt32).toInt = -2) (fun z35 h36 => ?_)
          exact En_ret (v := some (.int z35)) rfl rfl rfl ⟨h4, h8, z35, rfl, ⟨by first | exact q_65b477db59 h36 | omega, by first | exact q_bbb39ffa1e h36 | omega, fun _ => by omega, fun _ => by omega, fun hh => by first | exact ⟨q_535bc65891 h36, q_f35c5d346c h36⟩ | omega, fun hh => by first | exact ⟨q_535bc65891 h36, q_f35c5d346c h36⟩ | omega, fun hh => by first | exact ⟨q_535bc65891 h36, q_f35c5d346c h36⟩ | omega, fun hh => by first | exact ⟨q_535bc65891 h36, q_f35c5d346c h36⟩ | omega, fun hh => by first | exact ⟨q_535bc65891 h36, q_f35c5d346c h36⟩ | omega⟩⟩

