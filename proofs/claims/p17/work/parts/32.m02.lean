/-- DoorSchoolModel.needs(Ljava/lang/String;)V -/
abbrev P_286s12x (σ0 : SG) (By : Int → Int) (Nb : Int) (Sp : PS) (f : Int32) (k : Int32) : PO := fun v σ => WT σ ∧ Fr [(35, 8), (35, 9), (35, 10), (35, 11), (35, 12), (35, 13)] σ0 σ ∧ ∃ f1 : Int32, (σ 159)[8]? = some (.int f1) ∧ ∃ k1 : Int32, (σ 159)[12]? = some (.int k1) ∧ v = none ∧ -f1.toInt ≤ 0 ∧ f1.toInt - 1600 ≤ 0 ∧ -f1.toInt + f.toInt ≤ 0 ∧ -k1.toInt ≤ 0 ∧ k1.toInt - 3 ≤ 0 ∧ -k1.toInt + k.toInt ≤ 0 ∧ f.toInt - f1.toInt ≤ 0 ∧ Imp (k1.toInt ≤ 0) (k.toInt ≤ 0) ∧ ML By Nb σ (pss By Nb (iW By Nb 12 Sp) Sp)
set_option maxRecDepth 10000 in
set_option maxHeartbeats 4000000 in
theorem c_286s12x {By : Int → Int} {Nb : Int} {Sp : PS} (σ0 : SG) (hσ0 : WT σ0) (f : Int32) (h_f : (σ0 159)[8]? = some (.int f)) (k : Int32) (h_k : (σ0 159)[12]? = some (.int k)) (hM : ML By Nb σ0 Sp) : En 6 135 none mr_286 (P_286s12x σ0 By Nb Sp f k) 0 [(0, .ref 159), (1, .retAddr 25)] [] σ0 := c_286gx 12 4 (by decide) (by decide) (by decide) (by decide) (by decide) σ0 hσ0 f h_f k h_k hM
/-- DoorSchoolModel.deed()I -/
abbrev P_209x (σ0 : SG) (By : Int → Int) (Nb : Int) (Sp : PS) (f : Int32) (k : Int32) : PO := fun v σ => WT σ ∧ Fr [(35, 8), (35, 9), (35, 10), (35, 11), (35, 12), (35, 13)] σ0 σ ∧ ∃ f1 : Int32, (σ 159)[8]? = some (.int f1) ∧ ∃ k1 : Int32, (σ 159)[12]? = some (.int k1) ∧ ∃ ret : Int32, v = some (.int ret) ∧ -ret.toInt ≤ 0 ∧ ret.toInt - 1 ≤ 0 ∧ -f1.toInt ≤ 0 ∧ f1.toInt - 1600 ≤ 0 ∧ -f1.toInt + f.toInt ≤ 0 ∧ -k1.toInt ≤ 0 ∧ k1.toInt - 3 ≤ 0 ∧ -k1.toInt + k.toInt ≤ 0 ∧ f.toInt - f1.toInt ≤ 0 ∧ Imp (k1.toInt ≤ 0) (k.toInt ≤ 0) ∧ (ML By Nb σ (gDeed By Nb Sp) ∧ ret.toInt = iW By Nb 8 Sp)
set_option maxRecDepth 10000 in
set_option maxHeartbeats 4000000 in
theorem c_209x {By : Int → Int} {Nb : Int} {Sp : PS} (σ0 : SG) (hσ0 : WT σ0) (f : Int32) (h_f : (σ0 159)[8]? = some (.int f)) (k : Int32) (h_k : (σ0 159)[12]? = some (.int k)) (hM : ML By Nb σ0 Sp) : En 7 156 none mr_209 (P_209x σ0 By Nb Sp f k) 0 [(0, .ref 159)] [] σ0 := by
  obtain ⟨hl_f, hu_f⟩ := WT_int hσ0 (g := 35) (by decide +kernel) (by decide +kernel) (l := 0) (u := 1600) (by decide +kernel) h_f
  obtain ⟨hl_k, hu_k⟩ := WT_int hσ0 (g := 35) (by decide +kernel) (by decide +kernel) (l := 0) (u := 3) (by decide +kernel) h_k
  have hF0 : Fr [(35, 8), (35, 9), (35, 10), (35, 11), (35, 12), (35, 13)] σ0 σ0 := Fr_rfl
  have h1 := ML_k hM h_k
  refine En_Ps 1 (pc' := 1) (lv' := [(0, .ref 159)]) (st' := [.ref 159]) rfl ?_
  refine En_ldcS (i := 8) rfl rfl rfl ?_
  refine En_callV rfl rfl rfl rfl rfl rfl rfl rfl tgz_159 (by decide +kernel) rfl (c_318s8x σ0 hσ0 f h_f hM) (by decide) (by decide) (fun v3 σ4 h2 => ?_)
  obtain ⟨h5, h6, z8, h9, z10, rfl, h7⟩ := h2
  have h11 := h7.2.2.2.2.2.2
  have h12 := Fr_trans hF0 h6 (by decide +kernel)
  have h13 := h11.2.1
  refine En_iEq _ rfl rfl (fun h14 => ?_) (fun h14 => ?_)
  · obtain rfl : σ0 = σ4 := h11.1 (by omega)
    refine En_Ps 1 (pc' := 12) (lv' := [(0, .ref 159)]) (st' := [.ref 159]) rfl ?_
    refine En_ldcS (i := 12) rfl rfl rfl ?_
    refine En_callV rfl rfl rfl rfl rfl rfl rfl rfl tgz_159 (by decide +kernel) rfl (c_286s12x σ0 hσ0 f h_f k h_k hM) (by decide) (by decide) (fun v16 σ17 h15 => ?_)
    obtain ⟨h18, h19, z21, h22, z23, h24, rfl, h20⟩ := h15
    have h25 := h20.2.2.2.2.2.2.2.2
    have h26 := Fr_trans hF0 h19 (by decide +kernel)
    obtain ⟨S27, h28⟩ : ∃ q : PS, q = pss By Nb (iW By Nb 12 Sp) Sp := ⟨_, rfl⟩
    have h29 : ML By Nb σ17 S27 := by rw [h28]; exact h25
    have h30 := ML_k h29 h24
    refine En_Ps 1 (pc' := 18) (lv' := [(0, .ref 159)]) (st' := [.int ((Int32.ofInt 0))]) rfl ?_
    refine En_top (by decide : (Int32.ofInt 0).toInt = 0) (fun z31 h32 => ?_)
    exact En_ret (v := some (.int z31)) rfl rfl rfl ⟨h18, h26, z21, h22, z23, h24, z31, rfl, ⟨by omega, by omega, by omega, by omega, by omega, by omega, by omega, by omega, by omega, fun _ => by omega, ⟨ML_eq h29 (by subst h28; unfold gDeed; first | done | rfl | ((repeat' split) <;> first | rfl | (exfalso; omega) | ((try have i0 := Imp_m h20.2.2.2.2.2.2.2.1 (by omega)); exfalso; omega))), by omega⟩⟩⟩
  · have h33 : Sp.1 = 0 := iW_g (i := 8) (B := By) (n := Nb) (by omega)
    obtain ⟨S34, h35⟩ : ∃ q : PS, q = adv By Nb Sp := ⟨_, rfl⟩
    have h36 : ML By Nb σ4 S34 := by rw [h35]; exact h11.2.2 (by omega)
    have h37 := ML_k h36 ((h6 _ _ (inW tgz_159 (by decide +kernel))).trans h_k)
    have h38 : S34.2.2.2 = Sp.2.2.2 := by rw [h35]; exact adv_w
    have h39 : S34.1 = 0 := by rw [h35, adv_1]; exact h33
    refine En_Ps 1 (pc' := 10) (lv' := [(0, .ref 159)]) (st' := [.int ((Int32.ofInt 1))]) rfl ?_
    refine En_top (by decide : (Int32.ofInt 1).toInt = 1) (fun z40 h41 => ?_)
    exact En_ret (v := some (.int z40)) rfl rfl rfl ⟨h5, h12, z8, h9, k, ((h6 _ _ (inW tgz_159 (by decide +kernel))).trans h_k), z40, rfl, ⟨by omega, by omega, by omega, by omega, by omega, by omega, by omega, by omega, by omega, fun _ => by omega, ⟨ML_eq h36 (by subst h35; unfold gDeed; first | done | rfl | ((repeat' split) <;> first | rfl | (exfalso; omega) | (exfalso; omega))), by omega⟩⟩⟩
/-- DoorSchoolModel.isRule(II)Z -/
abbrev P_263x (σ0 : SG) (a : Int32) (b : Int32) (s : Int32) (sc : Int32) : PO := fun v σ => WT σ ∧ Fr [] σ0 σ ∧ ∃ ret : Int32, v = some (.int ret) ∧ -ret.toInt ≤ 0 ∧ ret.toInt - 1 ≤ 0 ∧ Imp (ret.toInt - 1 ≤ 0 ∧ -ret.toInt + 1 ≤ 0) (-a.toInt ≤ 0 ∧ a.toInt - 15 ≤ 0 ∧ -b.toInt ≤ 0 ∧ b.toInt - 15 ≤ 0) ∧ ((ret.toInt = 1 ∧ 0 < sc.toInt ∧ 0 ≤ a.toInt ∧ a.toInt < pI s.toInt ∧ 0 ≤ b.toInt ∧ b.toInt ≤ 15 ∧ sbI b.toInt a.toInt = 1) ∨ (ret.toInt = 0 ∧ (sc.toInt ≤ 0 ∨ a.toInt < 0 ∨ pI s.toInt ≤ a.toInt ∨ b.toInt < 0 ∨ 15 < b.toInt ∨ sbI b.toInt a.toInt ≠ 1)))
set_option maxRecDepth 10000 in
set_option maxHeartbeats 4000000 in
theorem c_263x (σ0 : SG) (hσ0 : WT σ0) (a : Int32) (b : Int32) (s : Int32) (h_s : (σ0 160)[(0 : Int).toNat]? = some (.int s)) (sc : Int32) (h_sc : (σ0 160)[(7 : Int).toNat]? = some (.int sc)) : En 3 62 none mr_263 (P_263x σ0 a b s sc) 0 [(0, .ref 159), (1, .int a), (2, .int b)] [] σ0 := by
  obtain ⟨hl_s, hu_s⟩ := WT_int hσ0 (g := 36) (by decide +kernel) (by decide +kernel) (l := 0) (u := 4) (by decide +kernel) h_s
  obtain ⟨hl_sc, hu_sc⟩ := WT_int hσ0 (g := 36) (by decide +kernel) (by decide +kernel) (l := 0) (u := 1600) (by decide +kernel) h_sc
  have hF0 : Fr [] σ0 σ0 := Fr_rfl
  refine En_Ps 3 (pc' := 3) (lv' := [(0, .ref 159), (1, .int a), (2, .int b)]) (st' := [.long a.toInt64, .ref 159]) rfl ?_
  have : a.toInt64.toInt = a.toInt := (i2lI rfl)
  refine En_callV rfl rfl rfl rfl rfl rfl rfl rfl tgz_159 (by decide +kernel) rfl (c_259x σ0 hσ0 a.toInt64 s h_s sc h_sc) (by decide) (by decide) (fun v2 σ3 h1 => ?_)
  obtain ⟨h4, h5, z7, rfl, h6⟩ := h1
  have h8 := h6.2.2.2
  obtain rfl : σ0 = σ3 := Fr_nil h5
  have h9 := h8
  have w10 : wf σ0 (0) = s.toInt := ci_at h_s (by omega)
  have w11 : wf σ0 (7) = sc.toInt := ci_at h_sc (by omega)
  refine En_iEq _ rfl rfl (fun h12 => ?_) (fun h12 => ?_)
  · refine En_Ps 1 (pc' := 31) (lv' := [(0, .ref 159), (1, .int a), (2, .int b)]) (st' := [.int ((Int32.ofInt 0))]) rfl ?_
    refine En_top (by decide : (Int32.ofInt 0).toInt = 0) (fun z13 h14 => ?_)
    exact En_ret (v := some (.int z13)) rfl rfl (retZ rfl rfl (by omega) (by omega)) ⟨hσ0, hF0, z13, rfl, ⟨by omega, by omega, fun _ => by omega, (by first | omega | (by_cases q0 : 0 ≤ b.toInt ∧ b.toInt ≤ 15 ∧ 0 ≤ a.toInt ∧ sbI b.toInt a.toInt = 1; (have q1 := sbI_le q0.1 q0.2.2.1 q0.2.2.2; omega); omega))⟩⟩
  · have h15 := Imp_m h6.2.2.1 (by omega)
    refine En_Ps 3 (pc' := 12) (lv' := [(0, .ref 159), (1, .int a), (2, .int b)]) (st' := [.long b.toInt64, .ref 159]) rfl ?_
    have : b.toInt64.toInt = b.toInt := (i2lI rfl)
    refine En_callV rfl rfl rfl rfl rfl rfl rfl rfl tgz_159 (by decide +kernel) rfl (c_259x σ0 hσ0 b.toInt64 s h_s sc h_sc) (by decide) (by decide) (fun v17 σ18 h16 => ?_)
    obtain ⟨h19, h20, z22, rfl, h21⟩ := h16
    have h23 := h21.2.2.2
    obtain rfl : σ0 = σ18 := Fr_nil h20
    have h24 := h23
    refine En_iEq _ rfl rfl (fun h25 => ?_) (fun h25 => ?_)
    · refine En_Ps 1 (pc' := 31) (lv' := [(0, .ref 159), (1, .int a), (2, .int b)]) (st' := [.int ((Int32.ofInt 0))]) rfl ?_
      refine En_top (by decide : (Int32.ofInt 0).toInt = 0) (fun z26 h27 => ?_)
      exact En_ret (v := some (.int z26)) rfl rfl (retZ rfl rfl (by omega) (by omega)) ⟨hσ0, hF0, z26, rfl, ⟨by omega, by omega, fun _ => by omega, (by first | omega | (by_cases q0 : 0 ≤ b.toInt ∧ b.toInt ≤ 15 ∧ 0 ≤ a.toInt ∧ sbI b.toInt a.toInt = 1; (have q1 := sbI_le q0.1 q0.2.2.1 q0.2.2.2; omega); omega))⟩⟩
    · have h28 := Imp_m h21.2.2.1 (by omega)
      refine En_Ps 4 (pc' := 22) (lv' := [(0, .ref 159), (1, .int a), (2, .int b)]) (st' := [.int ((a ^^^ ((Int32.ofInt (-1))))), .int b]) rfl ?_
      refine En_nam (fun z29 h30 => ?_)
      refine En_Ps 1 (pc' := 23) (lv' := [(0, .ref 159), (1, .int a), (2, .int b)]) (st' := [.int ((b &&& z29))]) rfl ?_
      refine En_nam (fun z31 h32 => ?_)
      obtain ⟨h33, h34⟩ := andn_rng h32 rfl (by omega) (by omega : _ ≤ (15 : Int))
      refine En_iNe _ rfl rfl (fun h35 => ?_) (fun h35 => ?_)
      · have := sub_sbw h32 h30 rfl rfl (by omega) (by omega) (by omega)
        refine En_Ps 1 (pc' := 31) (lv' := [(0, .ref 159), (1, .int a), (2, .int b)]) (st' := [.int ((Int32.ofInt 0))]) rfl ?_
        refine En_top (by decide : (Int32.ofInt 0).toInt = 0) (fun z36 h37 => ?_)
        exact En_ret (v := some (.int z36)) rfl rfl (retZ rfl rfl (by omega) (by omega)) ⟨hσ0, hF0, z36, rfl, ⟨by omega, by omega, fun _ => by omega, (by first | omega | (by_cases q0 : 0 ≤ b.toInt ∧ b.toInt ≤ 15 ∧ 0 ≤ a.toInt ∧ sbI b.toInt a.toInt = 1; (have q1 := sbI_le q0.1 q0.2.2.1 q0.2.2.2; omega); omega))⟩⟩
      · obtain ⟨h38, h39⟩ := andn_zero h32 h30 h35 rfl rfl (by omega)
        have := sub_sbw h32 h30 rfl rfl (by omega) (by omega) (by omega)
        refine En_Ps 2 (pc' := 31) (lv' := [(0, .ref 159), (1, .int a), (2, .int b)]) (st' := [.int ((Int32.ofInt 1))]) rfl ?_
        refine En_top (by decide : (Int32.ofInt 1).toInt = 1) (fun z40 h41 => ?_)
        exact En_ret (v := some (.int z40)) rfl rfl (retZ rfl rfl (by omega) (by omega)) ⟨hσ0, hF0, z40, rfl, ⟨by omega, by omega, fun _ => by omega, (by first | omega | (by_cases q0 : 0 ≤ b.toInt ∧ b.toInt ≤ 15 ∧ 0 ≤ a.toInt ∧ sbI b.toInt a.toInt = 1; (have q1 := sbI_le q0.1 q0.2.2.1 q0.2.2.2; omega); omega))⟩⟩
/-- DoorSchoolModel.doesFreshCopy(I)Z -/
abbrev P_217x (σ0 : SG) (a : Int32) : PO := fun v σ => WT σ ∧ Fr [] σ0 σ ∧ ∃ ret : Int32, v = some (.int ret) ∧ -ret.toInt ≤ 0 ∧ ret.toInt - 1 ≤ 0 ∧ ((ret.toInt = 1 → ci σ0 165 (13 + 4 * a.toInt) ≠ -1) ∧ (ret.toInt = 0 → ci σ0 165 (13 + 4 * a.toInt) = -1))
set_option maxRecDepth 10000 in
set_option maxHeartbeats 4000000 in
theorem c_217x (σ0 : SG) (hσ0 : WT σ0) (a : Int32) (hl_a : 0 ≤ a.toInt) (hu_a : a.toInt ≤ 3) : En 0 0 none mr_217 (P_217x σ0 a) 0 [(0, .ref 159), (1, .int a)] [] σ0 := by
  have hF0 : Fr [] σ0 σ0 := Fr_rfl
  refine En_Ps 1 (pc' := 1) (lv' := [(0, .ref 159), (1, .int a)]) (st' := [.ref 159]) rfl ?_
  refine En_getU (j := 14) (u := 165) (g' := 41) (q := 0) rfl rfl rfl tgz_159 (by decide +kernel) hσ0 (by decide +kernel) (by decide +kernel) (fun h1 => ?_)
  refine En_Ps 4 (pc' := 9) (lv' := [(0, .ref 159), (1, .int a)]) (st' := [.int ((((Int32.ofInt 4)) * a)), .int (((Int8.ofInt 10).toInt32)), .ref 165]) rfl ?_
  refine En_top (mulI (by decide : (Int32.ofInt 4).toInt = 4) rfl (Z := 4 * a.toInt) (by omega) (by omega) (by omega)) (fun z3 h4 => ?_)
  refine En_Ps 1 (pc' := 10) (lv' := [(0, .ref 159), (1, .int a)]) (st' := [.int (((((Int8.ofInt 10).toInt32)) + z3)), .ref 165]) rfl ?_
  refine En_top (addI (by decide : ((Int8.ofInt 10).toInt32).toInt = 10) rfl (by omega) (by omega)) (fun z5 h6 => ?_)
  refine En_Ps 2 (pc' := 12) (lv' := [(0, .ref 159), (1, .int a)]) (st' := [.int ((z5 + ((Int32.ofInt 3)))), .ref 165]) rfl ?_
  refine En_top (addI rfl (by decide : (Int32.ofInt 3).toInt = 3) (by omega) (by omega)) (fun z7 h8 => ?_)
  refine En_iald (l := (-1)) (u := 3) rfl rfl tgz_165 (by decide +kernel) hσ0 (by omega) (lnI (by decide +kernel : LN _ = 226) (by omega)) (FTrow 41 13 4 4 (by decide +kernel) (by omega) (by omega) (by omega)) (fun z10 h9 h11 h12 => ?_)
  refine En_Ps 1 (pc' := 14) (lv' := [(0, .ref 159), (1, .int a)]) (st' := [.int ((Int32.ofInt (-1))), .int z10]) rfl ?_
  refine En_icEq _ rfl (by decide : (Int32.ofInt (-1)).toInt = -1) rfl (fun h13 => ?_) (fun h13 => ?_)
  · refine En_Ps 1 (pc' := 22) (lv' := [(0, .ref 159), (1, .int a)]) (st' := [.int ((Int32.ofInt 0))]) rfl ?_
    refine En_top (by decide : (Int32.ofInt 0).toInt = 0) (fun z14 h15 => ?_)
    exact En_ret (v := some (.int z14)) rfl rfl (retZ rfl rfl (by omega) (by omega)) ⟨hσ0, hF0, z14, rfl, ⟨by omega, by omega, (by have e1 := ci_at h9 (by omega : 13 + 4 * a.toInt = _); exact ⟨fun _ => by omega, fun _ => by omega⟩)⟩⟩
  · refine En_Ps 2 (pc' := 22) (lv' := [(0, .ref 159), (1, .int a)]) (st' := [.int ((Int32.ofInt 1))]) rfl ?_
    refine En_top (by decide : (Int32.ofInt 1).toInt = 1) (fun z16 h17 => ?_)
    exact En_ret (v := some (.int z16)) rfl rfl (retZ rfl rfl (by omega) (by omega)) ⟨hσ0, hF0, z16, rfl, ⟨by omega, by omega, (by have e1 := ci_at h9 (by omega : 13 + 4 * a.toInt = _); exact ⟨fun _ => by omega, fun _ => by omega⟩)⟩⟩
/-- DoorSchoolModel.end(I)I -/
abbrev P_221x (σ0 : SG) (a : Int32) (m : Int32) : PO := fun v σ => WT σ ∧ Fr [(35, 5)] σ0 σ ∧ ∃ m1 : Int32, (σ 159)[5]? = some (.int m1) ∧ ∃ ret : Int32, v = some (.int ret) ∧ -ret.toInt - 1 ≤ 0 ∧ ret.toInt - 1600 ≤ 0 ∧ -m1.toInt ≤ 0 ∧ m1.toInt - 1600 ≤ 0 ∧ m1.toInt - m.toInt ≤ 0 ∧ Imp (-a.toInt ≤ 0 ∧ a.toInt - m.toInt ≤ 0) (m1.toInt - a.toInt ≤ 0 ∧ -m1.toInt + a.toInt ≤ 0 ∧ ret.toInt - a.toInt ≤ 0 ∧ -ret.toInt + a.toInt ≤ 0) ∧ Imp (a.toInt + 1 ≤ 0) (m1.toInt - m.toInt ≤ 0 ∧ -m1.toInt + m.toInt ≤ 0 ∧ ret.toInt + 1 ≤ 0 ∧ -ret.toInt - 1 ≤ 0) ∧ Imp (m.toInt - a.toInt + 1 ≤ 0) (m1.toInt - m.toInt ≤ 0 ∧ -m1.toInt + m.toInt ≤ 0 ∧ ret.toInt + 1 ≤ 0 ∧ -ret.toInt - 1 ≤ 0)
set_option maxRecDepth 10000 in
set_option maxHeartbeats 4000000 in
theorem c_221x (σ0 : SG) (hσ0 : WT σ0) (a : Int32) (m : Int32) (h_m : (σ0 159)[5]? = some (.int m)) : En 1 25 none mr_221 (P_221x σ0 a m) 0 [(0, .ref 159), (1, .int a)] [] σ0 := by
  obtain ⟨hl_m, hu_m⟩ := WT_int hσ0 (g := 35) (by decide +kernel) (by decide +kernel) (l := 0) (u := 1600) (by decide +kernel) h_m
  have hF0 : Fr [(35, 5)] σ0 σ0 := Fr_rfl
  refine En_Ps 4 (pc' := 4) (lv' := [(0, .ref 159), (1, .int a)]) (st' := [.ref 159, .long ((Int64.ofNat 0)), .long a.toInt64]) rfl ?_
  refine En_getK (j := 5) h_m rfl rfl rfl tgz_159 (by decide +kernel) ?_
  refine En_Ps 1 (pc' := 8) (lv' := [(0, .ref 159), (1, .int a)]) (st' := [.long m.toInt64, .long ((Int64.ofNat 0)), .long a.toInt64]) rfl ?_
  have : a.toInt64.toInt = a.toInt := (i2lI rfl)
  have := (by decide : ((Int64.ofNat 0)).toInt = 0)
  have : m.toInt64.toInt = m.toInt := (i2lI rfl)
  refine En_callS rfl rfl rfl rfl rfl rfl rfl rfl rfl (c_249 σ0 hσ0 a.toInt64 ((Int64.ofNat 0)) m.toInt64) (by decide) (by decide) (fun v2 σ3 h1 => ?_)
  obtain ⟨h4, h5, z7, rfl, h6⟩ := h1
  have h8 := Fr_trans hF0 h5 (by decide +kernel)
  refine En_iNe _ rfl rfl (fun h9 => ?_) (fun h9 => ?_)
  · refine En_Ps 2 (pc' := 18) (lv' := [(0, .ref 159), (1, .int a)]) (st' := [.int a, .ref 159]) rfl ?_
    refine En_put (j := 5) rfl rfl rfl tgz_159 (by decide +kernel) rfl (vI (l := 0) (u := 1600) (by decide +kernel) rfl (by omega) (by omega)) h4 h8 (by decide +kernel) (fun σ10 h11 h12 h13 h14 => ?_)
    refine En_Ps 1 (pc' := 22) (lv' := [(0, .ref 159), (1, .int a)]) (st' := [.int a]) rfl ?_
    exact En_ret (v := some (.int a)) rfl rfl rfl ⟨h11, h12, a, h13, a, rfl, ⟨by omega, by omega, by omega, by omega, by omega, fun _ => by omega, fun _ => by omega, fun _ => by omega⟩⟩
  · refine En_Ps 1 (pc' := 15) (lv' := [(0, .ref 159), (1, .int a)]) (st' := [.int ((Int32.ofInt (-1)))]) rfl ?_
    refine En_top (by decide : (Int32.ofInt (-1)).toInt = -1) (fun z15 h16 => ?_)
    exact En_ret (v := some (.int z15)) rfl rfl rfl ⟨h4, h8, m, ((h5 _ _ (inW tgz_159 (by decide +kernel))).trans h_m), z15, rfl, ⟨by omega, by omega, by omega, by omega, by omega, fun _ => by omega, fun _ => by omega, fun _ => by omega⟩⟩
/-- DoorSchoolModel.fault(I)I -/
abbrev P_225x (σ0 : SG) (a : Int32) (fk : Int32) (fp : Int32) : PO := fun v σ => WT σ ∧ Fr [] σ0 σ ∧ ∃ ret : Int32, v = some (.int ret) ∧ -ret.toInt - 1 ≤ 0 ∧ ret.toInt - 1600 ≤ 0 ∧ Imp (a.toInt ≤ 0 ∧ -a.toInt ≤ 0) (ret.toInt - fk.toInt ≤ 0 ∧ -ret.toInt + fk.toInt ≤ 0) ∧ Imp (a.toInt - 1 ≤ 0 ∧ -a.toInt + 1 ≤ 0) (ret.toInt - fp.toInt ≤ 0 ∧ -ret.toInt + fp.toInt ≤ 0) ∧ Imp (a.toInt + 1 ≤ 0) (ret.toInt + 1 ≤ 0 ∧ -ret.toInt - 1 ≤ 0) ∧ Imp (-a.toInt + 2 ≤ 0) (ret.toInt + 1 ≤ 0 ∧ -ret.toInt - 1 ≤ 0)
set_option maxRecDepth 10000 in
set_option maxHeartbeats 4000000 in
theorem c_225x (σ0 : SG) (hσ0 : WT σ0) (a : Int32) (fk : Int32) (h_fk : (σ0 159)[12]? = some (.int fk)) (fp : Int32) (h_fp : (σ0 159)[13]? = some (.int fp)) : En 0 0 none mr_225 (P_225x σ0 a fk fp) 0 [(0, .ref 159), (1, .int a)] [] σ0 := by
  obtain ⟨hl_fk, hu_fk⟩ := WT_int hσ0 (g := 35) (by decide +kernel) (by decide +kernel) (l := 0) (u := 3) (by decide +kernel) h_fk
  obtain ⟨hl_fp, hu_fp⟩ := WT_int hσ0 (g := 35) (by decide +kernel) (by decide +kernel) (l := (-1)) (u := 1600) (by decide +kernel) h_fp
  have hF0 : Fr [] σ0 σ0 := Fr_rfl
  refine En_Ps 1 (pc' := 1) (lv' := [(0, .ref 159), (1, .int a)]) (st' := [.int a]) rfl ?_
  refine En_iNe _ rfl rfl (fun h1 => ?_) (fun h1 => ?_)
  · refine En_Ps 2 (pc' := 13) (lv' := [(0, .ref 159), (1, .int a)]) (st' := [.int ((Int32.ofInt 1)), .int a]) rfl ?_
    refine En_icNe _ rfl (by decide : (Int32.ofInt 1).toInt = 1) rfl (fun h2 => ?_) (fun h2 => ?_)
    · refine En_Ps 1 (pc' := 24) (lv' := [(0, .ref 159), (1, .int a)]) (st' := [.int ((Int32.ofInt (-1)))]) rfl ?_
      refine En_top (by decide : (Int32.ofInt (-1)).toInt = -1) (fun z3 h4 => ?_)
      exact En_ret (v := some (.int z3)) rfl rfl rfl ⟨hσ0, hF0, z3, rfl, ⟨by omega, by omega, fun _ => by omega, fun _ => by omega, fun _ => by omega, fun _ => by omega⟩⟩
    · refine En_Ps 1 (pc' := 17) (lv' := [(0, .ref 159), (1, .int a)]) (st' := [.ref 159]) rfl ?_
      refine En_getK (j := 13) h_fp rfl rfl rfl tgz_159 (by decide +kernel) ?_
      refine En_Ps 1 (pc' := 24) (lv' := [(0, .ref 159), (1, .int a)]) (st' := [.int fp]) rfl ?_
      exact En_ret (v := some (.int fp)) rfl rfl rfl ⟨hσ0, hF0, fp, rfl, ⟨by omega, by omega, fun _ => by omega, fun _ => by omega, fun _ => by omega, fun _ => by omega⟩⟩
  · refine En_Ps 1 (pc' := 5) (lv' := [(0, .ref 159), (1, .int a)]) (st' := [.ref 159]) rfl ?_
    refine En_getK (j := 12) h_fk rfl rfl rfl tgz_159 (by decide +kernel) ?_
    refine En_Ps 1 (pc' := 24) (lv' := [(0, .ref 159), (1, .int a)]) (st' := [.int fk]) rfl ?_
    exact En_ret (v := some (.int fk)) rfl rfl rfl ⟨hσ0, hF0, fk, rfl, ⟨by omega, by omega, fun _ => by omega, fun _ => by omega, fun _ => by omega, fun _ => by omega⟩⟩
/-- DoorSchoolModel.feed(IIIII)I -/
abbrev P_226x (σ0 : SG) (a : Int32) (b : Int32) (c : Int32) (d : Int32) (e : Int32) (m : Int32) : PO := fun v σ => WT σ ∧ Fr [(35, 5), (39, 0), (40, 0)] σ0 σ ∧ ∃ m1 : Int32, (σ 159)[5]? = some (.int m1) ∧ ∃ ret : Int32, v = some (.int ret) ∧ -ret.toInt - 1 ≤ 0 ∧ ret.toInt - 1600 ≤ 0 ∧ -m1.toInt + 20 ≤ 0 ∧ m1.toInt - 1600 ≤ 0 ∧ -m1.toInt + m.toInt ≤ 0 ∧ m1.toInt - m.toInt - 20 ≤ 0 ∧ Imp (m.toInt - 1580 ≤ 0) (m1.toInt - m.toInt - 20 ≤ 0 ∧ -m1.toInt + m.toInt + 20 ≤ 0 ∧ ret.toInt - m1.toInt ≤ 0 ∧ -ret.toInt + m1.toInt ≤ 0) ∧ Imp (-m.toInt + 1581 ≤ 0) (m1.toInt - m.toInt ≤ 0 ∧ -m1.toInt + m.toInt ≤ 0 ∧ ret.toInt + 1 ≤ 0 ∧ -ret.toInt - 1 ≤ 0) ∧ ((m.toInt ≤ 1580 → FDP σ0 σ 163 m.toInt 20 a b c d e) ∧ (1580 < m.toInt → ∀ i : Int, ci σ 163 i = ci σ0 163 i))
set_option maxRecDepth 10000 in
set_option maxHeartbeats 4000000 in
theorem c_226x (σ0 : SG) (hσ0 : WT σ0) (a : Int32) (b : Int32) (c : Int32) (d : Int32) (e : Int32) (m : Int32) (h_m : (σ0 159)[5]? = some (.int m)) : En 0 0 none mr_226 (P_226x σ0 a b c d e m) 0 [(0, .ref 159), (1, .int a), (2, .int b), (3, .int c), (4, .int d), (5, .int e)] [] σ0 := by
  obtain ⟨hl_m, hu_m⟩ := WT_int hσ0 (g := 35) (by decide +kernel) (by decide +kernel) (l := 0) (u := 1600) (by decide +kernel) h_m
  have hF0 : Fr [(35, 5), (39, 0), (40, 0)] σ0 σ0 := Fr_rfl
  refine En_Ps 1 (pc' := 1) (lv' := [(0, .ref 159), (1, .int a), (2, .int b), (3, .int c), (4, .int d), (5, .int e)]) (st' := [.ref 159]) rfl ?_
  refine En_getK (j := 5) h_m rfl rfl rfl tgz_159 (by decide +kernel) ?_
  refine En_Ps 2 (pc' := 7) (lv' := [(0, .ref 159), (1, .int a), (2, .int b), (3, .int c), (4, .int d), (5, .int e)]) (st' := [.int ((m + (((Int8.ofInt 20).toInt32))))]) rfl ?_
  refine En_top (addI rfl (by decide : ((Int8.ofInt 20).toInt32).toInt = 20) (by omega) (by omega)) (fun z1 h2 => ?_)
  refine En_Ps 1 (pc' := 10) (lv' := [(0, .ref 159), (1, .int a), (2, .int b), (3, .int c), (4, .int d), (5, .int e)]) (st' := [.int (((Int16.ofInt 1600).toInt32)), .int z1]) rfl ?_
  refine En_icLe _ rfl (by decide : ((Int16.ofInt 1600).toInt32).toInt = 1600) rfl (fun h3 => ?_) (fun h3 => ?_)
  · refine En_Ps 1 (pc' := 16) (lv' := [(0, .ref 159), (1, .int a), (2, .int b), (3, .int c), (4, .int d), (5, .int e)]) (st' := [.ref 159]) rfl ?_
    refine En_getU (j := 6) (u := 164) (g' := 40) (q := 0) rfl rfl rfl tgz_159 (by decide +kernel) hσ0 (by decide +kernel) (by decide +kernel) (fun h4 => ?_)
    refine En_Ps 2 (pc' := 21) (lv' := [(0, .ref 159), (1, .int a), (2, .int b), (3, .int c), (4, .int d), (5, .int e)]) (st' := [.int a, .int ((Int32.ofInt 0)), .ref 164]) rfl ?_
    refine En_iast (l := (-2147483648)) (u := 2147483647) rfl (by decide : (Int32.ofInt 0).toInt = 0) tgz_164 (by decide +kernel) (by omega) (lnI (by decide +kernel : LN _ = 5) (by omega)) (FTsgl (by decide +kernel)) (fullI _) hσ0 hF0 (by decide +kernel) (fun σ6 h7 h8 h9 h10 => ?_)
    have h11 : ∀ i : Int, ci σ6 163 i = ci σ0 163 i := fun i => (ci_ne h10 (by decide) i)
    refine En_Ps 1 (pc' := 23) (lv' := [(0, .ref 159), (1, .int a), (2, .int b), (3, .int c), (4, .int d), (5, .int e)]) (st' := [.ref 159]) rfl ?_
    refine En_getK (j := 6) ((h10 _ _ (Or.inl (neTG tgz_159 tgz_164 (by decide)))).trans h4) rfl rfl rfl tgz_159 (by decide +kernel) ?_
    refine En_Ps 2 (pc' := 28) (lv' := [(0, .ref 159), (1, .int a), (2, .int b), (3, .int c), (4, .int d), (5, .int e)]) (st' := [.int b, .int ((Int32.ofInt 1)), .ref 164]) rfl ?_
    refine En_iast (l := (-2147483648)) (u := 2147483647) rfl (by decide : (Int32.ofInt 1).toInt = 1) tgz_164 (by decide +kernel) (by omega) (lnI (by decide +kernel : LN _ = 5) (by omega)) (FTsgl (by decide +kernel)) (fullI _) h7 h8 (by decide +kernel) (fun σ12 h13 h14 h15 h16 => ?_)
    have h17 : ∀ i : Int, ci σ12 163 i = ci σ0 163 i := fun i => (ci_ne h16 (by decide) i).trans (h11 i)
    refine En_Ps 1 (pc' := 30) (lv' := [(0, .ref 159), (1, .int a), (2, .int b), (3, .int c), (4, .int d), (5, .int e)]) (st' := [.ref 159]) rfl ?_
    refine En_getK (j := 6) ((h16 _ _ (Or.inl (neTG tgz_159 tgz_164 (by decide)))).trans ((h10 _ _ (Or.inl (neTG tgz_159 tgz_164 (by decide)))).trans h4)) rfl rfl rfl tgz_159 (by decide +kernel) ?_
    refine En_Ps 2 (pc' := 35) (lv' := [(0, .ref 159), (1, .int a), (2, .int b), (3, .int c), (4, .int d), (5, .int e)]) (st' := [.int c, .int ((Int32.ofInt 2)), .ref 164]) rfl ?_
    refine En_iast (l := (-2147483648)) (u := 2147483647) rfl (by decide : (Int32.ofInt 2).toInt = 2) tgz_164 (by decide +kernel) (by omega) (lnI (by decide +kernel : LN _ = 5) (by omega)) (FTsgl (by decide +kernel)) (fullI _) h13 h14 (by decide +kernel) (fun σ18 h19 h20 h21 h22 => ?_)
    have h23 : ∀ i : Int, ci σ18 163 i = ci σ0 163 i := fun i => (ci_ne h22 (by decide) i).trans (h17 i)
    refine En_Ps 1 (pc' := 37) (lv' := [(0, .ref 159), (1, .int a), (2, .int b), (3, .int c), (4, .int d), (5, .int e)]) (st' := [.ref 159]) rfl ?_
    refine En_getK (j := 6) ((h22 _ _ (Or.inl (neTG tgz_159 tgz_164 (by decide)))).trans ((h16 _ _ (Or.inl (neTG tgz_159 tgz_164 (by decide)))).trans ((h10 _ _ (Or.inl (neTG tgz_159 tgz_164 (by decide)))).trans h4))) rfl rfl rfl tgz_159 (by decide +kernel) ?_
    refine En_Ps 2 (pc' := 43) (lv' := [(0, .ref 159), (1, .int a), (2, .int b), (3, .int c), (4, .int d), (5, .int e)]) (st' := [.int d, .int ((Int32.ofInt 3)), .ref 164]) rfl ?_
    refine En_iast (l := (-2147483648)) (u := 2147483647) rfl (by decide : (Int32.ofInt 3).toInt = 3) tgz_164 (by decide +kernel) (by omega) (lnI (by decide +kernel : LN _ = 5) (by omega)) (FTsgl (by decide +kernel)) (fullI _) h19 h20 (by decide +kernel) (fun σ24 h25 h26 h27 h28 => ?_)
    have h29 : ∀ i : Int, ci σ24 163 i = ci σ0 163 i := fun i => (ci_ne h28 (by decide) i).trans (h23 i)
    refine En_Ps 1 (pc' := 45) (lv' := [(0, .ref 159), (1, .int a), (2, .int b), (3, .int c), (4, .int d), (5, .int e)]) (st' := [.ref 159]) rfl ?_
    refine En_getK (j := 6) ((h28 _ _ (Or.inl (neTG tgz_159 tgz_164 (by decide)))).trans ((h22 _ _ (Or.inl (neTG tgz_159 tgz_164 (by decide)))).trans ((h16 _ _ (Or.inl (neTG tgz_159 tgz_164 (by decide)))).trans ((h10 _ _ (Or.inl (neTG tgz_159 tgz_164 (by decide)))).trans h4)))) rfl rfl rfl tgz_159 (by decide +kernel) ?_
    refine En_Ps 2 (pc' := 51) (lv' := [(0, .ref 159), (1, .int a), (2, .int b), (3, .int c), (4, .int d), (5, .int e)]) (st' := [.int e, .int ((Int32.ofInt 4)), .ref 164]) rfl ?_
    refine En_iast (l := (-2147483648)) (u := 2147483647) rfl (by decide : (Int32.ofInt 4).toInt = 4) tgz_164 (by decide +kernel) (by omega) (lnI (by decide +kernel : LN _ = 5) (by omega)) (FTsgl (by decide +kernel)) (fullI _) h25 h26 (by decide +kernel) (fun σ30 h31 h32 h33 h34 => ?_)
    have h35 : ∀ i : Int, ci σ30 163 i = ci σ0 163 i := fun i => (ci_ne h34 (by decide) i).trans (h29 i)
    refine En_Ps 2 (pc' := 55) (lv' := [(6, .int ((Int32.ofInt 0))), (0, .ref 159), (1, .int a), (2, .int b), (3, .int c), (4, .int d), (5, .int e)]) (st' := []) rfl ?_
    have key55 : ∀ (n55 : Nat) (σ37 : SG) (y36 : Int32), WT σ37 → Fr [(35, 5), (39, 0), (40, 0)] σ0 σ37 → (σ37 159)[5]? = some (.int m) → (σ37 159)[6]? = some (.ref 164) → (σ37 164)[(0 : Int).toNat]? = some (.int a) → (σ37 164)[(1 : Int).toNat]? = some (.int b) → (σ37 164)[(2 : Int).toNat]? = some (.int c) → (σ37 164)[(3 : Int).toNat]? = some (.int d) → (σ37 164)[(4 : Int).toNat]? = some (.int e) → 0 ≤ y36.toInt → y36.toInt ≤ 20 → -y36.toInt + 20 < (n55 : Int) → FDP σ0 σ37 163 m.toInt y36.toInt a b c d e → En 0 0 none mr_226 (P_226x σ0 a b c d e m) 55 [(0, .ref 159), (1, .int a), (2, .int b), (3, .int c), (4, .int d), (5, .int e), (6, .int y36)] [] σ37 := by
      intro n55
      induction n55 with
      | zero =>
        intro σ37 y36 h38 h39 h40 h41 h42 h43 h44 h45 h46 h47 h48 h49 h50
        exfalso; omega
      | succ n55 ih55 =>
        intro σ37 y36 h38 h39 h40 h41 h42 h43 h44 h45 h46 h47 h48 h49 h50
        refine En_Ps 2 (pc' := 59) (lv' := [(0, .ref 159), (1, .int a), (2, .int b), (3, .int c), (4, .int d), (5, .int e), (6, .int y36)]) (st' := [.int (((Int8.ofInt 20).toInt32)), .int y36]) rfl ?_
        refine En_icGe _ rfl (by decide : ((Int8.ofInt 20).toInt32).toInt = 20) rfl (fun h51 => ?_) (fun h51 => ?_)
        · refine En_Ps 2 (pc' := 103) (lv' := [(0, .ref 159), (1, .int a), (2, .int b), (3, .int c), (4, .int d), (5, .int e), (6, .int y36)]) (st' := [.ref 159, .ref 159]) rfl ?_
          refine En_getK (j := 5) h40 rfl rfl rfl tgz_159 (by decide +kernel) ?_
          refine En_Ps 2 (pc' := 109) (lv' := [(0, .ref 159), (1, .int a), (2, .int b), (3, .int c), (4, .int d), (5, .int e), (6, .int y36)]) (st' := [.int ((m + (((Int8.ofInt 20).toInt32)))), .ref 159]) rfl ?_
          refine En_top (addI rfl (by decide : ((Int8.ofInt 20).toInt32).toInt = 20) (by omega) (by omega)) (fun z52 h53 => ?_)
          refine En_put (j := 5) rfl rfl rfl tgz_159 (by decide +kernel) rfl (vI (l := 0) (u := 1600) (by decide +kernel) rfl (by omega) (by omega)) h38 h39 (by decide +kernel) (fun σ54 h55 h56 h57 h58 => ?_)
          have h59 := FDP_ne h50 h58 (by decide)
          refine En_Ps 1 (pc' := 113) (lv' := [(0, .ref 159), (1, .int a), (2, .int b), (3, .int c), (4, .int d), (5, .int e), (6, .int y36)]) (st' := [.ref 159]) rfl ?_
          refine En_getK (j := 5) h57 rfl rfl rfl tgz_159 (by decide +kernel) ?_
          exact En_ret (v := some (.int z52)) rfl rfl rfl ⟨h55, h56, z52, h57, z52, rfl, ⟨by omega, by omega, by omega, by omega, by omega, by omega, fun _ => by omega, fun _ => by omega, ⟨fun _ => FDP_c h59 (by omega), fun h => absurd h (by omega)⟩⟩⟩
        · refine En_Ps 1 (pc' := 63) (lv' := [(0, .ref 159), (1, .int a), (2, .int b), (3, .int c), (4, .int d), (5, .int e), (6, .int y36)]) (st' := [.ref 159]) rfl ?_
          refine En_getU (j := 4) (u := 163) (g' := 39) (q := 0) rfl rfl rfl tgz_159 (by decide +kernel) h38 (by decide +kernel) (by decide +kernel) (fun h60 => ?_)
          refine En_Ps 1 (pc' := 67) (lv' := [(0, .ref 159), (1, .int a), (2, .int b), (3, .int c), (4, .int d), (5, .int e), (6, .int y36)]) (st' := [.ref 159, .ref 163]) rfl ?_
          refine En_getK (j := 5) h40 rfl rfl rfl tgz_159 (by decide +kernel) ?_
          refine En_Ps 2 (pc' := 73) (lv' := [(0, .ref 159), (1, .int a), (2, .int b), (3, .int c), (4, .int d), (5, .int e), (6, .int y36)]) (st' := [.int ((m + y36)), .ref 163]) rfl ?_
          refine En_top (addI rfl rfl (by omega) (by omega)) (fun z62 h63 => ?_)
          refine En_Ps 1 (pc' := 74) (lv' := [(0, .ref 159), (1, .int a), (2, .int b), (3, .int c), (4, .int d), (5, .int e), (6, .int y36)]) (st' := [.ref 159, .int z62, .ref 163]) rfl ?_
          refine En_getK (j := 6) h41 rfl rfl rfl tgz_159 (by decide +kernel) ?_
          refine En_Ps 2 (pc' := 80) (lv' := [(0, .ref 159), (1, .int a), (2, .int b), (3, .int c), (4, .int d), (5, .int e), (6, .int y36)]) (st' := [.int ((Int32.ofInt 4)), .int y36, .ref 164, .int z62, .ref 163]) rfl ?_
          refine En_idiv (c := 4) rfl rfl (by decide : (Int32.ofInt 4).toInt = 4) (by omega) (by decide) (fun z64 h65 => ?_)
          refine En_iald (l := (-2147483648)) (u := 2147483647) rfl rfl tgz_164 (by decide +kernel) h38 (by omega) (lnI (by decide +kernel : LN _ = 5) (by omega)) (FTsgl (by decide +kernel)) (fun z67 h66 h68 h69 => ?_)
          have h70 := FV_sel h42 h43 h44 h45 h46 h66 (by omega) (by omega)
          refine En_Ps 4 (pc' := 89) (lv' := [(0, .ref 159), (1, .int a), (2, .int b), (3, .int c), (4, .int d), (5, .int e), (6, .int y36)]) (st' := [.int ((Int32.ofInt 4)), .int y36, .int (((Int8.ofInt 8).toInt32)), .int (((Int8.ofInt 24).toInt32)), .int z67, .int z62, .ref 163]) rfl ?_
          refine En_irem (c := 4) rfl rfl (by decide : (Int32.ofInt 4).toInt = 4) (by omega) (by decide) (fun z71 h72 => ?_)
          refine En_Ps 1 (pc' := 91) (lv' := [(0, .ref 159), (1, .int a), (2, .int b), (3, .int c), (4, .int d), (5, .int e), (6, .int y36)]) (st' := [.int (((((Int8.ofInt 8).toInt32)) * z71)), .int (((Int8.ofInt 24).toInt32)), .int z67, .int z62, .ref 163]) rfl ?_
          refine En_top (mulI (by decide : ((Int8.ofInt 8).toInt32).toInt = 8) rfl (Z := 8 * z71.toInt) (by omega) (by omega) (by omega)) (fun z73 h74 => ?_)
          refine En_Ps 1 (pc' := 92) (lv' := [(0, .ref 159), (1, .int a), (2, .int b), (3, .int c), (4, .int d), (5, .int e), (6, .int y36)]) (st' := [.int (((((Int8.ofInt 24).toInt32)) - z73)), .int z67, .int z62, .ref 163]) rfl ?_
          refine En_top (subI (by decide : ((Int8.ofInt 24).toInt32).toInt = 24) rfl (by omega) (by omega)) (fun z75 h76 => ?_)
          refine En_Ps 2 (pc' := 94) (lv' := [(0, .ref 159), (1, .int a), (2, .int b), (3, .int c), (4, .int d), (5, .int e), (6, .int y36)]) (st' := [.int (((z67 >>> (z75 &&& 31)).toInt8.toInt32)), .int z62, .ref 163]) rfl ?_
          refine En_nam (fun z77 h78 => ?_)
          have h79 := b4_s (j := y36.toInt % 4) h78 (by omega)
          have h80 := b4_rng z67 (y36.toInt % 4)
          refine En_bast (l := (-128)) (u := 127) rfl rfl tgz_163 (by decide +kernel) (narB rfl (by omega) (by omega)) (by omega) (lnI (by decide +kernel : LN _ = 1600) (by omega)) (FTsgl (by decide +kernel)) (rngI rfl (by omega) (by omega)) h38 h39 (by decide +kernel) (fun σ81 h82 h83 h84 h85 => ?_)
          have h86 := FDP_s (J := z62.toInt) (y := y36.toInt) (y' := y36.toInt + 1) h50 h84 h85 (by omega) (by omega) (by omega) h70 h79 (by omega) (by omega) rfl
          refine En_Ps 1 (pc' := 98) (lv' := [(6, .int ((y36 + Int32.ofInt 1))), (0, .ref 159), (1, .int a), (2, .int b), (3, .int c), (4, .int d), (5, .int e)]) (st' := []) rfl ?_
          refine En_lv1 (addI rfl (by decide : (Int32.ofInt 1).toInt = 1) (by omega) (by omega)) (fun z87 h88 => ?_)
          refine En_Ps 1 (pc' := 55) (lv' := [(6, .int z87), (0, .ref 159), (1, .int a), (2, .int b), (3, .int c), (4, .int d), (5, .int e)]) (st' := []) rfl ?_
          refine En_lv (lv := [(0, .ref 159), (1, .int a), (2, .int b), (3, .int c), (4, .int d), (5, .int e), (6, .int z87)]) ⟨rfl, rfl, rfl, rfl, rfl, rfl, rfl, trivial⟩ ?_
          exact ih55 σ81 z87 h82 h83 ((h85 _ _ (Or.inl (neTG tgz_159 tgz_163 (by decide)))).trans h40) ((h85 _ _ (Or.inl (neTG tgz_159 tgz_163 (by decide)))).trans h41) ((h85 _ _ (Or.inl (neTG tgz_164 tgz_163 (by decide)))).trans h42) ((h85 _ _ (Or.inl (neTG tgz_164 tgz_163 (by decide)))).trans h43) ((h85 _ _ (Or.inl (neTG tgz_164 tgz_163 (by decide)))).trans h44) ((h85 _ _ (Or.inl (neTG tgz_164 tgz_163 (by decide)))).trans h45) ((h85 _ _ (Or.inl (neTG tgz_164 tgz_163 (by decide)))).trans h46) (by omega) (by omega) (by omega) (FDP_c h86 (by omega))
    have := (by decide : (Int32.ofInt 0).toInt = 0)
    refine En_lv (lv := [(0, .ref 159), (1, .int a), (2, .int b), (3, .int c), (4, .int d), (5, .int e), (6, .int ((Int32.ofInt 0)))]) ⟨rfl, rfl, rfl, rfl, rfl, rfl, rfl, trivial⟩ ?_
    exact key55 (Int.toNat (20) + 1) σ30 ((Int32.ofInt 0)) h31 h32 ((h34 _ _ (Or.inl (neTG tgz_159 tgz_164 (by decide)))).trans ((h28 _ _ (Or.inl (neTG tgz_159 tgz_164 (by decide)))).trans ((h22 _ _ (Or.inl (neTG tgz_159 tgz_164 (by decide)))).trans ((h16 _ _ (Or.inl (neTG tgz_159 tgz_164 (by decide)))).trans ((h10 _ _ (Or.inl (neTG tgz_159 tgz_164 (by decide)))).trans h_m))))) ((h34 _ _ (Or.inl (neTG tgz_159 tgz_164 (by decide)))).trans ((h28 _ _ (Or.inl (neTG tgz_159 tgz_164 (by decide)))).trans ((h22 _ _ (Or.inl (neTG tgz_159 tgz_164 (by decide)))).trans ((h16 _ _ (Or.inl (neTG tgz_159 tgz_164 (by decide)))).trans ((h10 _ _ (Or.inl (neTG tgz_159 tgz_164 (by decide)))).trans h4))))) ((h34 _ _ (Or.inr (by omega))).trans ((h28 _ _ (Or.inr (by omega))).trans ((h22 _ _ (Or.inr (by omega))).trans ((h16 _ _ (Or.inr (by omega))).trans h9)))) ((h34 _ _ (Or.inr (by omega))).trans ((h28 _ _ (Or.inr (by omega))).trans ((h22 _ _ (Or.inr (by omega))).trans h15))) ((h34 _ _ (Or.inr (by omega))).trans ((h28 _ _ (Or.inr (by omega))).trans h21)) ((h34 _ _ (Or.inr (by omega))).trans h27) h33 (by omega) (by omega) (by omega) (FDP_0 (by decide) h35)
  · refine En_Ps 1 (pc' := 14) (lv' := [(0, .ref 159), (1, .int a), (2, .int b), (3, .int c), (4, .int d), (5, .int e)]) (st' := [.int ((Int32.ofInt (-1)))]) rfl ?_
    refine En_top (by decide : (Int32.ofInt (-1)).toInt = -1) (fun z89 h90 => ?_)
    exact En_ret (v := some (.int z89)) rfl rfl rfl ⟨hσ0, hF0, m, h_m, z89, rfl, ⟨by omega, by omega, by omega, by omega, by omega, by omega, fun _ => by omega, fun _ => by omega, ⟨fun h => absurd h (by omega), fun _ _ => rfl⟩⟩⟩
/-- DoorSchoolModel.number(II)I -/
abbrev P_288x (σ0 : SG) (By : Int → Int) (Nb : Int) (Sp : PS) (a : Int32) (b : Int32) (f : Int32) (k : Int32) (t : Int32) (u : Int32) : PO := fun v σ => WT σ ∧ Fr [(35, 8), (35, 9), (35, 10), (35, 11), (35, 12), (35, 13)] σ0 σ ∧ ∃ f1 : Int32, (σ 159)[8]? = some (.int f1) ∧ ∃ k1 : Int32, (σ 159)[12]? = some (.int k1) ∧ ∃ ret : Int32, v = some (.int ret) ∧ -ret.toInt ≤ 0 ∧ ret.toInt - 50 ≤ 0 ∧ -f1.toInt ≤ 0 ∧ f1.toInt - 1600 ≤ 0 ∧ -f1.toInt + f.toInt ≤ 0 ∧ -k1.toInt ≤ 0 ∧ k1.toInt - 3 ≤ 0 ∧ -k1.toInt + k.toInt ≤ 0 ∧ -k1.toInt + t.toInt - 3 ≤ 0 ∧ -k1.toInt + u.toInt - 99998 ≤ 0 ∧ f.toInt - f1.toInt ≤ 0 ∧ Imp (a.toInt ≤ 0) (a.toInt - ret.toInt ≤ 0) ∧ Imp (-a.toInt ≤ 0) (-ret.toInt ≤ 0) ∧ Imp (-b.toInt ≤ 0) (ret.toInt - b.toInt ≤ 0) ∧ Imp (b.toInt ≤ 0) (ret.toInt ≤ 0) ∧ Imp (k1.toInt ≤ 0) (k.toInt ≤ 0 ∧ t.toInt - 2 ≤ 0 ∧ -t.toInt + 2 ≤ 0 ∧ ret.toInt - u.toInt ≤ 0 ∧ -ret.toInt + u.toInt ≤ 0 ∧ a.toInt - u.toInt ≤ 0 ∧ u.toInt - b.toInt ≤ 0) ∧ (ML By Nb σ (tN By Nb a.toInt b.toInt Sp) ∧ ((tN By Nb a.toInt b.toInt Sp).1 = 0 → ret.toInt = tV By Nb Sp.2.2.1))
set_option maxRecDepth 10000 in
set_option maxHeartbeats 4000000 in
theorem c_288x {By : Int → Int} {Nb : Int} {Sp : PS} (σ0 : SG) (hσ0 : WT σ0) (a : Int32) (b : Int32) (hl_a : 0 ≤ a.toInt) (hu_a : a.toInt ≤ 100000) (hl_b : (-1) ≤ b.toInt) (hu_b : b.toInt ≤ 50) (f : Int32) (h_f : (σ0 159)[8]? = some (.int f)) (k : Int32) (h_k : (σ0 159)[12]? = some (.int k)) (t : Int32) (h_t : (σ0 159)[10]? = some (.int t)) (u : Int32) (h_u : (σ0 159)[11]? = some (.int u)) (hM : ML By Nb σ0 Sp) : En 2 46 none mr_288 (P_288x σ0 By Nb Sp a b f k t u) 0 [(0, .ref 159), (1, .int a), (2, .int b)] [] σ0 := by
  obtain ⟨hl_f, hu_f⟩ := WT_int hσ0 (g := 35) (by decide +kernel) (by decide +kernel) (l := 0) (u := 1600) (by decide +kernel) h_f
  obtain ⟨hl_k, hu_k⟩ := WT_int hσ0 (g := 35) (by decide +kernel) (by decide +kernel) (l := 0) (u := 3) (by decide +kernel) h_k
  obtain ⟨hl_t, hu_t⟩ := WT_int hσ0 (g := 35) (by decide +kernel) (by decide +kernel) (l := 0) (u := 4) (by decide +kernel) h_t
  obtain ⟨hl_u, hu_u⟩ := WT_int hσ0 (g := 35) (by decide +kernel) (by decide +kernel) (l := 0) (u := 99999) (by decide +kernel) h_u
  have hF0 : Fr [(35, 8), (35, 9), (35, 10), (35, 11), (35, 12), (35, 13)] σ0 σ0 := Fr_rfl
  have h1 := ML_k hM h_k
  have h2 : Imp (Sp.1 = 0) (tK By Nb Sp.2.2.1 = t.toInt) := ML_t hM h_t
  have h3 : Imp (Sp.1 = 0 ∧ tK By Nb Sp.2.2.1 = 2) (u.toInt = min 99999 (tV By Nb Sp.2.2.1) ∧ 0 ≤ tV By Nb Sp.2.2.1) := fun q => ML_u hM h_u q.1 q.2
  refine En_Ps 1 (pc' := 1) (lv' := [(0, .ref 159), (1, .int a), (2, .int b)]) (st' := [.ref 159]) rfl ?_
  refine En_callV rfl rfl rfl rfl rfl rfl rfl rfl tgz_159 (by decide +kernel) rfl (c_237 σ0 hσ0 k h_k) (by decide) (by decide) (fun v5 σ6 h4 => ?_)
  obtain ⟨h7, h8, z10, rfl, h9⟩ := h4
  obtain rfl : σ0 = σ6 := Fr_nil h8
  refine En_iEq _ rfl rfl (fun h11 => ?_) (fun h11 => ?_)
  · refine En_Ps 1 (pc' := 21) (lv' := [(0, .ref 159), (1, .int a), (2, .int b)]) (st' := [.ref 159]) rfl ?_
    refine En_callV rfl rfl rfl rfl rfl rfl rfl rfl tgz_159 (by decide +kernel) rfl (c_237 σ0 hσ0 k h_k) (by decide) (by decide) (fun v13 σ14 h12 => ?_)
    obtain ⟨h15, h16, z18, rfl, h17⟩ := h12
    obtain rfl : σ0 = σ14 := Fr_nil h16
    refine En_iEq _ rfl rfl (fun h19 => ?_) (fun hx => by exfalso; omega)
    refine En_Ps 1 (pc' := 48) (lv' := [(0, .ref 159), (1, .int a), (2, .int b)]) (st' := [.ref 159]) rfl ?_
    refine En_callV rfl rfl rfl rfl rfl rfl rfl rfl tgz_159 (by decide +kernel) rfl (c_237 σ0 hσ0 k h_k) (by decide) (by decide) (fun v21 σ22 h20 => ?_)
    obtain ⟨h23, h24, z26, rfl, h25⟩ := h20
    obtain rfl : σ0 = σ22 := Fr_nil h24
    refine En_iNe _ rfl rfl (fun hx => by exfalso; omega) (fun h27 => ?_)
    refine En_Ps 1 (pc' := 55) (lv' := [(0, .ref 159), (1, .int a), (2, .int b)]) (st' := [.int ((Int32.ofInt 0))]) rfl ?_
    refine En_top (by decide : (Int32.ofInt 0).toInt = 0) (fun z28 h29 => ?_)
    exact En_ret (v := some (.int z28)) rfl rfl rfl ⟨hσ0, hF0, f, h_f, k, h_k, z28, rfl, ⟨by omega, by omega, by omega, by omega, by omega, by omega, by omega, by omega, by omega, by omega, by omega, fun _ => by omega, fun _ => by omega, fun _ => by omega, fun _ => by omega, fun _ => by omega, (by (try have i0 := Imp_m h2 (by omega)); (try have i1 := Imp_m h3 (by omega)); first | (have q := tN_bad (B := By) (n := Nb) (lo := a.toInt) (hi := b.toInt) (S := Sp) (by omega); rw [q]; exact ⟨ML_eq hM (by rfl), fun zz => by have := err_ne (B := By) (n := Nb) (S := Sp) (k := 1) (by omega); have := err_ne (B := By) (n := Nb) (S := Sp) (k := 2) (by omega); exfalso; omega⟩) | (have q := tN_k (B := By) (n := Nb) (lo := a.toInt) (hi := b.toInt) (S := Sp) (by omega) (by omega); rw [q]; exact ⟨ML_eq hM (by rfl), fun zz => by have := err_ne (B := By) (n := Nb) (S := Sp) (k := 1) (by omega); have := err_ne (B := By) (n := Nb) (S := Sp) (k := 2) (by omega); exfalso; omega⟩) | (have q := tN_v (B := By) (n := Nb) (lo := a.toInt) (hi := b.toInt) (S := Sp) (by omega) (by omega) (by omega); rw [q]; exact ⟨ML_eq hM (by rfl), fun zz => by have := err_ne (B := By) (n := Nb) (S := Sp) (k := 1) (by omega); have := err_ne (B := By) (n := Nb) (S := Sp) (k := 2) (by omega); exfalso; omega⟩) | (have q := tN_ok (B := By) (n := Nb) (lo := a.toInt) (hi := b.toInt) (S := Sp) (by omega) (by omega) (by omega); rw [q]; exact ⟨ML_eq hM (by rfl), fun zz => by have := err_ne (B := By) (n := Nb) (S := Sp) (k := 1) (by omega); have := err_ne (B := By) (n := Nb) (S := Sp) (k := 2) (by omega); exfalso; omega⟩))⟩⟩
  · try have h30 := Imp_m h2 (by omega)
    try have h31 := Imp_m h3 (by omega)
    refine En_Ps 1 (pc' := 8) (lv' := [(0, .ref 159), (1, .int a), (2, .int b)]) (st' := [.ref 159]) rfl ?_
    refine En_getK (j := 10) h_t rfl rfl rfl tgz_159 (by decide +kernel) ?_
    refine En_Ps 1 (pc' := 12) (lv' := [(0, .ref 159), (1, .int a), (2, .int b)]) (st' := [.int ((Int32.ofInt 2)), .int t]) rfl ?_
    refine En_icEq _ rfl (by decide : (Int32.ofInt 2).toInt = 2) rfl (fun h32 => ?_) (fun h32 => ?_)
    · refine En_Ps 1 (pc' := 21) (lv' := [(0, .ref 159), (1, .int a), (2, .int b)]) (st' := [.ref 159]) rfl ?_
      refine En_callV rfl rfl rfl rfl rfl rfl rfl rfl tgz_159 (by decide +kernel) rfl (c_237 σ0 hσ0 k h_k) (by decide) (by decide) (fun v34 σ35 h33 => ?_)
      obtain ⟨h36, h37, z39, rfl, h38⟩ := h33
      obtain rfl : σ0 = σ35 := Fr_nil h37
      refine En_iEq _ rfl rfl (fun hx => by exfalso; omega) (fun h40 => ?_)
      try have h41 := Imp_m h2 (by omega)
      try have h42 := Imp_m h3 (by omega)
      refine En_Ps 1 (pc' := 28) (lv' := [(0, .ref 159), (1, .int a), (2, .int b)]) (st' := [.ref 159]) rfl ?_
      refine En_getK (j := 11) h_u rfl rfl rfl tgz_159 (by decide +kernel) ?_
      refine En_Ps 5 (pc' := 36) (lv' := [(0, .ref 159), (1, .int a), (2, .int b)]) (st' := [.long b.toInt64, .long a.toInt64, .long u.toInt64]) rfl ?_
      have : u.toInt64.toInt = u.toInt := (i2lI rfl)
      have : a.toInt64.toInt = a.toInt := (i2lI rfl)
      have : b.toInt64.toInt = b.toInt := (i2lI rfl)
      refine En_callS rfl rfl rfl rfl rfl rfl rfl rfl rfl (c_249 σ0 hσ0 u.toInt64 a.toInt64 b.toInt64) (by decide) (by decide) (fun v44 σ45 h43 => ?_)
      obtain ⟨h46, h47, z49, rfl, h48⟩ := h43
      obtain rfl : σ0 = σ45 := Fr_nil h47
      refine En_iNe _ rfl rfl (fun h50 => ?_) (fun h50 => ?_)
      · refine En_Ps 1 (pc' := 48) (lv' := [(0, .ref 159), (1, .int a), (2, .int b)]) (st' := [.ref 159]) rfl ?_
        refine En_callV rfl rfl rfl rfl rfl rfl rfl rfl tgz_159 (by decide +kernel) rfl (c_237 σ0 hσ0 k h_k) (by decide) (by decide) (fun v52 σ53 h51 => ?_)
        obtain ⟨h54, h55, z57, rfl, h56⟩ := h51
        obtain rfl : σ0 = σ53 := Fr_nil h55
        refine En_iNe _ rfl rfl (fun h58 => ?_) (fun hx => by exfalso; omega)
        try have h59 := Imp_m h2 (by omega)
        try have h60 := Imp_m h3 (by omega)
        refine En_Ps 1 (pc' := 57) (lv' := [(0, .ref 159), (1, .int a), (2, .int b)]) (st' := [.ref 159]) rfl ?_
        refine En_getK (j := 11) h_u rfl rfl rfl tgz_159 (by decide +kernel) ?_
        refine En_Ps 2 (pc' := 62) (lv' := [(3, .int u), (0, .ref 159), (1, .int a), (2, .int b)]) (st' := [.ref 159]) rfl ?_
        refine En_callV rfl rfl rfl rfl rfl rfl rfl rfl tgz_159 (by decide +kernel) rfl (c_189x σ0 hσ0 f h_f hM.1 (ML_at hM (by omega) h_f)) (by decide) (by decide) (fun v62 σ63 h61 => ?_)
        obtain ⟨h64, h65, z67, h68, z69, h70, rfl, h66⟩ := h61
        have h71 := h66.2.2.2.2.2.2.2
        have h72 := Fr_trans hF0 h65 (by decide +kernel)
        obtain ⟨S73, h74⟩ : ∃ q : PS, q = adv By Nb Sp := ⟨_, rfl⟩
        have h75 : ML By Nb σ63 S73 := by rw [h74]; exact (ML_adv hM (by omega) h_f h65 (by decide +kernel) h71.2)
        have h76 := ML_k h75 ((h65 _ _ (inW tgz_159 (by decide +kernel))).trans h_k)
        have h77 : Imp (S73.1 = 0) (tK By Nb S73.2.2.1 = z69.toInt) := ML_t h75 h70
        have h78 : S73.2.2.2 = Sp.2.2.2 := by rw [h74]; exact adv_w
        refine En_Ps 1 (pc' := 66) (lv' := [(3, .int u), (0, .ref 159), (1, .int a), (2, .int b)]) (st' := [.int u]) rfl ?_
        exact En_ret (v := some (.int u)) rfl rfl rfl ⟨h64, h72, z67, h68, k, ((h65 _ _ (inW tgz_159 (by decide +kernel))).trans h_k), u, rfl, ⟨by omega, by omega, by omega, by omega, by omega, by omega, by omega, by omega, by omega, by omega, by omega, fun _ => by omega, fun _ => by omega, fun _ => by omega, fun _ => by omega, fun _ => by omega, (by (try have i0 := Imp_m h77 (by omega)); (try have i1 := Imp_m h2 (by omega)); (try have i2 := Imp_m h3 (by omega)); (try have i3 := Imp_m h66.2.2.2.2.2.2.1 (by omega)); first | (have q := tN_bad (B := By) (n := Nb) (lo := a.toInt) (hi := b.toInt) (S := Sp) (by omega); rw [q]; exact ⟨ML_eq h75 (by subst h74; rfl), fun zz => by omega⟩) | (have q := tN_k (B := By) (n := Nb) (lo := a.toInt) (hi := b.toInt) (S := Sp) (by omega) (by omega); rw [q]; exact ⟨ML_eq h75 (by subst h74; rfl), fun zz => by omega⟩) | (have q := tN_v (B := By) (n := Nb) (lo := a.toInt) (hi := b.toInt) (S := Sp) (by omega) (by omega) (by omega); rw [q]; exact ⟨ML_eq h75 (by subst h74; rfl), fun zz => by omega⟩) | (have q := tN_ok (B := By) (n := Nb) (lo := a.toInt) (hi := b.toInt) (S := Sp) (by omega) (by omega) (by omega); rw [q]; exact ⟨ML_eq h75 (by subst h74; rfl), fun zz => by omega⟩))⟩⟩
      · refine En_Ps 2 (pc' := 44) (lv' := [(0, .ref 159), (1, .int a), (2, .int b)]) (st' := [.int ((Int32.ofInt 2)), .ref 159]) rfl ?_
        have := (by decide : ((Int32.ofInt 2)).toInt = 2)
        refine En_callV rfl rfl rfl rfl rfl rfl rfl rfl tgz_159 (by decide +kernel) rfl (c_223x σ0 hσ0 ((Int32.ofInt 2)) (geI (by decide : (Int32.ofInt 2).toInt = 2) (by omega)) (leI (by decide : (Int32.ofInt 2).toInt = 2) (by omega)) k h_k hM) (by decide) (by decide) (fun v80 σ81 h79 => ?_)
        obtain ⟨h82, h83, z85, h86, rfl, h84⟩ := h79
        have h87 := h84.2.2.2.2
        have h88 := Fr_trans hF0 h83 (by decide +kernel)
        obtain ⟨S89, h90⟩ : ∃ q : PS, q = err By Nb 2 Sp := ⟨_, rfl⟩
        have h91 : ML By Nb σ81 S89 := by rw [h90]; exact (ML_eq h87 (err_cg (by omega)))
        have h92 := ML_k h91 h86
        have h93 : Imp (S89.1 = 0) (tK By Nb S89.2.2.1 = t.toInt) := ML_t h91 ((h83 _ _ (inW tgz_159 (by decide +kernel))).trans h_t)
        have h94 : Imp (S89.1 = 0 ∧ tK By Nb S89.2.2.1 = 2) (u.toInt = min 99999 (tV By Nb S89.2.2.1) ∧ 0 ≤ tV By Nb S89.2.2.1) := fun q => ML_u h91 ((h83 _ _ (inW tgz_159 (by decide +kernel))).trans h_u) q.1 q.2
        have h95 : S89.2.2.2 = Sp.2.2.2 := by rw [h90]; exact err_w
        refine En_Ps 1 (pc' := 48) (lv' := [(0, .ref 159), (1, .int a), (2, .int b)]) (st' := [.ref 159]) rfl ?_
        refine En_callV rfl rfl rfl rfl rfl rfl rfl rfl tgz_159 (by decide +kernel) rfl (c_237 σ81 h82 z85 h86) (by decide) (by decide) (fun v97 σ98 h96 => ?_)
        obtain ⟨h99, h100, z102, rfl, h101⟩ := h96
        obtain rfl : σ81 = σ98 := Fr_nil h100
        refine En_iNe _ rfl rfl (fun hx => by exfalso; omega) (fun h103 => ?_)
        refine En_Ps 1 (pc' := 55) (lv' := [(0, .ref 159), (1, .int a), (2, .int b)]) (st' := [.int ((Int32.ofInt 0))]) rfl ?_
        refine En_top (by decide : (Int32.ofInt 0).toInt = 0) (fun z104 h105 => ?_)
        exact En_ret (v := some (.int z104)) rfl rfl rfl ⟨h82, h88, f, ((h83 _ _ (inW tgz_159 (by decide +kernel))).trans h_f), z85, h86, z104, rfl, ⟨by omega, by omega, by omega, by omega, by omega, by omega, by omega, by omega, by omega, by omega, by omega, fun _ => by omega, fun _ => by omega, fun _ => by omega, fun _ => by omega, fun _ => by omega, (by (try have i0 := Imp_m h93 (by omega)); (try have i1 := Imp_m h2 (by omega)); (try have i2 := Imp_m h3 (by omega)); (try have i3 := Imp_m h94 (by omega)); first | (have q := tN_bad (B := By) (n := Nb) (lo := a.toInt) (hi := b.toInt) (S := Sp) (by omega); rw [q]; exact ⟨ML_eq h91 (by subst h90; rfl), fun zz => by have := err_ne (B := By) (n := Nb) (S := Sp) (k := 1) (by omega); have := err_ne (B := By) (n := Nb) (S := Sp) (k := 2) (by omega); exfalso; omega⟩) | (have q := tN_k (B := By) (n := Nb) (lo := a.toInt) (hi := b.toInt) (S := Sp) (by omega) (by omega); rw [q]; exact ⟨ML_eq h91 (by subst h90; rfl), fun zz => by have := err_ne (B := By) (n := Nb) (S := Sp) (k := 1) (by omega); have := err_ne (B := By) (n := Nb) (S := Sp) (k := 2) (by omega); exfalso; omega⟩) | (have q := tN_v (B := By) (n := Nb) (lo := a.toInt) (hi := b.toInt) (S := Sp) (by omega) (by omega) (by omega); rw [q]; exact ⟨ML_eq h91 (by subst h90; rfl), fun zz => by have := err_ne (B := By) (n := Nb) (S := Sp) (k := 1) (by omega); have := err_ne (B := By) (n := Nb) (S := Sp) (k := 2) (by omega); exfalso; omega⟩) | (have q := tN_ok (B := By) (n := Nb) (lo := a.toInt) (hi := b.toInt) (S := Sp) (by omega) (by omega) (by omega); rw [q]; exact ⟨ML_eq h91 (by subst h90; rfl), fun zz => by have := err_ne (B := By) (n := Nb) (S := Sp) (k := 1) (by omega); have := err_ne (B := By) (n := Nb) (S := Sp) (k := 2) (by omega); exfalso; omega⟩))⟩⟩
    · refine En_Ps 2 (pc' := 17) (lv' := [(0, .ref 159), (1, .int a), (2, .int b)]) (st' := [.int ((Int32.ofInt 1)), .ref 159]) rfl ?_
      have := (by decide : ((Int32.ofInt 1)).toInt = 1)
      refine En_callV rfl rfl rfl rfl rfl rfl rfl rfl tgz_159 (by decide +kernel) rfl (c_223x σ0 hσ0 ((Int32.ofInt 1)) (geI (by decide : (Int32.ofInt 1).toInt = 1) (by omega)) (leI (by decide : (Int32.ofInt 1).toInt = 1) (by omega)) k h_k hM) (by decide) (by decide) (fun v107 σ108 h106 => ?_)
      obtain ⟨h109, h110, z112, h113, rfl, h111⟩ := h106
      have h114 := h111.2.2.2.2
      have h115 := Fr_trans hF0 h110 (by decide +kernel)
      obtain ⟨S116, h117⟩ : ∃ q : PS, q = err By Nb 1 Sp := ⟨_, rfl⟩
      have h118 : ML By Nb σ108 S116 := by rw [h117]; exact (ML_eq h114 (err_cg (by omega)))
      have h119 := ML_k h118 h113
      have h120 : Imp (S116.1 = 0) (tK By Nb S116.2.2.1 = t.toInt) := ML_t h118 ((h110 _ _ (inW tgz_159 (by decide +kernel))).trans h_t)
      have h121 : Imp (S116.1 = 0 ∧ tK By Nb S116.2.2.1 = 2) (u.toInt = min 99999 (tV By Nb S116.2.2.1) ∧ 0 ≤ tV By Nb S116.2.2.1) := fun q => ML_u h118 ((h110 _ _ (inW tgz_159 (by decide +kernel))).trans h_u) q.1 q.2
      have h122 : S116.2.2.2 = Sp.2.2.2 := by rw [h117]; exact err_w
      refine En_Ps 1 (pc' := 21) (lv' := [(0, .ref 159), (1, .int a), (2, .int b)]) (st' := [.ref 159]) rfl ?_
      refine En_callV rfl rfl rfl rfl rfl rfl rfl rfl tgz_159 (by decide +kernel) rfl (c_237 σ108 h109 z112 h113) (by decide) (by decide) (fun v124 σ125 h123 => ?_)
      obtain ⟨h126, h127, z129, rfl, h128⟩ := h123
      obtain rfl : σ108 = σ125 := Fr_nil h127
      refine En_iEq _ rfl rfl (fun h130 => ?_) (fun hx => by exfalso; omega)
      refine En_Ps 1 (pc' := 48) (lv' := [(0, .ref 159), (1, .int a), (2, .int b)]) (st' := [.ref 159]) rfl ?_
      refine En_callV rfl rfl rfl rfl rfl rfl rfl rfl tgz_159 (by decide +kernel) rfl (c_237 σ108 h109 z112 h113) (by decide) (by decide) (fun v132 σ133 h131 => ?_)
      obtain ⟨h134, h135, z137, rfl, h136⟩ := h131
      obtain rfl : σ108 = σ133 := Fr_nil h135
      refine En_iNe _ rfl rfl (fun hx => by exfalso; omega) (fun h138 => ?_)
      refine En_Ps 1 (pc' := 55) (lv' := [(0, .ref 159), (1, .int a), (2, .int b)]) (st' := [.int ((Int32.ofInt 0))]) rfl ?_
      refine En_top (by decide : (Int32.ofInt 0).toInt = 0) (fun z139 h140 => ?_)
      exact En_ret (v := some (.int z139)) rfl rfl rfl ⟨h109, h115, f, ((h110 _ _ (inW tgz_159 (by decide +kernel))).trans h_f), z112, h113, z139, rfl, ⟨by omega, by omega, by omega, by omega, by omega, by omega, by omega, by omega, by omega, by omega, by omega, fun _ => by omega, fun _ => by omega, fun _ => by omega, fun _ => by omega, fun _ => by omega, (by (try have i0 := Imp_m h120 (by omega)); (try have i1 := Imp_m h2 (by omega)); (try have i2 := Imp_m h3 (by omega)); (try have i3 := Imp_m h121 (by omega)); first | (have q := tN_bad (B := By) (n := Nb) (lo := a.toInt) (hi := b.toInt) (S := Sp) (by omega); rw [q]; exact ⟨ML_eq h118 (by subst h117; rfl), fun zz => by have := err_ne (B := By) (n := Nb) (S := Sp) (k := 1) (by omega); have := err_ne (B := By) (n := Nb) (S := Sp) (k := 2) (by omega); exfalso; omega⟩) | (have q := tN_k (B := By) (n := Nb) (lo := a.toInt) (hi := b.toInt) (S := Sp) (by omega) (by omega); rw [q]; exact ⟨ML_eq h118 (by subst h117; rfl), fun zz => by have := err_ne (B := By) (n := Nb) (S := Sp) (k := 1) (by omega); have := err_ne (B := By) (n := Nb) (S := Sp) (k := 2) (by omega); exfalso; omega⟩) | (have q := tN_v (B := By) (n := Nb) (lo := a.toInt) (hi := b.toInt) (S := Sp) (by omega) (by omega) (by omega); rw [q]; exact ⟨ML_eq h118 (by subst h117; rfl), fun zz => by have := err_ne (B := By) (n := Nb) (S := Sp) (k := 1) (by omega); have := err_ne (B := By) (n := Nb) (S := Sp) (k := 2) (by omega); exfalso; omega⟩) | (have q := tN_ok (B := By) (n := Nb) (lo := a.toInt) (hi := b.toInt) (S := Sp) (by omega) (by omega) (by omega); rw [q]; exact ⟨ML_eq h118 (by subst h117; rfl), fun zz => by have := err_ne (B := By) (n := Nb) (S := Sp) (k := 1) (by omega); have := err_ne (B := By) (n := Nb) (S := Sp) (k := 2) (by omega); exfalso; omega⟩))⟩⟩
/-- DoorSchoolModel.freshKnock()I -/
abbrev P_234x (σ0 : SG) (By : Int → Int) (Nb : Int) (Sp : PS) (f : Int32) (k : Int32) : PO := fun v σ => WT σ ∧ Fr [(35, 8), (35, 9), (35, 10), (35, 11), (35, 12), (35, 13)] σ0 σ ∧ ∃ f1 : Int32, (σ 159)[8]? = some (.int f1) ∧ ∃ k1 : Int32, (σ 159)[12]? = some (.int k1) ∧ ∃ ret : Int32, v = some (.int ret) ∧ -ret.toInt ≤ 0 ∧ ret.toInt - 15 ≤ 0 ∧ -f1.toInt ≤ 0 ∧ f1.toInt - 1600 ≤ 0 ∧ -f1.toInt + f.toInt ≤ 0 ∧ -k1.toInt ≤ 0 ∧ k1.toInt - 3 ≤ 0 ∧ -k1.toInt + k.toInt ≤ 0 ∧ f.toInt - f1.toInt ≤ 0 ∧ -ret.toInt ≤ 0 ∧ ret.toInt - 15 ≤ 0 ∧ Imp (k1.toInt ≤ 0) (k.toInt ≤ 0) ∧ (ML By Nb σ (tN By Nb 0 (pI (Sp.2.2.2 0) - 1) Sp) ∧ ((tN By Nb 0 (pI (Sp.2.2.2 0) - 1) Sp).1 = 0 → ret.toInt = tV By Nb Sp.2.2.1))
set_option maxRecDepth 10000 in
set_option maxHeartbeats 4000000 in
theorem c_234x {By : Int → Int} {Nb : Int} {Sp : PS} (σ0 : SG) (hσ0 : WT σ0) (f : Int32) (h_f : (σ0 159)[8]? = some (.int f)) (k : Int32) (h_k : (σ0 159)[12]? = some (.int k)) (hM : ML By Nb σ0 Sp) : En 3 69 none mr_234 (P_234x σ0 By Nb Sp f k) 0 [(0, .ref 159)] [] σ0 := by
  obtain ⟨hl_f, hu_f⟩ := WT_int hσ0 (g := 35) (by decide +kernel) (by decide +kernel) (l := 0) (u := 1600) (by decide +kernel) h_f
  obtain ⟨hl_k, hu_k⟩ := WT_int hσ0 (g := 35) (by decide +kernel) (by decide +kernel) (l := 0) (u := 3) (by decide +kernel) h_k
  have hF0 : Fr [(35, 8), (35, 9), (35, 10), (35, 11), (35, 12), (35, 13)] σ0 σ0 := Fr_rfl
  have h1 := ML_k hM h_k
  refine En_Ps 4 (pc' := 4) (lv' := [(0, .ref 159)]) (st' := [.ref 159, .int ((Int32.ofInt 1)), .int ((Int32.ofInt 0)), .ref 159]) rfl ?_
  refine En_getU (j := 14) (u := 165) (g' := 41) (q := 0) rfl rfl rfl tgz_159 (by decide +kernel) hσ0 (by decide +kernel) (by decide +kernel) (fun h2 => ?_)
  refine En_Ps 1 (pc' := 8) (lv' := [(0, .ref 159)]) (st' := [.int ((Int32.ofInt 0)), .ref 165, .int ((Int32.ofInt 1)), .int ((Int32.ofInt 0)), .ref 159]) rfl ?_
  refine En_iald (l := 0) (u := 4) rfl (by decide : (Int32.ofInt 0).toInt = 0) tgz_165 (by decide +kernel) hσ0 (by omega) (lnI (by decide +kernel : LN _ = 226) (by omega)) (by decide +kernel) (fun z5 h4 h6 h7 => ?_)
  refine En_Ps 1 (pc' := 10) (lv' := [(0, .ref 159)]) (st' := [.int ((((Int32.ofInt 1)) <<< (z5 &&& 31))), .int ((Int32.ofInt 0)), .ref 159]) rfl ?_
  refine En_nam (fun z8 h9 => ?_)
  have h10 := shl1_v (y := z5) rfl (by omega) (by omega)
  rw [← h9] at h10
  have h11 := shl1_p (y := z5) 4 rfl (by omega) (by omega) (by decide)
  rw [← h9] at h11
  refine En_Ps 2 (pc' := 12) (lv' := [(0, .ref 159)]) (st' := [.int ((z8 - ((Int32.ofInt 1)))), .int ((Int32.ofInt 0)), .ref 159]) rfl ?_
  refine En_top (subI rfl (by decide : (Int32.ofInt 1).toInt = 1) (by omega) (by omega)) (fun z12 h13 => ?_)
  obtain ⟨z15, h14, h16, h17⟩ := WT_peekI hσ0 tgz_159 (by decide +kernel : FT 35 10 = (0, 0, 4)) (by decide +kernel)
  obtain ⟨z19, h18, h20, h21⟩ := WT_peekI hσ0 tgz_159 (by decide +kernel : FT 35 11 = (0, 0, 99999)) (by decide +kernel)
  have := (by decide : ((Int32.ofInt 0)).toInt = 0)
  refine En_callV rfl rfl rfl rfl rfl rfl rfl rfl tgz_159 (by decide +kernel) rfl (c_288x σ0 hσ0 ((Int32.ofInt 0)) z12 (geI (by decide : (Int32.ofInt 0).toInt = 0) (by omega)) (leI (by decide : (Int32.ofInt 0).toInt = 0) (by omega)) (geI rfl (by omega)) (leI rfl (by omega)) f h_f k h_k z15 h14 z19 h18 hM) (by decide) (by decide) (fun v23 σ24 h22 => ?_)
  obtain ⟨h25, h26, z28, h29, z30, h31, z32, rfl, h27⟩ := h22
  have h33 := h27.2.2.2.2.2.2.2.2.2.2.2.2.2.2.2.2
  have h34 := Fr_trans hF0 h26 (by decide +kernel)
  have h35 : tN By Nb ((Int32.ofInt 0)).toInt z12.toInt Sp = tN By Nb (0) (z12.toInt) Sp := tN_cg2 (fun zz => by omega) (fun zz => by omega)
  obtain ⟨S36, h37⟩ : ∃ q : PS, q = tN By Nb (0) (z12.toInt) Sp := ⟨_, rfl⟩
  have h38 : ML By Nb σ24 S36 := by rw [h37]; exact (ML_eq h33.1 h35)
  have h39 := ML_k h38 h31
  have h40 : Imp (S36.1 = 0) (z32.toInt = tV By Nb Sp.2.2.1) := fun z => h33.2 (by rw [h35, ← h37]; exact z)
  have h41 : Imp (S36.1 = 0) (Sp.1 = 0 ∧ tK By Nb Sp.2.2.1 = 2 ∧ 0 ≤ tV By Nb Sp.2.2.1 ∧ tV By Nb Sp.2.2.1 ≤ z12.toInt) := fun z => tN_gg (by rw [← h37]; exact z)
  have h42 : S36.2.2.2 = Sp.2.2.2 := by rw [h37]; exact tN_w
  have h43 := Imp_m h27.2.2.2.2.2.2.2.2.2.2.2.1 (by omega)
  have h44 := Imp_m h27.2.2.2.2.2.2.2.2.2.2.2.2.1 (by omega)
  have h45 := Imp_m h27.2.2.2.2.2.2.2.2.2.2.2.2.2.1 (by omega)
  exact En_ret (v := some (.int z32)) rfl rfl rfl ⟨h25, h34, z28, h29, z30, h31, z32, rfl, ⟨by omega, by omega, by omega, by omega, by omega, by omega, by omega, by omega, by omega, by omega, by omega, fun _ => by omega, (Classical.byCases (fun q : Sp.1 = 0 => by have w := ML_w hM q h4 (by omega) (by omega); have e9 : tN By Nb 0 (z12.toInt) Sp = tN By Nb 0 (pI (Sp.2.2.2 0) - 1) Sp := tN_cg rfl (by rw [w]; omega); rw [← e9, ← h37]; exact ⟨h38, fun zz => by (try have i0 := Imp_m h41 (by omega)); (try have i1 := Imp_m h40 (by omega)); (try have i2 := Imp_m h27.2.2.2.2.2.2.2.2.2.2.2.2.2.2.1 (by omega)); (try have i3 := Imp_m h27.2.2.2.2.2.2.2.2.2.2.2.2.2.2.2.1 (by omega)); omega⟩) (fun q : ¬ Sp.1 = 0 => by rw [tN_bad q]; exact ⟨ML_eq h38 (by subst h37; exact tN_bad q), fun zz => absurd zz q⟩))⟩⟩
/-- DoorSchoolModel.image(I)I -/
abbrev P_248x (σ0 : SG) (a : Int32) : PO := fun v σ => WT σ ∧ Fr [(37, 0), (38, 0)] σ0 σ ∧ ∃ ret : Int32, v = some (.int ret) ∧ -ret.toInt - 2 ≤ 0 ∧ ret.toInt ≤ 0 ∧ Imp (-a.toInt ≤ 0 ∧ a.toInt - 2 ≤ 0) (ret.toInt ≤ 0 ∧ -ret.toInt ≤ 0) ∧ Imp (a.toInt + 1 ≤ 0) (ret.toInt + 2 ≤ 0 ∧ -ret.toInt - 2 ≤ 0) ∧ Imp (-a.toInt + 3 ≤ 0) (ret.toInt + 2 ≤ 0 ∧ -ret.toInt - 2 ≤ 0) ∧ (WI σ ∧ BSET σ0 σ 162 a.toInt ∧ IMW σ0 σ a.toInt)
set_option maxRecDepth 10000 in
set_option maxHeartbeats 4000000 in
theorem c_248x (σ0 : SG) (hσ0 : WT σ0) (a : Int32) (hI : WI σ0) : En 1 25 none mr_248 (P_248x σ0 a) 0 [(0, .ref 159), (1, .int a)] [] σ0 := by
  have hF0 : Fr [(37, 0), (38, 0)] σ0 σ0 := Fr_rfl
  refine En_Ps 4 (pc' := 6) (lv' := [(0, .ref 159), (1, .int a)]) (st' := [.long ((2 : Int64)), .long ((Int64.ofNat 0)), .long a.toInt64]) rfl ?_
  have : a.toInt64.toInt = a.toInt := (i2lI rfl)
  have := (by decide : ((Int64.ofNat 0)).toInt = 0)
  have := (by decide : ((2 : Int64)).toInt = 2)
  refine En_callS rfl rfl rfl rfl rfl rfl rfl rfl rfl (c_249 σ0 hσ0 a.toInt64 ((Int64.ofNat 0)) ((2 : Int64))) (by decide) (by decide) (fun v2 σ3 h1 => ?_)
  obtain ⟨h4, h5, z7, rfl, h6⟩ := h1
  obtain rfl : σ0 = σ3 := Fr_nil h5
  refine En_iNe _ rfl rfl (fun h8 => ?_) (fun h8 => ?_)
  · refine En_Ps 2 (pc' := 17) (lv' := [(2, .int ((Int32.ofInt 0))), (0, .ref 159), (1, .int a)]) (st' := []) rfl ?_
    have key17 : ∀ (n17 : Nat) (σ10 : SG) (y9 : Int32), WT σ10 → Fr [(37, 0), (38, 0)] σ0 σ10 → 0 ≤ y9.toInt → y9.toInt ≤ 226 → -y9.toInt + 226 < (n17 : Int) → CPI σ0 σ10 a.toInt y9.toInt → SAMr σ0 σ10 162 → En 1 25 none mr_248 (P_248x σ0 a) 17 [(0, .ref 159), (1, .int a), (2, .int y9)] [] σ10 := by
      intro n17
      induction n17 with
      | zero =>
        intro σ10 y9 h11 h12 h13 h14 h15 h16 h17
        exfalso; omega
      | succ n17 ih17 =>
        intro σ10 y9 h11 h12 h13 h14 h15 h16 h17
        refine En_Ps 2 (pc' := 21) (lv' := [(0, .ref 159), (1, .int a), (2, .int y9)]) (st' := [.int (((Int16.ofInt 226).toInt32)), .int y9]) rfl ?_
        refine En_icGe _ rfl (by decide : ((Int16.ofInt 226).toInt32).toInt = 226) rfl (fun h18 => ?_) (fun h18 => ?_)
        · refine En_Ps 1 (pc' := 49) (lv' := [(0, .ref 159), (1, .int a), (2, .int y9)]) (st' := [.ref 159]) rfl ?_
          refine En_getU (j := 3) (u := 162) (g' := 38) (q := 0) rfl rfl rfl tgz_159 (by decide +kernel) h11 (by decide +kernel) (by decide +kernel) (fun h19 => ?_)
          refine En_Ps 2 (pc' := 54) (lv' := [(0, .ref 159), (1, .int a), (2, .int y9)]) (st' := [.int ((Int32.ofInt 1)), .int a, .ref 162]) rfl ?_
          refine En_bast (l := 0) (u := 1) rfl rfl tgz_162 (by decide +kernel) (narZ (by decide : (Int32.ofInt 1).toInt = 1) (by omega) (by omega)) (by omega) (lnI (by decide +kernel : LN _ = 3) (by omega)) (FTsgl (by decide +kernel)) (rngI (by decide : (Int32.ofInt 1).toInt = 1) (by omega) (by omega)) h11 h12 (by decide +kernel) (fun σ21 h22 h23 h24 h25 => ?_)
          refine En_Ps 1 (pc' := 56) (lv' := [(0, .ref 159), (1, .int a), (2, .int y9)]) (st' := [.int ((Int32.ofInt 0))]) rfl ?_
          refine En_top (by decide : (Int32.ofInt 0).toInt = 0) (fun z26 h27 => ?_)
          exact En_ret (v := some (.int z26)) rfl rfl rfl ⟨h22, h23, z26, rfl, ⟨by omega, by omega, fun _ => by omega, fun _ => by omega, fun _ => by omega, ⟨WI_nx h25 (by decide) (by decide) (CPI_x (W := []) h16 (by omega) (SWd_fr h12 (by decide +kernel)) (by omega) (by omega) hI), BSET_st h17 h24 h25 (by decide) (by omega), IMW_ok h16 (by omega) (by omega) (by omega) (SWd_fr h12 (by decide +kernel)) h25 (by decide)⟩⟩⟩
        · refine En_Ps 1 (pc' := 25) (lv' := [(0, .ref 159), (1, .int a), (2, .int y9)]) (st' := [.ref 159]) rfl ?_
          refine En_getU (j := 2) (u := 161) (g' := 37) (q := 0) rfl rfl rfl tgz_159 (by decide +kernel) h11 (by decide +kernel) (by decide +kernel) (fun h28 => ?_)
          refine En_Ps 3 (pc' := 33) (lv' := [(0, .ref 159), (1, .int a), (2, .int y9)]) (st' := [.int (((((Int16.ofInt 226).toInt32)) * a)), .ref 161]) rfl ?_
          refine En_top (mulI (by decide : ((Int16.ofInt 226).toInt32).toInt = 226) rfl (Z := 226 * a.toInt) (by omega) (by omega) (by omega)) (fun z30 h31 => ?_)
          refine En_Ps 2 (pc' := 35) (lv' := [(0, .ref 159), (1, .int a), (2, .int y9)]) (st' := [.int ((z30 + y9)), .ref 161]) rfl ?_
          refine En_top (addI rfl rfl (by omega) (by omega)) (fun z32 h33 => ?_)
          refine En_Ps 1 (pc' := 36) (lv' := [(0, .ref 159), (1, .int a), (2, .int y9)]) (st' := [.ref 159, .int z32, .ref 161]) rfl ?_
          refine En_getU (j := 1) (u := 160) (g' := 36) (q := 0) rfl rfl rfl tgz_159 (by decide +kernel) h11 (by decide +kernel) (by decide +kernel) (fun h34 => ?_)
          refine En_Ps 1 (pc' := 40) (lv' := [(0, .ref 159), (1, .int a), (2, .int y9)]) (st' := [.int y9, .ref 160, .int z32, .ref 161]) rfl ?_
          refine En_ialdW (n := 226) rfl rfl tgz_160 (by decide +kernel) h11 (by omega) (by decide +kernel) (by omega) (by decide +kernel) (fun z36 h37 h38 => ?_)
          refine En_iastW (n := 678) rfl rfl tgz_161 (by decide +kernel) (by omega) (by decide +kernel) (by omega) (ft_wi h38 (by omega) (by omega) (k := a.toInt) (by omega) (by omega) (by omega)) h11 h12 (by decide +kernel) (fun σ39 h40 h41 h42 h43 => ?_)
          refine En_Ps 1 (pc' := 45) (lv' := [(2, .int ((y9 + Int32.ofInt 1))), (0, .ref 159), (1, .int a)]) (st' := []) rfl ?_
          refine En_lv1 (addI rfl (by decide : (Int32.ofInt 1).toInt = 1) (by omega) (by omega)) (fun z44 h45 => ?_)
          refine En_Ps 1 (pc' := 17) (lv' := [(2, .int z44), (0, .ref 159), (1, .int a)]) (st' := []) rfl ?_
          refine En_lv (lv := [(0, .ref 159), (1, .int a), (2, .int z44)]) ⟨rfl, rfl, rfl, trivial⟩ ?_
          exact ih17 σ39 z44 h40 h41 (by omega) (by omega) (by omega) (CPI_s h16 (SWd_fr h12 (by decide +kernel)) h37 h42 h43 (by omega) (by omega) (by omega) (by omega) (by omega)) (SAMr_st h17 h43 (by decide))
    have := (by decide : (Int32.ofInt 0).toInt = 0)
    refine En_lv (lv := [(0, .ref 159), (1, .int a), (2, .int ((Int32.ofInt 0)))]) ⟨rfl, rfl, rfl, trivial⟩ ?_
    exact key17 (Int.toNat (226) + 1) σ0 ((Int32.ofInt 0)) hσ0 hF0 (by omega) (by omega) (by omega) (CPI_0 (by decide)) (SAMr_0)
  · refine En_Ps 1 (pc' := 14) (lv' := [(0, .ref 159), (1, .int a)]) (st' := [.int (((Int8.ofInt (-2)).toInt32))]) rfl ?_
    refine En_top (by decide : ((Int8.ofInt (-2)).toInt32).toInt = -2) (fun z46 h47 => ?_)
    exact En_ret (v := some (.int z46)) rfl rfl rfl ⟨hσ0, hF0, z46, rfl, ⟨by omega, by omega, fun _ => by omega, fun _ => by omega, fun _ => by omega, ⟨hI, BSET_no SAMr_0 (by omega), IMW_no (by omega)⟩⟩⟩
/-- DoorSchoolModel.isFreshCopied(I)Z -/
abbrev P_257x (σ0 : SG) (a : Int32) : PO := fun v σ => WT σ ∧ Fr [] σ0 σ ∧ ∃ ret : Int32, v = some (.int ret) ∧ -ret.toInt ≤ 0 ∧ ret.toInt - 1 ≤ 0 ∧ Imp (ret.toInt - 1 ≤ 0 ∧ -ret.toInt + 1 ≤ 0) (-a.toInt - 1 ≤ 0 ∧ a.toInt - 3 ≤ 0) ∧ ret.toInt = cpI (ci σ0 165) a.toInt
set_option maxRecDepth 10000 in
set_option maxHeartbeats 4000000 in
theorem c_257x (σ0 : SG) (hσ0 : WT σ0) (a : Int32) : En 0 0 none mr_257 (P_257x σ0 a) 0 [(0, .ref 159), (1, .int a)] [] σ0 := by
  have hF0 : Fr [] σ0 σ0 := Fr_rfl
  refine En_Ps 2 (pc' := 2) (lv' := [(2, .int ((Int32.ofInt 0))), (0, .ref 159), (1, .int a)]) (st' := []) rfl ?_
  have key2 : ∀ (n2 : Nat) (y1 : Int32), 0 ≤ y1.toInt → y1.toInt ≤ 4 → -y1.toInt + 4 < (n2 : Int) → NCP σ0 a.toInt y1.toInt → En 0 0 none mr_257 (P_257x σ0 a) 2 [(0, .ref 159), (1, .int a), (2, .int y1)] [] σ0 := by
    intro n2
    induction n2 with
    | zero =>
      intro y1 h5 h6 h7 h8
      exfalso; omega
    | succ n2 ih2 =>
      intro y1 h5 h6 h7 h8
      refine En_Ps 2 (pc' := 4) (lv' := [(0, .ref 159), (1, .int a), (2, .int y1)]) (st' := [.ref 159, .int y1]) rfl ?_
      refine En_getU (j := 14) (u := 165) (g' := 41) (q := 0) rfl rfl rfl tgz_159 (by decide +kernel) hσ0 (by decide +kernel) (by decide +kernel) (fun h9 => ?_)
      refine En_Ps 1 (pc' := 8) (lv' := [(0, .ref 159), (1, .int a), (2, .int y1)]) (st' := [.int ((Int32.ofInt 2)), .ref 165, .int y1]) rfl ?_
      refine En_iald (l := 0) (u := 4) rfl (by decide : (Int32.ofInt 2).toInt = 2) tgz_165 (by decide +kernel) hσ0 (by omega) (lnI (by decide +kernel : LN _ = 226) (by omega)) (by decide +kernel) (fun z12 h11 h13 h14 => ?_)
      refine En_icGe _ rfl rfl rfl (fun h15 => ?_) (fun h15 => ?_)
      · refine En_Ps 1 (pc' := 38) (lv' := [(0, .ref 159), (1, .int a), (2, .int y1)]) (st' := [.int ((Int32.ofInt 0))]) rfl ?_
        refine En_top (by decide : (Int32.ofInt 0).toInt = 0) (fun z16 h17 => ?_)
        exact En_ret (v := some (.int z16)) rfl rfl (retZ rfl rfl (by omega) (by omega)) ⟨hσ0, hF0, z16, rfl, ⟨by omega, by omega, fun _ => by omega, CPI_n h11 h8 (by omega) (by omega) (by omega)⟩⟩
      · refine En_Ps 1 (pc' := 13) (lv' := [(0, .ref 159), (1, .int a), (2, .int y1)]) (st' := [.ref 159]) rfl ?_
        refine En_getK (j := 14) h9 rfl rfl rfl tgz_159 (by decide +kernel) ?_
        refine En_Ps 4 (pc' := 21) (lv' := [(0, .ref 159), (1, .int a), (2, .int y1)]) (st' := [.int ((((Int32.ofInt 4)) * y1)), .int (((Int8.ofInt 10).toInt32)), .ref 165]) rfl ?_
        refine En_top (mulI (by decide : (Int32.ofInt 4).toInt = 4) rfl (Z := 4 * y1.toInt) (by omega) (by omega) (by omega)) (fun z18 h19 => ?_)
        refine En_Ps 1 (pc' := 22) (lv' := [(0, .ref 159), (1, .int a), (2, .int y1)]) (st' := [.int (((((Int8.ofInt 10).toInt32)) + z18)), .ref 165]) rfl ?_
        refine En_top (addI (by decide : ((Int8.ofInt 10).toInt32).toInt = 10) rfl (by omega) (by omega)) (fun z20 h21 => ?_)
        refine En_Ps 2 (pc' := 24) (lv' := [(0, .ref 159), (1, .int a), (2, .int y1)]) (st' := [.int ((z20 + ((Int32.ofInt 3)))), .ref 165]) rfl ?_
        refine En_top (addI rfl (by decide : (Int32.ofInt 3).toInt = 3) (by omega) (by omega)) (fun z22 h23 => ?_)
        refine En_iald (l := (-1)) (u := 3) rfl rfl tgz_165 (by decide +kernel) hσ0 (by omega) (lnI (by decide +kernel : LN _ = 226) (by omega)) (FTrow 41 13 4 4 (by decide +kernel) (by omega) (by omega) (by omega)) (fun z25 h24 h26 h27 => ?_)
        refine En_Ps 1 (pc' := 26) (lv' := [(0, .ref 159), (1, .int a), (2, .int y1)]) (st' := [.int a, .int z25]) rfl ?_
        refine En_icNe _ rfl rfl rfl (fun h28 => ?_) (fun h28 => ?_)
        · refine En_Ps 1 (pc' := 34) (lv' := [(2, .int ((y1 + Int32.ofInt 1))), (0, .ref 159), (1, .int a)]) (st' := []) rfl ?_
          refine En_lv1 (addI rfl (by decide : (Int32.ofInt 1).toInt = 1) (by omega) (by omega)) (fun z29 h30 => ?_)
          refine En_Ps 1 (pc' := 2) (lv' := [(2, .int z29), (0, .ref 159), (1, .int a)]) (st' := []) rfl ?_
          refine En_lv (lv := [(0, .ref 159), (1, .int a), (2, .int z29)]) ⟨rfl, rfl, rfl, trivial⟩ ?_
          exact ih2 z29 (by omega) (by omega) (by omega) (NCP_s h8 h24 (by omega) (by omega) (by omega))
        · refine En_Ps 1 (pc' := 30) (lv' := [(0, .ref 159), (1, .int a), (2, .int y1)]) (st' := [.int ((Int32.ofInt 1))]) rfl ?_
          refine En_top (by decide : (Int32.ofInt 1).toInt = 1) (fun z31 h32 => ?_)
          exact En_ret (v := some (.int z31)) rfl rfl (retZ rfl rfl (by omega) (by omega)) ⟨hσ0, hF0, z31, rfl, ⟨by omega, by omega, fun _ => by omega, CPI_1 (y := y1.toInt) h11 h24 (by omega) (by omega) (by omega) (by omega) (by omega) (by omega)⟩⟩
  have := (by decide : (Int32.ofInt 0).toInt = 0)
  refine En_lv (lv := [(0, .ref 159), (1, .int a), (2, .int ((Int32.ofInt 0)))]) ⟨rfl, rfl, rfl, trivial⟩ ?_
  exact key2 (Int.toNat (4) + 1) ((Int32.ofInt 0)) (by omega) (by omega) (by omega) (fun q q0 q1 => by omega)
/-- DoorSchoolModel.isNextIn(I)Z -/
abbrev P_260x (σ0 : SG) (a : Int32) (k : Int32) (t : Int32) (u : Int32) : PO := fun v σ => WT σ ∧ Fr [] σ0 σ ∧ ∃ ret : Int32, v = some (.int ret) ∧ -ret.toInt ≤ 0 ∧ ret.toInt - 1 ≤ 0 ∧ Imp (-ret.toInt + 1 ≤ 0) (k.toInt ≤ 0 ∧ t.toInt - 2 ≤ 0 ∧ -t.toInt + 2 ≤ 0 ∧ u.toInt - a.toInt + 1 ≤ 0) ∧ Imp (ret.toInt ≤ 0 ∧ k.toInt ≤ 0 ∧ t.toInt - 2 ≤ 0 ∧ -t.toInt + 2 ≤ 0) (a.toInt - u.toInt ≤ 0)
set_option maxRecDepth 10000 in
set_option maxHeartbeats 4000000 in
theorem c_260x (σ0 : SG) (hσ0 : WT σ0) (a : Int32) (k : Int32) (h_k : (σ0 159)[12]? = some (.int k)) (t : Int32) (h_t : (σ0 159)[10]? = some (.int t)) (u : Int32) (h_u : (σ0 159)[11]? = some (.int u)) : En 1 20 none mr_260 (P_260x σ0 a k t u) 0 [(0, .ref 159), (1, .int a)] [] σ0 := by
  obtain ⟨hl_k, hu_k⟩ := WT_int hσ0 (g := 35) (by decide +kernel) (by decide +kernel) (l := 0) (u := 3) (by decide +kernel) h_k
  obtain ⟨hl_t, hu_t⟩ := WT_int hσ0 (g := 35) (by decide +kernel) (by decide +kernel) (l := 0) (u := 4) (by decide +kernel) h_t
  obtain ⟨hl_u, hu_u⟩ := WT_int hσ0 (g := 35) (by decide +kernel) (by decide +kernel) (l := 0) (u := 99999) (by decide +kernel) h_u
  have hF0 : Fr [] σ0 σ0 := Fr_rfl
  refine En_Ps 1 (pc' := 1) (lv' := [(0, .ref 159), (1, .int a)]) (st' := [.ref 159]) rfl ?_
  refine En_callV rfl rfl rfl rfl rfl rfl rfl rfl tgz_159 (by decide +kernel) rfl (c_237 σ0 hσ0 k h_k) (by decide) (by decide) (fun v2 σ3 h1 => ?_)
  obtain ⟨h4, h5, z7, rfl, h6⟩ := h1
  obtain rfl : σ0 = σ3 := Fr_nil h5
  refine En_iEq _ rfl rfl (fun h8 => ?_) (fun h8 => ?_)
  · refine En_Ps 1 (pc' := 28) (lv' := [(0, .ref 159), (1, .int a)]) (st' := [.int ((Int32.ofInt 0))]) rfl ?_
    refine En_top (by decide : (Int32.ofInt 0).toInt = 0) (fun z9 h10 => ?_)
    exact En_ret (v := some (.int z9)) rfl rfl (retZ rfl rfl (by omega) (by omega)) ⟨hσ0, hF0, z9, rfl, ⟨by omega, by omega, fun _ => by omega, fun _ => by omega⟩⟩
  · refine En_Ps 1 (pc' := 8) (lv' := [(0, .ref 159), (1, .int a)]) (st' := [.ref 159]) rfl ?_
    refine En_getK (j := 10) h_t rfl rfl rfl tgz_159 (by decide +kernel) ?_
    refine En_Ps 1 (pc' := 12) (lv' := [(0, .ref 159), (1, .int a)]) (st' := [.int ((Int32.ofInt 2)), .int t]) rfl ?_
    refine En_icNe _ rfl (by decide : (Int32.ofInt 2).toInt = 2) rfl (fun h11 => ?_) (fun h11 => ?_)
    · refine En_Ps 1 (pc' := 28) (lv' := [(0, .ref 159), (1, .int a)]) (st' := [.int ((Int32.ofInt 0))]) rfl ?_
      refine En_top (by decide : (Int32.ofInt 0).toInt = 0) (fun z12 h13 => ?_)
      exact En_ret (v := some (.int z12)) rfl rfl (retZ rfl rfl (by omega) (by omega)) ⟨hσ0, hF0, z12, rfl, ⟨by omega, by omega, fun _ => by omega, fun _ => by omega⟩⟩
    · refine En_Ps 1 (pc' := 16) (lv' := [(0, .ref 159), (1, .int a)]) (st' := [.ref 159]) rfl ?_
      refine En_getK (j := 11) h_u rfl rfl rfl tgz_159 (by decide +kernel) ?_
      refine En_Ps 1 (pc' := 20) (lv' := [(0, .ref 159), (1, .int a)]) (st' := [.int a, .int u]) rfl ?_
      refine En_icGe _ rfl rfl rfl (fun h14 => ?_) (fun h14 => ?_)
      · refine En_Ps 1 (pc' := 28) (lv' := [(0, .ref 159), (1, .int a)]) (st' := [.int ((Int32.ofInt 0))]) rfl ?_
        refine En_top (by decide : (Int32.ofInt 0).toInt = 0) (fun z15 h16 => ?_)
        exact En_ret (v := some (.int z15)) rfl rfl (retZ rfl rfl (by omega) (by omega)) ⟨hσ0, hF0, z15, rfl, ⟨by omega, by omega, fun _ => by omega, fun _ => by omega⟩⟩
      · refine En_Ps 2 (pc' := 28) (lv' := [(0, .ref 159), (1, .int a)]) (st' := [.int ((Int32.ofInt 1))]) rfl ?_
        refine En_top (by decide : (Int32.ofInt 1).toInt = 1) (fun z17 h18 => ?_)
        exact En_ret (v := some (.int z17)) rfl rfl (retZ rfl rfl (by omega) (by omega)) ⟨hσ0, hF0, z17, rfl, ⟨by omega, by omega, fun _ => by omega, fun _ => by omega⟩⟩
/-- DoorSchoolModel.owns(II)I -/
abbrev P_296x (σ0 : SG) (a : Int32) (b : Int32) : PO := fun v σ => WT σ ∧ Fr [(36, 0)] σ0 σ ∧ ∃ ret : Int32, v = some (.int ret) ∧ -ret.toInt - 2 ≤ 0 ∧ ret.toInt - 65535 ≤ 0 ∧ (SAM (wf σ0) (wf σ) ∧ (∀ i : Int, 0 ≤ i → i < 226 → wf σ i = owW (wf σ0) a.toInt b.toInt i))
set_option maxRecDepth 10000 in
set_option maxHeartbeats 4000000 in
theorem c_296x (σ0 : SG) (hσ0 : WT σ0) (a : Int32) (b : Int32) : En 4 84 none mr_296 (P_296x σ0 a b) 0 [(0, .ref 159), (1, .int a), (2, .int b)] [] σ0 := by
  have hF0 : Fr [(36, 0)] σ0 σ0 := Fr_rfl
  refine En_Ps 3 (pc' := 3) (lv' := [(0, .ref 159), (1, .int a), (2, .int b)]) (st' := [.int b, .int a, .ref 159]) rfl ?_
  obtain ⟨z2, h1, h3, h4⟩ := WT_peekI hσ0 tgz_160 (by decide +kernel : FT 36 (0 : Int).toNat = (0, 0, 4)) (by decide +kernel)
  obtain ⟨z6, h5, h7, h8⟩ := WT_peekI hσ0 tgz_160 (by decide +kernel : FT 36 (7 : Int).toNat = (0, 0, 1600)) (by decide +kernel)
  refine En_callV rfl rfl rfl rfl rfl rfl rfl rfl tgz_159 (by decide +kernel) rfl (c_263x σ0 hσ0 a b z2 h1 z6 h5) (by decide) (by decide) (fun v10 σ11 h9 => ?_)
  obtain ⟨h12, h13, z15, rfl, h14⟩ := h9
  have h16 := h14.2.2.2
  obtain rfl : σ0 = σ11 := Fr_nil h13
  have h17 := h16
  have w18 : wf σ0 (0) = z2.toInt := ci_at h1 (by omega)
  have w19 : wf σ0 (7) = z6.toInt := ci_at h5 (by omega)
  have h20 : pI (wf σ0 0) = pI (z2.toInt) := by rw [w18]
  refine En_iNe _ rfl rfl (fun h21 => ?_) (fun h21 => ?_)
  · have h22 := Imp_m h14.2.2.1 (by omega)
    refine En_Ps 1 (pc' := 13) (lv' := [(0, .ref 159), (1, .int a), (2, .int b)]) (st' := [.ref 159]) rfl ?_
    refine En_callV rfl rfl rfl rfl rfl rfl rfl rfl tgz_159 (by decide +kernel) rfl (c_295 σ0 hσ0) (by decide) (by decide) (fun v24 σ25 h23 => ?_)
    obtain ⟨h26, h27, z29, rfl, h28⟩ := h23
    obtain rfl : σ0 = σ25 := Fr_nil h27
    refine En_Ps 2 (pc' := 18) (lv' := [(3, .int z29), (0, .ref 159), (1, .int a), (2, .int b)]) (st' := [.ref 159]) rfl ?_
    refine En_getU (j := 1) (u := 160) (g' := 36) (q := 0) rfl rfl rfl tgz_159 (by decide +kernel) hσ0 (by decide +kernel) (by decide +kernel) (fun h30 => ?_)
    refine En_Ps 2 (pc' := 24) (lv' := [(3, .int z29), (0, .ref 159), (1, .int a), (2, .int b)]) (st' := [.int a, .int (((Int8.ofInt 8).toInt32)), .ref 160]) rfl ?_
    refine En_iast (l := 0) (u := 15) rfl (by decide : ((Int8.ofInt 8).toInt32).toInt = 8) tgz_160 (by decide +kernel) (by omega) (lnI (by decide +kernel : LN _ = 226) (by omega)) (by decide +kernel) (rngI rfl (by omega) (by omega)) hσ0 hF0 (by decide +kernel) (fun σ32 h33 h34 h35 h36 => ?_)
    refine En_Ps 1 (pc' := 26) (lv' := [(3, .int z29), (0, .ref 159), (1, .int a), (2, .int b)]) (st' := [.ref 159]) rfl ?_
    refine En_getK (j := 1) ((h36 _ _ (Or.inl (neTG tgz_159 tgz_160 (by decide)))).trans h30) rfl rfl rfl tgz_159 (by decide +kernel) ?_
    refine En_Ps 2 (pc' := 32) (lv' := [(3, .int z29), (0, .ref 159), (1, .int a), (2, .int b)]) (st' := [.int b, .int (((Int8.ofInt 9).toInt32)), .ref 160]) rfl ?_
    refine En_iast (l := 0) (u := 15) rfl (by decide : ((Int8.ofInt 9).toInt32).toInt = 9) tgz_160 (by decide +kernel) (by omega) (lnI (by decide +kernel : LN _ = 226) (by omega)) (by decide +kernel) (rngI rfl (by omega) (by omega)) h33 h34 (by decide +kernel) (fun σ37 h38 h39 h40 h41 => ?_)
    refine En_Ps 1 (pc' := 34) (lv' := [(3, .int z29), (0, .ref 159), (1, .int a), (2, .int b)]) (st' := [.int z29]) rfl ?_
    exact En_ret (v := some (.int z29)) rfl rfl rfl ⟨h38, h39, z29, rfl, ⟨by omega, by omega, ⟨fun i hi => (by rw [show wf _ i = ci _ 160 i from rfl, ci_st h40 h41 (by omega) i (by omega), if_neg (by omega), ci_st h35 h36 (by omega) i (by omega), if_neg (by omega)]; rfl), owM (fun i hi => (by rw [show wf _ i = ci _ 160 i from rfl, ci_st h40 h41 (by omega) i hi, ci_st h35 h36 (by omega) i hi]; rfl)) (by omega) (by omega) (by omega) rfl rfl⟩⟩⟩
  · refine En_Ps 1 (pc' := 11) (lv' := [(0, .ref 159), (1, .int a), (2, .int b)]) (st' := [.int (((Int8.ofInt (-2)).toInt32))]) rfl ?_
    refine En_top (by decide : ((Int8.ofInt (-2)).toInt32).toInt = -2) (fun z42 h43 => ?_)
    exact En_ret (v := some (.int z42)) rfl rfl rfl ⟨hσ0, hF0, z42, rfl, ⟨by omega, by omega, ⟨fun _ _ => rfl, owMn (by omega)⟩⟩⟩

