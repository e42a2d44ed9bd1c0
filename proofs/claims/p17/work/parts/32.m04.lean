/-- DoorSchoolModel.readTwin()V -/
abbrev P_304x (σ0 : SG) (By : Int → Int) (Nb : Int) (Sp : PS) (f : Int32) (k : Int32) : PO := fun v σ => WT σ ∧ Fr [(35, 8), (35, 9), (35, 10), (35, 11), (35, 12), (35, 13), (41, 0)] σ0 σ ∧ ∃ f1 : Int32, (σ 159)[8]? = some (.int f1) ∧ ∃ k1 : Int32, (σ 159)[12]? = some (.int k1) ∧ v = none ∧ -f1.toInt ≤ 0 ∧ f1.toInt - 1600 ≤ 0 ∧ -f1.toInt + f.toInt ≤ 0 ∧ -k1.toInt ≤ 0 ∧ k1.toInt - 3 ≤ 0 ∧ -k1.toInt + k.toInt ≤ 0 ∧ f.toInt - f1.toInt ≤ 0 ∧ Imp (k1.toInt ≤ 0) (k.toInt ≤ 0) ∧ (KF σ0 σ ∧ ML By Nb σ (gTwin By Nb Sp))
set_option maxRecDepth 10000 in
set_option maxHeartbeats 4000000 in
theorem c_304x {By : Int → Int} {Nb : Int} {Sp : PS} (σ0 : SG) (hσ0 : WT σ0) (f : Int32) (h_f : (σ0 159)[8]? = some (.int f)) (k : Int32) (h_k : (σ0 159)[12]? = some (.int k)) (hM : ML By Nb σ0 Sp) (hg : Sp.1 = 0) : En 3 69 none mr_304 (P_304x σ0 By Nb Sp f k) 0 [(0, .ref 159)] [] σ0 := by
  obtain ⟨hl_f, hu_f⟩ := WT_int hσ0 (g := 35) (by decide +kernel) (by decide +kernel) (l := 0) (u := 1600) (by decide +kernel) h_f
  obtain ⟨hl_k, hu_k⟩ := WT_int hσ0 (g := 35) (by decide +kernel) (by decide +kernel) (l := 0) (u := 3) (by decide +kernel) h_k
  have hF0 : Fr [(35, 8), (35, 9), (35, 10), (35, 11), (35, 12), (35, 13), (41, 0)] σ0 σ0 := Fr_rfl
  obtain ⟨z2, h1, h3, h4⟩ := WT_peekI hσ0 tgz_159 (by decide +kernel : FT 35 10 = (0, 0, 4)) (by decide +kernel)
  obtain ⟨z6, h5, h7, h8⟩ := WT_peekI hσ0 tgz_159 (by decide +kernel : FT 35 11 = (0, 0, 99999)) (by decide +kernel)
  have h9 := ML_k hM h_k
  have h10 : Imp (Sp.1 = 0) (tK By Nb Sp.2.2.1 = z2.toInt) := ML_t hM h1
  have h11 : Imp (Sp.1 = 0 ∧ tK By Nb Sp.2.2.1 = 2) (z6.toInt = min 99999 (tV By Nb Sp.2.2.1) ∧ 0 ≤ tV By Nb Sp.2.2.1) := fun q => ML_u hM h5 q.1 q.2
  obtain ⟨z13, h12, h14, h15⟩ := WT_peekI hσ0 tgz_165 (by decide +kernel : FT 41 (2 : Int).toNat = (0, 0, 4)) (by decide +kernel)
  have h16 := ML_w hM hg h12 (by omega) (by omega)
  try have h17 := Imp_m h10 (by omega)
  try have h18 := Imp_m h11 (by omega)
  refine En_Ps 2 (pc' := 2) (lv' := [(0, .ref 159)]) (st' := [.ref 159, .ref 159]) rfl ?_
  refine En_getU (j := 14) (u := 165) (g' := 41) (q := 0) rfl rfl rfl tgz_159 (by decide +kernel) hσ0 (by decide +kernel) (by decide +kernel) (fun h19 => ?_)
  refine En_Ps 1 (pc' := 6) (lv' := [(0, .ref 159)]) (st' := [.int ((Int32.ofInt 2)), .ref 165, .ref 159]) rfl ?_
  refine En_ialdK h12 rfl (by decide : (Int32.ofInt 2).toInt = 2) tgz_165 (by decide +kernel) hσ0 (by omega) (lnI (by decide +kernel : LN _ = 226) (by omega)) ?_
  refine En_callV rfl rfl rfl rfl rfl rfl rfl rfl tgz_159 (by decide +kernel) rfl (c_260x σ0 hσ0 z13 k h_k z2 h1 z6 h5) (by decide) (by decide) (fun v23 σ24 h22 => ?_)
  obtain ⟨h25, h26, z28, rfl, h27⟩ := h22
  obtain rfl : σ0 = σ24 := Fr_nil h26
  refine En_iEq _ rfl rfl (fun h29 => ?_) (fun h29 => ?_)
  · have h30 : gTw1 By Nb Sp = Sp := by unfold gTw1; (repeat' split) <;> first | rfl | (exfalso; omega) | ((try have i0 := Imp_m h10 (by omega)); (try have i1 := Imp_m h11 (by omega)); (try have i2 := Imp_m h27.2.2.1 (by omega)); (try have i3 := Imp_m h27.2.2.2 (by omega)); exfalso; omega)
    refine En_Ps 3 (pc' := 43) (lv' := [(0, .ref 159)]) (st' := [.ref 159, .int ((Int32.ofInt 0)), .ref 159]) rfl ?_
    refine En_getK (j := 14) h19 rfl rfl rfl tgz_159 (by decide +kernel) ?_
    refine En_Ps 1 (pc' := 47) (lv' := [(0, .ref 159)]) (st' := [.int ((Int32.ofInt 2)), .ref 165, .int ((Int32.ofInt 0)), .ref 159]) rfl ?_
    refine En_ialdK h12 rfl (by decide : (Int32.ofInt 2).toInt = 2) tgz_165 (by decide +kernel) hσ0 (by omega) (lnI (by decide +kernel : LN _ = 226) (by omega)) ?_
    refine En_Ps 2 (pc' := 50) (lv' := [(0, .ref 159)]) (st' := [.int ((z13 - ((Int32.ofInt 1)))), .int ((Int32.ofInt 0)), .ref 159]) rfl ?_
    refine En_top (subI rfl (by decide : (Int32.ofInt 1).toInt = 1) (by omega) (by omega)) (fun z32 h33 => ?_)
    have := (by decide : ((Int32.ofInt 0)).toInt = 0)
    refine En_callV rfl rfl rfl rfl rfl rfl rfl rfl tgz_159 (by decide +kernel) rfl (c_288x σ0 hσ0 ((Int32.ofInt 0)) z32 (geI (by decide : (Int32.ofInt 0).toInt = 0) (by omega)) (leI (by decide : (Int32.ofInt 0).toInt = 0) (by omega)) (geI rfl (by omega)) (leI rfl (by omega)) f h_f k h_k z2 h1 z6 h5 hM) (by decide) (by decide) (fun v35 σ36 h34 => ?_)
    obtain ⟨h37, h38, z40, h41, z42, h43, z44, rfl, h39⟩ := h34
    have h45 := h39.2.2.2.2.2.2.2.2.2.2.2.2.2.2.2.2
    have h46 := Fr_trans hF0 h38 (by decide +kernel)
    have h47 := KF_fr (KF_0 (σ := σ0)) h38 (by decide +kernel)
    have h48 : tN By Nb ((Int32.ofInt 0)).toInt z32.toInt Sp = tN By Nb (0) (Sp.2.2.2 2 - 1) Sp := tN_cg2 (fun zz => by have j1 := Imp_m h10 zz; omega) (fun zz => by have j1 := Imp_m h10 zz; omega)
    obtain ⟨S49, h50⟩ : ∃ q : PS, q = tN By Nb (0) (Sp.2.2.2 2 - 1) Sp := ⟨_, rfl⟩
    have h51 : ML By Nb σ36 S49 := by rw [h50]; exact (ML_eq h45.1 h48)
    have h52 := ML_k h51 h43
    have h53 : Imp (S49.1 = 0) (z44.toInt = tV By Nb Sp.2.2.1) := fun z => h45.2 (by rw [h48, ← h50]; exact z)
    have h54 : Imp (S49.1 = 0) (Sp.1 = 0 ∧ tK By Nb Sp.2.2.1 = 2 ∧ 0 ≤ tV By Nb Sp.2.2.1 ∧ tV By Nb Sp.2.2.1 ≤ Sp.2.2.2 2 - 1) := fun z => tN_gg (by rw [← h50]; exact z)
    have h55 : S49.2.2.2 = Sp.2.2.2 := by rw [h50]; exact tN_w
    have h56 := Imp_m h39.2.2.2.2.2.2.2.2.2.2.2.1 (by omega)
    have h57 := Imp_m h39.2.2.2.2.2.2.2.2.2.2.2.2.1 (by omega)
    refine En_Ps 1 (pc' := 54) (lv' := [(1, .int z44), (0, .ref 159)]) (st' := []) rfl ?_
    obtain ⟨z59, h58, h60, h61⟩ := WT_peekI h37 tgz_159 (by decide +kernel : FT 35 10 = (0, 0, 4)) (by decide +kernel)
    obtain ⟨z63, h62, h64, h65⟩ := WT_peekI h37 tgz_159 (by decide +kernel : FT 35 11 = (0, 0, 99999)) (by decide +kernel)
    have h66 := ML_k h51 h43
    have h67 : Imp (S49.1 = 0) (tK By Nb S49.2.2.1 = z59.toInt) := ML_t h51 h58
    have h68 : Imp (S49.1 = 0 ∧ tK By Nb S49.2.2.1 = 2) (z63.toInt = min 99999 (tV By Nb S49.2.2.1) ∧ 0 ≤ tV By Nb S49.2.2.1) := fun q => ML_u h51 h62 q.1 q.2
    have h69 : S49.2.2.2 2 = Sp.2.2.2 2 := by rw [h55]
    refine En_Ps 2 (pc' := 56) (lv' := [(1, .int z44), (0, .ref 159)]) (st' := [.ref 159, .ref 159]) rfl ?_
    refine En_getK (j := 14) ((h38 _ _ (inW tgz_159 (by decide +kernel))).trans h19) rfl rfl rfl tgz_159 (by decide +kernel) ?_
    refine En_Ps 1 (pc' := 60) (lv' := [(1, .int z44), (0, .ref 159)]) (st' := [.int ((Int32.ofInt 2)), .ref 165, .ref 159]) rfl ?_
    refine En_ialdK ((h38 _ _ (inWa tgz_165 (by decide +kernel))).trans h12) rfl (by decide : (Int32.ofInt 2).toInt = 2) tgz_165 (by decide +kernel) h37 (by omega) (lnI (by decide +kernel : LN _ = 226) (by omega)) ?_
    refine En_callV rfl rfl rfl rfl rfl rfl rfl rfl tgz_159 (by decide +kernel) rfl (c_260x σ36 h37 z13 z42 h43 z59 h58 z63 h62) (by decide) (by decide) (fun v72 σ73 h71 => ?_)
    obtain ⟨h74, h75, z77, rfl, h76⟩ := h71
    obtain rfl : σ36 = σ73 := Fr_nil h75
    refine En_iEq _ rfl rfl (fun h78 => ?_) (fun hx => by exfalso; have := Imp_m h76.2.2.1 (by omega); have := Imp_m h39.2.2.2.2.2.2.2.2.2.2.2.2.2.1 (by omega); have := Imp_m h39.2.2.2.2.2.2.2.2.2.2.2.2.2.2.2.1 (by omega); have := Imp_m h27.2.2.2 (by omega); have := Imp_m h39.2.2.2.2.2.2.2.2.2.2.2.2.2.2.1 (by omega); omega)
    have h79 : gTw2 By Nb (tV By Nb Sp.2.2.1) S49 = S49 := by unfold gTw2; (repeat' split) <;> first | rfl | (exfalso; omega) | ((try have i0 := Imp_m h67 (by omega)); (try have i1 := Imp_m h54 (by omega)); (try have i2 := Imp_m h53 (by omega)); (try have i3 := Imp_m h10 (by omega)); (try have i4 := Imp_m h11 (by omega)); (try have i5 := Imp_m h68 (by omega)); (try have i6 := Imp_m h27.2.2.1 (by omega)); (try have i7 := Imp_m h27.2.2.2 (by omega)); (try have i8 := Imp_m h39.2.2.2.2.2.2.2.2.2.2.2.2.2.1 (by omega)); (try have i9 := Imp_m h39.2.2.2.2.2.2.2.2.2.2.2.2.2.2.1 (by omega)); (try have i10 := Imp_m h39.2.2.2.2.2.2.2.2.2.2.2.2.2.2.2.1 (by omega)); (try have i11 := Imp_m h76.2.2.1 (by omega)); (try have i12 := Imp_m h76.2.2.2 (by omega)); exfalso; omega)
    refine En_Ps 3 (pc' := 94) (lv' := [(1, .int z44), (0, .ref 159)]) (st' := [.ref 159, .int ((Int32.ofInt 0)), .ref 159]) rfl ?_
    refine En_getK (j := 14) ((h38 _ _ (inW tgz_159 (by decide +kernel))).trans h19) rfl rfl rfl tgz_159 (by decide +kernel) ?_
    refine En_Ps 1 (pc' := 98) (lv' := [(1, .int z44), (0, .ref 159)]) (st' := [.int ((Int32.ofInt 2)), .ref 165, .int ((Int32.ofInt 0)), .ref 159]) rfl ?_
    refine En_ialdK ((h38 _ _ (inWa tgz_165 (by decide +kernel))).trans h12) rfl (by decide : (Int32.ofInt 2).toInt = 2) tgz_165 (by decide +kernel) h37 (by omega) (lnI (by decide +kernel : LN _ = 226) (by omega)) ?_
    refine En_Ps 2 (pc' := 101) (lv' := [(1, .int z44), (0, .ref 159)]) (st' := [.int ((z13 - ((Int32.ofInt 1)))), .int ((Int32.ofInt 0)), .ref 159]) rfl ?_
    refine En_top (subI rfl (by decide : (Int32.ofInt 1).toInt = 1) (by omega) (by omega)) (fun z81 h82 => ?_)
    have := (by decide : ((Int32.ofInt 0)).toInt = 0)
    refine En_callV rfl rfl rfl rfl rfl rfl rfl rfl tgz_159 (by decide +kernel) rfl (c_288x σ36 h37 ((Int32.ofInt 0)) z81 (geI (by decide : (Int32.ofInt 0).toInt = 0) (by omega)) (leI (by decide : (Int32.ofInt 0).toInt = 0) (by omega)) (geI rfl (by omega)) (leI rfl (by omega)) z40 h41 z42 h43 z59 h58 z63 h62 h51) (by decide) (by decide) (fun v84 σ85 h83 => ?_)
    obtain ⟨h86, h87, z89, h90, z91, h92, z93, rfl, h88⟩ := h83
    have h94 := h88.2.2.2.2.2.2.2.2.2.2.2.2.2.2.2.2
    have h95 := Fr_trans h46 h87 (by decide +kernel)
    have h96 := KF_fr h47 h87 (by decide +kernel)
    have h97 : tN By Nb ((Int32.ofInt 0)).toInt z81.toInt S49 = tN By Nb (0) (Sp.2.2.2 2 - 1) S49 := tN_cg2 (fun zz => by have j1 := Imp_m h53 zz; have j2 := Imp_m h54 zz; have j3 := Imp_m h10 j2.1; have j4 := Imp_m h11 ⟨j2.1, j2.2.1⟩; have j5 := Imp_m h67 zz; omega) (fun zz => by have j1 := Imp_m h53 zz; have j2 := Imp_m h54 zz; have j3 := Imp_m h10 j2.1; have j4 := Imp_m h11 ⟨j2.1, j2.2.1⟩; have j5 := Imp_m h67 zz; omega)
    obtain ⟨S98, h99⟩ : ∃ q : PS, q = tN By Nb (0) (Sp.2.2.2 2 - 1) S49 := ⟨_, rfl⟩
    have h100 : ML By Nb σ85 S98 := by rw [h99]; exact (ML_eq h94.1 h97)
    have h101 := ML_k h100 h92
    have h102 : Imp (S98.1 = 0) (z93.toInt = tV By Nb S49.2.2.1) := fun z => h94.2 (by rw [h97, ← h99]; exact z)
    have h103 : Imp (S98.1 = 0) (S49.1 = 0 ∧ tK By Nb S49.2.2.1 = 2 ∧ 0 ≤ tV By Nb S49.2.2.1 ∧ tV By Nb S49.2.2.1 ≤ Sp.2.2.2 2 - 1) := fun z => tN_gg (by rw [← h99]; exact z)
    have h104 : S98.2.2.2 = S49.2.2.2 := by rw [h99]; exact tN_w
    have h105 := Imp_m h88.2.2.2.2.2.2.2.2.2.2.2.1 (by omega)
    have h106 := Imp_m h88.2.2.2.2.2.2.2.2.2.2.2.2.1 (by omega)
    refine En_Ps 2 (pc' := 106) (lv' := [(2, .int z93), (1, .int z44), (0, .ref 159)]) (st' := [.ref 159]) rfl ?_
    refine En_callV rfl rfl rfl rfl rfl rfl rfl rfl tgz_159 (by decide +kernel) rfl (c_237 σ85 h86 z91 h92) (by decide) (by decide) (fun v108 σ109 h107 => ?_)
    obtain ⟨h110, h111, z113, rfl, h112⟩ := h107
    obtain rfl : σ85 = σ109 := Fr_nil h111
    refine En_iEq _ rfl rfl (fun h114 => ?_) (fun hx => by exfalso; have := Imp_m h39.2.2.2.2.2.2.2.2.2.2.2.2.2.2.2.1 (by omega); have := Imp_m h88.2.2.2.2.2.2.2.2.2.2.2.2.2.1 (by omega); have := Imp_m h88.2.2.2.2.2.2.2.2.2.2.2.2.2.2.2.1 (by omega); have := Imp_m h27.2.2.2 (by omega); have := Imp_m h39.2.2.2.2.2.2.2.2.2.2.2.2.2.1 (by omega); have := Imp_m h39.2.2.2.2.2.2.2.2.2.2.2.2.2.2.1 (by omega); have := Imp_m h76.2.2.2 (by omega); have := Imp_m h88.2.2.2.2.2.2.2.2.2.2.2.2.2.2.1 (by omega); omega)
    exact En_ret (v := none) rfl rfl rfl ⟨h86, h95, z89, h90, z91, h92, rfl, ⟨by omega, by omega, by omega, by omega, by omega, by omega, by omega, fun _ => by omega, ⟨h96, ML_eq h100 (by unfold gTwin; dsimp only; rw [h30, ← h50, h79, ← h99]; first | done | rfl | (rw [if_pos (by omega)]; first | done | rfl) | (rw [if_neg (by omega)]; first | done | rfl))⟩⟩⟩
  · have h115 := Imp_m h27.2.2.1 (by omega)
    have h116 : Sp.1 = 0 := by omega
    have h117 := Imp_m h10 h116
    have h118 : tK By Nb Sp.2.2.1 = 2 := by omega
    have h119 := Imp_m h10 h116
    have h120 := Imp_m h11 ⟨h116, h118⟩
    refine En_Ps 2 (pc' := 15) (lv' := [(0, .ref 159)]) (st' := [.ref 159, .ref 159]) rfl ?_
    refine En_getK (j := 11) h5 rfl rfl rfl tgz_159 (by decide +kernel) ?_
    refine En_callV rfl rfl rfl rfl rfl rfl rfl rfl tgz_159 (by decide +kernel) rfl (c_217x σ0 hσ0 z6 (geI rfl (by omega)) (leI rfl (by omega))) (by decide) (by decide) (fun v122 σ123 h121 => ?_)
    obtain ⟨h124, h125, z127, rfl, h126⟩ := h121
    have h128 := h126.2.2
    obtain rfl : σ0 = σ123 := Fr_nil h125
    have h129 := h128
    have h130 : ci σ0 165 (13 + 4 * z6.toInt) = Sp.2.2.2 (13 + 4 * tV By Nb Sp.2.2.1) := ML_ci hM (by omega) (by omega) (by omega) (by omega)
    refine En_iNe _ rfl rfl (fun h131 => ?_) (fun h131 => ?_)
    · refine En_Ps 2 (pc' := 37) (lv' := [(0, .ref 159)]) (st' := [.int ((Int32.ofInt 2)), .ref 159]) rfl ?_
      have := (by decide : ((Int32.ofInt 2)).toInt = 2)
      refine En_callV rfl rfl rfl rfl rfl rfl rfl rfl tgz_159 (by decide +kernel) rfl (c_223x σ0 hσ0 ((Int32.ofInt 2)) (geI (by decide : (Int32.ofInt 2).toInt = 2) (by omega)) (leI (by decide : (Int32.ofInt 2).toInt = 2) (by omega)) k h_k hM) (by decide) (by decide) (fun v133 σ134 h132 => ?_)
      obtain ⟨h135, h136, z138, h139, rfl, h137⟩ := h132
      have h140 := h137.2.2.2.2
      have h141 := Fr_trans hF0 h136 (by decide +kernel)
      have h142 := KF_fr (KF_0 (σ := σ0)) h136 (by decide +kernel)
      obtain ⟨S143, h144⟩ : ∃ q : PS, q = err By Nb 2 Sp := ⟨_, rfl⟩
      have h145 : ML By Nb σ134 S143 := by rw [h144]; exact (ML_eq h140 (err_cg (by omega)))
      have h146 := ML_k h145 h139
      have h147 : Imp (S143.1 = 0) (tK By Nb S143.2.2.1 = z2.toInt) := ML_t h145 ((h136 _ _ (inW tgz_159 (by decide +kernel))).trans h1)
      have h148 : Imp (S143.1 = 0 ∧ tK By Nb S143.2.2.1 = 2) (z6.toInt = min 99999 (tV By Nb S143.2.2.1) ∧ 0 ≤ tV By Nb S143.2.2.1) := fun q => ML_u h145 ((h136 _ _ (inW tgz_159 (by decide +kernel))).trans h5) q.1 q.2
      have h149 : S143.2.2.2 = Sp.2.2.2 := by rw [h144]; exact err_w
      have h150 : gTw1 By Nb Sp = S143 := by rw [h144]; unfold gTw1; (repeat' split) <;> first | rfl | (exfalso; omega) | ((try have i0 := Imp_m h147 (by omega)); (try have i1 := Imp_m h10 (by omega)); (try have i2 := Imp_m h11 (by omega)); (try have i3 := Imp_m h148 (by omega)); (try have i4 := Imp_m h27.2.2.2 (by omega)); exfalso; omega)
      refine En_Ps 3 (pc' := 43) (lv' := [(0, .ref 159)]) (st' := [.ref 159, .int ((Int32.ofInt 0)), .ref 159]) rfl ?_
      refine En_getK (j := 14) ((h136 _ _ (inW tgz_159 (by decide +kernel))).trans h19) rfl rfl rfl tgz_159 (by decide +kernel) ?_
      refine En_Ps 1 (pc' := 47) (lv' := [(0, .ref 159)]) (st' := [.int ((Int32.ofInt 2)), .ref 165, .int ((Int32.ofInt 0)), .ref 159]) rfl ?_
      refine En_ialdK ((h136 _ _ (inWa tgz_165 (by decide +kernel))).trans h12) rfl (by decide : (Int32.ofInt 2).toInt = 2) tgz_165 (by decide +kernel) h135 (by omega) (lnI (by decide +kernel : LN _ = 226) (by omega)) ?_
      refine En_Ps 2 (pc' := 50) (lv' := [(0, .ref 159)]) (st' := [.int ((z13 - ((Int32.ofInt 1)))), .int ((Int32.ofInt 0)), .ref 159]) rfl ?_
      refine En_top (subI rfl (by decide : (Int32.ofInt 1).toInt = 1) (by omega) (by omega)) (fun z152 h153 => ?_)
      have := (by decide : ((Int32.ofInt 0)).toInt = 0)
      refine En_callV rfl rfl rfl rfl rfl rfl rfl rfl tgz_159 (by decide +kernel) rfl (c_288x σ134 h135 ((Int32.ofInt 0)) z152 (geI (by decide : (Int32.ofInt 0).toInt = 0) (by omega)) (leI (by decide : (Int32.ofInt 0).toInt = 0) (by omega)) (geI rfl (by omega)) (leI rfl (by omega)) f ((h136 _ _ (inW tgz_159 (by decide +kernel))).trans h_f) z138 h139 z2 ((h136 _ _ (inW tgz_159 (by decide +kernel))).trans h1) z6 ((h136 _ _ (inW tgz_159 (by decide +kernel))).trans h5) h145) (by decide) (by decide) (fun v155 σ156 h154 => ?_)
      obtain ⟨h157, h158, z160, h161, z162, h163, z164, rfl, h159⟩ := h154
      have h165 := h159.2.2.2.2.2.2.2.2.2.2.2.2.2.2.2.2
      have h166 := Fr_trans h141 h158 (by decide +kernel)
      have h167 := KF_fr h142 h158 (by decide +kernel)
      have h168 : tN By Nb ((Int32.ofInt 0)).toInt z152.toInt S143 = tN By Nb (0) (Sp.2.2.2 2 - 1) S143 := tN_cg2 (fun zz => by have j1 := Imp_m h147 zz; omega) (fun zz => by have j1 := Imp_m h147 zz; omega)
      obtain ⟨S169, h170⟩ : ∃ q : PS, q = tN By Nb (0) (Sp.2.2.2 2 - 1) S143 := ⟨_, rfl⟩
      have h171 : ML By Nb σ156 S169 := by rw [h170]; exact (ML_eq h165.1 h168)
      have h172 := ML_k h171 h163
      have h173 : Imp (S169.1 = 0) (z164.toInt = tV By Nb S143.2.2.1) := fun z => h165.2 (by rw [h168, ← h170]; exact z)
      have h174 : Imp (S169.1 = 0) (S143.1 = 0 ∧ tK By Nb S143.2.2.1 = 2 ∧ 0 ≤ tV By Nb S143.2.2.1 ∧ tV By Nb S143.2.2.1 ≤ Sp.2.2.2 2 - 1) := fun z => tN_gg (by rw [← h170]; exact z)
      have h175 : S169.2.2.2 = S143.2.2.2 := by rw [h170]; exact tN_w
      have h176 := Imp_m h159.2.2.2.2.2.2.2.2.2.2.2.1 (by omega)
      have h177 := Imp_m h159.2.2.2.2.2.2.2.2.2.2.2.2.1 (by omega)
      have h178 := Imp_m h159.2.2.2.2.2.2.2.2.2.2.2.2.2.1 (by omega)
      refine En_Ps 1 (pc' := 54) (lv' := [(1, .int z164), (0, .ref 159)]) (st' := []) rfl ?_
      obtain ⟨z180, h179, h181, h182⟩ := WT_peekI h157 tgz_159 (by decide +kernel : FT 35 10 = (0, 0, 4)) (by decide +kernel)
      obtain ⟨z184, h183, h185, h186⟩ := WT_peekI h157 tgz_159 (by decide +kernel : FT 35 11 = (0, 0, 99999)) (by decide +kernel)
      have h187 := ML_k h171 h163
      have h188 : Imp (S169.1 = 0) (tK By Nb S169.2.2.1 = z180.toInt) := ML_t h171 h179
      have h189 : Imp (S169.1 = 0 ∧ tK By Nb S169.2.2.1 = 2) (z184.toInt = min 99999 (tV By Nb S169.2.2.1) ∧ 0 ≤ tV By Nb S169.2.2.1) := fun q => ML_u h171 h183 q.1 q.2
      have h190 : S169.2.2.2 2 = Sp.2.2.2 2 := by rw [h175, h149]
      refine En_Ps 2 (pc' := 56) (lv' := [(1, .int z164), (0, .ref 159)]) (st' := [.ref 159, .ref 159]) rfl ?_
      refine En_getK (j := 14) ((h158 _ _ (inW tgz_159 (by decide +kernel))).trans ((h136 _ _ (inW tgz_159 (by decide +kernel))).trans h19)) rfl rfl rfl tgz_159 (by decide +kernel) ?_
      refine En_Ps 1 (pc' := 60) (lv' := [(1, .int z164), (0, .ref 159)]) (st' := [.int ((Int32.ofInt 2)), .ref 165, .ref 159]) rfl ?_
      refine En_ialdK ((h158 _ _ (inWa tgz_165 (by decide +kernel))).trans ((h136 _ _ (inWa tgz_165 (by decide +kernel))).trans h12)) rfl (by decide : (Int32.ofInt 2).toInt = 2) tgz_165 (by decide +kernel) h157 (by omega) (lnI (by decide +kernel : LN _ = 226) (by omega)) ?_
      refine En_callV rfl rfl rfl rfl rfl rfl rfl rfl tgz_159 (by decide +kernel) rfl (c_260x σ156 h157 z13 z162 h163 z180 h179 z184 h183) (by decide) (by decide) (fun v193 σ194 h192 => ?_)
      obtain ⟨h195, h196, z198, rfl, h197⟩ := h192
      obtain rfl : σ156 = σ194 := Fr_nil h196
      refine En_iEq _ rfl rfl (fun h199 => ?_) (fun hx => by exfalso; have := Imp_m h197.2.2.1 (by omega); have := Imp_m h159.2.2.2.2.2.2.2.2.2.2.2.2.2.2.1 (by omega); have := Imp_m h159.2.2.2.2.2.2.2.2.2.2.2.2.2.2.2.1 (by omega); omega)
      have h200 : gTw2 By Nb (tV By Nb S143.2.2.1) S169 = S169 := by unfold gTw2; (repeat' split) <;> first | rfl | (exfalso; omega) | ((try have i0 := Imp_m h188 (by omega)); (try have i1 := Imp_m h174 (by omega)); (try have i2 := Imp_m h173 (by omega)); (try have i3 := Imp_m h147 (by omega)); (try have i4 := Imp_m h10 (by omega)); (try have i5 := Imp_m h11 (by omega)); (try have i6 := Imp_m h148 (by omega)); (try have i7 := Imp_m h189 (by omega)); (try have i8 := Imp_m h27.2.2.2 (by omega)); (try have i9 := Imp_m h159.2.2.2.2.2.2.2.2.2.2.2.2.2.2.1 (by omega)); (try have i10 := Imp_m h159.2.2.2.2.2.2.2.2.2.2.2.2.2.2.2.1 (by omega)); (try have i11 := Imp_m h197.2.2.1 (by omega)); (try have i12 := Imp_m h197.2.2.2 (by omega)); exfalso; omega)
      refine En_Ps 3 (pc' := 94) (lv' := [(1, .int z164), (0, .ref 159)]) (st' := [.ref 159, .int ((Int32.ofInt 0)), .ref 159]) rfl ?_
      refine En_getK (j := 14) ((h158 _ _ (inW tgz_159 (by decide +kernel))).trans ((h136 _ _ (inW tgz_159 (by decide +kernel))).trans h19)) rfl rfl rfl tgz_159 (by decide +kernel) ?_
      refine En_Ps 1 (pc' := 98) (lv' := [(1, .int z164), (0, .ref 159)]) (st' := [.int ((Int32.ofInt 2)), .ref 165, .int ((Int32.ofInt 0)), .ref 159]) rfl ?_
      refine En_ialdK ((h158 _ _ (inWa tgz_165 (by decide +kernel))).trans ((h136 _ _ (inWa tgz_165 (by decide +kernel))).trans h12)) rfl (by decide : (Int32.ofInt 2).toInt = 2) tgz_165 (by decide +kernel) h157 (by omega) (lnI (by decide +kernel : LN _ = 226) (by omega)) ?_
      refine En_Ps 2 (pc' := 101) (lv' := [(1, .int z164), (0, .ref 159)]) (st' := [.int ((z13 - ((Int32.ofInt 1)))), .int ((Int32.ofInt 0)), .ref 159]) rfl ?_
      refine En_top (subI rfl (by decide : (Int32.ofInt 1).toInt = 1) (by omega) (by omega)) (fun z202 h203 => ?_)
      have := (by decide : ((Int32.ofInt 0)).toInt = 0)
      refine En_callV rfl rfl rfl rfl rfl rfl rfl rfl tgz_159 (by decide +kernel) rfl (c_288x σ156 h157 ((Int32.ofInt 0)) z202 (geI (by decide : (Int32.ofInt 0).toInt = 0) (by omega)) (leI (by decide : (Int32.ofInt 0).toInt = 0) (by omega)) (geI rfl (by omega)) (leI rfl (by omega)) z160 h161 z162 h163 z180 h179 z184 h183 h171) (by decide) (by decide) (fun v205 σ206 h204 => ?_)
      obtain ⟨h207, h208, z210, h211, z212, h213, z214, rfl, h209⟩ := h204
      have h215 := h209.2.2.2.2.2.2.2.2.2.2.2.2.2.2.2.2
      have h216 := Fr_trans h166 h208 (by decide +kernel)
      have h217 := KF_fr h167 h208 (by decide +kernel)
      have h218 : tN By Nb ((Int32.ofInt 0)).toInt z202.toInt S169 = tN By Nb (0) (Sp.2.2.2 2 - 1) S169 := tN_cg2 (fun zz => by have j1 := Imp_m h173 zz; have j2 := Imp_m h174 zz; have j3 := Imp_m h147 j2.1; have j4 := Imp_m h148 ⟨j2.1, j2.2.1⟩; have j5 := Imp_m h188 zz; omega) (fun zz => by have j1 := Imp_m h173 zz; have j2 := Imp_m h174 zz; have j3 := Imp_m h147 j2.1; have j4 := Imp_m h148 ⟨j2.1, j2.2.1⟩; have j5 := Imp_m h188 zz; omega)
      obtain ⟨S219, h220⟩ : ∃ q : PS, q = tN By Nb (0) (Sp.2.2.2 2 - 1) S169 := ⟨_, rfl⟩
      have h221 : ML By Nb σ206 S219 := by rw [h220]; exact (ML_eq h215.1 h218)
      have h222 := ML_k h221 h213
      have h223 : Imp (S219.1 = 0) (z214.toInt = tV By Nb S169.2.2.1) := fun z => h215.2 (by rw [h218, ← h220]; exact z)
      have h224 : Imp (S219.1 = 0) (S169.1 = 0 ∧ tK By Nb S169.2.2.1 = 2 ∧ 0 ≤ tV By Nb S169.2.2.1 ∧ tV By Nb S169.2.2.1 ≤ Sp.2.2.2 2 - 1) := fun z => tN_gg (by rw [← h220]; exact z)
      have h225 : S219.2.2.2 = S169.2.2.2 := by rw [h220]; exact tN_w
      have h226 := Imp_m h209.2.2.2.2.2.2.2.2.2.2.2.1 (by omega)
      have h227 := Imp_m h209.2.2.2.2.2.2.2.2.2.2.2.2.1 (by omega)
      have h228 := Imp_m h209.2.2.2.2.2.2.2.2.2.2.2.2.2.1 (by omega)
      refine En_Ps 2 (pc' := 106) (lv' := [(2, .int z214), (1, .int z164), (0, .ref 159)]) (st' := [.ref 159]) rfl ?_
      refine En_callV rfl rfl rfl rfl rfl rfl rfl rfl tgz_159 (by decide +kernel) rfl (c_237 σ206 h207 z212 h213) (by decide) (by decide) (fun v230 σ231 h229 => ?_)
      obtain ⟨h232, h233, z235, rfl, h234⟩ := h229
      obtain rfl : σ206 = σ231 := Fr_nil h233
      refine En_iEq _ rfl rfl (fun h236 => ?_) (fun hx => by exfalso; have := Imp_m h159.2.2.2.2.2.2.2.2.2.2.2.2.2.2.1 (by omega); have := Imp_m h159.2.2.2.2.2.2.2.2.2.2.2.2.2.2.2.1 (by omega); have := Imp_m h197.2.2.2 (by omega); have := Imp_m h209.2.2.2.2.2.2.2.2.2.2.2.2.2.2.1 (by omega); have := Imp_m h209.2.2.2.2.2.2.2.2.2.2.2.2.2.2.2.1 (by omega); omega)
      exact En_ret (v := none) rfl rfl rfl ⟨h207, h216, z210, h211, z212, h213, rfl, ⟨by omega, by omega, by omega, by omega, by omega, by omega, by omega, fun _ => by omega, ⟨h217, ML_eq h221 (by unfold gTwin; dsimp only; rw [h150, ← h170, h200, ← h220]; first | done | rfl | (rw [if_pos (by omega)]; first | done | rfl) | (rw [if_neg (by omega)]; first | done | rfl))⟩⟩⟩
    · refine En_Ps 2 (pc' := 26) (lv' := [(0, .ref 159)]) (st' := [.ref 159, .ref 159]) rfl ?_
      refine En_getK (j := 11) h5 rfl rfl rfl tgz_159 (by decide +kernel) ?_
      refine En_callV rfl rfl rfl rfl rfl rfl rfl rfl tgz_159 (by decide +kernel) rfl (c_257x σ0 hσ0 z6) (by decide) (by decide) (fun v238 σ239 h237 => ?_)
      obtain ⟨h240, h241, z243, rfl, h242⟩ := h237
      have h244 := h242.2.2.2
      obtain rfl : σ0 = σ239 := Fr_nil h241
      have h245 := h244
      have h246 : cpI (ci σ0 165) (z6.toInt) = cpI Sp.2.2.2 (tV By Nb Sp.2.2.1) := ML_cp hM (by omega) (by omega)
      refine En_iEq _ rfl rfl (fun h247 => ?_) (fun h247 => ?_)
      · have h248 : gTw1 By Nb Sp = Sp := by unfold gTw1; (repeat' split) <;> first | rfl | (exfalso; omega) | ((try have i0 := Imp_m h10 (by omega)); (try have i1 := Imp_m h11 (by omega)); (try have i2 := Imp_m h27.2.2.2 (by omega)); (try have i3 := Imp_m h242.2.2.1 (by omega)); exfalso; omega)
        refine En_Ps 3 (pc' := 43) (lv' := [(0, .ref 159)]) (st' := [.ref 159, .int ((Int32.ofInt 0)), .ref 159]) rfl ?_
        refine En_getK (j := 14) h19 rfl rfl rfl tgz_159 (by decide +kernel) ?_
        refine En_Ps 1 (pc' := 47) (lv' := [(0, .ref 159)]) (st' := [.int ((Int32.ofInt 2)), .ref 165, .int ((Int32.ofInt 0)), .ref 159]) rfl ?_
        refine En_ialdK h12 rfl (by decide : (Int32.ofInt 2).toInt = 2) tgz_165 (by decide +kernel) hσ0 (by omega) (lnI (by decide +kernel : LN _ = 226) (by omega)) ?_
        refine En_Ps 2 (pc' := 50) (lv' := [(0, .ref 159)]) (st' := [.int ((z13 - ((Int32.ofInt 1)))), .int ((Int32.ofInt 0)), .ref 159]) rfl ?_
        refine En_top (subI rfl (by decide : (Int32.ofInt 1).toInt = 1) (by omega) (by omega)) (fun z250 h251 => ?_)
        have := (by decide : ((Int32.ofInt 0)).toInt = 0)
        refine En_callV rfl rfl rfl rfl rfl rfl rfl rfl tgz_159 (by decide +kernel) rfl (c_288x σ0 hσ0 ((Int32.ofInt 0)) z250 (geI (by decide : (Int32.ofInt 0).toInt = 0) (by omega)) (leI (by decide : (Int32.ofInt 0).toInt = 0) (by omega)) (geI rfl (by omega)) (leI rfl (by omega)) f h_f k h_k z2 h1 z6 h5 hM) (by decide) (by decide) (fun v253 σ254 h252 => ?_)
        obtain ⟨h255, h256, z258, h259, z260, h261, z262, rfl, h257⟩ := h252
        have h263 := h257.2.2.2.2.2.2.2.2.2.2.2.2.2.2.2.2
        have h264 := Fr_trans hF0 h256 (by decide +kernel)
        have h265 := KF_fr (KF_0 (σ := σ0)) h256 (by decide +kernel)
        have h266 : tN By Nb ((Int32.ofInt 0)).toInt z250.toInt Sp = tN By Nb (0) (Sp.2.2.2 2 - 1) Sp := tN_cg2 (fun zz => by have j1 := Imp_m h10 zz; omega) (fun zz => by have j1 := Imp_m h10 zz; omega)
        obtain ⟨S267, h268⟩ : ∃ q : PS, q = tN By Nb (0) (Sp.2.2.2 2 - 1) Sp := ⟨_, rfl⟩
        have h269 : ML By Nb σ254 S267 := by rw [h268]; exact (ML_eq h263.1 h266)
        have h270 := ML_k h269 h261
        have h271 : Imp (S267.1 = 0) (z262.toInt = tV By Nb Sp.2.2.1) := fun z => h263.2 (by rw [h266, ← h268]; exact z)
        have h272 : Imp (S267.1 = 0) (Sp.1 = 0 ∧ tK By Nb Sp.2.2.1 = 2 ∧ 0 ≤ tV By Nb Sp.2.2.1 ∧ tV By Nb Sp.2.2.1 ≤ Sp.2.2.2 2 - 1) := fun z => tN_gg (by rw [← h268]; exact z)
        have h273 : S267.2.2.2 = Sp.2.2.2 := by rw [h268]; exact tN_w
        have h274 := Imp_m h257.2.2.2.2.2.2.2.2.2.2.2.1 (by omega)
        have h275 := Imp_m h257.2.2.2.2.2.2.2.2.2.2.2.2.1 (by omega)
        have h276 := Imp_m h257.2.2.2.2.2.2.2.2.2.2.2.2.2.1 (by omega)
        refine En_Ps 1 (pc' := 54) (lv' := [(1, .int z262), (0, .ref 159)]) (st' := []) rfl ?_
        obtain ⟨z278, h277, h279, h280⟩ := WT_peekI h255 tgz_159 (by decide +kernel : FT 35 10 = (0, 0, 4)) (by decide +kernel)
        obtain ⟨z282, h281, h283, h284⟩ := WT_peekI h255 tgz_159 (by decide +kernel : FT 35 11 = (0, 0, 99999)) (by decide +kernel)
        have h285 := ML_k h269 h261
        have h286 : Imp (S267.1 = 0) (tK By Nb S267.2.2.1 = z278.toInt) := ML_t h269 h277
        have h287 : Imp (S267.1 = 0 ∧ tK By Nb S267.2.2.1 = 2) (z282.toInt = min 99999 (tV By Nb S267.2.2.1) ∧ 0 ≤ tV By Nb S267.2.2.1) := fun q => ML_u h269 h281 q.1 q.2
        have h288 : S267.2.2.2 2 = Sp.2.2.2 2 := by rw [h273]
        refine En_Ps 2 (pc' := 56) (lv' := [(1, .int z262), (0, .ref 159)]) (st' := [.ref 159, .ref 159]) rfl ?_
        refine En_getK (j := 14) ((h256 _ _ (inW tgz_159 (by decide +kernel))).trans h19) rfl rfl rfl tgz_159 (by decide +kernel) ?_
        refine En_Ps 1 (pc' := 60) (lv' := [(1, .int z262), (0, .ref 159)]) (st' := [.int ((Int32.ofInt 2)), .ref 165, .ref 159]) rfl ?_
        refine En_ialdK ((h256 _ _ (inWa tgz_165 (by decide +kernel))).trans h12) rfl (by decide : (Int32.ofInt 2).toInt = 2) tgz_165 (by decide +kernel) h255 (by omega) (lnI (by decide +kernel : LN _ = 226) (by omega)) ?_
        refine En_callV rfl rfl rfl rfl rfl rfl rfl rfl tgz_159 (by decide +kernel) rfl (c_260x σ254 h255 z13 z260 h261 z278 h277 z282 h281) (by decide) (by decide) (fun v291 σ292 h290 => ?_)
        obtain ⟨h293, h294, z296, rfl, h295⟩ := h290
        obtain rfl : σ254 = σ292 := Fr_nil h294
        refine En_iEq _ rfl rfl (fun h297 => ?_) (fun h297 => ?_)
        · have h298 : gTw2 By Nb (tV By Nb Sp.2.2.1) S267 = S267 := by unfold gTw2; (repeat' split) <;> first | rfl | (exfalso; omega) | ((try have i0 := Imp_m h286 (by omega)); (try have i1 := Imp_m h272 (by omega)); (try have i2 := Imp_m h271 (by omega)); (try have i3 := Imp_m h10 (by omega)); (try have i4 := Imp_m h11 (by omega)); (try have i5 := Imp_m h287 (by omega)); (try have i6 := Imp_m h27.2.2.2 (by omega)); (try have i7 := Imp_m h242.2.2.1 (by omega)); (try have i8 := Imp_m h257.2.2.2.2.2.2.2.2.2.2.2.2.2.2.1 (by omega)); (try have i9 := Imp_m h257.2.2.2.2.2.2.2.2.2.2.2.2.2.2.2.1 (by omega)); (try have i10 := Imp_m h295.2.2.1 (by omega)); (try have i11 := Imp_m h295.2.2.2 (by omega)); exfalso; omega)
          refine En_Ps 3 (pc' := 94) (lv' := [(1, .int z262), (0, .ref 159)]) (st' := [.ref 159, .int ((Int32.ofInt 0)), .ref 159]) rfl ?_
          refine En_getK (j := 14) ((h256 _ _ (inW tgz_159 (by decide +kernel))).trans h19) rfl rfl rfl tgz_159 (by decide +kernel) ?_
          refine En_Ps 1 (pc' := 98) (lv' := [(1, .int z262), (0, .ref 159)]) (st' := [.int ((Int32.ofInt 2)), .ref 165, .int ((Int32.ofInt 0)), .ref 159]) rfl ?_
          refine En_ialdK ((h256 _ _ (inWa tgz_165 (by decide +kernel))).trans h12) rfl (by decide : (Int32.ofInt 2).toInt = 2) tgz_165 (by decide +kernel) h255 (by omega) (lnI (by decide +kernel : LN _ = 226) (by omega)) ?_
          refine En_Ps 2 (pc' := 101) (lv' := [(1, .int z262), (0, .ref 159)]) (st' := [.int ((z13 - ((Int32.ofInt 1)))), .int ((Int32.ofInt 0)), .ref 159]) rfl ?_
          refine En_top (subI rfl (by decide : (Int32.ofInt 1).toInt = 1) (by omega) (by omega)) (fun z300 h301 => ?_)
          have := (by decide : ((Int32.ofInt 0)).toInt = 0)
          refine En_callV rfl rfl rfl rfl rfl rfl rfl rfl tgz_159 (by decide +kernel) rfl (c_288x σ254 h255 ((Int32.ofInt 0)) z300 (geI (by decide : (Int32.ofInt 0).toInt = 0) (by omega)) (leI (by decide : (Int32.ofInt 0).toInt = 0) (by omega)) (geI rfl (by omega)) (leI rfl (by omega)) z258 h259 z260 h261 z278 h277 z282 h281 h269) (by decide) (by decide) (fun v303 σ304 h302 => ?_)
          obtain ⟨h305, h306, z308, h309, z310, h311, z312, rfl, h307⟩ := h302
          have h313 := h307.2.2.2.2.2.2.2.2.2.2.2.2.2.2.2.2
          have h314 := Fr_trans h264 h306 (by decide +kernel)
          have h315 := KF_fr h265 h306 (by decide +kernel)
          have h316 : tN By Nb ((Int32.ofInt 0)).toInt z300.toInt S267 = tN By Nb (0) (Sp.2.2.2 2 - 1) S267 := tN_cg2 (fun zz => by have j1 := Imp_m h271 zz; have j2 := Imp_m h272 zz; have j3 := Imp_m h10 j2.1; have j4 := Imp_m h11 ⟨j2.1, j2.2.1⟩; have j5 := Imp_m h286 zz; omega) (fun zz => by have j1 := Imp_m h271 zz; have j2 := Imp_m h272 zz; have j3 := Imp_m h10 j2.1; have j4 := Imp_m h11 ⟨j2.1, j2.2.1⟩; have j5 := Imp_m h286 zz; omega)
          obtain ⟨S317, h318⟩ : ∃ q : PS, q = tN By Nb (0) (Sp.2.2.2 2 - 1) S267 := ⟨_, rfl⟩
          have h319 : ML By Nb σ304 S317 := by rw [h318]; exact (ML_eq h313.1 h316)
          have h320 := ML_k h319 h311
          have h321 : Imp (S317.1 = 0) (z312.toInt = tV By Nb S267.2.2.1) := fun z => h313.2 (by rw [h316, ← h318]; exact z)
          have h322 : Imp (S317.1 = 0) (S267.1 = 0 ∧ tK By Nb S267.2.2.1 = 2 ∧ 0 ≤ tV By Nb S267.2.2.1 ∧ tV By Nb S267.2.2.1 ≤ Sp.2.2.2 2 - 1) := fun z => tN_gg (by rw [← h318]; exact z)
          have h323 : S317.2.2.2 = S267.2.2.2 := by rw [h318]; exact tN_w
          have h324 := Imp_m h307.2.2.2.2.2.2.2.2.2.2.2.1 (by omega)
          have h325 := Imp_m h307.2.2.2.2.2.2.2.2.2.2.2.2.1 (by omega)
          have h326 := Imp_m h307.2.2.2.2.2.2.2.2.2.2.2.2.2.1 (by omega)
          refine En_Ps 2 (pc' := 106) (lv' := [(2, .int z312), (1, .int z262), (0, .ref 159)]) (st' := [.ref 159]) rfl ?_
          refine En_callV rfl rfl rfl rfl rfl rfl rfl rfl tgz_159 (by decide +kernel) rfl (c_237 σ304 h305 z310 h311) (by decide) (by decide) (fun v328 σ329 h327 => ?_)
          obtain ⟨h330, h331, z333, rfl, h332⟩ := h327
          obtain rfl : σ304 = σ329 := Fr_nil h331
          refine En_iEq _ rfl rfl (fun h334 => ?_) (fun hx => by exfalso; have := Imp_m h257.2.2.2.2.2.2.2.2.2.2.2.2.2.2.2.1 (by omega); have := Imp_m h307.2.2.2.2.2.2.2.2.2.2.2.2.2.2.2.1 (by omega); have := Imp_m h295.2.2.2 (by omega); have := Imp_m h307.2.2.2.2.2.2.2.2.2.2.2.2.2.2.1 (by omega); have := Imp_m h257.2.2.2.2.2.2.2.2.2.2.2.2.2.2.1 (by omega); omega)
          exact En_ret (v := none) rfl rfl rfl ⟨h305, h314, z308, h309, z310, h311, rfl, ⟨by omega, by omega, by omega, by omega, by omega, by omega, by omega, fun _ => by omega, ⟨h315, ML_eq h319 (by unfold gTwin; dsimp only; rw [h248, ← h268, h298, ← h318]; first | done | rfl | (rw [if_pos (by omega)]; first | done | rfl) | (rw [if_neg (by omega)]; first | done | rfl))⟩⟩⟩
        · have h335 := Imp_m h295.2.2.1 (by omega)
          have h336 := Imp_m h257.2.2.2.2.2.2.2.2.2.2.2.2.2.2.2.1 (by omega)
          have h337 : S267.1 = 0 := by omega
          have h338 := Imp_m h286 h337
          have h339 : tK By Nb S267.2.2.1 = 2 := by omega
          have h340 := Imp_m h271 h337
          have h341 := Imp_m h272 h337
          have h342 := Imp_m h10 h341.1
          have h343 := Imp_m h11 ⟨h341.1, h341.2.1⟩
          have h344 := Imp_m h286 h337
          have h345 := Imp_m h287 ⟨h337, h339⟩
          refine En_Ps 1 (pc' := 68) (lv' := [(1, .int z262), (0, .ref 159)]) (st' := [.ref 159]) rfl ?_
          refine En_getK (j := 11) h281 rfl rfl rfl tgz_159 (by decide +kernel) ?_
          refine En_Ps 1 (pc' := 72) (lv' := [(1, .int z262), (0, .ref 159)]) (st' := [.int z262, .int z282]) rfl ?_
          refine En_icEq _ rfl rfl rfl (fun h346 => ?_) (fun h346 => ?_)
          · refine En_Ps 2 (pc' := 88) (lv' := [(1, .int z262), (0, .ref 159)]) (st' := [.int ((Int32.ofInt 2)), .ref 159]) rfl ?_
            have := (by decide : ((Int32.ofInt 2)).toInt = 2)
            refine En_callV rfl rfl rfl rfl rfl rfl rfl rfl tgz_159 (by decide +kernel) rfl (c_223x σ254 h255 ((Int32.ofInt 2)) (geI (by decide : (Int32.ofInt 2).toInt = 2) (by omega)) (leI (by decide : (Int32.ofInt 2).toInt = 2) (by omega)) z260 h261 h269) (by decide) (by decide) (fun v348 σ349 h347 => ?_)
            obtain ⟨h350, h351, z353, h354, rfl, h352⟩ := h347
            have h355 := h352.2.2.2.2
            have h356 := Fr_trans h264 h351 (by decide +kernel)
            have h357 := KF_fr h265 h351 (by decide +kernel)
            obtain ⟨S358, h359⟩ : ∃ q : PS, q = err By Nb 2 S267 := ⟨_, rfl⟩
            have h360 : ML By Nb σ349 S358 := by rw [h359]; exact (ML_eq h355 (err_cg (by omega)))
            have h361 := ML_k h360 h354
            have h362 : Imp (S358.1 = 0) (tK By Nb S358.2.2.1 = z278.toInt) := ML_t h360 ((h351 _ _ (inW tgz_159 (by decide +kernel))).trans h277)
            have h363 : Imp (S358.1 = 0 ∧ tK By Nb S358.2.2.1 = 2) (z282.toInt = min 99999 (tV By Nb S358.2.2.1) ∧ 0 ≤ tV By Nb S358.2.2.1) := fun q => ML_u h360 ((h351 _ _ (inW tgz_159 (by decide +kernel))).trans h281) q.1 q.2
            have h364 : S358.2.2.2 = S267.2.2.2 := by rw [h359]; exact err_w
            have h365 : gTw2 By Nb (tV By Nb Sp.2.2.1) S267 = S358 := by rw [h359]; unfold gTw2; (repeat' split) <;> first | rfl | (exfalso; omega) | ((try have i0 := Imp_m h362 (by omega)); (try have i1 := Imp_m h286 (by omega)); (try have i2 := Imp_m h272 (by omega)); (try have i3 := Imp_m h271 (by omega)); (try have i4 := Imp_m h10 (by omega)); (try have i5 := Imp_m h11 (by omega)); (try have i6 := Imp_m h287 (by omega)); (try have i7 := Imp_m h363 (by omega)); (try have i8 := Imp_m h27.2.2.2 (by omega)); (try have i9 := Imp_m h242.2.2.1 (by omega)); (try have i10 := Imp_m h257.2.2.2.2.2.2.2.2.2.2.2.2.2.2.1 (by omega)); (try have i11 := Imp_m h295.2.2.2 (by omega)); exfalso; omega)
            refine En_Ps 3 (pc' := 94) (lv' := [(1, .int z262), (0, .ref 159)]) (st' := [.ref 159, .int ((Int32.ofInt 0)), .ref 159]) rfl ?_
            refine En_getK (j := 14) ((h351 _ _ (inW tgz_159 (by decide +kernel))).trans ((h256 _ _ (inW tgz_159 (by decide +kernel))).trans h19)) rfl rfl rfl tgz_159 (by decide +kernel) ?_
            refine En_Ps 1 (pc' := 98) (lv' := [(1, .int z262), (0, .ref 159)]) (st' := [.int ((Int32.ofInt 2)), .ref 165, .int ((Int32.ofInt 0)), .ref 159]) rfl ?_
            refine En_ialdK ((h351 _ _ (inWa tgz_165 (by decide +kernel))).trans ((h256 _ _ (inWa tgz_165 (by decide +kernel))).trans h12)) rfl (by decide : (Int32.ofInt 2).toInt = 2) tgz_165 (by decide +kernel) h350 (by omega) (lnI (by decide +kernel : LN _ = 226) (by omega)) ?_
            refine En_Ps 2 (pc' := 101) (lv' := [(1, .int z262), (0, .ref 159)]) (st' := [.int ((z13 - ((Int32.ofInt 1)))), .int ((Int32.ofInt 0)), .ref 159]) rfl ?_
            refine En_top (subI rfl (by decide : (Int32.ofInt 1).toInt = 1) (by omega) (by omega)) (fun z367 h368 => ?_)
            have := (by decide : ((Int32.ofInt 0)).toInt = 0)
            refine En_callV rfl rfl rfl rfl rfl rfl rfl rfl tgz_159 (by decide +kernel) rfl (c_288x σ349 h350 ((Int32.ofInt 0)) z367 (geI (by decide : (Int32.ofInt 0).toInt = 0) (by omega)) (leI (by decide : (Int32.ofInt 0).toInt = 0) (by omega)) (geI rfl (by omega)) (leI rfl (by omega)) z258 ((h351 _ _ (inW tgz_159 (by decide +kernel))).trans h259) z353 h354 z278 ((h351 _ _ (inW tgz_159 (by decide +kernel))).trans h277) z282 ((h351 _ _ (inW tgz_159 (by decide +kernel))).trans h281) h360) (by decide) (by decide) (fun v370 σ371 h369 => ?_)
            obtain ⟨h372, h373, z375, h376, z377, h378, z379, rfl, h374⟩ := h369
            have h380 := h374.2.2.2.2.2.2.2.2.2.2.2.2.2.2.2.2
            have h381 := Fr_trans h356 h373 (by decide +kernel)
            have h382 := KF_fr h357 h373 (by decide +kernel)
            have h383 : tN By Nb ((Int32.ofInt 0)).toInt z367.toInt S358 = tN By Nb (0) (Sp.2.2.2 2 - 1) S358 := tN_cg2 (fun zz => by have j1 := Imp_m h362 zz; omega) (fun zz => by have j1 := Imp_m h362 zz; omega)
            obtain ⟨S384, h385⟩ : ∃ q : PS, q = tN By Nb (0) (Sp.2.2.2 2 - 1) S358 := ⟨_, rfl⟩
            have h386 : ML By Nb σ371 S384 := by rw [h385]; exact (ML_eq h380.1 h383)
            have h387 := ML_k h386 h378
            have h388 : Imp (S384.1 = 0) (z379.toInt = tV By Nb S358.2.2.1) := fun z => h380.2 (by rw [h383, ← h385]; exact z)
            have h389 : Imp (S384.1 = 0) (S358.1 = 0 ∧ tK By Nb S358.2.2.1 = 2 ∧ 0 ≤ tV By Nb S358.2.2.1 ∧ tV By Nb S358.2.2.1 ≤ Sp.2.2.2 2 - 1) := fun z => tN_gg (by rw [← h385]; exact z)
            have h390 : S384.2.2.2 = S358.2.2.2 := by rw [h385]; exact tN_w
            have h391 := Imp_m h374.2.2.2.2.2.2.2.2.2.2.2.1 (by omega)
            have h392 := Imp_m h374.2.2.2.2.2.2.2.2.2.2.2.2.1 (by omega)
            have h393 := Imp_m h374.2.2.2.2.2.2.2.2.2.2.2.2.2.1 (by omega)
            refine En_Ps 2 (pc' := 106) (lv' := [(2, .int z379), (1, .int z262), (0, .ref 159)]) (st' := [.ref 159]) rfl ?_
            refine En_callV rfl rfl rfl rfl rfl rfl rfl rfl tgz_159 (by decide +kernel) rfl (c_237 σ371 h372 z377 h378) (by decide) (by decide) (fun v395 σ396 h394 => ?_)
            obtain ⟨h397, h398, z400, rfl, h399⟩ := h394
            obtain rfl : σ371 = σ396 := Fr_nil h398
            refine En_iEq _ rfl rfl (fun h401 => ?_) (fun hx => by exfalso; have := Imp_m h257.2.2.2.2.2.2.2.2.2.2.2.2.2.2.1 (by omega); have := Imp_m h374.2.2.2.2.2.2.2.2.2.2.2.2.2.2.1 (by omega); have := Imp_m h374.2.2.2.2.2.2.2.2.2.2.2.2.2.2.2.1 (by omega); omega)
            exact En_ret (v := none) rfl rfl rfl ⟨h372, h381, z375, h376, z377, h378, rfl, ⟨by omega, by omega, by omega, by omega, by omega, by omega, by omega, fun _ => by omega, ⟨h382, ML_eq h386 (by unfold gTwin; dsimp only; rw [h248, ← h268, h365, ← h385]; first | done | rfl | (rw [if_pos (by omega)]; first | done | rfl) | (rw [if_neg (by omega)]; first | done | rfl))⟩⟩⟩
          · refine En_Ps 2 (pc' := 77) (lv' := [(1, .int z262), (0, .ref 159)]) (st' := [.ref 159, .ref 159]) rfl ?_
            refine En_getK (j := 11) h281 rfl rfl rfl tgz_159 (by decide +kernel) ?_
            refine En_callV rfl rfl rfl rfl rfl rfl rfl rfl tgz_159 (by decide +kernel) rfl (c_217x σ254 h255 z282 (geI rfl (by omega)) (leI rfl (by omega))) (by decide) (by decide) (fun v403 σ404 h402 => ?_)
            obtain ⟨h405, h406, z408, rfl, h407⟩ := h402
            have h409 := h407.2.2
            obtain rfl : σ254 = σ404 := Fr_nil h406
            have h410 := h409
            have h411 : ci σ254 165 (13 + 4 * z282.toInt) = S267.2.2.2 (13 + 4 * tV By Nb S267.2.2.1) := ML_ci h269 (by omega) (by omega) (by omega) (by omega)
            refine En_iEq _ rfl rfl (fun h412 => ?_) (fun h412 => ?_)
            · have h413 : gTw2 By Nb (tV By Nb Sp.2.2.1) S267 = S267 := by unfold gTw2; (repeat' split) <;> first | rfl | (exfalso; omega) | ((try have i0 := Imp_m h286 (by omega)); (try have i1 := Imp_m h272 (by omega)); (try have i2 := Imp_m h271 (by omega)); (try have i3 := Imp_m h10 (by omega)); (try have i4 := Imp_m h11 (by omega)); (try have i5 := Imp_m h287 (by omega)); (try have i6 := Imp_m h27.2.2.2 (by omega)); (try have i7 := Imp_m h242.2.2.1 (by omega)); (try have i8 := Imp_m h257.2.2.2.2.2.2.2.2.2.2.2.2.2.2.1 (by omega)); (try have i9 := Imp_m h295.2.2.2 (by omega)); exfalso; omega)
              refine En_Ps 3 (pc' := 94) (lv' := [(1, .int z262), (0, .ref 159)]) (st' := [.ref 159, .int ((Int32.ofInt 0)), .ref 159]) rfl ?_
              refine En_getK (j := 14) ((h256 _ _ (inW tgz_159 (by decide +kernel))).trans h19) rfl rfl rfl tgz_159 (by decide +kernel) ?_
              refine En_Ps 1 (pc' := 98) (lv' := [(1, .int z262), (0, .ref 159)]) (st' := [.int ((Int32.ofInt 2)), .ref 165, .int ((Int32.ofInt 0)), .ref 159]) rfl ?_
              refine En_ialdK ((h256 _ _ (inWa tgz_165 (by decide +kernel))).trans h12) rfl (by decide : (Int32.ofInt 2).toInt = 2) tgz_165 (by decide +kernel) h255 (by omega) (lnI (by decide +kernel : LN _ = 226) (by omega)) ?_
              refine En_Ps 2 (pc' := 101) (lv' := [(1, .int z262), (0, .ref 159)]) (st' := [.int ((z13 - ((Int32.ofInt 1)))), .int ((Int32.ofInt 0)), .ref 159]) rfl ?_
              refine En_top (subI rfl (by decide : (Int32.ofInt 1).toInt = 1) (by omega) (by omega)) (fun z415 h416 => ?_)
              have := (by decide : ((Int32.ofInt 0)).toInt = 0)
              refine En_callV rfl rfl rfl rfl rfl rfl rfl rfl tgz_159 (by decide +kernel) rfl (c_288x σ254 h255 ((Int32.ofInt 0)) z415 (geI (by decide : (Int32.ofInt 0).toInt = 0) (by omega)) (leI (by decide : (Int32.ofInt 0).toInt = 0) (by omega)) (geI rfl (by omega)) (leI rfl (by omega)) z258 h259 z260 h261 z278 h277 z282 h281 h269) (by decide) (by decide) (fun v418 σ419 h417 => ?_)
              obtain ⟨h420, h421, z423, h424, z425, h426, z427, rfl, h422⟩ := h417
              have h428 := h422.2.2.2.2.2.2.2.2.2.2.2.2.2.2.2.2
              have h429 := Fr_trans h264 h421 (by decide +kernel)
              have h430 := KF_fr h265 h421 (by decide +kernel)
              have h431 : tN By Nb ((Int32.ofInt 0)).toInt z415.toInt S267 = tN By Nb (0) (Sp.2.2.2 2 - 1) S267 := tN_cg2 (fun zz => by have j1 := Imp_m h271 zz; have j2 := Imp_m h272 zz; have j3 := Imp_m h10 j2.1; have j4 := Imp_m h11 ⟨j2.1, j2.2.1⟩; have j5 := Imp_m h286 zz; omega) (fun zz => by have j1 := Imp_m h271 zz; have j2 := Imp_m h272 zz; have j3 := Imp_m h10 j2.1; have j4 := Imp_m h11 ⟨j2.1, j2.2.1⟩; have j5 := Imp_m h286 zz; omega)
              obtain ⟨S432, h433⟩ : ∃ q : PS, q = tN By Nb (0) (Sp.2.2.2 2 - 1) S267 := ⟨_, rfl⟩
              have h434 : ML By Nb σ419 S432 := by rw [h433]; exact (ML_eq h428.1 h431)
              have h435 := ML_k h434 h426
              have h436 : Imp (S432.1 = 0) (z427.toInt = tV By Nb S267.2.2.1) := fun z => h428.2 (by rw [h431, ← h433]; exact z)
              have h437 : Imp (S432.1 = 0) (S267.1 = 0 ∧ tK By Nb S267.2.2.1 = 2 ∧ 0 ≤ tV By Nb S267.2.2.1 ∧ tV By Nb S267.2.2.1 ≤ Sp.2.2.2 2 - 1) := fun z => tN_gg (by rw [← h433]; exact z)
              have h438 : S432.2.2.2 = S267.2.2.2 := by rw [h433]; exact tN_w
              have h439 := Imp_m h422.2.2.2.2.2.2.2.2.2.2.2.1 (by omega)
              have h440 := Imp_m h422.2.2.2.2.2.2.2.2.2.2.2.2.1 (by omega)
              have h441 := Imp_m h422.2.2.2.2.2.2.2.2.2.2.2.2.2.1 (by omega)
              refine En_Ps 2 (pc' := 106) (lv' := [(2, .int z427), (1, .int z262), (0, .ref 159)]) (st' := [.ref 159]) rfl ?_
              refine En_callV rfl rfl rfl rfl rfl rfl rfl rfl tgz_159 (by decide +kernel) rfl (c_237 σ419 h420 z425 h426) (by decide) (by decide) (fun v443 σ444 h442 => ?_)
              obtain ⟨h445, h446, z448, rfl, h447⟩ := h442
              obtain rfl : σ419 = σ444 := Fr_nil h446
              refine En_iEq _ rfl rfl (fun h449 => ?_) (fun h449 => ?_)
              · exact En_ret (v := none) rfl rfl rfl ⟨h420, h429, z423, h424, z425, h426, rfl, ⟨by omega, by omega, by omega, by omega, by omega, by omega, by omega, fun _ => by omega, ⟨h430, ML_eq h434 (by unfold gTwin; dsimp only; rw [h248, ← h268, h413, ← h433]; first | done | rfl | (rw [if_pos (by omega)]; first | done | rfl) | (rw [if_neg (by omega)]; first | done | rfl))⟩⟩⟩
              · have h450 := Imp_m h422.2.2.2.2.2.2.2.2.2.2.2.2.2.2.2.1 (by omega)
                have h451 : S432.1 = 0 := by omega
                have h452 := Imp_m h436 h451
                have h453 := Imp_m h437 h451
                have h454 := Imp_m h271 h453.1
                have h455 := Imp_m h272 h453.1
                have h456 := Imp_m h10 h455.1
                have h457 := Imp_m h11 ⟨h455.1, h455.2.1⟩
                have h458 := Imp_m h286 h453.1
                have h459 := Imp_m h287 ⟨h453.1, h453.2.1⟩
                refine En_Ps 1 (pc' := 113) (lv' := [(2, .int z427), (1, .int z262), (0, .ref 159)]) (st' := [.ref 159]) rfl ?_
                refine En_getK (j := 14) ((h421 _ _ (inW tgz_159 (by decide +kernel))).trans ((h256 _ _ (inW tgz_159 (by decide +kernel))).trans h19)) rfl rfl rfl tgz_159 (by decide +kernel) ?_
                refine En_Ps 4 (pc' := 121) (lv' := [(2, .int z427), (1, .int z262), (0, .ref 159)]) (st' := [.int ((((Int32.ofInt 4)) * z262)), .int (((Int8.ofInt 10).toInt32)), .ref 165]) rfl ?_
                refine En_top (mulI (by decide : (Int32.ofInt 4).toInt = 4) rfl (Z := 4 * z262.toInt) (by omega) (by omega) (by omega)) (fun z460 h461 => ?_)
                refine En_Ps 1 (pc' := 122) (lv' := [(2, .int z427), (1, .int z262), (0, .ref 159)]) (st' := [.int (((((Int8.ofInt 10).toInt32)) + z460)), .ref 165]) rfl ?_
                refine En_top (addI (by decide : ((Int8.ofInt 10).toInt32).toInt = 10) rfl (by omega) (by omega)) (fun z462 h463 => ?_)
                refine En_Ps 2 (pc' := 124) (lv' := [(2, .int z427), (1, .int z262), (0, .ref 159)]) (st' := [.int ((z462 + ((Int32.ofInt 3)))), .ref 165]) rfl ?_
                refine En_top (addI rfl (by decide : (Int32.ofInt 3).toInt = 3) (by omega) (by omega)) (fun z464 h465 => ?_)
                refine En_Ps 1 (pc' := 125) (lv' := [(2, .int z427), (1, .int z262), (0, .ref 159)]) (st' := [.int z427, .int z464, .ref 165]) rfl ?_
                refine En_iast (l := (-1)) (u := 3) rfl rfl tgz_165 (by decide +kernel) (by omega) (lnI (by decide +kernel : LN _ = 226) (by omega)) (FTrow 41 13 4 4 (by decide +kernel) (by omega) (by omega) (by omega)) (rngI rfl (by omega) (by omega)) h420 h429 (by decide +kernel) (fun σ466 h467 h468 h469 h470 => ?_)
                have h471 := KF_st h430 (J := z464.toInt) h470 (by omega) (by omega)
                obtain ⟨S472, h473⟩ : ∃ q : PS, q = wst S432 (13 + 4 * (tV By Nb Sp.2.2.1)) ((tV By Nb S267.2.2.1)) := ⟨_, rfl⟩
                have h474 : ML By Nb σ466 S472 := by rw [h473]; exact (ML_wst (i := 13 + 4 * (tV By Nb Sp.2.2.1)) (v := (tV By Nb S267.2.2.1)) h434 h469 h470 (by omega) (fun z => by have j1 := Imp_m h436 z; have j2 := Imp_m h437 z; have j3 := Imp_m h271 j2.1; have j4 := Imp_m h272 j2.1; have j5 := Imp_m h10 j4.1; have j6 := Imp_m h11 ⟨j4.1, j4.2.1⟩; have j7 := Imp_m h286 j2.1; have j8 := Imp_m h287 ⟨j2.1, j2.2.1⟩; exact ⟨by omega, by omega⟩))
                have h475 := ML_k h474 ((h470 _ _ (Or.inl (neTG tgz_159 tgz_165 (by decide)))).trans h426)
                have h476 : S472.1 = S432.1 := by rw [h473]; rfl
                exact En_ret (v := none) rfl rfl rfl ⟨h467, h468, z423, ((h470 _ _ (Or.inl (neTG tgz_159 tgz_165 (by decide)))).trans h424), z425, ((h470 _ _ (Or.inl (neTG tgz_159 tgz_165 (by decide)))).trans h426), rfl, ⟨by omega, by omega, by omega, by omega, by omega, by omega, by omega, fun _ => by omega, ⟨h471, ML_eq h474 (by unfold gTwin; dsimp only; rw [h248, ← h268, h413, ← h433, ← h473]; first | done | rfl | (rw [if_pos (by omega)]; first | done | rfl) | (rw [if_neg (by omega)]; first | done | rfl))⟩⟩⟩
            · refine En_Ps 2 (pc' := 88) (lv' := [(1, .int z262), (0, .ref 159)]) (st' := [.int ((Int32.ofInt 2)), .ref 159]) rfl ?_
              have := (by decide : ((Int32.ofInt 2)).toInt = 2)
              refine En_callV rfl rfl rfl rfl rfl rfl rfl rfl tgz_159 (by decide +kernel) rfl (c_223x σ254 h255 ((Int32.ofInt 2)) (geI (by decide : (Int32.ofInt 2).toInt = 2) (by omega)) (leI (by decide : (Int32.ofInt 2).toInt = 2) (by omega)) z260 h261 h269) (by decide) (by decide) (fun v478 σ479 h477 => ?_)
              obtain ⟨h480, h481, z483, h484, rfl, h482⟩ := h477
              have h485 := h482.2.2.2.2
              have h486 := Fr_trans h264 h481 (by decide +kernel)
              have h487 := KF_fr h265 h481 (by decide +kernel)
              obtain ⟨S488, h489⟩ : ∃ q : PS, q = err By Nb 2 S267 := ⟨_, rfl⟩
              have h490 : ML By Nb σ479 S488 := by rw [h489]; exact (ML_eq h485 (err_cg (by omega)))
              have h491 := ML_k h490 h484
              have h492 : Imp (S488.1 = 0) (tK By Nb S488.2.2.1 = z278.toInt) := ML_t h490 ((h481 _ _ (inW tgz_159 (by decide +kernel))).trans h277)
              have h493 : Imp (S488.1 = 0 ∧ tK By Nb S488.2.2.1 = 2) (z282.toInt = min 99999 (tV By Nb S488.2.2.1) ∧ 0 ≤ tV By Nb S488.2.2.1) := fun q => ML_u h490 ((h481 _ _ (inW tgz_159 (by decide +kernel))).trans h281) q.1 q.2
              have h494 : S488.2.2.2 = S267.2.2.2 := by rw [h489]; exact err_w
              have h495 : gTw2 By Nb (tV By Nb Sp.2.2.1) S267 = S488 := by rw [h489]; unfold gTw2; (repeat' split) <;> first | rfl | (exfalso; omega) | ((try have i0 := Imp_m h492 (by omega)); (try have i1 := Imp_m h286 (by omega)); (try have i2 := Imp_m h272 (by omega)); (try have i3 := Imp_m h271 (by omega)); (try have i4 := Imp_m h10 (by omega)); (try have i5 := Imp_m h11 (by omega)); (try have i6 := Imp_m h287 (by omega)); (try have i7 := Imp_m h493 (by omega)); (try have i8 := Imp_m h27.2.2.2 (by omega)); (try have i9 := Imp_m h242.2.2.1 (by omega)); (try have i10 := Imp_m h257.2.2.2.2.2.2.2.2.2.2.2.2.2.2.1 (by omega)); (try have i11 := Imp_m h295.2.2.2 (by omega)); exfalso; omega)
              refine En_Ps 3 (pc' := 94) (lv' := [(1, .int z262), (0, .ref 159)]) (st' := [.ref 159, .int ((Int32.ofInt 0)), .ref 159]) rfl ?_
              refine En_getK (j := 14) ((h481 _ _ (inW tgz_159 (by decide +kernel))).trans ((h256 _ _ (inW tgz_159 (by decide +kernel))).trans h19)) rfl rfl rfl tgz_159 (by decide +kernel) ?_
              refine En_Ps 1 (pc' := 98) (lv' := [(1, .int z262), (0, .ref 159)]) (st' := [.int ((Int32.ofInt 2)), .ref 165, .int ((Int32.ofInt 0)), .ref 159]) rfl ?_
              refine En_ialdK ((h481 _ _ (inWa tgz_165 (by decide +kernel))).trans ((h256 _ _ (inWa tgz_165 (by decide +kernel))).trans h12)) rfl (by decide : (Int32.ofInt 2).toInt = 2) tgz_165 (by decide +kernel) h480 (by omega) (lnI (by decide +kernel : LN _ = 226) (by omega)) ?_
              refine En_Ps 2 (pc' := 101) (lv' := [(1, .int z262), (0, .ref 159)]) (st' := [.int ((z13 - ((Int32.ofInt 1)))), .int ((Int32.ofInt 0)), .ref 159]) rfl ?_
              refine En_top (subI rfl (by decide : (Int32.ofInt 1).toInt = 1) (by omega) (by omega)) (fun z497 h498 => ?_)
              have := (by decide : ((Int32.ofInt 0)).toInt = 0)
              refine En_callV rfl rfl rfl rfl rfl rfl rfl rfl tgz_159 (by decide +kernel) rfl (c_288x σ479 h480 ((Int32.ofInt 0)) z497 (geI (by decide : (Int32.ofInt 0).toInt = 0) (by omega)) (leI (by decide : (Int32.ofInt 0).toInt = 0) (by omega)) (geI rfl (by omega)) (leI rfl (by omega)) z258 ((h481 _ _ (inW tgz_159 (by decide +kernel))).trans h259) z483 h484 z278 ((h481 _ _ (inW tgz_159 (by decide +kernel))).trans h277) z282 ((h481 _ _ (inW tgz_159 (by decide +kernel))).trans h281) h490) (by decide) (by decide) (fun v500 σ501 h499 => ?_)
              obtain ⟨h502, h503, z505, h506, z507, h508, z509, rfl, h504⟩ := h499
              have h510 := h504.2.2.2.2.2.2.2.2.2.2.2.2.2.2.2.2
              have h511 := Fr_trans h486 h503 (by decide +kernel)
              have h512 := KF_fr h487 h503 (by decide +kernel)
              have h513 : tN By Nb ((Int32.ofInt 0)).toInt z497.toInt S488 = tN By Nb (0) (Sp.2.2.2 2 - 1) S488 := tN_cg2 (fun zz => by have j1 := Imp_m h492 zz; omega) (fun zz => by have j1 := Imp_m h492 zz; omega)
              obtain ⟨S514, h515⟩ : ∃ q : PS, q = tN By Nb (0) (Sp.2.2.2 2 - 1) S488 := ⟨_, rfl⟩
              have h516 : ML By Nb σ501 S514 := by rw [h515]; exact (ML_eq h510.1 h513)
              have h517 := ML_k h516 h508
              have h518 : Imp (S514.1 = 0) (z509.toInt = tV By Nb S488.2.2.1) := fun z => h510.2 (by rw [h513, ← h515]; exact z)
              have h519 : Imp (S514.1 = 0) (S488.1 = 0 ∧ tK By Nb S488.2.2.1 = 2 ∧ 0 ≤ tV By Nb S488.2.2.1 ∧ tV By Nb S488.2.2.1 ≤ Sp.2.2.2 2 - 1) := fun z => tN_gg (by rw [← h515]; exact z)
              have h520 : S514.2.2.2 = S488.2.2.2 := by rw [h515]; exact tN_w
              have h521 := Imp_m h504.2.2.2.2.2.2.2.2.2.2.2.1 (by omega)
              have h522 := Imp_m h504.2.2.2.2.2.2.2.2.2.2.2.2.1 (by omega)
              have h523 := Imp_m h504.2.2.2.2.2.2.2.2.2.2.2.2.2.1 (by omega)
              refine En_Ps 2 (pc' := 106) (lv' := [(2, .int z509), (1, .int z262), (0, .ref 159)]) (st' := [.ref 159]) rfl ?_
              refine En_callV rfl rfl rfl rfl rfl rfl rfl rfl tgz_159 (by decide +kernel) rfl (c_237 σ501 h502 z507 h508) (by decide) (by decide) (fun v525 σ526 h524 => ?_)
              obtain ⟨h527, h528, z530, rfl, h529⟩ := h524
              obtain rfl : σ501 = σ526 := Fr_nil h528
              refine En_iEq _ rfl rfl (fun h531 => ?_) (fun hx => by exfalso; have := Imp_m h257.2.2.2.2.2.2.2.2.2.2.2.2.2.2.1 (by omega); have := Imp_m h504.2.2.2.2.2.2.2.2.2.2.2.2.2.2.1 (by omega); have := Imp_m h504.2.2.2.2.2.2.2.2.2.2.2.2.2.2.2.1 (by omega); omega)
              exact En_ret (v := none) rfl rfl rfl ⟨h502, h511, z505, h506, z507, h508, rfl, ⟨by omega, by omega, by omega, by omega, by omega, by omega, by omega, fun _ => by omega, ⟨h512, ML_eq h516 (by unfold gTwin; dsimp only; rw [h248, ← h268, h495, ← h515]; first | done | rfl | (rw [if_pos (by omega)]; first | done | rfl) | (rw [if_neg (by omega)]; first | done | rfl))⟩⟩⟩
      · have h532 := Imp_m h242.2.2.1 (by omega)
        refine En_Ps 2 (pc' := 37) (lv' := [(0, .ref 159)]) (st' := [.int ((Int32.ofInt 2)), .ref 159]) rfl ?_
        have := (by decide : ((Int32.ofInt 2)).toInt = 2)
        refine En_callV rfl rfl rfl rfl rfl rfl rfl rfl tgz_159 (by decide +kernel) rfl (c_223x σ0 hσ0 ((Int32.ofInt 2)) (geI (by decide : (Int32.ofInt 2).toInt = 2) (by omega)) (leI (by decide : (Int32.ofInt 2).toInt = 2) (by omega)) k h_k hM) (by decide) (by decide) (fun v534 σ535 h533 => ?_)
        obtain ⟨h536, h537, z539, h540, rfl, h538⟩ := h533
        have h541 := h538.2.2.2.2
        have h542 := Fr_trans hF0 h537 (by decide +kernel)
        have h543 := KF_fr (KF_0 (σ := σ0)) h537 (by decide +kernel)
        obtain ⟨S544, h545⟩ : ∃ q : PS, q = err By Nb 2 Sp := ⟨_, rfl⟩
        have h546 : ML By Nb σ535 S544 := by rw [h545]; exact (ML_eq h541 (err_cg (by omega)))
        have h547 := ML_k h546 h540
        have h548 : Imp (S544.1 = 0) (tK By Nb S544.2.2.1 = z2.toInt) := ML_t h546 ((h537 _ _ (inW tgz_159 (by decide +kernel))).trans h1)
        have h549 : Imp (S544.1 = 0 ∧ tK By Nb S544.2.2.1 = 2) (z6.toInt = min 99999 (tV By Nb S544.2.2.1) ∧ 0 ≤ tV By Nb S544.2.2.1) := fun q => ML_u h546 ((h537 _ _ (inW tgz_159 (by decide +kernel))).trans h5) q.1 q.2
        have h550 : S544.2.2.2 = Sp.2.2.2 := by rw [h545]; exact err_w
        have h551 : gTw1 By Nb Sp = S544 := by rw [h545]; unfold gTw1; (repeat' split) <;> first | rfl | (exfalso; omega) | ((try have i0 := Imp_m h548 (by omega)); (try have i1 := Imp_m h10 (by omega)); (try have i2 := Imp_m h11 (by omega)); (try have i3 := Imp_m h549 (by omega)); (try have i4 := Imp_m h27.2.2.2 (by omega)); exfalso; omega)
        refine En_Ps 3 (pc' := 43) (lv' := [(0, .ref 159)]) (st' := [.ref 159, .int ((Int32.ofInt 0)), .ref 159]) rfl ?_
        refine En_getK (j := 14) ((h537 _ _ (inW tgz_159 (by decide +kernel))).trans h19) rfl rfl rfl tgz_159 (by decide +kernel) ?_
        refine En_Ps 1 (pc' := 47) (lv' := [(0, .ref 159)]) (st' := [.int ((Int32.ofInt 2)), .ref 165, .int ((Int32.ofInt 0)), .ref 159]) rfl ?_
        refine En_ialdK ((h537 _ _ (inWa tgz_165 (by decide +kernel))).trans h12) rfl (by decide : (Int32.ofInt 2).toInt = 2) tgz_165 (by decide +kernel) h536 (by omega) (lnI (by decide +kernel : LN _ = 226) (by omega)) ?_
        refine En_Ps 2 (pc' := 50) (lv' := [(0, .ref 159)]) (st' := [.int ((z13 - ((Int32.ofInt 1)))), .int ((Int32.ofInt 0)), .ref 159]) rfl ?_
        refine En_top (subI rfl (by decide : (Int32.ofInt 1).toInt = 1) (by omega) (by omega)) (fun z553 h554 => ?_)
        have := (by decide : ((Int32.ofInt 0)).toInt = 0)
        refine En_callV rfl rfl rfl rfl rfl rfl rfl rfl tgz_159 (by decide +kernel) rfl (c_288x σ535 h536 ((Int32.ofInt 0)) z553 (geI (by decide : (Int32.ofInt 0).toInt = 0) (by omega)) (leI (by decide : (Int32.ofInt 0).toInt = 0) (by omega)) (geI rfl (by omega)) (leI rfl (by omega)) f ((h537 _ _ (inW tgz_159 (by decide +kernel))).trans h_f) z539 h540 z2 ((h537 _ _ (inW tgz_159 (by decide +kernel))).trans h1) z6 ((h537 _ _ (inW tgz_159 (by decide +kernel))).trans h5) h546) (by decide) (by decide) (fun v556 σ557 h555 => ?_)
        obtain ⟨h558, h559, z561, h562, z563, h564, z565, rfl, h560⟩ := h555
        have h566 := h560.2.2.2.2.2.2.2.2.2.2.2.2.2.2.2.2
        have h567 := Fr_trans h542 h559 (by decide +kernel)
        have h568 := KF_fr h543 h559 (by decide +kernel)
        have h569 : tN By Nb ((Int32.ofInt 0)).toInt z553.toInt S544 = tN By Nb (0) (Sp.2.2.2 2 - 1) S544 := tN_cg2 (fun zz => by have j1 := Imp_m h548 zz; omega) (fun zz => by have j1 := Imp_m h548 zz; omega)
        obtain ⟨S570, h571⟩ : ∃ q : PS, q = tN By Nb (0) (Sp.2.2.2 2 - 1) S544 := ⟨_, rfl⟩
        have h572 : ML By Nb σ557 S570 := by rw [h571]; exact (ML_eq h566.1 h569)
        have h573 := ML_k h572 h564
        have h574 : Imp (S570.1 = 0) (z565.toInt = tV By Nb S544.2.2.1) := fun z => h566.2 (by rw [h569, ← h571]; exact z)
        have h575 : Imp (S570.1 = 0) (S544.1 = 0 ∧ tK By Nb S544.2.2.1 = 2 ∧ 0 ≤ tV By Nb S544.2.2.1 ∧ tV By Nb S544.2.2.1 ≤ Sp.2.2.2 2 - 1) := fun z => tN_gg (by rw [← h571]; exact z)
        have h576 : S570.2.2.2 = S544.2.2.2 := by rw [h571]; exact tN_w
        have h577 := Imp_m h560.2.2.2.2.2.2.2.2.2.2.2.1 (by omega)
        have h578 := Imp_m h560.2.2.2.2.2.2.2.2.2.2.2.2.1 (by omega)
        have h579 := Imp_m h560.2.2.2.2.2.2.2.2.2.2.2.2.2.1 (by omega)
        refine En_Ps 1 (pc' := 54) (lv' := [(1, .int z565), (0, .ref 159)]) (st' := []) rfl ?_
        obtain ⟨z581, h580, h582, h583⟩ := WT_peekI h558 tgz_159 (by decide +kernel : FT 35 10 = (0, 0, 4)) (by decide +kernel)
        obtain ⟨z585, h584, h586, h587⟩ := WT_peekI h558 tgz_159 (by decide +kernel : FT 35 11 = (0, 0, 99999)) (by decide +kernel)
        have h588 := ML_k h572 h564
        have h589 : Imp (S570.1 = 0) (tK By Nb S570.2.2.1 = z581.toInt) := ML_t h572 h580
        have h590 : Imp (S570.1 = 0 ∧ tK By Nb S570.2.2.1 = 2) (z585.toInt = min 99999 (tV By Nb S570.2.2.1) ∧ 0 ≤ tV By Nb S570.2.2.1) := fun q => ML_u h572 h584 q.1 q.2
        have h591 : S570.2.2.2 2 = Sp.2.2.2 2 := by rw [h576, h550]
        refine En_Ps 2 (pc' := 56) (lv' := [(1, .int z565), (0, .ref 159)]) (st' := [.ref 159, .ref 159]) rfl ?_
        refine En_getK (j := 14) ((h559 _ _ (inW tgz_159 (by decide +kernel))).trans ((h537 _ _ (inW tgz_159 (by decide +kernel))).trans h19)) rfl rfl rfl tgz_159 (by decide +kernel) ?_
        refine En_Ps 1 (pc' := 60) (lv' := [(1, .int z565), (0, .ref 159)]) (st' := [.int ((Int32.ofInt 2)), .ref 165, .ref 159]) rfl ?_
        refine En_ialdK ((h559 _ _ (inWa tgz_165 (by decide +kernel))).trans ((h537 _ _ (inWa tgz_165 (by decide +kernel))).trans h12)) rfl (by decide : (Int32.ofInt 2).toInt = 2) tgz_165 (by decide +kernel) h558 (by omega) (lnI (by decide +kernel : LN _ = 226) (by omega)) ?_
        refine En_callV rfl rfl rfl rfl rfl rfl rfl rfl tgz_159 (by decide +kernel) rfl (c_260x σ557 h558 z13 z563 h564 z581 h580 z585 h584) (by decide) (by decide) (fun v594 σ595 h593 => ?_)
        obtain ⟨h596, h597, z599, rfl, h598⟩ := h593
        obtain rfl : σ557 = σ595 := Fr_nil h597
        refine En_iEq _ rfl rfl (fun h600 => ?_) (fun hx => by exfalso; have := Imp_m h598.2.2.1 (by omega); have := Imp_m h560.2.2.2.2.2.2.2.2.2.2.2.2.2.2.1 (by omega); have := Imp_m h560.2.2.2.2.2.2.2.2.2.2.2.2.2.2.2.1 (by omega); omega)
        have h601 : gTw2 By Nb (tV By Nb S544.2.2.1) S570 = S570 := by unfold gTw2; (repeat' split) <;> first | rfl | (exfalso; omega) | ((try have i0 := Imp_m h589 (by omega)); (try have i1 := Imp_m h575 (by omega)); (try have i2 := Imp_m h574 (by omega)); (try have i3 := Imp_m h548 (by omega)); (try have i4 := Imp_m h10 (by omega)); (try have i5 := Imp_m h11 (by omega)); (try have i6 := Imp_m h549 (by omega)); (try have i7 := Imp_m h590 (by omega)); (try have i8 := Imp_m h27.2.2.2 (by omega)); (try have i9 := Imp_m h560.2.2.2.2.2.2.2.2.2.2.2.2.2.2.1 (by omega)); (try have i10 := Imp_m h560.2.2.2.2.2.2.2.2.2.2.2.2.2.2.2.1 (by omega)); (try have i11 := Imp_m h598.2.2.1 (by omega)); (try have i12 := Imp_m h598.2.2.2 (by omega)); exfalso; omega)
        refine En_Ps 3 (pc' := 94) (lv' := [(1, .int z565), (0, .ref 159)]) (st' := [.ref 159, .int ((Int32.ofInt 0)), .ref 159]) rfl ?_
        refine En_getK (j := 14) ((h559 _ _ (inW tgz_159 (by decide +kernel))).trans ((h537 _ _ (inW tgz_159 (by decide +kernel))).trans h19)) rfl rfl rfl tgz_159 (by decide +kernel) ?_
        refine En_Ps 1 (pc' := 98) (lv' := [(1, .int z565), (0, .ref 159)]) (st' := [.int ((Int32.ofInt 2)), .ref 165, .int ((Int32.ofInt 0)), .ref 159]) rfl ?_
        refine En_ialdK ((h559 _ _ (inWa tgz_165 (by decide +kernel))).trans ((h537 _ _ (inWa tgz_165 (by decide +kernel))).trans h12)) rfl (by decide : (Int32.ofInt 2).toInt = 2) tgz_165 (by decide +kernel) h558 (by omega) (lnI (by decide +kernel : LN _ = 226) (by omega)) ?_
        refine En_Ps 2 (pc' := 101) (lv' := [(1, .int z565), (0, .ref 159)]) (st' := [.int ((z13 - ((Int32.ofInt 1)))), .int ((Int32.ofInt 0)), .ref 159]) rfl ?_
        refine En_top (subI rfl (by decide : (Int32.ofInt 1).toInt = 1) (by omega) (by omega)) (fun z603 h604 => ?_)
        have := (by decide : ((Int32.ofInt 0)).toInt = 0)
        refine En_callV rfl rfl rfl rfl rfl rfl rfl rfl tgz_159 (by decide +kernel) rfl (c_288x σ557 h558 ((Int32.ofInt 0)) z603 (geI (by decide : (Int32.ofInt 0).toInt = 0) (by omega)) (leI (by decide : (Int32.ofInt 0).toInt = 0) (by omega)) (geI rfl (by omega)) (leI rfl (by omega)) z561 h562 z563 h564 z581 h580 z585 h584 h572) (by decide) (by decide) (fun v606 σ607 h605 => ?_)
        obtain ⟨h608, h609, z611, h612, z613, h614, z615, rfl, h610⟩ := h605
        have h616 := h610.2.2.2.2.2.2.2.2.2.2.2.2.2.2.2.2
        have h617 := Fr_trans h567 h609 (by decide +kernel)
        have h618 := KF_fr h568 h609 (by decide +kernel)
        have h619 : tN By Nb ((Int32.ofInt 0)).toInt z603.toInt S570 = tN By Nb (0) (Sp.2.2.2 2 - 1) S570 := tN_cg2 (fun zz => by have j1 := Imp_m h574 zz; have j2 := Imp_m h575 zz; have j3 := Imp_m h548 j2.1; have j4 := Imp_m h549 ⟨j2.1, j2.2.1⟩; have j5 := Imp_m h589 zz; omega) (fun zz => by have j1 := Imp_m h574 zz; have j2 := Imp_m h575 zz; have j3 := Imp_m h548 j2.1; have j4 := Imp_m h549 ⟨j2.1, j2.2.1⟩; have j5 := Imp_m h589 zz; omega)
        obtain ⟨S620, h621⟩ : ∃ q : PS, q = tN By Nb (0) (Sp.2.2.2 2 - 1) S570 := ⟨_, rfl⟩
        have h622 : ML By Nb σ607 S620 := by rw [h621]; exact (ML_eq h616.1 h619)
        have h623 := ML_k h622 h614
        have h624 : Imp (S620.1 = 0) (z615.toInt = tV By Nb S570.2.2.1) := fun z => h616.2 (by rw [h619, ← h621]; exact z)
        have h625 : Imp (S620.1 = 0) (S570.1 = 0 ∧ tK By Nb S570.2.2.1 = 2 ∧ 0 ≤ tV By Nb S570.2.2.1 ∧ tV By Nb S570.2.2.1 ≤ Sp.2.2.2 2 - 1) := fun z => tN_gg (by rw [← h621]; exact z)
        have h626 : S620.2.2.2 = S570.2.2.2 := by rw [h621]; exact tN_w
        have h627 := Imp_m h610.2.2.2.2.2.2.2.2.2.2.2.1 (by omega)
        have h628 := Imp_m h610.2.2.2.2.2.2.2.2.2.2.2.2.1 (by omega)
        have h629 := Imp_m h610.2.2.2.2.2.2.2.2.2.2.2.2.2.1 (by omega)
        refine En_Ps 2 (pc' := 106) (lv' := [(2, .int z615), (1, .int z565), (0, .ref 159)]) (st' := [.ref 159]) rfl ?_
        refine En_callV rfl rfl rfl rfl rfl rfl rfl rfl tgz_159 (by decide +kernel) rfl (c_237 σ607 h608 z613 h614) (by decide) (by decide) (fun v631 σ632 h630 => ?_)
        obtain ⟨h633, h634, z636, rfl, h635⟩ := h630
        obtain rfl : σ607 = σ632 := Fr_nil h634
        refine En_iEq _ rfl rfl (fun h637 => ?_) (fun hx => by exfalso; have := Imp_m h560.2.2.2.2.2.2.2.2.2.2.2.2.2.2.1 (by omega); have := Imp_m h560.2.2.2.2.2.2.2.2.2.2.2.2.2.2.2.1 (by omega); have := Imp_m h598.2.2.2 (by omega); have := Imp_m h610.2.2.2.2.2.2.2.2.2.2.2.2.2.2.1 (by omega); have := Imp_m h610.2.2.2.2.2.2.2.2.2.2.2.2.2.2.2.1 (by omega); omega)
        exact En_ret (v := none) rfl rfl rfl ⟨h608, h617, z611, h612, z613, h614, rfl, ⟨by omega, by omega, by omega, by omega, by omega, by omega, by omega, fun _ => by omega, ⟨h618, ML_eq h622 (by unfold gTwin; dsimp only; rw [h551, ← h571, h601, ← h621]; first | done | rfl | (rw [if_pos (by omega)]; first | done | rfl) | (rw [if_neg (by omega)]; first | done | rfl))⟩⟩⟩
/-- DoorSchoolModel.readRule(I)V -/
abbrev P_303ax (σ0 : SG) (By : Int → Int) (Nb : Int) (Sp : PS) (a : Int32) (f : Int32) (k : Int32) : PO := fun v σ => WT σ ∧ Fr [(35, 8), (35, 9), (35, 10), (35, 11), (35, 12), (35, 13), (41, 0)] σ0 σ ∧ ∃ f1 : Int32, (σ 159)[8]? = some (.int f1) ∧ ∃ k1 : Int32, (σ 159)[12]? = some (.int k1) ∧ v = none ∧ -f1.toInt ≤ 0 ∧ f1.toInt - 1600 ≤ 0 ∧ -f1.toInt + f.toInt ≤ 0 ∧ -k1.toInt ≤ 0 ∧ k1.toInt - 3 ≤ 0 ∧ -k1.toInt + k.toInt ≤ 0 ∧ f.toInt - f1.toInt ≤ 0 ∧ Imp (k1.toInt ≤ 0) (k.toInt ≤ 0) ∧ (KR σ0 σ ∧ ML By Nb σ (gRule By Nb a.toInt Sp))
set_option maxRecDepth 10000 in
set_option maxHeartbeats 4000000 in
theorem c_303ax {By : Int → Int} {Nb : Int} {Sp : PS} (σ0 : SG) (hσ0 : WT σ0) (a : Int32) (hl_a : 8 ≤ a.toInt) (hu_a : a.toInt ≤ 8) (f : Int32) (h_f : (σ0 159)[8]? = some (.int f)) (k : Int32) (h_k : (σ0 159)[12]? = some (.int k)) (hM : ML By Nb σ0 Sp) (hg : Sp.1 = 0) : En 4 89 none mr_303 (P_303ax σ0 By Nb Sp a f k) 0 [(0, .ref 159), (1, .int a)] [] σ0 := by
  obtain ⟨hl_f, hu_f⟩ := WT_int hσ0 (g := 35) (by decide +kernel) (by decide +kernel) (l := 0) (u := 1600) (by decide +kernel) h_f
  obtain ⟨hl_k, hu_k⟩ := WT_int hσ0 (g := 35) (by decide +kernel) (by decide +kernel) (l := 0) (u := 3) (by decide +kernel) h_k
  have hF0 : Fr [(35, 8), (35, 9), (35, 10), (35, 11), (35, 12), (35, 13), (41, 0)] σ0 σ0 := Fr_rfl
  have h1 := ML_k hM h_k
  refine En_Ps 1 (pc' := 1) (lv' := [(0, .ref 159), (1, .int a)]) (st' := [.ref 159]) rfl ?_
  refine En_callV rfl rfl rfl rfl rfl rfl rfl rfl tgz_159 (by decide +kernel) rfl (c_234x σ0 hσ0 f h_f k h_k hM) (by decide) (by decide) (fun v3 σ4 h2 => ?_)
  obtain ⟨h5, h6, z8, h9, z10, h11, z12, rfl, h7⟩ := h2
  have h13 := h7.2.2.2.2.2.2.2.2.2.2.2.2
  have h14 := Fr_trans hF0 h6 (by decide +kernel)
  have h15 := KR_fr (KR_0 (σ := σ0)) h6 (by decide +kernel)
  have h16 : tN By Nb 0 (pI (Sp.2.2.2 0) - 1) Sp = tN By Nb 0 (pI (Sp.2.2.2 0) - 1) Sp := tN_cg rfl (by rfl)
  obtain ⟨S17, h18⟩ : ∃ q : PS, q = tN By Nb 0 (pI (Sp.2.2.2 0) - 1) Sp := ⟨_, rfl⟩
  have h19 : ML By Nb σ4 S17 := by rw [h18]; exact (ML_eq h13.1 h16)
  have h20 := ML_k h19 h11
  have h21 : Imp (S17.1 = 0) (z12.toInt = tV By Nb Sp.2.2.1) := fun z => h13.2 (by rw [h16, ← h18]; exact z)
  have h22 : Imp (S17.1 = 0) (Sp.1 = 0 ∧ tK By Nb Sp.2.2.1 = 2 ∧ 0 ≤ tV By Nb Sp.2.2.1 ∧ tV By Nb Sp.2.2.1 ≤ pI (Sp.2.2.2 0) - 1) := fun z => tN_gg (by rw [← h18]; exact z)
  have h23 : S17.2.2.2 = Sp.2.2.2 := by rw [h18]; exact tN_w
  refine En_Ps 1 (pc' := 5) (lv' := [(2, .int z12), (0, .ref 159), (1, .int a)]) (st' := []) rfl ?_
  refine En_Ps 1 (pc' := 6) (lv' := [(2, .int z12), (0, .ref 159), (1, .int a)]) (st' := [.ref 159]) rfl ?_
  refine En_callV rfl rfl rfl rfl rfl rfl rfl rfl tgz_159 (by decide +kernel) rfl (c_237 σ4 h5 z10 h11) (by decide) (by decide) (fun v25 σ26 h24 => ?_)
  obtain ⟨h27, h28, z30, rfl, h29⟩ := h24
  obtain rfl : σ4 = σ26 := Fr_nil h28
  refine En_iEq _ rfl rfl (fun h31 => ?_) (fun h31 => ?_)
  · have h32 : gRl1 By Nb (tV By Nb Sp.2.2.1) S17 = S17 := by unfold gRl1; (repeat' split) <;> first | rfl | (exfalso; omega) | ((try have i0 := Imp_m h22 (by omega)); (try have i1 := Imp_m h21 (by omega)); (try have i2 := Imp_m h7.2.2.2.2.2.2.2.2.2.2.2.1 (by omega)); exfalso; omega)
    refine En_Ps 1 (pc' := 37) (lv' := [(2, .int z12), (0, .ref 159), (1, .int a)]) (st' := [.ref 159]) rfl ?_
    refine En_callV rfl rfl rfl rfl rfl rfl rfl rfl tgz_159 (by decide +kernel) rfl (c_234x σ4 h5 z8 h9 z10 h11 h19) (by decide) (by decide) (fun v34 σ35 h33 => ?_)
    obtain ⟨h36, h37, z39, h40, z41, h42, z43, rfl, h38⟩ := h33
    have h44 := h38.2.2.2.2.2.2.2.2.2.2.2.2
    have h45 := Fr_trans h14 h37 (by decide +kernel)
    have h46 := KR_fr h15 h37 (by decide +kernel)
    have h47 : tN By Nb 0 (pI (S17.2.2.2 0) - 1) S17 = tN By Nb 0 (pI (Sp.2.2.2 0) - 1) S17 := tN_cg rfl (by first | rfl | simp only [h23] | rfl)
    obtain ⟨S48, h49⟩ : ∃ q : PS, q = tN By Nb 0 (pI (Sp.2.2.2 0) - 1) S17 := ⟨_, rfl⟩
    have h50 : ML By Nb σ35 S48 := by rw [h49]; exact (ML_eq h44.1 h47)
    have h51 := ML_k h50 h42
    have h52 : Imp (S48.1 = 0) (z43.toInt = tV By Nb S17.2.2.1) := fun z => h44.2 (by rw [h47, ← h49]; exact z)
    have h53 : Imp (S48.1 = 0) (S17.1 = 0 ∧ tK By Nb S17.2.2.1 = 2 ∧ 0 ≤ tV By Nb S17.2.2.1 ∧ tV By Nb S17.2.2.1 ≤ pI (Sp.2.2.2 0) - 1) := fun z => tN_gg (by rw [← h49]; exact z)
    have h54 : S48.2.2.2 = S17.2.2.2 := by rw [h49]; exact tN_w
    refine En_Ps 2 (pc' := 42) (lv' := [(3, .int z43), (2, .int z12), (0, .ref 159), (1, .int a)]) (st' := [.ref 159]) rfl ?_
    refine En_callV rfl rfl rfl rfl rfl rfl rfl rfl tgz_159 (by decide +kernel) rfl (c_237 σ35 h36 z41 h42) (by decide) (by decide) (fun v56 σ57 h55 => ?_)
    obtain ⟨h58, h59, z61, rfl, h60⟩ := h55
    obtain rfl : σ35 = σ57 := Fr_nil h59
    refine En_iNe _ rfl rfl (fun hx => by exfalso; have := Imp_m h7.2.2.2.2.2.2.2.2.2.2.2.1 (by omega); have := Imp_m h38.2.2.2.2.2.2.2.2.2.2.2.1 (by omega); omega) (fun h62 => ?_)
    exact En_ret (v := none) rfl rfl rfl ⟨h36, h45, z39, h40, z41, h42, rfl, ⟨by omega, by omega, by omega, by omega, by omega, by omega, by omega, fun _ => by omega, ⟨h46, ML_eq h50 (by unfold gRule; dsimp only; rw [← h18, h32, ← h49]; first | done | rfl | (rw [if_pos (by omega)]; first | done | rfl) | (rw [if_neg (by omega)]; first | done | rfl))⟩⟩⟩
  · have h63 := Imp_m h7.2.2.2.2.2.2.2.2.2.2.2.1 (by omega)
    obtain ⟨z65, h64, h66, h67⟩ := WT_peekI h5 tgz_159 (by decide +kernel : FT 35 10 = (0, 0, 4)) (by decide +kernel)
    obtain ⟨z69, h68, h70, h71⟩ := WT_peekI h5 tgz_159 (by decide +kernel : FT 35 11 = (0, 0, 99999)) (by decide +kernel)
    have h72 := ML_k h19 h11
    have h73 : Imp (S17.1 = 0) (tK By Nb S17.2.2.1 = z65.toInt) := ML_t h19 h64
    have h74 : Imp (S17.1 = 0 ∧ tK By Nb S17.2.2.1 = 2) (z69.toInt = min 99999 (tV By Nb S17.2.2.1) ∧ 0 ≤ tV By Nb S17.2.2.1) := fun q => ML_u h19 h68 q.1 q.2
    try have h75 := Imp_m h73 (by omega)
    try have h76 := Imp_m h22 (by omega)
    try have h77 := Imp_m h21 (by omega)
    try have h78 := Imp_m h74 (by omega)
    refine En_Ps 1 (pc' := 13) (lv' := [(2, .int z12), (0, .ref 159), (1, .int a)]) (st' := [.ref 159]) rfl ?_
    refine En_getK (j := 10) h64 rfl rfl rfl tgz_159 (by decide +kernel) ?_
    refine En_Ps 1 (pc' := 17) (lv' := [(2, .int z12), (0, .ref 159), (1, .int a)]) (st' := [.int ((Int32.ofInt 2)), .int z65]) rfl ?_
    refine En_icNe _ rfl (by decide : (Int32.ofInt 2).toInt = 2) rfl (fun h79 => ?_) (fun h79 => ?_)
    · have h80 : gRl1 By Nb (tV By Nb Sp.2.2.1) S17 = S17 := by unfold gRl1; (repeat' split) <;> first | rfl | (exfalso; omega) | ((try have i0 := Imp_m h73 (by omega)); (try have i1 := Imp_m h22 (by omega)); (try have i2 := Imp_m h21 (by omega)); (try have i3 := Imp_m h74 (by omega)); exfalso; omega)
      refine En_Ps 1 (pc' := 37) (lv' := [(2, .int z12), (0, .ref 159), (1, .int a)]) (st' := [.ref 159]) rfl ?_
      refine En_callV rfl rfl rfl rfl rfl rfl rfl rfl tgz_159 (by decide +kernel) rfl (c_234x σ4 h5 z8 h9 z10 h11 h19) (by decide) (by decide) (fun v82 σ83 h81 => ?_)
      obtain ⟨h84, h85, z87, h88, z89, h90, z91, rfl, h86⟩ := h81
      have h92 := h86.2.2.2.2.2.2.2.2.2.2.2.2
      have h93 := Fr_trans h14 h85 (by decide +kernel)
      have h94 := KR_fr h15 h85 (by decide +kernel)
      have h95 : tN By Nb 0 (pI (S17.2.2.2 0) - 1) S17 = tN By Nb 0 (pI (Sp.2.2.2 0) - 1) S17 := tN_cg rfl (by first | rfl | simp only [h23] | rfl)
      obtain ⟨S96, h97⟩ : ∃ q : PS, q = tN By Nb 0 (pI (Sp.2.2.2 0) - 1) S17 := ⟨_, rfl⟩
      have h98 : ML By Nb σ83 S96 := by rw [h97]; exact (ML_eq h92.1 h95)
      have h99 := ML_k h98 h90
      have h100 : Imp (S96.1 = 0) (z91.toInt = tV By Nb S17.2.2.1) := fun z => h92.2 (by rw [h95, ← h97]; exact z)
      have h101 : Imp (S96.1 = 0) (S17.1 = 0 ∧ tK By Nb S17.2.2.1 = 2 ∧ 0 ≤ tV By Nb S17.2.2.1 ∧ tV By Nb S17.2.2.1 ≤ pI (Sp.2.2.2 0) - 1) := fun z => tN_gg (by rw [← h97]; exact z)
      have h102 : S96.2.2.2 = S17.2.2.2 := by rw [h97]; exact tN_w
      refine En_Ps 2 (pc' := 42) (lv' := [(3, .int z91), (2, .int z12), (0, .ref 159), (1, .int a)]) (st' := [.ref 159]) rfl ?_
      refine En_callV rfl rfl rfl rfl rfl rfl rfl rfl tgz_159 (by decide +kernel) rfl (c_237 σ83 h84 z89 h90) (by decide) (by decide) (fun v104 σ105 h103 => ?_)
      obtain ⟨h106, h107, z109, rfl, h108⟩ := h103
      obtain rfl : σ83 = σ105 := Fr_nil h107
      refine En_iNe _ rfl rfl (fun h110 => ?_) (fun h110 => ?_)
      · have h111 := Imp_m h86.2.2.2.2.2.2.2.2.2.2.2.1 (by omega)
        have h112 : S96.1 = 0 := by omega
        have h113 := Imp_m h100 h112
        have h114 := Imp_m h101 h112
        have h115 := Imp_m h21 h114.1
        have h116 := Imp_m h22 h114.1
        have h117 := Imp_m h73 h114.1
        have h118 := Imp_m h74 ⟨h114.1, h114.2.1⟩
        refine En_Ps 1 (pc' := 50) (lv' := [(3, .int z91), (2, .int z12), (0, .ref 159), (1, .int a)]) (st' := [.ref 159]) rfl ?_
        refine En_getU (j := 14) (u := 165) (g' := 41) (q := 0) rfl rfl rfl tgz_159 (by decide +kernel) h84 (by decide +kernel) (by decide +kernel) (fun h119 => ?_)
        refine En_Ps 2 (pc' := 55) (lv' := [(3, .int z91), (2, .int z12), (0, .ref 159), (1, .int a)]) (st' := [.int z12, .int a, .ref 165]) rfl ?_
        refine En_iast (l := 0) (u := 15) rfl rfl tgz_165 (by decide +kernel) (by omega) (lnI (by decide +kernel : LN _ = 226) (by omega)) (FTrow 41 8 1 1 (by decide +kernel) (by omega) (by omega) (by omega)) (rngI rfl (by omega) (by omega)) h84 h93 (by decide +kernel) (fun σ121 h122 h123 h124 h125 => ?_)
        have h126 := KR_st h94 (J := a.toInt) h125 (by omega)
        obtain ⟨S127, h128⟩ : ∃ q : PS, q = wst S96 (a.toInt) ((tV By Nb Sp.2.2.1)) := ⟨_, rfl⟩
        have h129 : ML By Nb σ121 S127 := by rw [h128]; exact (ML_wst (i := a.toInt) (v := (tV By Nb Sp.2.2.1)) h98 h124 h125 (by omega) (fun z => by have j1 := Imp_m h100 z; have j2 := Imp_m h101 z; have j3 := Imp_m h21 j2.1; have j4 := Imp_m h22 j2.1; have j5 := Imp_m h73 j2.1; have j6 := Imp_m h74 ⟨j2.1, j2.2.1⟩; exact ⟨by omega, by omega⟩))
        have h130 := ML_k h129 ((h125 _ _ (Or.inl (neTG tgz_159 tgz_165 (by decide)))).trans h90)
        have h131 : S127.1 = S96.1 := by rw [h128]; rfl
        refine En_Ps 1 (pc' := 57) (lv' := [(3, .int z91), (2, .int z12), (0, .ref 159), (1, .int a)]) (st' := [.ref 159]) rfl ?_
        refine En_getK (j := 14) ((h125 _ _ (Or.inl (neTG tgz_159 tgz_165 (by decide)))).trans h119) rfl rfl rfl tgz_159 (by decide +kernel) ?_
        refine En_Ps 3 (pc' := 63) (lv' := [(3, .int z91), (2, .int z12), (0, .ref 159), (1, .int a)]) (st' := [.int ((a + ((Int32.ofInt 1)))), .ref 165]) rfl ?_
        refine En_top (addI rfl (by decide : (Int32.ofInt 1).toInt = 1) (by omega) (by omega)) (fun z132 h133 => ?_)
        refine En_Ps 1 (pc' := 64) (lv' := [(3, .int z91), (2, .int z12), (0, .ref 159), (1, .int a)]) (st' := [.int z91, .int z132, .ref 165]) rfl ?_
        refine En_iast (l := 0) (u := 15) rfl rfl tgz_165 (by decide +kernel) (by omega) (lnI (by decide +kernel : LN _ = 226) (by omega)) (FTrow 41 9 1 1 (by decide +kernel) (by omega) (by omega) (by omega)) (rngI rfl (by omega) (by omega)) h122 h123 (by decide +kernel) (fun σ134 h135 h136 h137 h138 => ?_)
        have h139 := KR_st h126 (J := z132.toInt) h138 (by omega)
        obtain ⟨S140, h141⟩ : ∃ q : PS, q = wst S127 (a.toInt + 1) ((tV By Nb S17.2.2.1)) := ⟨_, rfl⟩
        have h142 : ML By Nb σ134 S140 := by rw [h141]; exact (ML_wst (i := a.toInt + 1) (v := (tV By Nb S17.2.2.1)) h129 h137 h138 (by omega) (fun z => by have j1 := h131.symm.trans z; have j2 := Imp_m h100 j1; have j3 := Imp_m h101 j1; have j4 := Imp_m h21 j3.1; have j5 := Imp_m h22 j3.1; have j6 := Imp_m h73 j3.1; have j7 := Imp_m h74 ⟨j3.1, j3.2.1⟩; exact ⟨by omega, by omega⟩))
        have h143 := ML_k h142 ((h138 _ _ (Or.inl (neTG tgz_159 tgz_165 (by decide)))).trans ((h125 _ _ (Or.inl (neTG tgz_159 tgz_165 (by decide)))).trans h90))
        have h144 : S140.1 = S127.1 := by rw [h141]; rfl
        exact En_ret (v := none) rfl rfl rfl ⟨h135, h136, z87, ((h138 _ _ (Or.inl (neTG tgz_159 tgz_165 (by decide)))).trans ((h125 _ _ (Or.inl (neTG tgz_159 tgz_165 (by decide)))).trans h88)), z89, ((h138 _ _ (Or.inl (neTG tgz_159 tgz_165 (by decide)))).trans ((h125 _ _ (Or.inl (neTG tgz_159 tgz_165 (by decide)))).trans h90)), rfl, ⟨by omega, by omega, by omega, by omega, by omega, by omega, by omega, fun _ => by omega, ⟨h139, ML_eq h142 (by unfold gRule; dsimp only; rw [← h18, h80, ← h97, ← h128, ← h141]; first | done | rfl | (rw [if_pos (by omega)]; first | done | rfl) | (rw [if_neg (by omega)]; first | done | rfl))⟩⟩⟩
      · exact En_ret (v := none) rfl rfl rfl ⟨h84, h93, z87, h88, z89, h90, rfl, ⟨by omega, by omega, by omega, by omega, by omega, by omega, by omega, fun _ => by omega, ⟨h94, ML_eq h98 (by unfold gRule; dsimp only; rw [← h18, h80, ← h97]; first | done | rfl | (rw [if_pos (by omega)]; first | done | rfl) | (rw [if_neg (by omega)]; first | done | rfl))⟩⟩⟩
    · have h145 : S17.1 = 0 := by omega
      have h146 := Imp_m h73 h145
      have h147 : tK By Nb S17.2.2.1 = 2 := by omega
      have h148 := Imp_m h21 h145
      have h149 := Imp_m h22 h145
      have h150 := Imp_m h73 h145
      have h151 := Imp_m h74 ⟨h145, h147⟩
      refine En_Ps 1 (pc' := 21) (lv' := [(2, .int z12), (0, .ref 159), (1, .int a)]) (st' := [.ref 159]) rfl ?_
      refine En_getK (j := 11) h68 rfl rfl rfl tgz_159 (by decide +kernel) ?_
      have h152 : sbI (z69.toInt) (z12.toInt) = sbI (min 99999 (tV By Nb S17.2.2.1)) (tV By Nb Sp.2.2.1) := sbI_cg (by omega) (by omega)
      refine En_Ps 3 (pc' := 27) (lv' := [(2, .int z12), (0, .ref 159), (1, .int a)]) (st' := [.int ((z12 ^^^ ((Int32.ofInt (-1))))), .int z69]) rfl ?_
      refine En_nam (fun z153 h154 => ?_)
      refine En_Ps 1 (pc' := 28) (lv' := [(2, .int z12), (0, .ref 159), (1, .int a)]) (st' := [.int ((z69 &&& z153))]) rfl ?_
      refine En_nam (fun z155 h156 => ?_)
      obtain ⟨h157, h158⟩ := andn_rng h156 rfl (by omega) (by omega : _ ≤ (99999 : Int))
      refine En_iEq _ rfl rfl (fun h159 => ?_) (fun h159 => ?_)
      · obtain ⟨h160, h161⟩ := andn_zero h156 h154 h159 rfl rfl (by omega)
        have := sub_sbw h156 h154 rfl rfl (by omega) (by omega) (by omega)
        have h162 : gRl1 By Nb (tV By Nb Sp.2.2.1) S17 = S17 := by unfold gRl1; (repeat' split) <;> first | rfl | (exfalso; omega) | ((try have i0 := Imp_m h73 (by omega)); (try have i1 := Imp_m h22 (by omega)); (try have i2 := Imp_m h21 (by omega)); (try have i3 := Imp_m h74 (by omega)); exfalso; omega)
        refine En_Ps 1 (pc' := 37) (lv' := [(2, .int z12), (0, .ref 159), (1, .int a)]) (st' := [.ref 159]) rfl ?_
        refine En_callV rfl rfl rfl rfl rfl rfl rfl rfl tgz_159 (by decide +kernel) rfl (c_234x σ4 h5 z8 h9 z10 h11 h19) (by decide) (by decide) (fun v164 σ165 h163 => ?_)
        obtain ⟨h166, h167, z169, h170, z171, h172, z173, rfl, h168⟩ := h163
        have h174 := h168.2.2.2.2.2.2.2.2.2.2.2.2
        have h175 := Fr_trans h14 h167 (by decide +kernel)
        have h176 := KR_fr h15 h167 (by decide +kernel)
        have h177 : tN By Nb 0 (pI (S17.2.2.2 0) - 1) S17 = tN By Nb 0 (pI (Sp.2.2.2 0) - 1) S17 := tN_cg rfl (by first | rfl | simp only [h23] | rfl)
        obtain ⟨S178, h179⟩ : ∃ q : PS, q = tN By Nb 0 (pI (Sp.2.2.2 0) - 1) S17 := ⟨_, rfl⟩
        have h180 : ML By Nb σ165 S178 := by rw [h179]; exact (ML_eq h174.1 h177)
        have h181 := ML_k h180 h172
        have h182 : Imp (S178.1 = 0) (z173.toInt = tV By Nb S17.2.2.1) := fun z => h174.2 (by rw [h177, ← h179]; exact z)
        have h183 : Imp (S178.1 = 0) (S17.1 = 0 ∧ tK By Nb S17.2.2.1 = 2 ∧ 0 ≤ tV By Nb S17.2.2.1 ∧ tV By Nb S17.2.2.1 ≤ pI (Sp.2.2.2 0) - 1) := fun z => tN_gg (by rw [← h179]; exact z)
        have h184 : S178.2.2.2 = S17.2.2.2 := by rw [h179]; exact tN_w
        refine En_Ps 2 (pc' := 42) (lv' := [(3, .int z173), (2, .int z12), (0, .ref 159), (1, .int a)]) (st' := [.ref 159]) rfl ?_
        refine En_callV rfl rfl rfl rfl rfl rfl rfl rfl tgz_159 (by decide +kernel) rfl (c_237 σ165 h166 z171 h172) (by decide) (by decide) (fun v186 σ187 h185 => ?_)
        obtain ⟨h188, h189, z191, rfl, h190⟩ := h185
        obtain rfl : σ165 = σ187 := Fr_nil h189
        refine En_iNe _ rfl rfl (fun h192 => ?_) (fun h192 => ?_)
        · have h193 := Imp_m h168.2.2.2.2.2.2.2.2.2.2.2.1 (by omega)
          have h194 : S178.1 = 0 := by omega
          have h195 := Imp_m h182 h194
          have h196 := Imp_m h183 h194
          have h197 := Imp_m h21 h196.1
          have h198 := Imp_m h22 h196.1
          have h199 := Imp_m h73 h196.1
          have h200 := Imp_m h74 ⟨h196.1, h196.2.1⟩
          refine En_Ps 1 (pc' := 50) (lv' := [(3, .int z173), (2, .int z12), (0, .ref 159), (1, .int a)]) (st' := [.ref 159]) rfl ?_
          refine En_getU (j := 14) (u := 165) (g' := 41) (q := 0) rfl rfl rfl tgz_159 (by decide +kernel) h166 (by decide +kernel) (by decide +kernel) (fun h201 => ?_)
          refine En_Ps 2 (pc' := 55) (lv' := [(3, .int z173), (2, .int z12), (0, .ref 159), (1, .int a)]) (st' := [.int z12, .int a, .ref 165]) rfl ?_
          refine En_iast (l := 0) (u := 15) rfl rfl tgz_165 (by decide +kernel) (by omega) (lnI (by decide +kernel : LN _ = 226) (by omega)) (FTrow 41 8 1 1 (by decide +kernel) (by omega) (by omega) (by omega)) (rngI rfl (by omega) (by omega)) h166 h175 (by decide +kernel) (fun σ203 h204 h205 h206 h207 => ?_)
          have h208 := KR_st h176 (J := a.toInt) h207 (by omega)
          obtain ⟨S209, h210⟩ : ∃ q : PS, q = wst S178 (a.toInt) ((tV By Nb Sp.2.2.1)) := ⟨_, rfl⟩
          have h211 : ML By Nb σ203 S209 := by rw [h210]; exact (ML_wst (i := a.toInt) (v := (tV By Nb Sp.2.2.1)) h180 h206 h207 (by omega) (fun z => by have j1 := Imp_m h182 z; have j2 := Imp_m h183 z; have j3 := Imp_m h21 j2.1; have j4 := Imp_m h22 j2.1; have j5 := Imp_m h73 j2.1; have j6 := Imp_m h74 ⟨j2.1, j2.2.1⟩; exact ⟨by omega, by omega⟩))
          have h212 := ML_k h211 ((h207 _ _ (Or.inl (neTG tgz_159 tgz_165 (by decide)))).trans h172)
          have h213 : S209.1 = S178.1 := by rw [h210]; rfl
          refine En_Ps 1 (pc' := 57) (lv' := [(3, .int z173), (2, .int z12), (0, .ref 159), (1, .int a)]) (st' := [.ref 159]) rfl ?_
          refine En_getK (j := 14) ((h207 _ _ (Or.inl (neTG tgz_159 tgz_165 (by decide)))).trans h201) rfl rfl rfl tgz_159 (by decide +kernel) ?_
          refine En_Ps 3 (pc' := 63) (lv' := [(3, .int z173), (2, .int z12), (0, .ref 159), (1, .int a)]) (st' := [.int ((a + ((Int32.ofInt 1)))), .ref 165]) rfl ?_
          refine En_top (addI rfl (by decide : (Int32.ofInt 1).toInt = 1) (by omega) (by omega)) (fun z214 h215 => ?_)
          refine En_Ps 1 (pc' := 64) (lv' := [(3, .int z173), (2, .int z12), (0, .ref 159), (1, .int a)]) (st' := [.int z173, .int z214, .ref 165]) rfl ?_
          refine En_iast (l := 0) (u := 15) rfl rfl tgz_165 (by decide +kernel) (by omega) (lnI (by decide +kernel : LN _ = 226) (by omega)) (FTrow 41 9 1 1 (by decide +kernel) (by omega) (by omega) (by omega)) (rngI rfl (by omega) (by omega)) h204 h205 (by decide +kernel) (fun σ216 h217 h218 h219 h220 => ?_)
          have h221 := KR_st h208 (J := z214.toInt) h220 (by omega)
          obtain ⟨S222, h223⟩ : ∃ q : PS, q = wst S209 (a.toInt + 1) ((tV By Nb S17.2.2.1)) := ⟨_, rfl⟩
          have h224 : ML By Nb σ216 S222 := by rw [h223]; exact (ML_wst (i := a.toInt + 1) (v := (tV By Nb S17.2.2.1)) h211 h219 h220 (by omega) (fun z => by have j1 := h213.symm.trans z; have j2 := Imp_m h182 j1; have j3 := Imp_m h183 j1; have j4 := Imp_m h21 j3.1; have j5 := Imp_m h22 j3.1; have j6 := Imp_m h73 j3.1; have j7 := Imp_m h74 ⟨j3.1, j3.2.1⟩; exact ⟨by omega, by omega⟩))
          have h225 := ML_k h224 ((h220 _ _ (Or.inl (neTG tgz_159 tgz_165 (by decide)))).trans ((h207 _ _ (Or.inl (neTG tgz_159 tgz_165 (by decide)))).trans h172))
          have h226 : S222.1 = S209.1 := by rw [h223]; rfl
          exact En_ret (v := none) rfl rfl rfl ⟨h217, h218, z169, ((h220 _ _ (Or.inl (neTG tgz_159 tgz_165 (by decide)))).trans ((h207 _ _ (Or.inl (neTG tgz_159 tgz_165 (by decide)))).trans h170)), z171, ((h220 _ _ (Or.inl (neTG tgz_159 tgz_165 (by decide)))).trans ((h207 _ _ (Or.inl (neTG tgz_159 tgz_165 (by decide)))).trans h172)), rfl, ⟨by omega, by omega, by omega, by omega, by omega, by omega, by omega, fun _ => by omega, ⟨h221, ML_eq h224 (by unfold gRule; dsimp only; rw [← h18, h162, ← h179, ← h210, ← h223]; first | done | rfl | (rw [if_pos (by omega)]; first | done | rfl) | (rw [if_neg (by omega)]; first | done | rfl))⟩⟩⟩
        · exact En_ret (v := none) rfl rfl rfl ⟨h166, h175, z169, h170, z171, h172, rfl, ⟨by omega, by omega, by omega, by omega, by omega, by omega, by omega, fun _ => by omega, ⟨h176, ML_eq h180 (by unfold gRule; dsimp only; rw [← h18, h162, ← h179]; first | done | rfl | (rw [if_pos (by omega)]; first | done | rfl) | (rw [if_neg (by omega)]; first | done | rfl))⟩⟩⟩
      · have := sub_sbw h156 h154 rfl rfl (by omega) (by omega) (by omega)
        refine En_Ps 2 (pc' := 33) (lv' := [(2, .int z12), (0, .ref 159), (1, .int a)]) (st' := [.int ((Int32.ofInt 2)), .ref 159]) rfl ?_
        have := (by decide : ((Int32.ofInt 2)).toInt = 2)
        refine En_callV rfl rfl rfl rfl rfl rfl rfl rfl tgz_159 (by decide +kernel) rfl (c_223x σ4 h5 ((Int32.ofInt 2)) (geI (by decide : (Int32.ofInt 2).toInt = 2) (by omega)) (leI (by decide : (Int32.ofInt 2).toInt = 2) (by omega)) z10 h11 h19) (by decide) (by decide) (fun v228 σ229 h227 => ?_)
        obtain ⟨h230, h231, z233, h234, rfl, h232⟩ := h227
        have h235 := h232.2.2.2.2
        have h236 := Fr_trans h14 h231 (by decide +kernel)
        have h237 := KR_fr h15 h231 (by decide +kernel)
        obtain ⟨S238, h239⟩ : ∃ q : PS, q = err By Nb 2 S17 := ⟨_, rfl⟩
        have h240 : ML By Nb σ229 S238 := by rw [h239]; exact (ML_eq h235 (err_cg (by omega)))
        have h241 := ML_k h240 h234
        have h242 : Imp (S238.1 = 0) (tK By Nb S238.2.2.1 = z65.toInt) := ML_t h240 ((h231 _ _ (inW tgz_159 (by decide +kernel))).trans h64)
        have h243 : Imp (S238.1 = 0 ∧ tK By Nb S238.2.2.1 = 2) (z69.toInt = min 99999 (tV By Nb S238.2.2.1) ∧ 0 ≤ tV By Nb S238.2.2.1) := fun q => ML_u h240 ((h231 _ _ (inW tgz_159 (by decide +kernel))).trans h68) q.1 q.2
        have h244 : S238.2.2.2 = S17.2.2.2 := by rw [h239]; exact err_w
        have h245 : gRl1 By Nb (tV By Nb Sp.2.2.1) S17 = S238 := by rw [h239]; unfold gRl1; (repeat' split) <;> first | rfl | (exfalso; omega) | ((try have i0 := Imp_m h242 (by omega)); (try have i1 := Imp_m h73 (by omega)); (try have i2 := Imp_m h22 (by omega)); (try have i3 := Imp_m h21 (by omega)); (try have i4 := Imp_m h74 (by omega)); (try have i5 := Imp_m h243 (by omega)); exfalso; omega)
        refine En_Ps 1 (pc' := 37) (lv' := [(2, .int z12), (0, .ref 159), (1, .int a)]) (st' := [.ref 159]) rfl ?_
        refine En_callV rfl rfl rfl rfl rfl rfl rfl rfl tgz_159 (by decide +kernel) rfl (c_234x σ229 h230 z8 ((h231 _ _ (inW tgz_159 (by decide +kernel))).trans h9) z233 h234 h240) (by decide) (by decide) (fun v247 σ248 h246 => ?_)
        obtain ⟨h249, h250, z252, h253, z254, h255, z256, rfl, h251⟩ := h246
        have h257 := h251.2.2.2.2.2.2.2.2.2.2.2.2
        have h258 := Fr_trans h236 h250 (by decide +kernel)
        have h259 := KR_fr h237 h250 (by decide +kernel)
        have h260 : tN By Nb 0 (pI (S238.2.2.2 0) - 1) S238 = tN By Nb 0 (pI (Sp.2.2.2 0) - 1) S238 := tN_cg rfl (by first | rfl | simp only [h23, h244] | rfl)
        obtain ⟨S261, h262⟩ : ∃ q : PS, q = tN By Nb 0 (pI (Sp.2.2.2 0) - 1) S238 := ⟨_, rfl⟩
        have h263 : ML By Nb σ248 S261 := by rw [h262]; exact (ML_eq h257.1 h260)
        have h264 := ML_k h263 h255
        have h265 : Imp (S261.1 = 0) (z256.toInt = tV By Nb S238.2.2.1) := fun z => h257.2 (by rw [h260, ← h262]; exact z)
        have h266 : Imp (S261.1 = 0) (S238.1 = 0 ∧ tK By Nb S238.2.2.1 = 2 ∧ 0 ≤ tV By Nb S238.2.2.1 ∧ tV By Nb S238.2.2.1 ≤ pI (Sp.2.2.2 0) - 1) := fun z => tN_gg (by rw [← h262]; exact z)
        have h267 : S261.2.2.2 = S238.2.2.2 := by rw [h262]; exact tN_w
        refine En_Ps 2 (pc' := 42) (lv' := [(3, .int z256), (2, .int z12), (0, .ref 159), (1, .int a)]) (st' := [.ref 159]) rfl ?_
        refine En_callV rfl rfl rfl rfl rfl rfl rfl rfl tgz_159 (by decide +kernel) rfl (c_237 σ248 h249 z254 h255) (by decide) (by decide) (fun v269 σ270 h268 => ?_)
        obtain ⟨h271, h272, z274, rfl, h273⟩ := h268
        obtain rfl : σ248 = σ270 := Fr_nil h272
        refine En_iNe _ rfl rfl (fun hx => by exfalso; have := Imp_m h251.2.2.2.2.2.2.2.2.2.2.2.1 (by omega); omega) (fun h275 => ?_)
        exact En_ret (v := none) rfl rfl rfl ⟨h249, h258, z252, h253, z254, h255, rfl, ⟨by omega, by omega, by omega, by omega, by omega, by omega, by omega, fun _ => by omega, ⟨h259, ML_eq h263 (by unfold gRule; dsimp only; rw [← h18, h245, ← h262]; first | done | rfl | (rw [if_pos (by omega)]; first | done | rfl) | (rw [if_neg (by omega)]; first | done | rfl))⟩⟩⟩

