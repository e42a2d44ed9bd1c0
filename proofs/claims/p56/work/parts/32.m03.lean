/-- DoorSchoolModel.readLesson()V -/
abbrev P_300x (σ0 : SG) (By : Int → Int) (Nb : Int) (Sp : PS) (f : Int32) (k : Int32) : PO := fun v σ => WT σ ∧ Fr [(35, 8), (35, 9), (35, 10), (35, 11), (35, 12), (35, 13), (41, 0)] σ0 σ ∧ ∃ f1 : Int32, (σ 159)[8]? = some (.int f1) ∧ ∃ k1 : Int32, (σ 159)[12]? = some (.int k1) ∧ v = none ∧ -f1.toInt ≤ 0 ∧ f1.toInt - 1600 ≤ 0 ∧ -f1.toInt + f.toInt ≤ 0 ∧ -k1.toInt ≤ 0 ∧ k1.toInt - 3 ≤ 0 ∧ -k1.toInt + k.toInt ≤ 0 ∧ f.toInt - f1.toInt ≤ 0 ∧ Imp (k1.toInt ≤ 0) (k.toInt ≤ 0) ∧ (KF σ0 σ ∧ ML By Nb σ (gLesson By Nb Sp))
set_option maxRecDepth 10000 in
set_option maxHeartbeats 4000000 in
theorem c_300x {By : Int → Int} {Nb : Int} {Sp : PS} (σ0 : SG) (hσ0 : WT σ0) (f : Int32) (h_f : (σ0 159)[8]? = some (.int f)) (k : Int32) (h_k : (σ0 159)[12]? = some (.int k)) (hM : ML By Nb σ0 Sp) (hg : Sp.1 = 0) : En 8 176 none mr_300 (P_300x σ0 By Nb Sp f k) 0 [(0, .ref 159)] [] σ0 := by
  obtain ⟨hl_f, hu_f⟩ := WT_int hσ0 (g := 35) (by decide +kernel) (by decide +kernel) (l := 0) (u := 1600) (by decide +kernel) h_f
  obtain ⟨hl_k, hu_k⟩ := WT_int hσ0 (g := 35) (by decide +kernel) (by decide +kernel) (l := 0) (u := 3) (by decide +kernel) h_k
  have hF0 : Fr [(35, 8), (35, 9), (35, 10), (35, 11), (35, 12), (35, 13), (41, 0)] σ0 σ0 := Fr_rfl
  obtain ⟨z2, h1, h3, h4⟩ := WT_peekI hσ0 tgz_159 (by decide +kernel : FT 35 10 = (0, 0, 4)) (by decide +kernel)
  obtain ⟨z6, h5, h7, h8⟩ := WT_peekI hσ0 tgz_159 (by decide +kernel : FT 35 11 = (0, 0, 99999)) (by decide +kernel)
  have h9 := ML_k hM h_k
  have h10 : Imp (Sp.1 = 0) (tK By Nb Sp.2.2.1 = z2.toInt) := ML_t hM h1
  have h11 : Imp (Sp.1 = 0 ∧ tK By Nb Sp.2.2.1 = 2) (z6.toInt = min 99999 (tV By Nb Sp.2.2.1) ∧ 0 ≤ tV By Nb Sp.2.2.1) := fun q => ML_u hM h5 q.1 q.2
  obtain ⟨z13, h12, h14, h15⟩ := WT_peekI hσ0 tgz_165 (by decide +kernel : FT 41 (2 : Int).toNat = (0, 0, 4)) (by decide +kernel)
  have h16 := ML_w hM hg h12 (by omega) (by omega)
  try have h17 := Imp_m h10 (by omega)
  try have h18 := Imp_m h11 (by omega)
  refine En_Ps 2 (pc' := 2) (lv' := [(0, .ref 159)]) (st' := [.ref 159, .ref 159]) rfl ?_
  refine En_getU (j := 14) (u := 165) (g' := 41) (q := 0) rfl rfl rfl tgz_159 (by decide +kernel) hσ0 (by decide +kernel) (by decide +kernel) (fun h19 => ?_)
  refine En_Ps 1 (pc' := 6) (lv' := [(0, .ref 159)]) (st' := [.int ((Int32.ofInt 2)), .ref 165, .ref 159]) rfl ?_
  refine En_ialdK h12 rfl (by decide : (Int32.ofInt 2).toInt = 2) tgz_165 (by decide +kernel) hσ0 (by decide) (lnI (by decide +kernel : LN _ = 226) (by decide)) ?_
  refine En_callV rfl rfl rfl rfl rfl rfl rfl rfl tgz_159 (by decide +kernel) rfl (c_260x σ0 hσ0 z13 k h_k z2 h1 z6 h5) (by decide) (by decide) (fun v23 σ24 h22 => ?_)
  obtain ⟨h25, h26, z28, rfl, h27⟩ := h22
  obtain rfl : σ0 = σ24 := Fr_nil h26
  refine En_iEq _ rfl rfl (fun h29 => ?_) (fun h29 => ?_)
  · have h30 : gLs1 By Nb Sp = Sp := by unfold gLs1; (repeat' split) <;> first | rfl | (exfalso; omega) | ((try have i0 := Imp_m h10 (by omega)); (try have i1 := Imp_m h11 (by omega)); (try have i2 := Imp_m h27.2.2.1 (by omega)); (try have i3 := Imp_m h27.2.2.2 (by omega)); exfalso; omega)
    refine En_Ps 3 (pc' := 42) (lv' := [(0, .ref 159)]) (st' := [.ref 159, .int ((Int32.ofInt 0)), .ref 159]) rfl ?_
    refine En_getK (j := 14) h19 rfl rfl rfl tgz_159 (by decide +kernel) ?_
    refine En_Ps 1 (pc' := 46) (lv' := [(0, .ref 159)]) (st' := [.int ((Int32.ofInt 2)), .ref 165, .int ((Int32.ofInt 0)), .ref 159]) rfl ?_
    refine En_ialdK h12 rfl (by decide : (Int32.ofInt 2).toInt = 2) tgz_165 (by decide +kernel) hσ0 (by decide) (lnI (by decide +kernel : LN _ = 226) (by decide)) ?_
    refine En_Ps 2 (pc' := 49) (lv' := [(0, .ref 159)]) (st' := [.int ((z13 - ((Int32.ofInt 1)))), .int ((Int32.ofInt 0)), .ref 159]) rfl ?_
    refine En_top (subI rfl (by decide : (Int32.ofInt 1).toInt = 1) (by first | exact q_93f9478bef h14 | omega) (by first | exact q_cc3cee8591 h15 | omega)) (fun z32 h33 => ?_)
    have := (by decide : ((Int32.ofInt 0)).toInt = 0)
    refine En_callV rfl rfl rfl rfl rfl rfl rfl rfl tgz_159 (by decide +kernel) rfl (c_288x σ0 hσ0 ((Int32.ofInt 0)) z32 (geI (by decide : (Int32.ofInt 0).toInt = 0) (by decide)) (leI (by decide : (Int32.ofInt 0).toInt = 0) (by decide)) (geI rfl (by first | exact q_e2c277696c h33 h14 | omega)) (leI rfl (by first | exact q_d89d511a18 h33 h15 | omega)) f h_f k h_k z2 h1 z6 h5 hM) (by decide) (by decide) (fun v35 σ36 h34 => ?_)
    obtain ⟨h37, h38, z40, h41, z42, h43, z44, rfl, h39⟩ := h34
    have h45 := h39.2.2.2.2.2.2.2.2.2.2.2.2.2.2.2.2
    have h46 := Fr_trans hF0 h38 (by decide +kernel)
    have h47 := KF_fr (KF_0 (σ := σ0)) h38 (by decide +kernel)
    have h48 : tN By Nb ((Int32.ofInt 0)).toInt z32.toInt Sp = tN By Nb (0) (Sp.2.2.2 2 - 1) Sp := tN_cg2 (fun zz => by have j1 := Imp_m h10 zz; omega) (fun zz => by have j1 := Imp_m h10 zz; omega)
    obtain ⟨S49, h50⟩ : ∃ q : PS, q = tN By Nb (0) (Sp.2.2.2 2 - 1) Sp := ⟨_, rfl⟩
    have h51 : ML By Nb σ36 S49 := by rw [h50]; exact (ML_eq h45.1 h48)
    have h52 := ML_k h51 h43
    have h53 : Imp (S49.1 = 0) (z44.toInt = tV By Nb Sp.2.2.1) := fun z => h45.2 (by rw [h48, ← h50]; exact z)
    have h54 : Imp (S49.1 = 0) (Sp.1 = 0 ∧ tK By Nb Sp.2.2.1 = 2 ∧ 0 ≤ tV By Nb Sp.2.2.1 ∧ tV By Nb Sp.2.2.1 ≤ Sp.2.2.2 2 - 1) := fun z => tN_gg (by rw [← h50]; exact z)
    have h55 : S49.2.2.2 = Sp.2.2.2 := by rw [h50]; exact tN_w
    have h56 := Imp_m h39.2.2.2.2.2.2.2.2.2.2.2.1 (by omega)
    have h57 := Imp_m h39.2.2.2.2.2.2.2.2.2.2.2.2.1 (by omega)
    refine En_Ps 2 (pc' := 54) (lv' := [(1, .int z44), (0, .ref 159)]) (st' := [.ref 159]) rfl ?_
    refine En_callV rfl rfl rfl rfl rfl rfl rfl rfl tgz_159 (by decide +kernel) rfl (c_234x σ36 h37 z40 h41 z42 h43 h51) (by decide) (by decide) (fun v59 σ60 h58 => ?_)
    obtain ⟨h61, h62, z64, h65, z66, h67, z68, rfl, h63⟩ := h58
    have h69 := h63.2.2.2.2.2.2.2.2.2.2.2.2
    have h70 := Fr_trans h46 h62 (by decide +kernel)
    have h71 := KF_fr h47 h62 (by decide +kernel)
    have h72 : tN By Nb 0 (pI (S49.2.2.2 0) - 1) S49 = tN By Nb 0 (pI (Sp.2.2.2 0) - 1) S49 := tN_cg rfl (by first | rfl | simp only [h55] | rfl)
    obtain ⟨S73, h74⟩ : ∃ q : PS, q = tN By Nb 0 (pI (Sp.2.2.2 0) - 1) S49 := ⟨_, rfl⟩
    have h75 : ML By Nb σ60 S73 := by rw [h74]; exact (ML_eq h69.1 h72)
    have h76 := ML_k h75 h67
    have h77 : Imp (S73.1 = 0) (z68.toInt = tV By Nb S49.2.2.1) := fun z => h69.2 (by rw [h72, ← h74]; exact z)
    have h78 : Imp (S73.1 = 0) (S49.1 = 0 ∧ tK By Nb S49.2.2.1 = 2 ∧ 0 ≤ tV By Nb S49.2.2.1 ∧ tV By Nb S49.2.2.1 ≤ pI (Sp.2.2.2 0) - 1) := fun z => tN_gg (by rw [← h74]; exact z)
    have h79 : S73.2.2.2 = S49.2.2.2 := by rw [h74]; exact tN_w
    refine En_Ps 2 (pc' := 59) (lv' := [(2, .int z68), (1, .int z44), (0, .ref 159)]) (st' := [.ref 159]) rfl ?_
    refine En_callV rfl rfl rfl rfl rfl rfl rfl rfl tgz_159 (by decide +kernel) rfl (c_209x σ60 h61 z64 h65 z66 h67 h75) (by decide) (by decide) (fun v81 σ82 h80 => ?_)
    obtain ⟨h83, h84, z86, h87, z88, h89, z90, rfl, h85⟩ := h80
    have h91 := h85.2.2.2.2.2.2.2.2.2.2
    have h92 := Fr_trans h70 h84 (by decide +kernel)
    have h93 := KF_fr h71 h84 (by decide +kernel)
    obtain ⟨S94, h95⟩ : ∃ q : PS, q = gDeed By Nb S73 := ⟨_, rfl⟩
    have h96 : ML By Nb σ82 S94 := by rw [h95]; exact h91.1
    have h97 := ML_k h96 h89
    have h98 : z90.toInt = iW By Nb 8 S73 := h91.2
    have h99 : S94.2.2.2 = S73.2.2.2 := by rw [h95]; exact gDeed_w
    have h100 : Imp (S94.1 = 0) (S73.1 = 0) := fun z => gDeed_g (by rw [← h95]; exact z)
    refine En_Ps 2 (pc' := 64) (lv' := [(3, .int z90), (2, .int z68), (1, .int z44), (0, .ref 159)]) (st' := [.ref 159]) rfl ?_
    refine En_callV rfl rfl rfl rfl rfl rfl rfl rfl tgz_159 (by decide +kernel) rfl (c_237 σ82 h83 z88 h89) (by decide) (by decide) (fun v102 σ103 h101 => ?_)
    obtain ⟨h104, h105, z107, rfl, h106⟩ := h101
    obtain rfl : σ82 = σ103 := Fr_nil h105
    refine En_iNe _ rfl rfl (fun hx => by exfalso; have := Imp_m h39.2.2.2.2.2.2.2.2.2.2.2.2.2.2.2.1 (by omega); have := Imp_m h63.2.2.2.2.2.2.2.2.2.2.2.1 (by omega); have := Imp_m h85.2.2.2.2.2.2.2.2.2.1 (by omega); have := Imp_m h27.2.2.2 (by omega); have := Imp_m h39.2.2.2.2.2.2.2.2.2.2.2.2.2.1 (by omega); have := Imp_m h39.2.2.2.2.2.2.2.2.2.2.2.2.2.2.1 (by omega); omega) (fun h108 => ?_)
    exact En_ret (v := none) rfl rfl rfl ⟨h83, h92, z86, h87, z88, h89, rfl, ⟨by first | exact q_a555021d16 h85.2.2.1 | omega, by first | exact q_76190b61a3 h85.2.2.2.1 | omega, by first | exact q_06e02fd287 h39.2.2.2.2.1 h63.2.2.2.2.1 h85.2.2.2.2.1 | omega, by first | exact q_a555021d16 h85.2.2.2.2.2.1 | omega, by first | exact q_c733b715bf h85.2.2.2.2.2.2.1 | omega, by first | exact q_06e02fd287 h39.2.2.2.2.2.2.2.1 h63.2.2.2.2.2.2.2.1 h85.2.2.2.2.2.2.2.1 | omega, by first | exact q_5ee31f9195 h39.2.2.2.2.1 h63.2.2.2.2.1 h85.2.2.2.2.1 | omega, fun hh => by first | exact q_d014d9bd7d h39.2.2.2.2.2.2.2.1 h63.2.2.2.2.2.2.2.1 h85.2.2.2.2.2.2.2.1 hh | omega, ⟨h93, ML_eq h96 (by unfold gLesson; dsimp only; rw [h30, ← h50, ← h74, ← h95]; first | done | rfl | (rw [if_pos (by omega)]; first | done | rfl) | (rw [if_neg (by omega)]; first | done | rfl))⟩⟩⟩
  · have h109 := Imp_m h27.2.2.1 (by first | exact q_e3350da514 h29 h27.1 | omega)
    have h110 : Sp.1 = 0 := by omega
    have h111 := Imp_m h10 h110
    have h112 : tK By Nb Sp.2.2.1 = 2 := by omega
    have h113 := Imp_m h10 h110
    have h114 := Imp_m h11 ⟨h110, h112⟩
    refine En_Ps 1 (pc' := 14) (lv' := [(0, .ref 159)]) (st' := [.ref 159]) rfl ?_
    refine En_getK (j := 14) h19 rfl rfl rfl tgz_159 (by decide +kernel) ?_
    refine En_Ps 3 (pc' := 21) (lv' := [(0, .ref 159)]) (st' := [.ref 159, .int ((Int32.ofInt 4)), .int (((Int8.ofInt 10).toInt32)), .ref 165]) rfl ?_
    refine En_getK (j := 11) h5 rfl rfl rfl tgz_159 (by decide +kernel) ?_
    refine En_Ps 1 (pc' := 25) (lv' := [(0, .ref 159)]) (st' := [.int ((((Int32.ofInt 4)) * z6)), .int (((Int8.ofInt 10).toInt32)), .ref 165]) rfl ?_
    refine En_top (mulI (by decide : (Int32.ofInt 4).toInt = 4) rfl (Z := 4 * z6.toInt) (by first | exact q_8696eb12a7 | omega) (by first | exact q_be45967ac2 h7 | omega) (by first | exact q_000e87af3c h109.2.2.2 h15 | omega)) (fun z115 h116 => ?_)
    refine En_Ps 1 (pc' := 26) (lv' := [(0, .ref 159)]) (st' := [.int (((((Int8.ofInt 10).toInt32)) + z115)), .ref 165]) rfl ?_
    refine En_top (addI (by decide : ((Int8.ofInt 10).toInt32).toInt = 10) rfl (by first | exact q_7bfa00123f h116 h7 | omega) (by first | exact q_5be619cc88 h116 h109.2.2.2 h15 | omega)) (fun z117 h118 => ?_)
    refine En_Ps 2 (pc' := 28) (lv' := [(0, .ref 159)]) (st' := [.int ((z117 + ((Int32.ofInt 2)))), .ref 165]) rfl ?_
    refine En_top (addI rfl (by decide : (Int32.ofInt 2).toInt = 2) (by first | exact q_f48788af97 h118 h116 h7 | omega) (by first | exact q_219b66b40e h118 h116 h109.2.2.2 h15 | omega)) (fun z119 h120 => ?_)
    refine En_iald (l := 0) (u := 12) rfl rfl tgz_165 (by decide +kernel) hσ0 (by first | exact q_a578b517ac h120 h118 h116 h7 | omega) (lnI (by decide +kernel : LN _ = 226) (by first | exact q_65e1851e0c h120 h118 h116 h109.2.2.2 h15 | omega)) (FTrow 41 12 4 4 (by decide +kernel) (by first | exact q_25a2632096 h120 h118 h116 h7 | omega) (by first | exact q_0906d53f5c h120 h118 h116 h109.2.2.2 h15 | omega) (by first | exact q_29bc46c6fe h116 h118 h120 | omega)) (fun z122 h121 h123 h124 => ?_)
    have h125 : Sp.2.2.2 (12 + 4 * tV By Nb Sp.2.2.1) = z122.toInt := ML_wi hM hg h121 (by omega) (by omega) (by omega)
    refine En_Ps 1 (pc' := 31) (lv' := [(0, .ref 159)]) (st' := [.int (((Int8.ofInt 12).toInt32)), .int z122]) rfl ?_
    refine En_icNe _ rfl (by decide : ((Int8.ofInt 12).toInt32).toInt = 12) rfl (fun h126 => ?_) (fun h126 => ?_)
    · have h127 : gLs1 By Nb Sp = Sp := by unfold gLs1; (repeat' split) <;> first | rfl | (exfalso; omega) | ((try have i0 := Imp_m h10 (by omega)); (try have i1 := Imp_m h11 (by omega)); (try have i2 := Imp_m h27.2.2.2 (by omega)); exfalso; omega)
      refine En_Ps 3 (pc' := 42) (lv' := [(0, .ref 159)]) (st' := [.ref 159, .int ((Int32.ofInt 0)), .ref 159]) rfl ?_
      refine En_getK (j := 14) h19 rfl rfl rfl tgz_159 (by decide +kernel) ?_
      refine En_Ps 1 (pc' := 46) (lv' := [(0, .ref 159)]) (st' := [.int ((Int32.ofInt 2)), .ref 165, .int ((Int32.ofInt 0)), .ref 159]) rfl ?_
      refine En_ialdK h12 rfl (by decide : (Int32.ofInt 2).toInt = 2) tgz_165 (by decide +kernel) hσ0 (by decide) (lnI (by decide +kernel : LN _ = 226) (by decide)) ?_
      refine En_Ps 2 (pc' := 49) (lv' := [(0, .ref 159)]) (st' := [.int ((z13 - ((Int32.ofInt 1)))), .int ((Int32.ofInt 0)), .ref 159]) rfl ?_
      refine En_top (subI rfl (by decide : (Int32.ofInt 1).toInt = 1) (by first | exact q_93f9478bef h14 | omega) (by first | exact q_cc3cee8591 h15 | omega)) (fun z129 h130 => ?_)
      have := (by decide : ((Int32.ofInt 0)).toInt = 0)
      refine En_callV rfl rfl rfl rfl rfl rfl rfl rfl tgz_159 (by decide +kernel) rfl (c_288x σ0 hσ0 ((Int32.ofInt 0)) z129 (geI (by decide : (Int32.ofInt 0).toInt = 0) (by decide)) (leI (by decide : (Int32.ofInt 0).toInt = 0) (by decide)) (geI rfl (by first | exact q_e2c277696c h130 h14 | omega)) (leI rfl (by first | exact q_d89d511a18 h130 h15 | omega)) f h_f k h_k z2 h1 z6 h5 hM) (by decide) (by decide) (fun v132 σ133 h131 => ?_)
      obtain ⟨h134, h135, z137, h138, z139, h140, z141, rfl, h136⟩ := h131
      have h142 := h136.2.2.2.2.2.2.2.2.2.2.2.2.2.2.2.2
      have h143 := Fr_trans hF0 h135 (by decide +kernel)
      have h144 := KF_fr (KF_0 (σ := σ0)) h135 (by decide +kernel)
      have h145 : tN By Nb ((Int32.ofInt 0)).toInt z129.toInt Sp = tN By Nb (0) (Sp.2.2.2 2 - 1) Sp := tN_cg2 (fun zz => by have j1 := Imp_m h10 zz; omega) (fun zz => by have j1 := Imp_m h10 zz; omega)
      obtain ⟨S146, h147⟩ : ∃ q : PS, q = tN By Nb (0) (Sp.2.2.2 2 - 1) Sp := ⟨_, rfl⟩
      have h148 : ML By Nb σ133 S146 := by rw [h147]; exact (ML_eq h142.1 h145)
      have h149 := ML_k h148 h140
      have h150 : Imp (S146.1 = 0) (z141.toInt = tV By Nb Sp.2.2.1) := fun z => h142.2 (by rw [h145, ← h147]; exact z)
      have h151 : Imp (S146.1 = 0) (Sp.1 = 0 ∧ tK By Nb Sp.2.2.1 = 2 ∧ 0 ≤ tV By Nb Sp.2.2.1 ∧ tV By Nb Sp.2.2.1 ≤ Sp.2.2.2 2 - 1) := fun z => tN_gg (by rw [← h147]; exact z)
      have h152 : S146.2.2.2 = Sp.2.2.2 := by rw [h147]; exact tN_w
      have h153 := Imp_m h136.2.2.2.2.2.2.2.2.2.2.2.1 (by omega)
      have h154 := Imp_m h136.2.2.2.2.2.2.2.2.2.2.2.2.1 (by omega)
      have h155 := Imp_m h136.2.2.2.2.2.2.2.2.2.2.2.2.2.1 (by first | exact q_a3a41410e6 h130 h109.2.2.2 h7 | omega)
      refine En_Ps 2 (pc' := 54) (lv' := [(1, .int z141), (0, .ref 159)]) (st' := [.ref 159]) rfl ?_
      refine En_callV rfl rfl rfl rfl rfl rfl rfl rfl tgz_159 (by decide +kernel) rfl (c_234x σ133 h134 z137 h138 z139 h140 h148) (by decide) (by decide) (fun v157 σ158 h156 => ?_)
      obtain ⟨h159, h160, z162, h163, z164, h165, z166, rfl, h161⟩ := h156
      have h167 := h161.2.2.2.2.2.2.2.2.2.2.2.2
      have h168 := Fr_trans h143 h160 (by decide +kernel)
      have h169 := KF_fr h144 h160 (by decide +kernel)
      have h170 : tN By Nb 0 (pI (S146.2.2.2 0) - 1) S146 = tN By Nb 0 (pI (Sp.2.2.2 0) - 1) S146 := tN_cg rfl (by first | rfl | simp only [h152] | rfl)
      obtain ⟨S171, h172⟩ : ∃ q : PS, q = tN By Nb 0 (pI (Sp.2.2.2 0) - 1) S146 := ⟨_, rfl⟩
      have h173 : ML By Nb σ158 S171 := by rw [h172]; exact (ML_eq h167.1 h170)
      have h174 := ML_k h173 h165
      have h175 : Imp (S171.1 = 0) (z166.toInt = tV By Nb S146.2.2.1) := fun z => h167.2 (by rw [h170, ← h172]; exact z)
      have h176 : Imp (S171.1 = 0) (S146.1 = 0 ∧ tK By Nb S146.2.2.1 = 2 ∧ 0 ≤ tV By Nb S146.2.2.1 ∧ tV By Nb S146.2.2.1 ≤ pI (Sp.2.2.2 0) - 1) := fun z => tN_gg (by rw [← h172]; exact z)
      have h177 : S171.2.2.2 = S146.2.2.2 := by rw [h172]; exact tN_w
      refine En_Ps 2 (pc' := 59) (lv' := [(2, .int z166), (1, .int z141), (0, .ref 159)]) (st' := [.ref 159]) rfl ?_
      refine En_callV rfl rfl rfl rfl rfl rfl rfl rfl tgz_159 (by decide +kernel) rfl (c_209x σ158 h159 z162 h163 z164 h165 h173) (by decide) (by decide) (fun v179 σ180 h178 => ?_)
      obtain ⟨h181, h182, z184, h185, z186, h187, z188, rfl, h183⟩ := h178
      have h189 := h183.2.2.2.2.2.2.2.2.2.2
      have h190 := Fr_trans h168 h182 (by decide +kernel)
      have h191 := KF_fr h169 h182 (by decide +kernel)
      obtain ⟨S192, h193⟩ : ∃ q : PS, q = gDeed By Nb S171 := ⟨_, rfl⟩
      have h194 : ML By Nb σ180 S192 := by rw [h193]; exact h189.1
      have h195 := ML_k h194 h187
      have h196 : z188.toInt = iW By Nb 8 S171 := h189.2
      have h197 : S192.2.2.2 = S171.2.2.2 := by rw [h193]; exact gDeed_w
      have h198 : Imp (S192.1 = 0) (S171.1 = 0) := fun z => gDeed_g (by rw [← h193]; exact z)
      refine En_Ps 2 (pc' := 64) (lv' := [(3, .int z188), (2, .int z166), (1, .int z141), (0, .ref 159)]) (st' := [.ref 159]) rfl ?_
      refine En_callV rfl rfl rfl rfl rfl rfl rfl rfl tgz_159 (by decide +kernel) rfl (c_237 σ180 h181 z186 h187) (by decide) (by decide) (fun v200 σ201 h199 => ?_)
      obtain ⟨h202, h203, z205, rfl, h204⟩ := h199
      obtain rfl : σ180 = σ201 := Fr_nil h203
      refine En_iNe _ rfl rfl (fun h206 => ?_) (fun h206 => ?_)
      · have h207 := Imp_m h136.2.2.2.2.2.2.2.2.2.2.2.2.2.2.2.1 (by omega)
        have h208 := Imp_m h161.2.2.2.2.2.2.2.2.2.2.2.1 (by omega)
        have h209 := Imp_m h183.2.2.2.2.2.2.2.2.2.1 (by omega)
        have h210 : S192.1 = 0 := by omega
        have h211 := Imp_m h198 h210
        have h212 := Imp_m h175 h211
        have h213 := Imp_m h176 h211
        have h214 := Imp_m h150 h213.1
        have h215 := Imp_m h151 h213.1
        have h216 := Imp_m h10 h215.1
        have h217 := Imp_m h11 ⟨h215.1, h215.2.1⟩
        refine En_Ps 2 (pc' := 73) (lv' := [(3, .int z188), (2, .int z166), (1, .int z141), (0, .ref 159)]) (st' := [.ref 159, .int z141]) rfl ?_
        refine En_getK (j := 14) ((h182 _ _ (inW tgz_159 (by decide +kernel))).trans ((h160 _ _ (inW tgz_159 (by decide +kernel))).trans ((h135 _ _ (inW tgz_159 (by decide +kernel))).trans h19))) rfl rfl rfl tgz_159 (by decide +kernel) ?_
        refine En_Ps 4 (pc' := 81) (lv' := [(3, .int z188), (2, .int z166), (1, .int z141), (0, .ref 159)]) (st' := [.int ((((Int32.ofInt 4)) * z141)), .int (((Int8.ofInt 10).toInt32)), .ref 165, .int z141]) rfl ?_
        refine En_top (mulI (by decide : (Int32.ofInt 4).toInt = 4) rfl (Z := 4 * z141.toInt) (by first | exact q_8696eb12a7 | omega) (by first | exact q_75d17c0fda h207.2.2.2.2.1 h7 | omega) (by first | exact q_9ffa38fd64 h207.2.2.2.1 h207.2.2.2.2.2.2 h130 h15 | omega)) (fun z218 h219 => ?_)
        refine En_Ps 1 (pc' := 82) (lv' := [(3, .int z188), (2, .int z166), (1, .int z141), (0, .ref 159)]) (st' := [.int (((((Int8.ofInt 10).toInt32)) + z218)), .ref 165, .int z141]) rfl ?_
        refine En_top (addI (by decide : ((Int8.ofInt 10).toInt32).toInt = 10) rfl (by first | exact q_4cee74ce4d h219 h207.2.2.2.2.1 h7 | omega) (by first | exact q_9c8e44848d h219 h207.2.2.2.1 h207.2.2.2.2.2.2 h130 h15 | omega)) (fun z220 h221 => ?_)
        refine En_Ps 2 (pc' := 84) (lv' := [(3, .int z188), (2, .int z166), (1, .int z141), (0, .ref 159)]) (st' := [.int ((z220 + ((Int32.ofInt 2)))), .ref 165, .int z141]) rfl ?_
        refine En_top (addI rfl (by decide : (Int32.ofInt 2).toInt = 2) (by first | exact q_0034b71563 h221 h219 h207.2.2.2.2.1 h7 | omega) (by first | exact q_780bac3a59 h221 h219 h207.2.2.2.1 h207.2.2.2.2.2.2 h130 h15 | omega)) (fun z222 h223 => ?_)
        have h225 : (σ180 165)[(z222.toInt).toNat]? = some (.int z122) := by rw [show (z222.toInt) = (z119.toInt) by omega]; exact ((h182 _ _ (inWa tgz_165 (by decide +kernel))).trans ((h160 _ _ (inWa tgz_165 (by decide +kernel))).trans ((h135 _ _ (inWa tgz_165 (by decide +kernel))).trans h121)))
        refine En_ialdK h225 rfl rfl tgz_165 (by decide +kernel) h181 (by first | exact q_8f32cf81e9 h223 h221 h219 h207.2.2.2.2.1 h7 | omega) (lnI (by decide +kernel : LN _ = 226) (by first | exact q_6fb78dd1f5 h223 h221 h219 h207.2.2.2.1 h207.2.2.2.2.2.2 h130 h15 | omega)) ?_
        have h226 : S192.2.2.2 (12 + 4 * (tV By Nb Sp.2.2.1)) = z122.toInt := ML_wi h194 (by omega) ((h182 _ _ (inWa tgz_165 (by decide +kernel))).trans ((h160 _ _ (inWa tgz_165 (by decide +kernel))).trans ((h135 _ _ (inWa tgz_165 (by decide +kernel))).trans h121))) (by omega) (by omega) (by omega)
        rw [h197, h177, h152] at h226
        refine En_callS rfl rfl rfl rfl rfl rfl rfl rfl rfl (c_281 σ180 h181 z141 z122 (geI rfl (by first | exact q_ef1e8e38bf h136.1 | omega)) (leI rfl (by first | exact q_012949e807 h207.2.2.2.1 h207.2.2.2.2.2.2 h130 h15 | omega)) (geI rfl (by first | exact q_58e6e51dcc h123 | omega)) (leI rfl (by first | exact q_f080a0e48d h126 h124 | omega))) (by decide) (by decide) (fun v229 σ230 h228 => ?_)
        obtain ⟨h231, h232, z234, rfl, h233⟩ := h228
        obtain rfl : σ180 = σ230 := Fr_nil h232
        refine En_Ps 2 (pc' := 91) (lv' := [(4, .int z234), (3, .int z188), (2, .int z166), (1, .int z141), (0, .ref 159)]) (st' := [.ref 159]) rfl ?_
        refine En_getK (j := 14) ((h182 _ _ (inW tgz_159 (by decide +kernel))).trans ((h160 _ _ (inW tgz_159 (by decide +kernel))).trans ((h135 _ _ (inW tgz_159 (by decide +kernel))).trans h19))) rfl rfl rfl tgz_159 (by decide +kernel) ?_
        refine En_Ps 2 (pc' := 97) (lv' := [(4, .int z234), (3, .int z188), (2, .int z166), (1, .int z141), (0, .ref 159)]) (st' := [.int z166, .int z234, .ref 165]) rfl ?_
        refine En_iast (l := 0) (u := 15) rfl rfl tgz_165 (by decide +kernel) (by first | exact q_2c9de765f8 h233.1 | omega) (lnI (by decide +kernel : LN _ = 226) (by first | exact q_0616d82733 h233.2.1 | omega)) (FTrow 41 26 2 48 (by decide +kernel) (by first | exact q_cfcbae6494 h233.1 | omega) (by first | exact q_0e23becc5b h233.2.2.1 h126 h124 h207.2.2.2.1 h207.2.2.2.2.2.2 h130 h15 | omega) (by first | exact q_bfc7928b1f h233.2.2.1 h233.2.2.2 | omega)) (rngI rfl (by first | exact q_ef1e8e38bf h161.1 | omega) (by first | exact q_5a5f544404 h161.2.1 | omega)) h181 h190 (by decide +kernel) (fun σ235 h236 h237 h238 h239 => ?_)
        have h240 := KF_st h191 (J := z234.toInt) h239 (by omega) (by omega)
        obtain ⟨S241, h242⟩ : ∃ q : PS, q = wst S192 (26 + 24 * (tV By Nb Sp.2.2.1) + 2 * Sp.2.2.2 (12 + 4 * (tV By Nb Sp.2.2.1))) ((tV By Nb S146.2.2.1)) := ⟨_, rfl⟩
        have h243 : ML By Nb σ235 S241 := by rw [h242]; exact (ML_wst (i := 26 + 24 * (tV By Nb Sp.2.2.1) + 2 * Sp.2.2.2 (12 + 4 * (tV By Nb Sp.2.2.1))) (v := (tV By Nb S146.2.2.1)) h194 h238 h239 (by omega) (fun z => by have j1 := Imp_m h198 z; have j2 := Imp_m h175 j1; have j3 := Imp_m h176 j1; have j4 := Imp_m h150 j3.1; have j5 := Imp_m h151 j3.1; have j6 := Imp_m h10 j5.1; have j7 := Imp_m h11 ⟨j5.1, j5.2.1⟩; exact ⟨by omega, by omega⟩))
        have h244 := ML_k h243 ((h239 _ _ (Or.inl (neTG tgz_159 tgz_165 (by decide)))).trans h187)
        have h245 : S241.1 = S192.1 := by rw [h242]; rfl
        refine En_Ps 1 (pc' := 99) (lv' := [(4, .int z234), (3, .int z188), (2, .int z166), (1, .int z141), (0, .ref 159)]) (st' := [.ref 159]) rfl ?_
        refine En_getK (j := 14) ((h239 _ _ (Or.inl (neTG tgz_159 tgz_165 (by decide)))).trans ((h182 _ _ (inW tgz_159 (by decide +kernel))).trans ((h160 _ _ (inW tgz_159 (by decide +kernel))).trans ((h135 _ _ (inW tgz_159 (by decide +kernel))).trans h19)))) rfl rfl rfl tgz_159 (by decide +kernel) ?_
        refine En_Ps 3 (pc' := 106) (lv' := [(4, .int z234), (3, .int z188), (2, .int z166), (1, .int z141), (0, .ref 159)]) (st' := [.int ((z234 + ((Int32.ofInt 1)))), .ref 165]) rfl ?_
        refine En_top (addI rfl (by decide : (Int32.ofInt 1).toInt = 1) (by first | exact q_c40141e2b1 h233.1 | omega) (by first | exact q_919014a1f8 h233.2.1 | omega)) (fun z246 h247 => ?_)
        refine En_Ps 1 (pc' := 107) (lv' := [(4, .int z234), (3, .int z188), (2, .int z166), (1, .int z141), (0, .ref 159)]) (st' := [.int z188, .int z246, .ref 165]) rfl ?_
        refine En_iast (l := 0) (u := 1) rfl rfl tgz_165 (by decide +kernel) (by first | exact q_f9ae7b6bc1 h247 h233.1 | omega) (lnI (by decide +kernel : LN _ = 226) (by first | exact q_4c6d633468 h247 h233.2.1 | omega)) (FTrow 41 27 2 48 (by decide +kernel) (by first | exact q_af8e3f94d3 h247 h233.1 | omega) (by omega) (by first | exact q_493b8125c1 h233.2.2.1 h247 h233.2.2.2 | omega)) (rngI rfl (by first | exact q_ef1e8e38bf h183.1 | omega) (by first | exact q_733c8bfbae h183.2.1 | omega)) h236 h237 (by decide +kernel) (fun σ248 h249 h250 h251 h252 => ?_)
        have h253 := KF_st h240 (J := z246.toInt) h252 (by omega) (by omega)
        obtain ⟨S254, h255⟩ : ∃ q : PS, q = wst S241 (26 + 24 * (tV By Nb Sp.2.2.1) + 2 * Sp.2.2.2 (12 + 4 * (tV By Nb Sp.2.2.1)) + 1) ((iW By Nb 8 S171)) := ⟨_, rfl⟩
        have h256 : ML By Nb σ248 S254 := by rw [h255]; exact (ML_wst (i := 26 + 24 * (tV By Nb Sp.2.2.1) + 2 * Sp.2.2.2 (12 + 4 * (tV By Nb Sp.2.2.1)) + 1) (v := (iW By Nb 8 S171)) h243 h251 h252 (by omega) (fun z => by have j1 := h245.symm.trans z; have j2 := Imp_m h198 j1; have j3 := Imp_m h175 j2; have j4 := Imp_m h176 j2; have j5 := Imp_m h150 j4.1; have j6 := Imp_m h151 j4.1; have j7 := Imp_m h10 j6.1; have j8 := Imp_m h11 ⟨j6.1, j6.2.1⟩; exact ⟨by omega, by omega⟩))
        have h257 := ML_k h256 ((h252 _ _ (Or.inl (neTG tgz_159 tgz_165 (by decide)))).trans ((h239 _ _ (Or.inl (neTG tgz_159 tgz_165 (by decide)))).trans h187))
        have h258 : S254.1 = S241.1 := by rw [h255]; rfl
        refine En_Ps 1 (pc' := 109) (lv' := [(4, .int z234), (3, .int z188), (2, .int z166), (1, .int z141), (0, .ref 159)]) (st' := [.ref 159]) rfl ?_
        refine En_getK (j := 14) ((h252 _ _ (Or.inl (neTG tgz_159 tgz_165 (by decide)))).trans ((h239 _ _ (Or.inl (neTG tgz_159 tgz_165 (by decide)))).trans ((h182 _ _ (inW tgz_159 (by decide +kernel))).trans ((h160 _ _ (inW tgz_159 (by decide +kernel))).trans ((h135 _ _ (inW tgz_159 (by decide +kernel))).trans h19))))) rfl rfl rfl tgz_159 (by decide +kernel) ?_
        refine En_Ps 4 (pc' := 117) (lv' := [(4, .int z234), (3, .int z188), (2, .int z166), (1, .int z141), (0, .ref 159)]) (st' := [.int ((((Int32.ofInt 4)) * z141)), .int (((Int8.ofInt 10).toInt32)), .ref 165]) rfl ?_
        refine En_top (mulI (by decide : (Int32.ofInt 4).toInt = 4) rfl (Z := 4 * z141.toInt) (by first | exact q_8696eb12a7 | omega) (by first | exact q_75d17c0fda h207.2.2.2.2.1 h7 | omega) (by first | exact q_9ffa38fd64 h207.2.2.2.1 h207.2.2.2.2.2.2 h130 h15 | omega)) (fun z259 h260 => ?_)
        refine En_Ps 1 (pc' := 118) (lv' := [(4, .int z234), (3, .int z188), (2, .int z166), (1, .int z141), (0, .ref 159)]) (st' := [.int (((((Int8.ofInt 10).toInt32)) + z259)), .ref 165]) rfl ?_
        refine En_top (addI (by decide : ((Int8.ofInt 10).toInt32).toInt = 10) rfl (by first | exact q_4cee74ce4d h260 h207.2.2.2.2.1 h7 | omega) (by first | exact q_9c8e44848d h260 h207.2.2.2.1 h207.2.2.2.2.2.2 h130 h15 | omega)) (fun z261 h262 => ?_)
        refine En_Ps 2 (pc' := 120) (lv' := [(4, .int z234), (3, .int z188), (2, .int z166), (1, .int z141), (0, .ref 159)]) (st' := [.int ((z261 + ((Int32.ofInt 2)))), .ref 165]) rfl ?_
        refine En_top (addI rfl (by decide : (Int32.ofInt 2).toInt = 2) (by first | exact q_0034b71563 h262 h260 h207.2.2.2.2.1 h7 | omega) (by first | exact q_780bac3a59 h262 h260 h207.2.2.2.1 h207.2.2.2.2.2.2 h130 h15 | omega)) (fun z263 h264 => ?_)
        refine En_Ps 1 (pc' := 121) (lv' := [(4, .int z234), (3, .int z188), (2, .int z166), (1, .int z141), (0, .ref 159)]) (st' := [.int z263, .ref 165, .int z263, .ref 165]) rfl ?_
        have h266 : (σ248 165)[(z263.toInt).toNat]? = some (.int z122) := by rw [show (z263.toInt) = (z119.toInt) by omega]; exact ((h252 _ _ (Or.inr (by omega))).trans ((h239 _ _ (Or.inr (by omega))).trans ((h182 _ _ (inWa tgz_165 (by decide +kernel))).trans ((h160 _ _ (inWa tgz_165 (by decide +kernel))).trans ((h135 _ _ (inWa tgz_165 (by decide +kernel))).trans h121)))))
        refine En_ialdK h266 rfl rfl tgz_165 (by decide +kernel) h249 (by first | exact q_8f32cf81e9 h264 h262 h260 h207.2.2.2.2.1 h7 | omega) (lnI (by decide +kernel : LN _ = 226) (by first | exact q_6fb78dd1f5 h264 h262 h260 h207.2.2.2.1 h207.2.2.2.2.2.2 h130 h15 | omega)) ?_
        refine En_Ps 2 (pc' := 124) (lv' := [(4, .int z234), (3, .int z188), (2, .int z166), (1, .int z141), (0, .ref 159)]) (st' := [.int ((z122 + ((Int32.ofInt 1)))), .int z263, .ref 165]) rfl ?_
        refine En_top (addI rfl (by decide : (Int32.ofInt 1).toInt = 1) (by first | exact q_465ab79ac1 h123 | omega) (by first | exact q_169b3a8678 h126 h124 | omega)) (fun z267 h268 => ?_)
        refine En_iast (l := 0) (u := 12) rfl rfl tgz_165 (by decide +kernel) (by first | exact q_8f32cf81e9 h264 h262 h260 h207.2.2.2.2.1 h7 | omega) (lnI (by decide +kernel : LN _ = 226) (by first | exact q_6fb78dd1f5 h264 h262 h260 h207.2.2.2.1 h207.2.2.2.2.2.2 h130 h15 | omega)) (FTrow 41 12 4 4 (by decide +kernel) (by first | exact q_48d69119bc h264 h262 h260 h207.2.2.2.2.1 h7 | omega) (by first | exact q_2652ac4fd9 h264 h262 h260 h207.2.2.2.1 h207.2.2.2.2.2.2 h130 h15 | omega) (by first | exact q_29bc46c6fe h260 h262 h264 | omega)) (rngI rfl (by first | exact q_35104ce9d3 h268 h123 | omega) (by first | exact q_f43815b60c h268 h126 h124 | omega)) h249 h250 (by decide +kernel) (fun σ269 h270 h271 h272 h273 => ?_)
        have h274 := KF_st h253 (J := z263.toInt) h273 (by omega) (by omega)
        obtain ⟨S275, h276⟩ : ∃ q : PS, q = wst S254 (12 + 4 * (tV By Nb Sp.2.2.1)) (Sp.2.2.2 (12 + 4 * (tV By Nb Sp.2.2.1)) + 1) := ⟨_, rfl⟩
        have h277 : ML By Nb σ269 S275 := by rw [h276]; exact (ML_wst (i := 12 + 4 * (tV By Nb Sp.2.2.1)) (v := Sp.2.2.2 (12 + 4 * (tV By Nb Sp.2.2.1)) + 1) h256 h272 h273 (by omega) (fun z => by have j1 := h258.symm.trans z; have j2 := h245.symm.trans j1; have j3 := Imp_m h198 j2; have j4 := Imp_m h175 j3; have j5 := Imp_m h176 j3; have j6 := Imp_m h150 j5.1; have j7 := Imp_m h151 j5.1; have j8 := Imp_m h10 j7.1; have j9 := Imp_m h11 ⟨j7.1, j7.2.1⟩; exact ⟨by omega, by omega⟩))
        have h278 := ML_k h277 ((h273 _ _ (Or.inl (neTG tgz_159 tgz_165 (by decide)))).trans ((h252 _ _ (Or.inl (neTG tgz_159 tgz_165 (by decide)))).trans ((h239 _ _ (Or.inl (neTG tgz_159 tgz_165 (by decide)))).trans h187)))
        have h279 : S275.1 = S254.1 := by rw [h276]; rfl
        exact En_ret (v := none) rfl rfl rfl ⟨h270, h271, z184, ((h273 _ _ (Or.inl (neTG tgz_159 tgz_165 (by decide)))).trans ((h252 _ _ (Or.inl (neTG tgz_159 tgz_165 (by decide)))).trans ((h239 _ _ (Or.inl (neTG tgz_159 tgz_165 (by decide)))).trans h185))), z186, ((h273 _ _ (Or.inl (neTG tgz_159 tgz_165 (by decide)))).trans ((h252 _ _ (Or.inl (neTG tgz_159 tgz_165 (by decide)))).trans ((h239 _ _ (Or.inl (neTG tgz_159 tgz_165 (by decide)))).trans h187))), rfl, ⟨by first | exact q_a555021d16 h183.2.2.1 | omega, by first | exact q_76190b61a3 h183.2.2.2.1 | omega, by first | exact q_06e02fd287 h136.2.2.2.2.1 h161.2.2.2.2.1 h183.2.2.2.2.1 | omega, by first | exact q_a555021d16 h183.2.2.2.2.2.1 | omega, by first | exact q_c733b715bf h183.2.2.2.2.2.2.1 | omega, by first | exact q_8ad2cc928a h109.1 h183.2.2.2.2.2.1 | omega, by first | exact q_5ee31f9195 h136.2.2.2.2.1 h161.2.2.2.2.1 h183.2.2.2.2.1 | omega, fun hh => by first | exact q_35a72a35ef h109.1 | omega, ⟨h274, ML_eq h277 (by unfold gLesson; dsimp only; rw [h127, ← h147, ← h172, ← h193, ← h242, ← h255, ← h276]; first | done | rfl | (rw [if_pos (by omega)]; first | done | rfl) | (rw [if_neg (by omega)]; first | done | rfl))⟩⟩⟩
      · exact En_ret (v := none) rfl rfl rfl ⟨h181, h190, z184, h185, z186, h187, rfl, ⟨by first | exact q_a555021d16 h183.2.2.1 | omega, by first | exact q_76190b61a3 h183.2.2.2.1 | omega, by first | exact q_06e02fd287 h136.2.2.2.2.1 h161.2.2.2.2.1 h183.2.2.2.2.1 | omega, by first | exact q_a555021d16 h183.2.2.2.2.2.1 | omega, by first | exact q_c733b715bf h183.2.2.2.2.2.2.1 | omega, by first | exact q_8ad2cc928a h109.1 h183.2.2.2.2.2.1 | omega, by first | exact q_5ee31f9195 h136.2.2.2.2.1 h161.2.2.2.2.1 h183.2.2.2.2.1 | omega, fun hh => by first | exact q_35a72a35ef h109.1 | omega, ⟨h191, ML_eq h194 (by unfold gLesson; dsimp only; rw [h127, ← h147, ← h172, ← h193]; first | done | rfl | (rw [if_pos (by omega)]; first | done | rfl) | (rw [if_neg (by omega)]; first | done | rfl))⟩⟩⟩
    · refine En_Ps 2 (pc' := 36) (lv' := [(0, .ref 159)]) (st' := [.int ((Int32.ofInt 3)), .ref 159]) rfl ?_
      have := (by decide : ((Int32.ofInt 3)).toInt = 3)
      refine En_callV rfl rfl rfl rfl rfl rfl rfl rfl tgz_159 (by decide +kernel) rfl (c_223x σ0 hσ0 ((Int32.ofInt 3)) (geI (by decide : (Int32.ofInt 3).toInt = 3) (by decide)) (leI (by decide : (Int32.ofInt 3).toInt = 3) (by decide)) k h_k hM) (by decide) (by decide) (fun v281 σ282 h280 => ?_)
      obtain ⟨h283, h284, z286, h287, rfl, h285⟩ := h280
      have h288 := h285.2.2.2.2
      have h289 := Fr_trans hF0 h284 (by decide +kernel)
      have h290 := KF_fr (KF_0 (σ := σ0)) h284 (by decide +kernel)
      obtain ⟨S291, h292⟩ : ∃ q : PS, q = err By Nb 3 Sp := ⟨_, rfl⟩
      have h293 : ML By Nb σ282 S291 := by rw [h292]; exact (ML_eq h288 (err_cg (by omega)))
      have h294 := ML_k h293 h287
      have h295 : Imp (S291.1 = 0) (tK By Nb S291.2.2.1 = z2.toInt) := ML_t h293 ((h284 _ _ (inW tgz_159 (by decide +kernel))).trans h1)
      have h296 : Imp (S291.1 = 0 ∧ tK By Nb S291.2.2.1 = 2) (z6.toInt = min 99999 (tV By Nb S291.2.2.1) ∧ 0 ≤ tV By Nb S291.2.2.1) := fun q => ML_u h293 ((h284 _ _ (inW tgz_159 (by decide +kernel))).trans h5) q.1 q.2
      have h297 : S291.2.2.2 = Sp.2.2.2 := by rw [h292]; exact err_w
      have h298 : gLs1 By Nb Sp = S291 := by rw [h292]; unfold gLs1; (repeat' split) <;> first | rfl | (exfalso; omega) | ((try have i0 := Imp_m h295 (by omega)); (try have i1 := Imp_m h10 (by omega)); (try have i2 := Imp_m h11 (by omega)); (try have i3 := Imp_m h296 (by omega)); (try have i4 := Imp_m h27.2.2.2 (by omega)); exfalso; omega)
      refine En_Ps 3 (pc' := 42) (lv' := [(0, .ref 159)]) (st' := [.ref 159, .int ((Int32.ofInt 0)), .ref 159]) rfl ?_
      refine En_getK (j := 14) ((h284 _ _ (inW tgz_159 (by decide +kernel))).trans h19) rfl rfl rfl tgz_159 (by decide +kernel) ?_
      refine En_Ps 1 (pc' := 46) (lv' := [(0, .ref 159)]) (st' := [.int ((Int32.ofInt 2)), .ref 165, .int ((Int32.ofInt 0)), .ref 159]) rfl ?_
      refine En_ialdK ((h284 _ _ (inWa tgz_165 (by decide +kernel))).trans h12) rfl (by decide : (Int32.ofInt 2).toInt = 2) tgz_165 (by decide +kernel) h283 (by decide) (lnI (by decide +kernel : LN _ = 226) (by decide)) ?_
      refine En_Ps 2 (pc' := 49) (lv' := [(0, .ref 159)]) (st' := [.int ((z13 - ((Int32.ofInt 1)))), .int ((Int32.ofInt 0)), .ref 159]) rfl ?_
      refine En_top (subI rfl (by decide : (Int32.ofInt 1).toInt = 1) (by first | exact q_93f9478bef h14 | omega) (by first | exact q_cc3cee8591 h15 | omega)) (fun z300 h301 => ?_)
      have := (by decide : ((Int32.ofInt 0)).toInt = 0)
      refine En_callV rfl rfl rfl rfl rfl rfl rfl rfl tgz_159 (by decide +kernel) rfl (c_288x σ282 h283 ((Int32.ofInt 0)) z300 (geI (by decide : (Int32.ofInt 0).toInt = 0) (by decide)) (leI (by decide : (Int32.ofInt 0).toInt = 0) (by decide)) (geI rfl (by first | exact q_e2c277696c h301 h14 | omega)) (leI rfl (by first | exact q_d89d511a18 h301 h15 | omega)) f ((h284 _ _ (inW tgz_159 (by decide +kernel))).trans h_f) z286 h287 z2 ((h284 _ _ (inW tgz_159 (by decide +kernel))).trans h1) z6 ((h284 _ _ (inW tgz_159 (by decide +kernel))).trans h5) h293) (by decide) (by decide) (fun v303 σ304 h302 => ?_)
      obtain ⟨h305, h306, z308, h309, z310, h311, z312, rfl, h307⟩ := h302
      have h313 := h307.2.2.2.2.2.2.2.2.2.2.2.2.2.2.2.2
      have h314 := Fr_trans h289 h306 (by decide +kernel)
      have h315 := KF_fr h290 h306 (by decide +kernel)
      have h316 : tN By Nb ((Int32.ofInt 0)).toInt z300.toInt S291 = tN By Nb (0) (Sp.2.2.2 2 - 1) S291 := tN_cg2 (fun zz => by have j1 := Imp_m h295 zz; omega) (fun zz => by have j1 := Imp_m h295 zz; omega)
      obtain ⟨S317, h318⟩ : ∃ q : PS, q = tN By Nb (0) (Sp.2.2.2 2 - 1) S291 := ⟨_, rfl⟩
      have h319 : ML By Nb σ304 S317 := by rw [h318]; exact (ML_eq h313.1 h316)
      have h320 := ML_k h319 h311
      have h321 : Imp (S317.1 = 0) (z312.toInt = tV By Nb S291.2.2.1) := fun z => h313.2 (by rw [h316, ← h318]; exact z)
      have h322 : Imp (S317.1 = 0) (S291.1 = 0 ∧ tK By Nb S291.2.2.1 = 2 ∧ 0 ≤ tV By Nb S291.2.2.1 ∧ tV By Nb S291.2.2.1 ≤ Sp.2.2.2 2 - 1) := fun z => tN_gg (by rw [← h318]; exact z)
      have h323 : S317.2.2.2 = S291.2.2.2 := by rw [h318]; exact tN_w
      have h324 := Imp_m h307.2.2.2.2.2.2.2.2.2.2.2.1 (by omega)
      have h325 := Imp_m h307.2.2.2.2.2.2.2.2.2.2.2.2.1 (by omega)
      have h326 := Imp_m h307.2.2.2.2.2.2.2.2.2.2.2.2.2.1 (by first | exact q_a3a41410e6 h301 h109.2.2.2 h7 | omega)
      refine En_Ps 2 (pc' := 54) (lv' := [(1, .int z312), (0, .ref 159)]) (st' := [.ref 159]) rfl ?_
      refine En_callV rfl rfl rfl rfl rfl rfl rfl rfl tgz_159 (by decide +kernel) rfl (c_234x σ304 h305 z308 h309 z310 h311 h319) (by decide) (by decide) (fun v328 σ329 h327 => ?_)
      obtain ⟨h330, h331, z333, h334, z335, h336, z337, rfl, h332⟩ := h327
      have h338 := h332.2.2.2.2.2.2.2.2.2.2.2.2
      have h339 := Fr_trans h314 h331 (by decide +kernel)
      have h340 := KF_fr h315 h331 (by decide +kernel)
      have h341 : tN By Nb 0 (pI (S317.2.2.2 0) - 1) S317 = tN By Nb 0 (pI (Sp.2.2.2 0) - 1) S317 := tN_cg rfl (by first | rfl | simp only [h297, h323] | rfl)
      obtain ⟨S342, h343⟩ : ∃ q : PS, q = tN By Nb 0 (pI (Sp.2.2.2 0) - 1) S317 := ⟨_, rfl⟩
      have h344 : ML By Nb σ329 S342 := by rw [h343]; exact (ML_eq h338.1 h341)
      have h345 := ML_k h344 h336
      have h346 : Imp (S342.1 = 0) (z337.toInt = tV By Nb S317.2.2.1) := fun z => h338.2 (by rw [h341, ← h343]; exact z)
      have h347 : Imp (S342.1 = 0) (S317.1 = 0 ∧ tK By Nb S317.2.2.1 = 2 ∧ 0 ≤ tV By Nb S317.2.2.1 ∧ tV By Nb S317.2.2.1 ≤ pI (Sp.2.2.2 0) - 1) := fun z => tN_gg (by rw [← h343]; exact z)
      have h348 : S342.2.2.2 = S317.2.2.2 := by rw [h343]; exact tN_w
      refine En_Ps 2 (pc' := 59) (lv' := [(2, .int z337), (1, .int z312), (0, .ref 159)]) (st' := [.ref 159]) rfl ?_
      refine En_callV rfl rfl rfl rfl rfl rfl rfl rfl tgz_159 (by decide +kernel) rfl (c_209x σ329 h330 z333 h334 z335 h336 h344) (by decide) (by decide) (fun v350 σ351 h349 => ?_)
      obtain ⟨h352, h353, z355, h356, z357, h358, z359, rfl, h354⟩ := h349
      have h360 := h354.2.2.2.2.2.2.2.2.2.2
      have h361 := Fr_trans h339 h353 (by decide +kernel)
      have h362 := KF_fr h340 h353 (by decide +kernel)
      obtain ⟨S363, h364⟩ : ∃ q : PS, q = gDeed By Nb S342 := ⟨_, rfl⟩
      have h365 : ML By Nb σ351 S363 := by rw [h364]; exact h360.1
      have h366 := ML_k h365 h358
      have h367 : z359.toInt = iW By Nb 8 S342 := h360.2
      have h368 : S363.2.2.2 = S342.2.2.2 := by rw [h364]; exact gDeed_w
      have h369 : Imp (S363.1 = 0) (S342.1 = 0) := fun z => gDeed_g (by rw [← h364]; exact z)
      refine En_Ps 2 (pc' := 64) (lv' := [(3, .int z359), (2, .int z337), (1, .int z312), (0, .ref 159)]) (st' := [.ref 159]) rfl ?_
      refine En_callV rfl rfl rfl rfl rfl rfl rfl rfl tgz_159 (by decide +kernel) rfl (c_237 σ351 h352 z357 h358) (by decide) (by decide) (fun v371 σ372 h370 => ?_)
      obtain ⟨h373, h374, z376, rfl, h375⟩ := h370
      obtain rfl : σ351 = σ372 := Fr_nil h374
      refine En_iNe _ rfl rfl (fun hx => by exfalso; have := Imp_m h307.2.2.2.2.2.2.2.2.2.2.2.2.2.2.1 (by omega); have := Imp_m h307.2.2.2.2.2.2.2.2.2.2.2.2.2.2.2.1 (by omega); have := Imp_m h332.2.2.2.2.2.2.2.2.2.2.2.1 (by omega); have := Imp_m h354.2.2.2.2.2.2.2.2.2.1 (by omega); omega) (fun h377 => ?_)
      exact En_ret (v := none) rfl rfl rfl ⟨h352, h361, z355, h356, z357, h358, rfl, ⟨by first | exact q_a555021d16 h354.2.2.1 | omega, by first | exact q_76190b61a3 h354.2.2.2.1 | omega, by first | exact q_06e02fd287 h307.2.2.2.2.1 h332.2.2.2.2.1 h354.2.2.2.2.1 | omega, by first | exact q_a555021d16 h354.2.2.2.2.2.1 | omega, by first | exact q_c733b715bf h354.2.2.2.2.2.2.1 | omega, by first | exact q_8ad2cc928a h109.1 h354.2.2.2.2.2.1 | omega, by first | exact q_5ee31f9195 h307.2.2.2.2.1 h332.2.2.2.2.1 h354.2.2.2.2.1 | omega, fun hh => by first | exact q_35a72a35ef h109.1 | omega, ⟨h362, ML_eq h365 (by unfold gLesson; dsimp only; rw [h298, ← h318, ← h343, ← h364]; first | done | rfl | (rw [if_pos (by omega)]; first | done | rfl) | (rw [if_neg (by omega)]; first | done | rfl))⟩⟩⟩
/-- DoorSchoolModel.readTwin()V -/
abbrev P_304x (σ0 : SG) (By : Int → Int) (Nb : Int) (Sp : PS) (f : Int32) (k : Int32) : PO := fun v σ => WT σ ∧ Fr [(35, 8), (35, 9), (35, 10), (35, 11), (35, 12), (35, 13), (41, 0)] σ0 σ ∧ ∃ f1 : Int32, (σ 159)[8]? = some (.int f1) ∧ ∃ k1 : Int32, (σ 159)[12]? = some (.int k1) ∧ v = none ∧ -f1.toInt ≤ 0 ∧ f1.toInt - 1600 ≤ 0 ∧ -f1.toInt + f.toInt ≤ 0 ∧ -k1.toInt ≤ 0 ∧ k1.toInt - 3 ≤ 0 ∧ -k1.toInt + k.toInt ≤ 0 ∧ f.toInt - f1.toInt ≤ 0 ∧ Imp (k1.toInt ≤ 0) (k.toInt ≤ 0) ∧ (KF σ0 σ ∧ ML By Nb σ (gTwin By Nb Sp))
set_option maxRecDepth 10000 in
set_option maxHeartbeats 4000000 in
theorem c_304x {By : Int → Int} {Nb : Int} {Sp : PS} (σ0 : SG) (hσ0 : WT σ0) (f : Int32) (h_f : (σ0 159)[8]? = some (.int f)) (k : Int32) (h_k : (σ0 159)[12]? = some (.int k)) (hM : ML By Nb σ0 Sp) (hg : Sp.1 = 0) : En 3 69 none mr_304 (P_304x σ0 By Nb Sp f k) 0 [(0, .ref 159)] [] σ0 := by
  obtain ⟨hl_f, hu_f⟩ := WT_int hσ0 (g := 35) (by decide +kernel) (by decide +kernel) (l := 0) (u := 1600) (by decide +kernel) h_f
  obtain ⟨hl_k, hu_k⟩ := WT_int hσ0 (g := 35) (by decide +kernel) (by decide +kernel) (l := 0) (u := 3) (by decide +kernel) h_k
  have hF0 : Fr [(35, 8), (35, 9), (35, 10), (35, 11), (35, 12), (35, 13), (41, 0)] σ0 σ0 := Fr_rfl
  obtain ⟨z2, h1, h3, h4⟩ := WT_peekI hσ0 tgz_159 (by decide +kernel : FT 35 10 = (0, 0, 4)) (by decide +kernel)
  obtain ⟨z6, h5, h7, h8⟩ := WT_peekI hσ0 tgz_159 (by decide +kernel : FT 35 11 = (0, 0, 99999)) (by decide +kernel)
  have h9 := ML_k hM h_k
  have h10 : Imp (Sp.1 = 0) (tK By Nb Sp.2.2.1 = z2.toInt) := ML_t hM h1
  have h11 : Imp (Sp.1 = 0 ∧ tK By Nb Sp.2.2.1 = 2) (z6.toInt = min 99999 (tV By Nb Sp.2.2.1) ∧ 0 ≤ tV By Nb Sp.2.2.1) := fun q => ML_u hM h5 q.1 q.2
  obtain ⟨z13, h12, h14, h15⟩ := WT_peekI hσ0 tgz_165 (by decide +kernel : FT 41 (2 : Int).toNat = (0, 0, 4)) (by decide +kernel)
  have h16 := ML_w hM hg h12 (by omega) (by omega)
  try have h17 := Imp_m h10 (by omega)
  try have h18 := Imp_m h11 (by omega)
  refine En_Ps 2 (pc' := 2) (lv' := [(0, .ref 159)]) (st' := [.ref 159, .ref 159]) rfl ?_
  refine En_getU (j := 14) (u := 165) (g' := 41) (q := 0) rfl rfl rfl tgz_159 (by decide +kernel) hσ0 (by decide +kernel) (by decide +kernel) (fun h19 => ?_)
  refine En_Ps 1 (pc' := 6) (lv' := [(0, .ref 159)]) (st' := [.int ((Int32.ofInt 2)), .ref 165, .ref 159]) rfl ?_
  refine En_ialdK h12 rfl (by decide : (Int32.ofInt 2).toInt = 2) tgz_165 (by decide +kernel) hσ0 (by decide) (lnI (by decide +kernel : LN _ = 226) (by decide)) ?_
  refine En_callV rfl rfl rfl rfl rfl rfl rfl rfl tgz_159 (by decide +kernel) rfl (c_260x σ0 hσ0 z13 k h_k z2 h1 z6 h5) (by decide) (by decide) (fun v23 σ24 h22 => ?_)
  obtain ⟨h25, h26, z28, rfl, h27⟩ := h22
  obtain rfl : σ0 = σ24 := Fr_nil h26
  refine En_iEq _ rfl rfl (fun h29 => ?_) (fun h29 => ?_)
  · have h30 : gTw1 By Nb Sp = Sp := by unfold gTw1; (repeat' split) <;> first | rfl | (exfalso; omega) | ((try have i0 := Imp_m h10 (by omega)); (try have i1 := Imp_m h11 (by omega)); (try have i2 := Imp_m h27.2.2.1 (by omega)); (try have i3 := Imp_m h27.2.2.2 (by omega)); exfalso; omega)
    refine En_Ps 3 (pc' := 43) (lv' := [(0, .ref 159)]) (st' := [.ref 159, .int ((Int32.ofInt 0)), .ref 159]) rfl ?_
    refine En_getK (j := 14) h19 rfl rfl rfl tgz_159 (by decide +kernel) ?_
    refine En_Ps 1 (pc' := 47) (lv' := [(0, .ref 159)]) (st' := [.int ((Int32.ofInt 2)), .ref 165, .int ((Int32.ofInt 0)), .ref 159]) rfl ?_
    refine En_ialdK h12 rfl (by decide : (Int32.ofInt 2).toInt = 2) tgz_165 (by decide +kernel) hσ0 (by decide) (lnI (by decide +kernel : LN _ = 226) (by decide)) ?_
    refine En_Ps 2 (pc' := 50) (lv' := [(0, .ref 159)]) (st' := [.int ((z13 - ((Int32.ofInt 1)))), .int ((Int32.ofInt 0)), .ref 159]) rfl ?_
    refine En_top (subI rfl (by decide : (Int32.ofInt 1).toInt = 1) (by first | exact q_93f9478bef h14 | omega) (by first | exact q_cc3cee8591 h15 | omega)) (fun z32 h33 => ?_)
    have := (by decide : ((Int32.ofInt 0)).toInt = 0)
    refine En_callV rfl rfl rfl rfl rfl rfl rfl rfl tgz_159 (by decide +kernel) rfl (c_288x σ0 hσ0 ((Int32.ofInt 0)) z32 (geI (by decide : (Int32.ofInt 0).toInt = 0) (by decide)) (leI (by decide : (Int32.ofInt 0).toInt = 0) (by decide)) (geI rfl (by first | exact q_e2c277696c h33 h14 | omega)) (leI rfl (by first | exact q_d89d511a18 h33 h15 | omega)) f h_f k h_k z2 h1 z6 h5 hM) (by decide) (by decide) (fun v35 σ36 h34 => ?_)
    obtain ⟨h37, h38, z40, h41, z42, h43, z44, rfl, h39⟩ := h34
    have h45 := h39.2.2.2.2.2.2.2.2.2.2.2.2.2.2.2.2
    have h46 := Fr_trans hF0 h38 (by decide +kernel)
    have h47 := KF_fr (KF_0 (σ := σ0)) h38 (by decide +kernel)
    have h48 : tN By Nb ((Int32.ofInt 0)).toInt z32.toInt Sp = tN By Nb (0) (Sp.2.2.2 2 - 1) Sp := tN_cg2 (fun zz => by have j1 := Imp_m h10 zz; omega) (fun zz => by have j1 := Imp_m h10 zz; omega)
    obtain ⟨S49, h50⟩ : ∃ q : PS, q = tN By Nb (0) (Sp.2.2.2 2 - 1) Sp := ⟨_, rfl⟩
    have h51 : ML By Nb σ36 S49 := by rw [h50]; exact (ML_eq h45.1 h48)
    have h52 := ML_k h51 h43
    have h53 : Imp (S49.1 = 0) (z44.toInt = tV By Nb Sp.2.2.1) := fun z => h45.2 (by rw [h48, ← h50]; exact z)
    have h54 : Imp (S49.1 = 0) (Sp.1 = 0 ∧ tK By Nb Sp.2.2.1 = 2 ∧ 0 ≤ tV By Nb Sp.2.2.1 ∧ tV By Nb Sp.2.2.1 ≤ Sp.2.2.2 2 - 1) := fun z => tN_gg (by rw [← h50]; exact z)
    have h55 : S49.2.2.2 = Sp.2.2.2 := by rw [h50]; exact tN_w
    have h56 := Imp_m h39.2.2.2.2.2.2.2.2.2.2.2.1 (by omega)
    have h57 := Imp_m h39.2.2.2.2.2.2.2.2.2.2.2.2.1 (by omega)
    refine En_Ps 1 (pc' := 54) (lv' := [(1, .int z44), (0, .ref 159)]) (st' := []) rfl ?_
    obtain ⟨z59, h58, h60, h61⟩ := WT_peekI h37 tgz_159 (by decide +kernel : FT 35 10 = (0, 0, 4)) (by decide +kernel)
    obtain ⟨z63, h62, h64, h65⟩ := WT_peekI h37 tgz_159 (by decide +kernel : FT 35 11 = (0, 0, 99999)) (by decide +kernel)
    have h66 := ML_k h51 h43
    have h67 : Imp (S49.1 = 0) (tK By Nb S49.2.2.1 = z59.toInt) := ML_t h51 h58
    have h68 : Imp (S49.1 = 0 ∧ tK By Nb S49.2.2.1 = 2) (z63.toInt = min 99999 (tV By Nb S49.2.2.1) ∧ 0 ≤ tV By Nb S49.2.2.1) := fun q => ML_u h51 h62 q.1 q.2
    have h69 : S49.2.2.2 2 = Sp.2.2.2 2 := by rw [h55]
    refine En_Ps 2 (pc' := 56) (lv' := [(1, .int z44), (0, .ref 159)]) (st' := [.ref 159, .ref 159]) rfl ?_
    refine En_getK (j := 14) ((h38 _ _ (inW tgz_159 (by decide +kernel))).trans h19) rfl rfl rfl tgz_159 (by decide +kernel) ?_
    refine En_Ps 1 (pc' := 60) (lv' := [(1, .int z44), (0, .ref 159)]) (st' := [.int ((Int32.ofInt 2)), .ref 165, .ref 159]) rfl ?_
    refine En_ialdK ((h38 _ _ (inWa tgz_165 (by decide +kernel))).trans h12) rfl (by decide : (Int32.ofInt 2).toInt = 2) tgz_165 (by decide +kernel) h37 (by decide) (lnI (by decide +kernel : LN _ = 226) (by decide)) ?_
    refine En_callV rfl rfl rfl rfl rfl rfl rfl rfl tgz_159 (by decide +kernel) rfl (c_260x σ36 h37 z13 z42 h43 z59 h58 z63 h62) (by decide) (by decide) (fun v72 σ73 h71 => ?_)
    obtain ⟨h74, h75, z77, rfl, h76⟩ := h71
    obtain rfl : σ36 = σ73 := Fr_nil h75
    refine En_iEq _ rfl rfl (fun h78 => ?_) (fun hx => by exfalso; have := Imp_m h76.2.2.1 (by omega); have := Imp_m h39.2.2.2.2.2.2.2.2.2.2.2.2.2.1 (by omega); have := Imp_m h39.2.2.2.2.2.2.2.2.2.2.2.2.2.2.2.1 (by omega); have := Imp_m h27.2.2.2 (by omega); have := Imp_m h39.2.2.2.2.2.2.2.2.2.2.2.2.2.2.1 (by omega); omega)
    have h79 : gTw2 By Nb (tV By Nb Sp.2.2.1) S49 = S49 := by unfold gTw2; (repeat' split) <;> first | rfl | (exfalso; omega) | ((try have i0 := Imp_m h67 (by omega)); (try have i1 := Imp_m h54 (by omega)); (try have i2 := Imp_m h53 (by omega)); (try have i3 := Imp_m h10 (by omega)); (try have i4 := Imp_m h11 (by omega)); (try have i5 := Imp_m h68 (by omega)); (try have i6 := Imp_m h27.2.2.1 (by omega)); (try have i7 := Imp_m h27.2.2.2 (by omega)); (try have i8 := Imp_m h39.2.2.2.2.2.2.2.2.2.2.2.2.2.1 (by omega)); (try have i9 := Imp_m h39.2.2.2.2.2.2.2.2.2.2.2.2.2.2.1 (by omega)); (try have i10 := Imp_m h39.2.2.2.2.2.2.2.2.2.2.2.2.2.2.2.1 (by omega)); (try have i11 := Imp_m h76.2.2.1 (by omega)); (try have i12 := Imp_m h76.2.2.2 (by omega)); exfalso; omega)
    refine En_Ps 3 (pc' := 94) (lv' := [(1, .int z44), (0, .ref 159)]) (st' := [.ref 159, .int ((Int32.ofInt 0)), .ref 159]) rfl ?_
    refine En_getK (j := 14) ((h38 _ _ (inW tgz_159 (by decide +kernel))).trans h19) rfl rfl rfl tgz_159 (by decide +kernel) ?_
    refine En_Ps 1 (pc' := 98) (lv' := [(1, .int z44), (0, .ref 159)]) (st' := [.int ((Int32.ofInt 2)), .ref 165, .int ((Int32.ofInt 0)), .ref 159]) rfl ?_
    refine En_ialdK ((h38 _ _ (inWa tgz_165 (by decide +kernel))).trans h12) rfl (by decide : (Int32.ofInt 2).toInt = 2) tgz_165 (by decide +kernel) h37 (by decide) (lnI (by decide +kernel : LN _ = 226) (by decide)) ?_
    refine En_Ps 2 (pc' := 101) (lv' := [(1, .int z44), (0, .ref 159)]) (st' := [.int ((z13 - ((Int32.ofInt 1)))), .int ((Int32.ofInt 0)), .ref 159]) rfl ?_
    refine En_top (subI rfl (by decide : (Int32.ofInt 1).toInt = 1) (by first | exact q_93f9478bef h14 | omega) (by first | exact q_cc3cee8591 h15 | omega)) (fun z81 h82 => ?_)
    have := (by decide : ((Int32.ofInt 0)).toInt = 0)
    refine En_callV rfl rfl rfl rfl rfl rfl rfl rfl tgz_159 (by decide +kernel) rfl (c_288x σ36 h37 ((Int32.ofInt 0)) z81 (geI (by decide : (Int32.ofInt 0).toInt = 0) (by decide)) (leI (by decide : (Int32.ofInt 0).toInt = 0) (by decide)) (geI rfl (by first | exact q_e2c277696c h82 h14 | omega)) (leI rfl (by first | exact q_d89d511a18 h82 h15 | omega)) z40 h41 z42 h43 z59 h58 z63 h62 h51) (by decide) (by decide) (fun v84 σ85 h83 => ?_)
    obtain ⟨h86, h87, z89, h90, z91, h92, z93, rfl, h88⟩ := h83
    have h94 := h88.2.2.2.2.2.2.2.2.2.2.2.2.2.2.2.2
    have h95 := Fr_trans h46 h87 (by decide +kernel)
    have h96 := KF_fr h47 h87 (by decide +kernel)
    have h97 : tN By Nb ((Int32.ofInt 0)).toInt z81.toInt S49 = tN By Nb (0) (Sp.2.2.2 2 - 1) S49 := tN_cg2 (fun zz => by have j1 := Imp_m h53 zz; have j2 := Imp_m h54 zz; have j3 := Imp_m h10 j2.1; have j4 := Imp_m h11 ⟨j2.1, j2.2.1⟩; have j5 := Imp_m h67 zz; omega) (fun zz => by have j1 := Imp_m h53 zz; have j2 := Imp_m h54 zz; have j3 := Imp_m h10 j2.1; have j4 := Imp_m h11 ⟨j2.1, j2.2.1⟩; have j5 := Imp_m h67 zz; omega)
    obtain ⟨S98, h99⟩ : ∃ q : PS, q = tN By Nb (0) (Sp.2.2.2 2 - 1) S49 := ⟨_, rfl⟩
    have h100 : ML By Nb σ85 S98 := by rw [h99]; exact (ML_eq h94.1 h97)
    have h101 := ML_k h100 h92
    have h102 : Imp (S98.1 = 0) (z93.toInt = tV By Nb S49.2.2.1) := fun z => h94.2 (by rw [h97, ← h99]; exact z)
    have h103 : Imp (S98.1 = 0) (S49.1 = 0 ∧ tK By Nb S49.2.2.1 = 2 ∧ 0 ≤ tV By Nb S49.2.2.1 ∧ tV By Nb S49.2.2.1 ≤ Sp.2.2.2 2 - 1) := fun z => tN_gg (by rw [← h99]; exact z)
    have h104 : S98.2.2.2 = S49.2.2.2 := by rw [h99]; exact tN_w
    have h105 := Imp_m h88.2.2.2.2.2.2.2.2.2.2.2.1 (by omega)
    have h106 := Imp_m h88.2.2.2.2.2.2.2.2.2.2.2.2.1 (by omega)
    refine En_Ps 2 (pc' := 106) (lv' := [(2, .int z93), (1, .int z44), (0, .ref 159)]) (st' := [.ref 159]) rfl ?_
    refine En_callV rfl rfl rfl rfl rfl rfl rfl rfl tgz_159 (by decide +kernel) rfl (c_237 σ85 h86 z91 h92) (by decide) (by decide) (fun v108 σ109 h107 => ?_)
    obtain ⟨h110, h111, z113, rfl, h112⟩ := h107
    obtain rfl : σ85 = σ109 := Fr_nil h111
    refine En_iEq _ rfl rfl (fun h114 => ?_) (fun hx => by exfalso; have := Imp_m h39.2.2.2.2.2.2.2.2.2.2.2.2.2.2.2.1 (by omega); have := Imp_m h88.2.2.2.2.2.2.2.2.2.2.2.2.2.1 (by omega); have := Imp_m h88.2.2.2.2.2.2.2.2.2.2.2.2.2.2.2.1 (by omega); have := Imp_m h27.2.2.2 (by omega); have := Imp_m h39.2.2.2.2.2.2.2.2.2.2.2.2.2.1 (by omega); have := Imp_m h39.2.2.2.2.2.2.2.2.2.2.2.2.2.2.1 (by omega); have := Imp_m h76.2.2.2 (by omega); have := Imp_m h88.2.2.2.2.2.2.2.2.2.2.2.2.2.2.1 (by omega); omega)
    exact En_ret (v := none) rfl rfl rfl ⟨h86, h95, z89, h90, z91, h92, rfl, ⟨by first | exact q_a555021d16 h88.2.2.1 | omega, by first | exact q_76190b61a3 h88.2.2.2.1 | omega, by first | exact q_ccc3bb8fc9 h39.2.2.2.2.1 h88.2.2.2.2.1 | omega, by first | exact q_a555021d16 h88.2.2.2.2.2.1 | omega, by first | exact q_c733b715bf h88.2.2.2.2.2.2.1 | omega, by first | exact q_ccc3bb8fc9 h39.2.2.2.2.2.2.2.1 h88.2.2.2.2.2.2.2.1 | omega, by first | exact q_28bfca2c13 h39.2.2.2.2.1 h88.2.2.2.2.1 | omega, fun hh => by first | exact q_db388fd8e8 h39.2.2.2.2.2.2.2.1 h88.2.2.2.2.2.2.2.1 hh | omega, ⟨h96, ML_eq h100 (by unfold gTwin; dsimp only; rw [h30, ← h50, h79, ← h99]; first | done | rfl | (rw [if_pos (by omega)]; first | done | rfl) | (rw [if_neg (by omega)]; first | done | rfl))⟩⟩⟩
  · have h115 := Imp_m h27.2.2.1 (by first | exact q_e3350da514 h29 h27.1 | omega)
    have h116 : Sp.1 = 0 := by omega
    have h117 := Imp_m h10 h116
    have h118 : tK By Nb Sp.2.2.1 = 2 := by omega
    have h119 := Imp_m h10 h116
    have h120 := Imp_m h11 ⟨h116, h118⟩
    refine En_Ps 2 (pc' := 15) (lv' := [(0, .ref 159)]) (st' := [.ref 159, .ref 159]) rfl ?_
    refine En_getK (j := 11) h5 rfl rfl rfl tgz_159 (by decide +kernel) ?_
    refine En_callV rfl rfl rfl rfl rfl rfl rfl rfl tgz_159 (by decide +kernel) rfl (c_217x σ0 hσ0 z6 (geI rfl (by first | exact q_58e6e51dcc h7 | omega)) (leI rfl (by first | exact q_e0b718e8e1 h115.2.2.2 h15 | omega))) (by decide) (by decide) (fun v122 σ123 h121 => ?_)
    obtain ⟨h124, h125, z127, rfl, h126⟩ := h121
    have h128 := h126.2.2
    obtain rfl : σ0 = σ123 := Fr_nil h125
    have h129 := h128
    have h130 : ci σ0 165 (13 + 4 * z6.toInt) = Sp.2.2.2 (13 + 4 * tV By Nb Sp.2.2.1) := ML_ci hM (by omega) (by omega) (by omega) (by omega)
    refine En_iNe _ rfl rfl (fun h131 => ?_) (fun h131 => ?_)
    · refine En_Ps 2 (pc' := 37) (lv' := [(0, .ref 159)]) (st' := [.int ((Int32.ofInt 2)), .ref 159]) rfl ?_
      have := (by decide : ((Int32.ofInt 2)).toInt = 2)
      refine En_callV rfl rfl rfl rfl rfl rfl rfl rfl tgz_159 (by decide +kernel) rfl (c_223x σ0 hσ0 ((Int32.ofInt 2)) (geI (by decide : (Int32.ofInt 2).toInt = 2) (by decide)) (leI (by decide : (Int32.ofInt 2).toInt = 2) (by decide)) k h_k hM) (by decide) (by decide) (fun v133 σ134 h132 => ?_)
      obtain ⟨h135, h136, z138, h139, rfl, h137⟩ := h132
      have h140 := h137.2.2.2.2
      have h141 := Fr_trans hF0 h136 (by decide +kernel)
      have h142 := KF_fr (KF_0 (σ := σ0)) h136 (by decide +kernel)
      obtain ⟨S143, h144⟩ : ∃ q : PS, q = err By Nb 2 Sp := ⟨_, rfl⟩
      have h145 : ML By Nb σ134 S143 := by rw [h144]; exact (ML_eq h140 (err_cg (by omega)))
      have h146 := ML_k h145 h139
      have h147 : Imp (S143.1 = 0) (tK By Nb S143.2.2.1 = z2.toInt) := ML_t h145 ((h136 _ _ (inW tgz_159 (by decide +kernel))).trans h1)
      have h148 : Imp (S143.1 = 0 ∧ tK By Nb S143.2.2.1 = 2) (z6.toInt = min 99999 (tV By Nb S143.2.2.1) ∧ 0 ≤ tV By Nb S143.2.2.1) := fun q => ML_u h145 ((h136 _ _ (inW tgz_159 (by decide +kernel))).trans h5) q.1 q.2
      have h149 : S143.2.2.2 = Sp.2.2.2 := by rw [h144]; exact err_w
      have h150 : gTw1 By Nb Sp = S143 := by rw [h144]; unfold gTw1; (repeat' split) <;> first | rfl | (exfalso; omega) | ((try have i0 := Imp_m h147 (by omega)); (try have i1 := Imp_m h10 (by omega)); (try have i2 := Imp_m h11 (by omega)); (try have i3 := Imp_m h148 (by omega)); (try have i4 := Imp_m h27.2.2.2 (by omega)); exfalso; omega)
      refine En_Ps 3 (pc' := 43) (lv' := [(0, .ref 159)]) (st' := [.ref 159, .int ((Int32.ofInt 0)), .ref 159]) rfl ?_
      refine En_getK (j := 14) ((h136 _ _ (inW tgz_159 (by decide +kernel))).trans h19) rfl rfl rfl tgz_159 (by decide +kernel) ?_
      refine En_Ps 1 (pc' := 47) (lv' := [(0, .ref 159)]) (st' := [.int ((Int32.ofInt 2)), .ref 165, .int ((Int32.ofInt 0)), .ref 159]) rfl ?_
      refine En_ialdK ((h136 _ _ (inWa tgz_165 (by decide +kernel))).trans h12) rfl (by decide : (Int32.ofInt 2).toInt = 2) tgz_165 (by decide +kernel) h135 (by decide) (lnI (by decide +kernel : LN _ = 226) (by decide)) ?_
      refine En_Ps 2 (pc' := 50) (lv' := [(0, .ref 159)]) (st' := [.int ((z13 - ((Int32.ofInt 1)))), .int ((Int32.ofInt 0)), .ref 159]) rfl ?_
      refine En_top (subI rfl (by decide : (Int32.ofInt 1).toInt = 1) (by first | exact q_93f9478bef h14 | omega) (by first | exact q_cc3cee8591 h15 | omega)) (fun z152 h153 => ?_)
      have := (by decide : ((Int32.ofInt 0)).toInt = 0)
      refine En_callV rfl rfl rfl rfl rfl rfl rfl rfl tgz_159 (by decide +kernel) rfl (c_288x σ134 h135 ((Int32.ofInt 0)) z152 (geI (by decide : (Int32.ofInt 0).toInt = 0) (by decide)) (leI (by decide : (Int32.ofInt 0).toInt = 0) (by decide)) (geI rfl (by first | exact q_e2c277696c h153 h14 | omega)) (leI rfl (by first | exact q_d89d511a18 h153 h15 | omega)) f ((h136 _ _ (inW tgz_159 (by decide +kernel))).trans h_f) z138 h139 z2 ((h136 _ _ (inW tgz_159 (by decide +kernel))).trans h1) z6 ((h136 _ _ (inW tgz_159 (by decide +kernel))).trans h5) h145) (by decide) (by decide) (fun v155 σ156 h154 => ?_)
      obtain ⟨h157, h158, z160, h161, z162, h163, z164, rfl, h159⟩ := h154
      have h165 := h159.2.2.2.2.2.2.2.2.2.2.2.2.2.2.2.2
      have h166 := Fr_trans h141 h158 (by decide +kernel)
      have h167 := KF_fr h142 h158 (by decide +kernel)
      have h168 : tN By Nb ((Int32.ofInt 0)).toInt z152.toInt S143 = tN By Nb (0) (Sp.2.2.2 2 - 1) S143 := tN_cg2 (fun zz => by have j1 := Imp_m h147 zz; omega) (fun zz => by have j1 := Imp_m h147 zz; omega)
      obtain ⟨S169, h170⟩ : ∃ q : PS, q = tN By Nb (0) (Sp.2.2.2 2 - 1) S143 := ⟨_, rfl⟩
      have h171 : ML By Nb σ156 S169 := by rw [h170]; exact (ML_eq h165.1 h168)
      have h172 := ML_k h171 h163
      have h173 : Imp (S169.1 = 0) (z164.toInt = tV By Nb S143.2.2.1) := fun z => h165.2 (by rw [h168, ← h170]; exact z)
      have h174 : Imp (S169.1 = 0) (S143.1 = 0 ∧ tK By Nb S143.2.2.1 = 2 ∧ 0 ≤ tV By Nb S143.2.2.1 ∧ tV By Nb S143.2.2.1 ≤ Sp.2.2.2 2 - 1) := fun z => tN_gg (by rw [← h170]; exact z)
      have h175 : S169.2.2.2 = S143.2.2.2 := by rw [h170]; exact tN_w
      have h176 := Imp_m h159.2.2.2.2.2.2.2.2.2.2.2.1 (by omega)
      have h177 := Imp_m h159.2.2.2.2.2.2.2.2.2.2.2.2.1 (by omega)
      have h178 := Imp_m h159.2.2.2.2.2.2.2.2.2.2.2.2.2.1 (by first | exact q_a3a41410e6 h153 h115.2.2.2 h7 | omega)
      refine En_Ps 1 (pc' := 54) (lv' := [(1, .int z164), (0, .ref 159)]) (st' := []) rfl ?_
      obtain ⟨z180, h179, h181, h182⟩ := WT_peekI h157 tgz_159 (by decide +kernel : FT 35 10 = (0, 0, 4)) (by decide +kernel)
      obtain ⟨z184, h183, h185, h186⟩ := WT_peekI h157 tgz_159 (by decide +kernel : FT 35 11 = (0, 0, 99999)) (by decide +kernel)
      have h187 := ML_k h171 h163
      have h188 : Imp (S169.1 = 0) (tK By Nb S169.2.2.1 = z180.toInt) := ML_t h171 h179
      have h189 : Imp (S169.1 = 0 ∧ tK By Nb S169.2.2.1 = 2) (z184.toInt = min 99999 (tV By Nb S169.2.2.1) ∧ 0 ≤ tV By Nb S169.2.2.1) := fun q => ML_u h171 h183 q.1 q.2
      have h190 : S169.2.2.2 2 = Sp.2.2.2 2 := by rw [h175, h149]
      refine En_Ps 2 (pc' := 56) (lv' := [(1, .int z164), (0, .ref 159)]) (st' := [.ref 159, .ref 159]) rfl ?_
      refine En_getK (j := 14) ((h158 _ _ (inW tgz_159 (by decide +kernel))).trans ((h136 _ _ (inW tgz_159 (by decide +kernel))).trans h19)) rfl rfl rfl tgz_159 (by decide +kernel) ?_
      refine En_Ps 1 (pc' := 60) (lv' := [(1, .int z164), (0, .ref 159)]) (st' := [.int ((Int32.ofInt 2)), .ref 165, .ref 159]) rfl ?_
      refine En_ialdK ((h158 _ _ (inWa tgz_165 (by decide +kernel))).trans ((h136 _ _ (inWa tgz_165 (by decide +kernel))).trans h12)) rfl (by decide : (Int32.ofInt 2).toInt = 2) tgz_165 (by decide +kernel) h157 (by decide) (lnI (by decide +kernel : LN _ = 226) (by decide)) ?_
      refine En_callV rfl rfl rfl rfl rfl rfl rfl rfl tgz_159 (by decide +kernel) rfl (c_260x σ156 h157 z13 z162 h163 z180 h179 z184 h183) (by decide) (by decide) (fun v193 σ194 h192 => ?_)
      obtain ⟨h195, h196, z198, rfl, h197⟩ := h192
      obtain rfl : σ156 = σ194 := Fr_nil h196
      refine En_iEq _ rfl rfl (fun h199 => ?_) (fun hx => by exfalso; have := Imp_m h197.2.2.1 (by omega); have := Imp_m h159.2.2.2.2.2.2.2.2.2.2.2.2.2.2.1 (by omega); have := Imp_m h159.2.2.2.2.2.2.2.2.2.2.2.2.2.2.2.1 (by omega); omega)
      have h200 : gTw2 By Nb (tV By Nb S143.2.2.1) S169 = S169 := by unfold gTw2; (repeat' split) <;> first | rfl | (exfalso; omega) | ((try have i0 := Imp_m h188 (by omega)); (try have i1 := Imp_m h174 (by omega)); (try have i2 := Imp_m h173 (by omega)); (try have i3 := Imp_m h147 (by omega)); (try have i4 := Imp_m h10 (by omega)); (try have i5 := Imp_m h11 (by omega)); (try have i6 := Imp_m h148 (by omega)); (try have i7 := Imp_m h189 (by omega)); (try have i8 := Imp_m h27.2.2.2 (by omega)); (try have i9 := Imp_m h159.2.2.2.2.2.2.2.2.2.2.2.2.2.2.1 (by omega)); (try have i10 := Imp_m h159.2.2.2.2.2.2.2.2.2.2.2.2.2.2.2.1 (by omega)); (try have i11 := Imp_m h197.2.2.1 (by omega)); (try have i12 := Imp_m h197.2.2.2 (by omega)); exfalso; omega)
      refine En_Ps 3 (pc' := 94) (lv' := [(1, .int z164), (0, .ref 159)]) (st' := [.ref 159, .int ((Int32.ofInt 0)), .ref 159]) rfl ?_
      refine En_getK (j := 14) ((h158 _ _ (inW tgz_159 (by decide +kernel))).trans ((h136 _ _ (inW tgz_159 (by decide +kernel))).trans h19)) rfl rfl rfl tgz_159 (by decide +kernel) ?_
      refine En_Ps 1 (pc' := 98) (lv' := [(1, .int z164), (0, .ref 159)]) (st' := [.int ((Int32.ofInt 2)), .ref 165, .int ((Int32.ofInt 0)), .ref 159]) rfl ?_
      refine En_ialdK ((h158 _ _ (inWa tgz_165 (by decide +kernel))).trans ((h136 _ _ (inWa tgz_165 (by decide +kernel))).trans h12)) rfl (by decide : (Int32.ofInt 2).toInt = 2) tgz_165 (by decide +kernel) h157 (by decide) (lnI (by decide +kernel : LN _ = 226) (by decide)) ?_
      refine En_Ps 2 (pc' := 101) (lv' := [(1, .int z164), (0, .ref 159)]) (st' := [.int ((z13 - ((Int32.ofInt 1)))), .int ((Int32.ofInt 0)), .ref 159]) rfl ?_
      refine En_top (subI rfl (by decide : (Int32.ofInt 1).toInt = 1) (by first | exact q_93f9478bef h14 | omega) (by first | exact q_cc3cee8591 h15 | omega)) (fun z202 h203 => ?_)
      have := (by decide : ((Int32.ofInt 0)).toInt = 0)
      refine En_callV rfl rfl rfl rfl rfl rfl rfl rfl tgz_159 (by decide +kernel) rfl (c_288x σ156 h157 ((Int32.ofInt 0)) z202 (geI (by decide : (Int32.ofInt 0).toInt = 0) (by decide)) (leI (by decide : (Int32.ofInt 0).toInt = 0) (by decide)) (geI rfl (by first | exact q_e2c277696c h203 h14 | omega)) (leI rfl (by first | exact q_d89d511a18 h203 h15 | omega)) z160 h161 z162 h163 z180 h179 z184 h183 h171) (by decide) (by decide) (fun v205 σ206 h204 => ?_)
      obtain ⟨h207, h208, z210, h211, z212, h213, z214, rfl, h209⟩ := h204
      have h215 := h209.2.2.2.2.2.2.2.2.2.2.2.2.2.2.2.2
      have h216 := Fr_trans h166 h208 (by decide +kernel)
      have h217 := KF_fr h167 h208 (by decide +kernel)
      have h218 : tN By Nb ((Int32.ofInt 0)).toInt z202.toInt S169 = tN By Nb (0) (Sp.2.2.2 2 - 1) S169 := tN_cg2 (fun zz => by have j1 := Imp_m h173 zz; have j2 := Imp_m h174 zz; have j3 := Imp_m h147 j2.1; have j4 := Imp_m h148 ⟨j2.1, j2.2.1⟩; have j5 := Imp_m h188 zz; omega) (fun zz => by have j1 := Imp_m h173 zz; have j2 := Imp_m h174 zz; have j3 := Imp_m h147 j2.1; have j4 := Imp_m h148 ⟨j2.1, j2.2.1⟩; have j5 := Imp_m h188 zz; omega)
      obtain ⟨S219, h220⟩ : ∃ q : PS, q = tN By Nb (0) (Sp.2.2.2 2 - 1) S169 := ⟨_, rfl⟩
      have h221 : ML By Nb σ206 S219 := by rw [h220]; exact (ML_eq h215.1 h218)
      have h222 := ML_k h221 h213
      have h223 : Imp (S219.1 = 0) (z214.toInt = tV By Nb S169.2.2.1) := fun z => h215.2 (by rw [h218, ← h220]; exact z)
      have h224 : Imp (S219.1 = 0) (S169.1 = 0 ∧ tK By Nb S169.2.2.1 = 2 ∧ 0 ≤ tV By Nb S169.2.2.1 ∧ tV By Nb S169.2.2.1 ≤ Sp.2.2.2 2 - 1) := fun z => tN_gg (by rw [← h220]; exact z)
      have h225 : S219.2.2.2 = S169.2.2.2 := by rw [h220]; exact tN_w
      have h226 := Imp_m h209.2.2.2.2.2.2.2.2.2.2.2.1 (by omega)
      have h227 := Imp_m h209.2.2.2.2.2.2.2.2.2.2.2.2.1 (by omega)
      have h228 := Imp_m h209.2.2.2.2.2.2.2.2.2.2.2.2.2.1 (by first | exact q_a3a41410e6 h203 h115.2.2.2 h7 | omega)
      refine En_Ps 2 (pc' := 106) (lv' := [(2, .int z214), (1, .int z164), (0, .ref 159)]) (st' := [.ref 159]) rfl ?_
      refine En_callV rfl rfl rfl rfl rfl rfl rfl rfl tgz_159 (by decide +kernel) rfl (c_237 σ206 h207 z212 h213) (by decide) (by decide) (fun v230 σ231 h229 => ?_)
      obtain ⟨h232, h233, z235, rfl, h234⟩ := h229
      obtain rfl : σ206 = σ231 := Fr_nil h233
      refine En_iEq _ rfl rfl (fun h236 => ?_) (fun hx => by exfalso; have := Imp_m h159.2.2.2.2.2.2.2.2.2.2.2.2.2.2.1 (by omega); have := Imp_m h159.2.2.2.2.2.2.2.2.2.2.2.2.2.2.2.1 (by omega); have := Imp_m h197.2.2.2 (by omega); have := Imp_m h209.2.2.2.2.2.2.2.2.2.2.2.2.2.2.1 (by omega); have := Imp_m h209.2.2.2.2.2.2.2.2.2.2.2.2.2.2.2.1 (by omega); omega)
      exact En_ret (v := none) rfl rfl rfl ⟨h207, h216, z210, h211, z212, h213, rfl, ⟨by first | exact q_a555021d16 h209.2.2.1 | omega, by first | exact q_76190b61a3 h209.2.2.2.1 | omega, by first | exact q_ccc3bb8fc9 h159.2.2.2.2.1 h209.2.2.2.2.1 | omega, by first | exact q_a555021d16 h209.2.2.2.2.2.1 | omega, by first | exact q_c733b715bf h209.2.2.2.2.2.2.1 | omega, by first | exact q_8ad2cc928a h115.1 h209.2.2.2.2.2.1 | omega, by first | exact q_28bfca2c13 h159.2.2.2.2.1 h209.2.2.2.2.1 | omega, fun hh => by first | exact q_35a72a35ef h115.1 | omega, ⟨h217, ML_eq h221 (by unfold gTwin; dsimp only; rw [h150, ← h170, h200, ← h220]; first | done | rfl | (rw [if_pos (by omega)]; first | done | rfl) | (rw [if_neg (by omega)]; first | done | rfl))⟩⟩⟩
    · refine En_Ps 2 (pc' := 26) (lv' := [(0, .ref 159)]) (st' := [.ref 159, .ref 159]) rfl ?_
      refine En_getK (j := 11) h5 rfl rfl rfl tgz_159 (by decide +kernel) ?_
      refine En_callV rfl rfl rfl rfl rfl rfl rfl rfl tgz_159 (by decide +kernel) rfl (c_257x σ0 hσ0 z6) (by decide) (by decide) (fun v238 σ239 h237 => ?_)
      obtain ⟨h240, h241, z243, rfl, h242⟩ := h237
      have h244 := h242.2.2.2
      obtain rfl : σ0 = σ239 := Fr_nil h241
      have h245 := h244
      have h246 : cpI (ci σ0 165) (z6.toInt) = cpI Sp.2.2.2 (tV By Nb Sp.2.2.1) := ML_cp hM (by omega) (by omega)
      refine En_iEq _ rfl rfl (fun h247 => ?_) (fun h247 => ?_)
      · have h248 : gTw1 By Nb Sp = Sp := by unfold gTw1; (repeat' split) <;> first | rfl | (exfalso; omega) | ((try have i0 := Imp_m h10 (by omega)); (try have i1 := Imp_m h11 (by omega)); (try have i2 := Imp_m h27.2.2.2 (by omega)); (try have i3 := Imp_m h242.2.2.1 (by omega)); exfalso; omega)
        refine En_Ps 3 (pc' := 43) (lv' := [(0, .ref 159)]) (st' := [.ref 159, .int ((Int32.ofInt 0)), .ref 159]) rfl ?_
        refine En_getK (j := 14) h19 rfl rfl rfl tgz_159 (by decide +kernel) ?_
        refine En_Ps 1 (pc' := 47) (lv' := [(0, .ref 159)]) (st' := [.int ((Int32.ofInt 2)), .ref 165, .int ((Int32.ofInt 0)), .ref 159]) rfl ?_
        refine En_ialdK h12 rfl (by decide : (Int32.ofInt 2).toInt = 2) tgz_165 (by decide +kernel) hσ0 (by decide) (lnI (by decide +kernel : LN _ = 226) (by decide)) ?_
        refine En_Ps 2 (pc' := 50) (lv' := [(0, .ref 159)]) (st' := [.int ((z13 - ((Int32.ofInt 1)))), .int ((Int32.ofInt 0)), .ref 159]) rfl ?_
        refine En_top (subI rfl (by decide : (Int32.ofInt 1).toInt = 1) (by first | exact q_93f9478bef h14 | omega) (by first | exact q_cc3cee8591 h15 | omega)) (fun z250 h251 => ?_)
        have := (by decide : ((Int32.ofInt 0)).toInt = 0)
        refine En_callV rfl rfl rfl rfl rfl rfl rfl rfl tgz_159 (by decide +kernel) rfl (c_288x σ0 hσ0 ((Int32.ofInt 0)) z250 (geI (by decide : (Int32.ofInt 0).toInt = 0) (by decide)) (leI (by decide : (Int32.ofInt 0).toInt = 0) (by decide)) (geI rfl (by first | exact q_e2c277696c h251 h14 | omega)) (leI rfl (by first | exact q_d89d511a18 h251 h15 | omega)) f h_f k h_k z2 h1 z6 h5 hM) (by decide) (by decide) (fun v253 σ254 h252 => ?_)
        obtain ⟨h255, h256, z258, h259, z260, h261, z262, rfl, h257⟩ := h252
        have h263 := h257.2.2.2.2.2.2.2.2.2.2.2.2.2.2.2.2
        have h264 := Fr_trans hF0 h256 (by decide +kernel)
        have h265 := KF_fr (KF_0 (σ := σ0)) h256 (by decide +kernel)
        have h266 : tN By Nb ((Int32.ofInt 0)).toInt z250.toInt Sp = tN By Nb (0) (Sp.2.2.2 2 - 1) Sp := tN_cg2 (fun zz => by have j1 := Imp_m h10 zz; omega) (fun zz => by have j1 := Imp_m h10 zz; omega)
        obtain ⟨S267, h268⟩ : ∃ q : PS, q = tN By Nb (0) (Sp.2.2.2 2 - 1) Sp := ⟨_, rfl⟩
        have h269 : ML By Nb σ254 S267 := by rw [h268]; exact (ML_eq h263.1 h266)
        have h270 := ML_k h269 h261
        have h271 : Imp (S267.1 = 0) (z262.toInt = tV By Nb Sp.2.2.1) := fun z => h263.2 (by rw [h266, ← h268]; exact z)
        have h272 : Imp (S267.1 = 0) (Sp.1 = 0 ∧ tK By Nb Sp.2.2.1 = 2 ∧ 0 ≤ tV By Nb Sp.2.2.1 ∧ tV By Nb Sp.2.2.1 ≤ Sp.2.2.2 2 - 1) := fun z => tN_gg (by rw [← h268]; exact z)
        have h273 : S267.2.2.2 = Sp.2.2.2 := by rw [h268]; exact tN_w
        have h274 := Imp_m h257.2.2.2.2.2.2.2.2.2.2.2.1 (by omega)
        have h275 := Imp_m h257.2.2.2.2.2.2.2.2.2.2.2.2.1 (by omega)
        have h276 := Imp_m h257.2.2.2.2.2.2.2.2.2.2.2.2.2.1 (by first | exact q_a3a41410e6 h251 h115.2.2.2 h7 | omega)
        refine En_Ps 1 (pc' := 54) (lv' := [(1, .int z262), (0, .ref 159)]) (st' := []) rfl ?_
        obtain ⟨z278, h277, h279, h280⟩ := WT_peekI h255 tgz_159 (by decide +kernel : FT 35 10 = (0, 0, 4)) (by decide +kernel)
        obtain ⟨z282, h281, h283, h284⟩ := WT_peekI h255 tgz_159 (by decide +kernel : FT 35 11 = (0, 0, 99999)) (by decide +kernel)
        have h285 := ML_k h269 h261
        have h286 : Imp (S267.1 = 0) (tK By Nb S267.2.2.1 = z278.toInt) := ML_t h269 h277
        have h287 : Imp (S267.1 = 0 ∧ tK By Nb S267.2.2.1 = 2) (z282.toInt = min 99999 (tV By Nb S267.2.2.1) ∧ 0 ≤ tV By Nb S267.2.2.1) := fun q => ML_u h269 h281 q.1 q.2
        have h288 : S267.2.2.2 2 = Sp.2.2.2 2 := by rw [h273]
        refine En_Ps 2 (pc' := 56) (lv' := [(1, .int z262), (0, .ref 159)]) (st' := [.ref 159, .ref 159]) rfl ?_
        refine En_getK (j := 14) ((h256 _ _ (inW tgz_159 (by decide +kernel))).trans h19) rfl rfl rfl tgz_159 (by decide +kernel) ?_
        refine En_Ps 1 (pc' := 60) (lv' := [(1, .int z262), (0, .ref 159)]) (st' := [.int ((Int32.ofInt 2)), .ref 165, .ref 159]) rfl ?_
        refine En_ialdK ((h256 _ _ (inWa tgz_165 (by decide +kernel))).trans h12) rfl (by decide : (Int32.ofInt 2).toInt = 2) tgz_165 (by decide +kernel) h255 (by decide) (lnI (by decide +kernel : LN _ = 226) (by decide)) ?_
        refine En_callV rfl rfl rfl rfl rfl rfl rfl rfl tgz_159 (by decide +kernel) rfl (c_260x σ254 h255 z13 z260 h261 z278 h277 z282 h281) (by decide) (by decide) (fun v291 σ292 h290 => ?_)
        obtain ⟨h293, h294, z296, rfl, h295⟩ := h290
        obtain rfl : σ254 = σ292 := Fr_nil h294
        refine En_iEq _ rfl rfl (fun h297 => ?_) (fun h297 => ?_)
        · have h298 : gTw2 By Nb (tV By Nb Sp.2.2.1) S267 = S267 := by unfold gTw2; (repeat' split) <;> first | rfl | (exfalso; omega) | ((try have i0 := Imp_m h286 (by omega)); (try have i1 := Imp_m h272 (by omega)); (try have i2 := Imp_m h271 (by omega)); (try have i3 := Imp_m h10 (by omega)); (try have i4 := Imp_m h11 (by omega)); (try have i5 := Imp_m h287 (by omega)); (try have i6 := Imp_m h27.2.2.2 (by omega)); (try have i7 := Imp_m h242.2.2.1 (by omega)); (try have i8 := Imp_m h257.2.2.2.2.2.2.2.2.2.2.2.2.2.2.1 (by omega)); (try have i9 := Imp_m h257.2.2.2.2.2.2.2.2.2.2.2.2.2.2.2.1 (by omega)); (try have i10 := Imp_m h295.2.2.1 (by omega)); (try have i11 := Imp_m h295.2.2.2 (by omega)); exfalso; omega)
          refine En_Ps 3 (pc' := 94) (lv' := [(1, .int z262), (0, .ref 159)]) (st' := [.ref 159, .int ((Int32.ofInt 0)), .ref 159]) rfl ?_
          refine En_getK (j := 14) ((h256 _ _ (inW tgz_159 (by decide +kernel))).trans h19) rfl rfl rfl tgz_159 (by decide +kernel) ?_
          refine En_Ps 1 (pc' := 98) (lv' := [(1, .int z262), (0, .ref 159)]) (st' := [.int ((Int32.ofInt 2)), .ref 165, .int ((Int32.ofInt 0)), .ref 159]) rfl ?_
          refine En_ialdK ((h256 _ _ (inWa tgz_165 (by decide +kernel))).trans h12) rfl (by decide : (Int32.ofInt 2).toInt = 2) tgz_165 (by decide +kernel) h255 (by decide) (lnI (by decide +kernel : LN _ = 226) (by decide)) ?_
          refine En_Ps 2 (pc' := 101) (lv' := [(1, .int z262), (0, .ref 159)]) (st' := [.int ((z13 - ((Int32.ofInt 1)))), .int ((Int32.ofInt 0)), .ref 159]) rfl ?_
          refine En_top (subI rfl (by decide : (Int32.ofInt 1).toInt = 1) (by first | exact q_93f9478bef h14 | omega) (by first | exact q_cc3cee8591 h15 | omega)) (fun z300 h301 => ?_)
          have := (by decide : ((Int32.ofInt 0)).toInt = 0)
          refine En_callV rfl rfl rfl rfl rfl rfl rfl rfl tgz_159 (by decide +kernel) rfl (c_288x σ254 h255 ((Int32.ofInt 0)) z300 (geI (by decide : (Int32.ofInt 0).toInt = 0) (by decide)) (leI (by decide : (Int32.ofInt 0).toInt = 0) (by decide)) (geI rfl (by first | exact q_e2c277696c h301 h14 | omega)) (leI rfl (by first | exact q_d89d511a18 h301 h15 | omega)) z258 h259 z260 h261 z278 h277 z282 h281 h269) (by decide) (by decide) (fun v303 σ304 h302 => ?_)
          obtain ⟨h305, h306, z308, h309, z310, h311, z312, rfl, h307⟩ := h302
          have h313 := h307.2.2.2.2.2.2.2.2.2.2.2.2.2.2.2.2
          have h314 := Fr_trans h264 h306 (by decide +kernel)
          have h315 := KF_fr h265 h306 (by decide +kernel)
          have h316 : tN By Nb ((Int32.ofInt 0)).toInt z300.toInt S267 = tN By Nb (0) (Sp.2.2.2 2 - 1) S267 := tN_cg2 (fun zz => by have j1 := Imp_m h271 zz; have j2 := Imp_m h272 zz; have j3 := Imp_m h10 j2.1; have j4 := Imp_m h11 ⟨j2.1, j2.2.1⟩; have j5 := Imp_m h286 zz; omega) (fun zz => by have j1 := Imp_m h271 zz; have j2 := Imp_m h272 zz; have j3 := Imp_m h10 j2.1; have j4 := Imp_m h11 ⟨j2.1, j2.2.1⟩; have j5 := Imp_m h286 zz; omega)
          obtain ⟨S317, h318⟩ : ∃ q : PS, q = tN By Nb (0) (Sp.2.2.2 2 - 1) S267 := ⟨_, rfl⟩
          have h319 : ML By Nb σ304 S317 := by rw [h318]; exact (ML_eq h313.1 h316)
          have h320 := ML_k h319 h311
          have h321 : Imp (S317.1 = 0) (z312.toInt = tV By Nb S267.2.2.1) := fun z => h313.2 (by rw [h316, ← h318]; exact z)
          have h322 : Imp (S317.1 = 0) (S267.1 = 0 ∧ tK By Nb S267.2.2.1 = 2 ∧ 0 ≤ tV By Nb S267.2.2.1 ∧ tV By Nb S267.2.2.1 ≤ Sp.2.2.2 2 - 1) := fun z => tN_gg (by rw [← h318]; exact z)
          have h323 : S317.2.2.2 = S267.2.2.2 := by rw [h318]; exact tN_w
          have h324 := Imp_m h307.2.2.2.2.2.2.2.2.2.2.2.1 (by omega)
          have h325 := Imp_m h307.2.2.2.2.2.2.2.2.2.2.2.2.1 (by omega)
          have h326 := Imp_m h307.2.2.2.2.2.2.2.2.2.2.2.2.2.1 (by first | exact q_a3a41410e6 h301 h115.2.2.2 h7 | omega)
          refine En_Ps 2 (pc' := 106) (lv' := [(2, .int z312), (1, .int z262), (0, .ref 159)]) (st' := [.ref 159]) rfl ?_
          refine En_callV rfl rfl rfl rfl rfl rfl rfl rfl tgz_159 (by decide +kernel) rfl (c_237 σ304 h305 z310 h311) (by decide) (by decide) (fun v328 σ329 h327 => ?_)
          obtain ⟨h330, h331, z333, rfl, h332⟩ := h327
          obtain rfl : σ304 = σ329 := Fr_nil h331
          refine En_iEq _ rfl rfl (fun h334 => ?_) (fun hx => by exfalso; have := Imp_m h257.2.2.2.2.2.2.2.2.2.2.2.2.2.2.2.1 (by omega); have := Imp_m h307.2.2.2.2.2.2.2.2.2.2.2.2.2.2.2.1 (by omega); have := Imp_m h295.2.2.2 (by omega); have := Imp_m h307.2.2.2.2.2.2.2.2.2.2.2.2.2.2.1 (by omega); have := Imp_m h257.2.2.2.2.2.2.2.2.2.2.2.2.2.2.1 (by omega); omega)
          exact En_ret (v := none) rfl rfl rfl ⟨h305, h314, z308, h309, z310, h311, rfl, ⟨by first | exact q_a555021d16 h307.2.2.1 | omega, by first | exact q_76190b61a3 h307.2.2.2.1 | omega, by first | exact q_ccc3bb8fc9 h257.2.2.2.2.1 h307.2.2.2.2.1 | omega, by first | exact q_a555021d16 h307.2.2.2.2.2.1 | omega, by first | exact q_c733b715bf h307.2.2.2.2.2.2.1 | omega, by first | exact q_8ad2cc928a h115.1 h307.2.2.2.2.2.1 | omega, by first | exact q_28bfca2c13 h257.2.2.2.2.1 h307.2.2.2.2.1 | omega, fun hh => by first | exact q_35a72a35ef h115.1 | omega, ⟨h315, ML_eq h319 (by unfold gTwin; dsimp only; rw [h248, ← h268, h298, ← h318]; first | done | rfl | (rw [if_pos (by omega)]; first | done | rfl) | (rw [if_neg (by omega)]; first | done | rfl))⟩⟩⟩
        · have h335 := Imp_m h295.2.2.1 (by first | exact q_e3350da514 h297 h295.1 | omega)
          have h336 := Imp_m h257.2.2.2.2.2.2.2.2.2.2.2.2.2.2.2.1 (by first | exact q_35a72a35ef h335.1 | omega)
          have h337 : S267.1 = 0 := by omega
          have h338 := Imp_m h286 h337
          have h339 : tK By Nb S267.2.2.1 = 2 := by omega
          have h340 := Imp_m h271 h337
          have h341 := Imp_m h272 h337
          have h342 := Imp_m h10 h341.1
          have h343 := Imp_m h11 ⟨h341.1, h341.2.1⟩
          have h344 := Imp_m h286 h337
          have h345 := Imp_m h287 ⟨h337, h339⟩
          refine En_Ps 1 (pc' := 68) (lv' := [(1, .int z262), (0, .ref 159)]) (st' := [.ref 159]) rfl ?_
          refine En_getK (j := 11) h281 rfl rfl rfl tgz_159 (by decide +kernel) ?_
          refine En_Ps 1 (pc' := 72) (lv' := [(1, .int z262), (0, .ref 159)]) (st' := [.int z262, .int z282]) rfl ?_
          refine En_icEq _ rfl rfl rfl (fun h346 => ?_) (fun h346 => ?_)
          · refine En_Ps 2 (pc' := 88) (lv' := [(1, .int z262), (0, .ref 159)]) (st' := [.int ((Int32.ofInt 2)), .ref 159]) rfl ?_
            have := (by decide : ((Int32.ofInt 2)).toInt = 2)
            refine En_callV rfl rfl rfl rfl rfl rfl rfl rfl tgz_159 (by decide +kernel) rfl (c_223x σ254 h255 ((Int32.ofInt 2)) (geI (by decide : (Int32.ofInt 2).toInt = 2) (by decide)) (leI (by decide : (Int32.ofInt 2).toInt = 2) (by decide)) z260 h261 h269) (by decide) (by decide) (fun v348 σ349 h347 => ?_)
            obtain ⟨h350, h351, z353, h354, rfl, h352⟩ := h347
            have h355 := h352.2.2.2.2
            have h356 := Fr_trans h264 h351 (by decide +kernel)
            have h357 := KF_fr h265 h351 (by decide +kernel)
            obtain ⟨S358, h359⟩ : ∃ q : PS, q = err By Nb 2 S267 := ⟨_, rfl⟩
            have h360 : ML By Nb σ349 S358 := by rw [h359]; exact (ML_eq h355 (err_cg (by omega)))
            have h361 := ML_k h360 h354
            have h362 : Imp (S358.1 = 0) (tK By Nb S358.2.2.1 = z278.toInt) := ML_t h360 ((h351 _ _ (inW tgz_159 (by decide +kernel))).trans h277)
            have h363 : Imp (S358.1 = 0 ∧ tK By Nb S358.2.2.1 = 2) (z282.toInt = min 99999 (tV By Nb S358.2.2.1) ∧ 0 ≤ tV By Nb S358.2.2.1) := fun q => ML_u h360 ((h351 _ _ (inW tgz_159 (by decide +kernel))).trans h281) q.1 q.2
            have h364 : S358.2.2.2 = S267.2.2.2 := by rw [h359]; exact err_w
            have h365 : gTw2 By Nb (tV By Nb Sp.2.2.1) S267 = S358 := by rw [h359]; unfold gTw2; (repeat' split) <;> first | rfl | (exfalso; omega) | ((try have i0 := Imp_m h362 (by omega)); (try have i1 := Imp_m h286 (by omega)); (try have i2 := Imp_m h272 (by omega)); (try have i3 := Imp_m h271 (by omega)); (try have i4 := Imp_m h10 (by omega)); (try have i5 := Imp_m h11 (by omega)); (try have i6 := Imp_m h287 (by omega)); (try have i7 := Imp_m h363 (by omega)); (try have i8 := Imp_m h27.2.2.2 (by omega)); (try have i9 := Imp_m h242.2.2.1 (by omega)); (try have i10 := Imp_m h257.2.2.2.2.2.2.2.2.2.2.2.2.2.2.1 (by omega)); (try have i11 := Imp_m h295.2.2.2 (by omega)); exfalso; omega)
            refine En_Ps 3 (pc' := 94) (lv' := [(1, .int z262), (0, .ref 159)]) (st' := [.ref 159, .int ((Int32.ofInt 0)), .ref 159]) rfl ?_
            refine En_getK (j := 14) ((h351 _ _ (inW tgz_159 (by decide +kernel))).trans ((h256 _ _ (inW tgz_159 (by decide +kernel))).trans h19)) rfl rfl rfl tgz_159 (by decide +kernel) ?_
            refine En_Ps 1 (pc' := 98) (lv' := [(1, .int z262), (0, .ref 159)]) (st' := [.int ((Int32.ofInt 2)), .ref 165, .int ((Int32.ofInt 0)), .ref 159]) rfl ?_
            refine En_ialdK ((h351 _ _ (inWa tgz_165 (by decide +kernel))).trans ((h256 _ _ (inWa tgz_165 (by decide +kernel))).trans h12)) rfl (by decide : (Int32.ofInt 2).toInt = 2) tgz_165 (by decide +kernel) h350 (by decide) (lnI (by decide +kernel : LN _ = 226) (by decide)) ?_
            refine En_Ps 2 (pc' := 101) (lv' := [(1, .int z262), (0, .ref 159)]) (st' := [.int ((z13 - ((Int32.ofInt 1)))), .int ((Int32.ofInt 0)), .ref 159]) rfl ?_
            refine En_top (subI rfl (by decide : (Int32.ofInt 1).toInt = 1) (by first | exact q_93f9478bef h14 | omega) (by first | exact q_cc3cee8591 h15 | omega)) (fun z367 h368 => ?_)
            have := (by decide : ((Int32.ofInt 0)).toInt = 0)
            refine En_callV rfl rfl rfl rfl rfl rfl rfl rfl tgz_159 (by decide +kernel) rfl (c_288x σ349 h350 ((Int32.ofInt 0)) z367 (geI (by decide : (Int32.ofInt 0).toInt = 0) (by decide)) (leI (by decide : (Int32.ofInt 0).toInt = 0) (by decide)) (geI rfl (by first | exact q_e2c277696c h368 h14 | omega)) (leI rfl (by first | exact q_d89d511a18 h368 h15 | omega)) z258 ((h351 _ _ (inW tgz_159 (by decide +kernel))).trans h259) z353 h354 z278 ((h351 _ _ (inW tgz_159 (by decide +kernel))).trans h277) z282 ((h351 _ _ (inW tgz_159 (by decide +kernel))).trans h281) h360) (by decide) (by decide) (fun v370 σ371 h369 => ?_)
            obtain ⟨h372, h373, z375, h376, z377, h378, z379, rfl, h374⟩ := h369
            have h380 := h374.2.2.2.2.2.2.2.2.2.2.2.2.2.2.2.2
            have h381 := Fr_trans h356 h373 (by decide +kernel)
            have h382 := KF_fr h357 h373 (by decide +kernel)
            have h383 : tN By Nb ((Int32.ofInt 0)).toInt z367.toInt S358 = tN By Nb (0) (Sp.2.2.2 2 - 1) S358 := tN_cg2 (fun zz => by have j1 := Imp_m h362 zz; omega) (fun zz => by have j1 := Imp_m h362 zz; omega)
            obtain ⟨S384, h385⟩ : ∃ q : PS, q = tN By Nb (0) (Sp.2.2.2 2 - 1) S358 := ⟨_, rfl⟩
            have h386 : ML By Nb σ371 S384 := by rw [h385]; exact (ML_eq h380.1 h383)
            have h387 := ML_k h386 h378
            have h388 : Imp (S384.1 = 0) (z379.toInt = tV By Nb S358.2.2.1) := fun z => h380.2 (by rw [h383, ← h385]; exact z)
            have h389 : Imp (S384.1 = 0) (S358.1 = 0 ∧ tK By Nb S358.2.2.1 = 2 ∧ 0 ≤ tV By Nb S358.2.2.1 ∧ tV By Nb S358.2.2.1 ≤ Sp.2.2.2 2 - 1) := fun z => tN_gg (by rw [← h385]; exact z)
            have h390 : S384.2.2.2 = S358.2.2.2 := by rw [h385]; exact tN_w
            have h391 := Imp_m h374.2.2.2.2.2.2.2.2.2.2.2.1 (by omega)
            have h392 := Imp_m h374.2.2.2.2.2.2.2.2.2.2.2.2.1 (by omega)
            have h393 := Imp_m h374.2.2.2.2.2.2.2.2.2.2.2.2.2.1 (by first | exact q_39c54a281d h368 h115.2.2.2 h336.2.2.2.1 h257.1 | omega)
            refine En_Ps 2 (pc' := 106) (lv' := [(2, .int z379), (1, .int z262), (0, .ref 159)]) (st' := [.ref 159]) rfl ?_
            refine En_callV rfl rfl rfl rfl rfl rfl rfl rfl tgz_159 (by decide +kernel) rfl (c_237 σ371 h372 z377 h378) (by decide) (by decide) (fun v395 σ396 h394 => ?_)
            obtain ⟨h397, h398, z400, rfl, h399⟩ := h394
            obtain rfl : σ371 = σ396 := Fr_nil h398
            refine En_iEq _ rfl rfl (fun h401 => ?_) (fun hx => by exfalso; have := Imp_m h257.2.2.2.2.2.2.2.2.2.2.2.2.2.2.1 (by omega); have := Imp_m h374.2.2.2.2.2.2.2.2.2.2.2.2.2.2.1 (by omega); have := Imp_m h374.2.2.2.2.2.2.2.2.2.2.2.2.2.2.2.1 (by omega); omega)
            exact En_ret (v := none) rfl rfl rfl ⟨h372, h381, z375, h376, z377, h378, rfl, ⟨by first | exact q_a555021d16 h374.2.2.1 | omega, by first | exact q_76190b61a3 h374.2.2.2.1 | omega, by first | exact q_ccc3bb8fc9 h257.2.2.2.2.1 h374.2.2.2.2.1 | omega, by first | exact q_a555021d16 h374.2.2.2.2.2.1 | omega, by first | exact q_c733b715bf h374.2.2.2.2.2.2.1 | omega, by first | exact q_8ad2cc928a h115.1 h374.2.2.2.2.2.1 | omega, by first | exact q_28bfca2c13 h257.2.2.2.2.1 h374.2.2.2.2.1 | omega, fun hh => by first | exact q_35a72a35ef h115.1 | omega, ⟨h382, ML_eq h386 (by unfold gTwin; dsimp only; rw [h248, ← h268, h365, ← h385]; first | done | rfl | (rw [if_pos (by omega)]; first | done | rfl) | (rw [if_neg (by omega)]; first | done | rfl))⟩⟩⟩
          · refine En_Ps 2 (pc' := 77) (lv' := [(1, .int z262), (0, .ref 159)]) (st' := [.ref 159, .ref 159]) rfl ?_
            refine En_getK (j := 11) h281 rfl rfl rfl tgz_159 (by decide +kernel) ?_
            refine En_callV rfl rfl rfl rfl rfl rfl rfl rfl tgz_159 (by decide +kernel) rfl (c_217x σ254 h255 z282 (geI rfl (by first | exact q_58e6e51dcc h283 | omega)) (leI rfl (by first | exact q_e0b718e8e1 h335.2.2.2 h15 | omega))) (by decide) (by decide) (fun v403 σ404 h402 => ?_)
            obtain ⟨h405, h406, z408, rfl, h407⟩ := h402
            have h409 := h407.2.2
            obtain rfl : σ254 = σ404 := Fr_nil h406
            have h410 := h409
            have h411 : ci σ254 165 (13 + 4 * z282.toInt) = S267.2.2.2 (13 + 4 * tV By Nb S267.2.2.1) := ML_ci h269 (by omega) (by omega) (by omega) (by omega)
            refine En_iEq _ rfl rfl (fun h412 => ?_) (fun h412 => ?_)
            · have h413 : gTw2 By Nb (tV By Nb Sp.2.2.1) S267 = S267 := by unfold gTw2; (repeat' split) <;> first | rfl | (exfalso; omega) | ((try have i0 := Imp_m h286 (by omega)); (try have i1 := Imp_m h272 (by omega)); (try have i2 := Imp_m h271 (by omega)); (try have i3 := Imp_m h10 (by omega)); (try have i4 := Imp_m h11 (by omega)); (try have i5 := Imp_m h287 (by omega)); (try have i6 := Imp_m h27.2.2.2 (by omega)); (try have i7 := Imp_m h242.2.2.1 (by omega)); (try have i8 := Imp_m h257.2.2.2.2.2.2.2.2.2.2.2.2.2.2.1 (by omega)); (try have i9 := Imp_m h295.2.2.2 (by omega)); exfalso; omega)
              refine En_Ps 3 (pc' := 94) (lv' := [(1, .int z262), (0, .ref 159)]) (st' := [.ref 159, .int ((Int32.ofInt 0)), .ref 159]) rfl ?_
              refine En_getK (j := 14) ((h256 _ _ (inW tgz_159 (by decide +kernel))).trans h19) rfl rfl rfl tgz_159 (by decide +kernel) ?_
              refine En_Ps 1 (pc' := 98) (lv' := [(1, .int z262), (0, .ref 159)]) (st' := [.int ((Int32.ofInt 2)), .ref 165, .int ((Int32.ofInt 0)), .ref 159]) rfl ?_
              refine En_ialdK ((h256 _ _ (inWa tgz_165 (by decide +kernel))).trans h12) rfl (by decide : (Int32.ofInt 2).toInt = 2) tgz_165 (by decide +kernel) h255 (by decide) (lnI (by decide +kernel : LN _ = 226) (by decide)) ?_
              refine En_Ps 2 (pc' := 101) (lv' := [(1, .int z262), (0, .ref 159)]) (st' := [.int ((z13 - ((Int32.ofInt 1)))), .int ((Int32.ofInt 0)), .ref 159]) rfl ?_
              refine En_top (subI rfl (by decide : (Int32.ofInt 1).toInt = 1) (by first | exact q_93f9478bef h14 | omega) (by first | exact q_cc3cee8591 h15 | omega)) (fun z415 h416 => ?_)
              have := (by decide : ((Int32.ofInt 0)).toInt = 0)
              refine En_callV rfl rfl rfl rfl rfl rfl rfl rfl tgz_159 (by decide +kernel) rfl (c_288x σ254 h255 ((Int32.ofInt 0)) z415 (geI (by decide : (Int32.ofInt 0).toInt = 0) (by decide)) (leI (by decide : (Int32.ofInt 0).toInt = 0) (by decide)) (geI rfl (by first | exact q_e2c277696c h416 h14 | omega)) (leI rfl (by first | exact q_d89d511a18 h416 h15 | omega)) z258 h259 z260 h261 z278 h277 z282 h281 h269) (by decide) (by decide) (fun v418 σ419 h417 => ?_)
              obtain ⟨h420, h421, z423, h424, z425, h426, z427, rfl, h422⟩ := h417
              have h428 := h422.2.2.2.2.2.2.2.2.2.2.2.2.2.2.2.2
              have h429 := Fr_trans h264 h421 (by decide +kernel)
              have h430 := KF_fr h265 h421 (by decide +kernel)
              have h431 : tN By Nb ((Int32.ofInt 0)).toInt z415.toInt S267 = tN By Nb (0) (Sp.2.2.2 2 - 1) S267 := tN_cg2 (fun zz => by have j1 := Imp_m h271 zz; have j2 := Imp_m h272 zz; have j3 := Imp_m h10 j2.1; have j4 := Imp_m h11 ⟨j2.1, j2.2.1⟩; have j5 := Imp_m h286 zz; omega) (fun zz => by have j1 := Imp_m h271 zz; have j2 := Imp_m h272 zz; have j3 := Imp_m h10 j2.1; have j4 := Imp_m h11 ⟨j2.1, j2.2.1⟩; have j5 := Imp_m h286 zz; omega)
              obtain ⟨S432, h433⟩ : ∃ q : PS, q = tN By Nb (0) (Sp.2.2.2 2 - 1) S267 := ⟨_, rfl⟩
              have h434 : ML By Nb σ419 S432 := by rw [h433]; exact (ML_eq h428.1 h431)
              have h435 := ML_k h434 h426
              have h436 : Imp (S432.1 = 0) (z427.toInt = tV By Nb S267.2.2.1) := fun z => h428.2 (by rw [h431, ← h433]; exact z)
              have h437 : Imp (S432.1 = 0) (S267.1 = 0 ∧ tK By Nb S267.2.2.1 = 2 ∧ 0 ≤ tV By Nb S267.2.2.1 ∧ tV By Nb S267.2.2.1 ≤ Sp.2.2.2 2 - 1) := fun z => tN_gg (by rw [← h433]; exact z)
              have h438 : S432.2.2.2 = S267.2.2.2 := by rw [h433]; exact tN_w
              have h439 := Imp_m h422.2.2.2.2.2.2.2.2.2.2.2.1 (by omega)
              have h440 := Imp_m h422.2.2.2.2.2.2.2.2.2.2.2.2.1 (by omega)
              have h441 := Imp_m h422.2.2.2.2.2.2.2.2.2.2.2.2.2.1 (by first | exact q_a3a41410e6 h416 h335.2.2.2 h283 | omega)
              refine En_Ps 2 (pc' := 106) (lv' := [(2, .int z427), (1, .int z262), (0, .ref 159)]) (st' := [.ref 159]) rfl ?_
              refine En_callV rfl rfl rfl rfl rfl rfl rfl rfl tgz_159 (by decide +kernel) rfl (c_237 σ419 h420 z425 h426) (by decide) (by decide) (fun v443 σ444 h442 => ?_)
              obtain ⟨h445, h446, z448, rfl, h447⟩ := h442
              obtain rfl : σ419 = σ444 := Fr_nil h446
              refine En_iEq _ rfl rfl (fun h449 => ?_) (fun h449 => ?_)
              · exact En_ret (v := none) rfl rfl rfl ⟨h420, h429, z423, h424, z425, h426, rfl, ⟨by first | exact q_a555021d16 h422.2.2.1 | omega, by first | exact q_76190b61a3 h422.2.2.2.1 | omega, by first | exact q_ccc3bb8fc9 h257.2.2.2.2.1 h422.2.2.2.2.1 | omega, by first | exact q_a555021d16 h422.2.2.2.2.2.1 | omega, by first | exact q_c733b715bf h422.2.2.2.2.2.2.1 | omega, by first | exact q_8ad2cc928a h115.1 h422.2.2.2.2.2.1 | omega, by first | exact q_28bfca2c13 h257.2.2.2.2.1 h422.2.2.2.2.1 | omega, fun hh => by first | exact q_35a72a35ef h115.1 | omega, ⟨h430, ML_eq h434 (by unfold gTwin; dsimp only; rw [h248, ← h268, h413, ← h433]; first | done | rfl | (rw [if_pos (by omega)]; first | done | rfl) | (rw [if_neg (by omega)]; first | done | rfl))⟩⟩⟩
              · have h450 := Imp_m h422.2.2.2.2.2.2.2.2.2.2.2.2.2.2.2.1 (by omega)
                have h451 : S432.1 = 0 := by omega
                have h452 := Imp_m h436 h451
                have h453 := Imp_m h437 h451
                have h454 := Imp_m h271 h453.1
                have h455 := Imp_m h272 h453.1
                have h456 := Imp_m h10 h455.1
                have h457 := Imp_m h11 ⟨h455.1, h455.2.1⟩
                have h458 := Imp_m h286 h453.1
                have h459 := Imp_m h287 ⟨h453.1, h453.2.1⟩
                refine En_Ps 1 (pc' := 113) (lv' := [(2, .int z427), (1, .int z262), (0, .ref 159)]) (st' := [.ref 159]) rfl ?_
                refine En_getK (j := 14) ((h421 _ _ (inW tgz_159 (by decide +kernel))).trans ((h256 _ _ (inW tgz_159 (by decide +kernel))).trans h19)) rfl rfl rfl tgz_159 (by decide +kernel) ?_
                refine En_Ps 4 (pc' := 121) (lv' := [(2, .int z427), (1, .int z262), (0, .ref 159)]) (st' := [.int ((((Int32.ofInt 4)) * z262)), .int (((Int8.ofInt 10).toInt32)), .ref 165]) rfl ?_
                refine En_top (mulI (by decide : (Int32.ofInt 4).toInt = 4) rfl (Z := 4 * z262.toInt) (by first | exact q_8696eb12a7 | omega) (by first | exact q_75d17c0fda h336.2.2.2.2.1 h7 | omega) (by first | exact q_9ffa38fd64 h336.2.2.2.1 h336.2.2.2.2.2.2 h251 h15 | omega)) (fun z460 h461 => ?_)
                refine En_Ps 1 (pc' := 122) (lv' := [(2, .int z427), (1, .int z262), (0, .ref 159)]) (st' := [.int (((((Int8.ofInt 10).toInt32)) + z460)), .ref 165]) rfl ?_
                refine En_top (addI (by decide : ((Int8.ofInt 10).toInt32).toInt = 10) rfl (by first | exact q_feb34eb884 h461 h257.1 | omega) (by first | exact q_b05fdbfc49 h461 h276 h251 h15 | omega)) (fun z462 h463 => ?_)
                refine En_Ps 2 (pc' := 124) (lv' := [(2, .int z427), (1, .int z262), (0, .ref 159)]) (st' := [.int ((z462 + ((Int32.ofInt 3)))), .ref 165]) rfl ?_
                refine En_top (addI rfl (by decide : (Int32.ofInt 3).toInt = 3) (by first | exact q_5e2f65f32c h463 h461 h257.1 | omega) (by first | exact q_5ce2bcb71f h463 h461 h276 h251 h15 | omega)) (fun z464 h465 => ?_)
                refine En_Ps 1 (pc' := 125) (lv' := [(2, .int z427), (1, .int z262), (0, .ref 159)]) (st' := [.int z427, .int z464, .ref 165]) rfl ?_
                refine En_iast (l := (-1)) (u := 3) rfl rfl tgz_165 (by decide +kernel) (by first | exact q_ce80ff501e h465 h463 h461 h257.1 | omega) (lnI (by decide +kernel : LN _ = 226) (by first | exact q_0b8423a552 h465 h463 h461 h276 h251 h15 | omega)) (FTrow 41 13 4 4 (by decide +kernel) (by first | exact q_6b3256713e h465 h463 h461 h257.1 | omega) (by first | exact q_a1ee96a155 h465 h463 h461 h276 h251 h15 | omega) (by first | exact q_090c32d68c h461 h463 h465 | omega)) (rngI rfl (by first | exact q_1ab37740a2 h422.1 | omega) (by first | exact q_5856343edf h441 h416 h15 | omega)) h420 h429 (by decide +kernel) (fun σ466 h467 h468 h469 h470 => ?_)
                have h471 := KF_st h430 (J := z464.toInt) h470 (by omega) (by omega)
                obtain ⟨S472, h473⟩ : ∃ q : PS, q = wst S432 (13 + 4 * (tV By Nb Sp.2.2.1)) ((tV By Nb S267.2.2.1)) := ⟨_, rfl⟩
                have h474 : ML By Nb σ466 S472 := by rw [h473]; exact (ML_wst (i := 13 + 4 * (tV By Nb Sp.2.2.1)) (v := (tV By Nb S267.2.2.1)) h434 h469 h470 (by omega) (fun z => by have j1 := Imp_m h436 z; have j2 := Imp_m h437 z; have j3 := Imp_m h271 j2.1; have j4 := Imp_m h272 j2.1; have j5 := Imp_m h10 j4.1; have j6 := Imp_m h11 ⟨j4.1, j4.2.1⟩; have j7 := Imp_m h286 j2.1; have j8 := Imp_m h287 ⟨j2.1, j2.2.1⟩; exact ⟨by omega, by omega⟩))
                have h475 := ML_k h474 ((h470 _ _ (Or.inl (neTG tgz_159 tgz_165 (by decide)))).trans h426)
                have h476 : S472.1 = S432.1 := by rw [h473]; rfl
                exact En_ret (v := none) rfl rfl rfl ⟨h467, h468, z423, ((h470 _ _ (Or.inl (neTG tgz_159 tgz_165 (by decide)))).trans h424), z425, ((h470 _ _ (Or.inl (neTG tgz_159 tgz_165 (by decide)))).trans h426), rfl, ⟨by first | exact q_a555021d16 h422.2.2.1 | omega, by first | exact q_76190b61a3 h422.2.2.2.1 | omega, by first | exact q_ccc3bb8fc9 h257.2.2.2.2.1 h422.2.2.2.2.1 | omega, by first | exact q_a555021d16 h422.2.2.2.2.2.1 | omega, by first | exact q_c733b715bf h422.2.2.2.2.2.2.1 | omega, by first | exact q_8ad2cc928a h115.1 h422.2.2.2.2.2.1 | omega, by first | exact q_28bfca2c13 h257.2.2.2.2.1 h422.2.2.2.2.1 | omega, fun hh => by first | exact q_35a72a35ef h115.1 | omega, ⟨h471, ML_eq h474 (by unfold gTwin; dsimp only; rw [h248, ← h268, h413, ← h433, ← h473]; first | done | rfl | (rw [if_pos (by omega)]; first | done | rfl) | (rw [if_neg (by omega)]; first | done | rfl))⟩⟩⟩
            · refine En_Ps 2 (pc' := 88) (lv' := [(1, .int z262), (0, .ref 159)]) (st' := [.int ((Int32.ofInt 2)), .ref 159]) rfl ?_
              have := (by decide : ((Int32.ofInt 2)).toInt = 2)
              refine En_callV rfl rfl rfl rfl rfl rfl rfl rfl tgz_159 (by decide +kernel) rfl (c_223x σ254 h255 ((Int32.ofInt 2)) (geI (by decide : (Int32.ofInt 2).toInt = 2) (by decide)) (leI (by decide : (Int32.ofInt 2).toInt = 2) (by decide)) z260 h261 h269) (by decide) (by decide) (fun v478 σ479 h477 => ?_)
              obtain ⟨h480, h481, z483, h484, rfl, h482⟩ := h477
              have h485 := h482.2.2.2.2
              have h486 := Fr_trans h264 h481 (by decide +kernel)
              have h487 := KF_fr h265 h481 (by decide +kernel)
              obtain ⟨S488, h489⟩ : ∃ q : PS, q = err By Nb 2 S267 := ⟨_, rfl⟩
              have h490 : ML By Nb σ479 S488 := by rw [h489]; exact (ML_eq h485 (err_cg (by omega)))
              have h491 := ML_k h490 h484
              have h492 : Imp (S488.1 = 0) (tK By Nb S488.2.2.1 = z278.toInt) := ML_t h490 ((h481 _ _ (inW tgz_159 (by decide +kernel))).trans h277)
              have h493 : Imp (S488.1 = 0 ∧ tK By Nb S488.2.2.1 = 2) (z282.toInt = min 99999 (tV By Nb S488.2.2.1) ∧ 0 ≤ tV By Nb S488.2.2.1) := fun q => ML_u h490 ((h481 _ _ (inW tgz_159 (by decide +kernel))).trans h281) q.1 q.2
              have h494 : S488.2.2.2 = S267.2.2.2 := by rw [h489]; exact err_w
              have h495 : gTw2 By Nb (tV By Nb Sp.2.2.1) S267 = S488 := by rw [h489]; unfold gTw2; (repeat' split) <;> first | rfl | (exfalso; omega) | ((try have i0 := Imp_m h492 (by omega)); (try have i1 := Imp_m h286 (by omega)); (try have i2 := Imp_m h272 (by omega)); (try have i3 := Imp_m h271 (by omega)); (try have i4 := Imp_m h10 (by omega)); (try have i5 := Imp_m h11 (by omega)); (try have i6 := Imp_m h287 (by omega)); (try have i7 := Imp_m h493 (by omega)); (try have i8 := Imp_m h27.2.2.2 (by omega)); (try have i9 := Imp_m h242.2.2.1 (by omega)); (try have i10 := Imp_m h257.2.2.2.2.2.2.2.2.2.2.2.2.2.2.1 (by omega)); (try have i11 := Imp_m h295.2.2.2 (by omega)); exfalso; omega)
              refine En_Ps 3 (pc' := 94) (lv' := [(1, .int z262), (0, .ref 159)]) (st' := [.ref 159, .int ((Int32.ofInt 0)), .ref 159]) rfl ?_
              refine En_getK (j := 14) ((h481 _ _ (inW tgz_159 (by decide +kernel))).trans ((h256 _ _ (inW tgz_159 (by decide +kernel))).trans h19)) rfl rfl rfl tgz_159 (by decide +kernel) ?_
              refine En_Ps 1 (pc' := 98) (lv' := [(1, .int z262), (0, .ref 159)]) (st' := [.int ((Int32.ofInt 2)), .ref 165, .int ((Int32.ofInt 0)), .ref 159]) rfl ?_
              refine En_ialdK ((h481 _ _ (inWa tgz_165 (by decide +kernel))).trans ((h256 _ _ (inWa tgz_165 (by decide +kernel))).trans h12)) rfl (by decide : (Int32.ofInt 2).toInt = 2) tgz_165 (by decide +kernel) h480 (by decide) (lnI (by decide +kernel : LN _ = 226) (by decide)) ?_
              refine En_Ps 2 (pc' := 101) (lv' := [(1, .int z262), (0, .ref 159)]) (st' := [.int ((z13 - ((Int32.ofInt 1)))), .int ((Int32.ofInt 0)), .ref 159]) rfl ?_
              refine En_top (subI rfl (by decide : (Int32.ofInt 1).toInt = 1) (by first | exact q_93f9478bef h14 | omega) (by first | exact q_cc3cee8591 h15 | omega)) (fun z497 h498 => ?_)
              have := (by decide : ((Int32.ofInt 0)).toInt = 0)
              refine En_callV rfl rfl rfl rfl rfl rfl rfl rfl tgz_159 (by decide +kernel) rfl (c_288x σ479 h480 ((Int32.ofInt 0)) z497 (geI (by decide : (Int32.ofInt 0).toInt = 0) (by decide)) (leI (by decide : (Int32.ofInt 0).toInt = 0) (by decide)) (geI rfl (by first | exact q_e2c277696c h498 h14 | omega)) (leI rfl (by first | exact q_d89d511a18 h498 h15 | omega)) z258 ((h481 _ _ (inW tgz_159 (by decide +kernel))).trans h259) z483 h484 z278 ((h481 _ _ (inW tgz_159 (by decide +kernel))).trans h277) z282 ((h481 _ _ (inW tgz_159 (by decide +kernel))).trans h281) h490) (by decide) (by decide) (fun v500 σ501 h499 => ?_)
              obtain ⟨h502, h503, z505, h506, z507, h508, z509, rfl, h504⟩ := h499
              have h510 := h504.2.2.2.2.2.2.2.2.2.2.2.2.2.2.2.2
              have h511 := Fr_trans h486 h503 (by decide +kernel)
              have h512 := KF_fr h487 h503 (by decide +kernel)
              have h513 : tN By Nb ((Int32.ofInt 0)).toInt z497.toInt S488 = tN By Nb (0) (Sp.2.2.2 2 - 1) S488 := tN_cg2 (fun zz => by have j1 := Imp_m h492 zz; omega) (fun zz => by have j1 := Imp_m h492 zz; omega)
              obtain ⟨S514, h515⟩ : ∃ q : PS, q = tN By Nb (0) (Sp.2.2.2 2 - 1) S488 := ⟨_, rfl⟩
              have h516 : ML By Nb σ501 S514 := by rw [h515]; exact (ML_eq h510.1 h513)
              have h517 := ML_k h516 h508
              have h518 : Imp (S514.1 = 0) (z509.toInt = tV By Nb S488.2.2.1) := fun z => h510.2 (by rw [h513, ← h515]; exact z)
              have h519 : Imp (S514.1 = 0) (S488.1 = 0 ∧ tK By Nb S488.2.2.1 = 2 ∧ 0 ≤ tV By Nb S488.2.2.1 ∧ tV By Nb S488.2.2.1 ≤ Sp.2.2.2 2 - 1) := fun z => tN_gg (by rw [← h515]; exact z)
              have h520 : S514.2.2.2 = S488.2.2.2 := by rw [h515]; exact tN_w
              have h521 := Imp_m h504.2.2.2.2.2.2.2.2.2.2.2.1 (by omega)
              have h522 := Imp_m h504.2.2.2.2.2.2.2.2.2.2.2.2.1 (by omega)
              have h523 := Imp_m h504.2.2.2.2.2.2.2.2.2.2.2.2.2.1 (by first | exact q_a3a41410e6 h498 h335.2.2.2 h283 | omega)
              refine En_Ps 2 (pc' := 106) (lv' := [(2, .int z509), (1, .int z262), (0, .ref 159)]) (st' := [.ref 159]) rfl ?_
              refine En_callV rfl rfl rfl rfl rfl rfl rfl rfl tgz_159 (by decide +kernel) rfl (c_237 σ501 h502 z507 h508) (by decide) (by decide) (fun v525 σ526 h524 => ?_)
              obtain ⟨h527, h528, z530, rfl, h529⟩ := h524
              obtain rfl : σ501 = σ526 := Fr_nil h528
              refine En_iEq _ rfl rfl (fun h531 => ?_) (fun hx => by exfalso; have := Imp_m h257.2.2.2.2.2.2.2.2.2.2.2.2.2.2.1 (by omega); have := Imp_m h504.2.2.2.2.2.2.2.2.2.2.2.2.2.2.1 (by omega); have := Imp_m h504.2.2.2.2.2.2.2.2.2.2.2.2.2.2.2.1 (by omega); omega)
              exact En_ret (v := none) rfl rfl rfl ⟨h502, h511, z505, h506, z507, h508, rfl, ⟨by first | exact q_a555021d16 h504.2.2.1 | omega, by first | exact q_76190b61a3 h504.2.2.2.1 | omega, by first | exact q_ccc3bb8fc9 h257.2.2.2.2.1 h504.2.2.2.2.1 | omega, by first | exact q_a555021d16 h504.2.2.2.2.2.1 | omega, by first | exact q_c733b715bf h504.2.2.2.2.2.2.1 | omega, by first | exact q_8ad2cc928a h115.1 h504.2.2.2.2.2.1 | omega, by first | exact q_28bfca2c13 h257.2.2.2.2.1 h504.2.2.2.2.1 | omega, fun hh => by first | exact q_35a72a35ef h115.1 | omega, ⟨h512, ML_eq h516 (by unfold gTwin; dsimp only; rw [h248, ← h268, h495, ← h515]; first | done | rfl | (rw [if_pos (by omega)]; first | done | rfl) | (rw [if_neg (by omega)]; first | done | rfl))⟩⟩⟩
      · have h532 := Imp_m h242.2.2.1 (by first | exact ⟨q_ad5b726bf8 h242.2.1, q_e3350da514 h247 h242.1⟩ | omega)
        refine En_Ps 2 (pc' := 37) (lv' := [(0, .ref 159)]) (st' := [.int ((Int32.ofInt 2)), .ref 159]) rfl ?_
        have := (by decide : ((Int32.ofInt 2)).toInt = 2)
        refine En_callV rfl rfl rfl rfl rfl rfl rfl rfl tgz_159 (by decide +kernel) rfl (c_223x σ0 hσ0 ((Int32.ofInt 2)) (geI (by decide : (Int32.ofInt 2).toInt = 2) (by decide)) (leI (by decide : (Int32.ofInt 2).toInt = 2) (by decide)) k h_k hM) (by decide) (by decide) (fun v534 σ535 h533 => ?_)
        obtain ⟨h536, h537, z539, h540, rfl, h538⟩ := h533
        have h541 := h538.2.2.2.2
        have h542 := Fr_trans hF0 h537 (by decide +kernel)
        have h543 := KF_fr (KF_0 (σ := σ0)) h537 (by decide +kernel)
        obtain ⟨S544, h545⟩ : ∃ q : PS, q = err By Nb 2 Sp := ⟨_, rfl⟩
        have h546 : ML By Nb σ535 S544 := by rw [h545]; exact (ML_eq h541 (err_cg (by omega)))
        have h547 := ML_k h546 h540
        have h548 : Imp (S544.1 = 0) (tK By Nb S544.2.2.1 = z2.toInt) := ML_t h546 ((h537 _ _ (inW tgz_159 (by decide +kernel))).trans h1)
        have h549 : Imp (S544.1 = 0 ∧ tK By Nb S544.2.2.1 = 2) (z6.toInt = min 99999 (tV By Nb S544.2.2.1) ∧ 0 ≤ tV By Nb S544.2.2.1) := fun q => ML_u h546 ((h537 _ _ (inW tgz_159 (by decide +kernel))).trans h5) q.1 q.2
        have h550 : S544.2.2.2 = Sp.2.2.2 := by rw [h545]; exact err_w
        have h551 : gTw1 By Nb Sp = S544 := by rw [h545]; unfold gTw1; (repeat' split) <;> first | rfl | (exfalso; omega) | ((try have i0 := Imp_m h548 (by omega)); (try have i1 := Imp_m h10 (by omega)); (try have i2 := Imp_m h11 (by omega)); (try have i3 := Imp_m h549 (by omega)); (try have i4 := Imp_m h27.2.2.2 (by omega)); exfalso; omega)
        refine En_Ps 3 (pc' := 43) (lv' := [(0, .ref 159)]) (st' := [.ref 159, .int ((Int32.ofInt 0)), .ref 159]) rfl ?_
        refine En_getK (j := 14) ((h537 _ _ (inW tgz_159 (by decide +kernel))).trans h19) rfl rfl rfl tgz_159 (by decide +kernel) ?_
        refine En_Ps 1 (pc' := 47) (lv' := [(0, .ref 159)]) (st' := [.int ((Int32.ofInt 2)), .ref 165, .int ((Int32.ofInt 0)), .ref 159]) rfl ?_
        refine En_ialdK ((h537 _ _ (inWa tgz_165 (by decide +kernel))).trans h12) rfl (by decide : (Int32.ofInt 2).toInt = 2) tgz_165 (by decide +kernel) h536 (by decide) (lnI (by decide +kernel : LN _ = 226) (by decide)) ?_
        refine En_Ps 2 (pc' := 50) (lv' := [(0, .ref 159)]) (st' := [.int ((z13 - ((Int32.ofInt 1)))), .int ((Int32.ofInt 0)), .ref 159]) rfl ?_
        refine En_top (subI rfl (by decide : (Int32.ofInt 1).toInt = 1) (by first | exact q_93f9478bef h14 | omega) (by first | exact q_cc3cee8591 h15 | omega)) (fun z553 h554 => ?_)
        have := (by decide : ((Int32.ofInt 0)).toInt = 0)
        refine En_callV rfl rfl rfl rfl rfl rfl rfl rfl tgz_159 (by decide +kernel) rfl (c_288x σ535 h536 ((Int32.ofInt 0)) z553 (geI (by decide : (Int32.ofInt 0).toInt = 0) (by decide)) (leI (by decide : (Int32.ofInt 0).toInt = 0) (by decide)) (geI rfl (by first | exact q_e2c277696c h554 h14 | omega)) (leI rfl (by first | exact q_d89d511a18 h554 h15 | omega)) f ((h537 _ _ (inW tgz_159 (by decide +kernel))).trans h_f) z539 h540 z2 ((h537 _ _ (inW tgz_159 (by decide +kernel))).trans h1) z6 ((h537 _ _ (inW tgz_159 (by decide +kernel))).trans h5) h546) (by decide) (by decide) (fun v556 σ557 h555 => ?_)
        obtain ⟨h558, h559, z561, h562, z563, h564, z565, rfl, h560⟩ := h555
        have h566 := h560.2.2.2.2.2.2.2.2.2.2.2.2.2.2.2.2
        have h567 := Fr_trans h542 h559 (by decide +kernel)
        have h568 := KF_fr h543 h559 (by decide +kernel)
        have h569 : tN By Nb ((Int32.ofInt 0)).toInt z553.toInt S544 = tN By Nb (0) (Sp.2.2.2 2 - 1) S544 := tN_cg2 (fun zz => by have j1 := Imp_m h548 zz; omega) (fun zz => by have j1 := Imp_m h548 zz; omega)
        obtain ⟨S570, h571⟩ : ∃ q : PS, q = tN By Nb (0) (Sp.2.2.2 2 - 1) S544 := ⟨_, rfl⟩
        have h572 : ML By Nb σ557 S570 := by rw [h571]; exact (ML_eq h566.1 h569)
        have h573 := ML_k h572 h564
        have h574 : Imp (S570.1 = 0) (z565.toInt = tV By Nb S544.2.2.1) := fun z => h566.2 (by rw [h569, ← h571]; exact z)
        have h575 : Imp (S570.1 = 0) (S544.1 = 0 ∧ tK By Nb S544.2.2.1 = 2 ∧ 0 ≤ tV By Nb S544.2.2.1 ∧ tV By Nb S544.2.2.1 ≤ Sp.2.2.2 2 - 1) := fun z => tN_gg (by rw [← h571]; exact z)
        have h576 : S570.2.2.2 = S544.2.2.2 := by rw [h571]; exact tN_w
        have h577 := Imp_m h560.2.2.2.2.2.2.2.2.2.2.2.1 (by omega)
        have h578 := Imp_m h560.2.2.2.2.2.2.2.2.2.2.2.2.1 (by omega)
        have h579 := Imp_m h560.2.2.2.2.2.2.2.2.2.2.2.2.2.1 (by first | exact q_a3a41410e6 h554 h115.2.2.2 h7 | omega)
        refine En_Ps 1 (pc' := 54) (lv' := [(1, .int z565), (0, .ref 159)]) (st' := []) rfl ?_
        obtain ⟨z581, h580, h582, h583⟩ := WT_peekI h558 tgz_159 (by decide +kernel : FT 35 10 = (0, 0, 4)) (by decide +kernel)
        obtain ⟨z585, h584, h586, h587⟩ := WT_peekI h558 tgz_159 (by decide +kernel : FT 35 11 = (0, 0, 99999)) (by decide +kernel)
        have h588 := ML_k h572 h564
        have h589 : Imp (S570.1 = 0) (tK By Nb S570.2.2.1 = z581.toInt) := ML_t h572 h580
        have h590 : Imp (S570.1 = 0 ∧ tK By Nb S570.2.2.1 = 2) (z585.toInt = min 99999 (tV By Nb S570.2.2.1) ∧ 0 ≤ tV By Nb S570.2.2.1) := fun q => ML_u h572 h584 q.1 q.2
        have h591 : S570.2.2.2 2 = Sp.2.2.2 2 := by rw [h576, h550]
        refine En_Ps 2 (pc' := 56) (lv' := [(1, .int z565), (0, .ref 159)]) (st' := [.ref 159, .ref 159]) rfl ?_
        refine En_getK (j := 14) ((h559 _ _ (inW tgz_159 (by decide +kernel))).trans ((h537 _ _ (inW tgz_159 (by decide +kernel))).trans h19)) rfl rfl rfl tgz_159 (by decide +kernel) ?_
        refine En_Ps 1 (pc' := 60) (lv' := [(1, .int z565), (0, .ref 159)]) (st' := [.int ((Int32.ofInt 2)), .ref 165, .ref 159]) rfl ?_
        refine En_ialdK ((h559 _ _ (inWa tgz_165 (by decide +kernel))).trans ((h537 _ _ (inWa tgz_165 (by decide +kernel))).trans h12)) rfl (by decide : (Int32.ofInt 2).toInt = 2) tgz_165 (by decide +kernel) h558 (by decide) (lnI (by decide +kernel : LN _ = 226) (by decide)) ?_
        refine En_callV rfl rfl rfl rfl rfl rfl rfl rfl tgz_159 (by decide +kernel) rfl (c_260x σ557 h558 z13 z563 h564 z581 h580 z585 h584) (by decide) (by decide) (fun v594 σ595 h593 => ?_)
        obtain ⟨h596, h597, z599, rfl, h598⟩ := h593
        obtain rfl : σ557 = σ595 := Fr_nil h597
        refine En_iEq _ rfl rfl (fun h600 => ?_) (fun hx => by exfalso; have := Imp_m h598.2.2.1 (by omega); have := Imp_m h560.2.2.2.2.2.2.2.2.2.2.2.2.2.2.1 (by omega); have := Imp_m h560.2.2.2.2.2.2.2.2.2.2.2.2.2.2.2.1 (by omega); omega)
        have h601 : gTw2 By Nb (tV By Nb S544.2.2.1) S570 = S570 := by unfold gTw2; (repeat' split) <;> first | rfl | (exfalso; omega) | ((try have i0 := Imp_m h589 (by omega)); (try have i1 := Imp_m h575 (by omega)); (try have i2 := Imp_m h574 (by omega)); (try have i3 := Imp_m h548 (by omega)); (try have i4 := Imp_m h10 (by omega)); (try have i5 := Imp_m h11 (by omega)); (try have i6 := Imp_m h549 (by omega)); (try have i7 := Imp_m h590 (by omega)); (try have i8 := Imp_m h27.2.2.2 (by omega)); (try have i9 := Imp_m h560.2.2.2.2.2.2.2.2.2.2.2.2.2.2.1 (by omega)); (try have i10 := Imp_m h560.2.2.2.2.2.2.2.2.2.2.2.2.2.2.2.1 (by omega)); (try have i11 := Imp_m h598.2.2.1 (by omega)); (try have i12 := Imp_m h598.2.2.2 (by omega)); exfalso; omega)
        refine En_Ps 3 (pc' := 94) (lv' := [(1, .int z565), (0, .ref 159)]) (st' := [.ref 159, .int ((Int32.ofInt 0)), .ref 159]) rfl ?_
        refine En_getK (j := 14) ((h559 _ _ (inW tgz_159 (by decide +kernel))).trans ((h537 _ _ (inW tgz_159 (by decide +kernel))).trans h19)) rfl rfl rfl tgz_159 (by decide +kernel) ?_
        refine En_Ps 1 (pc' := 98) (lv' := [(1, .int z565), (0, .ref 159)]) (st' := [.int ((Int32.ofInt 2)), .ref 165, .int ((Int32.ofInt 0)), .ref 159]) rfl ?_
        refine En_ialdK ((h559 _ _ (inWa tgz_165 (by decide +kernel))).trans ((h537 _ _ (inWa tgz_165 (by decide +kernel))).trans h12)) rfl (by decide : (Int32.ofInt 2).toInt = 2) tgz_165 (by decide +kernel) h558 (by decide) (lnI (by decide +kernel : LN _ = 226) (by decide)) ?_
        refine En_Ps 2 (pc' := 101) (lv' := [(1, .int z565), (0, .ref 159)]) (st' := [.int ((z13 - ((Int32.ofInt 1)))), .int ((Int32.ofInt 0)), .ref 159]) rfl ?_
        refine En_top (subI rfl (by decide : (Int32.ofInt 1).toInt = 1) (by first | exact q_93f9478bef h14 | omega) (by first | exact q_cc3cee8591 h15 | omega)) (fun z603 h604 => ?_)
        have := (by decide : ((Int32.ofInt 0)).toInt = 0)
        refine En_callV rfl rfl rfl rfl rfl rfl rfl rfl tgz_159 (by decide +kernel) rfl (c_288x σ557 h558 ((Int32.ofInt 0)) z603 (geI (by decide : (Int32.ofInt 0).toInt = 0) (by decide)) (leI (by decide : (Int32.ofInt 0).toInt = 0) (by decide)) (geI rfl (by first | exact q_e2c277696c h604 h14 | omega)) (leI rfl (by first | exact q_d89d511a18 h604 h15 | omega)) z561 h562 z563 h564 z581 h580 z585 h584 h572) (by decide) (by decide) (fun v606 σ607 h605 => ?_)
        obtain ⟨h608, h609, z611, h612, z613, h614, z615, rfl, h610⟩ := h605
        have h616 := h610.2.2.2.2.2.2.2.2.2.2.2.2.2.2.2.2
        have h617 := Fr_trans h567 h609 (by decide +kernel)
        have h618 := KF_fr h568 h609 (by decide +kernel)
        have h619 : tN By Nb ((Int32.ofInt 0)).toInt z603.toInt S570 = tN By Nb (0) (Sp.2.2.2 2 - 1) S570 := tN_cg2 (fun zz => by have j1 := Imp_m h574 zz; have j2 := Imp_m h575 zz; have j3 := Imp_m h548 j2.1; have j4 := Imp_m h549 ⟨j2.1, j2.2.1⟩; have j5 := Imp_m h589 zz; omega) (fun zz => by have j1 := Imp_m h574 zz; have j2 := Imp_m h575 zz; have j3 := Imp_m h548 j2.1; have j4 := Imp_m h549 ⟨j2.1, j2.2.1⟩; have j5 := Imp_m h589 zz; omega)
        obtain ⟨S620, h621⟩ : ∃ q : PS, q = tN By Nb (0) (Sp.2.2.2 2 - 1) S570 := ⟨_, rfl⟩
        have h622 : ML By Nb σ607 S620 := by rw [h621]; exact (ML_eq h616.1 h619)
        have h623 := ML_k h622 h614
        have h624 : Imp (S620.1 = 0) (z615.toInt = tV By Nb S570.2.2.1) := fun z => h616.2 (by rw [h619, ← h621]; exact z)
        have h625 : Imp (S620.1 = 0) (S570.1 = 0 ∧ tK By Nb S570.2.2.1 = 2 ∧ 0 ≤ tV By Nb S570.2.2.1 ∧ tV By Nb S570.2.2.1 ≤ Sp.2.2.2 2 - 1) := fun z => tN_gg (by rw [← h621]; exact z)
        have h626 : S620.2.2.2 = S570.2.2.2 := by rw [h621]; exact tN_w
        have h627 := Imp_m h610.2.2.2.2.2.2.2.2.2.2.2.1 (by omega)
        have h628 := Imp_m h610.2.2.2.2.2.2.2.2.2.2.2.2.1 (by omega)
        have h629 := Imp_m h610.2.2.2.2.2.2.2.2.2.2.2.2.2.1 (by first | exact q_a3a41410e6 h604 h115.2.2.2 h7 | omega)
        refine En_Ps 2 (pc' := 106) (lv' := [(2, .int z615), (1, .int z565), (0, .ref 159)]) (st' := [.ref 159]) rfl ?_
        refine En_callV rfl rfl rfl rfl rfl rfl rfl rfl tgz_159 (by decide +kernel) rfl (c_237 σ607 h608 z613 h614) (by decide) (by decide) (fun v631 σ632 h630 => ?_)
        obtain ⟨h633, h634, z636, rfl, h635⟩ := h630
        obtain rfl : σ607 = σ632 := Fr_nil h634
        refine En_iEq _ rfl rfl (fun h637 => ?_) (fun hx => by exfalso; have := Imp_m h560.2.2.2.2.2.2.2.2.2.2.2.2.2.2.1 (by omega); have := Imp_m h560.2.2.2.2.2.2.2.2.2.2.2.2.2.2.2.1 (by omega); have := Imp_m h598.2.2.2 (by omega); have := Imp_m h610.2.2.2.2.2.2.2.2.2.2.2.2.2.2.1 (by omega); have := Imp_m h610.2.2.2.2.2.2.2.2.2.2.2.2.2.2.2.1 (by omega); omega)
        exact En_ret (v := none) rfl rfl rfl ⟨h608, h617, z611, h612, z613, h614, rfl, ⟨by first | exact q_a555021d16 h610.2.2.1 | omega, by first | exact q_76190b61a3 h610.2.2.2.1 | omega, by first | exact q_ccc3bb8fc9 h560.2.2.2.2.1 h610.2.2.2.2.1 | omega, by first | exact q_a555021d16 h610.2.2.2.2.2.1 | omega, by first | exact q_c733b715bf h610.2.2.2.2.2.2.1 | omega, by first | exact q_8ad2cc928a h115.1 h610.2.2.2.2.2.1 | omega, by first | exact q_28bfca2c13 h560.2.2.2.2.1 h610.2.2.2.2.1 | omega, fun hh => by first | exact q_35a72a35ef h115.1 | omega, ⟨h618, ML_eq h622 (by unfold gTwin; dsimp only; rw [h551, ← h571, h601, ← h621]; first | done | rfl | (rw [if_pos (by omega)]; first | done | rfl) | (rw [if_neg (by omega)]; first | done | rfl))⟩⟩⟩

