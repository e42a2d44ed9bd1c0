/-! 32.m02 -/
section
/-- DoorSchoolModel.number(II)I -/
abbrev P_288x (σ0 : SG) (By : Int → Int) (Nb : Int) (Sp : PS) (a : Int32) (b : Int32) (f : Int32) (k : Int32) (t : Int32) (u : Int32) : PO := fun v σ => WT σ ∧ Fr [(35, 8), (35, 9), (35, 10), (35, 11), (35, 12), (35, 13)] σ0 σ ∧ ∃ f1 : Int32, (σ 159)[8]? = some (Value.int f1) ∧ ∃ k1 : Int32, (σ 159)[12]? = some (Value.int k1) ∧ ∃ ret : Int32, v = some (Value.int ret) ∧ -ret.toInt ≤ 0 ∧ ret.toInt - 50 ≤ 0 ∧ -f1.toInt ≤ 0 ∧ f1.toInt - 1600 ≤ 0 ∧ -f1.toInt + f.toInt ≤ 0 ∧ -k1.toInt ≤ 0 ∧ k1.toInt - 3 ≤ 0 ∧ -k1.toInt + k.toInt ≤ 0 ∧ -k1.toInt + t.toInt - 3 ≤ 0 ∧ -k1.toInt + u.toInt - 99998 ≤ 0 ∧ f.toInt - f1.toInt ≤ 0 ∧ Imp (a.toInt ≤ 0) (a.toInt - ret.toInt ≤ 0) ∧ Imp (-a.toInt ≤ 0) (-ret.toInt ≤ 0) ∧ Imp (-b.toInt ≤ 0) (ret.toInt - b.toInt ≤ 0) ∧ Imp (b.toInt ≤ 0) (ret.toInt ≤ 0) ∧ Imp (k1.toInt ≤ 0) (k.toInt ≤ 0 ∧ t.toInt - 2 ≤ 0 ∧ -t.toInt + 2 ≤ 0 ∧ ret.toInt - u.toInt ≤ 0 ∧ -ret.toInt + u.toInt ≤ 0 ∧ a.toInt - u.toInt ≤ 0 ∧ u.toInt - b.toInt ≤ 0) ∧ (ML By Nb σ (tN By Nb a.toInt b.toInt Sp) ∧ ((tN By Nb a.toInt b.toInt Sp).1 = 0 → ret.toInt = tV By Nb Sp.2.2.1))
set_option maxRecDepth 10000 in
set_option maxHeartbeats 4000000 in
theorem c_288x {By : Int → Int} {Nb : Int} {Sp : PS} (σ0 : SG) (hσ0 : WT σ0) (a : Int32) (b : Int32) (hl_a : 0 ≤ a.toInt) (hu_a : a.toInt ≤ 100000) (hl_b : (-1) ≤ b.toInt) (hu_b : b.toInt ≤ 50) (f : Int32) (h_f : (σ0 159)[8]? = some (Value.int f)) (k : Int32) (h_k : (σ0 159)[12]? = some (Value.int k)) (t : Int32) (h_t : (σ0 159)[10]? = some (Value.int t)) (u : Int32) (h_u : (σ0 159)[11]? = some (Value.int u)) (hM : ML By Nb σ0 Sp) : En 2 46 none mr_288 (P_288x σ0 By Nb Sp a b f k t u) 0 [(0, .ref 159), (1, .int a), (2, .int b)] [] σ0 := by
  obtain ⟨hl_f, hu_f⟩ := WT_int hσ0 (g := 35) (by decide +kernel) (by decide +kernel) (l := 0) (u := 1600) (by decide +kernel) h_f
  obtain ⟨hl_k, hu_k⟩ := WT_int hσ0 (g := 35) (by decide +kernel) (by decide +kernel) (l := 0) (u := 3) (by decide +kernel) h_k
  obtain ⟨hl_t, hu_t⟩ := WT_int hσ0 (g := 35) (by decide +kernel) (by decide +kernel) (l := 0) (u := 4) (by decide +kernel) h_t
  obtain ⟨hl_u, hu_u⟩ := WT_int hσ0 (g := 35) (by decide +kernel) (by decide +kernel) (l := 0) (u := 99999) (by decide +kernel) h_u
  have hF0 : Fr [(35, 8), (35, 9), (35, 10), (35, 11), (35, 12), (35, 13)] σ0 σ0 := Fr_rfl
  have h1 := ML_k hM h_k
  have h2 : Imp (Sp.1 = 0) (tK By Nb Sp.2.2.1 = t.toInt) := ML_t hM h_t
  have h3 : Imp (Sp.1 = 0 ∧ tK By Nb Sp.2.2.1 = 2) (u.toInt = min 99999 (tV By Nb Sp.2.2.1) ∧ 0 ≤ tV By Nb Sp.2.2.1) := fun q => ML_u hM h_u q.1 q.2
  refine En_Ps 1 (pc' := 1) (lv' := [(0, .ref 159), (1, .int a), (2, .int b)]) (st' := [.ref 159]) rfl ?_
  refine En_callV rfl rfl rfl rfl rfl rfl rfl rfl tgz_159 (by decide +kernel) rfl (c_237 σ0 hσ0 k h_k) (by decide) (by decide) (fun v5 σ6 h4 => ?_)
  obtain ⟨h7, h8, z10, rfl, h9⟩ := h4
  obtain rfl : σ0 = σ6 := Fr_nil h8
  refine En_iEq _ rfl rfl (fun h11 => ?_) (fun h11 => ?_)
  · refine En_Ps 1 (pc' := 21) (lv' := [(0, .ref 159), (1, .int a), (2, .int b)]) (st' := [.ref 159]) rfl ?_
    refine En_callV rfl rfl rfl rfl rfl rfl rfl rfl tgz_159 (by decide +kernel) rfl (c_237 σ0 hσ0 k h_k) (by decide) (by decide) (fun v13 σ14 h12 => ?_)
    obtain ⟨h15, h16, z18, rfl, h17⟩ := h12
    obtain rfl : σ0 = σ14 := Fr_nil h16
    refine En_iEq _ rfl rfl (fun h19 => ?_) (fun hx => by exfalso; (first | exact q_cffee5c382 h9.2.2.2 h11 h17.2.2.1 hx h17.1 | omega))
    refine En_Ps 1 (pc' := 48) (lv' := [(0, .ref 159), (1, .int a), (2, .int b)]) (st' := [.ref 159]) rfl ?_
    refine En_callV rfl rfl rfl rfl rfl rfl rfl rfl tgz_159 (by decide +kernel) rfl (c_237 σ0 hσ0 k h_k) (by decide) (by decide) (fun v21 σ22 h20 => ?_)
    obtain ⟨h23, h24, z26, rfl, h25⟩ := h20
    obtain rfl : σ0 = σ22 := Fr_nil h24
    refine En_iNe _ rfl rfl (fun hx => by exfalso; (first | exact q_cffee5c382 h17.2.2.2 h19 h25.2.2.1 hx h25.1 | omega)) (fun h27 => ?_)
    refine En_Ps 1 (pc' := 55) (lv' := [(0, .ref 159), (1, .int a), (2, .int b)]) (st' := [.int ((Int32.ofInt 0))]) rfl ?_
    refine En_top (by decide : (Int32.ofInt 0).toInt = 0) (fun z28 h29 => ?_)
    exact En_ret (v := some (Value.int z28)) rfl rfl rfl ⟨hσ0, hF0, f, h_f, k, h_k, z28, rfl, ⟨by first | exact q_097a37c2ae h29 | omega, by first | exact q_82b7ab915f h29 | omega, by first | exact q_c803b490ef hl_f | omega, by first | exact q_5a08281576 hu_f | omega, by first | exact q_857069189f | omega, by first | exact q_c803b490ef hl_k | omega, by first | exact q_e9a8eec0c4 hu_k | omega, by first | exact q_857069189f | omega, by (first | exact q_20f2775a3a h25.2.2.2 h27 hu_t | omega), by (first | exact q_abf6e8c060 h25.2.2.2 h27 hu_u | omega), by first | exact q_1bb76abeaf | omega, fun hh => by first | exact q_b2041001a2 hh h29 | omega, fun hh => by first | exact q_097a37c2ae h29 | omega, fun hh => by first | exact q_0d5ac7281a hh h29 | omega, fun hh => by first | exact q_c5d285f1b9 h29 | omega, fun _ => by omega, (by (try have i0 := Imp_m h2 (by omega)); (try have i1 := Imp_m h3 (by omega)); first | (have q := tN_bad (B := By) (n := Nb) (lo := a.toInt) (hi := b.toInt) (S := Sp) (by (first | exact q_fdf04f5fe0 h25.2.2.2 h27 h1 | omega)); rw [q]; exact ⟨ML_eq hM (by rfl), fun zz => by have := err_ne (B := By) (n := Nb) (S := Sp) (k := 1) (by (first | decide | omega)); have := err_ne (B := By) (n := Nb) (S := Sp) (k := 2) (by (first | decide | omega)); exfalso; (first | exact q_e804f08cb8 h25.2.2.2 h27 h1 zz | omega)⟩) | (have q := tN_k (B := By) (n := Nb) (lo := a.toInt) (hi := b.toInt) (S := Sp) (by omega) (by omega); rw [q]; exact ⟨ML_eq hM (by rfl), fun zz => by have := err_ne (B := By) (n := Nb) (S := Sp) (k := 1) (by omega); have := err_ne (B := By) (n := Nb) (S := Sp) (k := 2) (by omega); exfalso; omega⟩) | (have q := tN_v (B := By) (n := Nb) (lo := a.toInt) (hi := b.toInt) (S := Sp) (by omega) (by omega) (by omega); rw [q]; exact ⟨ML_eq hM (by rfl), fun zz => by have := err_ne (B := By) (n := Nb) (S := Sp) (k := 1) (by omega); have := err_ne (B := By) (n := Nb) (S := Sp) (k := 2) (by omega); exfalso; omega⟩) | (have q := tN_ok (B := By) (n := Nb) (lo := a.toInt) (hi := b.toInt) (S := Sp) (by omega) (by omega) (by omega); rw [q]; exact ⟨ML_eq hM (by rfl), fun zz => by have := err_ne (B := By) (n := Nb) (S := Sp) (k := 1) (by omega); have := err_ne (B := By) (n := Nb) (S := Sp) (k := 2) (by omega); exfalso; omega⟩))⟩⟩
  · try have h30 := Imp_m h2 (by (first | exact q_4c9c2433b9 h1 hl_k h9.2.2.1 h11 h9.1 | omega))
    try have h31 := Imp_m h3 (by omega)
    refine En_Ps 1 (pc' := 8) (lv' := [(0, .ref 159), (1, .int a), (2, .int b)]) (st' := [.ref 159]) rfl ?_
    refine En_getK (j := 10) h_t rfl rfl rfl tgz_159 (by decide +kernel) ?_
    refine En_Ps 1 (pc' := 12) (lv' := [(0, .ref 159), (1, .int a), (2, .int b)]) (st' := [.int ((Int32.ofInt 2)), .int t]) rfl ?_
    refine En_icEq _ rfl (by decide : (Int32.ofInt 2).toInt = 2) rfl (fun h32 => ?_) (fun h32 => ?_)
    · refine En_Ps 1 (pc' := 21) (lv' := [(0, .ref 159), (1, .int a), (2, .int b)]) (st' := [.ref 159]) rfl ?_
      refine En_callV rfl rfl rfl rfl rfl rfl rfl rfl tgz_159 (by decide +kernel) rfl (c_237 σ0 hσ0 k h_k) (by decide) (by decide) (fun v34 σ35 h33 => ?_)
      obtain ⟨h36, h37, z39, rfl, h38⟩ := h33
      obtain rfl : σ0 = σ35 := Fr_nil h37
      refine En_iEq _ rfl rfl (fun hx => by exfalso; (first | exact q_d43525113b h9.2.2.1 h11 h9.1 h38.2.2.2 hx | omega)) (fun h40 => ?_)
      try have h41 := Imp_m h2 (by (first | exact q_4c9c2433b9 h1 hl_k h38.2.2.1 h40 h38.1 | omega))
      try have h42 := Imp_m h3 (by (first | exact q_b7b67c4329 h1 hl_k h38.2.2.1 h40 h38.1 h41 h32 | omega))
      refine En_Ps 1 (pc' := 28) (lv' := [(0, .ref 159), (1, .int a), (2, .int b)]) (st' := [.ref 159]) rfl ?_
      refine En_getK (j := 11) h_u rfl rfl rfl tgz_159 (by decide +kernel) ?_
      refine En_Ps 5 (pc' := 36) (lv' := [(0, .ref 159), (1, .int a), (2, .int b)]) (st' := [.long b.toInt64, .long a.toInt64, .long u.toInt64]) rfl ?_
      have : u.toInt64.toInt = u.toInt := (i2lI rfl)
      have : a.toInt64.toInt = a.toInt := (i2lI rfl)
      have : b.toInt64.toInt = b.toInt := (i2lI rfl)
      refine En_callS rfl rfl rfl rfl rfl rfl rfl rfl rfl (c_249 σ0 hσ0 u.toInt64 a.toInt64 b.toInt64) (by decide) (by decide) (fun v44 σ45 h43 => ?_)
      obtain ⟨h46, h47, z49, rfl, h48⟩ := h43
      obtain rfl : σ0 = σ45 := Fr_nil h47
      refine En_iNe _ rfl rfl (fun h50 => ?_) (fun h50 => ?_)
      · refine En_Ps 1 (pc' := 48) (lv' := [(0, .ref 159), (1, .int a), (2, .int b)]) (st' := [.ref 159]) rfl ?_
        refine En_callV rfl rfl rfl rfl rfl rfl rfl rfl tgz_159 (by decide +kernel) rfl (c_237 σ0 hσ0 k h_k) (by decide) (by decide) (fun v52 σ53 h51 => ?_)
        obtain ⟨h54, h55, z57, rfl, h56⟩ := h51
        obtain rfl : σ0 = σ53 := Fr_nil h55
        refine En_iNe _ rfl rfl (fun h58 => ?_) (fun hx => by exfalso; (first | exact q_d43525113b h38.2.2.1 h40 h38.1 h56.2.2.2 hx | omega))
        try have h59 := Imp_m h2 (by (first | exact q_4c9c2433b9 h1 hl_k h56.2.2.1 h58 h56.1 | omega))
        try have h60 := Imp_m h3 (by (first | exact q_b7b67c4329 h1 hl_k h56.2.2.1 h58 h56.1 h59 h32 | omega))
        refine En_Ps 1 (pc' := 57) (lv' := [(0, .ref 159), (1, .int a), (2, .int b)]) (st' := [.ref 159]) rfl ?_
        refine En_getK (j := 11) h_u rfl rfl rfl tgz_159 (by decide +kernel) ?_
        refine En_Ps 2 (pc' := 62) (lv' := [(3, .int u), (0, .ref 159), (1, .int a), (2, .int b)]) (st' := [.ref 159]) rfl ?_
        refine En_callV rfl rfl rfl rfl rfl rfl rfl rfl tgz_159 (by decide +kernel) rfl (c_189x σ0 hσ0 f h_f hM.1 (ML_at hM (by (first | exact q_4c9c2433b9 h1 hl_k h56.2.2.1 h58 h56.1 | omega)) h_f)) (by decide) (by decide) (fun v62 σ63 h61 => ?_)
        obtain ⟨h64, h65, z67, h68, z69, h70, rfl, h66⟩ := h61
        have h71 := h66.2.2.2.2.2.2.2
        have h72 := Fr_trans hF0 h65 (by decide +kernel)
        obtain ⟨S73, h74⟩ : ∃ q : PS, q = adv By Nb Sp := ⟨_, rfl⟩
        have h75 : ML By Nb σ63 S73 := by rw [h74]; exact (ML_adv hM (by (first | exact q_4c9c2433b9 h1 hl_k h56.2.2.1 h58 h56.1 | omega)) h_f h65 (by decide +kernel) h71.2)
        have h76 := ML_k h75 ((h65 _ _ (inW tgz_159 (by decide +kernel))).trans h_k)
        have h77 : Imp (S73.1 = 0) (tK By Nb S73.2.2.1 = z69.toInt) := ML_t h75 h70
        have h78 : S73.2.2.2 = Sp.2.2.2 := by rw [h74]; exact adv_w
        refine En_Ps 1 (pc' := 66) (lv' := [(3, .int u), (0, .ref 159), (1, .int a), (2, .int b)]) (st' := [.int u]) rfl ?_
        exact En_ret (v := some (Value.int u)) rfl rfl rfl ⟨h64, h72, z67, h68, k, ((h65 _ _ (inW tgz_159 (by decide +kernel))).trans h_k), u, rfl, ⟨by first | exact q_c803b490ef hl_u | omega, by (first | exact q_c9b6d8c351 (i2lI rfl) h48.2.2.1 h50 h48.1 this hu_b | omega), by first | exact q_a555021d16 h66.1 | omega, by first | exact q_76190b61a3 h66.2.1 | omega, by first | exact q_d22b102a8e h66.2.2.1 | omega, by first | exact q_c803b490ef hl_k | omega, by first | exact q_e9a8eec0c4 hu_k | omega, by first | exact q_857069189f | omega, by first | exact q_01811cb1b4 hl_k h32 | omega, by (first | exact q_86e68808e5 (i2lI rfl) hl_k h48.2.2.1 h50 h48.1 this hu_b | omega), by first | exact q_83f4b1e050 h66.2.2.1 | omega, fun hh => by first | exact q_51b79a98f4 hh hl_u | omega, fun hh => by first | exact q_c803b490ef hl_u | omega, fun _ => by (first | exact q_85d78e3eb1 this (i2lI rfl) h48.2.2.1 h50 h48.1 | omega), fun _ => by omega, fun _ => by (first | exact q_c57f66056c h56.2.2.1 h58 h56.1 (i2lI rfl) (i2lI rfl) h48.2.2.1 h50 h48.1 h32 this | omega), (by (try have i0 := Imp_m h77 (by (first | exact q_4c9c2433b9 h76 hl_k h56.2.2.1 h58 h56.1 | omega))); (try have i1 := Imp_m h2 (by (first | exact q_4c9c2433b9 h1 hl_k h56.2.2.1 h58 h56.1 | omega))); (try have i2 := Imp_m h3 (by (first | exact q_b7b67c4329 h1 hl_k h56.2.2.1 h58 h56.1 i1 h32 | omega))); (try have i3 := Imp_m h66.2.2.2.2.2.2.1 (by omega)); first | (have q := tN_bad (B := By) (n := Nb) (lo := a.toInt) (hi := b.toInt) (S := Sp) (by omega); rw [q]; exact ⟨ML_eq h75 (by subst h74; rfl), fun zz => by omega⟩) | (have q := tN_k (B := By) (n := Nb) (lo := a.toInt) (hi := b.toInt) (S := Sp) (by (first | exact q_4c9c2433b9 h1 hl_k h56.2.2.1 h58 h56.1 | omega)) (by omega); rw [q]; exact ⟨ML_eq h75 (by subst h74; rfl), fun zz => by omega⟩) | (have q := tN_v (B := By) (n := Nb) (lo := a.toInt) (hi := b.toInt) (S := Sp) (by (first | exact q_4c9c2433b9 h1 hl_k h56.2.2.1 h58 h56.1 | omega)) (by (first | exact q_4ac8dceef2 i1 h32 | omega)) (by omega); rw [q]; exact ⟨ML_eq h75 (by subst h74; rfl), fun zz => by omega⟩) | (have q := tN_ok (B := By) (n := Nb) (lo := a.toInt) (hi := b.toInt) (S := Sp) (by (first | exact q_4ac8dceef2 i1 h32 | omega)) (by omega) (by omega); rw [q]; exact ⟨ML_eq h75 (by subst h74; rfl), fun zz => by omega⟩))⟩⟩
      · refine En_Ps 2 (pc' := 44) (lv' := [(0, .ref 159), (1, .int a), (2, .int b)]) (st' := [.int ((Int32.ofInt 2)), .ref 159]) rfl ?_
        have := (by decide : ((Int32.ofInt 2)).toInt = 2)
        refine En_callV rfl rfl rfl rfl rfl rfl rfl rfl tgz_159 (by decide +kernel) rfl (c_223x σ0 hσ0 ((Int32.ofInt 2)) (geI (by decide : (Int32.ofInt 2).toInt = 2) (by decide)) (leI (by decide : (Int32.ofInt 2).toInt = 2) (by decide)) k h_k hM) (by decide) (by decide) (fun v80 σ81 h79 => ?_)
        obtain ⟨h82, h83, z85, h86, rfl, h84⟩ := h79
        have h87 := h84.2.2.2.2
        have h88 := Fr_trans hF0 h83 (by decide +kernel)
        obtain ⟨S89, h90⟩ : ∃ q : PS, q = err By Nb 2 Sp := ⟨_, rfl⟩
        have h91 : ML By Nb σ81 S89 := by rw [h90]; exact (ML_eq h87 (err_cg (by (first | exact q_bef0c64981 this | omega))))
        have h92 := ML_k h91 h86
        have h93 : Imp (S89.1 = 0) (tK By Nb S89.2.2.1 = t.toInt) := ML_t h91 ((h83 _ _ (inW tgz_159 (by decide +kernel))).trans h_t)
        have h94 : Imp (S89.1 = 0 ∧ tK By Nb S89.2.2.1 = 2) (u.toInt = min 99999 (tV By Nb S89.2.2.1) ∧ 0 ≤ tV By Nb S89.2.2.1) := fun q => ML_u h91 ((h83 _ _ (inW tgz_159 (by decide +kernel))).trans h_u) q.1 q.2
        have h95 : S89.2.2.2 = Sp.2.2.2 := by rw [h90]; exact err_w
        refine En_Ps 1 (pc' := 48) (lv' := [(0, .ref 159), (1, .int a), (2, .int b)]) (st' := [.ref 159]) rfl ?_
        refine En_callV rfl rfl rfl rfl rfl rfl rfl rfl tgz_159 (by decide +kernel) rfl (c_237 σ81 h82 z85 h86) (by decide) (by decide) (fun v97 σ98 h96 => ?_)
        obtain ⟨h99, h100, z102, rfl, h101⟩ := h96
        obtain rfl : σ81 = σ98 := Fr_nil h100
        refine En_iNe _ rfl rfl (fun hx => by exfalso; (first | exact q_ee856db709 h101.2.2.1 hx h101.1 h84.1 | omega)) (fun h103 => ?_)
        refine En_Ps 1 (pc' := 55) (lv' := [(0, .ref 159), (1, .int a), (2, .int b)]) (st' := [.int ((Int32.ofInt 0))]) rfl ?_
        refine En_top (by decide : (Int32.ofInt 0).toInt = 0) (fun z104 h105 => ?_)
        exact En_ret (v := some (Value.int z104)) rfl rfl rfl ⟨h82, h88, f, ((h83 _ _ (inW tgz_159 (by decide +kernel))).trans h_f), z85, h86, z104, rfl, ⟨by first | exact q_097a37c2ae h105 | omega, by first | exact q_82b7ab915f h105 | omega, by first | exact q_c803b490ef hl_f | omega, by first | exact q_5a08281576 hu_f | omega, by first | exact q_857069189f | omega, by first | exact q_1a6ee862c1 h84.1 | omega, by first | exact q_c733b715bf h84.2.1 | omega, by first | exact q_d22b102a8e h84.2.2.1 | omega, by first | exact q_227ed01057 h32 h84.1 | omega, by first | exact q_38eff6f445 hu_u h84.1 | omega, by first | exact q_1bb76abeaf | omega, fun hh => by first | exact q_b2041001a2 hh h105 | omega, fun hh => by first | exact q_097a37c2ae h105 | omega, fun hh => by first | exact q_0d5ac7281a hh h105 | omega, fun hh => by first | exact q_c5d285f1b9 h105 | omega, fun _ => by omega, (by (try have i0 := Imp_m h93 (by omega)); (try have i1 := Imp_m h2 (by (first | exact q_4c9c2433b9 h1 hl_k h38.2.2.1 h40 h38.1 | omega))); (try have i2 := Imp_m h3 (by (first | exact q_b7b67c4329 h1 hl_k h38.2.2.1 h40 h38.1 i1 h32 | omega))); (try have i3 := Imp_m h94 (by omega)); first | (have q := tN_bad (B := By) (n := Nb) (lo := a.toInt) (hi := b.toInt) (S := Sp) (by omega); rw [q]; exact ⟨ML_eq h91 (by subst h90; rfl), fun zz => by have := err_ne (B := By) (n := Nb) (S := Sp) (k := 1) (by omega); have := err_ne (B := By) (n := Nb) (S := Sp) (k := 2) (by omega); exfalso; omega⟩) | (have q := tN_k (B := By) (n := Nb) (lo := a.toInt) (hi := b.toInt) (S := Sp) (by (first | exact q_4c9c2433b9 h1 hl_k h38.2.2.1 h40 h38.1 | omega)) (by omega); rw [q]; exact ⟨ML_eq h91 (by subst h90; rfl), fun zz => by have := err_ne (B := By) (n := Nb) (S := Sp) (k := 1) (by omega); have := err_ne (B := By) (n := Nb) (S := Sp) (k := 2) (by omega); exfalso; omega⟩) | (have q := tN_v (B := By) (n := Nb) (lo := a.toInt) (hi := b.toInt) (S := Sp) (by (first | exact q_4c9c2433b9 h1 hl_k h38.2.2.1 h40 h38.1 | omega)) (by (first | exact q_4ac8dceef2 i1 h32 | omega)) (by omega); rw [q]; exact ⟨ML_eq h91 (by subst h90; rfl), fun zz => by have := err_ne (B := By) (n := Nb) (S := Sp) (k := 1) (by (first | decide | omega)); have := err_ne (B := By) (n := Nb) (S := Sp) (k := 2) (by (first | decide | omega)); exfalso; (first | exact q_f9c909ba77 this zz | omega)⟩) | (have q := tN_ok (B := By) (n := Nb) (lo := a.toInt) (hi := b.toInt) (S := Sp) (by omega) (by omega) (by omega); rw [q]; exact ⟨ML_eq h91 (by subst h90; rfl), fun zz => by have := err_ne (B := By) (n := Nb) (S := Sp) (k := 1) (by omega); have := err_ne (B := By) (n := Nb) (S := Sp) (k := 2) (by omega); exfalso; omega⟩))⟩⟩
    · refine En_Ps 2 (pc' := 17) (lv' := [(0, .ref 159), (1, .int a), (2, .int b)]) (st' := [.int ((Int32.ofInt 1)), .ref 159]) rfl ?_
      have := (by decide : ((Int32.ofInt 1)).toInt = 1)
      refine En_callV rfl rfl rfl rfl rfl rfl rfl rfl tgz_159 (by decide +kernel) rfl (c_223x σ0 hσ0 ((Int32.ofInt 1)) (geI (by decide : (Int32.ofInt 1).toInt = 1) (by decide)) (leI (by decide : (Int32.ofInt 1).toInt = 1) (by decide)) k h_k hM) (by decide) (by decide) (fun v107 σ108 h106 => ?_)
      obtain ⟨h109, h110, z112, h113, rfl, h111⟩ := h106
      have h114 := h111.2.2.2.2
      have h115 := Fr_trans hF0 h110 (by decide +kernel)
      obtain ⟨S116, h117⟩ : ∃ q : PS, q = err By Nb 1 Sp := ⟨_, rfl⟩
      have h118 : ML By Nb σ108 S116 := by rw [h117]; exact (ML_eq h114 (err_cg (by (first | exact q_0bfa10f27c this | omega))))
      have h119 := ML_k h118 h113
      have h120 : Imp (S116.1 = 0) (tK By Nb S116.2.2.1 = t.toInt) := ML_t h118 ((h110 _ _ (inW tgz_159 (by decide +kernel))).trans h_t)
      have h121 : Imp (S116.1 = 0 ∧ tK By Nb S116.2.2.1 = 2) (u.toInt = min 99999 (tV By Nb S116.2.2.1) ∧ 0 ≤ tV By Nb S116.2.2.1) := fun q => ML_u h118 ((h110 _ _ (inW tgz_159 (by decide +kernel))).trans h_u) q.1 q.2
      have h122 : S116.2.2.2 = Sp.2.2.2 := by rw [h117]; exact err_w
      refine En_Ps 1 (pc' := 21) (lv' := [(0, .ref 159), (1, .int a), (2, .int b)]) (st' := [.ref 159]) rfl ?_
      refine En_callV rfl rfl rfl rfl rfl rfl rfl rfl tgz_159 (by decide +kernel) rfl (c_237 σ108 h109 z112 h113) (by decide) (by decide) (fun v124 σ125 h123 => ?_)
      obtain ⟨h126, h127, z129, rfl, h128⟩ := h123
      obtain rfl : σ108 = σ125 := Fr_nil h127
      refine En_iEq _ rfl rfl (fun h130 => ?_) (fun hx => by exfalso; (first | exact q_ee856db709 h128.2.2.1 hx h128.1 h111.1 | omega))
      refine En_Ps 1 (pc' := 48) (lv' := [(0, .ref 159), (1, .int a), (2, .int b)]) (st' := [.ref 159]) rfl ?_
      refine En_callV rfl rfl rfl rfl rfl rfl rfl rfl tgz_159 (by decide +kernel) rfl (c_237 σ108 h109 z112 h113) (by decide) (by decide) (fun v132 σ133 h131 => ?_)
      obtain ⟨h134, h135, z137, rfl, h136⟩ := h131
      obtain rfl : σ108 = σ133 := Fr_nil h135
      refine En_iNe _ rfl rfl (fun hx => by exfalso; (first | exact q_ee856db709 h136.2.2.1 hx h136.1 h111.1 | omega)) (fun h138 => ?_)
      refine En_Ps 1 (pc' := 55) (lv' := [(0, .ref 159), (1, .int a), (2, .int b)]) (st' := [.int ((Int32.ofInt 0))]) rfl ?_
      refine En_top (by decide : (Int32.ofInt 0).toInt = 0) (fun z139 h140 => ?_)
      exact En_ret (v := some (Value.int z139)) rfl rfl rfl ⟨h109, h115, f, ((h110 _ _ (inW tgz_159 (by decide +kernel))).trans h_f), z112, h113, z139, rfl, ⟨by first | exact q_097a37c2ae h140 | omega, by first | exact q_82b7ab915f h140 | omega, by first | exact q_c803b490ef hl_f | omega, by first | exact q_5a08281576 hu_f | omega, by first | exact q_857069189f | omega, by first | exact q_1a6ee862c1 h111.1 | omega, by first | exact q_c733b715bf h111.2.1 | omega, by first | exact q_d22b102a8e h111.2.2.1 | omega, by first | exact q_33ca4f7bc6 hu_t h111.1 | omega, by first | exact q_38eff6f445 hu_u h111.1 | omega, by first | exact q_1bb76abeaf | omega, fun hh => by first | exact q_b2041001a2 hh h140 | omega, fun hh => by first | exact q_097a37c2ae h140 | omega, fun hh => by first | exact q_0d5ac7281a hh h140 | omega, fun hh => by first | exact q_c5d285f1b9 h140 | omega, fun _ => by omega, (by (try have i0 := Imp_m h120 (by omega)); (try have i1 := Imp_m h2 (by (first | exact q_4c9c2433b9 h1 hl_k h9.2.2.1 h11 h9.1 | omega))); (try have i2 := Imp_m h3 (by omega)); (try have i3 := Imp_m h121 (by omega)); first | (have q := tN_bad (B := By) (n := Nb) (lo := a.toInt) (hi := b.toInt) (S := Sp) (by omega); rw [q]; exact ⟨ML_eq h118 (by subst h117; rfl), fun zz => by have := err_ne (B := By) (n := Nb) (S := Sp) (k := 1) (by omega); have := err_ne (B := By) (n := Nb) (S := Sp) (k := 2) (by omega); exfalso; omega⟩) | (have q := tN_k (B := By) (n := Nb) (lo := a.toInt) (hi := b.toInt) (S := Sp) (by (first | exact q_4c9c2433b9 h1 hl_k h9.2.2.1 h11 h9.1 | omega)) (by (first | exact q_b9ac7352ba h32 i1 | omega)); rw [q]; exact ⟨ML_eq h118 (by subst h117; rfl), fun zz => by have := err_ne (B := By) (n := Nb) (S := Sp) (k := 1) (by (first | decide | omega)); have := err_ne (B := By) (n := Nb) (S := Sp) (k := 2) (by (first | decide | omega)); exfalso; omega⟩) | (have q := tN_v (B := By) (n := Nb) (lo := a.toInt) (hi := b.toInt) (S := Sp) (by omega) (by omega) (by omega); rw [q]; exact ⟨ML_eq h118 (by subst h117; rfl), fun zz => by have := err_ne (B := By) (n := Nb) (S := Sp) (k := 1) (by omega); have := err_ne (B := By) (n := Nb) (S := Sp) (k := 2) (by omega); exfalso; omega⟩) | (have q := tN_ok (B := By) (n := Nb) (lo := a.toInt) (hi := b.toInt) (S := Sp) (by omega) (by omega) (by omega); rw [q]; exact ⟨ML_eq h118 (by subst h117; rfl), fun zz => by have := err_ne (B := By) (n := Nb) (S := Sp) (k := 1) (by omega); have := err_ne (B := By) (n := Nb) (S := Sp) (k := 2) (by omega); exfalso; omega⟩))⟩⟩
/-- DoorSchoolModel.freshKnock()I -/
abbrev P_234x (σ0 : SG) (By : Int → Int) (Nb : Int) (Sp : PS) (f : Int32) (k : Int32) : PO := fun v σ => WT σ ∧ Fr [(35, 8), (35, 9), (35, 10), (35, 11), (35, 12), (35, 13)] σ0 σ ∧ ∃ f1 : Int32, (σ 159)[8]? = some (Value.int f1) ∧ ∃ k1 : Int32, (σ 159)[12]? = some (Value.int k1) ∧ ∃ ret : Int32, v = some (Value.int ret) ∧ -ret.toInt ≤ 0 ∧ ret.toInt - 15 ≤ 0 ∧ -f1.toInt ≤ 0 ∧ f1.toInt - 1600 ≤ 0 ∧ -f1.toInt + f.toInt ≤ 0 ∧ -k1.toInt ≤ 0 ∧ k1.toInt - 3 ≤ 0 ∧ -k1.toInt + k.toInt ≤ 0 ∧ f.toInt - f1.toInt ≤ 0 ∧ -ret.toInt ≤ 0 ∧ ret.toInt - 15 ≤ 0 ∧ Imp (k1.toInt ≤ 0) (k.toInt ≤ 0) ∧ (ML By Nb σ (tN By Nb 0 (pI (Sp.2.2.2 0) - 1) Sp) ∧ ((tN By Nb 0 (pI (Sp.2.2.2 0) - 1) Sp).1 = 0 → ret.toInt = tV By Nb Sp.2.2.1))
set_option maxRecDepth 10000 in
set_option maxHeartbeats 4000000 in
theorem c_234x {By : Int → Int} {Nb : Int} {Sp : PS} (σ0 : SG) (hσ0 : WT σ0) (f : Int32) (h_f : (σ0 159)[8]? = some (Value.int f)) (k : Int32) (h_k : (σ0 159)[12]? = some (Value.int k)) (hM : ML By Nb σ0 Sp) : En 3 69 none mr_234 (P_234x σ0 By Nb Sp f k) 0 [(0, .ref 159)] [] σ0 := by
  obtain ⟨hl_f, hu_f⟩ := WT_int hσ0 (g := 35) (by decide +kernel) (by decide +kernel) (l := 0) (u := 1600) (by decide +kernel) h_f
  obtain ⟨hl_k, hu_k⟩ := WT_int hσ0 (g := 35) (by decide +kernel) (by decide +kernel) (l := 0) (u := 3) (by decide +kernel) h_k
  have hF0 : Fr [(35, 8), (35, 9), (35, 10), (35, 11), (35, 12), (35, 13)] σ0 σ0 := Fr_rfl
  have h1 := ML_k hM h_k
  refine En_Ps 4 (pc' := 4) (lv' := [(0, .ref 159)]) (st' := [.ref 159, .int ((Int32.ofInt 1)), .int ((Int32.ofInt 0)), .ref 159]) rfl ?_
  refine En_getU (j := 14) (u := 165) (g' := 41) (q := 0) rfl rfl rfl tgz_159 (by decide +kernel) hσ0 (by decide +kernel) un_41_165 (fun h2 => ?_)
  refine En_Ps 1 (pc' := 8) (lv' := [(0, .ref 159)]) (st' := [.int ((Int32.ofInt 0)), .ref 165, .int ((Int32.ofInt 1)), .int ((Int32.ofInt 0)), .ref 159]) rfl ?_
  refine En_iald (l := 0) (u := 4) rfl (by decide : (Int32.ofInt 0).toInt = 0) tgz_165 (by decide +kernel) hσ0 (by decide) (lnI (by decide +kernel : LN _ = 226) (by decide)) (by decide +kernel) (fun z5 h4 h6 h7 => ?_)
  refine En_Ps 1 (pc' := 10) (lv' := [(0, .ref 159)]) (st' := [.int ((((Int32.ofInt 1)) <<< (z5 &&& 31))), .int ((Int32.ofInt 0)), .ref 159]) rfl ?_
  refine En_nam (fun z8 h9 => ?_)
  have h10 := shl1_v (y := z5) rfl (by (first | exact q_58e6e51dcc h6 | omega)) (by (first | exact q_c82ed93a8c h7 | omega))
  rw [← h9] at h10
  have h11 := shl1_p (y := z5) 4 rfl (by (first | exact q_58e6e51dcc h6 | omega)) (by (first | exact q_584a054cc0 h7 | omega)) (by decide)
  rw [← h9] at h11
  refine En_Ps 2 (pc' := 12) (lv' := [(0, .ref 159)]) (st' := [.int ((z8 - ((Int32.ofInt 1)))), .int ((Int32.ofInt 0)), .ref 159]) rfl ?_
  refine En_top (subI rfl (by decide : (Int32.ofInt 1).toInt = 1) (by (first | exact q_96dadfce4b h11.1 | omega)) (by omega)) (fun z12 h13 => ?_)
  obtain ⟨z15, h14, h16, h17⟩ := WT_peekI hσ0 tgz_159 (by decide +kernel : FT 35 10 = (0, 0, 4)) (by decide +kernel)
  obtain ⟨z19, h18, h20, h21⟩ := WT_peekI hσ0 tgz_159 (by decide +kernel : FT 35 11 = (0, 0, 99999)) (by decide +kernel)
  have := (by decide : ((Int32.ofInt 0)).toInt = 0)
  refine En_callV rfl rfl rfl rfl rfl rfl rfl rfl tgz_159 (by decide +kernel) rfl (c_288x σ0 hσ0 ((Int32.ofInt 0)) z12 (geI (by decide : (Int32.ofInt 0).toInt = 0) (by decide)) (leI (by decide : (Int32.ofInt 0).toInt = 0) (by decide)) (geI rfl (by (first | exact q_77e76bd6c5 h13 h11.1 | omega))) (leI rfl (by omega)) f h_f k h_k z15 h14 z19 h18 hM) (by decide) (by decide) (fun v23 σ24 h22 => ?_)
  obtain ⟨h25, h26, z28, h29, z30, h31, z32, rfl, h27⟩ := h22
  have h33 := h27.2.2.2.2.2.2.2.2.2.2.2.2.2.2.2.2
  have h34 := Fr_trans hF0 h26 (by decide +kernel)
  have h35 : tN By Nb ((Int32.ofInt 0)).toInt z12.toInt Sp = tN By Nb (0) (z12.toInt) Sp := tN_cg2 (fun zz => by (first | exact q_d2dcd30e56 this | omega)) (fun zz => by (first | exact q_61ddd2b576 | omega))
  obtain ⟨S36, h37⟩ : ∃ q : PS, q = tN By Nb (0) (z12.toInt) Sp := ⟨_, rfl⟩
  have h38 : ML By Nb σ24 S36 := by rw [h37]; exact (ML_eq h33.1 h35)
  have h39 := ML_k h38 h31
  have h40 : Imp (S36.1 = 0) (z32.toInt = tV By Nb Sp.2.2.1) := fun z => h33.2 (by rw [h35, ← h37]; exact z)
  have h41 : Imp (S36.1 = 0) (Sp.1 = 0 ∧ tK By Nb Sp.2.2.1 = 2 ∧ 0 ≤ tV By Nb Sp.2.2.1 ∧ tV By Nb Sp.2.2.1 ≤ z12.toInt) := fun z => tN_gg (by rw [← h37]; exact z)
  have h42 : S36.2.2.2 = Sp.2.2.2 := by rw [h37]; exact tN_w
  have h43 := Imp_m h27.2.2.2.2.2.2.2.2.2.2.2.1 (by (first | exact q_c5d285f1b9 this | omega))
  have h44 := Imp_m h27.2.2.2.2.2.2.2.2.2.2.2.2.1 (by (first | exact q_097a37c2ae this | omega))
  have h45 := Imp_m h27.2.2.2.2.2.2.2.2.2.2.2.2.2.1 (by (first | exact q_a36023f969 h13 h11.1 | omega))
  exact En_ret (v := some (Value.int z32)) rfl rfl rfl ⟨h25, h34, z28, h29, z30, h31, z32, rfl, ⟨by first | exact q_a555021d16 h27.1 | omega, by omega, by first | exact q_a555021d16 h27.2.2.1 | omega, by first | exact q_76190b61a3 h27.2.2.2.1 | omega, by first | exact q_d22b102a8e h27.2.2.2.2.1 | omega, by first | exact q_a555021d16 h27.2.2.2.2.2.1 | omega, by first | exact q_c733b715bf h27.2.2.2.2.2.2.1 | omega, by first | exact q_d22b102a8e h27.2.2.2.2.2.2.2.1 | omega, by first | exact q_83f4b1e050 h27.2.2.2.2.1 | omega, by first | exact q_a555021d16 h27.1 | omega, by omega, fun hh => by first | exact q_f10d4a2089 h27.2.2.2.2.2.2.2.1 hh | omega, (Classical.byCases (fun q : Sp.1 = 0 => by have w := ML_w hM q h4 (by (first | decide | omega)) (by (first | decide | omega)); have e9 : tN By Nb 0 (z12.toInt) Sp = tN By Nb 0 (pI (Sp.2.2.2 0) - 1) Sp := tN_cg rfl (by rw [w]; (first | exact q_436f44c663 h13 h10 | omega)); rw [← e9, ← h37]; exact ⟨h38, fun zz => by (try have i0 := Imp_m h41 (by (first | exact q_d2dcd30e56 zz | omega))); (try have i1 := Imp_m h40 (by (first | exact q_d2dcd30e56 zz | omega))); (try have i2 := Imp_m h27.2.2.2.2.2.2.2.2.2.2.2.2.2.2.1 (by omega)); (try have i3 := Imp_m h27.2.2.2.2.2.2.2.2.2.2.2.2.2.2.2.1 (by (first | exact q_d8d8e6600d h39 zz | omega))); (first | exact q_b1495600e7 i1 | omega)⟩) (fun q : ¬ Sp.1 = 0 => by rw [tN_bad q]; exact ⟨ML_eq h38 (by subst h37; exact tN_bad q), fun zz => absurd zz q⟩))⟩⟩
/-- DoorSchoolModel.hours()I -/
abbrev P_244x (σ0 : SG) : PO := fun v σ => WT σ ∧ Fr [(49, 0), (50, 0)] σ0 σ ∧ ∃ ret : Int32, v = some (Value.int ret) ∧ -ret.toInt - 2 ≤ 0 ∧ ret.toInt - 1000000 ≤ 0 ∧ ret.toInt = hoR (wf σ0)
set_option maxRecDepth 10000 in
set_option maxHeartbeats 4000000 in
theorem c_244x (σ0 : SG) (hσ0 : WT σ0) (hT : TPOS σ0) : En 5 122 none mr_244 (P_244x σ0) 0 [(0, .ref 159)] [] σ0 := by
  have hF0 : Fr [(49, 0), (50, 0)] σ0 σ0 := Fr_rfl
  refine En_Ps 1 (pc' := 1) (lv' := [(0, .ref 159)]) (st' := [.ref 159]) rfl ?_
  obtain ⟨z2, h1, h3, h4⟩ := WT_peekI hσ0 tgz_160 (by decide +kernel : FT 36 (7 : Int).toNat = (0, 0, 1600)) (by decide +kernel)
  refine En_callV rfl rfl rfl rfl rfl rfl rfl rfl tgz_159 (by decide +kernel) rfl (c_264 σ0 hσ0 z2 h1) (by decide) (by decide) (fun v6 σ7 h5 => ?_)
  obtain ⟨h8, h9, z11, rfl, h10⟩ := h5
  obtain rfl : σ0 = σ7 := Fr_nil h9
  have w12 : wf σ0 (7) = z2.toInt := ci_at h1 (by omega)
  refine En_iEq _ rfl rfl (fun h13 => ?_) (fun h13 => ?_)
  · obtain ⟨z15, h14, h16, h17⟩ := WT_peekI hσ0 tgz_160 (by decide +kernel : FT 36 (1 : Int).toNat = (0, 0, 3)) (by decide +kernel)
    have w18 : wf σ0 (1) = z15.toInt := ci_at h14 (by omega)
    refine En_Ps 1 (pc' := 23) (lv' := [(0, .ref 159)]) (st' := [.int (((Int8.ofInt (-2)).toInt32))]) rfl ?_
    refine En_top (by decide : ((Int8.ofInt (-2)).toInt32).toInt = -2) (fun z19 h20 => ?_)
    exact En_ret (v := some (Value.int z19)) rfl rfl rfl ⟨hσ0, hF0, z19, rfl, ⟨by first | exact q_f35c5d346c h20 | omega, by first | exact q_ec7b2e0fd8 h20 | omega, hoR_0 (by omega) (by omega)⟩⟩
  · obtain ⟨z22, h21, h23, h24⟩ := WT_peekI hσ0 tgz_160 (by decide +kernel : FT 36 (1 : Int).toNat = (0, 0, 3)) (by decide +kernel)
    have w25 : wf σ0 (1) = z22.toInt := ci_at h21 (by omega)
    refine En_Ps 3 (pc' := 10) (lv' := [(0, .ref 159)]) (st' := [.ref 159, .int ((Int32.ofInt 0)), .ref 159]) rfl ?_
    refine En_getU (j := 1) (u := 160) (g' := 36) (q := 0) rfl rfl rfl tgz_159 (by decide +kernel) hσ0 (by decide +kernel) un_36_160 (fun h26 => ?_)
    refine En_Ps 1 (pc' := 14) (lv' := [(0, .ref 159)]) (st' := [.int ((Int32.ofInt 1)), .ref 160, .int ((Int32.ofInt 0)), .ref 159]) rfl ?_
    refine En_ialdK h21 rfl (by decide : (Int32.ofInt 1).toInt = 1) tgz_160 (by decide +kernel) hσ0 (by decide) (lnI (by decide +kernel : LN _ = 226) (by decide)) ?_
    have h29 : 1 ≤ z22.toInt := by have e1 := ci_at h21 (rfl : (1 : Int) = 1); have e7 := ci_at h1 (rfl : (7 : Int) = 7); have e := hT (Or.inr (by omega)); omega
    have := (by decide : ((Int32.ofInt 0)).toInt = 0)
    refine En_callV rfl rfl rfl rfl rfl rfl rfl rfl tgz_159 (by decide +kernel) rfl (c_277 σ0 hσ0 ((Int32.ofInt 0)) z22 (geI (by decide : (Int32.ofInt 0).toInt = 0) (by decide)) (leI (by decide : (Int32.ofInt 0).toInt = 0) (by decide)) (geI rfl (by omega)) (leI rfl (by first | exact q_571ae29550 h24 | omega)) (by have := n6 hσ0; omega)) (by decide) (by decide) (fun v31 σ32 h30 => ?_)
    obtain ⟨h33, h34, z36, rfl, h35⟩ := h30
    have h37 := h35.2.2
    have h38 := Fr_trans hF0 h34 (by decide +kernel)
    refine En_Ps 1 (pc' := 23) (lv' := [(0, .ref 159)]) (st' := [.int z36]) rfl ?_
    exact En_ret (v := some (Value.int z36)) rfl rfl rfl ⟨h33, h38, z36, rfl, ⟨by first | exact q_70a249c7f8 h35.1 | omega, by first | exact q_1c284fde89 h35.2.1 | omega, hoR_1 (by omega) (LSW_m h37 (by decide) (by omega) (by omega) hσ0) (by omega)⟩⟩
/-- DoorSchoolModel.image(I)I -/
abbrev P_248x (σ0 : SG) (a : Int32) : PO := fun v σ => WT σ ∧ Fr [(37, 0), (38, 0)] σ0 σ ∧ ∃ ret : Int32, v = some (Value.int ret) ∧ -ret.toInt - 2 ≤ 0 ∧ ret.toInt ≤ 0 ∧ Imp (-a.toInt ≤ 0 ∧ a.toInt - 2 ≤ 0) (ret.toInt ≤ 0 ∧ -ret.toInt ≤ 0) ∧ Imp (a.toInt + 1 ≤ 0) (ret.toInt + 2 ≤ 0 ∧ -ret.toInt - 2 ≤ 0) ∧ Imp (-a.toInt + 3 ≤ 0) (ret.toInt + 2 ≤ 0 ∧ -ret.toInt - 2 ≤ 0) ∧ (WI σ ∧ BSET σ0 σ 162 a.toInt ∧ IMW σ0 σ a.toInt)
set_option maxRecDepth 10000 in
set_option maxHeartbeats 4000000 in
theorem c_248x (σ0 : SG) (hσ0 : WT σ0) (a : Int32) (hI : WI σ0) : En 1 25 none mr_248 (P_248x σ0 a) 0 [(0, .ref 159), (1, .int a)] [] σ0 := by
  have hF0 : Fr [(37, 0), (38, 0)] σ0 σ0 := Fr_rfl
  refine En_Ps 4 (pc' := 6) (lv' := [(0, .ref 159), (1, .int a)]) (st' := [.long ((2 : Int64)), .long ((Int64.ofNat 0)), .long a.toInt64]) rfl ?_
  have : a.toInt64.toInt = a.toInt := (i2lI rfl)
  have := (by decide : ((Int64.ofNat 0)).toInt = 0)
  have := (by decide : ((2 : Int64)).toInt = 2)
  refine En_callS rfl rfl rfl rfl rfl rfl rfl rfl rfl (c_249 σ0 hσ0 a.toInt64 ((Int64.ofNat 0)) ((2 : Int64))) (by decide) (by decide) (fun v2 σ3 h1 => ?_)
  obtain ⟨h4, h5, z7, rfl, h6⟩ := h1
  obtain rfl : σ0 = σ3 := Fr_nil h5
  refine En_iNe _ rfl rfl (fun h8 => ?_) (fun h8 => ?_)
  · refine En_Ps 2 (pc' := 17) (lv' := [(2, .int ((Int32.ofInt 0))), (0, .ref 159), (1, .int a)]) (st' := []) rfl ?_
    have key17 : ∀ (n17 : Nat) (σ10 : SG) (y9 : Int32), WT σ10 → Fr [(37, 0), (38, 0)] σ0 σ10 → 0 ≤ y9.toInt → y9.toInt ≤ 226 → -y9.toInt + 226 < (n17 : Int) → CPI σ0 σ10 a.toInt y9.toInt → SAMr σ0 σ10 162 → En 1 25 none mr_248 (P_248x σ0 a) 17 [(0, .ref 159), (1, .int a), (2, .int y9)] [] σ10 := by
      intro n17
      induction n17 with
      | zero =>
        intro σ10 y9 h11 h12 h13 h14 h15 h16 h17
        first | exact (q_93df7d31ea h15 h14).elim | (exfalso; omega)
      | succ n17 ih17 =>
        intro σ10 y9 h11 h12 h13 h14 h15 h16 h17
        refine En_Ps 2 (pc' := 21) (lv' := [(0, .ref 159), (1, .int a), (2, .int y9)]) (st' := [.int (((Int16.ofInt 226).toInt32)), .int y9]) rfl ?_
        refine En_icGe _ rfl (by decide : ((Int16.ofInt 226).toInt32).toInt = 226) rfl (fun h18 => ?_) (fun h18 => ?_)
        · refine En_Ps 1 (pc' := 49) (lv' := [(0, .ref 159), (1, .int a), (2, .int y9)]) (st' := [.ref 159]) rfl ?_
          refine En_getU (j := 3) (u := 162) (g' := 38) (q := 0) rfl rfl rfl tgz_159 (by decide +kernel) h11 (by decide +kernel) un_38_162 (fun h19 => ?_)
          refine En_Ps 2 (pc' := 54) (lv' := [(0, .ref 159), (1, .int a), (2, .int y9)]) (st' := [.int ((Int32.ofInt 1)), .int a, .ref 162]) rfl ?_
          refine En_bast (l := 0) (u := 1) rfl rfl tgz_162 (by decide +kernel) (narZ (by decide : (Int32.ofInt 1).toInt = 1) (by (first | decide | omega)) (by (first | decide | omega))) (by (first | exact q_bf5288a390 (i2lI rfl) h6.2.2.1 h8 h6.1 (by decide) | omega)) (lnI (by decide +kernel : LN _ = 3) (by (first | exact q_d7cc092bca (i2lI rfl) h6.2.2.1 h8 h6.1 this | omega))) (FTsgl (by decide +kernel)) (rngI (by decide : (Int32.ofInt 1).toInt = 1) (by decide) (by decide)) h11 h12 (by decide +kernel) (fun σ21 h22 h23 h24 h25 => ?_)
          refine En_Ps 1 (pc' := 56) (lv' := [(0, .ref 159), (1, .int a), (2, .int y9)]) (st' := [.int ((Int32.ofInt 0))]) rfl ?_
          refine En_top (by decide : (Int32.ofInt 0).toInt = 0) (fun z26 h27 => ?_)
          exact En_ret (v := some (Value.int z26)) rfl rfl rfl ⟨h22, h23, z26, rfl, ⟨by first | exact q_bef0d034f7 h27 | omega, by first | exact q_c5d285f1b9 h27 | omega, fun hh => by first | exact ⟨q_c5d285f1b9 h27, q_097a37c2ae h27⟩ | omega, fun _ => by omega, fun _ => by omega, ⟨WI_nx h25 (by decide) (by decide) (CPI_x (W := []) h16 (by (first | exact q_1eb83a62a2 h18 | omega)) (SWd_fr h12 (by decide +kernel)) (by (first | exact q_bf5288a390 (i2lI rfl) h6.2.2.1 h8 h6.1 (by decide) | omega)) (by (first | exact q_73000bb27b (i2lI rfl) h6.2.2.1 h8 h6.1 this | omega)) hI), BSET_st h17 h24 h25 (by decide) (by (first | exact q_bf5288a390 (i2lI rfl) h6.2.2.1 h8 h6.1 (by decide) | omega)), IMW_ok h16 (by (first | exact q_383bae8a70 h18 h14 | omega)) (by (first | exact q_bf5288a390 (i2lI rfl) h6.2.2.1 h8 h6.1 (by decide) | omega)) (by (first | exact q_73000bb27b (i2lI rfl) h6.2.2.1 h8 h6.1 this | omega)) (SWd_fr h12 (by decide +kernel)) h25 (by decide)⟩⟩⟩
        · refine En_Ps 1 (pc' := 25) (lv' := [(0, .ref 159), (1, .int a), (2, .int y9)]) (st' := [.ref 159]) rfl ?_
          refine En_getU (j := 2) (u := 161) (g' := 37) (q := 0) rfl rfl rfl tgz_159 (by decide +kernel) h11 (by decide +kernel) un_37_161 (fun h28 => ?_)
          refine En_Ps 3 (pc' := 33) (lv' := [(0, .ref 159), (1, .int a), (2, .int y9)]) (st' := [.int (((((Int16.ofInt 226).toInt32)) * a)), .ref 161]) rfl ?_
          refine En_top (mulI (by decide : ((Int16.ofInt 226).toInt32).toInt = 226) rfl (Z := 226 * a.toInt) (by first | exact q_97a90f3e95 | omega) (by (first | exact q_b7eeb53960 (i2lI rfl) h6.2.2.1 h8 h6.1 (by decide) | omega)) (by (first | exact q_e3d776ae73 (i2lI rfl) h6.2.2.1 h8 h6.1 this | omega))) (fun z30 h31 => ?_)
          refine En_Ps 2 (pc' := 35) (lv' := [(0, .ref 159), (1, .int a), (2, .int y9)]) (st' := [.int ((z30 + y9)), .ref 161]) rfl ?_
          refine En_top (addI rfl rfl (by (first | exact q_ea123480c6 h31 h13 (i2lI rfl) h6.2.2.1 h8 h6.1 (by decide) | omega)) (by (first | exact q_a69aa468bb h31 h18 (i2lI rfl) h6.2.2.1 h8 h6.1 this | omega))) (fun z32 h33 => ?_)
          refine En_Ps 1 (pc' := 36) (lv' := [(0, .ref 159), (1, .int a), (2, .int y9)]) (st' := [.ref 159, .int z32, .ref 161]) rfl ?_
          refine En_getU (j := 1) (u := 160) (g' := 36) (q := 0) rfl rfl rfl tgz_159 (by decide +kernel) h11 (by decide +kernel) un_36_160 (fun h34 => ?_)
          refine En_Ps 1 (pc' := 40) (lv' := [(0, .ref 159), (1, .int a), (2, .int y9)]) (st' := [.int y9, .ref 160, .int z32, .ref 161]) rfl ?_
          refine En_ialdW (n := 226) rfl rfl tgz_160 (by decide +kernel) h11 (by (first | exact q_58e6e51dcc h13 | omega)) (by decide +kernel) (by (first | exact q_f7a270291b h18 | omega)) aw_36 (fun z36 h37 h38 => ?_)
          refine En_iastW (n := 678) rfl rfl tgz_161 (by decide +kernel) (by (first | exact q_69dfb84a85 h33 h31 h13 (i2lI rfl) h6.2.2.1 h8 h6.1 (by decide) | omega)) (by decide +kernel) (by (first | exact q_e8169a5768 h33 h31 h18 (i2lI rfl) h6.2.2.1 h8 h6.1 this | omega)) (ft_wi h38 (by (first | exact q_58e6e51dcc h13 | omega)) (by (first | exact q_01af86e644 h18 | omega)) (k := a.toInt) (by (first | exact q_bf5288a390 (i2lI rfl) h6.2.2.1 h8 h6.1 (by decide) | omega)) (by (first | exact q_d52851690a (i2lI rfl) h6.2.2.1 h8 h6.1 this | omega)) (by (first | exact q_442fa06b92 h33 h31 | omega))) h11 h12 (by decide +kernel) (fun σ39 h40 h41 h42 h43 => ?_)
          refine En_Ps 1 (pc' := 45) (lv' := [(2, .int ((y9 + Int32.ofInt 1))), (0, .ref 159), (1, .int a)]) (st' := []) rfl ?_
          refine En_lv1 (addI rfl (by decide : (Int32.ofInt 1).toInt = 1) (by first | exact q_465ab79ac1 h13 | omega) (by first | exact q_00ca1b1d9b h18 | omega)) (fun z44 h45 => ?_)
          refine En_Ps 1 (pc' := 17) (lv' := [(2, .int z44), (0, .ref 159), (1, .int a)]) (st' := []) rfl ?_
          refine En_lv (lv := [(0, .ref 159), (1, .int a), (2, .int z44)]) ⟨rfl, rfl, rfl, trivial⟩ ?_
          exact ih17 σ39 z44 h40 h41 (by first | exact q_35104ce9d3 h45 h13 | omega) (by first | exact q_5bd245720d h45 h18 | omega) (by first | exact q_6929b92474 h45 h15 | omega) (CPI_s h16 (SWd_fr h12 (by decide +kernel)) h37 h42 h43 (by (first | exact q_442fa06b92 h33 h31 | omega)) (by (first | exact q_bf5288a390 (i2lI rfl) h6.2.2.1 h8 h6.1 (by decide) | omega)) (by (first | exact q_58e6e51dcc h13 | omega)) (by (first | exact q_01af86e644 h18 | omega)) (by (first | exact q_ba1b2c713b h45 | omega))) (SAMr_st h17 h43 (by decide))
    have := (by decide : (Int32.ofInt 0).toInt = 0)
    refine En_lv (lv := [(0, .ref 159), (1, .int a), (2, .int ((Int32.ofInt 0)))]) ⟨rfl, rfl, rfl, trivial⟩ ?_
    exact key17 (Int.toNat (226) + 1) σ0 ((Int32.ofInt 0)) hσ0 hF0 (by decide) (by decide) (by first | exact toN_lt _ | omega) (CPI_0 (by decide)) (SAMr_0)
  · refine En_Ps 1 (pc' := 14) (lv' := [(0, .ref 159), (1, .int a)]) (st' := [.int (((Int8.ofInt (-2)).toInt32))]) rfl ?_
    refine En_top (by decide : ((Int8.ofInt (-2)).toInt32).toInt = -2) (fun z46 h47 => ?_)
    exact En_ret (v := some (Value.int z46)) rfl rfl rfl ⟨hσ0, hF0, z46, rfl, ⟨by first | exact q_f35c5d346c h47 | omega, by first | exact q_bbb39ffa1e h47 | omega, fun _ => by omega, fun hh => by first | exact ⟨q_535bc65891 h47, q_f35c5d346c h47⟩ | omega, fun hh => by first | exact ⟨q_535bc65891 h47, q_f35c5d346c h47⟩ | omega, ⟨hI, BSET_no SAMr_0 (by (first | exact q_f8900e1be4 (by decide) (i2lI rfl) h6.2.2.2 h8 this | omega)), IMW_no (by (first | exact q_f8900e1be4 (by decide) (i2lI rfl) h6.2.2.2 h8 this | omega))⟩⟩⟩
/-- DoorSchoolModel.isFreshCopied(I)Z -/
abbrev P_257x (σ0 : SG) (a : Int32) : PO := fun v σ => WT σ ∧ Fr [] σ0 σ ∧ ∃ ret : Int32, v = some (Value.int ret) ∧ -ret.toInt ≤ 0 ∧ ret.toInt - 1 ≤ 0 ∧ Imp (ret.toInt - 1 ≤ 0 ∧ -ret.toInt + 1 ≤ 0) (-a.toInt - 1 ≤ 0 ∧ a.toInt - 3 ≤ 0) ∧ ret.toInt = cpI (ci σ0 165) a.toInt
set_option maxRecDepth 10000 in
set_option maxHeartbeats 4000000 in
theorem c_257x (σ0 : SG) (hσ0 : WT σ0) (a : Int32) : En 0 0 none mr_257 (P_257x σ0 a) 0 [(0, .ref 159), (1, .int a)] [] σ0 := by
  have hF0 : Fr [] σ0 σ0 := Fr_rfl
  refine En_Ps 2 (pc' := 2) (lv' := [(2, .int ((Int32.ofInt 0))), (0, .ref 159), (1, .int a)]) (st' := []) rfl ?_
  have key2 : ∀ (n2 : Nat) (y1 : Int32), 0 ≤ y1.toInt → y1.toInt ≤ 4 → -y1.toInt + 4 < (n2 : Int) → NCP σ0 a.toInt y1.toInt → En 0 0 none mr_257 (P_257x σ0 a) 2 [(0, .ref 159), (1, .int a), (2, .int y1)] [] σ0 := by
    intro n2
    induction n2 with
    | zero =>
      intro y1 h5 h6 h7 h8
      first | exact (q_20d6385c6f h7 h6).elim | (exfalso; omega)
    | succ n2 ih2 =>
      intro y1 h5 h6 h7 h8
      refine En_Ps 2 (pc' := 4) (lv' := [(0, .ref 159), (1, .int a), (2, .int y1)]) (st' := [.ref 159, .int y1]) rfl ?_
      refine En_getU (j := 14) (u := 165) (g' := 41) (q := 0) rfl rfl rfl tgz_159 (by decide +kernel) hσ0 (by decide +kernel) un_41_165 (fun h9 => ?_)
      refine En_Ps 1 (pc' := 8) (lv' := [(0, .ref 159), (1, .int a), (2, .int y1)]) (st' := [.int ((Int32.ofInt 2)), .ref 165, .int y1]) rfl ?_
      refine En_iald (l := 0) (u := 4) rfl (by decide : (Int32.ofInt 2).toInt = 2) tgz_165 (by decide +kernel) hσ0 (by decide) (lnI (by decide +kernel : LN _ = 226) (by decide)) (by decide +kernel) (fun z12 h11 h13 h14 => ?_)
      refine En_icGe _ rfl rfl rfl (fun h15 => ?_) (fun h15 => ?_)
      · refine En_Ps 1 (pc' := 38) (lv' := [(0, .ref 159), (1, .int a), (2, .int y1)]) (st' := [.int ((Int32.ofInt 0))]) rfl ?_
        refine En_top (by decide : (Int32.ofInt 0).toInt = 0) (fun z16 h17 => ?_)
        exact En_ret (v := some (Value.int z16)) rfl rfl (retZ rfl rfl (by first | exact q_55451d0a83 h17 | omega) (by first | exact q_87849c3859 h17 | omega)) ⟨hσ0, hF0, z16, rfl, ⟨by first | exact q_097a37c2ae h17 | omega, by first | exact q_e269517bee h17 | omega, fun _ => by omega, CPI_n h11 h8 (by (first | exact q_7b14c78c18 h15 | omega)) (by (first | exact q_c82ed93a8c h14 | omega)) (by (first | exact q_d2dcd30e56 h17 | omega))⟩⟩
      · refine En_Ps 1 (pc' := 13) (lv' := [(0, .ref 159), (1, .int a), (2, .int y1)]) (st' := [.ref 159]) rfl ?_
        refine En_getK (j := 14) h9 rfl rfl rfl tgz_159 (by decide +kernel) ?_
        refine En_Ps 4 (pc' := 21) (lv' := [(0, .ref 159), (1, .int a), (2, .int y1)]) (st' := [.int ((((Int32.ofInt 4)) * y1)), .int (((Int8.ofInt 10).toInt32)), .ref 165]) rfl ?_
        refine En_top (mulI (by decide : (Int32.ofInt 4).toInt = 4) rfl (Z := 4 * y1.toInt) (by first | exact q_8696eb12a7 | omega) (by first | exact q_be45967ac2 h5 | omega) (by first | exact q_9034d5bea5 h15 h14 | omega)) (fun z18 h19 => ?_)
        refine En_Ps 1 (pc' := 22) (lv' := [(0, .ref 159), (1, .int a), (2, .int y1)]) (st' := [.int (((((Int8.ofInt 10).toInt32)) + z18)), .ref 165]) rfl ?_
        refine En_top (addI (by decide : ((Int8.ofInt 10).toInt32).toInt = 10) rfl (by first | exact q_7bfa00123f h19 h5 | omega) (by first | exact q_2a9137be5b h19 h15 h14 | omega)) (fun z20 h21 => ?_)
        refine En_Ps 2 (pc' := 24) (lv' := [(0, .ref 159), (1, .int a), (2, .int y1)]) (st' := [.int ((z20 + ((Int32.ofInt 3)))), .ref 165]) rfl ?_
        refine En_top (addI rfl (by decide : (Int32.ofInt 3).toInt = 3) (by first | exact q_5241e58928 h21 h19 h5 | omega) (by first | exact q_bca5aab8b6 h21 h19 h15 h14 | omega)) (fun z22 h23 => ?_)
        refine En_iald (l := (-1)) (u := 3) rfl rfl tgz_165 (by decide +kernel) hσ0 (by first | exact q_9dbe57618d h23 h21 h19 h5 | omega) (lnI (by decide +kernel : LN _ = 226) (by first | exact q_ee2e4d9aa5 h23 h21 h19 h15 h14 | omega)) (FTrow 41 13 4 4 (by decide +kernel) (by first | exact q_070b248188 h23 h21 h19 h5 | omega) (by first | exact q_ba7242fd91 h23 h21 h19 h15 h14 | omega) (by first | exact q_090c32d68c h19 h21 h23 | omega)) (fun z25 h24 h26 h27 => ?_)
        refine En_Ps 1 (pc' := 26) (lv' := [(0, .ref 159), (1, .int a), (2, .int y1)]) (st' := [.int a, .int z25]) rfl ?_
        refine En_icNe _ rfl rfl rfl (fun h28 => ?_) (fun h28 => ?_)
        · refine En_Ps 1 (pc' := 34) (lv' := [(2, .int ((y1 + Int32.ofInt 1))), (0, .ref 159), (1, .int a)]) (st' := []) rfl ?_
          refine En_lv1 (addI rfl (by decide : (Int32.ofInt 1).toInt = 1) (by first | exact q_465ab79ac1 h5 | omega) (by first | exact q_f7282962fd h6 | omega)) (fun z29 h30 => ?_)
          refine En_Ps 1 (pc' := 2) (lv' := [(2, .int z29), (0, .ref 159), (1, .int a)]) (st' := []) rfl ?_
          refine En_lv (lv := [(0, .ref 159), (1, .int a), (2, .int z29)]) ⟨rfl, rfl, rfl, trivial⟩ ?_
          exact ih2 z29 (by first | exact q_35104ce9d3 h30 h5 | omega) (by first | exact q_de42116b63 h30 h15 h14 | omega) (by first | exact q_3d8d70ace2 h30 h7 | omega) (NCP_s h8 h24 (by (first | exact q_297f473975 h23 h21 h19 | omega)) (by (first | exact q_f3cb68eaf4 h28 | omega)) (by (first | exact q_ba1b2c713b h30 | omega)))
        · refine En_Ps 1 (pc' := 30) (lv' := [(0, .ref 159), (1, .int a), (2, .int y1)]) (st' := [.int ((Int32.ofInt 1))]) rfl ?_
          refine En_top (by decide : (Int32.ofInt 1).toInt = 1) (fun z31 h32 => ?_)
          exact En_ret (v := some (Value.int z31)) rfl rfl (retZ rfl rfl (by first | exact q_2b07c97645 h32 | omega) (by first | exact q_d9e7cbb253 h32 | omega)) ⟨hσ0, hF0, z31, rfl, ⟨by first | exact q_ad3eee31ca h32 | omega, by first | exact q_81cf297dc4 h32 | omega, fun hh => by first | exact ⟨q_0989a0d07f h28 h26, q_c3d83eb9e6 h28 h27⟩ | omega, CPI_1 (y := y1.toInt) h11 h24 (by (first | exact q_297f473975 h23 h21 h19 | omega)) (by (first | exact q_58e6e51dcc h5 | omega)) (by (first | exact q_114b7bcb5b h15 | omega)) (by (first | exact q_c82ed93a8c h14 | omega)) (by (first | exact q_b1495600e7 h28 | omega)) (by (first | exact q_0bfa10f27c h32 | omega))⟩⟩
  have := (by decide : (Int32.ofInt 0).toInt = 0)
  refine En_lv (lv := [(0, .ref 159), (1, .int a), (2, .int ((Int32.ofInt 0)))]) ⟨rfl, rfl, rfl, trivial⟩ ?_
  exact key2 (Int.toNat (4) + 1) ((Int32.ofInt 0)) (by decide) (by decide) (by first | exact toN_lt _ | omega) (fun q q0 q1 => by (first | exact q_4a3c5b87cf q1 q0 this | omega))
/-- DoorSchoolModel.isNextIn(I)Z -/
abbrev P_260x (σ0 : SG) (a : Int32) (k : Int32) (t : Int32) (u : Int32) : PO := fun v σ => WT σ ∧ Fr [] σ0 σ ∧ ∃ ret : Int32, v = some (Value.int ret) ∧ -ret.toInt ≤ 0 ∧ ret.toInt - 1 ≤ 0 ∧ Imp (-ret.toInt + 1 ≤ 0) (k.toInt ≤ 0 ∧ t.toInt - 2 ≤ 0 ∧ -t.toInt + 2 ≤ 0 ∧ u.toInt - a.toInt + 1 ≤ 0) ∧ Imp (ret.toInt ≤ 0 ∧ k.toInt ≤ 0 ∧ t.toInt - 2 ≤ 0 ∧ -t.toInt + 2 ≤ 0) (a.toInt - u.toInt ≤ 0)
set_option maxRecDepth 10000 in
set_option maxHeartbeats 4000000 in
theorem c_260x (σ0 : SG) (hσ0 : WT σ0) (a : Int32) (k : Int32) (h_k : (σ0 159)[12]? = some (Value.int k)) (t : Int32) (h_t : (σ0 159)[10]? = some (Value.int t)) (u : Int32) (h_u : (σ0 159)[11]? = some (Value.int u)) : En 1 20 none mr_260 (P_260x σ0 a k t u) 0 [(0, .ref 159), (1, .int a)] [] σ0 := by
  obtain ⟨hl_k, hu_k⟩ := WT_int hσ0 (g := 35) (by decide +kernel) (by decide +kernel) (l := 0) (u := 3) (by decide +kernel) h_k
  obtain ⟨hl_t, hu_t⟩ := WT_int hσ0 (g := 35) (by decide +kernel) (by decide +kernel) (l := 0) (u := 4) (by decide +kernel) h_t
  obtain ⟨hl_u, hu_u⟩ := WT_int hσ0 (g := 35) (by decide +kernel) (by decide +kernel) (l := 0) (u := 99999) (by decide +kernel) h_u
  have hF0 : Fr [] σ0 σ0 := Fr_rfl
  refine En_Ps 1 (pc' := 1) (lv' := [(0, .ref 159), (1, .int a)]) (st' := [.ref 159]) rfl ?_
  refine En_callV rfl rfl rfl rfl rfl rfl rfl rfl tgz_159 (by decide +kernel) rfl (c_237 σ0 hσ0 k h_k) (by decide) (by decide) (fun v2 σ3 h1 => ?_)
  obtain ⟨h4, h5, z7, rfl, h6⟩ := h1
  obtain rfl : σ0 = σ3 := Fr_nil h5
  refine En_iEq _ rfl rfl (fun h8 => ?_) (fun h8 => ?_)
  · refine En_Ps 1 (pc' := 28) (lv' := [(0, .ref 159), (1, .int a)]) (st' := [.int ((Int32.ofInt 0))]) rfl ?_
    refine En_top (by decide : (Int32.ofInt 0).toInt = 0) (fun z9 h10 => ?_)
    exact En_ret (v := some (Value.int z9)) rfl rfl (retZ rfl rfl (by first | exact q_55451d0a83 h10 | omega) (by first | exact q_87849c3859 h10 | omega)) ⟨hσ0, hF0, z9, rfl, ⟨by first | exact q_097a37c2ae h10 | omega, by first | exact q_e269517bee h10 | omega, fun _ => by omega, fun _ => by omega⟩⟩
  · refine En_Ps 1 (pc' := 8) (lv' := [(0, .ref 159), (1, .int a)]) (st' := [.ref 159]) rfl ?_
    refine En_getK (j := 10) h_t rfl rfl rfl tgz_159 (by decide +kernel) ?_
    refine En_Ps 1 (pc' := 12) (lv' := [(0, .ref 159), (1, .int a)]) (st' := [.int ((Int32.ofInt 2)), .int t]) rfl ?_
    refine En_icNe _ rfl (by decide : (Int32.ofInt 2).toInt = 2) rfl (fun h11 => ?_) (fun h11 => ?_)
    · refine En_Ps 1 (pc' := 28) (lv' := [(0, .ref 159), (1, .int a)]) (st' := [.int ((Int32.ofInt 0))]) rfl ?_
      refine En_top (by decide : (Int32.ofInt 0).toInt = 0) (fun z12 h13 => ?_)
      exact En_ret (v := some (Value.int z12)) rfl rfl (retZ rfl rfl (by first | exact q_55451d0a83 h13 | omega) (by first | exact q_87849c3859 h13 | omega)) ⟨hσ0, hF0, z12, rfl, ⟨by first | exact q_097a37c2ae h13 | omega, by first | exact q_e269517bee h13 | omega, fun _ => by omega, fun _ => by omega⟩⟩
    · refine En_Ps 1 (pc' := 16) (lv' := [(0, .ref 159), (1, .int a)]) (st' := [.ref 159]) rfl ?_
      refine En_getK (j := 11) h_u rfl rfl rfl tgz_159 (by decide +kernel) ?_
      refine En_Ps 1 (pc' := 20) (lv' := [(0, .ref 159), (1, .int a)]) (st' := [.int a, .int u]) rfl ?_
      refine En_icGe _ rfl rfl rfl (fun h14 => ?_) (fun h14 => ?_)
      · refine En_Ps 1 (pc' := 28) (lv' := [(0, .ref 159), (1, .int a)]) (st' := [.int ((Int32.ofInt 0))]) rfl ?_
        refine En_top (by decide : (Int32.ofInt 0).toInt = 0) (fun z15 h16 => ?_)
        exact En_ret (v := some (Value.int z15)) rfl rfl (retZ rfl rfl (by first | exact q_55451d0a83 h16 | omega) (by first | exact q_87849c3859 h16 | omega)) ⟨hσ0, hF0, z15, rfl, ⟨by first | exact q_097a37c2ae h16 | omega, by first | exact q_e269517bee h16 | omega, fun _ => by omega, fun hh => by first | exact q_15b82e7ad8 h14 | omega⟩⟩
      · refine En_Ps 2 (pc' := 28) (lv' := [(0, .ref 159), (1, .int a)]) (st' := [.int ((Int32.ofInt 1))]) rfl ?_
        refine En_top (by decide : (Int32.ofInt 1).toInt = 1) (fun z17 h18 => ?_)
        exact En_ret (v := some (Value.int z17)) rfl rfl (retZ rfl rfl (by first | exact q_2b07c97645 h18 | omega) (by first | exact q_d9e7cbb253 h18 | omega)) ⟨hσ0, hF0, z17, rfl, ⟨by first | exact q_ad3eee31ca h18 | omega, by first | exact q_81cf297dc4 h18 | omega, fun _ => by (first | exact q_b6515c6d62 h6.2.2.1 h8 h6.1 h11 h14 | omega), fun _ => by omega⟩⟩
/-- DoorSchoolModel.owns(II)I -/
abbrev P_296x (σ0 : SG) (a : Int32) (b : Int32) : PO := fun v σ => WT σ ∧ Fr [(36, 0)] σ0 σ ∧ ∃ ret : Int32, v = some (Value.int ret) ∧ -ret.toInt - 2 ≤ 0 ∧ ret.toInt - 65535 ≤ 0 ∧ (SAM (wf σ0) (wf σ) ∧ (∀ i : Int, 0 ≤ i → i < 226 → wf σ i = owW (wf σ0) a.toInt b.toInt i))
set_option maxRecDepth 10000 in
set_option maxHeartbeats 4000000 in
theorem c_296x (σ0 : SG) (hσ0 : WT σ0) (a : Int32) (b : Int32) : En 4 84 none mr_296 (P_296x σ0 a b) 0 [(0, .ref 159), (1, .int a), (2, .int b)] [] σ0 := by
  have hF0 : Fr [(36, 0)] σ0 σ0 := Fr_rfl
  refine En_Ps 3 (pc' := 3) (lv' := [(0, .ref 159), (1, .int a), (2, .int b)]) (st' := [.int b, .int a, .ref 159]) rfl ?_
  obtain ⟨z2, h1, h3, h4⟩ := WT_peekI hσ0 tgz_160 (by decide +kernel : FT 36 (0 : Int).toNat = (0, 0, 4)) (by decide +kernel)
  obtain ⟨z6, h5, h7, h8⟩ := WT_peekI hσ0 tgz_160 (by decide +kernel : FT 36 (7 : Int).toNat = (0, 0, 1600)) (by decide +kernel)
  refine En_callV rfl rfl rfl rfl rfl rfl rfl rfl tgz_159 (by decide +kernel) rfl (c_263x σ0 hσ0 a b z2 h1 z6 h5) (by decide) (by decide) (fun v10 σ11 h9 => ?_)
  obtain ⟨h12, h13, z15, rfl, h14⟩ := h9
  have h16 := h14.2.2.2
  obtain rfl : σ0 = σ11 := Fr_nil h13
  have h17 := h16
  have w18 : wf σ0 (0) = z2.toInt := ci_at h1 (by (first | decide | omega))
  have w19 : wf σ0 (7) = z6.toInt := ci_at h5 (by (first | decide | omega))
  have h20 : pI (wf σ0 0) = pI (z2.toInt) := by rw [w18]
  refine En_iNe _ rfl rfl (fun h21 => ?_) (fun h21 => ?_)
  · have h22 := Imp_m h14.2.2.1 (by first | exact ⟨q_ad5b726bf8 h14.2.1, q_e3350da514 h21 h14.1⟩ | omega)
    refine En_Ps 1 (pc' := 13) (lv' := [(0, .ref 159), (1, .int a), (2, .int b)]) (st' := [.ref 159]) rfl ?_
    refine En_callV rfl rfl rfl rfl rfl rfl rfl rfl tgz_159 (by decide +kernel) rfl (c_295 σ0 hσ0) (by decide) (by decide) (fun v24 σ25 h23 => ?_)
    obtain ⟨h26, h27, z29, rfl, h28⟩ := h23
    obtain rfl : σ0 = σ25 := Fr_nil h27
    refine En_Ps 2 (pc' := 18) (lv' := [(3, .int z29), (0, .ref 159), (1, .int a), (2, .int b)]) (st' := [.ref 159]) rfl ?_
    refine En_getU (j := 1) (u := 160) (g' := 36) (q := 0) rfl rfl rfl tgz_159 (by decide +kernel) hσ0 (by decide +kernel) un_36_160 (fun h30 => ?_)
    refine En_Ps 2 (pc' := 24) (lv' := [(3, .int z29), (0, .ref 159), (1, .int a), (2, .int b)]) (st' := [.int a, .int (((Int8.ofInt 8).toInt32)), .ref 160]) rfl ?_
    refine En_iast (l := 0) (u := 15) rfl (by decide : ((Int8.ofInt 8).toInt32).toInt = 8) tgz_160 (by decide +kernel) (by decide) (lnI (by decide +kernel : LN _ = 226) (by decide)) (by decide +kernel) (rngI rfl (by first | exact q_ef1e8e38bf h22.1 | omega) (by first | exact q_5a5f544404 h22.2.1 | omega)) hσ0 hF0 (by decide +kernel) (fun σ32 h33 h34 h35 h36 => ?_)
    refine En_Ps 1 (pc' := 26) (lv' := [(3, .int z29), (0, .ref 159), (1, .int a), (2, .int b)]) (st' := [.ref 159]) rfl ?_
    refine En_getK (j := 1) ((h36 _ _ (Or.inl (neTG tgz_159 tgz_160 (by decide)))).trans h30) rfl rfl rfl tgz_159 (by decide +kernel) ?_
    refine En_Ps 2 (pc' := 32) (lv' := [(3, .int z29), (0, .ref 159), (1, .int a), (2, .int b)]) (st' := [.int b, .int (((Int8.ofInt 9).toInt32)), .ref 160]) rfl ?_
    refine En_iast (l := 0) (u := 15) rfl (by decide : ((Int8.ofInt 9).toInt32).toInt = 9) tgz_160 (by decide +kernel) (by decide) (lnI (by decide +kernel : LN _ = 226) (by decide)) (by decide +kernel) (rngI rfl (by first | exact q_ef1e8e38bf h22.2.2.1 | omega) (by first | exact q_5a5f544404 h22.2.2.2 | omega)) h33 h34 (by decide +kernel) (fun σ37 h38 h39 h40 h41 => ?_)
    refine En_Ps 1 (pc' := 34) (lv' := [(3, .int z29), (0, .ref 159), (1, .int a), (2, .int b)]) (st' := [.int z29]) rfl ?_
    exact En_ret (v := some (Value.int z29)) rfl rfl rfl ⟨h38, h39, z29, rfl, ⟨by first | exact q_70a249c7f8 h28.1 | omega, by first | exact q_ef123ba13c h28.2 | omega, ⟨fun i hi => (by rw [show wf _ i = ci _ 160 i from rfl, ci_st h40 h41 (by (first | decide | omega)) i (by (first | exact q_2ef998e52d hi | omega)), if_neg (by (first | exact q_b40d3d0925 hi | omega)), ci_st h35 h36 (by (first | decide | omega)) i (by (first | exact q_2ef998e52d hi | omega)), if_neg (by (first | exact q_027904b7aa hi | omega))]; rfl), owM (fun i hi => (by rw [show wf _ i = ci _ 160 i from rfl, ci_st h40 h41 (by (first | decide | omega)) i hi, ci_st h35 h36 (by (first | decide | omega)) i hi]; rfl)) (by omega) (by (first | decide | omega)) (by (first | decide | omega)) rfl rfl⟩⟩⟩
  · refine En_Ps 1 (pc' := 11) (lv' := [(0, .ref 159), (1, .int a), (2, .int b)]) (st' := [.int (((Int8.ofInt (-2)).toInt32))]) rfl ?_
    refine En_top (by decide : ((Int8.ofInt (-2)).toInt32).toInt = -2) (fun z42 h43 => ?_)
    exact En_ret (v := some (Value.int z42)) rfl rfl rfl ⟨hσ0, hF0, z42, rfl, ⟨by first | exact q_f35c5d346c h43 | omega, by first | exact q_7aab8371ca h43 | omega, ⟨fun _ _ => rfl, owMn (by omega)⟩⟩⟩
/-- DoorSchoolModel.told(Ljava/lang/String;II)I -/
abbrev P_323gx (iL : Nat) (σ0 : SG) (By : Int → Int) (Nb : Int) (Sp : PS) (b : Int32) (c : Int32) (f : Int32) (k : Int32) : PO := fun v σ => WT σ ∧ Fr [(35, 8), (35, 9), (35, 10), (35, 11), (35, 12), (35, 13)] σ0 σ ∧ ∃ f1 : Int32, (σ 159)[8]? = some (Value.int f1) ∧ ∃ k1 : Int32, (σ 159)[12]? = some (Value.int k1) ∧ ∃ ret : Int32, v = some (Value.int ret) ∧ -ret.toInt ≤ 0 ∧ ret.toInt - 50 ≤ 0 ∧ -f1.toInt ≤ 0 ∧ f1.toInt - 1600 ≤ 0 ∧ -f1.toInt + f.toInt ≤ 0 ∧ -k1.toInt ≤ 0 ∧ k1.toInt - 3 ≤ 0 ∧ -k1.toInt + k.toInt ≤ 0 ∧ f.toInt - f1.toInt ≤ 0 ∧ Imp (b.toInt ≤ 0) (b.toInt - ret.toInt ≤ 0) ∧ Imp (-b.toInt ≤ 0) (-ret.toInt ≤ 0) ∧ Imp (-c.toInt ≤ 0) (ret.toInt - c.toInt ≤ 0) ∧ Imp (c.toInt ≤ 0) (ret.toInt ≤ 0) ∧ Imp (k1.toInt ≤ 0) (k.toInt ≤ 0 ∧ b.toInt - ret.toInt ≤ 0 ∧ ret.toInt - c.toInt ≤ 0) ∧ (ML By Nb σ (tN By Nb b.toInt c.toInt (pss By Nb (iW By Nb iL Sp) Sp)) ∧ ((tN By Nb b.toInt c.toInt (pss By Nb (iW By Nb iL Sp) Sp)).1 = 0 → ret.toInt = tV By Nb (pss By Nb (iW By Nb iL Sp) Sp).2.2.1))
set_option maxRecDepth 10000 in
set_option maxHeartbeats 4000000 in
theorem c_323gx (iL nL : Nat) (gn : (decide (iL < NSTR) && decide (LENS.getD iL 0 = nL)) = true) (gN : (Int32.ofNat nL).toInt = (nL : Int)) (gL : (LW iL).length = nL) (g1 : 1 ≤ nL) (g9 : nL ≤ 20) {By : Int → Int} {Nb : Int} {Sp : PS} (σ0 : SG) (hσ0 : WT σ0) (b : Int32) (c : Int32) (hl_b : 0 ≤ b.toInt) (hu_b : b.toInt ≤ 100) (hl_c : (-1) ≤ c.toInt) (hu_c : c.toInt ≤ 50) (f : Int32) (h_f : (σ0 159)[8]? = some (Value.int f)) (k : Int32) (h_k : (σ0 159)[12]? = some (Value.int k)) (hM : ML By Nb σ0 Sp) : En 7 156 none mr_323 (P_323gx iL σ0 By Nb Sp b c f k) 0 [(0, .ref 159), (1, .retAddr (2 * iL + 1)), (2, .int b), (3, .int c)] [] σ0 := by
  obtain ⟨hl_f, hu_f⟩ := WT_int hσ0 (g := 35) (by decide +kernel) (by decide +kernel) (l := 0) (u := 1600) (by decide +kernel) h_f
  obtain ⟨hl_k, hu_k⟩ := WT_int hσ0 (g := 35) (by decide +kernel) (by decide +kernel) (l := 0) (u := 3) (by decide +kernel) h_k
  have hF0 : Fr [(35, 8), (35, 9), (35, 10), (35, 11), (35, 12), (35, 13)] σ0 σ0 := Fr_rfl
  have h1 := ML_k hM h_k
  refine En_Ps 2 (pc' := 2) (lv' := [(0, .ref 159), (1, .retAddr (2 * iL + 1)), (2, .int b), (3, .int c)]) (st' := [.retAddr (2 * iL + 1), .ref 159]) rfl ?_
  refine En_callV rfl rfl rfl rfl rfl rfl rfl rfl tgz_159 (by decide +kernel) rfl (c_286gx iL nL gn gN gL g1 g9 σ0 hσ0 f h_f k h_k hM) (by decide) (by decide) (fun v3 σ4 h2 => ?_)
  obtain ⟨h5, h6, z8, h9, z10, h11, rfl, h7⟩ := h2
  have h12 := h7.2.2.2.2.2.2.2.2
  have h13 := Fr_trans hF0 h6 (by decide +kernel)
  obtain ⟨S14, h15⟩ : ∃ q : PS, q = pss By Nb (iW By Nb iL Sp) Sp := ⟨_, rfl⟩
  have h16 : ML By Nb σ4 S14 := by rw [h15]; exact h12
  have h17 := ML_k h16 h11
  refine En_Ps 3 (pc' := 8) (lv' := [(0, .ref 159), (1, .retAddr (2 * iL + 1)), (2, .int b), (3, .int c)]) (st' := [.int c, .int b, .ref 159]) rfl ?_
  obtain ⟨z19, h18, h20, h21⟩ := WT_peekI h5 tgz_159 (by decide +kernel : FT 35 10 = (0, 0, 4)) (by decide +kernel)
  obtain ⟨z23, h22, h24, h25⟩ := WT_peekI h5 tgz_159 (by decide +kernel : FT 35 11 = (0, 0, 99999)) (by decide +kernel)
  refine En_callV rfl rfl rfl rfl rfl rfl rfl rfl tgz_159 (by decide +kernel) rfl (c_288x σ4 h5 b c (geI rfl (by (first | exact q_58e6e51dcc hl_b | omega))) (leI rfl (by (first | exact q_00a4ea6505 hu_b | omega))) (geI rfl (by (first | exact q_c57a0ee71f hl_c | omega))) (leI rfl (by (first | exact q_2eaa18fab1 hu_c | omega))) z8 h9 z10 h11 z19 h18 z23 h22 h16) (by decide) (by decide) (fun v27 σ28 h26 => ?_)
  obtain ⟨h29, h30, z32, h33, z34, h35, z36, rfl, h31⟩ := h26
  have h37 := h31.2.2.2.2.2.2.2.2.2.2.2.2.2.2.2.2
  have h38 := Fr_trans h13 h30 (by decide +kernel)
  have h39 : tN By Nb b.toInt c.toInt S14 = tN By Nb (b.toInt) (c.toInt) S14 := tN_cg2 (fun zz => by (first | exact q_61ddd2b576 | omega)) (fun zz => by (first | exact q_61ddd2b576 | omega))
  obtain ⟨S40, h41⟩ : ∃ q : PS, q = tN By Nb (b.toInt) (c.toInt) S14 := ⟨_, rfl⟩
  have h42 : ML By Nb σ28 S40 := by rw [h41]; exact (ML_eq h37.1 h39)
  have h43 := ML_k h42 h35
  have h44 : Imp (S40.1 = 0) (z36.toInt = tV By Nb S14.2.2.1) := fun z => h37.2 (by rw [h39, ← h41]; exact z)
  have h45 : Imp (S40.1 = 0) (S14.1 = 0 ∧ tK By Nb S14.2.2.1 = 2 ∧ b.toInt ≤ tV By Nb S14.2.2.1 ∧ tV By Nb S14.2.2.1 ≤ c.toInt) := fun z => tN_gg (by rw [← h41]; exact z)
  have h46 : S40.2.2.2 = S14.2.2.2 := by rw [h41]; exact tN_w
  have h47 := Imp_m h31.2.2.2.2.2.2.2.2.2.2.2.2.1 (by (first | exact q_c803b490ef hl_b | omega))
  exact En_ret (v := some (Value.int z36)) rfl rfl rfl ⟨h29, h38, z32, h33, z34, h35, z36, rfl, ⟨by (first | exact q_a555021d16 h47 | omega), by (first | exact q_ff529c7430 h31.2.1 | omega), by (first | exact q_a555021d16 h31.2.2.1 | omega), by (first | exact q_76190b61a3 h31.2.2.2.1 | omega), by (first | exact q_2e3782a6b0 h31.2.2.2.2.1 h7.2.2.1 | omega), by (first | exact q_a555021d16 h31.2.2.2.2.2.1 | omega), by (first | exact q_c733b715bf h31.2.2.2.2.2.2.1 | omega), by (first | exact q_2e3782a6b0 h31.2.2.2.2.2.2.2.1 h7.2.2.2.2.2.1 | omega), by (first | exact q_b4dc4af3c4 h31.2.2.2.2.1 h7.2.2.1 | omega), fun _ => by omega, fun _ => by (first | exact q_a555021d16 h47 | omega), fun _ => by have := Imp_m h31.2.2.2.2.2.2.2.2.2.2.2.2.2.1 (by omega); (first | exact q_f67127b06c this | omega), fun _ => by have := Imp_m h31.2.2.2.2.2.2.2.2.2.2.2.2.2.2.1 (by omega); (first | exact q_35a72a35ef this | omega), fun _ => by have := Imp_m h7.2.2.2.2.2.2.2.1 (by omega); have := Imp_m h31.2.2.2.2.2.2.2.2.2.2.2.2.2.2.2.1 (by omega); have := Imp_m h31.2.2.2.2.2.2.2.2.2.2.2.2.2.1 (by (first | exact q_78165d07a1 this.2.2.2.2.2.2 h24 | omega)); omega, (by subst h41; subst h15; exact ⟨h42, fun zz => by (try have i0 := Imp_m h45 (by (first | exact q_d2dcd30e56 zz | omega))); (try have i1 := Imp_m h44 (by (first | exact q_d2dcd30e56 zz | omega))); (try have i2 := Imp_m h7.2.2.2.2.2.2.2.1 (by (first | exact q_d8d8e6600d h17 i0.1 | omega))); (try have i3 := Imp_m h31.2.2.2.2.2.2.2.2.2.2.2.1 (by omega)); (try have i4 := Imp_m h31.2.2.2.2.2.2.2.2.2.2.2.2.2.1 (by (first | exact q_cfe76911c1 i0.2.2.2 i0.2.2.1 hl_b | omega))); (try have i5 := Imp_m h31.2.2.2.2.2.2.2.2.2.2.2.2.2.2.1 (by omega)); (try have i6 := Imp_m h31.2.2.2.2.2.2.2.2.2.2.2.2.2.2.2.1 (by (first | exact q_d8d8e6600d h43 zz | omega))); (first | exact q_b1495600e7 i1 | omega)⟩)⟩⟩
/-- DoorSchoolModel.told(Ljava/lang/String;II)I -/
abbrev P_323s13x (σ0 : SG) (By : Int → Int) (Nb : Int) (Sp : PS) (b : Int32) (c : Int32) (f : Int32) (k : Int32) : PO := fun v σ => WT σ ∧ Fr [(35, 8), (35, 9), (35, 10), (35, 11), (35, 12), (35, 13)] σ0 σ ∧ ∃ f1 : Int32, (σ 159)[8]? = some (Value.int f1) ∧ ∃ k1 : Int32, (σ 159)[12]? = some (Value.int k1) ∧ ∃ ret : Int32, v = some (Value.int ret) ∧ -ret.toInt ≤ 0 ∧ ret.toInt - 50 ≤ 0 ∧ -f1.toInt ≤ 0 ∧ f1.toInt - 1600 ≤ 0 ∧ -f1.toInt + f.toInt ≤ 0 ∧ -k1.toInt ≤ 0 ∧ k1.toInt - 3 ≤ 0 ∧ -k1.toInt + k.toInt ≤ 0 ∧ f.toInt - f1.toInt ≤ 0 ∧ Imp (b.toInt ≤ 0) (b.toInt - ret.toInt ≤ 0) ∧ Imp (-b.toInt ≤ 0) (-ret.toInt ≤ 0) ∧ Imp (-c.toInt ≤ 0) (ret.toInt - c.toInt ≤ 0) ∧ Imp (c.toInt ≤ 0) (ret.toInt ≤ 0) ∧ Imp (k1.toInt ≤ 0) (k.toInt ≤ 0 ∧ b.toInt - ret.toInt ≤ 0 ∧ ret.toInt - c.toInt ≤ 0) ∧ (ML By Nb σ (tN By Nb b.toInt c.toInt (pss By Nb (iW By Nb 13 Sp) Sp)) ∧ ((tN By Nb b.toInt c.toInt (pss By Nb (iW By Nb 13 Sp) Sp)).1 = 0 → ret.toInt = tV By Nb (pss By Nb (iW By Nb 13 Sp) Sp).2.2.1))
set_option maxRecDepth 10000 in
set_option maxHeartbeats 4000000 in
theorem c_323s13x {By : Int → Int} {Nb : Int} {Sp : PS} (σ0 : SG) (hσ0 : WT σ0) (b : Int32) (c : Int32) (hl_b : 0 ≤ b.toInt) (hu_b : b.toInt ≤ 100) (hl_c : (-1) ≤ c.toInt) (hu_c : c.toInt ≤ 50) (f : Int32) (h_f : (σ0 159)[8]? = some (Value.int f)) (k : Int32) (h_k : (σ0 159)[12]? = some (Value.int k)) (hM : ML By Nb σ0 Sp) : En 7 156 none mr_323 (P_323s13x σ0 By Nb Sp b c f k) 0 [(0, .ref 159), (1, .retAddr 27), (2, .int b), (3, .int c)] [] σ0 := c_323gx 13 5 (by decide) (by decide) (by decide) (by decide) (by decide) σ0 hσ0 b c hl_b hu_b hl_c hu_c f h_f k h_k hM
/-- DoorSchoolModel.told(Ljava/lang/String;II)I -/
abbrev P_323s14x (σ0 : SG) (By : Int → Int) (Nb : Int) (Sp : PS) (b : Int32) (c : Int32) (f : Int32) (k : Int32) : PO := fun v σ => WT σ ∧ Fr [(35, 8), (35, 9), (35, 10), (35, 11), (35, 12), (35, 13)] σ0 σ ∧ ∃ f1 : Int32, (σ 159)[8]? = some (Value.int f1) ∧ ∃ k1 : Int32, (σ 159)[12]? = some (Value.int k1) ∧ ∃ ret : Int32, v = some (Value.int ret) ∧ -ret.toInt ≤ 0 ∧ ret.toInt - 50 ≤ 0 ∧ -f1.toInt ≤ 0 ∧ f1.toInt - 1600 ≤ 0 ∧ -f1.toInt + f.toInt ≤ 0 ∧ -k1.toInt ≤ 0 ∧ k1.toInt - 3 ≤ 0 ∧ -k1.toInt + k.toInt ≤ 0 ∧ f.toInt - f1.toInt ≤ 0 ∧ Imp (b.toInt ≤ 0) (b.toInt - ret.toInt ≤ 0) ∧ Imp (-b.toInt ≤ 0) (-ret.toInt ≤ 0) ∧ Imp (-c.toInt ≤ 0) (ret.toInt - c.toInt ≤ 0) ∧ Imp (c.toInt ≤ 0) (ret.toInt ≤ 0) ∧ Imp (k1.toInt ≤ 0) (k.toInt ≤ 0 ∧ b.toInt - ret.toInt ≤ 0 ∧ ret.toInt - c.toInt ≤ 0) ∧ (ML By Nb σ (tN By Nb b.toInt c.toInt (pss By Nb (iW By Nb 14 Sp) Sp)) ∧ ((tN By Nb b.toInt c.toInt (pss By Nb (iW By Nb 14 Sp) Sp)).1 = 0 → ret.toInt = tV By Nb (pss By Nb (iW By Nb 14 Sp) Sp).2.2.1))
set_option maxRecDepth 10000 in
set_option maxHeartbeats 4000000 in
theorem c_323s14x {By : Int → Int} {Nb : Int} {Sp : PS} (σ0 : SG) (hσ0 : WT σ0) (b : Int32) (c : Int32) (hl_b : 0 ≤ b.toInt) (hu_b : b.toInt ≤ 100) (hl_c : (-1) ≤ c.toInt) (hu_c : c.toInt ≤ 50) (f : Int32) (h_f : (σ0 159)[8]? = some (Value.int f)) (k : Int32) (h_k : (σ0 159)[12]? = some (Value.int k)) (hM : ML By Nb σ0 Sp) : En 7 156 none mr_323 (P_323s14x σ0 By Nb Sp b c f k) 0 [(0, .ref 159), (1, .retAddr 29), (2, .int b), (3, .int c)] [] σ0 := c_323gx 14 5 (by decide) (by decide) (by decide) (by decide) (by decide) σ0 hσ0 b c hl_b hu_b hl_c hu_c f h_f k h_k hM
/-- DoorSchoolModel.told(Ljava/lang/String;II)I -/
abbrev P_323s15x (σ0 : SG) (By : Int → Int) (Nb : Int) (Sp : PS) (b : Int32) (c : Int32) (f : Int32) (k : Int32) : PO := fun v σ => WT σ ∧ Fr [(35, 8), (35, 9), (35, 10), (35, 11), (35, 12), (35, 13)] σ0 σ ∧ ∃ f1 : Int32, (σ 159)[8]? = some (Value.int f1) ∧ ∃ k1 : Int32, (σ 159)[12]? = some (Value.int k1) ∧ ∃ ret : Int32, v = some (Value.int ret) ∧ -ret.toInt ≤ 0 ∧ ret.toInt - 50 ≤ 0 ∧ -f1.toInt ≤ 0 ∧ f1.toInt - 1600 ≤ 0 ∧ -f1.toInt + f.toInt ≤ 0 ∧ -k1.toInt ≤ 0 ∧ k1.toInt - 3 ≤ 0 ∧ -k1.toInt + k.toInt ≤ 0 ∧ f.toInt - f1.toInt ≤ 0 ∧ Imp (b.toInt ≤ 0) (b.toInt - ret.toInt ≤ 0) ∧ Imp (-b.toInt ≤ 0) (-ret.toInt ≤ 0) ∧ Imp (-c.toInt ≤ 0) (ret.toInt - c.toInt ≤ 0) ∧ Imp (c.toInt ≤ 0) (ret.toInt ≤ 0) ∧ Imp (k1.toInt ≤ 0) (k.toInt ≤ 0 ∧ b.toInt - ret.toInt ≤ 0 ∧ ret.toInt - c.toInt ≤ 0) ∧ (ML By Nb σ (tN By Nb b.toInt c.toInt (pss By Nb (iW By Nb 15 Sp) Sp)) ∧ ((tN By Nb b.toInt c.toInt (pss By Nb (iW By Nb 15 Sp) Sp)).1 = 0 → ret.toInt = tV By Nb (pss By Nb (iW By Nb 15 Sp) Sp).2.2.1))
set_option maxRecDepth 10000 in
set_option maxHeartbeats 4000000 in
theorem c_323s15x {By : Int → Int} {Nb : Int} {Sp : PS} (σ0 : SG) (hσ0 : WT σ0) (b : Int32) (c : Int32) (hl_b : 0 ≤ b.toInt) (hu_b : b.toInt ≤ 100) (hl_c : (-1) ≤ c.toInt) (hu_c : c.toInt ≤ 50) (f : Int32) (h_f : (σ0 159)[8]? = some (Value.int f)) (k : Int32) (h_k : (σ0 159)[12]? = some (Value.int k)) (hM : ML By Nb σ0 Sp) : En 7 156 none mr_323 (P_323s15x σ0 By Nb Sp b c f k) 0 [(0, .ref 159), (1, .retAddr 31), (2, .int b), (3, .int c)] [] σ0 := c_323gx 15 5 (by decide) (by decide) (by decide) (by decide) (by decide) σ0 hσ0 b c hl_b hu_b hl_c hu_c f h_f k h_k hM
/-- DoorSchoolModel.told(Ljava/lang/String;II)I -/
abbrev P_323s16x (σ0 : SG) (By : Int → Int) (Nb : Int) (Sp : PS) (b : Int32) (c : Int32) (f : Int32) (k : Int32) : PO := fun v σ => WT σ ∧ Fr [(35, 8), (35, 9), (35, 10), (35, 11), (35, 12), (35, 13)] σ0 σ ∧ ∃ f1 : Int32, (σ 159)[8]? = some (Value.int f1) ∧ ∃ k1 : Int32, (σ 159)[12]? = some (Value.int k1) ∧ ∃ ret : Int32, v = some (Value.int ret) ∧ -ret.toInt ≤ 0 ∧ ret.toInt - 50 ≤ 0 ∧ -f1.toInt ≤ 0 ∧ f1.toInt - 1600 ≤ 0 ∧ -f1.toInt + f.toInt ≤ 0 ∧ -k1.toInt ≤ 0 ∧ k1.toInt - 3 ≤ 0 ∧ -k1.toInt + k.toInt ≤ 0 ∧ f.toInt - f1.toInt ≤ 0 ∧ Imp (b.toInt ≤ 0) (b.toInt - ret.toInt ≤ 0) ∧ Imp (-b.toInt ≤ 0) (-ret.toInt ≤ 0) ∧ Imp (-c.toInt ≤ 0) (ret.toInt - c.toInt ≤ 0) ∧ Imp (c.toInt ≤ 0) (ret.toInt ≤ 0) ∧ Imp (k1.toInt ≤ 0) (k.toInt ≤ 0 ∧ b.toInt - ret.toInt ≤ 0 ∧ ret.toInt - c.toInt ≤ 0) ∧ (ML By Nb σ (tN By Nb b.toInt c.toInt (pss By Nb (iW By Nb 16 Sp) Sp)) ∧ ((tN By Nb b.toInt c.toInt (pss By Nb (iW By Nb 16 Sp) Sp)).1 = 0 → ret.toInt = tV By Nb (pss By Nb (iW By Nb 16 Sp) Sp).2.2.1))
set_option maxRecDepth 10000 in
set_option maxHeartbeats 4000000 in
theorem c_323s16x {By : Int → Int} {Nb : Int} {Sp : PS} (σ0 : SG) (hσ0 : WT σ0) (b : Int32) (c : Int32) (hl_b : 0 ≤ b.toInt) (hu_b : b.toInt ≤ 100) (hl_c : (-1) ≤ c.toInt) (hu_c : c.toInt ≤ 50) (f : Int32) (h_f : (σ0 159)[8]? = some (Value.int f)) (k : Int32) (h_k : (σ0 159)[12]? = some (Value.int k)) (hM : ML By Nb σ0 Sp) : En 7 156 none mr_323 (P_323s16x σ0 By Nb Sp b c f k) 0 [(0, .ref 159), (1, .retAddr 33), (2, .int b), (3, .int c)] [] σ0 := c_323gx 16 8 (by decide) (by decide) (by decide) (by decide) (by decide) σ0 hσ0 b c hl_b hu_b hl_c hu_c f h_f k h_k hM
/-- DoorSchoolModel.readDoor()V -/
abbrev P_299x (σ0 : SG) (By : Int → Int) (Nb : Int) (Sp : PS) (f : Int32) (k : Int32) (nd : Int32) : PO := fun v σ => WT σ ∧ Fr [(35, 8), (35, 9), (35, 10), (35, 11), (35, 12), (35, 13), (41, 0)] σ0 σ ∧ ∃ f1 : Int32, (σ 159)[8]? = some (Value.int f1) ∧ ∃ k1 : Int32, (σ 159)[12]? = some (Value.int k1) ∧ v = none ∧ -f1.toInt ≤ 0 ∧ f1.toInt - 1600 ≤ 0 ∧ -f1.toInt + f.toInt ≤ 0 ∧ -k1.toInt ≤ 0 ∧ k1.toInt - 3 ≤ 0 ∧ -k1.toInt + k.toInt ≤ 0 ∧ f.toInt - f1.toInt ≤ 0 ∧ Imp (k1.toInt ≤ 0) (k.toInt ≤ 0) ∧ (KF σ0 σ ∧ ML By Nb σ (gDoor By Nb Sp))
set_option maxRecDepth 10000 in
set_option maxHeartbeats 4000000 in
theorem c_299x {By : Int → Int} {Nb : Int} {Sp : PS} (σ0 : SG) (hσ0 : WT σ0) (f : Int32) (h_f : (σ0 159)[8]? = some (Value.int f)) (k : Int32) (h_k : (σ0 159)[12]? = some (Value.int k)) (nd : Int32) (h_nd : (σ0 165)[(2 : Int).toNat]? = some (Value.int nd)) (hp0 : nd.toInt - 3 ≤ 0) (hM : ML By Nb σ0 Sp) (hg : Sp.1 = 0) : En 8 179 none mr_299 (P_299x σ0 By Nb Sp f k nd) 0 [(0, .ref 159)] [] σ0 := by
  obtain ⟨hl_f, hu_f⟩ := WT_int hσ0 (g := 35) (by decide +kernel) (by decide +kernel) (l := 0) (u := 1600) (by decide +kernel) h_f
  obtain ⟨hl_k, hu_k⟩ := WT_int hσ0 (g := 35) (by decide +kernel) (by decide +kernel) (l := 0) (u := 3) (by decide +kernel) h_k
  obtain ⟨hl_nd, hu_nd⟩ := WT_int hσ0 (g := 41) (by decide +kernel) (by decide +kernel) (l := 0) (u := 4) (by decide +kernel) h_nd
  have hF0 : Fr [(35, 8), (35, 9), (35, 10), (35, 11), (35, 12), (35, 13), (41, 0)] σ0 σ0 := Fr_rfl
  have h1 := ML_k hM h_k
  have h2 := ML_w hM hg h_nd (by (first | decide | omega)) (by (first | decide | omega))
  refine En_Ps 3 (pc' := 4) (lv' := [(0, .ref 159)]) (st' := [.ref 159, .int ((Int32.ofInt 4)), .int (((Int8.ofInt 10).toInt32))]) rfl ?_
  refine En_getU (j := 14) (u := 165) (g' := 41) (q := 0) rfl rfl rfl tgz_159 (by decide +kernel) hσ0 (by decide +kernel) un_41_165 (fun h3 => ?_)
  refine En_Ps 1 (pc' := 8) (lv' := [(0, .ref 159)]) (st' := [.int ((Int32.ofInt 2)), .ref 165, .int ((Int32.ofInt 4)), .int (((Int8.ofInt 10).toInt32))]) rfl ?_
  refine En_ialdK h_nd rfl (by decide : (Int32.ofInt 2).toInt = 2) tgz_165 (by decide +kernel) hσ0 (by decide) (lnI (by decide +kernel : LN _ = 226) (by decide)) ?_
  refine En_Ps 1 (pc' := 10) (lv' := [(0, .ref 159)]) (st' := [.int ((((Int32.ofInt 4)) * nd)), .int (((Int8.ofInt 10).toInt32))]) rfl ?_
  refine En_top (mulI (by decide : (Int32.ofInt 4).toInt = 4) rfl (Z := 4 * nd.toInt) (by first | exact q_8696eb12a7 | omega) (by first | exact q_be45967ac2 hl_nd | omega) (by first | exact q_41f7b53c7b hp0 | omega)) (fun z6 h7 => ?_)
  refine En_Ps 1 (pc' := 11) (lv' := [(0, .ref 159)]) (st' := [.int (((((Int8.ofInt 10).toInt32)) + z6))]) rfl ?_
  refine En_top (addI (by decide : ((Int8.ofInt 10).toInt32).toInt = 10) rfl (by first | exact q_7bfa00123f h7 hl_nd | omega) (by first | exact q_a79f4a765e h7 hp0 | omega)) (fun z8 h9 => ?_)
  refine En_Ps 2 (pc' := 13) (lv' := [(1, .int z8), (0, .ref 159)]) (st' := [.ref 159]) rfl ?_
  refine En_ldcS (i := 4) rfl rfl rfl ?_
  refine En_callV rfl rfl rfl rfl rfl rfl rfl rfl tgz_159 (by decide +kernel) rfl (c_318s4x σ0 hσ0 f h_f hM) (by decide) (by decide) (fun v11 σ12 h10 => ?_)
  obtain ⟨h13, h14, z16, h17, z18, rfl, h15⟩ := h10
  have h19 := h15.2.2.2.2.2.2
  have h20 := Fr_trans hF0 h14 (by decide +kernel)
  have h21 := KF_fr (KF_0 (σ := σ0)) h14 (by decide +kernel)
  have h22 := h19.2.1
  refine En_iEq _ rfl rfl (fun h23 => ?_) (fun h23 => ?_)
  · obtain rfl : σ0 = σ12 := h19.1 (by (first | exact q_d2dcd30e56 h23 | omega))
    refine En_Ps 1 (pc' := 34) (lv' := [(1, .int z8), (0, .ref 159)]) (st' := [.ref 159]) rfl ?_
    refine En_ldcS (i := 11) rfl rfl rfl ?_
    refine En_callV rfl rfl rfl rfl rfl rfl rfl rfl tgz_159 (by decide +kernel) rfl (c_318s11x σ0 hσ0 f h_f hM) (by decide) (by decide) (fun v25 σ26 h24 => ?_)
    obtain ⟨h27, h28, z30, h31, z32, rfl, h29⟩ := h24
    have h33 := h29.2.2.2.2.2.2
    have h34 := Fr_trans hF0 h28 (by decide +kernel)
    have h35 := KF_fr KF_0 h28 (by decide +kernel)
    have h36 := h33.2.1
    refine En_iEq _ rfl rfl (fun h37 => ?_) (fun h37 => ?_)
    · obtain rfl : σ0 = σ26 := h33.1 (by (first | exact q_d2dcd30e56 h37 | omega))
      refine En_Ps 1 (pc' := 55) (lv' := [(1, .int z8), (0, .ref 159)]) (st' := [.ref 159]) rfl ?_
      refine En_ldcS (i := 7) rfl rfl rfl ?_
      refine En_callV rfl rfl rfl rfl rfl rfl rfl rfl tgz_159 (by decide +kernel) rfl (c_286s7x σ0 hσ0 f h_f k h_k hM) (by decide) (by decide) (fun v39 σ40 h38 => ?_)
      obtain ⟨h41, h42, z44, h45, z46, h47, rfl, h43⟩ := h38
      have h48 := h43.2.2.2.2.2.2.2.2
      have h49 := Fr_trans hF0 h42 (by decide +kernel)
      have h50 := KF_fr KF_0 h42 (by decide +kernel)
      obtain ⟨S51, h52⟩ : ∃ q : PS, q = pss By Nb (iW By Nb 7 Sp) Sp := ⟨_, rfl⟩
      have h53 : ML By Nb σ40 S51 := by rw [h52]; exact h48
      have h54 := ML_k h53 h47
      refine En_Ps 1 (pc' := 61) (lv' := [(1, .int z8), (0, .ref 159)]) (st' := [.ref 159]) rfl ?_
      refine En_getK (j := 14) ((h42 _ _ (inW tgz_159 (by decide +kernel))).trans h3) rfl rfl rfl tgz_159 (by decide +kernel) ?_
      refine En_Ps 3 (pc' := 67) (lv' := [(1, .int z8), (0, .ref 159)]) (st' := [.int ((z8 + ((Int32.ofInt 0)))), .ref 165]) rfl ?_
      refine En_top (addI rfl (by decide : (Int32.ofInt 0).toInt = 0) (by first | exact q_99c3430a84 h9 h7 hl_nd | omega) (by first | exact q_f785fd662a h9 h7 hp0 | omega)) (fun z55 h56 => ?_)
      refine En_Ps 1 (pc' := 68) (lv' := [(1, .int z8), (0, .ref 159)]) (st' := [.int ((Int32.ofInt 2)), .int z55, .ref 165]) rfl ?_
      refine En_iast (l := 0) (u := 2) rfl rfl tgz_165 (by decide +kernel) (by first | exact q_0793c979f4 h56 h9 h7 hl_nd | omega) (lnI (by decide +kernel : LN _ = 226) (by first | exact q_423028a55f h56 h9 h7 hp0 | omega)) (FTrow 41 10 4 4 (by decide +kernel) (by first | exact q_98dc022afd h56 h9 h7 hl_nd | omega) (by first | exact q_1d408c2e08 h56 h9 h7 hp0 | omega) (by first | exact q_ff09f1b6e5 h7 h9 h56 | omega)) (rngI (by decide : (Int32.ofInt 2).toInt = 2) (by decide) (by decide)) h41 h49 (by decide +kernel) (fun σ57 h58 h59 h60 h61 => ?_)
      have h62 := KF_st h50 (J := z55.toInt) h61 (by (first | exact q_0793c979f4 h56 h9 h7 hl_nd | omega)) (by (first | exact q_6af9c30575 h56 h9 h7 hl_nd | omega))
      have : ((Int32.ofInt 2)).toInt = 2 := (by decide : (Int32.ofInt 2).toInt = 2)
      obtain ⟨S63, h64⟩ : ∃ q : PS, q = wst S51 (10 + 4 * Sp.2.2.2 2) (2) := ⟨_, rfl⟩
      have h65 : ML By Nb σ57 S63 := by rw [h64]; exact (ML_wst (i := 10 + 4 * Sp.2.2.2 2) (v := 2) h53 h60 h61 (by (first | exact q_0793c979f4 h56 h9 h7 hl_nd | omega)) (fun z => by exact ⟨by (first | exact q_f197f3dfc7 h56 h9 h7 h2 | omega), by (first | exact q_6810b39346 this | omega)⟩))
      have h66 := ML_k h65 ((h61 _ _ (Or.inl (neTG tgz_159 tgz_165 (by decide)))).trans h47)
      have h67 : S63.1 = S51.1 := by rw [h64]; rfl
      have h68 : gWay By Nb Sp = S63 := by rw [h64, h52]; unfold gWay; (repeat' split) <;> first | rfl | (exfalso; omega) | ((try have i0 := Imp_m h43.2.2.2.2.2.2.2.1 (by omega)); exfalso; omega)
      refine En_Ps 1 (pc' := 70) (lv' := [(1, .int z8), (0, .ref 159)]) (st' := [.ref 159]) rfl ?_
      refine En_getK (j := 14) ((h61 _ _ (Or.inl (neTG tgz_159 tgz_165 (by decide)))).trans ((h42 _ _ (inW tgz_159 (by decide +kernel))).trans h3)) rfl rfl rfl tgz_159 (by decide +kernel) ?_
      refine En_Ps 3 (pc' := 76) (lv' := [(1, .int z8), (0, .ref 159)]) (st' := [.int ((z8 + ((Int32.ofInt 1)))), .ref 165]) rfl ?_
      refine En_top (addI rfl (by decide : (Int32.ofInt 1).toInt = 1) (by first | exact q_3c9a54fe80 h9 h7 hl_nd | omega) (by first | exact q_0d21366f43 h9 h7 hp0 | omega)) (fun z69 h70 => ?_)
      refine En_Ps 1 (pc' := 77) (lv' := [(1, .int z8), (0, .ref 159)]) (st' := [.ref 159, .int z69, .ref 165]) rfl ?_
      refine En_ldcS (i := 14) rfl rfl rfl ?_
      refine En_Ps 2 (pc' := 82) (lv' := [(1, .int z8), (0, .ref 159)]) (st' := [.int (((Int8.ofInt 50).toInt32)), .int ((Int32.ofInt 0)), .retAddr 29, .ref 159, .int z69, .ref 165]) rfl ?_
      have := (by decide : ((Int32.ofInt 0)).toInt = 0)
      have := (by decide : (((Int8.ofInt 50).toInt32)).toInt = 50)
      refine En_callV rfl rfl rfl rfl rfl rfl rfl rfl tgz_159 (by decide +kernel) rfl (c_323s14x σ57 h58 ((Int32.ofInt 0)) (((Int8.ofInt 50).toInt32)) (geI (by decide : (Int32.ofInt 0).toInt = 0) (by decide)) (leI (by decide : (Int32.ofInt 0).toInt = 0) (by decide)) (geI (by decide : ((Int8.ofInt 50).toInt32).toInt = 50) (by decide)) (leI (by decide : ((Int8.ofInt 50).toInt32).toInt = 50) (by decide)) z44 ((h61 _ _ (Or.inl (neTG tgz_159 tgz_165 (by decide)))).trans h45) z46 ((h61 _ _ (Or.inl (neTG tgz_159 tgz_165 (by decide)))).trans h47) h65) (by decide) (by decide) (fun v72 σ73 h71 => ?_)
      obtain ⟨h74, h75, z77, h78, z79, h80, z81, rfl, h76⟩ := h71
      have h82 := h76.2.2.2.2.2.2.2.2.2.2.2.2.2.2
      have h83 := Fr_trans h59 h75 (by decide +kernel)
      have h84 := KF_fr h62 h75 (by decide +kernel)
      obtain ⟨S85, h86⟩ : ∃ q : PS, q = pss By Nb (iW By Nb 14 S63) S63 := ⟨_, rfl⟩
      have h87 : tN By Nb ((Int32.ofInt 0)).toInt (((Int8.ofInt 50).toInt32)).toInt (pss By Nb (iW By Nb 14 S63) S63) = tN By Nb (0) (50) S85 := by rw [h86]; exact tN_cg2 (fun _ => by (first | exact q_d2dcd30e56 (by decide) | omega)) (fun _ => by (first | exact q_cd3ef21b91 this | omega))
      obtain ⟨S88, h89⟩ : ∃ q : PS, q = tN By Nb (0) (50) S85 := ⟨_, rfl⟩
      have h90 : ML By Nb σ73 S88 := by rw [h89]; exact (ML_eq h82.1 h87)
      have h91 := ML_k h90 h80
      have h92 : Imp (S88.1 = 0) (z81.toInt = tV By Nb S85.2.2.1) := fun z => by rw [h86]; exact h82.2 (by rw [h87, ← h89]; exact z)
      have h93 := Imp_m h76.2.2.2.2.2.2.2.2.2.1 (by (first | exact q_c5d285f1b9 (by decide) | omega))
      have h94 := Imp_m h76.2.2.2.2.2.2.2.2.2.2.1 (by (first | exact q_097a37c2ae (by decide) | omega))
      have h95 := Imp_m h76.2.2.2.2.2.2.2.2.2.2.2.1 (by (first | exact q_d22d74969a this | omega))
      refine En_iast (l := 0) (u := 50) rfl rfl tgz_165 (by decide +kernel) (by first | exact q_318b2093b5 h70 h9 h7 hl_nd | omega) (lnI (by decide +kernel : LN _ = 226) (by first | exact q_8969c16c6c h70 h9 h7 hp0 | omega)) (FTrow 41 11 4 4 (by decide +kernel) (by first | exact q_446547a38e h70 h9 h7 hl_nd | omega) (by first | exact q_34d6f29e0f h70 h9 h7 hp0 | omega) (by first | exact q_85b5c85b1c h7 h9 h70 | omega)) (rngI rfl (by first | exact q_ef1e8e38bf h76.1 | omega) (by first | exact q_ea6a9ad4e1 h76.2.1 | omega)) h74 h83 (by decide +kernel) (fun σ96 h97 h98 h99 h100 => ?_)
      have h101 := KF_st h84 (J := z69.toInt) h100 (by (first | exact q_318b2093b5 h70 h9 h7 hl_nd | omega)) (by (first | exact q_d805479703 h70 h9 h7 hl_nd | omega))
      obtain ⟨S102, h103⟩ : ∃ q : PS, q = wst S88 (10 + 4 * Sp.2.2.2 2 + 1) ((tV By Nb S85.2.2.1)) := ⟨_, rfl⟩
      have h104 : ML By Nb σ96 S102 := by rw [h103]; exact (ML_wst (i := 10 + 4 * Sp.2.2.2 2 + 1) (v := (tV By Nb S85.2.2.1)) h90 h99 h100 (by (first | exact q_318b2093b5 h70 h9 h7 hl_nd | omega)) (fun z => by have j1 := Imp_m h92 z; exact ⟨by (first | exact q_9c52646f29 h70 h9 h7 h2 | omega), by (first | exact q_a8fb2024c1 j1 | omega)⟩))
      have h105 := ML_k h104 ((h100 _ _ (Or.inl (neTG tgz_159 tgz_165 (by decide)))).trans h80)
      have h106 : S102.1 = S88.1 := by rw [h103]; rfl
      refine En_Ps 1 (pc' := 87) (lv' := [(1, .int z8), (0, .ref 159)]) (st' := [.ref 159]) rfl ?_
      refine En_getK (j := 14) ((h100 _ _ (Or.inl (neTG tgz_159 tgz_165 (by decide)))).trans ((h75 _ _ (inW tgz_159 (by decide +kernel))).trans ((h61 _ _ (Or.inl (neTG tgz_159 tgz_165 (by decide)))).trans ((h42 _ _ (inW tgz_159 (by decide +kernel))).trans h3)))) rfl rfl rfl tgz_159 (by decide +kernel) ?_
      refine En_Ps 3 (pc' := 93) (lv' := [(1, .int z8), (0, .ref 159)]) (st' := [.int ((z8 + ((Int32.ofInt 2)))), .ref 165]) rfl ?_
      refine En_top (addI rfl (by decide : (Int32.ofInt 2).toInt = 2) (by first | exact q_f48788af97 h9 h7 hl_nd | omega) (by first | exact q_c12c3b1724 h9 h7 hp0 | omega)) (fun z107 h108 => ?_)
      refine En_Ps 1 (pc' := 94) (lv' := [(1, .int z8), (0, .ref 159)]) (st' := [.int ((Int32.ofInt 0)), .int z107, .ref 165]) rfl ?_
      refine En_iast (l := 0) (u := 12) rfl rfl tgz_165 (by decide +kernel) (by first | exact q_a578b517ac h108 h9 h7 hl_nd | omega) (lnI (by decide +kernel : LN _ = 226) (by first | exact q_838f9060d0 h108 h9 h7 hp0 | omega)) (FTrow 41 12 4 4 (by decide +kernel) (by first | exact q_25a2632096 h108 h9 h7 hl_nd | omega) (by first | exact q_06b9fd411d h108 h9 h7 hp0 | omega) (by first | exact q_29bc46c6fe h7 h9 h108 | omega)) (rngI (by decide : (Int32.ofInt 0).toInt = 0) (by decide) (by decide)) h97 h98 (by decide +kernel) (fun σ109 h110 h111 h112 h113 => ?_)
      have h114 := KF_st h101 (J := z107.toInt) h113 (by (first | exact q_a578b517ac h108 h9 h7 hl_nd | omega)) (by (first | exact q_95d3f267bd h108 h9 h7 hl_nd | omega))
      have : ((Int32.ofInt 0)).toInt = 0 := (by decide : (Int32.ofInt 0).toInt = 0)
      obtain ⟨S115, h116⟩ : ∃ q : PS, q = wst S102 (10 + 4 * Sp.2.2.2 2 + 2) (0) := ⟨_, rfl⟩
      have h117 : ML By Nb σ109 S115 := by rw [h116]; exact (ML_wst (i := 10 + 4 * Sp.2.2.2 2 + 2) (v := 0) h104 h112 h113 (by (first | exact q_a578b517ac h108 h9 h7 hl_nd | omega)) (fun z => by have j1 := h106.symm.trans z; have j2 := Imp_m h92 j1; exact ⟨by (first | exact q_758e8c98bb h108 h9 h7 h2 | omega), by (first | exact q_2b524d57ed this | omega)⟩))
      have h118 := ML_k h117 ((h113 _ _ (Or.inl (neTG tgz_159 tgz_165 (by decide)))).trans ((h100 _ _ (Or.inl (neTG tgz_159 tgz_165 (by decide)))).trans h80))
      have h119 : S115.1 = S102.1 := by rw [h116]; rfl
      refine En_Ps 1 (pc' := 96) (lv' := [(1, .int z8), (0, .ref 159)]) (st' := [.ref 159]) rfl ?_
      refine En_getK (j := 14) ((h113 _ _ (Or.inl (neTG tgz_159 tgz_165 (by decide)))).trans ((h100 _ _ (Or.inl (neTG tgz_159 tgz_165 (by decide)))).trans ((h75 _ _ (inW tgz_159 (by decide +kernel))).trans ((h61 _ _ (Or.inl (neTG tgz_159 tgz_165 (by decide)))).trans ((h42 _ _ (inW tgz_159 (by decide +kernel))).trans h3))))) rfl rfl rfl tgz_159 (by decide +kernel) ?_
      refine En_Ps 3 (pc' := 102) (lv' := [(1, .int z8), (0, .ref 159)]) (st' := [.int ((z8 + ((Int32.ofInt 3)))), .ref 165]) rfl ?_
      refine En_top (addI rfl (by decide : (Int32.ofInt 3).toInt = 3) (by first | exact q_5241e58928 h9 h7 hl_nd | omega) (by first | exact q_32a0270a1d h9 h7 hp0 | omega)) (fun z120 h121 => ?_)
      refine En_Ps 1 (pc' := 103) (lv' := [(1, .int z8), (0, .ref 159)]) (st' := [.int ((Int32.ofInt (-1))), .int z120, .ref 165]) rfl ?_
      refine En_iast (l := (-1)) (u := 3) rfl rfl tgz_165 (by decide +kernel) (by first | exact q_9dbe57618d h121 h9 h7 hl_nd | omega) (lnI (by decide +kernel : LN _ = 226) (by first | exact q_2daa6dab63 h121 h9 h7 hp0 | omega)) (FTrow 41 13 4 4 (by decide +kernel) (by first | exact q_070b248188 h121 h9 h7 hl_nd | omega) (by first | exact q_ce30d83ae0 h121 h9 h7 hp0 | omega) (by first | exact q_090c32d68c h7 h9 h121 | omega)) (rngI (by decide : (Int32.ofInt (-1)).toInt = -1) (by decide) (by decide)) h110 h111 (by decide +kernel) (fun σ122 h123 h124 h125 h126 => ?_)
      have h127 := KF_st h114 (J := z120.toInt) h126 (by (first | exact q_9dbe57618d h121 h9 h7 hl_nd | omega)) (by (first | exact q_7ee6ca876d h121 h9 h7 hl_nd | omega))
      have : ((Int32.ofInt (-1))).toInt = (-1) := (by decide : (Int32.ofInt (-1)).toInt = -1)
      obtain ⟨S128, h129⟩ : ∃ q : PS, q = wst S115 (10 + 4 * Sp.2.2.2 2 + 3) (-1) := ⟨_, rfl⟩
      have h130 : ML By Nb σ122 S128 := by rw [h129]; exact (ML_wst (i := 10 + 4 * Sp.2.2.2 2 + 3) (v := -1) h117 h125 h126 (by (first | exact q_9dbe57618d h121 h9 h7 hl_nd | omega)) (fun z => by have j1 := h119.symm.trans z; have j2 := h106.symm.trans j1; have j3 := Imp_m h92 j2; exact ⟨by (first | exact q_a841e78b7e h121 h9 h7 h2 | omega), by (first | exact q_c89ebb2db8 this | omega)⟩))
      have h131 := ML_k h130 ((h126 _ _ (Or.inl (neTG tgz_159 tgz_165 (by decide)))).trans ((h113 _ _ (Or.inl (neTG tgz_159 tgz_165 (by decide)))).trans ((h100 _ _ (Or.inl (neTG tgz_159 tgz_165 (by decide)))).trans h80)))
      have h132 : S128.1 = S115.1 := by rw [h129]; rfl
      refine En_Ps 1 (pc' := 105) (lv' := [(1, .int z8), (0, .ref 159)]) (st' := [.ref 159]) rfl ?_
      refine En_getK (j := 14) ((h126 _ _ (Or.inl (neTG tgz_159 tgz_165 (by decide)))).trans ((h113 _ _ (Or.inl (neTG tgz_159 tgz_165 (by decide)))).trans ((h100 _ _ (Or.inl (neTG tgz_159 tgz_165 (by decide)))).trans ((h75 _ _ (inW tgz_159 (by decide +kernel))).trans ((h61 _ _ (Or.inl (neTG tgz_159 tgz_165 (by decide)))).trans ((h42 _ _ (inW tgz_159 (by decide +kernel))).trans h3)))))) rfl rfl rfl tgz_159 (by decide +kernel) ?_
      refine En_Ps 2 (pc' := 110) (lv' := [(1, .int z8), (0, .ref 159)]) (st' := [.int ((Int32.ofInt 2)), .ref 165, .int ((Int32.ofInt 2)), .ref 165]) rfl ?_
      refine En_ialdK ((h126 _ _ (Or.inr (by (first | exact q_c918db81f1 h121 h9 h7 hl_nd | omega)))).trans ((h113 _ _ (Or.inr (by (first | exact q_c1d177e9c0 h108 h9 h7 hl_nd | omega)))).trans ((h100 _ _ (Or.inr (by (first | exact q_2e0e11688b h70 h9 h7 hl_nd | omega)))).trans ((h75 _ _ (inWa tgz_165 (by decide +kernel))).trans ((h61 _ _ (Or.inr (by (first | exact q_40a6d8e873 h56 h9 h7 hl_nd | omega)))).trans ((h42 _ _ (inWa tgz_165 (by decide +kernel))).trans h_nd)))))) rfl (by decide : (Int32.ofInt 2).toInt = 2) tgz_165 (by decide +kernel) h123 (by decide) (lnI (by decide +kernel : LN _ = 226) (by decide)) ?_
      refine En_Ps 2 (pc' := 113) (lv' := [(1, .int z8), (0, .ref 159)]) (st' := [.int ((nd + ((Int32.ofInt 1)))), .int ((Int32.ofInt 2)), .ref 165]) rfl ?_
      refine En_top (addI rfl (by decide : (Int32.ofInt 1).toInt = 1) (by first | exact q_465ab79ac1 hl_nd | omega) (by first | exact q_7dfc9ebb42 hp0 | omega)) (fun z134 h135 => ?_)
      refine En_iast (l := 0) (u := 4) rfl (by decide : (Int32.ofInt 2).toInt = 2) tgz_165 (by decide +kernel) (by decide) (lnI (by decide +kernel : LN _ = 226) (by decide)) (by decide +kernel) (rngI rfl (by first | exact q_35104ce9d3 h135 hl_nd | omega) (by first | exact q_05c9cf81c0 h135 hp0 | omega)) h123 h124 (by decide +kernel) (fun σ136 h137 h138 h139 h140 => ?_)
      have h141 := KF_st h127 (J := 2) h140 (by (first | decide | omega)) (by (first | decide | omega))
      obtain ⟨S142, h143⟩ : ∃ q : PS, q = wst S128 (2) (Sp.2.2.2 2 + 1) := ⟨_, rfl⟩
      have h144 : ML By Nb σ136 S142 := by rw [h143]; exact (ML_wst (i := 2) (v := Sp.2.2.2 2 + 1) h130 h139 h140 (by (first | decide | omega)) (fun z => by have j1 := h132.symm.trans z; have j2 := h119.symm.trans j1; have j3 := h106.symm.trans j2; have j4 := Imp_m h92 j3; exact ⟨by (first | decide | omega), by (first | exact q_c264f2cea9 h135 h2 | omega)⟩))
      have h145 := ML_k h144 ((h140 _ _ (Or.inl (neTG tgz_159 tgz_165 (by decide)))).trans ((h126 _ _ (Or.inl (neTG tgz_159 tgz_165 (by decide)))).trans ((h113 _ _ (Or.inl (neTG tgz_159 tgz_165 (by decide)))).trans ((h100 _ _ (Or.inl (neTG tgz_159 tgz_165 (by decide)))).trans h80))))
      have h146 : S142.1 = S128.1 := by rw [h143]; rfl
      exact En_ret (v := none) rfl rfl rfl ⟨h137, h138, z77, ((h140 _ _ (Or.inl (neTG tgz_159 tgz_165 (by decide)))).trans ((h126 _ _ (Or.inl (neTG tgz_159 tgz_165 (by decide)))).trans ((h113 _ _ (Or.inl (neTG tgz_159 tgz_165 (by decide)))).trans ((h100 _ _ (Or.inl (neTG tgz_159 tgz_165 (by decide)))).trans h78)))), z79, ((h140 _ _ (Or.inl (neTG tgz_159 tgz_165 (by decide)))).trans ((h126 _ _ (Or.inl (neTG tgz_159 tgz_165 (by decide)))).trans ((h113 _ _ (Or.inl (neTG tgz_159 tgz_165 (by decide)))).trans ((h100 _ _ (Or.inl (neTG tgz_159 tgz_165 (by decide)))).trans h80)))), rfl, ⟨by first | exact q_a555021d16 h76.2.2.1 | omega, by first | exact q_76190b61a3 h76.2.2.2.1 | omega, by first | exact q_ccc3bb8fc9 h43.2.2.1 h76.2.2.2.2.1 | omega, by first | exact q_a555021d16 h76.2.2.2.2.2.1 | omega, by first | exact q_c733b715bf h76.2.2.2.2.2.2.1 | omega, by first | exact q_ccc3bb8fc9 h43.2.2.2.2.2.1 h76.2.2.2.2.2.2.2.1 | omega, by first | exact q_28bfca2c13 h43.2.2.1 h76.2.2.2.2.1 | omega, fun hh => by first | exact q_db388fd8e8 h43.2.2.2.2.2.1 h76.2.2.2.2.2.2.2.1 hh | omega, ⟨h141, ML_eq h144 (by unfold gDoor; dsimp only; rw [h68, ← h86, ← h89, ← h103, ← h116, ← h129, ← h143]; first | done | rfl | (rw [if_pos (by omega)]; first | done | rfl) | (rw [if_neg (by omega)]; first | done | rfl))⟩⟩⟩
    · have h147 : Sp.1 = 0 := iW_g (i := 11) (B := By) (n := Nb) (by (first | exact q_8c31a76373 h37 h29.1 h36 h29.2.1 | omega))
      obtain ⟨S148, h149⟩ : ∃ q : PS, q = adv By Nb Sp := ⟨_, rfl⟩
      have h150 : ML By Nb σ26 S148 := by rw [h149]; exact h33.2.2 (by (first | exact q_bd6a018c53 h37 h29.1 h29.2.1 | omega))
      have h151 := ML_k h150 ((h28 _ _ (inW tgz_159 (by decide +kernel))).trans h_k)
      have h152 : S148.2.2.2 = Sp.2.2.2 := by rw [h149]; exact adv_w
      have h153 : S148.1 = 0 := by rw [h149, adv_1]; exact h147
      refine En_Ps 1 (pc' := 43) (lv' := [(1, .int z8), (0, .ref 159)]) (st' := [.ref 159]) rfl ?_
      refine En_getK (j := 14) ((h28 _ _ (inW tgz_159 (by decide +kernel))).trans h3) rfl rfl rfl tgz_159 (by decide +kernel) ?_
      refine En_Ps 3 (pc' := 49) (lv' := [(1, .int z8), (0, .ref 159)]) (st' := [.int ((z8 + ((Int32.ofInt 0)))), .ref 165]) rfl ?_
      refine En_top (addI rfl (by decide : (Int32.ofInt 0).toInt = 0) (by first | exact q_99c3430a84 h9 h7 hl_nd | omega) (by first | exact q_f785fd662a h9 h7 hp0 | omega)) (fun z154 h155 => ?_)
      refine En_Ps 1 (pc' := 50) (lv' := [(1, .int z8), (0, .ref 159)]) (st' := [.int ((Int32.ofInt 1)), .int z154, .ref 165]) rfl ?_
      refine En_iast (l := 0) (u := 2) rfl rfl tgz_165 (by decide +kernel) (by first | exact q_0793c979f4 h155 h9 h7 hl_nd | omega) (lnI (by decide +kernel : LN _ = 226) (by first | exact q_423028a55f h155 h9 h7 hp0 | omega)) (FTrow 41 10 4 4 (by decide +kernel) (by first | exact q_98dc022afd h155 h9 h7 hl_nd | omega) (by first | exact q_1d408c2e08 h155 h9 h7 hp0 | omega) (by first | exact q_ff09f1b6e5 h7 h9 h155 | omega)) (rngI (by decide : (Int32.ofInt 1).toInt = 1) (by decide) (by decide)) h27 h34 (by decide +kernel) (fun σ156 h157 h158 h159 h160 => ?_)
      have h161 := KF_st h35 (J := z154.toInt) h160 (by (first | exact q_0793c979f4 h155 h9 h7 hl_nd | omega)) (by (first | exact q_6af9c30575 h155 h9 h7 hl_nd | omega))
      have : ((Int32.ofInt 1)).toInt = 1 := (by decide : (Int32.ofInt 1).toInt = 1)
      obtain ⟨S162, h163⟩ : ∃ q : PS, q = wst S148 (10 + 4 * Sp.2.2.2 2) (1) := ⟨_, rfl⟩
      have h164 : ML By Nb σ156 S162 := by rw [h163]; exact (ML_wst (i := 10 + 4 * Sp.2.2.2 2) (v := 1) h150 h159 h160 (by (first | exact q_0793c979f4 h155 h9 h7 hl_nd | omega)) (fun z => by exact ⟨by (first | exact q_f197f3dfc7 h155 h9 h7 h2 | omega), by (first | exact q_050f177436 this | omega)⟩))
      have h165 := ML_k h164 ((h160 _ _ (Or.inl (neTG tgz_159 tgz_165 (by decide)))).trans ((h28 _ _ (inW tgz_159 (by decide +kernel))).trans h_k))
      have h166 : S162.1 = S148.1 := by rw [h163]; rfl
      refine En_Ps 1 (pc' := 69) (lv' := [(1, .int z8), (0, .ref 159)]) (st' := []) rfl ?_
      have h167 : gWay By Nb Sp = S162 := by rw [h163, h149]; unfold gWay; (repeat' split) <;> first | rfl | (exfalso; omega) | (exfalso; omega)
      refine En_Ps 1 (pc' := 70) (lv' := [(1, .int z8), (0, .ref 159)]) (st' := [.ref 159]) rfl ?_
      refine En_getK (j := 14) ((h160 _ _ (Or.inl (neTG tgz_159 tgz_165 (by decide)))).trans ((h28 _ _ (inW tgz_159 (by decide +kernel))).trans h3)) rfl rfl rfl tgz_159 (by decide +kernel) ?_
      refine En_Ps 3 (pc' := 76) (lv' := [(1, .int z8), (0, .ref 159)]) (st' := [.int ((z8 + ((Int32.ofInt 1)))), .ref 165]) rfl ?_
      refine En_top (addI rfl (by decide : (Int32.ofInt 1).toInt = 1) (by first | exact q_3c9a54fe80 h9 h7 hl_nd | omega) (by first | exact q_0d21366f43 h9 h7 hp0 | omega)) (fun z168 h169 => ?_)
      refine En_Ps 1 (pc' := 77) (lv' := [(1, .int z8), (0, .ref 159)]) (st' := [.ref 159, .int z168, .ref 165]) rfl ?_
      refine En_ldcS (i := 14) rfl rfl rfl ?_
      refine En_Ps 2 (pc' := 82) (lv' := [(1, .int z8), (0, .ref 159)]) (st' := [.int (((Int8.ofInt 50).toInt32)), .int ((Int32.ofInt 0)), .retAddr 29, .ref 159, .int z168, .ref 165]) rfl ?_
      have := (by decide : ((Int32.ofInt 0)).toInt = 0)
      have := (by decide : (((Int8.ofInt 50).toInt32)).toInt = 50)
      refine En_callV rfl rfl rfl rfl rfl rfl rfl rfl tgz_159 (by decide +kernel) rfl (c_323s14x σ156 h157 ((Int32.ofInt 0)) (((Int8.ofInt 50).toInt32)) (geI (by decide : (Int32.ofInt 0).toInt = 0) (by decide)) (leI (by decide : (Int32.ofInt 0).toInt = 0) (by decide)) (geI (by decide : ((Int8.ofInt 50).toInt32).toInt = 50) (by decide)) (leI (by decide : ((Int8.ofInt 50).toInt32).toInt = 50) (by decide)) z30 ((h160 _ _ (Or.inl (neTG tgz_159 tgz_165 (by decide)))).trans h31) k ((h160 _ _ (Or.inl (neTG tgz_159 tgz_165 (by decide)))).trans ((h28 _ _ (inW tgz_159 (by decide +kernel))).trans h_k)) h164) (by decide) (by decide) (fun v171 σ172 h170 => ?_)
      obtain ⟨h173, h174, z176, h177, z178, h179, z180, rfl, h175⟩ := h170
      have h181 := h175.2.2.2.2.2.2.2.2.2.2.2.2.2.2
      have h182 := Fr_trans h158 h174 (by decide +kernel)
      have h183 := KF_fr h161 h174 (by decide +kernel)
      obtain ⟨S184, h185⟩ : ∃ q : PS, q = pss By Nb (iW By Nb 14 S162) S162 := ⟨_, rfl⟩
      have h186 : tN By Nb ((Int32.ofInt 0)).toInt (((Int8.ofInt 50).toInt32)).toInt (pss By Nb (iW By Nb 14 S162) S162) = tN By Nb (0) (50) S184 := by rw [h185]; exact tN_cg2 (fun _ => by (first | exact q_d2dcd30e56 (by decide) | omega)) (fun _ => by (first | exact q_cd3ef21b91 this | omega))
      obtain ⟨S187, h188⟩ : ∃ q : PS, q = tN By Nb (0) (50) S184 := ⟨_, rfl⟩
      have h189 : ML By Nb σ172 S187 := by rw [h188]; exact (ML_eq h181.1 h186)
      have h190 := ML_k h189 h179
      have h191 : Imp (S187.1 = 0) (z180.toInt = tV By Nb S184.2.2.1) := fun z => by rw [h185]; exact h181.2 (by rw [h186, ← h188]; exact z)
      have h192 := Imp_m h175.2.2.2.2.2.2.2.2.2.1 (by (first | exact q_c5d285f1b9 (by decide) | omega))
      have h193 := Imp_m h175.2.2.2.2.2.2.2.2.2.2.1 (by (first | exact q_097a37c2ae (by decide) | omega))
      have h194 := Imp_m h175.2.2.2.2.2.2.2.2.2.2.2.1 (by (first | exact q_d22d74969a this | omega))
      refine En_iast (l := 0) (u := 50) rfl rfl tgz_165 (by decide +kernel) (by first | exact q_318b2093b5 h169 h9 h7 hl_nd | omega) (lnI (by decide +kernel : LN _ = 226) (by first | exact q_8969c16c6c h169 h9 h7 hp0 | omega)) (FTrow 41 11 4 4 (by decide +kernel) (by first | exact q_446547a38e h169 h9 h7 hl_nd | omega) (by first | exact q_34d6f29e0f h169 h9 h7 hp0 | omega) (by first | exact q_85b5c85b1c h7 h9 h169 | omega)) (rngI rfl (by first | exact q_ef1e8e38bf h175.1 | omega) (by first | exact q_ea6a9ad4e1 h175.2.1 | omega)) h173 h182 (by decide +kernel) (fun σ195 h196 h197 h198 h199 => ?_)
      have h200 := KF_st h183 (J := z168.toInt) h199 (by (first | exact q_318b2093b5 h169 h9 h7 hl_nd | omega)) (by (first | exact q_d805479703 h169 h9 h7 hl_nd | omega))
      obtain ⟨S201, h202⟩ : ∃ q : PS, q = wst S187 (10 + 4 * Sp.2.2.2 2 + 1) ((tV By Nb S184.2.2.1)) := ⟨_, rfl⟩
      have h203 : ML By Nb σ195 S201 := by rw [h202]; exact (ML_wst (i := 10 + 4 * Sp.2.2.2 2 + 1) (v := (tV By Nb S184.2.2.1)) h189 h198 h199 (by (first | exact q_318b2093b5 h169 h9 h7 hl_nd | omega)) (fun z => by have j1 := Imp_m h191 z; exact ⟨by (first | exact q_9c52646f29 h169 h9 h7 h2 | omega), by (first | exact q_a8fb2024c1 j1 | omega)⟩))
      have h204 := ML_k h203 ((h199 _ _ (Or.inl (neTG tgz_159 tgz_165 (by decide)))).trans h179)
      have h205 : S201.1 = S187.1 := by rw [h202]; rfl
      refine En_Ps 1 (pc' := 87) (lv' := [(1, .int z8), (0, .ref 159)]) (st' := [.ref 159]) rfl ?_
      refine En_getK (j := 14) ((h199 _ _ (Or.inl (neTG tgz_159 tgz_165 (by decide)))).trans ((h174 _ _ (inW tgz_159 (by decide +kernel))).trans ((h160 _ _ (Or.inl (neTG tgz_159 tgz_165 (by decide)))).trans ((h28 _ _ (inW tgz_159 (by decide +kernel))).trans h3)))) rfl rfl rfl tgz_159 (by decide +kernel) ?_
      refine En_Ps 3 (pc' := 93) (lv' := [(1, .int z8), (0, .ref 159)]) (st' := [.int ((z8 + ((Int32.ofInt 2)))), .ref 165]) rfl ?_
      refine En_top (addI rfl (by decide : (Int32.ofInt 2).toInt = 2) (by first | exact q_f48788af97 h9 h7 hl_nd | omega) (by first | exact q_c12c3b1724 h9 h7 hp0 | omega)) (fun z206 h207 => ?_)
      refine En_Ps 1 (pc' := 94) (lv' := [(1, .int z8), (0, .ref 159)]) (st' := [.int ((Int32.ofInt 0)), .int z206, .ref 165]) rfl ?_
      refine En_iast (l := 0) (u := 12) rfl rfl tgz_165 (by decide +kernel) (by first | exact q_a578b517ac h207 h9 h7 hl_nd | omega) (lnI (by decide +kernel : LN _ = 226) (by first | exact q_838f9060d0 h207 h9 h7 hp0 | omega)) (FTrow 41 12 4 4 (by decide +kernel) (by first | exact q_25a2632096 h207 h9 h7 hl_nd | omega) (by first | exact q_06b9fd411d h207 h9 h7 hp0 | omega) (by first | exact q_29bc46c6fe h7 h9 h207 | omega)) (rngI (by decide : (Int32.ofInt 0).toInt = 0) (by decide) (by decide)) h196 h197 (by decide +kernel) (fun σ208 h209 h210 h211 h212 => ?_)
      have h213 := KF_st h200 (J := z206.toInt) h212 (by (first | exact q_a578b517ac h207 h9 h7 hl_nd | omega)) (by (first | exact q_95d3f267bd h207 h9 h7 hl_nd | omega))
      have : ((Int32.ofInt 0)).toInt = 0 := (by decide : (Int32.ofInt 0).toInt = 0)
      obtain ⟨S214, h215⟩ : ∃ q : PS, q = wst S201 (10 + 4 * Sp.2.2.2 2 + 2) (0) := ⟨_, rfl⟩
      have h216 : ML By Nb σ208 S214 := by rw [h215]; exact (ML_wst (i := 10 + 4 * Sp.2.2.2 2 + 2) (v := 0) h203 h211 h212 (by (first | exact q_a578b517ac h207 h9 h7 hl_nd | omega)) (fun z => by have j1 := h205.symm.trans z; have j2 := Imp_m h191 j1; exact ⟨by (first | exact q_758e8c98bb h207 h9 h7 h2 | omega), by (first | exact q_2b524d57ed this | omega)⟩))
      have h217 := ML_k h216 ((h212 _ _ (Or.inl (neTG tgz_159 tgz_165 (by decide)))).trans ((h199 _ _ (Or.inl (neTG tgz_159 tgz_165 (by decide)))).trans h179))
      have h218 : S214.1 = S201.1 := by rw [h215]; rfl
      refine En_Ps 1 (pc' := 96) (lv' := [(1, .int z8), (0, .ref 159)]) (st' := [.ref 159]) rfl ?_
      refine En_getK (j := 14) ((h212 _ _ (Or.inl (neTG tgz_159 tgz_165 (by decide)))).trans ((h199 _ _ (Or.inl (neTG tgz_159 tgz_165 (by decide)))).trans ((h174 _ _ (inW tgz_159 (by decide +kernel))).trans ((h160 _ _ (Or.inl (neTG tgz_159 tgz_165 (by decide)))).trans ((h28 _ _ (inW tgz_159 (by decide +kernel))).trans h3))))) rfl rfl rfl tgz_159 (by decide +kernel) ?_
      refine En_Ps 3 (pc' := 102) (lv' := [(1, .int z8), (0, .ref 159)]) (st' := [.int ((z8 + ((Int32.ofInt 3)))), .ref 165]) rfl ?_
      refine En_top (addI rfl (by decide : (Int32.ofInt 3).toInt = 3) (by first | exact q_5241e58928 h9 h7 hl_nd | omega) (by first | exact q_32a0270a1d h9 h7 hp0 | omega)) (fun z219 h220 => ?_)
      refine En_Ps 1 (pc' := 103) (lv' := [(1, .int z8), (0, .ref 159)]) (st' := [.int ((Int32.ofInt (-1))), .int z219, .ref 165]) rfl ?_
      refine En_iast (l := (-1)) (u := 3) rfl rfl tgz_165 (by decide +kernel) (by first | exact q_9dbe57618d h220 h9 h7 hl_nd | omega) (lnI (by decide +kernel : LN _ = 226) (by first | exact q_2daa6dab63 h220 h9 h7 hp0 | omega)) (FTrow 41 13 4 4 (by decide +kernel) (by first | exact q_070b248188 h220 h9 h7 hl_nd | omega) (by first | exact q_ce30d83ae0 h220 h9 h7 hp0 | omega) (by first | exact q_090c32d68c h7 h9 h220 | omega)) (rngI (by decide : (Int32.ofInt (-1)).toInt = -1) (by decide) (by decide)) h209 h210 (by decide +kernel) (fun σ221 h222 h223 h224 h225 => ?_)
      have h226 := KF_st h213 (J := z219.toInt) h225 (by (first | exact q_9dbe57618d h220 h9 h7 hl_nd | omega)) (by (first | exact q_7ee6ca876d h220 h9 h7 hl_nd | omega))
      have : ((Int32.ofInt (-1))).toInt = (-1) := (by decide : (Int32.ofInt (-1)).toInt = -1)
      obtain ⟨S227, h228⟩ : ∃ q : PS, q = wst S214 (10 + 4 * Sp.2.2.2 2 + 3) (-1) := ⟨_, rfl⟩
      have h229 : ML By Nb σ221 S227 := by rw [h228]; exact (ML_wst (i := 10 + 4 * Sp.2.2.2 2 + 3) (v := -1) h216 h224 h225 (by (first | exact q_9dbe57618d h220 h9 h7 hl_nd | omega)) (fun z => by have j1 := h218.symm.trans z; have j2 := h205.symm.trans j1; have j3 := Imp_m h191 j2; exact ⟨by (first | exact q_a841e78b7e h220 h9 h7 h2 | omega), by (first | exact q_c89ebb2db8 this | omega)⟩))
      have h230 := ML_k h229 ((h225 _ _ (Or.inl (neTG tgz_159 tgz_165 (by decide)))).trans ((h212 _ _ (Or.inl (neTG tgz_159 tgz_165 (by decide)))).trans ((h199 _ _ (Or.inl (neTG tgz_159 tgz_165 (by decide)))).trans h179)))
      have h231 : S227.1 = S214.1 := by rw [h228]; rfl
      refine En_Ps 1 (pc' := 105) (lv' := [(1, .int z8), (0, .ref 159)]) (st' := [.ref 159]) rfl ?_
      refine En_getK (j := 14) ((h225 _ _ (Or.inl (neTG tgz_159 tgz_165 (by decide)))).trans ((h212 _ _ (Or.inl (neTG tgz_159 tgz_165 (by decide)))).trans ((h199 _ _ (Or.inl (neTG tgz_159 tgz_165 (by decide)))).trans ((h174 _ _ (inW tgz_159 (by decide +kernel))).trans ((h160 _ _ (Or.inl (neTG tgz_159 tgz_165 (by decide)))).trans ((h28 _ _ (inW tgz_159 (by decide +kernel))).trans h3)))))) rfl rfl rfl tgz_159 (by decide +kernel) ?_
      refine En_Ps 2 (pc' := 110) (lv' := [(1, .int z8), (0, .ref 159)]) (st' := [.int ((Int32.ofInt 2)), .ref 165, .int ((Int32.ofInt 2)), .ref 165]) rfl ?_
      refine En_ialdK ((h225 _ _ (Or.inr (by (first | exact q_c918db81f1 h220 h9 h7 hl_nd | omega)))).trans ((h212 _ _ (Or.inr (by (first | exact q_c1d177e9c0 h207 h9 h7 hl_nd | omega)))).trans ((h199 _ _ (Or.inr (by (first | exact q_2e0e11688b h169 h9 h7 hl_nd | omega)))).trans ((h174 _ _ (inWa tgz_165 (by decide +kernel))).trans ((h160 _ _ (Or.inr (by (first | exact q_40a6d8e873 h155 h9 h7 hl_nd | omega)))).trans ((h28 _ _ (inWa tgz_165 (by decide +kernel))).trans h_nd)))))) rfl (by decide : (Int32.ofInt 2).toInt = 2) tgz_165 (by decide +kernel) h222 (by decide) (lnI (by decide +kernel : LN _ = 226) (by decide)) ?_
      refine En_Ps 2 (pc' := 113) (lv' := [(1, .int z8), (0, .ref 159)]) (st' := [.int ((nd + ((Int32.ofInt 1)))), .int ((Int32.ofInt 2)), .ref 165]) rfl ?_
      refine En_top (addI rfl (by decide : (Int32.ofInt 1).toInt = 1) (by first | exact q_465ab79ac1 hl_nd | omega) (by first | exact q_7dfc9ebb42 hp0 | omega)) (fun z233 h234 => ?_)
      refine En_iast (l := 0) (u := 4) rfl (by decide : (Int32.ofInt 2).toInt = 2) tgz_165 (by decide +kernel) (by decide) (lnI (by decide +kernel : LN _ = 226) (by decide)) (by decide +kernel) (rngI rfl (by first | exact q_35104ce9d3 h234 hl_nd | omega) (by first | exact q_05c9cf81c0 h234 hp0 | omega)) h222 h223 (by decide +kernel) (fun σ235 h236 h237 h238 h239 => ?_)
      have h240 := KF_st h226 (J := 2) h239 (by (first | decide | omega)) (by (first | decide | omega))
      obtain ⟨S241, h242⟩ : ∃ q : PS, q = wst S227 (2) (Sp.2.2.2 2 + 1) := ⟨_, rfl⟩
      have h243 : ML By Nb σ235 S241 := by rw [h242]; exact (ML_wst (i := 2) (v := Sp.2.2.2 2 + 1) h229 h238 h239 (by (first | decide | omega)) (fun z => by have j1 := h231.symm.trans z; have j2 := h218.symm.trans j1; have j3 := h205.symm.trans j2; have j4 := Imp_m h191 j3; exact ⟨by (first | decide | omega), by (first | exact q_c264f2cea9 h234 h2 | omega)⟩))
      have h244 := ML_k h243 ((h239 _ _ (Or.inl (neTG tgz_159 tgz_165 (by decide)))).trans ((h225 _ _ (Or.inl (neTG tgz_159 tgz_165 (by decide)))).trans ((h212 _ _ (Or.inl (neTG tgz_159 tgz_165 (by decide)))).trans ((h199 _ _ (Or.inl (neTG tgz_159 tgz_165 (by decide)))).trans h179))))
      have h245 : S241.1 = S227.1 := by rw [h242]; rfl
      exact En_ret (v := none) rfl rfl rfl ⟨h236, h237, z176, ((h239 _ _ (Or.inl (neTG tgz_159 tgz_165 (by decide)))).trans ((h225 _ _ (Or.inl (neTG tgz_159 tgz_165 (by decide)))).trans ((h212 _ _ (Or.inl (neTG tgz_159 tgz_165 (by decide)))).trans ((h199 _ _ (Or.inl (neTG tgz_159 tgz_165 (by decide)))).trans h177)))), z178, ((h239 _ _ (Or.inl (neTG tgz_159 tgz_165 (by decide)))).trans ((h225 _ _ (Or.inl (neTG tgz_159 tgz_165 (by decide)))).trans ((h212 _ _ (Or.inl (neTG tgz_159 tgz_165 (by decide)))).trans ((h199 _ _ (Or.inl (neTG tgz_159 tgz_165 (by decide)))).trans h179)))), rfl, ⟨by first | exact q_a555021d16 h175.2.2.1 | omega, by first | exact q_76190b61a3 h175.2.2.2.1 | omega, by first | exact q_ccc3bb8fc9 h29.2.2.2.2.1 h175.2.2.2.2.1 | omega, by first | exact q_a555021d16 h175.2.2.2.2.2.1 | omega, by first | exact q_c733b715bf h175.2.2.2.2.2.2.1 | omega, by first | exact q_d22b102a8e h175.2.2.2.2.2.2.2.1 | omega, by first | exact q_28bfca2c13 h29.2.2.2.2.1 h175.2.2.2.2.1 | omega, fun hh => by first | exact q_f10d4a2089 h175.2.2.2.2.2.2.2.1 hh | omega, ⟨h240, ML_eq h243 (by unfold gDoor; dsimp only; rw [h167, ← h185, ← h188, ← h202, ← h215, ← h228, ← h242]; first | done | rfl | (rw [if_pos (by omega)]; first | done | rfl) | (rw [if_neg (by omega)]; first | done | rfl))⟩⟩⟩
  · have h246 : Sp.1 = 0 := iW_g (i := 4) (B := By) (n := Nb) (by (first | exact q_8c31a76373 h23 h15.1 h22 h15.2.1 | omega))
    obtain ⟨S247, h248⟩ : ∃ q : PS, q = adv By Nb Sp := ⟨_, rfl⟩
    have h249 : ML By Nb σ12 S247 := by rw [h248]; exact h19.2.2 (by (first | exact q_bd6a018c53 h23 h15.1 h15.2.1 | omega))
    have h250 := ML_k h249 ((h14 _ _ (inW tgz_159 (by decide +kernel))).trans h_k)
    have h251 : S247.2.2.2 = Sp.2.2.2 := by rw [h248]; exact adv_w
    have h252 : S247.1 = 0 := by rw [h248, adv_1]; exact h246
    refine En_Ps 1 (pc' := 22) (lv' := [(1, .int z8), (0, .ref 159)]) (st' := [.ref 159]) rfl ?_
    refine En_getK (j := 14) ((h14 _ _ (inW tgz_159 (by decide +kernel))).trans h3) rfl rfl rfl tgz_159 (by decide +kernel) ?_
    refine En_Ps 3 (pc' := 28) (lv' := [(1, .int z8), (0, .ref 159)]) (st' := [.int ((z8 + ((Int32.ofInt 0)))), .ref 165]) rfl ?_
    refine En_top (addI rfl (by decide : (Int32.ofInt 0).toInt = 0) (by first | exact q_99c3430a84 h9 h7 hl_nd | omega) (by first | exact q_f785fd662a h9 h7 hp0 | omega)) (fun z253 h254 => ?_)
    refine En_Ps 1 (pc' := 29) (lv' := [(1, .int z8), (0, .ref 159)]) (st' := [.int ((Int32.ofInt 0)), .int z253, .ref 165]) rfl ?_
    refine En_iast (l := 0) (u := 2) rfl rfl tgz_165 (by decide +kernel) (by first | exact q_0793c979f4 h254 h9 h7 hl_nd | omega) (lnI (by decide +kernel : LN _ = 226) (by first | exact q_423028a55f h254 h9 h7 hp0 | omega)) (FTrow 41 10 4 4 (by decide +kernel) (by first | exact q_98dc022afd h254 h9 h7 hl_nd | omega) (by first | exact q_1d408c2e08 h254 h9 h7 hp0 | omega) (by first | exact q_ff09f1b6e5 h7 h9 h254 | omega)) (rngI (by decide : (Int32.ofInt 0).toInt = 0) (by decide) (by decide)) h13 h20 (by decide +kernel) (fun σ255 h256 h257 h258 h259 => ?_)
    have h260 := KF_st h21 (J := z253.toInt) h259 (by (first | exact q_0793c979f4 h254 h9 h7 hl_nd | omega)) (by (first | exact q_6af9c30575 h254 h9 h7 hl_nd | omega))
    have : ((Int32.ofInt 0)).toInt = 0 := (by decide : (Int32.ofInt 0).toInt = 0)
    obtain ⟨S261, h262⟩ : ∃ q : PS, q = wst S247 (10 + 4 * Sp.2.2.2 2) (0) := ⟨_, rfl⟩
    have h263 : ML By Nb σ255 S261 := by rw [h262]; exact (ML_wst (i := 10 + 4 * Sp.2.2.2 2) (v := 0) h249 h258 h259 (by (first | exact q_0793c979f4 h254 h9 h7 hl_nd | omega)) (fun z => by exact ⟨by (first | exact q_f197f3dfc7 h254 h9 h7 h2 | omega), by (first | exact q_2b524d57ed this | omega)⟩))
    have h264 := ML_k h263 ((h259 _ _ (Or.inl (neTG tgz_159 tgz_165 (by decide)))).trans ((h14 _ _ (inW tgz_159 (by decide +kernel))).trans h_k))
    have h265 : S261.1 = S247.1 := by rw [h262]; rfl
    refine En_Ps 1 (pc' := 69) (lv' := [(1, .int z8), (0, .ref 159)]) (st' := []) rfl ?_
    have h266 : gWay By Nb Sp = S261 := by rw [h262, h248]; unfold gWay; (repeat' split) <;> first | rfl | (exfalso; omega) | (exfalso; omega)
    refine En_Ps 1 (pc' := 70) (lv' := [(1, .int z8), (0, .ref 159)]) (st' := [.ref 159]) rfl ?_
    refine En_getK (j := 14) ((h259 _ _ (Or.inl (neTG tgz_159 tgz_165 (by decide)))).trans ((h14 _ _ (inW tgz_159 (by decide +kernel))).trans h3)) rfl rfl rfl tgz_159 (by decide +kernel) ?_
    refine En_Ps 3 (pc' := 76) (lv' := [(1, .int z8), (0, .ref 159)]) (st' := [.int ((z8 + ((Int32.ofInt 1)))), .ref 165]) rfl ?_
    refine En_top (addI rfl (by decide : (Int32.ofInt 1).toInt = 1) (by first | exact q_3c9a54fe80 h9 h7 hl_nd | omega) (by first | exact q_0d21366f43 h9 h7 hp0 | omega)) (fun z267 h268 => ?_)
    refine En_Ps 1 (pc' := 77) (lv' := [(1, .int z8), (0, .ref 159)]) (st' := [.ref 159, .int z267, .ref 165]) rfl ?_
    refine En_ldcS (i := 14) rfl rfl rfl ?_
    refine En_Ps 2 (pc' := 82) (lv' := [(1, .int z8), (0, .ref 159)]) (st' := [.int (((Int8.ofInt 50).toInt32)), .int ((Int32.ofInt 0)), .retAddr 29, .ref 159, .int z267, .ref 165]) rfl ?_
    have := (by decide : ((Int32.ofInt 0)).toInt = 0)
    have := (by decide : (((Int8.ofInt 50).toInt32)).toInt = 50)
    refine En_callV rfl rfl rfl rfl rfl rfl rfl rfl tgz_159 (by decide +kernel) rfl (c_323s14x σ255 h256 ((Int32.ofInt 0)) (((Int8.ofInt 50).toInt32)) (geI (by decide : (Int32.ofInt 0).toInt = 0) (by decide)) (leI (by decide : (Int32.ofInt 0).toInt = 0) (by decide)) (geI (by decide : ((Int8.ofInt 50).toInt32).toInt = 50) (by decide)) (leI (by decide : ((Int8.ofInt 50).toInt32).toInt = 50) (by decide)) z16 ((h259 _ _ (Or.inl (neTG tgz_159 tgz_165 (by decide)))).trans h17) k ((h259 _ _ (Or.inl (neTG tgz_159 tgz_165 (by decide)))).trans ((h14 _ _ (inW tgz_159 (by decide +kernel))).trans h_k)) h263) (by decide) (by decide) (fun v270 σ271 h269 => ?_)
    obtain ⟨h272, h273, z275, h276, z277, h278, z279, rfl, h274⟩ := h269
    have h280 := h274.2.2.2.2.2.2.2.2.2.2.2.2.2.2
    have h281 := Fr_trans h257 h273 (by decide +kernel)
    have h282 := KF_fr h260 h273 (by decide +kernel)
    obtain ⟨S283, h284⟩ : ∃ q : PS, q = pss By Nb (iW By Nb 14 S261) S261 := ⟨_, rfl⟩
    have h285 : tN By Nb ((Int32.ofInt 0)).toInt (((Int8.ofInt 50).toInt32)).toInt (pss By Nb (iW By Nb 14 S261) S261) = tN By Nb (0) (50) S283 := by rw [h284]; exact tN_cg2 (fun _ => by (first | exact q_d2dcd30e56 (by decide) | omega)) (fun _ => by (first | exact q_cd3ef21b91 this | omega))
    obtain ⟨S286, h287⟩ : ∃ q : PS, q = tN By Nb (0) (50) S283 := ⟨_, rfl⟩
    have h288 : ML By Nb σ271 S286 := by rw [h287]; exact (ML_eq h280.1 h285)
    have h289 := ML_k h288 h278
    have h290 : Imp (S286.1 = 0) (z279.toInt = tV By Nb S283.2.2.1) := fun z => by rw [h284]; exact h280.2 (by rw [h285, ← h287]; exact z)
    have h291 := Imp_m h274.2.2.2.2.2.2.2.2.2.1 (by (first | exact q_c5d285f1b9 (by decide) | omega))
    have h292 := Imp_m h274.2.2.2.2.2.2.2.2.2.2.1 (by (first | exact q_097a37c2ae (by decide) | omega))
    have h293 := Imp_m h274.2.2.2.2.2.2.2.2.2.2.2.1 (by (first | exact q_d22d74969a this | omega))
    refine En_iast (l := 0) (u := 50) rfl rfl tgz_165 (by decide +kernel) (by first | exact q_318b2093b5 h268 h9 h7 hl_nd | omega) (lnI (by decide +kernel : LN _ = 226) (by first | exact q_8969c16c6c h268 h9 h7 hp0 | omega)) (FTrow 41 11 4 4 (by decide +kernel) (by first | exact q_446547a38e h268 h9 h7 hl_nd | omega) (by first | exact q_34d6f29e0f h268 h9 h7 hp0 | omega) (by first | exact q_85b5c85b1c h7 h9 h268 | omega)) (rngI rfl (by first | exact q_ef1e8e38bf h274.1 | omega) (by first | exact q_ea6a9ad4e1 h274.2.1 | omega)) h272 h281 (by decide +kernel) (fun σ294 h295 h296 h297 h298 => ?_)
    have h299 := KF_st h282 (J := z267.toInt) h298 (by (first | exact q_318b2093b5 h268 h9 h7 hl_nd | omega)) (by (first | exact q_d805479703 h268 h9 h7 hl_nd | omega))
    obtain ⟨S300, h301⟩ : ∃ q : PS, q = wst S286 (10 + 4 * Sp.2.2.2 2 + 1) ((tV By Nb S283.2.2.1)) := ⟨_, rfl⟩
    have h302 : ML By Nb σ294 S300 := by rw [h301]; exact (ML_wst (i := 10 + 4 * Sp.2.2.2 2 + 1) (v := (tV By Nb S283.2.2.1)) h288 h297 h298 (by (first | exact q_318b2093b5 h268 h9 h7 hl_nd | omega)) (fun z => by have j1 := Imp_m h290 z; exact ⟨by (first | exact q_9c52646f29 h268 h9 h7 h2 | omega), by (first | exact q_a8fb2024c1 j1 | omega)⟩))
    have h303 := ML_k h302 ((h298 _ _ (Or.inl (neTG tgz_159 tgz_165 (by decide)))).trans h278)
    have h304 : S300.1 = S286.1 := by rw [h301]; rfl
    refine En_Ps 1 (pc' := 87) (lv' := [(1, .int z8), (0, .ref 159)]) (st' := [.ref 159]) rfl ?_
    refine En_getK (j := 14) ((h298 _ _ (Or.inl (neTG tgz_159 tgz_165 (by decide)))).trans ((h273 _ _ (inW tgz_159 (by decide +kernel))).trans ((h259 _ _ (Or.inl (neTG tgz_159 tgz_165 (by decide)))).trans ((h14 _ _ (inW tgz_159 (by decide +kernel))).trans h3)))) rfl rfl rfl tgz_159 (by decide +kernel) ?_
    refine En_Ps 3 (pc' := 93) (lv' := [(1, .int z8), (0, .ref 159)]) (st' := [.int ((z8 + ((Int32.ofInt 2)))), .ref 165]) rfl ?_
    refine En_top (addI rfl (by decide : (Int32.ofInt 2).toInt = 2) (by first | exact q_f48788af97 h9 h7 hl_nd | omega) (by first | exact q_c12c3b1724 h9 h7 hp0 | omega)) (fun z305 h306 => ?_)
    refine En_Ps 1 (pc' := 94) (lv' := [(1, .int z8), (0, .ref 159)]) (st' := [.int ((Int32.ofInt 0)), .int z305, .ref 165]) rfl ?_
    refine En_iast (l := 0) (u := 12) rfl rfl tgz_165 (by decide +kernel) (by first | exact q_a578b517ac h306 h9 h7 hl_nd | omega) (lnI (by decide +kernel : LN _ = 226) (by first | exact q_838f9060d0 h306 h9 h7 hp0 | omega)) (FTrow 41 12 4 4 (by decide +kernel) (by first | exact q_25a2632096 h306 h9 h7 hl_nd | omega) (by first | exact q_06b9fd411d h306 h9 h7 hp0 | omega) (by first | exact q_29bc46c6fe h7 h9 h306 | omega)) (rngI (by decide : (Int32.ofInt 0).toInt = 0) (by decide) (by decide)) h295 h296 (by decide +kernel) (fun σ307 h308 h309 h310 h311 => ?_)
    have h312 := KF_st h299 (J := z305.toInt) h311 (by (first | exact q_a578b517ac h306 h9 h7 hl_nd | omega)) (by (first | exact q_95d3f267bd h306 h9 h7 hl_nd | omega))
    have : ((Int32.ofInt 0)).toInt = 0 := (by decide : (Int32.ofInt 0).toInt = 0)
    obtain ⟨S313, h314⟩ : ∃ q : PS, q = wst S300 (10 + 4 * Sp.2.2.2 2 + 2) (0) := ⟨_, rfl⟩
    have h315 : ML By Nb σ307 S313 := by rw [h314]; exact (ML_wst (i := 10 + 4 * Sp.2.2.2 2 + 2) (v := 0) h302 h310 h311 (by (first | exact q_a578b517ac h306 h9 h7 hl_nd | omega)) (fun z => by have j1 := h304.symm.trans z; have j2 := Imp_m h290 j1; exact ⟨by (first | exact q_758e8c98bb h306 h9 h7 h2 | omega), by (first | exact q_2b524d57ed this | omega)⟩))
    have h316 := ML_k h315 ((h311 _ _ (Or.inl (neTG tgz_159 tgz_165 (by decide)))).trans ((h298 _ _ (Or.inl (neTG tgz_159 tgz_165 (by decide)))).trans h278))
    have h317 : S313.1 = S300.1 := by rw [h314]; rfl
    refine En_Ps 1 (pc' := 96) (lv' := [(1, .int z8), (0, .ref 159)]) (st' := [.ref 159]) rfl ?_
    refine En_getK (j := 14) ((h311 _ _ (Or.inl (neTG tgz_159 tgz_165 (by decide)))).trans ((h298 _ _ (Or.inl (neTG tgz_159 tgz_165 (by decide)))).trans ((h273 _ _ (inW tgz_159 (by decide +kernel))).trans ((h259 _ _ (Or.inl (neTG tgz_159 tgz_165 (by decide)))).trans ((h14 _ _ (inW tgz_159 (by decide +kernel))).trans h3))))) rfl rfl rfl tgz_159 (by decide +kernel) ?_
    refine En_Ps 3 (pc' := 102) (lv' := [(1, .int z8), (0, .ref 159)]) (st' := [.int ((z8 + ((Int32.ofInt 3)))), .ref 165]) rfl ?_
    refine En_top (addI rfl (by decide : (Int32.ofInt 3).toInt = 3) (by first | exact q_5241e58928 h9 h7 hl_nd | omega) (by first | exact q_32a0270a1d h9 h7 hp0 | omega)) (fun z318 h319 => ?_)
    refine En_Ps 1 (pc' := 103) (lv' := [(1, .int z8), (0, .ref 159)]) (st' := [.int ((Int32.ofInt (-1))), .int z318, .ref 165]) rfl ?_
    refine En_iast (l := (-1)) (u := 3) rfl rfl tgz_165 (by decide +kernel) (by first | exact q_9dbe57618d h319 h9 h7 hl_nd | omega) (lnI (by decide +kernel : LN _ = 226) (by first | exact q_2daa6dab63 h319 h9 h7 hp0 | omega)) (FTrow 41 13 4 4 (by decide +kernel) (by first | exact q_070b248188 h319 h9 h7 hl_nd | omega) (by first | exact q_ce30d83ae0 h319 h9 h7 hp0 | omega) (by first | exact q_090c32d68c h7 h9 h319 | omega)) (rngI (by decide : (Int32.ofInt (-1)).toInt = -1) (by decide) (by decide)) h308 h309 (by decide +kernel) (fun σ320 h321 h322 h323 h324 => ?_)
    have h325 := KF_st h312 (J := z318.toInt) h324 (by (first | exact q_9dbe57618d h319 h9 h7 hl_nd | omega)) (by (first | exact q_7ee6ca876d h319 h9 h7 hl_nd | omega))
    have : ((Int32.ofInt (-1))).toInt = (-1) := (by decide : (Int32.ofInt (-1)).toInt = -1)
    obtain ⟨S326, h327⟩ : ∃ q : PS, q = wst S313 (10 + 4 * Sp.2.2.2 2 + 3) (-1) := ⟨_, rfl⟩
    have h328 : ML By Nb σ320 S326 := by rw [h327]; exact (ML_wst (i := 10 + 4 * Sp.2.2.2 2 + 3) (v := -1) h315 h323 h324 (by (first | exact q_9dbe57618d h319 h9 h7 hl_nd | omega)) (fun z => by have j1 := h317.symm.trans z; have j2 := h304.symm.trans j1; have j3 := Imp_m h290 j2; exact ⟨by (first | exact q_a841e78b7e h319 h9 h7 h2 | omega), by (first | exact q_c89ebb2db8 this | omega)⟩))
    have h329 := ML_k h328 ((h324 _ _ (Or.inl (neTG tgz_159 tgz_165 (by decide)))).trans ((h311 _ _ (Or.inl (neTG tgz_159 tgz_165 (by decide)))).trans ((h298 _ _ (Or.inl (neTG tgz_159 tgz_165 (by decide)))).trans h278)))
    have h330 : S326.1 = S313.1 := by rw [h327]; rfl
    refine En_Ps 1 (pc' := 105) (lv' := [(1, .int z8), (0, .ref 159)]) (st' := [.ref 159]) rfl ?_
    refine En_getK (j := 14) ((h324 _ _ (Or.inl (neTG tgz_159 tgz_165 (by decide)))).trans ((h311 _ _ (Or.inl (neTG tgz_159 tgz_165 (by decide)))).trans ((h298 _ _ (Or.inl (neTG tgz_159 tgz_165 (by decide)))).trans ((h273 _ _ (inW tgz_159 (by decide +kernel))).trans ((h259 _ _ (Or.inl (neTG tgz_159 tgz_165 (by decide)))).trans ((h14 _ _ (inW tgz_159 (by decide +kernel))).trans h3)))))) rfl rfl rfl tgz_159 (by decide +kernel) ?_
    refine En_Ps 2 (pc' := 110) (lv' := [(1, .int z8), (0, .ref 159)]) (st' := [.int ((Int32.ofInt 2)), .ref 165, .int ((Int32.ofInt 2)), .ref 165]) rfl ?_
    refine En_ialdK ((h324 _ _ (Or.inr (by (first | exact q_c918db81f1 h319 h9 h7 hl_nd | omega)))).trans ((h311 _ _ (Or.inr (by (first | exact q_c1d177e9c0 h306 h9 h7 hl_nd | omega)))).trans ((h298 _ _ (Or.inr (by (first | exact q_2e0e11688b h268 h9 h7 hl_nd | omega)))).trans ((h273 _ _ (inWa tgz_165 (by decide +kernel))).trans ((h259 _ _ (Or.inr (by (first | exact q_40a6d8e873 h254 h9 h7 hl_nd | omega)))).trans ((h14 _ _ (inWa tgz_165 (by decide +kernel))).trans h_nd)))))) rfl (by decide : (Int32.ofInt 2).toInt = 2) tgz_165 (by decide +kernel) h321 (by decide) (lnI (by decide +kernel : LN _ = 226) (by decide)) ?_
    refine En_Ps 2 (pc' := 113) (lv' := [(1, .int z8), (0, .ref 159)]) (st' := [.int ((nd + ((Int32.ofInt 1)))), .int ((Int32.ofInt 2)), .ref 165]) rfl ?_
    refine En_top (addI rfl (by decide : (Int32.ofInt 1).toInt = 1) (by first | exact q_465ab79ac1 hl_nd | omega) (by first | exact q_7dfc9ebb42 hp0 | omega)) (fun z332 h333 => ?_)
    refine En_iast (l := 0) (u := 4) rfl (by decide : (Int32.ofInt 2).toInt = 2) tgz_165 (by decide +kernel) (by decide) (lnI (by decide +kernel : LN _ = 226) (by decide)) (by decide +kernel) (rngI rfl (by first | exact q_35104ce9d3 h333 hl_nd | omega) (by first | exact q_05c9cf81c0 h333 hp0 | omega)) h321 h322 (by decide +kernel) (fun σ334 h335 h336 h337 h338 => ?_)
    have h339 := KF_st h325 (J := 2) h338 (by (first | decide | omega)) (by (first | decide | omega))
    obtain ⟨S340, h341⟩ : ∃ q : PS, q = wst S326 (2) (Sp.2.2.2 2 + 1) := ⟨_, rfl⟩
    have h342 : ML By Nb σ334 S340 := by rw [h341]; exact (ML_wst (i := 2) (v := Sp.2.2.2 2 + 1) h328 h337 h338 (by (first | decide | omega)) (fun z => by have j1 := h330.symm.trans z; have j2 := h317.symm.trans j1; have j3 := h304.symm.trans j2; have j4 := Imp_m h290 j3; exact ⟨by (first | decide | omega), by (first | exact q_c264f2cea9 h333 h2 | omega)⟩))
    have h343 := ML_k h342 ((h338 _ _ (Or.inl (neTG tgz_159 tgz_165 (by decide)))).trans ((h324 _ _ (Or.inl (neTG tgz_159 tgz_165 (by decide)))).trans ((h311 _ _ (Or.inl (neTG tgz_159 tgz_165 (by decide)))).trans ((h298 _ _ (Or.inl (neTG tgz_159 tgz_165 (by decide)))).trans h278))))
    have h344 : S340.1 = S326.1 := by rw [h341]; rfl
    exact En_ret (v := none) rfl rfl rfl ⟨h335, h336, z275, ((h338 _ _ (Or.inl (neTG tgz_159 tgz_165 (by decide)))).trans ((h324 _ _ (Or.inl (neTG tgz_159 tgz_165 (by decide)))).trans ((h311 _ _ (Or.inl (neTG tgz_159 tgz_165 (by decide)))).trans ((h298 _ _ (Or.inl (neTG tgz_159 tgz_165 (by decide)))).trans h276)))), z277, ((h338 _ _ (Or.inl (neTG tgz_159 tgz_165 (by decide)))).trans ((h324 _ _ (Or.inl (neTG tgz_159 tgz_165 (by decide)))).trans ((h311 _ _ (Or.inl (neTG tgz_159 tgz_165 (by decide)))).trans ((h298 _ _ (Or.inl (neTG tgz_159 tgz_165 (by decide)))).trans h278)))), rfl, ⟨by first | exact q_a555021d16 h274.2.2.1 | omega, by first | exact q_76190b61a3 h274.2.2.2.1 | omega, by first | exact q_ccc3bb8fc9 h15.2.2.2.2.1 h274.2.2.2.2.1 | omega, by first | exact q_a555021d16 h274.2.2.2.2.2.1 | omega, by first | exact q_c733b715bf h274.2.2.2.2.2.2.1 | omega, by first | exact q_d22b102a8e h274.2.2.2.2.2.2.2.1 | omega, by first | exact q_28bfca2c13 h15.2.2.2.2.1 h274.2.2.2.2.1 | omega, fun hh => by first | exact q_f10d4a2089 h274.2.2.2.2.2.2.2.1 hh | omega, ⟨h339, ML_eq h342 (by unfold gDoor; dsimp only; rw [h266, ← h284, ← h287, ← h301, ← h314, ← h327, ← h341]; first | done | rfl | (rw [if_pos (by omega)]; first | done | rfl) | (rw [if_neg (by omega)]; first | done | rfl))⟩⟩⟩
end
/-! 32.m03 -/
section
/-- DoorSchoolModel.readLesson()V -/
abbrev P_300x (σ0 : SG) (By : Int → Int) (Nb : Int) (Sp : PS) (f : Int32) (k : Int32) : PO := fun v σ => WT σ ∧ Fr [(35, 8), (35, 9), (35, 10), (35, 11), (35, 12), (35, 13), (41, 0)] σ0 σ ∧ ∃ f1 : Int32, (σ 159)[8]? = some (Value.int f1) ∧ ∃ k1 : Int32, (σ 159)[12]? = some (Value.int k1) ∧ v = none ∧ -f1.toInt ≤ 0 ∧ f1.toInt - 1600 ≤ 0 ∧ -f1.toInt + f.toInt ≤ 0 ∧ -k1.toInt ≤ 0 ∧ k1.toInt - 3 ≤ 0 ∧ -k1.toInt + k.toInt ≤ 0 ∧ f.toInt - f1.toInt ≤ 0 ∧ Imp (k1.toInt ≤ 0) (k.toInt ≤ 0) ∧ (KF σ0 σ ∧ ML By Nb σ (gLesson By Nb Sp))
set_option maxRecDepth 10000 in
set_option maxHeartbeats 4000000 in
theorem c_300x {By : Int → Int} {Nb : Int} {Sp : PS} (σ0 : SG) (hσ0 : WT σ0) (f : Int32) (h_f : (σ0 159)[8]? = some (Value.int f)) (k : Int32) (h_k : (σ0 159)[12]? = some (Value.int k)) (hM : ML By Nb σ0 Sp) (hg : Sp.1 = 0) : En 8 176 none mr_300 (P_300x σ0 By Nb Sp f k) 0 [(0, .ref 159)] [] σ0 := by
  obtain ⟨hl_f, hu_f⟩ := WT_int hσ0 (g := 35) (by decide +kernel) (by decide +kernel) (l := 0) (u := 1600) (by decide +kernel) h_f
  obtain ⟨hl_k, hu_k⟩ := WT_int hσ0 (g := 35) (by decide +kernel) (by decide +kernel) (l := 0) (u := 3) (by decide +kernel) h_k
  have hF0 : Fr [(35, 8), (35, 9), (35, 10), (35, 11), (35, 12), (35, 13), (41, 0)] σ0 σ0 := Fr_rfl
  obtain ⟨z2, h1, h3, h4⟩ := WT_peekI hσ0 tgz_159 (by decide +kernel : FT 35 10 = (0, 0, 4)) (by decide +kernel)
  obtain ⟨z6, h5, h7, h8⟩ := WT_peekI hσ0 tgz_159 (by decide +kernel : FT 35 11 = (0, 0, 99999)) (by decide +kernel)
  have h9 := ML_k hM h_k
  have h10 : Imp (Sp.1 = 0) (tK By Nb Sp.2.2.1 = z2.toInt) := ML_t hM h1
  have h11 : Imp (Sp.1 = 0 ∧ tK By Nb Sp.2.2.1 = 2) (z6.toInt = min 99999 (tV By Nb Sp.2.2.1) ∧ 0 ≤ tV By Nb Sp.2.2.1) := fun q => ML_u hM h5 q.1 q.2
  obtain ⟨z13, h12, h14, h15⟩ := WT_peekI hσ0 tgz_165 (by decide +kernel : FT 41 (2 : Int).toNat = (0, 0, 4)) (by decide +kernel)
  have h16 := ML_w hM hg h12 (by (first | decide | omega)) (by (first | decide | omega))
  try have h17 := Imp_m h10 (by (first | exact q_d2dcd30e56 hg | omega))
  try have h18 := Imp_m h11 (by omega)
  refine En_Ps 2 (pc' := 2) (lv' := [(0, .ref 159)]) (st' := [.ref 159, .ref 159]) rfl ?_
  refine En_getU (j := 14) (u := 165) (g' := 41) (q := 0) rfl rfl rfl tgz_159 (by decide +kernel) hσ0 (by decide +kernel) un_41_165 (fun h19 => ?_)
  refine En_Ps 1 (pc' := 6) (lv' := [(0, .ref 159)]) (st' := [.int ((Int32.ofInt 2)), .ref 165, .ref 159]) rfl ?_
  refine En_ialdK h12 rfl (by decide : (Int32.ofInt 2).toInt = 2) tgz_165 (by decide +kernel) hσ0 (by decide) (lnI (by decide +kernel : LN _ = 226) (by decide)) ?_
  refine En_callV rfl rfl rfl rfl rfl rfl rfl rfl tgz_159 (by decide +kernel) rfl (c_260x σ0 hσ0 z13 k h_k z2 h1 z6 h5) (by decide) (by decide) (fun v23 σ24 h22 => ?_)
  obtain ⟨h25, h26, z28, rfl, h27⟩ := h22
  obtain rfl : σ0 = σ24 := Fr_nil h26
  refine En_iEq _ rfl rfl (fun h29 => ?_) (fun h29 => ?_)
  · have h30 : gLs1 By Nb Sp = Sp := by unfold gLs1; (repeat' split) <;> first | rfl | (exfalso; omega) | ((try have i0 := Imp_m h10 (by omega)); (try have i1 := Imp_m h11 (by omega)); (try have i2 := Imp_m h27.2.2.1 (by omega)); (try have i3 := Imp_m h27.2.2.2 (by omega)); exfalso; omega)
    refine En_Ps 3 (pc' := 42) (lv' := [(0, .ref 159)]) (st' := [.ref 159, .int ((Int32.ofInt 0)), .ref 159]) rfl ?_
    refine En_getK (j := 14) h19 rfl rfl rfl tgz_159 (by decide +kernel) ?_
    refine En_Ps 1 (pc' := 46) (lv' := [(0, .ref 159)]) (st' := [.int ((Int32.ofInt 2)), .ref 165, .int ((Int32.ofInt 0)), .ref 159]) rfl ?_
    refine En_ialdK h12 rfl (by decide : (Int32.ofInt 2).toInt = 2) tgz_165 (by decide +kernel) hσ0 (by decide) (lnI (by decide +kernel : LN _ = 226) (by decide)) ?_
    refine En_Ps 2 (pc' := 49) (lv' := [(0, .ref 159)]) (st' := [.int ((z13 - ((Int32.ofInt 1)))), .int ((Int32.ofInt 0)), .ref 159]) rfl ?_
    refine En_top (subI rfl (by decide : (Int32.ofInt 1).toInt = 1) (by first | exact q_93f9478bef h14 | omega) (by first | exact q_cc3cee8591 h15 | omega)) (fun z32 h33 => ?_)
    have := (by decide : ((Int32.ofInt 0)).toInt = 0)
    refine En_callV rfl rfl rfl rfl rfl rfl rfl rfl tgz_159 (by decide +kernel) rfl (c_288x σ0 hσ0 ((Int32.ofInt 0)) z32 (geI (by decide : (Int32.ofInt 0).toInt = 0) (by decide)) (leI (by decide : (Int32.ofInt 0).toInt = 0) (by decide)) (geI rfl (by first | exact q_e2c277696c h33 h14 | omega)) (leI rfl (by first | exact q_d89d511a18 h33 h15 | omega)) f h_f k h_k z2 h1 z6 h5 hM) (by decide) (by decide) (fun v35 σ36 h34 => ?_)
    obtain ⟨h37, h38, z40, h41, z42, h43, z44, rfl, h39⟩ := h34
    have h45 := h39.2.2.2.2.2.2.2.2.2.2.2.2.2.2.2.2
    have h46 := Fr_trans hF0 h38 (by decide +kernel)
    have h47 := KF_fr (KF_0 (σ := σ0)) h38 (by decide +kernel)
    have h48 : tN By Nb ((Int32.ofInt 0)).toInt z32.toInt Sp = tN By Nb (0) (Sp.2.2.2 2 - 1) Sp := tN_cg2 (fun zz => by have j1 := Imp_m h10 zz; (first | exact q_d2dcd30e56 this | omega)) (fun zz => by have j1 := Imp_m h10 zz; (first | exact q_171d7b85d9 h33 h16 | omega))
    obtain ⟨S49, h50⟩ : ∃ q : PS, q = tN By Nb (0) (Sp.2.2.2 2 - 1) Sp := ⟨_, rfl⟩
    have h51 : ML By Nb σ36 S49 := by rw [h50]; exact (ML_eq h45.1 h48)
    have h52 := ML_k h51 h43
    have h53 : Imp (S49.1 = 0) (z44.toInt = tV By Nb Sp.2.2.1) := fun z => h45.2 (by rw [h48, ← h50]; exact z)
    have h54 : Imp (S49.1 = 0) (Sp.1 = 0 ∧ tK By Nb Sp.2.2.1 = 2 ∧ 0 ≤ tV By Nb Sp.2.2.1 ∧ tV By Nb Sp.2.2.1 ≤ Sp.2.2.2 2 - 1) := fun z => tN_gg (by rw [← h50]; exact z)
    have h55 : S49.2.2.2 = Sp.2.2.2 := by rw [h50]; exact tN_w
    have h56 := Imp_m h39.2.2.2.2.2.2.2.2.2.2.2.1 (by (first | exact q_c5d285f1b9 this | omega))
    have h57 := Imp_m h39.2.2.2.2.2.2.2.2.2.2.2.2.1 (by (first | exact q_097a37c2ae this | omega))
    refine En_Ps 2 (pc' := 54) (lv' := [(1, .int z44), (0, .ref 159)]) (st' := [.ref 159]) rfl ?_
    refine En_callV rfl rfl rfl rfl rfl rfl rfl rfl tgz_159 (by decide +kernel) rfl (c_234x σ36 h37 z40 h41 z42 h43 h51) (by decide) (by decide) (fun v59 σ60 h58 => ?_)
    obtain ⟨h61, h62, z64, h65, z66, h67, z68, rfl, h63⟩ := h58
    have h69 := h63.2.2.2.2.2.2.2.2.2.2.2.2
    have h70 := Fr_trans h46 h62 (by decide +kernel)
    have h71 := KF_fr h47 h62 (by decide +kernel)
    have h72 : tN By Nb 0 (pI (S49.2.2.2 0) - 1) S49 = tN By Nb 0 (pI (Sp.2.2.2 0) - 1) S49 := tN_cg rfl (by first | rfl | simp only [h55] | rfl)
    obtain ⟨S73, h74⟩ : ∃ q : PS, q = tN By Nb 0 (pI (Sp.2.2.2 0) - 1) S49 := ⟨_, rfl⟩
    have h75 : ML By Nb σ60 S73 := by rw [h74]; exact (ML_eq h69.1 h72)
    have h76 := ML_k h75 h67
    have h77 : Imp (S73.1 = 0) (z68.toInt = tV By Nb S49.2.2.1) := fun z => h69.2 (by rw [h72, ← h74]; exact z)
    have h78 : Imp (S73.1 = 0) (S49.1 = 0 ∧ tK By Nb S49.2.2.1 = 2 ∧ 0 ≤ tV By Nb S49.2.2.1 ∧ tV By Nb S49.2.2.1 ≤ pI (Sp.2.2.2 0) - 1) := fun z => tN_gg (by rw [← h74]; exact z)
    have h79 : S73.2.2.2 = S49.2.2.2 := by rw [h74]; exact tN_w
    refine En_Ps 2 (pc' := 59) (lv' := [(2, .int z68), (1, .int z44), (0, .ref 159)]) (st' := [.ref 159]) rfl ?_
    refine En_callV rfl rfl rfl rfl rfl rfl rfl rfl tgz_159 (by decide +kernel) rfl (c_209x σ60 h61 z64 h65 z66 h67 h75) (by decide) (by decide) (fun v81 σ82 h80 => ?_)
    obtain ⟨h83, h84, z86, h87, z88, h89, z90, rfl, h85⟩ := h80
    have h91 := h85.2.2.2.2.2.2.2.2.2.2
    have h92 := Fr_trans h70 h84 (by decide +kernel)
    have h93 := KF_fr h71 h84 (by decide +kernel)
    obtain ⟨S94, h95⟩ : ∃ q : PS, q = gDeed By Nb S73 := ⟨_, rfl⟩
    have h96 : ML By Nb σ82 S94 := by rw [h95]; exact h91.1
    have h97 := ML_k h96 h89
    have h98 : z90.toInt = iW By Nb 8 S73 := h91.2
    have h99 : S94.2.2.2 = S73.2.2.2 := by rw [h95]; exact gDeed_w
    have h100 : Imp (S94.1 = 0) (S73.1 = 0) := fun z => gDeed_g (by rw [← h95]; exact z)
    refine En_Ps 2 (pc' := 64) (lv' := [(3, .int z90), (2, .int z68), (1, .int z44), (0, .ref 159)]) (st' := [.ref 159]) rfl ?_
    refine En_callV rfl rfl rfl rfl rfl rfl rfl rfl tgz_159 (by decide +kernel) rfl (c_237 σ82 h83 z88 h89) (by decide) (by decide) (fun v102 σ103 h101 => ?_)
    obtain ⟨h104, h105, z107, rfl, h106⟩ := h101
    obtain rfl : σ82 = σ103 := Fr_nil h105
    refine En_iNe _ rfl rfl (fun hx => by exfalso; have := Imp_m h39.2.2.2.2.2.2.2.2.2.2.2.2.2.2.2.1 (by (first | exact q_8db751f7ce h63.2.2.2.2.2.2.2.1 h85.2.2.2.2.2.2.2.1 h106.2.2.1 hx h106.1 | omega)); have := Imp_m h63.2.2.2.2.2.2.2.2.2.2.2.1 (by (first | exact q_468044b3db h106.2.2.1 hx h106.1 h85.2.2.2.2.2.2.2.1 | omega)); have := Imp_m h85.2.2.2.2.2.2.2.2.2.1 (by (first | exact q_59622b1fc0 h106.2.2.1 hx h106.1 | omega)); have := Imp_m h27.2.2.2 (by omega); have := Imp_m h39.2.2.2.2.2.2.2.2.2.2.2.2.2.1 (by omega); have := Imp_m h39.2.2.2.2.2.2.2.2.2.2.2.2.2.2.1 (by omega); omega) (fun h108 => ?_)
    exact En_ret (v := none) rfl rfl rfl ⟨h83, h92, z86, h87, z88, h89, rfl, ⟨by first | exact q_a555021d16 h85.2.2.1 | omega, by first | exact q_76190b61a3 h85.2.2.2.1 | omega, by first | exact q_06e02fd287 h39.2.2.2.2.1 h63.2.2.2.2.1 h85.2.2.2.2.1 | omega, by first | exact q_a555021d16 h85.2.2.2.2.2.1 | omega, by first | exact q_c733b715bf h85.2.2.2.2.2.2.1 | omega, by first | exact q_06e02fd287 h39.2.2.2.2.2.2.2.1 h63.2.2.2.2.2.2.2.1 h85.2.2.2.2.2.2.2.1 | omega, by first | exact q_5ee31f9195 h39.2.2.2.2.1 h63.2.2.2.2.1 h85.2.2.2.2.1 | omega, fun hh => by first | exact q_d014d9bd7d h39.2.2.2.2.2.2.2.1 h63.2.2.2.2.2.2.2.1 h85.2.2.2.2.2.2.2.1 hh | omega, ⟨h93, ML_eq h96 (by unfold gLesson; dsimp only; rw [h30, ← h50, ← h74, ← h95]; first | done | rfl | (rw [if_pos (by omega)]; first | done | rfl) | (rw [if_neg (by (first | exact q_4abb957687 h106.2.2.2 h108 h97 | omega))]; first | done | rfl))⟩⟩⟩
  · have h109 := Imp_m h27.2.2.1 (by first | exact q_e3350da514 h29 h27.1 | omega)
    have h110 : Sp.1 = 0 := by (first | exact q_d2dcd30e56 hg | omega)
    have h111 := Imp_m h10 h110
    have h112 : tK By Nb Sp.2.2.1 = 2 := by (first | exact q_b919d68c0b h111 h109.2.2.1 h109.2.1 | omega)
    have h113 := Imp_m h10 h110
    have h114 := Imp_m h11 ⟨h110, h112⟩
    refine En_Ps 1 (pc' := 14) (lv' := [(0, .ref 159)]) (st' := [.ref 159]) rfl ?_
    refine En_getK (j := 14) h19 rfl rfl rfl tgz_159 (by decide +kernel) ?_
    refine En_Ps 3 (pc' := 21) (lv' := [(0, .ref 159)]) (st' := [.ref 159, .int ((Int32.ofInt 4)), .int (((Int8.ofInt 10).toInt32)), .ref 165]) rfl ?_
    refine En_getK (j := 11) h5 rfl rfl rfl tgz_159 (by decide +kernel) ?_
    refine En_Ps 1 (pc' := 25) (lv' := [(0, .ref 159)]) (st' := [.int ((((Int32.ofInt 4)) * z6)), .int (((Int8.ofInt 10).toInt32)), .ref 165]) rfl ?_
    refine En_top (mulI (by decide : (Int32.ofInt 4).toInt = 4) rfl (Z := 4 * z6.toInt) (by first | exact q_8696eb12a7 | omega) (by first | exact q_be45967ac2 h7 | omega) (by first | exact q_000e87af3c h109.2.2.2 h15 | omega)) (fun z115 h116 => ?_)
    refine En_Ps 1 (pc' := 26) (lv' := [(0, .ref 159)]) (st' := [.int (((((Int8.ofInt 10).toInt32)) + z115)), .ref 165]) rfl ?_
    refine En_top (addI (by decide : ((Int8.ofInt 10).toInt32).toInt = 10) rfl (by first | exact q_7bfa00123f h116 h7 | omega) (by first | exact q_5be619cc88 h116 h109.2.2.2 h15 | omega)) (fun z117 h118 => ?_)
    refine En_Ps 2 (pc' := 28) (lv' := [(0, .ref 159)]) (st' := [.int ((z117 + ((Int32.ofInt 2)))), .ref 165]) rfl ?_
    refine En_top (addI rfl (by decide : (Int32.ofInt 2).toInt = 2) (by first | exact q_f48788af97 h118 h116 h7 | omega) (by first | exact q_219b66b40e h118 h116 h109.2.2.2 h15 | omega)) (fun z119 h120 => ?_)
    refine En_iald (l := 0) (u := 12) rfl rfl tgz_165 (by decide +kernel) hσ0 (by first | exact q_a578b517ac h120 h118 h116 h7 | omega) (lnI (by decide +kernel : LN _ = 226) (by first | exact q_65e1851e0c h120 h118 h116 h109.2.2.2 h15 | omega)) (FTrow 41 12 4 4 (by decide +kernel) (by first | exact q_25a2632096 h120 h118 h116 h7 | omega) (by first | exact q_0906d53f5c h120 h118 h116 h109.2.2.2 h15 | omega) (by first | exact q_29bc46c6fe h116 h118 h120 | omega)) (fun z122 h121 h123 h124 => ?_)
    have h125 : Sp.2.2.2 (12 + 4 * tV By Nb Sp.2.2.1) = z122.toInt := ML_wi hM hg h121 (by omega) (by (first | exact q_8a0e8d37df h114.2 | omega)) (by omega)
    refine En_Ps 1 (pc' := 31) (lv' := [(0, .ref 159)]) (st' := [.int (((Int8.ofInt 12).toInt32)), .int z122]) rfl ?_
    refine En_icNe _ rfl (by decide : ((Int8.ofInt 12).toInt32).toInt = 12) rfl (fun h126 => ?_) (fun h126 => ?_)
    · have h127 : gLs1 By Nb Sp = Sp := by unfold gLs1; (repeat' split) <;> first | rfl | (exfalso; omega) | ((try have i0 := Imp_m h10 (by omega)); (try have i1 := Imp_m h11 (by omega)); (try have i2 := Imp_m h27.2.2.2 (by omega)); exfalso; omega)
      refine En_Ps 3 (pc' := 42) (lv' := [(0, .ref 159)]) (st' := [.ref 159, .int ((Int32.ofInt 0)), .ref 159]) rfl ?_
      refine En_getK (j := 14) h19 rfl rfl rfl tgz_159 (by decide +kernel) ?_
      refine En_Ps 1 (pc' := 46) (lv' := [(0, .ref 159)]) (st' := [.int ((Int32.ofInt 2)), .ref 165, .int ((Int32.ofInt 0)), .ref 159]) rfl ?_
      refine En_ialdK h12 rfl (by decide : (Int32.ofInt 2).toInt = 2) tgz_165 (by decide +kernel) hσ0 (by decide) (lnI (by decide +kernel : LN _ = 226) (by decide)) ?_
      refine En_Ps 2 (pc' := 49) (lv' := [(0, .ref 159)]) (st' := [.int ((z13 - ((Int32.ofInt 1)))), .int ((Int32.ofInt 0)), .ref 159]) rfl ?_
      refine En_top (subI rfl (by decide : (Int32.ofInt 1).toInt = 1) (by first | exact q_93f9478bef h14 | omega) (by first | exact q_cc3cee8591 h15 | omega)) (fun z129 h130 => ?_)
      have := (by decide : ((Int32.ofInt 0)).toInt = 0)
      refine En_callV rfl rfl rfl rfl rfl rfl rfl rfl tgz_159 (by decide +kernel) rfl (c_288x σ0 hσ0 ((Int32.ofInt 0)) z129 (geI (by decide : (Int32.ofInt 0).toInt = 0) (by decide)) (leI (by decide : (Int32.ofInt 0).toInt = 0) (by decide)) (geI rfl (by first | exact q_e2c277696c h130 h14 | omega)) (leI rfl (by first | exact q_d89d511a18 h130 h15 | omega)) f h_f k h_k z2 h1 z6 h5 hM) (by decide) (by decide) (fun v132 σ133 h131 => ?_)
      obtain ⟨h134, h135, z137, h138, z139, h140, z141, rfl, h136⟩ := h131
      have h142 := h136.2.2.2.2.2.2.2.2.2.2.2.2.2.2.2.2
      have h143 := Fr_trans hF0 h135 (by decide +kernel)
      have h144 := KF_fr (KF_0 (σ := σ0)) h135 (by decide +kernel)
      have h145 : tN By Nb ((Int32.ofInt 0)).toInt z129.toInt Sp = tN By Nb (0) (Sp.2.2.2 2 - 1) Sp := tN_cg2 (fun zz => by have j1 := Imp_m h10 zz; (first | exact q_d2dcd30e56 this | omega)) (fun zz => by have j1 := Imp_m h10 zz; (first | exact q_171d7b85d9 h130 h16 | omega))
      obtain ⟨S146, h147⟩ : ∃ q : PS, q = tN By Nb (0) (Sp.2.2.2 2 - 1) Sp := ⟨_, rfl⟩
      have h148 : ML By Nb σ133 S146 := by rw [h147]; exact (ML_eq h142.1 h145)
      have h149 := ML_k h148 h140
      have h150 : Imp (S146.1 = 0) (z141.toInt = tV By Nb Sp.2.2.1) := fun z => h142.2 (by rw [h145, ← h147]; exact z)
      have h151 : Imp (S146.1 = 0) (Sp.1 = 0 ∧ tK By Nb Sp.2.2.1 = 2 ∧ 0 ≤ tV By Nb Sp.2.2.1 ∧ tV By Nb Sp.2.2.1 ≤ Sp.2.2.2 2 - 1) := fun z => tN_gg (by rw [← h147]; exact z)
      have h152 : S146.2.2.2 = Sp.2.2.2 := by rw [h147]; exact tN_w
      have h153 := Imp_m h136.2.2.2.2.2.2.2.2.2.2.2.1 (by (first | exact q_c5d285f1b9 this | omega))
      have h154 := Imp_m h136.2.2.2.2.2.2.2.2.2.2.2.2.1 (by (first | exact q_097a37c2ae this | omega))
      have h155 := Imp_m h136.2.2.2.2.2.2.2.2.2.2.2.2.2.1 (by first | exact q_a3a41410e6 h130 h109.2.2.2 h7 | omega)
      refine En_Ps 2 (pc' := 54) (lv' := [(1, .int z141), (0, .ref 159)]) (st' := [.ref 159]) rfl ?_
      refine En_callV rfl rfl rfl rfl rfl rfl rfl rfl tgz_159 (by decide +kernel) rfl (c_234x σ133 h134 z137 h138 z139 h140 h148) (by decide) (by decide) (fun v157 σ158 h156 => ?_)
      obtain ⟨h159, h160, z162, h163, z164, h165, z166, rfl, h161⟩ := h156
      have h167 := h161.2.2.2.2.2.2.2.2.2.2.2.2
      have h168 := Fr_trans h143 h160 (by decide +kernel)
      have h169 := KF_fr h144 h160 (by decide +kernel)
      have h170 : tN By Nb 0 (pI (S146.2.2.2 0) - 1) S146 = tN By Nb 0 (pI (Sp.2.2.2 0) - 1) S146 := tN_cg rfl (by first | rfl | simp only [h152] | rfl)
      obtain ⟨S171, h172⟩ : ∃ q : PS, q = tN By Nb 0 (pI (Sp.2.2.2 0) - 1) S146 := ⟨_, rfl⟩
      have h173 : ML By Nb σ158 S171 := by rw [h172]; exact (ML_eq h167.1 h170)
      have h174 := ML_k h173 h165
      have h175 : Imp (S171.1 = 0) (z166.toInt = tV By Nb S146.2.2.1) := fun z => h167.2 (by rw [h170, ← h172]; exact z)
      have h176 : Imp (S171.1 = 0) (S146.1 = 0 ∧ tK By Nb S146.2.2.1 = 2 ∧ 0 ≤ tV By Nb S146.2.2.1 ∧ tV By Nb S146.2.2.1 ≤ pI (Sp.2.2.2 0) - 1) := fun z => tN_gg (by rw [← h172]; exact z)
      have h177 : S171.2.2.2 = S146.2.2.2 := by rw [h172]; exact tN_w
      refine En_Ps 2 (pc' := 59) (lv' := [(2, .int z166), (1, .int z141), (0, .ref 159)]) (st' := [.ref 159]) rfl ?_
      refine En_callV rfl rfl rfl rfl rfl rfl rfl rfl tgz_159 (by decide +kernel) rfl (c_209x σ158 h159 z162 h163 z164 h165 h173) (by decide) (by decide) (fun v179 σ180 h178 => ?_)
      obtain ⟨h181, h182, z184, h185, z186, h187, z188, rfl, h183⟩ := h178
      have h189 := h183.2.2.2.2.2.2.2.2.2.2
      have h190 := Fr_trans h168 h182 (by decide +kernel)
      have h191 := KF_fr h169 h182 (by decide +kernel)
      obtain ⟨S192, h193⟩ : ∃ q : PS, q = gDeed By Nb S171 := ⟨_, rfl⟩
      have h194 : ML By Nb σ180 S192 := by rw [h193]; exact h189.1
      have h195 := ML_k h194 h187
      have h196 : z188.toInt = iW By Nb 8 S171 := h189.2
      have h197 : S192.2.2.2 = S171.2.2.2 := by rw [h193]; exact gDeed_w
      have h198 : Imp (S192.1 = 0) (S171.1 = 0) := fun z => gDeed_g (by rw [← h193]; exact z)
      refine En_Ps 2 (pc' := 64) (lv' := [(3, .int z188), (2, .int z166), (1, .int z141), (0, .ref 159)]) (st' := [.ref 159]) rfl ?_
      refine En_callV rfl rfl rfl rfl rfl rfl rfl rfl tgz_159 (by decide +kernel) rfl (c_237 σ180 h181 z186 h187) (by decide) (by decide) (fun v200 σ201 h199 => ?_)
      obtain ⟨h202, h203, z205, rfl, h204⟩ := h199
      obtain rfl : σ180 = σ201 := Fr_nil h203
      refine En_iNe _ rfl rfl (fun h206 => ?_) (fun h206 => ?_)
      · have h207 := Imp_m h136.2.2.2.2.2.2.2.2.2.2.2.2.2.2.2.1 (by (first | exact q_8db751f7ce h161.2.2.2.2.2.2.2.1 h183.2.2.2.2.2.2.2.1 h204.2.2.1 h206 h204.1 | omega))
        have h208 := Imp_m h161.2.2.2.2.2.2.2.2.2.2.2.1 (by (first | exact q_468044b3db h204.2.2.1 h206 h204.1 h183.2.2.2.2.2.2.2.1 | omega))
        have h209 := Imp_m h183.2.2.2.2.2.2.2.2.2.1 (by (first | exact q_59622b1fc0 h204.2.2.1 h206 h204.1 | omega))
        have h210 : S192.1 = 0 := by (first | exact q_1d088e2de8 h195 h183.2.2.2.2.2.1 h204.2.2.1 h206 h204.1 | omega)
        have h211 := Imp_m h198 h210
        have h212 := Imp_m h175 h211
        have h213 := Imp_m h176 h211
        have h214 := Imp_m h150 h213.1
        have h215 := Imp_m h151 h213.1
        have h216 := Imp_m h10 h215.1
        have h217 := Imp_m h11 ⟨h215.1, h215.2.1⟩
        refine En_Ps 2 (pc' := 73) (lv' := [(3, .int z188), (2, .int z166), (1, .int z141), (0, .ref 159)]) (st' := [.ref 159, .int z141]) rfl ?_
        refine En_getK (j := 14) ((h182 _ _ (inW tgz_159 (by decide +kernel))).trans ((h160 _ _ (inW tgz_159 (by decide +kernel))).trans ((h135 _ _ (inW tgz_159 (by decide +kernel))).trans h19))) rfl rfl rfl tgz_159 (by decide +kernel) ?_
        refine En_Ps 4 (pc' := 81) (lv' := [(3, .int z188), (2, .int z166), (1, .int z141), (0, .ref 159)]) (st' := [.int ((((Int32.ofInt 4)) * z141)), .int (((Int8.ofInt 10).toInt32)), .ref 165, .int z141]) rfl ?_
        refine En_top (mulI (by decide : (Int32.ofInt 4).toInt = 4) rfl (Z := 4 * z141.toInt) (by first | exact q_8696eb12a7 | omega) (by first | exact q_75d17c0fda h207.2.2.2.2.1 h7 | omega) (by first | exact q_9ffa38fd64 h207.2.2.2.1 h207.2.2.2.2.2.2 h130 h15 | omega)) (fun z218 h219 => ?_)
        refine En_Ps 1 (pc' := 82) (lv' := [(3, .int z188), (2, .int z166), (1, .int z141), (0, .ref 159)]) (st' := [.int (((((Int8.ofInt 10).toInt32)) + z218)), .ref 165, .int z141]) rfl ?_
        refine En_top (addI (by decide : ((Int8.ofInt 10).toInt32).toInt = 10) rfl (by first | exact q_4cee74ce4d h219 h207.2.2.2.2.1 h7 | omega) (by first | exact q_9c8e44848d h219 h207.2.2.2.1 h207.2.2.2.2.2.2 h130 h15 | omega)) (fun z220 h221 => ?_)
        refine En_Ps 2 (pc' := 84) (lv' := [(3, .int z188), (2, .int z166), (1, .int z141), (0, .ref 159)]) (st' := [.int ((z220 + ((Int32.ofInt 2)))), .ref 165, .int z141]) rfl ?_
        refine En_top (addI rfl (by decide : (Int32.ofInt 2).toInt = 2) (by first | exact q_0034b71563 h221 h219 h207.2.2.2.2.1 h7 | omega) (by first | exact q_780bac3a59 h221 h219 h207.2.2.2.1 h207.2.2.2.2.2.2 h130 h15 | omega)) (fun z222 h223 => ?_)
        have h225 : (σ180 165)[(z222.toInt).toNat]? = some (Value.int z122) := by rw [show (z222.toInt) = (z119.toInt) by (first | exact q_63fa952095 h223 h221 h219 h207.2.2.2.2.1 h120 h118 h116 h207.2.2.2.1 | omega)]; exact ((h182 _ _ (inWa tgz_165 (by decide +kernel))).trans ((h160 _ _ (inWa tgz_165 (by decide +kernel))).trans ((h135 _ _ (inWa tgz_165 (by decide +kernel))).trans h121)))
        refine En_ialdK h225 rfl rfl tgz_165 (by decide +kernel) h181 (by first | exact q_8f32cf81e9 h223 h221 h219 h207.2.2.2.2.1 h7 | omega) (lnI (by decide +kernel : LN _ = 226) (by first | exact q_6fb78dd1f5 h223 h221 h219 h207.2.2.2.1 h207.2.2.2.2.2.2 h130 h15 | omega)) ?_
        have h226 : S192.2.2.2 (12 + 4 * (tV By Nb Sp.2.2.1)) = z122.toInt := ML_wi h194 (by (first | exact q_d2dcd30e56 h210 | omega)) ((h182 _ _ (inWa tgz_165 (by decide +kernel))).trans ((h160 _ _ (inWa tgz_165 (by decide +kernel))).trans ((h135 _ _ (inWa tgz_165 (by decide +kernel))).trans h121))) (by (first | exact q_b652749a4f h214 h207.2.2.2.2.1 h120 h118 h116 h207.2.2.2.1 | omega)) (by (first | exact q_8a0e8d37df h217.2 | omega)) (by (first | exact q_18c5e5ad8a h215.2.2.2 h16 h15 | omega))
        rw [h197, h177, h152] at h226
        refine En_callS rfl rfl rfl rfl rfl rfl rfl rfl rfl (c_281 σ180 h181 z141 z122 (geI rfl (by first | exact q_ef1e8e38bf h136.1 | omega)) (leI rfl (by first | exact q_012949e807 h207.2.2.2.1 h207.2.2.2.2.2.2 h130 h15 | omega)) (geI rfl (by first | exact q_58e6e51dcc h123 | omega)) (leI rfl (by first | exact q_f080a0e48d h126 h124 | omega))) (by decide) (by decide) (fun v229 σ230 h228 => ?_)
        obtain ⟨h231, h232, z234, rfl, h233⟩ := h228
        obtain rfl : σ180 = σ230 := Fr_nil h232
        refine En_Ps 2 (pc' := 91) (lv' := [(4, .int z234), (3, .int z188), (2, .int z166), (1, .int z141), (0, .ref 159)]) (st' := [.ref 159]) rfl ?_
        refine En_getK (j := 14) ((h182 _ _ (inW tgz_159 (by decide +kernel))).trans ((h160 _ _ (inW tgz_159 (by decide +kernel))).trans ((h135 _ _ (inW tgz_159 (by decide +kernel))).trans h19))) rfl rfl rfl tgz_159 (by decide +kernel) ?_
        refine En_Ps 2 (pc' := 97) (lv' := [(4, .int z234), (3, .int z188), (2, .int z166), (1, .int z141), (0, .ref 159)]) (st' := [.int z166, .int z234, .ref 165]) rfl ?_
        refine En_iast (l := 0) (u := 15) rfl rfl tgz_165 (by decide +kernel) (by first | exact q_2c9de765f8 h233.1 | omega) (lnI (by decide +kernel : LN _ = 226) (by first | exact q_0616d82733 h233.2.1 | omega)) (FTrow 41 26 2 48 (by decide +kernel) (by first | exact q_cfcbae6494 h233.1 | omega) (by first | exact q_0e23becc5b h233.2.2.1 h126 h124 h207.2.2.2.1 h207.2.2.2.2.2.2 h130 h15 | omega) (by first | exact q_bfc7928b1f h233.2.2.1 h233.2.2.2 | omega)) (rngI rfl (by first | exact q_ef1e8e38bf h161.1 | omega) (by first | exact q_5a5f544404 h161.2.1 | omega)) h181 h190 (by decide +kernel) (fun σ235 h236 h237 h238 h239 => ?_)
        have h240 := KF_st h191 (J := z234.toInt) h239 (by (first | exact q_2c9de765f8 h233.1 | omega)) (by (first | exact q_ae607fc6bd h233.1 | omega))
        obtain ⟨S241, h242⟩ : ∃ q : PS, q = wst S192 (26 + 24 * (tV By Nb Sp.2.2.1) + 2 * Sp.2.2.2 (12 + 4 * (tV By Nb Sp.2.2.1))) ((tV By Nb S146.2.2.1)) := ⟨_, rfl⟩
        have h243 : ML By Nb σ235 S241 := by rw [h242]; exact (ML_wst (i := 26 + 24 * (tV By Nb Sp.2.2.1) + 2 * Sp.2.2.2 (12 + 4 * (tV By Nb Sp.2.2.1))) (v := (tV By Nb S146.2.2.1)) h194 h238 h239 (by (first | exact q_2c9de765f8 h233.1 | omega)) (fun z => by have j1 := Imp_m h198 z; have j2 := Imp_m h175 j1; have j3 := Imp_m h176 j1; have j4 := Imp_m h150 j3.1; have j5 := Imp_m h151 j3.1; have j6 := Imp_m h10 j5.1; have j7 := Imp_m h11 ⟨j5.1, j5.2.1⟩; exact ⟨by (first | exact q_51c97dac2a j4 h233.2.2.1 h226 h233.2.2.2 | omega), by (first | exact q_a8fb2024c1 j2 | omega)⟩))
        have h244 := ML_k h243 ((h239 _ _ (Or.inl (neTG tgz_159 tgz_165 (by decide)))).trans h187)
        have h245 : S241.1 = S192.1 := by rw [h242]; rfl
        refine En_Ps 1 (pc' := 99) (lv' := [(4, .int z234), (3, .int z188), (2, .int z166), (1, .int z141), (0, .ref 159)]) (st' := [.ref 159]) rfl ?_
        refine En_getK (j := 14) ((h239 _ _ (Or.inl (neTG tgz_159 tgz_165 (by decide)))).trans ((h182 _ _ (inW tgz_159 (by decide +kernel))).trans ((h160 _ _ (inW tgz_159 (by decide +kernel))).trans ((h135 _ _ (inW tgz_159 (by decide +kernel))).trans h19)))) rfl rfl rfl tgz_159 (by decide +kernel) ?_
        refine En_Ps 3 (pc' := 106) (lv' := [(4, .int z234), (3, .int z188), (2, .int z166), (1, .int z141), (0, .ref 159)]) (st' := [.int ((z234 + ((Int32.ofInt 1)))), .ref 165]) rfl ?_
        refine En_top (addI rfl (by decide : (Int32.ofInt 1).toInt = 1) (by first | exact q_c40141e2b1 h233.1 | omega) (by first | exact q_919014a1f8 h233.2.1 | omega)) (fun z246 h247 => ?_)
        refine En_Ps 1 (pc' := 107) (lv' := [(4, .int z234), (3, .int z188), (2, .int z166), (1, .int z141), (0, .ref 159)]) (st' := [.int z188, .int z246, .ref 165]) rfl ?_
        refine En_iast (l := 0) (u := 1) rfl rfl tgz_165 (by decide +kernel) (by first | exact q_f9ae7b6bc1 h247 h233.1 | omega) (lnI (by decide +kernel : LN _ = 226) (by first | exact q_4c6d633468 h247 h233.2.1 | omega)) (FTrow 41 27 2 48 (by decide +kernel) (by first | exact q_af8e3f94d3 h247 h233.1 | omega) (by (first | exact q_c49ea05101 h247 h233.2.2.1 h155 h130 h126 h124 h15 | omega)) (by first | exact q_493b8125c1 h233.2.2.1 h247 h233.2.2.2 | omega)) (rngI rfl (by first | exact q_ef1e8e38bf h183.1 | omega) (by first | exact q_733c8bfbae h183.2.1 | omega)) h236 h237 (by decide +kernel) (fun σ248 h249 h250 h251 h252 => ?_)
        have h253 := KF_st h240 (J := z246.toInt) h252 (by (first | exact q_f9ae7b6bc1 h247 h233.1 | omega)) (by (first | exact q_ca8756ca60 h247 h233.1 | omega))
        obtain ⟨S254, h255⟩ : ∃ q : PS, q = wst S241 (26 + 24 * (tV By Nb Sp.2.2.1) + 2 * Sp.2.2.2 (12 + 4 * (tV By Nb Sp.2.2.1)) + 1) ((iW By Nb 8 S171)) := ⟨_, rfl⟩
        have h256 : ML By Nb σ248 S254 := by rw [h255]; exact (ML_wst (i := 26 + 24 * (tV By Nb Sp.2.2.1) + 2 * Sp.2.2.2 (12 + 4 * (tV By Nb Sp.2.2.1)) + 1) (v := (iW By Nb 8 S171)) h243 h251 h252 (by (first | exact q_f9ae7b6bc1 h247 h233.1 | omega)) (fun z => by have j1 := h245.symm.trans z; have j2 := Imp_m h198 j1; have j3 := Imp_m h175 j2; have j4 := Imp_m h176 j2; have j5 := Imp_m h150 j4.1; have j6 := Imp_m h151 j4.1; have j7 := Imp_m h10 j6.1; have j8 := Imp_m h11 ⟨j6.1, j6.2.1⟩; exact ⟨by (first | exact q_8e2fe56b26 j5 h247 h233.2.2.1 h226 h233.2.2.2 | omega), by (first | exact q_a8fb2024c1 h196 | omega)⟩))
        have h257 := ML_k h256 ((h252 _ _ (Or.inl (neTG tgz_159 tgz_165 (by decide)))).trans ((h239 _ _ (Or.inl (neTG tgz_159 tgz_165 (by decide)))).trans h187))
        have h258 : S254.1 = S241.1 := by rw [h255]; rfl
        refine En_Ps 1 (pc' := 109) (lv' := [(4, .int z234), (3, .int z188), (2, .int z166), (1, .int z141), (0, .ref 159)]) (st' := [.ref 159]) rfl ?_
        refine En_getK (j := 14) ((h252 _ _ (Or.inl (neTG tgz_159 tgz_165 (by decide)))).trans ((h239 _ _ (Or.inl (neTG tgz_159 tgz_165 (by decide)))).trans ((h182 _ _ (inW tgz_159 (by decide +kernel))).trans ((h160 _ _ (inW tgz_159 (by decide +kernel))).trans ((h135 _ _ (inW tgz_159 (by decide +kernel))).trans h19))))) rfl rfl rfl tgz_159 (by decide +kernel) ?_
        refine En_Ps 4 (pc' := 117) (lv' := [(4, .int z234), (3, .int z188), (2, .int z166), (1, .int z141), (0, .ref 159)]) (st' := [.int ((((Int32.ofInt 4)) * z141)), .int (((Int8.ofInt 10).toInt32)), .ref 165]) rfl ?_
        refine En_top (mulI (by decide : (Int32.ofInt 4).toInt = 4) rfl (Z := 4 * z141.toInt) (by first | exact q_8696eb12a7 | omega) (by first | exact q_75d17c0fda h207.2.2.2.2.1 h7 | omega) (by first | exact q_9ffa38fd64 h207.2.2.2.1 h207.2.2.2.2.2.2 h130 h15 | omega)) (fun z259 h260 => ?_)
        refine En_Ps 1 (pc' := 118) (lv' := [(4, .int z234), (3, .int z188), (2, .int z166), (1, .int z141), (0, .ref 159)]) (st' := [.int (((((Int8.ofInt 10).toInt32)) + z259)), .ref 165]) rfl ?_
        refine En_top (addI (by decide : ((Int8.ofInt 10).toInt32).toInt = 10) rfl (by first | exact q_4cee74ce4d h260 h207.2.2.2.2.1 h7 | omega) (by first | exact q_9c8e44848d h260 h207.2.2.2.1 h207.2.2.2.2.2.2 h130 h15 | omega)) (fun z261 h262 => ?_)
        refine En_Ps 2 (pc' := 120) (lv' := [(4, .int z234), (3, .int z188), (2, .int z166), (1, .int z141), (0, .ref 159)]) (st' := [.int ((z261 + ((Int32.ofInt 2)))), .ref 165]) rfl ?_
        refine En_top (addI rfl (by decide : (Int32.ofInt 2).toInt = 2) (by first | exact q_0034b71563 h262 h260 h207.2.2.2.2.1 h7 | omega) (by first | exact q_780bac3a59 h262 h260 h207.2.2.2.1 h207.2.2.2.2.2.2 h130 h15 | omega)) (fun z263 h264 => ?_)
        refine En_Ps 1 (pc' := 121) (lv' := [(4, .int z234), (3, .int z188), (2, .int z166), (1, .int z141), (0, .ref 159)]) (st' := [.int z263, .ref 165, .int z263, .ref 165]) rfl ?_
        have h266 : (σ248 165)[(z263.toInt).toNat]? = some (Value.int z122) := by rw [show (z263.toInt) = (z119.toInt) by (first | exact q_63fa952095 h264 h262 h260 h207.2.2.2.2.1 h120 h118 h116 h207.2.2.2.1 | omega)]; exact ((h252 _ _ (Or.inr (by (first | exact q_f843b7e69c h120 h118 h116 h247 h233.1 h233.2.2.2 h207.2.2.2.2.1 h123 | omega)))).trans ((h239 _ _ (Or.inr (by (first | exact q_77ed723856 h120 h118 h116 h233.1 h233.2.2.2 h207.2.2.2.2.1 h123 | omega)))).trans ((h182 _ _ (inWa tgz_165 (by decide +kernel))).trans ((h160 _ _ (inWa tgz_165 (by decide +kernel))).trans ((h135 _ _ (inWa tgz_165 (by decide +kernel))).trans h121)))))
        refine En_ialdK h266 rfl rfl tgz_165 (by decide +kernel) h249 (by first | exact q_8f32cf81e9 h264 h262 h260 h207.2.2.2.2.1 h7 | omega) (lnI (by decide +kernel : LN _ = 226) (by first | exact q_6fb78dd1f5 h264 h262 h260 h207.2.2.2.1 h207.2.2.2.2.2.2 h130 h15 | omega)) ?_
        refine En_Ps 2 (pc' := 124) (lv' := [(4, .int z234), (3, .int z188), (2, .int z166), (1, .int z141), (0, .ref 159)]) (st' := [.int ((z122 + ((Int32.ofInt 1)))), .int z263, .ref 165]) rfl ?_
        refine En_top (addI rfl (by decide : (Int32.ofInt 1).toInt = 1) (by first | exact q_465ab79ac1 h123 | omega) (by first | exact q_169b3a8678 h126 h124 | omega)) (fun z267 h268 => ?_)
        refine En_iast (l := 0) (u := 12) rfl rfl tgz_165 (by decide +kernel) (by first | exact q_8f32cf81e9 h264 h262 h260 h207.2.2.2.2.1 h7 | omega) (lnI (by decide +kernel : LN _ = 226) (by first | exact q_6fb78dd1f5 h264 h262 h260 h207.2.2.2.1 h207.2.2.2.2.2.2 h130 h15 | omega)) (FTrow 41 12 4 4 (by decide +kernel) (by first | exact q_48d69119bc h264 h262 h260 h207.2.2.2.2.1 h7 | omega) (by first | exact q_2652ac4fd9 h264 h262 h260 h207.2.2.2.1 h207.2.2.2.2.2.2 h130 h15 | omega) (by first | exact q_29bc46c6fe h260 h262 h264 | omega)) (rngI rfl (by first | exact q_35104ce9d3 h268 h123 | omega) (by first | exact q_f43815b60c h268 h126 h124 | omega)) h249 h250 (by decide +kernel) (fun σ269 h270 h271 h272 h273 => ?_)
        have h274 := KF_st h253 (J := z263.toInt) h273 (by (first | exact q_441c4cceae h264 h262 h260 h233.2.2.1 h124 h233.1 | omega)) (by (first | exact q_57947098c3 h264 h262 h260 h233.2.2.1 h124 h233.1 h154 | omega))
        obtain ⟨S275, h276⟩ : ∃ q : PS, q = wst S254 (12 + 4 * (tV By Nb Sp.2.2.1)) (Sp.2.2.2 (12 + 4 * (tV By Nb Sp.2.2.1)) + 1) := ⟨_, rfl⟩
        have h277 : ML By Nb σ269 S275 := by rw [h276]; exact (ML_wst (i := 12 + 4 * (tV By Nb Sp.2.2.1)) (v := Sp.2.2.2 (12 + 4 * (tV By Nb Sp.2.2.1)) + 1) h256 h272 h273 (by (first | exact q_441c4cceae h264 h262 h260 h233.2.2.1 h124 h233.1 | omega)) (fun z => by have j1 := h258.symm.trans z; have j2 := h245.symm.trans j1; have j3 := Imp_m h198 j2; have j4 := Imp_m h175 j3; have j5 := Imp_m h176 j3; have j6 := Imp_m h150 j5.1; have j7 := Imp_m h151 j5.1; have j8 := Imp_m h10 j7.1; have j9 := Imp_m h11 ⟨j7.1, j7.2.1⟩; exact ⟨by (first | exact q_24adb190c7 j6 h264 h262 h260 | omega), by (first | exact q_c264f2cea9 h268 h226 | omega)⟩))
        have h278 := ML_k h277 ((h273 _ _ (Or.inl (neTG tgz_159 tgz_165 (by decide)))).trans ((h252 _ _ (Or.inl (neTG tgz_159 tgz_165 (by decide)))).trans ((h239 _ _ (Or.inl (neTG tgz_159 tgz_165 (by decide)))).trans h187)))
        have h279 : S275.1 = S254.1 := by rw [h276]; rfl
        exact En_ret (v := none) rfl rfl rfl ⟨h270, h271, z184, ((h273 _ _ (Or.inl (neTG tgz_159 tgz_165 (by decide)))).trans ((h252 _ _ (Or.inl (neTG tgz_159 tgz_165 (by decide)))).trans ((h239 _ _ (Or.inl (neTG tgz_159 tgz_165 (by decide)))).trans h185))), z186, ((h273 _ _ (Or.inl (neTG tgz_159 tgz_165 (by decide)))).trans ((h252 _ _ (Or.inl (neTG tgz_159 tgz_165 (by decide)))).trans ((h239 _ _ (Or.inl (neTG tgz_159 tgz_165 (by decide)))).trans h187))), rfl, ⟨by first | exact q_a555021d16 h183.2.2.1 | omega, by first | exact q_76190b61a3 h183.2.2.2.1 | omega, by first | exact q_06e02fd287 h136.2.2.2.2.1 h161.2.2.2.2.1 h183.2.2.2.2.1 | omega, by first | exact q_a555021d16 h183.2.2.2.2.2.1 | omega, by first | exact q_c733b715bf h183.2.2.2.2.2.2.1 | omega, by first | exact q_8ad2cc928a h109.1 h183.2.2.2.2.2.1 | omega, by first | exact q_5ee31f9195 h136.2.2.2.2.1 h161.2.2.2.2.1 h183.2.2.2.2.1 | omega, fun hh => by first | exact q_35a72a35ef h109.1 | omega, ⟨h274, ML_eq h277 (by unfold gLesson; dsimp only; rw [h127, ← h147, ← h172, ← h193, ← h242, ← h255, ← h276]; first | done | rfl | (rw [if_pos (by (first | exact q_d2dcd30e56 h210 | omega))]; first | done | rfl) | (rw [if_neg (by omega)]; first | done | rfl))⟩⟩⟩
      · exact En_ret (v := none) rfl rfl rfl ⟨h181, h190, z184, h185, z186, h187, rfl, ⟨by first | exact q_a555021d16 h183.2.2.1 | omega, by first | exact q_76190b61a3 h183.2.2.2.1 | omega, by first | exact q_06e02fd287 h136.2.2.2.2.1 h161.2.2.2.2.1 h183.2.2.2.2.1 | omega, by first | exact q_a555021d16 h183.2.2.2.2.2.1 | omega, by first | exact q_c733b715bf h183.2.2.2.2.2.2.1 | omega, by first | exact q_8ad2cc928a h109.1 h183.2.2.2.2.2.1 | omega, by first | exact q_5ee31f9195 h136.2.2.2.2.1 h161.2.2.2.2.1 h183.2.2.2.2.1 | omega, fun hh => by first | exact q_35a72a35ef h109.1 | omega, ⟨h191, ML_eq h194 (by unfold gLesson; dsimp only; rw [h127, ← h147, ← h172, ← h193]; first | done | rfl | (rw [if_pos (by omega)]; first | done | rfl) | (rw [if_neg (by (first | exact q_4abb957687 h204.2.2.2 h206 h195 | omega))]; first | done | rfl))⟩⟩⟩
    · refine En_Ps 2 (pc' := 36) (lv' := [(0, .ref 159)]) (st' := [.int ((Int32.ofInt 3)), .ref 159]) rfl ?_
      have := (by decide : ((Int32.ofInt 3)).toInt = 3)
      refine En_callV rfl rfl rfl rfl rfl rfl rfl rfl tgz_159 (by decide +kernel) rfl (c_223x σ0 hσ0 ((Int32.ofInt 3)) (geI (by decide : (Int32.ofInt 3).toInt = 3) (by decide)) (leI (by decide : (Int32.ofInt 3).toInt = 3) (by decide)) k h_k hM) (by decide) (by decide) (fun v281 σ282 h280 => ?_)
      obtain ⟨h283, h284, z286, h287, rfl, h285⟩ := h280
      have h288 := h285.2.2.2.2
      have h289 := Fr_trans hF0 h284 (by decide +kernel)
      have h290 := KF_fr (KF_0 (σ := σ0)) h284 (by decide +kernel)
      obtain ⟨S291, h292⟩ : ∃ q : PS, q = err By Nb 3 Sp := ⟨_, rfl⟩
      have h293 : ML By Nb σ282 S291 := by rw [h292]; exact (ML_eq h288 (err_cg (by (first | exact q_5736040b52 this | omega))))
      have h294 := ML_k h293 h287
      have h295 : Imp (S291.1 = 0) (tK By Nb S291.2.2.1 = z2.toInt) := ML_t h293 ((h284 _ _ (inW tgz_159 (by decide +kernel))).trans h1)
      have h296 : Imp (S291.1 = 0 ∧ tK By Nb S291.2.2.1 = 2) (z6.toInt = min 99999 (tV By Nb S291.2.2.1) ∧ 0 ≤ tV By Nb S291.2.2.1) := fun q => ML_u h293 ((h284 _ _ (inW tgz_159 (by decide +kernel))).trans h5) q.1 q.2
      have h297 : S291.2.2.2 = Sp.2.2.2 := by rw [h292]; exact err_w
      have h298 : gLs1 By Nb Sp = S291 := by rw [h292]; unfold gLs1; (repeat' split) <;> first | rfl | (exfalso; omega) | ((try have i0 := Imp_m h295 (by omega)); (try have i1 := Imp_m h10 (by omega)); (try have i2 := Imp_m h11 (by omega)); (try have i3 := Imp_m h296 (by omega)); (try have i4 := Imp_m h27.2.2.2 (by omega)); exfalso; omega)
      refine En_Ps 3 (pc' := 42) (lv' := [(0, .ref 159)]) (st' := [.ref 159, .int ((Int32.ofInt 0)), .ref 159]) rfl ?_
      refine En_getK (j := 14) ((h284 _ _ (inW tgz_159 (by decide +kernel))).trans h19) rfl rfl rfl tgz_159 (by decide +kernel) ?_
      refine En_Ps 1 (pc' := 46) (lv' := [(0, .ref 159)]) (st' := [.int ((Int32.ofInt 2)), .ref 165, .int ((Int32.ofInt 0)), .ref 159]) rfl ?_
      refine En_ialdK ((h284 _ _ (inWa tgz_165 (by decide +kernel))).trans h12) rfl (by decide : (Int32.ofInt 2).toInt = 2) tgz_165 (by decide +kernel) h283 (by decide) (lnI (by decide +kernel : LN _ = 226) (by decide)) ?_
      refine En_Ps 2 (pc' := 49) (lv' := [(0, .ref 159)]) (st' := [.int ((z13 - ((Int32.ofInt 1)))), .int ((Int32.ofInt 0)), .ref 159]) rfl ?_
      refine En_top (subI rfl (by decide : (Int32.ofInt 1).toInt = 1) (by first | exact q_93f9478bef h14 | omega) (by first | exact q_cc3cee8591 h15 | omega)) (fun z300 h301 => ?_)
      have := (by decide : ((Int32.ofInt 0)).toInt = 0)
      refine En_callV rfl rfl rfl rfl rfl rfl rfl rfl tgz_159 (by decide +kernel) rfl (c_288x σ282 h283 ((Int32.ofInt 0)) z300 (geI (by decide : (Int32.ofInt 0).toInt = 0) (by decide)) (leI (by decide : (Int32.ofInt 0).toInt = 0) (by decide)) (geI rfl (by first | exact q_e2c277696c h301 h14 | omega)) (leI rfl (by first | exact q_d89d511a18 h301 h15 | omega)) f ((h284 _ _ (inW tgz_159 (by decide +kernel))).trans h_f) z286 h287 z2 ((h284 _ _ (inW tgz_159 (by decide +kernel))).trans h1) z6 ((h284 _ _ (inW tgz_159 (by decide +kernel))).trans h5) h293) (by decide) (by decide) (fun v303 σ304 h302 => ?_)
      obtain ⟨h305, h306, z308, h309, z310, h311, z312, rfl, h307⟩ := h302
      have h313 := h307.2.2.2.2.2.2.2.2.2.2.2.2.2.2.2.2
      have h314 := Fr_trans h289 h306 (by decide +kernel)
      have h315 := KF_fr h290 h306 (by decide +kernel)
      have h316 : tN By Nb ((Int32.ofInt 0)).toInt z300.toInt S291 = tN By Nb (0) (Sp.2.2.2 2 - 1) S291 := tN_cg2 (fun zz => by have j1 := Imp_m h295 zz; (first | exact q_d2dcd30e56 this | omega)) (fun zz => by have j1 := Imp_m h295 zz; (first | exact q_171d7b85d9 h301 h16 | omega))
      obtain ⟨S317, h318⟩ : ∃ q : PS, q = tN By Nb (0) (Sp.2.2.2 2 - 1) S291 := ⟨_, rfl⟩
      have h319 : ML By Nb σ304 S317 := by rw [h318]; exact (ML_eq h313.1 h316)
      have h320 := ML_k h319 h311
      have h321 : Imp (S317.1 = 0) (z312.toInt = tV By Nb S291.2.2.1) := fun z => h313.2 (by rw [h316, ← h318]; exact z)
      have h322 : Imp (S317.1 = 0) (S291.1 = 0 ∧ tK By Nb S291.2.2.1 = 2 ∧ 0 ≤ tV By Nb S291.2.2.1 ∧ tV By Nb S291.2.2.1 ≤ Sp.2.2.2 2 - 1) := fun z => tN_gg (by rw [← h318]; exact z)
      have h323 : S317.2.2.2 = S291.2.2.2 := by rw [h318]; exact tN_w
      have h324 := Imp_m h307.2.2.2.2.2.2.2.2.2.2.2.1 (by (first | exact q_c5d285f1b9 this | omega))
      have h325 := Imp_m h307.2.2.2.2.2.2.2.2.2.2.2.2.1 (by (first | exact q_097a37c2ae this | omega))
      have h326 := Imp_m h307.2.2.2.2.2.2.2.2.2.2.2.2.2.1 (by first | exact q_a3a41410e6 h301 h109.2.2.2 h7 | omega)
      refine En_Ps 2 (pc' := 54) (lv' := [(1, .int z312), (0, .ref 159)]) (st' := [.ref 159]) rfl ?_
      refine En_callV rfl rfl rfl rfl rfl rfl rfl rfl tgz_159 (by decide +kernel) rfl (c_234x σ304 h305 z308 h309 z310 h311 h319) (by decide) (by decide) (fun v328 σ329 h327 => ?_)
      obtain ⟨h330, h331, z333, h334, z335, h336, z337, rfl, h332⟩ := h327
      have h338 := h332.2.2.2.2.2.2.2.2.2.2.2.2
      have h339 := Fr_trans h314 h331 (by decide +kernel)
      have h340 := KF_fr h315 h331 (by decide +kernel)
      have h341 : tN By Nb 0 (pI (S317.2.2.2 0) - 1) S317 = tN By Nb 0 (pI (Sp.2.2.2 0) - 1) S317 := tN_cg rfl (by first | rfl | simp only [h297, h323] | rfl)
      obtain ⟨S342, h343⟩ : ∃ q : PS, q = tN By Nb 0 (pI (Sp.2.2.2 0) - 1) S317 := ⟨_, rfl⟩
      have h344 : ML By Nb σ329 S342 := by rw [h343]; exact (ML_eq h338.1 h341)
      have h345 := ML_k h344 h336
      have h346 : Imp (S342.1 = 0) (z337.toInt = tV By Nb S317.2.2.1) := fun z => h338.2 (by rw [h341, ← h343]; exact z)
      have h347 : Imp (S342.1 = 0) (S317.1 = 0 ∧ tK By Nb S317.2.2.1 = 2 ∧ 0 ≤ tV By Nb S317.2.2.1 ∧ tV By Nb S317.2.2.1 ≤ pI (Sp.2.2.2 0) - 1) := fun z => tN_gg (by rw [← h343]; exact z)
      have h348 : S342.2.2.2 = S317.2.2.2 := by rw [h343]; exact tN_w
      refine En_Ps 2 (pc' := 59) (lv' := [(2, .int z337), (1, .int z312), (0, .ref 159)]) (st' := [.ref 159]) rfl ?_
      refine En_callV rfl rfl rfl rfl rfl rfl rfl rfl tgz_159 (by decide +kernel) rfl (c_209x σ329 h330 z333 h334 z335 h336 h344) (by decide) (by decide) (fun v350 σ351 h349 => ?_)
      obtain ⟨h352, h353, z355, h356, z357, h358, z359, rfl, h354⟩ := h349
      have h360 := h354.2.2.2.2.2.2.2.2.2.2
      have h361 := Fr_trans h339 h353 (by decide +kernel)
      have h362 := KF_fr h340 h353 (by decide +kernel)
      obtain ⟨S363, h364⟩ : ∃ q : PS, q = gDeed By Nb S342 := ⟨_, rfl⟩
      have h365 : ML By Nb σ351 S363 := by rw [h364]; exact h360.1
      have h366 := ML_k h365 h358
      have h367 : z359.toInt = iW By Nb 8 S342 := h360.2
      have h368 : S363.2.2.2 = S342.2.2.2 := by rw [h364]; exact gDeed_w
      have h369 : Imp (S363.1 = 0) (S342.1 = 0) := fun z => gDeed_g (by rw [← h364]; exact z)
      refine En_Ps 2 (pc' := 64) (lv' := [(3, .int z359), (2, .int z337), (1, .int z312), (0, .ref 159)]) (st' := [.ref 159]) rfl ?_
      refine En_callV rfl rfl rfl rfl rfl rfl rfl rfl tgz_159 (by decide +kernel) rfl (c_237 σ351 h352 z357 h358) (by decide) (by decide) (fun v371 σ372 h370 => ?_)
      obtain ⟨h373, h374, z376, rfl, h375⟩ := h370
      obtain rfl : σ351 = σ372 := Fr_nil h374
      refine En_iNe _ rfl rfl (fun hx => by exfalso; have := Imp_m h307.2.2.2.2.2.2.2.2.2.2.2.2.2.2.1 (by (first | exact q_48567547dc h332.2.2.2.2.2.2.2.1 h307.2.2.2.2.2.2.2.1 h285.1 h354.2.2.2.2.2.2.2.1 h375.2.2.1 hx h375.1 | omega)); have := Imp_m h307.2.2.2.2.2.2.2.2.2.2.2.2.2.2.2.1 (by (first | exact q_8db751f7ce h332.2.2.2.2.2.2.2.1 h354.2.2.2.2.2.2.2.1 h375.2.2.1 hx h375.1 | omega)); have := Imp_m h332.2.2.2.2.2.2.2.2.2.2.2.1 (by (first | exact q_e4dcf8cd6b h285.1 this.1 | omega)); have := Imp_m h354.2.2.2.2.2.2.2.2.2.1 (by (first | exact q_19cc49e55d h307.2.2.2.2.2.2.2.1 h285.1 this | omega)); (first | exact q_47736c478d this h332.2.2.2.2.2.2.2.1 h307.2.2.2.2.2.2.2.1 h285.1 | omega)) (fun h377 => ?_)
      exact En_ret (v := none) rfl rfl rfl ⟨h352, h361, z355, h356, z357, h358, rfl, ⟨by first | exact q_a555021d16 h354.2.2.1 | omega, by first | exact q_76190b61a3 h354.2.2.2.1 | omega, by first | exact q_06e02fd287 h307.2.2.2.2.1 h332.2.2.2.2.1 h354.2.2.2.2.1 | omega, by first | exact q_a555021d16 h354.2.2.2.2.2.1 | omega, by first | exact q_c733b715bf h354.2.2.2.2.2.2.1 | omega, by first | exact q_8ad2cc928a h109.1 h354.2.2.2.2.2.1 | omega, by first | exact q_5ee31f9195 h307.2.2.2.2.1 h332.2.2.2.2.1 h354.2.2.2.2.1 | omega, fun hh => by first | exact q_35a72a35ef h109.1 | omega, ⟨h362, ML_eq h365 (by unfold gLesson; dsimp only; rw [h298, ← h318, ← h343, ← h364]; first | done | rfl | (rw [if_pos (by omega)]; first | done | rfl) | (rw [if_neg (by (first | exact q_056365ab40 h366 h354.2.2.2.2.2.2.2.1 h332.2.2.2.2.2.2.2.1 h307.2.2.2.2.2.2.2.1 h285.1 | omega))]; first | done | rfl))⟩⟩⟩
/-- DoorSchoolModel.readTwin()V -/
abbrev P_304x (σ0 : SG) (By : Int → Int) (Nb : Int) (Sp : PS) (f : Int32) (k : Int32) : PO := fun v σ => WT σ ∧ Fr [(35, 8), (35, 9), (35, 10), (35, 11), (35, 12), (35, 13), (41, 0)] σ0 σ ∧ ∃ f1 : Int32, (σ 159)[8]? = some (Value.int f1) ∧ ∃ k1 : Int32, (σ 159)[12]? = some (Value.int k1) ∧ v = none ∧ -f1.toInt ≤ 0 ∧ f1.toInt - 1600 ≤ 0 ∧ -f1.toInt + f.toInt ≤ 0 ∧ -k1.toInt ≤ 0 ∧ k1.toInt - 3 ≤ 0 ∧ -k1.toInt + k.toInt ≤ 0 ∧ f.toInt - f1.toInt ≤ 0 ∧ Imp (k1.toInt ≤ 0) (k.toInt ≤ 0) ∧ (KF σ0 σ ∧ ML By Nb σ (gTwin By Nb Sp))
set_option maxRecDepth 10000 in
set_option maxHeartbeats 4000000 in
theorem c_304x {By : Int → Int} {Nb : Int} {Sp : PS} (σ0 : SG) (hσ0 : WT σ0) (f : Int32) (h_f : (σ0 159)[8]? = some (Value.int f)) (k : Int32) (h_k : (σ0 159)[12]? = some (Value.int k)) (hM : ML By Nb σ0 Sp) (hg : Sp.1 = 0) : En 3 69 none mr_304 (P_304x σ0 By Nb Sp f k) 0 [(0, .ref 159)] [] σ0 := by
  obtain ⟨hl_f, hu_f⟩ := WT_int hσ0 (g := 35) (by decide +kernel) (by decide +kernel) (l := 0) (u := 1600) (by decide +kernel) h_f
  obtain ⟨hl_k, hu_k⟩ := WT_int hσ0 (g := 35) (by decide +kernel) (by decide +kernel) (l := 0) (u := 3) (by decide +kernel) h_k
  have hF0 : Fr [(35, 8), (35, 9), (35, 10), (35, 11), (35, 12), (35, 13), (41, 0)] σ0 σ0 := Fr_rfl
  obtain ⟨z2, h1, h3, h4⟩ := WT_peekI hσ0 tgz_159 (by decide +kernel : FT 35 10 = (0, 0, 4)) (by decide +kernel)
  obtain ⟨z6, h5, h7, h8⟩ := WT_peekI hσ0 tgz_159 (by decide +kernel : FT 35 11 = (0, 0, 99999)) (by decide +kernel)
  have h9 := ML_k hM h_k
  have h10 : Imp (Sp.1 = 0) (tK By Nb Sp.2.2.1 = z2.toInt) := ML_t hM h1
  have h11 : Imp (Sp.1 = 0 ∧ tK By Nb Sp.2.2.1 = 2) (z6.toInt = min 99999 (tV By Nb Sp.2.2.1) ∧ 0 ≤ tV By Nb Sp.2.2.1) := fun q => ML_u hM h5 q.1 q.2
  obtain ⟨z13, h12, h14, h15⟩ := WT_peekI hσ0 tgz_165 (by decide +kernel : FT 41 (2 : Int).toNat = (0, 0, 4)) (by decide +kernel)
  have h16 := ML_w hM hg h12 (by (first | decide | omega)) (by (first | decide | omega))
  try have h17 := Imp_m h10 (by (first | exact q_d2dcd30e56 hg | omega))
  try have h18 := Imp_m h11 (by omega)
  refine En_Ps 2 (pc' := 2) (lv' := [(0, .ref 159)]) (st' := [.ref 159, .ref 159]) rfl ?_
  refine En_getU (j := 14) (u := 165) (g' := 41) (q := 0) rfl rfl rfl tgz_159 (by decide +kernel) hσ0 (by decide +kernel) un_41_165 (fun h19 => ?_)
  refine En_Ps 1 (pc' := 6) (lv' := [(0, .ref 159)]) (st' := [.int ((Int32.ofInt 2)), .ref 165, .ref 159]) rfl ?_
  refine En_ialdK h12 rfl (by decide : (Int32.ofInt 2).toInt = 2) tgz_165 (by decide +kernel) hσ0 (by decide) (lnI (by decide +kernel : LN _ = 226) (by decide)) ?_
  refine En_callV rfl rfl rfl rfl rfl rfl rfl rfl tgz_159 (by decide +kernel) rfl (c_260x σ0 hσ0 z13 k h_k z2 h1 z6 h5) (by decide) (by decide) (fun v23 σ24 h22 => ?_)
  obtain ⟨h25, h26, z28, rfl, h27⟩ := h22
  obtain rfl : σ0 = σ24 := Fr_nil h26
  refine En_iEq _ rfl rfl (fun h29 => ?_) (fun h29 => ?_)
  · have h30 : gTw1 By Nb Sp = Sp := by unfold gTw1; (repeat' split) <;> first | rfl | (exfalso; omega) | ((try have i0 := Imp_m h10 (by omega)); (try have i1 := Imp_m h11 (by omega)); (try have i2 := Imp_m h27.2.2.1 (by omega)); (try have i3 := Imp_m h27.2.2.2 (by omega)); exfalso; omega)
    refine En_Ps 3 (pc' := 43) (lv' := [(0, .ref 159)]) (st' := [.ref 159, .int ((Int32.ofInt 0)), .ref 159]) rfl ?_
    refine En_getK (j := 14) h19 rfl rfl rfl tgz_159 (by decide +kernel) ?_
    refine En_Ps 1 (pc' := 47) (lv' := [(0, .ref 159)]) (st' := [.int ((Int32.ofInt 2)), .ref 165, .int ((Int32.ofInt 0)), .ref 159]) rfl ?_
    refine En_ialdK h12 rfl (by decide : (Int32.ofInt 2).toInt = 2) tgz_165 (by decide +kernel) hσ0 (by decide) (lnI (by decide +kernel : LN _ = 226) (by decide)) ?_
    refine En_Ps 2 (pc' := 50) (lv' := [(0, .ref 159)]) (st' := [.int ((z13 - ((Int32.ofInt 1)))), .int ((Int32.ofInt 0)), .ref 159]) rfl ?_
    refine En_top (subI rfl (by decide : (Int32.ofInt 1).toInt = 1) (by first | exact q_93f9478bef h14 | omega) (by first | exact q_cc3cee8591 h15 | omega)) (fun z32 h33 => ?_)
    have := (by decide : ((Int32.ofInt 0)).toInt = 0)
    refine En_callV rfl rfl rfl rfl rfl rfl rfl rfl tgz_159 (by decide +kernel) rfl (c_288x σ0 hσ0 ((Int32.ofInt 0)) z32 (geI (by decide : (Int32.ofInt 0).toInt = 0) (by decide)) (leI (by decide : (Int32.ofInt 0).toInt = 0) (by decide)) (geI rfl (by first | exact q_e2c277696c h33 h14 | omega)) (leI rfl (by first | exact q_d89d511a18 h33 h15 | omega)) f h_f k h_k z2 h1 z6 h5 hM) (by decide) (by decide) (fun v35 σ36 h34 => ?_)
    obtain ⟨h37, h38, z40, h41, z42, h43, z44, rfl, h39⟩ := h34
    have h45 := h39.2.2.2.2.2.2.2.2.2.2.2.2.2.2.2.2
    have h46 := Fr_trans hF0 h38 (by decide +kernel)
    have h47 := KF_fr (KF_0 (σ := σ0)) h38 (by decide +kernel)
    have h48 : tN By Nb ((Int32.ofInt 0)).toInt z32.toInt Sp = tN By Nb (0) (Sp.2.2.2 2 - 1) Sp := tN_cg2 (fun zz => by have j1 := Imp_m h10 zz; (first | exact q_d2dcd30e56 this | omega)) (fun zz => by have j1 := Imp_m h10 zz; (first | exact q_171d7b85d9 h33 h16 | omega))
    obtain ⟨S49, h50⟩ : ∃ q : PS, q = tN By Nb (0) (Sp.2.2.2 2 - 1) Sp := ⟨_, rfl⟩
    have h51 : ML By Nb σ36 S49 := by rw [h50]; exact (ML_eq h45.1 h48)
    have h52 := ML_k h51 h43
    have h53 : Imp (S49.1 = 0) (z44.toInt = tV By Nb Sp.2.2.1) := fun z => h45.2 (by rw [h48, ← h50]; exact z)
    have h54 : Imp (S49.1 = 0) (Sp.1 = 0 ∧ tK By Nb Sp.2.2.1 = 2 ∧ 0 ≤ tV By Nb Sp.2.2.1 ∧ tV By Nb Sp.2.2.1 ≤ Sp.2.2.2 2 - 1) := fun z => tN_gg (by rw [← h50]; exact z)
    have h55 : S49.2.2.2 = Sp.2.2.2 := by rw [h50]; exact tN_w
    have h56 := Imp_m h39.2.2.2.2.2.2.2.2.2.2.2.1 (by (first | exact q_c5d285f1b9 this | omega))
    have h57 := Imp_m h39.2.2.2.2.2.2.2.2.2.2.2.2.1 (by (first | exact q_097a37c2ae this | omega))
    refine En_Ps 1 (pc' := 54) (lv' := [(1, .int z44), (0, .ref 159)]) (st' := []) rfl ?_
    obtain ⟨z59, h58, h60, h61⟩ := WT_peekI h37 tgz_159 (by decide +kernel : FT 35 10 = (0, 0, 4)) (by decide +kernel)
    obtain ⟨z63, h62, h64, h65⟩ := WT_peekI h37 tgz_159 (by decide +kernel : FT 35 11 = (0, 0, 99999)) (by decide +kernel)
    have h66 := ML_k h51 h43
    have h67 : Imp (S49.1 = 0) (tK By Nb S49.2.2.1 = z59.toInt) := ML_t h51 h58
    have h68 : Imp (S49.1 = 0 ∧ tK By Nb S49.2.2.1 = 2) (z63.toInt = min 99999 (tV By Nb S49.2.2.1) ∧ 0 ≤ tV By Nb S49.2.2.1) := fun q => ML_u h51 h62 q.1 q.2
    have h69 : S49.2.2.2 2 = Sp.2.2.2 2 := by rw [h55]
    refine En_Ps 2 (pc' := 56) (lv' := [(1, .int z44), (0, .ref 159)]) (st' := [.ref 159, .ref 159]) rfl ?_
    refine En_getK (j := 14) ((h38 _ _ (inW tgz_159 (by decide +kernel))).trans h19) rfl rfl rfl tgz_159 (by decide +kernel) ?_
    refine En_Ps 1 (pc' := 60) (lv' := [(1, .int z44), (0, .ref 159)]) (st' := [.int ((Int32.ofInt 2)), .ref 165, .ref 159]) rfl ?_
    refine En_ialdK ((h38 _ _ (inWa tgz_165 (by decide +kernel))).trans h12) rfl (by decide : (Int32.ofInt 2).toInt = 2) tgz_165 (by decide +kernel) h37 (by decide) (lnI (by decide +kernel : LN _ = 226) (by decide)) ?_
    refine En_callV rfl rfl rfl rfl rfl rfl rfl rfl tgz_159 (by decide +kernel) rfl (c_260x σ36 h37 z13 z42 h43 z59 h58 z63 h62) (by decide) (by decide) (fun v72 σ73 h71 => ?_)
    obtain ⟨h74, h75, z77, rfl, h76⟩ := h71
    obtain rfl : σ36 = σ73 := Fr_nil h75
    refine En_iEq _ rfl rfl (fun h78 => ?_) (fun hx => by exfalso; have := Imp_m h76.2.2.1 (by (first | exact q_e3350da514 hx h76.1 | omega)); have := Imp_m h39.2.2.2.2.2.2.2.2.2.2.2.2.2.1 (by (first | exact q_a3a41410e6 h33 this.2.2.2 h64 | omega)); have := Imp_m h39.2.2.2.2.2.2.2.2.2.2.2.2.2.2.2.1 (by omega); have := Imp_m h27.2.2.2 (by (first | exact q_5b6d284d4d h29 this.1 this.2.1 this.2.2.1 | omega)); have := Imp_m h39.2.2.2.2.2.2.2.2.2.2.2.2.2.2.1 (by omega); omega)
    have h79 : gTw2 By Nb (tV By Nb Sp.2.2.1) S49 = S49 := by unfold gTw2; (repeat' split) <;> first | rfl | (exfalso; omega) | ((try have i0 := Imp_m h67 (by omega)); (try have i1 := Imp_m h54 (by omega)); (try have i2 := Imp_m h53 (by omega)); (try have i3 := Imp_m h10 (by omega)); (try have i4 := Imp_m h11 (by omega)); (try have i5 := Imp_m h68 (by omega)); (try have i6 := Imp_m h27.2.2.1 (by omega)); (try have i7 := Imp_m h27.2.2.2 (by omega)); (try have i8 := Imp_m h39.2.2.2.2.2.2.2.2.2.2.2.2.2.1 (by omega)); (try have i9 := Imp_m h39.2.2.2.2.2.2.2.2.2.2.2.2.2.2.1 (by omega)); (try have i10 := Imp_m h39.2.2.2.2.2.2.2.2.2.2.2.2.2.2.2.1 (by omega)); (try have i11 := Imp_m h76.2.2.1 (by omega)); (try have i12 := Imp_m h76.2.2.2 (by omega)); exfalso; omega)
    refine En_Ps 3 (pc' := 94) (lv' := [(1, .int z44), (0, .ref 159)]) (st' := [.ref 159, .int ((Int32.ofInt 0)), .ref 159]) rfl ?_
    refine En_getK (j := 14) ((h38 _ _ (inW tgz_159 (by decide +kernel))).trans h19) rfl rfl rfl tgz_159 (by decide +kernel) ?_
    refine En_Ps 1 (pc' := 98) (lv' := [(1, .int z44), (0, .ref 159)]) (st' := [.int ((Int32.ofInt 2)), .ref 165, .int ((Int32.ofInt 0)), .ref 159]) rfl ?_
    refine En_ialdK ((h38 _ _ (inWa tgz_165 (by decide +kernel))).trans h12) rfl (by decide : (Int32.ofInt 2).toInt = 2) tgz_165 (by decide +kernel) h37 (by decide) (lnI (by decide +kernel : LN _ = 226) (by decide)) ?_
    refine En_Ps 2 (pc' := 101) (lv' := [(1, .int z44), (0, .ref 159)]) (st' := [.int ((z13 - ((Int32.ofInt 1)))), .int ((Int32.ofInt 0)), .ref 159]) rfl ?_
    refine En_top (subI rfl (by decide : (Int32.ofInt 1).toInt = 1) (by first | exact q_93f9478bef h14 | omega) (by first | exact q_cc3cee8591 h15 | omega)) (fun z81 h82 => ?_)
    have := (by decide : ((Int32.ofInt 0)).toInt = 0)
    refine En_callV rfl rfl rfl rfl rfl rfl rfl rfl tgz_159 (by decide +kernel) rfl (c_288x σ36 h37 ((Int32.ofInt 0)) z81 (geI (by decide : (Int32.ofInt 0).toInt = 0) (by decide)) (leI (by decide : (Int32.ofInt 0).toInt = 0) (by decide)) (geI rfl (by first | exact q_e2c277696c h82 h14 | omega)) (leI rfl (by first | exact q_d89d511a18 h82 h15 | omega)) z40 h41 z42 h43 z59 h58 z63 h62 h51) (by decide) (by decide) (fun v84 σ85 h83 => ?_)
    obtain ⟨h86, h87, z89, h90, z91, h92, z93, rfl, h88⟩ := h83
    have h94 := h88.2.2.2.2.2.2.2.2.2.2.2.2.2.2.2.2
    have h95 := Fr_trans h46 h87 (by decide +kernel)
    have h96 := KF_fr h47 h87 (by decide +kernel)
    have h97 : tN By Nb ((Int32.ofInt 0)).toInt z81.toInt S49 = tN By Nb (0) (Sp.2.2.2 2 - 1) S49 := tN_cg2 (fun zz => by have j1 := Imp_m h53 zz; have j2 := Imp_m h54 zz; have j3 := Imp_m h10 j2.1; have j4 := Imp_m h11 ⟨j2.1, j2.2.1⟩; have j5 := Imp_m h67 zz; (first | exact q_d2dcd30e56 this | omega)) (fun zz => by have j1 := Imp_m h53 zz; have j2 := Imp_m h54 zz; have j3 := Imp_m h10 j2.1; have j4 := Imp_m h11 ⟨j2.1, j2.2.1⟩; have j5 := Imp_m h67 zz; (first | exact q_171d7b85d9 h82 h16 | omega))
    obtain ⟨S98, h99⟩ : ∃ q : PS, q = tN By Nb (0) (Sp.2.2.2 2 - 1) S49 := ⟨_, rfl⟩
    have h100 : ML By Nb σ85 S98 := by rw [h99]; exact (ML_eq h94.1 h97)
    have h101 := ML_k h100 h92
    have h102 : Imp (S98.1 = 0) (z93.toInt = tV By Nb S49.2.2.1) := fun z => h94.2 (by rw [h97, ← h99]; exact z)
    have h103 : Imp (S98.1 = 0) (S49.1 = 0 ∧ tK By Nb S49.2.2.1 = 2 ∧ 0 ≤ tV By Nb S49.2.2.1 ∧ tV By Nb S49.2.2.1 ≤ Sp.2.2.2 2 - 1) := fun z => tN_gg (by rw [← h99]; exact z)
    have h104 : S98.2.2.2 = S49.2.2.2 := by rw [h99]; exact tN_w
    have h105 := Imp_m h88.2.2.2.2.2.2.2.2.2.2.2.1 (by (first | exact q_c5d285f1b9 this | omega))
    have h106 := Imp_m h88.2.2.2.2.2.2.2.2.2.2.2.2.1 (by (first | exact q_097a37c2ae this | omega))
    refine En_Ps 2 (pc' := 106) (lv' := [(2, .int z93), (1, .int z44), (0, .ref 159)]) (st' := [.ref 159]) rfl ?_
    refine En_callV rfl rfl rfl rfl rfl rfl rfl rfl tgz_159 (by decide +kernel) rfl (c_237 σ85 h86 z91 h92) (by decide) (by decide) (fun v108 σ109 h107 => ?_)
    obtain ⟨h110, h111, z113, rfl, h112⟩ := h107
    obtain rfl : σ85 = σ109 := Fr_nil h111
    refine En_iEq _ rfl rfl (fun h114 => ?_) (fun hx => by exfalso; have := Imp_m h39.2.2.2.2.2.2.2.2.2.2.2.2.2.2.2.1 (by (first | exact q_468044b3db h112.2.2.1 hx h112.1 h88.2.2.2.2.2.2.2.1 | omega)); have := Imp_m h88.2.2.2.2.2.2.2.2.2.2.2.2.2.1 (by (first | exact q_59e2ae914d h82 h33 this.2.2.2.2.2.2 h7 | omega)); have := Imp_m h88.2.2.2.2.2.2.2.2.2.2.2.2.2.2.2.1 (by (first | exact q_59622b1fc0 h112.2.2.1 hx h112.1 | omega)); have := Imp_m h27.2.2.2 (by omega); have := Imp_m h39.2.2.2.2.2.2.2.2.2.2.2.2.2.1 (by omega); have := Imp_m h39.2.2.2.2.2.2.2.2.2.2.2.2.2.2.1 (by omega); have := Imp_m h76.2.2.2 (by omega); have := Imp_m h88.2.2.2.2.2.2.2.2.2.2.2.2.2.2.1 (by omega); omega)
    exact En_ret (v := none) rfl rfl rfl ⟨h86, h95, z89, h90, z91, h92, rfl, ⟨by first | exact q_a555021d16 h88.2.2.1 | omega, by first | exact q_76190b61a3 h88.2.2.2.1 | omega, by first | exact q_ccc3bb8fc9 h39.2.2.2.2.1 h88.2.2.2.2.1 | omega, by first | exact q_a555021d16 h88.2.2.2.2.2.1 | omega, by first | exact q_c733b715bf h88.2.2.2.2.2.2.1 | omega, by first | exact q_ccc3bb8fc9 h39.2.2.2.2.2.2.2.1 h88.2.2.2.2.2.2.2.1 | omega, by first | exact q_28bfca2c13 h39.2.2.2.2.1 h88.2.2.2.2.1 | omega, fun hh => by first | exact q_db388fd8e8 h39.2.2.2.2.2.2.2.1 h88.2.2.2.2.2.2.2.1 hh | omega, ⟨h96, ML_eq h100 (by unfold gTwin; dsimp only; rw [h30, ← h50, h79, ← h99]; first | done | rfl | (rw [if_pos (by omega)]; first | done | rfl) | (rw [if_neg (by (first | exact q_4abb957687 h112.2.2.2 h114 h101 | omega))]; first | done | rfl))⟩⟩⟩
  · have h115 := Imp_m h27.2.2.1 (by first | exact q_e3350da514 h29 h27.1 | omega)
    have h116 : Sp.1 = 0 := by (first | exact q_d2dcd30e56 hg | omega)
    have h117 := Imp_m h10 h116
    have h118 : tK By Nb Sp.2.2.1 = 2 := by (first | exact q_b919d68c0b h117 h115.2.2.1 h115.2.1 | omega)
    have h119 := Imp_m h10 h116
    have h120 := Imp_m h11 ⟨h116, h118⟩
    refine En_Ps 2 (pc' := 15) (lv' := [(0, .ref 159)]) (st' := [.ref 159, .ref 159]) rfl ?_
    refine En_getK (j := 11) h5 rfl rfl rfl tgz_159 (by decide +kernel) ?_
    refine En_callV rfl rfl rfl rfl rfl rfl rfl rfl tgz_159 (by decide +kernel) rfl (c_217x σ0 hσ0 z6 (geI rfl (by first | exact q_58e6e51dcc h7 | omega)) (leI rfl (by first | exact q_e0b718e8e1 h115.2.2.2 h15 | omega))) (by decide) (by decide) (fun v122 σ123 h121 => ?_)
    obtain ⟨h124, h125, z127, rfl, h126⟩ := h121
    have h128 := h126.2.2
    obtain rfl : σ0 = σ123 := Fr_nil h125
    have h129 := h128
    have h130 : ci σ0 165 (13 + 4 * z6.toInt) = Sp.2.2.2 (13 + 4 * tV By Nb Sp.2.2.1) := ML_ci hM (by (first | exact q_d2dcd30e56 h116 | omega)) (by omega) (by (first | exact q_ecbead000b h7 | omega)) (by (first | exact q_d55dace28b h115.2.2.2 h15 | omega))
    refine En_iNe _ rfl rfl (fun h131 => ?_) (fun h131 => ?_)
    · refine En_Ps 2 (pc' := 37) (lv' := [(0, .ref 159)]) (st' := [.int ((Int32.ofInt 2)), .ref 159]) rfl ?_
      have := (by decide : ((Int32.ofInt 2)).toInt = 2)
      refine En_callV rfl rfl rfl rfl rfl rfl rfl rfl tgz_159 (by decide +kernel) rfl (c_223x σ0 hσ0 ((Int32.ofInt 2)) (geI (by decide : (Int32.ofInt 2).toInt = 2) (by decide)) (leI (by decide : (Int32.ofInt 2).toInt = 2) (by decide)) k h_k hM) (by decide) (by decide) (fun v133 σ134 h132 => ?_)
      obtain ⟨h135, h136, z138, h139, rfl, h137⟩ := h132
      have h140 := h137.2.2.2.2
      have h141 := Fr_trans hF0 h136 (by decide +kernel)
      have h142 := KF_fr (KF_0 (σ := σ0)) h136 (by decide +kernel)
      obtain ⟨S143, h144⟩ : ∃ q : PS, q = err By Nb 2 Sp := ⟨_, rfl⟩
      have h145 : ML By Nb σ134 S143 := by rw [h144]; exact (ML_eq h140 (err_cg (by (first | exact q_bef0c64981 this | omega))))
      have h146 := ML_k h145 h139
      have h147 : Imp (S143.1 = 0) (tK By Nb S143.2.2.1 = z2.toInt) := ML_t h145 ((h136 _ _ (inW tgz_159 (by decide +kernel))).trans h1)
      have h148 : Imp (S143.1 = 0 ∧ tK By Nb S143.2.2.1 = 2) (z6.toInt = min 99999 (tV By Nb S143.2.2.1) ∧ 0 ≤ tV By Nb S143.2.2.1) := fun q => ML_u h145 ((h136 _ _ (inW tgz_159 (by decide +kernel))).trans h5) q.1 q.2
      have h149 : S143.2.2.2 = Sp.2.2.2 := by rw [h144]; exact err_w
      have h150 : gTw1 By Nb Sp = S143 := by rw [h144]; unfold gTw1; (repeat' split) <;> first | rfl | (exfalso; omega) | ((try have i0 := Imp_m h147 (by omega)); (try have i1 := Imp_m h10 (by omega)); (try have i2 := Imp_m h11 (by omega)); (try have i3 := Imp_m h148 (by omega)); (try have i4 := Imp_m h27.2.2.2 (by omega)); exfalso; omega)
      refine En_Ps 3 (pc' := 43) (lv' := [(0, .ref 159)]) (st' := [.ref 159, .int ((Int32.ofInt 0)), .ref 159]) rfl ?_
      refine En_getK (j := 14) ((h136 _ _ (inW tgz_159 (by decide +kernel))).trans h19) rfl rfl rfl tgz_159 (by decide +kernel) ?_
      refine En_Ps 1 (pc' := 47) (lv' := [(0, .ref 159)]) (st' := [.int ((Int32.ofInt 2)), .ref 165, .int ((Int32.ofInt 0)), .ref 159]) rfl ?_
      refine En_ialdK ((h136 _ _ (inWa tgz_165 (by decide +kernel))).trans h12) rfl (by decide : (Int32.ofInt 2).toInt = 2) tgz_165 (by decide +kernel) h135 (by decide) (lnI (by decide +kernel : LN _ = 226) (by decide)) ?_
      refine En_Ps 2 (pc' := 50) (lv' := [(0, .ref 159)]) (st' := [.int ((z13 - ((Int32.ofInt 1)))), .int ((Int32.ofInt 0)), .ref 159]) rfl ?_
      refine En_top (subI rfl (by decide : (Int32.ofInt 1).toInt = 1) (by first | exact q_93f9478bef h14 | omega) (by first | exact q_cc3cee8591 h15 | omega)) (fun z152 h153 => ?_)
      have := (by decide : ((Int32.ofInt 0)).toInt = 0)
      refine En_callV rfl rfl rfl rfl rfl rfl rfl rfl tgz_159 (by decide +kernel) rfl (c_288x σ134 h135 ((Int32.ofInt 0)) z152 (geI (by decide : (Int32.ofInt 0).toInt = 0) (by decide)) (leI (by decide : (Int32.ofInt 0).toInt = 0) (by decide)) (geI rfl (by first | exact q_e2c277696c h153 h14 | omega)) (leI rfl (by first | exact q_d89d511a18 h153 h15 | omega)) f ((h136 _ _ (inW tgz_159 (by decide +kernel))).trans h_f) z138 h139 z2 ((h136 _ _ (inW tgz_159 (by decide +kernel))).trans h1) z6 ((h136 _ _ (inW tgz_159 (by decide +kernel))).trans h5) h145) (by decide) (by decide) (fun v155 σ156 h154 => ?_)
      obtain ⟨h157, h158, z160, h161, z162, h163, z164, rfl, h159⟩ := h154
      have h165 := h159.2.2.2.2.2.2.2.2.2.2.2.2.2.2.2.2
      have h166 := Fr_trans h141 h158 (by decide +kernel)
      have h167 := KF_fr h142 h158 (by decide +kernel)
      have h168 : tN By Nb ((Int32.ofInt 0)).toInt z152.toInt S143 = tN By Nb (0) (Sp.2.2.2 2 - 1) S143 := tN_cg2 (fun zz => by have j1 := Imp_m h147 zz; (first | exact q_d2dcd30e56 this | omega)) (fun zz => by have j1 := Imp_m h147 zz; (first | exact q_171d7b85d9 h153 h16 | omega))
      obtain ⟨S169, h170⟩ : ∃ q : PS, q = tN By Nb (0) (Sp.2.2.2 2 - 1) S143 := ⟨_, rfl⟩
      have h171 : ML By Nb σ156 S169 := by rw [h170]; exact (ML_eq h165.1 h168)
      have h172 := ML_k h171 h163
      have h173 : Imp (S169.1 = 0) (z164.toInt = tV By Nb S143.2.2.1) := fun z => h165.2 (by rw [h168, ← h170]; exact z)
      have h174 : Imp (S169.1 = 0) (S143.1 = 0 ∧ tK By Nb S143.2.2.1 = 2 ∧ 0 ≤ tV By Nb S143.2.2.1 ∧ tV By Nb S143.2.2.1 ≤ Sp.2.2.2 2 - 1) := fun z => tN_gg (by rw [← h170]; exact z)
      have h175 : S169.2.2.2 = S143.2.2.2 := by rw [h170]; exact tN_w
      have h176 := Imp_m h159.2.2.2.2.2.2.2.2.2.2.2.1 (by (first | exact q_c5d285f1b9 this | omega))
      have h177 := Imp_m h159.2.2.2.2.2.2.2.2.2.2.2.2.1 (by (first | exact q_097a37c2ae this | omega))
      have h178 := Imp_m h159.2.2.2.2.2.2.2.2.2.2.2.2.2.1 (by first | exact q_a3a41410e6 h153 h115.2.2.2 h7 | omega)
      refine En_Ps 1 (pc' := 54) (lv' := [(1, .int z164), (0, .ref 159)]) (st' := []) rfl ?_
      obtain ⟨z180, h179, h181, h182⟩ := WT_peekI h157 tgz_159 (by decide +kernel : FT 35 10 = (0, 0, 4)) (by decide +kernel)
      obtain ⟨z184, h183, h185, h186⟩ := WT_peekI h157 tgz_159 (by decide +kernel : FT 35 11 = (0, 0, 99999)) (by decide +kernel)
      have h187 := ML_k h171 h163
      have h188 : Imp (S169.1 = 0) (tK By Nb S169.2.2.1 = z180.toInt) := ML_t h171 h179
      have h189 : Imp (S169.1 = 0 ∧ tK By Nb S169.2.2.1 = 2) (z184.toInt = min 99999 (tV By Nb S169.2.2.1) ∧ 0 ≤ tV By Nb S169.2.2.1) := fun q => ML_u h171 h183 q.1 q.2
      have h190 : S169.2.2.2 2 = Sp.2.2.2 2 := by rw [h175, h149]
      refine En_Ps 2 (pc' := 56) (lv' := [(1, .int z164), (0, .ref 159)]) (st' := [.ref 159, .ref 159]) rfl ?_
      refine En_getK (j := 14) ((h158 _ _ (inW tgz_159 (by decide +kernel))).trans ((h136 _ _ (inW tgz_159 (by decide +kernel))).trans h19)) rfl rfl rfl tgz_159 (by decide +kernel) ?_
      refine En_Ps 1 (pc' := 60) (lv' := [(1, .int z164), (0, .ref 159)]) (st' := [.int ((Int32.ofInt 2)), .ref 165, .ref 159]) rfl ?_
      refine En_ialdK ((h158 _ _ (inWa tgz_165 (by decide +kernel))).trans ((h136 _ _ (inWa tgz_165 (by decide +kernel))).trans h12)) rfl (by decide : (Int32.ofInt 2).toInt = 2) tgz_165 (by decide +kernel) h157 (by decide) (lnI (by decide +kernel : LN _ = 226) (by decide)) ?_
      refine En_callV rfl rfl rfl rfl rfl rfl rfl rfl tgz_159 (by decide +kernel) rfl (c_260x σ156 h157 z13 z162 h163 z180 h179 z184 h183) (by decide) (by decide) (fun v193 σ194 h192 => ?_)
      obtain ⟨h195, h196, z198, rfl, h197⟩ := h192
      obtain rfl : σ156 = σ194 := Fr_nil h196
      refine En_iEq _ rfl rfl (fun h199 => ?_) (fun hx => by exfalso; have := Imp_m h197.2.2.1 (by (first | exact q_e3350da514 hx h197.1 | omega)); have := Imp_m h159.2.2.2.2.2.2.2.2.2.2.2.2.2.2.1 (by (first | exact q_91c4be1b4e this.1 h159.2.2.2.2.2.2.2.1 h137.1 | omega)); have := Imp_m h159.2.2.2.2.2.2.2.2.2.2.2.2.2.2.2.1 (by omega); (first | exact q_96d501f46b h137.1 this.1 | omega))
      have h200 : gTw2 By Nb (tV By Nb S143.2.2.1) S169 = S169 := by unfold gTw2; (repeat' split) <;> first | rfl | (exfalso; omega) | ((try have i0 := Imp_m h188 (by omega)); (try have i1 := Imp_m h174 (by omega)); (try have i2 := Imp_m h173 (by omega)); (try have i3 := Imp_m h147 (by omega)); (try have i4 := Imp_m h10 (by omega)); (try have i5 := Imp_m h11 (by omega)); (try have i6 := Imp_m h148 (by omega)); (try have i7 := Imp_m h189 (by omega)); (try have i8 := Imp_m h27.2.2.2 (by omega)); (try have i9 := Imp_m h159.2.2.2.2.2.2.2.2.2.2.2.2.2.2.1 (by omega)); (try have i10 := Imp_m h159.2.2.2.2.2.2.2.2.2.2.2.2.2.2.2.1 (by omega)); (try have i11 := Imp_m h197.2.2.1 (by omega)); (try have i12 := Imp_m h197.2.2.2 (by omega)); exfalso; omega)
      refine En_Ps 3 (pc' := 94) (lv' := [(1, .int z164), (0, .ref 159)]) (st' := [.ref 159, .int ((Int32.ofInt 0)), .ref 159]) rfl ?_
      refine En_getK (j := 14) ((h158 _ _ (inW tgz_159 (by decide +kernel))).trans ((h136 _ _ (inW tgz_159 (by decide +kernel))).trans h19)) rfl rfl rfl tgz_159 (by decide +kernel) ?_
      refine En_Ps 1 (pc' := 98) (lv' := [(1, .int z164), (0, .ref 159)]) (st' := [.int ((Int32.ofInt 2)), .ref 165, .int ((Int32.ofInt 0)), .ref 159]) rfl ?_
      refine En_ialdK ((h158 _ _ (inWa tgz_165 (by decide +kernel))).trans ((h136 _ _ (inWa tgz_165 (by decide +kernel))).trans h12)) rfl (by decide : (Int32.ofInt 2).toInt = 2) tgz_165 (by decide +kernel) h157 (by decide) (lnI (by decide +kernel : LN _ = 226) (by decide)) ?_
      refine En_Ps 2 (pc' := 101) (lv' := [(1, .int z164), (0, .ref 159)]) (st' := [.int ((z13 - ((Int32.ofInt 1)))), .int ((Int32.ofInt 0)), .ref 159]) rfl ?_
      refine En_top (subI rfl (by decide : (Int32.ofInt 1).toInt = 1) (by first | exact q_93f9478bef h14 | omega) (by first | exact q_cc3cee8591 h15 | omega)) (fun z202 h203 => ?_)
      have := (by decide : ((Int32.ofInt 0)).toInt = 0)
      refine En_callV rfl rfl rfl rfl rfl rfl rfl rfl tgz_159 (by decide +kernel) rfl (c_288x σ156 h157 ((Int32.ofInt 0)) z202 (geI (by decide : (Int32.ofInt 0).toInt = 0) (by decide)) (leI (by decide : (Int32.ofInt 0).toInt = 0) (by decide)) (geI rfl (by first | exact q_e2c277696c h203 h14 | omega)) (leI rfl (by first | exact q_d89d511a18 h203 h15 | omega)) z160 h161 z162 h163 z180 h179 z184 h183 h171) (by decide) (by decide) (fun v205 σ206 h204 => ?_)
      obtain ⟨h207, h208, z210, h211, z212, h213, z214, rfl, h209⟩ := h204
      have h215 := h209.2.2.2.2.2.2.2.2.2.2.2.2.2.2.2.2
      have h216 := Fr_trans h166 h208 (by decide +kernel)
      have h217 := KF_fr h167 h208 (by decide +kernel)
      have h218 : tN By Nb ((Int32.ofInt 0)).toInt z202.toInt S169 = tN By Nb (0) (Sp.2.2.2 2 - 1) S169 := tN_cg2 (fun zz => by have j1 := Imp_m h173 zz; have j2 := Imp_m h174 zz; have j3 := Imp_m h147 j2.1; have j4 := Imp_m h148 ⟨j2.1, j2.2.1⟩; have j5 := Imp_m h188 zz; (first | exact q_d2dcd30e56 this | omega)) (fun zz => by have j1 := Imp_m h173 zz; have j2 := Imp_m h174 zz; have j3 := Imp_m h147 j2.1; have j4 := Imp_m h148 ⟨j2.1, j2.2.1⟩; have j5 := Imp_m h188 zz; (first | exact q_171d7b85d9 h203 h16 | omega))
      obtain ⟨S219, h220⟩ : ∃ q : PS, q = tN By Nb (0) (Sp.2.2.2 2 - 1) S169 := ⟨_, rfl⟩
      have h221 : ML By Nb σ206 S219 := by rw [h220]; exact (ML_eq h215.1 h218)
      have h222 := ML_k h221 h213
      have h223 : Imp (S219.1 = 0) (z214.toInt = tV By Nb S169.2.2.1) := fun z => h215.2 (by rw [h218, ← h220]; exact z)
      have h224 : Imp (S219.1 = 0) (S169.1 = 0 ∧ tK By Nb S169.2.2.1 = 2 ∧ 0 ≤ tV By Nb S169.2.2.1 ∧ tV By Nb S169.2.2.1 ≤ Sp.2.2.2 2 - 1) := fun z => tN_gg (by rw [← h220]; exact z)
      have h225 : S219.2.2.2 = S169.2.2.2 := by rw [h220]; exact tN_w
      have h226 := Imp_m h209.2.2.2.2.2.2.2.2.2.2.2.1 (by (first | exact q_c5d285f1b9 this | omega))
      have h227 := Imp_m h209.2.2.2.2.2.2.2.2.2.2.2.2.1 (by (first | exact q_097a37c2ae this | omega))
      have h228 := Imp_m h209.2.2.2.2.2.2.2.2.2.2.2.2.2.1 (by first | exact q_a3a41410e6 h203 h115.2.2.2 h7 | omega)
      refine En_Ps 2 (pc' := 106) (lv' := [(2, .int z214), (1, .int z164), (0, .ref 159)]) (st' := [.ref 159]) rfl ?_
      refine En_callV rfl rfl rfl rfl rfl rfl rfl rfl tgz_159 (by decide +kernel) rfl (c_237 σ206 h207 z212 h213) (by decide) (by decide) (fun v230 σ231 h229 => ?_)
      obtain ⟨h232, h233, z235, rfl, h234⟩ := h229
      obtain rfl : σ206 = σ231 := Fr_nil h233
      refine En_iEq _ rfl rfl (fun h236 => ?_) (fun hx => by exfalso; have := Imp_m h159.2.2.2.2.2.2.2.2.2.2.2.2.2.2.1 (by (first | exact q_06f770509c h209.2.2.2.2.2.2.2.1 h159.2.2.2.2.2.2.2.1 h137.1 h234.2.2.1 hx h234.1 | omega)); have := Imp_m h159.2.2.2.2.2.2.2.2.2.2.2.2.2.2.2.1 (by (first | exact q_468044b3db h234.2.2.1 hx h234.1 h209.2.2.2.2.2.2.2.1 | omega)); have := Imp_m h197.2.2.2 (by (first | exact q_49167b939d h137.1 this.1 | omega)); have := Imp_m h209.2.2.2.2.2.2.2.2.2.2.2.2.2.2.1 (by (first | exact q_1a8ad1e296 h234.2.2.1 hx h234.1 h209.2.2.2.2.2.2.2.1 h159.2.2.2.2.2.2.2.1 h137.1 | omega)); have := Imp_m h209.2.2.2.2.2.2.2.2.2.2.2.2.2.2.2.1 (by (first | exact q_59622b1fc0 h234.2.2.1 hx h234.1 | omega)); (first | exact q_39f7d05155 this.1 h159.2.2.2.2.2.2.2.1 h137.1 | omega))
      exact En_ret (v := none) rfl rfl rfl ⟨h207, h216, z210, h211, z212, h213, rfl, ⟨by first | exact q_a555021d16 h209.2.2.1 | omega, by first | exact q_76190b61a3 h209.2.2.2.1 | omega, by first | exact q_ccc3bb8fc9 h159.2.2.2.2.1 h209.2.2.2.2.1 | omega, by first | exact q_a555021d16 h209.2.2.2.2.2.1 | omega, by first | exact q_c733b715bf h209.2.2.2.2.2.2.1 | omega, by first | exact q_8ad2cc928a h115.1 h209.2.2.2.2.2.1 | omega, by first | exact q_28bfca2c13 h159.2.2.2.2.1 h209.2.2.2.2.1 | omega, fun hh => by first | exact q_35a72a35ef h115.1 | omega, ⟨h217, ML_eq h221 (by unfold gTwin; dsimp only; rw [h150, ← h170, h200, ← h220]; first | done | rfl | (rw [if_pos (by omega)]; first | done | rfl) | (rw [if_neg (by (first | exact q_8c32eca55a h222 h209.2.2.2.2.2.2.2.1 h159.2.2.2.2.2.2.2.1 h137.1 | omega))]; first | done | rfl))⟩⟩⟩
    · refine En_Ps 2 (pc' := 26) (lv' := [(0, .ref 159)]) (st' := [.ref 159, .ref 159]) rfl ?_
      refine En_getK (j := 11) h5 rfl rfl rfl tgz_159 (by decide +kernel) ?_
      refine En_callV rfl rfl rfl rfl rfl rfl rfl rfl tgz_159 (by decide +kernel) rfl (c_257x σ0 hσ0 z6) (by decide) (by decide) (fun v238 σ239 h237 => ?_)
      obtain ⟨h240, h241, z243, rfl, h242⟩ := h237
      have h244 := h242.2.2.2
      obtain rfl : σ0 = σ239 := Fr_nil h241
      have h245 := h244
      have h246 : cpI (ci σ0 165) (z6.toInt) = cpI Sp.2.2.2 (tV By Nb Sp.2.2.1) := ML_cp hM (by (first | exact q_d2dcd30e56 h116 | omega)) (by omega)
      refine En_iEq _ rfl rfl (fun h247 => ?_) (fun h247 => ?_)
      · have h248 : gTw1 By Nb Sp = Sp := by unfold gTw1; (repeat' split) <;> first | rfl | (exfalso; omega) | ((try have i0 := Imp_m h10 (by omega)); (try have i1 := Imp_m h11 (by omega)); (try have i2 := Imp_m h27.2.2.2 (by omega)); (try have i3 := Imp_m h242.2.2.1 (by omega)); exfalso; omega)
        refine En_Ps 3 (pc' := 43) (lv' := [(0, .ref 159)]) (st' := [.ref 159, .int ((Int32.ofInt 0)), .ref 159]) rfl ?_
        refine En_getK (j := 14) h19 rfl rfl rfl tgz_159 (by decide +kernel) ?_
        refine En_Ps 1 (pc' := 47) (lv' := [(0, .ref 159)]) (st' := [.int ((Int32.ofInt 2)), .ref 165, .int ((Int32.ofInt 0)), .ref 159]) rfl ?_
        refine En_ialdK h12 rfl (by decide : (Int32.ofInt 2).toInt = 2) tgz_165 (by decide +kernel) hσ0 (by decide) (lnI (by decide +kernel : LN _ = 226) (by decide)) ?_
        refine En_Ps 2 (pc' := 50) (lv' := [(0, .ref 159)]) (st' := [.int ((z13 - ((Int32.ofInt 1)))), .int ((Int32.ofInt 0)), .ref 159]) rfl ?_
        refine En_top (subI rfl (by decide : (Int32.ofInt 1).toInt = 1) (by first | exact q_93f9478bef h14 | omega) (by first | exact q_cc3cee8591 h15 | omega)) (fun z250 h251 => ?_)
        have := (by decide : ((Int32.ofInt 0)).toInt = 0)
        refine En_callV rfl rfl rfl rfl rfl rfl rfl rfl tgz_159 (by decide +kernel) rfl (c_288x σ0 hσ0 ((Int32.ofInt 0)) z250 (geI (by decide : (Int32.ofInt 0).toInt = 0) (by decide)) (leI (by decide : (Int32.ofInt 0).toInt = 0) (by decide)) (geI rfl (by first | exact q_e2c277696c h251 h14 | omega)) (leI rfl (by first | exact q_d89d511a18 h251 h15 | omega)) f h_f k h_k z2 h1 z6 h5 hM) (by decide) (by decide) (fun v253 σ254 h252 => ?_)
        obtain ⟨h255, h256, z258, h259, z260, h261, z262, rfl, h257⟩ := h252
        have h263 := h257.2.2.2.2.2.2.2.2.2.2.2.2.2.2.2.2
        have h264 := Fr_trans hF0 h256 (by decide +kernel)
        have h265 := KF_fr (KF_0 (σ := σ0)) h256 (by decide +kernel)
        have h266 : tN By Nb ((Int32.ofInt 0)).toInt z250.toInt Sp = tN By Nb (0) (Sp.2.2.2 2 - 1) Sp := tN_cg2 (fun zz => by have j1 := Imp_m h10 zz; (first | exact q_d2dcd30e56 this | omega)) (fun zz => by have j1 := Imp_m h10 zz; (first | exact q_171d7b85d9 h251 h16 | omega))
        obtain ⟨S267, h268⟩ : ∃ q : PS, q = tN By Nb (0) (Sp.2.2.2 2 - 1) Sp := ⟨_, rfl⟩
        have h269 : ML By Nb σ254 S267 := by rw [h268]; exact (ML_eq h263.1 h266)
        have h270 := ML_k h269 h261
        have h271 : Imp (S267.1 = 0) (z262.toInt = tV By Nb Sp.2.2.1) := fun z => h263.2 (by rw [h266, ← h268]; exact z)
        have h272 : Imp (S267.1 = 0) (Sp.1 = 0 ∧ tK By Nb Sp.2.2.1 = 2 ∧ 0 ≤ tV By Nb Sp.2.2.1 ∧ tV By Nb Sp.2.2.1 ≤ Sp.2.2.2 2 - 1) := fun z => tN_gg (by rw [← h268]; exact z)
        have h273 : S267.2.2.2 = Sp.2.2.2 := by rw [h268]; exact tN_w
        have h274 := Imp_m h257.2.2.2.2.2.2.2.2.2.2.2.1 (by (first | exact q_c5d285f1b9 this | omega))
        have h275 := Imp_m h257.2.2.2.2.2.2.2.2.2.2.2.2.1 (by (first | exact q_097a37c2ae this | omega))
        have h276 := Imp_m h257.2.2.2.2.2.2.2.2.2.2.2.2.2.1 (by first | exact q_a3a41410e6 h251 h115.2.2.2 h7 | omega)
        refine En_Ps 1 (pc' := 54) (lv' := [(1, .int z262), (0, .ref 159)]) (st' := []) rfl ?_
        obtain ⟨z278, h277, h279, h280⟩ := WT_peekI h255 tgz_159 (by decide +kernel : FT 35 10 = (0, 0, 4)) (by decide +kernel)
        obtain ⟨z282, h281, h283, h284⟩ := WT_peekI h255 tgz_159 (by decide +kernel : FT 35 11 = (0, 0, 99999)) (by decide +kernel)
        have h285 := ML_k h269 h261
        have h286 : Imp (S267.1 = 0) (tK By Nb S267.2.2.1 = z278.toInt) := ML_t h269 h277
        have h287 : Imp (S267.1 = 0 ∧ tK By Nb S267.2.2.1 = 2) (z282.toInt = min 99999 (tV By Nb S267.2.2.1) ∧ 0 ≤ tV By Nb S267.2.2.1) := fun q => ML_u h269 h281 q.1 q.2
        have h288 : S267.2.2.2 2 = Sp.2.2.2 2 := by rw [h273]
        refine En_Ps 2 (pc' := 56) (lv' := [(1, .int z262), (0, .ref 159)]) (st' := [.ref 159, .ref 159]) rfl ?_
        refine En_getK (j := 14) ((h256 _ _ (inW tgz_159 (by decide +kernel))).trans h19) rfl rfl rfl tgz_159 (by decide +kernel) ?_
        refine En_Ps 1 (pc' := 60) (lv' := [(1, .int z262), (0, .ref 159)]) (st' := [.int ((Int32.ofInt 2)), .ref 165, .ref 159]) rfl ?_
        refine En_ialdK ((h256 _ _ (inWa tgz_165 (by decide +kernel))).trans h12) rfl (by decide : (Int32.ofInt 2).toInt = 2) tgz_165 (by decide +kernel) h255 (by decide) (lnI (by decide +kernel : LN _ = 226) (by decide)) ?_
        refine En_callV rfl rfl rfl rfl rfl rfl rfl rfl tgz_159 (by decide +kernel) rfl (c_260x σ254 h255 z13 z260 h261 z278 h277 z282 h281) (by decide) (by decide) (fun v291 σ292 h290 => ?_)
        obtain ⟨h293, h294, z296, rfl, h295⟩ := h290
        obtain rfl : σ254 = σ292 := Fr_nil h294
        refine En_iEq _ rfl rfl (fun h297 => ?_) (fun h297 => ?_)
        · have h298 : gTw2 By Nb (tV By Nb Sp.2.2.1) S267 = S267 := by unfold gTw2; (repeat' split) <;> first | rfl | (exfalso; omega) | ((try have i0 := Imp_m h286 (by omega)); (try have i1 := Imp_m h272 (by omega)); (try have i2 := Imp_m h271 (by omega)); (try have i3 := Imp_m h10 (by omega)); (try have i4 := Imp_m h11 (by omega)); (try have i5 := Imp_m h287 (by omega)); (try have i6 := Imp_m h27.2.2.2 (by omega)); (try have i7 := Imp_m h242.2.2.1 (by omega)); (try have i8 := Imp_m h257.2.2.2.2.2.2.2.2.2.2.2.2.2.2.1 (by omega)); (try have i9 := Imp_m h257.2.2.2.2.2.2.2.2.2.2.2.2.2.2.2.1 (by omega)); (try have i10 := Imp_m h295.2.2.1 (by omega)); (try have i11 := Imp_m h295.2.2.2 (by omega)); exfalso; omega)
          refine En_Ps 3 (pc' := 94) (lv' := [(1, .int z262), (0, .ref 159)]) (st' := [.ref 159, .int ((Int32.ofInt 0)), .ref 159]) rfl ?_
          refine En_getK (j := 14) ((h256 _ _ (inW tgz_159 (by decide +kernel))).trans h19) rfl rfl rfl tgz_159 (by decide +kernel) ?_
          refine En_Ps 1 (pc' := 98) (lv' := [(1, .int z262), (0, .ref 159)]) (st' := [.int ((Int32.ofInt 2)), .ref 165, .int ((Int32.ofInt 0)), .ref 159]) rfl ?_
          refine En_ialdK ((h256 _ _ (inWa tgz_165 (by decide +kernel))).trans h12) rfl (by decide : (Int32.ofInt 2).toInt = 2) tgz_165 (by decide +kernel) h255 (by decide) (lnI (by decide +kernel : LN _ = 226) (by decide)) ?_
          refine En_Ps 2 (pc' := 101) (lv' := [(1, .int z262), (0, .ref 159)]) (st' := [.int ((z13 - ((Int32.ofInt 1)))), .int ((Int32.ofInt 0)), .ref 159]) rfl ?_
          refine En_top (subI rfl (by decide : (Int32.ofInt 1).toInt = 1) (by first | exact q_93f9478bef h14 | omega) (by first | exact q_cc3cee8591 h15 | omega)) (fun z300 h301 => ?_)
          have := (by decide : ((Int32.ofInt 0)).toInt = 0)
          refine En_callV rfl rfl rfl rfl rfl rfl rfl rfl tgz_159 (by decide +kernel) rfl (c_288x σ254 h255 ((Int32.ofInt 0)) z300 (geI (by decide : (Int32.ofInt 0).toInt = 0) (by decide)) (leI (by decide : (Int32.ofInt 0).toInt = 0) (by decide)) (geI rfl (by first | exact q_e2c277696c h301 h14 | omega)) (leI rfl (by first | exact q_d89d511a18 h301 h15 | omega)) z258 h259 z260 h261 z278 h277 z282 h281 h269) (by decide) (by decide) (fun v303 σ304 h302 => ?_)
          obtain ⟨h305, h306, z308, h309, z310, h311, z312, rfl, h307⟩ := h302
          have h313 := h307.2.2.2.2.2.2.2.2.2.2.2.2.2.2.2.2
          have h314 := Fr_trans h264 h306 (by decide +kernel)
          have h315 := KF_fr h265 h306 (by decide +kernel)
          have h316 : tN By Nb ((Int32.ofInt 0)).toInt z300.toInt S267 = tN By Nb (0) (Sp.2.2.2 2 - 1) S267 := tN_cg2 (fun zz => by have j1 := Imp_m h271 zz; have j2 := Imp_m h272 zz; have j3 := Imp_m h10 j2.1; have j4 := Imp_m h11 ⟨j2.1, j2.2.1⟩; have j5 := Imp_m h286 zz; (first | exact q_d2dcd30e56 this | omega)) (fun zz => by have j1 := Imp_m h271 zz; have j2 := Imp_m h272 zz; have j3 := Imp_m h10 j2.1; have j4 := Imp_m h11 ⟨j2.1, j2.2.1⟩; have j5 := Imp_m h286 zz; (first | exact q_171d7b85d9 h301 h16 | omega))
          obtain ⟨S317, h318⟩ : ∃ q : PS, q = tN By Nb (0) (Sp.2.2.2 2 - 1) S267 := ⟨_, rfl⟩
          have h319 : ML By Nb σ304 S317 := by rw [h318]; exact (ML_eq h313.1 h316)
          have h320 := ML_k h319 h311
          have h321 : Imp (S317.1 = 0) (z312.toInt = tV By Nb S267.2.2.1) := fun z => h313.2 (by rw [h316, ← h318]; exact z)
          have h322 : Imp (S317.1 = 0) (S267.1 = 0 ∧ tK By Nb S267.2.2.1 = 2 ∧ 0 ≤ tV By Nb S267.2.2.1 ∧ tV By Nb S267.2.2.1 ≤ Sp.2.2.2 2 - 1) := fun z => tN_gg (by rw [← h318]; exact z)
          have h323 : S317.2.2.2 = S267.2.2.2 := by rw [h318]; exact tN_w
          have h324 := Imp_m h307.2.2.2.2.2.2.2.2.2.2.2.1 (by (first | exact q_c5d285f1b9 this | omega))
          have h325 := Imp_m h307.2.2.2.2.2.2.2.2.2.2.2.2.1 (by (first | exact q_097a37c2ae this | omega))
          have h326 := Imp_m h307.2.2.2.2.2.2.2.2.2.2.2.2.2.1 (by first | exact q_a3a41410e6 h301 h115.2.2.2 h7 | omega)
          refine En_Ps 2 (pc' := 106) (lv' := [(2, .int z312), (1, .int z262), (0, .ref 159)]) (st' := [.ref 159]) rfl ?_
          refine En_callV rfl rfl rfl rfl rfl rfl rfl rfl tgz_159 (by decide +kernel) rfl (c_237 σ304 h305 z310 h311) (by decide) (by decide) (fun v328 σ329 h327 => ?_)
          obtain ⟨h330, h331, z333, rfl, h332⟩ := h327
          obtain rfl : σ304 = σ329 := Fr_nil h331
          refine En_iEq _ rfl rfl (fun h334 => ?_) (fun hx => by exfalso; have := Imp_m h257.2.2.2.2.2.2.2.2.2.2.2.2.2.2.2.1 (by (first | exact q_468044b3db h332.2.2.1 hx h332.1 h307.2.2.2.2.2.2.2.1 | omega)); have := Imp_m h307.2.2.2.2.2.2.2.2.2.2.2.2.2.2.2.1 (by (first | exact q_59622b1fc0 h332.2.2.1 hx h332.1 | omega)); have := Imp_m h295.2.2.2 (by (first | exact q_5b6d284d4d h297 this.1 this.2.1 this.2.2.1 | omega)); have := Imp_m h307.2.2.2.2.2.2.2.2.2.2.2.2.2.2.1 (by omega); have := Imp_m h257.2.2.2.2.2.2.2.2.2.2.2.2.2.2.1 (by omega); omega)
          exact En_ret (v := none) rfl rfl rfl ⟨h305, h314, z308, h309, z310, h311, rfl, ⟨by first | exact q_a555021d16 h307.2.2.1 | omega, by first | exact q_76190b61a3 h307.2.2.2.1 | omega, by first | exact q_ccc3bb8fc9 h257.2.2.2.2.1 h307.2.2.2.2.1 | omega, by first | exact q_a555021d16 h307.2.2.2.2.2.1 | omega, by first | exact q_c733b715bf h307.2.2.2.2.2.2.1 | omega, by first | exact q_8ad2cc928a h115.1 h307.2.2.2.2.2.1 | omega, by first | exact q_28bfca2c13 h257.2.2.2.2.1 h307.2.2.2.2.1 | omega, fun hh => by first | exact q_35a72a35ef h115.1 | omega, ⟨h315, ML_eq h319 (by unfold gTwin; dsimp only; rw [h248, ← h268, h298, ← h318]; first | done | rfl | (rw [if_pos (by omega)]; first | done | rfl) | (rw [if_neg (by (first | exact q_4abb957687 h332.2.2.2 h334 h320 | omega))]; first | done | rfl))⟩⟩⟩
        · have h335 := Imp_m h295.2.2.1 (by first | exact q_e3350da514 h297 h295.1 | omega)
          have h336 := Imp_m h257.2.2.2.2.2.2.2.2.2.2.2.2.2.2.2.1 (by first | exact q_35a72a35ef h335.1 | omega)
          have h337 : S267.1 = 0 := by (first | exact q_b85f3ebfbc h285 h257.2.2.2.2.2.1 h335.1 | omega)
          have h338 := Imp_m h286 h337
          have h339 : tK By Nb S267.2.2.1 = 2 := by (first | exact q_b919d68c0b h338 h335.2.2.1 h335.2.1 | omega)
          have h340 := Imp_m h271 h337
          have h341 := Imp_m h272 h337
          have h342 := Imp_m h10 h341.1
          have h343 := Imp_m h11 ⟨h341.1, h341.2.1⟩
          have h344 := Imp_m h286 h337
          have h345 := Imp_m h287 ⟨h337, h339⟩
          refine En_Ps 1 (pc' := 68) (lv' := [(1, .int z262), (0, .ref 159)]) (st' := [.ref 159]) rfl ?_
          refine En_getK (j := 11) h281 rfl rfl rfl tgz_159 (by decide +kernel) ?_
          refine En_Ps 1 (pc' := 72) (lv' := [(1, .int z262), (0, .ref 159)]) (st' := [.int z262, .int z282]) rfl ?_
          refine En_icEq _ rfl rfl rfl (fun h346 => ?_) (fun h346 => ?_)
          · refine En_Ps 2 (pc' := 88) (lv' := [(1, .int z262), (0, .ref 159)]) (st' := [.int ((Int32.ofInt 2)), .ref 159]) rfl ?_
            have := (by decide : ((Int32.ofInt 2)).toInt = 2)
            refine En_callV rfl rfl rfl rfl rfl rfl rfl rfl tgz_159 (by decide +kernel) rfl (c_223x σ254 h255 ((Int32.ofInt 2)) (geI (by decide : (Int32.ofInt 2).toInt = 2) (by decide)) (leI (by decide : (Int32.ofInt 2).toInt = 2) (by decide)) z260 h261 h269) (by decide) (by decide) (fun v348 σ349 h347 => ?_)
            obtain ⟨h350, h351, z353, h354, rfl, h352⟩ := h347
            have h355 := h352.2.2.2.2
            have h356 := Fr_trans h264 h351 (by decide +kernel)
            have h357 := KF_fr h265 h351 (by decide +kernel)
            obtain ⟨S358, h359⟩ : ∃ q : PS, q = err By Nb 2 S267 := ⟨_, rfl⟩
            have h360 : ML By Nb σ349 S358 := by rw [h359]; exact (ML_eq h355 (err_cg (by (first | exact q_bef0c64981 this | omega))))
            have h361 := ML_k h360 h354
            have h362 : Imp (S358.1 = 0) (tK By Nb S358.2.2.1 = z278.toInt) := ML_t h360 ((h351 _ _ (inW tgz_159 (by decide +kernel))).trans h277)
            have h363 : Imp (S358.1 = 0 ∧ tK By Nb S358.2.2.1 = 2) (z282.toInt = min 99999 (tV By Nb S358.2.2.1) ∧ 0 ≤ tV By Nb S358.2.2.1) := fun q => ML_u h360 ((h351 _ _ (inW tgz_159 (by decide +kernel))).trans h281) q.1 q.2
            have h364 : S358.2.2.2 = S267.2.2.2 := by rw [h359]; exact err_w
            have h365 : gTw2 By Nb (tV By Nb Sp.2.2.1) S267 = S358 := by rw [h359]; unfold gTw2; (repeat' split) <;> first | rfl | (exfalso; omega) | ((try have i0 := Imp_m h362 (by omega)); (try have i1 := Imp_m h286 (by omega)); (try have i2 := Imp_m h272 (by omega)); (try have i3 := Imp_m h271 (by omega)); (try have i4 := Imp_m h10 (by omega)); (try have i5 := Imp_m h11 (by omega)); (try have i6 := Imp_m h287 (by omega)); (try have i7 := Imp_m h363 (by omega)); (try have i8 := Imp_m h27.2.2.2 (by omega)); (try have i9 := Imp_m h242.2.2.1 (by omega)); (try have i10 := Imp_m h257.2.2.2.2.2.2.2.2.2.2.2.2.2.2.1 (by omega)); (try have i11 := Imp_m h295.2.2.2 (by omega)); exfalso; omega)
            refine En_Ps 3 (pc' := 94) (lv' := [(1, .int z262), (0, .ref 159)]) (st' := [.ref 159, .int ((Int32.ofInt 0)), .ref 159]) rfl ?_
            refine En_getK (j := 14) ((h351 _ _ (inW tgz_159 (by decide +kernel))).trans ((h256 _ _ (inW tgz_159 (by decide +kernel))).trans h19)) rfl rfl rfl tgz_159 (by decide +kernel) ?_
            refine En_Ps 1 (pc' := 98) (lv' := [(1, .int z262), (0, .ref 159)]) (st' := [.int ((Int32.ofInt 2)), .ref 165, .int ((Int32.ofInt 0)), .ref 159]) rfl ?_
            refine En_ialdK ((h351 _ _ (inWa tgz_165 (by decide +kernel))).trans ((h256 _ _ (inWa tgz_165 (by decide +kernel))).trans h12)) rfl (by decide : (Int32.ofInt 2).toInt = 2) tgz_165 (by decide +kernel) h350 (by decide) (lnI (by decide +kernel : LN _ = 226) (by decide)) ?_
            refine En_Ps 2 (pc' := 101) (lv' := [(1, .int z262), (0, .ref 159)]) (st' := [.int ((z13 - ((Int32.ofInt 1)))), .int ((Int32.ofInt 0)), .ref 159]) rfl ?_
            refine En_top (subI rfl (by decide : (Int32.ofInt 1).toInt = 1) (by first | exact q_93f9478bef h14 | omega) (by first | exact q_cc3cee8591 h15 | omega)) (fun z367 h368 => ?_)
            have := (by decide : ((Int32.ofInt 0)).toInt = 0)
            refine En_callV rfl rfl rfl rfl rfl rfl rfl rfl tgz_159 (by decide +kernel) rfl (c_288x σ349 h350 ((Int32.ofInt 0)) z367 (geI (by decide : (Int32.ofInt 0).toInt = 0) (by decide)) (leI (by decide : (Int32.ofInt 0).toInt = 0) (by decide)) (geI rfl (by first | exact q_e2c277696c h368 h14 | omega)) (leI rfl (by first | exact q_d89d511a18 h368 h15 | omega)) z258 ((h351 _ _ (inW tgz_159 (by decide +kernel))).trans h259) z353 h354 z278 ((h351 _ _ (inW tgz_159 (by decide +kernel))).trans h277) z282 ((h351 _ _ (inW tgz_159 (by decide +kernel))).trans h281) h360) (by decide) (by decide) (fun v370 σ371 h369 => ?_)
            obtain ⟨h372, h373, z375, h376, z377, h378, z379, rfl, h374⟩ := h369
            have h380 := h374.2.2.2.2.2.2.2.2.2.2.2.2.2.2.2.2
            have h381 := Fr_trans h356 h373 (by decide +kernel)
            have h382 := KF_fr h357 h373 (by decide +kernel)
            have h383 : tN By Nb ((Int32.ofInt 0)).toInt z367.toInt S358 = tN By Nb (0) (Sp.2.2.2 2 - 1) S358 := tN_cg2 (fun zz => by have j1 := Imp_m h362 zz; (first | exact q_d2dcd30e56 this | omega)) (fun zz => by have j1 := Imp_m h362 zz; (first | exact q_db787123b5 h368 h16 h361 h352.1 zz | omega))
            obtain ⟨S384, h385⟩ : ∃ q : PS, q = tN By Nb (0) (Sp.2.2.2 2 - 1) S358 := ⟨_, rfl⟩
            have h386 : ML By Nb σ371 S384 := by rw [h385]; exact (ML_eq h380.1 h383)
            have h387 := ML_k h386 h378
            have h388 : Imp (S384.1 = 0) (z379.toInt = tV By Nb S358.2.2.1) := fun z => h380.2 (by rw [h383, ← h385]; exact z)
            have h389 : Imp (S384.1 = 0) (S358.1 = 0 ∧ tK By Nb S358.2.2.1 = 2 ∧ 0 ≤ tV By Nb S358.2.2.1 ∧ tV By Nb S358.2.2.1 ≤ Sp.2.2.2 2 - 1) := fun z => tN_gg (by rw [← h385]; exact z)
            have h390 : S384.2.2.2 = S358.2.2.2 := by rw [h385]; exact tN_w
            have h391 := Imp_m h374.2.2.2.2.2.2.2.2.2.2.2.1 (by (first | exact q_c5d285f1b9 this | omega))
            have h392 := Imp_m h374.2.2.2.2.2.2.2.2.2.2.2.2.1 (by (first | exact q_097a37c2ae this | omega))
            have h393 := Imp_m h374.2.2.2.2.2.2.2.2.2.2.2.2.2.1 (by first | exact q_39c54a281d h368 h115.2.2.2 h336.2.2.2.1 h257.1 | omega)
            refine En_Ps 2 (pc' := 106) (lv' := [(2, .int z379), (1, .int z262), (0, .ref 159)]) (st' := [.ref 159]) rfl ?_
            refine En_callV rfl rfl rfl rfl rfl rfl rfl rfl tgz_159 (by decide +kernel) rfl (c_237 σ371 h372 z377 h378) (by decide) (by decide) (fun v395 σ396 h394 => ?_)
            obtain ⟨h397, h398, z400, rfl, h399⟩ := h394
            obtain rfl : σ371 = σ396 := Fr_nil h398
            refine En_iEq _ rfl rfl (fun h401 => ?_) (fun hx => by exfalso; have := Imp_m h257.2.2.2.2.2.2.2.2.2.2.2.2.2.2.1 (by (first | exact q_295258dbed h399.2.2.1 hx h399.1 h374.2.2.2.2.2.2.2.1 h352.1 | omega)); have := Imp_m h374.2.2.2.2.2.2.2.2.2.2.2.2.2.2.1 (by (first | exact q_295258dbed h399.2.2.1 hx h399.1 h374.2.2.2.2.2.2.2.1 h352.1 | omega)); have := Imp_m h374.2.2.2.2.2.2.2.2.2.2.2.2.2.2.2.1 (by (first | exact q_59622b1fc0 h399.2.2.1 hx h399.1 | omega)); (first | exact q_96d501f46b h352.1 this.1 | omega))
            exact En_ret (v := none) rfl rfl rfl ⟨h372, h381, z375, h376, z377, h378, rfl, ⟨by first | exact q_a555021d16 h374.2.2.1 | omega, by first | exact q_76190b61a3 h374.2.2.2.1 | omega, by first | exact q_ccc3bb8fc9 h257.2.2.2.2.1 h374.2.2.2.2.1 | omega, by first | exact q_a555021d16 h374.2.2.2.2.2.1 | omega, by first | exact q_c733b715bf h374.2.2.2.2.2.2.1 | omega, by first | exact q_8ad2cc928a h115.1 h374.2.2.2.2.2.1 | omega, by first | exact q_28bfca2c13 h257.2.2.2.2.1 h374.2.2.2.2.1 | omega, fun hh => by first | exact q_35a72a35ef h115.1 | omega, ⟨h382, ML_eq h386 (by unfold gTwin; dsimp only; rw [h248, ← h268, h365, ← h385]; first | done | rfl | (rw [if_pos (by omega)]; first | done | rfl) | (rw [if_neg (by (first | exact q_84edeb3f01 h387 h374.2.2.2.2.2.2.2.1 h352.1 | omega))]; first | done | rfl))⟩⟩⟩
          · refine En_Ps 2 (pc' := 77) (lv' := [(1, .int z262), (0, .ref 159)]) (st' := [.ref 159, .ref 159]) rfl ?_
            refine En_getK (j := 11) h281 rfl rfl rfl tgz_159 (by decide +kernel) ?_
            refine En_callV rfl rfl rfl rfl rfl rfl rfl rfl tgz_159 (by decide +kernel) rfl (c_217x σ254 h255 z282 (geI rfl (by first | exact q_58e6e51dcc h283 | omega)) (leI rfl (by first | exact q_e0b718e8e1 h335.2.2.2 h15 | omega))) (by decide) (by decide) (fun v403 σ404 h402 => ?_)
            obtain ⟨h405, h406, z408, rfl, h407⟩ := h402
            have h409 := h407.2.2
            obtain rfl : σ254 = σ404 := Fr_nil h406
            have h410 := h409
            have h411 : ci σ254 165 (13 + 4 * z282.toInt) = S267.2.2.2 (13 + 4 * tV By Nb S267.2.2.1) := ML_ci h269 (by (first | exact q_d2dcd30e56 h337 | omega)) (by omega) (by (first | exact q_ecbead000b h283 | omega)) (by (first | exact q_d55dace28b h335.2.2.2 h15 | omega))
            refine En_iEq _ rfl rfl (fun h412 => ?_) (fun h412 => ?_)
            · have h413 : gTw2 By Nb (tV By Nb Sp.2.2.1) S267 = S267 := by unfold gTw2; (repeat' split) <;> first | rfl | (exfalso; omega) | ((try have i0 := Imp_m h286 (by omega)); (try have i1 := Imp_m h272 (by omega)); (try have i2 := Imp_m h271 (by omega)); (try have i3 := Imp_m h10 (by omega)); (try have i4 := Imp_m h11 (by omega)); (try have i5 := Imp_m h287 (by omega)); (try have i6 := Imp_m h27.2.2.2 (by omega)); (try have i7 := Imp_m h242.2.2.1 (by omega)); (try have i8 := Imp_m h257.2.2.2.2.2.2.2.2.2.2.2.2.2.2.1 (by omega)); (try have i9 := Imp_m h295.2.2.2 (by omega)); exfalso; omega)
              refine En_Ps 3 (pc' := 94) (lv' := [(1, .int z262), (0, .ref 159)]) (st' := [.ref 159, .int ((Int32.ofInt 0)), .ref 159]) rfl ?_
              refine En_getK (j := 14) ((h256 _ _ (inW tgz_159 (by decide +kernel))).trans h19) rfl rfl rfl tgz_159 (by decide +kernel) ?_
              refine En_Ps 1 (pc' := 98) (lv' := [(1, .int z262), (0, .ref 159)]) (st' := [.int ((Int32.ofInt 2)), .ref 165, .int ((Int32.ofInt 0)), .ref 159]) rfl ?_
              refine En_ialdK ((h256 _ _ (inWa tgz_165 (by decide +kernel))).trans h12) rfl (by decide : (Int32.ofInt 2).toInt = 2) tgz_165 (by decide +kernel) h255 (by decide) (lnI (by decide +kernel : LN _ = 226) (by decide)) ?_
              refine En_Ps 2 (pc' := 101) (lv' := [(1, .int z262), (0, .ref 159)]) (st' := [.int ((z13 - ((Int32.ofInt 1)))), .int ((Int32.ofInt 0)), .ref 159]) rfl ?_
              refine En_top (subI rfl (by decide : (Int32.ofInt 1).toInt = 1) (by first | exact q_93f9478bef h14 | omega) (by first | exact q_cc3cee8591 h15 | omega)) (fun z415 h416 => ?_)
              have := (by decide : ((Int32.ofInt 0)).toInt = 0)
              refine En_callV rfl rfl rfl rfl rfl rfl rfl rfl tgz_159 (by decide +kernel) rfl (c_288x σ254 h255 ((Int32.ofInt 0)) z415 (geI (by decide : (Int32.ofInt 0).toInt = 0) (by decide)) (leI (by decide : (Int32.ofInt 0).toInt = 0) (by decide)) (geI rfl (by first | exact q_e2c277696c h416 h14 | omega)) (leI rfl (by first | exact q_d89d511a18 h416 h15 | omega)) z258 h259 z260 h261 z278 h277 z282 h281 h269) (by decide) (by decide) (fun v418 σ419 h417 => ?_)
              obtain ⟨h420, h421, z423, h424, z425, h426, z427, rfl, h422⟩ := h417
              have h428 := h422.2.2.2.2.2.2.2.2.2.2.2.2.2.2.2.2
              have h429 := Fr_trans h264 h421 (by decide +kernel)
              have h430 := KF_fr h265 h421 (by decide +kernel)
              have h431 : tN By Nb ((Int32.ofInt 0)).toInt z415.toInt S267 = tN By Nb (0) (Sp.2.2.2 2 - 1) S267 := tN_cg2 (fun zz => by have j1 := Imp_m h271 zz; have j2 := Imp_m h272 zz; have j3 := Imp_m h10 j2.1; have j4 := Imp_m h11 ⟨j2.1, j2.2.1⟩; have j5 := Imp_m h286 zz; (first | exact q_d2dcd30e56 this | omega)) (fun zz => by have j1 := Imp_m h271 zz; have j2 := Imp_m h272 zz; have j3 := Imp_m h10 j2.1; have j4 := Imp_m h11 ⟨j2.1, j2.2.1⟩; have j5 := Imp_m h286 zz; (first | exact q_171d7b85d9 h416 h16 | omega))
              obtain ⟨S432, h433⟩ : ∃ q : PS, q = tN By Nb (0) (Sp.2.2.2 2 - 1) S267 := ⟨_, rfl⟩
              have h434 : ML By Nb σ419 S432 := by rw [h433]; exact (ML_eq h428.1 h431)
              have h435 := ML_k h434 h426
              have h436 : Imp (S432.1 = 0) (z427.toInt = tV By Nb S267.2.2.1) := fun z => h428.2 (by rw [h431, ← h433]; exact z)
              have h437 : Imp (S432.1 = 0) (S267.1 = 0 ∧ tK By Nb S267.2.2.1 = 2 ∧ 0 ≤ tV By Nb S267.2.2.1 ∧ tV By Nb S267.2.2.1 ≤ Sp.2.2.2 2 - 1) := fun z => tN_gg (by rw [← h433]; exact z)
              have h438 : S432.2.2.2 = S267.2.2.2 := by rw [h433]; exact tN_w
              have h439 := Imp_m h422.2.2.2.2.2.2.2.2.2.2.2.1 (by (first | exact q_c5d285f1b9 this | omega))
              have h440 := Imp_m h422.2.2.2.2.2.2.2.2.2.2.2.2.1 (by (first | exact q_097a37c2ae this | omega))
              have h441 := Imp_m h422.2.2.2.2.2.2.2.2.2.2.2.2.2.1 (by first | exact q_a3a41410e6 h416 h335.2.2.2 h283 | omega)
              refine En_Ps 2 (pc' := 106) (lv' := [(2, .int z427), (1, .int z262), (0, .ref 159)]) (st' := [.ref 159]) rfl ?_
              refine En_callV rfl rfl rfl rfl rfl rfl rfl rfl tgz_159 (by decide +kernel) rfl (c_237 σ419 h420 z425 h426) (by decide) (by decide) (fun v443 σ444 h442 => ?_)
              obtain ⟨h445, h446, z448, rfl, h447⟩ := h442
              obtain rfl : σ419 = σ444 := Fr_nil h446
              refine En_iEq _ rfl rfl (fun h449 => ?_) (fun h449 => ?_)
              · exact En_ret (v := none) rfl rfl rfl ⟨h420, h429, z423, h424, z425, h426, rfl, ⟨by first | exact q_a555021d16 h422.2.2.1 | omega, by first | exact q_76190b61a3 h422.2.2.2.1 | omega, by first | exact q_ccc3bb8fc9 h257.2.2.2.2.1 h422.2.2.2.2.1 | omega, by first | exact q_a555021d16 h422.2.2.2.2.2.1 | omega, by first | exact q_c733b715bf h422.2.2.2.2.2.2.1 | omega, by first | exact q_8ad2cc928a h115.1 h422.2.2.2.2.2.1 | omega, by first | exact q_28bfca2c13 h257.2.2.2.2.1 h422.2.2.2.2.1 | omega, fun hh => by first | exact q_35a72a35ef h115.1 | omega, ⟨h430, ML_eq h434 (by unfold gTwin; dsimp only; rw [h248, ← h268, h413, ← h433]; first | done | rfl | (rw [if_pos (by omega)]; first | done | rfl) | (rw [if_neg (by (first | exact q_4abb957687 h447.2.2.2 h449 h435 | omega))]; first | done | rfl))⟩⟩⟩
              · have h450 := Imp_m h422.2.2.2.2.2.2.2.2.2.2.2.2.2.2.2.1 (by (first | exact q_59622b1fc0 h447.2.2.1 h449 h447.1 | omega))
                have h451 : S432.1 = 0 := by (first | exact q_1d088e2de8 h435 h422.2.2.2.2.2.1 h447.2.2.1 h449 h447.1 | omega)
                have h452 := Imp_m h436 h451
                have h453 := Imp_m h437 h451
                have h454 := Imp_m h271 h453.1
                have h455 := Imp_m h272 h453.1
                have h456 := Imp_m h10 h455.1
                have h457 := Imp_m h11 ⟨h455.1, h455.2.1⟩
                have h458 := Imp_m h286 h453.1
                have h459 := Imp_m h287 ⟨h453.1, h453.2.1⟩
                refine En_Ps 1 (pc' := 113) (lv' := [(2, .int z427), (1, .int z262), (0, .ref 159)]) (st' := [.ref 159]) rfl ?_
                refine En_getK (j := 14) ((h421 _ _ (inW tgz_159 (by decide +kernel))).trans ((h256 _ _ (inW tgz_159 (by decide +kernel))).trans h19)) rfl rfl rfl tgz_159 (by decide +kernel) ?_
                refine En_Ps 4 (pc' := 121) (lv' := [(2, .int z427), (1, .int z262), (0, .ref 159)]) (st' := [.int ((((Int32.ofInt 4)) * z262)), .int (((Int8.ofInt 10).toInt32)), .ref 165]) rfl ?_
                refine En_top (mulI (by decide : (Int32.ofInt 4).toInt = 4) rfl (Z := 4 * z262.toInt) (by first | exact q_8696eb12a7 | omega) (by first | exact q_75d17c0fda h336.2.2.2.2.1 h7 | omega) (by first | exact q_9ffa38fd64 h336.2.2.2.1 h336.2.2.2.2.2.2 h251 h15 | omega)) (fun z460 h461 => ?_)
                refine En_Ps 1 (pc' := 122) (lv' := [(2, .int z427), (1, .int z262), (0, .ref 159)]) (st' := [.int (((((Int8.ofInt 10).toInt32)) + z460)), .ref 165]) rfl ?_
                refine En_top (addI (by decide : ((Int8.ofInt 10).toInt32).toInt = 10) rfl (by first | exact q_feb34eb884 h461 h257.1 | omega) (by first | exact q_b05fdbfc49 h461 h276 h251 h15 | omega)) (fun z462 h463 => ?_)
                refine En_Ps 2 (pc' := 124) (lv' := [(2, .int z427), (1, .int z262), (0, .ref 159)]) (st' := [.int ((z462 + ((Int32.ofInt 3)))), .ref 165]) rfl ?_
                refine En_top (addI rfl (by decide : (Int32.ofInt 3).toInt = 3) (by first | exact q_5e2f65f32c h463 h461 h257.1 | omega) (by first | exact q_5ce2bcb71f h463 h461 h276 h251 h15 | omega)) (fun z464 h465 => ?_)
                refine En_Ps 1 (pc' := 125) (lv' := [(2, .int z427), (1, .int z262), (0, .ref 159)]) (st' := [.int z427, .int z464, .ref 165]) rfl ?_
                refine En_iast (l := (-1)) (u := 3) rfl rfl tgz_165 (by decide +kernel) (by first | exact q_ce80ff501e h465 h463 h461 h257.1 | omega) (lnI (by decide +kernel : LN _ = 226) (by first | exact q_0b8423a552 h465 h463 h461 h276 h251 h15 | omega)) (FTrow 41 13 4 4 (by decide +kernel) (by first | exact q_6b3256713e h465 h463 h461 h257.1 | omega) (by first | exact q_a1ee96a155 h465 h463 h461 h276 h251 h15 | omega) (by first | exact q_090c32d68c h461 h463 h465 | omega)) (rngI rfl (by first | exact q_1ab37740a2 h422.1 | omega) (by first | exact q_5856343edf h441 h416 h15 | omega)) h420 h429 (by decide +kernel) (fun σ466 h467 h468 h469 h470 => ?_)
                have h471 := KF_st h430 (J := z464.toInt) h470 (by (first | exact q_ce80ff501e h465 h463 h461 h275 | omega)) (by (first | exact q_7a6e6e0a06 h465 h463 h461 h275 | omega))
                obtain ⟨S472, h473⟩ : ∃ q : PS, q = wst S432 (13 + 4 * (tV By Nb Sp.2.2.1)) ((tV By Nb S267.2.2.1)) := ⟨_, rfl⟩
                have h474 : ML By Nb σ466 S472 := by rw [h473]; exact (ML_wst (i := 13 + 4 * (tV By Nb Sp.2.2.1)) (v := (tV By Nb S267.2.2.1)) h434 h469 h470 (by (first | exact q_ce80ff501e h465 h463 h461 h275 | omega)) (fun z => by have j1 := Imp_m h436 z; have j2 := Imp_m h437 z; have j3 := Imp_m h271 j2.1; have j4 := Imp_m h272 j2.1; have j5 := Imp_m h10 j4.1; have j6 := Imp_m h11 ⟨j4.1, j4.2.1⟩; have j7 := Imp_m h286 j2.1; have j8 := Imp_m h287 ⟨j2.1, j2.2.1⟩; exact ⟨by (first | exact q_518692ad20 j3 h465 h463 h461 | omega), by (first | exact q_a8fb2024c1 j1 | omega)⟩))
                have h475 := ML_k h474 ((h470 _ _ (Or.inl (neTG tgz_159 tgz_165 (by decide)))).trans h426)
                have h476 : S472.1 = S432.1 := by rw [h473]; rfl
                exact En_ret (v := none) rfl rfl rfl ⟨h467, h468, z423, ((h470 _ _ (Or.inl (neTG tgz_159 tgz_165 (by decide)))).trans h424), z425, ((h470 _ _ (Or.inl (neTG tgz_159 tgz_165 (by decide)))).trans h426), rfl, ⟨by first | exact q_a555021d16 h422.2.2.1 | omega, by first | exact q_76190b61a3 h422.2.2.2.1 | omega, by first | exact q_ccc3bb8fc9 h257.2.2.2.2.1 h422.2.2.2.2.1 | omega, by first | exact q_a555021d16 h422.2.2.2.2.2.1 | omega, by first | exact q_c733b715bf h422.2.2.2.2.2.2.1 | omega, by first | exact q_8ad2cc928a h115.1 h422.2.2.2.2.2.1 | omega, by first | exact q_28bfca2c13 h257.2.2.2.2.1 h422.2.2.2.2.1 | omega, fun hh => by first | exact q_35a72a35ef h115.1 | omega, ⟨h471, ML_eq h474 (by unfold gTwin; dsimp only; rw [h248, ← h268, h413, ← h433, ← h473]; first | done | rfl | (rw [if_pos (by (first | exact q_d2dcd30e56 h451 | omega))]; first | done | rfl) | (rw [if_neg (by omega)]; first | done | rfl))⟩⟩⟩
            · refine En_Ps 2 (pc' := 88) (lv' := [(1, .int z262), (0, .ref 159)]) (st' := [.int ((Int32.ofInt 2)), .ref 159]) rfl ?_
              have := (by decide : ((Int32.ofInt 2)).toInt = 2)
              refine En_callV rfl rfl rfl rfl rfl rfl rfl rfl tgz_159 (by decide +kernel) rfl (c_223x σ254 h255 ((Int32.ofInt 2)) (geI (by decide : (Int32.ofInt 2).toInt = 2) (by decide)) (leI (by decide : (Int32.ofInt 2).toInt = 2) (by decide)) z260 h261 h269) (by decide) (by decide) (fun v478 σ479 h477 => ?_)
              obtain ⟨h480, h481, z483, h484, rfl, h482⟩ := h477
              have h485 := h482.2.2.2.2
              have h486 := Fr_trans h264 h481 (by decide +kernel)
              have h487 := KF_fr h265 h481 (by decide +kernel)
              obtain ⟨S488, h489⟩ : ∃ q : PS, q = err By Nb 2 S267 := ⟨_, rfl⟩
              have h490 : ML By Nb σ479 S488 := by rw [h489]; exact (ML_eq h485 (err_cg (by (first | exact q_bef0c64981 this | omega))))
              have h491 := ML_k h490 h484
              have h492 : Imp (S488.1 = 0) (tK By Nb S488.2.2.1 = z278.toInt) := ML_t h490 ((h481 _ _ (inW tgz_159 (by decide +kernel))).trans h277)
              have h493 : Imp (S488.1 = 0 ∧ tK By Nb S488.2.2.1 = 2) (z282.toInt = min 99999 (tV By Nb S488.2.2.1) ∧ 0 ≤ tV By Nb S488.2.2.1) := fun q => ML_u h490 ((h481 _ _ (inW tgz_159 (by decide +kernel))).trans h281) q.1 q.2
              have h494 : S488.2.2.2 = S267.2.2.2 := by rw [h489]; exact err_w
              have h495 : gTw2 By Nb (tV By Nb Sp.2.2.1) S267 = S488 := by rw [h489]; unfold gTw2; (repeat' split) <;> first | rfl | (exfalso; omega) | ((try have i0 := Imp_m h492 (by omega)); (try have i1 := Imp_m h286 (by omega)); (try have i2 := Imp_m h272 (by omega)); (try have i3 := Imp_m h271 (by omega)); (try have i4 := Imp_m h10 (by omega)); (try have i5 := Imp_m h11 (by omega)); (try have i6 := Imp_m h287 (by omega)); (try have i7 := Imp_m h493 (by omega)); (try have i8 := Imp_m h27.2.2.2 (by omega)); (try have i9 := Imp_m h242.2.2.1 (by omega)); (try have i10 := Imp_m h257.2.2.2.2.2.2.2.2.2.2.2.2.2.2.1 (by omega)); (try have i11 := Imp_m h295.2.2.2 (by omega)); exfalso; omega)
              refine En_Ps 3 (pc' := 94) (lv' := [(1, .int z262), (0, .ref 159)]) (st' := [.ref 159, .int ((Int32.ofInt 0)), .ref 159]) rfl ?_
              refine En_getK (j := 14) ((h481 _ _ (inW tgz_159 (by decide +kernel))).trans ((h256 _ _ (inW tgz_159 (by decide +kernel))).trans h19)) rfl rfl rfl tgz_159 (by decide +kernel) ?_
              refine En_Ps 1 (pc' := 98) (lv' := [(1, .int z262), (0, .ref 159)]) (st' := [.int ((Int32.ofInt 2)), .ref 165, .int ((Int32.ofInt 0)), .ref 159]) rfl ?_
              refine En_ialdK ((h481 _ _ (inWa tgz_165 (by decide +kernel))).trans ((h256 _ _ (inWa tgz_165 (by decide +kernel))).trans h12)) rfl (by decide : (Int32.ofInt 2).toInt = 2) tgz_165 (by decide +kernel) h480 (by decide) (lnI (by decide +kernel : LN _ = 226) (by decide)) ?_
              refine En_Ps 2 (pc' := 101) (lv' := [(1, .int z262), (0, .ref 159)]) (st' := [.int ((z13 - ((Int32.ofInt 1)))), .int ((Int32.ofInt 0)), .ref 159]) rfl ?_
              refine En_top (subI rfl (by decide : (Int32.ofInt 1).toInt = 1) (by first | exact q_93f9478bef h14 | omega) (by first | exact q_cc3cee8591 h15 | omega)) (fun z497 h498 => ?_)
              have := (by decide : ((Int32.ofInt 0)).toInt = 0)
              refine En_callV rfl rfl rfl rfl rfl rfl rfl rfl tgz_159 (by decide +kernel) rfl (c_288x σ479 h480 ((Int32.ofInt 0)) z497 (geI (by decide : (Int32.ofInt 0).toInt = 0) (by decide)) (leI (by decide : (Int32.ofInt 0).toInt = 0) (by decide)) (geI rfl (by first | exact q_e2c277696c h498 h14 | omega)) (leI rfl (by first | exact q_d89d511a18 h498 h15 | omega)) z258 ((h481 _ _ (inW tgz_159 (by decide +kernel))).trans h259) z483 h484 z278 ((h481 _ _ (inW tgz_159 (by decide +kernel))).trans h277) z282 ((h481 _ _ (inW tgz_159 (by decide +kernel))).trans h281) h490) (by decide) (by decide) (fun v500 σ501 h499 => ?_)
              obtain ⟨h502, h503, z505, h506, z507, h508, z509, rfl, h504⟩ := h499
              have h510 := h504.2.2.2.2.2.2.2.2.2.2.2.2.2.2.2.2
              have h511 := Fr_trans h486 h503 (by decide +kernel)
              have h512 := KF_fr h487 h503 (by decide +kernel)
              have h513 : tN By Nb ((Int32.ofInt 0)).toInt z497.toInt S488 = tN By Nb (0) (Sp.2.2.2 2 - 1) S488 := tN_cg2 (fun zz => by have j1 := Imp_m h492 zz; (first | exact q_d2dcd30e56 this | omega)) (fun zz => by have j1 := Imp_m h492 zz; (first | exact q_171d7b85d9 h498 h16 | omega))
              obtain ⟨S514, h515⟩ : ∃ q : PS, q = tN By Nb (0) (Sp.2.2.2 2 - 1) S488 := ⟨_, rfl⟩
              have h516 : ML By Nb σ501 S514 := by rw [h515]; exact (ML_eq h510.1 h513)
              have h517 := ML_k h516 h508
              have h518 : Imp (S514.1 = 0) (z509.toInt = tV By Nb S488.2.2.1) := fun z => h510.2 (by rw [h513, ← h515]; exact z)
              have h519 : Imp (S514.1 = 0) (S488.1 = 0 ∧ tK By Nb S488.2.2.1 = 2 ∧ 0 ≤ tV By Nb S488.2.2.1 ∧ tV By Nb S488.2.2.1 ≤ Sp.2.2.2 2 - 1) := fun z => tN_gg (by rw [← h515]; exact z)
              have h520 : S514.2.2.2 = S488.2.2.2 := by rw [h515]; exact tN_w
              have h521 := Imp_m h504.2.2.2.2.2.2.2.2.2.2.2.1 (by (first | exact q_c5d285f1b9 this | omega))
              have h522 := Imp_m h504.2.2.2.2.2.2.2.2.2.2.2.2.1 (by (first | exact q_097a37c2ae this | omega))
              have h523 := Imp_m h504.2.2.2.2.2.2.2.2.2.2.2.2.2.1 (by first | exact q_a3a41410e6 h498 h335.2.2.2 h283 | omega)
              refine En_Ps 2 (pc' := 106) (lv' := [(2, .int z509), (1, .int z262), (0, .ref 159)]) (st' := [.ref 159]) rfl ?_
              refine En_callV rfl rfl rfl rfl rfl rfl rfl rfl tgz_159 (by decide +kernel) rfl (c_237 σ501 h502 z507 h508) (by decide) (by decide) (fun v525 σ526 h524 => ?_)
              obtain ⟨h527, h528, z530, rfl, h529⟩ := h524
              obtain rfl : σ501 = σ526 := Fr_nil h528
              refine En_iEq _ rfl rfl (fun h531 => ?_) (fun hx => by exfalso; have := Imp_m h257.2.2.2.2.2.2.2.2.2.2.2.2.2.2.1 (by (first | exact q_295258dbed h529.2.2.1 hx h529.1 h504.2.2.2.2.2.2.2.1 h482.1 | omega)); have := Imp_m h504.2.2.2.2.2.2.2.2.2.2.2.2.2.2.1 (by (first | exact q_295258dbed h529.2.2.1 hx h529.1 h504.2.2.2.2.2.2.2.1 h482.1 | omega)); have := Imp_m h504.2.2.2.2.2.2.2.2.2.2.2.2.2.2.2.1 (by (first | exact q_59622b1fc0 h529.2.2.1 hx h529.1 | omega)); (first | exact q_96d501f46b h482.1 this.1 | omega))
              exact En_ret (v := none) rfl rfl rfl ⟨h502, h511, z505, h506, z507, h508, rfl, ⟨by first | exact q_a555021d16 h504.2.2.1 | omega, by first | exact q_76190b61a3 h504.2.2.2.1 | omega, by first | exact q_ccc3bb8fc9 h257.2.2.2.2.1 h504.2.2.2.2.1 | omega, by first | exact q_a555021d16 h504.2.2.2.2.2.1 | omega, by first | exact q_c733b715bf h504.2.2.2.2.2.2.1 | omega, by first | exact q_8ad2cc928a h115.1 h504.2.2.2.2.2.1 | omega, by first | exact q_28bfca2c13 h257.2.2.2.2.1 h504.2.2.2.2.1 | omega, fun hh => by first | exact q_35a72a35ef h115.1 | omega, ⟨h512, ML_eq h516 (by unfold gTwin; dsimp only; rw [h248, ← h268, h495, ← h515]; first | done | rfl | (rw [if_pos (by omega)]; first | done | rfl) | (rw [if_neg (by (first | exact q_84edeb3f01 h517 h504.2.2.2.2.2.2.2.1 h482.1 | omega))]; first | done | rfl))⟩⟩⟩
      · have h532 := Imp_m h242.2.2.1 (by first | exact ⟨q_ad5b726bf8 h242.2.1, q_e3350da514 h247 h242.1⟩ | omega)
        refine En_Ps 2 (pc' := 37) (lv' := [(0, .ref 159)]) (st' := [.int ((Int32.ofInt 2)), .ref 159]) rfl ?_
        have := (by decide : ((Int32.ofInt 2)).toInt = 2)
        refine En_callV rfl rfl rfl rfl rfl rfl rfl rfl tgz_159 (by decide +kernel) rfl (c_223x σ0 hσ0 ((Int32.ofInt 2)) (geI (by decide : (Int32.ofInt 2).toInt = 2) (by decide)) (leI (by decide : (Int32.ofInt 2).toInt = 2) (by decide)) k h_k hM) (by decide) (by decide) (fun v534 σ535 h533 => ?_)
        obtain ⟨h536, h537, z539, h540, rfl, h538⟩ := h533
        have h541 := h538.2.2.2.2
        have h542 := Fr_trans hF0 h537 (by decide +kernel)
        have h543 := KF_fr (KF_0 (σ := σ0)) h537 (by decide +kernel)
        obtain ⟨S544, h545⟩ : ∃ q : PS, q = err By Nb 2 Sp := ⟨_, rfl⟩
        have h546 : ML By Nb σ535 S544 := by rw [h545]; exact (ML_eq h541 (err_cg (by (first | exact q_bef0c64981 this | omega))))
        have h547 := ML_k h546 h540
        have h548 : Imp (S544.1 = 0) (tK By Nb S544.2.2.1 = z2.toInt) := ML_t h546 ((h537 _ _ (inW tgz_159 (by decide +kernel))).trans h1)
        have h549 : Imp (S544.1 = 0 ∧ tK By Nb S544.2.2.1 = 2) (z6.toInt = min 99999 (tV By Nb S544.2.2.1) ∧ 0 ≤ tV By Nb S544.2.2.1) := fun q => ML_u h546 ((h537 _ _ (inW tgz_159 (by decide +kernel))).trans h5) q.1 q.2
        have h550 : S544.2.2.2 = Sp.2.2.2 := by rw [h545]; exact err_w
        have h551 : gTw1 By Nb Sp = S544 := by rw [h545]; unfold gTw1; (repeat' split) <;> first | rfl | (exfalso; omega) | ((try have i0 := Imp_m h548 (by omega)); (try have i1 := Imp_m h10 (by omega)); (try have i2 := Imp_m h11 (by omega)); (try have i3 := Imp_m h549 (by omega)); (try have i4 := Imp_m h27.2.2.2 (by omega)); exfalso; omega)
        refine En_Ps 3 (pc' := 43) (lv' := [(0, .ref 159)]) (st' := [.ref 159, .int ((Int32.ofInt 0)), .ref 159]) rfl ?_
        refine En_getK (j := 14) ((h537 _ _ (inW tgz_159 (by decide +kernel))).trans h19) rfl rfl rfl tgz_159 (by decide +kernel) ?_
        refine En_Ps 1 (pc' := 47) (lv' := [(0, .ref 159)]) (st' := [.int ((Int32.ofInt 2)), .ref 165, .int ((Int32.ofInt 0)), .ref 159]) rfl ?_
        refine En_ialdK ((h537 _ _ (inWa tgz_165 (by decide +kernel))).trans h12) rfl (by decide : (Int32.ofInt 2).toInt = 2) tgz_165 (by decide +kernel) h536 (by decide) (lnI (by decide +kernel : LN _ = 226) (by decide)) ?_
        refine En_Ps 2 (pc' := 50) (lv' := [(0, .ref 159)]) (st' := [.int ((z13 - ((Int32.ofInt 1)))), .int ((Int32.ofInt 0)), .ref 159]) rfl ?_
        refine En_top (subI rfl (by decide : (Int32.ofInt 1).toInt = 1) (by first | exact q_93f9478bef h14 | omega) (by first | exact q_cc3cee8591 h15 | omega)) (fun z553 h554 => ?_)
        have := (by decide : ((Int32.ofInt 0)).toInt = 0)
        refine En_callV rfl rfl rfl rfl rfl rfl rfl rfl tgz_159 (by decide +kernel) rfl (c_288x σ535 h536 ((Int32.ofInt 0)) z553 (geI (by decide : (Int32.ofInt 0).toInt = 0) (by decide)) (leI (by decide : (Int32.ofInt 0).toInt = 0) (by decide)) (geI rfl (by first | exact q_e2c277696c h554 h14 | omega)) (leI rfl (by first | exact q_d89d511a18 h554 h15 | omega)) f ((h537 _ _ (inW tgz_159 (by decide +kernel))).trans h_f) z539 h540 z2 ((h537 _ _ (inW tgz_159 (by decide +kernel))).trans h1) z6 ((h537 _ _ (inW tgz_159 (by decide +kernel))).trans h5) h546) (by decide) (by decide) (fun v556 σ557 h555 => ?_)
        obtain ⟨h558, h559, z561, h562, z563, h564, z565, rfl, h560⟩ := h555
        have h566 := h560.2.2.2.2.2.2.2.2.2.2.2.2.2.2.2.2
        have h567 := Fr_trans h542 h559 (by decide +kernel)
        have h568 := KF_fr h543 h559 (by decide +kernel)
        have h569 : tN By Nb ((Int32.ofInt 0)).toInt z553.toInt S544 = tN By Nb (0) (Sp.2.2.2 2 - 1) S544 := tN_cg2 (fun zz => by have j1 := Imp_m h548 zz; (first | exact q_d2dcd30e56 this | omega)) (fun zz => by have j1 := Imp_m h548 zz; (first | exact q_171d7b85d9 h554 h16 | omega))
        obtain ⟨S570, h571⟩ : ∃ q : PS, q = tN By Nb (0) (Sp.2.2.2 2 - 1) S544 := ⟨_, rfl⟩
        have h572 : ML By Nb σ557 S570 := by rw [h571]; exact (ML_eq h566.1 h569)
        have h573 := ML_k h572 h564
        have h574 : Imp (S570.1 = 0) (z565.toInt = tV By Nb S544.2.2.1) := fun z => h566.2 (by rw [h569, ← h571]; exact z)
        have h575 : Imp (S570.1 = 0) (S544.1 = 0 ∧ tK By Nb S544.2.2.1 = 2 ∧ 0 ≤ tV By Nb S544.2.2.1 ∧ tV By Nb S544.2.2.1 ≤ Sp.2.2.2 2 - 1) := fun z => tN_gg (by rw [← h571]; exact z)
        have h576 : S570.2.2.2 = S544.2.2.2 := by rw [h571]; exact tN_w
        have h577 := Imp_m h560.2.2.2.2.2.2.2.2.2.2.2.1 (by (first | exact q_c5d285f1b9 this | omega))
        have h578 := Imp_m h560.2.2.2.2.2.2.2.2.2.2.2.2.1 (by (first | exact q_097a37c2ae this | omega))
        have h579 := Imp_m h560.2.2.2.2.2.2.2.2.2.2.2.2.2.1 (by first | exact q_a3a41410e6 h554 h115.2.2.2 h7 | omega)
        refine En_Ps 1 (pc' := 54) (lv' := [(1, .int z565), (0, .ref 159)]) (st' := []) rfl ?_
        obtain ⟨z581, h580, h582, h583⟩ := WT_peekI h558 tgz_159 (by decide +kernel : FT 35 10 = (0, 0, 4)) (by decide +kernel)
        obtain ⟨z585, h584, h586, h587⟩ := WT_peekI h558 tgz_159 (by decide +kernel : FT 35 11 = (0, 0, 99999)) (by decide +kernel)
        have h588 := ML_k h572 h564
        have h589 : Imp (S570.1 = 0) (tK By Nb S570.2.2.1 = z581.toInt) := ML_t h572 h580
        have h590 : Imp (S570.1 = 0 ∧ tK By Nb S570.2.2.1 = 2) (z585.toInt = min 99999 (tV By Nb S570.2.2.1) ∧ 0 ≤ tV By Nb S570.2.2.1) := fun q => ML_u h572 h584 q.1 q.2
        have h591 : S570.2.2.2 2 = Sp.2.2.2 2 := by rw [h576, h550]
        refine En_Ps 2 (pc' := 56) (lv' := [(1, .int z565), (0, .ref 159)]) (st' := [.ref 159, .ref 159]) rfl ?_
        refine En_getK (j := 14) ((h559 _ _ (inW tgz_159 (by decide +kernel))).trans ((h537 _ _ (inW tgz_159 (by decide +kernel))).trans h19)) rfl rfl rfl tgz_159 (by decide +kernel) ?_
        refine En_Ps 1 (pc' := 60) (lv' := [(1, .int z565), (0, .ref 159)]) (st' := [.int ((Int32.ofInt 2)), .ref 165, .ref 159]) rfl ?_
        refine En_ialdK ((h559 _ _ (inWa tgz_165 (by decide +kernel))).trans ((h537 _ _ (inWa tgz_165 (by decide +kernel))).trans h12)) rfl (by decide : (Int32.ofInt 2).toInt = 2) tgz_165 (by decide +kernel) h558 (by decide) (lnI (by decide +kernel : LN _ = 226) (by decide)) ?_
        refine En_callV rfl rfl rfl rfl rfl rfl rfl rfl tgz_159 (by decide +kernel) rfl (c_260x σ557 h558 z13 z563 h564 z581 h580 z585 h584) (by decide) (by decide) (fun v594 σ595 h593 => ?_)
        obtain ⟨h596, h597, z599, rfl, h598⟩ := h593
        obtain rfl : σ557 = σ595 := Fr_nil h597
        refine En_iEq _ rfl rfl (fun h600 => ?_) (fun hx => by exfalso; have := Imp_m h598.2.2.1 (by (first | exact q_e3350da514 hx h598.1 | omega)); have := Imp_m h560.2.2.2.2.2.2.2.2.2.2.2.2.2.2.1 (by (first | exact q_91c4be1b4e this.1 h560.2.2.2.2.2.2.2.1 h538.1 | omega)); have := Imp_m h560.2.2.2.2.2.2.2.2.2.2.2.2.2.2.2.1 (by omega); (first | exact q_96d501f46b h538.1 this.1 | omega))
        have h601 : gTw2 By Nb (tV By Nb S544.2.2.1) S570 = S570 := by unfold gTw2; (repeat' split) <;> first | rfl | (exfalso; omega) | ((try have i0 := Imp_m h589 (by omega)); (try have i1 := Imp_m h575 (by omega)); (try have i2 := Imp_m h574 (by omega)); (try have i3 := Imp_m h548 (by omega)); (try have i4 := Imp_m h10 (by omega)); (try have i5 := Imp_m h11 (by omega)); (try have i6 := Imp_m h549 (by omega)); (try have i7 := Imp_m h590 (by omega)); (try have i8 := Imp_m h27.2.2.2 (by omega)); (try have i9 := Imp_m h560.2.2.2.2.2.2.2.2.2.2.2.2.2.2.1 (by omega)); (try have i10 := Imp_m h560.2.2.2.2.2.2.2.2.2.2.2.2.2.2.2.1 (by omega)); (try have i11 := Imp_m h598.2.2.1 (by omega)); (try have i12 := Imp_m h598.2.2.2 (by omega)); exfalso; omega)
        refine En_Ps 3 (pc' := 94) (lv' := [(1, .int z565), (0, .ref 159)]) (st' := [.ref 159, .int ((Int32.ofInt 0)), .ref 159]) rfl ?_
        refine En_getK (j := 14) ((h559 _ _ (inW tgz_159 (by decide +kernel))).trans ((h537 _ _ (inW tgz_159 (by decide +kernel))).trans h19)) rfl rfl rfl tgz_159 (by decide +kernel) ?_
        refine En_Ps 1 (pc' := 98) (lv' := [(1, .int z565), (0, .ref 159)]) (st' := [.int ((Int32.ofInt 2)), .ref 165, .int ((Int32.ofInt 0)), .ref 159]) rfl ?_
        refine En_ialdK ((h559 _ _ (inWa tgz_165 (by decide +kernel))).trans ((h537 _ _ (inWa tgz_165 (by decide +kernel))).trans h12)) rfl (by decide : (Int32.ofInt 2).toInt = 2) tgz_165 (by decide +kernel) h558 (by decide) (lnI (by decide +kernel : LN _ = 226) (by decide)) ?_
        refine En_Ps 2 (pc' := 101) (lv' := [(1, .int z565), (0, .ref 159)]) (st' := [.int ((z13 - ((Int32.ofInt 1)))), .int ((Int32.ofInt 0)), .ref 159]) rfl ?_
        refine En_top (subI rfl (by decide : (Int32.ofInt 1).toInt = 1) (by first | exact q_93f9478bef h14 | omega) (by first | exact q_cc3cee8591 h15 | omega)) (fun z603 h604 => ?_)
        have := (by decide : ((Int32.ofInt 0)).toInt = 0)
        refine En_callV rfl rfl rfl rfl rfl rfl rfl rfl tgz_159 (by decide +kernel) rfl (c_288x σ557 h558 ((Int32.ofInt 0)) z603 (geI (by decide : (Int32.ofInt 0).toInt = 0) (by decide)) (leI (by decide : (Int32.ofInt 0).toInt = 0) (by decide)) (geI rfl (by first | exact q_e2c277696c h604 h14 | omega)) (leI rfl (by first | exact q_d89d511a18 h604 h15 | omega)) z561 h562 z563 h564 z581 h580 z585 h584 h572) (by decide) (by decide) (fun v606 σ607 h605 => ?_)
        obtain ⟨h608, h609, z611, h612, z613, h614, z615, rfl, h610⟩ := h605
        have h616 := h610.2.2.2.2.2.2.2.2.2.2.2.2.2.2.2.2
        have h617 := Fr_trans h567 h609 (by decide +kernel)
        have h618 := KF_fr h568 h609 (by decide +kernel)
        have h619 : tN By Nb ((Int32.ofInt 0)).toInt z603.toInt S570 = tN By Nb (0) (Sp.2.2.2 2 - 1) S570 := tN_cg2 (fun zz => by have j1 := Imp_m h574 zz; have j2 := Imp_m h575 zz; have j3 := Imp_m h548 j2.1; have j4 := Imp_m h549 ⟨j2.1, j2.2.1⟩; have j5 := Imp_m h589 zz; (first | exact q_d2dcd30e56 this | omega)) (fun zz => by have j1 := Imp_m h574 zz; have j2 := Imp_m h575 zz; have j3 := Imp_m h548 j2.1; have j4 := Imp_m h549 ⟨j2.1, j2.2.1⟩; have j5 := Imp_m h589 zz; (first | exact q_171d7b85d9 h604 h16 | omega))
        obtain ⟨S620, h621⟩ : ∃ q : PS, q = tN By Nb (0) (Sp.2.2.2 2 - 1) S570 := ⟨_, rfl⟩
        have h622 : ML By Nb σ607 S620 := by rw [h621]; exact (ML_eq h616.1 h619)
        have h623 := ML_k h622 h614
        have h624 : Imp (S620.1 = 0) (z615.toInt = tV By Nb S570.2.2.1) := fun z => h616.2 (by rw [h619, ← h621]; exact z)
        have h625 : Imp (S620.1 = 0) (S570.1 = 0 ∧ tK By Nb S570.2.2.1 = 2 ∧ 0 ≤ tV By Nb S570.2.2.1 ∧ tV By Nb S570.2.2.1 ≤ Sp.2.2.2 2 - 1) := fun z => tN_gg (by rw [← h621]; exact z)
        have h626 : S620.2.2.2 = S570.2.2.2 := by rw [h621]; exact tN_w
        have h627 := Imp_m h610.2.2.2.2.2.2.2.2.2.2.2.1 (by (first | exact q_c5d285f1b9 this | omega))
        have h628 := Imp_m h610.2.2.2.2.2.2.2.2.2.2.2.2.1 (by (first | exact q_097a37c2ae this | omega))
        have h629 := Imp_m h610.2.2.2.2.2.2.2.2.2.2.2.2.2.1 (by first | exact q_a3a41410e6 h604 h115.2.2.2 h7 | omega)
        refine En_Ps 2 (pc' := 106) (lv' := [(2, .int z615), (1, .int z565), (0, .ref 159)]) (st' := [.ref 159]) rfl ?_
        refine En_callV rfl rfl rfl rfl rfl rfl rfl rfl tgz_159 (by decide +kernel) rfl (c_237 σ607 h608 z613 h614) (by decide) (by decide) (fun v631 σ632 h630 => ?_)
        obtain ⟨h633, h634, z636, rfl, h635⟩ := h630
        obtain rfl : σ607 = σ632 := Fr_nil h634
        refine En_iEq _ rfl rfl (fun h637 => ?_) (fun hx => by exfalso; have := Imp_m h560.2.2.2.2.2.2.2.2.2.2.2.2.2.2.1 (by (first | exact q_06f770509c h610.2.2.2.2.2.2.2.1 h560.2.2.2.2.2.2.2.1 h538.1 h635.2.2.1 hx h635.1 | omega)); have := Imp_m h560.2.2.2.2.2.2.2.2.2.2.2.2.2.2.2.1 (by (first | exact q_468044b3db h635.2.2.1 hx h635.1 h610.2.2.2.2.2.2.2.1 | omega)); have := Imp_m h598.2.2.2 (by (first | exact q_49167b939d h538.1 this.1 | omega)); have := Imp_m h610.2.2.2.2.2.2.2.2.2.2.2.2.2.2.1 (by (first | exact q_1a8ad1e296 h635.2.2.1 hx h635.1 h610.2.2.2.2.2.2.2.1 h560.2.2.2.2.2.2.2.1 h538.1 | omega)); have := Imp_m h610.2.2.2.2.2.2.2.2.2.2.2.2.2.2.2.1 (by (first | exact q_59622b1fc0 h635.2.2.1 hx h635.1 | omega)); (first | exact q_39f7d05155 this.1 h560.2.2.2.2.2.2.2.1 h538.1 | omega))
        exact En_ret (v := none) rfl rfl rfl ⟨h608, h617, z611, h612, z613, h614, rfl, ⟨by first | exact q_a555021d16 h610.2.2.1 | omega, by first | exact q_76190b61a3 h610.2.2.2.1 | omega, by first | exact q_ccc3bb8fc9 h560.2.2.2.2.1 h610.2.2.2.2.1 | omega, by first | exact q_a555021d16 h610.2.2.2.2.2.1 | omega, by first | exact q_c733b715bf h610.2.2.2.2.2.2.1 | omega, by first | exact q_8ad2cc928a h115.1 h610.2.2.2.2.2.1 | omega, by first | exact q_28bfca2c13 h560.2.2.2.2.1 h610.2.2.2.2.1 | omega, fun hh => by first | exact q_35a72a35ef h115.1 | omega, ⟨h618, ML_eq h622 (by unfold gTwin; dsimp only; rw [h551, ← h571, h601, ← h621]; first | done | rfl | (rw [if_pos (by omega)]; first | done | rfl) | (rw [if_neg (by (first | exact q_8c32eca55a h623 h610.2.2.2.2.2.2.2.1 h560.2.2.2.2.2.2.2.1 h538.1 | omega))]; first | done | rfl))⟩⟩⟩
end
/-! 32.m04 -/
section
/-- DoorSchoolModel.readRule(I)V -/
abbrev P_303ax (σ0 : SG) (By : Int → Int) (Nb : Int) (Sp : PS) (a : Int32) (f : Int32) (k : Int32) : PO := fun v σ => WT σ ∧ Fr [(35, 8), (35, 9), (35, 10), (35, 11), (35, 12), (35, 13), (41, 0)] σ0 σ ∧ ∃ f1 : Int32, (σ 159)[8]? = some (Value.int f1) ∧ ∃ k1 : Int32, (σ 159)[12]? = some (Value.int k1) ∧ v = none ∧ -f1.toInt ≤ 0 ∧ f1.toInt - 1600 ≤ 0 ∧ -f1.toInt + f.toInt ≤ 0 ∧ -k1.toInt ≤ 0 ∧ k1.toInt - 3 ≤ 0 ∧ -k1.toInt + k.toInt ≤ 0 ∧ f.toInt - f1.toInt ≤ 0 ∧ Imp (k1.toInt ≤ 0) (k.toInt ≤ 0) ∧ (KR σ0 σ ∧ ML By Nb σ (gRule By Nb a.toInt Sp))
set_option maxRecDepth 10000 in
set_option maxHeartbeats 4000000 in
theorem c_303ax {By : Int → Int} {Nb : Int} {Sp : PS} (σ0 : SG) (hσ0 : WT σ0) (a : Int32) (hl_a : 8 ≤ a.toInt) (hu_a : a.toInt ≤ 8) (f : Int32) (h_f : (σ0 159)[8]? = some (Value.int f)) (k : Int32) (h_k : (σ0 159)[12]? = some (Value.int k)) (hM : ML By Nb σ0 Sp) (hg : Sp.1 = 0) : En 4 89 none mr_303 (P_303ax σ0 By Nb Sp a f k) 0 [(0, .ref 159), (1, .int a)] [] σ0 := by
  obtain ⟨hl_f, hu_f⟩ := WT_int hσ0 (g := 35) (by decide +kernel) (by decide +kernel) (l := 0) (u := 1600) (by decide +kernel) h_f
  obtain ⟨hl_k, hu_k⟩ := WT_int hσ0 (g := 35) (by decide +kernel) (by decide +kernel) (l := 0) (u := 3) (by decide +kernel) h_k
  have hF0 : Fr [(35, 8), (35, 9), (35, 10), (35, 11), (35, 12), (35, 13), (41, 0)] σ0 σ0 := Fr_rfl
  have h1 := ML_k hM h_k
  refine En_Ps 1 (pc' := 1) (lv' := [(0, .ref 159), (1, .int a)]) (st' := [.ref 159]) rfl ?_
  refine En_callV rfl rfl rfl rfl rfl rfl rfl rfl tgz_159 (by decide +kernel) rfl (c_234x σ0 hσ0 f h_f k h_k hM) (by decide) (by decide) (fun v3 σ4 h2 => ?_)
  obtain ⟨h5, h6, z8, h9, z10, h11, z12, rfl, h7⟩ := h2
  have h13 := h7.2.2.2.2.2.2.2.2.2.2.2.2
  have h14 := Fr_trans hF0 h6 (by decide +kernel)
  have h15 := KR_fr (KR_0 (σ := σ0)) h6 (by decide +kernel)
  have h16 : tN By Nb 0 (pI (Sp.2.2.2 0) - 1) Sp = tN By Nb 0 (pI (Sp.2.2.2 0) - 1) Sp := tN_cg rfl (by rfl)
  obtain ⟨S17, h18⟩ : ∃ q : PS, q = tN By Nb 0 (pI (Sp.2.2.2 0) - 1) Sp := ⟨_, rfl⟩
  have h19 : ML By Nb σ4 S17 := by rw [h18]; exact (ML_eq h13.1 h16)
  have h20 := ML_k h19 h11
  have h21 : Imp (S17.1 = 0) (z12.toInt = tV By Nb Sp.2.2.1) := fun z => h13.2 (by rw [h16, ← h18]; exact z)
  have h22 : Imp (S17.1 = 0) (Sp.1 = 0 ∧ tK By Nb Sp.2.2.1 = 2 ∧ 0 ≤ tV By Nb Sp.2.2.1 ∧ tV By Nb Sp.2.2.1 ≤ pI (Sp.2.2.2 0) - 1) := fun z => tN_gg (by rw [← h18]; exact z)
  have h23 : S17.2.2.2 = Sp.2.2.2 := by rw [h18]; exact tN_w
  refine En_Ps 1 (pc' := 5) (lv' := [(2, .int z12), (0, .ref 159), (1, .int a)]) (st' := []) rfl ?_
  refine En_Ps 1 (pc' := 6) (lv' := [(2, .int z12), (0, .ref 159), (1, .int a)]) (st' := [.ref 159]) rfl ?_
  refine En_callV rfl rfl rfl rfl rfl rfl rfl rfl tgz_159 (by decide +kernel) rfl (c_237 σ4 h5 z10 h11) (by decide) (by decide) (fun v25 σ26 h24 => ?_)
  obtain ⟨h27, h28, z30, rfl, h29⟩ := h24
  obtain rfl : σ4 = σ26 := Fr_nil h28
  refine En_iEq _ rfl rfl (fun h31 => ?_) (fun h31 => ?_)
  · have h32 : gRl1 By Nb (tV By Nb Sp.2.2.1) S17 = S17 := by unfold gRl1; (repeat' split) <;> first | rfl | (exfalso; omega) | ((try have i0 := Imp_m h22 (by omega)); (try have i1 := Imp_m h21 (by omega)); (try have i2 := Imp_m h7.2.2.2.2.2.2.2.2.2.2.2.1 (by omega)); exfalso; omega)
    refine En_Ps 1 (pc' := 37) (lv' := [(2, .int z12), (0, .ref 159), (1, .int a)]) (st' := [.ref 159]) rfl ?_
    refine En_callV rfl rfl rfl rfl rfl rfl rfl rfl tgz_159 (by decide +kernel) rfl (c_234x σ4 h5 z8 h9 z10 h11 h19) (by decide) (by decide) (fun v34 σ35 h33 => ?_)
    obtain ⟨h36, h37, z39, h40, z41, h42, z43, rfl, h38⟩ := h33
    have h44 := h38.2.2.2.2.2.2.2.2.2.2.2.2
    have h45 := Fr_trans h14 h37 (by decide +kernel)
    have h46 := KR_fr h15 h37 (by decide +kernel)
    have h47 : tN By Nb 0 (pI (S17.2.2.2 0) - 1) S17 = tN By Nb 0 (pI (Sp.2.2.2 0) - 1) S17 := tN_cg rfl (by first | rfl | simp only [h23] | rfl)
    obtain ⟨S48, h49⟩ : ∃ q : PS, q = tN By Nb 0 (pI (Sp.2.2.2 0) - 1) S17 := ⟨_, rfl⟩
    have h50 : ML By Nb σ35 S48 := by rw [h49]; exact (ML_eq h44.1 h47)
    have h51 := ML_k h50 h42
    have h52 : Imp (S48.1 = 0) (z43.toInt = tV By Nb S17.2.2.1) := fun z => h44.2 (by rw [h47, ← h49]; exact z)
    have h53 : Imp (S48.1 = 0) (S17.1 = 0 ∧ tK By Nb S17.2.2.1 = 2 ∧ 0 ≤ tV By Nb S17.2.2.1 ∧ tV By Nb S17.2.2.1 ≤ pI (Sp.2.2.2 0) - 1) := fun z => tN_gg (by rw [← h49]; exact z)
    have h54 : S48.2.2.2 = S17.2.2.2 := by rw [h49]; exact tN_w
    refine En_Ps 2 (pc' := 42) (lv' := [(3, .int z43), (2, .int z12), (0, .ref 159), (1, .int a)]) (st' := [.ref 159]) rfl ?_
    refine En_callV rfl rfl rfl rfl rfl rfl rfl rfl tgz_159 (by decide +kernel) rfl (c_237 σ35 h36 z41 h42) (by decide) (by decide) (fun v56 σ57 h55 => ?_)
    obtain ⟨h58, h59, z61, rfl, h60⟩ := h55
    obtain rfl : σ35 = σ57 := Fr_nil h59
    refine En_iNe _ rfl rfl (fun hx => by exfalso; have := Imp_m h7.2.2.2.2.2.2.2.2.2.2.2.1 (by (first | exact q_468044b3db h60.2.2.1 hx h60.1 h38.2.2.2.2.2.2.2.1 | omega)); have := Imp_m h38.2.2.2.2.2.2.2.2.2.2.2.1 (by (first | exact q_59622b1fc0 h60.2.2.1 hx h60.1 | omega)); (first | exact q_2cdc176b8e h29.2.2.2 h31 this | omega)) (fun h62 => ?_)
    exact En_ret (v := none) rfl rfl rfl ⟨h36, h45, z39, h40, z41, h42, rfl, ⟨by first | exact q_a555021d16 h38.2.2.1 | omega, by first | exact q_76190b61a3 h38.2.2.2.1 | omega, by first | exact q_ccc3bb8fc9 h7.2.2.2.2.1 h38.2.2.2.2.1 | omega, by first | exact q_a555021d16 h38.2.2.2.2.2.1 | omega, by first | exact q_c733b715bf h38.2.2.2.2.2.2.1 | omega, by first | exact q_ccc3bb8fc9 h7.2.2.2.2.2.2.2.1 h38.2.2.2.2.2.2.2.1 | omega, by first | exact q_28bfca2c13 h7.2.2.2.2.1 h38.2.2.2.2.1 | omega, fun hh => by first | exact q_db388fd8e8 h7.2.2.2.2.2.2.2.1 h38.2.2.2.2.2.2.2.1 hh | omega, ⟨h46, ML_eq h50 (by unfold gRule; dsimp only; rw [← h18, h32, ← h49]; first | done | rfl | (rw [if_pos (by omega)]; first | done | rfl) | (rw [if_neg (by (first | exact q_4abb957687 h60.2.2.2 h62 h51 | omega))]; first | done | rfl))⟩⟩⟩
  · have h63 := Imp_m h7.2.2.2.2.2.2.2.2.2.2.2.1 (by (first | exact q_59622b1fc0 h29.2.2.1 h31 h29.1 | omega))
    obtain ⟨z65, h64, h66, h67⟩ := WT_peekI h5 tgz_159 (by decide +kernel : FT 35 10 = (0, 0, 4)) (by decide +kernel)
    obtain ⟨z69, h68, h70, h71⟩ := WT_peekI h5 tgz_159 (by decide +kernel : FT 35 11 = (0, 0, 99999)) (by decide +kernel)
    have h72 := ML_k h19 h11
    have h73 : Imp (S17.1 = 0) (tK By Nb S17.2.2.1 = z65.toInt) := ML_t h19 h64
    have h74 : Imp (S17.1 = 0 ∧ tK By Nb S17.2.2.1 = 2) (z69.toInt = min 99999 (tV By Nb S17.2.2.1) ∧ 0 ≤ tV By Nb S17.2.2.1) := fun q => ML_u h19 h68 q.1 q.2
    try have h75 := Imp_m h73 (by (first | exact q_1d088e2de8 h72 h7.2.2.2.2.2.1 h29.2.2.1 h31 h29.1 | omega))
    try have h76 := Imp_m h22 (by (first | exact q_1d088e2de8 h72 h7.2.2.2.2.2.1 h29.2.2.1 h31 h29.1 | omega))
    try have h77 := Imp_m h21 (by (first | exact q_1d088e2de8 h72 h7.2.2.2.2.2.1 h29.2.2.1 h31 h29.1 | omega))
    try have h78 := Imp_m h74 (by omega)
    refine En_Ps 1 (pc' := 13) (lv' := [(2, .int z12), (0, .ref 159), (1, .int a)]) (st' := [.ref 159]) rfl ?_
    refine En_getK (j := 10) h64 rfl rfl rfl tgz_159 (by decide +kernel) ?_
    refine En_Ps 1 (pc' := 17) (lv' := [(2, .int z12), (0, .ref 159), (1, .int a)]) (st' := [.int ((Int32.ofInt 2)), .int z65]) rfl ?_
    refine En_icNe _ rfl (by decide : (Int32.ofInt 2).toInt = 2) rfl (fun h79 => ?_) (fun h79 => ?_)
    · have h80 : gRl1 By Nb (tV By Nb Sp.2.2.1) S17 = S17 := by unfold gRl1; (repeat' split) <;> first | rfl | (exfalso; omega) | ((try have i0 := Imp_m h73 (by omega)); (try have i1 := Imp_m h22 (by omega)); (try have i2 := Imp_m h21 (by omega)); (try have i3 := Imp_m h74 (by omega)); exfalso; omega)
      refine En_Ps 1 (pc' := 37) (lv' := [(2, .int z12), (0, .ref 159), (1, .int a)]) (st' := [.ref 159]) rfl ?_
      refine En_callV rfl rfl rfl rfl rfl rfl rfl rfl tgz_159 (by decide +kernel) rfl (c_234x σ4 h5 z8 h9 z10 h11 h19) (by decide) (by decide) (fun v82 σ83 h81 => ?_)
      obtain ⟨h84, h85, z87, h88, z89, h90, z91, rfl, h86⟩ := h81
      have h92 := h86.2.2.2.2.2.2.2.2.2.2.2.2
      have h93 := Fr_trans h14 h85 (by decide +kernel)
      have h94 := KR_fr h15 h85 (by decide +kernel)
      have h95 : tN By Nb 0 (pI (S17.2.2.2 0) - 1) S17 = tN By Nb 0 (pI (Sp.2.2.2 0) - 1) S17 := tN_cg rfl (by first | rfl | simp only [h23] | rfl)
      obtain ⟨S96, h97⟩ : ∃ q : PS, q = tN By Nb 0 (pI (Sp.2.2.2 0) - 1) S17 := ⟨_, rfl⟩
      have h98 : ML By Nb σ83 S96 := by rw [h97]; exact (ML_eq h92.1 h95)
      have h99 := ML_k h98 h90
      have h100 : Imp (S96.1 = 0) (z91.toInt = tV By Nb S17.2.2.1) := fun z => h92.2 (by rw [h95, ← h97]; exact z)
      have h101 : Imp (S96.1 = 0) (S17.1 = 0 ∧ tK By Nb S17.2.2.1 = 2 ∧ 0 ≤ tV By Nb S17.2.2.1 ∧ tV By Nb S17.2.2.1 ≤ pI (Sp.2.2.2 0) - 1) := fun z => tN_gg (by rw [← h97]; exact z)
      have h102 : S96.2.2.2 = S17.2.2.2 := by rw [h97]; exact tN_w
      refine En_Ps 2 (pc' := 42) (lv' := [(3, .int z91), (2, .int z12), (0, .ref 159), (1, .int a)]) (st' := [.ref 159]) rfl ?_
      refine En_callV rfl rfl rfl rfl rfl rfl rfl rfl tgz_159 (by decide +kernel) rfl (c_237 σ83 h84 z89 h90) (by decide) (by decide) (fun v104 σ105 h103 => ?_)
      obtain ⟨h106, h107, z109, rfl, h108⟩ := h103
      obtain rfl : σ83 = σ105 := Fr_nil h107
      refine En_iNe _ rfl rfl (fun h110 => ?_) (fun h110 => ?_)
      · have h111 := Imp_m h86.2.2.2.2.2.2.2.2.2.2.2.1 (by (first | exact q_59622b1fc0 h108.2.2.1 h110 h108.1 | omega))
        have h112 : S96.1 = 0 := by (first | exact q_1d088e2de8 h99 h86.2.2.2.2.2.1 h108.2.2.1 h110 h108.1 | omega)
        have h113 := Imp_m h100 h112
        have h114 := Imp_m h101 h112
        have h115 := Imp_m h21 h114.1
        have h116 := Imp_m h22 h114.1
        have h117 := Imp_m h73 h114.1
        have h118 := Imp_m h74 ⟨h114.1, h114.2.1⟩
        refine En_Ps 1 (pc' := 50) (lv' := [(3, .int z91), (2, .int z12), (0, .ref 159), (1, .int a)]) (st' := [.ref 159]) rfl ?_
        refine En_getU (j := 14) (u := 165) (g' := 41) (q := 0) rfl rfl rfl tgz_159 (by decide +kernel) h84 (by decide +kernel) un_41_165 (fun h119 => ?_)
        refine En_Ps 2 (pc' := 55) (lv' := [(3, .int z91), (2, .int z12), (0, .ref 159), (1, .int a)]) (st' := [.int z12, .int a, .ref 165]) rfl ?_
        refine En_iast (l := 0) (u := 15) rfl rfl tgz_165 (by decide +kernel) (by first | exact q_d700dd5793 hl_a | omega) (lnI (by decide +kernel : LN _ = 226) (by first | exact q_f434134ec2 hu_a | omega)) (FTrow 41 8 1 1 (by decide +kernel) (by first | exact q_00f8a88c1a hl_a | omega) (by first | exact q_bd00bacd06 hu_a | omega) (by first | exact q_ca509d6b00 | omega)) (rngI rfl (by first | exact q_ef1e8e38bf h7.1 | omega) (by first | exact q_5a5f544404 h7.2.1 | omega)) h84 h93 (by decide +kernel) (fun σ121 h122 h123 h124 h125 => ?_)
        have h126 := KR_st h94 (J := a.toInt) h125 (by (first | exact q_24ecaa5177 hl_a | omega))
        obtain ⟨S127, h128⟩ : ∃ q : PS, q = wst S96 (a.toInt) ((tV By Nb Sp.2.2.1)) := ⟨_, rfl⟩
        have h129 : ML By Nb σ121 S127 := by rw [h128]; exact (ML_wst (i := a.toInt) (v := (tV By Nb Sp.2.2.1)) h98 h124 h125 (by (first | exact q_d700dd5793 hl_a | omega)) (fun z => by have j1 := Imp_m h100 z; have j2 := Imp_m h101 z; have j3 := Imp_m h21 j2.1; have j4 := Imp_m h22 j2.1; have j5 := Imp_m h73 j2.1; have j6 := Imp_m h74 ⟨j2.1, j2.2.1⟩; exact ⟨by (first | exact q_61ddd2b576 | omega), by (first | exact q_a8fb2024c1 j3 | omega)⟩))
        have h130 := ML_k h129 ((h125 _ _ (Or.inl (neTG tgz_159 tgz_165 (by decide)))).trans h90)
        have h131 : S127.1 = S96.1 := by rw [h128]; rfl
        refine En_Ps 1 (pc' := 57) (lv' := [(3, .int z91), (2, .int z12), (0, .ref 159), (1, .int a)]) (st' := [.ref 159]) rfl ?_
        refine En_getK (j := 14) ((h125 _ _ (Or.inl (neTG tgz_159 tgz_165 (by decide)))).trans h119) rfl rfl rfl tgz_159 (by decide +kernel) ?_
        refine En_Ps 3 (pc' := 63) (lv' := [(3, .int z91), (2, .int z12), (0, .ref 159), (1, .int a)]) (st' := [.int ((a + ((Int32.ofInt 1)))), .ref 165]) rfl ?_
        refine En_top (addI rfl (by decide : (Int32.ofInt 1).toInt = 1) (by first | exact q_295f3c3c38 hl_a | omega) (by first | exact q_40e36bf5f4 hu_a | omega)) (fun z132 h133 => ?_)
        refine En_Ps 1 (pc' := 64) (lv' := [(3, .int z91), (2, .int z12), (0, .ref 159), (1, .int a)]) (st' := [.int z91, .int z132, .ref 165]) rfl ?_
        refine En_iast (l := 0) (u := 15) rfl rfl tgz_165 (by decide +kernel) (by first | exact q_cf0b4927a2 h133 hl_a | omega) (lnI (by decide +kernel : LN _ = 226) (by first | exact q_b876a99c0c h133 hu_a | omega)) (FTrow 41 9 1 1 (by decide +kernel) (by first | exact q_3722053cd5 h133 hl_a | omega) (by first | exact q_aca8798d6d h133 hu_a | omega) (by first | exact q_a62048a674 | omega)) (rngI rfl (by first | exact q_ef1e8e38bf h86.1 | omega) (by first | exact q_5a5f544404 h86.2.1 | omega)) h122 h123 (by decide +kernel) (fun σ134 h135 h136 h137 h138 => ?_)
        have h139 := KR_st h126 (J := z132.toInt) h138 (by (first | exact q_5a77ba2110 h133 hl_a | omega))
        obtain ⟨S140, h141⟩ : ∃ q : PS, q = wst S127 (a.toInt + 1) ((tV By Nb S17.2.2.1)) := ⟨_, rfl⟩
        have h142 : ML By Nb σ134 S140 := by rw [h141]; exact (ML_wst (i := a.toInt + 1) (v := (tV By Nb S17.2.2.1)) h129 h137 h138 (by (first | exact q_cf0b4927a2 h133 hl_a | omega)) (fun z => by have j1 := h131.symm.trans z; have j2 := Imp_m h100 j1; have j3 := Imp_m h101 j1; have j4 := Imp_m h21 j3.1; have j5 := Imp_m h22 j3.1; have j6 := Imp_m h73 j3.1; have j7 := Imp_m h74 ⟨j3.1, j3.2.1⟩; exact ⟨by (first | exact q_dd63493976 h133 | omega), by (first | exact q_a8fb2024c1 j2 | omega)⟩))
        have h143 := ML_k h142 ((h138 _ _ (Or.inl (neTG tgz_159 tgz_165 (by decide)))).trans ((h125 _ _ (Or.inl (neTG tgz_159 tgz_165 (by decide)))).trans h90))
        have h144 : S140.1 = S127.1 := by rw [h141]; rfl
        exact En_ret (v := none) rfl rfl rfl ⟨h135, h136, z87, ((h138 _ _ (Or.inl (neTG tgz_159 tgz_165 (by decide)))).trans ((h125 _ _ (Or.inl (neTG tgz_159 tgz_165 (by decide)))).trans h88)), z89, ((h138 _ _ (Or.inl (neTG tgz_159 tgz_165 (by decide)))).trans ((h125 _ _ (Or.inl (neTG tgz_159 tgz_165 (by decide)))).trans h90)), rfl, ⟨by first | exact q_a555021d16 h86.2.2.1 | omega, by first | exact q_76190b61a3 h86.2.2.2.1 | omega, by first | exact q_ccc3bb8fc9 h7.2.2.2.2.1 h86.2.2.2.2.1 | omega, by first | exact q_a555021d16 h86.2.2.2.2.2.1 | omega, by first | exact q_c733b715bf h86.2.2.2.2.2.2.1 | omega, by first | exact q_8ad2cc928a h63 h86.2.2.2.2.2.1 | omega, by first | exact q_28bfca2c13 h7.2.2.2.2.1 h86.2.2.2.2.1 | omega, fun hh => by first | exact q_35a72a35ef h63 | omega, ⟨h139, ML_eq h142 (by unfold gRule; dsimp only; rw [← h18, h80, ← h97, ← h128, ← h141]; first | done | rfl | (rw [if_pos (by (first | exact q_d2dcd30e56 h112 | omega))]; first | done | rfl) | (rw [if_neg (by omega)]; first | done | rfl))⟩⟩⟩
      · exact En_ret (v := none) rfl rfl rfl ⟨h84, h93, z87, h88, z89, h90, rfl, ⟨by first | exact q_a555021d16 h86.2.2.1 | omega, by first | exact q_76190b61a3 h86.2.2.2.1 | omega, by first | exact q_ccc3bb8fc9 h7.2.2.2.2.1 h86.2.2.2.2.1 | omega, by first | exact q_a555021d16 h86.2.2.2.2.2.1 | omega, by first | exact q_c733b715bf h86.2.2.2.2.2.2.1 | omega, by first | exact q_8ad2cc928a h63 h86.2.2.2.2.2.1 | omega, by first | exact q_28bfca2c13 h7.2.2.2.2.1 h86.2.2.2.2.1 | omega, fun hh => by first | exact q_35a72a35ef h63 | omega, ⟨h94, ML_eq h98 (by unfold gRule; dsimp only; rw [← h18, h80, ← h97]; first | done | rfl | (rw [if_pos (by omega)]; first | done | rfl) | (rw [if_neg (by (first | exact q_4abb957687 h108.2.2.2 h110 h99 | omega))]; first | done | rfl))⟩⟩⟩
    · have h145 : S17.1 = 0 := by (first | exact q_1d088e2de8 h72 h7.2.2.2.2.2.1 h29.2.2.1 h31 h29.1 | omega)
      have h146 := Imp_m h73 h145
      have h147 : tK By Nb S17.2.2.1 = 2 := by (first | exact q_4ac8dceef2 h146 h79 | omega)
      have h148 := Imp_m h21 h145
      have h149 := Imp_m h22 h145
      have h150 := Imp_m h73 h145
      have h151 := Imp_m h74 ⟨h145, h147⟩
      refine En_Ps 1 (pc' := 21) (lv' := [(2, .int z12), (0, .ref 159), (1, .int a)]) (st' := [.ref 159]) rfl ?_
      refine En_getK (j := 11) h68 rfl rfl rfl tgz_159 (by decide +kernel) ?_
      have h152 : sbI (z69.toInt) (z12.toInt) = sbI (min 99999 (tV By Nb S17.2.2.1)) (tV By Nb Sp.2.2.1) := sbI_cg (by (first | exact q_b1495600e7 h151.1 | omega)) (by (first | exact q_b1495600e7 h148 | omega))
      refine En_Ps 3 (pc' := 27) (lv' := [(2, .int z12), (0, .ref 159), (1, .int a)]) (st' := [.int ((z12 ^^^ ((Int32.ofInt (-1))))), .int z69]) rfl ?_
      refine En_nam (fun z153 h154 => ?_)
      refine En_Ps 1 (pc' := 28) (lv' := [(2, .int z12), (0, .ref 159), (1, .int a)]) (st' := [.int ((z69 &&& z153))]) rfl ?_
      refine En_nam (fun z155 h156 => ?_)
      obtain ⟨h157, h158⟩ := andn_rng h156 rfl (by (first | exact q_58e6e51dcc h70 | omega)) (by (first | exact q_be76c1a152 h71 | omega) : _ ≤ (99999 : Int))
      refine En_iEq _ rfl rfl (fun h159 => ?_) (fun h159 => ?_)
      · obtain ⟨h160, h161⟩ := andn_zero h156 h154 h159 rfl rfl (by (first | exact q_ef1e8e38bf h7.1 | omega))
        have := sub_sbw h156 h154 rfl rfl (by (first | exact q_58e6e51dcc h160 | omega)) (by (first | exact q_ef1e8e38bf h7.1 | omega)) (by (first | exact q_5a5f544404 h7.2.1 | omega))
        have h162 : gRl1 By Nb (tV By Nb Sp.2.2.1) S17 = S17 := by unfold gRl1; (repeat' split) <;> first | rfl | (exfalso; omega) | ((try have i0 := Imp_m h73 (by omega)); (try have i1 := Imp_m h22 (by omega)); (try have i2 := Imp_m h21 (by omega)); (try have i3 := Imp_m h74 (by omega)); exfalso; omega)
        refine En_Ps 1 (pc' := 37) (lv' := [(2, .int z12), (0, .ref 159), (1, .int a)]) (st' := [.ref 159]) rfl ?_
        refine En_callV rfl rfl rfl rfl rfl rfl rfl rfl tgz_159 (by decide +kernel) rfl (c_234x σ4 h5 z8 h9 z10 h11 h19) (by decide) (by decide) (fun v164 σ165 h163 => ?_)
        obtain ⟨h166, h167, z169, h170, z171, h172, z173, rfl, h168⟩ := h163
        have h174 := h168.2.2.2.2.2.2.2.2.2.2.2.2
        have h175 := Fr_trans h14 h167 (by decide +kernel)
        have h176 := KR_fr h15 h167 (by decide +kernel)
        have h177 : tN By Nb 0 (pI (S17.2.2.2 0) - 1) S17 = tN By Nb 0 (pI (Sp.2.2.2 0) - 1) S17 := tN_cg rfl (by first | rfl | simp only [h23] | rfl)
        obtain ⟨S178, h179⟩ : ∃ q : PS, q = tN By Nb 0 (pI (Sp.2.2.2 0) - 1) S17 := ⟨_, rfl⟩
        have h180 : ML By Nb σ165 S178 := by rw [h179]; exact (ML_eq h174.1 h177)
        have h181 := ML_k h180 h172
        have h182 : Imp (S178.1 = 0) (z173.toInt = tV By Nb S17.2.2.1) := fun z => h174.2 (by rw [h177, ← h179]; exact z)
        have h183 : Imp (S178.1 = 0) (S17.1 = 0 ∧ tK By Nb S17.2.2.1 = 2 ∧ 0 ≤ tV By Nb S17.2.2.1 ∧ tV By Nb S17.2.2.1 ≤ pI (Sp.2.2.2 0) - 1) := fun z => tN_gg (by rw [← h179]; exact z)
        have h184 : S178.2.2.2 = S17.2.2.2 := by rw [h179]; exact tN_w
        refine En_Ps 2 (pc' := 42) (lv' := [(3, .int z173), (2, .int z12), (0, .ref 159), (1, .int a)]) (st' := [.ref 159]) rfl ?_
        refine En_callV rfl rfl rfl rfl rfl rfl rfl rfl tgz_159 (by decide +kernel) rfl (c_237 σ165 h166 z171 h172) (by decide) (by decide) (fun v186 σ187 h185 => ?_)
        obtain ⟨h188, h189, z191, rfl, h190⟩ := h185
        obtain rfl : σ165 = σ187 := Fr_nil h189
        refine En_iNe _ rfl rfl (fun h192 => ?_) (fun h192 => ?_)
        · have h193 := Imp_m h168.2.2.2.2.2.2.2.2.2.2.2.1 (by (first | exact q_59622b1fc0 h190.2.2.1 h192 h190.1 | omega))
          have h194 : S178.1 = 0 := by (first | exact q_1d088e2de8 h181 h168.2.2.2.2.2.1 h190.2.2.1 h192 h190.1 | omega)
          have h195 := Imp_m h182 h194
          have h196 := Imp_m h183 h194
          have h197 := Imp_m h21 h196.1
          have h198 := Imp_m h22 h196.1
          have h199 := Imp_m h73 h196.1
          have h200 := Imp_m h74 ⟨h196.1, h196.2.1⟩
          refine En_Ps 1 (pc' := 50) (lv' := [(3, .int z173), (2, .int z12), (0, .ref 159), (1, .int a)]) (st' := [.ref 159]) rfl ?_
          refine En_getU (j := 14) (u := 165) (g' := 41) (q := 0) rfl rfl rfl tgz_159 (by decide +kernel) h166 (by decide +kernel) un_41_165 (fun h201 => ?_)
          refine En_Ps 2 (pc' := 55) (lv' := [(3, .int z173), (2, .int z12), (0, .ref 159), (1, .int a)]) (st' := [.int z12, .int a, .ref 165]) rfl ?_
          refine En_iast (l := 0) (u := 15) rfl rfl tgz_165 (by decide +kernel) (by first | exact q_d700dd5793 hl_a | omega) (lnI (by decide +kernel : LN _ = 226) (by first | exact q_f434134ec2 hu_a | omega)) (FTrow 41 8 1 1 (by decide +kernel) (by first | exact q_00f8a88c1a hl_a | omega) (by first | exact q_bd00bacd06 hu_a | omega) (by first | exact q_ca509d6b00 | omega)) (rngI rfl (by first | exact q_ef1e8e38bf h7.1 | omega) (by first | exact q_5a5f544404 h7.2.1 | omega)) h166 h175 (by decide +kernel) (fun σ203 h204 h205 h206 h207 => ?_)
          have h208 := KR_st h176 (J := a.toInt) h207 (by (first | exact q_24ecaa5177 hl_a | omega))
          obtain ⟨S209, h210⟩ : ∃ q : PS, q = wst S178 (a.toInt) ((tV By Nb Sp.2.2.1)) := ⟨_, rfl⟩
          have h211 : ML By Nb σ203 S209 := by rw [h210]; exact (ML_wst (i := a.toInt) (v := (tV By Nb Sp.2.2.1)) h180 h206 h207 (by (first | exact q_d700dd5793 hl_a | omega)) (fun z => by have j1 := Imp_m h182 z; have j2 := Imp_m h183 z; have j3 := Imp_m h21 j2.1; have j4 := Imp_m h22 j2.1; have j5 := Imp_m h73 j2.1; have j6 := Imp_m h74 ⟨j2.1, j2.2.1⟩; exact ⟨by (first | exact q_61ddd2b576 | omega), by (first | exact q_a8fb2024c1 j3 | omega)⟩))
          have h212 := ML_k h211 ((h207 _ _ (Or.inl (neTG tgz_159 tgz_165 (by decide)))).trans h172)
          have h213 : S209.1 = S178.1 := by rw [h210]; rfl
          refine En_Ps 1 (pc' := 57) (lv' := [(3, .int z173), (2, .int z12), (0, .ref 159), (1, .int a)]) (st' := [.ref 159]) rfl ?_
          refine En_getK (j := 14) ((h207 _ _ (Or.inl (neTG tgz_159 tgz_165 (by decide)))).trans h201) rfl rfl rfl tgz_159 (by decide +kernel) ?_
          refine En_Ps 3 (pc' := 63) (lv' := [(3, .int z173), (2, .int z12), (0, .ref 159), (1, .int a)]) (st' := [.int ((a + ((Int32.ofInt 1)))), .ref 165]) rfl ?_
          refine En_top (addI rfl (by decide : (Int32.ofInt 1).toInt = 1) (by first | exact q_295f3c3c38 hl_a | omega) (by first | exact q_40e36bf5f4 hu_a | omega)) (fun z214 h215 => ?_)
          refine En_Ps 1 (pc' := 64) (lv' := [(3, .int z173), (2, .int z12), (0, .ref 159), (1, .int a)]) (st' := [.int z173, .int z214, .ref 165]) rfl ?_
          refine En_iast (l := 0) (u := 15) rfl rfl tgz_165 (by decide +kernel) (by first | exact q_cf0b4927a2 h215 hl_a | omega) (lnI (by decide +kernel : LN _ = 226) (by first | exact q_b876a99c0c h215 hu_a | omega)) (FTrow 41 9 1 1 (by decide +kernel) (by first | exact q_3722053cd5 h215 hl_a | omega) (by first | exact q_aca8798d6d h215 hu_a | omega) (by first | exact q_a62048a674 | omega)) (rngI rfl (by first | exact q_ef1e8e38bf h168.1 | omega) (by first | exact q_5a5f544404 h168.2.1 | omega)) h204 h205 (by decide +kernel) (fun σ216 h217 h218 h219 h220 => ?_)
          have h221 := KR_st h208 (J := z214.toInt) h220 (by (first | exact q_5a77ba2110 h215 hl_a | omega))
          obtain ⟨S222, h223⟩ : ∃ q : PS, q = wst S209 (a.toInt + 1) ((tV By Nb S17.2.2.1)) := ⟨_, rfl⟩
          have h224 : ML By Nb σ216 S222 := by rw [h223]; exact (ML_wst (i := a.toInt + 1) (v := (tV By Nb S17.2.2.1)) h211 h219 h220 (by (first | exact q_cf0b4927a2 h215 hl_a | omega)) (fun z => by have j1 := h213.symm.trans z; have j2 := Imp_m h182 j1; have j3 := Imp_m h183 j1; have j4 := Imp_m h21 j3.1; have j5 := Imp_m h22 j3.1; have j6 := Imp_m h73 j3.1; have j7 := Imp_m h74 ⟨j3.1, j3.2.1⟩; exact ⟨by (first | exact q_dd63493976 h215 | omega), by (first | exact q_a8fb2024c1 j2 | omega)⟩))
          have h225 := ML_k h224 ((h220 _ _ (Or.inl (neTG tgz_159 tgz_165 (by decide)))).trans ((h207 _ _ (Or.inl (neTG tgz_159 tgz_165 (by decide)))).trans h172))
          have h226 : S222.1 = S209.1 := by rw [h223]; rfl
          exact En_ret (v := none) rfl rfl rfl ⟨h217, h218, z169, ((h220 _ _ (Or.inl (neTG tgz_159 tgz_165 (by decide)))).trans ((h207 _ _ (Or.inl (neTG tgz_159 tgz_165 (by decide)))).trans h170)), z171, ((h220 _ _ (Or.inl (neTG tgz_159 tgz_165 (by decide)))).trans ((h207 _ _ (Or.inl (neTG tgz_159 tgz_165 (by decide)))).trans h172)), rfl, ⟨by first | exact q_a555021d16 h168.2.2.1 | omega, by first | exact q_76190b61a3 h168.2.2.2.1 | omega, by first | exact q_ccc3bb8fc9 h7.2.2.2.2.1 h168.2.2.2.2.1 | omega, by first | exact q_a555021d16 h168.2.2.2.2.2.1 | omega, by first | exact q_c733b715bf h168.2.2.2.2.2.2.1 | omega, by first | exact q_8ad2cc928a h63 h168.2.2.2.2.2.1 | omega, by first | exact q_28bfca2c13 h7.2.2.2.2.1 h168.2.2.2.2.1 | omega, fun hh => by first | exact q_35a72a35ef h63 | omega, ⟨h221, ML_eq h224 (by unfold gRule; dsimp only; rw [← h18, h162, ← h179, ← h210, ← h223]; first | done | rfl | (rw [if_pos (by (first | exact q_d2dcd30e56 h194 | omega))]; first | done | rfl) | (rw [if_neg (by omega)]; first | done | rfl))⟩⟩⟩
        · exact En_ret (v := none) rfl rfl rfl ⟨h166, h175, z169, h170, z171, h172, rfl, ⟨by first | exact q_a555021d16 h168.2.2.1 | omega, by first | exact q_76190b61a3 h168.2.2.2.1 | omega, by first | exact q_ccc3bb8fc9 h7.2.2.2.2.1 h168.2.2.2.2.1 | omega, by first | exact q_a555021d16 h168.2.2.2.2.2.1 | omega, by first | exact q_c733b715bf h168.2.2.2.2.2.2.1 | omega, by first | exact q_8ad2cc928a h63 h168.2.2.2.2.2.1 | omega, by first | exact q_28bfca2c13 h7.2.2.2.2.1 h168.2.2.2.2.1 | omega, fun hh => by first | exact q_35a72a35ef h63 | omega, ⟨h176, ML_eq h180 (by unfold gRule; dsimp only; rw [← h18, h162, ← h179]; first | done | rfl | (rw [if_pos (by omega)]; first | done | rfl) | (rw [if_neg (by (first | exact q_4abb957687 h190.2.2.2 h192 h181 | omega))]; first | done | rfl))⟩⟩⟩
      · have := sub_sbw h156 h154 rfl rfl (by (first | exact q_58e6e51dcc h70 | omega)) (by (first | exact q_ef1e8e38bf h7.1 | omega)) (by (first | exact q_5a5f544404 h7.2.1 | omega))
        refine En_Ps 2 (pc' := 33) (lv' := [(2, .int z12), (0, .ref 159), (1, .int a)]) (st' := [.int ((Int32.ofInt 2)), .ref 159]) rfl ?_
        have := (by decide : ((Int32.ofInt 2)).toInt = 2)
        refine En_callV rfl rfl rfl rfl rfl rfl rfl rfl tgz_159 (by decide +kernel) rfl (c_223x σ4 h5 ((Int32.ofInt 2)) (geI (by decide : (Int32.ofInt 2).toInt = 2) (by decide)) (leI (by decide : (Int32.ofInt 2).toInt = 2) (by decide)) z10 h11 h19) (by decide) (by decide) (fun v228 σ229 h227 => ?_)
        obtain ⟨h230, h231, z233, h234, rfl, h232⟩ := h227
        have h235 := h232.2.2.2.2
        have h236 := Fr_trans h14 h231 (by decide +kernel)
        have h237 := KR_fr h15 h231 (by decide +kernel)
        obtain ⟨S238, h239⟩ : ∃ q : PS, q = err By Nb 2 S17 := ⟨_, rfl⟩
        have h240 : ML By Nb σ229 S238 := by rw [h239]; exact (ML_eq h235 (err_cg (by (first | exact q_bef0c64981 this | omega))))
        have h241 := ML_k h240 h234
        have h242 : Imp (S238.1 = 0) (tK By Nb S238.2.2.1 = z65.toInt) := ML_t h240 ((h231 _ _ (inW tgz_159 (by decide +kernel))).trans h64)
        have h243 : Imp (S238.1 = 0 ∧ tK By Nb S238.2.2.1 = 2) (z69.toInt = min 99999 (tV By Nb S238.2.2.1) ∧ 0 ≤ tV By Nb S238.2.2.1) := fun q => ML_u h240 ((h231 _ _ (inW tgz_159 (by decide +kernel))).trans h68) q.1 q.2
        have h244 : S238.2.2.2 = S17.2.2.2 := by rw [h239]; exact err_w
        have h245 : gRl1 By Nb (tV By Nb Sp.2.2.1) S17 = S238 := by rw [h239]; unfold gRl1; (repeat' split) <;> first | rfl | (exfalso; omega) | ((try have i0 := Imp_m h242 (by omega)); (try have i1 := Imp_m h73 (by omega)); (try have i2 := Imp_m h22 (by omega)); (try have i3 := Imp_m h21 (by omega)); (try have i4 := Imp_m h74 (by omega)); (try have i5 := Imp_m h243 (by omega)); exfalso; omega)
        refine En_Ps 1 (pc' := 37) (lv' := [(2, .int z12), (0, .ref 159), (1, .int a)]) (st' := [.ref 159]) rfl ?_
        refine En_callV rfl rfl rfl rfl rfl rfl rfl rfl tgz_159 (by decide +kernel) rfl (c_234x σ229 h230 z8 ((h231 _ _ (inW tgz_159 (by decide +kernel))).trans h9) z233 h234 h240) (by decide) (by decide) (fun v247 σ248 h246 => ?_)
        obtain ⟨h249, h250, z252, h253, z254, h255, z256, rfl, h251⟩ := h246
        have h257 := h251.2.2.2.2.2.2.2.2.2.2.2.2
        have h258 := Fr_trans h236 h250 (by decide +kernel)
        have h259 := KR_fr h237 h250 (by decide +kernel)
        have h260 : tN By Nb 0 (pI (S238.2.2.2 0) - 1) S238 = tN By Nb 0 (pI (Sp.2.2.2 0) - 1) S238 := tN_cg rfl (by first | rfl | simp only [h23, h244] | rfl)
        obtain ⟨S261, h262⟩ : ∃ q : PS, q = tN By Nb 0 (pI (Sp.2.2.2 0) - 1) S238 := ⟨_, rfl⟩
        have h263 : ML By Nb σ248 S261 := by rw [h262]; exact (ML_eq h257.1 h260)
        have h264 := ML_k h263 h255
        have h265 : Imp (S261.1 = 0) (z256.toInt = tV By Nb S238.2.2.1) := fun z => h257.2 (by rw [h260, ← h262]; exact z)
        have h266 : Imp (S261.1 = 0) (S238.1 = 0 ∧ tK By Nb S238.2.2.1 = 2 ∧ 0 ≤ tV By Nb S238.2.2.1 ∧ tV By Nb S238.2.2.1 ≤ pI (Sp.2.2.2 0) - 1) := fun z => tN_gg (by rw [← h262]; exact z)
        have h267 : S261.2.2.2 = S238.2.2.2 := by rw [h262]; exact tN_w
        refine En_Ps 2 (pc' := 42) (lv' := [(3, .int z256), (2, .int z12), (0, .ref 159), (1, .int a)]) (st' := [.ref 159]) rfl ?_
        refine En_callV rfl rfl rfl rfl rfl rfl rfl rfl tgz_159 (by decide +kernel) rfl (c_237 σ248 h249 z254 h255) (by decide) (by decide) (fun v269 σ270 h268 => ?_)
        obtain ⟨h271, h272, z274, rfl, h273⟩ := h268
        obtain rfl : σ248 = σ270 := Fr_nil h272
        refine En_iNe _ rfl rfl (fun hx => by exfalso; have := Imp_m h251.2.2.2.2.2.2.2.2.2.2.2.1 (by (first | exact q_59622b1fc0 h273.2.2.1 hx h273.1 | omega)); (first | exact q_96d501f46b h232.1 this | omega)) (fun h275 => ?_)
        exact En_ret (v := none) rfl rfl rfl ⟨h249, h258, z252, h253, z254, h255, rfl, ⟨by first | exact q_a555021d16 h251.2.2.1 | omega, by first | exact q_76190b61a3 h251.2.2.2.1 | omega, by first | exact q_ccc3bb8fc9 h7.2.2.2.2.1 h251.2.2.2.2.1 | omega, by first | exact q_a555021d16 h251.2.2.2.2.2.1 | omega, by first | exact q_c733b715bf h251.2.2.2.2.2.2.1 | omega, by first | exact q_8ad2cc928a h63 h251.2.2.2.2.2.1 | omega, by first | exact q_28bfca2c13 h7.2.2.2.2.1 h251.2.2.2.2.1 | omega, fun hh => by first | exact q_35a72a35ef h63 | omega, ⟨h259, ML_eq h263 (by unfold gRule; dsimp only; rw [← h18, h245, ← h262]; first | done | rfl | (rw [if_pos (by omega)]; first | done | rfl) | (rw [if_neg (by (first | exact q_84edeb3f01 h264 h251.2.2.2.2.2.2.2.1 h232.1 | omega))]; first | done | rfl))⟩⟩⟩
/-- DoorSchoolModel.readRule(I)V -/
abbrev P_303bx (σ0 : SG) (By : Int → Int) (Nb : Int) (Sp : PS) (a : Int32) (f : Int32) (k : Int32) : PO := fun v σ => WT σ ∧ Fr [(35, 8), (35, 9), (35, 10), (35, 11), (35, 12), (35, 13), (41, 0)] σ0 σ ∧ ∃ f1 : Int32, (σ 159)[8]? = some (Value.int f1) ∧ ∃ k1 : Int32, (σ 159)[12]? = some (Value.int k1) ∧ v = none ∧ -f1.toInt ≤ 0 ∧ f1.toInt - 1600 ≤ 0 ∧ -f1.toInt + f.toInt ≤ 0 ∧ -k1.toInt ≤ 0 ∧ k1.toInt - 3 ≤ 0 ∧ -k1.toInt + k.toInt ≤ 0 ∧ f.toInt - f1.toInt ≤ 0 ∧ Imp (k1.toInt ≤ 0) (k.toInt ≤ 0) ∧ (KR σ0 σ ∧ ML By Nb σ (gRule By Nb a.toInt Sp))
set_option maxRecDepth 10000 in
set_option maxHeartbeats 4000000 in
theorem c_303bx {By : Int → Int} {Nb : Int} {Sp : PS} (σ0 : SG) (hσ0 : WT σ0) (a : Int32) (hl_a : 146 ≤ a.toInt) (hu_a : a.toInt ≤ 152) (f : Int32) (h_f : (σ0 159)[8]? = some (Value.int f)) (k : Int32) (h_k : (σ0 159)[12]? = some (Value.int k)) (hM : ML By Nb σ0 Sp) (hg : Sp.1 = 0) : En 4 89 none mr_303 (P_303bx σ0 By Nb Sp a f k) 0 [(0, .ref 159), (1, .int a)] [] σ0 := by
  obtain ⟨hl_f, hu_f⟩ := WT_int hσ0 (g := 35) (by decide +kernel) (by decide +kernel) (l := 0) (u := 1600) (by decide +kernel) h_f
  obtain ⟨hl_k, hu_k⟩ := WT_int hσ0 (g := 35) (by decide +kernel) (by decide +kernel) (l := 0) (u := 3) (by decide +kernel) h_k
  have hF0 : Fr [(35, 8), (35, 9), (35, 10), (35, 11), (35, 12), (35, 13), (41, 0)] σ0 σ0 := Fr_rfl
  have h1 := ML_k hM h_k
  refine En_Ps 1 (pc' := 1) (lv' := [(0, .ref 159), (1, .int a)]) (st' := [.ref 159]) rfl ?_
  refine En_callV rfl rfl rfl rfl rfl rfl rfl rfl tgz_159 (by decide +kernel) rfl (c_234x σ0 hσ0 f h_f k h_k hM) (by decide) (by decide) (fun v3 σ4 h2 => ?_)
  obtain ⟨h5, h6, z8, h9, z10, h11, z12, rfl, h7⟩ := h2
  have h13 := h7.2.2.2.2.2.2.2.2.2.2.2.2
  have h14 := Fr_trans hF0 h6 (by decide +kernel)
  have h15 := KR_fr (KR_0 (σ := σ0)) h6 (by decide +kernel)
  have h16 : tN By Nb 0 (pI (Sp.2.2.2 0) - 1) Sp = tN By Nb 0 (pI (Sp.2.2.2 0) - 1) Sp := tN_cg rfl (by rfl)
  obtain ⟨S17, h18⟩ : ∃ q : PS, q = tN By Nb 0 (pI (Sp.2.2.2 0) - 1) Sp := ⟨_, rfl⟩
  have h19 : ML By Nb σ4 S17 := by rw [h18]; exact (ML_eq h13.1 h16)
  have h20 := ML_k h19 h11
  have h21 : Imp (S17.1 = 0) (z12.toInt = tV By Nb Sp.2.2.1) := fun z => h13.2 (by rw [h16, ← h18]; exact z)
  have h22 : Imp (S17.1 = 0) (Sp.1 = 0 ∧ tK By Nb Sp.2.2.1 = 2 ∧ 0 ≤ tV By Nb Sp.2.2.1 ∧ tV By Nb Sp.2.2.1 ≤ pI (Sp.2.2.2 0) - 1) := fun z => tN_gg (by rw [← h18]; exact z)
  have h23 : S17.2.2.2 = Sp.2.2.2 := by rw [h18]; exact tN_w
  refine En_Ps 1 (pc' := 5) (lv' := [(2, .int z12), (0, .ref 159), (1, .int a)]) (st' := []) rfl ?_
  refine En_Ps 1 (pc' := 6) (lv' := [(2, .int z12), (0, .ref 159), (1, .int a)]) (st' := [.ref 159]) rfl ?_
  refine En_callV rfl rfl rfl rfl rfl rfl rfl rfl tgz_159 (by decide +kernel) rfl (c_237 σ4 h5 z10 h11) (by decide) (by decide) (fun v25 σ26 h24 => ?_)
  obtain ⟨h27, h28, z30, rfl, h29⟩ := h24
  obtain rfl : σ4 = σ26 := Fr_nil h28
  refine En_iEq _ rfl rfl (fun h31 => ?_) (fun h31 => ?_)
  · have h32 : gRl1 By Nb (tV By Nb Sp.2.2.1) S17 = S17 := by unfold gRl1; (repeat' split) <;> first | rfl | (exfalso; omega) | ((try have i0 := Imp_m h22 (by omega)); (try have i1 := Imp_m h21 (by omega)); (try have i2 := Imp_m h7.2.2.2.2.2.2.2.2.2.2.2.1 (by omega)); exfalso; omega)
    refine En_Ps 1 (pc' := 37) (lv' := [(2, .int z12), (0, .ref 159), (1, .int a)]) (st' := [.ref 159]) rfl ?_
    refine En_callV rfl rfl rfl rfl rfl rfl rfl rfl tgz_159 (by decide +kernel) rfl (c_234x σ4 h5 z8 h9 z10 h11 h19) (by decide) (by decide) (fun v34 σ35 h33 => ?_)
    obtain ⟨h36, h37, z39, h40, z41, h42, z43, rfl, h38⟩ := h33
    have h44 := h38.2.2.2.2.2.2.2.2.2.2.2.2
    have h45 := Fr_trans h14 h37 (by decide +kernel)
    have h46 := KR_fr h15 h37 (by decide +kernel)
    have h47 : tN By Nb 0 (pI (S17.2.2.2 0) - 1) S17 = tN By Nb 0 (pI (Sp.2.2.2 0) - 1) S17 := tN_cg rfl (by first | rfl | simp only [h23] | rfl)
    obtain ⟨S48, h49⟩ : ∃ q : PS, q = tN By Nb 0 (pI (Sp.2.2.2 0) - 1) S17 := ⟨_, rfl⟩
    have h50 : ML By Nb σ35 S48 := by rw [h49]; exact (ML_eq h44.1 h47)
    have h51 := ML_k h50 h42
    have h52 : Imp (S48.1 = 0) (z43.toInt = tV By Nb S17.2.2.1) := fun z => h44.2 (by rw [h47, ← h49]; exact z)
    have h53 : Imp (S48.1 = 0) (S17.1 = 0 ∧ tK By Nb S17.2.2.1 = 2 ∧ 0 ≤ tV By Nb S17.2.2.1 ∧ tV By Nb S17.2.2.1 ≤ pI (Sp.2.2.2 0) - 1) := fun z => tN_gg (by rw [← h49]; exact z)
    have h54 : S48.2.2.2 = S17.2.2.2 := by rw [h49]; exact tN_w
    refine En_Ps 2 (pc' := 42) (lv' := [(3, .int z43), (2, .int z12), (0, .ref 159), (1, .int a)]) (st' := [.ref 159]) rfl ?_
    refine En_callV rfl rfl rfl rfl rfl rfl rfl rfl tgz_159 (by decide +kernel) rfl (c_237 σ35 h36 z41 h42) (by decide) (by decide) (fun v56 σ57 h55 => ?_)
    obtain ⟨h58, h59, z61, rfl, h60⟩ := h55
    obtain rfl : σ35 = σ57 := Fr_nil h59
    refine En_iNe _ rfl rfl (fun hx => by exfalso; have := Imp_m h7.2.2.2.2.2.2.2.2.2.2.2.1 (by (first | exact q_468044b3db h60.2.2.1 hx h60.1 h38.2.2.2.2.2.2.2.1 | omega)); have := Imp_m h38.2.2.2.2.2.2.2.2.2.2.2.1 (by (first | exact q_59622b1fc0 h60.2.2.1 hx h60.1 | omega)); (first | exact q_2cdc176b8e h29.2.2.2 h31 this | omega)) (fun h62 => ?_)
    exact En_ret (v := none) rfl rfl rfl ⟨h36, h45, z39, h40, z41, h42, rfl, ⟨by first | exact q_a555021d16 h38.2.2.1 | omega, by first | exact q_76190b61a3 h38.2.2.2.1 | omega, by first | exact q_ccc3bb8fc9 h7.2.2.2.2.1 h38.2.2.2.2.1 | omega, by first | exact q_a555021d16 h38.2.2.2.2.2.1 | omega, by first | exact q_c733b715bf h38.2.2.2.2.2.2.1 | omega, by first | exact q_ccc3bb8fc9 h7.2.2.2.2.2.2.2.1 h38.2.2.2.2.2.2.2.1 | omega, by first | exact q_28bfca2c13 h7.2.2.2.2.1 h38.2.2.2.2.1 | omega, fun hh => by first | exact q_db388fd8e8 h7.2.2.2.2.2.2.2.1 h38.2.2.2.2.2.2.2.1 hh | omega, ⟨h46, ML_eq h50 (by unfold gRule; dsimp only; rw [← h18, h32, ← h49]; first | done | rfl | (rw [if_pos (by omega)]; first | done | rfl) | (rw [if_neg (by (first | exact q_4abb957687 h60.2.2.2 h62 h51 | omega))]; first | done | rfl))⟩⟩⟩
  · have h63 := Imp_m h7.2.2.2.2.2.2.2.2.2.2.2.1 (by (first | exact q_59622b1fc0 h29.2.2.1 h31 h29.1 | omega))
    obtain ⟨z65, h64, h66, h67⟩ := WT_peekI h5 tgz_159 (by decide +kernel : FT 35 10 = (0, 0, 4)) (by decide +kernel)
    obtain ⟨z69, h68, h70, h71⟩ := WT_peekI h5 tgz_159 (by decide +kernel : FT 35 11 = (0, 0, 99999)) (by decide +kernel)
    have h72 := ML_k h19 h11
    have h73 : Imp (S17.1 = 0) (tK By Nb S17.2.2.1 = z65.toInt) := ML_t h19 h64
    have h74 : Imp (S17.1 = 0 ∧ tK By Nb S17.2.2.1 = 2) (z69.toInt = min 99999 (tV By Nb S17.2.2.1) ∧ 0 ≤ tV By Nb S17.2.2.1) := fun q => ML_u h19 h68 q.1 q.2
    try have h75 := Imp_m h73 (by (first | exact q_1d088e2de8 h72 h7.2.2.2.2.2.1 h29.2.2.1 h31 h29.1 | omega))
    try have h76 := Imp_m h22 (by (first | exact q_1d088e2de8 h72 h7.2.2.2.2.2.1 h29.2.2.1 h31 h29.1 | omega))
    try have h77 := Imp_m h21 (by (first | exact q_1d088e2de8 h72 h7.2.2.2.2.2.1 h29.2.2.1 h31 h29.1 | omega))
    try have h78 := Imp_m h74 (by omega)
    refine En_Ps 1 (pc' := 13) (lv' := [(2, .int z12), (0, .ref 159), (1, .int a)]) (st' := [.ref 159]) rfl ?_
    refine En_getK (j := 10) h64 rfl rfl rfl tgz_159 (by decide +kernel) ?_
    refine En_Ps 1 (pc' := 17) (lv' := [(2, .int z12), (0, .ref 159), (1, .int a)]) (st' := [.int ((Int32.ofInt 2)), .int z65]) rfl ?_
    refine En_icNe _ rfl (by decide : (Int32.ofInt 2).toInt = 2) rfl (fun h79 => ?_) (fun h79 => ?_)
    · have h80 : gRl1 By Nb (tV By Nb Sp.2.2.1) S17 = S17 := by unfold gRl1; (repeat' split) <;> first | rfl | (exfalso; omega) | ((try have i0 := Imp_m h73 (by omega)); (try have i1 := Imp_m h22 (by omega)); (try have i2 := Imp_m h21 (by omega)); (try have i3 := Imp_m h74 (by omega)); exfalso; omega)
      refine En_Ps 1 (pc' := 37) (lv' := [(2, .int z12), (0, .ref 159), (1, .int a)]) (st' := [.ref 159]) rfl ?_
      refine En_callV rfl rfl rfl rfl rfl rfl rfl rfl tgz_159 (by decide +kernel) rfl (c_234x σ4 h5 z8 h9 z10 h11 h19) (by decide) (by decide) (fun v82 σ83 h81 => ?_)
      obtain ⟨h84, h85, z87, h88, z89, h90, z91, rfl, h86⟩ := h81
      have h92 := h86.2.2.2.2.2.2.2.2.2.2.2.2
      have h93 := Fr_trans h14 h85 (by decide +kernel)
      have h94 := KR_fr h15 h85 (by decide +kernel)
      have h95 : tN By Nb 0 (pI (S17.2.2.2 0) - 1) S17 = tN By Nb 0 (pI (Sp.2.2.2 0) - 1) S17 := tN_cg rfl (by first | rfl | simp only [h23] | rfl)
      obtain ⟨S96, h97⟩ : ∃ q : PS, q = tN By Nb 0 (pI (Sp.2.2.2 0) - 1) S17 := ⟨_, rfl⟩
      have h98 : ML By Nb σ83 S96 := by rw [h97]; exact (ML_eq h92.1 h95)
      have h99 := ML_k h98 h90
      have h100 : Imp (S96.1 = 0) (z91.toInt = tV By Nb S17.2.2.1) := fun z => h92.2 (by rw [h95, ← h97]; exact z)
      have h101 : Imp (S96.1 = 0) (S17.1 = 0 ∧ tK By Nb S17.2.2.1 = 2 ∧ 0 ≤ tV By Nb S17.2.2.1 ∧ tV By Nb S17.2.2.1 ≤ pI (Sp.2.2.2 0) - 1) := fun z => tN_gg (by rw [← h97]; exact z)
      have h102 : S96.2.2.2 = S17.2.2.2 := by rw [h97]; exact tN_w
      refine En_Ps 2 (pc' := 42) (lv' := [(3, .int z91), (2, .int z12), (0, .ref 159), (1, .int a)]) (st' := [.ref 159]) rfl ?_
      refine En_callV rfl rfl rfl rfl rfl rfl rfl rfl tgz_159 (by decide +kernel) rfl (c_237 σ83 h84 z89 h90) (by decide) (by decide) (fun v104 σ105 h103 => ?_)
      obtain ⟨h106, h107, z109, rfl, h108⟩ := h103
      obtain rfl : σ83 = σ105 := Fr_nil h107
      refine En_iNe _ rfl rfl (fun h110 => ?_) (fun h110 => ?_)
      · have h111 := Imp_m h86.2.2.2.2.2.2.2.2.2.2.2.1 (by (first | exact q_59622b1fc0 h108.2.2.1 h110 h108.1 | omega))
        have h112 : S96.1 = 0 := by (first | exact q_1d088e2de8 h99 h86.2.2.2.2.2.1 h108.2.2.1 h110 h108.1 | omega)
        have h113 := Imp_m h100 h112
        have h114 := Imp_m h101 h112
        have h115 := Imp_m h21 h114.1
        have h116 := Imp_m h22 h114.1
        have h117 := Imp_m h73 h114.1
        have h118 := Imp_m h74 ⟨h114.1, h114.2.1⟩
        refine En_Ps 1 (pc' := 50) (lv' := [(3, .int z91), (2, .int z12), (0, .ref 159), (1, .int a)]) (st' := [.ref 159]) rfl ?_
        refine En_getU (j := 14) (u := 165) (g' := 41) (q := 0) rfl rfl rfl tgz_159 (by decide +kernel) h84 (by decide +kernel) un_41_165 (fun h119 => ?_)
        refine En_Ps 2 (pc' := 55) (lv' := [(3, .int z91), (2, .int z12), (0, .ref 159), (1, .int a)]) (st' := [.int z12, .int a, .ref 165]) rfl ?_
        refine En_iast (l := 0) (u := 15) rfl rfl tgz_165 (by decide +kernel) (by first | exact q_f06d8355fe hl_a | omega) (lnI (by decide +kernel : LN _ = 226) (by first | exact q_217fe92409 hu_a | omega)) (FTrow 41 146 1 7 (by decide +kernel) (by first | exact q_6f087db015 hl_a | omega) (by first | exact q_f9323d8d9c hu_a | omega) (by first | exact q_923275ae08 | omega)) (rngI rfl (by first | exact q_ef1e8e38bf h7.1 | omega) (by first | exact q_5a5f544404 h7.2.1 | omega)) h84 h93 (by decide +kernel) (fun σ121 h122 h123 h124 h125 => ?_)
        have h126 := KR_st h94 (J := a.toInt) h125 (by (first | exact q_4b06365f9c hl_a | omega))
        obtain ⟨S127, h128⟩ : ∃ q : PS, q = wst S96 (a.toInt) ((tV By Nb Sp.2.2.1)) := ⟨_, rfl⟩
        have h129 : ML By Nb σ121 S127 := by rw [h128]; exact (ML_wst (i := a.toInt) (v := (tV By Nb Sp.2.2.1)) h98 h124 h125 (by (first | exact q_f06d8355fe hl_a | omega)) (fun z => by have j1 := Imp_m h100 z; have j2 := Imp_m h101 z; have j3 := Imp_m h21 j2.1; have j4 := Imp_m h22 j2.1; have j5 := Imp_m h73 j2.1; have j6 := Imp_m h74 ⟨j2.1, j2.2.1⟩; exact ⟨by (first | exact q_61ddd2b576 | omega), by (first | exact q_a8fb2024c1 j3 | omega)⟩))
        have h130 := ML_k h129 ((h125 _ _ (Or.inl (neTG tgz_159 tgz_165 (by decide)))).trans h90)
        have h131 : S127.1 = S96.1 := by rw [h128]; rfl
        refine En_Ps 1 (pc' := 57) (lv' := [(3, .int z91), (2, .int z12), (0, .ref 159), (1, .int a)]) (st' := [.ref 159]) rfl ?_
        refine En_getK (j := 14) ((h125 _ _ (Or.inl (neTG tgz_159 tgz_165 (by decide)))).trans h119) rfl rfl rfl tgz_159 (by decide +kernel) ?_
        refine En_Ps 3 (pc' := 63) (lv' := [(3, .int z91), (2, .int z12), (0, .ref 159), (1, .int a)]) (st' := [.int ((a + ((Int32.ofInt 1)))), .ref 165]) rfl ?_
        refine En_top (addI rfl (by decide : (Int32.ofInt 1).toInt = 1) (by first | exact q_cf9d8d694c hl_a | omega) (by first | exact q_9997f237c1 hu_a | omega)) (fun z132 h133 => ?_)
        refine En_Ps 1 (pc' := 64) (lv' := [(3, .int z91), (2, .int z12), (0, .ref 159), (1, .int a)]) (st' := [.int z91, .int z132, .ref 165]) rfl ?_
        refine En_iast (l := 0) (u := 15) rfl rfl tgz_165 (by decide +kernel) (by first | exact q_48236cf862 h133 hl_a | omega) (lnI (by decide +kernel : LN _ = 226) (by first | exact q_cd2784293d h133 hu_a | omega)) (FTrow 41 147 1 7 (by decide +kernel) (by first | exact q_67c37267e2 h133 hl_a | omega) (by first | exact q_7dfafdc50b h133 hu_a | omega) (by first | exact q_adddae86cb | omega)) (rngI rfl (by first | exact q_ef1e8e38bf h86.1 | omega) (by first | exact q_5a5f544404 h86.2.1 | omega)) h122 h123 (by decide +kernel) (fun σ134 h135 h136 h137 h138 => ?_)
        have h139 := KR_st h126 (J := z132.toInt) h138 (by (first | exact q_6263dbdd79 h133 hl_a | omega))
        obtain ⟨S140, h141⟩ : ∃ q : PS, q = wst S127 (a.toInt + 1) ((tV By Nb S17.2.2.1)) := ⟨_, rfl⟩
        have h142 : ML By Nb σ134 S140 := by rw [h141]; exact (ML_wst (i := a.toInt + 1) (v := (tV By Nb S17.2.2.1)) h129 h137 h138 (by (first | exact q_48236cf862 h133 hl_a | omega)) (fun z => by have j1 := h131.symm.trans z; have j2 := Imp_m h100 j1; have j3 := Imp_m h101 j1; have j4 := Imp_m h21 j3.1; have j5 := Imp_m h22 j3.1; have j6 := Imp_m h73 j3.1; have j7 := Imp_m h74 ⟨j3.1, j3.2.1⟩; exact ⟨by (first | exact q_dd63493976 h133 | omega), by (first | exact q_a8fb2024c1 j2 | omega)⟩))
        have h143 := ML_k h142 ((h138 _ _ (Or.inl (neTG tgz_159 tgz_165 (by decide)))).trans ((h125 _ _ (Or.inl (neTG tgz_159 tgz_165 (by decide)))).trans h90))
        have h144 : S140.1 = S127.1 := by rw [h141]; rfl
        exact En_ret (v := none) rfl rfl rfl ⟨h135, h136, z87, ((h138 _ _ (Or.inl (neTG tgz_159 tgz_165 (by decide)))).trans ((h125 _ _ (Or.inl (neTG tgz_159 tgz_165 (by decide)))).trans h88)), z89, ((h138 _ _ (Or.inl (neTG tgz_159 tgz_165 (by decide)))).trans ((h125 _ _ (Or.inl (neTG tgz_159 tgz_165 (by decide)))).trans h90)), rfl, ⟨by first | exact q_a555021d16 h86.2.2.1 | omega, by first | exact q_76190b61a3 h86.2.2.2.1 | omega, by first | exact q_ccc3bb8fc9 h7.2.2.2.2.1 h86.2.2.2.2.1 | omega, by first | exact q_a555021d16 h86.2.2.2.2.2.1 | omega, by first | exact q_c733b715bf h86.2.2.2.2.2.2.1 | omega, by first | exact q_8ad2cc928a h63 h86.2.2.2.2.2.1 | omega, by first | exact q_28bfca2c13 h7.2.2.2.2.1 h86.2.2.2.2.1 | omega, fun hh => by first | exact q_35a72a35ef h63 | omega, ⟨h139, ML_eq h142 (by unfold gRule; dsimp only; rw [← h18, h80, ← h97, ← h128, ← h141]; first | done | rfl | (rw [if_pos (by (first | exact q_d2dcd30e56 h112 | omega))]; first | done | rfl) | (rw [if_neg (by omega)]; first | done | rfl))⟩⟩⟩
      · exact En_ret (v := none) rfl rfl rfl ⟨h84, h93, z87, h88, z89, h90, rfl, ⟨by first | exact q_a555021d16 h86.2.2.1 | omega, by first | exact q_76190b61a3 h86.2.2.2.1 | omega, by first | exact q_ccc3bb8fc9 h7.2.2.2.2.1 h86.2.2.2.2.1 | omega, by first | exact q_a555021d16 h86.2.2.2.2.2.1 | omega, by first | exact q_c733b715bf h86.2.2.2.2.2.2.1 | omega, by first | exact q_8ad2cc928a h63 h86.2.2.2.2.2.1 | omega, by first | exact q_28bfca2c13 h7.2.2.2.2.1 h86.2.2.2.2.1 | omega, fun hh => by first | exact q_35a72a35ef h63 | omega, ⟨h94, ML_eq h98 (by unfold gRule; dsimp only; rw [← h18, h80, ← h97]; first | done | rfl | (rw [if_pos (by omega)]; first | done | rfl) | (rw [if_neg (by (first | exact q_4abb957687 h108.2.2.2 h110 h99 | omega))]; first | done | rfl))⟩⟩⟩
    · have h145 : S17.1 = 0 := by (first | exact q_1d088e2de8 h72 h7.2.2.2.2.2.1 h29.2.2.1 h31 h29.1 | omega)
      have h146 := Imp_m h73 h145
      have h147 : tK By Nb S17.2.2.1 = 2 := by (first | exact q_4ac8dceef2 h146 h79 | omega)
      have h148 := Imp_m h21 h145
      have h149 := Imp_m h22 h145
      have h150 := Imp_m h73 h145
      have h151 := Imp_m h74 ⟨h145, h147⟩
      refine En_Ps 1 (pc' := 21) (lv' := [(2, .int z12), (0, .ref 159), (1, .int a)]) (st' := [.ref 159]) rfl ?_
      refine En_getK (j := 11) h68 rfl rfl rfl tgz_159 (by decide +kernel) ?_
      have h152 : sbI (z69.toInt) (z12.toInt) = sbI (min 99999 (tV By Nb S17.2.2.1)) (tV By Nb Sp.2.2.1) := sbI_cg (by (first | exact q_b1495600e7 h151.1 | omega)) (by (first | exact q_b1495600e7 h148 | omega))
      refine En_Ps 3 (pc' := 27) (lv' := [(2, .int z12), (0, .ref 159), (1, .int a)]) (st' := [.int ((z12 ^^^ ((Int32.ofInt (-1))))), .int z69]) rfl ?_
      refine En_nam (fun z153 h154 => ?_)
      refine En_Ps 1 (pc' := 28) (lv' := [(2, .int z12), (0, .ref 159), (1, .int a)]) (st' := [.int ((z69 &&& z153))]) rfl ?_
      refine En_nam (fun z155 h156 => ?_)
      obtain ⟨h157, h158⟩ := andn_rng h156 rfl (by (first | exact q_58e6e51dcc h70 | omega)) (by (first | exact q_be76c1a152 h71 | omega) : _ ≤ (99999 : Int))
      refine En_iEq _ rfl rfl (fun h159 => ?_) (fun h159 => ?_)
      · obtain ⟨h160, h161⟩ := andn_zero h156 h154 h159 rfl rfl (by (first | exact q_ef1e8e38bf h7.1 | omega))
        have := sub_sbw h156 h154 rfl rfl (by (first | exact q_58e6e51dcc h160 | omega)) (by (first | exact q_ef1e8e38bf h7.1 | omega)) (by (first | exact q_5a5f544404 h7.2.1 | omega))
        have h162 : gRl1 By Nb (tV By Nb Sp.2.2.1) S17 = S17 := by unfold gRl1; (repeat' split) <;> first | rfl | (exfalso; omega) | ((try have i0 := Imp_m h73 (by omega)); (try have i1 := Imp_m h22 (by omega)); (try have i2 := Imp_m h21 (by omega)); (try have i3 := Imp_m h74 (by omega)); exfalso; omega)
        refine En_Ps 1 (pc' := 37) (lv' := [(2, .int z12), (0, .ref 159), (1, .int a)]) (st' := [.ref 159]) rfl ?_
        refine En_callV rfl rfl rfl rfl rfl rfl rfl rfl tgz_159 (by decide +kernel) rfl (c_234x σ4 h5 z8 h9 z10 h11 h19) (by decide) (by decide) (fun v164 σ165 h163 => ?_)
        obtain ⟨h166, h167, z169, h170, z171, h172, z173, rfl, h168⟩ := h163
        have h174 := h168.2.2.2.2.2.2.2.2.2.2.2.2
        have h175 := Fr_trans h14 h167 (by decide +kernel)
        have h176 := KR_fr h15 h167 (by decide +kernel)
        have h177 : tN By Nb 0 (pI (S17.2.2.2 0) - 1) S17 = tN By Nb 0 (pI (Sp.2.2.2 0) - 1) S17 := tN_cg rfl (by first | rfl | simp only [h23] | rfl)
        obtain ⟨S178, h179⟩ : ∃ q : PS, q = tN By Nb 0 (pI (Sp.2.2.2 0) - 1) S17 := ⟨_, rfl⟩
        have h180 : ML By Nb σ165 S178 := by rw [h179]; exact (ML_eq h174.1 h177)
        have h181 := ML_k h180 h172
        have h182 : Imp (S178.1 = 0) (z173.toInt = tV By Nb S17.2.2.1) := fun z => h174.2 (by rw [h177, ← h179]; exact z)
        have h183 : Imp (S178.1 = 0) (S17.1 = 0 ∧ tK By Nb S17.2.2.1 = 2 ∧ 0 ≤ tV By Nb S17.2.2.1 ∧ tV By Nb S17.2.2.1 ≤ pI (Sp.2.2.2 0) - 1) := fun z => tN_gg (by rw [← h179]; exact z)
        have h184 : S178.2.2.2 = S17.2.2.2 := by rw [h179]; exact tN_w
        refine En_Ps 2 (pc' := 42) (lv' := [(3, .int z173), (2, .int z12), (0, .ref 159), (1, .int a)]) (st' := [.ref 159]) rfl ?_
        refine En_callV rfl rfl rfl rfl rfl rfl rfl rfl tgz_159 (by decide +kernel) rfl (c_237 σ165 h166 z171 h172) (by decide) (by decide) (fun v186 σ187 h185 => ?_)
        obtain ⟨h188, h189, z191, rfl, h190⟩ := h185
        obtain rfl : σ165 = σ187 := Fr_nil h189
        refine En_iNe _ rfl rfl (fun h192 => ?_) (fun h192 => ?_)
        · have h193 := Imp_m h168.2.2.2.2.2.2.2.2.2.2.2.1 (by (first | exact q_59622b1fc0 h190.2.2.1 h192 h190.1 | omega))
          have h194 : S178.1 = 0 := by (first | exact q_1d088e2de8 h181 h168.2.2.2.2.2.1 h190.2.2.1 h192 h190.1 | omega)
          have h195 := Imp_m h182 h194
          have h196 := Imp_m h183 h194
          have h197 := Imp_m h21 h196.1
          have h198 := Imp_m h22 h196.1
          have h199 := Imp_m h73 h196.1
          have h200 := Imp_m h74 ⟨h196.1, h196.2.1⟩
          refine En_Ps 1 (pc' := 50) (lv' := [(3, .int z173), (2, .int z12), (0, .ref 159), (1, .int a)]) (st' := [.ref 159]) rfl ?_
          refine En_getU (j := 14) (u := 165) (g' := 41) (q := 0) rfl rfl rfl tgz_159 (by decide +kernel) h166 (by decide +kernel) un_41_165 (fun h201 => ?_)
          refine En_Ps 2 (pc' := 55) (lv' := [(3, .int z173), (2, .int z12), (0, .ref 159), (1, .int a)]) (st' := [.int z12, .int a, .ref 165]) rfl ?_
          refine En_iast (l := 0) (u := 15) rfl rfl tgz_165 (by decide +kernel) (by first | exact q_f06d8355fe hl_a | omega) (lnI (by decide +kernel : LN _ = 226) (by first | exact q_217fe92409 hu_a | omega)) (FTrow 41 146 1 7 (by decide +kernel) (by first | exact q_6f087db015 hl_a | omega) (by first | exact q_f9323d8d9c hu_a | omega) (by first | exact q_923275ae08 | omega)) (rngI rfl (by first | exact q_ef1e8e38bf h7.1 | omega) (by first | exact q_5a5f544404 h7.2.1 | omega)) h166 h175 (by decide +kernel) (fun σ203 h204 h205 h206 h207 => ?_)
          have h208 := KR_st h176 (J := a.toInt) h207 (by (first | exact q_4b06365f9c hl_a | omega))
          obtain ⟨S209, h210⟩ : ∃ q : PS, q = wst S178 (a.toInt) ((tV By Nb Sp.2.2.1)) := ⟨_, rfl⟩
          have h211 : ML By Nb σ203 S209 := by rw [h210]; exact (ML_wst (i := a.toInt) (v := (tV By Nb Sp.2.2.1)) h180 h206 h207 (by (first | exact q_f06d8355fe hl_a | omega)) (fun z => by have j1 := Imp_m h182 z; have j2 := Imp_m h183 z; have j3 := Imp_m h21 j2.1; have j4 := Imp_m h22 j2.1; have j5 := Imp_m h73 j2.1; have j6 := Imp_m h74 ⟨j2.1, j2.2.1⟩; exact ⟨by (first | exact q_61ddd2b576 | omega), by (first | exact q_a8fb2024c1 j3 | omega)⟩))
          have h212 := ML_k h211 ((h207 _ _ (Or.inl (neTG tgz_159 tgz_165 (by decide)))).trans h172)
          have h213 : S209.1 = S178.1 := by rw [h210]; rfl
          refine En_Ps 1 (pc' := 57) (lv' := [(3, .int z173), (2, .int z12), (0, .ref 159), (1, .int a)]) (st' := [.ref 159]) rfl ?_
          refine En_getK (j := 14) ((h207 _ _ (Or.inl (neTG tgz_159 tgz_165 (by decide)))).trans h201) rfl rfl rfl tgz_159 (by decide +kernel) ?_
          refine En_Ps 3 (pc' := 63) (lv' := [(3, .int z173), (2, .int z12), (0, .ref 159), (1, .int a)]) (st' := [.int ((a + ((Int32.ofInt 1)))), .ref 165]) rfl ?_
          refine En_top (addI rfl (by decide : (Int32.ofInt 1).toInt = 1) (by first | exact q_cf9d8d694c hl_a | omega) (by first | exact q_9997f237c1 hu_a | omega)) (fun z214 h215 => ?_)
          refine En_Ps 1 (pc' := 64) (lv' := [(3, .int z173), (2, .int z12), (0, .ref 159), (1, .int a)]) (st' := [.int z173, .int z214, .ref 165]) rfl ?_
          refine En_iast (l := 0) (u := 15) rfl rfl tgz_165 (by decide +kernel) (by first | exact q_48236cf862 h215 hl_a | omega) (lnI (by decide +kernel : LN _ = 226) (by first | exact q_cd2784293d h215 hu_a | omega)) (FTrow 41 147 1 7 (by decide +kernel) (by first | exact q_67c37267e2 h215 hl_a | omega) (by first | exact q_7dfafdc50b h215 hu_a | omega) (by first | exact q_adddae86cb | omega)) (rngI rfl (by first | exact q_ef1e8e38bf h168.1 | omega) (by first | exact q_5a5f544404 h168.2.1 | omega)) h204 h205 (by decide +kernel) (fun σ216 h217 h218 h219 h220 => ?_)
          have h221 := KR_st h208 (J := z214.toInt) h220 (by (first | exact q_6263dbdd79 h215 hl_a | omega))
          obtain ⟨S222, h223⟩ : ∃ q : PS, q = wst S209 (a.toInt + 1) ((tV By Nb S17.2.2.1)) := ⟨_, rfl⟩
          have h224 : ML By Nb σ216 S222 := by rw [h223]; exact (ML_wst (i := a.toInt + 1) (v := (tV By Nb S17.2.2.1)) h211 h219 h220 (by (first | exact q_48236cf862 h215 hl_a | omega)) (fun z => by have j1 := h213.symm.trans z; have j2 := Imp_m h182 j1; have j3 := Imp_m h183 j1; have j4 := Imp_m h21 j3.1; have j5 := Imp_m h22 j3.1; have j6 := Imp_m h73 j3.1; have j7 := Imp_m h74 ⟨j3.1, j3.2.1⟩; exact ⟨by (first | exact q_dd63493976 h215 | omega), by (first | exact q_a8fb2024c1 j2 | omega)⟩))
          have h225 := ML_k h224 ((h220 _ _ (Or.inl (neTG tgz_159 tgz_165 (by decide)))).trans ((h207 _ _ (Or.inl (neTG tgz_159 tgz_165 (by decide)))).trans h172))
          have h226 : S222.1 = S209.1 := by rw [h223]; rfl
          exact En_ret (v := none) rfl rfl rfl ⟨h217, h218, z169, ((h220 _ _ (Or.inl (neTG tgz_159 tgz_165 (by decide)))).trans ((h207 _ _ (Or.inl (neTG tgz_159 tgz_165 (by decide)))).trans h170)), z171, ((h220 _ _ (Or.inl (neTG tgz_159 tgz_165 (by decide)))).trans ((h207 _ _ (Or.inl (neTG tgz_159 tgz_165 (by decide)))).trans h172)), rfl, ⟨by first | exact q_a555021d16 h168.2.2.1 | omega, by first | exact q_76190b61a3 h168.2.2.2.1 | omega, by first | exact q_ccc3bb8fc9 h7.2.2.2.2.1 h168.2.2.2.2.1 | omega, by first | exact q_a555021d16 h168.2.2.2.2.2.1 | omega, by first | exact q_c733b715bf h168.2.2.2.2.2.2.1 | omega, by first | exact q_8ad2cc928a h63 h168.2.2.2.2.2.1 | omega, by first | exact q_28bfca2c13 h7.2.2.2.2.1 h168.2.2.2.2.1 | omega, fun hh => by first | exact q_35a72a35ef h63 | omega, ⟨h221, ML_eq h224 (by unfold gRule; dsimp only; rw [← h18, h162, ← h179, ← h210, ← h223]; first | done | rfl | (rw [if_pos (by (first | exact q_d2dcd30e56 h194 | omega))]; first | done | rfl) | (rw [if_neg (by omega)]; first | done | rfl))⟩⟩⟩
        · exact En_ret (v := none) rfl rfl rfl ⟨h166, h175, z169, h170, z171, h172, rfl, ⟨by first | exact q_a555021d16 h168.2.2.1 | omega, by first | exact q_76190b61a3 h168.2.2.2.1 | omega, by first | exact q_ccc3bb8fc9 h7.2.2.2.2.1 h168.2.2.2.2.1 | omega, by first | exact q_a555021d16 h168.2.2.2.2.2.1 | omega, by first | exact q_c733b715bf h168.2.2.2.2.2.2.1 | omega, by first | exact q_8ad2cc928a h63 h168.2.2.2.2.2.1 | omega, by first | exact q_28bfca2c13 h7.2.2.2.2.1 h168.2.2.2.2.1 | omega, fun hh => by first | exact q_35a72a35ef h63 | omega, ⟨h176, ML_eq h180 (by unfold gRule; dsimp only; rw [← h18, h162, ← h179]; first | done | rfl | (rw [if_pos (by omega)]; first | done | rfl) | (rw [if_neg (by (first | exact q_4abb957687 h190.2.2.2 h192 h181 | omega))]; first | done | rfl))⟩⟩⟩
      · have := sub_sbw h156 h154 rfl rfl (by (first | exact q_58e6e51dcc h70 | omega)) (by (first | exact q_ef1e8e38bf h7.1 | omega)) (by (first | exact q_5a5f544404 h7.2.1 | omega))
        refine En_Ps 2 (pc' := 33) (lv' := [(2, .int z12), (0, .ref 159), (1, .int a)]) (st' := [.int ((Int32.ofInt 2)), .ref 159]) rfl ?_
        have := (by decide : ((Int32.ofInt 2)).toInt = 2)
        refine En_callV rfl rfl rfl rfl rfl rfl rfl rfl tgz_159 (by decide +kernel) rfl (c_223x σ4 h5 ((Int32.ofInt 2)) (geI (by decide : (Int32.ofInt 2).toInt = 2) (by decide)) (leI (by decide : (Int32.ofInt 2).toInt = 2) (by decide)) z10 h11 h19) (by decide) (by decide) (fun v228 σ229 h227 => ?_)
        obtain ⟨h230, h231, z233, h234, rfl, h232⟩ := h227
        have h235 := h232.2.2.2.2
        have h236 := Fr_trans h14 h231 (by decide +kernel)
        have h237 := KR_fr h15 h231 (by decide +kernel)
        obtain ⟨S238, h239⟩ : ∃ q : PS, q = err By Nb 2 S17 := ⟨_, rfl⟩
        have h240 : ML By Nb σ229 S238 := by rw [h239]; exact (ML_eq h235 (err_cg (by (first | exact q_bef0c64981 this | omega))))
        have h241 := ML_k h240 h234
        have h242 : Imp (S238.1 = 0) (tK By Nb S238.2.2.1 = z65.toInt) := ML_t h240 ((h231 _ _ (inW tgz_159 (by decide +kernel))).trans h64)
        have h243 : Imp (S238.1 = 0 ∧ tK By Nb S238.2.2.1 = 2) (z69.toInt = min 99999 (tV By Nb S238.2.2.1) ∧ 0 ≤ tV By Nb S238.2.2.1) := fun q => ML_u h240 ((h231 _ _ (inW tgz_159 (by decide +kernel))).trans h68) q.1 q.2
        have h244 : S238.2.2.2 = S17.2.2.2 := by rw [h239]; exact err_w
        have h245 : gRl1 By Nb (tV By Nb Sp.2.2.1) S17 = S238 := by rw [h239]; unfold gRl1; (repeat' split) <;> first | rfl | (exfalso; omega) | ((try have i0 := Imp_m h242 (by omega)); (try have i1 := Imp_m h73 (by omega)); (try have i2 := Imp_m h22 (by omega)); (try have i3 := Imp_m h21 (by omega)); (try have i4 := Imp_m h74 (by omega)); (try have i5 := Imp_m h243 (by omega)); exfalso; omega)
        refine En_Ps 1 (pc' := 37) (lv' := [(2, .int z12), (0, .ref 159), (1, .int a)]) (st' := [.ref 159]) rfl ?_
        refine En_callV rfl rfl rfl rfl rfl rfl rfl rfl tgz_159 (by decide +kernel) rfl (c_234x σ229 h230 z8 ((h231 _ _ (inW tgz_159 (by decide +kernel))).trans h9) z233 h234 h240) (by decide) (by decide) (fun v247 σ248 h246 => ?_)
        obtain ⟨h249, h250, z252, h253, z254, h255, z256, rfl, h251⟩ := h246
        have h257 := h251.2.2.2.2.2.2.2.2.2.2.2.2
        have h258 := Fr_trans h236 h250 (by decide +kernel)
        have h259 := KR_fr h237 h250 (by decide +kernel)
        have h260 : tN By Nb 0 (pI (S238.2.2.2 0) - 1) S238 = tN By Nb 0 (pI (Sp.2.2.2 0) - 1) S238 := tN_cg rfl (by first | rfl | simp only [h23, h244] | rfl)
        obtain ⟨S261, h262⟩ : ∃ q : PS, q = tN By Nb 0 (pI (Sp.2.2.2 0) - 1) S238 := ⟨_, rfl⟩
        have h263 : ML By Nb σ248 S261 := by rw [h262]; exact (ML_eq h257.1 h260)
        have h264 := ML_k h263 h255
        have h265 : Imp (S261.1 = 0) (z256.toInt = tV By Nb S238.2.2.1) := fun z => h257.2 (by rw [h260, ← h262]; exact z)
        have h266 : Imp (S261.1 = 0) (S238.1 = 0 ∧ tK By Nb S238.2.2.1 = 2 ∧ 0 ≤ tV By Nb S238.2.2.1 ∧ tV By Nb S238.2.2.1 ≤ pI (Sp.2.2.2 0) - 1) := fun z => tN_gg (by rw [← h262]; exact z)
        have h267 : S261.2.2.2 = S238.2.2.2 := by rw [h262]; exact tN_w
        refine En_Ps 2 (pc' := 42) (lv' := [(3, .int z256), (2, .int z12), (0, .ref 159), (1, .int a)]) (st' := [.ref 159]) rfl ?_
        refine En_callV rfl rfl rfl rfl rfl rfl rfl rfl tgz_159 (by decide +kernel) rfl (c_237 σ248 h249 z254 h255) (by decide) (by decide) (fun v269 σ270 h268 => ?_)
        obtain ⟨h271, h272, z274, rfl, h273⟩ := h268
        obtain rfl : σ248 = σ270 := Fr_nil h272
        refine En_iNe _ rfl rfl (fun hx => by exfalso; have := Imp_m h251.2.2.2.2.2.2.2.2.2.2.2.1 (by (first | exact q_59622b1fc0 h273.2.2.1 hx h273.1 | omega)); (first | exact q_96d501f46b h232.1 this | omega)) (fun h275 => ?_)
        exact En_ret (v := none) rfl rfl rfl ⟨h249, h258, z252, h253, z254, h255, rfl, ⟨by first | exact q_a555021d16 h251.2.2.1 | omega, by first | exact q_76190b61a3 h251.2.2.2.1 | omega, by first | exact q_ccc3bb8fc9 h7.2.2.2.2.1 h251.2.2.2.2.1 | omega, by first | exact q_a555021d16 h251.2.2.2.2.2.1 | omega, by first | exact q_c733b715bf h251.2.2.2.2.2.2.1 | omega, by first | exact q_8ad2cc928a h63 h251.2.2.2.2.2.1 | omega, by first | exact q_28bfca2c13 h7.2.2.2.2.1 h251.2.2.2.2.1 | omega, fun hh => by first | exact q_35a72a35ef h63 | omega, ⟨h259, ML_eq h263 (by unfold gRule; dsimp only; rw [← h18, h245, ← h262]; first | done | rfl | (rw [if_pos (by omega)]; first | done | rfl) | (rw [if_neg (by (first | exact q_84edeb3f01 h264 h251.2.2.2.2.2.2.2.1 h232.1 | omega))]; first | done | rfl))⟩⟩⟩
/-- DoorSchoolModel.readNext()V -/
abbrev P_302x (σ0 : SG) (By : Int → Int) (Nb : Int) (Sp : PS) (f : Int32) (k : Int32) : PO := fun v σ => WT σ ∧ Fr [(35, 8), (35, 9), (35, 10), (35, 11), (35, 12), (35, 13), (41, 0)] σ0 σ ∧ ∃ f1 : Int32, (σ 159)[8]? = some (Value.int f1) ∧ ∃ k1 : Int32, (σ 159)[12]? = some (Value.int k1) ∧ v = none ∧ -f1.toInt ≤ 0 ∧ f1.toInt - 1600 ≤ 0 ∧ -f1.toInt + f.toInt ≤ 0 ∧ -k1.toInt ≤ 0 ∧ k1.toInt - 3 ≤ 0 ∧ -k1.toInt + k.toInt - 2 ≤ 0 ∧ f.toInt - f1.toInt ≤ 0 ∧ Imp (k1.toInt ≤ 0) (k.toInt ≤ 0) ∧ (KF σ0 σ ∧ ML By Nb σ (gNext By Nb Sp))
set_option maxRecDepth 10000 in
set_option maxHeartbeats 4000000 in
theorem k_302x_219 {By : Int → Int} {Nb : Int} {Sp : PS} (σ0 : SG) (hσ0 : WT σ0) (f : Int32) (h_f : (σ0 159)[8]? = some (Value.int f)) (k : Int32) (h_k : (σ0 159)[12]? = some (Value.int k)) (hM : ML By Nb σ0 Sp) (hg : Sp.1 = 0) : ∀ (σ1 : SG) (y4 : Int32) (y8 : Int32) (y12 : Int32), WT σ1 → Fr [(35, 8), (35, 9), (35, 10), (35, 11), (35, 12), (35, 13), (41, 0)] σ0 σ1 → (σ1 165)[(3 : Int).toNat]? = some (Value.int y4) → 0 ≤ y4.toInt → y4.toInt ≤ 12 → (σ1 159)[12]? = some (Value.int y8) → 0 ≤ y8.toInt → y8.toInt ≤ 3 → (σ1 159)[8]? = some (Value.int y12) → 0 ≤ y12.toInt → y12.toInt ≤ 1600 → f.toInt - y12.toInt ≤ 0 → Imp (y8.toInt ≤ 0) (k.toInt ≤ 0) → y8.toInt ≤ 0 → y4.toInt - 11 ≤ 0 → (iW By Nb 2 Sp) ≤ 0 ∧ -(iW By Nb 2 Sp) ≤ 0 → (iW By Nb 6 Sp) ≤ 0 ∧ -(iW By Nb 6 Sp) ≤ 0 → (iW By Nb 3 Sp) - 1 ≤ 0 ∧ -(iW By Nb 3 Sp) + 1 ≤ 0 → KF σ0 σ1 → ML By Nb σ1 (adv By Nb Sp) → gN2 By Nb (gN1 By Nb Sp) = Sp → En 9 200 none mr_302 (P_302x σ0 By Nb Sp f k) 219 [(0, .ref 159)] [] σ1 := by
  obtain ⟨hl_f, hu_f⟩ := WT_int hσ0 (g := 35) (by decide +kernel) (by decide +kernel) (l := 0) (u := 1600) (by decide +kernel) h_f
  obtain ⟨hl_k, hu_k⟩ := WT_int hσ0 (g := 35) (by decide +kernel) (by decide +kernel) (l := 0) (u := 3) (by decide +kernel) h_k
  have hF0 : Fr [(35, 8), (35, 9), (35, 10), (35, 11), (35, 12), (35, 13), (41, 0)] σ0 σ0 := Fr_rfl
  intro σ1 y4 y8 y12 h2 h3 h5 h6 h7 h9 h10 h11 h13 h14 h15 h16 h17 h18 h19 h20 h21 h22 h23 h24 h25
  have h26 := Imp_m h17 (by (first | exact q_35a72a35ef h18 | omega))
  have h27 : (adv By Nb Sp).1 = 0 := by rw [adv_1]; exact hg
  have h28 : (adv By Nb Sp).2.2.2 = Sp.2.2.2 := adv_w
  have h29 := ML_k h24 h9
  have h30 := ML_w h24 h27 h5 (by (first | decide | omega)) (by (first | decide | omega))
  refine En_Ps 3 (pc' := 223) (lv' := [(0, .ref 159)]) (st' := [.ref 159, .int ((Int32.ofInt 2)), .int (((Int8.ofInt 122).toInt32))]) rfl ?_
  refine En_getU (j := 14) (u := 165) (g' := 41) (q := 0) rfl rfl rfl tgz_159 (by decide +kernel) h2 (by decide +kernel) un_41_165 (fun h31 => ?_)
  refine En_Ps 1 (pc' := 227) (lv' := [(0, .ref 159)]) (st' := [.int ((Int32.ofInt 3)), .ref 165, .int ((Int32.ofInt 2)), .int (((Int8.ofInt 122).toInt32))]) rfl ?_
  refine En_ialdK h5 rfl (by decide : (Int32.ofInt 3).toInt = 3) tgz_165 (by decide +kernel) h2 (by decide) (lnI (by decide +kernel : LN _ = 226) (by decide)) ?_
  refine En_Ps 1 (pc' := 229) (lv' := [(0, .ref 159)]) (st' := [.int ((((Int32.ofInt 2)) * y4)), .int (((Int8.ofInt 122).toInt32))]) rfl ?_
  refine En_top (mulI (by decide : (Int32.ofInt 2).toInt = 2) rfl (Z := 2 * y4.toInt) (by first | exact q_9c4c04fc55 | omega) (by first | exact q_1f719a6719 h6 | omega) (by first | exact q_e56e4aa112 h7 | omega)) (fun z34 h35 => ?_)
  refine En_Ps 1 (pc' := 230) (lv' := [(0, .ref 159)]) (st' := [.int (((((Int8.ofInt 122).toInt32)) + z34))]) rfl ?_
  refine En_top (addI (by decide : ((Int8.ofInt 122).toInt32).toInt = 122) rfl (by first | exact q_db5ae3ba43 h35 h6 | omega) (by first | exact q_a476bac58b h35 h7 | omega)) (fun z36 h37 => ?_)
  refine En_Ps 2 (pc' := 232) (lv' := [(2, .int z36), (0, .ref 159)]) (st' := [.ref 159]) rfl ?_
  refine En_getK (j := 14) h31 rfl rfl rfl tgz_159 (by decide +kernel) ?_
  refine En_Ps 2 (pc' := 237) (lv' := [(2, .int z36), (0, .ref 159)]) (st' := [.ref 159, .int z36, .ref 165]) rfl ?_
  refine En_callV rfl rfl rfl rfl rfl rfl rfl rfl tgz_159 (by decide +kernel) rfl (c_234x σ1 h2 y12 h13 y8 h9 h24) (by decide) (by decide) (fun v39 σ40 h38 => ?_)
  obtain ⟨h41, h42, z44, h45, z46, h47, z48, rfl, h43⟩ := h38
  have h49 := h43.2.2.2.2.2.2.2.2.2.2.2.2
  have h50 := Fr_trans h3 h42 (by decide +kernel)
  have h51 := KF_fr h23 h42 (by decide +kernel)
  have h52 : tN By Nb 0 (pI ((adv By Nb Sp).2.2.2 0) - 1) (adv By Nb Sp) = tN By Nb 0 (pI ((adv By Nb Sp).2.2.2 0) - 1) (adv By Nb Sp) := tN_cg rfl (by first | rfl | simp only [h28] | rfl)
  obtain ⟨S53, h54⟩ : ∃ q : PS, q = tN By Nb 0 (pI ((adv By Nb Sp).2.2.2 0) - 1) (adv By Nb Sp) := ⟨_, rfl⟩
  have h55 : ML By Nb σ40 S53 := by rw [h54]; exact (ML_eq h49.1 h52)
  have h56 := ML_k h55 h47
  have h57 : Imp (S53.1 = 0) (z48.toInt = tV By Nb (adv By Nb Sp).2.2.1) := fun z => h49.2 (by rw [h52, ← h54]; exact z)
  have h58 : Imp (S53.1 = 0) ((adv By Nb Sp).1 = 0 ∧ tK By Nb (adv By Nb Sp).2.2.1 = 2 ∧ 0 ≤ tV By Nb (adv By Nb Sp).2.2.1 ∧ tV By Nb (adv By Nb Sp).2.2.1 ≤ pI ((adv By Nb Sp).2.2.2 0) - 1) := fun z => tN_gg (by rw [← h54]; exact z)
  have h59 : S53.2.2.2 = (adv By Nb Sp).2.2.2 := by rw [h54]; exact tN_w
  refine En_iast (l := 0) (u := 15) rfl rfl tgz_165 (by decide +kernel) (by first | exact q_64d61ee948 h37 h35 h6 | omega) (lnI (by decide +kernel : LN _ = 226) (by first | exact q_0d1492303d h37 h35 h7 | omega)) (FTrow 41 122 2 12 (by decide +kernel) (by first | exact q_0f5bf67c96 h37 h35 h6 | omega) (by (first | exact q_65b392d6dc h37 h35 h19 | omega)) (by first | exact q_996e6edde7 h35 h37 | omega)) (rngI rfl (by first | exact q_ef1e8e38bf h43.1 | omega) (by first | exact q_5a5f544404 h43.2.1 | omega)) h41 h50 (by decide +kernel) (fun σ60 h61 h62 h63 h64 => ?_)
  have h65 := KF_st h51 (J := z36.toInt) h64 (by (first | exact q_64d61ee948 h37 h35 h6 | omega)) (by (first | exact q_7b528adce1 h37 h35 h6 | omega))
  obtain ⟨S66, h67⟩ : ∃ q : PS, q = wst S53 (122 + 2 * (adv By Nb Sp).2.2.2 3) ((tV By Nb (adv By Nb Sp).2.2.1)) := ⟨_, rfl⟩
  have h68 : ML By Nb σ60 S66 := by rw [h67]; exact (ML_wst (i := 122 + 2 * (adv By Nb Sp).2.2.2 3) (v := (tV By Nb (adv By Nb Sp).2.2.1)) h55 h63 h64 (by (first | exact q_64d61ee948 h37 h35 h6 | omega)) (fun z => by have j1 := Imp_m h57 z; have j2 := Imp_m h58 z; exact ⟨by (first | exact q_456f46284a h37 h35 h30 | omega), by (first | exact q_a8fb2024c1 j1 | omega)⟩))
  have h69 := ML_k h68 ((h64 _ _ (Or.inl (neTG tgz_159 tgz_165 (by decide)))).trans h47)
  have h70 : S66.1 = S53.1 := by rw [h67]; rfl
  refine En_Ps 1 (pc' := 242) (lv' := [(2, .int z36), (0, .ref 159)]) (st' := [.ref 159]) rfl ?_
  refine En_getK (j := 14) ((h64 _ _ (Or.inl (neTG tgz_159 tgz_165 (by decide)))).trans ((h42 _ _ (inW tgz_159 (by decide +kernel))).trans h31)) rfl rfl rfl tgz_159 (by decide +kernel) ?_
  refine En_Ps 3 (pc' := 248) (lv' := [(2, .int z36), (0, .ref 159)]) (st' := [.int ((z36 + ((Int32.ofInt 1)))), .ref 165]) rfl ?_
  refine En_top (addI rfl (by decide : (Int32.ofInt 1).toInt = 1) (by first | exact q_e5430b869d h37 h35 h6 | omega) (by first | exact q_8a343b8a5a h37 h35 h7 | omega)) (fun z71 h72 => ?_)
  refine En_Ps 1 (pc' := 249) (lv' := [(2, .int z36), (0, .ref 159)]) (st' := [.ref 159, .int z71, .ref 165]) rfl ?_
  refine En_callV rfl rfl rfl rfl rfl rfl rfl rfl tgz_159 (by decide +kernel) rfl (c_209x σ60 h61 z44 ((h64 _ _ (Or.inl (neTG tgz_159 tgz_165 (by decide)))).trans h45) z46 ((h64 _ _ (Or.inl (neTG tgz_159 tgz_165 (by decide)))).trans h47) h68) (by decide) (by decide) (fun v74 σ75 h73 => ?_)
  obtain ⟨h76, h77, z79, h80, z81, h82, z83, rfl, h78⟩ := h73
  have h84 := h78.2.2.2.2.2.2.2.2.2.2
  have h85 := Fr_trans h62 h77 (by decide +kernel)
  have h86 := KF_fr h65 h77 (by decide +kernel)
  obtain ⟨S87, h88⟩ : ∃ q : PS, q = gDeed By Nb S66 := ⟨_, rfl⟩
  have h89 : ML By Nb σ75 S87 := by rw [h88]; exact h84.1
  have h90 := ML_k h89 h82
  have h91 : z83.toInt = iW By Nb 8 S66 := h84.2
  have h92 : S87.2.2.2 = S66.2.2.2 := by rw [h88]; exact gDeed_w
  have h93 : Imp (S87.1 = 0) (S66.1 = 0) := fun z => gDeed_g (by rw [← h88]; exact z)
  refine En_iast (l := 0) (u := 1) rfl rfl tgz_165 (by decide +kernel) (by first | exact q_a542ff144c h72 h37 h35 h6 | omega) (lnI (by decide +kernel : LN _ = 226) (by first | exact q_934e303d50 h72 h37 h35 h7 | omega)) (FTrow 41 123 2 12 (by decide +kernel) (by first | exact q_5a03b0472f h72 h37 h35 h6 | omega) (by (first | exact q_ffde18f12c h72 h37 h35 h19 | omega)) (by first | exact q_4529a0017e h35 h37 h72 | omega)) (rngI rfl (by first | exact q_ef1e8e38bf h78.1 | omega) (by first | exact q_733c8bfbae h78.2.1 | omega)) h76 h85 (by decide +kernel) (fun σ94 h95 h96 h97 h98 => ?_)
  have h99 := KF_st h86 (J := z71.toInt) h98 (by (first | exact q_a542ff144c h72 h37 h35 h6 | omega)) (by (first | exact q_9e1caa1a2c h72 h37 h35 h6 | omega))
  obtain ⟨S100, h101⟩ : ∃ q : PS, q = wst S87 (122 + 2 * (adv By Nb Sp).2.2.2 3 + 1) ((iW By Nb 8 S66)) := ⟨_, rfl⟩
  have h102 : ML By Nb σ94 S100 := by rw [h101]; exact (ML_wst (i := 122 + 2 * (adv By Nb Sp).2.2.2 3 + 1) (v := (iW By Nb 8 S66)) h89 h97 h98 (by (first | exact q_a542ff144c h72 h37 h35 h6 | omega)) (fun z => by have j1 := Imp_m h93 z; have j2 := h70.symm.trans j1; have j3 := Imp_m h57 j2; have j4 := Imp_m h58 j2; exact ⟨by (first | exact q_b10c75a734 h72 h37 h35 h30 | omega), by (first | exact q_a8fb2024c1 h91 | omega)⟩))
  have h103 := ML_k h102 ((h98 _ _ (Or.inl (neTG tgz_159 tgz_165 (by decide)))).trans h82)
  have h104 : S100.1 = S87.1 := by rw [h101]; rfl
  refine En_Ps 1 (pc' := 254) (lv' := [(2, .int z36), (0, .ref 159)]) (st' := [.ref 159]) rfl ?_
  refine En_getK (j := 14) ((h98 _ _ (Or.inl (neTG tgz_159 tgz_165 (by decide)))).trans ((h77 _ _ (inW tgz_159 (by decide +kernel))).trans ((h64 _ _ (Or.inl (neTG tgz_159 tgz_165 (by decide)))).trans ((h42 _ _ (inW tgz_159 (by decide +kernel))).trans h31)))) rfl rfl rfl tgz_159 (by decide +kernel) ?_
  refine En_Ps 2 (pc' := 259) (lv' := [(2, .int z36), (0, .ref 159)]) (st' := [.int ((Int32.ofInt 3)), .ref 165, .int ((Int32.ofInt 3)), .ref 165]) rfl ?_
  refine En_ialdK ((h98 _ _ (Or.inr (by (first | exact q_444ff93796 h72 h37 h35 h6 | omega)))).trans ((h77 _ _ (inWa tgz_165 (by decide +kernel))).trans ((h64 _ _ (Or.inr (by (first | exact q_8579a942a8 h37 h35 h6 | omega)))).trans ((h42 _ _ (inWa tgz_165 (by decide +kernel))).trans h5)))) rfl (by decide : (Int32.ofInt 3).toInt = 3) tgz_165 (by decide +kernel) h95 (by decide) (lnI (by decide +kernel : LN _ = 226) (by decide)) ?_
  refine En_Ps 2 (pc' := 262) (lv' := [(2, .int z36), (0, .ref 159)]) (st' := [.int ((y4 + ((Int32.ofInt 1)))), .int ((Int32.ofInt 3)), .ref 165]) rfl ?_
  refine En_top (addI rfl (by decide : (Int32.ofInt 1).toInt = 1) (by first | exact q_465ab79ac1 h6 | omega) (by first | exact q_1fdc13c345 h7 | omega)) (fun z106 h107 => ?_)
  refine En_iast (l := 0) (u := 12) rfl (by decide : (Int32.ofInt 3).toInt = 3) tgz_165 (by decide +kernel) (by decide) (lnI (by decide +kernel : LN _ = 226) (by decide)) (by decide +kernel) (rngI rfl (by first | exact q_35104ce9d3 h107 h6 | omega) (by (first | exact q_0887fb2c57 h107 h19 | omega))) h95 h96 (by decide +kernel) (fun σ108 h109 h110 h111 h112 => ?_)
  have h113 := KF_st h99 (J := 3) h112 (by (first | decide | omega)) (by (first | decide | omega))
  obtain ⟨S114, h115⟩ : ∃ q : PS, q = wst S100 (3) ((adv By Nb Sp).2.2.2 3 + 1) := ⟨_, rfl⟩
  have h116 : ML By Nb σ108 S114 := by rw [h115]; exact (ML_wst (i := 3) (v := (adv By Nb Sp).2.2.2 3 + 1) h102 h111 h112 (by (first | decide | omega)) (fun z => by have j1 := h104.symm.trans z; have j2 := Imp_m h93 j1; have j3 := h70.symm.trans j2; have j4 := Imp_m h57 j3; have j5 := Imp_m h58 j3; exact ⟨by (first | decide | omega), by (first | exact q_c264f2cea9 h107 h30 | omega)⟩))
  have h117 := ML_k h116 ((h112 _ _ (Or.inl (neTG tgz_159 tgz_165 (by decide)))).trans ((h98 _ _ (Or.inl (neTG tgz_159 tgz_165 (by decide)))).trans h82))
  have h118 : S114.1 = S100.1 := by rw [h115]; rfl
  refine En_Ps 1 (pc' := 447) (lv' := [(2, .int z36), (0, .ref 159)]) (st' := []) rfl ?_
  exact En_ret (v := none) rfl rfl rfl ⟨h109, h110, z79, ((h112 _ _ (Or.inl (neTG tgz_159 tgz_165 (by decide)))).trans ((h98 _ _ (Or.inl (neTG tgz_159 tgz_165 (by decide)))).trans h80)), z81, ((h112 _ _ (Or.inl (neTG tgz_159 tgz_165 (by decide)))).trans ((h98 _ _ (Or.inl (neTG tgz_159 tgz_165 (by decide)))).trans h82)), rfl, ⟨by first | exact q_a555021d16 h78.2.2.1 | omega, by first | exact q_76190b61a3 h78.2.2.2.1 | omega, by (first | exact q_e2ad540b1d h78.2.2.2.2.1 h43.2.2.2.2.1 h16 | omega), by first | exact q_a555021d16 h78.2.2.2.2.2.1 | omega, by first | exact q_c733b715bf h78.2.2.2.2.2.2.1 | omega, by (first | exact q_466cb5d1f4 h78.2.2.2.2.2.1 h26 | omega), by (first | exact q_302faadb73 h78.2.2.2.2.1 h43.2.2.2.2.1 h16 | omega), fun _ => by (first | exact q_35a72a35ef h26 | omega), ⟨h113, ML_eq h116 (by subst h115; subst h101; subst h88; subst h67; subst h54; rw [gNx_3 h25 hg (by (first | exact q_690e4cf802 h20.2 h20.1 | omega)) (by (first | exact q_690e4cf802 h21.2 h21.1 | omega)) (by (first | exact q_266cb46797 h22.2 h22.1 | omega))]; unfold gExam; (try dsimp only); first | done | rfl)⟩⟩⟩
set_option maxRecDepth 10000 in
set_option maxHeartbeats 4000000 in
theorem k_302x_309 {By : Int → Int} {Nb : Int} {Sp : PS} (σ0 : SG) (hσ0 : WT σ0) (f : Int32) (h_f : (σ0 159)[8]? = some (Value.int f)) (k : Int32) (h_k : (σ0 159)[12]? = some (Value.int k)) (hM : ML By Nb σ0 Sp) (hg : Sp.1 = 0) : ∀ (σ119 : SG) (y122 : Int32) (y126 : Int32) (y130 : Int32), WT σ119 → Fr [(35, 8), (35, 9), (35, 10), (35, 11), (35, 12), (35, 13), (41, 0)] σ0 σ119 → (σ119 165)[(4 : Int).toNat]? = some (Value.int y122) → 0 ≤ y122.toInt → y122.toInt ≤ 4 → (σ119 159)[12]? = some (Value.int y126) → 0 ≤ y126.toInt → y126.toInt ≤ 3 → (σ119 159)[8]? = some (Value.int y130) → 0 ≤ y130.toInt → y130.toInt ≤ 1600 → f.toInt - y130.toInt ≤ 0 → Imp (y126.toInt ≤ 0) (k.toInt ≤ 0) → y126.toInt ≤ 0 → y122.toInt - 3 ≤ 0 → (iW By Nb 2 Sp) ≤ 0 ∧ -(iW By Nb 2 Sp) ≤ 0 → (iW By Nb 6 Sp) ≤ 0 ∧ -(iW By Nb 6 Sp) ≤ 0 → (iW By Nb 3 Sp) ≤ 0 ∧ -(iW By Nb 3 Sp) ≤ 0 → (iW By Nb 17 Sp) ≤ 0 ∧ -(iW By Nb 17 Sp) ≤ 0 → (iW By Nb 9 Sp) ≤ 0 ∧ -(iW By Nb 9 Sp) ≤ 0 → (iW By Nb 5 Sp) - 1 ≤ 0 ∧ -(iW By Nb 5 Sp) + 1 ≤ 0 → KF σ0 σ119 → ML By Nb σ119 (adv By Nb Sp) → gN2 By Nb (gN1 By Nb Sp) = Sp → En 9 200 none mr_302 (P_302x σ0 By Nb Sp f k) 309 [(0, .ref 159)] [] σ119 := by
  obtain ⟨hl_f, hu_f⟩ := WT_int hσ0 (g := 35) (by decide +kernel) (by decide +kernel) (l := 0) (u := 1600) (by decide +kernel) h_f
  obtain ⟨hl_k, hu_k⟩ := WT_int hσ0 (g := 35) (by decide +kernel) (by decide +kernel) (l := 0) (u := 3) (by decide +kernel) h_k
  have hF0 : Fr [(35, 8), (35, 9), (35, 10), (35, 11), (35, 12), (35, 13), (41, 0)] σ0 σ0 := Fr_rfl
  intro σ119 y122 y126 y130 h120 h121 h123 h124 h125 h127 h128 h129 h131 h132 h133 h134 h135 h136 h137 h138 h139 h140 h141 h142 h143 h144 h145 h146
  have h147 := Imp_m h135 (by (first | exact q_35a72a35ef h136 | omega))
  have h148 : (adv By Nb Sp).1 = 0 := by rw [adv_1]; exact hg
  have h149 : (adv By Nb Sp).2.2.2 = Sp.2.2.2 := adv_w
  have h150 := ML_k h145 h127
  have h151 := ML_w h145 h148 h123 (by (first | decide | omega)) (by (first | decide | omega))
  refine En_Ps 4 (pc' := 315) (lv' := [(0, .ref 159)]) (st' := [.ref 159, .int ((Int32.ofInt 2)), .int (((Int16.ofInt 146).toInt32)), .ref 159]) rfl ?_
  refine En_getU (j := 14) (u := 165) (g' := 41) (q := 0) rfl rfl rfl tgz_159 (by decide +kernel) h120 (by decide +kernel) un_41_165 (fun h152 => ?_)
  refine En_Ps 1 (pc' := 319) (lv' := [(0, .ref 159)]) (st' := [.int ((Int32.ofInt 4)), .ref 165, .int ((Int32.ofInt 2)), .int (((Int16.ofInt 146).toInt32)), .ref 159]) rfl ?_
  refine En_ialdK h123 rfl (by decide : (Int32.ofInt 4).toInt = 4) tgz_165 (by decide +kernel) h120 (by decide) (lnI (by decide +kernel : LN _ = 226) (by decide)) ?_
  refine En_Ps 1 (pc' := 321) (lv' := [(0, .ref 159)]) (st' := [.int ((((Int32.ofInt 2)) * y122)), .int (((Int16.ofInt 146).toInt32)), .ref 159]) rfl ?_
  refine En_top (mulI (by decide : (Int32.ofInt 2).toInt = 2) rfl (Z := 2 * y122.toInt) (by first | exact q_9c4c04fc55 | omega) (by first | exact q_1f719a6719 h124 | omega) (by first | exact q_aa3b077867 h125 | omega)) (fun z155 h156 => ?_)
  refine En_Ps 1 (pc' := 322) (lv' := [(0, .ref 159)]) (st' := [.int (((((Int16.ofInt 146).toInt32)) + z155)), .ref 159]) rfl ?_
  refine En_top (addI (by decide : ((Int16.ofInt 146).toInt32).toInt = 146) rfl (by first | exact q_42b4d5f9e5 h156 h124 | omega) (by first | exact q_b77f2b141e h156 h125 | omega)) (fun z157 h158 => ?_)
  refine En_callV rfl rfl rfl rfl rfl rfl rfl rfl tgz_159 (by decide +kernel) rfl (c_303bx σ119 h120 z157 (geI rfl (by first | exact q_511d1ad7bf h158 h156 h124 | omega)) (leI rfl (by (first | exact q_d8372ce354 h158 h156 h137 | omega))) y130 h131 y126 h127 h145 (by (first | exact q_d2dcd30e56 h148 | omega))) (by decide) (by decide) (fun v160 σ161 h159 => ?_)
  obtain ⟨h162, h163, z165, h166, z167, h168, rfl, h164⟩ := h159
  have h169 := h164.2.2.2.2.2.2.2.2
  have h170 := Fr_trans h121 h163 (by decide +kernel)
  have h171 := KF_tr h144 (KF_of h169.1)
  obtain ⟨S172, h173⟩ : ∃ q : PS, q = gRule By Nb (146 + 2 * (adv By Nb Sp).2.2.2 4) (adv By Nb Sp) := ⟨_, rfl⟩
  have h174 : ML By Nb σ161 S172 := by rw [h173]; exact (ML_eq h169.2 (gRule_cg (by (first | exact q_31fdab0439 h158 h156 h151 | omega))))
  have h175 := ML_k h174 h168
  obtain ⟨z177, h176, h178, h179⟩ := WT_peekI h162 tgz_165 (by decide +kernel : FT 41 (4 : Int).toNat = (0, 0, 4)) (by decide +kernel)
  have h180 := ci_at h123 (rfl : (4 : Int) = 4)
  have h181 := ci_at h176 (rfl : (4 : Int) = 4)
  have h182 := h169.1 4 (by (first | decide | omega)) (by (first | decide | omega))
  refine En_Ps 1 (pc' := 326) (lv' := [(0, .ref 159)]) (st' := [.ref 159]) rfl ?_
  refine En_getK (j := 14) ((h163 _ _ (inW tgz_159 (by decide +kernel))).trans h152) rfl rfl rfl tgz_159 (by decide +kernel) ?_
  refine En_Ps 2 (pc' := 331) (lv' := [(0, .ref 159)]) (st' := [.int ((Int32.ofInt 4)), .ref 165, .int ((Int32.ofInt 4)), .ref 165]) rfl ?_
  refine En_ialdK h176 rfl (by decide : (Int32.ofInt 4).toInt = 4) tgz_165 (by decide +kernel) h162 (by decide) (lnI (by decide +kernel : LN _ = 226) (by decide)) ?_
  refine En_Ps 2 (pc' := 334) (lv' := [(0, .ref 159)]) (st' := [.int ((z177 + ((Int32.ofInt 1)))), .int ((Int32.ofInt 4)), .ref 165]) rfl ?_
  refine En_top (addI rfl (by decide : (Int32.ofInt 1).toInt = 1) (by first | exact q_465ab79ac1 h178 | omega) (by first | exact q_f7282962fd h179 | omega)) (fun z184 h185 => ?_)
  refine En_iast (l := 0) (u := 4) rfl (by decide : (Int32.ofInt 4).toInt = 4) tgz_165 (by decide +kernel) (by decide) (lnI (by decide +kernel : LN _ = 226) (by decide)) (by decide +kernel) (rngI rfl (by first | exact q_35104ce9d3 h185 h178 | omega) (by (first | exact q_f21a198761 h185 h181 h182 h180 h137 | omega))) h162 h170 (by decide +kernel) (fun σ186 h187 h188 h189 h190 => ?_)
  have h191 := KF_st h171 (J := 4) h190 (by (first | decide | omega)) (by (first | decide | omega))
  obtain ⟨S192, h193⟩ : ∃ q : PS, q = wst S172 (4) ((adv By Nb Sp).2.2.2 4 + 1) := ⟨_, rfl⟩
  have h194 : ML By Nb σ186 S192 := by rw [h193]; exact (ML_wst (i := 4) (v := (adv By Nb Sp).2.2.2 4 + 1) h174 h189 h190 (by (first | decide | omega)) (fun z => by exact ⟨by (first | decide | omega), by (first | exact q_6b72e7736a h185 h181 h151 h182 h180 | omega)⟩))
  have h195 := ML_k h194 ((h190 _ _ (Or.inl (neTG tgz_159 tgz_165 (by decide)))).trans h168)
  have h196 : S192.1 = S172.1 := by rw [h193]; rfl
  refine En_Ps 1 (pc' := 447) (lv' := [(0, .ref 159)]) (st' := []) rfl ?_
  exact En_ret (v := none) rfl rfl rfl ⟨h187, h188, z165, ((h190 _ _ (Or.inl (neTG tgz_159 tgz_165 (by decide)))).trans h166), z167, ((h190 _ _ (Or.inl (neTG tgz_159 tgz_165 (by decide)))).trans h168), rfl, ⟨by first | exact q_a555021d16 h164.1 | omega, by first | exact q_76190b61a3 h164.2.1 | omega, by (first | exact q_e6a550c152 h164.2.2.1 h134 | omega), by first | exact q_a555021d16 h164.2.2.2.1 | omega, by first | exact q_c733b715bf h164.2.2.2.2.1 | omega, by (first | exact q_466cb5d1f4 h164.2.2.2.1 h147 | omega), by (first | exact q_ceffd08dbb h164.2.2.1 h134 | omega), fun _ => by (first | exact q_35a72a35ef h147 | omega), ⟨h191, ML_eq h194 (by subst h193; subst h173; rw [gNx_5 h146 hg (by (first | exact q_690e4cf802 h138.2 h138.1 | omega)) (by (first | exact q_690e4cf802 h139.2 h139.1 | omega)) (by (first | exact q_690e4cf802 h140.2 h140.1 | omega)) (by (first | exact q_690e4cf802 h141.2 h141.1 | omega)) (by (first | exact q_690e4cf802 h142.2 h142.1 | omega)) (by (first | exact q_266cb46797 h143.2 h143.1 | omega))]; unfold gHouse; first | done | rfl)⟩⟩⟩
set_option maxRecDepth 10000 in
set_option maxHeartbeats 4000000 in
theorem k_302x_347 {By : Int → Int} {Nb : Int} {Sp : PS} (σ0 : SG) (hσ0 : WT σ0) (f : Int32) (h_f : (σ0 159)[8]? = some (Value.int f)) (k : Int32) (h_k : (σ0 159)[12]? = some (Value.int k)) (hM : ML By Nb σ0 Sp) (hg : Sp.1 = 0) : ∀ (σ197 : SG) (y200 : Int32) (y204 : Int32) (y208 : Int32), WT σ197 → Fr [(35, 8), (35, 9), (35, 10), (35, 11), (35, 12), (35, 13), (41, 0)] σ0 σ197 → (σ197 165)[(5 : Int).toNat]? = some (Value.int y200) → 0 ≤ y200.toInt → y200.toInt ≤ 6 → (σ197 159)[12]? = some (Value.int y204) → 0 ≤ y204.toInt → y204.toInt ≤ 3 → (σ197 159)[8]? = some (Value.int y208) → 0 ≤ y208.toInt → y208.toInt ≤ 1600 → f.toInt - y208.toInt ≤ 0 → Imp (y204.toInt ≤ 0) (k.toInt ≤ 0) → y204.toInt ≤ 0 → y200.toInt - 5 ≤ 0 → (iW By Nb 2 Sp) ≤ 0 ∧ -(iW By Nb 2 Sp) ≤ 0 → (iW By Nb 6 Sp) ≤ 0 ∧ -(iW By Nb 6 Sp) ≤ 0 → (iW By Nb 3 Sp) ≤ 0 ∧ -(iW By Nb 3 Sp) ≤ 0 → (iW By Nb 17 Sp) ≤ 0 ∧ -(iW By Nb 17 Sp) ≤ 0 → (iW By Nb 9 Sp) ≤ 0 ∧ -(iW By Nb 9 Sp) ≤ 0 → (iW By Nb 5 Sp) ≤ 0 ∧ -(iW By Nb 5 Sp) ≤ 0 → (iW By Nb 1 Sp) - 1 ≤ 0 ∧ -(iW By Nb 1 Sp) + 1 ≤ 0 → KF σ0 σ197 → ML By Nb σ197 (adv By Nb Sp) → gN2 By Nb (gN1 By Nb Sp) = Sp → En 9 200 none mr_302 (P_302x σ0 By Nb Sp f k) 347 [(0, .ref 159)] [] σ197 := by
  obtain ⟨hl_f, hu_f⟩ := WT_int hσ0 (g := 35) (by decide +kernel) (by decide +kernel) (l := 0) (u := 1600) (by decide +kernel) h_f
  obtain ⟨hl_k, hu_k⟩ := WT_int hσ0 (g := 35) (by decide +kernel) (by decide +kernel) (l := 0) (u := 3) (by decide +kernel) h_k
  have hF0 : Fr [(35, 8), (35, 9), (35, 10), (35, 11), (35, 12), (35, 13), (41, 0)] σ0 σ0 := Fr_rfl
  intro σ197 y200 y204 y208 h198 h199 h201 h202 h203 h205 h206 h207 h209 h210 h211 h212 h213 h214 h215 h216 h217 h218 h219 h220 h221 h222 h223 h224 h225
  have h226 := Imp_m h213 (by (first | exact q_35a72a35ef h214 | omega))
  have h227 : (adv By Nb Sp).1 = 0 := by rw [adv_1]; exact hg
  have h228 : (adv By Nb Sp).2.2.2 = Sp.2.2.2 := adv_w
  have h229 := ML_k h224 h205
  have h230 := ML_w h224 h227 h201 (by (first | decide | omega)) (by (first | decide | omega))
  refine En_Ps 1 (pc' := 348) (lv' := [(0, .ref 159)]) (st' := [.ref 159]) rfl ?_
  refine En_getU (j := 14) (u := 165) (g' := 41) (q := 0) rfl rfl rfl tgz_159 (by decide +kernel) h198 (by decide +kernel) un_41_165 (fun h231 => ?_)
  refine En_Ps 3 (pc' := 356) (lv' := [(0, .ref 159)]) (st' := [.ref 159, .int ((Int32.ofInt 2)), .int (((Int16.ofInt 154).toInt32)), .ref 165]) rfl ?_
  refine En_getK (j := 14) h231 rfl rfl rfl tgz_159 (by decide +kernel) ?_
  refine En_Ps 1 (pc' := 360) (lv' := [(0, .ref 159)]) (st' := [.int ((Int32.ofInt 5)), .ref 165, .int ((Int32.ofInt 2)), .int (((Int16.ofInt 154).toInt32)), .ref 165]) rfl ?_
  refine En_ialdK h201 rfl (by decide : (Int32.ofInt 5).toInt = 5) tgz_165 (by decide +kernel) h198 (by decide) (lnI (by decide +kernel : LN _ = 226) (by decide)) ?_
  refine En_Ps 1 (pc' := 362) (lv' := [(0, .ref 159)]) (st' := [.int ((((Int32.ofInt 2)) * y200)), .int (((Int16.ofInt 154).toInt32)), .ref 165]) rfl ?_
  refine En_top (mulI (by decide : (Int32.ofInt 2).toInt = 2) rfl (Z := 2 * y200.toInt) (by first | exact q_9c4c04fc55 | omega) (by first | exact q_1f719a6719 h202 | omega) (by first | exact q_41eaec9db2 h203 | omega)) (fun z234 h235 => ?_)
  refine En_Ps 1 (pc' := 363) (lv' := [(0, .ref 159)]) (st' := [.int (((((Int16.ofInt 154).toInt32)) + z234)), .ref 165]) rfl ?_
  refine En_top (addI (by decide : ((Int16.ofInt 154).toInt32).toInt = 154) rfl (by first | exact q_35d2865be9 h235 h202 | omega) (by first | exact q_881c99d24a h235 h203 | omega)) (fun z236 h237 => ?_)
  refine En_Ps 1 (pc' := 364) (lv' := [(0, .ref 159)]) (st' := [.ref 159, .int z236, .ref 165]) rfl ?_
  refine En_ldcS (i := 15) rfl rfl rfl ?_
  refine En_Ps 2 (pc' := 369) (lv' := [(0, .ref 159)]) (st' := [.int (((Int8.ofInt 9).toInt32)), .int ((Int32.ofInt 1)), .retAddr 31, .ref 159, .int z236, .ref 165]) rfl ?_
  have := (by decide : ((Int32.ofInt 1)).toInt = 1)
  have := (by decide : (((Int8.ofInt 9).toInt32)).toInt = 9)
  refine En_callV rfl rfl rfl rfl rfl rfl rfl rfl tgz_159 (by decide +kernel) rfl (c_323s15x σ197 h198 ((Int32.ofInt 1)) (((Int8.ofInt 9).toInt32)) (geI (by decide : (Int32.ofInt 1).toInt = 1) (by decide)) (leI (by decide : (Int32.ofInt 1).toInt = 1) (by decide)) (geI (by decide : ((Int8.ofInt 9).toInt32).toInt = 9) (by decide)) (leI (by decide : ((Int8.ofInt 9).toInt32).toInt = 9) (by decide)) y208 h209 y204 h205 h224) (by decide) (by decide) (fun v239 σ240 h238 => ?_)
  obtain ⟨h241, h242, z244, h245, z246, h247, z248, rfl, h243⟩ := h238
  have h249 := h243.2.2.2.2.2.2.2.2.2.2.2.2.2.2
  have h250 := Fr_trans h199 h242 (by decide +kernel)
  have h251 := KF_fr h223 h242 (by decide +kernel)
  obtain ⟨S252, h253⟩ : ∃ q : PS, q = pss By Nb (iW By Nb 15 (adv By Nb Sp)) (adv By Nb Sp) := ⟨_, rfl⟩
  have h254 : tN By Nb ((Int32.ofInt 1)).toInt (((Int8.ofInt 9).toInt32)).toInt (pss By Nb (iW By Nb 15 (adv By Nb Sp)) (adv By Nb Sp)) = tN By Nb (1) (9) S252 := by rw [h253]; exact tN_cg2 (fun _ => by (first | exact q_0bfa10f27c (by decide) | omega)) (fun _ => by (first | exact q_d0d469a1ce this | omega))
  obtain ⟨S255, h256⟩ : ∃ q : PS, q = tN By Nb (1) (9) S252 := ⟨_, rfl⟩
  have h257 : ML By Nb σ240 S255 := by rw [h256]; exact (ML_eq h249.1 h254)
  have h258 := ML_k h257 h247
  have h259 : Imp (S255.1 = 0) (z248.toInt = tV By Nb S252.2.2.1) := fun z => by rw [h253]; exact h249.2 (by rw [h254, ← h256]; exact z)
  have h260 := Imp_m h243.2.2.2.2.2.2.2.2.2.2.1 (by (first | exact q_ad3eee31ca (by decide) | omega))
  have h261 := Imp_m h243.2.2.2.2.2.2.2.2.2.2.2.1 (by (first | exact q_a0f8c33df1 this | omega))
  refine En_iast (l := 0) (u := 9) rfl rfl tgz_165 (by decide +kernel) (by first | exact q_ccc63f2e7e h237 h235 h202 | omega) (lnI (by decide +kernel : LN _ = 226) (by first | exact q_1583d12f91 h237 h235 h203 | omega)) (FTrow 41 154 2 6 (by decide +kernel) (by first | exact q_4f183090a0 h237 h235 h202 | omega) (by (first | exact q_c38c9c5611 h237 h235 h215 | omega)) (by first | exact q_1f9eb023d9 h235 h237 | omega)) (rngI rfl (by first | exact q_ef1e8e38bf h243.1 | omega) (by (first | exact q_a3d6a97b4a h261 this | omega))) h241 h250 (by decide +kernel) (fun σ262 h263 h264 h265 h266 => ?_)
  have h267 := KF_st h251 (J := z236.toInt) h266 (by (first | exact q_ccc63f2e7e h237 h235 h202 | omega)) (by (first | exact q_00c89b1aeb h237 h235 h202 | omega))
  obtain ⟨S268, h269⟩ : ∃ q : PS, q = wst S255 (154 + 2 * (adv By Nb Sp).2.2.2 5) ((tV By Nb S252.2.2.1)) := ⟨_, rfl⟩
  have h270 : ML By Nb σ262 S268 := by rw [h269]; exact (ML_wst (i := 154 + 2 * (adv By Nb Sp).2.2.2 5) (v := (tV By Nb S252.2.2.1)) h257 h265 h266 (by (first | exact q_ccc63f2e7e h237 h235 h202 | omega)) (fun z => by have j1 := Imp_m h259 z; exact ⟨by (first | exact q_66fd1eedab h237 h235 h230 | omega), by (first | exact q_a8fb2024c1 j1 | omega)⟩))
  have h271 := ML_k h270 ((h266 _ _ (Or.inl (neTG tgz_159 tgz_165 (by decide)))).trans h247)
  have h272 : S268.1 = S255.1 := by rw [h269]; rfl
  refine En_Ps 1 (pc' := 374) (lv' := [(0, .ref 159)]) (st' := [.ref 159]) rfl ?_
  refine En_getK (j := 14) ((h266 _ _ (Or.inl (neTG tgz_159 tgz_165 (by decide)))).trans ((h242 _ _ (inW tgz_159 (by decide +kernel))).trans h231)) rfl rfl rfl tgz_159 (by decide +kernel) ?_
  refine En_Ps 2 (pc' := 379) (lv' := [(0, .ref 159)]) (st' := [.int ((Int32.ofInt 5)), .ref 165, .int ((Int32.ofInt 5)), .ref 165]) rfl ?_
  refine En_ialdK ((h266 _ _ (Or.inr (by (first | exact q_b12e5c6571 h237 h235 h202 | omega)))).trans ((h242 _ _ (inWa tgz_165 (by decide +kernel))).trans h201)) rfl (by decide : (Int32.ofInt 5).toInt = 5) tgz_165 (by decide +kernel) h263 (by decide) (lnI (by decide +kernel : LN _ = 226) (by decide)) ?_
  refine En_Ps 2 (pc' := 382) (lv' := [(0, .ref 159)]) (st' := [.int ((y200 + ((Int32.ofInt 1)))), .int ((Int32.ofInt 5)), .ref 165]) rfl ?_
  refine En_top (addI rfl (by decide : (Int32.ofInt 1).toInt = 1) (by first | exact q_465ab79ac1 h202 | omega) (by first | exact q_9a865ca0e4 h203 | omega)) (fun z274 h275 => ?_)
  refine En_iast (l := 0) (u := 6) rfl (by decide : (Int32.ofInt 5).toInt = 5) tgz_165 (by decide +kernel) (by decide) (lnI (by decide +kernel : LN _ = 226) (by decide)) (by decide +kernel) (rngI rfl (by first | exact q_35104ce9d3 h275 h202 | omega) (by (first | exact q_1cbcc0a230 h275 h215 | omega))) h263 h264 (by decide +kernel) (fun σ276 h277 h278 h279 h280 => ?_)
  have h281 := KF_st h267 (J := 5) h280 (by (first | decide | omega)) (by (first | decide | omega))
  obtain ⟨S282, h283⟩ : ∃ q : PS, q = wst S268 (5) ((adv By Nb Sp).2.2.2 5 + 1) := ⟨_, rfl⟩
  have h284 : ML By Nb σ276 S282 := by rw [h283]; exact (ML_wst (i := 5) (v := (adv By Nb Sp).2.2.2 5 + 1) h270 h279 h280 (by (first | decide | omega)) (fun z => by have j1 := h272.symm.trans z; have j2 := Imp_m h259 j1; exact ⟨by (first | decide | omega), by (first | exact q_c264f2cea9 h275 h230 | omega)⟩))
  have h285 := ML_k h284 ((h280 _ _ (Or.inl (neTG tgz_159 tgz_165 (by decide)))).trans ((h266 _ _ (Or.inl (neTG tgz_159 tgz_165 (by decide)))).trans h247))
  have h286 : S282.1 = S268.1 := by rw [h283]; rfl
  refine En_Ps 1 (pc' := 447) (lv' := [(0, .ref 159)]) (st' := []) rfl ?_
  exact En_ret (v := none) rfl rfl rfl ⟨h277, h278, z244, ((h280 _ _ (Or.inl (neTG tgz_159 tgz_165 (by decide)))).trans ((h266 _ _ (Or.inl (neTG tgz_159 tgz_165 (by decide)))).trans h245)), z246, ((h280 _ _ (Or.inl (neTG tgz_159 tgz_165 (by decide)))).trans ((h266 _ _ (Or.inl (neTG tgz_159 tgz_165 (by decide)))).trans h247)), rfl, ⟨by first | exact q_a555021d16 h243.2.2.1 | omega, by first | exact q_76190b61a3 h243.2.2.2.1 | omega, by (first | exact q_e6a550c152 h243.2.2.2.2.1 h212 | omega), by first | exact q_a555021d16 h243.2.2.2.2.2.1 | omega, by first | exact q_c733b715bf h243.2.2.2.2.2.2.1 | omega, by (first | exact q_466cb5d1f4 h243.2.2.2.2.2.1 h226 | omega), by (first | exact q_ceffd08dbb h243.2.2.2.2.1 h212 | omega), fun _ => by (first | exact q_35a72a35ef h226 | omega), ⟨h281, ML_eq h284 (by subst h283; subst h269; subst h256; subst h253; rw [gNx_1 h225 hg (by (first | exact q_690e4cf802 h216.2 h216.1 | omega)) (by (first | exact q_690e4cf802 h217.2 h217.1 | omega)) (by (first | exact q_690e4cf802 h218.2 h218.1 | omega)) (by (first | exact q_690e4cf802 h219.2 h219.1 | omega)) (by (first | exact q_690e4cf802 h220.2 h220.1 | omega)) (by (first | exact q_690e4cf802 h221.2 h221.1 | omega)) (by (first | exact q_266cb46797 h222.2 h222.1 | omega))]; unfold gCourse; (try dsimp only); first | done | rfl)⟩⟩⟩
end
