/-- DoorSchoolModel.number(II)I -/
abbrev P_288x (σ0 : SG) (By : Int → Int) (Nb : Int) (Sp : PS) (a : Int32) (b : Int32) (f : Int32) (k : Int32) (t : Int32) (u : Int32) : PO := fun v σ => WT σ ∧ Fr [(35, 8), (35, 9), (35, 10), (35, 11), (35, 12), (35, 13)] σ0 σ ∧ ∃ f1 : Int32, (σ 159)[8]? = some (.int f1) ∧ ∃ k1 : Int32, (σ 159)[12]? = some (.int k1) ∧ ∃ ret : Int32, v = some (.int ret) ∧ -ret.toInt ≤ 0 ∧ ret.toInt - 50 ≤ 0 ∧ -f1.toInt ≤ 0 ∧ f1.toInt - 1600 ≤ 0 ∧ -f1.toInt + f.toInt ≤ 0 ∧ -k1.toInt ≤ 0 ∧ k1.toInt - 3 ≤ 0 ∧ -k1.toInt + k.toInt ≤ 0 ∧ -k1.toInt + t.toInt - 3 ≤ 0 ∧ -k1.toInt + u.toInt - 99998 ≤ 0 ∧ f.toInt - f1.toInt ≤ 0 ∧ Imp (a.toInt ≤ 0) (a.toInt - ret.toInt ≤ 0) ∧ Imp (-a.toInt ≤ 0) (-ret.toInt ≤ 0) ∧ Imp (-b.toInt ≤ 0) (ret.toInt - b.toInt ≤ 0) ∧ Imp (b.toInt ≤ 0) (ret.toInt ≤ 0) ∧ Imp (k1.toInt ≤ 0) (k.toInt ≤ 0 ∧ t.toInt - 2 ≤ 0 ∧ -t.toInt + 2 ≤ 0 ∧ ret.toInt - u.toInt ≤ 0 ∧ -ret.toInt + u.toInt ≤ 0 ∧ a.toInt - u.toInt ≤ 0 ∧ u.toInt - b.toInt ≤ 0) ∧ (ML By Nb σ (tN By Nb a.toInt b.toInt Sp) ∧ ((tN By Nb a.toInt b.toInt Sp).1 = 0 → ret.toInt = tV By Nb Sp.2.2.1))
set_option maxRecDepth 10000 in
set_option maxHeartbeats 4000000 in
theorem c_288x {By : Int → Int} {Nb : Int} {Sp : PS} (σ0 : SG) (hσ0 : WT σ0) (a : Int32) (b : Int32) (hl_a : 0 ≤ a.toInt) (hu_a : a.toInt ≤ 100000) (hl_b : (-1) ≤ b.toInt) (hu_b : b.toInt ≤ 50) (f : Int32) (h_f : (σ0 159)[8]? = some (.int f)) (k : Int32) (h_k : (σ0 159)[12]? = some (.int k)) (t : Int32) (h_t : (σ0 159)[10]? = some (.int t)) (u : Int32) (h_u : (σ0 159)[11]? = some (.int u)) (hM : ML By Nb σ0 Sp) : En 2 46 none mr_288 (P_288x σ0 By Nb Sp a b f k t u) 0 [(0, .ref 159), (1, .int a), (2, .int b)] [] σ0 := by
  obtain ⟨hl_f, hu_f⟩ := WT_int hσ0 (g := 35) (by decide +kernel) (by decide +kernel) (l := 0) (u := 1600) (by decide +kernel) h_f
  obtain ⟨hl_k, hu_k⟩ := WT_int hσ0 (g := 35) (by decide +kernel) (by decide +kernel) (l := 0) (u := 3) (by decide +kernel) h_k
  obtain ⟨hl_t, hu_t⟩ := WT_int hσ0 (g := 35) (by decide +kernel) (by decide +kernel) (l := 0) (u := 4) (by decide +kernel) h_t
  obtain ⟨hl_u, hu_u⟩ := WT_int hσ0 (g := 35) (by decide +kernel) (by decide +kernel) (l := 0) (u := 99999) (by decide +kernel) h_u
  have hF0 : Fr [(35, 8), (35, 9), (35, 10), (35, 11), (35, 12), (35, 13)] σ0 σ0 := Fr_rfl
  have h1 := ML_k hM h_k
  have h2 : Imp (Sp.1 = 0) (tK By Nb Sp.2.2.1 = t.toInt) := ML_t hM h_t
  have h3 : Imp (Sp.1 = 0 ∧ tK By Nb Sp.2.2.1 = 2) (u.toInt = min 99999 (tV By Nb Sp.2.2.1) ∧ 0 ≤ tV By Nb Sp.2.2.1) := fun q => ML_u hM h_u q.1 q.2
  refine En_Ps 1 (pc' := 1) (lv' := [(0, .ref 159), (1, .int a), (2, .int b)]) (st' := [.ref 159]) rfl ?_
  refine En_callV rfl rfl rfl rfl rfl rfl rfl rfl tgz_159 (by decide +kernel) rfl (c_237 σ0 hσ0 k h_k) (by decide) (by decide) (fun v5 σ6 h4 => ?_)
  obtain ⟨h7, h8, z10, rfl, h9⟩ := h4
  obtain rfl : σ0 = σ6 := Fr_nil h8
  refine En_iEq _ rfl rfl (fun h11 => ?_) (fun h11 => ?_)
  · refine En_Ps 1 (pc' := 21) (lv' := [(0, .ref 159), (1, .int a), (2, .int b)]) (st' := [.ref 159]) rfl ?_
    refine En_callV rfl rfl rfl rfl rfl rfl rfl rfl tgz_159 (by decide +kernel) rfl (c_237 σ0 hσ0 k h_k) (by decide) (by decide) (fun v13 σ14 h12 => ?_)
    obtain ⟨h15, h16, z18, rfl, h17⟩ := h12
    obtain rfl : σ0 = σ14 := Fr_nil h16
    refine En_iEq _ rfl rfl (fun h19 => ?_) (fun hx => by exfalso; omega)
    refine En_Ps 1 (pc' := 48) (lv' := [(0, .ref 159), (1, .int a), (2, .int b)]) (st' := [.ref 159]) rfl ?_
    refine En_callV rfl rfl rfl rfl rfl rfl rfl rfl tgz_159 (by decide +kernel) rfl (c_237 σ0 hσ0 k h_k) (by decide) (by decide) (fun v21 σ22 h20 => ?_)
    obtain ⟨h23, h24, z26, rfl, h25⟩ := h20
    obtain rfl : σ0 = σ22 := Fr_nil h24
    refine En_iNe _ rfl rfl (fun hx => by exfalso; omega) (fun h27 => ?_)
    refine En_Ps 1 (pc' := 55) (lv' := [(0, .ref 159), (1, .int a), (2, .int b)]) (st' := [.int ((Int32.ofInt 0))]) rfl ?_
    refine En_top (by decide : (Int32.ofInt 0).toInt = 0) (fun z28 h29 => ?_)
    exact En_ret (v := some (.int z28)) rfl rfl rfl ⟨hσ0, hF0, f, h_f, k, h_k, z28, rfl, ⟨by first | exact q_097a37c2ae h29 | omega, by first | exact q_82b7ab915f h29 | omega, by first | exact q_c803b490ef hl_f | omega, by first | exact q_5a08281576 hu_f | omega, by first | exact q_857069189f | omega, by first | exact q_c803b490ef hl_k | omega, by first | exact q_e9a8eec0c4 hu_k | omega, by first | exact q_857069189f | omega, by omega, by omega, by first | exact q_1bb76abeaf | omega, fun hh => by first | exact q_b2041001a2 hh h29 | omega, fun hh => by first | exact q_097a37c2ae h29 | omega, fun hh => by first | exact q_0d5ac7281a hh h29 | omega, fun hh => by first | exact q_c5d285f1b9 h29 | omega, fun _ => by omega, (by (try have i0 := Imp_m h2 (by omega)); (try have i1 := Imp_m h3 (by omega)); first | (have q := tN_bad (B := By) (n := Nb) (lo := a.toInt) (hi := b.toInt) (S := Sp) (by omega); rw [q]; exact ⟨ML_eq hM (by rfl), fun zz => by have := err_ne (B := By) (n := Nb) (S := Sp) (k := 1) (by omega); have := err_ne (B := By) (n := Nb) (S := Sp) (k := 2) (by omega); exfalso; omega⟩) | (have q := tN_k (B := By) (n := Nb) (lo := a.toInt) (hi := b.toInt) (S := Sp) (by omega) (by omega); rw [q]; exact ⟨ML_eq hM (by rfl), fun zz => by have := err_ne (B := By) (n := Nb) (S := Sp) (k := 1) (by omega); have := err_ne (B := By) (n := Nb) (S := Sp) (k := 2) (by omega); exfalso; omega⟩) | (have q := tN_v (B := By) (n := Nb) (lo := a.toInt) (hi := b.toInt) (S := Sp) (by omega) (by omega) (by omega); rw [q]; exact ⟨ML_eq hM (by rfl), fun zz => by have := err_ne (B := By) (n := Nb) (S := Sp) (k := 1) (by omega); have := err_ne (B := By) (n := Nb) (S := Sp) (k := 2) (by omega); exfalso; omega⟩) | (have q := tN_ok (B := By) (n := Nb) (lo := a.toInt) (hi := b.toInt) (S := Sp) (by omega) (by omega) (by omega); rw [q]; exact ⟨ML_eq hM (by rfl), fun zz => by have := err_ne (B := By) (n := Nb) (S := Sp) (k := 1) (by omega); have := err_ne (B := By) (n := Nb) (S := Sp) (k := 2) (by omega); exfalso; omega⟩))⟩⟩
  · try have h30 := Imp_m h2 (by omega)
    try have h31 := Imp_m h3 (by omega)
    refine En_Ps 1 (pc' := 8) (lv' := [(0, .ref 159), (1, .int a), (2, .int b)]) (st' := [.ref 159]) rfl ?_
    refine En_getK (j := 10) h_t rfl rfl rfl tgz_159 (by decide +kernel) ?_
    refine En_Ps 1 (pc' := 12) (lv' := [(0, .ref 159), (1, .int a), (2, .int b)]) (st' := [.int ((Int32.ofInt 2)), .int t]) rfl ?_
    refine En_icEq _ rfl (by decide : (Int32.ofInt 2).toInt = 2) rfl (fun h32 => ?_) (fun h32 => ?_)
    · refine En_Ps 1 (pc' := 21) (lv' := [(0, .ref 159), (1, .int a), (2, .int b)]) (st' := [.ref 159]) rfl ?_
      refine En_callV rfl rfl rfl rfl rfl rfl rfl rfl tgz_159 (by decide +kernel) rfl (c_237 σ0 hσ0 k h_k) (by decide) (by decide) (fun v34 σ35 h33 => ?_)
      obtain ⟨h36, h37, z39, rfl, h38⟩ := h33
      obtain rfl : σ0 = σ35 := Fr_nil h37
      refine En_iEq _ rfl rfl (fun hx => by exfalso; omega) (fun h40 => ?_)
      try have h41 := Imp_m h2 (by omega)
      try have h42 := Imp_m h3 (by omega)
      refine En_Ps 1 (pc' := 28) (lv' := [(0, .ref 159), (1, .int a), (2, .int b)]) (st' := [.ref 159]) rfl ?_
      refine En_getK (j := 11) h_u rfl rfl rfl tgz_159 (by decide +kernel) ?_
      refine En_Ps 5 (pc' := 36) (lv' := [(0, .ref 159), (1, .int a), (2, .int b)]) (st' := [.long b.toInt64, .long a.toInt64, .long u.toInt64]) rfl ?_
      have : u.toInt64.toInt = u.toInt := (i2lI rfl)
      have : a.toInt64.toInt = a.toInt := (i2lI rfl)
      have : b.toInt64.toInt = b.toInt := (i2lI rfl)
      refine En_callS rfl rfl rfl rfl rfl rfl rfl rfl rfl (c_249 σ0 hσ0 u.toInt64 a.toInt64 b.toInt64) (by decide) (by decide) (fun v44 σ45 h43 => ?_)
      obtain ⟨h46, h47, z49, rfl, h48⟩ := h43
      obtain rfl : σ0 = σ45 := Fr_nil h47
      refine En_iNe _ rfl rfl (fun h50 => ?_) (fun h50 => ?_)
      · refine En_Ps 1 (pc' := 48) (lv' := [(0, .ref 159), (1, .int a), (2, .int b)]) (st' := [.ref 159]) rfl ?_
        refine En_callV rfl rfl rfl rfl rfl rfl rfl rfl tgz_159 (by decide +kernel) rfl (c_237 σ0 hσ0 k h_k) (by decide) (by decide) (fun v52 σ53 h51 => ?_)
        obtain ⟨h54, h55, z57, rfl, h56⟩ := h51
        obtain rfl : σ0 = σ53 := Fr_nil h55
        refine En_iNe _ rfl rfl (fun h58 => ?_) (fun hx => by exfalso; omega)
        try have h59 := Imp_m h2 (by omega)
        try have h60 := Imp_m h3 (by omega)
        refine En_Ps 1 (pc' := 57) (lv' := [(0, .ref 159), (1, .int a), (2, .int b)]) (st' := [.ref 159]) rfl ?_
        refine En_getK (j := 11) h_u rfl rfl rfl tgz_159 (by decide +kernel) ?_
        refine En_Ps 2 (pc' := 62) (lv' := [(3, .int u), (0, .ref 159), (1, .int a), (2, .int b)]) (st' := [.ref 159]) rfl ?_
        refine En_callV rfl rfl rfl rfl rfl rfl rfl rfl tgz_159 (by decide +kernel) rfl (c_189x σ0 hσ0 f h_f hM.1 (ML_at hM (by omega) h_f)) (by decide) (by decide) (fun v62 σ63 h61 => ?_)
        obtain ⟨h64, h65, z67, h68, z69, h70, rfl, h66⟩ := h61
        have h71 := h66.2.2.2.2.2.2.2
        have h72 := Fr_trans hF0 h65 (by decide +kernel)
        obtain ⟨S73, h74⟩ : ∃ q : PS, q = adv By Nb Sp := ⟨_, rfl⟩
        have h75 : ML By Nb σ63 S73 := by rw [h74]; exact (ML_adv hM (by omega) h_f h65 (by decide +kernel) h71.2)
        have h76 := ML_k h75 ((h65 _ _ (inW tgz_159 (by decide +kernel))).trans h_k)
        have h77 : Imp (S73.1 = 0) (tK By Nb S73.2.2.1 = z69.toInt) := ML_t h75 h70
        have h78 : S73.2.2.2 = Sp.2.2.2 := by rw [h74]; exact adv_w
        refine En_Ps 1 (pc' := 66) (lv' := [(3, .int u), (0, .ref 159), (1, .int a), (2, .int b)]) (st' := [.int u]) rfl ?_
        exact En_ret (v := some (.int u)) rfl rfl rfl ⟨h64, h72, z67, h68, k, ((h65 _ _ (inW tgz_159 (by decide +kernel))).trans h_k), u, rfl, ⟨by first | exact q_c803b490ef hl_u | omega, by omega, by first | exact q_a555021d16 h66.1 | omega, by first | exact q_76190b61a3 h66.2.1 | omega, by first | exact q_d22b102a8e h66.2.2.1 | omega, by first | exact q_c803b490ef hl_k | omega, by first | exact q_e9a8eec0c4 hu_k | omega, by first | exact q_857069189f | omega, by first | exact q_01811cb1b4 hl_k h32 | omega, by omega, by first | exact q_83f4b1e050 h66.2.2.1 | omega, fun hh => by first | exact q_51b79a98f4 hh hl_u | omega, fun hh => by first | exact q_c803b490ef hl_u | omega, fun _ => by omega, fun _ => by omega, fun _ => by omega, (by (try have i0 := Imp_m h77 (by omega)); (try have i1 := Imp_m h2 (by omega)); (try have i2 := Imp_m h3 (by omega)); (try have i3 := Imp_m h66.2.2.2.2.2.2.1 (by omega)); first | (have q := tN_bad (B := By) (n := Nb) (lo := a.toInt) (hi := b.toInt) (S := Sp) (by omega); rw [q]; exact ⟨ML_eq h75 (by subst h74; rfl), fun zz => by omega⟩) | (have q := tN_k (B := By) (n := Nb) (lo := a.toInt) (hi := b.toInt) (S := Sp) (by omega) (by omega); rw [q]; exact ⟨ML_eq h75 (by subst h74; rfl), fun zz => by omega⟩) | (have q := tN_v (B := By) (n := Nb) (lo := a.toInt) (hi := b.toInt) (S := Sp) (by omega) (by omega) (by omega); rw [q]; exact ⟨ML_eq h75 (by subst h74; rfl), fun zz => by omega⟩) | (have q := tN_ok (B := By) (n := Nb) (lo := a.toInt) (hi := b.toInt) (S := Sp) (by omega) (by omega) (by omega); rw [q]; exact ⟨ML_eq h75 (by subst h74; rfl), fun zz => by omega⟩))⟩⟩
      · refine En_Ps 2 (pc' := 44) (lv' := [(0, .ref 159), (1, .int a), (2, .int b)]) (st' := [.int ((Int32.ofInt 2)), .ref 159]) rfl ?_
        have := (by decide : ((Int32.ofInt 2)).toInt = 2)
        refine En_callV rfl rfl rfl rfl rfl rfl rfl rfl tgz_159 (by decide +kernel) rfl (c_223x σ0 hσ0 ((Int32.ofInt 2)) (geI (by decide : (Int32.ofInt 2).toInt = 2) (by decide)) (leI (by decide : (Int32.ofInt 2).toInt = 2) (by decide)) k h_k hM) (by decide) (by decide) (fun v80 σ81 h79 => ?_)
        obtain ⟨h82, h83, z85, h86, rfl, h84⟩ := h79
        have h87 := h84.2.2.2.2
        have h88 := Fr_trans hF0 h83 (by decide +kernel)
        obtain ⟨S89, h90⟩ : ∃ q : PS, q = err By Nb 2 Sp := ⟨_, rfl⟩
        have h91 : ML By Nb σ81 S89 := by rw [h90]; exact (ML_eq h87 (err_cg (by omega)))
        have h92 := ML_k h91 h86
        have h93 : Imp (S89.1 = 0) (tK By Nb S89.2.2.1 = t.toInt) := ML_t h91 ((h83 _ _ (inW tgz_159 (by decide +kernel))).trans h_t)
        have h94 : Imp (S89.1 = 0 ∧ tK By Nb S89.2.2.1 = 2) (u.toInt = min 99999 (tV By Nb S89.2.2.1) ∧ 0 ≤ tV By Nb S89.2.2.1) := fun q => ML_u h91 ((h83 _ _ (inW tgz_159 (by decide +kernel))).trans h_u) q.1 q.2
        have h95 : S89.2.2.2 = Sp.2.2.2 := by rw [h90]; exact err_w
        refine En_Ps 1 (pc' := 48) (lv' := [(0, .ref 159), (1, .int a), (2, .int b)]) (st' := [.ref 159]) rfl ?_
        refine En_callV rfl rfl rfl rfl rfl rfl rfl rfl tgz_159 (by decide +kernel) rfl (c_237 σ81 h82 z85 h86) (by decide) (by decide) (fun v97 σ98 h96 => ?_)
        obtain ⟨h99, h100, z102, rfl, h101⟩ := h96
        obtain rfl : σ81 = σ98 := Fr_nil h100
        refine En_iNe _ rfl rfl (fun hx => by exfalso; omega) (fun h103 => ?_)
        refine En_Ps 1 (pc' := 55) (lv' := [(0, .ref 159), (1, .int a), (2, .int b)]) (st' := [.int ((Int32.ofInt 0))]) rfl ?_
        refine En_top (by decide : (Int32.ofInt 0).toInt = 0) (fun z104 h105 => ?_)
        exact En_ret (v := some (.int z104)) rfl rfl rfl ⟨h82, h88, f, ((h83 _ _ (inW tgz_159 (by decide +kernel))).trans h_f), z85, h86, z104, rfl, ⟨by first | exact q_097a37c2ae h105 | omega, by first | exact q_82b7ab915f h105 | omega, by first | exact q_c803b490ef hl_f | omega, by first | exact q_5a08281576 hu_f | omega, by first | exact q_857069189f | omega, by first | exact q_1a6ee862c1 h84.1 | omega, by first | exact q_c733b715bf h84.2.1 | omega, by first | exact q_d22b102a8e h84.2.2.1 | omega, by first | exact q_227ed01057 h32 h84.1 | omega, by first | exact q_38eff6f445 hu_u h84.1 | omega, by first | exact q_1bb76abeaf | omega, fun hh => by first | exact q_b2041001a2 hh h105 | omega, fun hh => by first | exact q_097a37c2ae h105 | omega, fun hh => by first | exact q_0d5ac7281a hh h105 | omega, fun hh => by first | exact q_c5d285f1b9 h105 | omega, fun _ => by omega, (by (try have i0 := Imp_m h93 (by omega)); (try have i1 := Imp_m h2 (by omega)); (try have i2 := Imp_m h3 (by omega)); (try have i3 := Imp_m h94 (by omega)); first | (have q := tN_bad (B := By) (n := Nb) (lo := a.toInt) (hi := b.toInt) (S := Sp) (by omega); rw [q]; exact ⟨ML_eq h91 (by subst h90; rfl), fun zz => by have := err_ne (B := By) (n := Nb) (S := Sp) (k := 1) (by omega); have := err_ne (B := By) (n := Nb) (S := Sp) (k := 2) (by omega); exfalso; omega⟩) | (have q := tN_k (B := By) (n := Nb) (lo := a.toInt) (hi := b.toInt) (S := Sp) (by omega) (by omega); rw [q]; exact ⟨ML_eq h91 (by subst h90; rfl), fun zz => by have := err_ne (B := By) (n := Nb) (S := Sp) (k := 1) (by omega); have := err_ne (B := By) (n := Nb) (S := Sp) (k := 2) (by omega); exfalso; omega⟩) | (have q := tN_v (B := By) (n := Nb) (lo := a.toInt) (hi := b.toInt) (S := Sp) (by omega) (by omega) (by omega); rw [q]; exact ⟨ML_eq h91 (by subst h90; rfl), fun zz => by have := err_ne (B := By) (n := Nb) (S := Sp) (k := 1) (by omega); have := err_ne (B := By) (n := Nb) (S := Sp) (k := 2) (by omega); exfalso; omega⟩) | (have q := tN_ok (B := By) (n := Nb) (lo := a.toInt) (hi := b.toInt) (S := Sp) (by omega) (by omega) (by omega); rw [q]; exact ⟨ML_eq h91 (by subst h90; rfl), fun zz => by have := err_ne (B := By) (n := Nb) (S := Sp) (k := 1) (by omega); have := err_ne (B := By) (n := Nb) (S := Sp) (k := 2) (by omega); exfalso; omega⟩))⟩⟩
    · refine En_Ps 2 (pc' := 17) (lv' := [(0, .ref 159), (1, .int a), (2, .int b)]) (st' := [.int ((Int32.ofInt 1)), .ref 159]) rfl ?_
      have := (by decide : ((Int32.ofInt 1)).toInt = 1)
      refine En_callV rfl rfl rfl rfl rfl rfl rfl rfl tgz_159 (by decide +kernel) rfl (c_223x σ0 hσ0 ((Int32.ofInt 1)) (geI (by decide : (Int32.ofInt 1).toInt = 1) (by decide)) (leI (by decide : (Int32.ofInt 1).toInt = 1) (by decide)) k h_k hM) (by decide) (by decide) (fun v107 σ108 h106 => ?_)
      obtain ⟨h109, h110, z112, h113, rfl, h111⟩ := h106
      have h114 := h111.2.2.2.2
      have h115 := Fr_trans hF0 h110 (by decide +kernel)
      obtain ⟨S116, h117⟩ : ∃ q : PS, q = err By Nb 1 Sp := ⟨_, rfl⟩
      have h118 : ML By Nb σ108 S116 := by rw [h117]; exact (ML_eq h114 (err_cg (by omega)))
      have h119 := ML_k h118 h113
      have h120 : Imp (S116.1 = 0) (tK By Nb S116.2.2.1 = t.toInt) := ML_t h118 ((h110 _ _ (inW tgz_159 (by decide +kernel))).trans h_t)
      have h121 : Imp (S116.1 = 0 ∧ tK By Nb S116.2.2.1 = 2) (u.toInt = min 99999 (tV By Nb S116.2.2.1) ∧ 0 ≤ tV By Nb S116.2.2.1) := fun q => ML_u h118 ((h110 _ _ (inW tgz_159 (by decide +kernel))).trans h_u) q.1 q.2
      have h122 : S116.2.2.2 = Sp.2.2.2 := by rw [h117]; exact err_w
      refine En_Ps 1 (pc' := 21) (lv' := [(0, .ref 159), (1, .int a), (2, .int b)]) (st' := [.ref 159]) rfl ?_
      refine En_callV rfl rfl rfl rfl rfl rfl rfl rfl tgz_159 (by decide +kernel) rfl (c_237 σ108 h109 z112 h113) (by decide) (by decide) (fun v124 σ125 h123 => ?_)
      obtain ⟨h126, h127, z129, rfl, h128⟩ := h123
      obtain rfl : σ108 = σ125 := Fr_nil h127
      refine En_iEq _ rfl rfl (fun h130 => ?_) (fun hx => by exfalso; omega)
      refine En_Ps 1 (pc' := 48) (lv' := [(0, .ref 159), (1, .int a), (2, .int b)]) (st' := [.ref 159]) rfl ?_
      refine En_callV rfl rfl rfl rfl rfl rfl rfl rfl tgz_159 (by decide +kernel) rfl (c_237 σ108 h109 z112 h113) (by decide) (by decide) (fun v132 σ133 h131 => ?_)
      obtain ⟨h134, h135, z137, rfl, h136⟩ := h131
      obtain rfl : σ108 = σ133 := Fr_nil h135
      refine En_iNe _ rfl rfl (fun hx => by exfalso; omega) (fun h138 => ?_)
      refine En_Ps 1 (pc' := 55) (lv' := [(0, .ref 159), (1, .int a), (2, .int b)]) (st' := [.int ((Int32.ofInt 0))]) rfl ?_
      refine En_top (by decide : (Int32.ofInt 0).toInt = 0) (fun z139 h140 => ?_)
      exact En_ret (v := some (.int z139)) rfl rfl rfl ⟨h109, h115, f, ((h110 _ _ (inW tgz_159 (by decide +kernel))).trans h_f), z112, h113, z139, rfl, ⟨by first | exact q_097a37c2ae h140 | omega, by first | exact q_82b7ab915f h140 | omega, by first | exact q_c803b490ef hl_f | omega, by first | exact q_5a08281576 hu_f | omega, by first | exact q_857069189f | omega, by first | exact q_1a6ee862c1 h111.1 | omega, by first | exact q_c733b715bf h111.2.1 | omega, by first | exact q_d22b102a8e h111.2.2.1 | omega, by first | exact q_33ca4f7bc6 hu_t h111.1 | omega, by first | exact q_38eff6f445 hu_u h111.1 | omega, by first | exact q_1bb76abeaf | omega, fun hh => by first | exact q_b2041001a2 hh h140 | omega, fun hh => by first | exact q_097a37c2ae h140 | omega, fun hh => by first | exact q_0d5ac7281a hh h140 | omega, fun hh => by first | exact q_c5d285f1b9 h140 | omega, fun _ => by omega, (by (try have i0 := Imp_m h120 (by omega)); (try have i1 := Imp_m h2 (by omega)); (try have i2 := Imp_m h3 (by omega)); (try have i3 := Imp_m h121 (by omega)); first | (have q := tN_bad (B := By) (n := Nb) (lo := a.toInt) (hi := b.toInt) (S := Sp) (by omega); rw [q]; exact ⟨ML_eq h118 (by subst h117; rfl), fun zz => by have := err_ne (B := By) (n := Nb) (S := Sp) (k := 1) (by omega); have := err_ne (B := By) (n := Nb) (S := Sp) (k := 2) (by omega); exfalso; omega⟩) | (have q := tN_k (B := By) (n := Nb) (lo := a.toInt) (hi := b.toInt) (S := Sp) (by omega) (by omega); rw [q]; exact ⟨ML_eq h118 (by subst h117; rfl), fun zz => by have := err_ne (B := By) (n := Nb) (S := Sp) (k := 1) (by omega); have := err_ne (B := By) (n := Nb) (S := Sp) (k := 2) (by omega); exfalso; omega⟩) | (have q := tN_v (B := By) (n := Nb) (lo := a.toInt) (hi := b.toInt) (S := Sp) (by omega) (by omega) (by omega); rw [q]; exact ⟨ML_eq h118 (by subst h117; rfl), fun zz => by have := err_ne (B := By) (n := Nb) (S := Sp) (k := 1) (by omega); have := err_ne (B := By) (n := Nb) (S := Sp) (k := 2) (by omega); exfalso; omega⟩) | (have q := tN_ok (B := By) (n := Nb) (lo := a.toInt) (hi := b.toInt) (S := Sp) (by omega) (by omega) (by omega); rw [q]; exact ⟨ML_eq h118 (by subst h117; rfl), fun zz => by have := err_ne (B := By) (n := Nb) (S := Sp) (k := 1) (by omega); have := err_ne (B := By) (n := Nb) (S := Sp) (k := 2) (by omega); exfalso; omega⟩))⟩⟩
/-- DoorSchoolModel.freshKnock()I -/
abbrev P_234x (σ0 : SG) (By : Int → Int) (Nb : Int) (Sp : PS) (f : Int32) (k : Int32) : PO := fun v σ => WT σ ∧ Fr [(35, 8), (35, 9), (35, 10), (35, 11), (35, 12), (35, 13)] σ0 σ ∧ ∃ f1 : Int32, (σ 159)[8]? = some (.int f1) ∧ ∃ k1 : Int32, (σ 159)[12]? = some (.int k1) ∧ ∃ ret : Int32, v = some (.int ret) ∧ -ret.toInt ≤ 0 ∧ ret.toInt - 15 ≤ 0 ∧ -f1.toInt ≤ 0 ∧ f1.toInt - 1600 ≤ 0 ∧ -f1.toInt + f.toInt ≤ 0 ∧ -k1.toInt ≤ 0 ∧ k1.toInt - 3 ≤ 0 ∧ -k1.toInt + k.toInt ≤ 0 ∧ f.toInt - f1.toInt ≤ 0 ∧ -ret.toInt ≤ 0 ∧ ret.toInt - 15 ≤ 0 ∧ Imp (k1.toInt ≤ 0) (k.toInt ≤ 0) ∧ (ML By Nb σ (tN By Nb 0 (pI (Sp.2.2.2 0) - 1) Sp) ∧ ((tN By Nb 0 (pI (Sp.2.2.2 0) - 1) Sp).1 = 0 → ret.toInt = tV By Nb Sp.2.2.1))
set_option maxRecDepth 10000 in
set_option maxHeartbeats 4000000 in
theorem c_234x {By : Int → Int} {Nb : Int} {Sp : PS} (σ0 : SG) (hσ0 : WT σ0) (f : Int32) (h_f : (σ0 159)[8]? = some (.int f)) (k : Int32) (h_k : (σ0 159)[12]? = some (.int k)) (hM : ML By Nb σ0 Sp) : En 3 69 none mr_234 (P_234x σ0 By Nb Sp f k) 0 [(0, .ref 159)] [] σ0 := by
  obtain ⟨hl_f, hu_f⟩ := WT_int hσ0 (g := 35) (by decide +kernel) (by decide +kernel) (l := 0) (u := 1600) (by decide +kernel) h_f
  obtain ⟨hl_k, hu_k⟩ := WT_int hσ0 (g := 35) (by decide +kernel) (by decide +kernel) (l := 0) (u := 3) (by decide +kernel) h_k
  have hF0 : Fr [(35, 8), (35, 9), (35, 10), (35, 11), (35, 12), (35, 13)] σ0 σ0 := Fr_rfl
  have h1 := ML_k hM h_k
  refine En_Ps 4 (pc' := 4) (lv' := [(0, .ref 159)]) (st' := [.ref 159, .int ((Int32.ofInt 1)), .int ((Int32.ofInt 0)), .ref 159]) rfl ?_
  refine En_getU (j := 14) (u := 165) (g' := 41) (q := 0) rfl rfl rfl tgz_159 (by decide +kernel) hσ0 (by decide +kernel) (by decide +kernel) (fun h2 => ?_)
  refine En_Ps 1 (pc' := 8) (lv' := [(0, .ref 159)]) (st' := [.int ((Int32.ofInt 0)), .ref 165, .int ((Int32.ofInt 1)), .int ((Int32.ofInt 0)), .ref 159]) rfl ?_
  refine En_iald (l := 0) (u := 4) rfl (by decide : (Int32.ofInt 0).toInt = 0) tgz_165 (by decide +kernel) hσ0 (by decide) (lnI (by decide +kernel : LN _ = 226) (by decide)) (by decide +kernel) (fun z5 h4 h6 h7 => ?_)
  refine En_Ps 1 (pc' := 10) (lv' := [(0, .ref 159)]) (st' := [.int ((((Int32.ofInt 1)) <<< (z5 &&& 31))), .int ((Int32.ofInt 0)), .ref 159]) rfl ?_
  refine En_nam (fun z8 h9 => ?_)
  have h10 := shl1_v (y := z5) rfl (by omega) (by omega)
  rw [← h9] at h10
  have h11 := shl1_p (y := z5) 4 rfl (by omega) (by omega) (by decide)
  rw [← h9] at h11
  refine En_Ps 2 (pc' := 12) (lv' := [(0, .ref 159)]) (st' := [.int ((z8 - ((Int32.ofInt 1)))), .int ((Int32.ofInt 0)), .ref 159]) rfl ?_
  refine En_top (subI rfl (by decide : (Int32.ofInt 1).toInt = 1) (by omega) (by omega)) (fun z12 h13 => ?_)
  obtain ⟨z15, h14, h16, h17⟩ := WT_peekI hσ0 tgz_159 (by decide +kernel : FT 35 10 = (0, 0, 4)) (by decide +kernel)
  obtain ⟨z19, h18, h20, h21⟩ := WT_peekI hσ0 tgz_159 (by decide +kernel : FT 35 11 = (0, 0, 99999)) (by decide +kernel)
  have := (by decide : ((Int32.ofInt 0)).toInt = 0)
  refine En_callV rfl rfl rfl rfl rfl rfl rfl rfl tgz_159 (by decide +kernel) rfl (c_288x σ0 hσ0 ((Int32.ofInt 0)) z12 (geI (by decide : (Int32.ofInt 0).toInt = 0) (by decide)) (leI (by decide : (Int32.ofInt 0).toInt = 0) (by decide)) (geI rfl (by omega)) (leI rfl (by omega)) f h_f k h_k z15 h14 z19 h18 hM) (by decide) (by decide) (fun v23 σ24 h22 => ?_)
  obtain ⟨h25, h26, z28, h29, z30, h31, z32, rfl, h27⟩ := h22
  have h33 := h27.2.2.2.2.2.2.2.2.2.2.2.2.2.2.2.2
  have h34 := Fr_trans hF0 h26 (by decide +kernel)
  have h35 : tN By Nb ((Int32.ofInt 0)).toInt z12.toInt Sp = tN By Nb (0) (z12.toInt) Sp := tN_cg2 (fun zz => by omega) (fun zz => by omega)
  obtain ⟨S36, h37⟩ : ∃ q : PS, q = tN By Nb (0) (z12.toInt) Sp := ⟨_, rfl⟩
  have h38 : ML By Nb σ24 S36 := by rw [h37]; exact (ML_eq h33.1 h35)
  have h39 := ML_k h38 h31
  have h40 : Imp (S36.1 = 0) (z32.toInt = tV By Nb Sp.2.2.1) := fun z => h33.2 (by rw [h35, ← h37]; exact z)
  have h41 : Imp (S36.1 = 0) (Sp.1 = 0 ∧ tK By Nb Sp.2.2.1 = 2 ∧ 0 ≤ tV By Nb Sp.2.2.1 ∧ tV By Nb Sp.2.2.1 ≤ z12.toInt) := fun z => tN_gg (by rw [← h37]; exact z)
  have h42 : S36.2.2.2 = Sp.2.2.2 := by rw [h37]; exact tN_w
  have h43 := Imp_m h27.2.2.2.2.2.2.2.2.2.2.2.1 (by omega)
  have h44 := Imp_m h27.2.2.2.2.2.2.2.2.2.2.2.2.1 (by omega)
  have h45 := Imp_m h27.2.2.2.2.2.2.2.2.2.2.2.2.2.1 (by omega)
  exact En_ret (v := some (.int z32)) rfl rfl rfl ⟨h25, h34, z28, h29, z30, h31, z32, rfl, ⟨by first | exact q_a555021d16 h27.1 | omega, by omega, by first | exact q_a555021d16 h27.2.2.1 | omega, by first | exact q_76190b61a3 h27.2.2.2.1 | omega, by first | exact q_d22b102a8e h27.2.2.2.2.1 | omega, by first | exact q_a555021d16 h27.2.2.2.2.2.1 | omega, by first | exact q_c733b715bf h27.2.2.2.2.2.2.1 | omega, by first | exact q_d22b102a8e h27.2.2.2.2.2.2.2.1 | omega, by first | exact q_83f4b1e050 h27.2.2.2.2.1 | omega, by first | exact q_a555021d16 h27.1 | omega, by omega, fun hh => by first | exact q_f10d4a2089 h27.2.2.2.2.2.2.2.1 hh | omega, (Classical.byCases (fun q : Sp.1 = 0 => by have w := ML_w hM q h4 (by omega) (by omega); have e9 : tN By Nb 0 (z12.toInt) Sp = tN By Nb 0 (pI (Sp.2.2.2 0) - 1) Sp := tN_cg rfl (by rw [w]; omega); rw [← e9, ← h37]; exact ⟨h38, fun zz => by (try have i0 := Imp_m h41 (by omega)); (try have i1 := Imp_m h40 (by omega)); (try have i2 := Imp_m h27.2.2.2.2.2.2.2.2.2.2.2.2.2.2.1 (by omega)); (try have i3 := Imp_m h27.2.2.2.2.2.2.2.2.2.2.2.2.2.2.2.1 (by omega)); omega⟩) (fun q : ¬ Sp.1 = 0 => by rw [tN_bad q]; exact ⟨ML_eq h38 (by subst h37; exact tN_bad q), fun zz => absurd zz q⟩))⟩⟩
/-- DoorSchoolModel.image(I)I -/
abbrev P_248x (σ0 : SG) (a : Int32) : PO := fun v σ => WT σ ∧ Fr [(37, 0), (38, 0)] σ0 σ ∧ ∃ ret : Int32, v = some (.int ret) ∧ -ret.toInt - 2 ≤ 0 ∧ ret.toInt ≤ 0 ∧ Imp (-a.toInt ≤ 0 ∧ a.toInt - 2 ≤ 0) (ret.toInt ≤ 0 ∧ -ret.toInt ≤ 0) ∧ Imp (a.toInt + 1 ≤ 0) (ret.toInt + 2 ≤ 0 ∧ -ret.toInt - 2 ≤ 0) ∧ Imp (-a.toInt + 3 ≤ 0) (ret.toInt + 2 ≤ 0 ∧ -ret.toInt - 2 ≤ 0) ∧ (WI σ ∧ BSET σ0 σ 162 a.toInt ∧ IMW σ0 σ a.toInt)
set_option maxRecDepth 10000 in
set_option maxHeartbeats 4000000 in
theorem c_248x (σ0 : SG) (hσ0 : WT σ0) (a : Int32) (hI : WI σ0) : En 1 25 none mr_248 (P_248x σ0 a) 0 [(0, .ref 159), (1, .int a)] [] σ0 := by
  have hF0 : Fr [(37, 0), (38, 0)] σ0 σ0 := Fr_rfl
  refine En_Ps 4 (pc' := 6) (lv' := [(0, .ref 159), (1, .int a)]) (st' := [.long ((2 : Int64)), .long ((Int64.ofNat 0)), .long a.toInt64]) rfl ?_
  have : a.toInt64.toInt = a.toInt := (i2lI rfl)
  have := (by decide : ((Int64.ofNat 0)).toInt = 0)
  have := (by decide : ((2 : Int64)).toInt = 2)
  refine En_callS rfl rfl rfl rfl rfl rfl rfl rfl rfl (c_249 σ0 hσ0 a.toInt64 ((Int64.ofNat 0)) ((2 : Int64))) (by decide) (by decide) (fun v2 σ3 h1 => ?_)
  obtain ⟨h4, h5, z7, rfl, h6⟩ := h1
  obtain rfl : σ0 = σ3 := Fr_nil h5
  refine En_iNe _ rfl rfl (fun h8 => ?_) (fun h8 => ?_)
  · refine En_Ps 2 (pc' := 17) (lv' := [(2, .int ((Int32.ofInt 0))), (0, .ref 159), (1, .int a)]) (st' := []) rfl ?_
    have key17 : ∀ (n17 : Nat) (σ10 : SG) (y9 : Int32), WT σ10 → Fr [(37, 0), (38, 0)] σ0 σ10 → 0 ≤ y9.toInt → y9.toInt ≤ 226 → -y9.toInt + 226 < (n17 : Int) → CPI σ0 σ10 a.toInt y9.toInt → SAMr σ0 σ10 162 → En 1 25 none mr_248 (P_248x σ0 a) 17 [(0, .ref 159), (1, .int a), (2, .int y9)] [] σ10 := by
      intro n17
      induction n17 with
      | zero =>
        intro σ10 y9 h11 h12 h13 h14 h15 h16 h17
        first | exact (q_93df7d31ea h15 h14).elim | (exfalso; omega)
      | succ n17 ih17 =>
        intro σ10 y9 h11 h12 h13 h14 h15 h16 h17
        refine En_Ps 2 (pc' := 21) (lv' := [(0, .ref 159), (1, .int a), (2, .int y9)]) (st' := [.int (((Int16.ofInt 226).toInt32)), .int y9]) rfl ?_
        refine En_icGe _ rfl (by decide : ((Int16.ofInt 226).toInt32).toInt = 226) rfl (fun h18 => ?_) (fun h18 => ?_)
        · refine En_Ps 1 (pc' := 49) (lv' := [(0, .ref 159), (1, .int a), (2, .int y9)]) (st' := [.ref 159]) rfl ?_
          refine En_getU (j := 3) (u := 162) (g' := 38) (q := 0) rfl rfl rfl tgz_159 (by decide +kernel) h11 (by decide +kernel) (by decide +kernel) (fun h19 => ?_)
          refine En_Ps 2 (pc' := 54) (lv' := [(0, .ref 159), (1, .int a), (2, .int y9)]) (st' := [.int ((Int32.ofInt 1)), .int a, .ref 162]) rfl ?_
          refine En_bast (l := 0) (u := 1) rfl rfl tgz_162 (by decide +kernel) (narZ (by decide : (Int32.ofInt 1).toInt = 1) (by omega) (by omega)) (by omega) (lnI (by decide +kernel : LN _ = 3) (by omega)) (FTsgl (by decide +kernel)) (rngI (by decide : (Int32.ofInt 1).toInt = 1) (by decide) (by decide)) h11 h12 (by decide +kernel) (fun σ21 h22 h23 h24 h25 => ?_)
          refine En_Ps 1 (pc' := 56) (lv' := [(0, .ref 159), (1, .int a), (2, .int y9)]) (st' := [.int ((Int32.ofInt 0))]) rfl ?_
          refine En_top (by decide : (Int32.ofInt 0).toInt = 0) (fun z26 h27 => ?_)
          exact En_ret (v := some (.int z26)) rfl rfl rfl ⟨h22, h23, z26, rfl, ⟨by first | exact q_bef0d034f7 h27 | omega, by first | exact q_c5d285f1b9 h27 | omega, fun hh => by first | exact ⟨q_c5d285f1b9 h27, q_097a37c2ae h27⟩ | omega, fun _ => by omega, fun _ => by omega, ⟨WI_nx h25 (by decide) (by decide) (CPI_x (W := []) h16 (by omega) (SWd_fr h12 (by decide +kernel)) (by omega) (by omega) hI), BSET_st h17 h24 h25 (by decide) (by omega), IMW_ok h16 (by omega) (by omega) (by omega) (SWd_fr h12 (by decide +kernel)) h25 (by decide)⟩⟩⟩
        · refine En_Ps 1 (pc' := 25) (lv' := [(0, .ref 159), (1, .int a), (2, .int y9)]) (st' := [.ref 159]) rfl ?_
          refine En_getU (j := 2) (u := 161) (g' := 37) (q := 0) rfl rfl rfl tgz_159 (by decide +kernel) h11 (by decide +kernel) (by decide +kernel) (fun h28 => ?_)
          refine En_Ps 3 (pc' := 33) (lv' := [(0, .ref 159), (1, .int a), (2, .int y9)]) (st' := [.int (((((Int16.ofInt 226).toInt32)) * a)), .ref 161]) rfl ?_
          refine En_top (mulI (by decide : ((Int16.ofInt 226).toInt32).toInt = 226) rfl (Z := 226 * a.toInt) (by first | exact q_97a90f3e95 | omega) (by omega) (by omega)) (fun z30 h31 => ?_)
          refine En_Ps 2 (pc' := 35) (lv' := [(0, .ref 159), (1, .int a), (2, .int y9)]) (st' := [.int ((z30 + y9)), .ref 161]) rfl ?_
          refine En_top (addI rfl rfl (by omega) (by omega)) (fun z32 h33 => ?_)
          refine En_Ps 1 (pc' := 36) (lv' := [(0, .ref 159), (1, .int a), (2, .int y9)]) (st' := [.ref 159, .int z32, .ref 161]) rfl ?_
          refine En_getU (j := 1) (u := 160) (g' := 36) (q := 0) rfl rfl rfl tgz_159 (by decide +kernel) h11 (by decide +kernel) (by decide +kernel) (fun h34 => ?_)
          refine En_Ps 1 (pc' := 40) (lv' := [(0, .ref 159), (1, .int a), (2, .int y9)]) (st' := [.int y9, .ref 160, .int z32, .ref 161]) rfl ?_
          refine En_ialdW (n := 226) rfl rfl tgz_160 (by decide +kernel) h11 (by omega) (by decide +kernel) (by omega) (by decide +kernel) (fun z36 h37 h38 => ?_)
          refine En_iastW (n := 678) rfl rfl tgz_161 (by decide +kernel) (by omega) (by decide +kernel) (by omega) (ft_wi h38 (by omega) (by omega) (k := a.toInt) (by omega) (by omega) (by omega)) h11 h12 (by decide +kernel) (fun σ39 h40 h41 h42 h43 => ?_)
          refine En_Ps 1 (pc' := 45) (lv' := [(2, .int ((y9 + Int32.ofInt 1))), (0, .ref 159), (1, .int a)]) (st' := []) rfl ?_
          refine En_lv1 (addI rfl (by decide : (Int32.ofInt 1).toInt = 1) (by first | exact q_465ab79ac1 h13 | omega) (by first | exact q_00ca1b1d9b h18 | omega)) (fun z44 h45 => ?_)
          refine En_Ps 1 (pc' := 17) (lv' := [(2, .int z44), (0, .ref 159), (1, .int a)]) (st' := []) rfl ?_
          refine En_lv (lv := [(0, .ref 159), (1, .int a), (2, .int z44)]) ⟨rfl, rfl, rfl, trivial⟩ ?_
          exact ih17 σ39 z44 h40 h41 (by first | exact q_35104ce9d3 h45 h13 | omega) (by first | exact q_5bd245720d h45 h18 | omega) (by first | exact q_6929b92474 h45 h15 | omega) (CPI_s h16 (SWd_fr h12 (by decide +kernel)) h37 h42 h43 (by omega) (by omega) (by omega) (by omega) (by omega)) (SAMr_st h17 h43 (by decide))
    have := (by decide : (Int32.ofInt 0).toInt = 0)
    refine En_lv (lv := [(0, .ref 159), (1, .int a), (2, .int ((Int32.ofInt 0)))]) ⟨rfl, rfl, rfl, trivial⟩ ?_
    exact key17 (Int.toNat (226) + 1) σ0 ((Int32.ofInt 0)) hσ0 hF0 (by decide) (by decide) (by first | exact toN_lt _ | omega) (CPI_0 (by decide)) (SAMr_0)
  · refine En_Ps 1 (pc' := 14) (lv' := [(0, .ref 159), (1, .int a)]) (st' := [.int (((Int8.ofInt (-2)).toInt32))]) rfl ?_
    refine En_top (by decide : ((Int8.ofInt (-2)).toInt32).toInt = -2) (fun z46 h47 => ?_)
    exact En_ret (v := some (.int z46)) rfl rfl rfl ⟨hσ0, hF0, z46, rfl, ⟨by first | exact q_f35c5d346c h47 | omega, by first | exact q_bbb39ffa1e h47 | omega, fun _ => by omega, fun hh => by first | exact ⟨q_535bc65891 h47, q_f35c5d346c h47⟩ | omega, fun hh => by first | exact ⟨q_535bc65891 h47, q_f35c5d346c h47⟩ | omega, ⟨hI, BSET_no SAMr_0 (by omega), IMW_no (by omega)⟩⟩⟩
/-- DoorSchoolModel.isFreshCopied(I)Z -/
abbrev P_257x (σ0 : SG) (a : Int32) : PO := fun v σ => WT σ ∧ Fr [] σ0 σ ∧ ∃ ret : Int32, v = some (.int ret) ∧ -ret.toInt ≤ 0 ∧ ret.toInt - 1 ≤ 0 ∧ Imp (ret.toInt - 1 ≤ 0 ∧ -ret.toInt + 1 ≤ 0) (-a.toInt - 1 ≤ 0 ∧ a.toInt - 3 ≤ 0) ∧ ret.toInt = cpI (ci σ0 165) a.toInt
set_option maxRecDepth 10000 in
set_option maxHeartbeats 4000000 in
theorem c_257x (σ0 : SG) (hσ0 : WT σ0) (a : Int32) : En 0 0 none mr_257 (P_257x σ0 a) 0 [(0, .ref 159), (1, .int a)] [] σ0 := by
  have hF0 : Fr [] σ0 σ0 := Fr_rfl
  refine En_Ps 2 (pc' := 2) (lv' := [(2, .int ((Int32.ofInt 0))), (0, .ref 159), (1, .int a)]) (st' := []) rfl ?_
  have key2 : ∀ (n2 : Nat) (y1 : Int32), 0 ≤ y1.toInt → y1.toInt ≤ 4 → -y1.toInt + 4 < (n2 : Int) → NCP σ0 a.toInt y1.toInt → En 0 0 none mr_257 (P_257x σ0 a) 2 [(0, .ref 159), (1, .int a), (2, .int y1)] [] σ0 := by
    intro n2
    induction n2 with
    | zero =>
      intro y1 h5 h6 h7 h8
      first | exact (q_20d6385c6f h7 h6).elim | (exfalso; omega)
    | succ n2 ih2 =>
      intro y1 h5 h6 h7 h8
      refine En_Ps 2 (pc' := 4) (lv' := [(0, .ref 159), (1, .int a), (2, .int y1)]) (st' := [.ref 159, .int y1]) rfl ?_
      refine En_getU (j := 14) (u := 165) (g' := 41) (q := 0) rfl rfl rfl tgz_159 (by decide +kernel) hσ0 (by decide +kernel) (by decide +kernel) (fun h9 => ?_)
      refine En_Ps 1 (pc' := 8) (lv' := [(0, .ref 159), (1, .int a), (2, .int y1)]) (st' := [.int ((Int32.ofInt 2)), .ref 165, .int y1]) rfl ?_
      refine En_iald (l := 0) (u := 4) rfl (by decide : (Int32.ofInt 2).toInt = 2) tgz_165 (by decide +kernel) hσ0 (by decide) (lnI (by decide +kernel : LN _ = 226) (by decide)) (by decide +kernel) (fun z12 h11 h13 h14 => ?_)
      refine En_icGe _ rfl rfl rfl (fun h15 => ?_) (fun h15 => ?_)
      · refine En_Ps 1 (pc' := 38) (lv' := [(0, .ref 159), (1, .int a), (2, .int y1)]) (st' := [.int ((Int32.ofInt 0))]) rfl ?_
        refine En_top (by decide : (Int32.ofInt 0).toInt = 0) (fun z16 h17 => ?_)
        exact En_ret (v := some (.int z16)) rfl rfl (retZ rfl rfl (by first | exact q_55451d0a83 h17 | omega) (by first | exact q_87849c3859 h17 | omega)) ⟨hσ0, hF0, z16, rfl, ⟨by first | exact q_097a37c2ae h17 | omega, by first | exact q_e269517bee h17 | omega, fun _ => by omega, CPI_n h11 h8 (by omega) (by omega) (by omega)⟩⟩
      · refine En_Ps 1 (pc' := 13) (lv' := [(0, .ref 159), (1, .int a), (2, .int y1)]) (st' := [.ref 159]) rfl ?_
        refine En_getK (j := 14) h9 rfl rfl rfl tgz_159 (by decide +kernel) ?_
        refine En_Ps 4 (pc' := 21) (lv' := [(0, .ref 159), (1, .int a), (2, .int y1)]) (st' := [.int ((((Int32.ofInt 4)) * y1)), .int (((Int8.ofInt 10).toInt32)), .ref 165]) rfl ?_
        refine En_top (mulI (by decide : (Int32.ofInt 4).toInt = 4) rfl (Z := 4 * y1.toInt) (by first | exact q_8696eb12a7 | omega) (by first | exact q_be45967ac2 h5 | omega) (by first | exact q_9034d5bea5 h15 h14 | omega)) (fun z18 h19 => ?_)
        refine En_Ps 1 (pc' := 22) (lv' := [(0, .ref 159), (1, .int a), (2, .int y1)]) (st' := [.int (((((Int8.ofInt 10).toInt32)) + z18)), .ref 165]) rfl ?_
        refine En_top (addI (by decide : ((Int8.ofInt 10).toInt32).toInt = 10) rfl (by first | exact q_7bfa00123f h19 h5 | omega) (by first | exact q_2a9137be5b h19 h15 h14 | omega)) (fun z20 h21 => ?_)
        refine En_Ps 2 (pc' := 24) (lv' := [(0, .ref 159), (1, .int a), (2, .int y1)]) (st' := [.int ((z20 + ((Int32.ofInt 3)))), .ref 165]) rfl ?_
        refine En_top (addI rfl (by decide : (Int32.ofInt 3).toInt = 3) (by first | exact q_5241e58928 h21 h19 h5 | omega) (by first | exact q_bca5aab8b6 h21 h19 h15 h14 | omega)) (fun z22 h23 => ?_)
        refine En_iald (l := (-1)) (u := 3) rfl rfl tgz_165 (by decide +kernel) hσ0 (by first | exact q_9dbe57618d h23 h21 h19 h5 | omega) (lnI (by decide +kernel : LN _ = 226) (by first | exact q_ee2e4d9aa5 h23 h21 h19 h15 h14 | omega)) (FTrow 41 13 4 4 (by decide +kernel) (by first | exact q_070b248188 h23 h21 h19 h5 | omega) (by first | exact q_ba7242fd91 h23 h21 h19 h15 h14 | omega) (by first | exact q_090c32d68c h19 h21 h23 | omega)) (fun z25 h24 h26 h27 => ?_)
        refine En_Ps 1 (pc' := 26) (lv' := [(0, .ref 159), (1, .int a), (2, .int y1)]) (st' := [.int a, .int z25]) rfl ?_
        refine En_icNe _ rfl rfl rfl (fun h28 => ?_) (fun h28 => ?_)
        · refine En_Ps 1 (pc' := 34) (lv' := [(2, .int ((y1 + Int32.ofInt 1))), (0, .ref 159), (1, .int a)]) (st' := []) rfl ?_
          refine En_lv1 (addI rfl (by decide : (Int32.ofInt 1).toInt = 1) (by first | exact q_465ab79ac1 h5 | omega) (by first | exact q_f7282962fd h6 | omega)) (fun z29 h30 => ?_)
          refine En_Ps 1 (pc' := 2) (lv' := [(2, .int z29), (0, .ref 159), (1, .int a)]) (st' := []) rfl ?_
          refine En_lv (lv := [(0, .ref 159), (1, .int a), (2, .int z29)]) ⟨rfl, rfl, rfl, trivial⟩ ?_
          exact ih2 z29 (by first | exact q_35104ce9d3 h30 h5 | omega) (by first | exact q_de42116b63 h30 h15 h14 | omega) (by first | exact q_3d8d70ace2 h30 h7 | omega) (NCP_s h8 h24 (by omega) (by omega) (by omega))
        · refine En_Ps 1 (pc' := 30) (lv' := [(0, .ref 159), (1, .int a), (2, .int y1)]) (st' := [.int ((Int32.ofInt 1))]) rfl ?_
          refine En_top (by decide : (Int32.ofInt 1).toInt = 1) (fun z31 h32 => ?_)
          exact En_ret (v := some (.int z31)) rfl rfl (retZ rfl rfl (by first | exact q_2b07c97645 h32 | omega) (by first | exact q_d9e7cbb253 h32 | omega)) ⟨hσ0, hF0, z31, rfl, ⟨by first | exact q_ad3eee31ca h32 | omega, by first | exact q_81cf297dc4 h32 | omega, fun hh => by first | exact ⟨q_0989a0d07f h28 h26, q_c3d83eb9e6 h28 h27⟩ | omega, CPI_1 (y := y1.toInt) h11 h24 (by omega) (by omega) (by omega) (by omega) (by omega) (by omega)⟩⟩
  have := (by decide : (Int32.ofInt 0).toInt = 0)
  refine En_lv (lv := [(0, .ref 159), (1, .int a), (2, .int ((Int32.ofInt 0)))]) ⟨rfl, rfl, rfl, trivial⟩ ?_
  exact key2 (Int.toNat (4) + 1) ((Int32.ofInt 0)) (by decide) (by decide) (by first | exact toN_lt _ | omega) (fun q q0 q1 => by omega)
/-- DoorSchoolModel.isNextIn(I)Z -/
abbrev P_260x (σ0 : SG) (a : Int32) (k : Int32) (t : Int32) (u : Int32) : PO := fun v σ => WT σ ∧ Fr [] σ0 σ ∧ ∃ ret : Int32, v = some (.int ret) ∧ -ret.toInt ≤ 0 ∧ ret.toInt - 1 ≤ 0 ∧ Imp (-ret.toInt + 1 ≤ 0) (k.toInt ≤ 0 ∧ t.toInt - 2 ≤ 0 ∧ -t.toInt + 2 ≤ 0 ∧ u.toInt - a.toInt + 1 ≤ 0) ∧ Imp (ret.toInt ≤ 0 ∧ k.toInt ≤ 0 ∧ t.toInt - 2 ≤ 0 ∧ -t.toInt + 2 ≤ 0) (a.toInt - u.toInt ≤ 0)
set_option maxRecDepth 10000 in
set_option maxHeartbeats 4000000 in
theorem c_260x (σ0 : SG) (hσ0 : WT σ0) (a : Int32) (k : Int32) (h_k : (σ0 159)[12]? = some (.int k)) (t : Int32) (h_t : (σ0 159)[10]? = some (.int t)) (u : Int32) (h_u : (σ0 159)[11]? = some (.int u)) : En 1 20 none mr_260 (P_260x σ0 a k t u) 0 [(0, .ref 159), (1, .int a)] [] σ0 := by
  obtain ⟨hl_k, hu_k⟩ := WT_int hσ0 (g := 35) (by decide +kernel) (by decide +kernel) (l := 0) (u := 3) (by decide +kernel) h_k
  obtain ⟨hl_t, hu_t⟩ := WT_int hσ0 (g := 35) (by decide +kernel) (by decide +kernel) (l := 0) (u := 4) (by decide +kernel) h_t
  obtain ⟨hl_u, hu_u⟩ := WT_int hσ0 (g := 35) (by decide +kernel) (by decide +kernel) (l := 0) (u := 99999) (by decide +kernel) h_u
  have hF0 : Fr [] σ0 σ0 := Fr_rfl
  refine En_Ps 1 (pc' := 1) (lv' := [(0, .ref 159), (1, .int a)]) (st' := [.ref 159]) rfl ?_
  refine En_callV rfl rfl rfl rfl rfl rfl rfl rfl tgz_159 (by decide +kernel) rfl (c_237 σ0 hσ0 k h_k) (by decide) (by decide) (fun v2 σ3 h1 => ?_)
  obtain ⟨h4, h5, z7, rfl, h6⟩ := h1
  obtain rfl : σ0 = σ3 := Fr_nil h5
  refine En_iEq _ rfl rfl (fun h8 => ?_) (fun h8 => ?_)
  · refine En_Ps 1 (pc' := 28) (lv' := [(0, .ref 159), (1, .int a)]) (st' := [.int ((Int32.ofInt 0))]) rfl ?_
    refine En_top (by decide : (Int32.ofInt 0).toInt = 0) (fun z9 h10 => ?_)
    exact En_ret (v := some (.int z9)) rfl rfl (retZ rfl rfl (by first | exact q_55451d0a83 h10 | omega) (by first | exact q_87849c3859 h10 | omega)) ⟨hσ0, hF0, z9, rfl, ⟨by first | exact q_097a37c2ae h10 | omega, by first | exact q_e269517bee h10 | omega, fun _ => by omega, fun _ => by omega⟩⟩
  · refine En_Ps 1 (pc' := 8) (lv' := [(0, .ref 159), (1, .int a)]) (st' := [.ref 159]) rfl ?_
    refine En_getK (j := 10) h_t rfl rfl rfl tgz_159 (by decide +kernel) ?_
    refine En_Ps 1 (pc' := 12) (lv' := [(0, .ref 159), (1, .int a)]) (st' := [.int ((Int32.ofInt 2)), .int t]) rfl ?_
    refine En_icNe _ rfl (by decide : (Int32.ofInt 2).toInt = 2) rfl (fun h11 => ?_) (fun h11 => ?_)
    · refine En_Ps 1 (pc' := 28) (lv' := [(0, .ref 159), (1, .int a)]) (st' := [.int ((Int32.ofInt 0))]) rfl ?_
      refine En_top (by decide : (Int32.ofInt 0).toInt = 0) (fun z12 h13 => ?_)
      exact En_ret (v := some (.int z12)) rfl rfl (retZ rfl rfl (by first | exact q_55451d0a83 h13 | omega) (by first | exact q_87849c3859 h13 | omega)) ⟨hσ0, hF0, z12, rfl, ⟨by first | exact q_097a37c2ae h13 | omega, by first | exact q_e269517bee h13 | omega, fun _ => by omega, fun _ => by omega⟩⟩
    · refine En_Ps 1 (pc' := 16) (lv' := [(0, .ref 159), (1, .int a)]) (st' := [.ref 159]) rfl ?_
      refine En_getK (j := 11) h_u rfl rfl rfl tgz_159 (by decide +kernel) ?_
      refine En_Ps 1 (pc' := 20) (lv' := [(0, .ref 159), (1, .int a)]) (st' := [.int a, .int u]) rfl ?_
      refine En_icGe _ rfl rfl rfl (fun h14 => ?_) (fun h14 => ?_)
      · refine En_Ps 1 (pc' := 28) (lv' := [(0, .ref 159), (1, .int a)]) (st' := [.int ((Int32.ofInt 0))]) rfl ?_
        refine En_top (by decide : (Int32.ofInt 0).toInt = 0) (fun z15 h16 => ?_)
        exact En_ret (v := some (.int z15)) rfl rfl (retZ rfl rfl (by first | exact q_55451d0a83 h16 | omega) (by first | exact q_87849c3859 h16 | omega)) ⟨hσ0, hF0, z15, rfl, ⟨by first | exact q_097a37c2ae h16 | omega, by first | exact q_e269517bee h16 | omega, fun _ => by omega, fun hh => by first | exact q_15b82e7ad8 h14 | omega⟩⟩
      · refine En_Ps 2 (pc' := 28) (lv' := [(0, .ref 159), (1, .int a)]) (st' := [.int ((Int32.ofInt 1))]) rfl ?_
        refine En_top (by decide : (Int32.ofInt 1).toInt = 1) (fun z17 h18 => ?_)
        exact En_ret (v := some (.int z17)) rfl rfl (retZ rfl rfl (by first | exact q_2b07c97645 h18 | omega) (by first | exact q_d9e7cbb253 h18 | omega)) ⟨hσ0, hF0, z17, rfl, ⟨by first | exact q_ad3eee31ca h18 | omega, by first | exact q_81cf297dc4 h18 | omega, fun _ => by omega, fun _ => by omega⟩⟩
/-- DoorSchoolModel.owns(II)I -/
abbrev P_296x (σ0 : SG) (a : Int32) (b : Int32) : PO := fun v σ => WT σ ∧ Fr [(36, 0)] σ0 σ ∧ ∃ ret : Int32, v = some (.int ret) ∧ -ret.toInt - 2 ≤ 0 ∧ ret.toInt - 65535 ≤ 0 ∧ (SAM (wf σ0) (wf σ) ∧ (∀ i : Int, 0 ≤ i → i < 226 → wf σ i = owW (wf σ0) a.toInt b.toInt i))
set_option maxRecDepth 10000 in
set_option maxHeartbeats 4000000 in
theorem c_296x (σ0 : SG) (hσ0 : WT σ0) (a : Int32) (b : Int32) : En 4 84 none mr_296 (P_296x σ0 a b) 0 [(0, .ref 159), (1, .int a), (2, .int b)] [] σ0 := by
  have hF0 : Fr [(36, 0)] σ0 σ0 := Fr_rfl
  refine En_Ps 3 (pc' := 3) (lv' := [(0, .ref 159), (1, .int a), (2, .int b)]) (st' := [.int b, .int a, .ref 159]) rfl ?_
  obtain ⟨z2, h1, h3, h4⟩ := WT_peekI hσ0 tgz_160 (by decide +kernel : FT 36 (0 : Int).toNat = (0, 0, 4)) (by decide +kernel)
  obtain ⟨z6, h5, h7, h8⟩ := WT_peekI hσ0 tgz_160 (by decide +kernel : FT 36 (7 : Int).toNat = (0, 0, 1600)) (by decide +kernel)
  refine En_callV rfl rfl rfl rfl rfl rfl rfl rfl tgz_159 (by decide +kernel) rfl (c_263x σ0 hσ0 a b z2 h1 z6 h5) (by decide) (by decide) (fun v10 σ11 h9 => ?_)
  obtain ⟨h12, h13, z15, rfl, h14⟩ := h9
  have h16 := h14.2.2.2
  obtain rfl : σ0 = σ11 := Fr_nil h13
  have h17 := h16
  have w18 : wf σ0 (0) = z2.toInt := ci_at h1 (by omega)
  have w19 : wf σ0 (7) = z6.toInt := ci_at h5 (by omega)
  have h20 : pI (wf σ0 0) = pI (z2.toInt) := by rw [w18]
  refine En_iNe _ rfl rfl (fun h21 => ?_) (fun h21 => ?_)
  · have h22 := Imp_m h14.2.2.1 (by first | exact ⟨q_ad5b726bf8 h14.2.1, q_e3350da514 h21 h14.1⟩ | omega)
    refine En_Ps 1 (pc' := 13) (lv' := [(0, .ref 159), (1, .int a), (2, .int b)]) (st' := [.ref 159]) rfl ?_
    refine En_callV rfl rfl rfl rfl rfl rfl rfl rfl tgz_159 (by decide +kernel) rfl (c_295 σ0 hσ0) (by decide) (by decide) (fun v24 σ25 h23 => ?_)
    obtain ⟨h26, h27, z29, rfl, h28⟩ := h23
    obtain rfl : σ0 = σ25 := Fr_nil h27
    refine En_Ps 2 (pc' := 18) (lv' := [(3, .int z29), (0, .ref 159), (1, .int a), (2, .int b)]) (st' := [.ref 159]) rfl ?_
    refine En_getU (j := 1) (u := 160) (g' := 36) (q := 0) rfl rfl rfl tgz_159 (by decide +kernel) hσ0 (by decide +kernel) (by decide +kernel) (fun h30 => ?_)
    refine En_Ps 2 (pc' := 24) (lv' := [(3, .int z29), (0, .ref 159), (1, .int a), (2, .int b)]) (st' := [.int a, .int (((Int8.ofInt 8).toInt32)), .ref 160]) rfl ?_
    refine En_iast (l := 0) (u := 15) rfl (by decide : ((Int8.ofInt 8).toInt32).toInt = 8) tgz_160 (by decide +kernel) (by decide) (lnI (by decide +kernel : LN _ = 226) (by decide)) (by decide +kernel) (rngI rfl (by first | exact q_ef1e8e38bf h22.1 | omega) (by first | exact q_5a5f544404 h22.2.1 | omega)) hσ0 hF0 (by decide +kernel) (fun σ32 h33 h34 h35 h36 => ?_)
    refine En_Ps 1 (pc' := 26) (lv' := [(3, .int z29), (0, .ref 159), (1, .int a), (2, .int b)]) (st' := [.ref 159]) rfl ?_
    refine En_getK (j := 1) ((h36 _ _ (Or.inl (neTG tgz_159 tgz_160 (by decide)))).trans h30) rfl rfl rfl tgz_159 (by decide +kernel) ?_
    refine En_Ps 2 (pc' := 32) (lv' := [(3, .int z29), (0, .ref 159), (1, .int a), (2, .int b)]) (st' := [.int b, .int (((Int8.ofInt 9).toInt32)), .ref 160]) rfl ?_
    refine En_iast (l := 0) (u := 15) rfl (by decide : ((Int8.ofInt 9).toInt32).toInt = 9) tgz_160 (by decide +kernel) (by decide) (lnI (by decide +kernel : LN _ = 226) (by decide)) (by decide +kernel) (rngI rfl (by first | exact q_ef1e8e38bf h22.2.2.1 | omega) (by first | exact q_5a5f544404 h22.2.2.2 | omega)) h33 h34 (by decide +kernel) (fun σ37 h38 h39 h40 h41 => ?_)
    refine En_Ps 1 (pc' := 34) (lv' := [(3, .int z29), (0, .ref 159), (1, .int a), (2, .int b)]) (st' := [.int z29]) rfl ?_
    exact En_ret (v := some (.int z29)) rfl rfl rfl ⟨h38, h39, z29, rfl, ⟨by first | exact q_70a249c7f8 h28.1 | omega, by first | exact q_ef123ba13c h28.2 | omega, ⟨fun i hi => (by rw [show wf _ i = ci _ 160 i from rfl, ci_st h40 h41 (by omega) i (by omega), if_neg (by omega), ci_st h35 h36 (by omega) i (by omega), if_neg (by omega)]; rfl), owM (fun i hi => (by rw [show wf _ i = ci _ 160 i from rfl, ci_st h40 h41 (by omega) i hi, ci_st h35 h36 (by omega) i hi]; rfl)) (by omega) (by omega) (by omega) rfl rfl⟩⟩⟩
  · refine En_Ps 1 (pc' := 11) (lv' := [(0, .ref 159), (1, .int a), (2, .int b)]) (st' := [.int (((Int8.ofInt (-2)).toInt32))]) rfl ?_
    refine En_top (by decide : ((Int8.ofInt (-2)).toInt32).toInt = -2) (fun z42 h43 => ?_)
    exact En_ret (v := some (.int z42)) rfl rfl rfl ⟨hσ0, hF0, z42, rfl, ⟨by first | exact q_f35c5d346c h43 | omega, by first | exact q_7aab8371ca h43 | omega, ⟨fun _ _ => rfl, owMn (by omega)⟩⟩⟩
/-- DoorSchoolModel.told(Ljava/lang/String;II)I -/
abbrev P_323gx (iL : Nat) (σ0 : SG) (By : Int → Int) (Nb : Int) (Sp : PS) (b : Int32) (c : Int32) (f : Int32) (k : Int32) : PO := fun v σ => WT σ ∧ Fr [(35, 8), (35, 9), (35, 10), (35, 11), (35, 12), (35, 13)] σ0 σ ∧ ∃ f1 : Int32, (σ 159)[8]? = some (.int f1) ∧ ∃ k1 : Int32, (σ 159)[12]? = some (.int k1) ∧ ∃ ret : Int32, v = some (.int ret) ∧ -ret.toInt ≤ 0 ∧ ret.toInt - 50 ≤ 0 ∧ -f1.toInt ≤ 0 ∧ f1.toInt - 1600 ≤ 0 ∧ -f1.toInt + f.toInt ≤ 0 ∧ -k1.toInt ≤ 0 ∧ k1.toInt - 3 ≤ 0 ∧ -k1.toInt + k.toInt ≤ 0 ∧ f.toInt - f1.toInt ≤ 0 ∧ Imp (b.toInt ≤ 0) (b.toInt - ret.toInt ≤ 0) ∧ Imp (-b.toInt ≤ 0) (-ret.toInt ≤ 0) ∧ Imp (-c.toInt ≤ 0) (ret.toInt - c.toInt ≤ 0) ∧ Imp (c.toInt ≤ 0) (ret.toInt ≤ 0) ∧ Imp (k1.toInt ≤ 0) (k.toInt ≤ 0 ∧ b.toInt - ret.toInt ≤ 0 ∧ ret.toInt - c.toInt ≤ 0) ∧ (ML By Nb σ (tN By Nb b.toInt c.toInt (pss By Nb (iW By Nb iL Sp) Sp)) ∧ ((tN By Nb b.toInt c.toInt (pss By Nb (iW By Nb iL Sp) Sp)).1 = 0 → ret.toInt = tV By Nb (pss By Nb (iW By Nb iL Sp) Sp).2.2.1))
set_option maxRecDepth 10000 in
set_option maxHeartbeats 4000000 in
theorem c_323gx (iL nL : Nat) (gn : (decide (iL < NSTR) && decide (LENS.getD iL 0 = nL)) = true) (gN : (Int32.ofNat nL).toInt = (nL : Int)) (gL : (LW iL).length = nL) (g1 : 1 ≤ nL) (g9 : nL ≤ 20) {By : Int → Int} {Nb : Int} {Sp : PS} (σ0 : SG) (hσ0 : WT σ0) (b : Int32) (c : Int32) (hl_b : 0 ≤ b.toInt) (hu_b : b.toInt ≤ 100) (hl_c : (-1) ≤ c.toInt) (hu_c : c.toInt ≤ 50) (f : Int32) (h_f : (σ0 159)[8]? = some (.int f)) (k : Int32) (h_k : (σ0 159)[12]? = some (.int k)) (hM : ML By Nb σ0 Sp) : En 7 156 none mr_323 (P_323gx iL σ0 By Nb Sp b c f k) 0 [(0, .ref 159), (1, .retAddr (2 * iL + 1)), (2, .int b), (3, .int c)] [] σ0 := by
  obtain ⟨hl_f, hu_f⟩ := WT_int hσ0 (g := 35) (by decide +kernel) (by decide +kernel) (l := 0) (u := 1600) (by decide +kernel) h_f
  obtain ⟨hl_k, hu_k⟩ := WT_int hσ0 (g := 35) (by decide +kernel) (by decide +kernel) (l := 0) (u := 3) (by decide +kernel) h_k
  have hF0 : Fr [(35, 8), (35, 9), (35, 10), (35, 11), (35, 12), (35, 13)] σ0 σ0 := Fr_rfl
  have h1 := ML_k hM h_k
  refine En_Ps 2 (pc' := 2) (lv' := [(0, .ref 159), (1, .retAddr (2 * iL + 1)), (2, .int b), (3, .int c)]) (st' := [.retAddr (2 * iL + 1), .ref 159]) rfl ?_
  refine En_callV rfl rfl rfl rfl rfl rfl rfl rfl tgz_159 (by decide +kernel) rfl (c_286gx iL nL gn gN gL g1 g9 σ0 hσ0 f h_f k h_k hM) (by decide) (by decide) (fun v3 σ4 h2 => ?_)
  obtain ⟨h5, h6, z8, h9, z10, h11, rfl, h7⟩ := h2
  have h12 := h7.2.2.2.2.2.2.2.2
  have h13 := Fr_trans hF0 h6 (by decide +kernel)
  obtain ⟨S14, h15⟩ : ∃ q : PS, q = pss By Nb (iW By Nb iL Sp) Sp := ⟨_, rfl⟩
  have h16 : ML By Nb σ4 S14 := by rw [h15]; exact h12
  have h17 := ML_k h16 h11
  refine En_Ps 3 (pc' := 8) (lv' := [(0, .ref 159), (1, .retAddr (2 * iL + 1)), (2, .int b), (3, .int c)]) (st' := [.int c, .int b, .ref 159]) rfl ?_
  obtain ⟨z19, h18, h20, h21⟩ := WT_peekI h5 tgz_159 (by decide +kernel : FT 35 10 = (0, 0, 4)) (by decide +kernel)
  obtain ⟨z23, h22, h24, h25⟩ := WT_peekI h5 tgz_159 (by decide +kernel : FT 35 11 = (0, 0, 99999)) (by decide +kernel)
  refine En_callV rfl rfl rfl rfl rfl rfl rfl rfl tgz_159 (by decide +kernel) rfl (c_288x σ4 h5 b c (geI rfl (by omega)) (leI rfl (by omega)) (geI rfl (by omega)) (leI rfl (by omega)) z8 h9 z10 h11 z19 h18 z23 h22 h16) (by decide) (by decide) (fun v27 σ28 h26 => ?_)
  obtain ⟨h29, h30, z32, h33, z34, h35, z36, rfl, h31⟩ := h26
  have h37 := h31.2.2.2.2.2.2.2.2.2.2.2.2.2.2.2.2
  have h38 := Fr_trans h13 h30 (by decide +kernel)
  have h39 : tN By Nb b.toInt c.toInt S14 = tN By Nb (b.toInt) (c.toInt) S14 := tN_cg2 (fun zz => by omega) (fun zz => by omega)
  obtain ⟨S40, h41⟩ : ∃ q : PS, q = tN By Nb (b.toInt) (c.toInt) S14 := ⟨_, rfl⟩
  have h42 : ML By Nb σ28 S40 := by rw [h41]; exact (ML_eq h37.1 h39)
  have h43 := ML_k h42 h35
  have h44 : Imp (S40.1 = 0) (z36.toInt = tV By Nb S14.2.2.1) := fun z => h37.2 (by rw [h39, ← h41]; exact z)
  have h45 : Imp (S40.1 = 0) (S14.1 = 0 ∧ tK By Nb S14.2.2.1 = 2 ∧ b.toInt ≤ tV By Nb S14.2.2.1 ∧ tV By Nb S14.2.2.1 ≤ c.toInt) := fun z => tN_gg (by rw [← h41]; exact z)
  have h46 : S40.2.2.2 = S14.2.2.2 := by rw [h41]; exact tN_w
  have h47 := Imp_m h31.2.2.2.2.2.2.2.2.2.2.2.2.1 (by omega)
  exact En_ret (v := some (.int z36)) rfl rfl rfl ⟨h29, h38, z32, h33, z34, h35, z36, rfl, ⟨by omega, by omega, by omega, by omega, by omega, by omega, by omega, by omega, by omega, fun _ => by omega, fun _ => by omega, fun _ => by have := Imp_m h31.2.2.2.2.2.2.2.2.2.2.2.2.2.1 (by omega); omega, fun _ => by have := Imp_m h31.2.2.2.2.2.2.2.2.2.2.2.2.2.2.1 (by omega); omega, fun _ => by have := Imp_m h7.2.2.2.2.2.2.2.1 (by omega); have := Imp_m h31.2.2.2.2.2.2.2.2.2.2.2.2.2.2.2.1 (by omega); have := Imp_m h31.2.2.2.2.2.2.2.2.2.2.2.2.2.1 (by omega); omega, (by subst h41; subst h15; exact ⟨h42, fun zz => by (try have i0 := Imp_m h45 (by omega)); (try have i1 := Imp_m h44 (by omega)); (try have i2 := Imp_m h7.2.2.2.2.2.2.2.1 (by omega)); (try have i3 := Imp_m h31.2.2.2.2.2.2.2.2.2.2.2.1 (by omega)); (try have i4 := Imp_m h31.2.2.2.2.2.2.2.2.2.2.2.2.2.1 (by omega)); (try have i5 := Imp_m h31.2.2.2.2.2.2.2.2.2.2.2.2.2.2.1 (by omega)); (try have i6 := Imp_m h31.2.2.2.2.2.2.2.2.2.2.2.2.2.2.2.1 (by omega)); omega⟩)⟩⟩
/-- DoorSchoolModel.told(Ljava/lang/String;II)I -/
abbrev P_323s13x (σ0 : SG) (By : Int → Int) (Nb : Int) (Sp : PS) (b : Int32) (c : Int32) (f : Int32) (k : Int32) : PO := fun v σ => WT σ ∧ Fr [(35, 8), (35, 9), (35, 10), (35, 11), (35, 12), (35, 13)] σ0 σ ∧ ∃ f1 : Int32, (σ 159)[8]? = some (.int f1) ∧ ∃ k1 : Int32, (σ 159)[12]? = some (.int k1) ∧ ∃ ret : Int32, v = some (.int ret) ∧ -ret.toInt ≤ 0 ∧ ret.toInt - 50 ≤ 0 ∧ -f1.toInt ≤ 0 ∧ f1.toInt - 1600 ≤ 0 ∧ -f1.toInt + f.toInt ≤ 0 ∧ -k1.toInt ≤ 0 ∧ k1.toInt - 3 ≤ 0 ∧ -k1.toInt + k.toInt ≤ 0 ∧ f.toInt - f1.toInt ≤ 0 ∧ Imp (b.toInt ≤ 0) (b.toInt - ret.toInt ≤ 0) ∧ Imp (-b.toInt ≤ 0) (-ret.toInt ≤ 0) ∧ Imp (-c.toInt ≤ 0) (ret.toInt - c.toInt ≤ 0) ∧ Imp (c.toInt ≤ 0) (ret.toInt ≤ 0) ∧ Imp (k1.toInt ≤ 0) (k.toInt ≤ 0 ∧ b.toInt - ret.toInt ≤ 0 ∧ ret.toInt - c.toInt ≤ 0) ∧ (ML By Nb σ (tN By Nb b.toInt c.toInt (pss By Nb (iW By Nb 13 Sp) Sp)) ∧ ((tN By Nb b.toInt c.toInt (pss By Nb (iW By Nb 13 Sp) Sp)).1 = 0 → ret.toInt = tV By Nb (pss By Nb (iW By Nb 13 Sp) Sp).2.2.1))
set_option maxRecDepth 10000 in
set_option maxHeartbeats 4000000 in
theorem c_323s13x {By : Int → Int} {Nb : Int} {Sp : PS} (σ0 : SG) (hσ0 : WT σ0) (b : Int32) (c : Int32) (hl_b : 0 ≤ b.toInt) (hu_b : b.toInt ≤ 100) (hl_c : (-1) ≤ c.toInt) (hu_c : c.toInt ≤ 50) (f : Int32) (h_f : (σ0 159)[8]? = some (.int f)) (k : Int32) (h_k : (σ0 159)[12]? = some (.int k)) (hM : ML By Nb σ0 Sp) : En 7 156 none mr_323 (P_323s13x σ0 By Nb Sp b c f k) 0 [(0, .ref 159), (1, .retAddr 27), (2, .int b), (3, .int c)] [] σ0 := c_323gx 13 5 (by decide) (by decide) (by decide) (by decide) (by decide) σ0 hσ0 b c hl_b hu_b hl_c hu_c f h_f k h_k hM
/-- DoorSchoolModel.told(Ljava/lang/String;II)I -/
abbrev P_323s14x (σ0 : SG) (By : Int → Int) (Nb : Int) (Sp : PS) (b : Int32) (c : Int32) (f : Int32) (k : Int32) : PO := fun v σ => WT σ ∧ Fr [(35, 8), (35, 9), (35, 10), (35, 11), (35, 12), (35, 13)] σ0 σ ∧ ∃ f1 : Int32, (σ 159)[8]? = some (.int f1) ∧ ∃ k1 : Int32, (σ 159)[12]? = some (.int k1) ∧ ∃ ret : Int32, v = some (.int ret) ∧ -ret.toInt ≤ 0 ∧ ret.toInt - 50 ≤ 0 ∧ -f1.toInt ≤ 0 ∧ f1.toInt - 1600 ≤ 0 ∧ -f1.toInt + f.toInt ≤ 0 ∧ -k1.toInt ≤ 0 ∧ k1.toInt - 3 ≤ 0 ∧ -k1.toInt + k.toInt ≤ 0 ∧ f.toInt - f1.toInt ≤ 0 ∧ Imp (b.toInt ≤ 0) (b.toInt - ret.toInt ≤ 0) ∧ Imp (-b.toInt ≤ 0) (-ret.toInt ≤ 0) ∧ Imp (-c.toInt ≤ 0) (ret.toInt - c.toInt ≤ 0) ∧ Imp (c.toInt ≤ 0) (ret.toInt ≤ 0) ∧ Imp (k1.toInt ≤ 0) (k.toInt ≤ 0 ∧ b.toInt - ret.toInt ≤ 0 ∧ ret.toInt - c.toInt ≤ 0) ∧ (ML By Nb σ (tN By Nb b.toInt c.toInt (pss By Nb (iW By Nb 14 Sp) Sp)) ∧ ((tN By Nb b.toInt c.toInt (pss By Nb (iW By Nb 14 Sp) Sp)).1 = 0 → ret.toInt = tV By Nb (pss By Nb (iW By Nb 14 Sp) Sp).2.2.1))
set_option maxRecDepth 10000 in
set_option maxHeartbeats 4000000 in
theorem c_323s14x {By : Int → Int} {Nb : Int} {Sp : PS} (σ0 : SG) (hσ0 : WT σ0) (b : Int32) (c : Int32) (hl_b : 0 ≤ b.toInt) (hu_b : b.toInt ≤ 100) (hl_c : (-1) ≤ c.toInt) (hu_c : c.toInt ≤ 50) (f : Int32) (h_f : (σ0 159)[8]? = some (.int f)) (k : Int32) (h_k : (σ0 159)[12]? = some (.int k)) (hM : ML By Nb σ0 Sp) : En 7 156 none mr_323 (P_323s14x σ0 By Nb Sp b c f k) 0 [(0, .ref 159), (1, .retAddr 29), (2, .int b), (3, .int c)] [] σ0 := c_323gx 14 5 (by decide) (by decide) (by decide) (by decide) (by decide) σ0 hσ0 b c hl_b hu_b hl_c hu_c f h_f k h_k hM
/-- DoorSchoolModel.told(Ljava/lang/String;II)I -/
abbrev P_323s15x (σ0 : SG) (By : Int → Int) (Nb : Int) (Sp : PS) (b : Int32) (c : Int32) (f : Int32) (k : Int32) : PO := fun v σ => WT σ ∧ Fr [(35, 8), (35, 9), (35, 10), (35, 11), (35, 12), (35, 13)] σ0 σ ∧ ∃ f1 : Int32, (σ 159)[8]? = some (.int f1) ∧ ∃ k1 : Int32, (σ 159)[12]? = some (.int k1) ∧ ∃ ret : Int32, v = some (.int ret) ∧ -ret.toInt ≤ 0 ∧ ret.toInt - 50 ≤ 0 ∧ -f1.toInt ≤ 0 ∧ f1.toInt - 1600 ≤ 0 ∧ -f1.toInt + f.toInt ≤ 0 ∧ -k1.toInt ≤ 0 ∧ k1.toInt - 3 ≤ 0 ∧ -k1.toInt + k.toInt ≤ 0 ∧ f.toInt - f1.toInt ≤ 0 ∧ Imp (b.toInt ≤ 0) (b.toInt - ret.toInt ≤ 0) ∧ Imp (-b.toInt ≤ 0) (-ret.toInt ≤ 0) ∧ Imp (-c.toInt ≤ 0) (ret.toInt - c.toInt ≤ 0) ∧ Imp (c.toInt ≤ 0) (ret.toInt ≤ 0) ∧ Imp (k1.toInt ≤ 0) (k.toInt ≤ 0 ∧ b.toInt - ret.toInt ≤ 0 ∧ ret.toInt - c.toInt ≤ 0) ∧ (ML By Nb σ (tN By Nb b.toInt c.toInt (pss By Nb (iW By Nb 15 Sp) Sp)) ∧ ((tN By Nb b.toInt c.toInt (pss By Nb (iW By Nb 15 Sp) Sp)).1 = 0 → ret.toInt = tV By Nb (pss By Nb (iW By Nb 15 Sp) Sp).2.2.1))
set_option maxRecDepth 10000 in
set_option maxHeartbeats 4000000 in
theorem c_323s15x {By : Int → Int} {Nb : Int} {Sp : PS} (σ0 : SG) (hσ0 : WT σ0) (b : Int32) (c : Int32) (hl_b : 0 ≤ b.toInt) (hu_b : b.toInt ≤ 100) (hl_c : (-1) ≤ c.toInt) (hu_c : c.toInt ≤ 50) (f : Int32) (h_f : (σ0 159)[8]? = some (.int f)) (k : Int32) (h_k : (σ0 159)[12]? = some (.int k)) (hM : ML By Nb σ0 Sp) : En 7 156 none mr_323 (P_323s15x σ0 By Nb Sp b c f k) 0 [(0, .ref 159), (1, .retAddr 31), (2, .int b), (3, .int c)] [] σ0 := c_323gx 15 5 (by decide) (by decide) (by decide) (by decide) (by decide) σ0 hσ0 b c hl_b hu_b hl_c hu_c f h_f k h_k hM
/-- DoorSchoolModel.told(Ljava/lang/String;II)I -/
abbrev P_323s16x (σ0 : SG) (By : Int → Int) (Nb : Int) (Sp : PS) (b : Int32) (c : Int32) (f : Int32) (k : Int32) : PO := fun v σ => WT σ ∧ Fr [(35, 8), (35, 9), (35, 10), (35, 11), (35, 12), (35, 13)] σ0 σ ∧ ∃ f1 : Int32, (σ 159)[8]? = some (.int f1) ∧ ∃ k1 : Int32, (σ 159)[12]? = some (.int k1) ∧ ∃ ret : Int32, v = some (.int ret) ∧ -ret.toInt ≤ 0 ∧ ret.toInt - 50 ≤ 0 ∧ -f1.toInt ≤ 0 ∧ f1.toInt - 1600 ≤ 0 ∧ -f1.toInt + f.toInt ≤ 0 ∧ -k1.toInt ≤ 0 ∧ k1.toInt - 3 ≤ 0 ∧ -k1.toInt + k.toInt ≤ 0 ∧ f.toInt - f1.toInt ≤ 0 ∧ Imp (b.toInt ≤ 0) (b.toInt - ret.toInt ≤ 0) ∧ Imp (-b.toInt ≤ 0) (-ret.toInt ≤ 0) ∧ Imp (-c.toInt ≤ 0) (ret.toInt - c.toInt ≤ 0) ∧ Imp (c.toInt ≤ 0) (ret.toInt ≤ 0) ∧ Imp (k1.toInt ≤ 0) (k.toInt ≤ 0 ∧ b.toInt - ret.toInt ≤ 0 ∧ ret.toInt - c.toInt ≤ 0) ∧ (ML By Nb σ (tN By Nb b.toInt c.toInt (pss By Nb (iW By Nb 16 Sp) Sp)) ∧ ((tN By Nb b.toInt c.toInt (pss By Nb (iW By Nb 16 Sp) Sp)).1 = 0 → ret.toInt = tV By Nb (pss By Nb (iW By Nb 16 Sp) Sp).2.2.1))
set_option maxRecDepth 10000 in
set_option maxHeartbeats 4000000 in
theorem c_323s16x {By : Int → Int} {Nb : Int} {Sp : PS} (σ0 : SG) (hσ0 : WT σ0) (b : Int32) (c : Int32) (hl_b : 0 ≤ b.toInt) (hu_b : b.toInt ≤ 100) (hl_c : (-1) ≤ c.toInt) (hu_c : c.toInt ≤ 50) (f : Int32) (h_f : (σ0 159)[8]? = some (.int f)) (k : Int32) (h_k : (σ0 159)[12]? = some (.int k)) (hM : ML By Nb σ0 Sp) : En 7 156 none mr_323 (P_323s16x σ0 By Nb Sp b c f k) 0 [(0, .ref 159), (1, .retAddr 33), (2, .int b), (3, .int c)] [] σ0 := c_323gx 16 8 (by decide) (by decide) (by decide) (by decide) (by decide) σ0 hσ0 b c hl_b hu_b hl_c hu_c f h_f k h_k hM
/-- DoorSchoolModel.readDoor()V -/
abbrev P_299x (σ0 : SG) (By : Int → Int) (Nb : Int) (Sp : PS) (f : Int32) (k : Int32) (nd : Int32) : PO := fun v σ => WT σ ∧ Fr [(35, 8), (35, 9), (35, 10), (35, 11), (35, 12), (35, 13), (41, 0)] σ0 σ ∧ ∃ f1 : Int32, (σ 159)[8]? = some (.int f1) ∧ ∃ k1 : Int32, (σ 159)[12]? = some (.int k1) ∧ v = none ∧ -f1.toInt ≤ 0 ∧ f1.toInt - 1600 ≤ 0 ∧ -f1.toInt + f.toInt ≤ 0 ∧ -k1.toInt ≤ 0 ∧ k1.toInt - 3 ≤ 0 ∧ -k1.toInt + k.toInt ≤ 0 ∧ f.toInt - f1.toInt ≤ 0 ∧ Imp (k1.toInt ≤ 0) (k.toInt ≤ 0) ∧ (KF σ0 σ ∧ ML By Nb σ (gDoor By Nb Sp))
set_option maxRecDepth 10000 in
set_option maxHeartbeats 4000000 in
theorem c_299x {By : Int → Int} {Nb : Int} {Sp : PS} (σ0 : SG) (hσ0 : WT σ0) (f : Int32) (h_f : (σ0 159)[8]? = some (.int f)) (k : Int32) (h_k : (σ0 159)[12]? = some (.int k)) (nd : Int32) (h_nd : (σ0 165)[(2 : Int).toNat]? = some (.int nd)) (hp0 : nd.toInt - 3 ≤ 0) (hM : ML By Nb σ0 Sp) (hg : Sp.1 = 0) : En 8 179 none mr_299 (P_299x σ0 By Nb Sp f k nd) 0 [(0, .ref 159)] [] σ0 := by
  obtain ⟨hl_f, hu_f⟩ := WT_int hσ0 (g := 35) (by decide +kernel) (by decide +kernel) (l := 0) (u := 1600) (by decide +kernel) h_f
  obtain ⟨hl_k, hu_k⟩ := WT_int hσ0 (g := 35) (by decide +kernel) (by decide +kernel) (l := 0) (u := 3) (by decide +kernel) h_k
  obtain ⟨hl_nd, hu_nd⟩ := WT_int hσ0 (g := 41) (by decide +kernel) (by decide +kernel) (l := 0) (u := 4) (by decide +kernel) h_nd
  have hF0 : Fr [(35, 8), (35, 9), (35, 10), (35, 11), (35, 12), (35, 13), (41, 0)] σ0 σ0 := Fr_rfl
  have h1 := ML_k hM h_k
  have h2 := ML_w hM hg h_nd (by omega) (by omega)
  refine En_Ps 3 (pc' := 4) (lv' := [(0, .ref 159)]) (st' := [.ref 159, .int ((Int32.ofInt 4)), .int (((Int8.ofInt 10).toInt32))]) rfl ?_
  refine En_getU (j := 14) (u := 165) (g' := 41) (q := 0) rfl rfl rfl tgz_159 (by decide +kernel) hσ0 (by decide +kernel) (by decide +kernel) (fun h3 => ?_)
  refine En_Ps 1 (pc' := 8) (lv' := [(0, .ref 159)]) (st' := [.int ((Int32.ofInt 2)), .ref 165, .int ((Int32.ofInt 4)), .int (((Int8.ofInt 10).toInt32))]) rfl ?_
  refine En_ialdK h_nd rfl (by decide : (Int32.ofInt 2).toInt = 2) tgz_165 (by decide +kernel) hσ0 (by decide) (lnI (by decide +kernel : LN _ = 226) (by decide)) ?_
  refine En_Ps 1 (pc' := 10) (lv' := [(0, .ref 159)]) (st' := [.int ((((Int32.ofInt 4)) * nd)), .int (((Int8.ofInt 10).toInt32))]) rfl ?_
  refine En_top (mulI (by decide : (Int32.ofInt 4).toInt = 4) rfl (Z := 4 * nd.toInt) (by first | exact q_8696eb12a7 | omega) (by first | exact q_be45967ac2 hl_nd | omega) (by first | exact q_41f7b53c7b hp0 | omega)) (fun z6 h7 => ?_)
  refine En_Ps 1 (pc' := 11) (lv' := [(0, .ref 159)]) (st' := [.int (((((Int8.ofInt 10).toInt32)) + z6))]) rfl ?_
  refine En_top (addI (by decide : ((Int8.ofInt 10).toInt32).toInt = 10) rfl (by first | exact q_7bfa00123f h7 hl_nd | omega) (by first | exact q_a79f4a765e h7 hp0 | omega)) (fun z8 h9 => ?_)
  refine En_Ps 2 (pc' := 13) (lv' := [(1, .int z8), (0, .ref 159)]) (st' := [.ref 159]) rfl ?_
  refine En_ldcS (i := 4) rfl rfl rfl ?_
  refine En_callV rfl rfl rfl rfl rfl rfl rfl rfl tgz_159 (by decide +kernel) rfl (c_318s4x σ0 hσ0 f h_f hM) (by decide) (by decide) (fun v11 σ12 h10 => ?_)
  obtain ⟨h13, h14, z16, h17, z18, rfl, h15⟩ := h10
  have h19 := h15.2.2.2.2.2.2
  have h20 := Fr_trans hF0 h14 (by decide +kernel)
  have h21 := KF_fr (KF_0 (σ := σ0)) h14 (by decide +kernel)
  have h22 := h19.2.1
  refine En_iEq _ rfl rfl (fun h23 => ?_) (fun h23 => ?_)
  · obtain rfl : σ0 = σ12 := h19.1 (by omega)
    refine En_Ps 1 (pc' := 34) (lv' := [(1, .int z8), (0, .ref 159)]) (st' := [.ref 159]) rfl ?_
    refine En_ldcS (i := 11) rfl rfl rfl ?_
    refine En_callV rfl rfl rfl rfl rfl rfl rfl rfl tgz_159 (by decide +kernel) rfl (c_318s11x σ0 hσ0 f h_f hM) (by decide) (by decide) (fun v25 σ26 h24 => ?_)
    obtain ⟨h27, h28, z30, h31, z32, rfl, h29⟩ := h24
    have h33 := h29.2.2.2.2.2.2
    have h34 := Fr_trans hF0 h28 (by decide +kernel)
    have h35 := KF_fr KF_0 h28 (by decide +kernel)
    have h36 := h33.2.1
    refine En_iEq _ rfl rfl (fun h37 => ?_) (fun h37 => ?_)
    · obtain rfl : σ0 = σ26 := h33.1 (by omega)
      refine En_Ps 1 (pc' := 55) (lv' := [(1, .int z8), (0, .ref 159)]) (st' := [.ref 159]) rfl ?_
      refine En_ldcS (i := 7) rfl rfl rfl ?_
      refine En_callV rfl rfl rfl rfl rfl rfl rfl rfl tgz_159 (by decide +kernel) rfl (c_286s7x σ0 hσ0 f h_f k h_k hM) (by decide) (by decide) (fun v39 σ40 h38 => ?_)
      obtain ⟨h41, h42, z44, h45, z46, h47, rfl, h43⟩ := h38
      have h48 := h43.2.2.2.2.2.2.2.2
      have h49 := Fr_trans hF0 h42 (by decide +kernel)
      have h50 := KF_fr KF_0 h42 (by decide +kernel)
      obtain ⟨S51, h52⟩ : ∃ q : PS, q = pss By Nb (iW By Nb 7 Sp) Sp := ⟨_, rfl⟩
      have h53 : ML By Nb σ40 S51 := by rw [h52]; exact h48
      have h54 := ML_k h53 h47
      refine En_Ps 1 (pc' := 61) (lv' := [(1, .int z8), (0, .ref 159)]) (st' := [.ref 159]) rfl ?_
      refine En_getK (j := 14) ((h42 _ _ (inW tgz_159 (by decide +kernel))).trans h3) rfl rfl rfl tgz_159 (by decide +kernel) ?_
      refine En_Ps 3 (pc' := 67) (lv' := [(1, .int z8), (0, .ref 159)]) (st' := [.int ((z8 + ((Int32.ofInt 0)))), .ref 165]) rfl ?_
      refine En_top (addI rfl (by decide : (Int32.ofInt 0).toInt = 0) (by first | exact q_99c3430a84 h9 h7 hl_nd | omega) (by first | exact q_f785fd662a h9 h7 hp0 | omega)) (fun z55 h56 => ?_)
      refine En_Ps 1 (pc' := 68) (lv' := [(1, .int z8), (0, .ref 159)]) (st' := [.int ((Int32.ofInt 2)), .int z55, .ref 165]) rfl ?_
      refine En_iast (l := 0) (u := 2) rfl rfl tgz_165 (by decide +kernel) (by first | exact q_0793c979f4 h56 h9 h7 hl_nd | omega) (lnI (by decide +kernel : LN _ = 226) (by first | exact q_423028a55f h56 h9 h7 hp0 | omega)) (FTrow 41 10 4 4 (by decide +kernel) (by first | exact q_98dc022afd h56 h9 h7 hl_nd | omega) (by first | exact q_1d408c2e08 h56 h9 h7 hp0 | omega) (by first | exact q_ff09f1b6e5 h7 h9 h56 | omega)) (rngI (by decide : (Int32.ofInt 2).toInt = 2) (by decide) (by decide)) h41 h49 (by decide +kernel) (fun σ57 h58 h59 h60 h61 => ?_)
      have h62 := KF_st h50 (J := z55.toInt) h61 (by omega) (by omega)
      have : ((Int32.ofInt 2)).toInt = 2 := (by decide : (Int32.ofInt 2).toInt = 2)
      obtain ⟨S63, h64⟩ : ∃ q : PS, q = wst S51 (10 + 4 * Sp.2.2.2 2) (2) := ⟨_, rfl⟩
      have h65 : ML By Nb σ57 S63 := by rw [h64]; exact (ML_wst (i := 10 + 4 * Sp.2.2.2 2) (v := 2) h53 h60 h61 (by omega) (fun z => by exact ⟨by omega, by omega⟩))
      have h66 := ML_k h65 ((h61 _ _ (Or.inl (neTG tgz_159 tgz_165 (by decide)))).trans h47)
      have h67 : S63.1 = S51.1 := by rw [h64]; rfl
      have h68 : gWay By Nb Sp = S63 := by rw [h64, h52]; unfold gWay; (repeat' split) <;> first | rfl | (exfalso; omega) | ((try have i0 := Imp_m h43.2.2.2.2.2.2.2.1 (by omega)); exfalso; omega)
      refine En_Ps 1 (pc' := 70) (lv' := [(1, .int z8), (0, .ref 159)]) (st' := [.ref 159]) rfl ?_
      refine En_getK (j := 14) ((h61 _ _ (Or.inl (neTG tgz_159 tgz_165 (by decide)))).trans ((h42 _ _ (inW tgz_159 (by decide +kernel))).trans h3)) rfl rfl rfl tgz_159 (by decide +kernel) ?_
      refine En_Ps 3 (pc' := 76) (lv' := [(1, .int z8), (0, .ref 159)]) (st' := [.int ((z8 + ((Int32.ofInt 1)))), .ref 165]) rfl ?_
      refine En_top (addI rfl (by decide : (Int32.ofInt 1).toInt = 1) (by first | exact q_3c9a54fe80 h9 h7 hl_nd | omega) (by first | exact q_0d21366f43 h9 h7 hp0 | omega)) (fun z69 h70 => ?_)
      refine En_Ps 1 (pc' := 77) (lv' := [(1, .int z8), (0, .ref 159)]) (st' := [.ref 159, .int z69, .ref 165]) rfl ?_
      refine En_ldcS (i := 14) rfl rfl rfl ?_
      refine En_Ps 2 (pc' := 82) (lv' := [(1, .int z8), (0, .ref 159)]) (st' := [.int (((Int8.ofInt 50).toInt32)), .int ((Int32.ofInt 0)), .retAddr 29, .ref 159, .int z69, .ref 165]) rfl ?_
      have := (by decide : ((Int32.ofInt 0)).toInt = 0)
      have := (by decide : (((Int8.ofInt 50).toInt32)).toInt = 50)
      refine En_callV rfl rfl rfl rfl rfl rfl rfl rfl tgz_159 (by decide +kernel) rfl (c_323s14x σ57 h58 ((Int32.ofInt 0)) (((Int8.ofInt 50).toInt32)) (geI (by decide : (Int32.ofInt 0).toInt = 0) (by decide)) (leI (by decide : (Int32.ofInt 0).toInt = 0) (by decide)) (geI (by decide : ((Int8.ofInt 50).toInt32).toInt = 50) (by decide)) (leI (by decide : ((Int8.ofInt 50).toInt32).toInt = 50) (by decide)) z44 ((h61 _ _ (Or.inl (neTG tgz_159 tgz_165 (by decide)))).trans h45) z46 ((h61 _ _ (Or.inl (neTG tgz_159 tgz_165 (by decide)))).trans h47) h65) (by decide) (by decide) (fun v72 σ73 h71 => ?_)
      obtain ⟨h74, h75, z77, h78, z79, h80, z81, rfl, h76⟩ := h71
      have h82 := h76.2.2.2.2.2.2.2.2.2.2.2.2.2.2
      have h83 := Fr_trans h59 h75 (by decide +kernel)
      have h84 := KF_fr h62 h75 (by decide +kernel)
      obtain ⟨S85, h86⟩ : ∃ q : PS, q = pss By Nb (iW By Nb 14 S63) S63 := ⟨_, rfl⟩
      have h87 : tN By Nb ((Int32.ofInt 0)).toInt (((Int8.ofInt 50).toInt32)).toInt (pss By Nb (iW By Nb 14 S63) S63) = tN By Nb (0) (50) S85 := by rw [h86]; exact tN_cg2 (fun _ => by omega) (fun _ => by omega)
      obtain ⟨S88, h89⟩ : ∃ q : PS, q = tN By Nb (0) (50) S85 := ⟨_, rfl⟩
      have h90 : ML By Nb σ73 S88 := by rw [h89]; exact (ML_eq h82.1 h87)
      have h91 := ML_k h90 h80
      have h92 : Imp (S88.1 = 0) (z81.toInt = tV By Nb S85.2.2.1) := fun z => by rw [h86]; exact h82.2 (by rw [h87, ← h89]; exact z)
      have h93 := Imp_m h76.2.2.2.2.2.2.2.2.2.1 (by omega)
      have h94 := Imp_m h76.2.2.2.2.2.2.2.2.2.2.1 (by omega)
      have h95 := Imp_m h76.2.2.2.2.2.2.2.2.2.2.2.1 (by omega)
      refine En_iast (l := 0) (u := 50) rfl rfl tgz_165 (by decide +kernel) (by first | exact q_318b2093b5 h70 h9 h7 hl_nd | omega) (lnI (by decide +kernel : LN _ = 226) (by first | exact q_8969c16c6c h70 h9 h7 hp0 | omega)) (FTrow 41 11 4 4 (by decide +kernel) (by first | exact q_446547a38e h70 h9 h7 hl_nd | omega) (by first | exact q_34d6f29e0f h70 h9 h7 hp0 | omega) (by first | exact q_85b5c85b1c h7 h9 h70 | omega)) (rngI rfl (by first | exact q_ef1e8e38bf h76.1 | omega) (by first | exact q_ea6a9ad4e1 h76.2.1 | omega)) h74 h83 (by decide +kernel) (fun σ96 h97 h98 h99 h100 => ?_)
      have h101 := KF_st h84 (J := z69.toInt) h100 (by omega) (by omega)
      obtain ⟨S102, h103⟩ : ∃ q : PS, q = wst S88 (10 + 4 * Sp.2.2.2 2 + 1) ((tV By Nb S85.2.2.1)) := ⟨_, rfl⟩
      have h104 : ML By Nb σ96 S102 := by rw [h103]; exact (ML_wst (i := 10 + 4 * Sp.2.2.2 2 + 1) (v := (tV By Nb S85.2.2.1)) h90 h99 h100 (by omega) (fun z => by have j1 := Imp_m h92 z; exact ⟨by omega, by omega⟩))
      have h105 := ML_k h104 ((h100 _ _ (Or.inl (neTG tgz_159 tgz_165 (by decide)))).trans h80)
      have h106 : S102.1 = S88.1 := by rw [h103]; rfl
      refine En_Ps 1 (pc' := 87) (lv' := [(1, .int z8), (0, .ref 159)]) (st' := [.ref 159]) rfl ?_
      refine En_getK (j := 14) ((h100 _ _ (Or.inl (neTG tgz_159 tgz_165 (by decide)))).trans ((h75 _ _ (inW tgz_159 (by decide +kernel))).trans ((h61 _ _ (Or.inl (neTG tgz_159 tgz_165 (by decide)))).trans ((h42 _ _ (inW tgz_159 (by decide +kernel))).trans h3)))) rfl rfl rfl tgz_159 (by decide +kernel) ?_
      refine En_Ps 3 (pc' := 93) (lv' := [(1, .int z8), (0, .ref 159)]) (st' := [.int ((z8 + ((Int32.ofInt 2)))), .ref 165]) rfl ?_
      refine En_top (addI rfl (by decide : (Int32.ofInt 2).toInt = 2) (by first | exact q_f48788af97 h9 h7 hl_nd | omega) (by first | exact q_c12c3b1724 h9 h7 hp0 | omega)) (fun z107 h108 => ?_)
      refine En_Ps 1 (pc' := 94) (lv' := [(1, .int z8), (0, .ref 159)]) (st' := [.int ((Int32.ofInt 0)), .int z107, .ref 165]) rfl ?_
      refine En_iast (l := 0) (u := 12) rfl rfl tgz_165 (by decide +kernel) (by first | exact q_a578b517ac h108 h9 h7 hl_nd | omega) (lnI (by decide +kernel : LN _ = 226) (by first | exact q_838f9060d0 h108 h9 h7 hp0 | omega)) (FTrow 41 12 4 4 (by decide +kernel) (by first | exact q_25a2632096 h108 h9 h7 hl_nd | omega) (by first | exact q_06b9fd411d h108 h9 h7 hp0 | omega) (by first | exact q_29bc46c6fe h7 h9 h108 | omega)) (rngI (by decide : (Int32.ofInt 0).toInt = 0) (by decide) (by decide)) h97 h98 (by decide +kernel) (fun σ109 h110 h111 h112 h113 => ?_)
      have h114 := KF_st h101 (J := z107.toInt) h113 (by omega) (by omega)
      have : ((Int32.ofInt 0)).toInt = 0 := (by decide : (Int32.ofInt 0).toInt = 0)
      obtain ⟨S115, h116⟩ : ∃ q : PS, q = wst S102 (10 + 4 * Sp.2.2.2 2 + 2) (0) := ⟨_, rfl⟩
      have h117 : ML By Nb σ109 S115 := by rw [h116]; exact (ML_wst (i := 10 + 4 * Sp.2.2.2 2 + 2) (v := 0) h104 h112 h113 (by omega) (fun z => by have j1 := h106.symm.trans z; have j2 := Imp_m h92 j1; exact ⟨by omega, by omega⟩))
      have h118 := ML_k h117 ((h113 _ _ (Or.inl (neTG tgz_159 tgz_165 (by decide)))).trans ((h100 _ _ (Or.inl (neTG tgz_159 tgz_165 (by decide)))).trans h80))
      have h119 : S115.1 = S102.1 := by rw [h116]; rfl
      refine En_Ps 1 (pc' := 96) (lv' := [(1, .int z8), (0, .ref 159)]) (st' := [.ref 159]) rfl ?_
      refine En_getK (j := 14) ((h113 _ _ (Or.inl (neTG tgz_159 tgz_165 (by decide)))).trans ((h100 _ _ (Or.inl (neTG tgz_159 tgz_165 (by decide)))).trans ((h75 _ _ (inW tgz_159 (by decide +kernel))).trans ((h61 _ _ (Or.inl (neTG tgz_159 tgz_165 (by decide)))).trans ((h42 _ _ (inW tgz_159 (by decide +kernel))).trans h3))))) rfl rfl rfl tgz_159 (by decide +kernel) ?_
      refine En_Ps 3 (pc' := 102) (lv' := [(1, .int z8), (0, .ref 159)]) (st' := [.int ((z8 + ((Int32.ofInt 3)))), .ref 165]) rfl ?_
      refine En_top (addI rfl (by decide : (Int32.ofInt 3).toInt = 3) (by first | exact q_5241e58928 h9 h7 hl_nd | omega) (by first | exact q_32a0270a1d h9 h7 hp0 | omega)) (fun z120 h121 => ?_)
      refine En_Ps 1 (pc' := 103) (lv' := [(1, .int z8), (0, .ref 159)]) (st' := [.int ((Int32.ofInt (-1))), .int z120, .ref 165]) rfl ?_
      refine En_iast (l := (-1)) (u := 3) rfl rfl tgz_165 (by decide +kernel) (by first | exact q_9dbe57618d h121 h9 h7 hl_nd | omega) (lnI (by decide +kernel : LN _ = 226) (by first | exact q_2daa6dab63 h121 h9 h7 hp0 | omega)) (FTrow 41 13 4 4 (by decide +kernel) (by first | exact q_070b248188 h121 h9 h7 hl_nd | omega) (by first | exact q_ce30d83ae0 h121 h9 h7 hp0 | omega) (by first | exact q_090c32d68c h7 h9 h121 | omega)) (rngI (by decide : (Int32.ofInt (-1)).toInt = -1) (by decide) (by decide)) h110 h111 (by decide +kernel) (fun σ122 h123 h124 h125 h126 => ?_)
      have h127 := KF_st h114 (J := z120.toInt) h126 (by omega) (by omega)
      have : ((Int32.ofInt (-1))).toInt = (-1) := (by decide : (Int32.ofInt (-1)).toInt = -1)
      obtain ⟨S128, h129⟩ : ∃ q : PS, q = wst S115 (10 + 4 * Sp.2.2.2 2 + 3) (-1) := ⟨_, rfl⟩
      have h130 : ML By Nb σ122 S128 := by rw [h129]; exact (ML_wst (i := 10 + 4 * Sp.2.2.2 2 + 3) (v := -1) h117 h125 h126 (by omega) (fun z => by have j1 := h119.symm.trans z; have j2 := h106.symm.trans j1; have j3 := Imp_m h92 j2; exact ⟨by omega, by omega⟩))
      have h131 := ML_k h130 ((h126 _ _ (Or.inl (neTG tgz_159 tgz_165 (by decide)))).trans ((h113 _ _ (Or.inl (neTG tgz_159 tgz_165 (by decide)))).trans ((h100 _ _ (Or.inl (neTG tgz_159 tgz_165 (by decide)))).trans h80)))
      have h132 : S128.1 = S115.1 := by rw [h129]; rfl
      refine En_Ps 1 (pc' := 105) (lv' := [(1, .int z8), (0, .ref 159)]) (st' := [.ref 159]) rfl ?_
      refine En_getK (j := 14) ((h126 _ _ (Or.inl (neTG tgz_159 tgz_165 (by decide)))).trans ((h113 _ _ (Or.inl (neTG tgz_159 tgz_165 (by decide)))).trans ((h100 _ _ (Or.inl (neTG tgz_159 tgz_165 (by decide)))).trans ((h75 _ _ (inW tgz_159 (by decide +kernel))).trans ((h61 _ _ (Or.inl (neTG tgz_159 tgz_165 (by decide)))).trans ((h42 _ _ (inW tgz_159 (by decide +kernel))).trans h3)))))) rfl rfl rfl tgz_159 (by decide +kernel) ?_
      refine En_Ps 2 (pc' := 110) (lv' := [(1, .int z8), (0, .ref 159)]) (st' := [.int ((Int32.ofInt 2)), .ref 165, .int ((Int32.ofInt 2)), .ref 165]) rfl ?_
      refine En_ialdK ((h126 _ _ (Or.inr (by omega))).trans ((h113 _ _ (Or.inr (by omega))).trans ((h100 _ _ (Or.inr (by omega))).trans ((h75 _ _ (inWa tgz_165 (by decide +kernel))).trans ((h61 _ _ (Or.inr (by omega))).trans ((h42 _ _ (inWa tgz_165 (by decide +kernel))).trans h_nd)))))) rfl (by decide : (Int32.ofInt 2).toInt = 2) tgz_165 (by decide +kernel) h123 (by decide) (lnI (by decide +kernel : LN _ = 226) (by decide)) ?_
      refine En_Ps 2 (pc' := 113) (lv' := [(1, .int z8), (0, .ref 159)]) (st' := [.int ((nd + ((Int32.ofInt 1)))), .int ((Int32.ofInt 2)), .ref 165]) rfl ?_
      refine En_top (addI rfl (by decide : (Int32.ofInt 1).toInt = 1) (by first | exact q_465ab79ac1 hl_nd | omega) (by first | exact q_7dfc9ebb42 hp0 | omega)) (fun z134 h135 => ?_)
      refine En_iast (l := 0) (u := 4) rfl (by decide : (Int32.ofInt 2).toInt = 2) tgz_165 (by decide +kernel) (by decide) (lnI (by decide +kernel : LN _ = 226) (by decide)) (by decide +kernel) (rngI rfl (by first | exact q_35104ce9d3 h135 hl_nd | omega) (by first | exact q_05c9cf81c0 h135 hp0 | omega)) h123 h124 (by decide +kernel) (fun σ136 h137 h138 h139 h140 => ?_)
      have h141 := KF_st h127 (J := 2) h140 (by omega) (by omega)
      obtain ⟨S142, h143⟩ : ∃ q : PS, q = wst S128 (2) (Sp.2.2.2 2 + 1) := ⟨_, rfl⟩
      have h144 : ML By Nb σ136 S142 := by rw [h143]; exact (ML_wst (i := 2) (v := Sp.2.2.2 2 + 1) h130 h139 h140 (by omega) (fun z => by have j1 := h132.symm.trans z; have j2 := h119.symm.trans j1; have j3 := h106.symm.trans j2; have j4 := Imp_m h92 j3; exact ⟨by omega, by omega⟩))
      have h145 := ML_k h144 ((h140 _ _ (Or.inl (neTG tgz_159 tgz_165 (by decide)))).trans ((h126 _ _ (Or.inl (neTG tgz_159 tgz_165 (by decide)))).trans ((h113 _ _ (Or.inl (neTG tgz_159 tgz_165 (by decide)))).trans ((h100 _ _ (Or.inl (neTG tgz_159 tgz_165 (by decide)))).trans h80))))
      have h146 : S142.1 = S128.1 := by rw [h143]; rfl
      exact En_ret (v := none) rfl rfl rfl ⟨h137, h138, z77, ((h140 _ _ (Or.inl (neTG tgz_159 tgz_165 (by decide)))).trans ((h126 _ _ (Or.inl (neTG tgz_159 tgz_165 (by decide)))).trans ((h113 _ _ (Or.inl (neTG tgz_159 tgz_165 (by decide)))).trans ((h100 _ _ (Or.inl (neTG tgz_159 tgz_165 (by decide)))).trans h78)))), z79, ((h140 _ _ (Or.inl (neTG tgz_159 tgz_165 (by decide)))).trans ((h126 _ _ (Or.inl (neTG tgz_159 tgz_165 (by decide)))).trans ((h113 _ _ (Or.inl (neTG tgz_159 tgz_165 (by decide)))).trans ((h100 _ _ (Or.inl (neTG tgz_159 tgz_165 (by decide)))).trans h80)))), rfl, ⟨by first | exact q_a555021d16 h76.2.2.1 | omega, by first | exact q_76190b61a3 h76.2.2.2.1 | omega, by first | exact q_ccc3bb8fc9 h43.2.2.1 h76.2.2.2.2.1 | omega, by first | exact q_a555021d16 h76.2.2.2.2.2.1 | omega, by first | exact q_c733b715bf h76.2.2.2.2.2.2.1 | omega, by first | exact q_ccc3bb8fc9 h43.2.2.2.2.2.1 h76.2.2.2.2.2.2.2.1 | omega, by first | exact q_28bfca2c13 h43.2.2.1 h76.2.2.2.2.1 | omega, fun hh => by first | exact q_db388fd8e8 h43.2.2.2.2.2.1 h76.2.2.2.2.2.2.2.1 hh | omega, ⟨h141, ML_eq h144 (by unfold gDoor; dsimp only; rw [h68, ← h86, ← h89, ← h103, ← h116, ← h129, ← h143]; first | done | rfl | (rw [if_pos (by omega)]; first | done | rfl) | (rw [if_neg (by omega)]; first | done | rfl))⟩⟩⟩
    · have h147 : Sp.1 = 0 := iW_g (i := 11) (B := By) (n := Nb) (by omega)
      obtain ⟨S148, h149⟩ : ∃ q : PS, q = adv By Nb Sp := ⟨_, rfl⟩
      have h150 : ML By Nb σ26 S148 := by rw [h149]; exact h33.2.2 (by omega)
      have h151 := ML_k h150 ((h28 _ _ (inW tgz_159 (by decide +kernel))).trans h_k)
      have h152 : S148.2.2.2 = Sp.2.2.2 := by rw [h149]; exact adv_w
      have h153 : S148.1 = 0 := by rw [h149, adv_1]; exact h147
      refine En_Ps 1 (pc' := 43) (lv' := [(1, .int z8), (0, .ref 159)]) (st' := [.ref 159]) rfl ?_
      refine En_getK (j := 14) ((h28 _ _ (inW tgz_159 (by decide +kernel))).trans h3) rfl rfl rfl tgz_159 (by decide +kernel) ?_
      refine En_Ps 3 (pc' := 49) (lv' := [(1, .int z8), (0, .ref 159)]) (st' := [.int ((z8 + ((Int32.ofInt 0)))), .ref 165]) rfl ?_
      refine En_top (addI rfl (by decide : (Int32.ofInt 0).toInt = 0) (by first | exact q_99c3430a84 h9 h7 hl_nd | omega) (by first | exact q_f785fd662a h9 h7 hp0 | omega)) (fun z154 h155 => ?_)
      refine En_Ps 1 (pc' := 50) (lv' := [(1, .int z8), (0, .ref 159)]) (st' := [.int ((Int32.ofInt 1)), .int z154, .ref 165]) rfl ?_
      refine En_iast (l := 0) (u := 2) rfl rfl tgz_165 (by decide +kernel) (by first | exact q_0793c979f4 h155 h9 h7 hl_nd | omega) (lnI (by decide +kernel : LN _ = 226) (by first | exact q_423028a55f h155 h9 h7 hp0 | omega)) (FTrow 41 10 4 4 (by decide +kernel) (by first | exact q_98dc022afd h155 h9 h7 hl_nd | omega) (by first | exact q_1d408c2e08 h155 h9 h7 hp0 | omega) (by first | exact q_ff09f1b6e5 h7 h9 h155 | omega)) (rngI (by decide : (Int32.ofInt 1).toInt = 1) (by decide) (by decide)) h27 h34 (by decide +kernel) (fun σ156 h157 h158 h159 h160 => ?_)
      have h161 := KF_st h35 (J := z154.toInt) h160 (by omega) (by omega)
      have : ((Int32.ofInt 1)).toInt = 1 := (by decide : (Int32.ofInt 1).toInt = 1)
      obtain ⟨S162, h163⟩ : ∃ q : PS, q = wst S148 (10 + 4 * Sp.2.2.2 2) (1) := ⟨_, rfl⟩
      have h164 : ML By Nb σ156 S162 := by rw [h163]; exact (ML_wst (i := 10 + 4 * Sp.2.2.2 2) (v := 1) h150 h159 h160 (by omega) (fun z => by exact ⟨by omega, by omega⟩))
      have h165 := ML_k h164 ((h160 _ _ (Or.inl (neTG tgz_159 tgz_165 (by decide)))).trans ((h28 _ _ (inW tgz_159 (by decide +kernel))).trans h_k))
      have h166 : S162.1 = S148.1 := by rw [h163]; rfl
      refine En_Ps 1 (pc' := 69) (lv' := [(1, .int z8), (0, .ref 159)]) (st' := []) rfl ?_
      have h167 : gWay By Nb Sp = S162 := by rw [h163, h149]; unfold gWay; (repeat' split) <;> first | rfl | (exfalso; omega) | (exfalso; omega)
      refine En_Ps 1 (pc' := 70) (lv' := [(1, .int z8), (0, .ref 159)]) (st' := [.ref 159]) rfl ?_
      refine En_getK (j := 14) ((h160 _ _ (Or.inl (neTG tgz_159 tgz_165 (by decide)))).trans ((h28 _ _ (inW tgz_159 (by decide +kernel))).trans h3)) rfl rfl rfl tgz_159 (by decide +kernel) ?_
      refine En_Ps 3 (pc' := 76) (lv' := [(1, .int z8), (0, .ref 159)]) (st' := [.int ((z8 + ((Int32.ofInt 1)))), .ref 165]) rfl ?_
      refine En_top (addI rfl (by decide : (Int32.ofInt 1).toInt = 1) (by first | exact q_3c9a54fe80 h9 h7 hl_nd | omega) (by first | exact q_0d21366f43 h9 h7 hp0 | omega)) (fun z168 h169 => ?_)
      refine En_Ps 1 (pc' := 77) (lv' := [(1, .int z8), (0, .ref 159)]) (st' := [.ref 159, .int z168, .ref 165]) rfl ?_
      refine En_ldcS (i := 14) rfl rfl rfl ?_
      refine En_Ps 2 (pc' := 82) (lv' := [(1, .int z8), (0, .ref 159)]) (st' := [.int (((Int8.ofInt 50).toInt32)), .int ((Int32.ofInt 0)), .retAddr 29, .ref 159, .int z168, .ref 165]) rfl ?_
      have := (by decide : ((Int32.ofInt 0)).toInt = 0)
      have := (by decide : (((Int8.ofInt 50).toInt32)).toInt = 50)
      refine En_callV rfl rfl rfl rfl rfl rfl rfl rfl tgz_159 (by decide +kernel) rfl (c_323s14x σ156 h157 ((Int32.ofInt 0)) (((Int8.ofInt 50).toInt32)) (geI (by decide : (Int32.ofInt 0).toInt = 0) (by decide)) (leI (by decide : (Int32.ofInt 0).toInt = 0) (by decide)) (geI (by decide : ((Int8.ofInt 50).toInt32).toInt = 50) (by decide)) (leI (by decide : ((Int8.ofInt 50).toInt32).toInt = 50) (by decide)) z30 ((h160 _ _ (Or.inl (neTG tgz_159 tgz_165 (by decide)))).trans h31) k ((h160 _ _ (Or.inl (neTG tgz_159 tgz_165 (by decide)))).trans ((h28 _ _ (inW tgz_159 (by decide +kernel))).trans h_k)) h164) (by decide) (by decide) (fun v171 σ172 h170 => ?_)
      obtain ⟨h173, h174, z176, h177, z178, h179, z180, rfl, h175⟩ := h170
      have h181 := h175.2.2.2.2.2.2.2.2.2.2.2.2.2.2
      have h182 := Fr_trans h158 h174 (by decide +kernel)
      have h183 := KF_fr h161 h174 (by decide +kernel)
      obtain ⟨S184, h185⟩ : ∃ q : PS, q = pss By Nb (iW By Nb 14 S162) S162 := ⟨_, rfl⟩
      have h186 : tN By Nb ((Int32.ofInt 0)).toInt (((Int8.ofInt 50).toInt32)).toInt (pss By Nb (iW By Nb 14 S162) S162) = tN By Nb (0) (50) S184 := by rw [h185]; exact tN_cg2 (fun _ => by omega) (fun _ => by omega)
      obtain ⟨S187, h188⟩ : ∃ q : PS, q = tN By Nb (0) (50) S184 := ⟨_, rfl⟩
      have h189 : ML By Nb σ172 S187 := by rw [h188]; exact (ML_eq h181.1 h186)
      have h190 := ML_k h189 h179
      have h191 : Imp (S187.1 = 0) (z180.toInt = tV By Nb S184.2.2.1) := fun z => by rw [h185]; exact h181.2 (by rw [h186, ← h188]; exact z)
      have h192 := Imp_m h175.2.2.2.2.2.2.2.2.2.1 (by omega)
      have h193 := Imp_m h175.2.2.2.2.2.2.2.2.2.2.1 (by omega)
      have h194 := Imp_m h175.2.2.2.2.2.2.2.2.2.2.2.1 (by omega)
      refine En_iast (l := 0) (u := 50) rfl rfl tgz_165 (by decide +kernel) (by first | exact q_318b2093b5 h169 h9 h7 hl_nd | omega) (lnI (by decide +kernel : LN _ = 226) (by first | exact q_8969c16c6c h169 h9 h7 hp0 | omega)) (FTrow 41 11 4 4 (by decide +kernel) (by first | exact q_446547a38e h169 h9 h7 hl_nd | omega) (by first | exact q_34d6f29e0f h169 h9 h7 hp0 | omega) (by first | exact q_85b5c85b1c h7 h9 h169 | omega)) (rngI rfl (by first | exact q_ef1e8e38bf h175.1 | omega) (by first | exact q_ea6a9ad4e1 h175.2.1 | omega)) h173 h182 (by decide +kernel) (fun σ195 h196 h197 h198 h199 => ?_)
      have h200 := KF_st h183 (J := z168.toInt) h199 (by omega) (by omega)
      obtain ⟨S201, h202⟩ : ∃ q : PS, q = wst S187 (10 + 4 * Sp.2.2.2 2 + 1) ((tV By Nb S184.2.2.1)) := ⟨_, rfl⟩
      have h203 : ML By Nb σ195 S201 := by rw [h202]; exact (ML_wst (i := 10 + 4 * Sp.2.2.2 2 + 1) (v := (tV By Nb S184.2.2.1)) h189 h198 h199 (by omega) (fun z => by have j1 := Imp_m h191 z; exact ⟨by omega, by omega⟩))
      have h204 := ML_k h203 ((h199 _ _ (Or.inl (neTG tgz_159 tgz_165 (by decide)))).trans h179)
      have h205 : S201.1 = S187.1 := by rw [h202]; rfl
      refine En_Ps 1 (pc' := 87) (lv' := [(1, .int z8), (0, .ref 159)]) (st' := [.ref 159]) rfl ?_
      refine En_getK (j := 14) ((h199 _ _ (Or.inl (neTG tgz_159 tgz_165 (by decide)))).trans ((h174 _ _ (inW tgz_159 (by decide +kernel))).trans ((h160 _ _ (Or.inl (neTG tgz_159 tgz_165 (by decide)))).trans ((h28 _ _ (inW tgz_159 (by decide +kernel))).trans h3)))) rfl rfl rfl tgz_159 (by decide +kernel) ?_
      refine En_Ps 3 (pc' := 93) (lv' := [(1, .int z8), (0, .ref 159)]) (st' := [.int ((z8 + ((Int32.ofInt 2)))), .ref 165]) rfl ?_
      refine En_top (addI rfl (by decide : (Int32.ofInt 2).toInt = 2) (by first | exact q_f48788af97 h9 h7 hl_nd | omega) (by first | exact q_c12c3b1724 h9 h7 hp0 | omega)) (fun z206 h207 => ?_)
      refine En_Ps 1 (pc' := 94) (lv' := [(1, .int z8), (0, .ref 159)]) (st' := [.int ((Int32.ofInt 0)), .int z206, .ref 165]) rfl ?_
      refine En_iast (l := 0) (u := 12) rfl rfl tgz_165 (by decide +kernel) (by first | exact q_a578b517ac h207 h9 h7 hl_nd | omega) (lnI (by decide +kernel : LN _ = 226) (by first | exact q_838f9060d0 h207 h9 h7 hp0 | omega)) (FTrow 41 12 4 4 (by decide +kernel) (by first | exact q_25a2632096 h207 h9 h7 hl_nd | omega) (by first | exact q_06b9fd411d h207 h9 h7 hp0 | omega) (by first | exact q_29bc46c6fe h7 h9 h207 | omega)) (rngI (by decide : (Int32.ofInt 0).toInt = 0) (by decide) (by decide)) h196 h197 (by decide +kernel) (fun σ208 h209 h210 h211 h212 => ?_)
      have h213 := KF_st h200 (J := z206.toInt) h212 (by omega) (by omega)
      have : ((Int32.ofInt 0)).toInt = 0 := (by decide : (Int32.ofInt 0).toInt = 0)
      obtain ⟨S214, h215⟩ : ∃ q : PS, q = wst S201 (10 + 4 * Sp.2.2.2 2 + 2) (0) := ⟨_, rfl⟩
      have h216 : ML By Nb σ208 S214 := by rw [h215]; exact (ML_wst (i := 10 + 4 * Sp.2.2.2 2 + 2) (v := 0) h203 h211 h212 (by omega) (fun z => by have j1 := h205.symm.trans z; have j2 := Imp_m h191 j1; exact ⟨by omega, by omega⟩))
      have h217 := ML_k h216 ((h212 _ _ (Or.inl (neTG tgz_159 tgz_165 (by decide)))).trans ((h199 _ _ (Or.inl (neTG tgz_159 tgz_165 (by decide)))).trans h179))
      have h218 : S214.1 = S201.1 := by rw [h215]; rfl
      refine En_Ps 1 (pc' := 96) (lv' := [(1, .int z8), (0, .ref 159)]) (st' := [.ref 159]) rfl ?_
      refine En_getK (j := 14) ((h212 _ _ (Or.inl (neTG tgz_159 tgz_165 (by decide)))).trans ((h199 _ _ (Or.inl (neTG tgz_159 tgz_165 (by decide)))).trans ((h174 _ _ (inW tgz_159 (by decide +kernel))).trans ((h160 _ _ (Or.inl (neTG tgz_159 tgz_165 (by decide)))).trans ((h28 _ _ (inW tgz_159 (by decide +kernel))).trans h3))))) rfl rfl rfl tgz_159 (by decide +kernel) ?_
      refine En_Ps 3 (pc' := 102) (lv' := [(1, .int z8), (0, .ref 159)]) (st' := [.int ((z8 + ((Int32.ofInt 3)))), .ref 165]) rfl ?_
      refine En_top (addI rfl (by decide : (Int32.ofInt 3).toInt = 3) (by first | exact q_5241e58928 h9 h7 hl_nd | omega) (by first | exact q_32a0270a1d h9 h7 hp0 | omega)) (fun z219 h220 => ?_)
      refine En_Ps 1 (pc' := 103) (lv' := [(1, .int z8), (0, .ref 159)]) (st' := [.int ((Int32.ofInt (-1))), .int z219, .ref 165]) rfl ?_
      refine En_iast (l := (-1)) (u := 3) rfl rfl tgz_165 (by decide +kernel) (by first | exact q_9dbe57618d h220 h9 h7 hl_nd | omega) (lnI (by decide +kernel : LN _ = 226) (by first | exact q_2daa6dab63 h220 h9 h7 hp0 | omega)) (FTrow 41 13 4 4 (by decide +kernel) (by first | exact q_070b248188 h220 h9 h7 hl_nd | omega) (by first | exact q_ce30d83ae0 h220 h9 h7 hp0 | omega) (by first | exact q_090c32d68c h7 h9 h220 | omega)) (rngI (by decide : (Int32.ofInt (-1)).toInt = -1) (by decide) (by decide)) h209 h210 (by decide +kernel) (fun σ221 h222 h223 h224 h225 => ?_)
      have h226 := KF_st h213 (J := z219.toInt) h225 (by omega) (by omega)
      have : ((Int32.ofInt (-1))).toInt = (-1) := (by decide : (Int32.ofInt (-1)).toInt = -1)
      obtain ⟨S227, h228⟩ : ∃ q : PS, q = wst S214 (10 + 4 * Sp.2.2.2 2 + 3) (-1) := ⟨_, rfl⟩
      have h229 : ML By Nb σ221 S227 := by rw [h228]; exact (ML_wst (i := 10 + 4 * Sp.2.2.2 2 + 3) (v := -1) h216 h224 h225 (by omega) (fun z => by have j1 := h218.symm.trans z; have j2 := h205.symm.trans j1; have j3 := Imp_m h191 j2; exact ⟨by omega, by omega⟩))
      have h230 := ML_k h229 ((h225 _ _ (Or.inl (neTG tgz_159 tgz_165 (by decide)))).trans ((h212 _ _ (Or.inl (neTG tgz_159 tgz_165 (by decide)))).trans ((h199 _ _ (Or.inl (neTG tgz_159 tgz_165 (by decide)))).trans h179)))
      have h231 : S227.1 = S214.1 := by rw [h228]; rfl
      refine En_Ps 1 (pc' := 105) (lv' := [(1, .int z8), (0, .ref 159)]) (st' := [.ref 159]) rfl ?_
      refine En_getK (j := 14) ((h225 _ _ (Or.inl (neTG tgz_159 tgz_165 (by decide)))).trans ((h212 _ _ (Or.inl (neTG tgz_159 tgz_165 (by decide)))).trans ((h199 _ _ (Or.inl (neTG tgz_159 tgz_165 (by decide)))).trans ((h174 _ _ (inW tgz_159 (by decide +kernel))).trans ((h160 _ _ (Or.inl (neTG tgz_159 tgz_165 (by decide)))).trans ((h28 _ _ (inW tgz_159 (by decide +kernel))).trans h3)))))) rfl rfl rfl tgz_159 (by decide +kernel) ?_
      refine En_Ps 2 (pc' := 110) (lv' := [(1, .int z8), (0, .ref 159)]) (st' := [.int ((Int32.ofInt 2)), .ref 165, .int ((Int32.ofInt 2)), .ref 165]) rfl ?_
      refine En_ialdK ((h225 _ _ (Or.inr (by omega))).trans ((h212 _ _ (Or.inr (by omega))).trans ((h199 _ _ (Or.inr (by omega))).trans ((h174 _ _ (inWa tgz_165 (by decide +kernel))).trans ((h160 _ _ (Or.inr (by omega))).trans ((h28 _ _ (inWa tgz_165 (by decide +kernel))).trans h_nd)))))) rfl (by decide : (Int32.ofInt 2).toInt = 2) tgz_165 (by decide +kernel) h222 (by decide) (lnI (by decide +kernel : LN _ = 226) (by decide)) ?_
      refine En_Ps 2 (pc' := 113) (lv' := [(1, .int z8), (0, .ref 159)]) (st' := [.int ((nd + ((Int32.ofInt 1)))), .int ((Int32.ofInt 2)), .ref 165]) rfl ?_
      refine En_top (addI rfl (by decide : (Int32.ofInt 1).toInt = 1) (by first | exact q_465ab79ac1 hl_nd | omega) (by first | exact q_7dfc9ebb42 hp0 | omega)) (fun z233 h234 => ?_)
      refine En_iast (l := 0) (u := 4) rfl (by decide : (Int32.ofInt 2).toInt = 2) tgz_165 (by decide +kernel) (by decide) (lnI (by decide +kernel : LN _ = 226) (by decide)) (by decide +kernel) (rngI rfl (by first | exact q_35104ce9d3 h234 hl_nd | omega) (by first | exact q_05c9cf81c0 h234 hp0 | omega)) h222 h223 (by decide +kernel) (fun σ235 h236 h237 h238 h239 => ?_)
      have h240 := KF_st h226 (J := 2) h239 (by omega) (by omega)
      obtain ⟨S241, h242⟩ : ∃ q : PS, q = wst S227 (2) (Sp.2.2.2 2 + 1) := ⟨_, rfl⟩
      have h243 : ML By Nb σ235 S241 := by rw [h242]; exact (ML_wst (i := 2) (v := Sp.2.2.2 2 + 1) h229 h238 h239 (by omega) (fun z => by have j1 := h231.symm.trans z; have j2 := h218.symm.trans j1; have j3 := h205.symm.trans j2; have j4 := Imp_m h191 j3; exact ⟨by omega, by omega⟩))
      have h244 := ML_k h243 ((h239 _ _ (Or.inl (neTG tgz_159 tgz_165 (by decide)))).trans ((h225 _ _ (Or.inl (neTG tgz_159 tgz_165 (by decide)))).trans ((h212 _ _ (Or.inl (neTG tgz_159 tgz_165 (by decide)))).trans ((h199 _ _ (Or.inl (neTG tgz_159 tgz_165 (by decide)))).trans h179))))
      have h245 : S241.1 = S227.1 := by rw [h242]; rfl
      exact En_ret (v := none) rfl rfl rfl ⟨h236, h237, z176, ((h239 _ _ (Or.inl (neTG tgz_159 tgz_165 (by decide)))).trans ((h225 _ _ (Or.inl (neTG tgz_159 tgz_165 (by decide)))).trans ((h212 _ _ (Or.inl (neTG tgz_159 tgz_165 (by decide)))).trans ((h199 _ _ (Or.inl (neTG tgz_159 tgz_165 (by decide)))).trans h177)))), z178, ((h239 _ _ (Or.inl (neTG tgz_159 tgz_165 (by decide)))).trans ((h225 _ _ (Or.inl (neTG tgz_159 tgz_165 (by decide)))).trans ((h212 _ _ (Or.inl (neTG tgz_159 tgz_165 (by decide)))).trans ((h199 _ _ (Or.inl (neTG tgz_159 tgz_165 (by decide)))).trans h179)))), rfl, ⟨by first | exact q_a555021d16 h175.2.2.1 | omega, by first | exact q_76190b61a3 h175.2.2.2.1 | omega, by first | exact q_ccc3bb8fc9 h29.2.2.2.2.1 h175.2.2.2.2.1 | omega, by first | exact q_a555021d16 h175.2.2.2.2.2.1 | omega, by first | exact q_c733b715bf h175.2.2.2.2.2.2.1 | omega, by first | exact q_d22b102a8e h175.2.2.2.2.2.2.2.1 | omega, by first | exact q_28bfca2c13 h29.2.2.2.2.1 h175.2.2.2.2.1 | omega, fun hh => by first | exact q_f10d4a2089 h175.2.2.2.2.2.2.2.1 hh | omega, ⟨h240, ML_eq h243 (by unfold gDoor; dsimp only; rw [h167, ← h185, ← h188, ← h202, ← h215, ← h228, ← h242]; first | done | rfl | (rw [if_pos (by omega)]; first | done | rfl) | (rw [if_neg (by omega)]; first | done | rfl))⟩⟩⟩
  · have h246 : Sp.1 = 0 := iW_g (i := 4) (B := By) (n := Nb) (by omega)
    obtain ⟨S247, h248⟩ : ∃ q : PS, q = adv By Nb Sp := ⟨_, rfl⟩
    have h249 : ML By Nb σ12 S247 := by rw [h248]; exact h19.2.2 (by omega)
    have h250 := ML_k h249 ((h14 _ _ (inW tgz_159 (by decide +kernel))).trans h_k)
    have h251 : S247.2.2.2 = Sp.2.2.2 := by rw [h248]; exact adv_w
    have h252 : S247.1 = 0 := by rw [h248, adv_1]; exact h246
    refine En_Ps 1 (pc' := 22) (lv' := [(1, .int z8), (0, .ref 159)]) (st' := [.ref 159]) rfl ?_
    refine En_getK (j := 14) ((h14 _ _ (inW tgz_159 (by decide +kernel))).trans h3) rfl rfl rfl tgz_159 (by decide +kernel) ?_
    refine En_Ps 3 (pc' := 28) (lv' := [(1, .int z8), (0, .ref 159)]) (st' := [.int ((z8 + ((Int32.ofInt 0)))), .ref 165]) rfl ?_
    refine En_top (addI rfl (by decide : (Int32.ofInt 0).toInt = 0) (by first | exact q_99c3430a84 h9 h7 hl_nd | omega) (by first | exact q_f785fd662a h9 h7 hp0 | omega)) (fun z253 h254 => ?_)
    refine En_Ps 1 (pc' := 29) (lv' := [(1, .int z8), (0, .ref 159)]) (st' := [.int ((Int32.ofInt 0)), .int z253, .ref 165]) rfl ?_
    refine En_iast (l := 0) (u := 2) rfl rfl tgz_165 (by decide +kernel) (by first | exact q_0793c979f4 h254 h9 h7 hl_nd | omega) (lnI (by decide +kernel : LN _ = 226) (by first | exact q_423028a55f h254 h9 h7 hp0 | omega)) (FTrow 41 10 4 4 (by decide +kernel) (by first | exact q_98dc022afd h254 h9 h7 hl_nd | omega) (by first | exact q_1d408c2e08 h254 h9 h7 hp0 | omega) (by first | exact q_ff09f1b6e5 h7 h9 h254 | omega)) (rngI (by decide : (Int32.ofInt 0).toInt = 0) (by decide) (by decide)) h13 h20 (by decide +kernel) (fun σ255 h256 h257 h258 h259 => ?_)
    have h260 := KF_st h21 (J := z253.toInt) h259 (by omega) (by omega)
    have : ((Int32.ofInt 0)).toInt = 0 := (by decide : (Int32.ofInt 0).toInt = 0)
    obtain ⟨S261, h262⟩ : ∃ q : PS, q = wst S247 (10 + 4 * Sp.2.2.2 2) (0) := ⟨_, rfl⟩
    have h263 : ML By Nb σ255 S261 := by rw [h262]; exact (ML_wst (i := 10 + 4 * Sp.2.2.2 2) (v := 0) h249 h258 h259 (by omega) (fun z => by exact ⟨by omega, by omega⟩))
    have h264 := ML_k h263 ((h259 _ _ (Or.inl (neTG tgz_159 tgz_165 (by decide)))).trans ((h14 _ _ (inW tgz_159 (by decide +kernel))).trans h_k))
    have h265 : S261.1 = S247.1 := by rw [h262]; rfl
    refine En_Ps 1 (pc' := 69) (lv' := [(1, .int z8), (0, .ref 159)]) (st' := []) rfl ?_
    have h266 : gWay By Nb Sp = S261 := by rw [h262, h248]; unfold gWay; (repeat' split) <;> first | rfl | (exfalso; omega) | (exfalso; omega)
    refine En_Ps 1 (pc' := 70) (lv' := [(1, .int z8), (0, .ref 159)]) (st' := [.ref 159]) rfl ?_
    refine En_getK (j := 14) ((h259 _ _ (Or.inl (neTG tgz_159 tgz_165 (by decide)))).trans ((h14 _ _ (inW tgz_159 (by decide +kernel))).trans h3)) rfl rfl rfl tgz_159 (by decide +kernel) ?_
    refine En_Ps 3 (pc' := 76) (lv' := [(1, .int z8), (0, .ref 159)]) (st' := [.int ((z8 + ((Int32.ofInt 1)))), .ref 165]) rfl ?_
    refine En_top (addI rfl (by decide : (Int32.ofInt 1).toInt = 1) (by first | exact q_3c9a54fe80 h9 h7 hl_nd | omega) (by first | exact q_0d21366f43 h9 h7 hp0 | omega)) (fun z267 h268 => ?_)
    refine En_Ps 1 (pc' := 77) (lv' := [(1, .int z8), (0, .ref 159)]) (st' := [.ref 159, .int z267, .ref 165]) rfl ?_
    refine En_ldcS (i := 14) rfl rfl rfl ?_
    refine En_Ps 2 (pc' := 82) (lv' := [(1, .int z8), (0, .ref 159)]) (st' := [.int (((Int8.ofInt 50).toInt32)), .int ((Int32.ofInt 0)), .retAddr 29, .ref 159, .int z267, .ref 165]) rfl ?_
    have := (by decide : ((Int32.ofInt 0)).toInt = 0)
    have := (by decide : (((Int8.ofInt 50).toInt32)).toInt = 50)
    refine En_callV rfl rfl rfl rfl rfl rfl rfl rfl tgz_159 (by decide +kernel) rfl (c_323s14x σ255 h256 ((Int32.ofInt 0)) (((Int8.ofInt 50).toInt32)) (geI (by decide : (Int32.ofInt 0).toInt = 0) (by decide)) (leI (by decide : (Int32.ofInt 0).toInt = 0) (by decide)) (geI (by decide : ((Int8.ofInt 50).toInt32).toInt = 50) (by decide)) (leI (by decide : ((Int8.ofInt 50).toInt32).toInt = 50) (by decide)) z16 ((h259 _ _ (Or.inl (neTG tgz_159 tgz_165 (by decide)))).trans h17) k ((h259 _ _ (Or.inl (neTG tgz_159 tgz_165 (by decide)))).trans ((h14 _ _ (inW tgz_159 (by decide +kernel))).trans h_k)) h263) (by decide) (by decide) (fun v270 σ271 h269 => ?_)
    obtain ⟨h272, h273, z275, h276, z277, h278, z279, rfl, h274⟩ := h269
    have h280 := h274.2.2.2.2.2.2.2.2.2.2.2.2.2.2
    have h281 := Fr_trans h257 h273 (by decide +kernel)
    have h282 := KF_fr h260 h273 (by decide +kernel)
    obtain ⟨S283, h284⟩ : ∃ q : PS, q = pss By Nb (iW By Nb 14 S261) S261 := ⟨_, rfl⟩
    have h285 : tN By Nb ((Int32.ofInt 0)).toInt (((Int8.ofInt 50).toInt32)).toInt (pss By Nb (iW By Nb 14 S261) S261) = tN By Nb (0) (50) S283 := by rw [h284]; exact tN_cg2 (fun _ => by omega) (fun _ => by omega)
    obtain ⟨S286, h287⟩ : ∃ q : PS, q = tN By Nb (0) (50) S283 := ⟨_, rfl⟩
    have h288 : ML By Nb σ271 S286 := by rw [h287]; exact (ML_eq h280.1 h285)
    have h289 := ML_k h288 h278
    have h290 : Imp (S286.1 = 0) (z279.toInt = tV By Nb S283.2.2.1) := fun z => by rw [h284]; exact h280.2 (by rw [h285, ← h287]; exact z)
    have h291 := Imp_m h274.2.2.2.2.2.2.2.2.2.1 (by omega)
    have h292 := Imp_m h274.2.2.2.2.2.2.2.2.2.2.1 (by omega)
    have h293 := Imp_m h274.2.2.2.2.2.2.2.2.2.2.2.1 (by omega)
    refine En_iast (l := 0) (u := 50) rfl rfl tgz_165 (by decide +kernel) (by first | exact q_318b2093b5 h268 h9 h7 hl_nd | omega) (lnI (by decide +kernel : LN _ = 226) (by first | exact q_8969c16c6c h268 h9 h7 hp0 | omega)) (FTrow 41 11 4 4 (by decide +kernel) (by first | exact q_446547a38e h268 h9 h7 hl_nd | omega) (by first | exact q_34d6f29e0f h268 h9 h7 hp0 | omega) (by first | exact q_85b5c85b1c h7 h9 h268 | omega)) (rngI rfl (by first | exact q_ef1e8e38bf h274.1 | omega) (by first | exact q_ea6a9ad4e1 h274.2.1 | omega)) h272 h281 (by decide +kernel) (fun σ294 h295 h296 h297 h298 => ?_)
    have h299 := KF_st h282 (J := z267.toInt) h298 (by omega) (by omega)
    obtain ⟨S300, h301⟩ : ∃ q : PS, q = wst S286 (10 + 4 * Sp.2.2.2 2 + 1) ((tV By Nb S283.2.2.1)) := ⟨_, rfl⟩
    have h302 : ML By Nb σ294 S300 := by rw [h301]; exact (ML_wst (i := 10 + 4 * Sp.2.2.2 2 + 1) (v := (tV By Nb S283.2.2.1)) h288 h297 h298 (by omega) (fun z => by have j1 := Imp_m h290 z; exact ⟨by omega, by omega⟩))
    have h303 := ML_k h302 ((h298 _ _ (Or.inl (neTG tgz_159 tgz_165 (by decide)))).trans h278)
    have h304 : S300.1 = S286.1 := by rw [h301]; rfl
    refine En_Ps 1 (pc' := 87) (lv' := [(1, .int z8), (0, .ref 159)]) (st' := [.ref 159]) rfl ?_
    refine En_getK (j := 14) ((h298 _ _ (Or.inl (neTG tgz_159 tgz_165 (by decide)))).trans ((h273 _ _ (inW tgz_159 (by decide +kernel))).trans ((h259 _ _ (Or.inl (neTG tgz_159 tgz_165 (by decide)))).trans ((h14 _ _ (inW tgz_159 (by decide +kernel))).trans h3)))) rfl rfl rfl tgz_159 (by decide +kernel) ?_
    refine En_Ps 3 (pc' := 93) (lv' := [(1, .int z8), (0, .ref 159)]) (st' := [.int ((z8 + ((Int32.ofInt 2)))), .ref 165]) rfl ?_
    refine En_top (addI rfl (by decide : (Int32.ofInt 2).toInt = 2) (by first | exact q_f48788af97 h9 h7 hl_nd | omega) (by first | exact q_c12c3b1724 h9 h7 hp0 | omega)) (fun z305 h306 => ?_)
    refine En_Ps 1 (pc' := 94) (lv' := [(1, .int z8), (0, .ref 159)]) (st' := [.int ((Int32.ofInt 0)), .int z305, .ref 165]) rfl ?_
    refine En_iast (l := 0) (u := 12) rfl rfl tgz_165 (by decide +kernel) (by first | exact q_a578b517ac h306 h9 h7 hl_nd | omega) (lnI (by decide +kernel : LN _ = 226) (by first | exact q_838f9060d0 h306 h9 h7 hp0 | omega)) (FTrow 41 12 4 4 (by decide +kernel) (by first | exact q_25a2632096 h306 h9 h7 hl_nd | omega) (by first | exact q_06b9fd411d h306 h9 h7 hp0 | omega) (by first | exact q_29bc46c6fe h7 h9 h306 | omega)) (rngI (by decide : (Int32.ofInt 0).toInt = 0) (by decide) (by decide)) h295 h296 (by decide +kernel) (fun σ307 h308 h309 h310 h311 => ?_)
    have h312 := KF_st h299 (J := z305.toInt) h311 (by omega) (by omega)
    have : ((Int32.ofInt 0)).toInt = 0 := (by decide : (Int32.ofInt 0).toInt = 0)
    obtain ⟨S313, h314⟩ : ∃ q : PS, q = wst S300 (10 + 4 * Sp.2.2.2 2 + 2) (0) := ⟨_, rfl⟩
    have h315 : ML By Nb σ307 S313 := by rw [h314]; exact (ML_wst (i := 10 + 4 * Sp.2.2.2 2 + 2) (v := 0) h302 h310 h311 (by omega) (fun z => by have j1 := h304.symm.trans z; have j2 := Imp_m h290 j1; exact ⟨by omega, by omega⟩))
    have h316 := ML_k h315 ((h311 _ _ (Or.inl (neTG tgz_159 tgz_165 (by decide)))).trans ((h298 _ _ (Or.inl (neTG tgz_159 tgz_165 (by decide)))).trans h278))
    have h317 : S313.1 = S300.1 := by rw [h314]; rfl
    refine En_Ps 1 (pc' := 96) (lv' := [(1, .int z8), (0, .ref 159)]) (st' := [.ref 159]) rfl ?_
    refine En_getK (j := 14) ((h311 _ _ (Or.inl (neTG tgz_159 tgz_165 (by decide)))).trans ((h298 _ _ (Or.inl (neTG tgz_159 tgz_165 (by decide)))).trans ((h273 _ _ (inW tgz_159 (by decide +kernel))).trans ((h259 _ _ (Or.inl (neTG tgz_159 tgz_165 (by decide)))).trans ((h14 _ _ (inW tgz_159 (by decide +kernel))).trans h3))))) rfl rfl rfl tgz_159 (by decide +kernel) ?_
    refine En_Ps 3 (pc' := 102) (lv' := [(1, .int z8), (0, .ref 159)]) (st' := [.int ((z8 + ((Int32.ofInt 3)))), .ref 165]) rfl ?_
    refine En_top (addI rfl (by decide : (Int32.ofInt 3).toInt = 3) (by first | exact q_5241e58928 h9 h7 hl_nd | omega) (by first | exact q_32a0270a1d h9 h7 hp0 | omega)) (fun z318 h319 => ?_)
    refine En_Ps 1 (pc' := 103) (lv' := [(1, .int z8), (0, .ref 159)]) (st' := [.int ((Int32.ofInt (-1))), .int z318, .ref 165]) rfl ?_
    refine En_iast (l := (-1)) (u := 3) rfl rfl tgz_165 (by decide +kernel) (by first | exact q_9dbe57618d h319 h9 h7 hl_nd | omega) (lnI (by decide +kernel : LN _ = 226) (by first | exact q_2daa6dab63 h319 h9 h7 hp0 | omega)) (FTrow 41 13 4 4 (by decide +kernel) (by first | exact q_070b248188 h319 h9 h7 hl_nd | omega) (by first | exact q_ce30d83ae0 h319 h9 h7 hp0 | omega) (by first | exact q_090c32d68c h7 h9 h319 | omega)) (rngI (by decide : (Int32.ofInt (-1)).toInt = -1) (by decide) (by decide)) h308 h309 (by decide +kernel) (fun σ320 h321 h322 h323 h324 => ?_)
    have h325 := KF_st h312 (J := z318.toInt) h324 (by omega) (by omega)
    have : ((Int32.ofInt (-1))).toInt = (-1) := (by decide : (Int32.ofInt (-1)).toInt = -1)
    obtain ⟨S326, h327⟩ : ∃ q : PS, q = wst S313 (10 + 4 * Sp.2.2.2 2 + 3) (-1) := ⟨_, rfl⟩
    have h328 : ML By Nb σ320 S326 := by rw [h327]; exact (ML_wst (i := 10 + 4 * Sp.2.2.2 2 + 3) (v := -1) h315 h323 h324 (by omega) (fun z => by have j1 := h317.symm.trans z; have j2 := h304.symm.trans j1; have j3 := Imp_m h290 j2; exact ⟨by omega, by omega⟩))
    have h329 := ML_k h328 ((h324 _ _ (Or.inl (neTG tgz_159 tgz_165 (by decide)))).trans ((h311 _ _ (Or.inl (neTG tgz_159 tgz_165 (by decide)))).trans ((h298 _ _ (Or.inl (neTG tgz_159 tgz_165 (by decide)))).trans h278)))
    have h330 : S326.1 = S313.1 := by rw [h327]; rfl
    refine En_Ps 1 (pc' := 105) (lv' := [(1, .int z8), (0, .ref 159)]) (st' := [.ref 159]) rfl ?_
    refine En_getK (j := 14) ((h324 _ _ (Or.inl (neTG tgz_159 tgz_165 (by decide)))).trans ((h311 _ _ (Or.inl (neTG tgz_159 tgz_165 (by decide)))).trans ((h298 _ _ (Or.inl (neTG tgz_159 tgz_165 (by decide)))).trans ((h273 _ _ (inW tgz_159 (by decide +kernel))).trans ((h259 _ _ (Or.inl (neTG tgz_159 tgz_165 (by decide)))).trans ((h14 _ _ (inW tgz_159 (by decide +kernel))).trans h3)))))) rfl rfl rfl tgz_159 (by decide +kernel) ?_
    refine En_Ps 2 (pc' := 110) (lv' := [(1, .int z8), (0, .ref 159)]) (st' := [.int ((Int32.ofInt 2)), .ref 165, .int ((Int32.ofInt 2)), .ref 165]) rfl ?_
    refine En_ialdK ((h324 _ _ (Or.inr (by omega))).trans ((h311 _ _ (Or.inr (by omega))).trans ((h298 _ _ (Or.inr (by omega))).trans ((h273 _ _ (inWa tgz_165 (by decide +kernel))).trans ((h259 _ _ (Or.inr (by omega))).trans ((h14 _ _ (inWa tgz_165 (by decide +kernel))).trans h_nd)))))) rfl (by decide : (Int32.ofInt 2).toInt = 2) tgz_165 (by decide +kernel) h321 (by decide) (lnI (by decide +kernel : LN _ = 226) (by decide)) ?_
    refine En_Ps 2 (pc' := 113) (lv' := [(1, .int z8), (0, .ref 159)]) (st' := [.int ((nd + ((Int32.ofInt 1)))), .int ((Int32.ofInt 2)), .ref 165]) rfl ?_
    refine En_top (addI rfl (by decide : (Int32.ofInt 1).toInt = 1) (by first | exact q_465ab79ac1 hl_nd | omega) (by first | exact q_7dfc9ebb42 hp0 | omega)) (fun z332 h333 => ?_)
    refine En_iast (l := 0) (u := 4) rfl (by decide : (Int32.ofInt 2).toInt = 2) tgz_165 (by decide +kernel) (by decide) (lnI (by decide +kernel : LN _ = 226) (by decide)) (by decide +kernel) (rngI rfl (by first | exact q_35104ce9d3 h333 hl_nd | omega) (by first | exact q_05c9cf81c0 h333 hp0 | omega)) h321 h322 (by decide +kernel) (fun σ334 h335 h336 h337 h338 => ?_)
    have h339 := KF_st h325 (J := 2) h338 (by omega) (by omega)
    obtain ⟨S340, h341⟩ : ∃ q : PS, q = wst S326 (2) (Sp.2.2.2 2 + 1) := ⟨_, rfl⟩
    have h342 : ML By Nb σ334 S340 := by rw [h341]; exact (ML_wst (i := 2) (v := Sp.2.2.2 2 + 1) h328 h337 h338 (by omega) (fun z => by have j1 := h330.symm.trans z; have j2 := h317.symm.trans j1; have j3 := h304.symm.trans j2; have j4 := Imp_m h290 j3; exact ⟨by omega, by omega⟩))
    have h343 := ML_k h342 ((h338 _ _ (Or.inl (neTG tgz_159 tgz_165 (by decide)))).trans ((h324 _ _ (Or.inl (neTG tgz_159 tgz_165 (by decide)))).trans ((h311 _ _ (Or.inl (neTG tgz_159 tgz_165 (by decide)))).trans ((h298 _ _ (Or.inl (neTG tgz_159 tgz_165 (by decide)))).trans h278))))
    have h344 : S340.1 = S326.1 := by rw [h341]; rfl
    exact En_ret (v := none) rfl rfl rfl ⟨h335, h336, z275, ((h338 _ _ (Or.inl (neTG tgz_159 tgz_165 (by decide)))).trans ((h324 _ _ (Or.inl (neTG tgz_159 tgz_165 (by decide)))).trans ((h311 _ _ (Or.inl (neTG tgz_159 tgz_165 (by decide)))).trans ((h298 _ _ (Or.inl (neTG tgz_159 tgz_165 (by decide)))).trans h276)))), z277, ((h338 _ _ (Or.inl (neTG tgz_159 tgz_165 (by decide)))).trans ((h324 _ _ (Or.inl (neTG tgz_159 tgz_165 (by decide)))).trans ((h311 _ _ (Or.inl (neTG tgz_159 tgz_165 (by decide)))).trans ((h298 _ _ (Or.inl (neTG tgz_159 tgz_165 (by decide)))).trans h278)))), rfl, ⟨by first | exact q_a555021d16 h274.2.2.1 | omega, by first | exact q_76190b61a3 h274.2.2.2.1 | omega, by first | exact q_ccc3bb8fc9 h15.2.2.2.2.1 h274.2.2.2.2.1 | omega, by first | exact q_a555021d16 h274.2.2.2.2.2.1 | omega, by first | exact q_c733b715bf h274.2.2.2.2.2.2.1 | omega, by first | exact q_d22b102a8e h274.2.2.2.2.2.2.2.1 | omega, by first | exact q_28bfca2c13 h15.2.2.2.2.1 h274.2.2.2.2.1 | omega, fun hh => by first | exact q_f10d4a2089 h274.2.2.2.2.2.2.2.1 hh | omega, ⟨h339, ML_eq h342 (by unfold gDoor; dsimp only; rw [h266, ← h284, ← h287, ← h301, ← h314, ← h327, ← h341]; first | done | rfl | (rw [if_pos (by omega)]; first | done | rfl) | (rw [if_neg (by omega)]; first | done | rfl))⟩⟩⟩

