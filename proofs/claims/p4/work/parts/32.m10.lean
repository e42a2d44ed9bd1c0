set_option maxRecDepth 10000 in
set_option maxHeartbeats 4000000 in
theorem k_302x_386 {By : Int → Int} {Nb : Int} {Sp : PS} (σ0 : SG) (hσ0 : WT σ0) (f : Int32) (h_f : (σ0 159)[8]? = some (.int f)) (k : Int32) (h_k : (σ0 159)[12]? = some (.int k)) (hM : ML By Nb σ0 Sp) (hg : Sp.1 = 0) : ∀ (σ284 : SG) (y287 : Int32) (y291 : Int32) (y295 : Int32), WT σ284 → Fr [(35, 8), (35, 9), (35, 10), (35, 11), (35, 12), (35, 13), (41, 0)] σ0 σ284 → (σ284 165)[(5 : Int).toNat]? = some (.int y287) → 0 ≤ y287.toInt → y287.toInt ≤ 6 → (σ284 159)[12]? = some (.int y291) → 0 ≤ y291.toInt → y291.toInt ≤ 3 → (σ284 159)[8]? = some (.int y295) → 0 ≤ y295.toInt → y295.toInt ≤ 1600 → f.toInt - y295.toInt ≤ 0 → (y291.toInt ≤ 0 → k.toInt ≤ 0) → y291.toInt ≤ 0 → (iW By Nb 2 Sp) ≤ 0 ∧ -(iW By Nb 2 Sp) ≤ 0 → (iW By Nb 6 Sp) ≤ 0 ∧ -(iW By Nb 6 Sp) ≤ 0 → (iW By Nb 3 Sp) ≤ 0 ∧ -(iW By Nb 3 Sp) ≤ 0 → (iW By Nb 17 Sp) ≤ 0 ∧ -(iW By Nb 17 Sp) ≤ 0 → (iW By Nb 9 Sp) ≤ 0 ∧ -(iW By Nb 9 Sp) ≤ 0 → (iW By Nb 5 Sp) ≤ 0 ∧ -(iW By Nb 5 Sp) ≤ 0 → (iW By Nb 1 Sp) ≤ 0 ∧ -(iW By Nb 1 Sp) ≤ 0 → KF σ0 σ284 → ML By Nb σ284 Sp → gN2 By Nb (gN1 By Nb Sp) = Sp → En 9 200 none mr_302 (P_302x σ0 By Nb Sp f k) 386 [(0, .ref 159)] [] σ284 := by
  obtain ⟨hl_f, hu_f⟩ := WT_int hσ0 (g := 35) (by decide +kernel) (by decide +kernel) (l := 0) (u := 1600) (by decide +kernel) h_f
  obtain ⟨hl_k, hu_k⟩ := WT_int hσ0 (g := 35) (by decide +kernel) (by decide +kernel) (l := 0) (u := 3) (by decide +kernel) h_k
  have hF0 : Fr [(35, 8), (35, 9), (35, 10), (35, 11), (35, 12), (35, 13), (41, 0)] σ0 σ0 := Fr_rfl
  intro σ284 y287 y291 y295 h285 h286 h288 h289 h290 h292 h293 h294 h296 h297 h298 h299 h300 h301 h302 h303 h304 h305 h306 h307 h308 h309 h310 h311
  have h312 := ML_k h310 h292
  have h313 := ML_w h310 hg h288 (by omega) (by omega)
  refine En_Ps 1 (pc' := 387) (lv' := [(0, .ref 159)]) (st' := [.ref 159]) rfl ?_
  refine En_callV rfl rfl rfl rfl rfl rfl rfl rfl (by decide +kernel : TG 159 = 35) (by decide +kernel) rfl (c_189x σ284 h285 y295 h296 h310.1 (ML_at h310 (by omega) h296)) (by decide) (by decide) (fun v315 σ316 h314 => ?_)
  obtain ⟨h317, h318, z320, h321, z322, h323, rfl, h319⟩ := h314
  have h324 := h319.2.2.2.2.2.2.2.2.2.2
  have h325 := Fr_trans h286 h318 (by decide +kernel)
  have h326 := KF_fr h309 h318 (by decide +kernel)
  obtain ⟨S327, h328⟩ : ∃ q : PS, q = adv By Nb Sp := ⟨_, rfl⟩
  have h329 : ML By Nb σ316 S327 := by rw [h328]; exact (ML_adv h310 (by omega) h296 h318 (by decide +kernel) h324.2)
  have h330 := ML_k h329 ((h318 _ _ (inW (by decide +kernel : TG 159 = 35) (by decide +kernel))).trans h292)
  have h331 : Imp (S327.1 = 0) (tK By Nb S327.2.2.1 = z322.toInt) := ML_t h329 h323
  have h332 : S327.2.2.2 = Sp.2.2.2 := by rw [h328]; exact adv_w
  have h333 : S327.1 = 0 := by rw [h328, adv_1]; omega
  have h334 : S327.2.2.2 0 = Sp.2.2.2 0 := by rw [h332]
  have h335 : S327.2.2.2 5 = Sp.2.2.2 5 := by rw [h332]
  refine En_Ps 3 (pc' := 393) (lv' := [(0, .ref 159)]) (st' := [.ref 159, .int ((Int32.ofInt 0)), .ref 159]) rfl ?_
  refine En_getU (j := 14) (u := 165) (g' := 41) (q := 0) rfl rfl rfl (by decide +kernel : TG 159 = 35) (by decide +kernel) h317 (by decide +kernel) (by decide +kernel) (fun h336 => ?_)
  refine En_Ps 1 (pc' := 397) (lv' := [(0, .ref 159)]) (st' := [.int ((Int32.ofInt 5)), .ref 165, .int ((Int32.ofInt 0)), .ref 159]) rfl ?_
  refine En_ialdK ((h318 _ _ (inWa (by decide +kernel : TG 165 = 41) (by decide +kernel))).trans h288) rfl (by decide : (Int32.ofInt 5).toInt = 5) (by decide +kernel : TG 165 = 41) (by decide +kernel) h317 (by omega) (lnI (by decide +kernel : LN _ = 226) (by omega)) ?_
  refine En_Ps 2 (pc' := 400) (lv' := [(0, .ref 159)]) (st' := [.int ((y287 - ((Int32.ofInt 1)))), .int ((Int32.ofInt 0)), .ref 159]) rfl ?_
  refine En_top (subI rfl (by decide : (Int32.ofInt 1).toInt = 1) (by omega) (by omega)) (fun z339 h340 => ?_)
  obtain ⟨z342, h341, h343, h344⟩ := WT_peekI h317 (by decide +kernel : TG 159 = 35) (by decide +kernel : FT 35 11 = (0, 0, 99999)) (by decide +kernel)
  have := (by decide : ((Int32.ofInt 0)).toInt = 0)
  refine En_callV rfl rfl rfl rfl rfl rfl rfl rfl (by decide +kernel : TG 159 = 35) (by decide +kernel) rfl (c_288x σ316 h317 ((Int32.ofInt 0)) z339 (geI (by decide : (Int32.ofInt 0).toInt = 0) (by omega)) (leI (by decide : (Int32.ofInt 0).toInt = 0) (by omega)) (geI rfl (by omega)) (leI rfl (by omega)) z320 h321 y291 ((h318 _ _ (inW (by decide +kernel : TG 159 = 35) (by decide +kernel))).trans h292) z322 h323 z342 h341 h329) (by decide) (by decide) (fun v346 σ347 h345 => ?_)
  obtain ⟨h348, h349, z351, h352, z353, h354, z355, rfl, h350⟩ := h345
  have h356 := h350.2.2.2.2.2.2.2.2.2.2.2.2.2.2.2.2.2.2.2.2.2.2.2.2.2.2.2.2
  have h357 := Fr_trans h325 h349 (by decide +kernel)
  have h358 := KF_fr h326 h349 (by decide +kernel)
  have h359 : tN By Nb ((Int32.ofInt 0)).toInt z339.toInt S327 = tN By Nb (0) (S327.2.2.2 5 - 1) S327 := tN_cg2 (fun zz => by have j1 := Imp_m h331 zz; omega) (fun zz => by have j1 := Imp_m h331 zz; omega)
  obtain ⟨S360, h361⟩ : ∃ q : PS, q = tN By Nb (0) (S327.2.2.2 5 - 1) S327 := ⟨_, rfl⟩
  have h362 : ML By Nb σ347 S360 := by rw [h361]; exact (ML_eq h356.1 h359)
  have h363 := ML_k h362 h354
  have h364 : Imp (S360.1 = 0) (z355.toInt = tV By Nb S327.2.2.1) := fun z => h356.2 (by rw [h359, ← h361]; exact z)
  have h365 : Imp (S360.1 = 0) (S327.1 = 0 ∧ tK By Nb S327.2.2.1 = 2 ∧ 0 ≤ tV By Nb S327.2.2.1 ∧ tV By Nb S327.2.2.1 ≤ S327.2.2.2 5 - 1) := fun z => tN_gg (by rw [← h361]; exact z)
  have h366 : S360.2.2.2 = S327.2.2.2 := by rw [h361]; exact tN_w
  have h367 := Imp_m h350.2.2.2.2.2.2.2.2.2.2.2.2.2.2.2.2.2.2.2.2.2.2.2.1 (by omega)
  have h368 := Imp_m h350.2.2.2.2.2.2.2.2.2.2.2.2.2.2.2.2.2.2.2.2.2.2.2.2.1 (by omega)
  refine En_Ps 5 (pc' := 408) (lv' := [(2, .int z355), (0, .ref 159)]) (st' := [.int ((z355 + ((Int32.ofInt 1)))), .ref 159]) rfl ?_
  refine En_top (addI rfl (by decide : (Int32.ofInt 1).toInt = 1) (by omega) (by omega)) (fun z369 h370 => ?_)
  refine En_Ps 1 (pc' := 409) (lv' := [(2, .int z355), (0, .ref 159)]) (st' := [.ref 159, .int z369, .ref 159]) rfl ?_
  refine En_getK (j := 14) ((h349 _ _ (inW (by decide +kernel : TG 159 = 35) (by decide +kernel))).trans h336) rfl rfl rfl (by decide +kernel : TG 159 = 35) (by decide +kernel) ?_
  refine En_Ps 1 (pc' := 413) (lv' := [(2, .int z355), (0, .ref 159)]) (st' := [.int ((Int32.ofInt 5)), .ref 165, .int z369, .ref 159]) rfl ?_
  refine En_ialdK ((h349 _ _ (inWa (by decide +kernel : TG 165 = 41) (by decide +kernel))).trans ((h318 _ _ (inWa (by decide +kernel : TG 165 = 41) (by decide +kernel))).trans h288)) rfl (by decide : (Int32.ofInt 5).toInt = 5) (by decide +kernel : TG 165 = 41) (by decide +kernel) h348 (by omega) (lnI (by decide +kernel : LN _ = 226) (by omega)) ?_
  refine En_Ps 2 (pc' := 416) (lv' := [(2, .int z355), (0, .ref 159)]) (st' := [.int ((y287 - ((Int32.ofInt 1)))), .int z369, .ref 159]) rfl ?_
  refine En_top (subI rfl (by decide : (Int32.ofInt 1).toInt = 1) (by omega) (by omega)) (fun z372 h373 => ?_)
  obtain ⟨z375, h374, h376, h377⟩ := WT_peekI h348 (by decide +kernel : TG 159 = 35) (by decide +kernel : FT 35 10 = (0, 0, 4)) (by decide +kernel)
  obtain ⟨z379, h378, h380, h381⟩ := WT_peekI h348 (by decide +kernel : TG 159 = 35) (by decide +kernel : FT 35 11 = (0, 0, 99999)) (by decide +kernel)
  refine En_callV rfl rfl rfl rfl rfl rfl rfl rfl (by decide +kernel : TG 159 = 35) (by decide +kernel) rfl (c_288x σ347 h348 z369 z372 (geI rfl (by omega)) (leI rfl (by omega)) (geI rfl (by omega)) (leI rfl (by omega)) z351 h352 z353 h354 z375 h374 z379 h378 h362) (by decide) (by decide) (fun v383 σ384 h382 => ?_)
  obtain ⟨h385, h386, z388, h389, z390, h391, z392, rfl, h387⟩ := h382
  have h393 := h387.2.2.2.2.2.2.2.2.2.2.2.2.2.2.2.2.2.2.2.2.2.2.2.2.2.2.2.2
  have h394 := Fr_trans h357 h386 (by decide +kernel)
  have h395 := KF_fr h358 h386 (by decide +kernel)
  have h396 : tN By Nb z369.toInt z372.toInt S360 = tN By Nb ((tV By Nb S327.2.2.1) + 1) (S327.2.2.2 5 - 1) S360 := tN_cg2 (fun zz => by have j1 := Imp_m h364 zz; have j2 := Imp_m h365 zz; have j3 := Imp_m h331 j2.1; omega) (fun zz => by have j1 := Imp_m h364 zz; have j2 := Imp_m h365 zz; have j3 := Imp_m h331 j2.1; omega)
  obtain ⟨S397, h398⟩ : ∃ q : PS, q = tN By Nb ((tV By Nb S327.2.2.1) + 1) (S327.2.2.2 5 - 1) S360 := ⟨_, rfl⟩
  have h399 : ML By Nb σ384 S397 := by rw [h398]; exact (ML_eq h393.1 h396)
  have h400 := ML_k h399 h391
  have h401 : Imp (S397.1 = 0) (z392.toInt = tV By Nb S360.2.2.1) := fun z => h393.2 (by rw [h396, ← h398]; exact z)
  have h402 : Imp (S397.1 = 0) (S360.1 = 0 ∧ tK By Nb S360.2.2.1 = 2 ∧ (tV By Nb S327.2.2.1) + 1 ≤ tV By Nb S360.2.2.1 ∧ tV By Nb S360.2.2.1 ≤ S327.2.2.2 5 - 1) := fun z => tN_gg (by rw [← h398]; exact z)
  have h403 : S397.2.2.2 = S360.2.2.2 := by rw [h398]; exact tN_w
  have h404 := Imp_m h387.2.2.2.2.2.2.2.2.2.2.2.2.2.2.2.2.2.2.2.2.2.2.2.2.1 (by omega)
  refine En_Ps 2 (pc' := 421) (lv' := [(3, .int z392), (2, .int z355), (0, .ref 159)]) (st' := [.ref 159]) rfl ?_
  refine En_callV rfl rfl rfl rfl rfl rfl rfl rfl (by decide +kernel : TG 159 = 35) (by decide +kernel) rfl (c_237 σ384 h385 z390 h391) (by decide) (by decide) (fun v406 σ407 h405 => ?_)
  obtain ⟨h408, h409, z411, rfl, h410⟩ := h405
  obtain rfl : σ384 = σ407 := Fr_nil h409
  refine En_iEq _ rfl rfl (fun h412 => ?_) (fun h412 => ?_)
  · have h413 := Imp_m h410.2.2.2 (by omega)
    exact En_ret (v := none) rfl rfl rfl ⟨h385, h394, z388, h389, z390, h391, rfl, ⟨by omega, by omega, by omega, by omega, by omega, by omega, by omega, by omega, by omega, by omega, by omega, by omega, by omega, fun _ => by omega, ⟨h395, ML_eq h399 (by subst h398; subst h361; subst h328; rw [gNx_0 h311 hg (by omega) (by omega) (by omega) (by omega) (by omega) (by omega) (by omega)]; unfold gAhead; (try dsimp only); first | done | (rw [if_pos (by omega)]; first | done | rfl) | (rw [if_neg (by omega)]; first | done | rfl))⟩⟩⟩
  · have h414 := Imp_m h410.2.2.1 (by omega)
    have h415 := Imp_m h350.2.2.2.2.2.2.2.2.2.2.2.2.2.2.2.2.2.2.2.2.2.2.2.2.2.2.2.1 (by omega)
    have h416 := Imp_m h387.2.2.2.2.2.2.2.2.2.2.2.2.2.2.2.2.2.2.2.2.2.2.2.2.2.1 (by omega)
    have h417 := Imp_m h387.2.2.2.2.2.2.2.2.2.2.2.2.2.2.2.2.2.2.2.2.2.2.2.2.2.2.2.1 (by omega)
    have h418 := Imp_m h319.2.2.2.2.2.2.2.2.2.1 (by omega)
    have h419 := Imp_m h350.2.2.2.2.2.2.2.2.2.2.2.2.2.2.2.2.2.2.2.2.2.2.2.2.2.1 (by omega)
    have h420 : S397.1 = 0 := by omega
    have h421 := Imp_m h401 h420
    have h422 := Imp_m h402 h420
    have h423 := Imp_m h364 h422.1
    have h424 := Imp_m h365 h422.1
    have h425 := Imp_m h331 h424.1
    refine En_Ps 1 (pc' := 428) (lv' := [(3, .int z392), (2, .int z355), (0, .ref 159)]) (st' := [.ref 159]) rfl ?_
    refine En_getK (j := 14) ((h386 _ _ (inW (by decide +kernel : TG 159 = 35) (by decide +kernel))).trans ((h349 _ _ (inW (by decide +kernel : TG 159 = 35) (by decide +kernel))).trans h336)) rfl rfl rfl (by decide +kernel : TG 159 = 35) (by decide +kernel) ?_
    refine En_Ps 4 (pc' := 437) (lv' := [(3, .int z392), (2, .int z355), (0, .ref 159)]) (st' := [.int ((((Int32.ofInt 2)) * z392)), .int (((Int16.ofInt 154).toInt32)), .ref 165]) rfl ?_
    refine En_top (mulI (by decide : (Int32.ofInt 2).toInt = 2) rfl (Z := 2 * z392.toInt) (by omega) (by omega) (by omega)) (fun z426 h427 => ?_)
    refine En_Ps 1 (pc' := 438) (lv' := [(3, .int z392), (2, .int z355), (0, .ref 159)]) (st' := [.int (((((Int16.ofInt 154).toInt32)) + z426)), .ref 165]) rfl ?_
    refine En_top (addI (by decide : ((Int16.ofInt 154).toInt32).toInt = 154) rfl (by omega) (by omega)) (fun z428 h429 => ?_)
    refine En_Ps 2 (pc' := 440) (lv' := [(3, .int z392), (2, .int z355), (0, .ref 159)]) (st' := [.int ((z428 + ((Int32.ofInt 1)))), .ref 165]) rfl ?_
    refine En_top (addI rfl (by decide : (Int32.ofInt 1).toInt = 1) (by omega) (by omega)) (fun z430 h431 => ?_)
    refine En_Ps 1 (pc' := 441) (lv' := [(3, .int z392), (2, .int z355), (0, .ref 159)]) (st' := [.int z430, .ref 165, .int z430, .ref 165]) rfl ?_
    refine En_iald (l := 0) (u := 63) rfl rfl (by decide +kernel : TG 165 = 41) (by decide +kernel) h385 (by omega) (lnI (by decide +kernel : LN _ = 226) (by omega)) (FTrow 41 157 2 5 (by decide +kernel) (by omega) (by omega) (by omega)) (fun z433 h432 h434 h435 => ?_)
    have h436 : S397.2.2.2 (155 + 2 * (tV By Nb S360.2.2.1)) = z433.toInt := ML_wi h399 (by omega) h432 (by omega) (by omega) (by omega)
    rw [h403, h366] at h436
    refine En_Ps 4 (pc' := 446) (lv' := [(3, .int z392), (2, .int z355), (0, .ref 159)]) (st' := [.int ((z433 ||| ((Int32.ofInt 1) <<< (z355 &&& 31)))), .int z430, .ref 165]) rfl ?_
    refine En_nam (fun z437 h438 => ?_)
    have h439 := orP_v (x := z433) (y := z355) h438 rfl rfl (by omega) (by omega) (by omega) (by omega)
    have h440 : z437.toInt = orP (S327.2.2.2 (155 + 2 * (tV By Nb S360.2.2.1))) (tV By Nb S327.2.2.1) := by rw [h439.1]; exact orP_cg (by omega) (by omega)
    refine En_iast (l := 0) (u := 63) rfl rfl (by decide +kernel : TG 165 = 41) (by decide +kernel) (by omega) (lnI (by decide +kernel : LN _ = 226) (by omega)) (FTrow 41 157 2 5 (by decide +kernel) (by omega) (by omega) (by omega)) (rngI rfl (by omega) (by omega)) h385 h394 (by decide +kernel) (fun σ441 h442 h443 h444 h445 => ?_)
    have h446 := KF_st h395 (J := z430.toInt) h445 (by omega) (by omega)
    obtain ⟨S447, h448⟩ : ∃ q : PS, q = wst S397 (155 + 2 * (tV By Nb S360.2.2.1)) (orP (S327.2.2.2 (155 + 2 * (tV By Nb S360.2.2.1))) (tV By Nb S327.2.2.1)) := ⟨_, rfl⟩
    have h449 : ML By Nb σ441 S447 := by rw [h448]; exact (ML_wst (i := 155 + 2 * (tV By Nb S360.2.2.1)) (v := orP (S327.2.2.2 (155 + 2 * (tV By Nb S360.2.2.1))) (tV By Nb S327.2.2.1)) h399 h444 h445 (by omega) (fun z => by have j1 := Imp_m h401 z; have j2 := Imp_m h402 z; have j3 := Imp_m h364 j2.1; have j4 := Imp_m h365 j2.1; have j5 := Imp_m h331 j4.1; exact ⟨by omega, by omega⟩))
    have h450 := ML_k h449 ((h445 _ _ (Or.inl (neTG (by decide +kernel : TG 159 = 35) (by decide +kernel : TG 165 = 41) (by decide)))).trans h391)
    have h451 : S447.1 = S397.1 := by rw [h448]; rfl
    exact En_ret (v := none) rfl rfl rfl ⟨h442, h443, z388, ((h445 _ _ (Or.inl (neTG (by decide +kernel : TG 159 = 35) (by decide +kernel : TG 165 = 41) (by decide)))).trans h389), z390, ((h445 _ _ (Or.inl (neTG (by decide +kernel : TG 159 = 35) (by decide +kernel : TG 165 = 41) (by decide)))).trans h391), rfl, ⟨by omega, by omega, by omega, by omega, by omega, by omega, by omega, by omega, by omega, by omega, by omega, by omega, by omega, fun _ => by omega, ⟨h446, ML_eq h449 (by subst h448; subst h398; subst h361; subst h328; rw [gNx_0 h311 hg (by omega) (by omega) (by omega) (by omega) (by omega) (by omega) (by omega)]; unfold gAhead; (try dsimp only); first | done | (rw [if_pos (by omega)]; first | done | rfl) | (rw [if_neg (by omega)]; first | done | rfl))⟩⟩⟩
set_option maxRecDepth 10000 in
set_option maxHeartbeats 4000000 in
theorem k_302x_170 {By : Int → Int} {Nb : Int} {Sp : PS} (σ0 : SG) (hσ0 : WT σ0) (f : Int32) (h_f : (σ0 159)[8]? = some (.int f)) (k : Int32) (h_k : (σ0 159)[12]? = some (.int k)) (hM : ML By Nb σ0 Sp) (hg : Sp.1 = 0) : ∀ (σ452 : SG) (y455 : Int32) (y459 : Int32) (y463 : Int32) (y467 : Int32) (y471 : Int32) (y475 : Int32), WT σ452 → Fr [(35, 8), (35, 9), (35, 10), (35, 11), (35, 12), (35, 13), (41, 0)] σ0 σ452 → (σ452 165)[(2 : Int).toNat]? = some (.int y455) → 0 ≤ y455.toInt → y455.toInt ≤ 4 → (σ452 165)[(3 : Int).toNat]? = some (.int y459) → 0 ≤ y459.toInt → y459.toInt ≤ 12 → (σ452 165)[(4 : Int).toNat]? = some (.int y463) → 0 ≤ y463.toInt → y463.toInt ≤ 4 → (σ452 165)[(5 : Int).toNat]? = some (.int y467) → 0 ≤ y467.toInt → y467.toInt ≤ 6 → (σ452 159)[12]? = some (.int y471) → 0 ≤ y471.toInt → y471.toInt ≤ 3 → (σ452 159)[8]? = some (.int y475) → 0 ≤ y475.toInt → y475.toInt ≤ 1600 → f.toInt - y475.toInt ≤ 0 → (y471.toInt ≤ 0 → k.toInt ≤ 0) → (y471.toInt ≤ 0 ∧ -(iW By Nb 2 Sp) + 1 ≤ 0 → y455.toInt - 3 ≤ 0) → (y471.toInt ≤ 0 ∧ -(iW By Nb 3 Sp) + 1 ≤ 0 → y459.toInt - 11 ≤ 0) → (y471.toInt ≤ 0 ∧ -(iW By Nb 5 Sp) + 1 ≤ 0 → y463.toInt - 3 ≤ 0) → (y471.toInt ≤ 0 ∧ -(iW By Nb 1 Sp) + 1 ≤ 0 → y467.toInt - 5 ≤ 0) → KF σ0 σ452 → ML By Nb σ452 (gN2 By Nb (gN1 By Nb Sp)) → En 9 200 none mr_302 (P_302x σ0 By Nb Sp f k) 170 [(0, .ref 159)] [] σ452 := by
  obtain ⟨hl_f, hu_f⟩ := WT_int hσ0 (g := 35) (by decide +kernel) (by decide +kernel) (l := 0) (u := 1600) (by decide +kernel) h_f
  obtain ⟨hl_k, hu_k⟩ := WT_int hσ0 (g := 35) (by decide +kernel) (by decide +kernel) (l := 0) (u := 3) (by decide +kernel) h_k
  have hF0 : Fr [(35, 8), (35, 9), (35, 10), (35, 11), (35, 12), (35, 13), (41, 0)] σ0 σ0 := Fr_rfl
  have keyj219 := k_302x_219 σ0 hσ0 f h_f k h_k hM hg
  have keyj309 := k_302x_309 σ0 hσ0 f h_f k h_k hM hg
  have keyj347 := k_302x_347 σ0 hσ0 f h_f k h_k hM hg
  have keyj386 := k_302x_386 σ0 hσ0 f h_f k h_k hM hg
  intro σ452 y455 y459 y463 y467 y471 y475 h453 h454 h456 h457 h458 h460 h461 h462 h464 h465 h466 h468 h469 h470 h472 h473 h474 h476 h477 h478 h479 h480 h481 h482 h483 h484 h485 h486
  have h487 := ML_k h486 h472
  refine En_Ps 1 (pc' := 171) (lv' := [(0, .ref 159)]) (st' := [.ref 159]) rfl ?_
  refine En_callV rfl rfl rfl rfl rfl rfl rfl rfl (by decide +kernel : TG 159 = 35) (by decide +kernel) rfl (c_237 σ452 h453 y471 h472) (by decide) (by decide) (fun v489 σ490 h488 => ?_)
  obtain ⟨h491, h492, z494, rfl, h493⟩ := h488
  obtain rfl : σ452 = σ490 := Fr_nil h492
  refine En_iNe _ rfl rfl (fun h495 => ?_) (fun h495 => ?_)
  · have h496 := Imp_m h493.2.2.1 (by omega)
    have h497 : gN2 By Nb (gN1 By Nb Sp) = Sp := gN12_id (by omega)
    have h498 : ML By Nb σ452 Sp := ML_eq h486 h497
    have h500 := ML_k h498 h472
    have h501 := ML_w h498 hg h456 (by omega) (by omega)
    have h502 := ML_w h498 hg h460 (by omega) (by omega)
    have h503 := ML_w h498 hg h464 (by omega) (by omega)
    have h504 := ML_w h498 hg h468 (by omega) (by omega)
    refine En_Ps 1 (pc' := 179) (lv' := [(0, .ref 159)]) (st' := [.ref 159]) rfl ?_
    refine En_ldcS (i := 2) rfl rfl rfl ?_
    refine En_callV rfl rfl rfl rfl rfl rfl rfl rfl (by decide +kernel : TG 159 = 35) (by decide +kernel) rfl (c_318s2x σ452 h453 y475 h476 h498) (by decide) (by decide) (fun v506 σ507 h505 => ?_)
    obtain ⟨h508, h509, z511, h512, z513, rfl, h510⟩ := h505
    have h514 := h510.2.2.2.2.2.2.2
    have h515 := Fr_trans h454 h509 (by decide +kernel)
    have h516 := KF_fr h485 h509 (by decide +kernel)
    have h517 := h514.2.1
    refine En_iEq _ rfl rfl (fun h518 => ?_) (fun h518 => ?_)
    · obtain rfl : σ452 = σ507 := h514.1 (by omega)
      refine En_Ps 1 (pc' := 195) (lv' := [(0, .ref 159)]) (st' := [.ref 159]) rfl ?_
      refine En_ldcS (i := 6) rfl rfl rfl ?_
      refine En_callV rfl rfl rfl rfl rfl rfl rfl rfl (by decide +kernel : TG 159 = 35) (by decide +kernel) rfl (c_318s6x σ452 h453 y475 h476 h498) (by decide) (by decide) (fun v520 σ521 h519 => ?_)
      obtain ⟨h522, h523, z525, h526, z527, rfl, h524⟩ := h519
      have h528 := h524.2.2.2.2.2.2.2
      have h529 := Fr_trans h454 h523 (by decide +kernel)
      have h530 := KF_fr h485 h523 (by decide +kernel)
      have h531 := h528.2.1
      refine En_iEq _ rfl rfl (fun h532 => ?_) (fun h532 => ?_)
      · obtain rfl : σ452 = σ521 := h528.1 (by omega)
        refine En_Ps 1 (pc' := 211) (lv' := [(0, .ref 159)]) (st' := [.ref 159]) rfl ?_
        refine En_ldcS (i := 3) rfl rfl rfl ?_
        refine En_callV rfl rfl rfl rfl rfl rfl rfl rfl (by decide +kernel : TG 159 = 35) (by decide +kernel) rfl (c_318s3x σ452 h453 y475 h476 h498) (by decide) (by decide) (fun v534 σ535 h533 => ?_)
        obtain ⟨h536, h537, z539, h540, z541, rfl, h538⟩ := h533
        have h542 := h538.2.2.2.2.2.2.2
        have h543 := Fr_trans h454 h537 (by decide +kernel)
        have h544 := KF_fr h485 h537 (by decide +kernel)
        have h545 := h542.2.1
        refine En_iEq _ rfl rfl (fun h546 => ?_) (fun h546 => ?_)
        · obtain rfl : σ452 = σ535 := h542.1 (by omega)
          refine En_Ps 1 (pc' := 267) (lv' := [(0, .ref 159)]) (st' := [.ref 159]) rfl ?_
          refine En_ldcS (i := 17) rfl rfl rfl ?_
          refine En_callV rfl rfl rfl rfl rfl rfl rfl rfl (by decide +kernel : TG 159 = 35) (by decide +kernel) rfl (c_318s17x σ452 h453 y475 h476 h498) (by decide) (by decide) (fun v548 σ549 h547 => ?_)
          obtain ⟨h550, h551, z553, h554, z555, rfl, h552⟩ := h547
          have h556 := h552.2.2.2.2.2.2.2
          have h557 := Fr_trans h454 h551 (by decide +kernel)
          have h558 := KF_fr h485 h551 (by decide +kernel)
          have h559 := h556.2.1
          refine En_iEq _ rfl rfl (fun h560 => ?_) (fun h560 => ?_)
          · obtain rfl : σ452 = σ549 := h556.1 (by omega)
            refine En_Ps 1 (pc' := 283) (lv' := [(0, .ref 159)]) (st' := [.ref 159]) rfl ?_
            refine En_ldcS (i := 9) rfl rfl rfl ?_
            refine En_callV rfl rfl rfl rfl rfl rfl rfl rfl (by decide +kernel : TG 159 = 35) (by decide +kernel) rfl (c_318s9x σ452 h453 y475 h476 h498) (by decide) (by decide) (fun v562 σ563 h561 => ?_)
            obtain ⟨h564, h565, z567, h568, z569, rfl, h566⟩ := h561
            have h570 := h566.2.2.2.2.2.2.2
            have h571 := Fr_trans h454 h565 (by decide +kernel)
            have h572 := KF_fr h485 h565 (by decide +kernel)
            have h573 := h570.2.1
            refine En_iEq _ rfl rfl (fun h574 => ?_) (fun h574 => ?_)
            · obtain rfl : σ452 = σ563 := h570.1 (by omega)
              refine En_Ps 1 (pc' := 301) (lv' := [(0, .ref 159)]) (st' := [.ref 159]) rfl ?_
              refine En_ldcS (i := 5) rfl rfl rfl ?_
              refine En_callV rfl rfl rfl rfl rfl rfl rfl rfl (by decide +kernel : TG 159 = 35) (by decide +kernel) rfl (c_318s5x σ452 h453 y475 h476 h498) (by decide) (by decide) (fun v576 σ577 h575 => ?_)
              obtain ⟨h578, h579, z581, h582, z583, rfl, h580⟩ := h575
              have h584 := h580.2.2.2.2.2.2.2
              have h585 := Fr_trans h454 h579 (by decide +kernel)
              have h586 := KF_fr h485 h579 (by decide +kernel)
              have h587 := h584.2.1
              refine En_iEq _ rfl rfl (fun h588 => ?_) (fun h588 => ?_)
              · obtain rfl : σ452 = σ577 := h584.1 (by omega)
                refine En_Ps 1 (pc' := 339) (lv' := [(0, .ref 159)]) (st' := [.ref 159]) rfl ?_
                refine En_ldcS (i := 1) rfl rfl rfl ?_
                refine En_callV rfl rfl rfl rfl rfl rfl rfl rfl (by decide +kernel : TG 159 = 35) (by decide +kernel) rfl (c_318s1x σ452 h453 y475 h476 h498) (by decide) (by decide) (fun v590 σ591 h589 => ?_)
                obtain ⟨h592, h593, z595, h596, z597, rfl, h594⟩ := h589
                have h598 := h594.2.2.2.2.2.2.2
                have h599 := Fr_trans h454 h593 (by decide +kernel)
                have h600 := KF_fr h485 h593 (by decide +kernel)
                have h601 := h598.2.1
                refine En_iEq _ rfl rfl (fun h602 => ?_) (fun h602 => ?_)
                · exact keyj386 σ591 y467 y471 z595 h592 h599 ((h593 _ _ (inWa (by decide +kernel : TG 165 = 41) (by decide +kernel))).trans h468) (by omega) (by omega) ((h593 _ _ (inW (by decide +kernel : TG 159 = 35) (by decide +kernel))).trans h472) (by omega) (by omega) h596 (by omega) (by omega) (by omega) (by omega) (by omega) (by omega) (by omega) (by omega) (by omega) (by omega) (by omega) (by omega) (h600) ((h598.1 (by omega)) ▸ h498) (h497)
                · exact keyj347 σ591 y467 y471 z595 h592 h599 ((h593 _ _ (inWa (by decide +kernel : TG 165 = 41) (by decide +kernel))).trans h468) (by omega) (by omega) ((h593 _ _ (inW (by decide +kernel : TG 159 = 35) (by decide +kernel))).trans h472) (by omega) (by omega) h596 (by omega) (by omega) (by omega) (by omega) (by omega) (by omega) (by omega) (by omega) (by omega) (by omega) (by omega) (by omega) (by omega) (h600) (h598.2.2 (by omega)) (h497)
              · exact keyj309 σ577 y463 y471 z581 h578 h585 ((h579 _ _ (inWa (by decide +kernel : TG 165 = 41) (by decide +kernel))).trans h464) (by omega) (by omega) ((h579 _ _ (inW (by decide +kernel : TG 159 = 35) (by decide +kernel))).trans h472) (by omega) (by omega) h582 (by omega) (by omega) (by omega) (by omega) (by omega) (by omega) (by omega) (by omega) (by omega) (by omega) (by omega) (by omega) (h586) (h584.2.2 (by omega)) (h497)
            · have h603 : Sp.1 = 0 := iW_g (i := 9) (B := By) (n := Nb) (by omega)
              obtain ⟨S604, h605⟩ : ∃ q : PS, q = adv By Nb Sp := ⟨_, rfl⟩
              have h606 : ML By Nb σ563 S604 := by rw [h605]; exact h570.2.2 (by omega)
              have h607 := ML_k h606 ((h565 _ _ (inW (by decide +kernel : TG 159 = 35) (by decide +kernel))).trans h472)
              have h608 : S604.2.2.2 = Sp.2.2.2 := by rw [h605]; exact adv_w
              have h609 : S604.1 = 0 := by rw [h605, adv_1]; exact h603
              have h610 : S604.2.2.2 0 = Sp.2.2.2 0 := by rw [h608]
              have h611 : S604.2.2.2 2 = Sp.2.2.2 2 := by rw [h608]
              have h612 : S604.2.2.2 3 = Sp.2.2.2 3 := by rw [h608]
              have h613 : S604.2.2.2 4 = Sp.2.2.2 4 := by rw [h608]
              have h614 : S604.2.2.2 5 = Sp.2.2.2 5 := by rw [h608]
              refine En_Ps 2 (pc' := 294) (lv' := [(0, .ref 159)]) (st' := [.int (((Int8.ofInt 8).toInt32)), .ref 159]) rfl ?_
              have := (by decide : (((Int8.ofInt 8).toInt32)).toInt = 8)
              refine En_callV rfl rfl rfl rfl rfl rfl rfl rfl (by decide +kernel : TG 159 = 35) (by decide +kernel) rfl (c_303ax σ563 h564 (((Int8.ofInt 8).toInt32)) (geI (by decide : ((Int8.ofInt 8).toInt32).toInt = 8) (by omega)) (leI (by decide : ((Int8.ofInt 8).toInt32).toInt = 8) (by omega)) z567 h568 y471 ((h565 _ _ (inW (by decide +kernel : TG 159 = 35) (by decide +kernel))).trans h472) h606 (by omega)) (by decide) (by decide) (fun v616 σ617 h615 => ?_)
              obtain ⟨h618, h619, z621, h622, z623, h624, rfl, h620⟩ := h615
              have h625 := h620.2.2.2.2.2.2.2.2.2.2.2.2.2.2
              have h626 := Fr_trans h571 h619 (by decide +kernel)
              have h627 := KF_tr h572 (KF_of h625.1)
              obtain ⟨S628, h629⟩ : ∃ q : PS, q = gRule By Nb (8) S604 := ⟨_, rfl⟩
              have h630 : ML By Nb σ617 S628 := by rw [h629]; exact (ML_eq h625.2 (gRule_cg (by omega)))
              have h631 := ML_k h630 h624
              refine En_Ps 1 (pc' := 447) (lv' := [(0, .ref 159)]) (st' := []) rfl ?_
              exact En_ret (v := none) rfl rfl rfl ⟨h618, h626, z621, h622, z623, h624, rfl, ⟨by omega, by omega, by omega, by omega, by omega, by omega, by omega, by omega, by omega, by omega, by omega, by omega, by omega, fun _ => by omega, ⟨h627, ML_eq h630 (by subst h629; subst h605; rw [gNx_9 h497 hg (by omega) (by omega) (by omega) (by omega) (by omega)])⟩⟩⟩
          · have h632 : Sp.1 = 0 := iW_g (i := 17) (B := By) (n := Nb) (by omega)
            obtain ⟨S633, h634⟩ : ∃ q : PS, q = adv By Nb Sp := ⟨_, rfl⟩
            have h635 : ML By Nb σ549 S633 := by rw [h634]; exact h556.2.2 (by omega)
            have h636 := ML_k h635 ((h551 _ _ (inW (by decide +kernel : TG 159 = 35) (by decide +kernel))).trans h472)
            have h637 : S633.2.2.2 = Sp.2.2.2 := by rw [h634]; exact adv_w
            have h638 : S633.1 = 0 := by rw [h634, adv_1]; exact h632
            have h639 : S633.2.2.2 0 = Sp.2.2.2 0 := by rw [h637]
            have h640 : S633.2.2.2 2 = Sp.2.2.2 2 := by rw [h637]
            have h641 : S633.2.2.2 3 = Sp.2.2.2 3 := by rw [h637]
            have h642 : S633.2.2.2 4 = Sp.2.2.2 4 := by rw [h637]
            have h643 : S633.2.2.2 5 = Sp.2.2.2 5 := by rw [h637]
            refine En_Ps 1 (pc' := 276) (lv' := [(0, .ref 159)]) (st' := [.ref 159]) rfl ?_
            refine En_callV rfl rfl rfl rfl rfl rfl rfl rfl (by decide +kernel : TG 159 = 35) (by decide +kernel) rfl (c_304x σ549 h550 z553 h554 y471 ((h551 _ _ (inW (by decide +kernel : TG 159 = 35) (by decide +kernel))).trans h472) h635 (by omega)) (by decide) (by decide) (fun v645 σ646 h644 => ?_)
            obtain ⟨h647, h648, z650, h651, z652, h653, rfl, h649⟩ := h644
            have h654 := h649.2.2.2.2.2.2.2.2.2.2.2.2.2.2
            have h655 := Fr_trans h557 h648 (by decide +kernel)
            have h656 := KF_tr h558 h654.1
            obtain ⟨S657, h658⟩ : ∃ q : PS, q = gTwin By Nb S633 := ⟨_, rfl⟩
            have h659 : ML By Nb σ646 S657 := by rw [h658]; exact h654.2
            have h660 := ML_k h659 h653
            refine En_Ps 1 (pc' := 447) (lv' := [(0, .ref 159)]) (st' := []) rfl ?_
            exact En_ret (v := none) rfl rfl rfl ⟨h647, h655, z650, h651, z652, h653, rfl, ⟨by omega, by omega, by omega, by omega, by omega, by omega, by omega, by omega, by omega, by omega, by omega, by omega, by omega, fun _ => by omega, ⟨h656, ML_eq h659 (by subst h658; subst h634; rw [gNx_17 h497 hg (by omega) (by omega) (by omega) (by omega)])⟩⟩⟩
        · exact keyj219 σ535 y459 y471 z539 h536 h543 ((h537 _ _ (inWa (by decide +kernel : TG 165 = 41) (by decide +kernel))).trans h460) (by omega) (by omega) ((h537 _ _ (inW (by decide +kernel : TG 159 = 35) (by decide +kernel))).trans h472) (by omega) (by omega) h540 (by omega) (by omega) (by omega) (by omega) (by omega) (by omega) (by omega) (by omega) (by omega) (h544) (h542.2.2 (by omega)) (h497)
      · have h661 : Sp.1 = 0 := iW_g (i := 6) (B := By) (n := Nb) (by omega)
        obtain ⟨S662, h663⟩ : ∃ q : PS, q = adv By Nb Sp := ⟨_, rfl⟩
        have h664 : ML By Nb σ521 S662 := by rw [h663]; exact h528.2.2 (by omega)
        have h665 := ML_k h664 ((h523 _ _ (inW (by decide +kernel : TG 159 = 35) (by decide +kernel))).trans h472)
        have h666 : S662.2.2.2 = Sp.2.2.2 := by rw [h663]; exact adv_w
        have h667 : S662.1 = 0 := by rw [h663, adv_1]; exact h661
        have h668 : S662.2.2.2 0 = Sp.2.2.2 0 := by rw [h666]
        have h669 : S662.2.2.2 2 = Sp.2.2.2 2 := by rw [h666]
        have h670 : S662.2.2.2 3 = Sp.2.2.2 3 := by rw [h666]
        have h671 : S662.2.2.2 4 = Sp.2.2.2 4 := by rw [h666]
        have h672 : S662.2.2.2 5 = Sp.2.2.2 5 := by rw [h666]
        refine En_Ps 1 (pc' := 204) (lv' := [(0, .ref 159)]) (st' := [.ref 159]) rfl ?_
        refine En_callV rfl rfl rfl rfl rfl rfl rfl rfl (by decide +kernel : TG 159 = 35) (by decide +kernel) rfl (c_300x σ521 h522 z525 h526 y471 ((h523 _ _ (inW (by decide +kernel : TG 159 = 35) (by decide +kernel))).trans h472) h664 (by omega)) (by decide) (by decide) (fun v674 σ675 h673 => ?_)
        obtain ⟨h676, h677, z679, h680, z681, h682, rfl, h678⟩ := h673
        have h683 := h678.2.2.2.2.2.2.2.2.2.2.2.2.2.2
        have h684 := Fr_trans h529 h677 (by decide +kernel)
        have h685 := KF_tr h530 h683.1
        obtain ⟨S686, h687⟩ : ∃ q : PS, q = gLesson By Nb S662 := ⟨_, rfl⟩
        have h688 : ML By Nb σ675 S686 := by rw [h687]; exact h683.2
        have h689 := ML_k h688 h682
        refine En_Ps 1 (pc' := 447) (lv' := [(0, .ref 159)]) (st' := []) rfl ?_
        exact En_ret (v := none) rfl rfl rfl ⟨h676, h684, z679, h680, z681, h682, rfl, ⟨by omega, by omega, by omega, by omega, by omega, by omega, by omega, by omega, by omega, by omega, by omega, by omega, by omega, fun _ => by omega, ⟨h685, ML_eq h688 (by subst h687; subst h663; rw [gNx_6 h497 hg (by omega) (by omega)])⟩⟩⟩
    · have h690 : Sp.1 = 0 := iW_g (i := 2) (B := By) (n := Nb) (by omega)
      obtain ⟨S691, h692⟩ : ∃ q : PS, q = adv By Nb Sp := ⟨_, rfl⟩
      have h693 : ML By Nb σ507 S691 := by rw [h692]; exact h514.2.2 (by omega)
      have h694 := ML_k h693 ((h509 _ _ (inW (by decide +kernel : TG 159 = 35) (by decide +kernel))).trans h472)
      have h695 : S691.2.2.2 = Sp.2.2.2 := by rw [h692]; exact adv_w
      have h696 : S691.1 = 0 := by rw [h692, adv_1]; exact h690
      have h697 : S691.2.2.2 0 = Sp.2.2.2 0 := by rw [h695]
      have h698 : S691.2.2.2 2 = Sp.2.2.2 2 := by rw [h695]
      have h699 : S691.2.2.2 3 = Sp.2.2.2 3 := by rw [h695]
      have h700 : S691.2.2.2 4 = Sp.2.2.2 4 := by rw [h695]
      have h701 : S691.2.2.2 5 = Sp.2.2.2 5 := by rw [h695]
      refine En_Ps 1 (pc' := 188) (lv' := [(0, .ref 159)]) (st' := [.ref 159]) rfl ?_
      refine En_callV rfl rfl rfl rfl rfl rfl rfl rfl (by decide +kernel : TG 159 = 35) (by decide +kernel) rfl (c_299x σ507 h508 z511 h512 y471 ((h509 _ _ (inW (by decide +kernel : TG 159 = 35) (by decide +kernel))).trans h472) y455 ((h509 _ _ (inWa (by decide +kernel : TG 165 = 41) (by decide +kernel))).trans h456) (by omega) h693 (by omega)) (by decide) (by decide) (fun v703 σ704 h702 => ?_)
      obtain ⟨h705, h706, z708, h709, z710, h711, rfl, h707⟩ := h702
      have h712 := h707.2.2.2.2.2.2.2.2.2.2.2.2.2.2.2.2.2.2
      have h713 := Fr_trans h515 h706 (by decide +kernel)
      have h714 := KF_tr h516 h712.1
      obtain ⟨S715, h716⟩ : ∃ q : PS, q = gDoor By Nb S691 := ⟨_, rfl⟩
      have h717 : ML By Nb σ704 S715 := by rw [h716]; exact h712.2
      have h718 := ML_k h717 h711
      refine En_Ps 1 (pc' := 447) (lv' := [(0, .ref 159)]) (st' := []) rfl ?_
      exact En_ret (v := none) rfl rfl rfl ⟨h705, h713, z708, h709, z710, h711, rfl, ⟨by omega, by omega, by omega, by omega, by omega, by omega, by omega, by omega, by omega, by omega, by omega, by omega, by omega, fun _ => by omega, ⟨h714, ML_eq h717 (by subst h716; subst h692; rw [gNx_2 h497 hg (by omega)])⟩⟩⟩
  · have h719 := Imp_m h493.2.2.2 (by omega)
    exact En_ret (v := none) rfl rfl rfl ⟨h453, h454, y475, h476, y471, h472, rfl, ⟨by omega, by omega, by omega, by omega, by omega, by omega, by omega, by omega, by omega, by omega, by omega, by omega, by omega, fun _ => by omega, ⟨h485, ML_eq h486 (by unfold gNext; dsimp only; rw [if_pos (by omega)])⟩⟩⟩
set_option maxRecDepth 10000 in
set_option maxHeartbeats 4000000 in
theorem k_302x_87 {By : Int → Int} {Nb : Int} {Sp : PS} (σ0 : SG) (hσ0 : WT σ0) (f : Int32) (h_f : (σ0 159)[8]? = some (.int f)) (k : Int32) (h_k : (σ0 159)[12]? = some (.int k)) (hM : ML By Nb σ0 Sp) (hg : Sp.1 = 0) : ∀ (σ720 : SG) (y723 : Int32) (y727 : Int32), WT σ720 → Fr [(35, 8), (35, 9), (35, 10), (35, 11), (35, 12), (35, 13), (41, 0)] σ0 σ720 → (σ720 159)[12]? = some (.int y723) → 0 ≤ y723.toInt → y723.toInt ≤ 3 → (σ720 159)[8]? = some (.int y727) → 0 ≤ y727.toInt → y727.toInt ≤ 1600 → f.toInt - y727.toInt ≤ 0 → (y723.toInt ≤ 0 → k.toInt ≤ 0) → KF σ0 σ720 → ML By Nb σ720 (gN1 By Nb Sp) → En 9 200 none mr_302 (P_302x σ0 By Nb Sp f k) 87 [(0, .ref 159)] [] σ720 := by
  obtain ⟨hl_f, hu_f⟩ := WT_int hσ0 (g := 35) (by decide +kernel) (by decide +kernel) (l := 0) (u := 1600) (by decide +kernel) h_f
  obtain ⟨hl_k, hu_k⟩ := WT_int hσ0 (g := 35) (by decide +kernel) (by decide +kernel) (l := 0) (u := 3) (by decide +kernel) h_k
  have hF0 : Fr [(35, 8), (35, 9), (35, 10), (35, 11), (35, 12), (35, 13), (41, 0)] σ0 σ0 := Fr_rfl
  have keyj170 := k_302x_170 σ0 hσ0 f h_f k h_k hM hg
  intro σ720 y723 y727 h721 h722 h724 h725 h726 h728 h729 h730 h731 h732 h733 h734
  have h735 := ML_k h734 h724
  have h736 : Imp ((gN1 By Nb Sp).1 = 0) (iW By Nb 2 (gN1 By Nb Sp) = iW By Nb 2 Sp) := gN1_iW
  have h737 : Imp ((gN1 By Nb Sp).1 = 0) (iW By Nb 3 (gN1 By Nb Sp) = iW By Nb 3 Sp) := gN1_iW
  have h738 : Imp ((gN1 By Nb Sp).1 = 0) (iW By Nb 5 (gN1 By Nb Sp) = iW By Nb 5 Sp) := gN1_iW
  have h739 : Imp ((gN1 By Nb Sp).1 = 0) (iW By Nb 1 (gN1 By Nb Sp) = iW By Nb 1 Sp) := gN1_iW
  refine En_Ps 1 (pc' := 88) (lv' := [(0, .ref 159)]) (st' := [.ref 159]) rfl ?_
  refine En_ldcS (i := 2) rfl rfl rfl ?_
  refine En_callV rfl rfl rfl rfl rfl rfl rfl rfl (by decide +kernel : TG 159 = 35) (by decide +kernel) rfl (c_251s2x σ720 h721 h734) (by decide) (by decide) (fun v741 σ742 h740 => ?_)
  obtain ⟨h743, h744, z746, rfl, h745⟩ := h740
  have h747 := h745.2.2
  obtain rfl : σ720 = σ742 := Fr_nil h744
  refine En_iEq _ rfl rfl (fun h748 => ?_) (fun h748 => ?_)
  · refine En_Ps 1 (pc' := 107) (lv' := [(0, .ref 159)]) (st' := [.ref 159]) rfl ?_
    refine En_ldcS (i := 3) rfl rfl rfl ?_
    refine En_callV rfl rfl rfl rfl rfl rfl rfl rfl (by decide +kernel : TG 159 = 35) (by decide +kernel) rfl (c_251s3x σ720 h721 h734) (by decide) (by decide) (fun v750 σ751 h749 => ?_)
    obtain ⟨h752, h753, z755, rfl, h754⟩ := h749
    have h756 := h754.2.2
    obtain rfl : σ720 = σ751 := Fr_nil h753
    refine En_iEq _ rfl rfl (fun h757 => ?_) (fun h757 => ?_)
    · refine En_Ps 1 (pc' := 127) (lv' := [(0, .ref 159)]) (st' := [.ref 159]) rfl ?_
      refine En_ldcS (i := 5) rfl rfl rfl ?_
      refine En_callV rfl rfl rfl rfl rfl rfl rfl rfl (by decide +kernel : TG 159 = 35) (by decide +kernel) rfl (c_251s5x σ720 h721 h734) (by decide) (by decide) (fun v759 σ760 h758 => ?_)
      obtain ⟨h761, h762, z764, rfl, h763⟩ := h758
      have h765 := h763.2.2
      obtain rfl : σ720 = σ760 := Fr_nil h762
      refine En_iEq _ rfl rfl (fun h766 => ?_) (fun h766 => ?_)
      · refine En_Ps 1 (pc' := 146) (lv' := [(0, .ref 159)]) (st' := [.ref 159]) rfl ?_
        refine En_ldcS (i := 1) rfl rfl rfl ?_
        refine En_callV rfl rfl rfl rfl rfl rfl rfl rfl (by decide +kernel : TG 159 = 35) (by decide +kernel) rfl (c_251s1x σ720 h721 h734) (by decide) (by decide) (fun v768 σ769 h767 => ?_)
        obtain ⟨h770, h771, z773, rfl, h772⟩ := h767
        have h774 := h772.2.2
        obtain rfl : σ720 = σ769 := Fr_nil h771
        refine En_iEq _ rfl rfl (fun h775 => ?_) (fun h775 => ?_)
        · obtain ⟨z777, h776, h778, h779⟩ := WT_peekI h721 (by decide +kernel : TG 165 = 41) (by decide +kernel : FT 41 (2 : Int).toNat = (0, 0, 4)) (by decide +kernel)
          obtain ⟨z781, h780, h782, h783⟩ := WT_peekI h721 (by decide +kernel : TG 165 = 41) (by decide +kernel : FT 41 (3 : Int).toNat = (0, 0, 12)) (by decide +kernel)
          obtain ⟨z785, h784, h786, h787⟩ := WT_peekI h721 (by decide +kernel : TG 165 = 41) (by decide +kernel : FT 41 (4 : Int).toNat = (0, 0, 4)) (by decide +kernel)
          obtain ⟨z789, h788, h790, h791⟩ := WT_peekI h721 (by decide +kernel : TG 165 = 41) (by decide +kernel : FT 41 (5 : Int).toNat = (0, 0, 6)) (by decide +kernel)
          exact keyj170 σ720 z777 z781 z785 z789 y723 y727 h721 h722 h776 (by omega) (by omega) h780 (by omega) (by omega) h784 (by omega) (by omega) h788 (by omega) (by omega) h724 (by omega) (by omega) h728 (by omega) (by omega) (by omega) (by omega) (by intro hh; have zz : (gN1 By Nb Sp).1 = 0 := (by omega); have j1 := Imp_m h736 zz; have j2 := Imp_m h737 zz; have j3 := Imp_m h738 zz; have j4 := Imp_m h739 zz; omega) (by intro hh; have zz : (gN1 By Nb Sp).1 = 0 := (by omega); have j1 := Imp_m h736 zz; have j2 := Imp_m h737 zz; have j3 := Imp_m h738 zz; have j4 := Imp_m h739 zz; omega) (by intro hh; have zz : (gN1 By Nb Sp).1 = 0 := (by omega); have j1 := Imp_m h736 zz; have j2 := Imp_m h737 zz; have j3 := Imp_m h738 zz; have j4 := Imp_m h739 zz; omega) (by intro hh; have zz : (gN1 By Nb Sp).1 = 0 := (by omega); have j1 := Imp_m h736 zz; have j2 := Imp_m h737 zz; have j3 := Imp_m h738 zz; have j4 := Imp_m h739 zz; omega) (h733) (ML_eq h734 (gN2_neg (by omega)).symm)
        · refine En_Ps 1 (pc' := 155) (lv' := [(0, .ref 159)]) (st' := [.ref 159]) rfl ?_
          refine En_getU (j := 14) (u := 165) (g' := 41) (q := 0) rfl rfl rfl (by decide +kernel : TG 159 = 35) (by decide +kernel) h721 (by decide +kernel) (by decide +kernel) (fun h792 => ?_)
          refine En_Ps 1 (pc' := 159) (lv' := [(0, .ref 159)]) (st' := [.int ((Int32.ofInt 5)), .ref 165]) rfl ?_
          refine En_iald (l := 0) (u := 6) rfl (by decide : (Int32.ofInt 5).toInt = 5) (by decide +kernel : TG 165 = 41) (by decide +kernel) h721 (by omega) (lnI (by decide +kernel : LN _ = 226) (by omega)) (by decide +kernel) (fun z795 h794 h796 h797 => ?_)
          have h799 : (gN1 By Nb Sp).1 = 0 := iW_g (i := 1) (B := By) (n := Nb) (by omega)
          have h798 : (gN1 By Nb Sp).2.2.2 5 = z795.toInt := ML_wi h734 h799 h794 (by omega) (by omega) (by omega)
          refine En_Ps 1 (pc' := 162) (lv' := [(0, .ref 159)]) (st' := [.int (((Int8.ofInt 6).toInt32)), .int z795]) rfl ?_
          refine En_icNe _ rfl (by decide : ((Int8.ofInt 6).toInt32).toInt = 6) rfl (fun h800 => ?_) (fun h800 => ?_)
          · obtain ⟨z802, h801, h803, h804⟩ := WT_peekI h721 (by decide +kernel : TG 165 = 41) (by decide +kernel : FT 41 (2 : Int).toNat = (0, 0, 4)) (by decide +kernel)
            obtain ⟨z806, h805, h807, h808⟩ := WT_peekI h721 (by decide +kernel : TG 165 = 41) (by decide +kernel : FT 41 (3 : Int).toNat = (0, 0, 12)) (by decide +kernel)
            obtain ⟨z810, h809, h811, h812⟩ := WT_peekI h721 (by decide +kernel : TG 165 = 41) (by decide +kernel : FT 41 (4 : Int).toNat = (0, 0, 4)) (by decide +kernel)
            exact keyj170 σ720 z802 z806 z810 z795 y723 y727 h721 h722 h801 (by omega) (by omega) h805 (by omega) (by omega) h809 (by omega) (by omega) h794 (by omega) (by omega) h724 (by omega) (by omega) h728 (by omega) (by omega) (by omega) (by omega) (by intro hh; have zz : (gN1 By Nb Sp).1 = 0 := (by omega); have j1 := Imp_m h736 zz; have j2 := Imp_m h737 zz; have j3 := Imp_m h738 zz; have j4 := Imp_m h739 zz; omega) (by intro hh; have zz : (gN1 By Nb Sp).1 = 0 := (by omega); have j1 := Imp_m h736 zz; have j2 := Imp_m h737 zz; have j3 := Imp_m h738 zz; have j4 := Imp_m h739 zz; omega) (by intro hh; have zz : (gN1 By Nb Sp).1 = 0 := (by omega); have j1 := Imp_m h736 zz; have j2 := Imp_m h737 zz; have j3 := Imp_m h738 zz; have j4 := Imp_m h739 zz; omega) (by intro hh; have zz : (gN1 By Nb Sp).1 = 0 := (by omega); have j1 := Imp_m h736 zz; have j2 := Imp_m h737 zz; have j3 := Imp_m h738 zz; have j4 := Imp_m h739 zz; omega) (h733) (ML_eq h734 (gN2_neg (by omega)).symm)
          · refine En_Ps 2 (pc' := 167) (lv' := [(0, .ref 159)]) (st' := [.int ((Int32.ofInt 3)), .ref 159]) rfl ?_
            have := (by decide : ((Int32.ofInt 3)).toInt = 3)
            refine En_callV rfl rfl rfl rfl rfl rfl rfl rfl (by decide +kernel : TG 159 = 35) (by decide +kernel) rfl (c_223x σ720 h721 ((Int32.ofInt 3)) (geI (by decide : (Int32.ofInt 3).toInt = 3) (by omega)) (leI (by decide : (Int32.ofInt 3).toInt = 3) (by omega)) y723 h724 h734) (by decide) (by decide) (fun v814 σ815 h813 => ?_)
            obtain ⟨h816, h817, z819, h820, rfl, h818⟩ := h813
            have h821 := h818.2.2.2.2.2
            have h822 := Fr_trans h722 h817 (by decide +kernel)
            have h823 := KF_fr h733 h817 (by decide +kernel)
            obtain ⟨S824, h825⟩ : ∃ q : PS, q = err By Nb 3 (gN1 By Nb Sp) := ⟨_, rfl⟩
            have h826 : ML By Nb σ815 S824 := by rw [h825]; exact (ML_eq h821 (err_cg (by omega)))
            have h827 := ML_k h826 h820
            have h828 : S824.2.2.2 = (gN1 By Nb Sp).2.2.2 := by rw [h825]; exact err_w
            obtain ⟨z830, h829, h831, h832⟩ := WT_peekI h816 (by decide +kernel : TG 165 = 41) (by decide +kernel : FT 41 (2 : Int).toNat = (0, 0, 4)) (by decide +kernel)
            obtain ⟨z834, h833, h835, h836⟩ := WT_peekI h816 (by decide +kernel : TG 165 = 41) (by decide +kernel : FT 41 (3 : Int).toNat = (0, 0, 12)) (by decide +kernel)
            obtain ⟨z838, h837, h839, h840⟩ := WT_peekI h816 (by decide +kernel : TG 165 = 41) (by decide +kernel : FT 41 (4 : Int).toNat = (0, 0, 4)) (by decide +kernel)
            exact keyj170 σ815 z830 z834 z838 z795 z819 y727 h816 h822 h829 (by omega) (by omega) h833 (by omega) (by omega) h837 (by omega) (by omega) ((h817 _ _ (inWa (by decide +kernel : TG 165 = 41) (by decide +kernel))).trans h794) (by omega) (by omega) h820 (by omega) (by omega) ((h817 _ _ (inW (by decide +kernel : TG 159 = 35) (by decide +kernel))).trans h728) (by omega) (by omega) (by omega) (by omega) (by omega) (by omega) (by omega) (by omega) (h823) (ML_eq h826 (by subst h825; exact (gN2_pos (by omega)).symm))
      · refine En_Ps 1 (pc' := 136) (lv' := [(0, .ref 159)]) (st' := [.ref 159]) rfl ?_
        refine En_getU (j := 14) (u := 165) (g' := 41) (q := 0) rfl rfl rfl (by decide +kernel : TG 159 = 35) (by decide +kernel) h721 (by decide +kernel) (by decide +kernel) (fun h841 => ?_)
        refine En_Ps 1 (pc' := 140) (lv' := [(0, .ref 159)]) (st' := [.int ((Int32.ofInt 4)), .ref 165]) rfl ?_
        refine En_iald (l := 0) (u := 4) rfl (by decide : (Int32.ofInt 4).toInt = 4) (by decide +kernel : TG 165 = 41) (by decide +kernel) h721 (by omega) (lnI (by decide +kernel : LN _ = 226) (by omega)) (by decide +kernel) (fun z844 h843 h845 h846 => ?_)
        have h848 : (gN1 By Nb Sp).1 = 0 := iW_g (i := 5) (B := By) (n := Nb) (by omega)
        have h847 : (gN1 By Nb Sp).2.2.2 4 = z844.toInt := ML_wi h734 h848 h843 (by omega) (by omega) (by omega)
        refine En_Ps 1 (pc' := 142) (lv' := [(0, .ref 159)]) (st' := [.int ((Int32.ofInt 4)), .int z844]) rfl ?_
        refine En_icEq _ rfl (by decide : (Int32.ofInt 4).toInt = 4) rfl (fun h849 => ?_) (fun h849 => ?_)
        · refine En_Ps 2 (pc' := 167) (lv' := [(0, .ref 159)]) (st' := [.int ((Int32.ofInt 3)), .ref 159]) rfl ?_
          have := (by decide : ((Int32.ofInt 3)).toInt = 3)
          refine En_callV rfl rfl rfl rfl rfl rfl rfl rfl (by decide +kernel : TG 159 = 35) (by decide +kernel) rfl (c_223x σ720 h721 ((Int32.ofInt 3)) (geI (by decide : (Int32.ofInt 3).toInt = 3) (by omega)) (leI (by decide : (Int32.ofInt 3).toInt = 3) (by omega)) y723 h724 h734) (by decide) (by decide) (fun v851 σ852 h850 => ?_)
          obtain ⟨h853, h854, z856, h857, rfl, h855⟩ := h850
          have h858 := h855.2.2.2.2.2
          have h859 := Fr_trans h722 h854 (by decide +kernel)
          have h860 := KF_fr h733 h854 (by decide +kernel)
          obtain ⟨S861, h862⟩ : ∃ q : PS, q = err By Nb 3 (gN1 By Nb Sp) := ⟨_, rfl⟩
          have h863 : ML By Nb σ852 S861 := by rw [h862]; exact (ML_eq h858 (err_cg (by omega)))
          have h864 := ML_k h863 h857
          have h865 : S861.2.2.2 = (gN1 By Nb Sp).2.2.2 := by rw [h862]; exact err_w
          obtain ⟨z867, h866, h868, h869⟩ := WT_peekI h853 (by decide +kernel : TG 165 = 41) (by decide +kernel : FT 41 (2 : Int).toNat = (0, 0, 4)) (by decide +kernel)
          obtain ⟨z871, h870, h872, h873⟩ := WT_peekI h853 (by decide +kernel : TG 165 = 41) (by decide +kernel : FT 41 (3 : Int).toNat = (0, 0, 12)) (by decide +kernel)
          obtain ⟨z875, h874, h876, h877⟩ := WT_peekI h853 (by decide +kernel : TG 165 = 41) (by decide +kernel : FT 41 (5 : Int).toNat = (0, 0, 6)) (by decide +kernel)
          exact keyj170 σ852 z867 z871 z844 z875 z856 y727 h853 h859 h866 (by omega) (by omega) h870 (by omega) (by omega) ((h854 _ _ (inWa (by decide +kernel : TG 165 = 41) (by decide +kernel))).trans h843) (by omega) (by omega) h874 (by omega) (by omega) h857 (by omega) (by omega) ((h854 _ _ (inW (by decide +kernel : TG 159 = 35) (by decide +kernel))).trans h728) (by omega) (by omega) (by omega) (by omega) (by omega) (by omega) (by omega) (by omega) (h860) (ML_eq h863 (by subst h862; exact (gN2_pos (by omega)).symm))
        · refine En_Ps 1 (pc' := 146) (lv' := [(0, .ref 159)]) (st' := [.ref 159]) rfl ?_
          refine En_ldcS (i := 1) rfl rfl rfl ?_
          refine En_callV rfl rfl rfl rfl rfl rfl rfl rfl (by decide +kernel : TG 159 = 35) (by decide +kernel) rfl (c_251s1x σ720 h721 h734) (by decide) (by decide) (fun v879 σ880 h878 => ?_)
          obtain ⟨h881, h882, z884, rfl, h883⟩ := h878
          have h885 := h883.2.2
          obtain rfl : σ720 = σ880 := Fr_nil h882
          refine En_iEq _ rfl rfl (fun h886 => ?_) (fun h886 => ?_)
          · obtain ⟨z888, h887, h889, h890⟩ := WT_peekI h721 (by decide +kernel : TG 165 = 41) (by decide +kernel : FT 41 (2 : Int).toNat = (0, 0, 4)) (by decide +kernel)
            obtain ⟨z892, h891, h893, h894⟩ := WT_peekI h721 (by decide +kernel : TG 165 = 41) (by decide +kernel : FT 41 (3 : Int).toNat = (0, 0, 12)) (by decide +kernel)
            obtain ⟨z896, h895, h897, h898⟩ := WT_peekI h721 (by decide +kernel : TG 165 = 41) (by decide +kernel : FT 41 (5 : Int).toNat = (0, 0, 6)) (by decide +kernel)
            exact keyj170 σ720 z888 z892 z844 z896 y723 y727 h721 h722 h887 (by omega) (by omega) h891 (by omega) (by omega) h843 (by omega) (by omega) h895 (by omega) (by omega) h724 (by omega) (by omega) h728 (by omega) (by omega) (by omega) (by omega) (by intro hh; have zz : (gN1 By Nb Sp).1 = 0 := (by omega); have j1 := Imp_m h736 zz; have j2 := Imp_m h737 zz; have j3 := Imp_m h738 zz; have j4 := Imp_m h739 zz; omega) (by intro hh; have zz : (gN1 By Nb Sp).1 = 0 := (by omega); have j1 := Imp_m h736 zz; have j2 := Imp_m h737 zz; have j3 := Imp_m h738 zz; have j4 := Imp_m h739 zz; omega) (by intro hh; have zz : (gN1 By Nb Sp).1 = 0 := (by omega); have j1 := Imp_m h736 zz; have j2 := Imp_m h737 zz; have j3 := Imp_m h738 zz; have j4 := Imp_m h739 zz; omega) (by intro hh; have zz : (gN1 By Nb Sp).1 = 0 := (by omega); have j1 := Imp_m h736 zz; have j2 := Imp_m h737 zz; have j3 := Imp_m h738 zz; have j4 := Imp_m h739 zz; omega) (h733) (ML_eq h734 (gN2_neg (by omega)).symm)
          · refine En_Ps 1 (pc' := 155) (lv' := [(0, .ref 159)]) (st' := [.ref 159]) rfl ?_
            refine En_getK (j := 14) h841 rfl rfl rfl (by decide +kernel : TG 159 = 35) (by decide +kernel) ?_
            refine En_Ps 1 (pc' := 159) (lv' := [(0, .ref 159)]) (st' := [.int ((Int32.ofInt 5)), .ref 165]) rfl ?_
            refine En_iald (l := 0) (u := 6) rfl (by decide : (Int32.ofInt 5).toInt = 5) (by decide +kernel : TG 165 = 41) (by decide +kernel) h721 (by omega) (lnI (by decide +kernel : LN _ = 226) (by omega)) (by decide +kernel) (fun z900 h899 h901 h902 => ?_)
            have h904 : (gN1 By Nb Sp).1 = 0 := iW_g (i := 1) (B := By) (n := Nb) (by omega)
            have h903 : (gN1 By Nb Sp).2.2.2 5 = z900.toInt := ML_wi h734 h904 h899 (by omega) (by omega) (by omega)
            refine En_Ps 1 (pc' := 162) (lv' := [(0, .ref 159)]) (st' := [.int (((Int8.ofInt 6).toInt32)), .int z900]) rfl ?_
            refine En_icNe _ rfl (by decide : ((Int8.ofInt 6).toInt32).toInt = 6) rfl (fun h905 => ?_) (fun h905 => ?_)
            · obtain ⟨z907, h906, h908, h909⟩ := WT_peekI h721 (by decide +kernel : TG 165 = 41) (by decide +kernel : FT 41 (2 : Int).toNat = (0, 0, 4)) (by decide +kernel)
              obtain ⟨z911, h910, h912, h913⟩ := WT_peekI h721 (by decide +kernel : TG 165 = 41) (by decide +kernel : FT 41 (3 : Int).toNat = (0, 0, 12)) (by decide +kernel)
              exact keyj170 σ720 z907 z911 z844 z900 y723 y727 h721 h722 h906 (by omega) (by omega) h910 (by omega) (by omega) h843 (by omega) (by omega) h899 (by omega) (by omega) h724 (by omega) (by omega) h728 (by omega) (by omega) (by omega) (by omega) (by intro hh; have zz : (gN1 By Nb Sp).1 = 0 := (by omega); have j1 := Imp_m h736 zz; have j2 := Imp_m h737 zz; have j3 := Imp_m h738 zz; have j4 := Imp_m h739 zz; omega) (by intro hh; have zz : (gN1 By Nb Sp).1 = 0 := (by omega); have j1 := Imp_m h736 zz; have j2 := Imp_m h737 zz; have j3 := Imp_m h738 zz; have j4 := Imp_m h739 zz; omega) (by intro hh; have zz : (gN1 By Nb Sp).1 = 0 := (by omega); have j1 := Imp_m h736 zz; have j2 := Imp_m h737 zz; have j3 := Imp_m h738 zz; have j4 := Imp_m h739 zz; omega) (by intro hh; have zz : (gN1 By Nb Sp).1 = 0 := (by omega); have j1 := Imp_m h736 zz; have j2 := Imp_m h737 zz; have j3 := Imp_m h738 zz; have j4 := Imp_m h739 zz; omega) (h733) (ML_eq h734 (gN2_neg (by omega)).symm)
            · refine En_Ps 2 (pc' := 167) (lv' := [(0, .ref 159)]) (st' := [.int ((Int32.ofInt 3)), .ref 159]) rfl ?_
              have := (by decide : ((Int32.ofInt 3)).toInt = 3)
              refine En_callV rfl rfl rfl rfl rfl rfl rfl rfl (by decide +kernel : TG 159 = 35) (by decide +kernel) rfl (c_223x σ720 h721 ((Int32.ofInt 3)) (geI (by decide : (Int32.ofInt 3).toInt = 3) (by omega)) (leI (by decide : (Int32.ofInt 3).toInt = 3) (by omega)) y723 h724 h734) (by decide) (by decide) (fun v915 σ916 h914 => ?_)
              obtain ⟨h917, h918, z920, h921, rfl, h919⟩ := h914
              have h922 := h919.2.2.2.2.2
              have h923 := Fr_trans h722 h918 (by decide +kernel)
              have h924 := KF_fr h733 h918 (by decide +kernel)
              obtain ⟨S925, h926⟩ : ∃ q : PS, q = err By Nb 3 (gN1 By Nb Sp) := ⟨_, rfl⟩
              have h927 : ML By Nb σ916 S925 := by rw [h926]; exact (ML_eq h922 (err_cg (by omega)))
              have h928 := ML_k h927 h921
              have h929 : S925.2.2.2 = (gN1 By Nb Sp).2.2.2 := by rw [h926]; exact err_w
              obtain ⟨z931, h930, h932, h933⟩ := WT_peekI h917 (by decide +kernel : TG 165 = 41) (by decide +kernel : FT 41 (2 : Int).toNat = (0, 0, 4)) (by decide +kernel)
              obtain ⟨z935, h934, h936, h937⟩ := WT_peekI h917 (by decide +kernel : TG 165 = 41) (by decide +kernel : FT 41 (3 : Int).toNat = (0, 0, 12)) (by decide +kernel)
              exact keyj170 σ916 z931 z935 z844 z900 z920 y727 h917 h923 h930 (by omega) (by omega) h934 (by omega) (by omega) ((h918 _ _ (inWa (by decide +kernel : TG 165 = 41) (by decide +kernel))).trans h843) (by omega) (by omega) ((h918 _ _ (inWa (by decide +kernel : TG 165 = 41) (by decide +kernel))).trans h899) (by omega) (by omega) h921 (by omega) (by omega) ((h918 _ _ (inW (by decide +kernel : TG 159 = 35) (by decide +kernel))).trans h728) (by omega) (by omega) (by omega) (by omega) (by omega) (by omega) (by omega) (by omega) (h924) (ML_eq h927 (by subst h926; exact (gN2_pos (by omega)).symm))
    · refine En_Ps 1 (pc' := 116) (lv' := [(0, .ref 159)]) (st' := [.ref 159]) rfl ?_
      refine En_getU (j := 14) (u := 165) (g' := 41) (q := 0) rfl rfl rfl (by decide +kernel : TG 159 = 35) (by decide +kernel) h721 (by decide +kernel) (by decide +kernel) (fun h938 => ?_)
      refine En_Ps 1 (pc' := 120) (lv' := [(0, .ref 159)]) (st' := [.int ((Int32.ofInt 3)), .ref 165]) rfl ?_
      refine En_iald (l := 0) (u := 12) rfl (by decide : (Int32.ofInt 3).toInt = 3) (by decide +kernel : TG 165 = 41) (by decide +kernel) h721 (by omega) (lnI (by decide +kernel : LN _ = 226) (by omega)) (by decide +kernel) (fun z941 h940 h942 h943 => ?_)
      have h945 : (gN1 By Nb Sp).1 = 0 := iW_g (i := 3) (B := By) (n := Nb) (by omega)
      have h944 : (gN1 By Nb Sp).2.2.2 3 = z941.toInt := ML_wi h734 h945 h940 (by omega) (by omega) (by omega)
      refine En_Ps 1 (pc' := 123) (lv' := [(0, .ref 159)]) (st' := [.int (((Int8.ofInt 12).toInt32)), .int z941]) rfl ?_
      refine En_icEq _ rfl (by decide : ((Int8.ofInt 12).toInt32).toInt = 12) rfl (fun h946 => ?_) (fun h946 => ?_)
      · refine En_Ps 2 (pc' := 167) (lv' := [(0, .ref 159)]) (st' := [.int ((Int32.ofInt 3)), .ref 159]) rfl ?_
        have := (by decide : ((Int32.ofInt 3)).toInt = 3)
        refine En_callV rfl rfl rfl rfl rfl rfl rfl rfl (by decide +kernel : TG 159 = 35) (by decide +kernel) rfl (c_223x σ720 h721 ((Int32.ofInt 3)) (geI (by decide : (Int32.ofInt 3).toInt = 3) (by omega)) (leI (by decide : (Int32.ofInt 3).toInt = 3) (by omega)) y723 h724 h734) (by decide) (by decide) (fun v948 σ949 h947 => ?_)
        obtain ⟨h950, h951, z953, h954, rfl, h952⟩ := h947
        have h955 := h952.2.2.2.2.2
        have h956 := Fr_trans h722 h951 (by decide +kernel)
        have h957 := KF_fr h733 h951 (by decide +kernel)
        obtain ⟨S958, h959⟩ : ∃ q : PS, q = err By Nb 3 (gN1 By Nb Sp) := ⟨_, rfl⟩
        have h960 : ML By Nb σ949 S958 := by rw [h959]; exact (ML_eq h955 (err_cg (by omega)))
        have h961 := ML_k h960 h954
        have h962 : S958.2.2.2 = (gN1 By Nb Sp).2.2.2 := by rw [h959]; exact err_w
        obtain ⟨z964, h963, h965, h966⟩ := WT_peekI h950 (by decide +kernel : TG 165 = 41) (by decide +kernel : FT 41 (2 : Int).toNat = (0, 0, 4)) (by decide +kernel)
        obtain ⟨z968, h967, h969, h970⟩ := WT_peekI h950 (by decide +kernel : TG 165 = 41) (by decide +kernel : FT 41 (4 : Int).toNat = (0, 0, 4)) (by decide +kernel)
        obtain ⟨z972, h971, h973, h974⟩ := WT_peekI h950 (by decide +kernel : TG 165 = 41) (by decide +kernel : FT 41 (5 : Int).toNat = (0, 0, 6)) (by decide +kernel)
        exact keyj170 σ949 z964 z941 z968 z972 z953 y727 h950 h956 h963 (by omega) (by omega) ((h951 _ _ (inWa (by decide +kernel : TG 165 = 41) (by decide +kernel))).trans h940) (by omega) (by omega) h967 (by omega) (by omega) h971 (by omega) (by omega) h954 (by omega) (by omega) ((h951 _ _ (inW (by decide +kernel : TG 159 = 35) (by decide +kernel))).trans h728) (by omega) (by omega) (by omega) (by omega) (by omega) (by omega) (by omega) (by omega) (h957) (ML_eq h960 (by subst h959; exact (gN2_pos (by omega)).symm))
      · refine En_Ps 1 (pc' := 127) (lv' := [(0, .ref 159)]) (st' := [.ref 159]) rfl ?_
        refine En_ldcS (i := 5) rfl rfl rfl ?_
        refine En_callV rfl rfl rfl rfl rfl rfl rfl rfl (by decide +kernel : TG 159 = 35) (by decide +kernel) rfl (c_251s5x σ720 h721 h734) (by decide) (by decide) (fun v976 σ977 h975 => ?_)
        obtain ⟨h978, h979, z981, rfl, h980⟩ := h975
        have h982 := h980.2.2
        obtain rfl : σ720 = σ977 := Fr_nil h979
        refine En_iEq _ rfl rfl (fun h983 => ?_) (fun h983 => ?_)
        · refine En_Ps 1 (pc' := 146) (lv' := [(0, .ref 159)]) (st' := [.ref 159]) rfl ?_
          refine En_ldcS (i := 1) rfl rfl rfl ?_
          refine En_callV rfl rfl rfl rfl rfl rfl rfl rfl (by decide +kernel : TG 159 = 35) (by decide +kernel) rfl (c_251s1x σ720 h721 h734) (by decide) (by decide) (fun v985 σ986 h984 => ?_)
          obtain ⟨h987, h988, z990, rfl, h989⟩ := h984
          have h991 := h989.2.2
          obtain rfl : σ720 = σ986 := Fr_nil h988
          refine En_iEq _ rfl rfl (fun h992 => ?_) (fun h992 => ?_)
          · obtain ⟨z994, h993, h995, h996⟩ := WT_peekI h721 (by decide +kernel : TG 165 = 41) (by decide +kernel : FT 41 (2 : Int).toNat = (0, 0, 4)) (by decide +kernel)
            obtain ⟨z998, h997, h999, h1000⟩ := WT_peekI h721 (by decide +kernel : TG 165 = 41) (by decide +kernel : FT 41 (4 : Int).toNat = (0, 0, 4)) (by decide +kernel)
            obtain ⟨z1002, h1001, h1003, h1004⟩ := WT_peekI h721 (by decide +kernel : TG 165 = 41) (by decide +kernel : FT 41 (5 : Int).toNat = (0, 0, 6)) (by decide +kernel)
            exact keyj170 σ720 z994 z941 z998 z1002 y723 y727 h721 h722 h993 (by omega) (by omega) h940 (by omega) (by omega) h997 (by omega) (by omega) h1001 (by omega) (by omega) h724 (by omega) (by omega) h728 (by omega) (by omega) (by omega) (by omega) (by intro hh; have zz : (gN1 By Nb Sp).1 = 0 := (by omega); have j1 := Imp_m h736 zz; have j2 := Imp_m h737 zz; have j3 := Imp_m h738 zz; have j4 := Imp_m h739 zz; omega) (by intro hh; have zz : (gN1 By Nb Sp).1 = 0 := (by omega); have j1 := Imp_m h736 zz; have j2 := Imp_m h737 zz; have j3 := Imp_m h738 zz; have j4 := Imp_m h739 zz; omega) (by intro hh; have zz : (gN1 By Nb Sp).1 = 0 := (by omega); have j1 := Imp_m h736 zz; have j2 := Imp_m h737 zz; have j3 := Imp_m h738 zz; have j4 := Imp_m h739 zz; omega) (by intro hh; have zz : (gN1 By Nb Sp).1 = 0 := (by omega); have j1 := Imp_m h736 zz; have j2 := Imp_m h737 zz; have j3 := Imp_m h738 zz; have j4 := Imp_m h739 zz; omega) (h733) (ML_eq h734 (gN2_neg (by omega)).symm)
          · refine En_Ps 1 (pc' := 155) (lv' := [(0, .ref 159)]) (st' := [.ref 159]) rfl ?_
            refine En_getK (j := 14) h938 rfl rfl rfl (by decide +kernel : TG 159 = 35) (by decide +kernel) ?_
            refine En_Ps 1 (pc' := 159) (lv' := [(0, .ref 159)]) (st' := [.int ((Int32.ofInt 5)), .ref 165]) rfl ?_
            refine En_iald (l := 0) (u := 6) rfl (by decide : (Int32.ofInt 5).toInt = 5) (by decide +kernel : TG 165 = 41) (by decide +kernel) h721 (by omega) (lnI (by decide +kernel : LN _ = 226) (by omega)) (by decide +kernel) (fun z1006 h1005 h1007 h1008 => ?_)
            have h1010 : (gN1 By Nb Sp).1 = 0 := iW_g (i := 1) (B := By) (n := Nb) (by omega)
            have h1009 : (gN1 By Nb Sp).2.2.2 5 = z1006.toInt := ML_wi h734 h1010 h1005 (by omega) (by omega) (by omega)
            refine En_Ps 1 (pc' := 162) (lv' := [(0, .ref 159)]) (st' := [.int (((Int8.ofInt 6).toInt32)), .int z1006]) rfl ?_
            refine En_icNe _ rfl (by decide : ((Int8.ofInt 6).toInt32).toInt = 6) rfl (fun h1011 => ?_) (fun h1011 => ?_)
            · obtain ⟨z1013, h1012, h1014, h1015⟩ := WT_peekI h721 (by decide +kernel : TG 165 = 41) (by decide +kernel : FT 41 (2 : Int).toNat = (0, 0, 4)) (by decide +kernel)
              obtain ⟨z1017, h1016, h1018, h1019⟩ := WT_peekI h721 (by decide +kernel : TG 165 = 41) (by decide +kernel : FT 41 (4 : Int).toNat = (0, 0, 4)) (by decide +kernel)
              exact keyj170 σ720 z1013 z941 z1017 z1006 y723 y727 h721 h722 h1012 (by omega) (by omega) h940 (by omega) (by omega) h1016 (by omega) (by omega) h1005 (by omega) (by omega) h724 (by omega) (by omega) h728 (by omega) (by omega) (by omega) (by omega) (by intro hh; have zz : (gN1 By Nb Sp).1 = 0 := (by omega); have j1 := Imp_m h736 zz; have j2 := Imp_m h737 zz; have j3 := Imp_m h738 zz; have j4 := Imp_m h739 zz; omega) (by intro hh; have zz : (gN1 By Nb Sp).1 = 0 := (by omega); have j1 := Imp_m h736 zz; have j2 := Imp_m h737 zz; have j3 := Imp_m h738 zz; have j4 := Imp_m h739 zz; omega) (by intro hh; have zz : (gN1 By Nb Sp).1 = 0 := (by omega); have j1 := Imp_m h736 zz; have j2 := Imp_m h737 zz; have j3 := Imp_m h738 zz; have j4 := Imp_m h739 zz; omega) (by intro hh; have zz : (gN1 By Nb Sp).1 = 0 := (by omega); have j1 := Imp_m h736 zz; have j2 := Imp_m h737 zz; have j3 := Imp_m h738 zz; have j4 := Imp_m h739 zz; omega) (h733) (ML_eq h734 (gN2_neg (by omega)).symm)
            · refine En_Ps 2 (pc' := 167) (lv' := [(0, .ref 159)]) (st' := [.int ((Int32.ofInt 3)), .ref 159]) rfl ?_
              have := (by decide : ((Int32.ofInt 3)).toInt = 3)
              refine En_callV rfl rfl rfl rfl rfl rfl rfl rfl (by decide +kernel : TG 159 = 35) (by decide +kernel) rfl (c_223x σ720 h721 ((Int32.ofInt 3)) (geI (by decide : (Int32.ofInt 3).toInt = 3) (by omega)) (leI (by decide : (Int32.ofInt 3).toInt = 3) (by omega)) y723 h724 h734) (by decide) (by decide) (fun v1021 σ1022 h1020 => ?_)
              obtain ⟨h1023, h1024, z1026, h1027, rfl, h1025⟩ := h1020
              have h1028 := h1025.2.2.2.2.2
              have h1029 := Fr_trans h722 h1024 (by decide +kernel)
              have h1030 := KF_fr h733 h1024 (by decide +kernel)
              obtain ⟨S1031, h1032⟩ : ∃ q : PS, q = err By Nb 3 (gN1 By Nb Sp) := ⟨_, rfl⟩
              have h1033 : ML By Nb σ1022 S1031 := by rw [h1032]; exact (ML_eq h1028 (err_cg (by omega)))
              have h1034 := ML_k h1033 h1027
              have h1035 : S1031.2.2.2 = (gN1 By Nb Sp).2.2.2 := by rw [h1032]; exact err_w
              obtain ⟨z1037, h1036, h1038, h1039⟩ := WT_peekI h1023 (by decide +kernel : TG 165 = 41) (by decide +kernel : FT 41 (2 : Int).toNat = (0, 0, 4)) (by decide +kernel)
              obtain ⟨z1041, h1040, h1042, h1043⟩ := WT_peekI h1023 (by decide +kernel : TG 165 = 41) (by decide +kernel : FT 41 (4 : Int).toNat = (0, 0, 4)) (by decide +kernel)
              exact keyj170 σ1022 z1037 z941 z1041 z1006 z1026 y727 h1023 h1029 h1036 (by omega) (by omega) ((h1024 _ _ (inWa (by decide +kernel : TG 165 = 41) (by decide +kernel))).trans h940) (by omega) (by omega) h1040 (by omega) (by omega) ((h1024 _ _ (inWa (by decide +kernel : TG 165 = 41) (by decide +kernel))).trans h1005) (by omega) (by omega) h1027 (by omega) (by omega) ((h1024 _ _ (inW (by decide +kernel : TG 159 = 35) (by decide +kernel))).trans h728) (by omega) (by omega) (by omega) (by omega) (by omega) (by omega) (by omega) (by omega) (h1030) (ML_eq h1033 (by subst h1032; exact (gN2_pos (by omega)).symm))
        · refine En_Ps 1 (pc' := 136) (lv' := [(0, .ref 159)]) (st' := [.ref 159]) rfl ?_
          refine En_getK (j := 14) h938 rfl rfl rfl (by decide +kernel : TG 159 = 35) (by decide +kernel) ?_
          refine En_Ps 1 (pc' := 140) (lv' := [(0, .ref 159)]) (st' := [.int ((Int32.ofInt 4)), .ref 165]) rfl ?_
          refine En_iald (l := 0) (u := 4) rfl (by decide : (Int32.ofInt 4).toInt = 4) (by decide +kernel : TG 165 = 41) (by decide +kernel) h721 (by omega) (lnI (by decide +kernel : LN _ = 226) (by omega)) (by decide +kernel) (fun z1045 h1044 h1046 h1047 => ?_)
          have h1049 : (gN1 By Nb Sp).1 = 0 := iW_g (i := 5) (B := By) (n := Nb) (by omega)
          have h1048 : (gN1 By Nb Sp).2.2.2 4 = z1045.toInt := ML_wi h734 h1049 h1044 (by omega) (by omega) (by omega)
          refine En_Ps 1 (pc' := 142) (lv' := [(0, .ref 159)]) (st' := [.int ((Int32.ofInt 4)), .int z1045]) rfl ?_
          refine En_icEq _ rfl (by decide : (Int32.ofInt 4).toInt = 4) rfl (fun h1050 => ?_) (fun h1050 => ?_)
          · refine En_Ps 2 (pc' := 167) (lv' := [(0, .ref 159)]) (st' := [.int ((Int32.ofInt 3)), .ref 159]) rfl ?_
            have := (by decide : ((Int32.ofInt 3)).toInt = 3)
            refine En_callV rfl rfl rfl rfl rfl rfl rfl rfl (by decide +kernel : TG 159 = 35) (by decide +kernel) rfl (c_223x σ720 h721 ((Int32.ofInt 3)) (geI (by decide : (Int32.ofInt 3).toInt = 3) (by omega)) (leI (by decide : (Int32.ofInt 3).toInt = 3) (by omega)) y723 h724 h734) (by decide) (by decide) (fun v1052 σ1053 h1051 => ?_)
            obtain ⟨h1054, h1055, z1057, h1058, rfl, h1056⟩ := h1051
            have h1059 := h1056.2.2.2.2.2
            have h1060 := Fr_trans h722 h1055 (by decide +kernel)
            have h1061 := KF_fr h733 h1055 (by decide +kernel)
            obtain ⟨S1062, h1063⟩ : ∃ q : PS, q = err By Nb 3 (gN1 By Nb Sp) := ⟨_, rfl⟩
            have h1064 : ML By Nb σ1053 S1062 := by rw [h1063]; exact (ML_eq h1059 (err_cg (by omega)))
            have h1065 := ML_k h1064 h1058
            have h1066 : S1062.2.2.2 = (gN1 By Nb Sp).2.2.2 := by rw [h1063]; exact err_w
            obtain ⟨z1068, h1067, h1069, h1070⟩ := WT_peekI h1054 (by decide +kernel : TG 165 = 41) (by decide +kernel : FT 41 (2 : Int).toNat = (0, 0, 4)) (by decide +kernel)
            obtain ⟨z1072, h1071, h1073, h1074⟩ := WT_peekI h1054 (by decide +kernel : TG 165 = 41) (by decide +kernel : FT 41 (5 : Int).toNat = (0, 0, 6)) (by decide +kernel)
            exact keyj170 σ1053 z1068 z941 z1045 z1072 z1057 y727 h1054 h1060 h1067 (by omega) (by omega) ((h1055 _ _ (inWa (by decide +kernel : TG 165 = 41) (by decide +kernel))).trans h940) (by omega) (by omega) ((h1055 _ _ (inWa (by decide +kernel : TG 165 = 41) (by decide +kernel))).trans h1044) (by omega) (by omega) h1071 (by omega) (by omega) h1058 (by omega) (by omega) ((h1055 _ _ (inW (by decide +kernel : TG 159 = 35) (by decide +kernel))).trans h728) (by omega) (by omega) (by omega) (by omega) (by omega) (by omega) (by omega) (by omega) (h1061) (ML_eq h1064 (by subst h1063; exact (gN2_pos (by omega)).symm))
          · refine En_Ps 1 (pc' := 146) (lv' := [(0, .ref 159)]) (st' := [.ref 159]) rfl ?_
            refine En_ldcS (i := 1) rfl rfl rfl ?_
            refine En_callV rfl rfl rfl rfl rfl rfl rfl rfl (by decide +kernel : TG 159 = 35) (by decide +kernel) rfl (c_251s1x σ720 h721 h734) (by decide) (by decide) (fun v1076 σ1077 h1075 => ?_)
            obtain ⟨h1078, h1079, z1081, rfl, h1080⟩ := h1075
            have h1082 := h1080.2.2
            obtain rfl : σ720 = σ1077 := Fr_nil h1079
            refine En_iEq _ rfl rfl (fun h1083 => ?_) (fun h1083 => ?_)
            · obtain ⟨z1085, h1084, h1086, h1087⟩ := WT_peekI h721 (by decide +kernel : TG 165 = 41) (by decide +kernel : FT 41 (2 : Int).toNat = (0, 0, 4)) (by decide +kernel)
              obtain ⟨z1089, h1088, h1090, h1091⟩ := WT_peekI h721 (by decide +kernel : TG 165 = 41) (by decide +kernel : FT 41 (5 : Int).toNat = (0, 0, 6)) (by decide +kernel)
              exact keyj170 σ720 z1085 z941 z1045 z1089 y723 y727 h721 h722 h1084 (by omega) (by omega) h940 (by omega) (by omega) h1044 (by omega) (by omega) h1088 (by omega) (by omega) h724 (by omega) (by omega) h728 (by omega) (by omega) (by omega) (by omega) (by intro hh; have zz : (gN1 By Nb Sp).1 = 0 := (by omega); have j1 := Imp_m h736 zz; have j2 := Imp_m h737 zz; have j3 := Imp_m h738 zz; have j4 := Imp_m h739 zz; omega) (by intro hh; have zz : (gN1 By Nb Sp).1 = 0 := (by omega); have j1 := Imp_m h736 zz; have j2 := Imp_m h737 zz; have j3 := Imp_m h738 zz; have j4 := Imp_m h739 zz; omega) (by intro hh; have zz : (gN1 By Nb Sp).1 = 0 := (by omega); have j1 := Imp_m h736 zz; have j2 := Imp_m h737 zz; have j3 := Imp_m h738 zz; have j4 := Imp_m h739 zz; omega) (by intro hh; have zz : (gN1 By Nb Sp).1 = 0 := (by omega); have j1 := Imp_m h736 zz; have j2 := Imp_m h737 zz; have j3 := Imp_m h738 zz; have j4 := Imp_m h739 zz; omega) (h733) (ML_eq h734 (gN2_neg (by omega)).symm)
            · refine En_Ps 1 (pc' := 155) (lv' := [(0, .ref 159)]) (st' := [.ref 159]) rfl ?_
              refine En_getK (j := 14) h938 rfl rfl rfl (by decide +kernel : TG 159 = 35) (by decide +kernel) ?_
              refine En_Ps 1 (pc' := 159) (lv' := [(0, .ref 159)]) (st' := [.int ((Int32.ofInt 5)), .ref 165]) rfl ?_
              refine En_iald (l := 0) (u := 6) rfl (by decide : (Int32.ofInt 5).toInt = 5) (by decide +kernel : TG 165 = 41) (by decide +kernel) h721 (by omega) (lnI (by decide +kernel : LN _ = 226) (by omega)) (by decide +kernel) (fun z1093 h1092 h1094 h1095 => ?_)
              have h1097 : (gN1 By Nb Sp).1 = 0 := iW_g (i := 1) (B := By) (n := Nb) (by omega)
              have h1096 : (gN1 By Nb Sp).2.2.2 5 = z1093.toInt := ML_wi h734 h1097 h1092 (by omega) (by omega) (by omega)
              refine En_Ps 1 (pc' := 162) (lv' := [(0, .ref 159)]) (st' := [.int (((Int8.ofInt 6).toInt32)), .int z1093]) rfl ?_
              refine En_icNe _ rfl (by decide : ((Int8.ofInt 6).toInt32).toInt = 6) rfl (fun h1098 => ?_) (fun h1098 => ?_)
              · obtain ⟨z1100, h1099, h1101, h1102⟩ := WT_peekI h721 (by decide +kernel : TG 165 = 41) (by decide +kernel : FT 41 (2 : Int).toNat = (0, 0, 4)) (by decide +kernel)
                exact keyj170 σ720 z1100 z941 z1045 z1093 y723 y727 h721 h722 h1099 (by omega) (by omega) h940 (by omega) (by omega) h1044 (by omega) (by omega) h1092 (by omega) (by omega) h724 (by omega) (by omega) h728 (by omega) (by omega) (by omega) (by omega) (by intro hh; have zz : (gN1 By Nb Sp).1 = 0 := (by omega); have j1 := Imp_m h736 zz; have j2 := Imp_m h737 zz; have j3 := Imp_m h738 zz; have j4 := Imp_m h739 zz; omega) (by intro hh; have zz : (gN1 By Nb Sp).1 = 0 := (by omega); have j1 := Imp_m h736 zz; have j2 := Imp_m h737 zz; have j3 := Imp_m h738 zz; have j4 := Imp_m h739 zz; omega) (by intro hh; have zz : (gN1 By Nb Sp).1 = 0 := (by omega); have j1 := Imp_m h736 zz; have j2 := Imp_m h737 zz; have j3 := Imp_m h738 zz; have j4 := Imp_m h739 zz; omega) (by intro hh; have zz : (gN1 By Nb Sp).1 = 0 := (by omega); have j1 := Imp_m h736 zz; have j2 := Imp_m h737 zz; have j3 := Imp_m h738 zz; have j4 := Imp_m h739 zz; omega) (h733) (ML_eq h734 (gN2_neg (by omega)).symm)
              · refine En_Ps 2 (pc' := 167) (lv' := [(0, .ref 159)]) (st' := [.int ((Int32.ofInt 3)), .ref 159]) rfl ?_
                have := (by decide : ((Int32.ofInt 3)).toInt = 3)
                refine En_callV rfl rfl rfl rfl rfl rfl rfl rfl (by decide +kernel : TG 159 = 35) (by decide +kernel) rfl (c_223x σ720 h721 ((Int32.ofInt 3)) (geI (by decide : (Int32.ofInt 3).toInt = 3) (by omega)) (leI (by decide : (Int32.ofInt 3).toInt = 3) (by omega)) y723 h724 h734) (by decide) (by decide) (fun v1104 σ1105 h1103 => ?_)
                obtain ⟨h1106, h1107, z1109, h1110, rfl, h1108⟩ := h1103
                have h1111 := h1108.2.2.2.2.2
                have h1112 := Fr_trans h722 h1107 (by decide +kernel)
                have h1113 := KF_fr h733 h1107 (by decide +kernel)
                obtain ⟨S1114, h1115⟩ : ∃ q : PS, q = err By Nb 3 (gN1 By Nb Sp) := ⟨_, rfl⟩
                have h1116 : ML By Nb σ1105 S1114 := by rw [h1115]; exact (ML_eq h1111 (err_cg (by omega)))
                have h1117 := ML_k h1116 h1110
                have h1118 : S1114.2.2.2 = (gN1 By Nb Sp).2.2.2 := by rw [h1115]; exact err_w
                obtain ⟨z1120, h1119, h1121, h1122⟩ := WT_peekI h1106 (by decide +kernel : TG 165 = 41) (by decide +kernel : FT 41 (2 : Int).toNat = (0, 0, 4)) (by decide +kernel)
                exact keyj170 σ1105 z1120 z941 z1045 z1093 z1109 y727 h1106 h1112 h1119 (by omega) (by omega) ((h1107 _ _ (inWa (by decide +kernel : TG 165 = 41) (by decide +kernel))).trans h940) (by omega) (by omega) ((h1107 _ _ (inWa (by decide +kernel : TG 165 = 41) (by decide +kernel))).trans h1044) (by omega) (by omega) ((h1107 _ _ (inWa (by decide +kernel : TG 165 = 41) (by decide +kernel))).trans h1092) (by omega) (by omega) h1110 (by omega) (by omega) ((h1107 _ _ (inW (by decide +kernel : TG 159 = 35) (by decide +kernel))).trans h728) (by omega) (by omega) (by omega) (by omega) (by omega) (by omega) (by omega) (by omega) (h1113) (ML_eq h1116 (by subst h1115; exact (gN2_pos (by omega)).symm))
  · refine En_Ps 1 (pc' := 97) (lv' := [(0, .ref 159)]) (st' := [.ref 159]) rfl ?_
    refine En_getU (j := 14) (u := 165) (g' := 41) (q := 0) rfl rfl rfl (by decide +kernel : TG 159 = 35) (by decide +kernel) h721 (by decide +kernel) (by decide +kernel) (fun h1123 => ?_)
    refine En_Ps 1 (pc' := 101) (lv' := [(0, .ref 159)]) (st' := [.int ((Int32.ofInt 2)), .ref 165]) rfl ?_
    refine En_iald (l := 0) (u := 4) rfl (by decide : (Int32.ofInt 2).toInt = 2) (by decide +kernel : TG 165 = 41) (by decide +kernel) h721 (by omega) (lnI (by decide +kernel : LN _ = 226) (by omega)) (by decide +kernel) (fun z1126 h1125 h1127 h1128 => ?_)
    have h1130 : (gN1 By Nb Sp).1 = 0 := iW_g (i := 2) (B := By) (n := Nb) (by omega)
    have h1129 : (gN1 By Nb Sp).2.2.2 2 = z1126.toInt := ML_wi h734 h1130 h1125 (by omega) (by omega) (by omega)
    refine En_Ps 1 (pc' := 103) (lv' := [(0, .ref 159)]) (st' := [.int ((Int32.ofInt 4)), .int z1126]) rfl ?_
    refine En_icEq _ rfl (by decide : (Int32.ofInt 4).toInt = 4) rfl (fun h1131 => ?_) (fun h1131 => ?_)
    · refine En_Ps 2 (pc' := 167) (lv' := [(0, .ref 159)]) (st' := [.int ((Int32.ofInt 3)), .ref 159]) rfl ?_
      have := (by decide : ((Int32.ofInt 3)).toInt = 3)
      refine En_callV rfl rfl rfl rfl rfl rfl rfl rfl (by decide +kernel : TG 159 = 35) (by decide +kernel) rfl (c_223x σ720 h721 ((Int32.ofInt 3)) (geI (by decide : (Int32.ofInt 3).toInt = 3) (by omega)) (leI (by decide : (Int32.ofInt 3).toInt = 3) (by omega)) y723 h724 h734) (by decide) (by decide) (fun v1133 σ1134 h1132 => ?_)
      obtain ⟨h1135, h1136, z1138, h1139, rfl, h1137⟩ := h1132
      have h1140 := h1137.2.2.2.2.2
      have h1141 := Fr_trans h722 h1136 (by decide +kernel)
      have h1142 := KF_fr h733 h1136 (by decide +kernel)
      obtain ⟨S1143, h1144⟩ : ∃ q : PS, q = err By Nb 3 (gN1 By Nb Sp) := ⟨_, rfl⟩
      have h1145 : ML By Nb σ1134 S1143 := by rw [h1144]; exact (ML_eq h1140 (err_cg (by omega)))
      have h1146 := ML_k h1145 h1139
      have h1147 : S1143.2.2.2 = (gN1 By Nb Sp).2.2.2 := by rw [h1144]; exact err_w
      obtain ⟨z1149, h1148, h1150, h1151⟩ := WT_peekI h1135 (by decide +kernel : TG 165 = 41) (by decide +kernel : FT 41 (3 : Int).toNat = (0, 0, 12)) (by decide +kernel)
      obtain ⟨z1153, h1152, h1154, h1155⟩ := WT_peekI h1135 (by decide +kernel : TG 165 = 41) (by decide +kernel : FT 41 (4 : Int).toNat = (0, 0, 4)) (by decide +kernel)
      obtain ⟨z1157, h1156, h1158, h1159⟩ := WT_peekI h1135 (by decide +kernel : TG 165 = 41) (by decide +kernel : FT 41 (5 : Int).toNat = (0, 0, 6)) (by decide +kernel)
      exact keyj170 σ1134 z1126 z1149 z1153 z1157 z1138 y727 h1135 h1141 ((h1136 _ _ (inWa (by decide +kernel : TG 165 = 41) (by decide +kernel))).trans h1125) (by omega) (by omega) h1148 (by omega) (by omega) h1152 (by omega) (by omega) h1156 (by omega) (by omega) h1139 (by omega) (by omega) ((h1136 _ _ (inW (by decide +kernel : TG 159 = 35) (by decide +kernel))).trans h728) (by omega) (by omega) (by omega) (by omega) (by omega) (by omega) (by omega) (by omega) (h1142) (ML_eq h1145 (by subst h1144; exact (gN2_pos (by omega)).symm))
    · refine En_Ps 1 (pc' := 107) (lv' := [(0, .ref 159)]) (st' := [.ref 159]) rfl ?_
      refine En_ldcS (i := 3) rfl rfl rfl ?_
      refine En_callV rfl rfl rfl rfl rfl rfl rfl rfl (by decide +kernel : TG 159 = 35) (by decide +kernel) rfl (c_251s3x σ720 h721 h734) (by decide) (by decide) (fun v1161 σ1162 h1160 => ?_)
      obtain ⟨h1163, h1164, z1166, rfl, h1165⟩ := h1160
      have h1167 := h1165.2.2
      obtain rfl : σ720 = σ1162 := Fr_nil h1164
      refine En_iEq _ rfl rfl (fun h1168 => ?_) (fun h1168 => ?_)
      · refine En_Ps 1 (pc' := 127) (lv' := [(0, .ref 159)]) (st' := [.ref 159]) rfl ?_
        refine En_ldcS (i := 5) rfl rfl rfl ?_
        refine En_callV rfl rfl rfl rfl rfl rfl rfl rfl (by decide +kernel : TG 159 = 35) (by decide +kernel) rfl (c_251s5x σ720 h721 h734) (by decide) (by decide) (fun v1170 σ1171 h1169 => ?_)
        obtain ⟨h1172, h1173, z1175, rfl, h1174⟩ := h1169
        have h1176 := h1174.2.2
        obtain rfl : σ720 = σ1171 := Fr_nil h1173
        refine En_iEq _ rfl rfl (fun h1177 => ?_) (fun h1177 => ?_)
        · refine En_Ps 1 (pc' := 146) (lv' := [(0, .ref 159)]) (st' := [.ref 159]) rfl ?_
          refine En_ldcS (i := 1) rfl rfl rfl ?_
          refine En_callV rfl rfl rfl rfl rfl rfl rfl rfl (by decide +kernel : TG 159 = 35) (by decide +kernel) rfl (c_251s1x σ720 h721 h734) (by decide) (by decide) (fun v1179 σ1180 h1178 => ?_)
          obtain ⟨h1181, h1182, z1184, rfl, h1183⟩ := h1178
          have h1185 := h1183.2.2
          obtain rfl : σ720 = σ1180 := Fr_nil h1182
          refine En_iEq _ rfl rfl (fun h1186 => ?_) (fun h1186 => ?_)
          · obtain ⟨z1188, h1187, h1189, h1190⟩ := WT_peekI h721 (by decide +kernel : TG 165 = 41) (by decide +kernel : FT 41 (3 : Int).toNat = (0, 0, 12)) (by decide +kernel)
            obtain ⟨z1192, h1191, h1193, h1194⟩ := WT_peekI h721 (by decide +kernel : TG 165 = 41) (by decide +kernel : FT 41 (4 : Int).toNat = (0, 0, 4)) (by decide +kernel)
            obtain ⟨z1196, h1195, h1197, h1198⟩ := WT_peekI h721 (by decide +kernel : TG 165 = 41) (by decide +kernel : FT 41 (5 : Int).toNat = (0, 0, 6)) (by decide +kernel)
            exact keyj170 σ720 z1126 z1188 z1192 z1196 y723 y727 h721 h722 h1125 (by omega) (by omega) h1187 (by omega) (by omega) h1191 (by omega) (by omega) h1195 (by omega) (by omega) h724 (by omega) (by omega) h728 (by omega) (by omega) (by omega) (by omega) (by intro hh; have zz : (gN1 By Nb Sp).1 = 0 := (by omega); have j1 := Imp_m h736 zz; have j2 := Imp_m h737 zz; have j3 := Imp_m h738 zz; have j4 := Imp_m h739 zz; omega) (by intro hh; have zz : (gN1 By Nb Sp).1 = 0 := (by omega); have j1 := Imp_m h736 zz; have j2 := Imp_m h737 zz; have j3 := Imp_m h738 zz; have j4 := Imp_m h739 zz; omega) (by intro hh; have zz : (gN1 By Nb Sp).1 = 0 := (by omega); have j1 := Imp_m h736 zz; have j2 := Imp_m h737 zz; have j3 := Imp_m h738 zz; have j4 := Imp_m h739 zz; omega) (by intro hh; have zz : (gN1 By Nb Sp).1 = 0 := (by omega); have j1 := Imp_m h736 zz; have j2 := Imp_m h737 zz; have j3 := Imp_m h738 zz; have j4 := Imp_m h739 zz; omega) (h733) (ML_eq h734 (gN2_neg (by omega)).symm)
          · refine En_Ps 1 (pc' := 155) (lv' := [(0, .ref 159)]) (st' := [.ref 159]) rfl ?_
            refine En_getK (j := 14) h1123 rfl rfl rfl (by decide +kernel : TG 159 = 35) (by decide +kernel) ?_
            refine En_Ps 1 (pc' := 159) (lv' := [(0, .ref 159)]) (st' := [.int ((Int32.ofInt 5)), .ref 165]) rfl ?_
            refine En_iald (l := 0) (u := 6) rfl (by decide : (Int32.ofInt 5).toInt = 5) (by decide +kernel : TG 165 = 41) (by decide +kernel) h721 (by omega) (lnI (by decide +kernel : LN _ = 226) (by omega)) (by decide +kernel) (fun z1200 h1199 h1201 h1202 => ?_)
            have h1204 : (gN1 By Nb Sp).1 = 0 := iW_g (i := 1) (B := By) (n := Nb) (by omega)
            have h1203 : (gN1 By Nb Sp).2.2.2 5 = z1200.toInt := ML_wi h734 h1204 h1199 (by omega) (by omega) (by omega)
            refine En_Ps 1 (pc' := 162) (lv' := [(0, .ref 159)]) (st' := [.int (((Int8.ofInt 6).toInt32)), .int z1200]) rfl ?_
            refine En_icNe _ rfl (by decide : ((Int8.ofInt 6).toInt32).toInt = 6) rfl (fun h1205 => ?_) (fun h1205 => ?_)
            · obtain ⟨z1207, h1206, h1208, h1209⟩ := WT_peekI h721 (by decide +kernel : TG 165 = 41) (by decide +kernel : FT 41 (3 : Int).toNat = (0, 0, 12)) (by decide +kernel)
              obtain ⟨z1211, h1210, h1212, h1213⟩ := WT_peekI h721 (by decide +kernel : TG 165 = 41) (by decide +kernel : FT 41 (4 : Int).toNat = (0, 0, 4)) (by decide +kernel)
              exact keyj170 σ720 z1126 z1207 z1211 z1200 y723 y727 h721 h722 h1125 (by omega) (by omega) h1206 (by omega) (by omega) h1210 (by omega) (by omega) h1199 (by omega) (by omega) h724 (by omega) (by omega) h728 (by omega) (by omega) (by omega) (by omega) (by intro hh; have zz : (gN1 By Nb Sp).1 = 0 := (by omega); have j1 := Imp_m h736 zz; have j2 := Imp_m h737 zz; have j3 := Imp_m h738 zz; have j4 := Imp_m h739 zz; omega) (by intro hh; have zz : (gN1 By Nb Sp).1 = 0 := (by omega); have j1 := Imp_m h736 zz; have j2 := Imp_m h737 zz; have j3 := Imp_m h738 zz; have j4 := Imp_m h739 zz; omega) (by intro hh; have zz : (gN1 By Nb Sp).1 = 0 := (by omega); have j1 := Imp_m h736 zz; have j2 := Imp_m h737 zz; have j3 := Imp_m h738 zz; have j4 := Imp_m h739 zz; omega) (by intro hh; have zz : (gN1 By Nb Sp).1 = 0 := (by omega); have j1 := Imp_m h736 zz; have j2 := Imp_m h737 zz; have j3 := Imp_m h738 zz; have j4 := Imp_m h739 zz; omega) (h733) (ML_eq h734 (gN2_neg (by omega)).symm)
            · refine En_Ps 2 (pc' := 167) (lv' := [(0, .ref 159)]) (st' := [.int ((Int32.ofInt 3)), .ref 159]) rfl ?_
              have := (by decide : ((Int32.ofInt 3)).toInt = 3)
              refine En_callV rfl rfl rfl rfl rfl rfl rfl rfl (by decide +kernel : TG 159 = 35) (by decide +kernel) rfl (c_223x σ720 h721 ((Int32.ofInt 3)) (geI (by decide : (Int32.ofInt 3).toInt = 3) (by omega)) (leI (by decide : (Int32.ofInt 3).toInt = 3) (by omega)) y723 h724 h734) (by decide) (by decide) (fun v1215 σ1216 h1214 => ?_)
              obtain ⟨h1217, h1218, z1220, h1221, rfl, h1219⟩ := h1214
              have h1222 := h1219.2.2.2.2.2
              have h1223 := Fr_trans h722 h1218 (by decide +kernel)
              have h1224 := KF_fr h733 h1218 (by decide +kernel)
              obtain ⟨S1225, h1226⟩ : ∃ q : PS, q = err By Nb 3 (gN1 By Nb Sp) := ⟨_, rfl⟩
              have h1227 : ML By Nb σ1216 S1225 := by rw [h1226]; exact (ML_eq h1222 (err_cg (by omega)))
              have h1228 := ML_k h1227 h1221
              have h1229 : S1225.2.2.2 = (gN1 By Nb Sp).2.2.2 := by rw [h1226]; exact err_w
              obtain ⟨z1231, h1230, h1232, h1233⟩ := WT_peekI h1217 (by decide +kernel : TG 165 = 41) (by decide +kernel : FT 41 (3 : Int).toNat = (0, 0, 12)) (by decide +kernel)
              obtain ⟨z1235, h1234, h1236, h1237⟩ := WT_peekI h1217 (by decide +kernel : TG 165 = 41) (by decide +kernel : FT 41 (4 : Int).toNat = (0, 0, 4)) (by decide +kernel)
              exact keyj170 σ1216 z1126 z1231 z1235 z1200 z1220 y727 h1217 h1223 ((h1218 _ _ (inWa (by decide +kernel : TG 165 = 41) (by decide +kernel))).trans h1125) (by omega) (by omega) h1230 (by omega) (by omega) h1234 (by omega) (by omega) ((h1218 _ _ (inWa (by decide +kernel : TG 165 = 41) (by decide +kernel))).trans h1199) (by omega) (by omega) h1221 (by omega) (by omega) ((h1218 _ _ (inW (by decide +kernel : TG 159 = 35) (by decide +kernel))).trans h728) (by omega) (by omega) (by omega) (by omega) (by omega) (by omega) (by omega) (by omega) (h1224) (ML_eq h1227 (by subst h1226; exact (gN2_pos (by omega)).symm))
        · refine En_Ps 1 (pc' := 136) (lv' := [(0, .ref 159)]) (st' := [.ref 159]) rfl ?_
          refine En_getK (j := 14) h1123 rfl rfl rfl (by decide +kernel : TG 159 = 35) (by decide +kernel) ?_
          refine En_Ps 1 (pc' := 140) (lv' := [(0, .ref 159)]) (st' := [.int ((Int32.ofInt 4)), .ref 165]) rfl ?_
          refine En_iald (l := 0) (u := 4) rfl (by decide : (Int32.ofInt 4).toInt = 4) (by decide +kernel : TG 165 = 41) (by decide +kernel) h721 (by omega) (lnI (by decide +kernel : LN _ = 226) (by omega)) (by decide +kernel) (fun z1239 h1238 h1240 h1241 => ?_)
          have h1243 : (gN1 By Nb Sp).1 = 0 := iW_g (i := 5) (B := By) (n := Nb) (by omega)
          have h1242 : (gN1 By Nb Sp).2.2.2 4 = z1239.toInt := ML_wi h734 h1243 h1238 (by omega) (by omega) (by omega)
          refine En_Ps 1 (pc' := 142) (lv' := [(0, .ref 159)]) (st' := [.int ((Int32.ofInt 4)), .int z1239]) rfl ?_
          refine En_icEq _ rfl (by decide : (Int32.ofInt 4).toInt = 4) rfl (fun h1244 => ?_) (fun h1244 => ?_)
          · refine En_Ps 2 (pc' := 167) (lv' := [(0, .ref 159)]) (st' := [.int ((Int32.ofInt 3)), .ref 159]) rfl ?_
            have := (by decide : ((Int32.ofInt 3)).toInt = 3)
            refine En_callV rfl rfl rfl rfl rfl rfl rfl rfl (by decide +kernel : TG 159 = 35) (by decide +kernel) rfl (c_223x σ720 h721 ((Int32.ofInt 3)) (geI (by decide : (Int32.ofInt 3).toInt = 3) (by omega)) (leI (by decide : (Int32.ofInt 3).toInt = 3) (by omega)) y723 h724 h734) (by decide) (by decide) (fun v1246 σ1247 h1245 => ?_)
            obtain ⟨h1248, h1249, z1251, h1252, rfl, h1250⟩ := h1245
            have h1253 := h1250.2.2.2.2.2
            have h1254 := Fr_trans h722 h1249 (by decide +kernel)
            have h1255 := KF_fr h733 h1249 (by decide +kernel)
            obtain ⟨S1256, h1257⟩ : ∃ q : PS, q = err By Nb 3 (gN1 By Nb Sp) := ⟨_, rfl⟩
            have h1258 : ML By Nb σ1247 S1256 := by rw [h1257]; exact (ML_eq h1253 (err_cg (by omega)))
            have h1259 := ML_k h1258 h1252
            have h1260 : S1256.2.2.2 = (gN1 By Nb Sp).2.2.2 := by rw [h1257]; exact err_w
            obtain ⟨z1262, h1261, h1263, h1264⟩ := WT_peekI h1248 (by decide +kernel : TG 165 = 41) (by decide +kernel : FT 41 (3 : Int).toNat = (0, 0, 12)) (by decide +kernel)
            obtain ⟨z1266, h1265, h1267, h1268⟩ := WT_peekI h1248 (by decide +kernel : TG 165 = 41) (by decide +kernel : FT 41 (5 : Int).toNat = (0, 0, 6)) (by decide +kernel)
            exact keyj170 σ1247 z1126 z1262 z1239 z1266 z1251 y727 h1248 h1254 ((h1249 _ _ (inWa (by decide +kernel : TG 165 = 41) (by decide +kernel))).trans h1125) (by omega) (by omega) h1261 (by omega) (by omega) ((h1249 _ _ (inWa (by decide +kernel : TG 165 = 41) (by decide +kernel))).trans h1238) (by omega) (by omega) h1265 (by omega) (by omega) h1252 (by omega) (by omega) ((h1249 _ _ (inW (by decide +kernel : TG 159 = 35) (by decide +kernel))).trans h728) (by omega) (by omega) (by omega) (by omega) (by omega) (by omega) (by omega) (by omega) (h1255) (ML_eq h1258 (by subst h1257; exact (gN2_pos (by omega)).symm))
          · refine En_Ps 1 (pc' := 146) (lv' := [(0, .ref 159)]) (st' := [.ref 159]) rfl ?_
            refine En_ldcS (i := 1) rfl rfl rfl ?_
            refine En_callV rfl rfl rfl rfl rfl rfl rfl rfl (by decide +kernel : TG 159 = 35) (by decide +kernel) rfl (c_251s1x σ720 h721 h734) (by decide) (by decide) (fun v1270 σ1271 h1269 => ?_)
            obtain ⟨h1272, h1273, z1275, rfl, h1274⟩ := h1269
            have h1276 := h1274.2.2
            obtain rfl : σ720 = σ1271 := Fr_nil h1273
            refine En_iEq _ rfl rfl (fun h1277 => ?_) (fun h1277 => ?_)
            · obtain ⟨z1279, h1278, h1280, h1281⟩ := WT_peekI h721 (by decide +kernel : TG 165 = 41) (by decide +kernel : FT 41 (3 : Int).toNat = (0, 0, 12)) (by decide +kernel)
              obtain ⟨z1283, h1282, h1284, h1285⟩ := WT_peekI h721 (by decide +kernel : TG 165 = 41) (by decide +kernel : FT 41 (5 : Int).toNat = (0, 0, 6)) (by decide +kernel)
              exact keyj170 σ720 z1126 z1279 z1239 z1283 y723 y727 h721 h722 h1125 (by omega) (by omega) h1278 (by omega) (by omega) h1238 (by omega) (by omega) h1282 (by omega) (by omega) h724 (by omega) (by omega) h728 (by omega) (by omega) (by omega) (by omega) (by intro hh; have zz : (gN1 By Nb Sp).1 = 0 := (by omega); have j1 := Imp_m h736 zz; have j2 := Imp_m h737 zz; have j3 := Imp_m h738 zz; have j4 := Imp_m h739 zz; omega) (by intro hh; have zz : (gN1 By Nb Sp).1 = 0 := (by omega); have j1 := Imp_m h736 zz; have j2 := Imp_m h737 zz; have j3 := Imp_m h738 zz; have j4 := Imp_m h739 zz; omega) (by intro hh; have zz : (gN1 By Nb Sp).1 = 0 := (by omega); have j1 := Imp_m h736 zz; have j2 := Imp_m h737 zz; have j3 := Imp_m h738 zz; have j4 := Imp_m h739 zz; omega) (by intro hh; have zz : (gN1 By Nb Sp).1 = 0 := (by omega); have j1 := Imp_m h736 zz; have j2 := Imp_m h737 zz; have j3 := Imp_m h738 zz; have j4 := Imp_m h739 zz; omega) (h733) (ML_eq h734 (gN2_neg (by omega)).symm)
            · refine En_Ps 1 (pc' := 155) (lv' := [(0, .ref 159)]) (st' := [.ref 159]) rfl ?_
              refine En_getK (j := 14) h1123 rfl rfl rfl (by decide +kernel : TG 159 = 35) (by decide +kernel) ?_
              refine En_Ps 1 (pc' := 159) (lv' := [(0, .ref 159)]) (st' := [.int ((Int32.ofInt 5)), .ref 165]) rfl ?_
              refine En_iald (l := 0) (u := 6) rfl (by decide : (Int32.ofInt 5).toInt = 5) (by decide +kernel : TG 165 = 41) (by decide +kernel) h721 (by omega) (lnI (by decide +kernel : LN _ = 226) (by omega)) (by decide +kernel) (fun z1287 h1286 h1288 h1289 => ?_)
              have h1291 : (gN1 By Nb Sp).1 = 0 := iW_g (i := 1) (B := By) (n := Nb) (by omega)
              have h1290 : (gN1 By Nb Sp).2.2.2 5 = z1287.toInt := ML_wi h734 h1291 h1286 (by omega) (by omega) (by omega)
              refine En_Ps 1 (pc' := 162) (lv' := [(0, .ref 159)]) (st' := [.int (((Int8.ofInt 6).toInt32)), .int z1287]) rfl ?_
              refine En_icNe _ rfl (by decide : ((Int8.ofInt 6).toInt32).toInt = 6) rfl (fun h1292 => ?_) (fun h1292 => ?_)
              · obtain ⟨z1294, h1293, h1295, h1296⟩ := WT_peekI h721 (by decide +kernel : TG 165 = 41) (by decide +kernel : FT 41 (3 : Int).toNat = (0, 0, 12)) (by decide +kernel)
                exact keyj170 σ720 z1126 z1294 z1239 z1287 y723 y727 h721 h722 h1125 (by omega) (by omega) h1293 (by omega) (by omega) h1238 (by omega) (by omega) h1286 (by omega) (by omega) h724 (by omega) (by omega) h728 (by omega) (by omega) (by omega) (by omega) (by intro hh; have zz : (gN1 By Nb Sp).1 = 0 := (by omega); have j1 := Imp_m h736 zz; have j2 := Imp_m h737 zz; have j3 := Imp_m h738 zz; have j4 := Imp_m h739 zz; omega) (by intro hh; have zz : (gN1 By Nb Sp).1 = 0 := (by omega); have j1 := Imp_m h736 zz; have j2 := Imp_m h737 zz; have j3 := Imp_m h738 zz; have j4 := Imp_m h739 zz; omega) (by intro hh; have zz : (gN1 By Nb Sp).1 = 0 := (by omega); have j1 := Imp_m h736 zz; have j2 := Imp_m h737 zz; have j3 := Imp_m h738 zz; have j4 := Imp_m h739 zz; omega) (by intro hh; have zz : (gN1 By Nb Sp).1 = 0 := (by omega); have j1 := Imp_m h736 zz; have j2 := Imp_m h737 zz; have j3 := Imp_m h738 zz; have j4 := Imp_m h739 zz; omega) (h733) (ML_eq h734 (gN2_neg (by omega)).symm)
              · refine En_Ps 2 (pc' := 167) (lv' := [(0, .ref 159)]) (st' := [.int ((Int32.ofInt 3)), .ref 159]) rfl ?_
                have := (by decide : ((Int32.ofInt 3)).toInt = 3)
                refine En_callV rfl rfl rfl rfl rfl rfl rfl rfl (by decide +kernel : TG 159 = 35) (by decide +kernel) rfl (c_223x σ720 h721 ((Int32.ofInt 3)) (geI (by decide : (Int32.ofInt 3).toInt = 3) (by omega)) (leI (by decide : (Int32.ofInt 3).toInt = 3) (by omega)) y723 h724 h734) (by decide) (by decide) (fun v1298 σ1299 h1297 => ?_)
                obtain ⟨h1300, h1301, z1303, h1304, rfl, h1302⟩ := h1297
                have h1305 := h1302.2.2.2.2.2
                have h1306 := Fr_trans h722 h1301 (by decide +kernel)
                have h1307 := KF_fr h733 h1301 (by decide +kernel)
                obtain ⟨S1308, h1309⟩ : ∃ q : PS, q = err By Nb 3 (gN1 By Nb Sp) := ⟨_, rfl⟩
                have h1310 : ML By Nb σ1299 S1308 := by rw [h1309]; exact (ML_eq h1305 (err_cg (by omega)))
                have h1311 := ML_k h1310 h1304
                have h1312 : S1308.2.2.2 = (gN1 By Nb Sp).2.2.2 := by rw [h1309]; exact err_w
                obtain ⟨z1314, h1313, h1315, h1316⟩ := WT_peekI h1300 (by decide +kernel : TG 165 = 41) (by decide +kernel : FT 41 (3 : Int).toNat = (0, 0, 12)) (by decide +kernel)
                exact keyj170 σ1299 z1126 z1314 z1239 z1287 z1303 y727 h1300 h1306 ((h1301 _ _ (inWa (by decide +kernel : TG 165 = 41) (by decide +kernel))).trans h1125) (by omega) (by omega) h1313 (by omega) (by omega) ((h1301 _ _ (inWa (by decide +kernel : TG 165 = 41) (by decide +kernel))).trans h1238) (by omega) (by omega) ((h1301 _ _ (inWa (by decide +kernel : TG 165 = 41) (by decide +kernel))).trans h1286) (by omega) (by omega) h1304 (by omega) (by omega) ((h1301 _ _ (inW (by decide +kernel : TG 159 = 35) (by decide +kernel))).trans h728) (by omega) (by omega) (by omega) (by omega) (by omega) (by omega) (by omega) (by omega) (h1307) (ML_eq h1310 (by subst h1309; exact (gN2_pos (by omega)).symm))
      · refine En_Ps 1 (pc' := 116) (lv' := [(0, .ref 159)]) (st' := [.ref 159]) rfl ?_
        refine En_getK (j := 14) h1123 rfl rfl rfl (by decide +kernel : TG 159 = 35) (by decide +kernel) ?_
        refine En_Ps 1 (pc' := 120) (lv' := [(0, .ref 159)]) (st' := [.int ((Int32.ofInt 3)), .ref 165]) rfl ?_
        refine En_iald (l := 0) (u := 12) rfl (by decide : (Int32.ofInt 3).toInt = 3) (by decide +kernel : TG 165 = 41) (by decide +kernel) h721 (by omega) (lnI (by decide +kernel : LN _ = 226) (by omega)) (by decide +kernel) (fun z1318 h1317 h1319 h1320 => ?_)
        have h1322 : (gN1 By Nb Sp).1 = 0 := iW_g (i := 3) (B := By) (n := Nb) (by omega)
        have h1321 : (gN1 By Nb Sp).2.2.2 3 = z1318.toInt := ML_wi h734 h1322 h1317 (by omega) (by omega) (by omega)
        refine En_Ps 1 (pc' := 123) (lv' := [(0, .ref 159)]) (st' := [.int (((Int8.ofInt 12).toInt32)), .int z1318]) rfl ?_
        refine En_icEq _ rfl (by decide : ((Int8.ofInt 12).toInt32).toInt = 12) rfl (fun h1323 => ?_) (fun h1323 => ?_)
        · refine En_Ps 2 (pc' := 167) (lv' := [(0, .ref 159)]) (st' := [.int ((Int32.ofInt 3)), .ref 159]) rfl ?_
          have := (by decide : ((Int32.ofInt 3)).toInt = 3)
          refine En_callV rfl rfl rfl rfl rfl rfl rfl rfl (by decide +kernel : TG 159 = 35) (by decide +kernel) rfl (c_223x σ720 h721 ((Int32.ofInt 3)) (geI (by decide : (Int32.ofInt 3).toInt = 3) (by omega)) (leI (by decide : (Int32.ofInt 3).toInt = 3) (by omega)) y723 h724 h734) (by decide) (by decide) (fun v1325 σ1326 h1324 => ?_)
          obtain ⟨h1327, h1328, z1330, h1331, rfl, h1329⟩ := h1324
          have h1332 := h1329.2.2.2.2.2
          have h1333 := Fr_trans h722 h1328 (by decide +kernel)
          have h1334 := KF_fr h733 h1328 (by decide +kernel)
          obtain ⟨S1335, h1336⟩ : ∃ q : PS, q = err By Nb 3 (gN1 By Nb Sp) := ⟨_, rfl⟩
          have h1337 : ML By Nb σ1326 S1335 := by rw [h1336]; exact (ML_eq h1332 (err_cg (by omega)))
          have h1338 := ML_k h1337 h1331
          have h1339 : S1335.2.2.2 = (gN1 By Nb Sp).2.2.2 := by rw [h1336]; exact err_w
          obtain ⟨z1341, h1340, h1342, h1343⟩ := WT_peekI h1327 (by decide +kernel : TG 165 = 41) (by decide +kernel : FT 41 (4 : Int).toNat = (0, 0, 4)) (by decide +kernel)
          obtain ⟨z1345, h1344, h1346, h1347⟩ := WT_peekI h1327 (by decide +kernel : TG 165 = 41) (by decide +kernel : FT 41 (5 : Int).toNat = (0, 0, 6)) (by decide +kernel)
          exact keyj170 σ1326 z1126 z1318 z1341 z1345 z1330 y727 h1327 h1333 ((h1328 _ _ (inWa (by decide +kernel : TG 165 = 41) (by decide +kernel))).trans h1125) (by omega) (by omega) ((h1328 _ _ (inWa (by decide +kernel : TG 165 = 41) (by decide +kernel))).trans h1317) (by omega) (by omega) h1340 (by omega) (by omega) h1344 (by omega) (by omega) h1331 (by omega) (by omega) ((h1328 _ _ (inW (by decide +kernel : TG 159 = 35) (by decide +kernel))).trans h728) (by omega) (by omega) (by omega) (by omega) (by omega) (by omega) (by omega) (by omega) (h1334) (ML_eq h1337 (by subst h1336; exact (gN2_pos (by omega)).symm))
        · refine En_Ps 1 (pc' := 127) (lv' := [(0, .ref 159)]) (st' := [.ref 159]) rfl ?_
          refine En_ldcS (i := 5) rfl rfl rfl ?_
          refine En_callV rfl rfl rfl rfl rfl rfl rfl rfl (by decide +kernel : TG 159 = 35) (by decide +kernel) rfl (c_251s5x σ720 h721 h734) (by decide) (by decide) (fun v1349 σ1350 h1348 => ?_)
          obtain ⟨h1351, h1352, z1354, rfl, h1353⟩ := h1348
          have h1355 := h1353.2.2
          obtain rfl : σ720 = σ1350 := Fr_nil h1352
          refine En_iEq _ rfl rfl (fun h1356 => ?_) (fun h1356 => ?_)
          · refine En_Ps 1 (pc' := 146) (lv' := [(0, .ref 159)]) (st' := [.ref 159]) rfl ?_
            refine En_ldcS (i := 1) rfl rfl rfl ?_
            refine En_callV rfl rfl rfl rfl rfl rfl rfl rfl (by decide +kernel : TG 159 = 35) (by decide +kernel) rfl (c_251s1x σ720 h721 h734) (by decide) (by decide) (fun v1358 σ1359 h1357 => ?_)
            obtain ⟨h1360, h1361, z1363, rfl, h1362⟩ := h1357
            have h1364 := h1362.2.2
            obtain rfl : σ720 = σ1359 := Fr_nil h1361
            refine En_iEq _ rfl rfl (fun h1365 => ?_) (fun h1365 => ?_)
            · obtain ⟨z1367, h1366, h1368, h1369⟩ := WT_peekI h721 (by decide +kernel : TG 165 = 41) (by decide +kernel : FT 41 (4 : Int).toNat = (0, 0, 4)) (by decide +kernel)
              obtain ⟨z1371, h1370, h1372, h1373⟩ := WT_peekI h721 (by decide +kernel : TG 165 = 41) (by decide +kernel : FT 41 (5 : Int).toNat = (0, 0, 6)) (by decide +kernel)
              exact keyj170 σ720 z1126 z1318 z1367 z1371 y723 y727 h721 h722 h1125 (by omega) (by omega) h1317 (by omega) (by omega) h1366 (by omega) (by omega) h1370 (by omega) (by omega) h724 (by omega) (by omega) h728 (by omega) (by omega) (by omega) (by omega) (by intro hh; have zz : (gN1 By Nb Sp).1 = 0 := (by omega); have j1 := Imp_m h736 zz; have j2 := Imp_m h737 zz; have j3 := Imp_m h738 zz; have j4 := Imp_m h739 zz; omega) (by intro hh; have zz : (gN1 By Nb Sp).1 = 0 := (by omega); have j1 := Imp_m h736 zz; have j2 := Imp_m h737 zz; have j3 := Imp_m h738 zz; have j4 := Imp_m h739 zz; omega) (by intro hh; have zz : (gN1 By Nb Sp).1 = 0 := (by omega); have j1 := Imp_m h736 zz; have j2 := Imp_m h737 zz; have j3 := Imp_m h738 zz; have j4 := Imp_m h739 zz; omega) (by intro hh; have zz : (gN1 By Nb Sp).1 = 0 := (by omega); have j1 := Imp_m h736 zz; have j2 := Imp_m h737 zz; have j3 := Imp_m h738 zz; have j4 := Imp_m h739 zz; omega) (h733) (ML_eq h734 (gN2_neg (by omega)).symm)
            · refine En_Ps 1 (pc' := 155) (lv' := [(0, .ref 159)]) (st' := [.ref 159]) rfl ?_
              refine En_getK (j := 14) h1123 rfl rfl rfl (by decide +kernel : TG 159 = 35) (by decide +kernel) ?_
              refine En_Ps 1 (pc' := 159) (lv' := [(0, .ref 159)]) (st' := [.int ((Int32.ofInt 5)), .ref 165]) rfl ?_
              refine En_iald (l := 0) (u := 6) rfl (by decide : (Int32.ofInt 5).toInt = 5) (by decide +kernel : TG 165 = 41) (by decide +kernel) h721 (by omega) (lnI (by decide +kernel : LN _ = 226) (by omega)) (by decide +kernel) (fun z1375 h1374 h1376 h1377 => ?_)
              have h1379 : (gN1 By Nb Sp).1 = 0 := iW_g (i := 1) (B := By) (n := Nb) (by omega)
              have h1378 : (gN1 By Nb Sp).2.2.2 5 = z1375.toInt := ML_wi h734 h1379 h1374 (by omega) (by omega) (by omega)
              refine En_Ps 1 (pc' := 162) (lv' := [(0, .ref 159)]) (st' := [.int (((Int8.ofInt 6).toInt32)), .int z1375]) rfl ?_
              refine En_icNe _ rfl (by decide : ((Int8.ofInt 6).toInt32).toInt = 6) rfl (fun h1380 => ?_) (fun h1380 => ?_)
              · obtain ⟨z1382, h1381, h1383, h1384⟩ := WT_peekI h721 (by decide +kernel : TG 165 = 41) (by decide +kernel : FT 41 (4 : Int).toNat = (0, 0, 4)) (by decide +kernel)
                exact keyj170 σ720 z1126 z1318 z1382 z1375 y723 y727 h721 h722 h1125 (by omega) (by omega) h1317 (by omega) (by omega) h1381 (by omega) (by omega) h1374 (by omega) (by omega) h724 (by omega) (by omega) h728 (by omega) (by omega) (by omega) (by omega) (by intro hh; have zz : (gN1 By Nb Sp).1 = 0 := (by omega); have j1 := Imp_m h736 zz; have j2 := Imp_m h737 zz; have j3 := Imp_m h738 zz; have j4 := Imp_m h739 zz; omega) (by intro hh; have zz : (gN1 By Nb Sp).1 = 0 := (by omega); have j1 := Imp_m h736 zz; have j2 := Imp_m h737 zz; have j3 := Imp_m h738 zz; have j4 := Imp_m h739 zz; omega) (by intro hh; have zz : (gN1 By Nb Sp).1 = 0 := (by omega); have j1 := Imp_m h736 zz; have j2 := Imp_m h737 zz; have j3 := Imp_m h738 zz; have j4 := Imp_m h739 zz; omega) (by intro hh; have zz : (gN1 By Nb Sp).1 = 0 := (by omega); have j1 := Imp_m h736 zz; have j2 := Imp_m h737 zz; have j3 := Imp_m h738 zz; have j4 := Imp_m h739 zz; omega) (h733) (ML_eq h734 (gN2_neg (by omega)).symm)
              · refine En_Ps 2 (pc' := 167) (lv' := [(0, .ref 159)]) (st' := [.int ((Int32.ofInt 3)), .ref 159]) rfl ?_
                have := (by decide : ((Int32.ofInt 3)).toInt = 3)
                refine En_callV rfl rfl rfl rfl rfl rfl rfl rfl (by decide +kernel : TG 159 = 35) (by decide +kernel) rfl (c_223x σ720 h721 ((Int32.ofInt 3)) (geI (by decide : (Int32.ofInt 3).toInt = 3) (by omega)) (leI (by decide : (Int32.ofInt 3).toInt = 3) (by omega)) y723 h724 h734) (by decide) (by decide) (fun v1386 σ1387 h1385 => ?_)
                obtain ⟨h1388, h1389, z1391, h1392, rfl, h1390⟩ := h1385
                have h1393 := h1390.2.2.2.2.2
                have h1394 := Fr_trans h722 h1389 (by decide +kernel)
                have h1395 := KF_fr h733 h1389 (by decide +kernel)
                obtain ⟨S1396, h1397⟩ : ∃ q : PS, q = err By Nb 3 (gN1 By Nb Sp) := ⟨_, rfl⟩
                have h1398 : ML By Nb σ1387 S1396 := by rw [h1397]; exact (ML_eq h1393 (err_cg (by omega)))
                have h1399 := ML_k h1398 h1392
                have h1400 : S1396.2.2.2 = (gN1 By Nb Sp).2.2.2 := by rw [h1397]; exact err_w
                obtain ⟨z1402, h1401, h1403, h1404⟩ := WT_peekI h1388 (by decide +kernel : TG 165 = 41) (by decide +kernel : FT 41 (4 : Int).toNat = (0, 0, 4)) (by decide +kernel)
                exact keyj170 σ1387 z1126 z1318 z1402 z1375 z1391 y727 h1388 h1394 ((h1389 _ _ (inWa (by decide +kernel : TG 165 = 41) (by decide +kernel))).trans h1125) (by omega) (by omega) ((h1389 _ _ (inWa (by decide +kernel : TG 165 = 41) (by decide +kernel))).trans h1317) (by omega) (by omega) h1401 (by omega) (by omega) ((h1389 _ _ (inWa (by decide +kernel : TG 165 = 41) (by decide +kernel))).trans h1374) (by omega) (by omega) h1392 (by omega) (by omega) ((h1389 _ _ (inW (by decide +kernel : TG 159 = 35) (by decide +kernel))).trans h728) (by omega) (by omega) (by omega) (by omega) (by omega) (by omega) (by omega) (by omega) (h1395) (ML_eq h1398 (by subst h1397; exact (gN2_pos (by omega)).symm))
          · refine En_Ps 1 (pc' := 136) (lv' := [(0, .ref 159)]) (st' := [.ref 159]) rfl ?_
            refine En_getK (j := 14) h1123 rfl rfl rfl (by decide +kernel : TG 159 = 35) (by decide +kernel) ?_
            refine En_Ps 1 (pc' := 140) (lv' := [(0, .ref 159)]) (st' := [.int ((Int32.ofInt 4)), .ref 165]) rfl ?_
            refine En_iald (l := 0) (u := 4) rfl (by decide : (Int32.ofInt 4).toInt = 4) (by decide +kernel : TG 165 = 41) (by decide +kernel) h721 (by omega) (lnI (by decide +kernel : LN _ = 226) (by omega)) (by decide +kernel) (fun z1406 h1405 h1407 h1408 => ?_)
            have h1410 : (gN1 By Nb Sp).1 = 0 := iW_g (i := 5) (B := By) (n := Nb) (by omega)
            have h1409 : (gN1 By Nb Sp).2.2.2 4 = z1406.toInt := ML_wi h734 h1410 h1405 (by omega) (by omega) (by omega)
            refine En_Ps 1 (pc' := 142) (lv' := [(0, .ref 159)]) (st' := [.int ((Int32.ofInt 4)), .int z1406]) rfl ?_
            refine En_icEq _ rfl (by decide : (Int32.ofInt 4).toInt = 4) rfl (fun h1411 => ?_) (fun h1411 => ?_)
            · refine En_Ps 2 (pc' := 167) (lv' := [(0, .ref 159)]) (st' := [.int ((Int32.ofInt 3)), .ref 159]) rfl ?_
              have := (by decide : ((Int32.ofInt 3)).toInt = 3)
              refine En_callV rfl rfl rfl rfl rfl rfl rfl rfl (by decide +kernel : TG 159 = 35) (by decide +kernel) rfl (c_223x σ720 h721 ((Int32.ofInt 3)) (geI (by decide : (Int32.ofInt 3).toInt = 3) (by omega)) (leI (by decide : (Int32.ofInt 3).toInt = 3) (by omega)) y723 h724 h734) (by decide) (by decide) (fun v1413 σ1414 h1412 => ?_)
              obtain ⟨h1415, h1416, z1418, h1419, rfl, h1417⟩ := h1412
              have h1420 := h1417.2.2.2.2.2
              have h1421 := Fr_trans h722 h1416 (by decide +kernel)
              have h1422 := KF_fr h733 h1416 (by decide +kernel)
              obtain ⟨S1423, h1424⟩ : ∃ q : PS, q = err By Nb 3 (gN1 By Nb Sp) := ⟨_, rfl⟩
              have h1425 : ML By Nb σ1414 S1423 := by rw [h1424]; exact (ML_eq h1420 (err_cg (by omega)))
              have h1426 := ML_k h1425 h1419
              have h1427 : S1423.2.2.2 = (gN1 By Nb Sp).2.2.2 := by rw [h1424]; exact err_w
              obtain ⟨z1429, h1428, h1430, h1431⟩ := WT_peekI h1415 (by decide +kernel : TG 165 = 41) (by decide +kernel : FT 41 (5 : Int).toNat = (0, 0, 6)) (by decide +kernel)
              exact keyj170 σ1414 z1126 z1318 z1406 z1429 z1418 y727 h1415 h1421 ((h1416 _ _ (inWa (by decide +kernel : TG 165 = 41) (by decide +kernel))).trans h1125) (by omega) (by omega) ((h1416 _ _ (inWa (by decide +kernel : TG 165 = 41) (by decide +kernel))).trans h1317) (by omega) (by omega) ((h1416 _ _ (inWa (by decide +kernel : TG 165 = 41) (by decide +kernel))).trans h1405) (by omega) (by omega) h1428 (by omega) (by omega) h1419 (by omega) (by omega) ((h1416 _ _ (inW (by decide +kernel : TG 159 = 35) (by decide +kernel))).trans h728) (by omega) (by omega) (by omega) (by omega) (by omega) (by omega) (by omega) (by omega) (h1422) (ML_eq h1425 (by subst h1424; exact (gN2_pos (by omega)).symm))
            · refine En_Ps 1 (pc' := 146) (lv' := [(0, .ref 159)]) (st' := [.ref 159]) rfl ?_
              refine En_ldcS (i := 1) rfl rfl rfl ?_
              refine En_callV rfl rfl rfl rfl rfl rfl rfl rfl (by decide +kernel : TG 159 = 35) (by decide +kernel) rfl (c_251s1x σ720 h721 h734) (by decide) (by decide) (fun v1433 σ1434 h1432 => ?_)
              obtain ⟨h1435, h1436, z1438, rfl, h1437⟩ := h1432
              have h1439 := h1437.2.2
              obtain rfl : σ720 = σ1434 := Fr_nil h1436
              refine En_iEq _ rfl rfl (fun h1440 => ?_) (fun h1440 => ?_)
              · obtain ⟨z1442, h1441, h1443, h1444⟩ := WT_peekI h721 (by decide +kernel : TG 165 = 41) (by decide +kernel : FT 41 (5 : Int).toNat = (0, 0, 6)) (by decide +kernel)
                exact keyj170 σ720 z1126 z1318 z1406 z1442 y723 y727 h721 h722 h1125 (by omega) (by omega) h1317 (by omega) (by omega) h1405 (by omega) (by omega) h1441 (by omega) (by omega) h724 (by omega) (by omega) h728 (by omega) (by omega) (by omega) (by omega) (by intro hh; have zz : (gN1 By Nb Sp).1 = 0 := (by omega); have j1 := Imp_m h736 zz; have j2 := Imp_m h737 zz; have j3 := Imp_m h738 zz; have j4 := Imp_m h739 zz; omega) (by intro hh; have zz : (gN1 By Nb Sp).1 = 0 := (by omega); have j1 := Imp_m h736 zz; have j2 := Imp_m h737 zz; have j3 := Imp_m h738 zz; have j4 := Imp_m h739 zz; omega) (by intro hh; have zz : (gN1 By Nb Sp).1 = 0 := (by omega); have j1 := Imp_m h736 zz; have j2 := Imp_m h737 zz; have j3 := Imp_m h738 zz; have j4 := Imp_m h739 zz; omega) (by intro hh; have zz : (gN1 By Nb Sp).1 = 0 := (by omega); have j1 := Imp_m h736 zz; have j2 := Imp_m h737 zz; have j3 := Imp_m h738 zz; have j4 := Imp_m h739 zz; omega) (h733) (ML_eq h734 (gN2_neg (by omega)).symm)
              · refine En_Ps 1 (pc' := 155) (lv' := [(0, .ref 159)]) (st' := [.ref 159]) rfl ?_
                refine En_getK (j := 14) h1123 rfl rfl rfl (by decide +kernel : TG 159 = 35) (by decide +kernel) ?_
                refine En_Ps 1 (pc' := 159) (lv' := [(0, .ref 159)]) (st' := [.int ((Int32.ofInt 5)), .ref 165]) rfl ?_
                refine En_iald (l := 0) (u := 6) rfl (by decide : (Int32.ofInt 5).toInt = 5) (by decide +kernel : TG 165 = 41) (by decide +kernel) h721 (by omega) (lnI (by decide +kernel : LN _ = 226) (by omega)) (by decide +kernel) (fun z1446 h1445 h1447 h1448 => ?_)
                have h1450 : (gN1 By Nb Sp).1 = 0 := iW_g (i := 1) (B := By) (n := Nb) (by omega)
                have h1449 : (gN1 By Nb Sp).2.2.2 5 = z1446.toInt := ML_wi h734 h1450 h1445 (by omega) (by omega) (by omega)
                refine En_Ps 1 (pc' := 162) (lv' := [(0, .ref 159)]) (st' := [.int (((Int8.ofInt 6).toInt32)), .int z1446]) rfl ?_
                refine En_icNe _ rfl (by decide : ((Int8.ofInt 6).toInt32).toInt = 6) rfl (fun h1451 => ?_) (fun h1451 => ?_)
                · exact keyj170 σ720 z1126 z1318 z1406 z1446 y723 y727 h721 h722 h1125 (by omega) (by omega) h1317 (by omega) (by omega) h1405 (by omega) (by omega) h1445 (by omega) (by omega) h724 (by omega) (by omega) h728 (by omega) (by omega) (by omega) (by omega) (by intro hh; have zz : (gN1 By Nb Sp).1 = 0 := (by omega); have j1 := Imp_m h736 zz; have j2 := Imp_m h737 zz; have j3 := Imp_m h738 zz; have j4 := Imp_m h739 zz; omega) (by intro hh; have zz : (gN1 By Nb Sp).1 = 0 := (by omega); have j1 := Imp_m h736 zz; have j2 := Imp_m h737 zz; have j3 := Imp_m h738 zz; have j4 := Imp_m h739 zz; omega) (by intro hh; have zz : (gN1 By Nb Sp).1 = 0 := (by omega); have j1 := Imp_m h736 zz; have j2 := Imp_m h737 zz; have j3 := Imp_m h738 zz; have j4 := Imp_m h739 zz; omega) (by intro hh; have zz : (gN1 By Nb Sp).1 = 0 := (by omega); have j1 := Imp_m h736 zz; have j2 := Imp_m h737 zz; have j3 := Imp_m h738 zz; have j4 := Imp_m h739 zz; omega) (h733) (ML_eq h734 (gN2_neg (by omega)).symm)
                · refine En_Ps 2 (pc' := 167) (lv' := [(0, .ref 159)]) (st' := [.int ((Int32.ofInt 3)), .ref 159]) rfl ?_
                  have := (by decide : ((Int32.ofInt 3)).toInt = 3)
                  refine En_callV rfl rfl rfl rfl rfl rfl rfl rfl (by decide +kernel : TG 159 = 35) (by decide +kernel) rfl (c_223x σ720 h721 ((Int32.ofInt 3)) (geI (by decide : (Int32.ofInt 3).toInt = 3) (by omega)) (leI (by decide : (Int32.ofInt 3).toInt = 3) (by omega)) y723 h724 h734) (by decide) (by decide) (fun v1453 σ1454 h1452 => ?_)
                  obtain ⟨h1455, h1456, z1458, h1459, rfl, h1457⟩ := h1452
                  have h1460 := h1457.2.2.2.2.2
                  have h1461 := Fr_trans h722 h1456 (by decide +kernel)
                  have h1462 := KF_fr h733 h1456 (by decide +kernel)
                  obtain ⟨S1463, h1464⟩ : ∃ q : PS, q = err By Nb 3 (gN1 By Nb Sp) := ⟨_, rfl⟩
                  have h1465 : ML By Nb σ1454 S1463 := by rw [h1464]; exact (ML_eq h1460 (err_cg (by omega)))
                  have h1466 := ML_k h1465 h1459
                  have h1467 : S1463.2.2.2 = (gN1 By Nb Sp).2.2.2 := by rw [h1464]; exact err_w
                  exact keyj170 σ1454 z1126 z1318 z1406 z1446 z1458 y727 h1455 h1461 ((h1456 _ _ (inWa (by decide +kernel : TG 165 = 41) (by decide +kernel))).trans h1125) (by omega) (by omega) ((h1456 _ _ (inWa (by decide +kernel : TG 165 = 41) (by decide +kernel))).trans h1317) (by omega) (by omega) ((h1456 _ _ (inWa (by decide +kernel : TG 165 = 41) (by decide +kernel))).trans h1405) (by omega) (by omega) ((h1456 _ _ (inWa (by decide +kernel : TG 165 = 41) (by decide +kernel))).trans h1445) (by omega) (by omega) h1459 (by omega) (by omega) ((h1456 _ _ (inW (by decide +kernel : TG 159 = 35) (by decide +kernel))).trans h728) (by omega) (by omega) (by omega) (by omega) (by omega) (by omega) (by omega) (by omega) (h1462) (ML_eq h1465 (by subst h1464; exact (gN2_pos (by omega)).symm))

