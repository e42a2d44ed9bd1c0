set_option maxRecDepth 10000 in
set_option maxHeartbeats 4000000 in
theorem k_302x_386 {By : Int → Int} {Nb : Int} {Sp : PS} (σ0 : SG) (hσ0 : WT σ0) (f : Int32) (h_f : (σ0 159)[8]? = some (.int f)) (k : Int32) (h_k : (σ0 159)[12]? = some (.int k)) (hM : ML By Nb σ0 Sp) (hg : Sp.1 = 0) : ∀ (σ287 : SG) (y290 : Int32) (y294 : Int32) (y298 : Int32), WT σ287 → Fr [(35, 8), (35, 9), (35, 10), (35, 11), (35, 12), (35, 13), (41, 0)] σ0 σ287 → (σ287 165)[(5 : Int).toNat]? = some (.int y290) → 0 ≤ y290.toInt → y290.toInt ≤ 6 → (σ287 159)[12]? = some (.int y294) → 0 ≤ y294.toInt → y294.toInt ≤ 3 → (σ287 159)[8]? = some (.int y298) → 0 ≤ y298.toInt → y298.toInt ≤ 1600 → f.toInt - y298.toInt ≤ 0 → Imp (y294.toInt ≤ 0) (k.toInt ≤ 0) → y294.toInt ≤ 0 → (iW By Nb 2 Sp) ≤ 0 ∧ -(iW By Nb 2 Sp) ≤ 0 → (iW By Nb 6 Sp) ≤ 0 ∧ -(iW By Nb 6 Sp) ≤ 0 → (iW By Nb 3 Sp) ≤ 0 ∧ -(iW By Nb 3 Sp) ≤ 0 → (iW By Nb 17 Sp) ≤ 0 ∧ -(iW By Nb 17 Sp) ≤ 0 → (iW By Nb 9 Sp) ≤ 0 ∧ -(iW By Nb 9 Sp) ≤ 0 → (iW By Nb 5 Sp) ≤ 0 ∧ -(iW By Nb 5 Sp) ≤ 0 → (iW By Nb 1 Sp) ≤ 0 ∧ -(iW By Nb 1 Sp) ≤ 0 → KF σ0 σ287 → ML By Nb σ287 Sp → gN2 By Nb (gN1 By Nb Sp) = Sp → En 9 200 none mr_302 (P_302x σ0 By Nb Sp f k) 386 [(0, .ref 159)] [] σ287 := by
  obtain ⟨hl_f, hu_f⟩ := WT_int hσ0 (g := 35) (by decide +kernel) (by decide +kernel) (l := 0) (u := 1600) (by decide +kernel) h_f
  obtain ⟨hl_k, hu_k⟩ := WT_int hσ0 (g := 35) (by decide +kernel) (by decide +kernel) (l := 0) (u := 3) (by decide +kernel) h_k
  have hF0 : Fr [(35, 8), (35, 9), (35, 10), (35, 11), (35, 12), (35, 13), (41, 0)] σ0 σ0 := Fr_rfl
  intro σ287 y290 y294 y298 h288 h289 h291 h292 h293 h295 h296 h297 h299 h300 h301 h302 h303 h304 h305 h306 h307 h308 h309 h310 h311 h312 h313 h314
  have h315 := Imp_m h303 (by omega)
  have h316 := ML_k h313 h295
  have h317 := ML_w h313 hg h291 (by omega) (by omega)
  refine En_Ps 1 (pc' := 387) (lv' := [(0, .ref 159)]) (st' := [.ref 159]) rfl ?_
  refine En_callV rfl rfl rfl rfl rfl rfl rfl rfl (by decide +kernel : TG 159 = 35) (by decide +kernel) rfl (c_189x σ287 h288 y298 h299 h313.1 (ML_at h313 (by omega) h299)) (by decide) (by decide) (fun v319 σ320 h318 => ?_)
  obtain ⟨h321, h322, z324, h325, z326, h327, rfl, h323⟩ := h318
  have h328 := h323.2.2.2.2.2.2.2.2.2.2
  have h329 := Fr_trans h289 h322 (by decide +kernel)
  have h330 := KF_fr h312 h322 (by decide +kernel)
  obtain ⟨S331, h332⟩ : ∃ q : PS, q = adv By Nb Sp := ⟨_, rfl⟩
  have h333 : ML By Nb σ320 S331 := by rw [h332]; exact (ML_adv h313 (by omega) h299 h322 (by decide +kernel) h328.2)
  have h334 := ML_k h333 ((h322 _ _ (inW (by decide +kernel : TG 159 = 35) (by decide +kernel))).trans h295)
  have h335 : Imp (S331.1 = 0) (tK By Nb S331.2.2.1 = z326.toInt) := ML_t h333 h327
  have h336 : S331.2.2.2 = Sp.2.2.2 := by rw [h332]; exact adv_w
  have h337 : S331.1 = 0 := by rw [h332, adv_1]; omega
  have h338 : S331.2.2.2 0 = Sp.2.2.2 0 := by rw [h336]
  have h339 : S331.2.2.2 5 = Sp.2.2.2 5 := by rw [h336]
  refine En_Ps 3 (pc' := 393) (lv' := [(0, .ref 159)]) (st' := [.ref 159, .int ((Int32.ofInt 0)), .ref 159]) rfl ?_
  refine En_getU (j := 14) (u := 165) (g' := 41) (q := 0) rfl rfl rfl (by decide +kernel : TG 159 = 35) (by decide +kernel) h321 (by decide +kernel) (by decide +kernel) (fun h340 => ?_)
  refine En_Ps 1 (pc' := 397) (lv' := [(0, .ref 159)]) (st' := [.int ((Int32.ofInt 5)), .ref 165, .int ((Int32.ofInt 0)), .ref 159]) rfl ?_
  refine En_ialdK ((h322 _ _ (inWa (by decide +kernel : TG 165 = 41) (by decide +kernel))).trans h291) rfl (by decide : (Int32.ofInt 5).toInt = 5) (by decide +kernel : TG 165 = 41) (by decide +kernel) h321 (by omega) (lnI (by decide +kernel : LN _ = 226) (by omega)) ?_
  refine En_Ps 2 (pc' := 400) (lv' := [(0, .ref 159)]) (st' := [.int ((y290 - ((Int32.ofInt 1)))), .int ((Int32.ofInt 0)), .ref 159]) rfl ?_
  refine En_top (subI rfl (by decide : (Int32.ofInt 1).toInt = 1) (by omega) (by omega)) (fun z343 h344 => ?_)
  obtain ⟨z346, h345, h347, h348⟩ := WT_peekI h321 (by decide +kernel : TG 159 = 35) (by decide +kernel : FT 35 11 = (0, 0, 99999)) (by decide +kernel)
  have := (by decide : ((Int32.ofInt 0)).toInt = 0)
  refine En_callV rfl rfl rfl rfl rfl rfl rfl rfl (by decide +kernel : TG 159 = 35) (by decide +kernel) rfl (c_288x σ320 h321 ((Int32.ofInt 0)) z343 (geI (by decide : (Int32.ofInt 0).toInt = 0) (by omega)) (leI (by decide : (Int32.ofInt 0).toInt = 0) (by omega)) (geI rfl (by omega)) (leI rfl (by omega)) z324 h325 y294 ((h322 _ _ (inW (by decide +kernel : TG 159 = 35) (by decide +kernel))).trans h295) z326 h327 z346 h345 h333) (by decide) (by decide) (fun v350 σ351 h349 => ?_)
  obtain ⟨h352, h353, z355, h356, z357, h358, z359, rfl, h354⟩ := h349
  have h360 := h354.2.2.2.2.2.2.2.2.2.2.2.2.2.2.2.2.2.2.2.2.2.2.2.2.2.2.2.2
  have h361 := Fr_trans h329 h353 (by decide +kernel)
  have h362 := KF_fr h330 h353 (by decide +kernel)
  have h363 : tN By Nb ((Int32.ofInt 0)).toInt z343.toInt S331 = tN By Nb (0) (S331.2.2.2 5 - 1) S331 := tN_cg2 (fun zz => by have j1 := Imp_m h335 zz; omega) (fun zz => by have j1 := Imp_m h335 zz; omega)
  obtain ⟨S364, h365⟩ : ∃ q : PS, q = tN By Nb (0) (S331.2.2.2 5 - 1) S331 := ⟨_, rfl⟩
  have h366 : ML By Nb σ351 S364 := by rw [h365]; exact (ML_eq h360.1 h363)
  have h367 := ML_k h366 h358
  have h368 : Imp (S364.1 = 0) (z359.toInt = tV By Nb S331.2.2.1) := fun z => h360.2 (by rw [h363, ← h365]; exact z)
  have h369 : Imp (S364.1 = 0) (S331.1 = 0 ∧ tK By Nb S331.2.2.1 = 2 ∧ 0 ≤ tV By Nb S331.2.2.1 ∧ tV By Nb S331.2.2.1 ≤ S331.2.2.2 5 - 1) := fun z => tN_gg (by rw [← h365]; exact z)
  have h370 : S364.2.2.2 = S331.2.2.2 := by rw [h365]; exact tN_w
  have h371 := Imp_m h354.2.2.2.2.2.2.2.2.2.2.2.2.2.2.2.2.2.2.2.2.2.2.2.1 (by omega)
  have h372 := Imp_m h354.2.2.2.2.2.2.2.2.2.2.2.2.2.2.2.2.2.2.2.2.2.2.2.2.1 (by omega)
  refine En_Ps 5 (pc' := 408) (lv' := [(2, .int z359), (0, .ref 159)]) (st' := [.int ((z359 + ((Int32.ofInt 1)))), .ref 159]) rfl ?_
  refine En_top (addI rfl (by decide : (Int32.ofInt 1).toInt = 1) (by omega) (by omega)) (fun z373 h374 => ?_)
  refine En_Ps 1 (pc' := 409) (lv' := [(2, .int z359), (0, .ref 159)]) (st' := [.ref 159, .int z373, .ref 159]) rfl ?_
  refine En_getK (j := 14) ((h353 _ _ (inW (by decide +kernel : TG 159 = 35) (by decide +kernel))).trans h340) rfl rfl rfl (by decide +kernel : TG 159 = 35) (by decide +kernel) ?_
  refine En_Ps 1 (pc' := 413) (lv' := [(2, .int z359), (0, .ref 159)]) (st' := [.int ((Int32.ofInt 5)), .ref 165, .int z373, .ref 159]) rfl ?_
  refine En_ialdK ((h353 _ _ (inWa (by decide +kernel : TG 165 = 41) (by decide +kernel))).trans ((h322 _ _ (inWa (by decide +kernel : TG 165 = 41) (by decide +kernel))).trans h291)) rfl (by decide : (Int32.ofInt 5).toInt = 5) (by decide +kernel : TG 165 = 41) (by decide +kernel) h352 (by omega) (lnI (by decide +kernel : LN _ = 226) (by omega)) ?_
  refine En_Ps 2 (pc' := 416) (lv' := [(2, .int z359), (0, .ref 159)]) (st' := [.int ((y290 - ((Int32.ofInt 1)))), .int z373, .ref 159]) rfl ?_
  refine En_top (subI rfl (by decide : (Int32.ofInt 1).toInt = 1) (by omega) (by omega)) (fun z376 h377 => ?_)
  obtain ⟨z379, h378, h380, h381⟩ := WT_peekI h352 (by decide +kernel : TG 159 = 35) (by decide +kernel : FT 35 10 = (0, 0, 4)) (by decide +kernel)
  obtain ⟨z383, h382, h384, h385⟩ := WT_peekI h352 (by decide +kernel : TG 159 = 35) (by decide +kernel : FT 35 11 = (0, 0, 99999)) (by decide +kernel)
  refine En_callV rfl rfl rfl rfl rfl rfl rfl rfl (by decide +kernel : TG 159 = 35) (by decide +kernel) rfl (c_288x σ351 h352 z373 z376 (geI rfl (by omega)) (leI rfl (by omega)) (geI rfl (by omega)) (leI rfl (by omega)) z355 h356 z357 h358 z379 h378 z383 h382 h366) (by decide) (by decide) (fun v387 σ388 h386 => ?_)
  obtain ⟨h389, h390, z392, h393, z394, h395, z396, rfl, h391⟩ := h386
  have h397 := h391.2.2.2.2.2.2.2.2.2.2.2.2.2.2.2.2.2.2.2.2.2.2.2.2.2.2.2.2
  have h398 := Fr_trans h361 h390 (by decide +kernel)
  have h399 := KF_fr h362 h390 (by decide +kernel)
  have h400 : tN By Nb z373.toInt z376.toInt S364 = tN By Nb ((tV By Nb S331.2.2.1) + 1) (S331.2.2.2 5 - 1) S364 := tN_cg2 (fun zz => by have j1 := Imp_m h368 zz; have j2 := Imp_m h369 zz; have j3 := Imp_m h335 j2.1; omega) (fun zz => by have j1 := Imp_m h368 zz; have j2 := Imp_m h369 zz; have j3 := Imp_m h335 j2.1; omega)
  obtain ⟨S401, h402⟩ : ∃ q : PS, q = tN By Nb ((tV By Nb S331.2.2.1) + 1) (S331.2.2.2 5 - 1) S364 := ⟨_, rfl⟩
  have h403 : ML By Nb σ388 S401 := by rw [h402]; exact (ML_eq h397.1 h400)
  have h404 := ML_k h403 h395
  have h405 : Imp (S401.1 = 0) (z396.toInt = tV By Nb S364.2.2.1) := fun z => h397.2 (by rw [h400, ← h402]; exact z)
  have h406 : Imp (S401.1 = 0) (S364.1 = 0 ∧ tK By Nb S364.2.2.1 = 2 ∧ (tV By Nb S331.2.2.1) + 1 ≤ tV By Nb S364.2.2.1 ∧ tV By Nb S364.2.2.1 ≤ S331.2.2.2 5 - 1) := fun z => tN_gg (by rw [← h402]; exact z)
  have h407 : S401.2.2.2 = S364.2.2.2 := by rw [h402]; exact tN_w
  have h408 := Imp_m h391.2.2.2.2.2.2.2.2.2.2.2.2.2.2.2.2.2.2.2.2.2.2.2.2.1 (by omega)
  refine En_Ps 2 (pc' := 421) (lv' := [(3, .int z396), (2, .int z359), (0, .ref 159)]) (st' := [.ref 159]) rfl ?_
  refine En_callV rfl rfl rfl rfl rfl rfl rfl rfl (by decide +kernel : TG 159 = 35) (by decide +kernel) rfl (c_237 σ388 h389 z394 h395) (by decide) (by decide) (fun v410 σ411 h409 => ?_)
  obtain ⟨h412, h413, z415, rfl, h414⟩ := h409
  obtain rfl : σ388 = σ411 := Fr_nil h413
  refine En_iEq _ rfl rfl (fun h416 => ?_) (fun h416 => ?_)
  · exact En_ret (v := none) rfl rfl rfl ⟨h389, h398, z392, h393, z394, h395, rfl, ⟨by omega, by omega, by omega, by omega, by omega, by omega, by omega, by omega, by omega, by omega, by omega, by omega, by omega, fun _ => by omega, ⟨h399, ML_eq h403 (by subst h402; subst h365; subst h332; rw [gNx_0 h314 hg (by omega) (by omega) (by omega) (by omega) (by omega) (by omega) (by omega)]; unfold gAhead; (try dsimp only); first | done | (rw [if_pos (by omega)]; first | done | rfl) | (rw [if_neg (by omega)]; first | done | rfl))⟩⟩⟩
  · have h417 := Imp_m h354.2.2.2.2.2.2.2.2.2.2.2.2.2.2.2.2.2.2.2.2.2.2.2.2.2.2.2.1 (by omega)
    have h418 := Imp_m h391.2.2.2.2.2.2.2.2.2.2.2.2.2.2.2.2.2.2.2.2.2.2.2.2.2.1 (by omega)
    have h419 := Imp_m h391.2.2.2.2.2.2.2.2.2.2.2.2.2.2.2.2.2.2.2.2.2.2.2.2.2.2.2.1 (by omega)
    have h420 := Imp_m h323.2.2.2.2.2.2.2.2.2.1 (by omega)
    have h421 := Imp_m h354.2.2.2.2.2.2.2.2.2.2.2.2.2.2.2.2.2.2.2.2.2.2.2.2.2.1 (by omega)
    have h422 : S401.1 = 0 := by omega
    have h423 := Imp_m h405 h422
    have h424 := Imp_m h406 h422
    have h425 := Imp_m h368 h424.1
    have h426 := Imp_m h369 h424.1
    have h427 := Imp_m h335 h426.1
    refine En_Ps 1 (pc' := 428) (lv' := [(3, .int z396), (2, .int z359), (0, .ref 159)]) (st' := [.ref 159]) rfl ?_
    refine En_getK (j := 14) ((h390 _ _ (inW (by decide +kernel : TG 159 = 35) (by decide +kernel))).trans ((h353 _ _ (inW (by decide +kernel : TG 159 = 35) (by decide +kernel))).trans h340)) rfl rfl rfl (by decide +kernel : TG 159 = 35) (by decide +kernel) ?_
    refine En_Ps 4 (pc' := 437) (lv' := [(3, .int z396), (2, .int z359), (0, .ref 159)]) (st' := [.int ((((Int32.ofInt 2)) * z396)), .int (((Int16.ofInt 154).toInt32)), .ref 165]) rfl ?_
    refine En_top (mulI (by decide : (Int32.ofInt 2).toInt = 2) rfl (Z := 2 * z396.toInt) (by omega) (by omega) (by omega)) (fun z428 h429 => ?_)
    refine En_Ps 1 (pc' := 438) (lv' := [(3, .int z396), (2, .int z359), (0, .ref 159)]) (st' := [.int (((((Int16.ofInt 154).toInt32)) + z428)), .ref 165]) rfl ?_
    refine En_top (addI (by decide : ((Int16.ofInt 154).toInt32).toInt = 154) rfl (by omega) (by omega)) (fun z430 h431 => ?_)
    refine En_Ps 2 (pc' := 440) (lv' := [(3, .int z396), (2, .int z359), (0, .ref 159)]) (st' := [.int ((z430 + ((Int32.ofInt 1)))), .ref 165]) rfl ?_
    refine En_top (addI rfl (by decide : (Int32.ofInt 1).toInt = 1) (by omega) (by omega)) (fun z432 h433 => ?_)
    refine En_Ps 1 (pc' := 441) (lv' := [(3, .int z396), (2, .int z359), (0, .ref 159)]) (st' := [.int z432, .ref 165, .int z432, .ref 165]) rfl ?_
    refine En_iald (l := 0) (u := 63) rfl rfl (by decide +kernel : TG 165 = 41) (by decide +kernel) h389 (by omega) (lnI (by decide +kernel : LN _ = 226) (by omega)) (FTrow 41 157 2 5 (by decide +kernel) (by omega) (by omega) (by omega)) (fun z435 h434 h436 h437 => ?_)
    have h438 : S401.2.2.2 (155 + 2 * (tV By Nb S364.2.2.1)) = z435.toInt := ML_wi h403 (by omega) h434 (by omega) (by omega) (by omega)
    rw [h407, h370] at h438
    refine En_Ps 4 (pc' := 446) (lv' := [(3, .int z396), (2, .int z359), (0, .ref 159)]) (st' := [.int ((z435 ||| ((Int32.ofInt 1) <<< (z359 &&& 31)))), .int z432, .ref 165]) rfl ?_
    refine En_nam (fun z439 h440 => ?_)
    have h441 := orP_v (x := z435) (y := z359) h440 rfl rfl (by omega) (by omega) (by omega) (by omega)
    have h442 : z439.toInt = orP (S331.2.2.2 (155 + 2 * (tV By Nb S364.2.2.1))) (tV By Nb S331.2.2.1) := by rw [h441.1]; exact orP_cg (by omega) (by omega)
    refine En_iast (l := 0) (u := 63) rfl rfl (by decide +kernel : TG 165 = 41) (by decide +kernel) (by omega) (lnI (by decide +kernel : LN _ = 226) (by omega)) (FTrow 41 157 2 5 (by decide +kernel) (by omega) (by omega) (by omega)) (rngI rfl (by omega) (by omega)) h389 h398 (by decide +kernel) (fun σ443 h444 h445 h446 h447 => ?_)
    have h448 := KF_st h399 (J := z432.toInt) h447 (by omega) (by omega)
    obtain ⟨S449, h450⟩ : ∃ q : PS, q = wst S401 (155 + 2 * (tV By Nb S364.2.2.1)) (orP (S331.2.2.2 (155 + 2 * (tV By Nb S364.2.2.1))) (tV By Nb S331.2.2.1)) := ⟨_, rfl⟩
    have h451 : ML By Nb σ443 S449 := by rw [h450]; exact (ML_wst (i := 155 + 2 * (tV By Nb S364.2.2.1)) (v := orP (S331.2.2.2 (155 + 2 * (tV By Nb S364.2.2.1))) (tV By Nb S331.2.2.1)) h403 h446 h447 (by omega) (fun z => by have j1 := Imp_m h405 z; have j2 := Imp_m h406 z; have j3 := Imp_m h368 j2.1; have j4 := Imp_m h369 j2.1; have j5 := Imp_m h335 j4.1; exact ⟨by omega, by omega⟩))
    have h452 := ML_k h451 ((h447 _ _ (Or.inl (neTG (by decide +kernel : TG 159 = 35) (by decide +kernel : TG 165 = 41) (by decide)))).trans h395)
    have h453 : S449.1 = S401.1 := by rw [h450]; rfl
    exact En_ret (v := none) rfl rfl rfl ⟨h444, h445, z392, ((h447 _ _ (Or.inl (neTG (by decide +kernel : TG 159 = 35) (by decide +kernel : TG 165 = 41) (by decide)))).trans h393), z394, ((h447 _ _ (Or.inl (neTG (by decide +kernel : TG 159 = 35) (by decide +kernel : TG 165 = 41) (by decide)))).trans h395), rfl, ⟨by omega, by omega, by omega, by omega, by omega, by omega, by omega, by omega, by omega, by omega, by omega, by omega, by omega, fun _ => by omega, ⟨h448, ML_eq h451 (by subst h450; subst h402; subst h365; subst h332; rw [gNx_0 h314 hg (by omega) (by omega) (by omega) (by omega) (by omega) (by omega) (by omega)]; unfold gAhead; (try dsimp only); first | done | (rw [if_pos (by omega)]; first | done | rfl) | (rw [if_neg (by omega)]; first | done | rfl))⟩⟩⟩
set_option maxRecDepth 10000 in
set_option maxHeartbeats 4000000 in
theorem k_302x_170 {By : Int → Int} {Nb : Int} {Sp : PS} (σ0 : SG) (hσ0 : WT σ0) (f : Int32) (h_f : (σ0 159)[8]? = some (.int f)) (k : Int32) (h_k : (σ0 159)[12]? = some (.int k)) (hM : ML By Nb σ0 Sp) (hg : Sp.1 = 0) : ∀ (σ454 : SG) (y457 : Int32) (y461 : Int32) (y465 : Int32) (y469 : Int32) (y473 : Int32) (y477 : Int32), WT σ454 → Fr [(35, 8), (35, 9), (35, 10), (35, 11), (35, 12), (35, 13), (41, 0)] σ0 σ454 → (σ454 165)[(2 : Int).toNat]? = some (.int y457) → 0 ≤ y457.toInt → y457.toInt ≤ 4 → (σ454 165)[(3 : Int).toNat]? = some (.int y461) → 0 ≤ y461.toInt → y461.toInt ≤ 12 → (σ454 165)[(4 : Int).toNat]? = some (.int y465) → 0 ≤ y465.toInt → y465.toInt ≤ 4 → (σ454 165)[(5 : Int).toNat]? = some (.int y469) → 0 ≤ y469.toInt → y469.toInt ≤ 6 → (σ454 159)[12]? = some (.int y473) → 0 ≤ y473.toInt → y473.toInt ≤ 3 → (σ454 159)[8]? = some (.int y477) → 0 ≤ y477.toInt → y477.toInt ≤ 1600 → f.toInt - y477.toInt ≤ 0 → Imp (y473.toInt ≤ 0) (k.toInt ≤ 0) → Imp (y473.toInt ≤ 0 ∧ -(iW By Nb 2 Sp) + 1 ≤ 0) (y457.toInt - 3 ≤ 0) → Imp (y473.toInt ≤ 0 ∧ -(iW By Nb 3 Sp) + 1 ≤ 0) (y461.toInt - 11 ≤ 0) → Imp (y473.toInt ≤ 0 ∧ -(iW By Nb 5 Sp) + 1 ≤ 0) (y465.toInt - 3 ≤ 0) → Imp (y473.toInt ≤ 0 ∧ -(iW By Nb 1 Sp) + 1 ≤ 0) (y469.toInt - 5 ≤ 0) → KF σ0 σ454 → ML By Nb σ454 (gN2 By Nb (gN1 By Nb Sp)) → En 9 200 none mr_302 (P_302x σ0 By Nb Sp f k) 170 [(0, .ref 159)] [] σ454 := by
  obtain ⟨hl_f, hu_f⟩ := WT_int hσ0 (g := 35) (by decide +kernel) (by decide +kernel) (l := 0) (u := 1600) (by decide +kernel) h_f
  obtain ⟨hl_k, hu_k⟩ := WT_int hσ0 (g := 35) (by decide +kernel) (by decide +kernel) (l := 0) (u := 3) (by decide +kernel) h_k
  have hF0 : Fr [(35, 8), (35, 9), (35, 10), (35, 11), (35, 12), (35, 13), (41, 0)] σ0 σ0 := Fr_rfl
  have keyj219 := k_302x_219 σ0 hσ0 f h_f k h_k hM hg
  have keyj309 := k_302x_309 σ0 hσ0 f h_f k h_k hM hg
  have keyj347 := k_302x_347 σ0 hσ0 f h_f k h_k hM hg
  have keyj386 := k_302x_386 σ0 hσ0 f h_f k h_k hM hg
  intro σ454 y457 y461 y465 y469 y473 y477 h455 h456 h458 h459 h460 h462 h463 h464 h466 h467 h468 h470 h471 h472 h474 h475 h476 h478 h479 h480 h481 h482 h483 h484 h485 h486 h487 h488
  have h489 := ML_k h488 h474
  refine En_Ps 1 (pc' := 171) (lv' := [(0, .ref 159)]) (st' := [.ref 159]) rfl ?_
  refine En_callV rfl rfl rfl rfl rfl rfl rfl rfl (by decide +kernel : TG 159 = 35) (by decide +kernel) rfl (c_237 σ454 h455 y473 h474) (by decide) (by decide) (fun v491 σ492 h490 => ?_)
  obtain ⟨h493, h494, z496, rfl, h495⟩ := h490
  obtain rfl : σ454 = σ492 := Fr_nil h494
  refine En_iNe _ rfl rfl (fun h497 => ?_) (fun h497 => ?_)
  · have h498 := Imp_m h482 (by omega)
    have h499 : gN2 By Nb (gN1 By Nb Sp) = Sp := gN12_id (by omega)
    have h500 : ML By Nb σ454 Sp := ML_eq h488 h499
    have h502 := ML_k h500 h474
    have h503 := ML_w h500 hg h458 (by omega) (by omega)
    have h504 := ML_w h500 hg h462 (by omega) (by omega)
    have h505 := ML_w h500 hg h466 (by omega) (by omega)
    have h506 := ML_w h500 hg h470 (by omega) (by omega)
    refine En_Ps 1 (pc' := 179) (lv' := [(0, .ref 159)]) (st' := [.ref 159]) rfl ?_
    refine En_ldcS (i := 2) rfl rfl rfl ?_
    refine En_callV rfl rfl rfl rfl rfl rfl rfl rfl (by decide +kernel : TG 159 = 35) (by decide +kernel) rfl (c_318s2x σ454 h455 y477 h478 h500) (by decide) (by decide) (fun v508 σ509 h507 => ?_)
    obtain ⟨h510, h511, z513, h514, z515, rfl, h512⟩ := h507
    have h516 := h512.2.2.2.2.2.2.2
    have h517 := Fr_trans h456 h511 (by decide +kernel)
    have h518 := KF_fr h487 h511 (by decide +kernel)
    have h519 := h516.2.1
    refine En_iEq _ rfl rfl (fun h520 => ?_) (fun h520 => ?_)
    · obtain rfl : σ454 = σ509 := h516.1 (by omega)
      refine En_Ps 1 (pc' := 195) (lv' := [(0, .ref 159)]) (st' := [.ref 159]) rfl ?_
      refine En_ldcS (i := 6) rfl rfl rfl ?_
      refine En_callV rfl rfl rfl rfl rfl rfl rfl rfl (by decide +kernel : TG 159 = 35) (by decide +kernel) rfl (c_318s6x σ454 h455 y477 h478 h500) (by decide) (by decide) (fun v522 σ523 h521 => ?_)
      obtain ⟨h524, h525, z527, h528, z529, rfl, h526⟩ := h521
      have h530 := h526.2.2.2.2.2.2.2
      have h531 := Fr_trans h456 h525 (by decide +kernel)
      have h532 := KF_fr h487 h525 (by decide +kernel)
      have h533 := h530.2.1
      refine En_iEq _ rfl rfl (fun h534 => ?_) (fun h534 => ?_)
      · obtain rfl : σ454 = σ523 := h530.1 (by omega)
        refine En_Ps 1 (pc' := 211) (lv' := [(0, .ref 159)]) (st' := [.ref 159]) rfl ?_
        refine En_ldcS (i := 3) rfl rfl rfl ?_
        refine En_callV rfl rfl rfl rfl rfl rfl rfl rfl (by decide +kernel : TG 159 = 35) (by decide +kernel) rfl (c_318s3x σ454 h455 y477 h478 h500) (by decide) (by decide) (fun v536 σ537 h535 => ?_)
        obtain ⟨h538, h539, z541, h542, z543, rfl, h540⟩ := h535
        have h544 := h540.2.2.2.2.2.2.2
        have h545 := Fr_trans h456 h539 (by decide +kernel)
        have h546 := KF_fr h487 h539 (by decide +kernel)
        have h547 := h544.2.1
        refine En_iEq _ rfl rfl (fun h548 => ?_) (fun h548 => ?_)
        · obtain rfl : σ454 = σ537 := h544.1 (by omega)
          refine En_Ps 1 (pc' := 267) (lv' := [(0, .ref 159)]) (st' := [.ref 159]) rfl ?_
          refine En_ldcS (i := 17) rfl rfl rfl ?_
          refine En_callV rfl rfl rfl rfl rfl rfl rfl rfl (by decide +kernel : TG 159 = 35) (by decide +kernel) rfl (c_318s17x σ454 h455 y477 h478 h500) (by decide) (by decide) (fun v550 σ551 h549 => ?_)
          obtain ⟨h552, h553, z555, h556, z557, rfl, h554⟩ := h549
          have h558 := h554.2.2.2.2.2.2.2
          have h559 := Fr_trans h456 h553 (by decide +kernel)
          have h560 := KF_fr h487 h553 (by decide +kernel)
          have h561 := h558.2.1
          refine En_iEq _ rfl rfl (fun h562 => ?_) (fun h562 => ?_)
          · obtain rfl : σ454 = σ551 := h558.1 (by omega)
            refine En_Ps 1 (pc' := 283) (lv' := [(0, .ref 159)]) (st' := [.ref 159]) rfl ?_
            refine En_ldcS (i := 9) rfl rfl rfl ?_
            refine En_callV rfl rfl rfl rfl rfl rfl rfl rfl (by decide +kernel : TG 159 = 35) (by decide +kernel) rfl (c_318s9x σ454 h455 y477 h478 h500) (by decide) (by decide) (fun v564 σ565 h563 => ?_)
            obtain ⟨h566, h567, z569, h570, z571, rfl, h568⟩ := h563
            have h572 := h568.2.2.2.2.2.2.2
            have h573 := Fr_trans h456 h567 (by decide +kernel)
            have h574 := KF_fr h487 h567 (by decide +kernel)
            have h575 := h572.2.1
            refine En_iEq _ rfl rfl (fun h576 => ?_) (fun h576 => ?_)
            · obtain rfl : σ454 = σ565 := h572.1 (by omega)
              refine En_Ps 1 (pc' := 301) (lv' := [(0, .ref 159)]) (st' := [.ref 159]) rfl ?_
              refine En_ldcS (i := 5) rfl rfl rfl ?_
              refine En_callV rfl rfl rfl rfl rfl rfl rfl rfl (by decide +kernel : TG 159 = 35) (by decide +kernel) rfl (c_318s5x σ454 h455 y477 h478 h500) (by decide) (by decide) (fun v578 σ579 h577 => ?_)
              obtain ⟨h580, h581, z583, h584, z585, rfl, h582⟩ := h577
              have h586 := h582.2.2.2.2.2.2.2
              have h587 := Fr_trans h456 h581 (by decide +kernel)
              have h588 := KF_fr h487 h581 (by decide +kernel)
              have h589 := h586.2.1
              refine En_iEq _ rfl rfl (fun h590 => ?_) (fun h590 => ?_)
              · obtain rfl : σ454 = σ579 := h586.1 (by omega)
                refine En_Ps 1 (pc' := 339) (lv' := [(0, .ref 159)]) (st' := [.ref 159]) rfl ?_
                refine En_ldcS (i := 1) rfl rfl rfl ?_
                refine En_callV rfl rfl rfl rfl rfl rfl rfl rfl (by decide +kernel : TG 159 = 35) (by decide +kernel) rfl (c_318s1x σ454 h455 y477 h478 h500) (by decide) (by decide) (fun v592 σ593 h591 => ?_)
                obtain ⟨h594, h595, z597, h598, z599, rfl, h596⟩ := h591
                have h600 := h596.2.2.2.2.2.2.2
                have h601 := Fr_trans h456 h595 (by decide +kernel)
                have h602 := KF_fr h487 h595 (by decide +kernel)
                have h603 := h600.2.1
                refine En_iEq _ rfl rfl (fun h604 => ?_) (fun h604 => ?_)
                · exact keyj386 σ593 y469 y473 z597 h594 h601 ((h595 _ _ (inWa (by decide +kernel : TG 165 = 41) (by decide +kernel))).trans h470) (by omega) (by omega) ((h595 _ _ (inW (by decide +kernel : TG 159 = 35) (by decide +kernel))).trans h474) (by omega) (by omega) h598 (by omega) (by omega) (by omega) (fun _ => by omega) (by omega) (by omega) (by omega) (by omega) (by omega) (by omega) (by omega) (by omega) (h602) ((h600.1 (by omega)) ▸ h500) (h499)
                · have h605 := Imp_m h486 (by omega)
                  exact keyj347 σ593 y469 y473 z597 h594 h601 ((h595 _ _ (inWa (by decide +kernel : TG 165 = 41) (by decide +kernel))).trans h470) (by omega) (by omega) ((h595 _ _ (inW (by decide +kernel : TG 159 = 35) (by decide +kernel))).trans h474) (by omega) (by omega) h598 (by omega) (by omega) (by omega) (fun _ => by omega) (by omega) (by omega) (by omega) (by omega) (by omega) (by omega) (by omega) (by omega) (by omega) (h602) (h600.2.2 (by omega)) (h499)
              · have h606 := Imp_m h485 (by omega)
                exact keyj309 σ579 y465 y473 z583 h580 h587 ((h581 _ _ (inWa (by decide +kernel : TG 165 = 41) (by decide +kernel))).trans h466) (by omega) (by omega) ((h581 _ _ (inW (by decide +kernel : TG 159 = 35) (by decide +kernel))).trans h474) (by omega) (by omega) h584 (by omega) (by omega) (by omega) (fun _ => by omega) (by omega) (by omega) (by omega) (by omega) (by omega) (by omega) (by omega) (by omega) (h588) (h586.2.2 (by omega)) (h499)
            · have h607 : Sp.1 = 0 := iW_g (i := 9) (B := By) (n := Nb) (by omega)
              obtain ⟨S608, h609⟩ : ∃ q : PS, q = adv By Nb Sp := ⟨_, rfl⟩
              have h610 : ML By Nb σ565 S608 := by rw [h609]; exact h572.2.2 (by omega)
              have h611 := ML_k h610 ((h567 _ _ (inW (by decide +kernel : TG 159 = 35) (by decide +kernel))).trans h474)
              have h612 : S608.2.2.2 = Sp.2.2.2 := by rw [h609]; exact adv_w
              have h613 : S608.1 = 0 := by rw [h609, adv_1]; exact h607
              have h614 : S608.2.2.2 0 = Sp.2.2.2 0 := by rw [h612]
              have h615 : S608.2.2.2 2 = Sp.2.2.2 2 := by rw [h612]
              have h616 : S608.2.2.2 3 = Sp.2.2.2 3 := by rw [h612]
              have h617 : S608.2.2.2 4 = Sp.2.2.2 4 := by rw [h612]
              have h618 : S608.2.2.2 5 = Sp.2.2.2 5 := by rw [h612]
              refine En_Ps 2 (pc' := 294) (lv' := [(0, .ref 159)]) (st' := [.int (((Int8.ofInt 8).toInt32)), .ref 159]) rfl ?_
              have := (by decide : (((Int8.ofInt 8).toInt32)).toInt = 8)
              refine En_callV rfl rfl rfl rfl rfl rfl rfl rfl (by decide +kernel : TG 159 = 35) (by decide +kernel) rfl (c_303ax σ565 h566 (((Int8.ofInt 8).toInt32)) (geI (by decide : ((Int8.ofInt 8).toInt32).toInt = 8) (by omega)) (leI (by decide : ((Int8.ofInt 8).toInt32).toInt = 8) (by omega)) z569 h570 y473 ((h567 _ _ (inW (by decide +kernel : TG 159 = 35) (by decide +kernel))).trans h474) h610 (by omega)) (by decide) (by decide) (fun v620 σ621 h619 => ?_)
              obtain ⟨h622, h623, z625, h626, z627, h628, rfl, h624⟩ := h619
              have h629 := h624.2.2.2.2.2.2.2.2.2.2.2.2.2.2
              have h630 := Fr_trans h573 h623 (by decide +kernel)
              have h631 := KF_tr h574 (KF_of h629.1)
              obtain ⟨S632, h633⟩ : ∃ q : PS, q = gRule By Nb (8) S608 := ⟨_, rfl⟩
              have h634 : ML By Nb σ621 S632 := by rw [h633]; exact (ML_eq h629.2 (gRule_cg (by omega)))
              have h635 := ML_k h634 h628
              refine En_Ps 1 (pc' := 447) (lv' := [(0, .ref 159)]) (st' := []) rfl ?_
              exact En_ret (v := none) rfl rfl rfl ⟨h622, h630, z625, h626, z627, h628, rfl, ⟨by omega, by omega, by omega, by omega, by omega, by omega, by omega, by omega, by omega, by omega, by omega, by omega, by omega, fun _ => by omega, ⟨h631, ML_eq h634 (by subst h633; subst h609; rw [gNx_9 h499 hg (by omega) (by omega) (by omega) (by omega) (by omega)])⟩⟩⟩
          · have h636 : Sp.1 = 0 := iW_g (i := 17) (B := By) (n := Nb) (by omega)
            obtain ⟨S637, h638⟩ : ∃ q : PS, q = adv By Nb Sp := ⟨_, rfl⟩
            have h639 : ML By Nb σ551 S637 := by rw [h638]; exact h558.2.2 (by omega)
            have h640 := ML_k h639 ((h553 _ _ (inW (by decide +kernel : TG 159 = 35) (by decide +kernel))).trans h474)
            have h641 : S637.2.2.2 = Sp.2.2.2 := by rw [h638]; exact adv_w
            have h642 : S637.1 = 0 := by rw [h638, adv_1]; exact h636
            have h643 : S637.2.2.2 0 = Sp.2.2.2 0 := by rw [h641]
            have h644 : S637.2.2.2 2 = Sp.2.2.2 2 := by rw [h641]
            have h645 : S637.2.2.2 3 = Sp.2.2.2 3 := by rw [h641]
            have h646 : S637.2.2.2 4 = Sp.2.2.2 4 := by rw [h641]
            have h647 : S637.2.2.2 5 = Sp.2.2.2 5 := by rw [h641]
            refine En_Ps 1 (pc' := 276) (lv' := [(0, .ref 159)]) (st' := [.ref 159]) rfl ?_
            refine En_callV rfl rfl rfl rfl rfl rfl rfl rfl (by decide +kernel : TG 159 = 35) (by decide +kernel) rfl (c_304x σ551 h552 z555 h556 y473 ((h553 _ _ (inW (by decide +kernel : TG 159 = 35) (by decide +kernel))).trans h474) h639 (by omega)) (by decide) (by decide) (fun v649 σ650 h648 => ?_)
            obtain ⟨h651, h652, z654, h655, z656, h657, rfl, h653⟩ := h648
            have h658 := h653.2.2.2.2.2.2.2.2.2.2.2.2.2.2
            have h659 := Fr_trans h559 h652 (by decide +kernel)
            have h660 := KF_tr h560 h658.1
            obtain ⟨S661, h662⟩ : ∃ q : PS, q = gTwin By Nb S637 := ⟨_, rfl⟩
            have h663 : ML By Nb σ650 S661 := by rw [h662]; exact h658.2
            have h664 := ML_k h663 h657
            refine En_Ps 1 (pc' := 447) (lv' := [(0, .ref 159)]) (st' := []) rfl ?_
            exact En_ret (v := none) rfl rfl rfl ⟨h651, h659, z654, h655, z656, h657, rfl, ⟨by omega, by omega, by omega, by omega, by omega, by omega, by omega, by omega, by omega, by omega, by omega, by omega, by omega, fun _ => by omega, ⟨h660, ML_eq h663 (by subst h662; subst h638; rw [gNx_17 h499 hg (by omega) (by omega) (by omega) (by omega)])⟩⟩⟩
        · have h665 := Imp_m h484 (by omega)
          exact keyj219 σ537 y461 y473 z541 h538 h545 ((h539 _ _ (inWa (by decide +kernel : TG 165 = 41) (by decide +kernel))).trans h462) (by omega) (by omega) ((h539 _ _ (inW (by decide +kernel : TG 159 = 35) (by decide +kernel))).trans h474) (by omega) (by omega) h542 (by omega) (by omega) (by omega) (fun _ => by omega) (by omega) (by omega) (by omega) (by omega) (by omega) (h546) (h544.2.2 (by omega)) (h499)
      · have h666 : Sp.1 = 0 := iW_g (i := 6) (B := By) (n := Nb) (by omega)
        obtain ⟨S667, h668⟩ : ∃ q : PS, q = adv By Nb Sp := ⟨_, rfl⟩
        have h669 : ML By Nb σ523 S667 := by rw [h668]; exact h530.2.2 (by omega)
        have h670 := ML_k h669 ((h525 _ _ (inW (by decide +kernel : TG 159 = 35) (by decide +kernel))).trans h474)
        have h671 : S667.2.2.2 = Sp.2.2.2 := by rw [h668]; exact adv_w
        have h672 : S667.1 = 0 := by rw [h668, adv_1]; exact h666
        have h673 : S667.2.2.2 0 = Sp.2.2.2 0 := by rw [h671]
        have h674 : S667.2.2.2 2 = Sp.2.2.2 2 := by rw [h671]
        have h675 : S667.2.2.2 3 = Sp.2.2.2 3 := by rw [h671]
        have h676 : S667.2.2.2 4 = Sp.2.2.2 4 := by rw [h671]
        have h677 : S667.2.2.2 5 = Sp.2.2.2 5 := by rw [h671]
        refine En_Ps 1 (pc' := 204) (lv' := [(0, .ref 159)]) (st' := [.ref 159]) rfl ?_
        refine En_callV rfl rfl rfl rfl rfl rfl rfl rfl (by decide +kernel : TG 159 = 35) (by decide +kernel) rfl (c_300x σ523 h524 z527 h528 y473 ((h525 _ _ (inW (by decide +kernel : TG 159 = 35) (by decide +kernel))).trans h474) h669 (by omega)) (by decide) (by decide) (fun v679 σ680 h678 => ?_)
        obtain ⟨h681, h682, z684, h685, z686, h687, rfl, h683⟩ := h678
        have h688 := h683.2.2.2.2.2.2.2.2.2.2.2.2.2.2
        have h689 := Fr_trans h531 h682 (by decide +kernel)
        have h690 := KF_tr h532 h688.1
        obtain ⟨S691, h692⟩ : ∃ q : PS, q = gLesson By Nb S667 := ⟨_, rfl⟩
        have h693 : ML By Nb σ680 S691 := by rw [h692]; exact h688.2
        have h694 := ML_k h693 h687
        refine En_Ps 1 (pc' := 447) (lv' := [(0, .ref 159)]) (st' := []) rfl ?_
        exact En_ret (v := none) rfl rfl rfl ⟨h681, h689, z684, h685, z686, h687, rfl, ⟨by omega, by omega, by omega, by omega, by omega, by omega, by omega, by omega, by omega, by omega, by omega, by omega, by omega, fun _ => by omega, ⟨h690, ML_eq h693 (by subst h692; subst h668; rw [gNx_6 h499 hg (by omega) (by omega)])⟩⟩⟩
    · have h695 := Imp_m h483 (by omega)
      have h696 : Sp.1 = 0 := iW_g (i := 2) (B := By) (n := Nb) (by omega)
      obtain ⟨S697, h698⟩ : ∃ q : PS, q = adv By Nb Sp := ⟨_, rfl⟩
      have h699 : ML By Nb σ509 S697 := by rw [h698]; exact h516.2.2 (by omega)
      have h700 := ML_k h699 ((h511 _ _ (inW (by decide +kernel : TG 159 = 35) (by decide +kernel))).trans h474)
      have h701 : S697.2.2.2 = Sp.2.2.2 := by rw [h698]; exact adv_w
      have h702 : S697.1 = 0 := by rw [h698, adv_1]; exact h696
      have h703 : S697.2.2.2 0 = Sp.2.2.2 0 := by rw [h701]
      have h704 : S697.2.2.2 2 = Sp.2.2.2 2 := by rw [h701]
      have h705 : S697.2.2.2 3 = Sp.2.2.2 3 := by rw [h701]
      have h706 : S697.2.2.2 4 = Sp.2.2.2 4 := by rw [h701]
      have h707 : S697.2.2.2 5 = Sp.2.2.2 5 := by rw [h701]
      refine En_Ps 1 (pc' := 188) (lv' := [(0, .ref 159)]) (st' := [.ref 159]) rfl ?_
      refine En_callV rfl rfl rfl rfl rfl rfl rfl rfl (by decide +kernel : TG 159 = 35) (by decide +kernel) rfl (c_299x σ509 h510 z513 h514 y473 ((h511 _ _ (inW (by decide +kernel : TG 159 = 35) (by decide +kernel))).trans h474) y457 ((h511 _ _ (inWa (by decide +kernel : TG 165 = 41) (by decide +kernel))).trans h458) (by omega) h699 (by omega)) (by decide) (by decide) (fun v709 σ710 h708 => ?_)
      obtain ⟨h711, h712, z714, h715, z716, h717, rfl, h713⟩ := h708
      have h718 := h713.2.2.2.2.2.2.2.2.2.2.2.2.2.2.2.2.2.2
      have h719 := Fr_trans h517 h712 (by decide +kernel)
      have h720 := KF_tr h518 h718.1
      obtain ⟨S721, h722⟩ : ∃ q : PS, q = gDoor By Nb S697 := ⟨_, rfl⟩
      have h723 : ML By Nb σ710 S721 := by rw [h722]; exact h718.2
      have h724 := ML_k h723 h717
      refine En_Ps 1 (pc' := 447) (lv' := [(0, .ref 159)]) (st' := []) rfl ?_
      exact En_ret (v := none) rfl rfl rfl ⟨h711, h719, z714, h715, z716, h717, rfl, ⟨by omega, by omega, by omega, by omega, by omega, by omega, by omega, by omega, by omega, by omega, by omega, by omega, by omega, fun _ => by omega, ⟨h720, ML_eq h723 (by subst h722; subst h698; rw [gNx_2 h499 hg (by omega)])⟩⟩⟩
  · exact En_ret (v := none) rfl rfl rfl ⟨h455, h456, y477, h478, y473, h474, rfl, ⟨by omega, by omega, by omega, by omega, by omega, by omega, by omega, by omega, by omega, by omega, by omega, by omega, by omega, fun _ => by have := Imp_m h482 (by omega); omega, ⟨h487, ML_eq h488 (by unfold gNext; dsimp only; rw [if_pos (by omega)])⟩⟩⟩
