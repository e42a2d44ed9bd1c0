set_option maxRecDepth 10000 in
set_option maxHeartbeats 4000000 in
theorem k_302x_386 {By : Int → Int} {Nb : Int} {Sp : PS} (σ0 : SG) (hσ0 : WT σ0) (f : Int32) (h_f : (σ0 159)[8]? = some (.int f)) (k : Int32) (h_k : (σ0 159)[12]? = some (.int k)) (hM : ML By Nb σ0 Sp) (hg : Sp.1 = 0) : ∀ (σ287 : SG) (y290 : Int32) (y294 : Int32) (y298 : Int32), WT σ287 → Fr [(35, 8), (35, 9), (35, 10), (35, 11), (35, 12), (35, 13), (41, 0)] σ0 σ287 → (σ287 165)[(5 : Int).toNat]? = some (.int y290) → 0 ≤ y290.toInt → y290.toInt ≤ 6 → (σ287 159)[12]? = some (.int y294) → 0 ≤ y294.toInt → y294.toInt ≤ 3 → (σ287 159)[8]? = some (.int y298) → 0 ≤ y298.toInt → y298.toInt ≤ 1600 → f.toInt - y298.toInt ≤ 0 → Imp (y294.toInt ≤ 0) (k.toInt ≤ 0) → y294.toInt ≤ 0 → (iW By Nb 2 Sp) ≤ 0 ∧ -(iW By Nb 2 Sp) ≤ 0 → (iW By Nb 6 Sp) ≤ 0 ∧ -(iW By Nb 6 Sp) ≤ 0 → (iW By Nb 3 Sp) ≤ 0 ∧ -(iW By Nb 3 Sp) ≤ 0 → (iW By Nb 17 Sp) ≤ 0 ∧ -(iW By Nb 17 Sp) ≤ 0 → (iW By Nb 9 Sp) ≤ 0 ∧ -(iW By Nb 9 Sp) ≤ 0 → (iW By Nb 5 Sp) ≤ 0 ∧ -(iW By Nb 5 Sp) ≤ 0 → (iW By Nb 1 Sp) ≤ 0 ∧ -(iW By Nb 1 Sp) ≤ 0 → KF σ0 σ287 → ML By Nb σ287 Sp → gN2 By Nb (gN1 By Nb Sp) = Sp → En 9 200 none mr_302 (P_302x σ0 By Nb Sp f k) 386 [(0, .ref 159)] [] σ287 := by
  obtain ⟨hl_f, hu_f⟩ := WT_int hσ0 (g := 35) (by decide +kernel) (by decide +kernel) (l := 0) (u := 1600) (by decide +kernel) h_f
  obtain ⟨hl_k, hu_k⟩ := WT_int hσ0 (g := 35) (by decide +kernel) (by decide +kernel) (l := 0) (u := 3) (by decide +kernel) h_k
  have hF0 : Fr [(35, 8), (35, 9), (35, 10), (35, 11), (35, 12), (35, 13), (41, 0)] σ0 σ0 := Fr_rfl
  intro σ287 y290 y294 y298 h288 h289 h291 h292 h293 h295 h296 h297 h299 h300 h301 h302 h303 h304 h305 h306 h307 h308 h309 h310 h311 h312 h313 h314
  have h315 := Imp_m h303 (by omega)
  have h316 := ML_k h313 h295
  have h317 := ML_w h313 hg h291 (by omega) (by omega)
  refine En_Ps 1 (pc' := 387) (lv' := [(0, .ref 159)]) (st' := [.ref 159]) rfl ?_
  refine En_callV rfl rfl rfl rfl rfl rfl rfl rfl tgz_159 (by decide +kernel) rfl (c_189x σ287 h288 y298 h299 h313.1 (ML_at h313 (by omega) h299)) (by decide) (by decide) (fun v319 σ320 h318 => ?_)
  obtain ⟨h321, h322, z324, h325, z326, h327, rfl, h323⟩ := h318
  have h328 := h323.2.2.2.2.2.2.2
  have h329 := Fr_trans h289 h322 (by decide +kernel)
  have h330 := KF_fr h312 h322 (by decide +kernel)
  obtain ⟨S331, h332⟩ : ∃ q : PS, q = adv By Nb Sp := ⟨_, rfl⟩
  have h333 : ML By Nb σ320 S331 := by rw [h332]; exact (ML_adv h313 (by omega) h299 h322 (by decide +kernel) h328.2)
  have h334 := ML_k h333 ((h322 _ _ (inW tgz_159 (by decide +kernel))).trans h295)
  have h335 : Imp (S331.1 = 0) (tK By Nb S331.2.2.1 = z326.toInt) := ML_t h333 h327
  have h336 : S331.2.2.2 = Sp.2.2.2 := by rw [h332]; exact adv_w
  have h337 : S331.1 = 0 := by rw [h332, adv_1]; omega
  have h338 : S331.2.2.2 0 = Sp.2.2.2 0 := by rw [h336]
  have h339 : S331.2.2.2 5 = Sp.2.2.2 5 := by rw [h336]
  refine En_Ps 3 (pc' := 393) (lv' := [(0, .ref 159)]) (st' := [.ref 159, .int ((Int32.ofInt 0)), .ref 159]) rfl ?_
  refine En_getU (j := 14) (u := 165) (g' := 41) (q := 0) rfl rfl rfl tgz_159 (by decide +kernel) h321 (by decide +kernel) (by decide +kernel) (fun h340 => ?_)
  refine En_Ps 1 (pc' := 397) (lv' := [(0, .ref 159)]) (st' := [.int ((Int32.ofInt 5)), .ref 165, .int ((Int32.ofInt 0)), .ref 159]) rfl ?_
  refine En_ialdK ((h322 _ _ (inWa tgz_165 (by decide +kernel))).trans h291) rfl (by decide : (Int32.ofInt 5).toInt = 5) tgz_165 (by decide +kernel) h321 (by decide) (lnI (by decide +kernel : LN _ = 226) (by decide)) ?_
  refine En_Ps 2 (pc' := 400) (lv' := [(0, .ref 159)]) (st' := [.int ((y290 - ((Int32.ofInt 1)))), .int ((Int32.ofInt 0)), .ref 159]) rfl ?_
  refine En_top (subI rfl (by decide : (Int32.ofInt 1).toInt = 1) (by first | exact q_93f9478bef h292 | omega) (by first | exact q_9320ba2c05 h293 | omega)) (fun z343 h344 => ?_)
  obtain ⟨z346, h345, h347, h348⟩ := WT_peekI h321 tgz_159 (by decide +kernel : FT 35 11 = (0, 0, 99999)) (by decide +kernel)
  have := (by decide : ((Int32.ofInt 0)).toInt = 0)
  refine En_callV rfl rfl rfl rfl rfl rfl rfl rfl tgz_159 (by decide +kernel) rfl (c_288x σ320 h321 ((Int32.ofInt 0)) z343 (geI (by decide : (Int32.ofInt 0).toInt = 0) (by decide)) (leI (by decide : (Int32.ofInt 0).toInt = 0) (by decide)) (geI rfl (by first | exact q_e2c277696c h344 h292 | omega)) (leI rfl (by first | exact q_f8e0b78f94 h344 h293 | omega)) z324 h325 y294 ((h322 _ _ (inW tgz_159 (by decide +kernel))).trans h295) z326 h327 z346 h345 h333) (by decide) (by decide) (fun v350 σ351 h349 => ?_)
  obtain ⟨h352, h353, z355, h356, z357, h358, z359, rfl, h354⟩ := h349
  have h360 := h354.2.2.2.2.2.2.2.2.2.2.2.2.2.2.2.2
  have h361 := Fr_trans h329 h353 (by decide +kernel)
  have h362 := KF_fr h330 h353 (by decide +kernel)
  have h363 : tN By Nb ((Int32.ofInt 0)).toInt z343.toInt S331 = tN By Nb (0) (S331.2.2.2 5 - 1) S331 := tN_cg2 (fun zz => by have j1 := Imp_m h335 zz; omega) (fun zz => by have j1 := Imp_m h335 zz; omega)
  obtain ⟨S364, h365⟩ : ∃ q : PS, q = tN By Nb (0) (S331.2.2.2 5 - 1) S331 := ⟨_, rfl⟩
  have h366 : ML By Nb σ351 S364 := by rw [h365]; exact (ML_eq h360.1 h363)
  have h367 := ML_k h366 h358
  have h368 : Imp (S364.1 = 0) (z359.toInt = tV By Nb S331.2.2.1) := fun z => h360.2 (by rw [h363, ← h365]; exact z)
  have h369 : Imp (S364.1 = 0) (S331.1 = 0 ∧ tK By Nb S331.2.2.1 = 2 ∧ 0 ≤ tV By Nb S331.2.2.1 ∧ tV By Nb S331.2.2.1 ≤ S331.2.2.2 5 - 1) := fun z => tN_gg (by rw [← h365]; exact z)
  have h370 : S364.2.2.2 = S331.2.2.2 := by rw [h365]; exact tN_w
  have h371 := Imp_m h354.2.2.2.2.2.2.2.2.2.2.2.1 (by omega)
  have h372 := Imp_m h354.2.2.2.2.2.2.2.2.2.2.2.2.1 (by omega)
  refine En_Ps 5 (pc' := 408) (lv' := [(2, .int z359), (0, .ref 159)]) (st' := [.int ((z359 + ((Int32.ofInt 1)))), .ref 159]) rfl ?_
  refine En_top (addI rfl (by decide : (Int32.ofInt 1).toInt = 1) (by first | exact q_f354c56e86 h354.1 | omega) (by first | exact q_6dad0b73ec h354.2.1 | omega)) (fun z373 h374 => ?_)
  refine En_Ps 1 (pc' := 409) (lv' := [(2, .int z359), (0, .ref 159)]) (st' := [.ref 159, .int z373, .ref 159]) rfl ?_
  refine En_getK (j := 14) ((h353 _ _ (inW tgz_159 (by decide +kernel))).trans h340) rfl rfl rfl tgz_159 (by decide +kernel) ?_
  refine En_Ps 1 (pc' := 413) (lv' := [(2, .int z359), (0, .ref 159)]) (st' := [.int ((Int32.ofInt 5)), .ref 165, .int z373, .ref 159]) rfl ?_
  refine En_ialdK ((h353 _ _ (inWa tgz_165 (by decide +kernel))).trans ((h322 _ _ (inWa tgz_165 (by decide +kernel))).trans h291)) rfl (by decide : (Int32.ofInt 5).toInt = 5) tgz_165 (by decide +kernel) h352 (by decide) (lnI (by decide +kernel : LN _ = 226) (by decide)) ?_
  refine En_Ps 2 (pc' := 416) (lv' := [(2, .int z359), (0, .ref 159)]) (st' := [.int ((y290 - ((Int32.ofInt 1)))), .int z373, .ref 159]) rfl ?_
  refine En_top (subI rfl (by decide : (Int32.ofInt 1).toInt = 1) (by first | exact q_93f9478bef h292 | omega) (by first | exact q_9320ba2c05 h293 | omega)) (fun z376 h377 => ?_)
  obtain ⟨z379, h378, h380, h381⟩ := WT_peekI h352 tgz_159 (by decide +kernel : FT 35 10 = (0, 0, 4)) (by decide +kernel)
  obtain ⟨z383, h382, h384, h385⟩ := WT_peekI h352 tgz_159 (by decide +kernel : FT 35 11 = (0, 0, 99999)) (by decide +kernel)
  refine En_callV rfl rfl rfl rfl rfl rfl rfl rfl tgz_159 (by decide +kernel) rfl (c_288x σ351 h352 z373 z376 (geI rfl (by first | exact q_ffbb68b1cf h374 h354.1 | omega)) (leI rfl (by first | exact q_8ea96bb703 h374 h354.2.1 | omega)) (geI rfl (by first | exact q_e2c277696c h377 h292 | omega)) (leI rfl (by first | exact q_f8e0b78f94 h377 h293 | omega)) z355 h356 z357 h358 z379 h378 z383 h382 h366) (by decide) (by decide) (fun v387 σ388 h386 => ?_)
  obtain ⟨h389, h390, z392, h393, z394, h395, z396, rfl, h391⟩ := h386
  have h397 := h391.2.2.2.2.2.2.2.2.2.2.2.2.2.2.2.2
  have h398 := Fr_trans h361 h390 (by decide +kernel)
  have h399 := KF_fr h362 h390 (by decide +kernel)
  have h400 : tN By Nb z373.toInt z376.toInt S364 = tN By Nb ((tV By Nb S331.2.2.1) + 1) (S331.2.2.2 5 - 1) S364 := tN_cg2 (fun zz => by have j1 := Imp_m h368 zz; have j2 := Imp_m h369 zz; have j3 := Imp_m h335 j2.1; omega) (fun zz => by have j1 := Imp_m h368 zz; have j2 := Imp_m h369 zz; have j3 := Imp_m h335 j2.1; omega)
  obtain ⟨S401, h402⟩ : ∃ q : PS, q = tN By Nb ((tV By Nb S331.2.2.1) + 1) (S331.2.2.2 5 - 1) S364 := ⟨_, rfl⟩
  have h403 : ML By Nb σ388 S401 := by rw [h402]; exact (ML_eq h397.1 h400)
  have h404 := ML_k h403 h395
  have h405 : Imp (S401.1 = 0) (z396.toInt = tV By Nb S364.2.2.1) := fun z => h397.2 (by rw [h400, ← h402]; exact z)
  have h406 : Imp (S401.1 = 0) (S364.1 = 0 ∧ tK By Nb S364.2.2.1 = 2 ∧ (tV By Nb S331.2.2.1) + 1 ≤ tV By Nb S364.2.2.1 ∧ tV By Nb S364.2.2.1 ≤ S331.2.2.2 5 - 1) := fun z => tN_gg (by rw [← h402]; exact z)
  have h407 : S401.2.2.2 = S364.2.2.2 := by rw [h402]; exact tN_w
  have h408 := Imp_m h391.2.2.2.2.2.2.2.2.2.2.2.2.1 (by first | exact q_70cf9890e7 h374 h354.1 | omega)
  refine En_Ps 2 (pc' := 421) (lv' := [(3, .int z396), (2, .int z359), (0, .ref 159)]) (st' := [.ref 159]) rfl ?_
  refine En_callV rfl rfl rfl rfl rfl rfl rfl rfl tgz_159 (by decide +kernel) rfl (c_237 σ388 h389 z394 h395) (by decide) (by decide) (fun v410 σ411 h409 => ?_)
  obtain ⟨h412, h413, z415, rfl, h414⟩ := h409
  obtain rfl : σ388 = σ411 := Fr_nil h413
  refine En_iEq _ rfl rfl (fun h416 => ?_) (fun h416 => ?_)
  · exact En_ret (v := none) rfl rfl rfl ⟨h389, h398, z392, h393, z394, h395, rfl, ⟨by first | exact q_a555021d16 h391.2.2.1 | omega, by first | exact q_76190b61a3 h391.2.2.2.1 | omega, by omega, by first | exact q_a555021d16 h391.2.2.2.2.2.1 | omega, by first | exact q_c733b715bf h391.2.2.2.2.2.2.1 | omega, by omega, by omega, fun _ => by omega, ⟨h399, ML_eq h403 (by subst h402; subst h365; subst h332; rw [gNx_0 h314 hg (by omega) (by omega) (by omega) (by omega) (by omega) (by omega) (by omega)]; unfold gAhead; (try dsimp only); first | done | (rw [if_pos (by omega)]; first | done | rfl) | (rw [if_neg (by omega)]; first | done | rfl))⟩⟩⟩
  · have h417 := Imp_m h354.2.2.2.2.2.2.2.2.2.2.2.2.2.2.2.1 (by omega)
    have h418 := Imp_m h391.2.2.2.2.2.2.2.2.2.2.2.2.2.1 (by first | exact q_0fcbfd0d34 h377 h344 h417.2.2.2.2.2.2 h417.2.2.2.1 h354.1 | omega)
    have h419 := Imp_m h391.2.2.2.2.2.2.2.2.2.2.2.2.2.2.2.1 (by omega)
    have h420 := Imp_m h323.2.2.2.2.2.2.1 (by first | exact q_89ea7e3615 h417.2.2.1 | omega)
    have h421 := Imp_m h354.2.2.2.2.2.2.2.2.2.2.2.2.2.1 (by first | exact q_78165d07a1 h417.2.2.2.2.2.2 h347 | omega)
    have h422 : S401.1 = 0 := by omega
    have h423 := Imp_m h405 h422
    have h424 := Imp_m h406 h422
    have h425 := Imp_m h368 h424.1
    have h426 := Imp_m h369 h424.1
    have h427 := Imp_m h335 h426.1
    refine En_Ps 1 (pc' := 428) (lv' := [(3, .int z396), (2, .int z359), (0, .ref 159)]) (st' := [.ref 159]) rfl ?_
    refine En_getK (j := 14) ((h390 _ _ (inW tgz_159 (by decide +kernel))).trans ((h353 _ _ (inW tgz_159 (by decide +kernel))).trans h340)) rfl rfl rfl tgz_159 (by decide +kernel) ?_
    refine En_Ps 4 (pc' := 437) (lv' := [(3, .int z396), (2, .int z359), (0, .ref 159)]) (st' := [.int ((((Int32.ofInt 2)) * z396)), .int (((Int16.ofInt 154).toInt32)), .ref 165]) rfl ?_
    refine En_top (mulI (by decide : (Int32.ofInt 2).toInt = 2) rfl (Z := 2 * z396.toInt) (by first | exact q_9c4c04fc55 | omega) (by first | exact q_36fa9d12a7 h391.1 | omega) (by first | exact q_9cfc87bf13 h391.2.1 | omega)) (fun z428 h429 => ?_)
    refine En_Ps 1 (pc' := 438) (lv' := [(3, .int z396), (2, .int z359), (0, .ref 159)]) (st' := [.int (((((Int16.ofInt 154).toInt32)) + z428)), .ref 165]) rfl ?_
    refine En_top (addI (by decide : ((Int16.ofInt 154).toInt32).toInt = 154) rfl (by first | exact q_d64d5afc83 h429 h419.2.2.2.2.1 h419.2.2.2.2.2.1 h374 h354.1 | omega) (by first | exact q_e0a1d64f9c h429 h419.2.2.2.1 h419.2.2.2.2.2.2 h377 h293 | omega)) (fun z430 h431 => ?_)
    refine En_Ps 2 (pc' := 440) (lv' := [(3, .int z396), (2, .int z359), (0, .ref 159)]) (st' := [.int ((z430 + ((Int32.ofInt 1)))), .ref 165]) rfl ?_
    refine En_top (addI rfl (by decide : (Int32.ofInt 1).toInt = 1) (by first | exact q_05da333434 h431 h429 h419.2.2.2.2.1 h419.2.2.2.2.2.1 h374 h354.1 | omega) (by first | exact q_081a469d1d h431 h429 h419.2.2.2.1 h419.2.2.2.2.2.2 h377 h293 | omega)) (fun z432 h433 => ?_)
    refine En_Ps 1 (pc' := 441) (lv' := [(3, .int z396), (2, .int z359), (0, .ref 159)]) (st' := [.int z432, .ref 165, .int z432, .ref 165]) rfl ?_
    refine En_iald (l := 0) (u := 63) rfl rfl tgz_165 (by decide +kernel) h389 (by first | exact q_9d37ed728b h433 h431 h429 h419.2.2.2.2.1 h419.2.2.2.2.2.1 h374 h354.1 | omega) (lnI (by decide +kernel : LN _ = 226) (by first | exact q_d5784f9e57 h433 h431 h429 h419.2.2.2.1 h419.2.2.2.2.2.2 h377 h293 | omega)) (FTrow 41 157 2 5 (by decide +kernel) (by first | exact q_91fa7383b1 h433 h431 h429 h419.2.2.2.2.1 h419.2.2.2.2.2.1 h374 h354.1 | omega) (by first | exact q_fc8ef87f00 h433 h431 h429 h419.2.2.2.1 h419.2.2.2.2.2.2 h377 h293 | omega) (by first | exact q_951b0f7e1b h429 h431 h433 | omega)) (fun z435 h434 h436 h437 => ?_)
    have h438 : S401.2.2.2 (155 + 2 * (tV By Nb S364.2.2.1)) = z435.toInt := ML_wi h403 (by omega) h434 (by omega) (by omega) (by omega)
    rw [h407, h370] at h438
    refine En_Ps 4 (pc' := 446) (lv' := [(3, .int z396), (2, .int z359), (0, .ref 159)]) (st' := [.int ((z435 ||| ((Int32.ofInt 1) <<< (z359 &&& 31)))), .int z432, .ref 165]) rfl ?_
    refine En_nam (fun z439 h440 => ?_)
    have h441 := orP_v (x := z435) (y := z359) h440 rfl rfl (by omega) (by omega) (by omega) (by omega)
    have h442 : z439.toInt = orP (S331.2.2.2 (155 + 2 * (tV By Nb S364.2.2.1))) (tV By Nb S331.2.2.1) := by rw [h441.1]; exact orP_cg (by omega) (by omega)
    refine En_iast (l := 0) (u := 63) rfl rfl tgz_165 (by decide +kernel) (by first | exact q_9d37ed728b h433 h431 h429 h419.2.2.2.2.1 h419.2.2.2.2.2.1 h374 h354.1 | omega) (lnI (by decide +kernel : LN _ = 226) (by first | exact q_d5784f9e57 h433 h431 h429 h419.2.2.2.1 h419.2.2.2.2.2.2 h377 h293 | omega)) (FTrow 41 157 2 5 (by decide +kernel) (by first | exact q_91fa7383b1 h433 h431 h429 h419.2.2.2.2.1 h419.2.2.2.2.2.1 h374 h354.1 | omega) (by first | exact q_fc8ef87f00 h433 h431 h429 h419.2.2.2.1 h419.2.2.2.2.2.2 h377 h293 | omega) (by first | exact q_951b0f7e1b h429 h431 h433 | omega)) (rngI rfl (by omega) (by omega)) h389 h398 (by decide +kernel) (fun σ443 h444 h445 h446 h447 => ?_)
    have h448 := KF_st h399 (J := z432.toInt) h447 (by omega) (by omega)
    obtain ⟨S449, h450⟩ : ∃ q : PS, q = wst S401 (155 + 2 * (tV By Nb S364.2.2.1)) (orP (S331.2.2.2 (155 + 2 * (tV By Nb S364.2.2.1))) (tV By Nb S331.2.2.1)) := ⟨_, rfl⟩
    have h451 : ML By Nb σ443 S449 := by rw [h450]; exact (ML_wst (i := 155 + 2 * (tV By Nb S364.2.2.1)) (v := orP (S331.2.2.2 (155 + 2 * (tV By Nb S364.2.2.1))) (tV By Nb S331.2.2.1)) h403 h446 h447 (by omega) (fun z => by have j1 := Imp_m h405 z; have j2 := Imp_m h406 z; have j3 := Imp_m h368 j2.1; have j4 := Imp_m h369 j2.1; have j5 := Imp_m h335 j4.1; exact ⟨by omega, by omega⟩))
    have h452 := ML_k h451 ((h447 _ _ (Or.inl (neTG tgz_159 tgz_165 (by decide)))).trans h395)
    have h453 : S449.1 = S401.1 := by rw [h450]; rfl
    exact En_ret (v := none) rfl rfl rfl ⟨h444, h445, z392, ((h447 _ _ (Or.inl (neTG tgz_159 tgz_165 (by decide)))).trans h393), z394, ((h447 _ _ (Or.inl (neTG tgz_159 tgz_165 (by decide)))).trans h395), rfl, ⟨by first | exact q_a555021d16 h391.2.2.1 | omega, by first | exact q_76190b61a3 h391.2.2.2.1 | omega, by omega, by first | exact q_a555021d16 h391.2.2.2.2.2.1 | omega, by first | exact q_c733b715bf h391.2.2.2.2.2.2.1 | omega, by omega, by omega, fun _ => by omega, ⟨h448, ML_eq h451 (by subst h450; subst h402; subst h365; subst h332; rw [gNx_0 h314 hg (by omega) (by omega) (by omega) (by omega) (by omega) (by omega) (by omega)]; unfold gAhead; (try dsimp only); first | done | (rw [if_pos (by omega)]; first | done | rfl) | (rw [if_neg (by omega)]; first | done | rfl))⟩⟩⟩
set_option maxRecDepth 10000 in
set_option maxHeartbeats 4000000 in
theorem k_302x_170 {By : Int → Int} {Nb : Int} {Sp : PS} (σ0 : SG) (hσ0 : WT σ0) (f : Int32) (h_f : (σ0 159)[8]? = some (.int f)) (k : Int32) (h_k : (σ0 159)[12]? = some (.int k)) (hM : ML By Nb σ0 Sp) (hg : Sp.1 = 0) : ∀ (σ454 : SG) (y457 : Int32) (y461 : Int32) (y465 : Int32) (y469 : Int32) (y473 : Int32) (y477 : Int32), WT σ454 → Fr [(35, 8), (35, 9), (35, 10), (35, 11), (35, 12), (35, 13), (41, 0)] σ0 σ454 → (σ454 165)[(2 : Int).toNat]? = some (.int y457) → 0 ≤ y457.toInt → y457.toInt ≤ 4 → (σ454 165)[(3 : Int).toNat]? = some (.int y461) → 0 ≤ y461.toInt → y461.toInt ≤ 12 → (σ454 165)[(4 : Int).toNat]? = some (.int y465) → 0 ≤ y465.toInt → y465.toInt ≤ 4 → (σ454 165)[(5 : Int).toNat]? = some (.int y469) → 0 ≤ y469.toInt → y469.toInt ≤ 6 → (σ454 159)[12]? = some (.int y473) → 0 ≤ y473.toInt → y473.toInt ≤ 3 → (σ454 159)[8]? = some (.int y477) → 0 ≤ y477.toInt → y477.toInt ≤ 1600 → f.toInt - y477.toInt ≤ 0 → Imp (y473.toInt ≤ 0) (k.toInt ≤ 0) → Imp (y473.toInt ≤ 0 ∧ -(iW By Nb 2 Sp) + 1 ≤ 0) (y457.toInt - 3 ≤ 0) → Imp (y473.toInt ≤ 0 ∧ -(iW By Nb 3 Sp) + 1 ≤ 0) (y461.toInt - 11 ≤ 0) → Imp (y473.toInt ≤ 0 ∧ -(iW By Nb 5 Sp) + 1 ≤ 0) (y465.toInt - 3 ≤ 0) → Imp (y473.toInt ≤ 0 ∧ -(iW By Nb 1 Sp) + 1 ≤ 0) (y469.toInt - 5 ≤ 0) → KF σ0 σ454 → ML By Nb σ454 (gN2 By Nb (gN1 By Nb Sp)) → En 9 200 none mr_302 (P_302x σ0 By Nb Sp f k) 170 [(0, .ref 159)] [] σ454 := by
  obtain ⟨hl_f, hu_f⟩ := WT_int hσ0 (g := 35) (by decide +kernel) (by decide +kernel) (l := 0) (u := 1600) (by decide +kernel) h_f
  obtain ⟨hl_k, hu_k⟩ := WT_int hσ0 (g := 35) (by decide +kernel) (by decide +kernel) (l := 0) (u := 3) (by decide +kernel) h_k
  have hF0 : Fr [(35, 8), (35, 9), (35, 10), (35, 11), (35, 12), (35, 13), (41, 0)] σ0 σ0 := Fr_rfl
  have keyj219 := k_302x_219 σ0 hσ0 f h_f k h_k hM hg
  have keyj309 := k_302x_309 σ0 hσ0 f h_f k h_k hM hg
  have keyj347 := k_302x_347 σ0 hσ0 f h_f k h_k hM hg
  have keyj386 := k_302x_386 σ0 hσ0 f h_f k h_k hM hg
  intro σ454 y457 y461 y465 y469 y473 y477 h455 h456 h458 h459 h460 h462 h463 h464 h466 h467 h468 h470 h471 h472 h474 h475 h476 h478 h479 h480 h481 h482 h483 h484 h485 h486 h487 h488
  have h489 := ML_k h488 h474
  refine En_Ps 1 (pc' := 171) (lv' := [(0, .ref 159)]) (st' := [.ref 159]) rfl ?_
  refine En_callV rfl rfl rfl rfl rfl rfl rfl rfl tgz_159 (by decide +kernel) rfl (c_237 σ454 h455 y473 h474) (by decide) (by decide) (fun v491 σ492 h490 => ?_)
  obtain ⟨h493, h494, z496, rfl, h495⟩ := h490
  obtain rfl : σ454 = σ492 := Fr_nil h494
  refine En_iNe _ rfl rfl (fun h497 => ?_) (fun h497 => ?_)
  · have h498 := Imp_m h482 (by omega)
    have h499 : gN2 By Nb (gN1 By Nb Sp) = Sp := gN12_id (by omega)
    have h500 : ML By Nb σ454 Sp := ML_eq h488 h499
    have h502 := ML_k h500 h474
    have h503 := ML_w h500 hg h458 (by omega) (by omega)
    have h504 := ML_w h500 hg h462 (by omega) (by omega)
    have h505 := ML_w h500 hg h466 (by omega) (by omega)
    have h506 := ML_w h500 hg h470 (by omega) (by omega)
    refine En_Ps 1 (pc' := 179) (lv' := [(0, .ref 159)]) (st' := [.ref 159]) rfl ?_
    refine En_ldcS (i := 2) rfl rfl rfl ?_
    refine En_callV rfl rfl rfl rfl rfl rfl rfl rfl tgz_159 (by decide +kernel) rfl (c_318s2x σ454 h455 y477 h478 h500) (by decide) (by decide) (fun v508 σ509 h507 => ?_)
    obtain ⟨h510, h511, z513, h514, z515, rfl, h512⟩ := h507
    have h516 := h512.2.2.2.2.2.2
    have h517 := Fr_trans h456 h511 (by decide +kernel)
    have h518 := KF_fr h487 h511 (by decide +kernel)
    have h519 := h516.2.1
    refine En_iEq _ rfl rfl (fun h520 => ?_) (fun h520 => ?_)
    · obtain rfl : σ454 = σ509 := h516.1 (by omega)
      refine En_Ps 1 (pc' := 195) (lv' := [(0, .ref 159)]) (st' := [.ref 159]) rfl ?_
      refine En_ldcS (i := 6) rfl rfl rfl ?_
      refine En_callV rfl rfl rfl rfl rfl rfl rfl rfl tgz_159 (by decide +kernel) rfl (c_318s6x σ454 h455 y477 h478 h500) (by decide) (by decide) (fun v522 σ523 h521 => ?_)
      obtain ⟨h524, h525, z527, h528, z529, rfl, h526⟩ := h521
      have h530 := h526.2.2.2.2.2.2
      have h531 := Fr_trans h456 h525 (by decide +kernel)
      have h532 := KF_fr h487 h525 (by decide +kernel)
      have h533 := h530.2.1
      refine En_iEq _ rfl rfl (fun h534 => ?_) (fun h534 => ?_)
      · obtain rfl : σ454 = σ523 := h530.1 (by omega)
        refine En_Ps 1 (pc' := 211) (lv' := [(0, .ref 159)]) (st' := [.ref 159]) rfl ?_
        refine En_ldcS (i := 3) rfl rfl rfl ?_
        refine En_callV rfl rfl rfl rfl rfl rfl rfl rfl tgz_159 (by decide +kernel) rfl (c_318s3x σ454 h455 y477 h478 h500) (by decide) (by decide) (fun v536 σ537 h535 => ?_)
        obtain ⟨h538, h539, z541, h542, z543, rfl, h540⟩ := h535
        have h544 := h540.2.2.2.2.2.2
        have h545 := Fr_trans h456 h539 (by decide +kernel)
        have h546 := KF_fr h487 h539 (by decide +kernel)
        have h547 := h544.2.1
        refine En_iEq _ rfl rfl (fun h548 => ?_) (fun h548 => ?_)
        · obtain rfl : σ454 = σ537 := h544.1 (by omega)
          refine En_Ps 1 (pc' := 267) (lv' := [(0, .ref 159)]) (st' := [.ref 159]) rfl ?_
          refine En_ldcS (i := 17) rfl rfl rfl ?_
          refine En_callV rfl rfl rfl rfl rfl rfl rfl rfl tgz_159 (by decide +kernel) rfl (c_318s17x σ454 h455 y477 h478 h500) (by decide) (by decide) (fun v550 σ551 h549 => ?_)
          obtain ⟨h552, h553, z555, h556, z557, rfl, h554⟩ := h549
          have h558 := h554.2.2.2.2.2.2
          have h559 := Fr_trans h456 h553 (by decide +kernel)
          have h560 := KF_fr h487 h553 (by decide +kernel)
          have h561 := h558.2.1
          refine En_iEq _ rfl rfl (fun h562 => ?_) (fun h562 => ?_)
          · obtain rfl : σ454 = σ551 := h558.1 (by omega)
            refine En_Ps 1 (pc' := 283) (lv' := [(0, .ref 159)]) (st' := [.ref 159]) rfl ?_
            refine En_ldcS (i := 9) rfl rfl rfl ?_
            refine En_callV rfl rfl rfl rfl rfl rfl rfl rfl tgz_159 (by decide +kernel) rfl (c_318s9x σ454 h455 y477 h478 h500) (by decide) (by decide) (fun v564 σ565 h563 => ?_)
            obtain ⟨h566, h567, z569, h570, z571, rfl, h568⟩ := h563
            have h572 := h568.2.2.2.2.2.2
            have h573 := Fr_trans h456 h567 (by decide +kernel)
            have h574 := KF_fr h487 h567 (by decide +kernel)
            have h575 := h572.2.1
            refine En_iEq _ rfl rfl (fun h576 => ?_) (fun h576 => ?_)
            · obtain rfl : σ454 = σ565 := h572.1 (by omega)
              refine En_Ps 1 (pc' := 301) (lv' := [(0, .ref 159)]) (st' := [.ref 159]) rfl ?_
              refine En_ldcS (i := 5) rfl rfl rfl ?_
              refine En_callV rfl rfl rfl rfl rfl rfl rfl rfl tgz_159 (by decide +kernel) rfl (c_318s5x σ454 h455 y477 h478 h500) (by decide) (by decide) (fun v578 σ579 h577 => ?_)
              obtain ⟨h580, h581, z583, h584, z585, rfl, h582⟩ := h577
              have h586 := h582.2.2.2.2.2.2
              have h587 := Fr_trans h456 h581 (by decide +kernel)
              have h588 := KF_fr h487 h581 (by decide +kernel)
              have h589 := h586.2.1
              refine En_iEq _ rfl rfl (fun h590 => ?_) (fun h590 => ?_)
              · obtain rfl : σ454 = σ579 := h586.1 (by omega)
                refine En_Ps 1 (pc' := 339) (lv' := [(0, .ref 159)]) (st' := [.ref 159]) rfl ?_
                refine En_ldcS (i := 1) rfl rfl rfl ?_
                refine En_callV rfl rfl rfl rfl rfl rfl rfl rfl tgz_159 (by decide +kernel) rfl (c_318s1x σ454 h455 y477 h478 h500) (by decide) (by decide) (fun v592 σ593 h591 => ?_)
                obtain ⟨h594, h595, z597, h598, z599, rfl, h596⟩ := h591
                have h600 := h596.2.2.2.2.2.2
                have h601 := Fr_trans h456 h595 (by decide +kernel)
                have h602 := KF_fr h487 h595 (by decide +kernel)
                have h603 := h600.2.1
                refine En_iEq _ rfl rfl (fun h604 => ?_) (fun h604 => ?_)
                · exact keyj386 σ593 y469 y473 z597 h594 h601 ((h595 _ _ (inWa tgz_165 (by decide +kernel))).trans h470) (by first | exact q_58e6e51dcc h471 | omega) (by first | exact q_615333d33f h472 | omega) ((h595 _ _ (inW tgz_159 (by decide +kernel))).trans h474) (by first | exact q_58e6e51dcc h475 | omega) (by first | exact q_da5e9b976f h476 | omega) h598 (by first | exact q_ef1e8e38bf h596.2.2.1 | omega) (by first | exact q_70de3c5e42 h596.2.2.2.1 | omega) (by omega) (fun _ => by omega) (by omega) (by omega) (by omega) (by omega) (by omega) (by omega) (by omega) (by omega) (h602) ((h600.1 (by omega)) ▸ h500) (h499)
                · have h605 := Imp_m h486 (by omega)
                  exact keyj347 σ593 y469 y473 z597 h594 h601 ((h595 _ _ (inWa tgz_165 (by decide +kernel))).trans h470) (by first | exact q_58e6e51dcc h471 | omega) (by first | exact q_615333d33f h472 | omega) ((h595 _ _ (inW tgz_159 (by decide +kernel))).trans h474) (by first | exact q_58e6e51dcc h475 | omega) (by first | exact q_da5e9b976f h476 | omega) h598 (by first | exact q_ef1e8e38bf h596.2.2.1 | omega) (by first | exact q_70de3c5e42 h596.2.2.2.1 | omega) (by omega) (fun _ => by omega) (by omega) (by omega) (by omega) (by omega) (by omega) (by omega) (by omega) (by omega) (by omega) (h602) (h600.2.2 (by omega)) (h499)
              · have h606 := Imp_m h485 (by omega)
                exact keyj309 σ579 y465 y473 z583 h580 h587 ((h581 _ _ (inWa tgz_165 (by decide +kernel))).trans h466) (by first | exact q_58e6e51dcc h467 | omega) (by first | exact q_c82ed93a8c h468 | omega) ((h581 _ _ (inW tgz_159 (by decide +kernel))).trans h474) (by first | exact q_58e6e51dcc h475 | omega) (by first | exact q_da5e9b976f h476 | omega) h584 (by first | exact q_ef1e8e38bf h582.2.2.1 | omega) (by first | exact q_70de3c5e42 h582.2.2.2.1 | omega) (by omega) (fun _ => by omega) (by omega) (by omega) (by omega) (by omega) (by omega) (by omega) (by omega) (by omega) (h588) (h586.2.2 (by omega)) (h499)
            · have h607 : Sp.1 = 0 := iW_g (i := 9) (B := By) (n := Nb) (by omega)
              obtain ⟨S608, h609⟩ : ∃ q : PS, q = adv By Nb Sp := ⟨_, rfl⟩
              have h610 : ML By Nb σ565 S608 := by rw [h609]; exact h572.2.2 (by omega)
              have h611 := ML_k h610 ((h567 _ _ (inW tgz_159 (by decide +kernel))).trans h474)
              have h612 : S608.2.2.2 = Sp.2.2.2 := by rw [h609]; exact adv_w
              have h613 : S608.1 = 0 := by rw [h609, adv_1]; exact h607
              have h614 : S608.2.2.2 0 = Sp.2.2.2 0 := by rw [h612]
              have h615 : S608.2.2.2 2 = Sp.2.2.2 2 := by rw [h612]
              have h616 : S608.2.2.2 3 = Sp.2.2.2 3 := by rw [h612]
              have h617 : S608.2.2.2 4 = Sp.2.2.2 4 := by rw [h612]
              have h618 : S608.2.2.2 5 = Sp.2.2.2 5 := by rw [h612]
              refine En_Ps 2 (pc' := 294) (lv' := [(0, .ref 159)]) (st' := [.int (((Int8.ofInt 8).toInt32)), .ref 159]) rfl ?_
              have := (by decide : (((Int8.ofInt 8).toInt32)).toInt = 8)
              refine En_callV rfl rfl rfl rfl rfl rfl rfl rfl tgz_159 (by decide +kernel) rfl (c_303ax σ565 h566 (((Int8.ofInt 8).toInt32)) (geI (by decide : ((Int8.ofInt 8).toInt32).toInt = 8) (by decide)) (leI (by decide : ((Int8.ofInt 8).toInt32).toInt = 8) (by decide)) z569 h570 y473 ((h567 _ _ (inW tgz_159 (by decide +kernel))).trans h474) h610 (by omega)) (by decide) (by decide) (fun v620 σ621 h619 => ?_)
              obtain ⟨h622, h623, z625, h626, z627, h628, rfl, h624⟩ := h619
              have h629 := h624.2.2.2.2.2.2.2.2
              have h630 := Fr_trans h573 h623 (by decide +kernel)
              have h631 := KF_tr h574 (KF_of h629.1)
              obtain ⟨S632, h633⟩ : ∃ q : PS, q = gRule By Nb (8) S608 := ⟨_, rfl⟩
              have h634 : ML By Nb σ621 S632 := by rw [h633]; exact (ML_eq h629.2 (gRule_cg (by omega)))
              have h635 := ML_k h634 h628
              refine En_Ps 1 (pc' := 447) (lv' := [(0, .ref 159)]) (st' := []) rfl ?_
              exact En_ret (v := none) rfl rfl rfl ⟨h622, h630, z625, h626, z627, h628, rfl, ⟨by first | exact q_a555021d16 h624.1 | omega, by first | exact q_76190b61a3 h624.2.1 | omega, by omega, by first | exact q_a555021d16 h624.2.2.2.1 | omega, by first | exact q_c733b715bf h624.2.2.2.2.1 | omega, by omega, by omega, fun _ => by omega, ⟨h631, ML_eq h634 (by subst h633; subst h609; rw [gNx_9 h499 hg (by omega) (by omega) (by omega) (by omega) (by omega)])⟩⟩⟩
          · have h636 : Sp.1 = 0 := iW_g (i := 17) (B := By) (n := Nb) (by omega)
            obtain ⟨S637, h638⟩ : ∃ q : PS, q = adv By Nb Sp := ⟨_, rfl⟩
            have h639 : ML By Nb σ551 S637 := by rw [h638]; exact h558.2.2 (by omega)
            have h640 := ML_k h639 ((h553 _ _ (inW tgz_159 (by decide +kernel))).trans h474)
            have h641 : S637.2.2.2 = Sp.2.2.2 := by rw [h638]; exact adv_w
            have h642 : S637.1 = 0 := by rw [h638, adv_1]; exact h636
            have h643 : S637.2.2.2 0 = Sp.2.2.2 0 := by rw [h641]
            have h644 : S637.2.2.2 2 = Sp.2.2.2 2 := by rw [h641]
            have h645 : S637.2.2.2 3 = Sp.2.2.2 3 := by rw [h641]
            have h646 : S637.2.2.2 4 = Sp.2.2.2 4 := by rw [h641]
            have h647 : S637.2.2.2 5 = Sp.2.2.2 5 := by rw [h641]
            refine En_Ps 1 (pc' := 276) (lv' := [(0, .ref 159)]) (st' := [.ref 159]) rfl ?_
            refine En_callV rfl rfl rfl rfl rfl rfl rfl rfl tgz_159 (by decide +kernel) rfl (c_304x σ551 h552 z555 h556 y473 ((h553 _ _ (inW tgz_159 (by decide +kernel))).trans h474) h639 (by omega)) (by decide) (by decide) (fun v649 σ650 h648 => ?_)
            obtain ⟨h651, h652, z654, h655, z656, h657, rfl, h653⟩ := h648
            have h658 := h653.2.2.2.2.2.2.2.2
            have h659 := Fr_trans h559 h652 (by decide +kernel)
            have h660 := KF_tr h560 h658.1
            obtain ⟨S661, h662⟩ : ∃ q : PS, q = gTwin By Nb S637 := ⟨_, rfl⟩
            have h663 : ML By Nb σ650 S661 := by rw [h662]; exact h658.2
            have h664 := ML_k h663 h657
            refine En_Ps 1 (pc' := 447) (lv' := [(0, .ref 159)]) (st' := []) rfl ?_
            exact En_ret (v := none) rfl rfl rfl ⟨h651, h659, z654, h655, z656, h657, rfl, ⟨by first | exact q_a555021d16 h653.1 | omega, by first | exact q_76190b61a3 h653.2.1 | omega, by omega, by first | exact q_a555021d16 h653.2.2.2.1 | omega, by first | exact q_c733b715bf h653.2.2.2.2.1 | omega, by omega, by omega, fun _ => by omega, ⟨h660, ML_eq h663 (by subst h662; subst h638; rw [gNx_17 h499 hg (by omega) (by omega) (by omega) (by omega)])⟩⟩⟩
        · have h665 := Imp_m h484 (by omega)
          exact keyj219 σ537 y461 y473 z541 h538 h545 ((h539 _ _ (inWa tgz_165 (by decide +kernel))).trans h462) (by first | exact q_58e6e51dcc h463 | omega) (by first | exact q_7c77837619 h464 | omega) ((h539 _ _ (inW tgz_159 (by decide +kernel))).trans h474) (by first | exact q_58e6e51dcc h475 | omega) (by first | exact q_da5e9b976f h476 | omega) h542 (by first | exact q_ef1e8e38bf h540.2.2.1 | omega) (by first | exact q_70de3c5e42 h540.2.2.2.1 | omega) (by omega) (fun _ => by omega) (by omega) (by omega) (by omega) (by omega) (by omega) (h546) (h544.2.2 (by omega)) (h499)
      · have h666 : Sp.1 = 0 := iW_g (i := 6) (B := By) (n := Nb) (by omega)
        obtain ⟨S667, h668⟩ : ∃ q : PS, q = adv By Nb Sp := ⟨_, rfl⟩
        have h669 : ML By Nb σ523 S667 := by rw [h668]; exact h530.2.2 (by omega)
        have h670 := ML_k h669 ((h525 _ _ (inW tgz_159 (by decide +kernel))).trans h474)
        have h671 : S667.2.2.2 = Sp.2.2.2 := by rw [h668]; exact adv_w
        have h672 : S667.1 = 0 := by rw [h668, adv_1]; exact h666
        have h673 : S667.2.2.2 0 = Sp.2.2.2 0 := by rw [h671]
        have h674 : S667.2.2.2 2 = Sp.2.2.2 2 := by rw [h671]
        have h675 : S667.2.2.2 3 = Sp.2.2.2 3 := by rw [h671]
        have h676 : S667.2.2.2 4 = Sp.2.2.2 4 := by rw [h671]
        have h677 : S667.2.2.2 5 = Sp.2.2.2 5 := by rw [h671]
        refine En_Ps 1 (pc' := 204) (lv' := [(0, .ref 159)]) (st' := [.ref 159]) rfl ?_
        refine En_callV rfl rfl rfl rfl rfl rfl rfl rfl tgz_159 (by decide +kernel) rfl (c_300x σ523 h524 z527 h528 y473 ((h525 _ _ (inW tgz_159 (by decide +kernel))).trans h474) h669 (by omega)) (by decide) (by decide) (fun v679 σ680 h678 => ?_)
        obtain ⟨h681, h682, z684, h685, z686, h687, rfl, h683⟩ := h678
        have h688 := h683.2.2.2.2.2.2.2.2
        have h689 := Fr_trans h531 h682 (by decide +kernel)
        have h690 := KF_tr h532 h688.1
        obtain ⟨S691, h692⟩ : ∃ q : PS, q = gLesson By Nb S667 := ⟨_, rfl⟩
        have h693 : ML By Nb σ680 S691 := by rw [h692]; exact h688.2
        have h694 := ML_k h693 h687
        refine En_Ps 1 (pc' := 447) (lv' := [(0, .ref 159)]) (st' := []) rfl ?_
        exact En_ret (v := none) rfl rfl rfl ⟨h681, h689, z684, h685, z686, h687, rfl, ⟨by first | exact q_a555021d16 h683.1 | omega, by first | exact q_76190b61a3 h683.2.1 | omega, by omega, by first | exact q_a555021d16 h683.2.2.2.1 | omega, by first | exact q_c733b715bf h683.2.2.2.2.1 | omega, by omega, by omega, fun _ => by omega, ⟨h690, ML_eq h693 (by subst h692; subst h668; rw [gNx_6 h499 hg (by omega) (by omega)])⟩⟩⟩
    · have h695 := Imp_m h483 (by omega)
      have h696 : Sp.1 = 0 := iW_g (i := 2) (B := By) (n := Nb) (by omega)
      obtain ⟨S697, h698⟩ : ∃ q : PS, q = adv By Nb Sp := ⟨_, rfl⟩
      have h699 : ML By Nb σ509 S697 := by rw [h698]; exact h516.2.2 (by omega)
      have h700 := ML_k h699 ((h511 _ _ (inW tgz_159 (by decide +kernel))).trans h474)
      have h701 : S697.2.2.2 = Sp.2.2.2 := by rw [h698]; exact adv_w
      have h702 : S697.1 = 0 := by rw [h698, adv_1]; exact h696
      have h703 : S697.2.2.2 0 = Sp.2.2.2 0 := by rw [h701]
      have h704 : S697.2.2.2 2 = Sp.2.2.2 2 := by rw [h701]
      have h705 : S697.2.2.2 3 = Sp.2.2.2 3 := by rw [h701]
      have h706 : S697.2.2.2 4 = Sp.2.2.2 4 := by rw [h701]
      have h707 : S697.2.2.2 5 = Sp.2.2.2 5 := by rw [h701]
      refine En_Ps 1 (pc' := 188) (lv' := [(0, .ref 159)]) (st' := [.ref 159]) rfl ?_
      refine En_callV rfl rfl rfl rfl rfl rfl rfl rfl tgz_159 (by decide +kernel) rfl (c_299x σ509 h510 z513 h514 y473 ((h511 _ _ (inW tgz_159 (by decide +kernel))).trans h474) y457 ((h511 _ _ (inWa tgz_165 (by decide +kernel))).trans h458) (by omega) h699 (by omega)) (by decide) (by decide) (fun v709 σ710 h708 => ?_)
      obtain ⟨h711, h712, z714, h715, z716, h717, rfl, h713⟩ := h708
      have h718 := h713.2.2.2.2.2.2.2.2
      have h719 := Fr_trans h517 h712 (by decide +kernel)
      have h720 := KF_tr h518 h718.1
      obtain ⟨S721, h722⟩ : ∃ q : PS, q = gDoor By Nb S697 := ⟨_, rfl⟩
      have h723 : ML By Nb σ710 S721 := by rw [h722]; exact h718.2
      have h724 := ML_k h723 h717
      refine En_Ps 1 (pc' := 447) (lv' := [(0, .ref 159)]) (st' := []) rfl ?_
      exact En_ret (v := none) rfl rfl rfl ⟨h711, h719, z714, h715, z716, h717, rfl, ⟨by first | exact q_a555021d16 h713.1 | omega, by first | exact q_76190b61a3 h713.2.1 | omega, by omega, by first | exact q_a555021d16 h713.2.2.2.1 | omega, by first | exact q_c733b715bf h713.2.2.2.2.1 | omega, by omega, by omega, fun _ => by omega, ⟨h720, ML_eq h723 (by subst h722; subst h698; rw [gNx_2 h499 hg (by omega)])⟩⟩⟩
  · exact En_ret (v := none) rfl rfl rfl ⟨h455, h456, y477, h478, y473, h474, rfl, ⟨by first | exact q_c803b490ef h479 | omega, by first | exact q_5a08281576 h480 | omega, by omega, by first | exact q_c803b490ef h475 | omega, by first | exact q_e9a8eec0c4 h476 | omega, by omega, by omega, fun _ => by have := Imp_m h482 (by omega); omega, ⟨h487, ML_eq h488 (by unfold gNext; dsimp only; rw [if_pos (by omega)])⟩⟩⟩
set_option maxRecDepth 10000 in
set_option maxHeartbeats 4000000 in
theorem k_302x_87 {By : Int → Int} {Nb : Int} {Sp : PS} (σ0 : SG) (hσ0 : WT σ0) (f : Int32) (h_f : (σ0 159)[8]? = some (.int f)) (k : Int32) (h_k : (σ0 159)[12]? = some (.int k)) (hM : ML By Nb σ0 Sp) (hg : Sp.1 = 0) : ∀ (σ725 : SG) (y728 : Int32) (y732 : Int32), WT σ725 → Fr [(35, 8), (35, 9), (35, 10), (35, 11), (35, 12), (35, 13), (41, 0)] σ0 σ725 → (σ725 159)[12]? = some (.int y728) → 0 ≤ y728.toInt → y728.toInt ≤ 3 → (σ725 159)[8]? = some (.int y732) → 0 ≤ y732.toInt → y732.toInt ≤ 1600 → f.toInt - y732.toInt ≤ 0 → Imp (y728.toInt ≤ 0) (k.toInt ≤ 0) → KF σ0 σ725 → ML By Nb σ725 (gN1 By Nb Sp) → En 9 200 none mr_302 (P_302x σ0 By Nb Sp f k) 87 [(0, .ref 159)] [] σ725 := by
  obtain ⟨hl_f, hu_f⟩ := WT_int hσ0 (g := 35) (by decide +kernel) (by decide +kernel) (l := 0) (u := 1600) (by decide +kernel) h_f
  obtain ⟨hl_k, hu_k⟩ := WT_int hσ0 (g := 35) (by decide +kernel) (by decide +kernel) (l := 0) (u := 3) (by decide +kernel) h_k
  have hF0 : Fr [(35, 8), (35, 9), (35, 10), (35, 11), (35, 12), (35, 13), (41, 0)] σ0 σ0 := Fr_rfl
  have keyj170 := k_302x_170 σ0 hσ0 f h_f k h_k hM hg
  intro σ725 y728 y732 h726 h727 h729 h730 h731 h733 h734 h735 h736 h737 h738 h739
  have h740 := ML_k h739 h729
  have h741 : Imp ((gN1 By Nb Sp).1 = 0) (iW By Nb 2 (gN1 By Nb Sp) = iW By Nb 2 Sp) := gN1_iW
  have h742 : Imp ((gN1 By Nb Sp).1 = 0) (iW By Nb 3 (gN1 By Nb Sp) = iW By Nb 3 Sp) := gN1_iW
  have h743 : Imp ((gN1 By Nb Sp).1 = 0) (iW By Nb 5 (gN1 By Nb Sp) = iW By Nb 5 Sp) := gN1_iW
  have h744 : Imp ((gN1 By Nb Sp).1 = 0) (iW By Nb 1 (gN1 By Nb Sp) = iW By Nb 1 Sp) := gN1_iW
  refine En_Ps 1 (pc' := 88) (lv' := [(0, .ref 159)]) (st' := [.ref 159]) rfl ?_
  refine En_ldcS (i := 2) rfl rfl rfl ?_
  refine En_callV rfl rfl rfl rfl rfl rfl rfl rfl tgz_159 (by decide +kernel) rfl (c_251s2x σ725 h726 h739) (by decide) (by decide) (fun v746 σ747 h745 => ?_)
  obtain ⟨h748, h749, z751, rfl, h750⟩ := h745
  have h752 := h750.2.2
  obtain rfl : σ725 = σ747 := Fr_nil h749
  refine En_iEq _ rfl rfl (fun h753 => ?_) (fun h753 => ?_)
  · refine En_Ps 1 (pc' := 107) (lv' := [(0, .ref 159)]) (st' := [.ref 159]) rfl ?_
    refine En_ldcS (i := 3) rfl rfl rfl ?_
    refine En_callV rfl rfl rfl rfl rfl rfl rfl rfl tgz_159 (by decide +kernel) rfl (c_251s3x σ725 h726 h739) (by decide) (by decide) (fun v755 σ756 h754 => ?_)
    obtain ⟨h757, h758, z760, rfl, h759⟩ := h754
    have h761 := h759.2.2
    obtain rfl : σ725 = σ756 := Fr_nil h758
    refine En_iEq _ rfl rfl (fun h762 => ?_) (fun h762 => ?_)
    · refine En_Ps 1 (pc' := 127) (lv' := [(0, .ref 159)]) (st' := [.ref 159]) rfl ?_
      refine En_ldcS (i := 5) rfl rfl rfl ?_
      refine En_callV rfl rfl rfl rfl rfl rfl rfl rfl tgz_159 (by decide +kernel) rfl (c_251s5x σ725 h726 h739) (by decide) (by decide) (fun v764 σ765 h763 => ?_)
      obtain ⟨h766, h767, z769, rfl, h768⟩ := h763
      have h770 := h768.2.2
      obtain rfl : σ725 = σ765 := Fr_nil h767
      refine En_iEq _ rfl rfl (fun h771 => ?_) (fun h771 => ?_)
      · refine En_Ps 1 (pc' := 146) (lv' := [(0, .ref 159)]) (st' := [.ref 159]) rfl ?_
        refine En_ldcS (i := 1) rfl rfl rfl ?_
        refine En_callV rfl rfl rfl rfl rfl rfl rfl rfl tgz_159 (by decide +kernel) rfl (c_251s1x σ725 h726 h739) (by decide) (by decide) (fun v773 σ774 h772 => ?_)
        obtain ⟨h775, h776, z778, rfl, h777⟩ := h772
        have h779 := h777.2.2
        obtain rfl : σ725 = σ774 := Fr_nil h776
        refine En_iEq _ rfl rfl (fun h780 => ?_) (fun h780 => ?_)
        · obtain ⟨z782, h781, h783, h784⟩ := WT_peekI h726 tgz_165 (by decide +kernel : FT 41 (2 : Int).toNat = (0, 0, 4)) (by decide +kernel)
          obtain ⟨z786, h785, h787, h788⟩ := WT_peekI h726 tgz_165 (by decide +kernel : FT 41 (3 : Int).toNat = (0, 0, 12)) (by decide +kernel)
          obtain ⟨z790, h789, h791, h792⟩ := WT_peekI h726 tgz_165 (by decide +kernel : FT 41 (4 : Int).toNat = (0, 0, 4)) (by decide +kernel)
          obtain ⟨z794, h793, h795, h796⟩ := WT_peekI h726 tgz_165 (by decide +kernel : FT 41 (5 : Int).toNat = (0, 0, 6)) (by decide +kernel)
          exact keyj170 σ725 z782 z786 z790 z794 y728 y732 h726 h727 h781 (by first | exact q_58e6e51dcc h783 | omega) (by first | exact q_c82ed93a8c h784 | omega) h785 (by first | exact q_58e6e51dcc h787 | omega) (by first | exact q_7c77837619 h788 | omega) h789 (by first | exact q_58e6e51dcc h791 | omega) (by first | exact q_c82ed93a8c h792 | omega) h793 (by first | exact q_58e6e51dcc h795 | omega) (by first | exact q_615333d33f h796 | omega) h729 (by first | exact q_58e6e51dcc h730 | omega) (by first | exact q_da5e9b976f h731 | omega) h733 (by first | exact q_58e6e51dcc h734 | omega) (by first | exact q_246f9048f8 h735 | omega) (by omega) (fun _ => by have := Imp_m h737 (by omega); omega) (fun hh => by have := Imp_m h737 (by omega); have zz : (gN1 By Nb Sp).1 = 0 := (by omega); have j1 := Imp_m h741 zz; have j2 := Imp_m h742 zz; have j3 := Imp_m h743 zz; have j4 := Imp_m h744 zz; omega) (fun hh => by have := Imp_m h737 (by omega); have zz : (gN1 By Nb Sp).1 = 0 := (by omega); have j1 := Imp_m h741 zz; have j2 := Imp_m h742 zz; have j3 := Imp_m h743 zz; have j4 := Imp_m h744 zz; omega) (fun hh => by have := Imp_m h737 (by omega); have zz : (gN1 By Nb Sp).1 = 0 := (by omega); have j1 := Imp_m h741 zz; have j2 := Imp_m h742 zz; have j3 := Imp_m h743 zz; have j4 := Imp_m h744 zz; omega) (fun hh => by have := Imp_m h737 (by omega); have zz : (gN1 By Nb Sp).1 = 0 := (by omega); have j1 := Imp_m h741 zz; have j2 := Imp_m h742 zz; have j3 := Imp_m h743 zz; have j4 := Imp_m h744 zz; omega) (h738) (ML_eq h739 (gN2_neg (by omega)).symm)
        · refine En_Ps 1 (pc' := 155) (lv' := [(0, .ref 159)]) (st' := [.ref 159]) rfl ?_
          refine En_getU (j := 14) (u := 165) (g' := 41) (q := 0) rfl rfl rfl tgz_159 (by decide +kernel) h726 (by decide +kernel) (by decide +kernel) (fun h797 => ?_)
          refine En_Ps 1 (pc' := 159) (lv' := [(0, .ref 159)]) (st' := [.int ((Int32.ofInt 5)), .ref 165]) rfl ?_
          refine En_iald (l := 0) (u := 6) rfl (by decide : (Int32.ofInt 5).toInt = 5) tgz_165 (by decide +kernel) h726 (by decide) (lnI (by decide +kernel : LN _ = 226) (by decide)) (by decide +kernel) (fun z800 h799 h801 h802 => ?_)
          have h804 : (gN1 By Nb Sp).1 = 0 := iW_g (i := 1) (B := By) (n := Nb) (by omega)
          have h803 : (gN1 By Nb Sp).2.2.2 5 = z800.toInt := ML_wi h739 h804 h799 (by omega) (by omega) (by omega)
          refine En_Ps 1 (pc' := 162) (lv' := [(0, .ref 159)]) (st' := [.int (((Int8.ofInt 6).toInt32)), .int z800]) rfl ?_
          refine En_icNe _ rfl (by decide : ((Int8.ofInt 6).toInt32).toInt = 6) rfl (fun h805 => ?_) (fun h805 => ?_)
          · obtain ⟨z807, h806, h808, h809⟩ := WT_peekI h726 tgz_165 (by decide +kernel : FT 41 (2 : Int).toNat = (0, 0, 4)) (by decide +kernel)
            obtain ⟨z811, h810, h812, h813⟩ := WT_peekI h726 tgz_165 (by decide +kernel : FT 41 (3 : Int).toNat = (0, 0, 12)) (by decide +kernel)
            obtain ⟨z815, h814, h816, h817⟩ := WT_peekI h726 tgz_165 (by decide +kernel : FT 41 (4 : Int).toNat = (0, 0, 4)) (by decide +kernel)
            exact keyj170 σ725 z807 z811 z815 z800 y728 y732 h726 h727 h806 (by first | exact q_58e6e51dcc h808 | omega) (by first | exact q_c82ed93a8c h809 | omega) h810 (by first | exact q_58e6e51dcc h812 | omega) (by first | exact q_7c77837619 h813 | omega) h814 (by first | exact q_58e6e51dcc h816 | omega) (by first | exact q_c82ed93a8c h817 | omega) h799 (by first | exact q_58e6e51dcc h801 | omega) (by first | exact q_b7df4df08f h805 h802 | omega) h729 (by first | exact q_58e6e51dcc h730 | omega) (by first | exact q_da5e9b976f h731 | omega) h733 (by first | exact q_58e6e51dcc h734 | omega) (by first | exact q_246f9048f8 h735 | omega) (by omega) (fun _ => by have := Imp_m h737 (by omega); omega) (fun hh => by have := Imp_m h737 (by omega); have zz : (gN1 By Nb Sp).1 = 0 := (by omega); have j1 := Imp_m h741 zz; have j2 := Imp_m h742 zz; have j3 := Imp_m h743 zz; have j4 := Imp_m h744 zz; omega) (fun hh => by have := Imp_m h737 (by omega); have zz : (gN1 By Nb Sp).1 = 0 := (by omega); have j1 := Imp_m h741 zz; have j2 := Imp_m h742 zz; have j3 := Imp_m h743 zz; have j4 := Imp_m h744 zz; omega) (fun hh => by have := Imp_m h737 (by omega); have zz : (gN1 By Nb Sp).1 = 0 := (by omega); have j1 := Imp_m h741 zz; have j2 := Imp_m h742 zz; have j3 := Imp_m h743 zz; have j4 := Imp_m h744 zz; omega) (fun hh => by have zz : (gN1 By Nb Sp).1 = 0 := (by omega); have j1 := Imp_m h741 zz; have j2 := Imp_m h742 zz; have j3 := Imp_m h743 zz; have j4 := Imp_m h744 zz; omega) (h738) (ML_eq h739 (gN2_neg (by omega)).symm)
          · refine En_Ps 2 (pc' := 167) (lv' := [(0, .ref 159)]) (st' := [.int ((Int32.ofInt 3)), .ref 159]) rfl ?_
            have := (by decide : ((Int32.ofInt 3)).toInt = 3)
            refine En_callV rfl rfl rfl rfl rfl rfl rfl rfl tgz_159 (by decide +kernel) rfl (c_223x σ725 h726 ((Int32.ofInt 3)) (geI (by decide : (Int32.ofInt 3).toInt = 3) (by decide)) (leI (by decide : (Int32.ofInt 3).toInt = 3) (by decide)) y728 h729 h739) (by decide) (by decide) (fun v819 σ820 h818 => ?_)
            obtain ⟨h821, h822, z824, h825, rfl, h823⟩ := h818
            have h826 := h823.2.2.2.2
            have h827 := Fr_trans h727 h822 (by decide +kernel)
            have h828 := KF_fr h738 h822 (by decide +kernel)
            obtain ⟨S829, h830⟩ : ∃ q : PS, q = err By Nb 3 (gN1 By Nb Sp) := ⟨_, rfl⟩
            have h831 : ML By Nb σ820 S829 := by rw [h830]; exact (ML_eq h826 (err_cg (by omega)))
            have h832 := ML_k h831 h825
            have h833 : S829.2.2.2 = (gN1 By Nb Sp).2.2.2 := by rw [h830]; exact err_w
            obtain ⟨z835, h834, h836, h837⟩ := WT_peekI h821 tgz_165 (by decide +kernel : FT 41 (2 : Int).toNat = (0, 0, 4)) (by decide +kernel)
            obtain ⟨z839, h838, h840, h841⟩ := WT_peekI h821 tgz_165 (by decide +kernel : FT 41 (3 : Int).toNat = (0, 0, 12)) (by decide +kernel)
            obtain ⟨z843, h842, h844, h845⟩ := WT_peekI h821 tgz_165 (by decide +kernel : FT 41 (4 : Int).toNat = (0, 0, 4)) (by decide +kernel)
            exact keyj170 σ820 z835 z839 z843 z800 z824 y732 h821 h827 h834 (by first | exact q_58e6e51dcc h836 | omega) (by first | exact q_c82ed93a8c h837 | omega) h838 (by first | exact q_58e6e51dcc h840 | omega) (by first | exact q_7c77837619 h841 | omega) h842 (by first | exact q_58e6e51dcc h844 | omega) (by first | exact q_c82ed93a8c h845 | omega) ((h822 _ _ (inWa tgz_165 (by decide +kernel))).trans h799) (by first | exact q_b2cec3a713 h805 | omega) (by first | exact q_615333d33f h802 | omega) h825 (by first | exact q_996aa4c518 h823.1 | omega) (by first | exact q_87d9217d84 h823.2.1 | omega) ((h822 _ _ (inW tgz_159 (by decide +kernel))).trans h733) (by first | exact q_58e6e51dcc h734 | omega) (by first | exact q_246f9048f8 h735 | omega) (by omega) (fun _ => by have := Imp_m h737 (by omega); omega) (fun _ => by have := Imp_m h737 (by omega); omega) (fun _ => by have := Imp_m h737 (by omega); omega) (fun _ => by have := Imp_m h737 (by omega); omega) (fun _ => by have := Imp_m h737 (by omega); omega) (h828) (ML_eq h831 (by subst h830; exact (gN2_pos (by omega)).symm))
      · refine En_Ps 1 (pc' := 136) (lv' := [(0, .ref 159)]) (st' := [.ref 159]) rfl ?_
        refine En_getU (j := 14) (u := 165) (g' := 41) (q := 0) rfl rfl rfl tgz_159 (by decide +kernel) h726 (by decide +kernel) (by decide +kernel) (fun h846 => ?_)
        refine En_Ps 1 (pc' := 140) (lv' := [(0, .ref 159)]) (st' := [.int ((Int32.ofInt 4)), .ref 165]) rfl ?_
        refine En_iald (l := 0) (u := 4) rfl (by decide : (Int32.ofInt 4).toInt = 4) tgz_165 (by decide +kernel) h726 (by decide) (lnI (by decide +kernel : LN _ = 226) (by decide)) (by decide +kernel) (fun z849 h848 h850 h851 => ?_)
        have h853 : (gN1 By Nb Sp).1 = 0 := iW_g (i := 5) (B := By) (n := Nb) (by omega)
        have h852 : (gN1 By Nb Sp).2.2.2 4 = z849.toInt := ML_wi h739 h853 h848 (by omega) (by omega) (by omega)
        refine En_Ps 1 (pc' := 142) (lv' := [(0, .ref 159)]) (st' := [.int ((Int32.ofInt 4)), .int z849]) rfl ?_
        refine En_icEq _ rfl (by decide : (Int32.ofInt 4).toInt = 4) rfl (fun h854 => ?_) (fun h854 => ?_)
        · refine En_Ps 2 (pc' := 167) (lv' := [(0, .ref 159)]) (st' := [.int ((Int32.ofInt 3)), .ref 159]) rfl ?_
          have := (by decide : ((Int32.ofInt 3)).toInt = 3)
          refine En_callV rfl rfl rfl rfl rfl rfl rfl rfl tgz_159 (by decide +kernel) rfl (c_223x σ725 h726 ((Int32.ofInt 3)) (geI (by decide : (Int32.ofInt 3).toInt = 3) (by decide)) (leI (by decide : (Int32.ofInt 3).toInt = 3) (by decide)) y728 h729 h739) (by decide) (by decide) (fun v856 σ857 h855 => ?_)
          obtain ⟨h858, h859, z861, h862, rfl, h860⟩ := h855
          have h863 := h860.2.2.2.2
          have h864 := Fr_trans h727 h859 (by decide +kernel)
          have h865 := KF_fr h738 h859 (by decide +kernel)
          obtain ⟨S866, h867⟩ : ∃ q : PS, q = err By Nb 3 (gN1 By Nb Sp) := ⟨_, rfl⟩
          have h868 : ML By Nb σ857 S866 := by rw [h867]; exact (ML_eq h863 (err_cg (by omega)))
          have h869 := ML_k h868 h862
          have h870 : S866.2.2.2 = (gN1 By Nb Sp).2.2.2 := by rw [h867]; exact err_w
          obtain ⟨z872, h871, h873, h874⟩ := WT_peekI h858 tgz_165 (by decide +kernel : FT 41 (2 : Int).toNat = (0, 0, 4)) (by decide +kernel)
          obtain ⟨z876, h875, h877, h878⟩ := WT_peekI h858 tgz_165 (by decide +kernel : FT 41 (3 : Int).toNat = (0, 0, 12)) (by decide +kernel)
          obtain ⟨z880, h879, h881, h882⟩ := WT_peekI h858 tgz_165 (by decide +kernel : FT 41 (5 : Int).toNat = (0, 0, 6)) (by decide +kernel)
          exact keyj170 σ857 z872 z876 z849 z880 z861 y732 h858 h864 h871 (by first | exact q_58e6e51dcc h873 | omega) (by first | exact q_c82ed93a8c h874 | omega) h875 (by first | exact q_58e6e51dcc h877 | omega) (by first | exact q_7c77837619 h878 | omega) ((h859 _ _ (inWa tgz_165 (by decide +kernel))).trans h848) (by first | exact q_8aa6573b50 h854 | omega) (by first | exact q_c82ed93a8c h851 | omega) h879 (by first | exact q_58e6e51dcc h881 | omega) (by first | exact q_615333d33f h882 | omega) h862 (by first | exact q_996aa4c518 h860.1 | omega) (by first | exact q_87d9217d84 h860.2.1 | omega) ((h859 _ _ (inW tgz_159 (by decide +kernel))).trans h733) (by first | exact q_58e6e51dcc h734 | omega) (by first | exact q_246f9048f8 h735 | omega) (by omega) (fun _ => by have := Imp_m h737 (by omega); omega) (fun _ => by have := Imp_m h737 (by omega); omega) (fun _ => by have := Imp_m h737 (by omega); omega) (fun _ => by have := Imp_m h737 (by omega); omega) (fun _ => by have := Imp_m h737 (by omega); omega) (h865) (ML_eq h868 (by subst h867; exact (gN2_pos (by omega)).symm))
        · refine En_Ps 1 (pc' := 146) (lv' := [(0, .ref 159)]) (st' := [.ref 159]) rfl ?_
          refine En_ldcS (i := 1) rfl rfl rfl ?_
          refine En_callV rfl rfl rfl rfl rfl rfl rfl rfl tgz_159 (by decide +kernel) rfl (c_251s1x σ725 h726 h739) (by decide) (by decide) (fun v884 σ885 h883 => ?_)
          obtain ⟨h886, h887, z889, rfl, h888⟩ := h883
          have h890 := h888.2.2
          obtain rfl : σ725 = σ885 := Fr_nil h887
          refine En_iEq _ rfl rfl (fun h891 => ?_) (fun h891 => ?_)
          · obtain ⟨z893, h892, h894, h895⟩ := WT_peekI h726 tgz_165 (by decide +kernel : FT 41 (2 : Int).toNat = (0, 0, 4)) (by decide +kernel)
            obtain ⟨z897, h896, h898, h899⟩ := WT_peekI h726 tgz_165 (by decide +kernel : FT 41 (3 : Int).toNat = (0, 0, 12)) (by decide +kernel)
            obtain ⟨z901, h900, h902, h903⟩ := WT_peekI h726 tgz_165 (by decide +kernel : FT 41 (5 : Int).toNat = (0, 0, 6)) (by decide +kernel)
            exact keyj170 σ725 z893 z897 z849 z901 y728 y732 h726 h727 h892 (by first | exact q_58e6e51dcc h894 | omega) (by first | exact q_c82ed93a8c h895 | omega) h896 (by first | exact q_58e6e51dcc h898 | omega) (by first | exact q_7c77837619 h899 | omega) h848 (by first | exact q_58e6e51dcc h850 | omega) (by first | exact q_4b59c54ff8 h854 h851 | omega) h900 (by first | exact q_58e6e51dcc h902 | omega) (by first | exact q_615333d33f h903 | omega) h729 (by first | exact q_58e6e51dcc h730 | omega) (by first | exact q_da5e9b976f h731 | omega) h733 (by first | exact q_58e6e51dcc h734 | omega) (by first | exact q_246f9048f8 h735 | omega) (by omega) (fun _ => by have := Imp_m h737 (by omega); omega) (fun hh => by have := Imp_m h737 (by omega); have zz : (gN1 By Nb Sp).1 = 0 := (by omega); have j1 := Imp_m h741 zz; have j2 := Imp_m h742 zz; have j3 := Imp_m h743 zz; have j4 := Imp_m h744 zz; omega) (fun hh => by have := Imp_m h737 (by omega); have zz : (gN1 By Nb Sp).1 = 0 := (by omega); have j1 := Imp_m h741 zz; have j2 := Imp_m h742 zz; have j3 := Imp_m h743 zz; have j4 := Imp_m h744 zz; omega) (fun hh => by have zz : (gN1 By Nb Sp).1 = 0 := (by omega); have j1 := Imp_m h741 zz; have j2 := Imp_m h742 zz; have j3 := Imp_m h743 zz; have j4 := Imp_m h744 zz; omega) (fun hh => by have := Imp_m h737 (by omega); have zz : (gN1 By Nb Sp).1 = 0 := (by omega); have j1 := Imp_m h741 zz; have j2 := Imp_m h742 zz; have j3 := Imp_m h743 zz; have j4 := Imp_m h744 zz; omega) (h738) (ML_eq h739 (gN2_neg (by omega)).symm)
          · refine En_Ps 1 (pc' := 155) (lv' := [(0, .ref 159)]) (st' := [.ref 159]) rfl ?_
            refine En_getK (j := 14) h846 rfl rfl rfl tgz_159 (by decide +kernel) ?_
            refine En_Ps 1 (pc' := 159) (lv' := [(0, .ref 159)]) (st' := [.int ((Int32.ofInt 5)), .ref 165]) rfl ?_
            refine En_iald (l := 0) (u := 6) rfl (by decide : (Int32.ofInt 5).toInt = 5) tgz_165 (by decide +kernel) h726 (by decide) (lnI (by decide +kernel : LN _ = 226) (by decide)) (by decide +kernel) (fun z905 h904 h906 h907 => ?_)
            have h909 : (gN1 By Nb Sp).1 = 0 := iW_g (i := 1) (B := By) (n := Nb) (by omega)
            have h908 : (gN1 By Nb Sp).2.2.2 5 = z905.toInt := ML_wi h739 h909 h904 (by omega) (by omega) (by omega)
            refine En_Ps 1 (pc' := 162) (lv' := [(0, .ref 159)]) (st' := [.int (((Int8.ofInt 6).toInt32)), .int z905]) rfl ?_
            refine En_icNe _ rfl (by decide : ((Int8.ofInt 6).toInt32).toInt = 6) rfl (fun h910 => ?_) (fun h910 => ?_)
            · obtain ⟨z912, h911, h913, h914⟩ := WT_peekI h726 tgz_165 (by decide +kernel : FT 41 (2 : Int).toNat = (0, 0, 4)) (by decide +kernel)
              obtain ⟨z916, h915, h917, h918⟩ := WT_peekI h726 tgz_165 (by decide +kernel : FT 41 (3 : Int).toNat = (0, 0, 12)) (by decide +kernel)
              exact keyj170 σ725 z912 z916 z849 z905 y728 y732 h726 h727 h911 (by first | exact q_58e6e51dcc h913 | omega) (by first | exact q_c82ed93a8c h914 | omega) h915 (by first | exact q_58e6e51dcc h917 | omega) (by first | exact q_7c77837619 h918 | omega) h848 (by first | exact q_58e6e51dcc h850 | omega) (by first | exact q_4b59c54ff8 h854 h851 | omega) h904 (by first | exact q_58e6e51dcc h906 | omega) (by first | exact q_b7df4df08f h910 h907 | omega) h729 (by first | exact q_58e6e51dcc h730 | omega) (by first | exact q_da5e9b976f h731 | omega) h733 (by first | exact q_58e6e51dcc h734 | omega) (by first | exact q_246f9048f8 h735 | omega) (by omega) (fun _ => by have := Imp_m h737 (by omega); omega) (fun hh => by have := Imp_m h737 (by omega); have zz : (gN1 By Nb Sp).1 = 0 := (by omega); have j1 := Imp_m h741 zz; have j2 := Imp_m h742 zz; have j3 := Imp_m h743 zz; have j4 := Imp_m h744 zz; omega) (fun hh => by have := Imp_m h737 (by omega); have zz : (gN1 By Nb Sp).1 = 0 := (by omega); have j1 := Imp_m h741 zz; have j2 := Imp_m h742 zz; have j3 := Imp_m h743 zz; have j4 := Imp_m h744 zz; omega) (fun hh => by have zz : (gN1 By Nb Sp).1 = 0 := (by omega); have j1 := Imp_m h741 zz; have j2 := Imp_m h742 zz; have j3 := Imp_m h743 zz; have j4 := Imp_m h744 zz; omega) (fun hh => by have zz : (gN1 By Nb Sp).1 = 0 := (by omega); have j1 := Imp_m h741 zz; have j2 := Imp_m h742 zz; have j3 := Imp_m h743 zz; have j4 := Imp_m h744 zz; omega) (h738) (ML_eq h739 (gN2_neg (by omega)).symm)
            · refine En_Ps 2 (pc' := 167) (lv' := [(0, .ref 159)]) (st' := [.int ((Int32.ofInt 3)), .ref 159]) rfl ?_
              have := (by decide : ((Int32.ofInt 3)).toInt = 3)
              refine En_callV rfl rfl rfl rfl rfl rfl rfl rfl tgz_159 (by decide +kernel) rfl (c_223x σ725 h726 ((Int32.ofInt 3)) (geI (by decide : (Int32.ofInt 3).toInt = 3) (by decide)) (leI (by decide : (Int32.ofInt 3).toInt = 3) (by decide)) y728 h729 h739) (by decide) (by decide) (fun v920 σ921 h919 => ?_)
              obtain ⟨h922, h923, z925, h926, rfl, h924⟩ := h919
              have h927 := h924.2.2.2.2
              have h928 := Fr_trans h727 h923 (by decide +kernel)
              have h929 := KF_fr h738 h923 (by decide +kernel)
              obtain ⟨S930, h931⟩ : ∃ q : PS, q = err By Nb 3 (gN1 By Nb Sp) := ⟨_, rfl⟩
              have h932 : ML By Nb σ921 S930 := by rw [h931]; exact (ML_eq h927 (err_cg (by omega)))
              have h933 := ML_k h932 h926
              have h934 : S930.2.2.2 = (gN1 By Nb Sp).2.2.2 := by rw [h931]; exact err_w
              obtain ⟨z936, h935, h937, h938⟩ := WT_peekI h922 tgz_165 (by decide +kernel : FT 41 (2 : Int).toNat = (0, 0, 4)) (by decide +kernel)
              obtain ⟨z940, h939, h941, h942⟩ := WT_peekI h922 tgz_165 (by decide +kernel : FT 41 (3 : Int).toNat = (0, 0, 12)) (by decide +kernel)
              exact keyj170 σ921 z936 z940 z849 z905 z925 y732 h922 h928 h935 (by first | exact q_58e6e51dcc h937 | omega) (by first | exact q_c82ed93a8c h938 | omega) h939 (by first | exact q_58e6e51dcc h941 | omega) (by first | exact q_7c77837619 h942 | omega) ((h923 _ _ (inWa tgz_165 (by decide +kernel))).trans h848) (by first | exact q_58e6e51dcc h850 | omega) (by first | exact q_4b59c54ff8 h854 h851 | omega) ((h923 _ _ (inWa tgz_165 (by decide +kernel))).trans h904) (by first | exact q_b2cec3a713 h910 | omega) (by first | exact q_615333d33f h907 | omega) h926 (by first | exact q_996aa4c518 h924.1 | omega) (by first | exact q_87d9217d84 h924.2.1 | omega) ((h923 _ _ (inW tgz_159 (by decide +kernel))).trans h733) (by first | exact q_58e6e51dcc h734 | omega) (by first | exact q_246f9048f8 h735 | omega) (by omega) (fun _ => by have := Imp_m h737 (by omega); omega) (fun _ => by have := Imp_m h737 (by omega); omega) (fun _ => by have := Imp_m h737 (by omega); omega) (fun _ => by omega) (fun _ => by have := Imp_m h737 (by omega); omega) (h929) (ML_eq h932 (by subst h931; exact (gN2_pos (by omega)).symm))
    · refine En_Ps 1 (pc' := 116) (lv' := [(0, .ref 159)]) (st' := [.ref 159]) rfl ?_
      refine En_getU (j := 14) (u := 165) (g' := 41) (q := 0) rfl rfl rfl tgz_159 (by decide +kernel) h726 (by decide +kernel) (by decide +kernel) (fun h943 => ?_)
      refine En_Ps 1 (pc' := 120) (lv' := [(0, .ref 159)]) (st' := [.int ((Int32.ofInt 3)), .ref 165]) rfl ?_
      refine En_iald (l := 0) (u := 12) rfl (by decide : (Int32.ofInt 3).toInt = 3) tgz_165 (by decide +kernel) h726 (by decide) (lnI (by decide +kernel : LN _ = 226) (by decide)) (by decide +kernel) (fun z946 h945 h947 h948 => ?_)
      have h950 : (gN1 By Nb Sp).1 = 0 := iW_g (i := 3) (B := By) (n := Nb) (by omega)
      have h949 : (gN1 By Nb Sp).2.2.2 3 = z946.toInt := ML_wi h739 h950 h945 (by omega) (by omega) (by omega)
      refine En_Ps 1 (pc' := 123) (lv' := [(0, .ref 159)]) (st' := [.int (((Int8.ofInt 12).toInt32)), .int z946]) rfl ?_
      refine En_icEq _ rfl (by decide : ((Int8.ofInt 12).toInt32).toInt = 12) rfl (fun h951 => ?_) (fun h951 => ?_)
      · refine En_Ps 2 (pc' := 167) (lv' := [(0, .ref 159)]) (st' := [.int ((Int32.ofInt 3)), .ref 159]) rfl ?_
        have := (by decide : ((Int32.ofInt 3)).toInt = 3)
        refine En_callV rfl rfl rfl rfl rfl rfl rfl rfl tgz_159 (by decide +kernel) rfl (c_223x σ725 h726 ((Int32.ofInt 3)) (geI (by decide : (Int32.ofInt 3).toInt = 3) (by decide)) (leI (by decide : (Int32.ofInt 3).toInt = 3) (by decide)) y728 h729 h739) (by decide) (by decide) (fun v953 σ954 h952 => ?_)
        obtain ⟨h955, h956, z958, h959, rfl, h957⟩ := h952
        have h960 := h957.2.2.2.2
        have h961 := Fr_trans h727 h956 (by decide +kernel)
        have h962 := KF_fr h738 h956 (by decide +kernel)
        obtain ⟨S963, h964⟩ : ∃ q : PS, q = err By Nb 3 (gN1 By Nb Sp) := ⟨_, rfl⟩
        have h965 : ML By Nb σ954 S963 := by rw [h964]; exact (ML_eq h960 (err_cg (by omega)))
        have h966 := ML_k h965 h959
        have h967 : S963.2.2.2 = (gN1 By Nb Sp).2.2.2 := by rw [h964]; exact err_w
        obtain ⟨z969, h968, h970, h971⟩ := WT_peekI h955 tgz_165 (by decide +kernel : FT 41 (2 : Int).toNat = (0, 0, 4)) (by decide +kernel)
        obtain ⟨z973, h972, h974, h975⟩ := WT_peekI h955 tgz_165 (by decide +kernel : FT 41 (4 : Int).toNat = (0, 0, 4)) (by decide +kernel)
        obtain ⟨z977, h976, h978, h979⟩ := WT_peekI h955 tgz_165 (by decide +kernel : FT 41 (5 : Int).toNat = (0, 0, 6)) (by decide +kernel)
        exact keyj170 σ954 z969 z946 z973 z977 z958 y732 h955 h961 h968 (by first | exact q_58e6e51dcc h970 | omega) (by first | exact q_c82ed93a8c h971 | omega) ((h956 _ _ (inWa tgz_165 (by decide +kernel))).trans h945) (by first | exact q_c921150b37 h951 | omega) (by first | exact q_7c77837619 h948 | omega) h972 (by first | exact q_58e6e51dcc h974 | omega) (by first | exact q_c82ed93a8c h975 | omega) h976 (by first | exact q_58e6e51dcc h978 | omega) (by first | exact q_615333d33f h979 | omega) h959 (by first | exact q_996aa4c518 h957.1 | omega) (by first | exact q_87d9217d84 h957.2.1 | omega) ((h956 _ _ (inW tgz_159 (by decide +kernel))).trans h733) (by first | exact q_58e6e51dcc h734 | omega) (by first | exact q_246f9048f8 h735 | omega) (by omega) (fun _ => by have := Imp_m h737 (by omega); omega) (fun _ => by have := Imp_m h737 (by omega); omega) (fun _ => by have := Imp_m h737 (by omega); omega) (fun _ => by have := Imp_m h737 (by omega); omega) (fun _ => by have := Imp_m h737 (by omega); omega) (h962) (ML_eq h965 (by subst h964; exact (gN2_pos (by omega)).symm))
      · refine En_Ps 1 (pc' := 127) (lv' := [(0, .ref 159)]) (st' := [.ref 159]) rfl ?_
        refine En_ldcS (i := 5) rfl rfl rfl ?_
        refine En_callV rfl rfl rfl rfl rfl rfl rfl rfl tgz_159 (by decide +kernel) rfl (c_251s5x σ725 h726 h739) (by decide) (by decide) (fun v981 σ982 h980 => ?_)
        obtain ⟨h983, h984, z986, rfl, h985⟩ := h980
        have h987 := h985.2.2
        obtain rfl : σ725 = σ982 := Fr_nil h984
        refine En_iEq _ rfl rfl (fun h988 => ?_) (fun h988 => ?_)
        · refine En_Ps 1 (pc' := 146) (lv' := [(0, .ref 159)]) (st' := [.ref 159]) rfl ?_
          refine En_ldcS (i := 1) rfl rfl rfl ?_
          refine En_callV rfl rfl rfl rfl rfl rfl rfl rfl tgz_159 (by decide +kernel) rfl (c_251s1x σ725 h726 h739) (by decide) (by decide) (fun v990 σ991 h989 => ?_)
          obtain ⟨h992, h993, z995, rfl, h994⟩ := h989
          have h996 := h994.2.2
          obtain rfl : σ725 = σ991 := Fr_nil h993
          refine En_iEq _ rfl rfl (fun h997 => ?_) (fun h997 => ?_)
          · obtain ⟨z999, h998, h1000, h1001⟩ := WT_peekI h726 tgz_165 (by decide +kernel : FT 41 (2 : Int).toNat = (0, 0, 4)) (by decide +kernel)
            obtain ⟨z1003, h1002, h1004, h1005⟩ := WT_peekI h726 tgz_165 (by decide +kernel : FT 41 (4 : Int).toNat = (0, 0, 4)) (by decide +kernel)
            obtain ⟨z1007, h1006, h1008, h1009⟩ := WT_peekI h726 tgz_165 (by decide +kernel : FT 41 (5 : Int).toNat = (0, 0, 6)) (by decide +kernel)
            exact keyj170 σ725 z999 z946 z1003 z1007 y728 y732 h726 h727 h998 (by first | exact q_58e6e51dcc h1000 | omega) (by first | exact q_c82ed93a8c h1001 | omega) h945 (by first | exact q_58e6e51dcc h947 | omega) (by first | exact q_f080a0e48d h951 h948 | omega) h1002 (by first | exact q_58e6e51dcc h1004 | omega) (by first | exact q_c82ed93a8c h1005 | omega) h1006 (by first | exact q_58e6e51dcc h1008 | omega) (by first | exact q_615333d33f h1009 | omega) h729 (by first | exact q_58e6e51dcc h730 | omega) (by first | exact q_da5e9b976f h731 | omega) h733 (by first | exact q_58e6e51dcc h734 | omega) (by first | exact q_246f9048f8 h735 | omega) (by omega) (fun _ => by have := Imp_m h737 (by omega); omega) (fun hh => by have := Imp_m h737 (by omega); have zz : (gN1 By Nb Sp).1 = 0 := (by omega); have j1 := Imp_m h741 zz; have j2 := Imp_m h742 zz; have j3 := Imp_m h743 zz; have j4 := Imp_m h744 zz; omega) (fun hh => by have zz : (gN1 By Nb Sp).1 = 0 := (by omega); have j1 := Imp_m h741 zz; have j2 := Imp_m h742 zz; have j3 := Imp_m h743 zz; have j4 := Imp_m h744 zz; omega) (fun hh => by have := Imp_m h737 (by omega); have zz : (gN1 By Nb Sp).1 = 0 := (by omega); have j1 := Imp_m h741 zz; have j2 := Imp_m h742 zz; have j3 := Imp_m h743 zz; have j4 := Imp_m h744 zz; omega) (fun hh => by have := Imp_m h737 (by omega); have zz : (gN1 By Nb Sp).1 = 0 := (by omega); have j1 := Imp_m h741 zz; have j2 := Imp_m h742 zz; have j3 := Imp_m h743 zz; have j4 := Imp_m h744 zz; omega) (h738) (ML_eq h739 (gN2_neg (by omega)).symm)
          · refine En_Ps 1 (pc' := 155) (lv' := [(0, .ref 159)]) (st' := [.ref 159]) rfl ?_
            refine En_getK (j := 14) h943 rfl rfl rfl tgz_159 (by decide +kernel) ?_
            refine En_Ps 1 (pc' := 159) (lv' := [(0, .ref 159)]) (st' := [.int ((Int32.ofInt 5)), .ref 165]) rfl ?_
            refine En_iald (l := 0) (u := 6) rfl (by decide : (Int32.ofInt 5).toInt = 5) tgz_165 (by decide +kernel) h726 (by decide) (lnI (by decide +kernel : LN _ = 226) (by decide)) (by decide +kernel) (fun z1011 h1010 h1012 h1013 => ?_)
            have h1015 : (gN1 By Nb Sp).1 = 0 := iW_g (i := 1) (B := By) (n := Nb) (by omega)
            have h1014 : (gN1 By Nb Sp).2.2.2 5 = z1011.toInt := ML_wi h739 h1015 h1010 (by omega) (by omega) (by omega)
            refine En_Ps 1 (pc' := 162) (lv' := [(0, .ref 159)]) (st' := [.int (((Int8.ofInt 6).toInt32)), .int z1011]) rfl ?_
            refine En_icNe _ rfl (by decide : ((Int8.ofInt 6).toInt32).toInt = 6) rfl (fun h1016 => ?_) (fun h1016 => ?_)
            · obtain ⟨z1018, h1017, h1019, h1020⟩ := WT_peekI h726 tgz_165 (by decide +kernel : FT 41 (2 : Int).toNat = (0, 0, 4)) (by decide +kernel)
              obtain ⟨z1022, h1021, h1023, h1024⟩ := WT_peekI h726 tgz_165 (by decide +kernel : FT 41 (4 : Int).toNat = (0, 0, 4)) (by decide +kernel)
              exact keyj170 σ725 z1018 z946 z1022 z1011 y728 y732 h726 h727 h1017 (by first | exact q_58e6e51dcc h1019 | omega) (by first | exact q_c82ed93a8c h1020 | omega) h945 (by first | exact q_58e6e51dcc h947 | omega) (by first | exact q_f080a0e48d h951 h948 | omega) h1021 (by first | exact q_58e6e51dcc h1023 | omega) (by first | exact q_c82ed93a8c h1024 | omega) h1010 (by first | exact q_58e6e51dcc h1012 | omega) (by first | exact q_b7df4df08f h1016 h1013 | omega) h729 (by first | exact q_58e6e51dcc h730 | omega) (by first | exact q_da5e9b976f h731 | omega) h733 (by first | exact q_58e6e51dcc h734 | omega) (by first | exact q_246f9048f8 h735 | omega) (by omega) (fun _ => by have := Imp_m h737 (by omega); omega) (fun hh => by have := Imp_m h737 (by omega); have zz : (gN1 By Nb Sp).1 = 0 := (by omega); have j1 := Imp_m h741 zz; have j2 := Imp_m h742 zz; have j3 := Imp_m h743 zz; have j4 := Imp_m h744 zz; omega) (fun hh => by have zz : (gN1 By Nb Sp).1 = 0 := (by omega); have j1 := Imp_m h741 zz; have j2 := Imp_m h742 zz; have j3 := Imp_m h743 zz; have j4 := Imp_m h744 zz; omega) (fun hh => by have := Imp_m h737 (by omega); have zz : (gN1 By Nb Sp).1 = 0 := (by omega); have j1 := Imp_m h741 zz; have j2 := Imp_m h742 zz; have j3 := Imp_m h743 zz; have j4 := Imp_m h744 zz; omega) (fun hh => by have zz : (gN1 By Nb Sp).1 = 0 := (by omega); have j1 := Imp_m h741 zz; have j2 := Imp_m h742 zz; have j3 := Imp_m h743 zz; have j4 := Imp_m h744 zz; omega) (h738) (ML_eq h739 (gN2_neg (by omega)).symm)
            · refine En_Ps 2 (pc' := 167) (lv' := [(0, .ref 159)]) (st' := [.int ((Int32.ofInt 3)), .ref 159]) rfl ?_
              have := (by decide : ((Int32.ofInt 3)).toInt = 3)
              refine En_callV rfl rfl rfl rfl rfl rfl rfl rfl tgz_159 (by decide +kernel) rfl (c_223x σ725 h726 ((Int32.ofInt 3)) (geI (by decide : (Int32.ofInt 3).toInt = 3) (by decide)) (leI (by decide : (Int32.ofInt 3).toInt = 3) (by decide)) y728 h729 h739) (by decide) (by decide) (fun v1026 σ1027 h1025 => ?_)
              obtain ⟨h1028, h1029, z1031, h1032, rfl, h1030⟩ := h1025
              have h1033 := h1030.2.2.2.2
              have h1034 := Fr_trans h727 h1029 (by decide +kernel)
              have h1035 := KF_fr h738 h1029 (by decide +kernel)
              obtain ⟨S1036, h1037⟩ : ∃ q : PS, q = err By Nb 3 (gN1 By Nb Sp) := ⟨_, rfl⟩
              have h1038 : ML By Nb σ1027 S1036 := by rw [h1037]; exact (ML_eq h1033 (err_cg (by omega)))
              have h1039 := ML_k h1038 h1032
              have h1040 : S1036.2.2.2 = (gN1 By Nb Sp).2.2.2 := by rw [h1037]; exact err_w
              obtain ⟨z1042, h1041, h1043, h1044⟩ := WT_peekI h1028 tgz_165 (by decide +kernel : FT 41 (2 : Int).toNat = (0, 0, 4)) (by decide +kernel)
              obtain ⟨z1046, h1045, h1047, h1048⟩ := WT_peekI h1028 tgz_165 (by decide +kernel : FT 41 (4 : Int).toNat = (0, 0, 4)) (by decide +kernel)
              exact keyj170 σ1027 z1042 z946 z1046 z1011 z1031 y732 h1028 h1034 h1041 (by first | exact q_58e6e51dcc h1043 | omega) (by first | exact q_c82ed93a8c h1044 | omega) ((h1029 _ _ (inWa tgz_165 (by decide +kernel))).trans h945) (by first | exact q_58e6e51dcc h947 | omega) (by first | exact q_f080a0e48d h951 h948 | omega) h1045 (by first | exact q_58e6e51dcc h1047 | omega) (by first | exact q_c82ed93a8c h1048 | omega) ((h1029 _ _ (inWa tgz_165 (by decide +kernel))).trans h1010) (by first | exact q_b2cec3a713 h1016 | omega) (by first | exact q_615333d33f h1013 | omega) h1032 (by first | exact q_996aa4c518 h1030.1 | omega) (by first | exact q_87d9217d84 h1030.2.1 | omega) ((h1029 _ _ (inW tgz_159 (by decide +kernel))).trans h733) (by first | exact q_58e6e51dcc h734 | omega) (by first | exact q_246f9048f8 h735 | omega) (by omega) (fun _ => by have := Imp_m h737 (by omega); omega) (fun _ => by have := Imp_m h737 (by omega); omega) (fun _ => by omega) (fun _ => by have := Imp_m h737 (by omega); omega) (fun _ => by have := Imp_m h737 (by omega); omega) (h1035) (ML_eq h1038 (by subst h1037; exact (gN2_pos (by omega)).symm))
        · refine En_Ps 1 (pc' := 136) (lv' := [(0, .ref 159)]) (st' := [.ref 159]) rfl ?_
          refine En_getK (j := 14) h943 rfl rfl rfl tgz_159 (by decide +kernel) ?_
          refine En_Ps 1 (pc' := 140) (lv' := [(0, .ref 159)]) (st' := [.int ((Int32.ofInt 4)), .ref 165]) rfl ?_
          refine En_iald (l := 0) (u := 4) rfl (by decide : (Int32.ofInt 4).toInt = 4) tgz_165 (by decide +kernel) h726 (by decide) (lnI (by decide +kernel : LN _ = 226) (by decide)) (by decide +kernel) (fun z1050 h1049 h1051 h1052 => ?_)
          have h1054 : (gN1 By Nb Sp).1 = 0 := iW_g (i := 5) (B := By) (n := Nb) (by omega)
          have h1053 : (gN1 By Nb Sp).2.2.2 4 = z1050.toInt := ML_wi h739 h1054 h1049 (by omega) (by omega) (by omega)
          refine En_Ps 1 (pc' := 142) (lv' := [(0, .ref 159)]) (st' := [.int ((Int32.ofInt 4)), .int z1050]) rfl ?_
          refine En_icEq _ rfl (by decide : (Int32.ofInt 4).toInt = 4) rfl (fun h1055 => ?_) (fun h1055 => ?_)
          · refine En_Ps 2 (pc' := 167) (lv' := [(0, .ref 159)]) (st' := [.int ((Int32.ofInt 3)), .ref 159]) rfl ?_
            have := (by decide : ((Int32.ofInt 3)).toInt = 3)
            refine En_callV rfl rfl rfl rfl rfl rfl rfl rfl tgz_159 (by decide +kernel) rfl (c_223x σ725 h726 ((Int32.ofInt 3)) (geI (by decide : (Int32.ofInt 3).toInt = 3) (by decide)) (leI (by decide : (Int32.ofInt 3).toInt = 3) (by decide)) y728 h729 h739) (by decide) (by decide) (fun v1057 σ1058 h1056 => ?_)
            obtain ⟨h1059, h1060, z1062, h1063, rfl, h1061⟩ := h1056
            have h1064 := h1061.2.2.2.2
            have h1065 := Fr_trans h727 h1060 (by decide +kernel)
            have h1066 := KF_fr h738 h1060 (by decide +kernel)
            obtain ⟨S1067, h1068⟩ : ∃ q : PS, q = err By Nb 3 (gN1 By Nb Sp) := ⟨_, rfl⟩
            have h1069 : ML By Nb σ1058 S1067 := by rw [h1068]; exact (ML_eq h1064 (err_cg (by omega)))
            have h1070 := ML_k h1069 h1063
            have h1071 : S1067.2.2.2 = (gN1 By Nb Sp).2.2.2 := by rw [h1068]; exact err_w
            obtain ⟨z1073, h1072, h1074, h1075⟩ := WT_peekI h1059 tgz_165 (by decide +kernel : FT 41 (2 : Int).toNat = (0, 0, 4)) (by decide +kernel)
            obtain ⟨z1077, h1076, h1078, h1079⟩ := WT_peekI h1059 tgz_165 (by decide +kernel : FT 41 (5 : Int).toNat = (0, 0, 6)) (by decide +kernel)
            exact keyj170 σ1058 z1073 z946 z1050 z1077 z1062 y732 h1059 h1065 h1072 (by first | exact q_58e6e51dcc h1074 | omega) (by first | exact q_c82ed93a8c h1075 | omega) ((h1060 _ _ (inWa tgz_165 (by decide +kernel))).trans h945) (by first | exact q_58e6e51dcc h947 | omega) (by first | exact q_f080a0e48d h951 h948 | omega) ((h1060 _ _ (inWa tgz_165 (by decide +kernel))).trans h1049) (by first | exact q_8aa6573b50 h1055 | omega) (by first | exact q_c82ed93a8c h1052 | omega) h1076 (by first | exact q_58e6e51dcc h1078 | omega) (by first | exact q_615333d33f h1079 | omega) h1063 (by first | exact q_996aa4c518 h1061.1 | omega) (by first | exact q_87d9217d84 h1061.2.1 | omega) ((h1060 _ _ (inW tgz_159 (by decide +kernel))).trans h733) (by first | exact q_58e6e51dcc h734 | omega) (by first | exact q_246f9048f8 h735 | omega) (by omega) (fun _ => by have := Imp_m h737 (by omega); omega) (fun _ => by have := Imp_m h737 (by omega); omega) (fun _ => by omega) (fun _ => by have := Imp_m h737 (by omega); omega) (fun _ => by have := Imp_m h737 (by omega); omega) (h1066) (ML_eq h1069 (by subst h1068; exact (gN2_pos (by omega)).symm))
          · refine En_Ps 1 (pc' := 146) (lv' := [(0, .ref 159)]) (st' := [.ref 159]) rfl ?_
            refine En_ldcS (i := 1) rfl rfl rfl ?_
            refine En_callV rfl rfl rfl rfl rfl rfl rfl rfl tgz_159 (by decide +kernel) rfl (c_251s1x σ725 h726 h739) (by decide) (by decide) (fun v1081 σ1082 h1080 => ?_)
            obtain ⟨h1083, h1084, z1086, rfl, h1085⟩ := h1080
            have h1087 := h1085.2.2
            obtain rfl : σ725 = σ1082 := Fr_nil h1084
            refine En_iEq _ rfl rfl (fun h1088 => ?_) (fun h1088 => ?_)
            · obtain ⟨z1090, h1089, h1091, h1092⟩ := WT_peekI h726 tgz_165 (by decide +kernel : FT 41 (2 : Int).toNat = (0, 0, 4)) (by decide +kernel)
              obtain ⟨z1094, h1093, h1095, h1096⟩ := WT_peekI h726 tgz_165 (by decide +kernel : FT 41 (5 : Int).toNat = (0, 0, 6)) (by decide +kernel)
              exact keyj170 σ725 z1090 z946 z1050 z1094 y728 y732 h726 h727 h1089 (by first | exact q_58e6e51dcc h1091 | omega) (by first | exact q_c82ed93a8c h1092 | omega) h945 (by first | exact q_58e6e51dcc h947 | omega) (by first | exact q_f080a0e48d h951 h948 | omega) h1049 (by first | exact q_58e6e51dcc h1051 | omega) (by first | exact q_4b59c54ff8 h1055 h1052 | omega) h1093 (by first | exact q_58e6e51dcc h1095 | omega) (by first | exact q_615333d33f h1096 | omega) h729 (by first | exact q_58e6e51dcc h730 | omega) (by first | exact q_da5e9b976f h731 | omega) h733 (by first | exact q_58e6e51dcc h734 | omega) (by first | exact q_246f9048f8 h735 | omega) (by omega) (fun _ => by have := Imp_m h737 (by omega); omega) (fun hh => by have := Imp_m h737 (by omega); have zz : (gN1 By Nb Sp).1 = 0 := (by omega); have j1 := Imp_m h741 zz; have j2 := Imp_m h742 zz; have j3 := Imp_m h743 zz; have j4 := Imp_m h744 zz; omega) (fun hh => by have zz : (gN1 By Nb Sp).1 = 0 := (by omega); have j1 := Imp_m h741 zz; have j2 := Imp_m h742 zz; have j3 := Imp_m h743 zz; have j4 := Imp_m h744 zz; omega) (fun hh => by have zz : (gN1 By Nb Sp).1 = 0 := (by omega); have j1 := Imp_m h741 zz; have j2 := Imp_m h742 zz; have j3 := Imp_m h743 zz; have j4 := Imp_m h744 zz; omega) (fun hh => by have := Imp_m h737 (by omega); have zz : (gN1 By Nb Sp).1 = 0 := (by omega); have j1 := Imp_m h741 zz; have j2 := Imp_m h742 zz; have j3 := Imp_m h743 zz; have j4 := Imp_m h744 zz; omega) (h738) (ML_eq h739 (gN2_neg (by omega)).symm)
            · refine En_Ps 1 (pc' := 155) (lv' := [(0, .ref 159)]) (st' := [.ref 159]) rfl ?_
              refine En_getK (j := 14) h943 rfl rfl rfl tgz_159 (by decide +kernel) ?_
              refine En_Ps 1 (pc' := 159) (lv' := [(0, .ref 159)]) (st' := [.int ((Int32.ofInt 5)), .ref 165]) rfl ?_
              refine En_iald (l := 0) (u := 6) rfl (by decide : (Int32.ofInt 5).toInt = 5) tgz_165 (by decide +kernel) h726 (by decide) (lnI (by decide +kernel : LN _ = 226) (by decide)) (by decide +kernel) (fun z1098 h1097 h1099 h1100 => ?_)
              have h1102 : (gN1 By Nb Sp).1 = 0 := iW_g (i := 1) (B := By) (n := Nb) (by omega)
              have h1101 : (gN1 By Nb Sp).2.2.2 5 = z1098.toInt := ML_wi h739 h1102 h1097 (by omega) (by omega) (by omega)
              refine En_Ps 1 (pc' := 162) (lv' := [(0, .ref 159)]) (st' := [.int (((Int8.ofInt 6).toInt32)), .int z1098]) rfl ?_
              refine En_icNe _ rfl (by decide : ((Int8.ofInt 6).toInt32).toInt = 6) rfl (fun h1103 => ?_) (fun h1103 => ?_)
              · obtain ⟨z1105, h1104, h1106, h1107⟩ := WT_peekI h726 tgz_165 (by decide +kernel : FT 41 (2 : Int).toNat = (0, 0, 4)) (by decide +kernel)
                exact keyj170 σ725 z1105 z946 z1050 z1098 y728 y732 h726 h727 h1104 (by first | exact q_58e6e51dcc h1106 | omega) (by first | exact q_c82ed93a8c h1107 | omega) h945 (by first | exact q_58e6e51dcc h947 | omega) (by first | exact q_f080a0e48d h951 h948 | omega) h1049 (by first | exact q_58e6e51dcc h1051 | omega) (by first | exact q_4b59c54ff8 h1055 h1052 | omega) h1097 (by first | exact q_58e6e51dcc h1099 | omega) (by first | exact q_b7df4df08f h1103 h1100 | omega) h729 (by first | exact q_58e6e51dcc h730 | omega) (by first | exact q_da5e9b976f h731 | omega) h733 (by first | exact q_58e6e51dcc h734 | omega) (by first | exact q_246f9048f8 h735 | omega) (by omega) (fun _ => by have := Imp_m h737 (by omega); omega) (fun hh => by have := Imp_m h737 (by omega); have zz : (gN1 By Nb Sp).1 = 0 := (by omega); have j1 := Imp_m h741 zz; have j2 := Imp_m h742 zz; have j3 := Imp_m h743 zz; have j4 := Imp_m h744 zz; omega) (fun hh => by have zz : (gN1 By Nb Sp).1 = 0 := (by omega); have j1 := Imp_m h741 zz; have j2 := Imp_m h742 zz; have j3 := Imp_m h743 zz; have j4 := Imp_m h744 zz; omega) (fun hh => by have zz : (gN1 By Nb Sp).1 = 0 := (by omega); have j1 := Imp_m h741 zz; have j2 := Imp_m h742 zz; have j3 := Imp_m h743 zz; have j4 := Imp_m h744 zz; omega) (fun hh => by have zz : (gN1 By Nb Sp).1 = 0 := (by omega); have j1 := Imp_m h741 zz; have j2 := Imp_m h742 zz; have j3 := Imp_m h743 zz; have j4 := Imp_m h744 zz; omega) (h738) (ML_eq h739 (gN2_neg (by omega)).symm)
              · refine En_Ps 2 (pc' := 167) (lv' := [(0, .ref 159)]) (st' := [.int ((Int32.ofInt 3)), .ref 159]) rfl ?_
                have := (by decide : ((Int32.ofInt 3)).toInt = 3)
                refine En_callV rfl rfl rfl rfl rfl rfl rfl rfl tgz_159 (by decide +kernel) rfl (c_223x σ725 h726 ((Int32.ofInt 3)) (geI (by decide : (Int32.ofInt 3).toInt = 3) (by decide)) (leI (by decide : (Int32.ofInt 3).toInt = 3) (by decide)) y728 h729 h739) (by decide) (by decide) (fun v1109 σ1110 h1108 => ?_)
                obtain ⟨h1111, h1112, z1114, h1115, rfl, h1113⟩ := h1108
                have h1116 := h1113.2.2.2.2
                have h1117 := Fr_trans h727 h1112 (by decide +kernel)
                have h1118 := KF_fr h738 h1112 (by decide +kernel)
                obtain ⟨S1119, h1120⟩ : ∃ q : PS, q = err By Nb 3 (gN1 By Nb Sp) := ⟨_, rfl⟩
                have h1121 : ML By Nb σ1110 S1119 := by rw [h1120]; exact (ML_eq h1116 (err_cg (by omega)))
                have h1122 := ML_k h1121 h1115
                have h1123 : S1119.2.2.2 = (gN1 By Nb Sp).2.2.2 := by rw [h1120]; exact err_w
                obtain ⟨z1125, h1124, h1126, h1127⟩ := WT_peekI h1111 tgz_165 (by decide +kernel : FT 41 (2 : Int).toNat = (0, 0, 4)) (by decide +kernel)
                exact keyj170 σ1110 z1125 z946 z1050 z1098 z1114 y732 h1111 h1117 h1124 (by first | exact q_58e6e51dcc h1126 | omega) (by first | exact q_c82ed93a8c h1127 | omega) ((h1112 _ _ (inWa tgz_165 (by decide +kernel))).trans h945) (by first | exact q_58e6e51dcc h947 | omega) (by first | exact q_f080a0e48d h951 h948 | omega) ((h1112 _ _ (inWa tgz_165 (by decide +kernel))).trans h1049) (by first | exact q_58e6e51dcc h1051 | omega) (by first | exact q_4b59c54ff8 h1055 h1052 | omega) ((h1112 _ _ (inWa tgz_165 (by decide +kernel))).trans h1097) (by first | exact q_b2cec3a713 h1103 | omega) (by first | exact q_615333d33f h1100 | omega) h1115 (by first | exact q_996aa4c518 h1113.1 | omega) (by first | exact q_87d9217d84 h1113.2.1 | omega) ((h1112 _ _ (inW tgz_159 (by decide +kernel))).trans h733) (by first | exact q_58e6e51dcc h734 | omega) (by first | exact q_246f9048f8 h735 | omega) (by omega) (fun _ => by have := Imp_m h737 (by omega); omega) (fun _ => by have := Imp_m h737 (by omega); omega) (fun _ => by omega) (fun _ => by omega) (fun _ => by have := Imp_m h737 (by omega); omega) (h1118) (ML_eq h1121 (by subst h1120; exact (gN2_pos (by omega)).symm))
  · refine En_Ps 1 (pc' := 97) (lv' := [(0, .ref 159)]) (st' := [.ref 159]) rfl ?_
    refine En_getU (j := 14) (u := 165) (g' := 41) (q := 0) rfl rfl rfl tgz_159 (by decide +kernel) h726 (by decide +kernel) (by decide +kernel) (fun h1128 => ?_)
    refine En_Ps 1 (pc' := 101) (lv' := [(0, .ref 159)]) (st' := [.int ((Int32.ofInt 2)), .ref 165]) rfl ?_
    refine En_iald (l := 0) (u := 4) rfl (by decide : (Int32.ofInt 2).toInt = 2) tgz_165 (by decide +kernel) h726 (by decide) (lnI (by decide +kernel : LN _ = 226) (by decide)) (by decide +kernel) (fun z1131 h1130 h1132 h1133 => ?_)
    have h1135 : (gN1 By Nb Sp).1 = 0 := iW_g (i := 2) (B := By) (n := Nb) (by omega)
    have h1134 : (gN1 By Nb Sp).2.2.2 2 = z1131.toInt := ML_wi h739 h1135 h1130 (by omega) (by omega) (by omega)
    refine En_Ps 1 (pc' := 103) (lv' := [(0, .ref 159)]) (st' := [.int ((Int32.ofInt 4)), .int z1131]) rfl ?_
    refine En_icEq _ rfl (by decide : (Int32.ofInt 4).toInt = 4) rfl (fun h1136 => ?_) (fun h1136 => ?_)
    · refine En_Ps 2 (pc' := 167) (lv' := [(0, .ref 159)]) (st' := [.int ((Int32.ofInt 3)), .ref 159]) rfl ?_
      have := (by decide : ((Int32.ofInt 3)).toInt = 3)
      refine En_callV rfl rfl rfl rfl rfl rfl rfl rfl tgz_159 (by decide +kernel) rfl (c_223x σ725 h726 ((Int32.ofInt 3)) (geI (by decide : (Int32.ofInt 3).toInt = 3) (by decide)) (leI (by decide : (Int32.ofInt 3).toInt = 3) (by decide)) y728 h729 h739) (by decide) (by decide) (fun v1138 σ1139 h1137 => ?_)
      obtain ⟨h1140, h1141, z1143, h1144, rfl, h1142⟩ := h1137
      have h1145 := h1142.2.2.2.2
      have h1146 := Fr_trans h727 h1141 (by decide +kernel)
      have h1147 := KF_fr h738 h1141 (by decide +kernel)
      obtain ⟨S1148, h1149⟩ : ∃ q : PS, q = err By Nb 3 (gN1 By Nb Sp) := ⟨_, rfl⟩
      have h1150 : ML By Nb σ1139 S1148 := by rw [h1149]; exact (ML_eq h1145 (err_cg (by omega)))
      have h1151 := ML_k h1150 h1144
      have h1152 : S1148.2.2.2 = (gN1 By Nb Sp).2.2.2 := by rw [h1149]; exact err_w
      obtain ⟨z1154, h1153, h1155, h1156⟩ := WT_peekI h1140 tgz_165 (by decide +kernel : FT 41 (3 : Int).toNat = (0, 0, 12)) (by decide +kernel)
      obtain ⟨z1158, h1157, h1159, h1160⟩ := WT_peekI h1140 tgz_165 (by decide +kernel : FT 41 (4 : Int).toNat = (0, 0, 4)) (by decide +kernel)
      obtain ⟨z1162, h1161, h1163, h1164⟩ := WT_peekI h1140 tgz_165 (by decide +kernel : FT 41 (5 : Int).toNat = (0, 0, 6)) (by decide +kernel)
      exact keyj170 σ1139 z1131 z1154 z1158 z1162 z1143 y732 h1140 h1146 ((h1141 _ _ (inWa tgz_165 (by decide +kernel))).trans h1130) (by first | exact q_8aa6573b50 h1136 | omega) (by first | exact q_c82ed93a8c h1133 | omega) h1153 (by first | exact q_58e6e51dcc h1155 | omega) (by first | exact q_7c77837619 h1156 | omega) h1157 (by first | exact q_58e6e51dcc h1159 | omega) (by first | exact q_c82ed93a8c h1160 | omega) h1161 (by first | exact q_58e6e51dcc h1163 | omega) (by first | exact q_615333d33f h1164 | omega) h1144 (by first | exact q_996aa4c518 h1142.1 | omega) (by first | exact q_87d9217d84 h1142.2.1 | omega) ((h1141 _ _ (inW tgz_159 (by decide +kernel))).trans h733) (by first | exact q_58e6e51dcc h734 | omega) (by first | exact q_246f9048f8 h735 | omega) (by omega) (fun _ => by have := Imp_m h737 (by omega); omega) (fun _ => by have := Imp_m h737 (by omega); omega) (fun _ => by have := Imp_m h737 (by omega); omega) (fun _ => by have := Imp_m h737 (by omega); omega) (fun _ => by have := Imp_m h737 (by omega); omega) (h1147) (ML_eq h1150 (by subst h1149; exact (gN2_pos (by omega)).symm))
    · refine En_Ps 1 (pc' := 107) (lv' := [(0, .ref 159)]) (st' := [.ref 159]) rfl ?_
      refine En_ldcS (i := 3) rfl rfl rfl ?_
      refine En_callV rfl rfl rfl rfl rfl rfl rfl rfl tgz_159 (by decide +kernel) rfl (c_251s3x σ725 h726 h739) (by decide) (by decide) (fun v1166 σ1167 h1165 => ?_)
      obtain ⟨h1168, h1169, z1171, rfl, h1170⟩ := h1165
      have h1172 := h1170.2.2
      obtain rfl : σ725 = σ1167 := Fr_nil h1169
      refine En_iEq _ rfl rfl (fun h1173 => ?_) (fun h1173 => ?_)
      · refine En_Ps 1 (pc' := 127) (lv' := [(0, .ref 159)]) (st' := [.ref 159]) rfl ?_
        refine En_ldcS (i := 5) rfl rfl rfl ?_
        refine En_callV rfl rfl rfl rfl rfl rfl rfl rfl tgz_159 (by decide +kernel) rfl (c_251s5x σ725 h726 h739) (by decide) (by decide) (fun v1175 σ1176 h1174 => ?_)
        obtain ⟨h1177, h1178, z1180, rfl, h1179⟩ := h1174
        have h1181 := h1179.2.2
        obtain rfl : σ725 = σ1176 := Fr_nil h1178
        refine En_iEq _ rfl rfl (fun h1182 => ?_) (fun h1182 => ?_)
        · refine En_Ps 1 (pc' := 146) (lv' := [(0, .ref 159)]) (st' := [.ref 159]) rfl ?_
          refine En_ldcS (i := 1) rfl rfl rfl ?_
          refine En_callV rfl rfl rfl rfl rfl rfl rfl rfl tgz_159 (by decide +kernel) rfl (c_251s1x σ725 h726 h739) (by decide) (by decide) (fun v1184 σ1185 h1183 => ?_)
          obtain ⟨h1186, h1187, z1189, rfl, h1188⟩ := h1183
          have h1190 := h1188.2.2
          obtain rfl : σ725 = σ1185 := Fr_nil h1187
          refine En_iEq _ rfl rfl (fun h1191 => ?_) (fun h1191 => ?_)
          · obtain ⟨z1193, h1192, h1194, h1195⟩ := WT_peekI h726 tgz_165 (by decide +kernel : FT 41 (3 : Int).toNat = (0, 0, 12)) (by decide +kernel)
            obtain ⟨z1197, h1196, h1198, h1199⟩ := WT_peekI h726 tgz_165 (by decide +kernel : FT 41 (4 : Int).toNat = (0, 0, 4)) (by decide +kernel)
            obtain ⟨z1201, h1200, h1202, h1203⟩ := WT_peekI h726 tgz_165 (by decide +kernel : FT 41 (5 : Int).toNat = (0, 0, 6)) (by decide +kernel)
            exact keyj170 σ725 z1131 z1193 z1197 z1201 y728 y732 h726 h727 h1130 (by first | exact q_58e6e51dcc h1132 | omega) (by first | exact q_4b59c54ff8 h1136 h1133 | omega) h1192 (by first | exact q_58e6e51dcc h1194 | omega) (by first | exact q_7c77837619 h1195 | omega) h1196 (by first | exact q_58e6e51dcc h1198 | omega) (by first | exact q_c82ed93a8c h1199 | omega) h1200 (by first | exact q_58e6e51dcc h1202 | omega) (by first | exact q_615333d33f h1203 | omega) h729 (by first | exact q_58e6e51dcc h730 | omega) (by first | exact q_da5e9b976f h731 | omega) h733 (by first | exact q_58e6e51dcc h734 | omega) (by first | exact q_246f9048f8 h735 | omega) (by omega) (fun _ => by have := Imp_m h737 (by omega); omega) (fun hh => by have zz : (gN1 By Nb Sp).1 = 0 := (by omega); have j1 := Imp_m h741 zz; have j2 := Imp_m h742 zz; have j3 := Imp_m h743 zz; have j4 := Imp_m h744 zz; omega) (fun hh => by have := Imp_m h737 (by omega); have zz : (gN1 By Nb Sp).1 = 0 := (by omega); have j1 := Imp_m h741 zz; have j2 := Imp_m h742 zz; have j3 := Imp_m h743 zz; have j4 := Imp_m h744 zz; omega) (fun hh => by have := Imp_m h737 (by omega); have zz : (gN1 By Nb Sp).1 = 0 := (by omega); have j1 := Imp_m h741 zz; have j2 := Imp_m h742 zz; have j3 := Imp_m h743 zz; have j4 := Imp_m h744 zz; omega) (fun hh => by have := Imp_m h737 (by omega); have zz : (gN1 By Nb Sp).1 = 0 := (by omega); have j1 := Imp_m h741 zz; have j2 := Imp_m h742 zz; have j3 := Imp_m h743 zz; have j4 := Imp_m h744 zz; omega) (h738) (ML_eq h739 (gN2_neg (by omega)).symm)
          · refine En_Ps 1 (pc' := 155) (lv' := [(0, .ref 159)]) (st' := [.ref 159]) rfl ?_
            refine En_getK (j := 14) h1128 rfl rfl rfl tgz_159 (by decide +kernel) ?_
            refine En_Ps 1 (pc' := 159) (lv' := [(0, .ref 159)]) (st' := [.int ((Int32.ofInt 5)), .ref 165]) rfl ?_
            refine En_iald (l := 0) (u := 6) rfl (by decide : (Int32.ofInt 5).toInt = 5) tgz_165 (by decide +kernel) h726 (by decide) (lnI (by decide +kernel : LN _ = 226) (by decide)) (by decide +kernel) (fun z1205 h1204 h1206 h1207 => ?_)
            have h1209 : (gN1 By Nb Sp).1 = 0 := iW_g (i := 1) (B := By) (n := Nb) (by omega)
            have h1208 : (gN1 By Nb Sp).2.2.2 5 = z1205.toInt := ML_wi h739 h1209 h1204 (by omega) (by omega) (by omega)
            refine En_Ps 1 (pc' := 162) (lv' := [(0, .ref 159)]) (st' := [.int (((Int8.ofInt 6).toInt32)), .int z1205]) rfl ?_
            refine En_icNe _ rfl (by decide : ((Int8.ofInt 6).toInt32).toInt = 6) rfl (fun h1210 => ?_) (fun h1210 => ?_)
            · obtain ⟨z1212, h1211, h1213, h1214⟩ := WT_peekI h726 tgz_165 (by decide +kernel : FT 41 (3 : Int).toNat = (0, 0, 12)) (by decide +kernel)
              obtain ⟨z1216, h1215, h1217, h1218⟩ := WT_peekI h726 tgz_165 (by decide +kernel : FT 41 (4 : Int).toNat = (0, 0, 4)) (by decide +kernel)
              exact keyj170 σ725 z1131 z1212 z1216 z1205 y728 y732 h726 h727 h1130 (by first | exact q_58e6e51dcc h1132 | omega) (by first | exact q_4b59c54ff8 h1136 h1133 | omega) h1211 (by first | exact q_58e6e51dcc h1213 | omega) (by first | exact q_7c77837619 h1214 | omega) h1215 (by first | exact q_58e6e51dcc h1217 | omega) (by first | exact q_c82ed93a8c h1218 | omega) h1204 (by first | exact q_58e6e51dcc h1206 | omega) (by first | exact q_b7df4df08f h1210 h1207 | omega) h729 (by first | exact q_58e6e51dcc h730 | omega) (by first | exact q_da5e9b976f h731 | omega) h733 (by first | exact q_58e6e51dcc h734 | omega) (by first | exact q_246f9048f8 h735 | omega) (by omega) (fun _ => by have := Imp_m h737 (by omega); omega) (fun hh => by have zz : (gN1 By Nb Sp).1 = 0 := (by omega); have j1 := Imp_m h741 zz; have j2 := Imp_m h742 zz; have j3 := Imp_m h743 zz; have j4 := Imp_m h744 zz; omega) (fun hh => by have := Imp_m h737 (by omega); have zz : (gN1 By Nb Sp).1 = 0 := (by omega); have j1 := Imp_m h741 zz; have j2 := Imp_m h742 zz; have j3 := Imp_m h743 zz; have j4 := Imp_m h744 zz; omega) (fun hh => by have := Imp_m h737 (by omega); have zz : (gN1 By Nb Sp).1 = 0 := (by omega); have j1 := Imp_m h741 zz; have j2 := Imp_m h742 zz; have j3 := Imp_m h743 zz; have j4 := Imp_m h744 zz; omega) (fun hh => by have zz : (gN1 By Nb Sp).1 = 0 := (by omega); have j1 := Imp_m h741 zz; have j2 := Imp_m h742 zz; have j3 := Imp_m h743 zz; have j4 := Imp_m h744 zz; omega) (h738) (ML_eq h739 (gN2_neg (by omega)).symm)
            · refine En_Ps 2 (pc' := 167) (lv' := [(0, .ref 159)]) (st' := [.int ((Int32.ofInt 3)), .ref 159]) rfl ?_
              have := (by decide : ((Int32.ofInt 3)).toInt = 3)
              refine En_callV rfl rfl rfl rfl rfl rfl rfl rfl tgz_159 (by decide +kernel) rfl (c_223x σ725 h726 ((Int32.ofInt 3)) (geI (by decide : (Int32.ofInt 3).toInt = 3) (by decide)) (leI (by decide : (Int32.ofInt 3).toInt = 3) (by decide)) y728 h729 h739) (by decide) (by decide) (fun v1220 σ1221 h1219 => ?_)
              obtain ⟨h1222, h1223, z1225, h1226, rfl, h1224⟩ := h1219
              have h1227 := h1224.2.2.2.2
              have h1228 := Fr_trans h727 h1223 (by decide +kernel)
              have h1229 := KF_fr h738 h1223 (by decide +kernel)
              obtain ⟨S1230, h1231⟩ : ∃ q : PS, q = err By Nb 3 (gN1 By Nb Sp) := ⟨_, rfl⟩
              have h1232 : ML By Nb σ1221 S1230 := by rw [h1231]; exact (ML_eq h1227 (err_cg (by omega)))
              have h1233 := ML_k h1232 h1226
              have h1234 : S1230.2.2.2 = (gN1 By Nb Sp).2.2.2 := by rw [h1231]; exact err_w
              obtain ⟨z1236, h1235, h1237, h1238⟩ := WT_peekI h1222 tgz_165 (by decide +kernel : FT 41 (3 : Int).toNat = (0, 0, 12)) (by decide +kernel)
              obtain ⟨z1240, h1239, h1241, h1242⟩ := WT_peekI h1222 tgz_165 (by decide +kernel : FT 41 (4 : Int).toNat = (0, 0, 4)) (by decide +kernel)
              exact keyj170 σ1221 z1131 z1236 z1240 z1205 z1225 y732 h1222 h1228 ((h1223 _ _ (inWa tgz_165 (by decide +kernel))).trans h1130) (by first | exact q_58e6e51dcc h1132 | omega) (by first | exact q_4b59c54ff8 h1136 h1133 | omega) h1235 (by first | exact q_58e6e51dcc h1237 | omega) (by first | exact q_7c77837619 h1238 | omega) h1239 (by first | exact q_58e6e51dcc h1241 | omega) (by first | exact q_c82ed93a8c h1242 | omega) ((h1223 _ _ (inWa tgz_165 (by decide +kernel))).trans h1204) (by first | exact q_b2cec3a713 h1210 | omega) (by first | exact q_615333d33f h1207 | omega) h1226 (by first | exact q_996aa4c518 h1224.1 | omega) (by first | exact q_87d9217d84 h1224.2.1 | omega) ((h1223 _ _ (inW tgz_159 (by decide +kernel))).trans h733) (by first | exact q_58e6e51dcc h734 | omega) (by first | exact q_246f9048f8 h735 | omega) (by omega) (fun _ => by have := Imp_m h737 (by omega); omega) (fun _ => by omega) (fun _ => by have := Imp_m h737 (by omega); omega) (fun _ => by have := Imp_m h737 (by omega); omega) (fun _ => by have := Imp_m h737 (by omega); omega) (h1229) (ML_eq h1232 (by subst h1231; exact (gN2_pos (by omega)).symm))
        · refine En_Ps 1 (pc' := 136) (lv' := [(0, .ref 159)]) (st' := [.ref 159]) rfl ?_
          refine En_getK (j := 14) h1128 rfl rfl rfl tgz_159 (by decide +kernel) ?_
          refine En_Ps 1 (pc' := 140) (lv' := [(0, .ref 159)]) (st' := [.int ((Int32.ofInt 4)), .ref 165]) rfl ?_
          refine En_iald (l := 0) (u := 4) rfl (by decide : (Int32.ofInt 4).toInt = 4) tgz_165 (by decide +kernel) h726 (by decide) (lnI (by decide +kernel : LN _ = 226) (by decide)) (by decide +kernel) (fun z1244 h1243 h1245 h1246 => ?_)
          have h1248 : (gN1 By Nb Sp).1 = 0 := iW_g (i := 5) (B := By) (n := Nb) (by omega)
          have h1247 : (gN1 By Nb Sp).2.2.2 4 = z1244.toInt := ML_wi h739 h1248 h1243 (by omega) (by omega) (by omega)
          refine En_Ps 1 (pc' := 142) (lv' := [(0, .ref 159)]) (st' := [.int ((Int32.ofInt 4)), .int z1244]) rfl ?_
          refine En_icEq _ rfl (by decide : (Int32.ofInt 4).toInt = 4) rfl (fun h1249 => ?_) (fun h1249 => ?_)
          · refine En_Ps 2 (pc' := 167) (lv' := [(0, .ref 159)]) (st' := [.int ((Int32.ofInt 3)), .ref 159]) rfl ?_
            have := (by decide : ((Int32.ofInt 3)).toInt = 3)
            refine En_callV rfl rfl rfl rfl rfl rfl rfl rfl tgz_159 (by decide +kernel) rfl (c_223x σ725 h726 ((Int32.ofInt 3)) (geI (by decide : (Int32.ofInt 3).toInt = 3) (by decide)) (leI (by decide : (Int32.ofInt 3).toInt = 3) (by decide)) y728 h729 h739) (by decide) (by decide) (fun v1251 σ1252 h1250 => ?_)
            obtain ⟨h1253, h1254, z1256, h1257, rfl, h1255⟩ := h1250
            have h1258 := h1255.2.2.2.2
            have h1259 := Fr_trans h727 h1254 (by decide +kernel)
            have h1260 := KF_fr h738 h1254 (by decide +kernel)
            obtain ⟨S1261, h1262⟩ : ∃ q : PS, q = err By Nb 3 (gN1 By Nb Sp) := ⟨_, rfl⟩
            have h1263 : ML By Nb σ1252 S1261 := by rw [h1262]; exact (ML_eq h1258 (err_cg (by omega)))
            have h1264 := ML_k h1263 h1257
            have h1265 : S1261.2.2.2 = (gN1 By Nb Sp).2.2.2 := by rw [h1262]; exact err_w
            obtain ⟨z1267, h1266, h1268, h1269⟩ := WT_peekI h1253 tgz_165 (by decide +kernel : FT 41 (3 : Int).toNat = (0, 0, 12)) (by decide +kernel)
            obtain ⟨z1271, h1270, h1272, h1273⟩ := WT_peekI h1253 tgz_165 (by decide +kernel : FT 41 (5 : Int).toNat = (0, 0, 6)) (by decide +kernel)
            exact keyj170 σ1252 z1131 z1267 z1244 z1271 z1256 y732 h1253 h1259 ((h1254 _ _ (inWa tgz_165 (by decide +kernel))).trans h1130) (by first | exact q_58e6e51dcc h1132 | omega) (by first | exact q_4b59c54ff8 h1136 h1133 | omega) h1266 (by first | exact q_58e6e51dcc h1268 | omega) (by first | exact q_7c77837619 h1269 | omega) ((h1254 _ _ (inWa tgz_165 (by decide +kernel))).trans h1243) (by first | exact q_8aa6573b50 h1249 | omega) (by first | exact q_c82ed93a8c h1246 | omega) h1270 (by first | exact q_58e6e51dcc h1272 | omega) (by first | exact q_615333d33f h1273 | omega) h1257 (by first | exact q_996aa4c518 h1255.1 | omega) (by first | exact q_87d9217d84 h1255.2.1 | omega) ((h1254 _ _ (inW tgz_159 (by decide +kernel))).trans h733) (by first | exact q_58e6e51dcc h734 | omega) (by first | exact q_246f9048f8 h735 | omega) (by omega) (fun _ => by have := Imp_m h737 (by omega); omega) (fun _ => by omega) (fun _ => by have := Imp_m h737 (by omega); omega) (fun _ => by have := Imp_m h737 (by omega); omega) (fun _ => by have := Imp_m h737 (by omega); omega) (h1260) (ML_eq h1263 (by subst h1262; exact (gN2_pos (by omega)).symm))
          · refine En_Ps 1 (pc' := 146) (lv' := [(0, .ref 159)]) (st' := [.ref 159]) rfl ?_
            refine En_ldcS (i := 1) rfl rfl rfl ?_
            refine En_callV rfl rfl rfl rfl rfl rfl rfl rfl tgz_159 (by decide +kernel) rfl (c_251s1x σ725 h726 h739) (by decide) (by decide) (fun v1275 σ1276 h1274 => ?_)
            obtain ⟨h1277, h1278, z1280, rfl, h1279⟩ := h1274
            have h1281 := h1279.2.2
            obtain rfl : σ725 = σ1276 := Fr_nil h1278
            refine En_iEq _ rfl rfl (fun h1282 => ?_) (fun h1282 => ?_)
            · obtain ⟨z1284, h1283, h1285, h1286⟩ := WT_peekI h726 tgz_165 (by decide +kernel : FT 41 (3 : Int).toNat = (0, 0, 12)) (by decide +kernel)
              obtain ⟨z1288, h1287, h1289, h1290⟩ := WT_peekI h726 tgz_165 (by decide +kernel : FT 41 (5 : Int).toNat = (0, 0, 6)) (by decide +kernel)
              exact keyj170 σ725 z1131 z1284 z1244 z1288 y728 y732 h726 h727 h1130 (by first | exact q_58e6e51dcc h1132 | omega) (by first | exact q_4b59c54ff8 h1136 h1133 | omega) h1283 (by first | exact q_58e6e51dcc h1285 | omega) (by first | exact q_7c77837619 h1286 | omega) h1243 (by first | exact q_58e6e51dcc h1245 | omega) (by first | exact q_4b59c54ff8 h1249 h1246 | omega) h1287 (by first | exact q_58e6e51dcc h1289 | omega) (by first | exact q_615333d33f h1290 | omega) h729 (by first | exact q_58e6e51dcc h730 | omega) (by first | exact q_da5e9b976f h731 | omega) h733 (by first | exact q_58e6e51dcc h734 | omega) (by first | exact q_246f9048f8 h735 | omega) (by omega) (fun _ => by have := Imp_m h737 (by omega); omega) (fun hh => by have zz : (gN1 By Nb Sp).1 = 0 := (by omega); have j1 := Imp_m h741 zz; have j2 := Imp_m h742 zz; have j3 := Imp_m h743 zz; have j4 := Imp_m h744 zz; omega) (fun hh => by have := Imp_m h737 (by omega); have zz : (gN1 By Nb Sp).1 = 0 := (by omega); have j1 := Imp_m h741 zz; have j2 := Imp_m h742 zz; have j3 := Imp_m h743 zz; have j4 := Imp_m h744 zz; omega) (fun hh => by have zz : (gN1 By Nb Sp).1 = 0 := (by omega); have j1 := Imp_m h741 zz; have j2 := Imp_m h742 zz; have j3 := Imp_m h743 zz; have j4 := Imp_m h744 zz; omega) (fun hh => by have := Imp_m h737 (by omega); have zz : (gN1 By Nb Sp).1 = 0 := (by omega); have j1 := Imp_m h741 zz; have j2 := Imp_m h742 zz; have j3 := Imp_m h743 zz; have j4 := Imp_m h744 zz; omega) (h738) (ML_eq h739 (gN2_neg (by omega)).symm)
            · refine En_Ps 1 (pc' := 155) (lv' := [(0, .ref 159)]) (st' := [.ref 159]) rfl ?_
              refine En_getK (j := 14) h1128 rfl rfl rfl tgz_159 (by decide +kernel) ?_
              refine En_Ps 1 (pc' := 159) (lv' := [(0, .ref 159)]) (st' := [.int ((Int32.ofInt 5)), .ref 165]) rfl ?_
              refine En_iald (l := 0) (u := 6) rfl (by decide : (Int32.ofInt 5).toInt = 5) tgz_165 (by decide +kernel) h726 (by decide) (lnI (by decide +kernel : LN _ = 226) (by decide)) (by decide +kernel) (fun z1292 h1291 h1293 h1294 => ?_)
              have h1296 : (gN1 By Nb Sp).1 = 0 := iW_g (i := 1) (B := By) (n := Nb) (by omega)
              have h1295 : (gN1 By Nb Sp).2.2.2 5 = z1292.toInt := ML_wi h739 h1296 h1291 (by omega) (by omega) (by omega)
              refine En_Ps 1 (pc' := 162) (lv' := [(0, .ref 159)]) (st' := [.int (((Int8.ofInt 6).toInt32)), .int z1292]) rfl ?_
              refine En_icNe _ rfl (by decide : ((Int8.ofInt 6).toInt32).toInt = 6) rfl (fun h1297 => ?_) (fun h1297 => ?_)
              · obtain ⟨z1299, h1298, h1300, h1301⟩ := WT_peekI h726 tgz_165 (by decide +kernel : FT 41 (3 : Int).toNat = (0, 0, 12)) (by decide +kernel)
                exact keyj170 σ725 z1131 z1299 z1244 z1292 y728 y732 h726 h727 h1130 (by first | exact q_58e6e51dcc h1132 | omega) (by first | exact q_4b59c54ff8 h1136 h1133 | omega) h1298 (by first | exact q_58e6e51dcc h1300 | omega) (by first | exact q_7c77837619 h1301 | omega) h1243 (by first | exact q_58e6e51dcc h1245 | omega) (by first | exact q_4b59c54ff8 h1249 h1246 | omega) h1291 (by first | exact q_58e6e51dcc h1293 | omega) (by first | exact q_b7df4df08f h1297 h1294 | omega) h729 (by first | exact q_58e6e51dcc h730 | omega) (by first | exact q_da5e9b976f h731 | omega) h733 (by first | exact q_58e6e51dcc h734 | omega) (by first | exact q_246f9048f8 h735 | omega) (by omega) (fun _ => by have := Imp_m h737 (by omega); omega) (fun hh => by have zz : (gN1 By Nb Sp).1 = 0 := (by omega); have j1 := Imp_m h741 zz; have j2 := Imp_m h742 zz; have j3 := Imp_m h743 zz; have j4 := Imp_m h744 zz; omega) (fun hh => by have := Imp_m h737 (by omega); have zz : (gN1 By Nb Sp).1 = 0 := (by omega); have j1 := Imp_m h741 zz; have j2 := Imp_m h742 zz; have j3 := Imp_m h743 zz; have j4 := Imp_m h744 zz; omega) (fun hh => by have zz : (gN1 By Nb Sp).1 = 0 := (by omega); have j1 := Imp_m h741 zz; have j2 := Imp_m h742 zz; have j3 := Imp_m h743 zz; have j4 := Imp_m h744 zz; omega) (fun hh => by have zz : (gN1 By Nb Sp).1 = 0 := (by omega); have j1 := Imp_m h741 zz; have j2 := Imp_m h742 zz; have j3 := Imp_m h743 zz; have j4 := Imp_m h744 zz; omega) (h738) (ML_eq h739 (gN2_neg (by omega)).symm)
              · refine En_Ps 2 (pc' := 167) (lv' := [(0, .ref 159)]) (st' := [.int ((Int32.ofInt 3)), .ref 159]) rfl ?_
                have := (by decide : ((Int32.ofInt 3)).toInt = 3)
                refine En_callV rfl rfl rfl rfl rfl rfl rfl rfl tgz_159 (by decide +kernel) rfl (c_223x σ725 h726 ((Int32.ofInt 3)) (geI (by decide : (Int32.ofInt 3).toInt = 3) (by decide)) (leI (by decide : (Int32.ofInt 3).toInt = 3) (by decide)) y728 h729 h739) (by decide) (by decide) (fun v1303 σ1304 h1302 => ?_)
                obtain ⟨h1305, h1306, z1308, h1309, rfl, h1307⟩ := h1302
                have h1310 := h1307.2.2.2.2
                have h1311 := Fr_trans h727 h1306 (by decide +kernel)
                have h1312 := KF_fr h738 h1306 (by decide +kernel)
                obtain ⟨S1313, h1314⟩ : ∃ q : PS, q = err By Nb 3 (gN1 By Nb Sp) := ⟨_, rfl⟩
                have h1315 : ML By Nb σ1304 S1313 := by rw [h1314]; exact (ML_eq h1310 (err_cg (by omega)))
                have h1316 := ML_k h1315 h1309
                have h1317 : S1313.2.2.2 = (gN1 By Nb Sp).2.2.2 := by rw [h1314]; exact err_w
                obtain ⟨z1319, h1318, h1320, h1321⟩ := WT_peekI h1305 tgz_165 (by decide +kernel : FT 41 (3 : Int).toNat = (0, 0, 12)) (by decide +kernel)
                exact keyj170 σ1304 z1131 z1319 z1244 z1292 z1308 y732 h1305 h1311 ((h1306 _ _ (inWa tgz_165 (by decide +kernel))).trans h1130) (by first | exact q_58e6e51dcc h1132 | omega) (by first | exact q_4b59c54ff8 h1136 h1133 | omega) h1318 (by first | exact q_58e6e51dcc h1320 | omega) (by first | exact q_7c77837619 h1321 | omega) ((h1306 _ _ (inWa tgz_165 (by decide +kernel))).trans h1243) (by first | exact q_58e6e51dcc h1245 | omega) (by first | exact q_4b59c54ff8 h1249 h1246 | omega) ((h1306 _ _ (inWa tgz_165 (by decide +kernel))).trans h1291) (by first | exact q_b2cec3a713 h1297 | omega) (by first | exact q_615333d33f h1294 | omega) h1309 (by first | exact q_996aa4c518 h1307.1 | omega) (by first | exact q_87d9217d84 h1307.2.1 | omega) ((h1306 _ _ (inW tgz_159 (by decide +kernel))).trans h733) (by first | exact q_58e6e51dcc h734 | omega) (by first | exact q_246f9048f8 h735 | omega) (by omega) (fun _ => by have := Imp_m h737 (by omega); omega) (fun _ => by omega) (fun _ => by have := Imp_m h737 (by omega); omega) (fun _ => by omega) (fun _ => by have := Imp_m h737 (by omega); omega) (h1312) (ML_eq h1315 (by subst h1314; exact (gN2_pos (by omega)).symm))
      · refine En_Ps 1 (pc' := 116) (lv' := [(0, .ref 159)]) (st' := [.ref 159]) rfl ?_
        refine En_getK (j := 14) h1128 rfl rfl rfl tgz_159 (by decide +kernel) ?_
        refine En_Ps 1 (pc' := 120) (lv' := [(0, .ref 159)]) (st' := [.int ((Int32.ofInt 3)), .ref 165]) rfl ?_
        refine En_iald (l := 0) (u := 12) rfl (by decide : (Int32.ofInt 3).toInt = 3) tgz_165 (by decide +kernel) h726 (by decide) (lnI (by decide +kernel : LN _ = 226) (by decide)) (by decide +kernel) (fun z1323 h1322 h1324 h1325 => ?_)
        have h1327 : (gN1 By Nb Sp).1 = 0 := iW_g (i := 3) (B := By) (n := Nb) (by omega)
        have h1326 : (gN1 By Nb Sp).2.2.2 3 = z1323.toInt := ML_wi h739 h1327 h1322 (by omega) (by omega) (by omega)
        refine En_Ps 1 (pc' := 123) (lv' := [(0, .ref 159)]) (st' := [.int (((Int8.ofInt 12).toInt32)), .int z1323]) rfl ?_
        refine En_icEq _ rfl (by decide : ((Int8.ofInt 12).toInt32).toInt = 12) rfl (fun h1328 => ?_) (fun h1328 => ?_)
        · refine En_Ps 2 (pc' := 167) (lv' := [(0, .ref 159)]) (st' := [.int ((Int32.ofInt 3)), .ref 159]) rfl ?_
          have := (by decide : ((Int32.ofInt 3)).toInt = 3)
          refine En_callV rfl rfl rfl rfl rfl rfl rfl rfl tgz_159 (by decide +kernel) rfl (c_223x σ725 h726 ((Int32.ofInt 3)) (geI (by decide : (Int32.ofInt 3).toInt = 3) (by decide)) (leI (by decide : (Int32.ofInt 3).toInt = 3) (by decide)) y728 h729 h739) (by decide) (by decide) (fun v1330 σ1331 h1329 => ?_)
          obtain ⟨h1332, h1333, z1335, h1336, rfl, h1334⟩ := h1329
          have h1337 := h1334.2.2.2.2
          have h1338 := Fr_trans h727 h1333 (by decide +kernel)
          have h1339 := KF_fr h738 h1333 (by decide +kernel)
          obtain ⟨S1340, h1341⟩ : ∃ q : PS, q = err By Nb 3 (gN1 By Nb Sp) := ⟨_, rfl⟩
          have h1342 : ML By Nb σ1331 S1340 := by rw [h1341]; exact (ML_eq h1337 (err_cg (by omega)))
          have h1343 := ML_k h1342 h1336
          have h1344 : S1340.2.2.2 = (gN1 By Nb Sp).2.2.2 := by rw [h1341]; exact err_w
          obtain ⟨z1346, h1345, h1347, h1348⟩ := WT_peekI h1332 tgz_165 (by decide +kernel : FT 41 (4 : Int).toNat = (0, 0, 4)) (by decide +kernel)
          obtain ⟨z1350, h1349, h1351, h1352⟩ := WT_peekI h1332 tgz_165 (by decide +kernel : FT 41 (5 : Int).toNat = (0, 0, 6)) (by decide +kernel)
          exact keyj170 σ1331 z1131 z1323 z1346 z1350 z1335 y732 h1332 h1338 ((h1333 _ _ (inWa tgz_165 (by decide +kernel))).trans h1130) (by first | exact q_58e6e51dcc h1132 | omega) (by first | exact q_4b59c54ff8 h1136 h1133 | omega) ((h1333 _ _ (inWa tgz_165 (by decide +kernel))).trans h1322) (by first | exact q_c921150b37 h1328 | omega) (by first | exact q_7c77837619 h1325 | omega) h1345 (by first | exact q_58e6e51dcc h1347 | omega) (by first | exact q_c82ed93a8c h1348 | omega) h1349 (by first | exact q_58e6e51dcc h1351 | omega) (by first | exact q_615333d33f h1352 | omega) h1336 (by first | exact q_996aa4c518 h1334.1 | omega) (by first | exact q_87d9217d84 h1334.2.1 | omega) ((h1333 _ _ (inW tgz_159 (by decide +kernel))).trans h733) (by first | exact q_58e6e51dcc h734 | omega) (by first | exact q_246f9048f8 h735 | omega) (by omega) (fun _ => by have := Imp_m h737 (by omega); omega) (fun _ => by omega) (fun _ => by have := Imp_m h737 (by omega); omega) (fun _ => by have := Imp_m h737 (by omega); omega) (fun _ => by have := Imp_m h737 (by omega); omega) (h1339) (ML_eq h1342 (by subst h1341; exact (gN2_pos (by omega)).symm))
        · refine En_Ps 1 (pc' := 127) (lv' := [(0, .ref 159)]) (st' := [.ref 159]) rfl ?_
          refine En_ldcS (i := 5) rfl rfl rfl ?_
          refine En_callV rfl rfl rfl rfl rfl rfl rfl rfl tgz_159 (by decide +kernel) rfl (c_251s5x σ725 h726 h739) (by decide) (by decide) (fun v1354 σ1355 h1353 => ?_)
          obtain ⟨h1356, h1357, z1359, rfl, h1358⟩ := h1353
          have h1360 := h1358.2.2
          obtain rfl : σ725 = σ1355 := Fr_nil h1357
          refine En_iEq _ rfl rfl (fun h1361 => ?_) (fun h1361 => ?_)
          · refine En_Ps 1 (pc' := 146) (lv' := [(0, .ref 159)]) (st' := [.ref 159]) rfl ?_
            refine En_ldcS (i := 1) rfl rfl rfl ?_
            refine En_callV rfl rfl rfl rfl rfl rfl rfl rfl tgz_159 (by decide +kernel) rfl (c_251s1x σ725 h726 h739) (by decide) (by decide) (fun v1363 σ1364 h1362 => ?_)
            obtain ⟨h1365, h1366, z1368, rfl, h1367⟩ := h1362
            have h1369 := h1367.2.2
            obtain rfl : σ725 = σ1364 := Fr_nil h1366
            refine En_iEq _ rfl rfl (fun h1370 => ?_) (fun h1370 => ?_)
            · obtain ⟨z1372, h1371, h1373, h1374⟩ := WT_peekI h726 tgz_165 (by decide +kernel : FT 41 (4 : Int).toNat = (0, 0, 4)) (by decide +kernel)
              obtain ⟨z1376, h1375, h1377, h1378⟩ := WT_peekI h726 tgz_165 (by decide +kernel : FT 41 (5 : Int).toNat = (0, 0, 6)) (by decide +kernel)
              exact keyj170 σ725 z1131 z1323 z1372 z1376 y728 y732 h726 h727 h1130 (by first | exact q_58e6e51dcc h1132 | omega) (by first | exact q_4b59c54ff8 h1136 h1133 | omega) h1322 (by first | exact q_58e6e51dcc h1324 | omega) (by first | exact q_f080a0e48d h1328 h1325 | omega) h1371 (by first | exact q_58e6e51dcc h1373 | omega) (by first | exact q_c82ed93a8c h1374 | omega) h1375 (by first | exact q_58e6e51dcc h1377 | omega) (by first | exact q_615333d33f h1378 | omega) h729 (by first | exact q_58e6e51dcc h730 | omega) (by first | exact q_da5e9b976f h731 | omega) h733 (by first | exact q_58e6e51dcc h734 | omega) (by first | exact q_246f9048f8 h735 | omega) (by omega) (fun _ => by have := Imp_m h737 (by omega); omega) (fun hh => by have zz : (gN1 By Nb Sp).1 = 0 := (by omega); have j1 := Imp_m h741 zz; have j2 := Imp_m h742 zz; have j3 := Imp_m h743 zz; have j4 := Imp_m h744 zz; omega) (fun hh => by have zz : (gN1 By Nb Sp).1 = 0 := (by omega); have j1 := Imp_m h741 zz; have j2 := Imp_m h742 zz; have j3 := Imp_m h743 zz; have j4 := Imp_m h744 zz; omega) (fun hh => by have := Imp_m h737 (by omega); have zz : (gN1 By Nb Sp).1 = 0 := (by omega); have j1 := Imp_m h741 zz; have j2 := Imp_m h742 zz; have j3 := Imp_m h743 zz; have j4 := Imp_m h744 zz; omega) (fun hh => by have := Imp_m h737 (by omega); have zz : (gN1 By Nb Sp).1 = 0 := (by omega); have j1 := Imp_m h741 zz; have j2 := Imp_m h742 zz; have j3 := Imp_m h743 zz; have j4 := Imp_m h744 zz; omega) (h738) (ML_eq h739 (gN2_neg (by omega)).symm)
            · refine En_Ps 1 (pc' := 155) (lv' := [(0, .ref 159)]) (st' := [.ref 159]) rfl ?_
              refine En_getK (j := 14) h1128 rfl rfl rfl tgz_159 (by decide +kernel) ?_
              refine En_Ps 1 (pc' := 159) (lv' := [(0, .ref 159)]) (st' := [.int ((Int32.ofInt 5)), .ref 165]) rfl ?_
              refine En_iald (l := 0) (u := 6) rfl (by decide : (Int32.ofInt 5).toInt = 5) tgz_165 (by decide +kernel) h726 (by decide) (lnI (by decide +kernel : LN _ = 226) (by decide)) (by decide +kernel) (fun z1380 h1379 h1381 h1382 => ?_)
              have h1384 : (gN1 By Nb Sp).1 = 0 := iW_g (i := 1) (B := By) (n := Nb) (by omega)
              have h1383 : (gN1 By Nb Sp).2.2.2 5 = z1380.toInt := ML_wi h739 h1384 h1379 (by omega) (by omega) (by omega)
              refine En_Ps 1 (pc' := 162) (lv' := [(0, .ref 159)]) (st' := [.int (((Int8.ofInt 6).toInt32)), .int z1380]) rfl ?_
              refine En_icNe _ rfl (by decide : ((Int8.ofInt 6).toInt32).toInt = 6) rfl (fun h1385 => ?_) (fun h1385 => ?_)
              · obtain ⟨z1387, h1386, h1388, h1389⟩ := WT_peekI h726 tgz_165 (by decide +kernel : FT 41 (4 : Int).toNat = (0, 0, 4)) (by decide +kernel)
                exact keyj170 σ725 z1131 z1323 z1387 z1380 y728 y732 h726 h727 h1130 (by first | exact q_58e6e51dcc h1132 | omega) (by first | exact q_4b59c54ff8 h1136 h1133 | omega) h1322 (by first | exact q_58e6e51dcc h1324 | omega) (by first | exact q_f080a0e48d h1328 h1325 | omega) h1386 (by first | exact q_58e6e51dcc h1388 | omega) (by first | exact q_c82ed93a8c h1389 | omega) h1379 (by first | exact q_58e6e51dcc h1381 | omega) (by first | exact q_b7df4df08f h1385 h1382 | omega) h729 (by first | exact q_58e6e51dcc h730 | omega) (by first | exact q_da5e9b976f h731 | omega) h733 (by first | exact q_58e6e51dcc h734 | omega) (by first | exact q_246f9048f8 h735 | omega) (by omega) (fun _ => by have := Imp_m h737 (by omega); omega) (fun hh => by have zz : (gN1 By Nb Sp).1 = 0 := (by omega); have j1 := Imp_m h741 zz; have j2 := Imp_m h742 zz; have j3 := Imp_m h743 zz; have j4 := Imp_m h744 zz; omega) (fun hh => by have zz : (gN1 By Nb Sp).1 = 0 := (by omega); have j1 := Imp_m h741 zz; have j2 := Imp_m h742 zz; have j3 := Imp_m h743 zz; have j4 := Imp_m h744 zz; omega) (fun hh => by have := Imp_m h737 (by omega); have zz : (gN1 By Nb Sp).1 = 0 := (by omega); have j1 := Imp_m h741 zz; have j2 := Imp_m h742 zz; have j3 := Imp_m h743 zz; have j4 := Imp_m h744 zz; omega) (fun hh => by have zz : (gN1 By Nb Sp).1 = 0 := (by omega); have j1 := Imp_m h741 zz; have j2 := Imp_m h742 zz; have j3 := Imp_m h743 zz; have j4 := Imp_m h744 zz; omega) (h738) (ML_eq h739 (gN2_neg (by omega)).symm)
              · refine En_Ps 2 (pc' := 167) (lv' := [(0, .ref 159)]) (st' := [.int ((Int32.ofInt 3)), .ref 159]) rfl ?_
                have := (by decide : ((Int32.ofInt 3)).toInt = 3)
                refine En_callV rfl rfl rfl rfl rfl rfl rfl rfl tgz_159 (by decide +kernel) rfl (c_223x σ725 h726 ((Int32.ofInt 3)) (geI (by decide : (Int32.ofInt 3).toInt = 3) (by decide)) (leI (by decide : (Int32.ofInt 3).toInt = 3) (by decide)) y728 h729 h739) (by decide) (by decide) (fun v1391 σ1392 h1390 => ?_)
                obtain ⟨h1393, h1394, z1396, h1397, rfl, h1395⟩ := h1390
                have h1398 := h1395.2.2.2.2
                have h1399 := Fr_trans h727 h1394 (by decide +kernel)
                have h1400 := KF_fr h738 h1394 (by decide +kernel)
                obtain ⟨S1401, h1402⟩ : ∃ q : PS, q = err By Nb 3 (gN1 By Nb Sp) := ⟨_, rfl⟩
                have h1403 : ML By Nb σ1392 S1401 := by rw [h1402]; exact (ML_eq h1398 (err_cg (by omega)))
                have h1404 := ML_k h1403 h1397
                have h1405 : S1401.2.2.2 = (gN1 By Nb Sp).2.2.2 := by rw [h1402]; exact err_w
                obtain ⟨z1407, h1406, h1408, h1409⟩ := WT_peekI h1393 tgz_165 (by decide +kernel : FT 41 (4 : Int).toNat = (0, 0, 4)) (by decide +kernel)
                exact keyj170 σ1392 z1131 z1323 z1407 z1380 z1396 y732 h1393 h1399 ((h1394 _ _ (inWa tgz_165 (by decide +kernel))).trans h1130) (by first | exact q_58e6e51dcc h1132 | omega) (by first | exact q_4b59c54ff8 h1136 h1133 | omega) ((h1394 _ _ (inWa tgz_165 (by decide +kernel))).trans h1322) (by first | exact q_58e6e51dcc h1324 | omega) (by first | exact q_f080a0e48d h1328 h1325 | omega) h1406 (by first | exact q_58e6e51dcc h1408 | omega) (by first | exact q_c82ed93a8c h1409 | omega) ((h1394 _ _ (inWa tgz_165 (by decide +kernel))).trans h1379) (by first | exact q_b2cec3a713 h1385 | omega) (by first | exact q_615333d33f h1382 | omega) h1397 (by first | exact q_996aa4c518 h1395.1 | omega) (by first | exact q_87d9217d84 h1395.2.1 | omega) ((h1394 _ _ (inW tgz_159 (by decide +kernel))).trans h733) (by first | exact q_58e6e51dcc h734 | omega) (by first | exact q_246f9048f8 h735 | omega) (by omega) (fun _ => by have := Imp_m h737 (by omega); omega) (fun _ => by omega) (fun _ => by omega) (fun _ => by have := Imp_m h737 (by omega); omega) (fun _ => by have := Imp_m h737 (by omega); omega) (h1400) (ML_eq h1403 (by subst h1402; exact (gN2_pos (by omega)).symm))
          · refine En_Ps 1 (pc' := 136) (lv' := [(0, .ref 159)]) (st' := [.ref 159]) rfl ?_
            refine En_getK (j := 14) h1128 rfl rfl rfl tgz_159 (by decide +kernel) ?_
            refine En_Ps 1 (pc' := 140) (lv' := [(0, .ref 159)]) (st' := [.int ((Int32.ofInt 4)), .ref 165]) rfl ?_
            refine En_iald (l := 0) (u := 4) rfl (by decide : (Int32.ofInt 4).toInt = 4) tgz_165 (by decide +kernel) h726 (by decide) (lnI (by decide +kernel : LN _ = 226) (by decide)) (by decide +kernel) (fun z1411 h1410 h1412 h1413 => ?_)
            have h1415 : (gN1 By Nb Sp).1 = 0 := iW_g (i := 5) (B := By) (n := Nb) (by omega)
            have h1414 : (gN1 By Nb Sp).2.2.2 4 = z1411.toInt := ML_wi h739 h1415 h1410 (by omega) (by omega) (by omega)
            refine En_Ps 1 (pc' := 142) (lv' := [(0, .ref 159)]) (st' := [.int ((Int32.ofInt 4)), .int z1411]) rfl ?_
            refine En_icEq _ rfl (by decide : (Int32.ofInt 4).toInt = 4) rfl (fun h1416 => ?_) (fun h1416 => ?_)
            · refine En_Ps 2 (pc' := 167) (lv' := [(0, .ref 159)]) (st' := [.int ((Int32.ofInt 3)), .ref 159]) rfl ?_
              have := (by decide : ((Int32.ofInt 3)).toInt = 3)
              refine En_callV rfl rfl rfl rfl rfl rfl rfl rfl tgz_159 (by decide +kernel) rfl (c_223x σ725 h726 ((Int32.ofInt 3)) (geI (by decide : (Int32.ofInt 3).toInt = 3) (by decide)) (leI (by decide : (Int32.ofInt 3).toInt = 3) (by decide)) y728 h729 h739) (by decide) (by decide) (fun v1418 σ1419 h1417 => ?_)
              obtain ⟨h1420, h1421, z1423, h1424, rfl, h1422⟩ := h1417
              have h1425 := h1422.2.2.2.2
              have h1426 := Fr_trans h727 h1421 (by decide +kernel)
              have h1427 := KF_fr h738 h1421 (by decide +kernel)
              obtain ⟨S1428, h1429⟩ : ∃ q : PS, q = err By Nb 3 (gN1 By Nb Sp) := ⟨_, rfl⟩
              have h1430 : ML By Nb σ1419 S1428 := by rw [h1429]; exact (ML_eq h1425 (err_cg (by omega)))
              have h1431 := ML_k h1430 h1424
              have h1432 : S1428.2.2.2 = (gN1 By Nb Sp).2.2.2 := by rw [h1429]; exact err_w
              obtain ⟨z1434, h1433, h1435, h1436⟩ := WT_peekI h1420 tgz_165 (by decide +kernel : FT 41 (5 : Int).toNat = (0, 0, 6)) (by decide +kernel)
              exact keyj170 σ1419 z1131 z1323 z1411 z1434 z1423 y732 h1420 h1426 ((h1421 _ _ (inWa tgz_165 (by decide +kernel))).trans h1130) (by first | exact q_58e6e51dcc h1132 | omega) (by first | exact q_4b59c54ff8 h1136 h1133 | omega) ((h1421 _ _ (inWa tgz_165 (by decide +kernel))).trans h1322) (by first | exact q_58e6e51dcc h1324 | omega) (by first | exact q_f080a0e48d h1328 h1325 | omega) ((h1421 _ _ (inWa tgz_165 (by decide +kernel))).trans h1410) (by first | exact q_8aa6573b50 h1416 | omega) (by first | exact q_c82ed93a8c h1413 | omega) h1433 (by first | exact q_58e6e51dcc h1435 | omega) (by first | exact q_615333d33f h1436 | omega) h1424 (by first | exact q_996aa4c518 h1422.1 | omega) (by first | exact q_87d9217d84 h1422.2.1 | omega) ((h1421 _ _ (inW tgz_159 (by decide +kernel))).trans h733) (by first | exact q_58e6e51dcc h734 | omega) (by first | exact q_246f9048f8 h735 | omega) (by omega) (fun _ => by have := Imp_m h737 (by omega); omega) (fun _ => by omega) (fun _ => by omega) (fun _ => by have := Imp_m h737 (by omega); omega) (fun _ => by have := Imp_m h737 (by omega); omega) (h1427) (ML_eq h1430 (by subst h1429; exact (gN2_pos (by omega)).symm))
            · refine En_Ps 1 (pc' := 146) (lv' := [(0, .ref 159)]) (st' := [.ref 159]) rfl ?_
              refine En_ldcS (i := 1) rfl rfl rfl ?_
              refine En_callV rfl rfl rfl rfl rfl rfl rfl rfl tgz_159 (by decide +kernel) rfl (c_251s1x σ725 h726 h739) (by decide) (by decide) (fun v1438 σ1439 h1437 => ?_)
              obtain ⟨h1440, h1441, z1443, rfl, h1442⟩ := h1437
              have h1444 := h1442.2.2
              obtain rfl : σ725 = σ1439 := Fr_nil h1441
              refine En_iEq _ rfl rfl (fun h1445 => ?_) (fun h1445 => ?_)
              · obtain ⟨z1447, h1446, h1448, h1449⟩ := WT_peekI h726 tgz_165 (by decide +kernel : FT 41 (5 : Int).toNat = (0, 0, 6)) (by decide +kernel)
                exact keyj170 σ725 z1131 z1323 z1411 z1447 y728 y732 h726 h727 h1130 (by first | exact q_58e6e51dcc h1132 | omega) (by first | exact q_4b59c54ff8 h1136 h1133 | omega) h1322 (by first | exact q_58e6e51dcc h1324 | omega) (by first | exact q_f080a0e48d h1328 h1325 | omega) h1410 (by first | exact q_58e6e51dcc h1412 | omega) (by first | exact q_4b59c54ff8 h1416 h1413 | omega) h1446 (by first | exact q_58e6e51dcc h1448 | omega) (by first | exact q_615333d33f h1449 | omega) h729 (by first | exact q_58e6e51dcc h730 | omega) (by first | exact q_da5e9b976f h731 | omega) h733 (by first | exact q_58e6e51dcc h734 | omega) (by first | exact q_246f9048f8 h735 | omega) (by omega) (fun _ => by have := Imp_m h737 (by omega); omega) (fun hh => by have zz : (gN1 By Nb Sp).1 = 0 := (by omega); have j1 := Imp_m h741 zz; have j2 := Imp_m h742 zz; have j3 := Imp_m h743 zz; have j4 := Imp_m h744 zz; omega) (fun hh => by have zz : (gN1 By Nb Sp).1 = 0 := (by omega); have j1 := Imp_m h741 zz; have j2 := Imp_m h742 zz; have j3 := Imp_m h743 zz; have j4 := Imp_m h744 zz; omega) (fun hh => by have zz : (gN1 By Nb Sp).1 = 0 := (by omega); have j1 := Imp_m h741 zz; have j2 := Imp_m h742 zz; have j3 := Imp_m h743 zz; have j4 := Imp_m h744 zz; omega) (fun hh => by have := Imp_m h737 (by omega); have zz : (gN1 By Nb Sp).1 = 0 := (by omega); have j1 := Imp_m h741 zz; have j2 := Imp_m h742 zz; have j3 := Imp_m h743 zz; have j4 := Imp_m h744 zz; omega) (h738) (ML_eq h739 (gN2_neg (by omega)).symm)
              · refine En_Ps 1 (pc' := 155) (lv' := [(0, .ref 159)]) (st' := [.ref 159]) rfl ?_
                refine En_getK (j := 14) h1128 rfl rfl rfl tgz_159 (by decide +kernel) ?_
                refine En_Ps 1 (pc' := 159) (lv' := [(0, .ref 159)]) (st' := [.int ((Int32.ofInt 5)), .ref 165]) rfl ?_
                refine En_iald (l := 0) (u := 6) rfl (by decide : (Int32.ofInt 5).toInt = 5) tgz_165 (by decide +kernel) h726 (by decide) (lnI (by decide +kernel : LN _ = 226) (by decide)) (by decide +kernel) (fun z1451 h1450 h1452 h1453 => ?_)
                have h1455 : (gN1 By Nb Sp).1 = 0 := iW_g (i := 1) (B := By) (n := Nb) (by omega)
                have h1454 : (gN1 By Nb Sp).2.2.2 5 = z1451.toInt := ML_wi h739 h1455 h1450 (by omega) (by omega) (by omega)
                refine En_Ps 1 (pc' := 162) (lv' := [(0, .ref 159)]) (st' := [.int (((Int8.ofInt 6).toInt32)), .int z1451]) rfl ?_
                refine En_icNe _ rfl (by decide : ((Int8.ofInt 6).toInt32).toInt = 6) rfl (fun h1456 => ?_) (fun h1456 => ?_)
                · exact keyj170 σ725 z1131 z1323 z1411 z1451 y728 y732 h726 h727 h1130 (by first | exact q_58e6e51dcc h1132 | omega) (by first | exact q_4b59c54ff8 h1136 h1133 | omega) h1322 (by first | exact q_58e6e51dcc h1324 | omega) (by first | exact q_f080a0e48d h1328 h1325 | omega) h1410 (by first | exact q_58e6e51dcc h1412 | omega) (by first | exact q_4b59c54ff8 h1416 h1413 | omega) h1450 (by first | exact q_58e6e51dcc h1452 | omega) (by first | exact q_b7df4df08f h1456 h1453 | omega) h729 (by first | exact q_58e6e51dcc h730 | omega) (by first | exact q_da5e9b976f h731 | omega) h733 (by first | exact q_58e6e51dcc h734 | omega) (by first | exact q_246f9048f8 h735 | omega) (by omega) (fun _ => by have := Imp_m h737 (by omega); omega) (fun hh => by have zz : (gN1 By Nb Sp).1 = 0 := (by omega); have j1 := Imp_m h741 zz; have j2 := Imp_m h742 zz; have j3 := Imp_m h743 zz; have j4 := Imp_m h744 zz; omega) (fun hh => by have zz : (gN1 By Nb Sp).1 = 0 := (by omega); have j1 := Imp_m h741 zz; have j2 := Imp_m h742 zz; have j3 := Imp_m h743 zz; have j4 := Imp_m h744 zz; omega) (fun hh => by have zz : (gN1 By Nb Sp).1 = 0 := (by omega); have j1 := Imp_m h741 zz; have j2 := Imp_m h742 zz; have j3 := Imp_m h743 zz; have j4 := Imp_m h744 zz; omega) (fun hh => by have zz : (gN1 By Nb Sp).1 = 0 := (by omega); have j1 := Imp_m h741 zz; have j2 := Imp_m h742 zz; have j3 := Imp_m h743 zz; have j4 := Imp_m h744 zz; omega) (h738) (ML_eq h739 (gN2_neg (by omega)).symm)
                · refine En_Ps 2 (pc' := 167) (lv' := [(0, .ref 159)]) (st' := [.int ((Int32.ofInt 3)), .ref 159]) rfl ?_
                  have := (by decide : ((Int32.ofInt 3)).toInt = 3)
                  refine En_callV rfl rfl rfl rfl rfl rfl rfl rfl tgz_159 (by decide +kernel) rfl (c_223x σ725 h726 ((Int32.ofInt 3)) (geI (by decide : (Int32.ofInt 3).toInt = 3) (by decide)) (leI (by decide : (Int32.ofInt 3).toInt = 3) (by decide)) y728 h729 h739) (by decide) (by decide) (fun v1458 σ1459 h1457 => ?_)
                  obtain ⟨h1460, h1461, z1463, h1464, rfl, h1462⟩ := h1457
                  have h1465 := h1462.2.2.2.2
                  have h1466 := Fr_trans h727 h1461 (by decide +kernel)
                  have h1467 := KF_fr h738 h1461 (by decide +kernel)
                  obtain ⟨S1468, h1469⟩ : ∃ q : PS, q = err By Nb 3 (gN1 By Nb Sp) := ⟨_, rfl⟩
                  have h1470 : ML By Nb σ1459 S1468 := by rw [h1469]; exact (ML_eq h1465 (err_cg (by omega)))
                  have h1471 := ML_k h1470 h1464
                  have h1472 : S1468.2.2.2 = (gN1 By Nb Sp).2.2.2 := by rw [h1469]; exact err_w
                  exact keyj170 σ1459 z1131 z1323 z1411 z1451 z1463 y732 h1460 h1466 ((h1461 _ _ (inWa tgz_165 (by decide +kernel))).trans h1130) (by first | exact q_58e6e51dcc h1132 | omega) (by first | exact q_4b59c54ff8 h1136 h1133 | omega) ((h1461 _ _ (inWa tgz_165 (by decide +kernel))).trans h1322) (by first | exact q_58e6e51dcc h1324 | omega) (by first | exact q_f080a0e48d h1328 h1325 | omega) ((h1461 _ _ (inWa tgz_165 (by decide +kernel))).trans h1410) (by first | exact q_58e6e51dcc h1412 | omega) (by first | exact q_4b59c54ff8 h1416 h1413 | omega) ((h1461 _ _ (inWa tgz_165 (by decide +kernel))).trans h1450) (by first | exact q_b2cec3a713 h1456 | omega) (by first | exact q_615333d33f h1453 | omega) h1464 (by first | exact q_996aa4c518 h1462.1 | omega) (by first | exact q_87d9217d84 h1462.2.1 | omega) ((h1461 _ _ (inW tgz_159 (by decide +kernel))).trans h733) (by first | exact q_58e6e51dcc h734 | omega) (by first | exact q_246f9048f8 h735 | omega) (by omega) (fun _ => by have := Imp_m h737 (by omega); omega) (fun _ => by omega) (fun _ => by omega) (fun _ => by omega) (fun _ => by have := Imp_m h737 (by omega); omega) (h1467) (ML_eq h1470 (by subst h1469; exact (gN2_pos (by omega)).symm))

