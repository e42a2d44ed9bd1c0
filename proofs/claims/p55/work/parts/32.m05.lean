/-! 32.m05 -/
section
set_option maxRecDepth 10000 in
set_option maxHeartbeats 4000000 in
theorem k_302x_386 {By : Int → Int} {Nb : Int} {Sp : PS} (σ0 : SG) (hσ0 : WT σ0) (f : Int32) (h_f : (σ0 159)[8]? = some (Value.int f)) (k : Int32) (h_k : (σ0 159)[12]? = some (Value.int k)) (hM : ML By Nb σ0 Sp) (hg : Sp.1 = 0) : ∀ (σ287 : SG) (y290 : Int32) (y294 : Int32) (y298 : Int32), WT σ287 → Fr [(35, 8), (35, 9), (35, 10), (35, 11), (35, 12), (35, 13), (41, 0)] σ0 σ287 → (σ287 165)[(5 : Int).toNat]? = some (Value.int y290) → 0 ≤ y290.toInt → y290.toInt ≤ 6 → (σ287 159)[12]? = some (Value.int y294) → 0 ≤ y294.toInt → y294.toInt ≤ 3 → (σ287 159)[8]? = some (Value.int y298) → 0 ≤ y298.toInt → y298.toInt ≤ 1600 → f.toInt - y298.toInt ≤ 0 → Imp (y294.toInt ≤ 0) (k.toInt ≤ 0) → y294.toInt ≤ 0 → (iW By Nb 2 Sp) ≤ 0 ∧ -(iW By Nb 2 Sp) ≤ 0 → (iW By Nb 6 Sp) ≤ 0 ∧ -(iW By Nb 6 Sp) ≤ 0 → (iW By Nb 3 Sp) ≤ 0 ∧ -(iW By Nb 3 Sp) ≤ 0 → (iW By Nb 17 Sp) ≤ 0 ∧ -(iW By Nb 17 Sp) ≤ 0 → (iW By Nb 9 Sp) ≤ 0 ∧ -(iW By Nb 9 Sp) ≤ 0 → (iW By Nb 5 Sp) ≤ 0 ∧ -(iW By Nb 5 Sp) ≤ 0 → (iW By Nb 1 Sp) ≤ 0 ∧ -(iW By Nb 1 Sp) ≤ 0 → KF σ0 σ287 → ML By Nb σ287 Sp → gN2 By Nb (gN1 By Nb Sp) = Sp → En 9 200 none mr_302 (P_302x σ0 By Nb Sp f k) 386 [(0, .ref 159)] [] σ287 := by
  obtain ⟨hl_f, hu_f⟩ := WT_int hσ0 (g := 35) (by decide +kernel) (by decide +kernel) (l := 0) (u := 1600) (by decide +kernel) h_f
  obtain ⟨hl_k, hu_k⟩ := WT_int hσ0 (g := 35) (by decide +kernel) (by decide +kernel) (l := 0) (u := 3) (by decide +kernel) h_k
  have hF0 : Fr [(35, 8), (35, 9), (35, 10), (35, 11), (35, 12), (35, 13), (41, 0)] σ0 σ0 := Fr_rfl
  intro σ287 y290 y294 y298 h288 h289 h291 h292 h293 h295 h296 h297 h299 h300 h301 h302 h303 h304 h305 h306 h307 h308 h309 h310 h311 h312 h313 h314
  have h315 := Imp_m h303 (by (first | exact q_35a72a35ef h304 | omega))
  have h316 := ML_k h313 h295
  have h317 := ML_w h313 hg h291 (by (first | decide | omega)) (by (first | decide | omega))
  refine En_Ps 1 (pc' := 387) (lv' := [(0, .ref 159)]) (st' := [.ref 159]) rfl ?_
  refine En_callV rfl rfl rfl rfl rfl rfl rfl rfl tgz_159 (by decide +kernel) rfl (c_189x σ287 h288 y298 h299 h313.1 (ML_at h313 (by (first | exact q_d2dcd30e56 hg | omega)) h299)) (by decide) (by decide) (fun v319 σ320 h318 => ?_)
  obtain ⟨h321, h322, z324, h325, z326, h327, rfl, h323⟩ := h318
  have h328 := h323.2.2.2.2.2.2.2
  have h329 := Fr_trans h289 h322 (by decide +kernel)
  have h330 := KF_fr h312 h322 (by decide +kernel)
  obtain ⟨S331, h332⟩ : ∃ q : PS, q = adv By Nb Sp := ⟨_, rfl⟩
  have h333 : ML By Nb σ320 S331 := by rw [h332]; exact (ML_adv h313 (by (first | exact q_d2dcd30e56 hg | omega)) h299 h322 (by decide +kernel) h328.2)
  have h334 := ML_k h333 ((h322 _ _ (inW tgz_159 (by decide +kernel))).trans h295)
  have h335 : Imp (S331.1 = 0) (tK By Nb S331.2.2.1 = z326.toInt) := ML_t h333 h327
  have h336 : S331.2.2.2 = Sp.2.2.2 := by rw [h332]; exact adv_w
  have h337 : S331.1 = 0 := by rw [h332, adv_1]; (first | exact q_d2dcd30e56 hg | omega)
  have h338 : S331.2.2.2 0 = Sp.2.2.2 0 := by rw [h336]
  have h339 : S331.2.2.2 5 = Sp.2.2.2 5 := by rw [h336]
  refine En_Ps 3 (pc' := 393) (lv' := [(0, .ref 159)]) (st' := [.ref 159, .int ((Int32.ofInt 0)), .ref 159]) rfl ?_
  refine En_getU (j := 14) (u := 165) (g' := 41) (q := 0) rfl rfl rfl tgz_159 (by decide +kernel) h321 (by decide +kernel) un_41_165 (fun h340 => ?_)
  refine En_Ps 1 (pc' := 397) (lv' := [(0, .ref 159)]) (st' := [.int ((Int32.ofInt 5)), .ref 165, .int ((Int32.ofInt 0)), .ref 159]) rfl ?_
  refine En_ialdK ((h322 _ _ (inWa tgz_165 (by decide +kernel))).trans h291) rfl (by decide : (Int32.ofInt 5).toInt = 5) tgz_165 (by decide +kernel) h321 (by decide) (lnI (by decide +kernel : LN _ = 226) (by decide)) ?_
  refine En_Ps 2 (pc' := 400) (lv' := [(0, .ref 159)]) (st' := [.int ((y290 - ((Int32.ofInt 1)))), .int ((Int32.ofInt 0)), .ref 159]) rfl ?_
  refine En_top (subI rfl (by decide : (Int32.ofInt 1).toInt = 1) (by first | exact q_93f9478bef h292 | omega) (by first | exact q_9320ba2c05 h293 | omega)) (fun z343 h344 => ?_)
  obtain ⟨z346, h345, h347, h348⟩ := WT_peekI h321 tgz_159 (by decide +kernel : FT 35 11 = (0, 0, 99999)) (by decide +kernel)
  have := (by decide : ((Int32.ofInt 0)).toInt = 0)
  refine En_callV rfl rfl rfl rfl rfl rfl rfl rfl tgz_159 (by decide +kernel) rfl (c_288x σ320 h321 ((Int32.ofInt 0)) z343 (geI (by decide : (Int32.ofInt 0).toInt = 0) (by decide)) (leI (by decide : (Int32.ofInt 0).toInt = 0) (by decide)) (geI rfl (by first | exact q_e2c277696c h344 h292 | omega)) (leI rfl (by first | exact q_f8e0b78f94 h344 h293 | omega)) z324 h325 y294 ((h322 _ _ (inW tgz_159 (by decide +kernel))).trans h295) z326 h327 z346 h345 h333) (by decide) (by decide) (fun v350 σ351 h349 => ?_)
  obtain ⟨h352, h353, z355, h356, z357, h358, z359, rfl, h354⟩ := h349
  have h360 := h354.2.2.2.2.2.2.2.2.2.2.2.2.2.2.2.2
  have h361 := Fr_trans h329 h353 (by decide +kernel)
  have h362 := KF_fr h330 h353 (by decide +kernel)
  have h363 : tN By Nb ((Int32.ofInt 0)).toInt z343.toInt S331 = tN By Nb (0) (S331.2.2.2 5 - 1) S331 := tN_cg2 (fun zz => by have j1 := Imp_m h335 zz; (first | exact q_d2dcd30e56 this | omega)) (fun zz => by have j1 := Imp_m h335 zz; (first | exact q_fc1643fb33 h344 h339 h317 | omega))
  obtain ⟨S364, h365⟩ : ∃ q : PS, q = tN By Nb (0) (S331.2.2.2 5 - 1) S331 := ⟨_, rfl⟩
  have h366 : ML By Nb σ351 S364 := by rw [h365]; exact (ML_eq h360.1 h363)
  have h367 := ML_k h366 h358
  have h368 : Imp (S364.1 = 0) (z359.toInt = tV By Nb S331.2.2.1) := fun z => h360.2 (by rw [h363, ← h365]; exact z)
  have h369 : Imp (S364.1 = 0) (S331.1 = 0 ∧ tK By Nb S331.2.2.1 = 2 ∧ 0 ≤ tV By Nb S331.2.2.1 ∧ tV By Nb S331.2.2.1 ≤ S331.2.2.2 5 - 1) := fun z => tN_gg (by rw [← h365]; exact z)
  have h370 : S364.2.2.2 = S331.2.2.2 := by rw [h365]; exact tN_w
  have h371 := Imp_m h354.2.2.2.2.2.2.2.2.2.2.2.1 (by (first | exact q_c5d285f1b9 this | omega))
  have h372 := Imp_m h354.2.2.2.2.2.2.2.2.2.2.2.2.1 (by (first | exact q_097a37c2ae this | omega))
  refine En_Ps 5 (pc' := 408) (lv' := [(2, .int z359), (0, .ref 159)]) (st' := [.int ((z359 + ((Int32.ofInt 1)))), .ref 159]) rfl ?_
  refine En_top (addI rfl (by decide : (Int32.ofInt 1).toInt = 1) (by first | exact q_f354c56e86 h354.1 | omega) (by first | exact q_6dad0b73ec h354.2.1 | omega)) (fun z373 h374 => ?_)
  refine En_Ps 1 (pc' := 409) (lv' := [(2, .int z359), (0, .ref 159)]) (st' := [.ref 159, .int z373, .ref 159]) rfl ?_
  refine En_getK (j := 14) ((h353 _ _ (inW tgz_159 (by decide +kernel))).trans h340) rfl rfl rfl tgz_159 (by decide +kernel) ?_
  refine En_Ps 1 (pc' := 413) (lv' := [(2, .int z359), (0, .ref 159)]) (st' := [.int ((Int32.ofInt 5)), .ref 165, .int z373, .ref 159]) rfl ?_
  refine En_ialdK ((h353 _ _ (inWa tgz_165 (by decide +kernel))).trans ((h322 _ _ (inWa tgz_165 (by decide +kernel))).trans h291)) rfl (by decide : (Int32.ofInt 5).toInt = 5) tgz_165 (by decide +kernel) h352 (by decide) (lnI (by decide +kernel : LN _ = 226) (by decide)) ?_
  refine En_Ps 2 (pc' := 416) (lv' := [(2, .int z359), (0, .ref 159)]) (st' := [.int ((y290 - ((Int32.ofInt 1)))), .int z373, .ref 159]) rfl ?_
  refine En_top (subI rfl (by decide : (Int32.ofInt 1).toInt = 1) (by first | exact q_93f9478bef h292 | omega) (by first | exact q_9320ba2c05 h293 | omega)) (fun z376 h377 => ?_)
  obtain ⟨z379, h378, h380, h381⟩ := WT_peekI h352 tgz_159 (by decide +kernel : FT 35 10 = (0, 0, 4)) (by decide +kernel)
  obtain ⟨z383, h382, h384, h385⟩ := WT_peekI h352 tgz_159 (by decide +kernel : FT 35 11 = (0, 0, 99999)) (by decide +kernel)
  refine En_callV rfl rfl rfl rfl rfl rfl rfl rfl tgz_159 (by decide +kernel) rfl (c_288x σ351 h352 z373 z376 (geI rfl (by first | exact q_ffbb68b1cf h374 h354.1 | omega)) (leI rfl (by first | exact q_8ea96bb703 h374 h354.2.1 | omega)) (geI rfl (by first | exact q_e2c277696c h377 h292 | omega)) (leI rfl (by first | exact q_f8e0b78f94 h377 h293 | omega)) z355 h356 z357 h358 z379 h378 z383 h382 h366) (by decide) (by decide) (fun v387 σ388 h386 => ?_)
  obtain ⟨h389, h390, z392, h393, z394, h395, z396, rfl, h391⟩ := h386
  have h397 := h391.2.2.2.2.2.2.2.2.2.2.2.2.2.2.2.2
  have h398 := Fr_trans h361 h390 (by decide +kernel)
  have h399 := KF_fr h362 h390 (by decide +kernel)
  have h400 : tN By Nb z373.toInt z376.toInt S364 = tN By Nb ((tV By Nb S331.2.2.1) + 1) (S331.2.2.2 5 - 1) S364 := tN_cg2 (fun zz => by have j1 := Imp_m h368 zz; have j2 := Imp_m h369 zz; have j3 := Imp_m h335 j2.1; (first | exact q_db809bfda5 j1 h374 | omega)) (fun zz => by have j1 := Imp_m h368 zz; have j2 := Imp_m h369 zz; have j3 := Imp_m h335 j2.1; (first | exact q_fc1643fb33 h377 h339 h317 | omega))
  obtain ⟨S401, h402⟩ : ∃ q : PS, q = tN By Nb ((tV By Nb S331.2.2.1) + 1) (S331.2.2.2 5 - 1) S364 := ⟨_, rfl⟩
  have h403 : ML By Nb σ388 S401 := by rw [h402]; exact (ML_eq h397.1 h400)
  have h404 := ML_k h403 h395
  have h405 : Imp (S401.1 = 0) (z396.toInt = tV By Nb S364.2.2.1) := fun z => h397.2 (by rw [h400, ← h402]; exact z)
  have h406 : Imp (S401.1 = 0) (S364.1 = 0 ∧ tK By Nb S364.2.2.1 = 2 ∧ (tV By Nb S331.2.2.1) + 1 ≤ tV By Nb S364.2.2.1 ∧ tV By Nb S364.2.2.1 ≤ S331.2.2.2 5 - 1) := fun z => tN_gg (by rw [← h402]; exact z)
  have h407 : S401.2.2.2 = S364.2.2.2 := by rw [h402]; exact tN_w
  have h408 := Imp_m h391.2.2.2.2.2.2.2.2.2.2.2.2.1 (by first | exact q_70cf9890e7 h374 h354.1 | omega)
  refine En_Ps 2 (pc' := 421) (lv' := [(3, .int z396), (2, .int z359), (0, .ref 159)]) (st' := [.ref 159]) rfl ?_
  refine En_callV rfl rfl rfl rfl rfl rfl rfl rfl tgz_159 (by decide +kernel) rfl (c_237 σ388 h389 z394 h395) (by decide) (by decide) (fun v410 σ411 h409 => ?_)
  obtain ⟨h412, h413, z415, rfl, h414⟩ := h409
  obtain rfl : σ388 = σ411 := Fr_nil h413
  refine En_iEq _ rfl rfl (fun h416 => ?_) (fun h416 => ?_)
  · exact En_ret (v := none) rfl rfl rfl ⟨h389, h398, z392, h393, z394, h395, rfl, ⟨by first | exact q_a555021d16 h391.2.2.1 | omega, by first | exact q_76190b61a3 h391.2.2.2.1 | omega, by (first | exact q_7f30c8742c h391.2.2.2.2.1 h354.2.2.2.2.1 h323.2.2.1 h302 | omega), by first | exact q_a555021d16 h391.2.2.2.2.2.1 | omega, by first | exact q_c733b715bf h391.2.2.2.2.2.2.1 | omega, by (first | exact q_466cb5d1f4 h391.2.2.2.2.2.1 h315 | omega), by (first | exact q_0d74eee9e4 h391.2.2.2.2.1 h354.2.2.2.2.1 h323.2.2.1 h302 | omega), fun _ => by (first | exact q_35a72a35ef h315 | omega), ⟨h399, ML_eq h403 (by subst h402; subst h365; subst h332; rw [gNx_0 h314 hg (by (first | exact q_690e4cf802 h305.2 h305.1 | omega)) (by (first | exact q_690e4cf802 h306.2 h306.1 | omega)) (by (first | exact q_690e4cf802 h307.2 h307.1 | omega)) (by (first | exact q_690e4cf802 h308.2 h308.1 | omega)) (by (first | exact q_690e4cf802 h309.2 h309.1 | omega)) (by (first | exact q_690e4cf802 h310.2 h310.1 | omega)) (by (first | exact q_690e4cf802 h311.2 h311.1 | omega))]; unfold gAhead; (try dsimp only); first | done | (rw [if_pos (by omega)]; first | done | rfl) | (rw [if_neg (by (first | exact q_4abb957687 h414.2.2.2 h416 h404 | omega))]; first | done | rfl))⟩⟩⟩
  · have h417 := Imp_m h354.2.2.2.2.2.2.2.2.2.2.2.2.2.2.2.1 (by (first | exact q_468044b3db h414.2.2.1 h416 h414.1 h391.2.2.2.2.2.2.2.1 | omega))
    have h418 := Imp_m h391.2.2.2.2.2.2.2.2.2.2.2.2.2.1 (by first | exact q_0fcbfd0d34 h377 h344 h417.2.2.2.2.2.2 h417.2.2.2.1 h354.1 | omega)
    have h419 := Imp_m h391.2.2.2.2.2.2.2.2.2.2.2.2.2.2.2.1 (by (first | exact q_59622b1fc0 h414.2.2.1 h416 h414.1 | omega))
    have h420 := Imp_m h323.2.2.2.2.2.2.1 (by first | exact q_89ea7e3615 h417.2.2.1 | omega)
    have h421 := Imp_m h354.2.2.2.2.2.2.2.2.2.2.2.2.2.1 (by first | exact q_78165d07a1 h417.2.2.2.2.2.2 h347 | omega)
    have h422 : S401.1 = 0 := by (first | exact q_1d088e2de8 h404 h391.2.2.2.2.2.1 h414.2.2.1 h416 h414.1 | omega)
    have h423 := Imp_m h405 h422
    have h424 := Imp_m h406 h422
    have h425 := Imp_m h368 h424.1
    have h426 := Imp_m h369 h424.1
    have h427 := Imp_m h335 h426.1
    refine En_Ps 1 (pc' := 428) (lv' := [(3, .int z396), (2, .int z359), (0, .ref 159)]) (st' := [.ref 159]) rfl ?_
    refine En_getK (j := 14) ((h390 _ _ (inW tgz_159 (by decide +kernel))).trans ((h353 _ _ (inW tgz_159 (by decide +kernel))).trans h340)) rfl rfl rfl tgz_159 (by decide +kernel) ?_
    refine En_Ps 4 (pc' := 437) (lv' := [(3, .int z396), (2, .int z359), (0, .ref 159)]) (st' := [.int ((((Int32.ofInt 2)) * z396)), .int (((Int16.ofInt 154).toInt32)), .ref 165]) rfl ?_
    refine En_top (mulI (by decide : (Int32.ofInt 2).toInt = 2) rfl (Z := 2 * z396.toInt) (by first | exact q_9c4c04fc55 | omega) (by first | exact q_36fa9d12a7 h391.1 | omega) (by first | exact q_9cfc87bf13 h391.2.1 | omega)) (fun z428 h429 => ?_)
    refine En_Ps 1 (pc' := 438) (lv' := [(3, .int z396), (2, .int z359), (0, .ref 159)]) (st' := [.int (((((Int16.ofInt 154).toInt32)) + z428)), .ref 165]) rfl ?_
    refine En_top (addI (by decide : ((Int16.ofInt 154).toInt32).toInt = 154) rfl (by first | exact q_d64d5afc83 h429 h419.2.2.2.2.1 h419.2.2.2.2.2.1 h374 h354.1 | omega) (by first | exact q_e0a1d64f9c h429 h419.2.2.2.1 h419.2.2.2.2.2.2 h377 h293 | omega)) (fun z430 h431 => ?_)
    refine En_Ps 2 (pc' := 440) (lv' := [(3, .int z396), (2, .int z359), (0, .ref 159)]) (st' := [.int ((z430 + ((Int32.ofInt 1)))), .ref 165]) rfl ?_
    refine En_top (addI rfl (by decide : (Int32.ofInt 1).toInt = 1) (by first | exact q_05da333434 h431 h429 h419.2.2.2.2.1 h419.2.2.2.2.2.1 h374 h354.1 | omega) (by first | exact q_081a469d1d h431 h429 h419.2.2.2.1 h419.2.2.2.2.2.2 h377 h293 | omega)) (fun z432 h433 => ?_)
    refine En_Ps 1 (pc' := 441) (lv' := [(3, .int z396), (2, .int z359), (0, .ref 159)]) (st' := [.int z432, .ref 165, .int z432, .ref 165]) rfl ?_
    refine En_iald (l := 0) (u := 63) rfl rfl tgz_165 (by decide +kernel) h389 (by first | exact q_9d37ed728b h433 h431 h429 h419.2.2.2.2.1 h419.2.2.2.2.2.1 h374 h354.1 | omega) (lnI (by decide +kernel : LN _ = 226) (by first | exact q_d5784f9e57 h433 h431 h429 h419.2.2.2.1 h419.2.2.2.2.2.2 h377 h293 | omega)) (FTrow 41 157 2 5 (by decide +kernel) (by first | exact q_91fa7383b1 h433 h431 h429 h419.2.2.2.2.1 h419.2.2.2.2.2.1 h374 h354.1 | omega) (by first | exact q_fc8ef87f00 h433 h431 h429 h419.2.2.2.1 h419.2.2.2.2.2.2 h377 h293 | omega) (by first | exact q_951b0f7e1b h429 h431 h433 | omega)) (fun z435 h434 h436 h437 => ?_)
    have h438 : S401.2.2.2 (155 + 2 * (tV By Nb S364.2.2.1)) = z435.toInt := ML_wi h403 (by (first | exact q_d2dcd30e56 h422 | omega)) h434 (by (first | exact q_67954264e9 h433 h431 h429 h423 | omega)) (by (first | exact q_3bde8bfdec h424.2.2.1 h426.2.2.1 | omega)) (by (first | exact q_12b504ea33 h424.2.2.2 h339 h317 h293 | omega))
    rw [h407, h370] at h438
    refine En_Ps 4 (pc' := 446) (lv' := [(3, .int z396), (2, .int z359), (0, .ref 159)]) (st' := [.int ((z435 ||| ((Int32.ofInt 1) <<< (z359 &&& 31)))), .int z432, .ref 165]) rfl ?_
    refine En_nam (fun z439 h440 => ?_)
    have h441 := orP_v (x := z435) (y := z359) h440 rfl rfl (by (first | exact q_58e6e51dcc h436 | omega)) (by (first | exact q_8bf848900a h437 | omega)) (by (first | exact q_ef1e8e38bf h372 | omega)) (by (first | exact q_a97a277f8d h419.2.2.2.2.2.1 h419.2.2.2.2.2.2 h377 h374 h293 | omega))
    have h442 : z439.toInt = orP (S331.2.2.2 (155 + 2 * (tV By Nb S364.2.2.1))) (tV By Nb S331.2.2.1) := by rw [h441.1]; exact orP_cg (by (first | exact q_a8fb2024c1 h438 | omega)) (by (first | exact q_b1495600e7 h425 | omega))
    refine En_iast (l := 0) (u := 63) rfl rfl tgz_165 (by decide +kernel) (by first | exact q_9d37ed728b h433 h431 h429 h419.2.2.2.2.1 h419.2.2.2.2.2.1 h374 h354.1 | omega) (lnI (by decide +kernel : LN _ = 226) (by first | exact q_d5784f9e57 h433 h431 h429 h419.2.2.2.1 h419.2.2.2.2.2.2 h377 h293 | omega)) (FTrow 41 157 2 5 (by decide +kernel) (by first | exact q_91fa7383b1 h433 h431 h429 h419.2.2.2.2.1 h419.2.2.2.2.2.1 h374 h354.1 | omega) (by first | exact q_fc8ef87f00 h433 h431 h429 h419.2.2.2.1 h419.2.2.2.2.2.2 h377 h293 | omega) (by first | exact q_951b0f7e1b h429 h431 h433 | omega)) (rngI rfl (by (first | exact q_58e6e51dcc h441.2.1 | omega)) (by (first | exact q_8bf848900a h441.2.2 | omega))) h389 h398 (by decide +kernel) (fun σ443 h444 h445 h446 h447 => ?_)
    have h448 := KF_st h399 (J := z432.toInt) h447 (by (first | exact q_2be3684535 h433 h431 h429 h408 | omega)) (by (first | exact q_591b79144a h433 h431 h429 h408 | omega))
    obtain ⟨S449, h450⟩ : ∃ q : PS, q = wst S401 (155 + 2 * (tV By Nb S364.2.2.1)) (orP (S331.2.2.2 (155 + 2 * (tV By Nb S364.2.2.1))) (tV By Nb S331.2.2.1)) := ⟨_, rfl⟩
    have h451 : ML By Nb σ443 S449 := by rw [h450]; exact (ML_wst (i := 155 + 2 * (tV By Nb S364.2.2.1)) (v := orP (S331.2.2.2 (155 + 2 * (tV By Nb S364.2.2.1))) (tV By Nb S331.2.2.1)) h403 h446 h447 (by (first | exact q_2be3684535 h433 h431 h429 h408 | omega)) (fun z => by have j1 := Imp_m h405 z; have j2 := Imp_m h406 z; have j3 := Imp_m h368 j2.1; have j4 := Imp_m h369 j2.1; have j5 := Imp_m h335 j4.1; exact ⟨by (first | exact q_65ea6596f5 j1 h433 h431 h429 | omega), by (first | exact q_a8fb2024c1 h442 | omega)⟩))
    have h452 := ML_k h451 ((h447 _ _ (Or.inl (neTG tgz_159 tgz_165 (by decide)))).trans h395)
    have h453 : S449.1 = S401.1 := by rw [h450]; rfl
    exact En_ret (v := none) rfl rfl rfl ⟨h444, h445, z392, ((h447 _ _ (Or.inl (neTG tgz_159 tgz_165 (by decide)))).trans h393), z394, ((h447 _ _ (Or.inl (neTG tgz_159 tgz_165 (by decide)))).trans h395), rfl, ⟨by first | exact q_a555021d16 h391.2.2.1 | omega, by first | exact q_76190b61a3 h391.2.2.2.1 | omega, by (first | exact q_641de9f750 h391.2.2.2.2.1 h354.2.2.2.2.1 h302 h420 | omega), by first | exact q_a555021d16 h391.2.2.2.2.2.1 | omega, by first | exact q_c733b715bf h391.2.2.2.2.2.2.1 | omega, by (first | exact q_466cb5d1f4 h391.2.2.2.2.2.1 h315 | omega), by (first | exact q_b542297cb3 h391.2.2.2.2.1 h354.2.2.2.2.1 h302 h420 | omega), fun _ => by (first | exact q_35a72a35ef h315 | omega), ⟨h448, ML_eq h451 (by subst h450; subst h402; subst h365; subst h332; rw [gNx_0 h314 hg (by (first | exact q_690e4cf802 h305.2 h305.1 | omega)) (by (first | exact q_690e4cf802 h306.2 h306.1 | omega)) (by (first | exact q_690e4cf802 h307.2 h307.1 | omega)) (by (first | exact q_690e4cf802 h308.2 h308.1 | omega)) (by (first | exact q_690e4cf802 h309.2 h309.1 | omega)) (by (first | exact q_690e4cf802 h310.2 h310.1 | omega)) (by (first | exact q_690e4cf802 h311.2 h311.1 | omega))]; unfold gAhead; (try dsimp only); first | done | (rw [if_pos (by (first | exact q_d2dcd30e56 h422 | omega))]; first | done | rfl) | (rw [if_neg (by omega)]; first | done | rfl))⟩⟩⟩
set_option maxRecDepth 10000 in
set_option maxHeartbeats 4000000 in
theorem k_302x_170 {By : Int → Int} {Nb : Int} {Sp : PS} (σ0 : SG) (hσ0 : WT σ0) (f : Int32) (h_f : (σ0 159)[8]? = some (Value.int f)) (k : Int32) (h_k : (σ0 159)[12]? = some (Value.int k)) (hM : ML By Nb σ0 Sp) (hg : Sp.1 = 0) : ∀ (σ454 : SG) (y457 : Int32) (y461 : Int32) (y465 : Int32) (y469 : Int32) (y473 : Int32) (y477 : Int32), WT σ454 → Fr [(35, 8), (35, 9), (35, 10), (35, 11), (35, 12), (35, 13), (41, 0)] σ0 σ454 → (σ454 165)[(2 : Int).toNat]? = some (Value.int y457) → 0 ≤ y457.toInt → y457.toInt ≤ 4 → (σ454 165)[(3 : Int).toNat]? = some (Value.int y461) → 0 ≤ y461.toInt → y461.toInt ≤ 12 → (σ454 165)[(4 : Int).toNat]? = some (Value.int y465) → 0 ≤ y465.toInt → y465.toInt ≤ 4 → (σ454 165)[(5 : Int).toNat]? = some (Value.int y469) → 0 ≤ y469.toInt → y469.toInt ≤ 6 → (σ454 159)[12]? = some (Value.int y473) → 0 ≤ y473.toInt → y473.toInt ≤ 3 → (σ454 159)[8]? = some (Value.int y477) → 0 ≤ y477.toInt → y477.toInt ≤ 1600 → f.toInt - y477.toInt ≤ 0 → Imp (y473.toInt ≤ 0) (k.toInt ≤ 0) → Imp (y473.toInt ≤ 0 ∧ -(iW By Nb 2 Sp) + 1 ≤ 0) (y457.toInt - 3 ≤ 0) → Imp (y473.toInt ≤ 0 ∧ -(iW By Nb 3 Sp) + 1 ≤ 0) (y461.toInt - 11 ≤ 0) → Imp (y473.toInt ≤ 0 ∧ -(iW By Nb 5 Sp) + 1 ≤ 0) (y465.toInt - 3 ≤ 0) → Imp (y473.toInt ≤ 0 ∧ -(iW By Nb 1 Sp) + 1 ≤ 0) (y469.toInt - 5 ≤ 0) → KF σ0 σ454 → ML By Nb σ454 (gN2 By Nb (gN1 By Nb Sp)) → En 9 200 none mr_302 (P_302x σ0 By Nb Sp f k) 170 [(0, .ref 159)] [] σ454 := by
  obtain ⟨hl_f, hu_f⟩ := WT_int hσ0 (g := 35) (by decide +kernel) (by decide +kernel) (l := 0) (u := 1600) (by decide +kernel) h_f
  obtain ⟨hl_k, hu_k⟩ := WT_int hσ0 (g := 35) (by decide +kernel) (by decide +kernel) (l := 0) (u := 3) (by decide +kernel) h_k
  have hF0 : Fr [(35, 8), (35, 9), (35, 10), (35, 11), (35, 12), (35, 13), (41, 0)] σ0 σ0 := Fr_rfl
  have keyj219 := k_302x_219 σ0 hσ0 f h_f k h_k hM hg
  have keyj309 := k_302x_309 σ0 hσ0 f h_f k h_k hM hg
  have keyj347 := k_302x_347 σ0 hσ0 f h_f k h_k hM hg
  have keyj386 := k_302x_386 σ0 hσ0 f h_f k h_k hM hg
  intro σ454 y457 y461 y465 y469 y473 y477 h455 h456 h458 h459 h460 h462 h463 h464 h466 h467 h468 h470 h471 h472 h474 h475 h476 h478 h479 h480 h481 h482 h483 h484 h485 h486 h487 h488
  have h489 := ML_k h488 h474
  refine En_Ps 1 (pc' := 171) (lv' := [(0, .ref 159)]) (st' := [.ref 159]) rfl ?_
  refine En_callV rfl rfl rfl rfl rfl rfl rfl rfl tgz_159 (by decide +kernel) rfl (c_237 σ454 h455 y473 h474) (by decide) (by decide) (fun v491 σ492 h490 => ?_)
  obtain ⟨h493, h494, z496, rfl, h495⟩ := h490
  obtain rfl : σ454 = σ492 := Fr_nil h494
  refine En_iNe _ rfl rfl (fun h497 => ?_) (fun h497 => ?_)
  · have h498 := Imp_m h482 (by (first | exact q_59622b1fc0 h495.2.2.1 h497 h495.1 | omega))
    have h499 : gN2 By Nb (gN1 By Nb Sp) = Sp := gN12_id (by (first | exact q_4c9c2433b9 h489 h475 h495.2.2.1 h497 h495.1 | omega))
    have h500 : ML By Nb σ454 Sp := ML_eq h488 h499
    have h502 := ML_k h500 h474
    have h503 := ML_w h500 hg h458 (by (first | decide | omega)) (by (first | decide | omega))
    have h504 := ML_w h500 hg h462 (by (first | decide | omega)) (by (first | decide | omega))
    have h505 := ML_w h500 hg h466 (by (first | decide | omega)) (by (first | decide | omega))
    have h506 := ML_w h500 hg h470 (by (first | decide | omega)) (by (first | decide | omega))
    refine En_Ps 1 (pc' := 179) (lv' := [(0, .ref 159)]) (st' := [.ref 159]) rfl ?_
    refine En_ldcS (i := 2) rfl rfl rfl ?_
    refine En_callV rfl rfl rfl rfl rfl rfl rfl rfl tgz_159 (by decide +kernel) rfl (c_318s2x σ454 h455 y477 h478 h500) (by decide) (by decide) (fun v508 σ509 h507 => ?_)
    obtain ⟨h510, h511, z513, h514, z515, rfl, h512⟩ := h507
    have h516 := h512.2.2.2.2.2.2
    have h517 := Fr_trans h456 h511 (by decide +kernel)
    have h518 := KF_fr h487 h511 (by decide +kernel)
    have h519 := h516.2.1
    refine En_iEq _ rfl rfl (fun h520 => ?_) (fun h520 => ?_)
    · obtain rfl : σ454 = σ509 := h516.1 (by (first | exact q_d2dcd30e56 h520 | omega))
      refine En_Ps 1 (pc' := 195) (lv' := [(0, .ref 159)]) (st' := [.ref 159]) rfl ?_
      refine En_ldcS (i := 6) rfl rfl rfl ?_
      refine En_callV rfl rfl rfl rfl rfl rfl rfl rfl tgz_159 (by decide +kernel) rfl (c_318s6x σ454 h455 y477 h478 h500) (by decide) (by decide) (fun v522 σ523 h521 => ?_)
      obtain ⟨h524, h525, z527, h528, z529, rfl, h526⟩ := h521
      have h530 := h526.2.2.2.2.2.2
      have h531 := Fr_trans h456 h525 (by decide +kernel)
      have h532 := KF_fr h487 h525 (by decide +kernel)
      have h533 := h530.2.1
      refine En_iEq _ rfl rfl (fun h534 => ?_) (fun h534 => ?_)
      · obtain rfl : σ454 = σ523 := h530.1 (by (first | exact q_d2dcd30e56 h534 | omega))
        refine En_Ps 1 (pc' := 211) (lv' := [(0, .ref 159)]) (st' := [.ref 159]) rfl ?_
        refine En_ldcS (i := 3) rfl rfl rfl ?_
        refine En_callV rfl rfl rfl rfl rfl rfl rfl rfl tgz_159 (by decide +kernel) rfl (c_318s3x σ454 h455 y477 h478 h500) (by decide) (by decide) (fun v536 σ537 h535 => ?_)
        obtain ⟨h538, h539, z541, h542, z543, rfl, h540⟩ := h535
        have h544 := h540.2.2.2.2.2.2
        have h545 := Fr_trans h456 h539 (by decide +kernel)
        have h546 := KF_fr h487 h539 (by decide +kernel)
        have h547 := h544.2.1
        refine En_iEq _ rfl rfl (fun h548 => ?_) (fun h548 => ?_)
        · obtain rfl : σ454 = σ537 := h544.1 (by (first | exact q_d2dcd30e56 h548 | omega))
          refine En_Ps 1 (pc' := 267) (lv' := [(0, .ref 159)]) (st' := [.ref 159]) rfl ?_
          refine En_ldcS (i := 17) rfl rfl rfl ?_
          refine En_callV rfl rfl rfl rfl rfl rfl rfl rfl tgz_159 (by decide +kernel) rfl (c_318s17x σ454 h455 y477 h478 h500) (by decide) (by decide) (fun v550 σ551 h549 => ?_)
          obtain ⟨h552, h553, z555, h556, z557, rfl, h554⟩ := h549
          have h558 := h554.2.2.2.2.2.2
          have h559 := Fr_trans h456 h553 (by decide +kernel)
          have h560 := KF_fr h487 h553 (by decide +kernel)
          have h561 := h558.2.1
          refine En_iEq _ rfl rfl (fun h562 => ?_) (fun h562 => ?_)
          · obtain rfl : σ454 = σ551 := h558.1 (by (first | exact q_d2dcd30e56 h562 | omega))
            refine En_Ps 1 (pc' := 283) (lv' := [(0, .ref 159)]) (st' := [.ref 159]) rfl ?_
            refine En_ldcS (i := 9) rfl rfl rfl ?_
            refine En_callV rfl rfl rfl rfl rfl rfl rfl rfl tgz_159 (by decide +kernel) rfl (c_318s9x σ454 h455 y477 h478 h500) (by decide) (by decide) (fun v564 σ565 h563 => ?_)
            obtain ⟨h566, h567, z569, h570, z571, rfl, h568⟩ := h563
            have h572 := h568.2.2.2.2.2.2
            have h573 := Fr_trans h456 h567 (by decide +kernel)
            have h574 := KF_fr h487 h567 (by decide +kernel)
            have h575 := h572.2.1
            refine En_iEq _ rfl rfl (fun h576 => ?_) (fun h576 => ?_)
            · obtain rfl : σ454 = σ565 := h572.1 (by (first | exact q_d2dcd30e56 h576 | omega))
              refine En_Ps 1 (pc' := 301) (lv' := [(0, .ref 159)]) (st' := [.ref 159]) rfl ?_
              refine En_ldcS (i := 5) rfl rfl rfl ?_
              refine En_callV rfl rfl rfl rfl rfl rfl rfl rfl tgz_159 (by decide +kernel) rfl (c_318s5x σ454 h455 y477 h478 h500) (by decide) (by decide) (fun v578 σ579 h577 => ?_)
              obtain ⟨h580, h581, z583, h584, z585, rfl, h582⟩ := h577
              have h586 := h582.2.2.2.2.2.2
              have h587 := Fr_trans h456 h581 (by decide +kernel)
              have h588 := KF_fr h487 h581 (by decide +kernel)
              have h589 := h586.2.1
              refine En_iEq _ rfl rfl (fun h590 => ?_) (fun h590 => ?_)
              · obtain rfl : σ454 = σ579 := h586.1 (by (first | exact q_d2dcd30e56 h590 | omega))
                refine En_Ps 1 (pc' := 339) (lv' := [(0, .ref 159)]) (st' := [.ref 159]) rfl ?_
                refine En_ldcS (i := 1) rfl rfl rfl ?_
                refine En_callV rfl rfl rfl rfl rfl rfl rfl rfl tgz_159 (by decide +kernel) rfl (c_318s1x σ454 h455 y477 h478 h500) (by decide) (by decide) (fun v592 σ593 h591 => ?_)
                obtain ⟨h594, h595, z597, h598, z599, rfl, h596⟩ := h591
                have h600 := h596.2.2.2.2.2.2
                have h601 := Fr_trans h456 h595 (by decide +kernel)
                have h602 := KF_fr h487 h595 (by decide +kernel)
                have h603 := h600.2.1
                refine En_iEq _ rfl rfl (fun h604 => ?_) (fun h604 => ?_)
                · exact keyj386 σ593 y469 y473 z597 h594 h601 ((h595 _ _ (inWa tgz_165 (by decide +kernel))).trans h470) (by first | exact q_58e6e51dcc h471 | omega) (by first | exact q_615333d33f h472 | omega) ((h595 _ _ (inW tgz_159 (by decide +kernel))).trans h474) (by first | exact q_58e6e51dcc h475 | omega) (by first | exact q_da5e9b976f h476 | omega) h598 (by first | exact q_ef1e8e38bf h596.2.2.1 | omega) (by first | exact q_70de3c5e42 h596.2.2.2.1 | omega) (by (first | exact q_ceffd08dbb h596.2.2.2.2.1 h481 | omega)) (fun _ => by (first | exact q_35a72a35ef h498 | omega)) (by (first | exact q_d8d8e6600d h502 hg | omega)) (by (first | exact q_2ee66fe9a3 h516.2.1 h520 h512.1 | omega)) (by (first | exact q_2ee66fe9a3 h530.2.1 h534 h526.1 | omega)) (by (first | exact q_2ee66fe9a3 h544.2.1 h548 h540.1 | omega)) (by (first | exact q_2ee66fe9a3 h558.2.1 h562 h554.1 | omega)) (by (first | exact q_2ee66fe9a3 h572.2.1 h576 h568.1 | omega)) (by (first | exact q_2ee66fe9a3 h586.2.1 h590 h582.1 | omega)) (by (first | exact q_6ff4419201 h603 h604 | omega)) (h602) ((h600.1 (by (first | exact q_d2dcd30e56 h604 | omega))) ▸ h500) (h499)
                · have h605 := Imp_m h486 (by (first | exact q_1d75873070 h502 hg h604 h596.1 h603 | omega))
                  exact keyj347 σ593 y469 y473 z597 h594 h601 ((h595 _ _ (inWa tgz_165 (by decide +kernel))).trans h470) (by first | exact q_58e6e51dcc h471 | omega) (by first | exact q_615333d33f h472 | omega) ((h595 _ _ (inW tgz_159 (by decide +kernel))).trans h474) (by first | exact q_58e6e51dcc h475 | omega) (by first | exact q_da5e9b976f h476 | omega) h598 (by first | exact q_ef1e8e38bf h596.2.2.1 | omega) (by first | exact q_70de3c5e42 h596.2.2.2.1 | omega) (by (first | exact q_ceffd08dbb h596.2.2.2.2.1 h481 | omega)) (fun _ => by (first | exact q_35a72a35ef h498 | omega)) (by (first | exact q_d8d8e6600d h502 hg | omega)) (by (first | exact q_11065b9b65 h605 | omega)) (by (first | exact q_2ee66fe9a3 h516.2.1 h520 h512.1 | omega)) (by (first | exact q_2ee66fe9a3 h530.2.1 h534 h526.1 | omega)) (by (first | exact q_2ee66fe9a3 h544.2.1 h548 h540.1 | omega)) (by (first | exact q_2ee66fe9a3 h558.2.1 h562 h554.1 | omega)) (by (first | exact q_2ee66fe9a3 h572.2.1 h576 h568.1 | omega)) (by (first | exact q_2ee66fe9a3 h586.2.1 h590 h582.1 | omega)) (by (first | exact q_cc8e0ba6dd h603 h596.2.1 h604 h596.1 | omega)) (h602) (h600.2.2 (by (first | exact q_bd6a018c53 h604 h596.1 h596.2.1 | omega))) (h499)
              · have h606 := Imp_m h485 (by (first | exact q_1d75873070 h502 hg h590 h582.1 h589 | omega))
                exact keyj309 σ579 y465 y473 z583 h580 h587 ((h581 _ _ (inWa tgz_165 (by decide +kernel))).trans h466) (by first | exact q_58e6e51dcc h467 | omega) (by first | exact q_c82ed93a8c h468 | omega) ((h581 _ _ (inW tgz_159 (by decide +kernel))).trans h474) (by first | exact q_58e6e51dcc h475 | omega) (by first | exact q_da5e9b976f h476 | omega) h584 (by first | exact q_ef1e8e38bf h582.2.2.1 | omega) (by first | exact q_70de3c5e42 h582.2.2.2.1 | omega) (by (first | exact q_ceffd08dbb h582.2.2.2.2.1 h481 | omega)) (fun _ => by (first | exact q_35a72a35ef h498 | omega)) (by (first | exact q_d8d8e6600d h502 hg | omega)) (by (first | exact q_c733b715bf h606 | omega)) (by (first | exact q_2ee66fe9a3 h516.2.1 h520 h512.1 | omega)) (by (first | exact q_2ee66fe9a3 h530.2.1 h534 h526.1 | omega)) (by (first | exact q_2ee66fe9a3 h544.2.1 h548 h540.1 | omega)) (by (first | exact q_2ee66fe9a3 h558.2.1 h562 h554.1 | omega)) (by (first | exact q_2ee66fe9a3 h572.2.1 h576 h568.1 | omega)) (by (first | exact q_cc8e0ba6dd h589 h582.2.1 h590 h582.1 | omega)) (h588) (h586.2.2 (by (first | exact q_bd6a018c53 h590 h582.1 h582.2.1 | omega))) (h499)
            · have h607 : Sp.1 = 0 := iW_g (i := 9) (B := By) (n := Nb) (by (first | exact q_8c31a76373 h576 h568.1 h575 h568.2.1 | omega))
              obtain ⟨S608, h609⟩ : ∃ q : PS, q = adv By Nb Sp := ⟨_, rfl⟩
              have h610 : ML By Nb σ565 S608 := by rw [h609]; exact h572.2.2 (by (first | exact q_bd6a018c53 h576 h568.1 h568.2.1 | omega))
              have h611 := ML_k h610 ((h567 _ _ (inW tgz_159 (by decide +kernel))).trans h474)
              have h612 : S608.2.2.2 = Sp.2.2.2 := by rw [h609]; exact adv_w
              have h613 : S608.1 = 0 := by rw [h609, adv_1]; exact h607
              have h614 : S608.2.2.2 0 = Sp.2.2.2 0 := by rw [h612]
              have h615 : S608.2.2.2 2 = Sp.2.2.2 2 := by rw [h612]
              have h616 : S608.2.2.2 3 = Sp.2.2.2 3 := by rw [h612]
              have h617 : S608.2.2.2 4 = Sp.2.2.2 4 := by rw [h612]
              have h618 : S608.2.2.2 5 = Sp.2.2.2 5 := by rw [h612]
              refine En_Ps 2 (pc' := 294) (lv' := [(0, .ref 159)]) (st' := [.int (((Int8.ofInt 8).toInt32)), .ref 159]) rfl ?_
              have := (by decide : (((Int8.ofInt 8).toInt32)).toInt = 8)
              refine En_callV rfl rfl rfl rfl rfl rfl rfl rfl tgz_159 (by decide +kernel) rfl (c_303ax σ565 h566 (((Int8.ofInt 8).toInt32)) (geI (by decide : ((Int8.ofInt 8).toInt32).toInt = 8) (by decide)) (leI (by decide : ((Int8.ofInt 8).toInt32).toInt = 8) (by decide)) z569 h570 y473 ((h567 _ _ (inW tgz_159 (by decide +kernel))).trans h474) h610 (by (first | exact q_d2dcd30e56 h613 | omega))) (by decide) (by decide) (fun v620 σ621 h619 => ?_)
              obtain ⟨h622, h623, z625, h626, z627, h628, rfl, h624⟩ := h619
              have h629 := h624.2.2.2.2.2.2.2.2
              have h630 := Fr_trans h573 h623 (by decide +kernel)
              have h631 := KF_tr h574 (KF_of h629.1)
              obtain ⟨S632, h633⟩ : ∃ q : PS, q = gRule By Nb (8) S608 := ⟨_, rfl⟩
              have h634 : ML By Nb σ621 S632 := by rw [h633]; exact (ML_eq h629.2 (gRule_cg (by (first | exact q_120e832ffa this | omega))))
              have h635 := ML_k h634 h628
              refine En_Ps 1 (pc' := 447) (lv' := [(0, .ref 159)]) (st' := []) rfl ?_
              exact En_ret (v := none) rfl rfl rfl ⟨h622, h630, z625, h626, z627, h628, rfl, ⟨by first | exact q_a555021d16 h624.1 | omega, by first | exact q_76190b61a3 h624.2.1 | omega, by (first | exact q_e2ad540b1d h624.2.2.1 h568.2.2.2.2.1 h481 | omega), by first | exact q_a555021d16 h624.2.2.2.1 | omega, by first | exact q_c733b715bf h624.2.2.2.2.1 | omega, by (first | exact q_466cb5d1f4 h624.2.2.2.1 h498 | omega), by (first | exact q_302faadb73 h624.2.2.1 h568.2.2.2.2.1 h481 | omega), fun _ => by (first | exact q_35a72a35ef h498 | omega), ⟨h631, ML_eq h634 (by subst h633; subst h609; rw [gNx_9 h499 hg (by (first | exact q_932833a211 h516.2.1 h512.1 h520 | omega)) (by (first | exact q_932833a211 h530.2.1 h526.1 h534 | omega)) (by (first | exact q_932833a211 h544.2.1 h540.1 h548 | omega)) (by (first | exact q_932833a211 h558.2.1 h554.1 h562 | omega)) (by (first | exact q_8c31a76373 h576 h568.1 h575 h568.2.1 | omega))])⟩⟩⟩
          · have h636 : Sp.1 = 0 := iW_g (i := 17) (B := By) (n := Nb) (by (first | exact q_8c31a76373 h562 h554.1 h561 h554.2.1 | omega))
            obtain ⟨S637, h638⟩ : ∃ q : PS, q = adv By Nb Sp := ⟨_, rfl⟩
            have h639 : ML By Nb σ551 S637 := by rw [h638]; exact h558.2.2 (by (first | exact q_bd6a018c53 h562 h554.1 h554.2.1 | omega))
            have h640 := ML_k h639 ((h553 _ _ (inW tgz_159 (by decide +kernel))).trans h474)
            have h641 : S637.2.2.2 = Sp.2.2.2 := by rw [h638]; exact adv_w
            have h642 : S637.1 = 0 := by rw [h638, adv_1]; exact h636
            have h643 : S637.2.2.2 0 = Sp.2.2.2 0 := by rw [h641]
            have h644 : S637.2.2.2 2 = Sp.2.2.2 2 := by rw [h641]
            have h645 : S637.2.2.2 3 = Sp.2.2.2 3 := by rw [h641]
            have h646 : S637.2.2.2 4 = Sp.2.2.2 4 := by rw [h641]
            have h647 : S637.2.2.2 5 = Sp.2.2.2 5 := by rw [h641]
            refine En_Ps 1 (pc' := 276) (lv' := [(0, .ref 159)]) (st' := [.ref 159]) rfl ?_
            refine En_callV rfl rfl rfl rfl rfl rfl rfl rfl tgz_159 (by decide +kernel) rfl (c_304x σ551 h552 z555 h556 y473 ((h553 _ _ (inW tgz_159 (by decide +kernel))).trans h474) h639 (by (first | exact q_d2dcd30e56 h642 | omega))) (by decide) (by decide) (fun v649 σ650 h648 => ?_)
            obtain ⟨h651, h652, z654, h655, z656, h657, rfl, h653⟩ := h648
            have h658 := h653.2.2.2.2.2.2.2.2
            have h659 := Fr_trans h559 h652 (by decide +kernel)
            have h660 := KF_tr h560 h658.1
            obtain ⟨S661, h662⟩ : ∃ q : PS, q = gTwin By Nb S637 := ⟨_, rfl⟩
            have h663 : ML By Nb σ650 S661 := by rw [h662]; exact h658.2
            have h664 := ML_k h663 h657
            refine En_Ps 1 (pc' := 447) (lv' := [(0, .ref 159)]) (st' := []) rfl ?_
            exact En_ret (v := none) rfl rfl rfl ⟨h651, h659, z654, h655, z656, h657, rfl, ⟨by first | exact q_a555021d16 h653.1 | omega, by first | exact q_76190b61a3 h653.2.1 | omega, by (first | exact q_e2ad540b1d h653.2.2.1 h554.2.2.2.2.1 h481 | omega), by first | exact q_a555021d16 h653.2.2.2.1 | omega, by first | exact q_c733b715bf h653.2.2.2.2.1 | omega, by (first | exact q_466cb5d1f4 h653.2.2.2.1 h498 | omega), by (first | exact q_302faadb73 h653.2.2.1 h554.2.2.2.2.1 h481 | omega), fun _ => by (first | exact q_35a72a35ef h498 | omega), ⟨h660, ML_eq h663 (by subst h662; subst h638; rw [gNx_17 h499 hg (by (first | exact q_932833a211 h516.2.1 h512.1 h520 | omega)) (by (first | exact q_932833a211 h530.2.1 h526.1 h534 | omega)) (by (first | exact q_932833a211 h544.2.1 h540.1 h548 | omega)) (by (first | exact q_8c31a76373 h562 h554.1 h561 h554.2.1 | omega))])⟩⟩⟩
        · have h665 := Imp_m h484 (by (first | exact q_1d75873070 h502 hg h548 h540.1 h547 | omega))
          exact keyj219 σ537 y461 y473 z541 h538 h545 ((h539 _ _ (inWa tgz_165 (by decide +kernel))).trans h462) (by first | exact q_58e6e51dcc h463 | omega) (by first | exact q_7c77837619 h464 | omega) ((h539 _ _ (inW tgz_159 (by decide +kernel))).trans h474) (by first | exact q_58e6e51dcc h475 | omega) (by first | exact q_da5e9b976f h476 | omega) h542 (by first | exact q_ef1e8e38bf h540.2.2.1 | omega) (by first | exact q_70de3c5e42 h540.2.2.2.1 | omega) (by (first | exact q_ceffd08dbb h540.2.2.2.2.1 h481 | omega)) (fun _ => by (first | exact q_35a72a35ef h498 | omega)) (by (first | exact q_d8d8e6600d h502 hg | omega)) (by (first | exact q_bc2d82fcfa h665 | omega)) (by (first | exact q_2ee66fe9a3 h516.2.1 h520 h512.1 | omega)) (by (first | exact q_2ee66fe9a3 h530.2.1 h534 h526.1 | omega)) (by (first | exact q_cc8e0ba6dd h547 h540.2.1 h548 h540.1 | omega)) (h546) (h544.2.2 (by (first | exact q_bd6a018c53 h548 h540.1 h540.2.1 | omega))) (h499)
      · have h666 : Sp.1 = 0 := iW_g (i := 6) (B := By) (n := Nb) (by (first | exact q_8c31a76373 h534 h526.1 h533 h526.2.1 | omega))
        obtain ⟨S667, h668⟩ : ∃ q : PS, q = adv By Nb Sp := ⟨_, rfl⟩
        have h669 : ML By Nb σ523 S667 := by rw [h668]; exact h530.2.2 (by (first | exact q_bd6a018c53 h534 h526.1 h526.2.1 | omega))
        have h670 := ML_k h669 ((h525 _ _ (inW tgz_159 (by decide +kernel))).trans h474)
        have h671 : S667.2.2.2 = Sp.2.2.2 := by rw [h668]; exact adv_w
        have h672 : S667.1 = 0 := by rw [h668, adv_1]; exact h666
        have h673 : S667.2.2.2 0 = Sp.2.2.2 0 := by rw [h671]
        have h674 : S667.2.2.2 2 = Sp.2.2.2 2 := by rw [h671]
        have h675 : S667.2.2.2 3 = Sp.2.2.2 3 := by rw [h671]
        have h676 : S667.2.2.2 4 = Sp.2.2.2 4 := by rw [h671]
        have h677 : S667.2.2.2 5 = Sp.2.2.2 5 := by rw [h671]
        refine En_Ps 1 (pc' := 204) (lv' := [(0, .ref 159)]) (st' := [.ref 159]) rfl ?_
        refine En_callV rfl rfl rfl rfl rfl rfl rfl rfl tgz_159 (by decide +kernel) rfl (c_300x σ523 h524 z527 h528 y473 ((h525 _ _ (inW tgz_159 (by decide +kernel))).trans h474) h669 (by (first | exact q_d2dcd30e56 h672 | omega))) (by decide) (by decide) (fun v679 σ680 h678 => ?_)
        obtain ⟨h681, h682, z684, h685, z686, h687, rfl, h683⟩ := h678
        have h688 := h683.2.2.2.2.2.2.2.2
        have h689 := Fr_trans h531 h682 (by decide +kernel)
        have h690 := KF_tr h532 h688.1
        obtain ⟨S691, h692⟩ : ∃ q : PS, q = gLesson By Nb S667 := ⟨_, rfl⟩
        have h693 : ML By Nb σ680 S691 := by rw [h692]; exact h688.2
        have h694 := ML_k h693 h687
        refine En_Ps 1 (pc' := 447) (lv' := [(0, .ref 159)]) (st' := []) rfl ?_
        exact En_ret (v := none) rfl rfl rfl ⟨h681, h689, z684, h685, z686, h687, rfl, ⟨by first | exact q_a555021d16 h683.1 | omega, by first | exact q_76190b61a3 h683.2.1 | omega, by (first | exact q_e2ad540b1d h683.2.2.1 h526.2.2.2.2.1 h481 | omega), by first | exact q_a555021d16 h683.2.2.2.1 | omega, by first | exact q_c733b715bf h683.2.2.2.2.1 | omega, by (first | exact q_466cb5d1f4 h683.2.2.2.1 h498 | omega), by (first | exact q_302faadb73 h683.2.2.1 h526.2.2.2.2.1 h481 | omega), fun _ => by (first | exact q_35a72a35ef h498 | omega), ⟨h690, ML_eq h693 (by subst h692; subst h668; rw [gNx_6 h499 hg (by (first | exact q_932833a211 h516.2.1 h512.1 h520 | omega)) (by (first | exact q_8c31a76373 h534 h526.1 h533 h526.2.1 | omega))])⟩⟩⟩
    · have h695 := Imp_m h483 (by (first | exact q_1d75873070 h502 hg h520 h512.1 h519 | omega))
      have h696 : Sp.1 = 0 := iW_g (i := 2) (B := By) (n := Nb) (by (first | exact q_8c31a76373 h520 h512.1 h519 h512.2.1 | omega))
      obtain ⟨S697, h698⟩ : ∃ q : PS, q = adv By Nb Sp := ⟨_, rfl⟩
      have h699 : ML By Nb σ509 S697 := by rw [h698]; exact h516.2.2 (by (first | exact q_bd6a018c53 h520 h512.1 h512.2.1 | omega))
      have h700 := ML_k h699 ((h511 _ _ (inW tgz_159 (by decide +kernel))).trans h474)
      have h701 : S697.2.2.2 = Sp.2.2.2 := by rw [h698]; exact adv_w
      have h702 : S697.1 = 0 := by rw [h698, adv_1]; exact h696
      have h703 : S697.2.2.2 0 = Sp.2.2.2 0 := by rw [h701]
      have h704 : S697.2.2.2 2 = Sp.2.2.2 2 := by rw [h701]
      have h705 : S697.2.2.2 3 = Sp.2.2.2 3 := by rw [h701]
      have h706 : S697.2.2.2 4 = Sp.2.2.2 4 := by rw [h701]
      have h707 : S697.2.2.2 5 = Sp.2.2.2 5 := by rw [h701]
      refine En_Ps 1 (pc' := 188) (lv' := [(0, .ref 159)]) (st' := [.ref 159]) rfl ?_
      refine En_callV rfl rfl rfl rfl rfl rfl rfl rfl tgz_159 (by decide +kernel) rfl (c_299x σ509 h510 z513 h514 y473 ((h511 _ _ (inW tgz_159 (by decide +kernel))).trans h474) y457 ((h511 _ _ (inWa tgz_165 (by decide +kernel))).trans h458) (by (first | exact q_c733b715bf h695 | omega)) h699 (by (first | exact q_d2dcd30e56 h702 | omega))) (by decide) (by decide) (fun v709 σ710 h708 => ?_)
      obtain ⟨h711, h712, z714, h715, z716, h717, rfl, h713⟩ := h708
      have h718 := h713.2.2.2.2.2.2.2.2
      have h719 := Fr_trans h517 h712 (by decide +kernel)
      have h720 := KF_tr h518 h718.1
      obtain ⟨S721, h722⟩ : ∃ q : PS, q = gDoor By Nb S697 := ⟨_, rfl⟩
      have h723 : ML By Nb σ710 S721 := by rw [h722]; exact h718.2
      have h724 := ML_k h723 h717
      refine En_Ps 1 (pc' := 447) (lv' := [(0, .ref 159)]) (st' := []) rfl ?_
      exact En_ret (v := none) rfl rfl rfl ⟨h711, h719, z714, h715, z716, h717, rfl, ⟨by first | exact q_a555021d16 h713.1 | omega, by first | exact q_76190b61a3 h713.2.1 | omega, by (first | exact q_e2ad540b1d h713.2.2.1 h512.2.2.2.2.1 h481 | omega), by first | exact q_a555021d16 h713.2.2.2.1 | omega, by first | exact q_c733b715bf h713.2.2.2.2.1 | omega, by (first | exact q_466cb5d1f4 h713.2.2.2.1 h498 | omega), by (first | exact q_302faadb73 h713.2.2.1 h512.2.2.2.2.1 h481 | omega), fun _ => by (first | exact q_35a72a35ef h498 | omega), ⟨h720, ML_eq h723 (by subst h722; subst h698; rw [gNx_2 h499 hg (by (first | exact q_8c31a76373 h520 h512.1 h519 h512.2.1 | omega))])⟩⟩⟩
  · exact En_ret (v := none) rfl rfl rfl ⟨h455, h456, y477, h478, y473, h474, rfl, ⟨by first | exact q_c803b490ef h479 | omega, by first | exact q_5a08281576 h480 | omega, by (first | exact q_10d278d690 h481 | omega), by first | exact q_c803b490ef h475 | omega, by first | exact q_e9a8eec0c4 h476 | omega, by (first | exact q_329fb8d53f h495.2.2.2 h497 hu_k | omega), by (first | exact q_f67127b06c h481 | omega), fun _ => by have := Imp_m h482 (by omega); (first | exact q_35a72a35ef this | omega), ⟨h487, ML_eq h488 (by unfold gNext; dsimp only; rw [if_pos (by (first | exact q_fdf04f5fe0 h495.2.2.2 h497 h489 | omega))])⟩⟩⟩
set_option maxRecDepth 10000 in
set_option maxHeartbeats 4000000 in
theorem k_302x_87 {By : Int → Int} {Nb : Int} {Sp : PS} (σ0 : SG) (hσ0 : WT σ0) (f : Int32) (h_f : (σ0 159)[8]? = some (Value.int f)) (k : Int32) (h_k : (σ0 159)[12]? = some (Value.int k)) (hM : ML By Nb σ0 Sp) (hg : Sp.1 = 0) : ∀ (σ725 : SG) (y728 : Int32) (y732 : Int32), WT σ725 → Fr [(35, 8), (35, 9), (35, 10), (35, 11), (35, 12), (35, 13), (41, 0)] σ0 σ725 → (σ725 159)[12]? = some (Value.int y728) → 0 ≤ y728.toInt → y728.toInt ≤ 3 → (σ725 159)[8]? = some (Value.int y732) → 0 ≤ y732.toInt → y732.toInt ≤ 1600 → f.toInt - y732.toInt ≤ 0 → Imp (y728.toInt ≤ 0) (k.toInt ≤ 0) → KF σ0 σ725 → ML By Nb σ725 (gN1 By Nb Sp) → En 9 200 none mr_302 (P_302x σ0 By Nb Sp f k) 87 [(0, .ref 159)] [] σ725 := by
  obtain ⟨hl_f, hu_f⟩ := WT_int hσ0 (g := 35) (by decide +kernel) (by decide +kernel) (l := 0) (u := 1600) (by decide +kernel) h_f
  obtain ⟨hl_k, hu_k⟩ := WT_int hσ0 (g := 35) (by decide +kernel) (by decide +kernel) (l := 0) (u := 3) (by decide +kernel) h_k
  have hF0 : Fr [(35, 8), (35, 9), (35, 10), (35, 11), (35, 12), (35, 13), (41, 0)] σ0 σ0 := Fr_rfl
  have keyj170 := k_302x_170 σ0 hσ0 f h_f k h_k hM hg
  intro σ725 y728 y732 h726 h727 h729 h730 h731 h733 h734 h735 h736 h737 h738 h739
  have h740 := ML_k h739 h729
  have h741 : Imp ((gN1 By Nb Sp).1 = 0) (iW By Nb 2 (gN1 By Nb Sp) = iW By Nb 2 Sp) := gN1_iW
  have h742 : Imp ((gN1 By Nb Sp).1 = 0) (iW By Nb 3 (gN1 By Nb Sp) = iW By Nb 3 Sp) := gN1_iW
  have h743 : Imp ((gN1 By Nb Sp).1 = 0) (iW By Nb 5 (gN1 By Nb Sp) = iW By Nb 5 Sp) := gN1_iW
  have h744 : Imp ((gN1 By Nb Sp).1 = 0) (iW By Nb 1 (gN1 By Nb Sp) = iW By Nb 1 Sp) := gN1_iW
  refine En_Ps 1 (pc' := 88) (lv' := [(0, .ref 159)]) (st' := [.ref 159]) rfl ?_
  refine En_ldcS (i := 2) rfl rfl rfl ?_
  refine En_callV rfl rfl rfl rfl rfl rfl rfl rfl tgz_159 (by decide +kernel) rfl (c_251s2x σ725 h726 h739) (by decide) (by decide) (fun v746 σ747 h745 => ?_)
  obtain ⟨h748, h749, z751, rfl, h750⟩ := h745
  have h752 := h750.2.2
  obtain rfl : σ725 = σ747 := Fr_nil h749
  refine En_iEq _ rfl rfl (fun h753 => ?_) (fun h753 => ?_)
  · refine En_Ps 1 (pc' := 107) (lv' := [(0, .ref 159)]) (st' := [.ref 159]) rfl ?_
    refine En_ldcS (i := 3) rfl rfl rfl ?_
    refine En_callV rfl rfl rfl rfl rfl rfl rfl rfl tgz_159 (by decide +kernel) rfl (c_251s3x σ725 h726 h739) (by decide) (by decide) (fun v755 σ756 h754 => ?_)
    obtain ⟨h757, h758, z760, rfl, h759⟩ := h754
    have h761 := h759.2.2
    obtain rfl : σ725 = σ756 := Fr_nil h758
    refine En_iEq _ rfl rfl (fun h762 => ?_) (fun h762 => ?_)
    · refine En_Ps 1 (pc' := 127) (lv' := [(0, .ref 159)]) (st' := [.ref 159]) rfl ?_
      refine En_ldcS (i := 5) rfl rfl rfl ?_
      refine En_callV rfl rfl rfl rfl rfl rfl rfl rfl tgz_159 (by decide +kernel) rfl (c_251s5x σ725 h726 h739) (by decide) (by decide) (fun v764 σ765 h763 => ?_)
      obtain ⟨h766, h767, z769, rfl, h768⟩ := h763
      have h770 := h768.2.2
      obtain rfl : σ725 = σ765 := Fr_nil h767
      refine En_iEq _ rfl rfl (fun h771 => ?_) (fun h771 => ?_)
      · refine En_Ps 1 (pc' := 146) (lv' := [(0, .ref 159)]) (st' := [.ref 159]) rfl ?_
        refine En_ldcS (i := 1) rfl rfl rfl ?_
        refine En_callV rfl rfl rfl rfl rfl rfl rfl rfl tgz_159 (by decide +kernel) rfl (c_251s1x σ725 h726 h739) (by decide) (by decide) (fun v773 σ774 h772 => ?_)
        obtain ⟨h775, h776, z778, rfl, h777⟩ := h772
        have h779 := h777.2.2
        obtain rfl : σ725 = σ774 := Fr_nil h776
        refine En_iEq _ rfl rfl (fun h780 => ?_) (fun h780 => ?_)
        · obtain ⟨z782, h781, h783, h784⟩ := WT_peekI h726 tgz_165 (by decide +kernel : FT 41 (2 : Int).toNat = (0, 0, 4)) (by decide +kernel)
          obtain ⟨z786, h785, h787, h788⟩ := WT_peekI h726 tgz_165 (by decide +kernel : FT 41 (3 : Int).toNat = (0, 0, 12)) (by decide +kernel)
          obtain ⟨z790, h789, h791, h792⟩ := WT_peekI h726 tgz_165 (by decide +kernel : FT 41 (4 : Int).toNat = (0, 0, 4)) (by decide +kernel)
          obtain ⟨z794, h793, h795, h796⟩ := WT_peekI h726 tgz_165 (by decide +kernel : FT 41 (5 : Int).toNat = (0, 0, 6)) (by decide +kernel)
          exact keyj170 σ725 z782 z786 z790 z794 y728 y732 h726 h727 h781 (by first | exact q_58e6e51dcc h783 | omega) (by first | exact q_c82ed93a8c h784 | omega) h785 (by first | exact q_58e6e51dcc h787 | omega) (by first | exact q_7c77837619 h788 | omega) h789 (by first | exact q_58e6e51dcc h791 | omega) (by first | exact q_c82ed93a8c h792 | omega) h793 (by first | exact q_58e6e51dcc h795 | omega) (by first | exact q_615333d33f h796 | omega) h729 (by first | exact q_58e6e51dcc h730 | omega) (by first | exact q_da5e9b976f h731 | omega) h733 (by first | exact q_58e6e51dcc h734 | omega) (by first | exact q_246f9048f8 h735 | omega) (by (first | exact q_f67127b06c h736 | omega)) (fun _ => by have := Imp_m h737 (by omega); (first | exact q_35a72a35ef this | omega)) (fun hh => by have := Imp_m h737 (by (first | exact q_35a72a35ef hh.1 | omega)); have zz : (gN1 By Nb Sp).1 = 0 := (by (first | exact q_3331d1599b h740 h730 hh.1 | omega)); have j1 := Imp_m h741 zz; have j2 := Imp_m h742 zz; have j3 := Imp_m h743 zz; have j4 := Imp_m h744 zz; (first | exact q_9a56868a89 j1 hh.2 h753 h752 | omega)) (fun hh => by have := Imp_m h737 (by (first | exact q_35a72a35ef hh.1 | omega)); have zz : (gN1 By Nb Sp).1 = 0 := (by (first | exact q_3331d1599b h740 h730 hh.1 | omega)); have j1 := Imp_m h741 zz; have j2 := Imp_m h742 zz; have j3 := Imp_m h743 zz; have j4 := Imp_m h744 zz; (first | exact q_809026a008 j2 hh.2 h762 h761 | omega)) (fun hh => by have := Imp_m h737 (by (first | exact q_35a72a35ef hh.1 | omega)); have zz : (gN1 By Nb Sp).1 = 0 := (by (first | exact q_3331d1599b h740 h730 hh.1 | omega)); have j1 := Imp_m h741 zz; have j2 := Imp_m h742 zz; have j3 := Imp_m h743 zz; have j4 := Imp_m h744 zz; (first | exact q_9a56868a89 j3 hh.2 h771 h770 | omega)) (fun hh => by have := Imp_m h737 (by (first | exact q_35a72a35ef hh.1 | omega)); have zz : (gN1 By Nb Sp).1 = 0 := (by (first | exact q_3331d1599b h740 h730 hh.1 | omega)); have j1 := Imp_m h741 zz; have j2 := Imp_m h742 zz; have j3 := Imp_m h743 zz; have j4 := Imp_m h744 zz; (first | exact q_d615a55187 j4 hh.2 h780 h779 | omega)) (h738) (ML_eq h739 (gN2_neg (by (first | exact q_f2cf20e85a h752 h753 h761 h762 h770 h771 h779 h780 | omega))).symm)
        · refine En_Ps 1 (pc' := 155) (lv' := [(0, .ref 159)]) (st' := [.ref 159]) rfl ?_
          refine En_getU (j := 14) (u := 165) (g' := 41) (q := 0) rfl rfl rfl tgz_159 (by decide +kernel) h726 (by decide +kernel) un_41_165 (fun h797 => ?_)
          refine En_Ps 1 (pc' := 159) (lv' := [(0, .ref 159)]) (st' := [.int ((Int32.ofInt 5)), .ref 165]) rfl ?_
          refine En_iald (l := 0) (u := 6) rfl (by decide : (Int32.ofInt 5).toInt = 5) tgz_165 (by decide +kernel) h726 (by decide) (lnI (by decide +kernel : LN _ = 226) (by decide)) (by decide +kernel) (fun z800 h799 h801 h802 => ?_)
          have h804 : (gN1 By Nb Sp).1 = 0 := iW_g (i := 1) (B := By) (n := Nb) (by (first | exact q_8c31a76373 h780 h777.1 h779 h777.2.1 | omega))
          have h803 : (gN1 By Nb Sp).2.2.2 5 = z800.toInt := ML_wi h739 h804 h799 (by (first | decide | omega)) (by (first | decide | omega)) (by (first | decide | omega))
          refine En_Ps 1 (pc' := 162) (lv' := [(0, .ref 159)]) (st' := [.int (((Int8.ofInt 6).toInt32)), .int z800]) rfl ?_
          refine En_icNe _ rfl (by decide : ((Int8.ofInt 6).toInt32).toInt = 6) rfl (fun h805 => ?_) (fun h805 => ?_)
          · obtain ⟨z807, h806, h808, h809⟩ := WT_peekI h726 tgz_165 (by decide +kernel : FT 41 (2 : Int).toNat = (0, 0, 4)) (by decide +kernel)
            obtain ⟨z811, h810, h812, h813⟩ := WT_peekI h726 tgz_165 (by decide +kernel : FT 41 (3 : Int).toNat = (0, 0, 12)) (by decide +kernel)
            obtain ⟨z815, h814, h816, h817⟩ := WT_peekI h726 tgz_165 (by decide +kernel : FT 41 (4 : Int).toNat = (0, 0, 4)) (by decide +kernel)
            exact keyj170 σ725 z807 z811 z815 z800 y728 y732 h726 h727 h806 (by first | exact q_58e6e51dcc h808 | omega) (by first | exact q_c82ed93a8c h809 | omega) h810 (by first | exact q_58e6e51dcc h812 | omega) (by first | exact q_7c77837619 h813 | omega) h814 (by first | exact q_58e6e51dcc h816 | omega) (by first | exact q_c82ed93a8c h817 | omega) h799 (by first | exact q_58e6e51dcc h801 | omega) (by first | exact q_b7df4df08f h805 h802 | omega) h729 (by first | exact q_58e6e51dcc h730 | omega) (by first | exact q_da5e9b976f h731 | omega) h733 (by first | exact q_58e6e51dcc h734 | omega) (by first | exact q_246f9048f8 h735 | omega) (by (first | exact q_f67127b06c h736 | omega)) (fun _ => by have := Imp_m h737 (by (first | exact q_d8d8e6600d h740 h804 | omega)); (first | exact q_35a72a35ef this | omega)) (fun hh => by have := Imp_m h737 (by (first | exact q_35a72a35ef hh.1 | omega)); have zz : (gN1 By Nb Sp).1 = 0 := (by (first | exact q_d2dcd30e56 h804 | omega)); have j1 := Imp_m h741 zz; have j2 := Imp_m h742 zz; have j3 := Imp_m h743 zz; have j4 := Imp_m h744 zz; (first | exact q_9a56868a89 j1 hh.2 h753 h752 | omega)) (fun hh => by have := Imp_m h737 (by (first | exact q_35a72a35ef hh.1 | omega)); have zz : (gN1 By Nb Sp).1 = 0 := (by (first | exact q_d2dcd30e56 h804 | omega)); have j1 := Imp_m h741 zz; have j2 := Imp_m h742 zz; have j3 := Imp_m h743 zz; have j4 := Imp_m h744 zz; (first | exact q_809026a008 j2 hh.2 h762 h761 | omega)) (fun hh => by have := Imp_m h737 (by (first | exact q_35a72a35ef hh.1 | omega)); have zz : (gN1 By Nb Sp).1 = 0 := (by (first | exact q_d2dcd30e56 h804 | omega)); have j1 := Imp_m h741 zz; have j2 := Imp_m h742 zz; have j3 := Imp_m h743 zz; have j4 := Imp_m h744 zz; (first | exact q_9a56868a89 j3 hh.2 h771 h770 | omega)) (fun hh => by have zz : (gN1 By Nb Sp).1 = 0 := (by (first | exact q_d2dcd30e56 h804 | omega)); have j1 := Imp_m h741 zz; have j2 := Imp_m h742 zz; have j3 := Imp_m h743 zz; have j4 := Imp_m h744 zz; (first | exact q_9f42007399 h805 h802 | omega)) (h738) (ML_eq h739 (gN2_neg (by (first | exact q_3c79eb0b78 h752 h753 h761 h762 h770 h771 h803 h805 h802 | omega))).symm)
          · refine En_Ps 2 (pc' := 167) (lv' := [(0, .ref 159)]) (st' := [.int ((Int32.ofInt 3)), .ref 159]) rfl ?_
            have := (by decide : ((Int32.ofInt 3)).toInt = 3)
            refine En_callV rfl rfl rfl rfl rfl rfl rfl rfl tgz_159 (by decide +kernel) rfl (c_223x σ725 h726 ((Int32.ofInt 3)) (geI (by decide : (Int32.ofInt 3).toInt = 3) (by decide)) (leI (by decide : (Int32.ofInt 3).toInt = 3) (by decide)) y728 h729 h739) (by decide) (by decide) (fun v819 σ820 h818 => ?_)
            obtain ⟨h821, h822, z824, h825, rfl, h823⟩ := h818
            have h826 := h823.2.2.2.2
            have h827 := Fr_trans h727 h822 (by decide +kernel)
            have h828 := KF_fr h738 h822 (by decide +kernel)
            obtain ⟨S829, h830⟩ : ∃ q : PS, q = err By Nb 3 (gN1 By Nb Sp) := ⟨_, rfl⟩
            have h831 : ML By Nb σ820 S829 := by rw [h830]; exact (ML_eq h826 (err_cg (by (first | exact q_5736040b52 this | omega))))
            have h832 := ML_k h831 h825
            have h833 : S829.2.2.2 = (gN1 By Nb Sp).2.2.2 := by rw [h830]; exact err_w
            obtain ⟨z835, h834, h836, h837⟩ := WT_peekI h821 tgz_165 (by decide +kernel : FT 41 (2 : Int).toNat = (0, 0, 4)) (by decide +kernel)
            obtain ⟨z839, h838, h840, h841⟩ := WT_peekI h821 tgz_165 (by decide +kernel : FT 41 (3 : Int).toNat = (0, 0, 12)) (by decide +kernel)
            obtain ⟨z843, h842, h844, h845⟩ := WT_peekI h821 tgz_165 (by decide +kernel : FT 41 (4 : Int).toNat = (0, 0, 4)) (by decide +kernel)
            exact keyj170 σ820 z835 z839 z843 z800 z824 y732 h821 h827 h834 (by first | exact q_58e6e51dcc h836 | omega) (by first | exact q_c82ed93a8c h837 | omega) h838 (by first | exact q_58e6e51dcc h840 | omega) (by first | exact q_7c77837619 h841 | omega) h842 (by first | exact q_58e6e51dcc h844 | omega) (by first | exact q_c82ed93a8c h845 | omega) ((h822 _ _ (inWa tgz_165 (by decide +kernel))).trans h799) (by first | exact q_b2cec3a713 h805 | omega) (by first | exact q_615333d33f h802 | omega) h825 (by first | exact q_996aa4c518 h823.1 | omega) (by first | exact q_87d9217d84 h823.2.1 | omega) ((h822 _ _ (inW tgz_159 (by decide +kernel))).trans h733) (by first | exact q_58e6e51dcc h734 | omega) (by first | exact q_246f9048f8 h735 | omega) (by (first | exact q_f67127b06c h736 | omega)) (fun _ => by have := Imp_m h737 (by (first | exact q_d8d8e6600d h740 h804 | omega)); (first | exact q_35a72a35ef this | omega)) (fun _ => by have := Imp_m h737 (by (first | exact q_d8d8e6600d h740 h804 | omega)); omega) (fun _ => by have := Imp_m h737 (by (first | exact q_d8d8e6600d h740 h804 | omega)); omega) (fun _ => by have := Imp_m h737 (by (first | exact q_d8d8e6600d h740 h804 | omega)); omega) (fun _ => by have := Imp_m h737 (by (first | exact q_d8d8e6600d h740 h804 | omega)); omega) (h828) (ML_eq h831 (by subst h830; exact (gN2_pos (by (first | exact q_80b45e2ff9 h779 h780 h777.1 h777.2.1 h803 h805 | omega))).symm))
      · refine En_Ps 1 (pc' := 136) (lv' := [(0, .ref 159)]) (st' := [.ref 159]) rfl ?_
        refine En_getU (j := 14) (u := 165) (g' := 41) (q := 0) rfl rfl rfl tgz_159 (by decide +kernel) h726 (by decide +kernel) un_41_165 (fun h846 => ?_)
        refine En_Ps 1 (pc' := 140) (lv' := [(0, .ref 159)]) (st' := [.int ((Int32.ofInt 4)), .ref 165]) rfl ?_
        refine En_iald (l := 0) (u := 4) rfl (by decide : (Int32.ofInt 4).toInt = 4) tgz_165 (by decide +kernel) h726 (by decide) (lnI (by decide +kernel : LN _ = 226) (by decide)) (by decide +kernel) (fun z849 h848 h850 h851 => ?_)
        have h853 : (gN1 By Nb Sp).1 = 0 := iW_g (i := 5) (B := By) (n := Nb) (by (first | exact q_8c31a76373 h771 h768.1 h770 h768.2.1 | omega))
        have h852 : (gN1 By Nb Sp).2.2.2 4 = z849.toInt := ML_wi h739 h853 h848 (by (first | decide | omega)) (by (first | decide | omega)) (by (first | decide | omega))
        refine En_Ps 1 (pc' := 142) (lv' := [(0, .ref 159)]) (st' := [.int ((Int32.ofInt 4)), .int z849]) rfl ?_
        refine En_icEq _ rfl (by decide : (Int32.ofInt 4).toInt = 4) rfl (fun h854 => ?_) (fun h854 => ?_)
        · refine En_Ps 2 (pc' := 167) (lv' := [(0, .ref 159)]) (st' := [.int ((Int32.ofInt 3)), .ref 159]) rfl ?_
          have := (by decide : ((Int32.ofInt 3)).toInt = 3)
          refine En_callV rfl rfl rfl rfl rfl rfl rfl rfl tgz_159 (by decide +kernel) rfl (c_223x σ725 h726 ((Int32.ofInt 3)) (geI (by decide : (Int32.ofInt 3).toInt = 3) (by decide)) (leI (by decide : (Int32.ofInt 3).toInt = 3) (by decide)) y728 h729 h739) (by decide) (by decide) (fun v856 σ857 h855 => ?_)
          obtain ⟨h858, h859, z861, h862, rfl, h860⟩ := h855
          have h863 := h860.2.2.2.2
          have h864 := Fr_trans h727 h859 (by decide +kernel)
          have h865 := KF_fr h738 h859 (by decide +kernel)
          obtain ⟨S866, h867⟩ : ∃ q : PS, q = err By Nb 3 (gN1 By Nb Sp) := ⟨_, rfl⟩
          have h868 : ML By Nb σ857 S866 := by rw [h867]; exact (ML_eq h863 (err_cg (by (first | exact q_5736040b52 this | omega))))
          have h869 := ML_k h868 h862
          have h870 : S866.2.2.2 = (gN1 By Nb Sp).2.2.2 := by rw [h867]; exact err_w
          obtain ⟨z872, h871, h873, h874⟩ := WT_peekI h858 tgz_165 (by decide +kernel : FT 41 (2 : Int).toNat = (0, 0, 4)) (by decide +kernel)
          obtain ⟨z876, h875, h877, h878⟩ := WT_peekI h858 tgz_165 (by decide +kernel : FT 41 (3 : Int).toNat = (0, 0, 12)) (by decide +kernel)
          obtain ⟨z880, h879, h881, h882⟩ := WT_peekI h858 tgz_165 (by decide +kernel : FT 41 (5 : Int).toNat = (0, 0, 6)) (by decide +kernel)
          exact keyj170 σ857 z872 z876 z849 z880 z861 y732 h858 h864 h871 (by first | exact q_58e6e51dcc h873 | omega) (by first | exact q_c82ed93a8c h874 | omega) h875 (by first | exact q_58e6e51dcc h877 | omega) (by first | exact q_7c77837619 h878 | omega) ((h859 _ _ (inWa tgz_165 (by decide +kernel))).trans h848) (by first | exact q_8aa6573b50 h854 | omega) (by first | exact q_c82ed93a8c h851 | omega) h879 (by first | exact q_58e6e51dcc h881 | omega) (by first | exact q_615333d33f h882 | omega) h862 (by first | exact q_996aa4c518 h860.1 | omega) (by first | exact q_87d9217d84 h860.2.1 | omega) ((h859 _ _ (inW tgz_159 (by decide +kernel))).trans h733) (by first | exact q_58e6e51dcc h734 | omega) (by first | exact q_246f9048f8 h735 | omega) (by (first | exact q_f67127b06c h736 | omega)) (fun _ => by have := Imp_m h737 (by (first | exact q_d8d8e6600d h740 h853 | omega)); (first | exact q_35a72a35ef this | omega)) (fun _ => by have := Imp_m h737 (by (first | exact q_d8d8e6600d h740 h853 | omega)); omega) (fun _ => by have := Imp_m h737 (by (first | exact q_d8d8e6600d h740 h853 | omega)); omega) (fun _ => by have := Imp_m h737 (by (first | exact q_d8d8e6600d h740 h853 | omega)); omega) (fun _ => by have := Imp_m h737 (by (first | exact q_d8d8e6600d h740 h853 | omega)); omega) (h865) (ML_eq h868 (by subst h867; exact (gN2_pos (by (first | exact q_cf7049a829 h770 h771 h768.1 h768.2.1 h852 h854 | omega))).symm))
        · refine En_Ps 1 (pc' := 146) (lv' := [(0, .ref 159)]) (st' := [.ref 159]) rfl ?_
          refine En_ldcS (i := 1) rfl rfl rfl ?_
          refine En_callV rfl rfl rfl rfl rfl rfl rfl rfl tgz_159 (by decide +kernel) rfl (c_251s1x σ725 h726 h739) (by decide) (by decide) (fun v884 σ885 h883 => ?_)
          obtain ⟨h886, h887, z889, rfl, h888⟩ := h883
          have h890 := h888.2.2
          obtain rfl : σ725 = σ885 := Fr_nil h887
          refine En_iEq _ rfl rfl (fun h891 => ?_) (fun h891 => ?_)
          · obtain ⟨z893, h892, h894, h895⟩ := WT_peekI h726 tgz_165 (by decide +kernel : FT 41 (2 : Int).toNat = (0, 0, 4)) (by decide +kernel)
            obtain ⟨z897, h896, h898, h899⟩ := WT_peekI h726 tgz_165 (by decide +kernel : FT 41 (3 : Int).toNat = (0, 0, 12)) (by decide +kernel)
            obtain ⟨z901, h900, h902, h903⟩ := WT_peekI h726 tgz_165 (by decide +kernel : FT 41 (5 : Int).toNat = (0, 0, 6)) (by decide +kernel)
            exact keyj170 σ725 z893 z897 z849 z901 y728 y732 h726 h727 h892 (by first | exact q_58e6e51dcc h894 | omega) (by first | exact q_c82ed93a8c h895 | omega) h896 (by first | exact q_58e6e51dcc h898 | omega) (by first | exact q_7c77837619 h899 | omega) h848 (by first | exact q_58e6e51dcc h850 | omega) (by first | exact q_4b59c54ff8 h854 h851 | omega) h900 (by first | exact q_58e6e51dcc h902 | omega) (by first | exact q_615333d33f h903 | omega) h729 (by first | exact q_58e6e51dcc h730 | omega) (by first | exact q_da5e9b976f h731 | omega) h733 (by first | exact q_58e6e51dcc h734 | omega) (by first | exact q_246f9048f8 h735 | omega) (by (first | exact q_f67127b06c h736 | omega)) (fun _ => by have := Imp_m h737 (by (first | exact q_d8d8e6600d h740 h853 | omega)); (first | exact q_35a72a35ef this | omega)) (fun hh => by have := Imp_m h737 (by (first | exact q_35a72a35ef hh.1 | omega)); have zz : (gN1 By Nb Sp).1 = 0 := (by (first | exact q_d2dcd30e56 h853 | omega)); have j1 := Imp_m h741 zz; have j2 := Imp_m h742 zz; have j3 := Imp_m h743 zz; have j4 := Imp_m h744 zz; (first | exact q_9a56868a89 j1 hh.2 h753 h752 | omega)) (fun hh => by have := Imp_m h737 (by (first | exact q_35a72a35ef hh.1 | omega)); have zz : (gN1 By Nb Sp).1 = 0 := (by (first | exact q_d2dcd30e56 h853 | omega)); have j1 := Imp_m h741 zz; have j2 := Imp_m h742 zz; have j3 := Imp_m h743 zz; have j4 := Imp_m h744 zz; (first | exact q_809026a008 j2 hh.2 h762 h761 | omega)) (fun hh => by have zz : (gN1 By Nb Sp).1 = 0 := (by (first | exact q_d2dcd30e56 h853 | omega)); have j1 := Imp_m h741 zz; have j2 := Imp_m h742 zz; have j3 := Imp_m h743 zz; have j4 := Imp_m h744 zz; (first | exact q_1065cca776 h854 h851 | omega)) (fun hh => by have := Imp_m h737 (by (first | exact q_35a72a35ef hh.1 | omega)); have zz : (gN1 By Nb Sp).1 = 0 := (by (first | exact q_d2dcd30e56 h853 | omega)); have j1 := Imp_m h741 zz; have j2 := Imp_m h742 zz; have j3 := Imp_m h743 zz; have j4 := Imp_m h744 zz; (first | exact q_d615a55187 j4 hh.2 h891 h890 | omega)) (h738) (ML_eq h739 (gN2_neg (by (first | exact q_c15c001ee9 h752 h753 h761 h762 h852 h854 h851 h890 h891 | omega))).symm)
          · refine En_Ps 1 (pc' := 155) (lv' := [(0, .ref 159)]) (st' := [.ref 159]) rfl ?_
            refine En_getK (j := 14) h846 rfl rfl rfl tgz_159 (by decide +kernel) ?_
            refine En_Ps 1 (pc' := 159) (lv' := [(0, .ref 159)]) (st' := [.int ((Int32.ofInt 5)), .ref 165]) rfl ?_
            refine En_iald (l := 0) (u := 6) rfl (by decide : (Int32.ofInt 5).toInt = 5) tgz_165 (by decide +kernel) h726 (by decide) (lnI (by decide +kernel : LN _ = 226) (by decide)) (by decide +kernel) (fun z905 h904 h906 h907 => ?_)
            have h909 : (gN1 By Nb Sp).1 = 0 := iW_g (i := 1) (B := By) (n := Nb) (by (first | exact q_8c31a76373 h891 h888.1 h890 h888.2.1 | omega))
            have h908 : (gN1 By Nb Sp).2.2.2 5 = z905.toInt := ML_wi h739 h909 h904 (by (first | decide | omega)) (by (first | decide | omega)) (by (first | decide | omega))
            refine En_Ps 1 (pc' := 162) (lv' := [(0, .ref 159)]) (st' := [.int (((Int8.ofInt 6).toInt32)), .int z905]) rfl ?_
            refine En_icNe _ rfl (by decide : ((Int8.ofInt 6).toInt32).toInt = 6) rfl (fun h910 => ?_) (fun h910 => ?_)
            · obtain ⟨z912, h911, h913, h914⟩ := WT_peekI h726 tgz_165 (by decide +kernel : FT 41 (2 : Int).toNat = (0, 0, 4)) (by decide +kernel)
              obtain ⟨z916, h915, h917, h918⟩ := WT_peekI h726 tgz_165 (by decide +kernel : FT 41 (3 : Int).toNat = (0, 0, 12)) (by decide +kernel)
              exact keyj170 σ725 z912 z916 z849 z905 y728 y732 h726 h727 h911 (by first | exact q_58e6e51dcc h913 | omega) (by first | exact q_c82ed93a8c h914 | omega) h915 (by first | exact q_58e6e51dcc h917 | omega) (by first | exact q_7c77837619 h918 | omega) h848 (by first | exact q_58e6e51dcc h850 | omega) (by first | exact q_4b59c54ff8 h854 h851 | omega) h904 (by first | exact q_58e6e51dcc h906 | omega) (by first | exact q_b7df4df08f h910 h907 | omega) h729 (by first | exact q_58e6e51dcc h730 | omega) (by first | exact q_da5e9b976f h731 | omega) h733 (by first | exact q_58e6e51dcc h734 | omega) (by first | exact q_246f9048f8 h735 | omega) (by (first | exact q_f67127b06c h736 | omega)) (fun _ => by have := Imp_m h737 (by (first | exact q_d8d8e6600d h740 h909 | omega)); (first | exact q_35a72a35ef this | omega)) (fun hh => by have := Imp_m h737 (by (first | exact q_35a72a35ef hh.1 | omega)); have zz : (gN1 By Nb Sp).1 = 0 := (by (first | exact q_d2dcd30e56 h909 | omega)); have j1 := Imp_m h741 zz; have j2 := Imp_m h742 zz; have j3 := Imp_m h743 zz; have j4 := Imp_m h744 zz; (first | exact q_9a56868a89 j1 hh.2 h753 h752 | omega)) (fun hh => by have := Imp_m h737 (by (first | exact q_35a72a35ef hh.1 | omega)); have zz : (gN1 By Nb Sp).1 = 0 := (by (first | exact q_d2dcd30e56 h909 | omega)); have j1 := Imp_m h741 zz; have j2 := Imp_m h742 zz; have j3 := Imp_m h743 zz; have j4 := Imp_m h744 zz; (first | exact q_809026a008 j2 hh.2 h762 h761 | omega)) (fun hh => by have zz : (gN1 By Nb Sp).1 = 0 := (by (first | exact q_d2dcd30e56 h909 | omega)); have j1 := Imp_m h741 zz; have j2 := Imp_m h742 zz; have j3 := Imp_m h743 zz; have j4 := Imp_m h744 zz; (first | exact q_1065cca776 h854 h851 | omega)) (fun hh => by have zz : (gN1 By Nb Sp).1 = 0 := (by (first | exact q_d2dcd30e56 h909 | omega)); have j1 := Imp_m h741 zz; have j2 := Imp_m h742 zz; have j3 := Imp_m h743 zz; have j4 := Imp_m h744 zz; (first | exact q_9f42007399 h910 h907 | omega)) (h738) (ML_eq h739 (gN2_neg (by (first | exact q_9ec08a6f2c h752 h753 h761 h762 h852 h854 h851 h908 h910 h907 | omega))).symm)
            · refine En_Ps 2 (pc' := 167) (lv' := [(0, .ref 159)]) (st' := [.int ((Int32.ofInt 3)), .ref 159]) rfl ?_
              have := (by decide : ((Int32.ofInt 3)).toInt = 3)
              refine En_callV rfl rfl rfl rfl rfl rfl rfl rfl tgz_159 (by decide +kernel) rfl (c_223x σ725 h726 ((Int32.ofInt 3)) (geI (by decide : (Int32.ofInt 3).toInt = 3) (by decide)) (leI (by decide : (Int32.ofInt 3).toInt = 3) (by decide)) y728 h729 h739) (by decide) (by decide) (fun v920 σ921 h919 => ?_)
              obtain ⟨h922, h923, z925, h926, rfl, h924⟩ := h919
              have h927 := h924.2.2.2.2
              have h928 := Fr_trans h727 h923 (by decide +kernel)
              have h929 := KF_fr h738 h923 (by decide +kernel)
              obtain ⟨S930, h931⟩ : ∃ q : PS, q = err By Nb 3 (gN1 By Nb Sp) := ⟨_, rfl⟩
              have h932 : ML By Nb σ921 S930 := by rw [h931]; exact (ML_eq h927 (err_cg (by (first | exact q_5736040b52 this | omega))))
              have h933 := ML_k h932 h926
              have h934 : S930.2.2.2 = (gN1 By Nb Sp).2.2.2 := by rw [h931]; exact err_w
              obtain ⟨z936, h935, h937, h938⟩ := WT_peekI h922 tgz_165 (by decide +kernel : FT 41 (2 : Int).toNat = (0, 0, 4)) (by decide +kernel)
              obtain ⟨z940, h939, h941, h942⟩ := WT_peekI h922 tgz_165 (by decide +kernel : FT 41 (3 : Int).toNat = (0, 0, 12)) (by decide +kernel)
              exact keyj170 σ921 z936 z940 z849 z905 z925 y732 h922 h928 h935 (by first | exact q_58e6e51dcc h937 | omega) (by first | exact q_c82ed93a8c h938 | omega) h939 (by first | exact q_58e6e51dcc h941 | omega) (by first | exact q_7c77837619 h942 | omega) ((h923 _ _ (inWa tgz_165 (by decide +kernel))).trans h848) (by first | exact q_58e6e51dcc h850 | omega) (by first | exact q_4b59c54ff8 h854 h851 | omega) ((h923 _ _ (inWa tgz_165 (by decide +kernel))).trans h904) (by first | exact q_b2cec3a713 h910 | omega) (by first | exact q_615333d33f h907 | omega) h926 (by first | exact q_996aa4c518 h924.1 | omega) (by first | exact q_87d9217d84 h924.2.1 | omega) ((h923 _ _ (inW tgz_159 (by decide +kernel))).trans h733) (by first | exact q_58e6e51dcc h734 | omega) (by first | exact q_246f9048f8 h735 | omega) (by (first | exact q_f67127b06c h736 | omega)) (fun _ => by have := Imp_m h737 (by (first | exact q_d8d8e6600d h740 h909 | omega)); (first | exact q_35a72a35ef this | omega)) (fun _ => by have := Imp_m h737 (by (first | exact q_d8d8e6600d h740 h909 | omega)); omega) (fun _ => by have := Imp_m h737 (by (first | exact q_d8d8e6600d h740 h909 | omega)); omega) (fun _ => by (first | exact q_1065cca776 h854 h851 | omega)) (fun _ => by have := Imp_m h737 (by (first | exact q_d8d8e6600d h740 h909 | omega)); omega) (h929) (ML_eq h932 (by subst h931; exact (gN2_pos (by (first | exact q_80b45e2ff9 h890 h891 h888.1 h888.2.1 h908 h910 | omega))).symm))
    · refine En_Ps 1 (pc' := 116) (lv' := [(0, .ref 159)]) (st' := [.ref 159]) rfl ?_
      refine En_getU (j := 14) (u := 165) (g' := 41) (q := 0) rfl rfl rfl tgz_159 (by decide +kernel) h726 (by decide +kernel) un_41_165 (fun h943 => ?_)
      refine En_Ps 1 (pc' := 120) (lv' := [(0, .ref 159)]) (st' := [.int ((Int32.ofInt 3)), .ref 165]) rfl ?_
      refine En_iald (l := 0) (u := 12) rfl (by decide : (Int32.ofInt 3).toInt = 3) tgz_165 (by decide +kernel) h726 (by decide) (lnI (by decide +kernel : LN _ = 226) (by decide)) (by decide +kernel) (fun z946 h945 h947 h948 => ?_)
      have h950 : (gN1 By Nb Sp).1 = 0 := iW_g (i := 3) (B := By) (n := Nb) (by (first | exact q_8c31a76373 h762 h759.1 h761 h759.2.1 | omega))
      have h949 : (gN1 By Nb Sp).2.2.2 3 = z946.toInt := ML_wi h739 h950 h945 (by (first | decide | omega)) (by (first | decide | omega)) (by (first | decide | omega))
      refine En_Ps 1 (pc' := 123) (lv' := [(0, .ref 159)]) (st' := [.int (((Int8.ofInt 12).toInt32)), .int z946]) rfl ?_
      refine En_icEq _ rfl (by decide : ((Int8.ofInt 12).toInt32).toInt = 12) rfl (fun h951 => ?_) (fun h951 => ?_)
      · refine En_Ps 2 (pc' := 167) (lv' := [(0, .ref 159)]) (st' := [.int ((Int32.ofInt 3)), .ref 159]) rfl ?_
        have := (by decide : ((Int32.ofInt 3)).toInt = 3)
        refine En_callV rfl rfl rfl rfl rfl rfl rfl rfl tgz_159 (by decide +kernel) rfl (c_223x σ725 h726 ((Int32.ofInt 3)) (geI (by decide : (Int32.ofInt 3).toInt = 3) (by decide)) (leI (by decide : (Int32.ofInt 3).toInt = 3) (by decide)) y728 h729 h739) (by decide) (by decide) (fun v953 σ954 h952 => ?_)
        obtain ⟨h955, h956, z958, h959, rfl, h957⟩ := h952
        have h960 := h957.2.2.2.2
        have h961 := Fr_trans h727 h956 (by decide +kernel)
        have h962 := KF_fr h738 h956 (by decide +kernel)
        obtain ⟨S963, h964⟩ : ∃ q : PS, q = err By Nb 3 (gN1 By Nb Sp) := ⟨_, rfl⟩
        have h965 : ML By Nb σ954 S963 := by rw [h964]; exact (ML_eq h960 (err_cg (by (first | exact q_5736040b52 this | omega))))
        have h966 := ML_k h965 h959
        have h967 : S963.2.2.2 = (gN1 By Nb Sp).2.2.2 := by rw [h964]; exact err_w
        obtain ⟨z969, h968, h970, h971⟩ := WT_peekI h955 tgz_165 (by decide +kernel : FT 41 (2 : Int).toNat = (0, 0, 4)) (by decide +kernel)
        obtain ⟨z973, h972, h974, h975⟩ := WT_peekI h955 tgz_165 (by decide +kernel : FT 41 (4 : Int).toNat = (0, 0, 4)) (by decide +kernel)
        obtain ⟨z977, h976, h978, h979⟩ := WT_peekI h955 tgz_165 (by decide +kernel : FT 41 (5 : Int).toNat = (0, 0, 6)) (by decide +kernel)
        exact keyj170 σ954 z969 z946 z973 z977 z958 y732 h955 h961 h968 (by first | exact q_58e6e51dcc h970 | omega) (by first | exact q_c82ed93a8c h971 | omega) ((h956 _ _ (inWa tgz_165 (by decide +kernel))).trans h945) (by first | exact q_c921150b37 h951 | omega) (by first | exact q_7c77837619 h948 | omega) h972 (by first | exact q_58e6e51dcc h974 | omega) (by first | exact q_c82ed93a8c h975 | omega) h976 (by first | exact q_58e6e51dcc h978 | omega) (by first | exact q_615333d33f h979 | omega) h959 (by first | exact q_996aa4c518 h957.1 | omega) (by first | exact q_87d9217d84 h957.2.1 | omega) ((h956 _ _ (inW tgz_159 (by decide +kernel))).trans h733) (by first | exact q_58e6e51dcc h734 | omega) (by first | exact q_246f9048f8 h735 | omega) (by (first | exact q_f67127b06c h736 | omega)) (fun _ => by have := Imp_m h737 (by (first | exact q_d8d8e6600d h740 h950 | omega)); (first | exact q_35a72a35ef this | omega)) (fun _ => by have := Imp_m h737 (by (first | exact q_d8d8e6600d h740 h950 | omega)); omega) (fun _ => by have := Imp_m h737 (by (first | exact q_d8d8e6600d h740 h950 | omega)); omega) (fun _ => by have := Imp_m h737 (by (first | exact q_d8d8e6600d h740 h950 | omega)); omega) (fun _ => by have := Imp_m h737 (by (first | exact q_d8d8e6600d h740 h950 | omega)); omega) (h962) (ML_eq h965 (by subst h964; exact (gN2_pos (by (first | exact q_f7e0ee2480 h761 h762 h759.1 h759.2.1 h949 h951 | omega))).symm))
      · refine En_Ps 1 (pc' := 127) (lv' := [(0, .ref 159)]) (st' := [.ref 159]) rfl ?_
        refine En_ldcS (i := 5) rfl rfl rfl ?_
        refine En_callV rfl rfl rfl rfl rfl rfl rfl rfl tgz_159 (by decide +kernel) rfl (c_251s5x σ725 h726 h739) (by decide) (by decide) (fun v981 σ982 h980 => ?_)
        obtain ⟨h983, h984, z986, rfl, h985⟩ := h980
        have h987 := h985.2.2
        obtain rfl : σ725 = σ982 := Fr_nil h984
        refine En_iEq _ rfl rfl (fun h988 => ?_) (fun h988 => ?_)
        · refine En_Ps 1 (pc' := 146) (lv' := [(0, .ref 159)]) (st' := [.ref 159]) rfl ?_
          refine En_ldcS (i := 1) rfl rfl rfl ?_
          refine En_callV rfl rfl rfl rfl rfl rfl rfl rfl tgz_159 (by decide +kernel) rfl (c_251s1x σ725 h726 h739) (by decide) (by decide) (fun v990 σ991 h989 => ?_)
          obtain ⟨h992, h993, z995, rfl, h994⟩ := h989
          have h996 := h994.2.2
          obtain rfl : σ725 = σ991 := Fr_nil h993
          refine En_iEq _ rfl rfl (fun h997 => ?_) (fun h997 => ?_)
          · obtain ⟨z999, h998, h1000, h1001⟩ := WT_peekI h726 tgz_165 (by decide +kernel : FT 41 (2 : Int).toNat = (0, 0, 4)) (by decide +kernel)
            obtain ⟨z1003, h1002, h1004, h1005⟩ := WT_peekI h726 tgz_165 (by decide +kernel : FT 41 (4 : Int).toNat = (0, 0, 4)) (by decide +kernel)
            obtain ⟨z1007, h1006, h1008, h1009⟩ := WT_peekI h726 tgz_165 (by decide +kernel : FT 41 (5 : Int).toNat = (0, 0, 6)) (by decide +kernel)
            exact keyj170 σ725 z999 z946 z1003 z1007 y728 y732 h726 h727 h998 (by first | exact q_58e6e51dcc h1000 | omega) (by first | exact q_c82ed93a8c h1001 | omega) h945 (by first | exact q_58e6e51dcc h947 | omega) (by first | exact q_f080a0e48d h951 h948 | omega) h1002 (by first | exact q_58e6e51dcc h1004 | omega) (by first | exact q_c82ed93a8c h1005 | omega) h1006 (by first | exact q_58e6e51dcc h1008 | omega) (by first | exact q_615333d33f h1009 | omega) h729 (by first | exact q_58e6e51dcc h730 | omega) (by first | exact q_da5e9b976f h731 | omega) h733 (by first | exact q_58e6e51dcc h734 | omega) (by first | exact q_246f9048f8 h735 | omega) (by (first | exact q_f67127b06c h736 | omega)) (fun _ => by have := Imp_m h737 (by (first | exact q_d8d8e6600d h740 h950 | omega)); (first | exact q_35a72a35ef this | omega)) (fun hh => by have := Imp_m h737 (by (first | exact q_35a72a35ef hh.1 | omega)); have zz : (gN1 By Nb Sp).1 = 0 := (by (first | exact q_d2dcd30e56 h950 | omega)); have j1 := Imp_m h741 zz; have j2 := Imp_m h742 zz; have j3 := Imp_m h743 zz; have j4 := Imp_m h744 zz; (first | exact q_9a56868a89 j1 hh.2 h753 h752 | omega)) (fun hh => by have zz : (gN1 By Nb Sp).1 = 0 := (by (first | exact q_d2dcd30e56 h950 | omega)); have j1 := Imp_m h741 zz; have j2 := Imp_m h742 zz; have j3 := Imp_m h743 zz; have j4 := Imp_m h744 zz; (first | exact q_6db8230771 h951 h948 | omega)) (fun hh => by have := Imp_m h737 (by (first | exact q_35a72a35ef hh.1 | omega)); have zz : (gN1 By Nb Sp).1 = 0 := (by (first | exact q_d2dcd30e56 h950 | omega)); have j1 := Imp_m h741 zz; have j2 := Imp_m h742 zz; have j3 := Imp_m h743 zz; have j4 := Imp_m h744 zz; (first | exact q_9a56868a89 j3 hh.2 h988 h987 | omega)) (fun hh => by have := Imp_m h737 (by (first | exact q_35a72a35ef hh.1 | omega)); have zz : (gN1 By Nb Sp).1 = 0 := (by (first | exact q_d2dcd30e56 h950 | omega)); have j1 := Imp_m h741 zz; have j2 := Imp_m h742 zz; have j3 := Imp_m h743 zz; have j4 := Imp_m h744 zz; (first | exact q_d615a55187 j4 hh.2 h997 h996 | omega)) (h738) (ML_eq h739 (gN2_neg (by (first | exact q_e0333985aa h752 h753 h949 h951 h948 h987 h988 h996 h997 | omega))).symm)
          · refine En_Ps 1 (pc' := 155) (lv' := [(0, .ref 159)]) (st' := [.ref 159]) rfl ?_
            refine En_getK (j := 14) h943 rfl rfl rfl tgz_159 (by decide +kernel) ?_
            refine En_Ps 1 (pc' := 159) (lv' := [(0, .ref 159)]) (st' := [.int ((Int32.ofInt 5)), .ref 165]) rfl ?_
            refine En_iald (l := 0) (u := 6) rfl (by decide : (Int32.ofInt 5).toInt = 5) tgz_165 (by decide +kernel) h726 (by decide) (lnI (by decide +kernel : LN _ = 226) (by decide)) (by decide +kernel) (fun z1011 h1010 h1012 h1013 => ?_)
            have h1015 : (gN1 By Nb Sp).1 = 0 := iW_g (i := 1) (B := By) (n := Nb) (by (first | exact q_8c31a76373 h997 h994.1 h996 h994.2.1 | omega))
            have h1014 : (gN1 By Nb Sp).2.2.2 5 = z1011.toInt := ML_wi h739 h1015 h1010 (by (first | decide | omega)) (by (first | decide | omega)) (by (first | decide | omega))
            refine En_Ps 1 (pc' := 162) (lv' := [(0, .ref 159)]) (st' := [.int (((Int8.ofInt 6).toInt32)), .int z1011]) rfl ?_
            refine En_icNe _ rfl (by decide : ((Int8.ofInt 6).toInt32).toInt = 6) rfl (fun h1016 => ?_) (fun h1016 => ?_)
            · obtain ⟨z1018, h1017, h1019, h1020⟩ := WT_peekI h726 tgz_165 (by decide +kernel : FT 41 (2 : Int).toNat = (0, 0, 4)) (by decide +kernel)
              obtain ⟨z1022, h1021, h1023, h1024⟩ := WT_peekI h726 tgz_165 (by decide +kernel : FT 41 (4 : Int).toNat = (0, 0, 4)) (by decide +kernel)
              exact keyj170 σ725 z1018 z946 z1022 z1011 y728 y732 h726 h727 h1017 (by first | exact q_58e6e51dcc h1019 | omega) (by first | exact q_c82ed93a8c h1020 | omega) h945 (by first | exact q_58e6e51dcc h947 | omega) (by first | exact q_f080a0e48d h951 h948 | omega) h1021 (by first | exact q_58e6e51dcc h1023 | omega) (by first | exact q_c82ed93a8c h1024 | omega) h1010 (by first | exact q_58e6e51dcc h1012 | omega) (by first | exact q_b7df4df08f h1016 h1013 | omega) h729 (by first | exact q_58e6e51dcc h730 | omega) (by first | exact q_da5e9b976f h731 | omega) h733 (by first | exact q_58e6e51dcc h734 | omega) (by first | exact q_246f9048f8 h735 | omega) (by (first | exact q_f67127b06c h736 | omega)) (fun _ => by have := Imp_m h737 (by (first | exact q_d8d8e6600d h740 h1015 | omega)); (first | exact q_35a72a35ef this | omega)) (fun hh => by have := Imp_m h737 (by (first | exact q_35a72a35ef hh.1 | omega)); have zz : (gN1 By Nb Sp).1 = 0 := (by (first | exact q_d2dcd30e56 h1015 | omega)); have j1 := Imp_m h741 zz; have j2 := Imp_m h742 zz; have j3 := Imp_m h743 zz; have j4 := Imp_m h744 zz; (first | exact q_9a56868a89 j1 hh.2 h753 h752 | omega)) (fun hh => by have zz : (gN1 By Nb Sp).1 = 0 := (by (first | exact q_d2dcd30e56 h1015 | omega)); have j1 := Imp_m h741 zz; have j2 := Imp_m h742 zz; have j3 := Imp_m h743 zz; have j4 := Imp_m h744 zz; (first | exact q_6db8230771 h951 h948 | omega)) (fun hh => by have := Imp_m h737 (by (first | exact q_35a72a35ef hh.1 | omega)); have zz : (gN1 By Nb Sp).1 = 0 := (by (first | exact q_d2dcd30e56 h1015 | omega)); have j1 := Imp_m h741 zz; have j2 := Imp_m h742 zz; have j3 := Imp_m h743 zz; have j4 := Imp_m h744 zz; (first | exact q_9a56868a89 j3 hh.2 h988 h987 | omega)) (fun hh => by have zz : (gN1 By Nb Sp).1 = 0 := (by (first | exact q_d2dcd30e56 h1015 | omega)); have j1 := Imp_m h741 zz; have j2 := Imp_m h742 zz; have j3 := Imp_m h743 zz; have j4 := Imp_m h744 zz; (first | exact q_9f42007399 h1016 h1013 | omega)) (h738) (ML_eq h739 (gN2_neg (by (first | exact q_d07cfa2ece h752 h753 h949 h951 h948 h987 h988 h1014 h1016 h1013 | omega))).symm)
            · refine En_Ps 2 (pc' := 167) (lv' := [(0, .ref 159)]) (st' := [.int ((Int32.ofInt 3)), .ref 159]) rfl ?_
              have := (by decide : ((Int32.ofInt 3)).toInt = 3)
              refine En_callV rfl rfl rfl rfl rfl rfl rfl rfl tgz_159 (by decide +kernel) rfl (c_223x σ725 h726 ((Int32.ofInt 3)) (geI (by decide : (Int32.ofInt 3).toInt = 3) (by decide)) (leI (by decide : (Int32.ofInt 3).toInt = 3) (by decide)) y728 h729 h739) (by decide) (by decide) (fun v1026 σ1027 h1025 => ?_)
              obtain ⟨h1028, h1029, z1031, h1032, rfl, h1030⟩ := h1025
              have h1033 := h1030.2.2.2.2
              have h1034 := Fr_trans h727 h1029 (by decide +kernel)
              have h1035 := KF_fr h738 h1029 (by decide +kernel)
              obtain ⟨S1036, h1037⟩ : ∃ q : PS, q = err By Nb 3 (gN1 By Nb Sp) := ⟨_, rfl⟩
              have h1038 : ML By Nb σ1027 S1036 := by rw [h1037]; exact (ML_eq h1033 (err_cg (by (first | exact q_5736040b52 this | omega))))
              have h1039 := ML_k h1038 h1032
              have h1040 : S1036.2.2.2 = (gN1 By Nb Sp).2.2.2 := by rw [h1037]; exact err_w
              obtain ⟨z1042, h1041, h1043, h1044⟩ := WT_peekI h1028 tgz_165 (by decide +kernel : FT 41 (2 : Int).toNat = (0, 0, 4)) (by decide +kernel)
              obtain ⟨z1046, h1045, h1047, h1048⟩ := WT_peekI h1028 tgz_165 (by decide +kernel : FT 41 (4 : Int).toNat = (0, 0, 4)) (by decide +kernel)
              exact keyj170 σ1027 z1042 z946 z1046 z1011 z1031 y732 h1028 h1034 h1041 (by first | exact q_58e6e51dcc h1043 | omega) (by first | exact q_c82ed93a8c h1044 | omega) ((h1029 _ _ (inWa tgz_165 (by decide +kernel))).trans h945) (by first | exact q_58e6e51dcc h947 | omega) (by first | exact q_f080a0e48d h951 h948 | omega) h1045 (by first | exact q_58e6e51dcc h1047 | omega) (by first | exact q_c82ed93a8c h1048 | omega) ((h1029 _ _ (inWa tgz_165 (by decide +kernel))).trans h1010) (by first | exact q_b2cec3a713 h1016 | omega) (by first | exact q_615333d33f h1013 | omega) h1032 (by first | exact q_996aa4c518 h1030.1 | omega) (by first | exact q_87d9217d84 h1030.2.1 | omega) ((h1029 _ _ (inW tgz_159 (by decide +kernel))).trans h733) (by first | exact q_58e6e51dcc h734 | omega) (by first | exact q_246f9048f8 h735 | omega) (by (first | exact q_f67127b06c h736 | omega)) (fun _ => by have := Imp_m h737 (by (first | exact q_d8d8e6600d h740 h1015 | omega)); (first | exact q_35a72a35ef this | omega)) (fun _ => by have := Imp_m h737 (by (first | exact q_d8d8e6600d h740 h1015 | omega)); omega) (fun _ => by (first | exact q_6db8230771 h951 h948 | omega)) (fun _ => by have := Imp_m h737 (by (first | exact q_d8d8e6600d h740 h1015 | omega)); omega) (fun _ => by have := Imp_m h737 (by (first | exact q_d8d8e6600d h740 h1015 | omega)); omega) (h1035) (ML_eq h1038 (by subst h1037; exact (gN2_pos (by (first | exact q_80b45e2ff9 h996 h997 h994.1 h994.2.1 h1014 h1016 | omega))).symm))
        · refine En_Ps 1 (pc' := 136) (lv' := [(0, .ref 159)]) (st' := [.ref 159]) rfl ?_
          refine En_getK (j := 14) h943 rfl rfl rfl tgz_159 (by decide +kernel) ?_
          refine En_Ps 1 (pc' := 140) (lv' := [(0, .ref 159)]) (st' := [.int ((Int32.ofInt 4)), .ref 165]) rfl ?_
          refine En_iald (l := 0) (u := 4) rfl (by decide : (Int32.ofInt 4).toInt = 4) tgz_165 (by decide +kernel) h726 (by decide) (lnI (by decide +kernel : LN _ = 226) (by decide)) (by decide +kernel) (fun z1050 h1049 h1051 h1052 => ?_)
          have h1054 : (gN1 By Nb Sp).1 = 0 := iW_g (i := 5) (B := By) (n := Nb) (by (first | exact q_8c31a76373 h988 h985.1 h987 h985.2.1 | omega))
          have h1053 : (gN1 By Nb Sp).2.2.2 4 = z1050.toInt := ML_wi h739 h1054 h1049 (by (first | decide | omega)) (by (first | decide | omega)) (by (first | decide | omega))
          refine En_Ps 1 (pc' := 142) (lv' := [(0, .ref 159)]) (st' := [.int ((Int32.ofInt 4)), .int z1050]) rfl ?_
          refine En_icEq _ rfl (by decide : (Int32.ofInt 4).toInt = 4) rfl (fun h1055 => ?_) (fun h1055 => ?_)
          · refine En_Ps 2 (pc' := 167) (lv' := [(0, .ref 159)]) (st' := [.int ((Int32.ofInt 3)), .ref 159]) rfl ?_
            have := (by decide : ((Int32.ofInt 3)).toInt = 3)
            refine En_callV rfl rfl rfl rfl rfl rfl rfl rfl tgz_159 (by decide +kernel) rfl (c_223x σ725 h726 ((Int32.ofInt 3)) (geI (by decide : (Int32.ofInt 3).toInt = 3) (by decide)) (leI (by decide : (Int32.ofInt 3).toInt = 3) (by decide)) y728 h729 h739) (by decide) (by decide) (fun v1057 σ1058 h1056 => ?_)
            obtain ⟨h1059, h1060, z1062, h1063, rfl, h1061⟩ := h1056
            have h1064 := h1061.2.2.2.2
            have h1065 := Fr_trans h727 h1060 (by decide +kernel)
            have h1066 := KF_fr h738 h1060 (by decide +kernel)
            obtain ⟨S1067, h1068⟩ : ∃ q : PS, q = err By Nb 3 (gN1 By Nb Sp) := ⟨_, rfl⟩
            have h1069 : ML By Nb σ1058 S1067 := by rw [h1068]; exact (ML_eq h1064 (err_cg (by (first | exact q_5736040b52 this | omega))))
            have h1070 := ML_k h1069 h1063
            have h1071 : S1067.2.2.2 = (gN1 By Nb Sp).2.2.2 := by rw [h1068]; exact err_w
            obtain ⟨z1073, h1072, h1074, h1075⟩ := WT_peekI h1059 tgz_165 (by decide +kernel : FT 41 (2 : Int).toNat = (0, 0, 4)) (by decide +kernel)
            obtain ⟨z1077, h1076, h1078, h1079⟩ := WT_peekI h1059 tgz_165 (by decide +kernel : FT 41 (5 : Int).toNat = (0, 0, 6)) (by decide +kernel)
            exact keyj170 σ1058 z1073 z946 z1050 z1077 z1062 y732 h1059 h1065 h1072 (by first | exact q_58e6e51dcc h1074 | omega) (by first | exact q_c82ed93a8c h1075 | omega) ((h1060 _ _ (inWa tgz_165 (by decide +kernel))).trans h945) (by first | exact q_58e6e51dcc h947 | omega) (by first | exact q_f080a0e48d h951 h948 | omega) ((h1060 _ _ (inWa tgz_165 (by decide +kernel))).trans h1049) (by first | exact q_8aa6573b50 h1055 | omega) (by first | exact q_c82ed93a8c h1052 | omega) h1076 (by first | exact q_58e6e51dcc h1078 | omega) (by first | exact q_615333d33f h1079 | omega) h1063 (by first | exact q_996aa4c518 h1061.1 | omega) (by first | exact q_87d9217d84 h1061.2.1 | omega) ((h1060 _ _ (inW tgz_159 (by decide +kernel))).trans h733) (by first | exact q_58e6e51dcc h734 | omega) (by first | exact q_246f9048f8 h735 | omega) (by (first | exact q_f67127b06c h736 | omega)) (fun _ => by have := Imp_m h737 (by (first | exact q_d8d8e6600d h740 h1054 | omega)); (first | exact q_35a72a35ef this | omega)) (fun _ => by have := Imp_m h737 (by (first | exact q_d8d8e6600d h740 h1054 | omega)); omega) (fun _ => by (first | exact q_6db8230771 h951 h948 | omega)) (fun _ => by have := Imp_m h737 (by (first | exact q_d8d8e6600d h740 h1054 | omega)); omega) (fun _ => by have := Imp_m h737 (by (first | exact q_d8d8e6600d h740 h1054 | omega)); omega) (h1066) (ML_eq h1069 (by subst h1068; exact (gN2_pos (by (first | exact q_cf7049a829 h987 h988 h985.1 h985.2.1 h1053 h1055 | omega))).symm))
          · refine En_Ps 1 (pc' := 146) (lv' := [(0, .ref 159)]) (st' := [.ref 159]) rfl ?_
            refine En_ldcS (i := 1) rfl rfl rfl ?_
            refine En_callV rfl rfl rfl rfl rfl rfl rfl rfl tgz_159 (by decide +kernel) rfl (c_251s1x σ725 h726 h739) (by decide) (by decide) (fun v1081 σ1082 h1080 => ?_)
            obtain ⟨h1083, h1084, z1086, rfl, h1085⟩ := h1080
            have h1087 := h1085.2.2
            obtain rfl : σ725 = σ1082 := Fr_nil h1084
            refine En_iEq _ rfl rfl (fun h1088 => ?_) (fun h1088 => ?_)
            · obtain ⟨z1090, h1089, h1091, h1092⟩ := WT_peekI h726 tgz_165 (by decide +kernel : FT 41 (2 : Int).toNat = (0, 0, 4)) (by decide +kernel)
              obtain ⟨z1094, h1093, h1095, h1096⟩ := WT_peekI h726 tgz_165 (by decide +kernel : FT 41 (5 : Int).toNat = (0, 0, 6)) (by decide +kernel)
              exact keyj170 σ725 z1090 z946 z1050 z1094 y728 y732 h726 h727 h1089 (by first | exact q_58e6e51dcc h1091 | omega) (by first | exact q_c82ed93a8c h1092 | omega) h945 (by first | exact q_58e6e51dcc h947 | omega) (by first | exact q_f080a0e48d h951 h948 | omega) h1049 (by first | exact q_58e6e51dcc h1051 | omega) (by first | exact q_4b59c54ff8 h1055 h1052 | omega) h1093 (by first | exact q_58e6e51dcc h1095 | omega) (by first | exact q_615333d33f h1096 | omega) h729 (by first | exact q_58e6e51dcc h730 | omega) (by first | exact q_da5e9b976f h731 | omega) h733 (by first | exact q_58e6e51dcc h734 | omega) (by first | exact q_246f9048f8 h735 | omega) (by (first | exact q_f67127b06c h736 | omega)) (fun _ => by have := Imp_m h737 (by (first | exact q_d8d8e6600d h740 h1054 | omega)); (first | exact q_35a72a35ef this | omega)) (fun hh => by have := Imp_m h737 (by (first | exact q_35a72a35ef hh.1 | omega)); have zz : (gN1 By Nb Sp).1 = 0 := (by (first | exact q_d2dcd30e56 h1054 | omega)); have j1 := Imp_m h741 zz; have j2 := Imp_m h742 zz; have j3 := Imp_m h743 zz; have j4 := Imp_m h744 zz; (first | exact q_9a56868a89 j1 hh.2 h753 h752 | omega)) (fun hh => by have zz : (gN1 By Nb Sp).1 = 0 := (by (first | exact q_d2dcd30e56 h1054 | omega)); have j1 := Imp_m h741 zz; have j2 := Imp_m h742 zz; have j3 := Imp_m h743 zz; have j4 := Imp_m h744 zz; (first | exact q_6db8230771 h951 h948 | omega)) (fun hh => by have zz : (gN1 By Nb Sp).1 = 0 := (by (first | exact q_d2dcd30e56 h1054 | omega)); have j1 := Imp_m h741 zz; have j2 := Imp_m h742 zz; have j3 := Imp_m h743 zz; have j4 := Imp_m h744 zz; (first | exact q_1065cca776 h1055 h1052 | omega)) (fun hh => by have := Imp_m h737 (by (first | exact q_35a72a35ef hh.1 | omega)); have zz : (gN1 By Nb Sp).1 = 0 := (by (first | exact q_d2dcd30e56 h1054 | omega)); have j1 := Imp_m h741 zz; have j2 := Imp_m h742 zz; have j3 := Imp_m h743 zz; have j4 := Imp_m h744 zz; (first | exact q_d615a55187 j4 hh.2 h1088 h1087 | omega)) (h738) (ML_eq h739 (gN2_neg (by (first | exact q_a55025c062 h752 h753 h949 h951 h948 h1053 h1055 h1052 h1087 h1088 | omega))).symm)
            · refine En_Ps 1 (pc' := 155) (lv' := [(0, .ref 159)]) (st' := [.ref 159]) rfl ?_
              refine En_getK (j := 14) h943 rfl rfl rfl tgz_159 (by decide +kernel) ?_
              refine En_Ps 1 (pc' := 159) (lv' := [(0, .ref 159)]) (st' := [.int ((Int32.ofInt 5)), .ref 165]) rfl ?_
              refine En_iald (l := 0) (u := 6) rfl (by decide : (Int32.ofInt 5).toInt = 5) tgz_165 (by decide +kernel) h726 (by decide) (lnI (by decide +kernel : LN _ = 226) (by decide)) (by decide +kernel) (fun z1098 h1097 h1099 h1100 => ?_)
              have h1102 : (gN1 By Nb Sp).1 = 0 := iW_g (i := 1) (B := By) (n := Nb) (by (first | exact q_8c31a76373 h1088 h1085.1 h1087 h1085.2.1 | omega))
              have h1101 : (gN1 By Nb Sp).2.2.2 5 = z1098.toInt := ML_wi h739 h1102 h1097 (by (first | decide | omega)) (by (first | decide | omega)) (by (first | decide | omega))
              refine En_Ps 1 (pc' := 162) (lv' := [(0, .ref 159)]) (st' := [.int (((Int8.ofInt 6).toInt32)), .int z1098]) rfl ?_
              refine En_icNe _ rfl (by decide : ((Int8.ofInt 6).toInt32).toInt = 6) rfl (fun h1103 => ?_) (fun h1103 => ?_)
              · obtain ⟨z1105, h1104, h1106, h1107⟩ := WT_peekI h726 tgz_165 (by decide +kernel : FT 41 (2 : Int).toNat = (0, 0, 4)) (by decide +kernel)
                exact keyj170 σ725 z1105 z946 z1050 z1098 y728 y732 h726 h727 h1104 (by first | exact q_58e6e51dcc h1106 | omega) (by first | exact q_c82ed93a8c h1107 | omega) h945 (by first | exact q_58e6e51dcc h947 | omega) (by first | exact q_f080a0e48d h951 h948 | omega) h1049 (by first | exact q_58e6e51dcc h1051 | omega) (by first | exact q_4b59c54ff8 h1055 h1052 | omega) h1097 (by first | exact q_58e6e51dcc h1099 | omega) (by first | exact q_b7df4df08f h1103 h1100 | omega) h729 (by first | exact q_58e6e51dcc h730 | omega) (by first | exact q_da5e9b976f h731 | omega) h733 (by first | exact q_58e6e51dcc h734 | omega) (by first | exact q_246f9048f8 h735 | omega) (by (first | exact q_f67127b06c h736 | omega)) (fun _ => by have := Imp_m h737 (by (first | exact q_d8d8e6600d h740 h1102 | omega)); (first | exact q_35a72a35ef this | omega)) (fun hh => by have := Imp_m h737 (by (first | exact q_35a72a35ef hh.1 | omega)); have zz : (gN1 By Nb Sp).1 = 0 := (by (first | exact q_d2dcd30e56 h1102 | omega)); have j1 := Imp_m h741 zz; have j2 := Imp_m h742 zz; have j3 := Imp_m h743 zz; have j4 := Imp_m h744 zz; (first | exact q_9a56868a89 j1 hh.2 h753 h752 | omega)) (fun hh => by have zz : (gN1 By Nb Sp).1 = 0 := (by (first | exact q_d2dcd30e56 h1102 | omega)); have j1 := Imp_m h741 zz; have j2 := Imp_m h742 zz; have j3 := Imp_m h743 zz; have j4 := Imp_m h744 zz; (first | exact q_6db8230771 h951 h948 | omega)) (fun hh => by have zz : (gN1 By Nb Sp).1 = 0 := (by (first | exact q_d2dcd30e56 h1102 | omega)); have j1 := Imp_m h741 zz; have j2 := Imp_m h742 zz; have j3 := Imp_m h743 zz; have j4 := Imp_m h744 zz; (first | exact q_1065cca776 h1055 h1052 | omega)) (fun hh => by have zz : (gN1 By Nb Sp).1 = 0 := (by (first | exact q_d2dcd30e56 h1102 | omega)); have j1 := Imp_m h741 zz; have j2 := Imp_m h742 zz; have j3 := Imp_m h743 zz; have j4 := Imp_m h744 zz; (first | exact q_9f42007399 h1103 h1100 | omega)) (h738) (ML_eq h739 (gN2_neg (by omega)).symm)
              · refine En_Ps 2 (pc' := 167) (lv' := [(0, .ref 159)]) (st' := [.int ((Int32.ofInt 3)), .ref 159]) rfl ?_
                have := (by decide : ((Int32.ofInt 3)).toInt = 3)
                refine En_callV rfl rfl rfl rfl rfl rfl rfl rfl tgz_159 (by decide +kernel) rfl (c_223x σ725 h726 ((Int32.ofInt 3)) (geI (by decide : (Int32.ofInt 3).toInt = 3) (by decide)) (leI (by decide : (Int32.ofInt 3).toInt = 3) (by decide)) y728 h729 h739) (by decide) (by decide) (fun v1109 σ1110 h1108 => ?_)
                obtain ⟨h1111, h1112, z1114, h1115, rfl, h1113⟩ := h1108
                have h1116 := h1113.2.2.2.2
                have h1117 := Fr_trans h727 h1112 (by decide +kernel)
                have h1118 := KF_fr h738 h1112 (by decide +kernel)
                obtain ⟨S1119, h1120⟩ : ∃ q : PS, q = err By Nb 3 (gN1 By Nb Sp) := ⟨_, rfl⟩
                have h1121 : ML By Nb σ1110 S1119 := by rw [h1120]; exact (ML_eq h1116 (err_cg (by (first | exact q_5736040b52 this | omega))))
                have h1122 := ML_k h1121 h1115
                have h1123 : S1119.2.2.2 = (gN1 By Nb Sp).2.2.2 := by rw [h1120]; exact err_w
                obtain ⟨z1125, h1124, h1126, h1127⟩ := WT_peekI h1111 tgz_165 (by decide +kernel : FT 41 (2 : Int).toNat = (0, 0, 4)) (by decide +kernel)
                exact keyj170 σ1110 z1125 z946 z1050 z1098 z1114 y732 h1111 h1117 h1124 (by first | exact q_58e6e51dcc h1126 | omega) (by first | exact q_c82ed93a8c h1127 | omega) ((h1112 _ _ (inWa tgz_165 (by decide +kernel))).trans h945) (by first | exact q_58e6e51dcc h947 | omega) (by first | exact q_f080a0e48d h951 h948 | omega) ((h1112 _ _ (inWa tgz_165 (by decide +kernel))).trans h1049) (by first | exact q_58e6e51dcc h1051 | omega) (by first | exact q_4b59c54ff8 h1055 h1052 | omega) ((h1112 _ _ (inWa tgz_165 (by decide +kernel))).trans h1097) (by first | exact q_b2cec3a713 h1103 | omega) (by first | exact q_615333d33f h1100 | omega) h1115 (by first | exact q_996aa4c518 h1113.1 | omega) (by first | exact q_87d9217d84 h1113.2.1 | omega) ((h1112 _ _ (inW tgz_159 (by decide +kernel))).trans h733) (by first | exact q_58e6e51dcc h734 | omega) (by first | exact q_246f9048f8 h735 | omega) (by (first | exact q_f67127b06c h736 | omega)) (fun _ => by have := Imp_m h737 (by (first | exact q_d8d8e6600d h740 h1102 | omega)); (first | exact q_35a72a35ef this | omega)) (fun _ => by have := Imp_m h737 (by (first | exact q_d8d8e6600d h740 h1102 | omega)); omega) (fun _ => by (first | exact q_6db8230771 h951 h948 | omega)) (fun _ => by (first | exact q_1065cca776 h1055 h1052 | omega)) (fun _ => by have := Imp_m h737 (by (first | exact q_d8d8e6600d h740 h1102 | omega)); omega) (h1118) (ML_eq h1121 (by subst h1120; exact (gN2_pos (by (first | exact q_80b45e2ff9 h1087 h1088 h1085.1 h1085.2.1 h1101 h1103 | omega))).symm))
  · refine En_Ps 1 (pc' := 97) (lv' := [(0, .ref 159)]) (st' := [.ref 159]) rfl ?_
    refine En_getU (j := 14) (u := 165) (g' := 41) (q := 0) rfl rfl rfl tgz_159 (by decide +kernel) h726 (by decide +kernel) un_41_165 (fun h1128 => ?_)
    refine En_Ps 1 (pc' := 101) (lv' := [(0, .ref 159)]) (st' := [.int ((Int32.ofInt 2)), .ref 165]) rfl ?_
    refine En_iald (l := 0) (u := 4) rfl (by decide : (Int32.ofInt 2).toInt = 2) tgz_165 (by decide +kernel) h726 (by decide) (lnI (by decide +kernel : LN _ = 226) (by decide)) (by decide +kernel) (fun z1131 h1130 h1132 h1133 => ?_)
    have h1135 : (gN1 By Nb Sp).1 = 0 := iW_g (i := 2) (B := By) (n := Nb) (by (first | exact q_8c31a76373 h753 h750.1 h752 h750.2.1 | omega))
    have h1134 : (gN1 By Nb Sp).2.2.2 2 = z1131.toInt := ML_wi h739 h1135 h1130 (by (first | decide | omega)) (by (first | decide | omega)) (by (first | decide | omega))
    refine En_Ps 1 (pc' := 103) (lv' := [(0, .ref 159)]) (st' := [.int ((Int32.ofInt 4)), .int z1131]) rfl ?_
    refine En_icEq _ rfl (by decide : (Int32.ofInt 4).toInt = 4) rfl (fun h1136 => ?_) (fun h1136 => ?_)
    · refine En_Ps 2 (pc' := 167) (lv' := [(0, .ref 159)]) (st' := [.int ((Int32.ofInt 3)), .ref 159]) rfl ?_
      have := (by decide : ((Int32.ofInt 3)).toInt = 3)
      refine En_callV rfl rfl rfl rfl rfl rfl rfl rfl tgz_159 (by decide +kernel) rfl (c_223x σ725 h726 ((Int32.ofInt 3)) (geI (by decide : (Int32.ofInt 3).toInt = 3) (by decide)) (leI (by decide : (Int32.ofInt 3).toInt = 3) (by decide)) y728 h729 h739) (by decide) (by decide) (fun v1138 σ1139 h1137 => ?_)
      obtain ⟨h1140, h1141, z1143, h1144, rfl, h1142⟩ := h1137
      have h1145 := h1142.2.2.2.2
      have h1146 := Fr_trans h727 h1141 (by decide +kernel)
      have h1147 := KF_fr h738 h1141 (by decide +kernel)
      obtain ⟨S1148, h1149⟩ : ∃ q : PS, q = err By Nb 3 (gN1 By Nb Sp) := ⟨_, rfl⟩
      have h1150 : ML By Nb σ1139 S1148 := by rw [h1149]; exact (ML_eq h1145 (err_cg (by (first | exact q_5736040b52 this | omega))))
      have h1151 := ML_k h1150 h1144
      have h1152 : S1148.2.2.2 = (gN1 By Nb Sp).2.2.2 := by rw [h1149]; exact err_w
      obtain ⟨z1154, h1153, h1155, h1156⟩ := WT_peekI h1140 tgz_165 (by decide +kernel : FT 41 (3 : Int).toNat = (0, 0, 12)) (by decide +kernel)
      obtain ⟨z1158, h1157, h1159, h1160⟩ := WT_peekI h1140 tgz_165 (by decide +kernel : FT 41 (4 : Int).toNat = (0, 0, 4)) (by decide +kernel)
      obtain ⟨z1162, h1161, h1163, h1164⟩ := WT_peekI h1140 tgz_165 (by decide +kernel : FT 41 (5 : Int).toNat = (0, 0, 6)) (by decide +kernel)
      exact keyj170 σ1139 z1131 z1154 z1158 z1162 z1143 y732 h1140 h1146 ((h1141 _ _ (inWa tgz_165 (by decide +kernel))).trans h1130) (by first | exact q_8aa6573b50 h1136 | omega) (by first | exact q_c82ed93a8c h1133 | omega) h1153 (by first | exact q_58e6e51dcc h1155 | omega) (by first | exact q_7c77837619 h1156 | omega) h1157 (by first | exact q_58e6e51dcc h1159 | omega) (by first | exact q_c82ed93a8c h1160 | omega) h1161 (by first | exact q_58e6e51dcc h1163 | omega) (by first | exact q_615333d33f h1164 | omega) h1144 (by first | exact q_996aa4c518 h1142.1 | omega) (by first | exact q_87d9217d84 h1142.2.1 | omega) ((h1141 _ _ (inW tgz_159 (by decide +kernel))).trans h733) (by first | exact q_58e6e51dcc h734 | omega) (by first | exact q_246f9048f8 h735 | omega) (by (first | exact q_f67127b06c h736 | omega)) (fun _ => by have := Imp_m h737 (by (first | exact q_d8d8e6600d h740 h1135 | omega)); (first | exact q_35a72a35ef this | omega)) (fun _ => by have := Imp_m h737 (by (first | exact q_d8d8e6600d h740 h1135 | omega)); omega) (fun _ => by have := Imp_m h737 (by (first | exact q_d8d8e6600d h740 h1135 | omega)); omega) (fun _ => by have := Imp_m h737 (by (first | exact q_d8d8e6600d h740 h1135 | omega)); omega) (fun _ => by have := Imp_m h737 (by (first | exact q_d8d8e6600d h740 h1135 | omega)); omega) (h1147) (ML_eq h1150 (by subst h1149; exact (gN2_pos (by (first | exact q_7f54fc5aed h752 h753 h750.1 h750.2.1 h1134 h1136 | omega))).symm))
    · refine En_Ps 1 (pc' := 107) (lv' := [(0, .ref 159)]) (st' := [.ref 159]) rfl ?_
      refine En_ldcS (i := 3) rfl rfl rfl ?_
      refine En_callV rfl rfl rfl rfl rfl rfl rfl rfl tgz_159 (by decide +kernel) rfl (c_251s3x σ725 h726 h739) (by decide) (by decide) (fun v1166 σ1167 h1165 => ?_)
      obtain ⟨h1168, h1169, z1171, rfl, h1170⟩ := h1165
      have h1172 := h1170.2.2
      obtain rfl : σ725 = σ1167 := Fr_nil h1169
      refine En_iEq _ rfl rfl (fun h1173 => ?_) (fun h1173 => ?_)
      · refine En_Ps 1 (pc' := 127) (lv' := [(0, .ref 159)]) (st' := [.ref 159]) rfl ?_
        refine En_ldcS (i := 5) rfl rfl rfl ?_
        refine En_callV rfl rfl rfl rfl rfl rfl rfl rfl tgz_159 (by decide +kernel) rfl (c_251s5x σ725 h726 h739) (by decide) (by decide) (fun v1175 σ1176 h1174 => ?_)
        obtain ⟨h1177, h1178, z1180, rfl, h1179⟩ := h1174
        have h1181 := h1179.2.2
        obtain rfl : σ725 = σ1176 := Fr_nil h1178
        refine En_iEq _ rfl rfl (fun h1182 => ?_) (fun h1182 => ?_)
        · refine En_Ps 1 (pc' := 146) (lv' := [(0, .ref 159)]) (st' := [.ref 159]) rfl ?_
          refine En_ldcS (i := 1) rfl rfl rfl ?_
          refine En_callV rfl rfl rfl rfl rfl rfl rfl rfl tgz_159 (by decide +kernel) rfl (c_251s1x σ725 h726 h739) (by decide) (by decide) (fun v1184 σ1185 h1183 => ?_)
          obtain ⟨h1186, h1187, z1189, rfl, h1188⟩ := h1183
          have h1190 := h1188.2.2
          obtain rfl : σ725 = σ1185 := Fr_nil h1187
          refine En_iEq _ rfl rfl (fun h1191 => ?_) (fun h1191 => ?_)
          · obtain ⟨z1193, h1192, h1194, h1195⟩ := WT_peekI h726 tgz_165 (by decide +kernel : FT 41 (3 : Int).toNat = (0, 0, 12)) (by decide +kernel)
            obtain ⟨z1197, h1196, h1198, h1199⟩ := WT_peekI h726 tgz_165 (by decide +kernel : FT 41 (4 : Int).toNat = (0, 0, 4)) (by decide +kernel)
            obtain ⟨z1201, h1200, h1202, h1203⟩ := WT_peekI h726 tgz_165 (by decide +kernel : FT 41 (5 : Int).toNat = (0, 0, 6)) (by decide +kernel)
            exact keyj170 σ725 z1131 z1193 z1197 z1201 y728 y732 h726 h727 h1130 (by first | exact q_58e6e51dcc h1132 | omega) (by first | exact q_4b59c54ff8 h1136 h1133 | omega) h1192 (by first | exact q_58e6e51dcc h1194 | omega) (by first | exact q_7c77837619 h1195 | omega) h1196 (by first | exact q_58e6e51dcc h1198 | omega) (by first | exact q_c82ed93a8c h1199 | omega) h1200 (by first | exact q_58e6e51dcc h1202 | omega) (by first | exact q_615333d33f h1203 | omega) h729 (by first | exact q_58e6e51dcc h730 | omega) (by first | exact q_da5e9b976f h731 | omega) h733 (by first | exact q_58e6e51dcc h734 | omega) (by first | exact q_246f9048f8 h735 | omega) (by (first | exact q_f67127b06c h736 | omega)) (fun _ => by have := Imp_m h737 (by (first | exact q_d8d8e6600d h740 h1135 | omega)); (first | exact q_35a72a35ef this | omega)) (fun hh => by have zz : (gN1 By Nb Sp).1 = 0 := (by (first | exact q_d2dcd30e56 h1135 | omega)); have j1 := Imp_m h741 zz; have j2 := Imp_m h742 zz; have j3 := Imp_m h743 zz; have j4 := Imp_m h744 zz; (first | exact q_1065cca776 h1136 h1133 | omega)) (fun hh => by have := Imp_m h737 (by (first | exact q_35a72a35ef hh.1 | omega)); have zz : (gN1 By Nb Sp).1 = 0 := (by (first | exact q_d2dcd30e56 h1135 | omega)); have j1 := Imp_m h741 zz; have j2 := Imp_m h742 zz; have j3 := Imp_m h743 zz; have j4 := Imp_m h744 zz; (first | exact q_809026a008 j2 hh.2 h1173 h1172 | omega)) (fun hh => by have := Imp_m h737 (by (first | exact q_35a72a35ef hh.1 | omega)); have zz : (gN1 By Nb Sp).1 = 0 := (by (first | exact q_d2dcd30e56 h1135 | omega)); have j1 := Imp_m h741 zz; have j2 := Imp_m h742 zz; have j3 := Imp_m h743 zz; have j4 := Imp_m h744 zz; (first | exact q_9a56868a89 j3 hh.2 h1182 h1181 | omega)) (fun hh => by have := Imp_m h737 (by (first | exact q_35a72a35ef hh.1 | omega)); have zz : (gN1 By Nb Sp).1 = 0 := (by (first | exact q_d2dcd30e56 h1135 | omega)); have j1 := Imp_m h741 zz; have j2 := Imp_m h742 zz; have j3 := Imp_m h743 zz; have j4 := Imp_m h744 zz; (first | exact q_d615a55187 j4 hh.2 h1191 h1190 | omega)) (h738) (ML_eq h739 (gN2_neg (by (first | exact q_0b42a55c8e h1136 h1134 h1133 h1172 h1173 h1181 h1182 h1190 h1191 | omega))).symm)
          · refine En_Ps 1 (pc' := 155) (lv' := [(0, .ref 159)]) (st' := [.ref 159]) rfl ?_
            refine En_getK (j := 14) h1128 rfl rfl rfl tgz_159 (by decide +kernel) ?_
            refine En_Ps 1 (pc' := 159) (lv' := [(0, .ref 159)]) (st' := [.int ((Int32.ofInt 5)), .ref 165]) rfl ?_
            refine En_iald (l := 0) (u := 6) rfl (by decide : (Int32.ofInt 5).toInt = 5) tgz_165 (by decide +kernel) h726 (by decide) (lnI (by decide +kernel : LN _ = 226) (by decide)) (by decide +kernel) (fun z1205 h1204 h1206 h1207 => ?_)
            have h1209 : (gN1 By Nb Sp).1 = 0 := iW_g (i := 1) (B := By) (n := Nb) (by (first | exact q_8c31a76373 h1191 h1188.1 h1190 h1188.2.1 | omega))
            have h1208 : (gN1 By Nb Sp).2.2.2 5 = z1205.toInt := ML_wi h739 h1209 h1204 (by (first | decide | omega)) (by (first | decide | omega)) (by (first | decide | omega))
            refine En_Ps 1 (pc' := 162) (lv' := [(0, .ref 159)]) (st' := [.int (((Int8.ofInt 6).toInt32)), .int z1205]) rfl ?_
            refine En_icNe _ rfl (by decide : ((Int8.ofInt 6).toInt32).toInt = 6) rfl (fun h1210 => ?_) (fun h1210 => ?_)
            · obtain ⟨z1212, h1211, h1213, h1214⟩ := WT_peekI h726 tgz_165 (by decide +kernel : FT 41 (3 : Int).toNat = (0, 0, 12)) (by decide +kernel)
              obtain ⟨z1216, h1215, h1217, h1218⟩ := WT_peekI h726 tgz_165 (by decide +kernel : FT 41 (4 : Int).toNat = (0, 0, 4)) (by decide +kernel)
              exact keyj170 σ725 z1131 z1212 z1216 z1205 y728 y732 h726 h727 h1130 (by first | exact q_58e6e51dcc h1132 | omega) (by first | exact q_4b59c54ff8 h1136 h1133 | omega) h1211 (by first | exact q_58e6e51dcc h1213 | omega) (by first | exact q_7c77837619 h1214 | omega) h1215 (by first | exact q_58e6e51dcc h1217 | omega) (by first | exact q_c82ed93a8c h1218 | omega) h1204 (by first | exact q_58e6e51dcc h1206 | omega) (by first | exact q_b7df4df08f h1210 h1207 | omega) h729 (by first | exact q_58e6e51dcc h730 | omega) (by first | exact q_da5e9b976f h731 | omega) h733 (by first | exact q_58e6e51dcc h734 | omega) (by first | exact q_246f9048f8 h735 | omega) (by (first | exact q_f67127b06c h736 | omega)) (fun _ => by have := Imp_m h737 (by (first | exact q_d8d8e6600d h740 h1209 | omega)); (first | exact q_35a72a35ef this | omega)) (fun hh => by have zz : (gN1 By Nb Sp).1 = 0 := (by (first | exact q_d2dcd30e56 h1209 | omega)); have j1 := Imp_m h741 zz; have j2 := Imp_m h742 zz; have j3 := Imp_m h743 zz; have j4 := Imp_m h744 zz; (first | exact q_1065cca776 h1136 h1133 | omega)) (fun hh => by have := Imp_m h737 (by (first | exact q_35a72a35ef hh.1 | omega)); have zz : (gN1 By Nb Sp).1 = 0 := (by (first | exact q_d2dcd30e56 h1209 | omega)); have j1 := Imp_m h741 zz; have j2 := Imp_m h742 zz; have j3 := Imp_m h743 zz; have j4 := Imp_m h744 zz; (first | exact q_809026a008 j2 hh.2 h1173 h1172 | omega)) (fun hh => by have := Imp_m h737 (by (first | exact q_35a72a35ef hh.1 | omega)); have zz : (gN1 By Nb Sp).1 = 0 := (by (first | exact q_d2dcd30e56 h1209 | omega)); have j1 := Imp_m h741 zz; have j2 := Imp_m h742 zz; have j3 := Imp_m h743 zz; have j4 := Imp_m h744 zz; (first | exact q_9a56868a89 j3 hh.2 h1182 h1181 | omega)) (fun hh => by have zz : (gN1 By Nb Sp).1 = 0 := (by (first | exact q_d2dcd30e56 h1209 | omega)); have j1 := Imp_m h741 zz; have j2 := Imp_m h742 zz; have j3 := Imp_m h743 zz; have j4 := Imp_m h744 zz; (first | exact q_9f42007399 h1210 h1207 | omega)) (h738) (ML_eq h739 (gN2_neg (by (first | exact q_4b68f8fe7f h1136 h1134 h1133 h1172 h1173 h1181 h1182 h1208 h1210 h1207 | omega))).symm)
            · refine En_Ps 2 (pc' := 167) (lv' := [(0, .ref 159)]) (st' := [.int ((Int32.ofInt 3)), .ref 159]) rfl ?_
              have := (by decide : ((Int32.ofInt 3)).toInt = 3)
              refine En_callV rfl rfl rfl rfl rfl rfl rfl rfl tgz_159 (by decide +kernel) rfl (c_223x σ725 h726 ((Int32.ofInt 3)) (geI (by decide : (Int32.ofInt 3).toInt = 3) (by decide)) (leI (by decide : (Int32.ofInt 3).toInt = 3) (by decide)) y728 h729 h739) (by decide) (by decide) (fun v1220 σ1221 h1219 => ?_)
              obtain ⟨h1222, h1223, z1225, h1226, rfl, h1224⟩ := h1219
              have h1227 := h1224.2.2.2.2
              have h1228 := Fr_trans h727 h1223 (by decide +kernel)
              have h1229 := KF_fr h738 h1223 (by decide +kernel)
              obtain ⟨S1230, h1231⟩ : ∃ q : PS, q = err By Nb 3 (gN1 By Nb Sp) := ⟨_, rfl⟩
              have h1232 : ML By Nb σ1221 S1230 := by rw [h1231]; exact (ML_eq h1227 (err_cg (by (first | exact q_5736040b52 this | omega))))
              have h1233 := ML_k h1232 h1226
              have h1234 : S1230.2.2.2 = (gN1 By Nb Sp).2.2.2 := by rw [h1231]; exact err_w
              obtain ⟨z1236, h1235, h1237, h1238⟩ := WT_peekI h1222 tgz_165 (by decide +kernel : FT 41 (3 : Int).toNat = (0, 0, 12)) (by decide +kernel)
              obtain ⟨z1240, h1239, h1241, h1242⟩ := WT_peekI h1222 tgz_165 (by decide +kernel : FT 41 (4 : Int).toNat = (0, 0, 4)) (by decide +kernel)
              exact keyj170 σ1221 z1131 z1236 z1240 z1205 z1225 y732 h1222 h1228 ((h1223 _ _ (inWa tgz_165 (by decide +kernel))).trans h1130) (by first | exact q_58e6e51dcc h1132 | omega) (by first | exact q_4b59c54ff8 h1136 h1133 | omega) h1235 (by first | exact q_58e6e51dcc h1237 | omega) (by first | exact q_7c77837619 h1238 | omega) h1239 (by first | exact q_58e6e51dcc h1241 | omega) (by first | exact q_c82ed93a8c h1242 | omega) ((h1223 _ _ (inWa tgz_165 (by decide +kernel))).trans h1204) (by first | exact q_b2cec3a713 h1210 | omega) (by first | exact q_615333d33f h1207 | omega) h1226 (by first | exact q_996aa4c518 h1224.1 | omega) (by first | exact q_87d9217d84 h1224.2.1 | omega) ((h1223 _ _ (inW tgz_159 (by decide +kernel))).trans h733) (by first | exact q_58e6e51dcc h734 | omega) (by first | exact q_246f9048f8 h735 | omega) (by (first | exact q_f67127b06c h736 | omega)) (fun _ => by have := Imp_m h737 (by (first | exact q_d8d8e6600d h740 h1209 | omega)); (first | exact q_35a72a35ef this | omega)) (fun _ => by (first | exact q_1065cca776 h1136 h1133 | omega)) (fun _ => by have := Imp_m h737 (by (first | exact q_d8d8e6600d h740 h1209 | omega)); omega) (fun _ => by have := Imp_m h737 (by (first | exact q_d8d8e6600d h740 h1209 | omega)); omega) (fun _ => by have := Imp_m h737 (by (first | exact q_d8d8e6600d h740 h1209 | omega)); omega) (h1229) (ML_eq h1232 (by subst h1231; exact (gN2_pos (by (first | exact q_80b45e2ff9 h1190 h1191 h1188.1 h1188.2.1 h1208 h1210 | omega))).symm))
        · refine En_Ps 1 (pc' := 136) (lv' := [(0, .ref 159)]) (st' := [.ref 159]) rfl ?_
          refine En_getK (j := 14) h1128 rfl rfl rfl tgz_159 (by decide +kernel) ?_
          refine En_Ps 1 (pc' := 140) (lv' := [(0, .ref 159)]) (st' := [.int ((Int32.ofInt 4)), .ref 165]) rfl ?_
          refine En_iald (l := 0) (u := 4) rfl (by decide : (Int32.ofInt 4).toInt = 4) tgz_165 (by decide +kernel) h726 (by decide) (lnI (by decide +kernel : LN _ = 226) (by decide)) (by decide +kernel) (fun z1244 h1243 h1245 h1246 => ?_)
          have h1248 : (gN1 By Nb Sp).1 = 0 := iW_g (i := 5) (B := By) (n := Nb) (by (first | exact q_8c31a76373 h1182 h1179.1 h1181 h1179.2.1 | omega))
          have h1247 : (gN1 By Nb Sp).2.2.2 4 = z1244.toInt := ML_wi h739 h1248 h1243 (by (first | decide | omega)) (by (first | decide | omega)) (by (first | decide | omega))
          refine En_Ps 1 (pc' := 142) (lv' := [(0, .ref 159)]) (st' := [.int ((Int32.ofInt 4)), .int z1244]) rfl ?_
          refine En_icEq _ rfl (by decide : (Int32.ofInt 4).toInt = 4) rfl (fun h1249 => ?_) (fun h1249 => ?_)
          · refine En_Ps 2 (pc' := 167) (lv' := [(0, .ref 159)]) (st' := [.int ((Int32.ofInt 3)), .ref 159]) rfl ?_
            have := (by decide : ((Int32.ofInt 3)).toInt = 3)
            refine En_callV rfl rfl rfl rfl rfl rfl rfl rfl tgz_159 (by decide +kernel) rfl (c_223x σ725 h726 ((Int32.ofInt 3)) (geI (by decide : (Int32.ofInt 3).toInt = 3) (by decide)) (leI (by decide : (Int32.ofInt 3).toInt = 3) (by decide)) y728 h729 h739) (by decide) (by decide) (fun v1251 σ1252 h1250 => ?_)
            obtain ⟨h1253, h1254, z1256, h1257, rfl, h1255⟩ := h1250
            have h1258 := h1255.2.2.2.2
            have h1259 := Fr_trans h727 h1254 (by decide +kernel)
            have h1260 := KF_fr h738 h1254 (by decide +kernel)
            obtain ⟨S1261, h1262⟩ : ∃ q : PS, q = err By Nb 3 (gN1 By Nb Sp) := ⟨_, rfl⟩
            have h1263 : ML By Nb σ1252 S1261 := by rw [h1262]; exact (ML_eq h1258 (err_cg (by (first | exact q_5736040b52 this | omega))))
            have h1264 := ML_k h1263 h1257
            have h1265 : S1261.2.2.2 = (gN1 By Nb Sp).2.2.2 := by rw [h1262]; exact err_w
            obtain ⟨z1267, h1266, h1268, h1269⟩ := WT_peekI h1253 tgz_165 (by decide +kernel : FT 41 (3 : Int).toNat = (0, 0, 12)) (by decide +kernel)
            obtain ⟨z1271, h1270, h1272, h1273⟩ := WT_peekI h1253 tgz_165 (by decide +kernel : FT 41 (5 : Int).toNat = (0, 0, 6)) (by decide +kernel)
            exact keyj170 σ1252 z1131 z1267 z1244 z1271 z1256 y732 h1253 h1259 ((h1254 _ _ (inWa tgz_165 (by decide +kernel))).trans h1130) (by first | exact q_58e6e51dcc h1132 | omega) (by first | exact q_4b59c54ff8 h1136 h1133 | omega) h1266 (by first | exact q_58e6e51dcc h1268 | omega) (by first | exact q_7c77837619 h1269 | omega) ((h1254 _ _ (inWa tgz_165 (by decide +kernel))).trans h1243) (by first | exact q_8aa6573b50 h1249 | omega) (by first | exact q_c82ed93a8c h1246 | omega) h1270 (by first | exact q_58e6e51dcc h1272 | omega) (by first | exact q_615333d33f h1273 | omega) h1257 (by first | exact q_996aa4c518 h1255.1 | omega) (by first | exact q_87d9217d84 h1255.2.1 | omega) ((h1254 _ _ (inW tgz_159 (by decide +kernel))).trans h733) (by first | exact q_58e6e51dcc h734 | omega) (by first | exact q_246f9048f8 h735 | omega) (by (first | exact q_f67127b06c h736 | omega)) (fun _ => by have := Imp_m h737 (by (first | exact q_d8d8e6600d h740 h1248 | omega)); (first | exact q_35a72a35ef this | omega)) (fun _ => by (first | exact q_1065cca776 h1136 h1133 | omega)) (fun _ => by have := Imp_m h737 (by (first | exact q_d8d8e6600d h740 h1248 | omega)); omega) (fun _ => by have := Imp_m h737 (by (first | exact q_d8d8e6600d h740 h1248 | omega)); omega) (fun _ => by have := Imp_m h737 (by (first | exact q_d8d8e6600d h740 h1248 | omega)); omega) (h1260) (ML_eq h1263 (by subst h1262; exact (gN2_pos (by (first | exact q_cf7049a829 h1181 h1182 h1179.1 h1179.2.1 h1247 h1249 | omega))).symm))
          · refine En_Ps 1 (pc' := 146) (lv' := [(0, .ref 159)]) (st' := [.ref 159]) rfl ?_
            refine En_ldcS (i := 1) rfl rfl rfl ?_
            refine En_callV rfl rfl rfl rfl rfl rfl rfl rfl tgz_159 (by decide +kernel) rfl (c_251s1x σ725 h726 h739) (by decide) (by decide) (fun v1275 σ1276 h1274 => ?_)
            obtain ⟨h1277, h1278, z1280, rfl, h1279⟩ := h1274
            have h1281 := h1279.2.2
            obtain rfl : σ725 = σ1276 := Fr_nil h1278
            refine En_iEq _ rfl rfl (fun h1282 => ?_) (fun h1282 => ?_)
            · obtain ⟨z1284, h1283, h1285, h1286⟩ := WT_peekI h726 tgz_165 (by decide +kernel : FT 41 (3 : Int).toNat = (0, 0, 12)) (by decide +kernel)
              obtain ⟨z1288, h1287, h1289, h1290⟩ := WT_peekI h726 tgz_165 (by decide +kernel : FT 41 (5 : Int).toNat = (0, 0, 6)) (by decide +kernel)
              exact keyj170 σ725 z1131 z1284 z1244 z1288 y728 y732 h726 h727 h1130 (by first | exact q_58e6e51dcc h1132 | omega) (by first | exact q_4b59c54ff8 h1136 h1133 | omega) h1283 (by first | exact q_58e6e51dcc h1285 | omega) (by first | exact q_7c77837619 h1286 | omega) h1243 (by first | exact q_58e6e51dcc h1245 | omega) (by first | exact q_4b59c54ff8 h1249 h1246 | omega) h1287 (by first | exact q_58e6e51dcc h1289 | omega) (by first | exact q_615333d33f h1290 | omega) h729 (by first | exact q_58e6e51dcc h730 | omega) (by first | exact q_da5e9b976f h731 | omega) h733 (by first | exact q_58e6e51dcc h734 | omega) (by first | exact q_246f9048f8 h735 | omega) (by (first | exact q_f67127b06c h736 | omega)) (fun _ => by have := Imp_m h737 (by (first | exact q_d8d8e6600d h740 h1248 | omega)); (first | exact q_35a72a35ef this | omega)) (fun hh => by have zz : (gN1 By Nb Sp).1 = 0 := (by (first | exact q_d2dcd30e56 h1248 | omega)); have j1 := Imp_m h741 zz; have j2 := Imp_m h742 zz; have j3 := Imp_m h743 zz; have j4 := Imp_m h744 zz; (first | exact q_1065cca776 h1136 h1133 | omega)) (fun hh => by have := Imp_m h737 (by (first | exact q_35a72a35ef hh.1 | omega)); have zz : (gN1 By Nb Sp).1 = 0 := (by (first | exact q_d2dcd30e56 h1248 | omega)); have j1 := Imp_m h741 zz; have j2 := Imp_m h742 zz; have j3 := Imp_m h743 zz; have j4 := Imp_m h744 zz; (first | exact q_809026a008 j2 hh.2 h1173 h1172 | omega)) (fun hh => by have zz : (gN1 By Nb Sp).1 = 0 := (by (first | exact q_d2dcd30e56 h1248 | omega)); have j1 := Imp_m h741 zz; have j2 := Imp_m h742 zz; have j3 := Imp_m h743 zz; have j4 := Imp_m h744 zz; (first | exact q_1065cca776 h1249 h1246 | omega)) (fun hh => by have := Imp_m h737 (by (first | exact q_35a72a35ef hh.1 | omega)); have zz : (gN1 By Nb Sp).1 = 0 := (by (first | exact q_d2dcd30e56 h1248 | omega)); have j1 := Imp_m h741 zz; have j2 := Imp_m h742 zz; have j3 := Imp_m h743 zz; have j4 := Imp_m h744 zz; (first | exact q_d615a55187 j4 hh.2 h1282 h1281 | omega)) (h738) (ML_eq h739 (gN2_neg (by (first | exact q_5b9cf5b049 h1136 h1134 h1133 h1172 h1173 h1247 h1249 h1246 h1281 h1282 | omega))).symm)
            · refine En_Ps 1 (pc' := 155) (lv' := [(0, .ref 159)]) (st' := [.ref 159]) rfl ?_
              refine En_getK (j := 14) h1128 rfl rfl rfl tgz_159 (by decide +kernel) ?_
              refine En_Ps 1 (pc' := 159) (lv' := [(0, .ref 159)]) (st' := [.int ((Int32.ofInt 5)), .ref 165]) rfl ?_
              refine En_iald (l := 0) (u := 6) rfl (by decide : (Int32.ofInt 5).toInt = 5) tgz_165 (by decide +kernel) h726 (by decide) (lnI (by decide +kernel : LN _ = 226) (by decide)) (by decide +kernel) (fun z1292 h1291 h1293 h1294 => ?_)
              have h1296 : (gN1 By Nb Sp).1 = 0 := iW_g (i := 1) (B := By) (n := Nb) (by (first | exact q_8c31a76373 h1282 h1279.1 h1281 h1279.2.1 | omega))
              have h1295 : (gN1 By Nb Sp).2.2.2 5 = z1292.toInt := ML_wi h739 h1296 h1291 (by (first | decide | omega)) (by (first | decide | omega)) (by (first | decide | omega))
              refine En_Ps 1 (pc' := 162) (lv' := [(0, .ref 159)]) (st' := [.int (((Int8.ofInt 6).toInt32)), .int z1292]) rfl ?_
              refine En_icNe _ rfl (by decide : ((Int8.ofInt 6).toInt32).toInt = 6) rfl (fun h1297 => ?_) (fun h1297 => ?_)
              · obtain ⟨z1299, h1298, h1300, h1301⟩ := WT_peekI h726 tgz_165 (by decide +kernel : FT 41 (3 : Int).toNat = (0, 0, 12)) (by decide +kernel)
                exact keyj170 σ725 z1131 z1299 z1244 z1292 y728 y732 h726 h727 h1130 (by first | exact q_58e6e51dcc h1132 | omega) (by first | exact q_4b59c54ff8 h1136 h1133 | omega) h1298 (by first | exact q_58e6e51dcc h1300 | omega) (by first | exact q_7c77837619 h1301 | omega) h1243 (by first | exact q_58e6e51dcc h1245 | omega) (by first | exact q_4b59c54ff8 h1249 h1246 | omega) h1291 (by first | exact q_58e6e51dcc h1293 | omega) (by first | exact q_b7df4df08f h1297 h1294 | omega) h729 (by first | exact q_58e6e51dcc h730 | omega) (by first | exact q_da5e9b976f h731 | omega) h733 (by first | exact q_58e6e51dcc h734 | omega) (by first | exact q_246f9048f8 h735 | omega) (by (first | exact q_f67127b06c h736 | omega)) (fun _ => by have := Imp_m h737 (by (first | exact q_d8d8e6600d h740 h1296 | omega)); (first | exact q_35a72a35ef this | omega)) (fun hh => by have zz : (gN1 By Nb Sp).1 = 0 := (by (first | exact q_d2dcd30e56 h1296 | omega)); have j1 := Imp_m h741 zz; have j2 := Imp_m h742 zz; have j3 := Imp_m h743 zz; have j4 := Imp_m h744 zz; (first | exact q_1065cca776 h1136 h1133 | omega)) (fun hh => by have := Imp_m h737 (by (first | exact q_35a72a35ef hh.1 | omega)); have zz : (gN1 By Nb Sp).1 = 0 := (by (first | exact q_d2dcd30e56 h1296 | omega)); have j1 := Imp_m h741 zz; have j2 := Imp_m h742 zz; have j3 := Imp_m h743 zz; have j4 := Imp_m h744 zz; (first | exact q_809026a008 j2 hh.2 h1173 h1172 | omega)) (fun hh => by have zz : (gN1 By Nb Sp).1 = 0 := (by (first | exact q_d2dcd30e56 h1296 | omega)); have j1 := Imp_m h741 zz; have j2 := Imp_m h742 zz; have j3 := Imp_m h743 zz; have j4 := Imp_m h744 zz; (first | exact q_1065cca776 h1249 h1246 | omega)) (fun hh => by have zz : (gN1 By Nb Sp).1 = 0 := (by (first | exact q_d2dcd30e56 h1296 | omega)); have j1 := Imp_m h741 zz; have j2 := Imp_m h742 zz; have j3 := Imp_m h743 zz; have j4 := Imp_m h744 zz; (first | exact q_9f42007399 h1297 h1294 | omega)) (h738) (ML_eq h739 (gN2_neg (by omega)).symm)
              · refine En_Ps 2 (pc' := 167) (lv' := [(0, .ref 159)]) (st' := [.int ((Int32.ofInt 3)), .ref 159]) rfl ?_
                have := (by decide : ((Int32.ofInt 3)).toInt = 3)
                refine En_callV rfl rfl rfl rfl rfl rfl rfl rfl tgz_159 (by decide +kernel) rfl (c_223x σ725 h726 ((Int32.ofInt 3)) (geI (by decide : (Int32.ofInt 3).toInt = 3) (by decide)) (leI (by decide : (Int32.ofInt 3).toInt = 3) (by decide)) y728 h729 h739) (by decide) (by decide) (fun v1303 σ1304 h1302 => ?_)
                obtain ⟨h1305, h1306, z1308, h1309, rfl, h1307⟩ := h1302
                have h1310 := h1307.2.2.2.2
                have h1311 := Fr_trans h727 h1306 (by decide +kernel)
                have h1312 := KF_fr h738 h1306 (by decide +kernel)
                obtain ⟨S1313, h1314⟩ : ∃ q : PS, q = err By Nb 3 (gN1 By Nb Sp) := ⟨_, rfl⟩
                have h1315 : ML By Nb σ1304 S1313 := by rw [h1314]; exact (ML_eq h1310 (err_cg (by (first | exact q_5736040b52 this | omega))))
                have h1316 := ML_k h1315 h1309
                have h1317 : S1313.2.2.2 = (gN1 By Nb Sp).2.2.2 := by rw [h1314]; exact err_w
                obtain ⟨z1319, h1318, h1320, h1321⟩ := WT_peekI h1305 tgz_165 (by decide +kernel : FT 41 (3 : Int).toNat = (0, 0, 12)) (by decide +kernel)
                exact keyj170 σ1304 z1131 z1319 z1244 z1292 z1308 y732 h1305 h1311 ((h1306 _ _ (inWa tgz_165 (by decide +kernel))).trans h1130) (by first | exact q_58e6e51dcc h1132 | omega) (by first | exact q_4b59c54ff8 h1136 h1133 | omega) h1318 (by first | exact q_58e6e51dcc h1320 | omega) (by first | exact q_7c77837619 h1321 | omega) ((h1306 _ _ (inWa tgz_165 (by decide +kernel))).trans h1243) (by first | exact q_58e6e51dcc h1245 | omega) (by first | exact q_4b59c54ff8 h1249 h1246 | omega) ((h1306 _ _ (inWa tgz_165 (by decide +kernel))).trans h1291) (by first | exact q_b2cec3a713 h1297 | omega) (by first | exact q_615333d33f h1294 | omega) h1309 (by first | exact q_996aa4c518 h1307.1 | omega) (by first | exact q_87d9217d84 h1307.2.1 | omega) ((h1306 _ _ (inW tgz_159 (by decide +kernel))).trans h733) (by first | exact q_58e6e51dcc h734 | omega) (by first | exact q_246f9048f8 h735 | omega) (by (first | exact q_f67127b06c h736 | omega)) (fun _ => by have := Imp_m h737 (by (first | exact q_d8d8e6600d h740 h1296 | omega)); (first | exact q_35a72a35ef this | omega)) (fun _ => by (first | exact q_1065cca776 h1136 h1133 | omega)) (fun _ => by have := Imp_m h737 (by (first | exact q_d8d8e6600d h740 h1296 | omega)); omega) (fun _ => by (first | exact q_1065cca776 h1249 h1246 | omega)) (fun _ => by have := Imp_m h737 (by (first | exact q_d8d8e6600d h740 h1296 | omega)); omega) (h1312) (ML_eq h1315 (by subst h1314; exact (gN2_pos (by (first | exact q_80b45e2ff9 h1281 h1282 h1279.1 h1279.2.1 h1295 h1297 | omega))).symm))
      · refine En_Ps 1 (pc' := 116) (lv' := [(0, .ref 159)]) (st' := [.ref 159]) rfl ?_
        refine En_getK (j := 14) h1128 rfl rfl rfl tgz_159 (by decide +kernel) ?_
        refine En_Ps 1 (pc' := 120) (lv' := [(0, .ref 159)]) (st' := [.int ((Int32.ofInt 3)), .ref 165]) rfl ?_
        refine En_iald (l := 0) (u := 12) rfl (by decide : (Int32.ofInt 3).toInt = 3) tgz_165 (by decide +kernel) h726 (by decide) (lnI (by decide +kernel : LN _ = 226) (by decide)) (by decide +kernel) (fun z1323 h1322 h1324 h1325 => ?_)
        have h1327 : (gN1 By Nb Sp).1 = 0 := iW_g (i := 3) (B := By) (n := Nb) (by (first | exact q_8c31a76373 h1173 h1170.1 h1172 h1170.2.1 | omega))
        have h1326 : (gN1 By Nb Sp).2.2.2 3 = z1323.toInt := ML_wi h739 h1327 h1322 (by (first | decide | omega)) (by (first | decide | omega)) (by (first | decide | omega))
        refine En_Ps 1 (pc' := 123) (lv' := [(0, .ref 159)]) (st' := [.int (((Int8.ofInt 12).toInt32)), .int z1323]) rfl ?_
        refine En_icEq _ rfl (by decide : ((Int8.ofInt 12).toInt32).toInt = 12) rfl (fun h1328 => ?_) (fun h1328 => ?_)
        · refine En_Ps 2 (pc' := 167) (lv' := [(0, .ref 159)]) (st' := [.int ((Int32.ofInt 3)), .ref 159]) rfl ?_
          have := (by decide : ((Int32.ofInt 3)).toInt = 3)
          refine En_callV rfl rfl rfl rfl rfl rfl rfl rfl tgz_159 (by decide +kernel) rfl (c_223x σ725 h726 ((Int32.ofInt 3)) (geI (by decide : (Int32.ofInt 3).toInt = 3) (by decide)) (leI (by decide : (Int32.ofInt 3).toInt = 3) (by decide)) y728 h729 h739) (by decide) (by decide) (fun v1330 σ1331 h1329 => ?_)
          obtain ⟨h1332, h1333, z1335, h1336, rfl, h1334⟩ := h1329
          have h1337 := h1334.2.2.2.2
          have h1338 := Fr_trans h727 h1333 (by decide +kernel)
          have h1339 := KF_fr h738 h1333 (by decide +kernel)
          obtain ⟨S1340, h1341⟩ : ∃ q : PS, q = err By Nb 3 (gN1 By Nb Sp) := ⟨_, rfl⟩
          have h1342 : ML By Nb σ1331 S1340 := by rw [h1341]; exact (ML_eq h1337 (err_cg (by (first | exact q_5736040b52 this | omega))))
          have h1343 := ML_k h1342 h1336
          have h1344 : S1340.2.2.2 = (gN1 By Nb Sp).2.2.2 := by rw [h1341]; exact err_w
          obtain ⟨z1346, h1345, h1347, h1348⟩ := WT_peekI h1332 tgz_165 (by decide +kernel : FT 41 (4 : Int).toNat = (0, 0, 4)) (by decide +kernel)
          obtain ⟨z1350, h1349, h1351, h1352⟩ := WT_peekI h1332 tgz_165 (by decide +kernel : FT 41 (5 : Int).toNat = (0, 0, 6)) (by decide +kernel)
          exact keyj170 σ1331 z1131 z1323 z1346 z1350 z1335 y732 h1332 h1338 ((h1333 _ _ (inWa tgz_165 (by decide +kernel))).trans h1130) (by first | exact q_58e6e51dcc h1132 | omega) (by first | exact q_4b59c54ff8 h1136 h1133 | omega) ((h1333 _ _ (inWa tgz_165 (by decide +kernel))).trans h1322) (by first | exact q_c921150b37 h1328 | omega) (by first | exact q_7c77837619 h1325 | omega) h1345 (by first | exact q_58e6e51dcc h1347 | omega) (by first | exact q_c82ed93a8c h1348 | omega) h1349 (by first | exact q_58e6e51dcc h1351 | omega) (by first | exact q_615333d33f h1352 | omega) h1336 (by first | exact q_996aa4c518 h1334.1 | omega) (by first | exact q_87d9217d84 h1334.2.1 | omega) ((h1333 _ _ (inW tgz_159 (by decide +kernel))).trans h733) (by first | exact q_58e6e51dcc h734 | omega) (by first | exact q_246f9048f8 h735 | omega) (by (first | exact q_f67127b06c h736 | omega)) (fun _ => by have := Imp_m h737 (by (first | exact q_d8d8e6600d h740 h1327 | omega)); (first | exact q_35a72a35ef this | omega)) (fun _ => by (first | exact q_1065cca776 h1136 h1133 | omega)) (fun _ => by have := Imp_m h737 (by (first | exact q_d8d8e6600d h740 h1327 | omega)); omega) (fun _ => by have := Imp_m h737 (by (first | exact q_d8d8e6600d h740 h1327 | omega)); omega) (fun _ => by have := Imp_m h737 (by (first | exact q_d8d8e6600d h740 h1327 | omega)); omega) (h1339) (ML_eq h1342 (by subst h1341; exact (gN2_pos (by (first | exact q_f7e0ee2480 h1172 h1173 h1170.1 h1170.2.1 h1326 h1328 | omega))).symm))
        · refine En_Ps 1 (pc' := 127) (lv' := [(0, .ref 159)]) (st' := [.ref 159]) rfl ?_
          refine En_ldcS (i := 5) rfl rfl rfl ?_
          refine En_callV rfl rfl rfl rfl rfl rfl rfl rfl tgz_159 (by decide +kernel) rfl (c_251s5x σ725 h726 h739) (by decide) (by decide) (fun v1354 σ1355 h1353 => ?_)
          obtain ⟨h1356, h1357, z1359, rfl, h1358⟩ := h1353
          have h1360 := h1358.2.2
          obtain rfl : σ725 = σ1355 := Fr_nil h1357
          refine En_iEq _ rfl rfl (fun h1361 => ?_) (fun h1361 => ?_)
          · refine En_Ps 1 (pc' := 146) (lv' := [(0, .ref 159)]) (st' := [.ref 159]) rfl ?_
            refine En_ldcS (i := 1) rfl rfl rfl ?_
            refine En_callV rfl rfl rfl rfl rfl rfl rfl rfl tgz_159 (by decide +kernel) rfl (c_251s1x σ725 h726 h739) (by decide) (by decide) (fun v1363 σ1364 h1362 => ?_)
            obtain ⟨h1365, h1366, z1368, rfl, h1367⟩ := h1362
            have h1369 := h1367.2.2
            obtain rfl : σ725 = σ1364 := Fr_nil h1366
            refine En_iEq _ rfl rfl (fun h1370 => ?_) (fun h1370 => ?_)
            · obtain ⟨z1372, h1371, h1373, h1374⟩ := WT_peekI h726 tgz_165 (by decide +kernel : FT 41 (4 : Int).toNat = (0, 0, 4)) (by decide +kernel)
              obtain ⟨z1376, h1375, h1377, h1378⟩ := WT_peekI h726 tgz_165 (by decide +kernel : FT 41 (5 : Int).toNat = (0, 0, 6)) (by decide +kernel)
              exact keyj170 σ725 z1131 z1323 z1372 z1376 y728 y732 h726 h727 h1130 (by first | exact q_58e6e51dcc h1132 | omega) (by first | exact q_4b59c54ff8 h1136 h1133 | omega) h1322 (by first | exact q_58e6e51dcc h1324 | omega) (by first | exact q_f080a0e48d h1328 h1325 | omega) h1371 (by first | exact q_58e6e51dcc h1373 | omega) (by first | exact q_c82ed93a8c h1374 | omega) h1375 (by first | exact q_58e6e51dcc h1377 | omega) (by first | exact q_615333d33f h1378 | omega) h729 (by first | exact q_58e6e51dcc h730 | omega) (by first | exact q_da5e9b976f h731 | omega) h733 (by first | exact q_58e6e51dcc h734 | omega) (by first | exact q_246f9048f8 h735 | omega) (by (first | exact q_f67127b06c h736 | omega)) (fun _ => by have := Imp_m h737 (by (first | exact q_d8d8e6600d h740 h1327 | omega)); (first | exact q_35a72a35ef this | omega)) (fun hh => by have zz : (gN1 By Nb Sp).1 = 0 := (by (first | exact q_d2dcd30e56 h1327 | omega)); have j1 := Imp_m h741 zz; have j2 := Imp_m h742 zz; have j3 := Imp_m h743 zz; have j4 := Imp_m h744 zz; (first | exact q_1065cca776 h1136 h1133 | omega)) (fun hh => by have zz : (gN1 By Nb Sp).1 = 0 := (by (first | exact q_d2dcd30e56 h1327 | omega)); have j1 := Imp_m h741 zz; have j2 := Imp_m h742 zz; have j3 := Imp_m h743 zz; have j4 := Imp_m h744 zz; (first | exact q_6db8230771 h1328 h1325 | omega)) (fun hh => by have := Imp_m h737 (by (first | exact q_35a72a35ef hh.1 | omega)); have zz : (gN1 By Nb Sp).1 = 0 := (by (first | exact q_d2dcd30e56 h1327 | omega)); have j1 := Imp_m h741 zz; have j2 := Imp_m h742 zz; have j3 := Imp_m h743 zz; have j4 := Imp_m h744 zz; (first | exact q_9a56868a89 j3 hh.2 h1361 h1360 | omega)) (fun hh => by have := Imp_m h737 (by (first | exact q_35a72a35ef hh.1 | omega)); have zz : (gN1 By Nb Sp).1 = 0 := (by (first | exact q_d2dcd30e56 h1327 | omega)); have j1 := Imp_m h741 zz; have j2 := Imp_m h742 zz; have j3 := Imp_m h743 zz; have j4 := Imp_m h744 zz; (first | exact q_d615a55187 j4 hh.2 h1370 h1369 | omega)) (h738) (ML_eq h739 (gN2_neg (by (first | exact q_101234f4b2 h1136 h1134 h1133 h1326 h1328 h1325 h1360 h1361 h1369 h1370 | omega))).symm)
            · refine En_Ps 1 (pc' := 155) (lv' := [(0, .ref 159)]) (st' := [.ref 159]) rfl ?_
              refine En_getK (j := 14) h1128 rfl rfl rfl tgz_159 (by decide +kernel) ?_
              refine En_Ps 1 (pc' := 159) (lv' := [(0, .ref 159)]) (st' := [.int ((Int32.ofInt 5)), .ref 165]) rfl ?_
              refine En_iald (l := 0) (u := 6) rfl (by decide : (Int32.ofInt 5).toInt = 5) tgz_165 (by decide +kernel) h726 (by decide) (lnI (by decide +kernel : LN _ = 226) (by decide)) (by decide +kernel) (fun z1380 h1379 h1381 h1382 => ?_)
              have h1384 : (gN1 By Nb Sp).1 = 0 := iW_g (i := 1) (B := By) (n := Nb) (by (first | exact q_8c31a76373 h1370 h1367.1 h1369 h1367.2.1 | omega))
              have h1383 : (gN1 By Nb Sp).2.2.2 5 = z1380.toInt := ML_wi h739 h1384 h1379 (by (first | decide | omega)) (by (first | decide | omega)) (by (first | decide | omega))
              refine En_Ps 1 (pc' := 162) (lv' := [(0, .ref 159)]) (st' := [.int (((Int8.ofInt 6).toInt32)), .int z1380]) rfl ?_
              refine En_icNe _ rfl (by decide : ((Int8.ofInt 6).toInt32).toInt = 6) rfl (fun h1385 => ?_) (fun h1385 => ?_)
              · obtain ⟨z1387, h1386, h1388, h1389⟩ := WT_peekI h726 tgz_165 (by decide +kernel : FT 41 (4 : Int).toNat = (0, 0, 4)) (by decide +kernel)
                exact keyj170 σ725 z1131 z1323 z1387 z1380 y728 y732 h726 h727 h1130 (by first | exact q_58e6e51dcc h1132 | omega) (by first | exact q_4b59c54ff8 h1136 h1133 | omega) h1322 (by first | exact q_58e6e51dcc h1324 | omega) (by first | exact q_f080a0e48d h1328 h1325 | omega) h1386 (by first | exact q_58e6e51dcc h1388 | omega) (by first | exact q_c82ed93a8c h1389 | omega) h1379 (by first | exact q_58e6e51dcc h1381 | omega) (by first | exact q_b7df4df08f h1385 h1382 | omega) h729 (by first | exact q_58e6e51dcc h730 | omega) (by first | exact q_da5e9b976f h731 | omega) h733 (by first | exact q_58e6e51dcc h734 | omega) (by first | exact q_246f9048f8 h735 | omega) (by (first | exact q_f67127b06c h736 | omega)) (fun _ => by have := Imp_m h737 (by (first | exact q_d8d8e6600d h740 h1384 | omega)); (first | exact q_35a72a35ef this | omega)) (fun hh => by have zz : (gN1 By Nb Sp).1 = 0 := (by (first | exact q_d2dcd30e56 h1384 | omega)); have j1 := Imp_m h741 zz; have j2 := Imp_m h742 zz; have j3 := Imp_m h743 zz; have j4 := Imp_m h744 zz; (first | exact q_1065cca776 h1136 h1133 | omega)) (fun hh => by have zz : (gN1 By Nb Sp).1 = 0 := (by (first | exact q_d2dcd30e56 h1384 | omega)); have j1 := Imp_m h741 zz; have j2 := Imp_m h742 zz; have j3 := Imp_m h743 zz; have j4 := Imp_m h744 zz; (first | exact q_6db8230771 h1328 h1325 | omega)) (fun hh => by have := Imp_m h737 (by (first | exact q_35a72a35ef hh.1 | omega)); have zz : (gN1 By Nb Sp).1 = 0 := (by (first | exact q_d2dcd30e56 h1384 | omega)); have j1 := Imp_m h741 zz; have j2 := Imp_m h742 zz; have j3 := Imp_m h743 zz; have j4 := Imp_m h744 zz; (first | exact q_9a56868a89 j3 hh.2 h1361 h1360 | omega)) (fun hh => by have zz : (gN1 By Nb Sp).1 = 0 := (by (first | exact q_d2dcd30e56 h1384 | omega)); have j1 := Imp_m h741 zz; have j2 := Imp_m h742 zz; have j3 := Imp_m h743 zz; have j4 := Imp_m h744 zz; (first | exact q_9f42007399 h1385 h1382 | omega)) (h738) (ML_eq h739 (gN2_neg (by omega)).symm)
              · refine En_Ps 2 (pc' := 167) (lv' := [(0, .ref 159)]) (st' := [.int ((Int32.ofInt 3)), .ref 159]) rfl ?_
                have := (by decide : ((Int32.ofInt 3)).toInt = 3)
                refine En_callV rfl rfl rfl rfl rfl rfl rfl rfl tgz_159 (by decide +kernel) rfl (c_223x σ725 h726 ((Int32.ofInt 3)) (geI (by decide : (Int32.ofInt 3).toInt = 3) (by decide)) (leI (by decide : (Int32.ofInt 3).toInt = 3) (by decide)) y728 h729 h739) (by decide) (by decide) (fun v1391 σ1392 h1390 => ?_)
                obtain ⟨h1393, h1394, z1396, h1397, rfl, h1395⟩ := h1390
                have h1398 := h1395.2.2.2.2
                have h1399 := Fr_trans h727 h1394 (by decide +kernel)
                have h1400 := KF_fr h738 h1394 (by decide +kernel)
                obtain ⟨S1401, h1402⟩ : ∃ q : PS, q = err By Nb 3 (gN1 By Nb Sp) := ⟨_, rfl⟩
                have h1403 : ML By Nb σ1392 S1401 := by rw [h1402]; exact (ML_eq h1398 (err_cg (by (first | exact q_5736040b52 this | omega))))
                have h1404 := ML_k h1403 h1397
                have h1405 : S1401.2.2.2 = (gN1 By Nb Sp).2.2.2 := by rw [h1402]; exact err_w
                obtain ⟨z1407, h1406, h1408, h1409⟩ := WT_peekI h1393 tgz_165 (by decide +kernel : FT 41 (4 : Int).toNat = (0, 0, 4)) (by decide +kernel)
                exact keyj170 σ1392 z1131 z1323 z1407 z1380 z1396 y732 h1393 h1399 ((h1394 _ _ (inWa tgz_165 (by decide +kernel))).trans h1130) (by first | exact q_58e6e51dcc h1132 | omega) (by first | exact q_4b59c54ff8 h1136 h1133 | omega) ((h1394 _ _ (inWa tgz_165 (by decide +kernel))).trans h1322) (by first | exact q_58e6e51dcc h1324 | omega) (by first | exact q_f080a0e48d h1328 h1325 | omega) h1406 (by first | exact q_58e6e51dcc h1408 | omega) (by first | exact q_c82ed93a8c h1409 | omega) ((h1394 _ _ (inWa tgz_165 (by decide +kernel))).trans h1379) (by first | exact q_b2cec3a713 h1385 | omega) (by first | exact q_615333d33f h1382 | omega) h1397 (by first | exact q_996aa4c518 h1395.1 | omega) (by first | exact q_87d9217d84 h1395.2.1 | omega) ((h1394 _ _ (inW tgz_159 (by decide +kernel))).trans h733) (by first | exact q_58e6e51dcc h734 | omega) (by first | exact q_246f9048f8 h735 | omega) (by (first | exact q_f67127b06c h736 | omega)) (fun _ => by have := Imp_m h737 (by (first | exact q_d8d8e6600d h740 h1384 | omega)); (first | exact q_35a72a35ef this | omega)) (fun _ => by (first | exact q_1065cca776 h1136 h1133 | omega)) (fun _ => by (first | exact q_6db8230771 h1328 h1325 | omega)) (fun _ => by have := Imp_m h737 (by (first | exact q_d8d8e6600d h740 h1384 | omega)); omega) (fun _ => by have := Imp_m h737 (by (first | exact q_d8d8e6600d h740 h1384 | omega)); omega) (h1400) (ML_eq h1403 (by subst h1402; exact (gN2_pos (by (first | exact q_80b45e2ff9 h1369 h1370 h1367.1 h1367.2.1 h1383 h1385 | omega))).symm))
          · refine En_Ps 1 (pc' := 136) (lv' := [(0, .ref 159)]) (st' := [.ref 159]) rfl ?_
            refine En_getK (j := 14) h1128 rfl rfl rfl tgz_159 (by decide +kernel) ?_
            refine En_Ps 1 (pc' := 140) (lv' := [(0, .ref 159)]) (st' := [.int ((Int32.ofInt 4)), .ref 165]) rfl ?_
            refine En_iald (l := 0) (u := 4) rfl (by decide : (Int32.ofInt 4).toInt = 4) tgz_165 (by decide +kernel) h726 (by decide) (lnI (by decide +kernel : LN _ = 226) (by decide)) (by decide +kernel) (fun z1411 h1410 h1412 h1413 => ?_)
            have h1415 : (gN1 By Nb Sp).1 = 0 := iW_g (i := 5) (B := By) (n := Nb) (by (first | exact q_8c31a76373 h1361 h1358.1 h1360 h1358.2.1 | omega))
            have h1414 : (gN1 By Nb Sp).2.2.2 4 = z1411.toInt := ML_wi h739 h1415 h1410 (by (first | decide | omega)) (by (first | decide | omega)) (by (first | decide | omega))
            refine En_Ps 1 (pc' := 142) (lv' := [(0, .ref 159)]) (st' := [.int ((Int32.ofInt 4)), .int z1411]) rfl ?_
            refine En_icEq _ rfl (by decide : (Int32.ofInt 4).toInt = 4) rfl (fun h1416 => ?_) (fun h1416 => ?_)
            · refine En_Ps 2 (pc' := 167) (lv' := [(0, .ref 159)]) (st' := [.int ((Int32.ofInt 3)), .ref 159]) rfl ?_
              have := (by decide : ((Int32.ofInt 3)).toInt = 3)
              refine En_callV rfl rfl rfl rfl rfl rfl rfl rfl tgz_159 (by decide +kernel) rfl (c_223x σ725 h726 ((Int32.ofInt 3)) (geI (by decide : (Int32.ofInt 3).toInt = 3) (by decide)) (leI (by decide : (Int32.ofInt 3).toInt = 3) (by decide)) y728 h729 h739) (by decide) (by decide) (fun v1418 σ1419 h1417 => ?_)
              obtain ⟨h1420, h1421, z1423, h1424, rfl, h1422⟩ := h1417
              have h1425 := h1422.2.2.2.2
              have h1426 := Fr_trans h727 h1421 (by decide +kernel)
              have h1427 := KF_fr h738 h1421 (by decide +kernel)
              obtain ⟨S1428, h1429⟩ : ∃ q : PS, q = err By Nb 3 (gN1 By Nb Sp) := ⟨_, rfl⟩
              have h1430 : ML By Nb σ1419 S1428 := by rw [h1429]; exact (ML_eq h1425 (err_cg (by (first | exact q_5736040b52 this | omega))))
              have h1431 := ML_k h1430 h1424
              have h1432 : S1428.2.2.2 = (gN1 By Nb Sp).2.2.2 := by rw [h1429]; exact err_w
              obtain ⟨z1434, h1433, h1435, h1436⟩ := WT_peekI h1420 tgz_165 (by decide +kernel : FT 41 (5 : Int).toNat = (0, 0, 6)) (by decide +kernel)
              exact keyj170 σ1419 z1131 z1323 z1411 z1434 z1423 y732 h1420 h1426 ((h1421 _ _ (inWa tgz_165 (by decide +kernel))).trans h1130) (by first | exact q_58e6e51dcc h1132 | omega) (by first | exact q_4b59c54ff8 h1136 h1133 | omega) ((h1421 _ _ (inWa tgz_165 (by decide +kernel))).trans h1322) (by first | exact q_58e6e51dcc h1324 | omega) (by first | exact q_f080a0e48d h1328 h1325 | omega) ((h1421 _ _ (inWa tgz_165 (by decide +kernel))).trans h1410) (by first | exact q_8aa6573b50 h1416 | omega) (by first | exact q_c82ed93a8c h1413 | omega) h1433 (by first | exact q_58e6e51dcc h1435 | omega) (by first | exact q_615333d33f h1436 | omega) h1424 (by first | exact q_996aa4c518 h1422.1 | omega) (by first | exact q_87d9217d84 h1422.2.1 | omega) ((h1421 _ _ (inW tgz_159 (by decide +kernel))).trans h733) (by first | exact q_58e6e51dcc h734 | omega) (by first | exact q_246f9048f8 h735 | omega) (by (first | exact q_f67127b06c h736 | omega)) (fun _ => by have := Imp_m h737 (by (first | exact q_d8d8e6600d h740 h1415 | omega)); (first | exact q_35a72a35ef this | omega)) (fun _ => by (first | exact q_1065cca776 h1136 h1133 | omega)) (fun _ => by (first | exact q_6db8230771 h1328 h1325 | omega)) (fun _ => by have := Imp_m h737 (by (first | exact q_d8d8e6600d h740 h1415 | omega)); omega) (fun _ => by have := Imp_m h737 (by (first | exact q_d8d8e6600d h740 h1415 | omega)); omega) (h1427) (ML_eq h1430 (by subst h1429; exact (gN2_pos (by (first | exact q_cf7049a829 h1360 h1361 h1358.1 h1358.2.1 h1414 h1416 | omega))).symm))
            · refine En_Ps 1 (pc' := 146) (lv' := [(0, .ref 159)]) (st' := [.ref 159]) rfl ?_
              refine En_ldcS (i := 1) rfl rfl rfl ?_
              refine En_callV rfl rfl rfl rfl rfl rfl rfl rfl tgz_159 (by decide +kernel) rfl (c_251s1x σ725 h726 h739) (by decide) (by decide) (fun v1438 σ1439 h1437 => ?_)
              obtain ⟨h1440, h1441, z1443, rfl, h1442⟩ := h1437
              have h1444 := h1442.2.2
              obtain rfl : σ725 = σ1439 := Fr_nil h1441
              refine En_iEq _ rfl rfl (fun h1445 => ?_) (fun h1445 => ?_)
              · obtain ⟨z1447, h1446, h1448, h1449⟩ := WT_peekI h726 tgz_165 (by decide +kernel : FT 41 (5 : Int).toNat = (0, 0, 6)) (by decide +kernel)
                exact keyj170 σ725 z1131 z1323 z1411 z1447 y728 y732 h726 h727 h1130 (by first | exact q_58e6e51dcc h1132 | omega) (by first | exact q_4b59c54ff8 h1136 h1133 | omega) h1322 (by first | exact q_58e6e51dcc h1324 | omega) (by first | exact q_f080a0e48d h1328 h1325 | omega) h1410 (by first | exact q_58e6e51dcc h1412 | omega) (by first | exact q_4b59c54ff8 h1416 h1413 | omega) h1446 (by first | exact q_58e6e51dcc h1448 | omega) (by first | exact q_615333d33f h1449 | omega) h729 (by first | exact q_58e6e51dcc h730 | omega) (by first | exact q_da5e9b976f h731 | omega) h733 (by first | exact q_58e6e51dcc h734 | omega) (by first | exact q_246f9048f8 h735 | omega) (by (first | exact q_f67127b06c h736 | omega)) (fun _ => by have := Imp_m h737 (by (first | exact q_d8d8e6600d h740 h1415 | omega)); (first | exact q_35a72a35ef this | omega)) (fun hh => by have zz : (gN1 By Nb Sp).1 = 0 := (by (first | exact q_d2dcd30e56 h1415 | omega)); have j1 := Imp_m h741 zz; have j2 := Imp_m h742 zz; have j3 := Imp_m h743 zz; have j4 := Imp_m h744 zz; (first | exact q_1065cca776 h1136 h1133 | omega)) (fun hh => by have zz : (gN1 By Nb Sp).1 = 0 := (by (first | exact q_d2dcd30e56 h1415 | omega)); have j1 := Imp_m h741 zz; have j2 := Imp_m h742 zz; have j3 := Imp_m h743 zz; have j4 := Imp_m h744 zz; (first | exact q_6db8230771 h1328 h1325 | omega)) (fun hh => by have zz : (gN1 By Nb Sp).1 = 0 := (by (first | exact q_d2dcd30e56 h1415 | omega)); have j1 := Imp_m h741 zz; have j2 := Imp_m h742 zz; have j3 := Imp_m h743 zz; have j4 := Imp_m h744 zz; (first | exact q_1065cca776 h1416 h1413 | omega)) (fun hh => by have := Imp_m h737 (by (first | exact q_35a72a35ef hh.1 | omega)); have zz : (gN1 By Nb Sp).1 = 0 := (by (first | exact q_d2dcd30e56 h1415 | omega)); have j1 := Imp_m h741 zz; have j2 := Imp_m h742 zz; have j3 := Imp_m h743 zz; have j4 := Imp_m h744 zz; (first | exact q_d615a55187 j4 hh.2 h1445 h1444 | omega)) (h738) (ML_eq h739 (gN2_neg (by omega)).symm)
              · refine En_Ps 1 (pc' := 155) (lv' := [(0, .ref 159)]) (st' := [.ref 159]) rfl ?_
                refine En_getK (j := 14) h1128 rfl rfl rfl tgz_159 (by decide +kernel) ?_
                refine En_Ps 1 (pc' := 159) (lv' := [(0, .ref 159)]) (st' := [.int ((Int32.ofInt 5)), .ref 165]) rfl ?_
                refine En_iald (l := 0) (u := 6) rfl (by decide : (Int32.ofInt 5).toInt = 5) tgz_165 (by decide +kernel) h726 (by decide) (lnI (by decide +kernel : LN _ = 226) (by decide)) (by decide +kernel) (fun z1451 h1450 h1452 h1453 => ?_)
                have h1455 : (gN1 By Nb Sp).1 = 0 := iW_g (i := 1) (B := By) (n := Nb) (by (first | exact q_8c31a76373 h1445 h1442.1 h1444 h1442.2.1 | omega))
                have h1454 : (gN1 By Nb Sp).2.2.2 5 = z1451.toInt := ML_wi h739 h1455 h1450 (by (first | decide | omega)) (by (first | decide | omega)) (by (first | decide | omega))
                refine En_Ps 1 (pc' := 162) (lv' := [(0, .ref 159)]) (st' := [.int (((Int8.ofInt 6).toInt32)), .int z1451]) rfl ?_
                refine En_icNe _ rfl (by decide : ((Int8.ofInt 6).toInt32).toInt = 6) rfl (fun h1456 => ?_) (fun h1456 => ?_)
                · exact keyj170 σ725 z1131 z1323 z1411 z1451 y728 y732 h726 h727 h1130 (by first | exact q_58e6e51dcc h1132 | omega) (by first | exact q_4b59c54ff8 h1136 h1133 | omega) h1322 (by first | exact q_58e6e51dcc h1324 | omega) (by first | exact q_f080a0e48d h1328 h1325 | omega) h1410 (by first | exact q_58e6e51dcc h1412 | omega) (by first | exact q_4b59c54ff8 h1416 h1413 | omega) h1450 (by first | exact q_58e6e51dcc h1452 | omega) (by first | exact q_b7df4df08f h1456 h1453 | omega) h729 (by first | exact q_58e6e51dcc h730 | omega) (by first | exact q_da5e9b976f h731 | omega) h733 (by first | exact q_58e6e51dcc h734 | omega) (by first | exact q_246f9048f8 h735 | omega) (by (first | exact q_f67127b06c h736 | omega)) (fun _ => by have := Imp_m h737 (by (first | exact q_d8d8e6600d h740 h1455 | omega)); (first | exact q_35a72a35ef this | omega)) (fun hh => by have zz : (gN1 By Nb Sp).1 = 0 := (by (first | exact q_d2dcd30e56 h1455 | omega)); have j1 := Imp_m h741 zz; have j2 := Imp_m h742 zz; have j3 := Imp_m h743 zz; have j4 := Imp_m h744 zz; (first | exact q_1065cca776 h1136 h1133 | omega)) (fun hh => by have zz : (gN1 By Nb Sp).1 = 0 := (by (first | exact q_d2dcd30e56 h1455 | omega)); have j1 := Imp_m h741 zz; have j2 := Imp_m h742 zz; have j3 := Imp_m h743 zz; have j4 := Imp_m h744 zz; (first | exact q_6db8230771 h1328 h1325 | omega)) (fun hh => by have zz : (gN1 By Nb Sp).1 = 0 := (by (first | exact q_d2dcd30e56 h1455 | omega)); have j1 := Imp_m h741 zz; have j2 := Imp_m h742 zz; have j3 := Imp_m h743 zz; have j4 := Imp_m h744 zz; (first | exact q_1065cca776 h1416 h1413 | omega)) (fun hh => by have zz : (gN1 By Nb Sp).1 = 0 := (by (first | exact q_d2dcd30e56 h1455 | omega)); have j1 := Imp_m h741 zz; have j2 := Imp_m h742 zz; have j3 := Imp_m h743 zz; have j4 := Imp_m h744 zz; (first | exact q_9f42007399 h1456 h1453 | omega)) (h738) (ML_eq h739 (gN2_neg (by omega)).symm)
                · refine En_Ps 2 (pc' := 167) (lv' := [(0, .ref 159)]) (st' := [.int ((Int32.ofInt 3)), .ref 159]) rfl ?_
                  have := (by decide : ((Int32.ofInt 3)).toInt = 3)
                  refine En_callV rfl rfl rfl rfl rfl rfl rfl rfl tgz_159 (by decide +kernel) rfl (c_223x σ725 h726 ((Int32.ofInt 3)) (geI (by decide : (Int32.ofInt 3).toInt = 3) (by decide)) (leI (by decide : (Int32.ofInt 3).toInt = 3) (by decide)) y728 h729 h739) (by decide) (by decide) (fun v1458 σ1459 h1457 => ?_)
                  obtain ⟨h1460, h1461, z1463, h1464, rfl, h1462⟩ := h1457
                  have h1465 := h1462.2.2.2.2
                  have h1466 := Fr_trans h727 h1461 (by decide +kernel)
                  have h1467 := KF_fr h738 h1461 (by decide +kernel)
                  obtain ⟨S1468, h1469⟩ : ∃ q : PS, q = err By Nb 3 (gN1 By Nb Sp) := ⟨_, rfl⟩
                  have h1470 : ML By Nb σ1459 S1468 := by rw [h1469]; exact (ML_eq h1465 (err_cg (by (first | exact q_5736040b52 this | omega))))
                  have h1471 := ML_k h1470 h1464
                  have h1472 : S1468.2.2.2 = (gN1 By Nb Sp).2.2.2 := by rw [h1469]; exact err_w
                  exact keyj170 σ1459 z1131 z1323 z1411 z1451 z1463 y732 h1460 h1466 ((h1461 _ _ (inWa tgz_165 (by decide +kernel))).trans h1130) (by first | exact q_58e6e51dcc h1132 | omega) (by first | exact q_4b59c54ff8 h1136 h1133 | omega) ((h1461 _ _ (inWa tgz_165 (by decide +kernel))).trans h1322) (by first | exact q_58e6e51dcc h1324 | omega) (by first | exact q_f080a0e48d h1328 h1325 | omega) ((h1461 _ _ (inWa tgz_165 (by decide +kernel))).trans h1410) (by first | exact q_58e6e51dcc h1412 | omega) (by first | exact q_4b59c54ff8 h1416 h1413 | omega) ((h1461 _ _ (inWa tgz_165 (by decide +kernel))).trans h1450) (by first | exact q_b2cec3a713 h1456 | omega) (by first | exact q_615333d33f h1453 | omega) h1464 (by first | exact q_996aa4c518 h1462.1 | omega) (by first | exact q_87d9217d84 h1462.2.1 | omega) ((h1461 _ _ (inW tgz_159 (by decide +kernel))).trans h733) (by first | exact q_58e6e51dcc h734 | omega) (by first | exact q_246f9048f8 h735 | omega) (by (first | exact q_f67127b06c h736 | omega)) (fun _ => by have := Imp_m h737 (by (first | exact q_d8d8e6600d h740 h1455 | omega)); (first | exact q_35a72a35ef this | omega)) (fun _ => by (first | exact q_1065cca776 h1136 h1133 | omega)) (fun _ => by (first | exact q_6db8230771 h1328 h1325 | omega)) (fun _ => by (first | exact q_1065cca776 h1416 h1413 | omega)) (fun _ => by have := Imp_m h737 (by (first | exact q_d8d8e6600d h740 h1455 | omega)); omega) (h1467) (ML_eq h1470 (by subst h1469; exact (gN2_pos (by (first | exact q_80b45e2ff9 h1444 h1445 h1442.1 h1442.2.1 h1454 h1456 | omega))).symm))
end
/-! 32.m06 -/
section
set_option maxRecDepth 10000 in
set_option maxHeartbeats 4000000 in
theorem c_302x {By : Int → Int} {Nb : Int} {Sp : PS} (σ0 : SG) (hσ0 : WT σ0) (f : Int32) (h_f : (σ0 159)[8]? = some (Value.int f)) (k : Int32) (h_k : (σ0 159)[12]? = some (Value.int k)) (hM : ML By Nb σ0 Sp) (hg : Sp.1 = 0) : En 9 200 none mr_302 (P_302x σ0 By Nb Sp f k) 0 [(0, .ref 159)] [] σ0 := by
  obtain ⟨hl_f, hu_f⟩ := WT_int hσ0 (g := 35) (by decide +kernel) (by decide +kernel) (l := 0) (u := 1600) (by decide +kernel) h_f
  obtain ⟨hl_k, hu_k⟩ := WT_int hσ0 (g := 35) (by decide +kernel) (by decide +kernel) (l := 0) (u := 3) (by decide +kernel) h_k
  have hF0 : Fr [(35, 8), (35, 9), (35, 10), (35, 11), (35, 12), (35, 13), (41, 0)] σ0 σ0 := Fr_rfl
  have keyj87 := k_302x_87 σ0 hσ0 f h_f k h_k hM hg
  have h1473 := ML_k hM h_k
  refine En_Ps 1 (pc' := 1) (lv' := [(0, .ref 159)]) (st' := [.ref 159]) rfl ?_
  refine En_ldcS (i := 2) rfl rfl rfl ?_
  refine En_callV rfl rfl rfl rfl rfl rfl rfl rfl tgz_159 (by decide +kernel) rfl (c_251s2x σ0 hσ0 hM) (by decide) (by decide) (fun v1475 σ1476 h1474 => ?_)
  obtain ⟨h1477, h1478, z1480, rfl, h1479⟩ := h1474
  have h1481 := h1479.2.2
  obtain rfl : σ0 = σ1476 := Fr_nil h1478
  refine En_iNe _ rfl rfl (fun h1482 => ?_) (fun h1482 => ?_)
  · refine En_Ps 4 (pc' := 79) (lv' := [(1, .int ((Int32.ofInt 1))), (0, .ref 159)]) (st' := [.int ((Int32.ofInt 1))]) rfl ?_
    refine En_iNe _ (by decide : (Int32.ofInt 1).toInt = 1) rfl (fun h1483 => ?_) (fun hx => by first | exact (q_0561915bfe hx).elim | (exfalso; omega))
    refine En_lv (lv := [(0, .ref 159)]) ⟨rfl, trivial⟩ ?_
    exact keyj87 σ0 k f hσ0 hF0 h_k (by first | exact q_58e6e51dcc hl_k | omega) (by first | exact q_da5e9b976f hu_k | omega) h_f (by first | exact q_58e6e51dcc hl_f | omega) (by first | exact q_246f9048f8 hu_f | omega) (by (first | exact q_1bb76abeaf | omega)) (fun _ => by (first | exact q_d8d8e6600d h1473 hg | omega)) ((KF_0 (σ := σ0))) (ML_eq hM (gN1_pos 2 (by (first | exact q_8c31a76373 h1482 h1479.1 h1481 h1479.2.1 | omega)) (by (first | decide | omega))).symm)
  · refine En_Ps 1 (pc' := 10) (lv' := [(0, .ref 159)]) (st' := [.ref 159]) rfl ?_
    refine En_ldcS (i := 6) rfl rfl rfl ?_
    refine En_callV rfl rfl rfl rfl rfl rfl rfl rfl tgz_159 (by decide +kernel) rfl (c_251s6x σ0 hσ0 hM) (by decide) (by decide) (fun v1485 σ1486 h1484 => ?_)
    obtain ⟨h1487, h1488, z1490, rfl, h1489⟩ := h1484
    have h1491 := h1489.2.2
    obtain rfl : σ0 = σ1486 := Fr_nil h1488
    refine En_iNe _ rfl rfl (fun h1492 => ?_) (fun h1492 => ?_)
    · refine En_Ps 4 (pc' := 79) (lv' := [(1, .int ((Int32.ofInt 1))), (0, .ref 159)]) (st' := [.int ((Int32.ofInt 1))]) rfl ?_
      refine En_iNe _ (by decide : (Int32.ofInt 1).toInt = 1) rfl (fun h1493 => ?_) (fun hx => by first | exact (q_0561915bfe hx).elim | (exfalso; omega))
      refine En_lv (lv := [(0, .ref 159)]) ⟨rfl, trivial⟩ ?_
      exact keyj87 σ0 k f hσ0 hF0 h_k (by first | exact q_58e6e51dcc hl_k | omega) (by first | exact q_da5e9b976f hu_k | omega) h_f (by first | exact q_58e6e51dcc hl_f | omega) (by first | exact q_246f9048f8 hu_f | omega) (by (first | exact q_1bb76abeaf | omega)) (fun _ => by (first | exact q_d8d8e6600d h1473 hg | omega)) ((KF_0 (σ := σ0))) (ML_eq hM (gN1_pos 6 (by (first | exact q_8c31a76373 h1492 h1489.1 h1491 h1489.2.1 | omega)) (by (first | decide | omega))).symm)
    · refine En_Ps 1 (pc' := 19) (lv' := [(0, .ref 159)]) (st' := [.ref 159]) rfl ?_
      refine En_ldcS (i := 3) rfl rfl rfl ?_
      refine En_callV rfl rfl rfl rfl rfl rfl rfl rfl tgz_159 (by decide +kernel) rfl (c_251s3x σ0 hσ0 hM) (by decide) (by decide) (fun v1495 σ1496 h1494 => ?_)
      obtain ⟨h1497, h1498, z1500, rfl, h1499⟩ := h1494
      have h1501 := h1499.2.2
      obtain rfl : σ0 = σ1496 := Fr_nil h1498
      refine En_iNe _ rfl rfl (fun h1502 => ?_) (fun h1502 => ?_)
      · refine En_Ps 4 (pc' := 79) (lv' := [(1, .int ((Int32.ofInt 1))), (0, .ref 159)]) (st' := [.int ((Int32.ofInt 1))]) rfl ?_
        refine En_iNe _ (by decide : (Int32.ofInt 1).toInt = 1) rfl (fun h1503 => ?_) (fun hx => by first | exact (q_0561915bfe hx).elim | (exfalso; omega))
        refine En_lv (lv := [(0, .ref 159)]) ⟨rfl, trivial⟩ ?_
        exact keyj87 σ0 k f hσ0 hF0 h_k (by first | exact q_58e6e51dcc hl_k | omega) (by first | exact q_da5e9b976f hu_k | omega) h_f (by first | exact q_58e6e51dcc hl_f | omega) (by first | exact q_246f9048f8 hu_f | omega) (by (first | exact q_1bb76abeaf | omega)) (fun _ => by (first | exact q_d8d8e6600d h1473 hg | omega)) ((KF_0 (σ := σ0))) (ML_eq hM (gN1_pos 3 (by (first | exact q_8c31a76373 h1502 h1499.1 h1501 h1499.2.1 | omega)) (by (first | decide | omega))).symm)
      · refine En_Ps 1 (pc' := 28) (lv' := [(0, .ref 159)]) (st' := [.ref 159]) rfl ?_
        refine En_ldcS (i := 17) rfl rfl rfl ?_
        refine En_callV rfl rfl rfl rfl rfl rfl rfl rfl tgz_159 (by decide +kernel) rfl (c_251s17x σ0 hσ0 hM) (by decide) (by decide) (fun v1505 σ1506 h1504 => ?_)
        obtain ⟨h1507, h1508, z1510, rfl, h1509⟩ := h1504
        have h1511 := h1509.2.2
        obtain rfl : σ0 = σ1506 := Fr_nil h1508
        refine En_iNe _ rfl rfl (fun h1512 => ?_) (fun h1512 => ?_)
        · refine En_Ps 4 (pc' := 79) (lv' := [(1, .int ((Int32.ofInt 1))), (0, .ref 159)]) (st' := [.int ((Int32.ofInt 1))]) rfl ?_
          refine En_iNe _ (by decide : (Int32.ofInt 1).toInt = 1) rfl (fun h1513 => ?_) (fun hx => by first | exact (q_0561915bfe hx).elim | (exfalso; omega))
          refine En_lv (lv := [(0, .ref 159)]) ⟨rfl, trivial⟩ ?_
          exact keyj87 σ0 k f hσ0 hF0 h_k (by first | exact q_58e6e51dcc hl_k | omega) (by first | exact q_da5e9b976f hu_k | omega) h_f (by first | exact q_58e6e51dcc hl_f | omega) (by first | exact q_246f9048f8 hu_f | omega) (by (first | exact q_1bb76abeaf | omega)) (fun _ => by (first | exact q_d8d8e6600d h1473 hg | omega)) ((KF_0 (σ := σ0))) (ML_eq hM (gN1_pos 17 (by (first | exact q_8c31a76373 h1512 h1509.1 h1511 h1509.2.1 | omega)) (by (first | decide | omega))).symm)
        · refine En_Ps 1 (pc' := 37) (lv' := [(0, .ref 159)]) (st' := [.ref 159]) rfl ?_
          refine En_ldcS (i := 9) rfl rfl rfl ?_
          refine En_callV rfl rfl rfl rfl rfl rfl rfl rfl tgz_159 (by decide +kernel) rfl (c_251s9x σ0 hσ0 hM) (by decide) (by decide) (fun v1515 σ1516 h1514 => ?_)
          obtain ⟨h1517, h1518, z1520, rfl, h1519⟩ := h1514
          have h1521 := h1519.2.2
          obtain rfl : σ0 = σ1516 := Fr_nil h1518
          refine En_iNe _ rfl rfl (fun h1522 => ?_) (fun h1522 => ?_)
          · refine En_Ps 4 (pc' := 79) (lv' := [(1, .int ((Int32.ofInt 1))), (0, .ref 159)]) (st' := [.int ((Int32.ofInt 1))]) rfl ?_
            refine En_iNe _ (by decide : (Int32.ofInt 1).toInt = 1) rfl (fun h1523 => ?_) (fun hx => by first | exact (q_0561915bfe hx).elim | (exfalso; omega))
            refine En_lv (lv := [(0, .ref 159)]) ⟨rfl, trivial⟩ ?_
            exact keyj87 σ0 k f hσ0 hF0 h_k (by first | exact q_58e6e51dcc hl_k | omega) (by first | exact q_da5e9b976f hu_k | omega) h_f (by first | exact q_58e6e51dcc hl_f | omega) (by first | exact q_246f9048f8 hu_f | omega) (by (first | exact q_1bb76abeaf | omega)) (fun _ => by (first | exact q_d8d8e6600d h1473 hg | omega)) ((KF_0 (σ := σ0))) (ML_eq hM (gN1_pos 9 (by (first | exact q_8c31a76373 h1522 h1519.1 h1521 h1519.2.1 | omega)) (by (first | decide | omega))).symm)
          · refine En_Ps 1 (pc' := 46) (lv' := [(0, .ref 159)]) (st' := [.ref 159]) rfl ?_
            refine En_ldcS (i := 5) rfl rfl rfl ?_
            refine En_callV rfl rfl rfl rfl rfl rfl rfl rfl tgz_159 (by decide +kernel) rfl (c_251s5x σ0 hσ0 hM) (by decide) (by decide) (fun v1525 σ1526 h1524 => ?_)
            obtain ⟨h1527, h1528, z1530, rfl, h1529⟩ := h1524
            have h1531 := h1529.2.2
            obtain rfl : σ0 = σ1526 := Fr_nil h1528
            refine En_iNe _ rfl rfl (fun h1532 => ?_) (fun h1532 => ?_)
            · refine En_Ps 4 (pc' := 79) (lv' := [(1, .int ((Int32.ofInt 1))), (0, .ref 159)]) (st' := [.int ((Int32.ofInt 1))]) rfl ?_
              refine En_iNe _ (by decide : (Int32.ofInt 1).toInt = 1) rfl (fun h1533 => ?_) (fun hx => by first | exact (q_0561915bfe hx).elim | (exfalso; omega))
              refine En_lv (lv := [(0, .ref 159)]) ⟨rfl, trivial⟩ ?_
              exact keyj87 σ0 k f hσ0 hF0 h_k (by first | exact q_58e6e51dcc hl_k | omega) (by first | exact q_da5e9b976f hu_k | omega) h_f (by first | exact q_58e6e51dcc hl_f | omega) (by first | exact q_246f9048f8 hu_f | omega) (by (first | exact q_1bb76abeaf | omega)) (fun _ => by (first | exact q_d8d8e6600d h1473 hg | omega)) ((KF_0 (σ := σ0))) (ML_eq hM (gN1_pos 5 (by (first | exact q_8c31a76373 h1532 h1529.1 h1531 h1529.2.1 | omega)) (by (first | decide | omega))).symm)
            · refine En_Ps 1 (pc' := 55) (lv' := [(0, .ref 159)]) (st' := [.ref 159]) rfl ?_
              refine En_ldcS (i := 1) rfl rfl rfl ?_
              refine En_callV rfl rfl rfl rfl rfl rfl rfl rfl tgz_159 (by decide +kernel) rfl (c_251s1x σ0 hσ0 hM) (by decide) (by decide) (fun v1535 σ1536 h1534 => ?_)
              obtain ⟨h1537, h1538, z1540, rfl, h1539⟩ := h1534
              have h1541 := h1539.2.2
              obtain rfl : σ0 = σ1536 := Fr_nil h1538
              refine En_iNe _ rfl rfl (fun h1542 => ?_) (fun h1542 => ?_)
              · refine En_Ps 4 (pc' := 79) (lv' := [(1, .int ((Int32.ofInt 1))), (0, .ref 159)]) (st' := [.int ((Int32.ofInt 1))]) rfl ?_
                refine En_iNe _ (by decide : (Int32.ofInt 1).toInt = 1) rfl (fun h1543 => ?_) (fun hx => by first | exact (q_0561915bfe hx).elim | (exfalso; omega))
                refine En_lv (lv := [(0, .ref 159)]) ⟨rfl, trivial⟩ ?_
                exact keyj87 σ0 k f hσ0 hF0 h_k (by first | exact q_58e6e51dcc hl_k | omega) (by first | exact q_da5e9b976f hu_k | omega) h_f (by first | exact q_58e6e51dcc hl_f | omega) (by first | exact q_246f9048f8 hu_f | omega) (by (first | exact q_1bb76abeaf | omega)) (fun _ => by (first | exact q_d8d8e6600d h1473 hg | omega)) ((KF_0 (σ := σ0))) (ML_eq hM (gN1_pos 1 (by (first | exact q_8c31a76373 h1542 h1539.1 h1541 h1539.2.1 | omega)) (by (first | decide | omega))).symm)
              · refine En_Ps 1 (pc' := 64) (lv' := [(0, .ref 159)]) (st' := [.ref 159]) rfl ?_
                refine En_ldcS (i := 0) rfl rfl rfl ?_
                refine En_callV rfl rfl rfl rfl rfl rfl rfl rfl tgz_159 (by decide +kernel) rfl (c_251s0x σ0 hσ0 hM) (by decide) (by decide) (fun v1545 σ1546 h1544 => ?_)
                obtain ⟨h1547, h1548, z1550, rfl, h1549⟩ := h1544
                have h1551 := h1549.2.2
                obtain rfl : σ0 = σ1546 := Fr_nil h1548
                refine En_iEq _ rfl rfl (fun h1552 => ?_) (fun h1552 => ?_)
                · refine En_Ps 3 (pc' := 79) (lv' := [(1, .int ((Int32.ofInt 0))), (0, .ref 159)]) (st' := [.int ((Int32.ofInt 0))]) rfl ?_
                  refine En_iNe _ (by decide : (Int32.ofInt 0).toInt = 0) rfl (fun hx => by first | exact (q_4a39151843 hx).elim | (exfalso; omega)) (fun h1553 => ?_)
                  refine En_Ps 2 (pc' := 84) (lv' := [(1, .int ((Int32.ofInt 0))), (0, .ref 159)]) (st' := [.int ((Int32.ofInt 1)), .ref 159]) rfl ?_
                  have := (by decide : ((Int32.ofInt 1)).toInt = 1)
                  refine En_callV rfl rfl rfl rfl rfl rfl rfl rfl tgz_159 (by decide +kernel) rfl (c_223x σ0 hσ0 ((Int32.ofInt 1)) (geI (by decide : (Int32.ofInt 1).toInt = 1) (by decide)) (leI (by decide : (Int32.ofInt 1).toInt = 1) (by decide)) k h_k hM) (by decide) (by decide) (fun v1555 σ1556 h1554 => ?_)
                  obtain ⟨h1557, h1558, z1560, h1561, rfl, h1559⟩ := h1554
                  have h1562 := h1559.2.2.2.2
                  have h1563 := Fr_trans hF0 h1558 (by decide +kernel)
                  have h1564 := KF_fr (KF_0 (σ := σ0)) h1558 (by decide +kernel)
                  obtain ⟨S1565, h1566⟩ : ∃ q : PS, q = err By Nb 1 Sp := ⟨_, rfl⟩
                  have h1567 : ML By Nb σ1556 S1565 := by rw [h1566]; exact (ML_eq h1562 (err_cg (by (first | exact q_0bfa10f27c this | omega))))
                  have h1568 := ML_k h1567 h1561
                  have h1569 : S1565.2.2.2 = Sp.2.2.2 := by rw [h1566]; exact err_w
                  refine En_lv (lv := [(0, .ref 159)]) ⟨rfl, trivial⟩ ?_
                  exact keyj87 σ1556 z1560 f h1557 h1563 h1561 (by first | exact q_996aa4c518 h1559.1 | omega) (by first | exact q_87d9217d84 h1559.2.1 | omega) ((h1558 _ _ (inW tgz_159 (by decide +kernel))).trans h_f) (by first | exact q_58e6e51dcc hl_f | omega) (by first | exact q_246f9048f8 hu_f | omega) (by (first | exact q_1bb76abeaf | omega)) (fun _ => by (first | exact q_d8d8e6600d h1473 hg | omega)) (h1564) (ML_eq h1567 (by subst h1566; exact (gN1_neg (by (first | exact q_7ed2936742 h1481 h1482 | omega)) (by (first | exact q_7ed2936742 h1491 h1492 | omega)) (by (first | exact q_7ed2936742 h1501 h1502 | omega)) (by (first | exact q_7ed2936742 h1511 h1512 | omega)) (by (first | exact q_7ed2936742 h1521 h1522 | omega)) (by (first | exact q_7ed2936742 h1531 h1532 | omega)) (by (first | exact q_7ed2936742 h1541 h1542 | omega)) (by (first | exact q_7ed2936742 h1551 h1552 | omega))).symm))
                · refine En_Ps 4 (pc' := 79) (lv' := [(1, .int ((Int32.ofInt 1))), (0, .ref 159)]) (st' := [.int ((Int32.ofInt 1))]) rfl ?_
                  refine En_iNe _ (by decide : (Int32.ofInt 1).toInt = 1) rfl (fun h1570 => ?_) (fun hx => by first | exact (q_0561915bfe hx).elim | (exfalso; omega))
                  refine En_lv (lv := [(0, .ref 159)]) ⟨rfl, trivial⟩ ?_
                  exact keyj87 σ0 k f hσ0 hF0 h_k (by first | exact q_58e6e51dcc hl_k | omega) (by first | exact q_da5e9b976f hu_k | omega) h_f (by first | exact q_58e6e51dcc hl_f | omega) (by first | exact q_246f9048f8 hu_f | omega) (by (first | exact q_1bb76abeaf | omega)) (fun _ => by (first | exact q_d8d8e6600d h1473 hg | omega)) ((KF_0 (σ := σ0))) (ML_eq hM (gN1_pos 0 (by (first | exact q_8c31a76373 h1552 h1549.1 h1551 h1549.2.1 | omega)) (by (first | decide | omega))).symm)
/-- DoorSchoolModel.readLine()V -/
abbrev P_301x (σ0 : SG) (By : Int → Int) (Nb : Int) (Sp : PS) (f : Int32) (k : Int32) (l : Int32) : PO := fun v σ => WT σ ∧ Fr [(35, 8), (35, 9), (35, 10), (35, 11), (35, 12), (35, 13), (41, 0)] σ0 σ ∧ ∃ f1 : Int32, (σ 159)[8]? = some (Value.int f1) ∧ ∃ t1 : Int32, (σ 159)[10]? = some (Value.int t1) ∧ ∃ k1 : Int32, (σ 159)[12]? = some (Value.int k1) ∧ ∃ l1 : Int32, (σ 165)[(7 : Int).toNat]? = some (Value.int l1) ∧ v = none ∧ -f1.toInt + 1 ≤ 0 ∧ f1.toInt - 1600 ≤ 0 ∧ -f1.toInt + f.toInt ≤ 0 ∧ -t1.toInt ≤ 0 ∧ t1.toInt - 4 ≤ 0 ∧ -k1.toInt ≤ 0 ∧ k1.toInt - 3 ≤ 0 ∧ -l1.toInt + 1 ≤ 0 ∧ l1.toInt - 1600 ≤ 0 ∧ -l1.toInt + l.toInt + 1 ≤ 0 ∧ l1.toInt - l.toInt - 1 ≤ 0 ∧ f.toInt - f1.toInt ≤ 0 ∧ Imp (k1.toInt ≤ 0 ∧ -t1.toInt + 1 ≤ 0) (f.toInt - f1.toInt + 1 ≤ 0) ∧ l1.toInt - l.toInt - 1 ≤ 0 ∧ -l1.toInt + l.toInt + 1 ≤ 0 ∧ ((∀ k2 : Int, k2 = k1.toInt → FI σ k2) ∧ ML By Nb σ (gLine By Nb Sp))
set_option maxRecDepth 10000 in
set_option maxHeartbeats 4000000 in
theorem c_301x {By : Int → Int} {Nb : Int} {Sp : PS} (σ0 : SG) (hσ0 : WT σ0) (f : Int32) (h_f : (σ0 159)[8]? = some (Value.int f)) (k : Int32) (h_k : (σ0 159)[12]? = some (Value.int k)) (l : Int32) (h_l : (σ0 165)[(7 : Int).toNat]? = some (Value.int l)) (hp0 : l.toInt - f.toInt + 1 ≤ 0) (hp1 : k.toInt ≤ 0) (hI : FI σ0 k.toInt) (hM : ML By Nb σ0 Sp) (hg : Sp.1 = 0) : En 10 223 none mr_301 (P_301x σ0 By Nb Sp f k l) 0 [(0, .ref 159)] [] σ0 := by
  obtain ⟨hl_f, hu_f⟩ := WT_int hσ0 (g := 35) (by decide +kernel) (by decide +kernel) (l := 0) (u := 1600) (by decide +kernel) h_f
  obtain ⟨hl_k, hu_k⟩ := WT_int hσ0 (g := 35) (by decide +kernel) (by decide +kernel) (l := 0) (u := 3) (by decide +kernel) h_k
  obtain ⟨hl_l, hu_l⟩ := WT_int hσ0 (g := 41) (by decide +kernel) (by decide +kernel) (l := 0) (u := 1600) (by decide +kernel) h_l
  have hF0 : Fr [(35, 8), (35, 9), (35, 10), (35, 11), (35, 12), (35, 13), (41, 0)] σ0 σ0 := Fr_rfl
  have h1 := ML_k hM h_k
  have h2 := ML_w hM hg h_l (by (first | decide | omega)) (by (first | decide | omega))
  refine En_Ps 1 (pc' := 1) (lv' := [(0, .ref 159)]) (st' := [.ref 159]) rfl ?_
  refine En_getU (j := 14) (u := 165) (g' := 41) (q := 0) rfl rfl rfl tgz_159 (by decide +kernel) hσ0 (by decide +kernel) un_41_165 (fun h3 => ?_)
  refine En_Ps 1 (pc' := 6) (lv' := [(0, .ref 159)]) (st' := [.int (((Int8.ofInt 7).toInt32)), .ref 165]) rfl ?_
  refine En_ialdK h_l rfl (by decide : ((Int8.ofInt 7).toInt32).toInt = 7) tgz_165 (by decide +kernel) hσ0 (by decide) (lnI (by decide +kernel : LN _ = 226) (by decide)) ?_
  refine En_iNe _ rfl rfl (fun h6 => ?_) (fun h6 => ?_)
  · refine En_Ps 1 (pc' := 48) (lv' := [(0, .ref 159)]) (st' := [.ref 159]) rfl ?_
    refine En_callV rfl rfl rfl rfl rfl rfl rfl rfl tgz_159 (by decide +kernel) rfl (c_302x σ0 hσ0 f h_f k h_k hM (by (first | exact q_d2dcd30e56 hg | omega))) (by decide) (by decide) (fun v8 σ9 h7 => ?_)
    obtain ⟨h10, h11, z13, h14, z15, h16, rfl, h12⟩ := h7
    have h17 := h12.2.2.2.2.2.2.2.2
    have h18 := Fr_trans hF0 h11 (by decide +kernel)
    obtain ⟨S19, h20⟩ : ∃ q : PS, q = gNext By Nb Sp := ⟨_, rfl⟩
    have h21 : ML By Nb σ9 S19 := by rw [h20]; exact h17.2
    have h22 := ML_k h21 h16
    obtain ⟨z24, h23, h25, h26⟩ := WT_peekI h10 tgz_159 (by decide +kernel : FT 35 10 = (0, 0, 4)) (by decide +kernel)
    have h27 := ML_k h21 h16
    have h28 : Imp (S19.1 = 0) (tK By Nb S19.2.2.1 = z24.toInt) := ML_t h21 h23
    obtain ⟨z30, h29, h31, h32⟩ := WT_peekI h10 tgz_165 (by decide +kernel : FT 41 (7 : Int).toNat = (0, 0, 1600)) (by decide +kernel)
    have h33 := ci_at h_l (rfl : (7 : Int) = 7)
    have h34 := ci_at h29 (rfl : (7 : Int) = 7)
    have h35 := h17.1 7 (by (first | decide | omega))
    refine En_Ps 1 (pc' := 52) (lv' := [(0, .ref 159)]) (st' := [.ref 159]) rfl ?_
    refine En_callV rfl rfl rfl rfl rfl rfl rfl rfl tgz_159 (by decide +kernel) rfl (c_237 σ9 h10 z15 h16) (by decide) (by decide) (fun v37 σ38 h36 => ?_)
    obtain ⟨h39, h40, z42, rfl, h41⟩ := h36
    obtain rfl : σ9 = σ38 := Fr_nil h40
    refine En_iEq _ rfl rfl (fun h43 => ?_) (fun h43 => ?_)
    · refine En_Ps 1 (pc' := 72) (lv' := [(0, .ref 159)]) (st' := [.ref 159]) rfl ?_
      refine En_callV rfl rfl rfl rfl rfl rfl rfl rfl tgz_159 (by decide +kernel) rfl (c_237 σ9 h10 z15 h16) (by decide) (by decide) (fun v45 σ46 h44 => ?_)
      obtain ⟨h47, h48, z50, rfl, h49⟩ := h44
      obtain rfl : σ9 = σ46 := Fr_nil h48
      refine En_iEq _ rfl rfl (fun h51 => ?_) (fun hx => by exfalso; have := Imp_m h12.2.2.2.2.2.2.2.1 (by (first | exact q_59622b1fc0 h49.2.2.1 hx h49.1 | omega)); (first | exact q_cffee5c382 h41.2.2.2 h43 h49.2.2.1 hx h49.1 | omega))
      obtain ⟨S52, h53⟩ : ∃ q : PS, q = adv By Nb S19 := ⟨_, rfl⟩
      have h54 : ML By Nb σ9 S52 := by rw [h53]; exact (ML_eq h21 (adv_bad (by (first | exact q_fdf04f5fe0 h49.2.2.2 h51 h27 | omega))).symm)
      have h55 := ML_k h54 h16
      have h56 : Imp (S52.1 = 0) (tK By Nb S52.2.2.1 = z24.toInt) := ML_t h54 h23
      refine En_Ps 1 (pc' := 83) (lv' := [(0, .ref 159)]) (st' := [.ref 159]) rfl ?_
      refine En_getK (j := 14) ((h11 _ _ (inW tgz_159 (by decide +kernel))).trans h3) rfl rfl rfl tgz_159 (by decide +kernel) ?_
      refine En_Ps 2 (pc' := 89) (lv' := [(0, .ref 159)]) (st' := [.int (((Int8.ofInt 7).toInt32)), .ref 165, .int (((Int8.ofInt 7).toInt32)), .ref 165]) rfl ?_
      refine En_ialdK h29 rfl (by decide : ((Int8.ofInt 7).toInt32).toInt = 7) tgz_165 (by decide +kernel) h10 (by decide) (lnI (by decide +kernel : LN _ = 226) (by decide)) ?_
      refine En_Ps 2 (pc' := 92) (lv' := [(0, .ref 159)]) (st' := [.int ((z30 + ((Int32.ofInt 1)))), .int (((Int8.ofInt 7).toInt32)), .ref 165]) rfl ?_
      refine En_top (addI rfl (by decide : (Int32.ofInt 1).toInt = 1) (by first | exact q_465ab79ac1 h31 | omega) (by first | exact q_1c9c6c18a7 h32 | omega)) (fun z58 h59 => ?_)
      refine En_iast (l := 0) (u := 1600) rfl (by decide : ((Int8.ofInt 7).toInt32).toInt = 7) tgz_165 (by decide +kernel) (by decide) (lnI (by decide +kernel : LN _ = 226) (by decide)) (by decide +kernel) (rngI rfl (by first | exact q_35104ce9d3 h59 h31 | omega) (by (first | exact q_c87f6a6dca h59 h34 h35 h33 hp0 hu_f | omega))) h10 h18 (by decide +kernel) (fun σ60 h61 h62 h63 h64 => ?_)
      obtain ⟨S65, h66⟩ : ∃ q : PS, q = wst S52 (7) (Sp.2.2.2 7 + 1) := ⟨_, rfl⟩
      have h67 : ML By Nb σ60 S65 := by rw [h66]; exact (ML_wst (i := 7) (v := Sp.2.2.2 7 + 1) h54 h63 h64 (by (first | decide | omega)) (fun z => by have j1 := Imp_m h56 z; exact ⟨by (first | decide | omega), by (first | exact q_6b72e7736a h59 h34 h2 h35 h33 | omega)⟩))
      have h68 := ML_k h67 ((h64 _ _ (Or.inl (neTG tgz_159 tgz_165 (by decide)))).trans h16)
      have h69 : Imp (S65.1 = 0) (tK By Nb S65.2.2.1 = z24.toInt) := ML_t h67 ((h64 _ _ (Or.inl (neTG tgz_159 tgz_165 (by decide)))).trans h23)
      have h70 : S65.1 = S52.1 := by rw [h66]; rfl
      have h71 : ci σ60 165 6 = ci σ0 165 6 := by rw [ci_st h63 h64 (by (first | decide | omega)) 6 (by (first | decide | omega)), if_neg (by (first | decide | omega)), h17.1 6 (by (first | decide | omega))]
      have h73 : ci σ60 165 7 = z58.toInt := by rw [ci_st h63 h64 (by (first | decide | omega)) 7 (by (first | decide | omega)), if_pos rfl]
      have h72 : ci σ60 165 1 = ci σ0 165 1 := by rw [ci_st h63 h64 (by (first | decide | omega)) 1 (by (first | decide | omega)), if_neg (by (first | decide | omega)), h17.1 1 (by (first | decide | omega))]
      have h74 := ci_at h_l (rfl : (7 : Int) = 7)
      exact En_ret (v := none) rfl rfl rfl ⟨h61, h62, z13, ((h64 _ _ (Or.inl (neTG tgz_159 tgz_165 (by decide)))).trans h14), z24, ((h64 _ _ (Or.inl (neTG tgz_159 tgz_165 (by decide)))).trans h23), z15, ((h64 _ _ (Or.inl (neTG tgz_159 tgz_165 (by decide)))).trans h16), z58, h63, rfl, ⟨by first | exact q_8c58de1fa6 h12.2.2.1 hp0 h6 hl_l | omega, by first | exact q_76190b61a3 h12.2.1 | omega, by first | exact q_d22b102a8e h12.2.2.1 | omega, by first | exact q_c803b490ef h25 | omega, by first | exact q_3919a0a4ce h26 | omega, by first | exact q_a555021d16 h12.2.2.2.1 | omega, by first | exact q_c733b715bf h12.2.2.2.2.1 | omega, by first | exact q_eeff886842 h59 h31 | omega, by (first | exact q_8f35cfe366 h59 h34 h35 h74 hp0 hu_f | omega), by (first | exact q_c793529e53 h74 h59 h35 h34 | omega), by (first | exact q_57f1065df6 h74 h59 h35 h34 | omega), by first | exact q_83f4b1e050 h12.2.2.1 | omega, fun _ => by have := Imp_m h12.2.2.2.2.2.2.2.1 (by omega); omega, by (first | exact q_57f1065df6 h74 h59 h35 h34 | omega), by (first | exact q_c793529e53 h74 h59 h35 h34 | omega), ⟨fun k2 hk2 => ⟨h71.trans hI.1, fun hz => ⟨fun _ => by rw [h72]; exact (hI.2 (by (first | exact q_66af5a274d hl_k hp1 | omega))).1 (by (first | exact q_cc9918c2d9 h49.2.2.2 h51 hk2 hz | omega)), fun z7 => (by (first | exact q_8bb5343f05 h49.2.2.2 h51 hk2 hz | omega))⟩⟩, ML_eq h67 (by subst h66; subst h53; subst h20; unfold gLine fFirst gL1; dsimp only; first | done | rfl | ((repeat' split) <;> first | rfl | (exfalso; omega) | ((try have i0 := Imp_m h69 (by omega)); (try have i1 := Imp_m h56 (by omega)); (try have i2 := Imp_m h28 (by omega)); (try have i3 := Imp_m h12.2.2.2.2.2.2.2.1 (by omega)); exfalso; omega)))⟩⟩⟩
    · have h75 := Imp_m h12.2.2.2.2.2.2.2.1 (by (first | exact q_59622b1fc0 h41.2.2.1 h43 h41.1 | omega))
      try have h76 := Imp_m h28 (by (first | exact q_1d088e2de8 h27 h12.2.2.2.1 h41.2.2.1 h43 h41.1 | omega))
      refine En_Ps 1 (pc' := 59) (lv' := [(0, .ref 159)]) (st' := [.ref 159]) rfl ?_
      refine En_getK (j := 10) h23 rfl rfl rfl tgz_159 (by decide +kernel) ?_
      refine En_Ps 1 (pc' := 63) (lv' := [(0, .ref 159)]) (st' := [.int ((Int32.ofInt 3)), .int z24]) rfl ?_
      refine En_icEq _ rfl (by decide : (Int32.ofInt 3).toInt = 3) rfl (fun h77 => ?_) (fun h77 => ?_)
      · refine En_Ps 1 (pc' := 72) (lv' := [(0, .ref 159)]) (st' := [.ref 159]) rfl ?_
        refine En_callV rfl rfl rfl rfl rfl rfl rfl rfl tgz_159 (by decide +kernel) rfl (c_237 σ9 h10 z15 h16) (by decide) (by decide) (fun v79 σ80 h78 => ?_)
        obtain ⟨h81, h82, z84, rfl, h83⟩ := h78
        obtain rfl : σ9 = σ80 := Fr_nil h82
        refine En_iEq _ rfl rfl (fun hx => by exfalso; (first | exact q_d43525113b h41.2.2.1 h43 h41.1 h83.2.2.2 hx | omega)) (fun h85 => ?_)
        try have h86 := Imp_m h28 (by (first | exact q_1d088e2de8 h27 h12.2.2.2.1 h83.2.2.1 h85 h83.1 | omega))
        refine En_Ps 1 (pc' := 79) (lv' := [(0, .ref 159)]) (st' := [.ref 159]) rfl ?_
        refine En_callV rfl rfl rfl rfl rfl rfl rfl rfl tgz_159 (by decide +kernel) rfl (c_189x σ9 h10 z13 h14 h21.1 (ML_at h21 (by (first | exact q_1d088e2de8 h27 h12.2.2.2.1 h83.2.2.1 h85 h83.1 | omega)) h14)) (by decide) (by decide) (fun v88 σ89 h87 => ?_)
        obtain ⟨h90, h91, z93, h94, z95, h96, rfl, h92⟩ := h87
        have h97 := h92.2.2.2.2.2.2.2
        have h98 := Fr_trans h18 h91 (by decide +kernel)
        obtain ⟨S99, h100⟩ : ∃ q : PS, q = adv By Nb S19 := ⟨_, rfl⟩
        have h101 : ML By Nb σ89 S99 := by rw [h100]; exact (ML_adv h21 (by (first | exact q_1d088e2de8 h27 h12.2.2.2.1 h83.2.2.1 h85 h83.1 | omega)) h14 h91 (by decide +kernel) h97.2)
        have h102 := ML_k h101 ((h91 _ _ (inW tgz_159 (by decide +kernel))).trans h16)
        have h103 : Imp (S99.1 = 0) (tK By Nb S99.2.2.1 = z95.toInt) := ML_t h101 h96
        have h104 : S99.2.2.2 = S19.2.2.2 := by rw [h100]; exact adv_w
        refine En_Ps 1 (pc' := 83) (lv' := [(0, .ref 159)]) (st' := [.ref 159]) rfl ?_
        refine En_getK (j := 14) ((h91 _ _ (inW tgz_159 (by decide +kernel))).trans ((h11 _ _ (inW tgz_159 (by decide +kernel))).trans h3)) rfl rfl rfl tgz_159 (by decide +kernel) ?_
        refine En_Ps 2 (pc' := 89) (lv' := [(0, .ref 159)]) (st' := [.int (((Int8.ofInt 7).toInt32)), .ref 165, .int (((Int8.ofInt 7).toInt32)), .ref 165]) rfl ?_
        refine En_ialdK ((h91 _ _ (inWa tgz_165 (by decide +kernel))).trans h29) rfl (by decide : ((Int8.ofInt 7).toInt32).toInt = 7) tgz_165 (by decide +kernel) h90 (by decide) (lnI (by decide +kernel : LN _ = 226) (by decide)) ?_
        refine En_Ps 2 (pc' := 92) (lv' := [(0, .ref 159)]) (st' := [.int ((z30 + ((Int32.ofInt 1)))), .int (((Int8.ofInt 7).toInt32)), .ref 165]) rfl ?_
        refine En_top (addI rfl (by decide : (Int32.ofInt 1).toInt = 1) (by first | exact q_465ab79ac1 h31 | omega) (by first | exact q_1c9c6c18a7 h32 | omega)) (fun z106 h107 => ?_)
        refine En_iast (l := 0) (u := 1600) rfl (by decide : ((Int8.ofInt 7).toInt32).toInt = 7) tgz_165 (by decide +kernel) (by decide) (lnI (by decide +kernel : LN _ = 226) (by decide)) (by decide +kernel) (rngI rfl (by first | exact q_35104ce9d3 h107 h31 | omega) (by (first | exact q_c87f6a6dca h107 h34 h35 h33 hp0 hu_f | omega))) h90 h98 (by decide +kernel) (fun σ108 h109 h110 h111 h112 => ?_)
        obtain ⟨S113, h114⟩ : ∃ q : PS, q = wst S99 (7) (Sp.2.2.2 7 + 1) := ⟨_, rfl⟩
        have h115 : ML By Nb σ108 S113 := by rw [h114]; exact (ML_wst (i := 7) (v := Sp.2.2.2 7 + 1) h101 h111 h112 (by (first | decide | omega)) (fun z => by have j1 := Imp_m h103 z; exact ⟨by (first | decide | omega), by (first | exact q_6b72e7736a h107 h34 h2 h35 h33 | omega)⟩))
        have h116 := ML_k h115 ((h112 _ _ (Or.inl (neTG tgz_159 tgz_165 (by decide)))).trans ((h91 _ _ (inW tgz_159 (by decide +kernel))).trans h16))
        have h117 : Imp (S113.1 = 0) (tK By Nb S113.2.2.1 = z95.toInt) := ML_t h115 ((h112 _ _ (Or.inl (neTG tgz_159 tgz_165 (by decide)))).trans h96)
        have h118 : S113.1 = S99.1 := by rw [h114]; rfl
        have h119 : ci σ108 165 6 = ci σ0 165 6 := by rw [ci_st h111 h112 (by (first | decide | omega)) 6 (by (first | decide | omega)), if_neg (by (first | decide | omega)), ci_fr h91 tgz_165 (by decide +kernel) 6, h17.1 6 (by (first | decide | omega))]
        have h121 : ci σ108 165 7 = z106.toInt := by rw [ci_st h111 h112 (by (first | decide | omega)) 7 (by (first | decide | omega)), if_pos rfl]
        have h120 : ci σ108 165 1 = ci σ0 165 1 := by rw [ci_st h111 h112 (by (first | decide | omega)) 1 (by (first | decide | omega)), if_neg (by (first | decide | omega)), ci_fr h91 tgz_165 (by decide +kernel) 1, h17.1 1 (by (first | decide | omega))]
        have h122 := ci_at h_l (rfl : (7 : Int) = 7)
        exact En_ret (v := none) rfl rfl rfl ⟨h109, h110, z93, ((h112 _ _ (Or.inl (neTG tgz_159 tgz_165 (by decide)))).trans h94), z95, ((h112 _ _ (Or.inl (neTG tgz_159 tgz_165 (by decide)))).trans h96), z15, ((h112 _ _ (Or.inl (neTG tgz_159 tgz_165 (by decide)))).trans ((h91 _ _ (inW tgz_159 (by decide +kernel))).trans h16)), z106, h111, rfl, ⟨by first | exact q_1bafaf3e85 h92.2.2.1 h12.2.2.1 hp0 h6 hl_l | omega, by first | exact q_76190b61a3 h92.2.1 | omega, by first | exact q_ccc3bb8fc9 h12.2.2.1 h92.2.2.1 | omega, by first | exact q_a555021d16 h92.2.2.2.1 | omega, by first | exact q_05cffb065e h92.2.2.2.2.1 | omega, by first | exact q_a555021d16 h12.2.2.2.1 | omega, by first | exact q_c733b715bf h12.2.2.2.2.1 | omega, by first | exact q_eeff886842 h107 h31 | omega, by (first | exact q_8f35cfe366 h107 h34 h35 h122 hp0 hu_f | omega), by (first | exact q_c793529e53 h122 h107 h35 h34 | omega), by (first | exact q_57f1065df6 h122 h107 h35 h34 | omega), by first | exact q_28bfca2c13 h12.2.2.1 h92.2.2.1 | omega, fun _ => by have := Imp_m h92.2.2.2.2.2.2.1 (by omega); (first | exact q_33fafcf4da this h12.2.2.1 | omega), by (first | exact q_57f1065df6 h122 h107 h35 h34 | omega), by (first | exact q_c793529e53 h122 h107 h35 h34 | omega), ⟨fun k2 hk2 => ⟨h119.trans hI.1, fun hz => ⟨fun _ => by rw [h120]; exact (hI.2 (by (first | exact q_66af5a274d hl_k h75 | omega))).1 (by (first | exact q_e01a17612b h6 hl_l h122 | omega)), fun z7 => (by (first | exact q_8b99002894 z7 h121 h107 h31 | omega))⟩⟩, ML_eq h115 (by subst h114; subst h100; subst h20; unfold gLine fFirst gL1; dsimp only; first | done | rfl | ((repeat' split) <;> first | rfl | (exfalso; omega) | ((try have i0 := Imp_m h117 (by omega)); (try have i1 := Imp_m h103 (by omega)); (try have i2 := Imp_m h28 (by omega)); (try have i3 := Imp_m h92.2.2.2.2.2.2.1 (by omega)); exfalso; omega)))⟩⟩⟩
      · refine En_Ps 2 (pc' := 68) (lv' := [(0, .ref 159)]) (st' := [.int ((Int32.ofInt 1)), .ref 159]) rfl ?_
        have := (by decide : ((Int32.ofInt 1)).toInt = 1)
        refine En_callV rfl rfl rfl rfl rfl rfl rfl rfl tgz_159 (by decide +kernel) rfl (c_223x σ9 h10 ((Int32.ofInt 1)) (geI (by decide : (Int32.ofInt 1).toInt = 1) (by decide)) (leI (by decide : (Int32.ofInt 1).toInt = 1) (by decide)) z15 h16 h21) (by decide) (by decide) (fun v124 σ125 h123 => ?_)
        obtain ⟨h126, h127, z129, h130, rfl, h128⟩ := h123
        have h131 := h128.2.2.2.2
        have h132 := Fr_trans h18 h127 (by decide +kernel)
        obtain ⟨S133, h134⟩ : ∃ q : PS, q = err By Nb 1 S19 := ⟨_, rfl⟩
        have h135 : ML By Nb σ125 S133 := by rw [h134]; exact (ML_eq h131 (err_cg (by (first | exact q_0bfa10f27c this | omega))))
        have h136 := ML_k h135 h130
        have h137 : Imp (S133.1 = 0) (tK By Nb S133.2.2.1 = z24.toInt) := ML_t h135 ((h127 _ _ (inW tgz_159 (by decide +kernel))).trans h23)
        have h138 : S133.2.2.2 = S19.2.2.2 := by rw [h134]; exact err_w
        refine En_Ps 1 (pc' := 72) (lv' := [(0, .ref 159)]) (st' := [.ref 159]) rfl ?_
        refine En_callV rfl rfl rfl rfl rfl rfl rfl rfl tgz_159 (by decide +kernel) rfl (c_237 σ125 h126 z129 h130) (by decide) (by decide) (fun v140 σ141 h139 => ?_)
        obtain ⟨h142, h143, z145, rfl, h144⟩ := h139
        obtain rfl : σ125 = σ141 := Fr_nil h143
        refine En_iEq _ rfl rfl (fun h146 => ?_) (fun hx => by exfalso; (first | exact q_ee856db709 h144.2.2.1 hx h144.1 h128.1 | omega))
        obtain ⟨S147, h148⟩ : ∃ q : PS, q = adv By Nb S133 := ⟨_, rfl⟩
        have h149 : ML By Nb σ125 S147 := by rw [h148]; exact (ML_eq h135 (adv_bad (by (first | exact q_27472ec939 h136 h128.1 | omega))).symm)
        have h150 := ML_k h149 h130
        have h151 : Imp (S147.1 = 0) (tK By Nb S147.2.2.1 = z24.toInt) := ML_t h149 ((h127 _ _ (inW tgz_159 (by decide +kernel))).trans h23)
        refine En_Ps 1 (pc' := 83) (lv' := [(0, .ref 159)]) (st' := [.ref 159]) rfl ?_
        refine En_getK (j := 14) ((h127 _ _ (inW tgz_159 (by decide +kernel))).trans ((h11 _ _ (inW tgz_159 (by decide +kernel))).trans h3)) rfl rfl rfl tgz_159 (by decide +kernel) ?_
        refine En_Ps 2 (pc' := 89) (lv' := [(0, .ref 159)]) (st' := [.int (((Int8.ofInt 7).toInt32)), .ref 165, .int (((Int8.ofInt 7).toInt32)), .ref 165]) rfl ?_
        refine En_ialdK ((h127 _ _ (inWa tgz_165 (by decide +kernel))).trans h29) rfl (by decide : ((Int8.ofInt 7).toInt32).toInt = 7) tgz_165 (by decide +kernel) h126 (by decide) (lnI (by decide +kernel : LN _ = 226) (by decide)) ?_
        refine En_Ps 2 (pc' := 92) (lv' := [(0, .ref 159)]) (st' := [.int ((z30 + ((Int32.ofInt 1)))), .int (((Int8.ofInt 7).toInt32)), .ref 165]) rfl ?_
        refine En_top (addI rfl (by decide : (Int32.ofInt 1).toInt = 1) (by first | exact q_465ab79ac1 h31 | omega) (by first | exact q_1c9c6c18a7 h32 | omega)) (fun z153 h154 => ?_)
        refine En_iast (l := 0) (u := 1600) rfl (by decide : ((Int8.ofInt 7).toInt32).toInt = 7) tgz_165 (by decide +kernel) (by decide) (lnI (by decide +kernel : LN _ = 226) (by decide)) (by decide +kernel) (rngI rfl (by first | exact q_35104ce9d3 h154 h31 | omega) (by (first | exact q_c87f6a6dca h154 h34 h35 h33 hp0 hu_f | omega))) h126 h132 (by decide +kernel) (fun σ155 h156 h157 h158 h159 => ?_)
        obtain ⟨S160, h161⟩ : ∃ q : PS, q = wst S147 (7) (Sp.2.2.2 7 + 1) := ⟨_, rfl⟩
        have h162 : ML By Nb σ155 S160 := by rw [h161]; exact (ML_wst (i := 7) (v := Sp.2.2.2 7 + 1) h149 h158 h159 (by (first | decide | omega)) (fun z => by have j1 := Imp_m h151 z; exact ⟨by (first | decide | omega), by (first | exact q_6b72e7736a h154 h34 h2 h35 h33 | omega)⟩))
        have h163 := ML_k h162 ((h159 _ _ (Or.inl (neTG tgz_159 tgz_165 (by decide)))).trans h130)
        have h164 : Imp (S160.1 = 0) (tK By Nb S160.2.2.1 = z24.toInt) := ML_t h162 ((h159 _ _ (Or.inl (neTG tgz_159 tgz_165 (by decide)))).trans ((h127 _ _ (inW tgz_159 (by decide +kernel))).trans h23))
        have h165 : S160.1 = S147.1 := by rw [h161]; rfl
        have h166 : ci σ155 165 6 = ci σ0 165 6 := by rw [ci_st h158 h159 (by (first | decide | omega)) 6 (by (first | decide | omega)), if_neg (by (first | decide | omega)), ci_fr h127 tgz_165 (by decide +kernel) 6, h17.1 6 (by (first | decide | omega))]
        have h168 : ci σ155 165 7 = z153.toInt := by rw [ci_st h158 h159 (by (first | decide | omega)) 7 (by (first | decide | omega)), if_pos rfl]
        have h167 : ci σ155 165 1 = ci σ0 165 1 := by rw [ci_st h158 h159 (by (first | decide | omega)) 1 (by (first | decide | omega)), if_neg (by (first | decide | omega)), ci_fr h127 tgz_165 (by decide +kernel) 1, h17.1 1 (by (first | decide | omega))]
        have h169 := ci_at h_l (rfl : (7 : Int) = 7)
        exact En_ret (v := none) rfl rfl rfl ⟨h156, h157, z13, ((h159 _ _ (Or.inl (neTG tgz_159 tgz_165 (by decide)))).trans ((h127 _ _ (inW tgz_159 (by decide +kernel))).trans h14)), z24, ((h159 _ _ (Or.inl (neTG tgz_159 tgz_165 (by decide)))).trans ((h127 _ _ (inW tgz_159 (by decide +kernel))).trans h23)), z129, ((h159 _ _ (Or.inl (neTG tgz_159 tgz_165 (by decide)))).trans h130), z153, h158, rfl, ⟨by first | exact q_8c58de1fa6 h12.2.2.1 hp0 h6 hl_l | omega, by first | exact q_76190b61a3 h12.2.1 | omega, by first | exact q_d22b102a8e h12.2.2.1 | omega, by first | exact q_c803b490ef h25 | omega, by first | exact q_3919a0a4ce h26 | omega, by first | exact q_1a6ee862c1 h128.1 | omega, by first | exact q_c733b715bf h128.2.1 | omega, by first | exact q_eeff886842 h154 h31 | omega, by (first | exact q_8f35cfe366 h154 h34 h35 h169 hp0 hu_f | omega), by (first | exact q_c793529e53 h169 h154 h35 h34 | omega), by (first | exact q_57f1065df6 h169 h154 h35 h34 | omega), by first | exact q_83f4b1e050 h12.2.2.1 | omega, fun _ => by omega, by (first | exact q_57f1065df6 h169 h154 h35 h34 | omega), by (first | exact q_c793529e53 h169 h154 h35 h34 | omega), ⟨fun k2 hk2 => ⟨h166.trans hI.1, fun hz => ⟨fun _ => by rw [h167]; exact (hI.2 (by (first | exact q_66af5a274d hl_k h75 | omega))).1 (by (first | exact q_cc9918c2d9 h144.2.2.2 h146 hk2 hz | omega)), fun z7 => (by (first | exact q_8bb5343f05 h144.2.2.2 h146 hk2 hz | omega))⟩⟩, ML_eq h162 (by subst h161; subst h148; subst h134; subst h20; unfold gLine fFirst gL1; dsimp only; first | done | rfl | ((repeat' split) <;> first | rfl | (exfalso; omega) | ((try have i0 := Imp_m h164 (by omega)); (try have i1 := Imp_m h151 (by omega)); (try have i2 := Imp_m h137 (by omega)); (try have i3 := Imp_m h28 (by omega)); exfalso; omega)))⟩⟩⟩
  · refine En_Ps 1 (pc' := 11) (lv' := [(0, .ref 159)]) (st' := [.ref 159]) rfl ?_
    refine En_ldcS (i := 10) rfl rfl rfl ?_
    refine En_callV rfl rfl rfl rfl rfl rfl rfl rfl tgz_159 (by decide +kernel) rfl (c_286s10x σ0 hσ0 f h_f k h_k hM) (by decide) (by decide) (fun v171 σ172 h170 => ?_)
    obtain ⟨h173, h174, z176, h177, z178, h179, rfl, h175⟩ := h170
    have h180 := h175.2.2.2.2.2.2.2.2
    have h181 := Fr_trans hF0 h174 (by decide +kernel)
    obtain ⟨S182, h183⟩ : ∃ q : PS, q = pss By Nb (iW By Nb 10 Sp) Sp := ⟨_, rfl⟩
    have h184 : ML By Nb σ172 S182 := by rw [h183]; exact h180
    have h185 := ML_k h184 h179
    refine En_Ps 1 (pc' := 17) (lv' := [(0, .ref 159)]) (st' := [.ref 159]) rfl ?_
    refine En_getK (j := 14) ((h174 _ _ (inW tgz_159 (by decide +kernel))).trans h3) rfl rfl rfl tgz_159 (by decide +kernel) ?_
    refine En_Ps 2 (pc' := 22) (lv' := [(0, .ref 159)]) (st' := [.ref 159, .int ((Int32.ofInt 0)), .ref 165]) rfl ?_
    refine En_ldcS (i := 13) rfl rfl rfl ?_
    refine En_Ps 2 (pc' := 26) (lv' := [(0, .ref 159)]) (st' := [.int ((Int32.ofInt 4)), .int ((Int32.ofInt 2)), .retAddr 27, .ref 159, .int ((Int32.ofInt 0)), .ref 165]) rfl ?_
    have := (by decide : ((Int32.ofInt 2)).toInt = 2)
    have := (by decide : ((Int32.ofInt 4)).toInt = 4)
    refine En_callV rfl rfl rfl rfl rfl rfl rfl rfl tgz_159 (by decide +kernel) rfl (c_323s13x σ172 h173 ((Int32.ofInt 2)) ((Int32.ofInt 4)) (geI (by decide : (Int32.ofInt 2).toInt = 2) (by decide)) (leI (by decide : (Int32.ofInt 2).toInt = 2) (by decide)) (geI (by decide : (Int32.ofInt 4).toInt = 4) (by decide)) (leI (by decide : (Int32.ofInt 4).toInt = 4) (by decide)) z176 h177 z178 h179 h184) (by decide) (by decide) (fun v187 σ188 h186 => ?_)
    obtain ⟨h189, h190, z192, h193, z194, h195, z196, rfl, h191⟩ := h186
    have h197 := h191.2.2.2.2.2.2.2.2.2.2.2.2.2.2
    have h198 := Fr_trans h181 h190 (by decide +kernel)
    obtain ⟨S199, h200⟩ : ∃ q : PS, q = pss By Nb (iW By Nb 13 S182) S182 := ⟨_, rfl⟩
    have h201 : tN By Nb ((Int32.ofInt 2)).toInt ((Int32.ofInt 4)).toInt (pss By Nb (iW By Nb 13 S182) S182) = tN By Nb (2) (4) S199 := by rw [h200]; exact tN_cg2 (fun _ => by (first | exact q_bef0c64981 (by decide) | omega)) (fun _ => by (first | exact q_d0a5206d26 this | omega))
    obtain ⟨S202, h203⟩ : ∃ q : PS, q = tN By Nb (2) (4) S199 := ⟨_, rfl⟩
    have h204 : ML By Nb σ188 S202 := by rw [h203]; exact (ML_eq h197.1 h201)
    have h205 := ML_k h204 h195
    have h206 : Imp (S202.1 = 0) (z196.toInt = tV By Nb S199.2.2.1) := fun z => by rw [h200]; exact h197.2 (by rw [h201, ← h203]; exact z)
    have h207 := Imp_m h191.2.2.2.2.2.2.2.2.2.2.1 (by (first | exact q_1984c8b6d4 (by decide) | omega))
    have h208 := Imp_m h191.2.2.2.2.2.2.2.2.2.2.2.1 (by (first | exact q_405755f924 this | omega))
    refine En_iast (l := 0) (u := 4) rfl (by decide : (Int32.ofInt 0).toInt = 0) tgz_165 (by decide +kernel) (by decide) (lnI (by decide +kernel : LN _ = 226) (by decide)) (by decide +kernel) (rngI rfl (by first | exact q_ef1e8e38bf h191.1 | omega) (by (first | exact q_9799a3bf7d h208 this | omega))) h189 h198 (by decide +kernel) (fun σ209 h210 h211 h212 h213 => ?_)
    obtain ⟨S214, h215⟩ : ∃ q : PS, q = wst S202 (0) ((tV By Nb S199.2.2.1)) := ⟨_, rfl⟩
    have h216 : ML By Nb σ209 S214 := by rw [h215]; exact (ML_wst (i := 0) (v := (tV By Nb S199.2.2.1)) h204 h212 h213 (by (first | decide | omega)) (fun z => by have j1 := Imp_m h206 z; exact ⟨by (first | decide | omega), by (first | exact q_a8fb2024c1 j1 | omega)⟩))
    have h217 := ML_k h216 ((h213 _ _ (Or.inl (neTG tgz_159 tgz_165 (by decide)))).trans h195)
    have h218 : S214.1 = S202.1 := by rw [h215]; rfl
    refine En_Ps 1 (pc' := 31) (lv' := [(0, .ref 159)]) (st' := [.ref 159]) rfl ?_
    refine En_getK (j := 14) ((h213 _ _ (Or.inl (neTG tgz_159 tgz_165 (by decide)))).trans ((h190 _ _ (inW tgz_159 (by decide +kernel))).trans ((h174 _ _ (inW tgz_159 (by decide +kernel))).trans h3))) rfl rfl rfl tgz_159 (by decide +kernel) ?_
    refine En_Ps 2 (pc' := 36) (lv' := [(0, .ref 159)]) (st' := [.ref 159, .int ((Int32.ofInt 1)), .ref 165]) rfl ?_
    refine En_ldcS (i := 16) rfl rfl rfl ?_
    refine En_Ps 2 (pc' := 40) (lv' := [(0, .ref 159)]) (st' := [.int ((Int32.ofInt 3)), .int ((Int32.ofInt 1)), .retAddr 33, .ref 159, .int ((Int32.ofInt 1)), .ref 165]) rfl ?_
    have := (by decide : ((Int32.ofInt 1)).toInt = 1)
    have := (by decide : ((Int32.ofInt 3)).toInt = 3)
    refine En_callV rfl rfl rfl rfl rfl rfl rfl rfl tgz_159 (by decide +kernel) rfl (c_323s16x σ209 h210 ((Int32.ofInt 1)) ((Int32.ofInt 3)) (geI (by decide : (Int32.ofInt 1).toInt = 1) (by decide)) (leI (by decide : (Int32.ofInt 1).toInt = 1) (by decide)) (geI (by decide : (Int32.ofInt 3).toInt = 3) (by decide)) (leI (by decide : (Int32.ofInt 3).toInt = 3) (by decide)) z192 ((h213 _ _ (Or.inl (neTG tgz_159 tgz_165 (by decide)))).trans h193) z194 ((h213 _ _ (Or.inl (neTG tgz_159 tgz_165 (by decide)))).trans h195) h216) (by decide) (by decide) (fun v220 σ221 h219 => ?_)
    obtain ⟨h222, h223, z225, h226, z227, h228, z229, rfl, h224⟩ := h219
    have h230 := h224.2.2.2.2.2.2.2.2.2.2.2.2.2.2
    have h231 := Fr_trans h211 h223 (by decide +kernel)
    obtain ⟨S232, h233⟩ : ∃ q : PS, q = pss By Nb (iW By Nb 16 S214) S214 := ⟨_, rfl⟩
    have h234 : tN By Nb ((Int32.ofInt 1)).toInt ((Int32.ofInt 3)).toInt (pss By Nb (iW By Nb 16 S214) S214) = tN By Nb (1) (3) S232 := by rw [h233]; exact tN_cg2 (fun _ => by (first | exact q_0bfa10f27c (by decide) | omega)) (fun _ => by (first | exact q_5736040b52 this | omega))
    obtain ⟨S235, h236⟩ : ∃ q : PS, q = tN By Nb (1) (3) S232 := ⟨_, rfl⟩
    have h237 : ML By Nb σ221 S235 := by rw [h236]; exact (ML_eq h230.1 h234)
    have h238 := ML_k h237 h228
    have h239 : Imp (S235.1 = 0) (z229.toInt = tV By Nb S232.2.2.1) := fun z => by rw [h233]; exact h230.2 (by rw [h234, ← h236]; exact z)
    have h240 := Imp_m h224.2.2.2.2.2.2.2.2.2.2.1 (by (first | exact q_ad3eee31ca (by decide) | omega))
    have h241 := Imp_m h224.2.2.2.2.2.2.2.2.2.2.2.1 (by (first | exact q_8a7bb54a7c this | omega))
    refine En_iast (l := 0) (u := 3) rfl (by decide : (Int32.ofInt 1).toInt = 1) tgz_165 (by decide +kernel) (by decide) (lnI (by decide +kernel : LN _ = 226) (by decide)) (by decide +kernel) (rngI rfl (by first | exact q_ef1e8e38bf h224.1 | omega) (by (first | exact q_1dc19f2830 h241 this | omega))) h222 h231 (by decide +kernel) (fun σ242 h243 h244 h245 h246 => ?_)
    obtain ⟨S247, h248⟩ : ∃ q : PS, q = wst S235 (1) ((tV By Nb S232.2.2.1)) := ⟨_, rfl⟩
    have h249 : ML By Nb σ242 S247 := by rw [h248]; exact (ML_wst (i := 1) (v := (tV By Nb S232.2.2.1)) h237 h245 h246 (by (first | decide | omega)) (fun z => by have j1 := Imp_m h239 z; exact ⟨by (first | decide | omega), by (first | exact q_a8fb2024c1 j1 | omega)⟩))
    have h250 := ML_k h249 ((h246 _ _ (Or.inl (neTG tgz_159 tgz_165 (by decide)))).trans h228)
    have h251 : S247.1 = S235.1 := by rw [h248]; rfl
    refine En_Ps 1 (pc' := 51) (lv' := [(0, .ref 159)]) (st' := []) rfl ?_
    obtain ⟨z253, h252, h254, h255⟩ := WT_peekI h243 tgz_159 (by decide +kernel : FT 35 10 = (0, 0, 4)) (by decide +kernel)
    have h256 := ML_k h249 ((h246 _ _ (Or.inl (neTG tgz_159 tgz_165 (by decide)))).trans h228)
    have h257 : Imp (S247.1 = 0) (tK By Nb S247.2.2.1 = z253.toInt) := ML_t h249 h252
    refine En_Ps 1 (pc' := 52) (lv' := [(0, .ref 159)]) (st' := [.ref 159]) rfl ?_
    refine En_callV rfl rfl rfl rfl rfl rfl rfl rfl tgz_159 (by decide +kernel) rfl (c_237 σ242 h243 z227 ((h246 _ _ (Or.inl (neTG tgz_159 tgz_165 (by decide)))).trans h228)) (by decide) (by decide) (fun v259 σ260 h258 => ?_)
    obtain ⟨h261, h262, z264, rfl, h263⟩ := h258
    obtain rfl : σ242 = σ260 := Fr_nil h262
    refine En_iEq _ rfl rfl (fun h265 => ?_) (fun h265 => ?_)
    · refine En_Ps 1 (pc' := 72) (lv' := [(0, .ref 159)]) (st' := [.ref 159]) rfl ?_
      refine En_callV rfl rfl rfl rfl rfl rfl rfl rfl tgz_159 (by decide +kernel) rfl (c_237 σ242 h243 z227 ((h246 _ _ (Or.inl (neTG tgz_159 tgz_165 (by decide)))).trans h228)) (by decide) (by decide) (fun v267 σ268 h266 => ?_)
      obtain ⟨h269, h270, z272, rfl, h271⟩ := h266
      obtain rfl : σ242 = σ268 := Fr_nil h270
      refine En_iEq _ rfl rfl (fun h273 => ?_) (fun hx => by exfalso; have := Imp_m h175.2.2.2.2.2.2.2.1 (by (first | exact q_635f9319e6 h263.2.2.2 h265 h271.2.2.1 hx h271.1 | omega)); have := Imp_m h191.2.2.2.2.2.2.2.2.2.2.2.2.2.1 (by (first | exact q_468044b3db h271.2.2.1 hx h271.1 h224.2.2.2.2.2.2.2.1 | omega)); have := Imp_m h224.2.2.2.2.2.2.2.2.2.2.2.2.2.1 (by (first | exact q_59622b1fc0 h271.2.2.1 hx h271.1 | omega)); (first | exact q_cffee5c382 h263.2.2.2 h265 h271.2.2.1 hx h271.1 | omega))
      obtain ⟨S274, h275⟩ : ∃ q : PS, q = adv By Nb S247 := ⟨_, rfl⟩
      have h276 : ML By Nb σ242 S274 := by rw [h275]; exact (ML_eq h249 (adv_bad (by (first | exact q_fdf04f5fe0 h271.2.2.2 h273 h256 | omega))).symm)
      have h277 := ML_k h276 ((h246 _ _ (Or.inl (neTG tgz_159 tgz_165 (by decide)))).trans h228)
      have h278 : Imp (S274.1 = 0) (tK By Nb S274.2.2.1 = z253.toInt) := ML_t h276 h252
      refine En_Ps 1 (pc' := 83) (lv' := [(0, .ref 159)]) (st' := [.ref 159]) rfl ?_
      refine En_getK (j := 14) ((h246 _ _ (Or.inl (neTG tgz_159 tgz_165 (by decide)))).trans ((h223 _ _ (inW tgz_159 (by decide +kernel))).trans ((h213 _ _ (Or.inl (neTG tgz_159 tgz_165 (by decide)))).trans ((h190 _ _ (inW tgz_159 (by decide +kernel))).trans ((h174 _ _ (inW tgz_159 (by decide +kernel))).trans h3))))) rfl rfl rfl tgz_159 (by decide +kernel) ?_
      refine En_Ps 2 (pc' := 89) (lv' := [(0, .ref 159)]) (st' := [.int (((Int8.ofInt 7).toInt32)), .ref 165, .int (((Int8.ofInt 7).toInt32)), .ref 165]) rfl ?_
      refine En_ialdK ((h246 _ _ (Or.inr (by (first | decide | omega)))).trans ((h223 _ _ (inWa tgz_165 (by decide +kernel))).trans ((h213 _ _ (Or.inr (by (first | decide | omega)))).trans ((h190 _ _ (inWa tgz_165 (by decide +kernel))).trans ((h174 _ _ (inWa tgz_165 (by decide +kernel))).trans h_l))))) rfl (by decide : ((Int8.ofInt 7).toInt32).toInt = 7) tgz_165 (by decide +kernel) h243 (by decide) (lnI (by decide +kernel : LN _ = 226) (by decide)) ?_
      refine En_Ps 2 (pc' := 92) (lv' := [(0, .ref 159)]) (st' := [.int ((l + ((Int32.ofInt 1)))), .int (((Int8.ofInt 7).toInt32)), .ref 165]) rfl ?_
      refine En_top (addI rfl (by decide : (Int32.ofInt 1).toInt = 1) (by first | exact q_465ab79ac1 hl_l | omega) (by first | exact q_12b1326583 h6 | omega)) (fun z280 h281 => ?_)
      refine En_iast (l := 0) (u := 1600) rfl (by decide : ((Int8.ofInt 7).toInt32).toInt = 7) tgz_165 (by decide +kernel) (by decide) (lnI (by decide +kernel : LN _ = 226) (by decide)) (by decide +kernel) (rngI rfl (by first | exact q_35104ce9d3 h281 hl_l | omega) (by first | exact q_b14eb82b79 h281 h6 | omega)) h243 h244 (by decide +kernel) (fun σ282 h283 h284 h285 h286 => ?_)
      obtain ⟨S287, h288⟩ : ∃ q : PS, q = wst S274 (7) (Sp.2.2.2 7 + 1) := ⟨_, rfl⟩
      have h289 : ML By Nb σ282 S287 := by rw [h288]; exact (ML_wst (i := 7) (v := Sp.2.2.2 7 + 1) h276 h285 h286 (by (first | decide | omega)) (fun z => by have j1 := Imp_m h278 z; exact ⟨by (first | decide | omega), by (first | exact q_c264f2cea9 h281 h2 | omega)⟩))
      have h290 := ML_k h289 ((h286 _ _ (Or.inl (neTG tgz_159 tgz_165 (by decide)))).trans ((h246 _ _ (Or.inl (neTG tgz_159 tgz_165 (by decide)))).trans h228))
      have h291 : Imp (S287.1 = 0) (tK By Nb S287.2.2.1 = z253.toInt) := ML_t h289 ((h286 _ _ (Or.inl (neTG tgz_159 tgz_165 (by decide)))).trans h252)
      have h292 : S287.1 = S274.1 := by rw [h288]; rfl
      have h293 : ci σ282 165 6 = ci σ0 165 6 := by rw [ci_st h285 h286 (by (first | decide | omega)) 6 (by (first | decide | omega)), if_neg (by (first | decide | omega)), ci_st h245 h246 (by (first | decide | omega)) 6 (by (first | decide | omega)), if_neg (by (first | decide | omega)), ci_fr h223 tgz_165 (by decide +kernel) 6, ci_st h212 h213 (by (first | decide | omega)) 6 (by (first | decide | omega)), if_neg (by (first | decide | omega)), ci_fr h190 tgz_165 (by decide +kernel) 6, ci_fr h174 tgz_165 (by decide +kernel) 6]
      have h295 : ci σ282 165 7 = z280.toInt := by rw [ci_st h285 h286 (by (first | decide | omega)) 7 (by (first | decide | omega)), if_pos rfl]
      have h294 : ci σ282 165 1 = z229.toInt := by rw [ci_st h285 h286 (by (first | decide | omega)) 1 (by (first | decide | omega)), if_neg (by (first | decide | omega)), ci_st h245 h246 (by (first | decide | omega)) 1 (by (first | decide | omega)), if_pos rfl]
      have h296 := ci_at h_l (rfl : (7 : Int) = 7)
      exact En_ret (v := none) rfl rfl rfl ⟨h283, h284, z225, ((h286 _ _ (Or.inl (neTG tgz_159 tgz_165 (by decide)))).trans ((h246 _ _ (Or.inl (neTG tgz_159 tgz_165 (by decide)))).trans h226)), z253, ((h286 _ _ (Or.inl (neTG tgz_159 tgz_165 (by decide)))).trans h252), z227, ((h286 _ _ (Or.inl (neTG tgz_159 tgz_165 (by decide)))).trans ((h246 _ _ (Or.inl (neTG tgz_159 tgz_165 (by decide)))).trans h228)), z280, h285, rfl, ⟨by first | exact q_a3cfc6bb33 h224.2.2.2.2.1 h191.2.2.2.2.1 h175.2.2.1 hp0 hl_l | omega, by first | exact q_76190b61a3 h224.2.2.2.1 | omega, by first | exact q_06e02fd287 h175.2.2.1 h191.2.2.2.2.1 h224.2.2.2.2.1 | omega, by first | exact q_c803b490ef h254 | omega, by first | exact q_3919a0a4ce h255 | omega, by first | exact q_a555021d16 h224.2.2.2.2.2.1 | omega, by first | exact q_c733b715bf h224.2.2.2.2.2.2.1 | omega, by first | exact q_eeff886842 h281 hl_l | omega, by first | exact q_4f3726f57a h281 h6 | omega, by first | exact q_0f0670fdd6 h281 | omega, by first | exact q_9a409ce733 h281 | omega, by first | exact q_5ee31f9195 h175.2.2.1 h191.2.2.2.2.1 h224.2.2.2.2.1 | omega, fun _ => by have := Imp_m h175.2.2.2.2.2.2.2.1 (by omega); have := Imp_m h191.2.2.2.2.2.2.2.2.2.2.2.2.2.1 (by omega); have := Imp_m h224.2.2.2.2.2.2.2.2.2.2.2.2.2.1 (by omega); omega, by first | exact q_9a409ce733 h281 | omega, by first | exact q_0f0670fdd6 h281 | omega, ⟨fun k2 hk2 => ⟨h293.trans hI.1, fun hz => ⟨fun _ => by rw [h294]; (first | exact q_cc9918c2d9 h271.2.2.2 h273 hk2 hz | omega), fun z7 => (by (first | exact q_8bb5343f05 h271.2.2.2 h273 hk2 hz | omega))⟩⟩, ML_eq h289 (by subst h288; subst h275; subst h248; subst h236; subst h233; subst h215; subst h203; subst h200; subst h183; unfold gLine fFirst gL1; dsimp only; first | done | rfl | ((repeat' split) <;> first | rfl | (exfalso; omega) | ((try have i0 := Imp_m h291 (by omega)); (try have i1 := Imp_m h278 (by omega)); (try have i2 := Imp_m h257 (by omega)); (try have i3 := Imp_m h239 (by omega)); (try have i4 := Imp_m h206 (by omega)); (try have i5 := Imp_m h175.2.2.2.2.2.2.2.1 (by omega)); (try have i6 := Imp_m h191.2.2.2.2.2.2.2.2.2.1 (by omega)); (try have i7 := Imp_m h191.2.2.2.2.2.2.2.2.2.2.2.2.1 (by omega)); (try have i8 := Imp_m h191.2.2.2.2.2.2.2.2.2.2.2.2.2.1 (by omega)); (try have i9 := Imp_m h224.2.2.2.2.2.2.2.2.2.1 (by omega)); (try have i10 := Imp_m h224.2.2.2.2.2.2.2.2.2.2.2.2.1 (by omega)); (try have i11 := Imp_m h224.2.2.2.2.2.2.2.2.2.2.2.2.2.1 (by omega)); exfalso; omega)))⟩⟩⟩
    · have h297 := Imp_m h175.2.2.2.2.2.2.2.1 (by (first | exact q_8db751f7ce h191.2.2.2.2.2.2.2.1 h224.2.2.2.2.2.2.2.1 h263.2.2.1 h265 h263.1 | omega))
      have h298 := Imp_m h191.2.2.2.2.2.2.2.2.2.2.2.2.2.1 (by (first | exact q_468044b3db h263.2.2.1 h265 h263.1 h224.2.2.2.2.2.2.2.1 | omega))
      have h299 := Imp_m h224.2.2.2.2.2.2.2.2.2.2.2.2.2.1 (by (first | exact q_59622b1fc0 h263.2.2.1 h265 h263.1 | omega))
      try have h300 := Imp_m h257 (by (first | exact q_1d088e2de8 h256 h224.2.2.2.2.2.1 h263.2.2.1 h265 h263.1 | omega))
      try have h301 := Imp_m h239 (by (first | exact q_1d088e2de8 h238 h224.2.2.2.2.2.1 h263.2.2.1 h265 h263.1 | omega))
      try have h302 := Imp_m h206 (by (first | exact q_b85f3ebfbc h205 h191.2.2.2.2.2.1 h299.1 | omega))
      refine En_Ps 1 (pc' := 59) (lv' := [(0, .ref 159)]) (st' := [.ref 159]) rfl ?_
      refine En_getK (j := 10) h252 rfl rfl rfl tgz_159 (by decide +kernel) ?_
      refine En_Ps 1 (pc' := 63) (lv' := [(0, .ref 159)]) (st' := [.int ((Int32.ofInt 3)), .int z253]) rfl ?_
      refine En_icEq _ rfl (by decide : (Int32.ofInt 3).toInt = 3) rfl (fun h303 => ?_) (fun h303 => ?_)
      · refine En_Ps 1 (pc' := 72) (lv' := [(0, .ref 159)]) (st' := [.ref 159]) rfl ?_
        refine En_callV rfl rfl rfl rfl rfl rfl rfl rfl tgz_159 (by decide +kernel) rfl (c_237 σ242 h243 z227 ((h246 _ _ (Or.inl (neTG tgz_159 tgz_165 (by decide)))).trans h228)) (by decide) (by decide) (fun v305 σ306 h304 => ?_)
        obtain ⟨h307, h308, z310, rfl, h309⟩ := h304
        obtain rfl : σ242 = σ306 := Fr_nil h308
        refine En_iEq _ rfl rfl (fun hx => by exfalso; (first | exact q_d43525113b h263.2.2.1 h265 h263.1 h309.2.2.2 hx | omega)) (fun h311 => ?_)
        try have h312 := Imp_m h257 (by (first | exact q_1d088e2de8 h256 h224.2.2.2.2.2.1 h309.2.2.1 h311 h309.1 | omega))
        try have h313 := Imp_m h239 (by (first | exact q_1d088e2de8 h238 h224.2.2.2.2.2.1 h309.2.2.1 h311 h309.1 | omega))
        try have h314 := Imp_m h206 (by (first | exact q_b85f3ebfbc h205 h191.2.2.2.2.2.1 h299.1 | omega))
        refine En_Ps 1 (pc' := 79) (lv' := [(0, .ref 159)]) (st' := [.ref 159]) rfl ?_
        refine En_callV rfl rfl rfl rfl rfl rfl rfl rfl tgz_159 (by decide +kernel) rfl (c_189x σ242 h243 z225 ((h246 _ _ (Or.inl (neTG tgz_159 tgz_165 (by decide)))).trans h226) h249.1 (ML_at h249 (by (first | exact q_1d088e2de8 h256 h224.2.2.2.2.2.1 h309.2.2.1 h311 h309.1 | omega)) ((h246 _ _ (Or.inl (neTG tgz_159 tgz_165 (by decide)))).trans h226))) (by decide) (by decide) (fun v316 σ317 h315 => ?_)
        obtain ⟨h318, h319, z321, h322, z323, h324, rfl, h320⟩ := h315
        have h325 := h320.2.2.2.2.2.2.2
        have h326 := Fr_trans h244 h319 (by decide +kernel)
        obtain ⟨S327, h328⟩ : ∃ q : PS, q = adv By Nb S247 := ⟨_, rfl⟩
        have h329 : ML By Nb σ317 S327 := by rw [h328]; exact (ML_adv h249 (by (first | exact q_1d088e2de8 h256 h224.2.2.2.2.2.1 h309.2.2.1 h311 h309.1 | omega)) ((h246 _ _ (Or.inl (neTG tgz_159 tgz_165 (by decide)))).trans h226) h319 (by decide +kernel) h325.2)
        have h330 := ML_k h329 ((h319 _ _ (inW tgz_159 (by decide +kernel))).trans ((h246 _ _ (Or.inl (neTG tgz_159 tgz_165 (by decide)))).trans h228))
        have h331 : Imp (S327.1 = 0) (tK By Nb S327.2.2.1 = z323.toInt) := ML_t h329 h324
        have h332 : S327.2.2.2 = S247.2.2.2 := by rw [h328]; exact adv_w
        refine En_Ps 1 (pc' := 83) (lv' := [(0, .ref 159)]) (st' := [.ref 159]) rfl ?_
        refine En_getK (j := 14) ((h319 _ _ (inW tgz_159 (by decide +kernel))).trans ((h246 _ _ (Or.inl (neTG tgz_159 tgz_165 (by decide)))).trans ((h223 _ _ (inW tgz_159 (by decide +kernel))).trans ((h213 _ _ (Or.inl (neTG tgz_159 tgz_165 (by decide)))).trans ((h190 _ _ (inW tgz_159 (by decide +kernel))).trans ((h174 _ _ (inW tgz_159 (by decide +kernel))).trans h3)))))) rfl rfl rfl tgz_159 (by decide +kernel) ?_
        refine En_Ps 2 (pc' := 89) (lv' := [(0, .ref 159)]) (st' := [.int (((Int8.ofInt 7).toInt32)), .ref 165, .int (((Int8.ofInt 7).toInt32)), .ref 165]) rfl ?_
        refine En_ialdK ((h319 _ _ (inWa tgz_165 (by decide +kernel))).trans ((h246 _ _ (Or.inr (by (first | decide | omega)))).trans ((h223 _ _ (inWa tgz_165 (by decide +kernel))).trans ((h213 _ _ (Or.inr (by (first | decide | omega)))).trans ((h190 _ _ (inWa tgz_165 (by decide +kernel))).trans ((h174 _ _ (inWa tgz_165 (by decide +kernel))).trans h_l)))))) rfl (by decide : ((Int8.ofInt 7).toInt32).toInt = 7) tgz_165 (by decide +kernel) h318 (by decide) (lnI (by decide +kernel : LN _ = 226) (by decide)) ?_
        refine En_Ps 2 (pc' := 92) (lv' := [(0, .ref 159)]) (st' := [.int ((l + ((Int32.ofInt 1)))), .int (((Int8.ofInt 7).toInt32)), .ref 165]) rfl ?_
        refine En_top (addI rfl (by decide : (Int32.ofInt 1).toInt = 1) (by first | exact q_465ab79ac1 hl_l | omega) (by first | exact q_12b1326583 h6 | omega)) (fun z334 h335 => ?_)
        refine En_iast (l := 0) (u := 1600) rfl (by decide : ((Int8.ofInt 7).toInt32).toInt = 7) tgz_165 (by decide +kernel) (by decide) (lnI (by decide +kernel : LN _ = 226) (by decide)) (by decide +kernel) (rngI rfl (by first | exact q_35104ce9d3 h335 hl_l | omega) (by first | exact q_b14eb82b79 h335 h6 | omega)) h318 h326 (by decide +kernel) (fun σ336 h337 h338 h339 h340 => ?_)
        obtain ⟨S341, h342⟩ : ∃ q : PS, q = wst S327 (7) (Sp.2.2.2 7 + 1) := ⟨_, rfl⟩
        have h343 : ML By Nb σ336 S341 := by rw [h342]; exact (ML_wst (i := 7) (v := Sp.2.2.2 7 + 1) h329 h339 h340 (by (first | decide | omega)) (fun z => by have j1 := Imp_m h331 z; exact ⟨by (first | decide | omega), by (first | exact q_c264f2cea9 h335 h2 | omega)⟩))
        have h344 := ML_k h343 ((h340 _ _ (Or.inl (neTG tgz_159 tgz_165 (by decide)))).trans ((h319 _ _ (inW tgz_159 (by decide +kernel))).trans ((h246 _ _ (Or.inl (neTG tgz_159 tgz_165 (by decide)))).trans h228)))
        have h345 : Imp (S341.1 = 0) (tK By Nb S341.2.2.1 = z323.toInt) := ML_t h343 ((h340 _ _ (Or.inl (neTG tgz_159 tgz_165 (by decide)))).trans h324)
        have h346 : S341.1 = S327.1 := by rw [h342]; rfl
        have h347 : ci σ336 165 6 = ci σ0 165 6 := by rw [ci_st h339 h340 (by (first | decide | omega)) 6 (by (first | decide | omega)), if_neg (by (first | decide | omega)), ci_fr h319 tgz_165 (by decide +kernel) 6, ci_st h245 h246 (by (first | decide | omega)) 6 (by (first | decide | omega)), if_neg (by (first | decide | omega)), ci_fr h223 tgz_165 (by decide +kernel) 6, ci_st h212 h213 (by (first | decide | omega)) 6 (by (first | decide | omega)), if_neg (by (first | decide | omega)), ci_fr h190 tgz_165 (by decide +kernel) 6, ci_fr h174 tgz_165 (by decide +kernel) 6]
        have h349 : ci σ336 165 7 = z334.toInt := by rw [ci_st h339 h340 (by (first | decide | omega)) 7 (by (first | decide | omega)), if_pos rfl]
        have h348 : ci σ336 165 1 = z229.toInt := by rw [ci_st h339 h340 (by (first | decide | omega)) 1 (by (first | decide | omega)), if_neg (by (first | decide | omega)), ci_fr h319 tgz_165 (by decide +kernel) 1, ci_st h245 h246 (by (first | decide | omega)) 1 (by (first | decide | omega)), if_pos rfl]
        have h350 := ci_at h_l (rfl : (7 : Int) = 7)
        exact En_ret (v := none) rfl rfl rfl ⟨h337, h338, z321, ((h340 _ _ (Or.inl (neTG tgz_159 tgz_165 (by decide)))).trans h322), z323, ((h340 _ _ (Or.inl (neTG tgz_159 tgz_165 (by decide)))).trans h324), z227, ((h340 _ _ (Or.inl (neTG tgz_159 tgz_165 (by decide)))).trans ((h319 _ _ (inW tgz_159 (by decide +kernel))).trans ((h246 _ _ (Or.inl (neTG tgz_159 tgz_165 (by decide)))).trans h228))), z334, h339, rfl, ⟨by first | exact q_dbf9be8f58 h320.2.2.1 h224.2.2.2.2.1 h191.2.2.2.2.1 h175.2.2.1 hp0 hl_l | omega, by first | exact q_76190b61a3 h320.2.1 | omega, by first | exact q_d4bac2ac81 h175.2.2.1 h191.2.2.2.2.1 h224.2.2.2.2.1 h320.2.2.1 | omega, by first | exact q_a555021d16 h320.2.2.2.1 | omega, by first | exact q_05cffb065e h320.2.2.2.2.1 | omega, by first | exact q_a555021d16 h224.2.2.2.2.2.1 | omega, by first | exact q_c733b715bf h224.2.2.2.2.2.2.1 | omega, by first | exact q_eeff886842 h335 hl_l | omega, by first | exact q_4f3726f57a h335 h6 | omega, by first | exact q_0f0670fdd6 h335 | omega, by first | exact q_9a409ce733 h335 | omega, by first | exact q_e22842ad2a h175.2.2.1 h191.2.2.2.2.1 h224.2.2.2.2.1 h320.2.2.1 | omega, fun _ => by have := Imp_m h320.2.2.2.2.2.2.1 (by omega); (first | exact q_374465ecbc this h224.2.2.2.2.1 h191.2.2.2.2.1 h175.2.2.1 | omega), by first | exact q_9a409ce733 h335 | omega, by first | exact q_0f0670fdd6 h335 | omega, ⟨fun k2 hk2 => ⟨h347.trans hI.1, fun hz => ⟨fun _ => by rw [h348]; (first | exact q_e5f311ca53 h299.2.1 (by decide) | omega), fun z7 => (by (first | exact q_e47b6bce04 z7 h349 h335 h6 | omega))⟩⟩, ML_eq h343 (by subst h342; subst h328; subst h248; subst h236; subst h233; subst h215; subst h203; subst h200; subst h183; unfold gLine fFirst gL1; dsimp only; first | done | rfl | ((repeat' split) <;> first | rfl | (exfalso; omega) | ((try have i0 := Imp_m h345 (by omega)); (try have i1 := Imp_m h331 (by omega)); (try have i2 := Imp_m h257 (by omega)); (try have i3 := Imp_m h239 (by omega)); (try have i4 := Imp_m h206 (by omega)); (try have i5 := Imp_m h191.2.2.2.2.2.2.2.2.2.1 (by omega)); (try have i6 := Imp_m h191.2.2.2.2.2.2.2.2.2.2.2.2.1 (by omega)); (try have i7 := Imp_m h224.2.2.2.2.2.2.2.2.2.1 (by omega)); (try have i8 := Imp_m h224.2.2.2.2.2.2.2.2.2.2.2.2.1 (by omega)); (try have i9 := Imp_m h320.2.2.2.2.2.2.1 (by omega)); exfalso; omega)))⟩⟩⟩
      · refine En_Ps 2 (pc' := 68) (lv' := [(0, .ref 159)]) (st' := [.int ((Int32.ofInt 1)), .ref 159]) rfl ?_
        have := (by decide : ((Int32.ofInt 1)).toInt = 1)
        refine En_callV rfl rfl rfl rfl rfl rfl rfl rfl tgz_159 (by decide +kernel) rfl (c_223x σ242 h243 ((Int32.ofInt 1)) (geI (by decide : (Int32.ofInt 1).toInt = 1) (by decide)) (leI (by decide : (Int32.ofInt 1).toInt = 1) (by decide)) z227 ((h246 _ _ (Or.inl (neTG tgz_159 tgz_165 (by decide)))).trans h228) h249) (by decide) (by decide) (fun v352 σ353 h351 => ?_)
        obtain ⟨h354, h355, z357, h358, rfl, h356⟩ := h351
        have h359 := h356.2.2.2.2
        have h360 := Fr_trans h244 h355 (by decide +kernel)
        obtain ⟨S361, h362⟩ : ∃ q : PS, q = err By Nb 1 S247 := ⟨_, rfl⟩
        have h363 : ML By Nb σ353 S361 := by rw [h362]; exact (ML_eq h359 (err_cg (by (first | exact q_0bfa10f27c this | omega))))
        have h364 := ML_k h363 h358
        have h365 : Imp (S361.1 = 0) (tK By Nb S361.2.2.1 = z253.toInt) := ML_t h363 ((h355 _ _ (inW tgz_159 (by decide +kernel))).trans h252)
        have h366 : S361.2.2.2 = S247.2.2.2 := by rw [h362]; exact err_w
        refine En_Ps 1 (pc' := 72) (lv' := [(0, .ref 159)]) (st' := [.ref 159]) rfl ?_
        refine En_callV rfl rfl rfl rfl rfl rfl rfl rfl tgz_159 (by decide +kernel) rfl (c_237 σ353 h354 z357 h358) (by decide) (by decide) (fun v368 σ369 h367 => ?_)
        obtain ⟨h370, h371, z373, rfl, h372⟩ := h367
        obtain rfl : σ353 = σ369 := Fr_nil h371
        refine En_iEq _ rfl rfl (fun h374 => ?_) (fun hx => by exfalso; (first | exact q_ee856db709 h372.2.2.1 hx h372.1 h356.1 | omega))
        obtain ⟨S375, h376⟩ : ∃ q : PS, q = adv By Nb S361 := ⟨_, rfl⟩
        have h377 : ML By Nb σ353 S375 := by rw [h376]; exact (ML_eq h363 (adv_bad (by (first | exact q_27472ec939 h364 h356.1 | omega))).symm)
        have h378 := ML_k h377 h358
        have h379 : Imp (S375.1 = 0) (tK By Nb S375.2.2.1 = z253.toInt) := ML_t h377 ((h355 _ _ (inW tgz_159 (by decide +kernel))).trans h252)
        refine En_Ps 1 (pc' := 83) (lv' := [(0, .ref 159)]) (st' := [.ref 159]) rfl ?_
        refine En_getK (j := 14) ((h355 _ _ (inW tgz_159 (by decide +kernel))).trans ((h246 _ _ (Or.inl (neTG tgz_159 tgz_165 (by decide)))).trans ((h223 _ _ (inW tgz_159 (by decide +kernel))).trans ((h213 _ _ (Or.inl (neTG tgz_159 tgz_165 (by decide)))).trans ((h190 _ _ (inW tgz_159 (by decide +kernel))).trans ((h174 _ _ (inW tgz_159 (by decide +kernel))).trans h3)))))) rfl rfl rfl tgz_159 (by decide +kernel) ?_
        refine En_Ps 2 (pc' := 89) (lv' := [(0, .ref 159)]) (st' := [.int (((Int8.ofInt 7).toInt32)), .ref 165, .int (((Int8.ofInt 7).toInt32)), .ref 165]) rfl ?_
        refine En_ialdK ((h355 _ _ (inWa tgz_165 (by decide +kernel))).trans ((h246 _ _ (Or.inr (by (first | decide | omega)))).trans ((h223 _ _ (inWa tgz_165 (by decide +kernel))).trans ((h213 _ _ (Or.inr (by (first | decide | omega)))).trans ((h190 _ _ (inWa tgz_165 (by decide +kernel))).trans ((h174 _ _ (inWa tgz_165 (by decide +kernel))).trans h_l)))))) rfl (by decide : ((Int8.ofInt 7).toInt32).toInt = 7) tgz_165 (by decide +kernel) h354 (by decide) (lnI (by decide +kernel : LN _ = 226) (by decide)) ?_
        refine En_Ps 2 (pc' := 92) (lv' := [(0, .ref 159)]) (st' := [.int ((l + ((Int32.ofInt 1)))), .int (((Int8.ofInt 7).toInt32)), .ref 165]) rfl ?_
        refine En_top (addI rfl (by decide : (Int32.ofInt 1).toInt = 1) (by first | exact q_465ab79ac1 hl_l | omega) (by first | exact q_12b1326583 h6 | omega)) (fun z381 h382 => ?_)
        refine En_iast (l := 0) (u := 1600) rfl (by decide : ((Int8.ofInt 7).toInt32).toInt = 7) tgz_165 (by decide +kernel) (by decide) (lnI (by decide +kernel : LN _ = 226) (by decide)) (by decide +kernel) (rngI rfl (by first | exact q_35104ce9d3 h382 hl_l | omega) (by first | exact q_b14eb82b79 h382 h6 | omega)) h354 h360 (by decide +kernel) (fun σ383 h384 h385 h386 h387 => ?_)
        obtain ⟨S388, h389⟩ : ∃ q : PS, q = wst S375 (7) (Sp.2.2.2 7 + 1) := ⟨_, rfl⟩
        have h390 : ML By Nb σ383 S388 := by rw [h389]; exact (ML_wst (i := 7) (v := Sp.2.2.2 7 + 1) h377 h386 h387 (by (first | decide | omega)) (fun z => by have j1 := Imp_m h379 z; exact ⟨by (first | decide | omega), by (first | exact q_c264f2cea9 h382 h2 | omega)⟩))
        have h391 := ML_k h390 ((h387 _ _ (Or.inl (neTG tgz_159 tgz_165 (by decide)))).trans h358)
        have h392 : Imp (S388.1 = 0) (tK By Nb S388.2.2.1 = z253.toInt) := ML_t h390 ((h387 _ _ (Or.inl (neTG tgz_159 tgz_165 (by decide)))).trans ((h355 _ _ (inW tgz_159 (by decide +kernel))).trans h252))
        have h393 : S388.1 = S375.1 := by rw [h389]; rfl
        have h394 : ci σ383 165 6 = ci σ0 165 6 := by rw [ci_st h386 h387 (by (first | decide | omega)) 6 (by (first | decide | omega)), if_neg (by (first | decide | omega)), ci_fr h355 tgz_165 (by decide +kernel) 6, ci_st h245 h246 (by (first | decide | omega)) 6 (by (first | decide | omega)), if_neg (by (first | decide | omega)), ci_fr h223 tgz_165 (by decide +kernel) 6, ci_st h212 h213 (by (first | decide | omega)) 6 (by (first | decide | omega)), if_neg (by (first | decide | omega)), ci_fr h190 tgz_165 (by decide +kernel) 6, ci_fr h174 tgz_165 (by decide +kernel) 6]
        have h396 : ci σ383 165 7 = z381.toInt := by rw [ci_st h386 h387 (by (first | decide | omega)) 7 (by (first | decide | omega)), if_pos rfl]
        have h395 : ci σ383 165 1 = z229.toInt := by rw [ci_st h386 h387 (by (first | decide | omega)) 1 (by (first | decide | omega)), if_neg (by (first | decide | omega)), ci_fr h355 tgz_165 (by decide +kernel) 1, ci_st h245 h246 (by (first | decide | omega)) 1 (by (first | decide | omega)), if_pos rfl]
        have h397 := ci_at h_l (rfl : (7 : Int) = 7)
        exact En_ret (v := none) rfl rfl rfl ⟨h384, h385, z225, ((h387 _ _ (Or.inl (neTG tgz_159 tgz_165 (by decide)))).trans ((h355 _ _ (inW tgz_159 (by decide +kernel))).trans ((h246 _ _ (Or.inl (neTG tgz_159 tgz_165 (by decide)))).trans h226))), z253, ((h387 _ _ (Or.inl (neTG tgz_159 tgz_165 (by decide)))).trans ((h355 _ _ (inW tgz_159 (by decide +kernel))).trans h252)), z357, ((h387 _ _ (Or.inl (neTG tgz_159 tgz_165 (by decide)))).trans h358), z381, h386, rfl, ⟨by first | exact q_a3cfc6bb33 h224.2.2.2.2.1 h191.2.2.2.2.1 h175.2.2.1 hp0 hl_l | omega, by first | exact q_76190b61a3 h224.2.2.2.1 | omega, by first | exact q_06e02fd287 h175.2.2.1 h191.2.2.2.2.1 h224.2.2.2.2.1 | omega, by first | exact q_c803b490ef h254 | omega, by first | exact q_3919a0a4ce h255 | omega, by first | exact q_1a6ee862c1 h356.1 | omega, by first | exact q_c733b715bf h356.2.1 | omega, by first | exact q_eeff886842 h382 hl_l | omega, by first | exact q_4f3726f57a h382 h6 | omega, by first | exact q_0f0670fdd6 h382 | omega, by first | exact q_9a409ce733 h382 | omega, by first | exact q_5ee31f9195 h175.2.2.1 h191.2.2.2.2.1 h224.2.2.2.2.1 | omega, fun _ => by omega, by first | exact q_9a409ce733 h382 | omega, by first | exact q_0f0670fdd6 h382 | omega, ⟨fun k2 hk2 => ⟨h394.trans hI.1, fun hz => ⟨fun _ => by rw [h395]; (first | exact q_e5f311ca53 h299.2.1 this | omega), fun z7 => (by (first | exact q_8bb5343f05 h372.2.2.2 h374 hk2 hz | omega))⟩⟩, ML_eq h390 (by subst h389; subst h376; subst h362; subst h248; subst h236; subst h233; subst h215; subst h203; subst h200; subst h183; unfold gLine fFirst gL1; dsimp only; first | done | rfl | ((repeat' split) <;> first | rfl | (exfalso; omega) | ((try have i0 := Imp_m h392 (by omega)); (try have i1 := Imp_m h379 (by omega)); (try have i2 := Imp_m h365 (by omega)); (try have i3 := Imp_m h257 (by omega)); (try have i4 := Imp_m h239 (by omega)); (try have i5 := Imp_m h206 (by omega)); (try have i6 := Imp_m h191.2.2.2.2.2.2.2.2.2.1 (by omega)); (try have i7 := Imp_m h191.2.2.2.2.2.2.2.2.2.2.2.2.1 (by omega)); (try have i8 := Imp_m h224.2.2.2.2.2.2.2.2.2.1 (by omega)); (try have i9 := Imp_m h224.2.2.2.2.2.2.2.2.2.2.2.2.1 (by omega)); exfalso; omega)))⟩⟩⟩
/-- DoorSchoolModel.row(III)I -/
abbrev P_308x (σ0 : SG) (a : Int32) (b : Int32) (c : Int32) : PO := fun v σ => WT σ ∧ Fr [(53, 0), (54, 0), (55, 0)] σ0 σ ∧ ∃ ret : Int32, v = some (Value.int ret) ∧ -ret.toInt - 3 ≤ 0 ∧ ret.toInt ≤ 0 ∧ Imp (-a.toInt ≤ 0 ∧ a.toInt - 3 ≤ 0 ∧ -b.toInt ≤ 0 ∧ b.toInt - 3 ≤ 0 ∧ c.toInt - 60 ≤ 0 ∧ -c.toInt ≤ 0) (ret.toInt ≤ 0 ∧ -ret.toInt ≤ 0) ∧ Imp (-a.toInt ≤ 0 ∧ a.toInt - 3 ≤ 0 ∧ -b.toInt ≤ 0 ∧ b.toInt - 3 ≤ 0 ∧ c.toInt - 60 ≤ 0 ∧ c.toInt + 1 ≤ 0) (ret.toInt + 3 ≤ 0 ∧ -ret.toInt - 3 ≤ 0) ∧ Imp (a.toInt + 1 ≤ 0) (ret.toInt + 2 ≤ 0 ∧ -ret.toInt - 2 ≤ 0) ∧ Imp (-a.toInt + 4 ≤ 0) (ret.toInt + 2 ≤ 0 ∧ -ret.toInt - 2 ≤ 0) ∧ Imp (b.toInt + 1 ≤ 0) (ret.toInt + 2 ≤ 0 ∧ -ret.toInt - 2 ≤ 0) ∧ Imp (-b.toInt + 4 ≤ 0) (ret.toInt + 2 ≤ 0 ∧ -ret.toInt - 2 ≤ 0) ∧ Imp (-c.toInt + 61 ≤ 0) (ret.toInt + 2 ≤ 0 ∧ -ret.toInt - 2 ≤ 0)
set_option maxRecDepth 10000 in
set_option maxHeartbeats 4000000 in
theorem c_308x (σ0 : SG) (hσ0 : WT σ0) (a : Int32) (b : Int32) (c : Int32) : En 2 45 none mr_308 (P_308x σ0 a b c) 0 [(0, .ref 159), (1, .int a), (2, .int b), (3, .int c)] [] σ0 := by
  have hF0 : Fr [(53, 0), (54, 0), (55, 0)] σ0 σ0 := Fr_rfl
  refine En_Ps 1 (pc' := 1) (lv' := [(0, .ref 159), (1, .int a), (2, .int b), (3, .int c)]) (st' := [.int a]) rfl ?_
  refine En_callS rfl rfl rfl rfl rfl rfl rfl rfl rfl (c_266 σ0 hσ0 a) (by decide) (by decide) (fun v2 σ3 h1 => ?_)
  obtain ⟨h4, h5, z7, rfl, h6⟩ := h1
  have h8 := Fr_trans hF0 h5 (by decide +kernel)
  refine En_iEq _ rfl rfl (fun h9 => ?_) (fun h9 => ?_)
  · refine En_Ps 1 (pc' := 27) (lv' := [(0, .ref 159), (1, .int a), (2, .int b), (3, .int c)]) (st' := [.int (((Int8.ofInt (-2)).toInt32))]) rfl ?_
    refine En_top (by decide : ((Int8.ofInt (-2)).toInt32).toInt = -2) (fun z10 h11 => ?_)
    exact En_ret (v := some (Value.int z10)) rfl rfl rfl ⟨h4, h8, z10, rfl, ⟨by first | exact q_65b477db59 h11 | omega, by first | exact q_bbb39ffa1e h11 | omega, fun _ => by omega, fun _ => by omega, fun hh => by first | exact ⟨q_535bc65891 h11, q_f35c5d346c h11⟩ | omega, fun hh => by first | exact ⟨q_535bc65891 h11, q_f35c5d346c h11⟩ | omega, fun hh => by first | exact ⟨q_535bc65891 h11, q_f35c5d346c h11⟩ | omega, fun hh => by first | exact ⟨q_535bc65891 h11, q_f35c5d346c h11⟩ | omega, fun hh => by first | exact ⟨q_535bc65891 h11, q_f35c5d346c h11⟩ | omega⟩⟩
  · refine En_Ps 4 (pc' := 13) (lv' := [(0, .ref 159), (1, .int a), (2, .int b), (3, .int c)]) (st' := [.long ((3 : Int64)), .long ((Int64.ofNat 0)), .long b.toInt64]) rfl ?_
    have : b.toInt64.toInt = b.toInt := (i2lI rfl)
    have := (by decide : ((Int64.ofNat 0)).toInt = 0)
    have := (by decide : ((3 : Int64)).toInt = 3)
    refine En_callS rfl rfl rfl rfl rfl rfl rfl rfl rfl (c_249 σ3 h4 b.toInt64 ((Int64.ofNat 0)) ((3 : Int64))) (by decide) (by decide) (fun v13 σ14 h12 => ?_)
    obtain ⟨h15, h16, z18, rfl, h17⟩ := h12
    have h19 := Fr_trans h8 h16 (by decide +kernel)
    refine En_iEq _ rfl rfl (fun h20 => ?_) (fun h20 => ?_)
    · refine En_Ps 1 (pc' := 27) (lv' := [(0, .ref 159), (1, .int a), (2, .int b), (3, .int c)]) (st' := [.int (((Int8.ofInt (-2)).toInt32))]) rfl ?_
      refine En_top (by decide : ((Int8.ofInt (-2)).toInt32).toInt = -2) (fun z21 h22 => ?_)
      exact En_ret (v := some (Value.int z21)) rfl rfl rfl ⟨h15, h19, z21, rfl, ⟨by first | exact q_65b477db59 h22 | omega, by first | exact q_bbb39ffa1e h22 | omega, fun _ => by omega, fun _ => by omega, fun hh => by first | exact ⟨q_535bc65891 h22, q_f35c5d346c h22⟩ | omega, fun hh => by first | exact ⟨q_535bc65891 h22, q_f35c5d346c h22⟩ | omega, fun hh => by first | exact ⟨q_535bc65891 h22, q_f35c5d346c h22⟩ | omega, fun hh => by first | exact ⟨q_535bc65891 h22, q_f35c5d346c h22⟩ | omega, fun hh => by first | exact ⟨q_535bc65891 h22, q_f35c5d346c h22⟩ | omega⟩⟩
    · refine En_Ps 2 (pc' := 22) (lv' := [(0, .ref 159), (1, .int a), (2, .int b), (3, .int c)]) (st' := [.int (((Int8.ofInt 60).toInt32)), .int c]) rfl ?_
      refine En_icLe _ rfl (by decide : ((Int8.ofInt 60).toInt32).toInt = 60) rfl (fun h23 => ?_) (fun h23 => ?_)
      · refine En_Ps 1 (pc' := 29) (lv' := [(0, .ref 159), (1, .int a), (2, .int b), (3, .int c)]) (st' := [.int c]) rfl ?_
        refine En_iGe _ rfl rfl (fun h24 => ?_) (fun h24 => ?_)
        · refine En_Ps 1 (pc' := 36) (lv' := [(0, .ref 159), (1, .int a), (2, .int b), (3, .int c)]) (st' := [.ref 159]) rfl ?_
          refine En_getU (j := 32) (u := 177) (g' := 53) (q := 0) rfl rfl rfl tgz_159 (by decide +kernel) h15 (by decide +kernel) un_53_177 (fun h25 => ?_)
          refine En_Ps 2 (pc' := 41) (lv' := [(0, .ref 159), (1, .int a), (2, .int b), (3, .int c)]) (st' := [.int c, .int a, .ref 177]) rfl ?_
          refine En_iast (l := (-1)) (u := 60) rfl rfl tgz_177 (by decide +kernel) (by (first | exact q_32028d2b65 h6.2.2.1 h6.2.1 h9 h6.1 | omega)) (lnI (by decide +kernel : LN _ = 4) (by (first | exact q_87da96c949 h6.2.2.1 h6.2.1 h9 h6.1 | omega))) (FTsgl (by decide +kernel)) (rngI rfl (by first | exact q_5b439548fc h24 | omega) (by first | exact q_d3912a5755 h23 | omega)) h15 h19 (by decide +kernel) (fun σ27 h28 h29 h30 h31 => ?_)
          refine En_Ps 1 (pc' := 43) (lv' := [(0, .ref 159), (1, .int a), (2, .int b), (3, .int c)]) (st' := [.ref 159]) rfl ?_
          refine En_getU (j := 33) (u := 178) (g' := 54) (q := 0) rfl rfl rfl tgz_159 (by decide +kernel) h28 (by decide +kernel) un_54_178 (fun h32 => ?_)
          refine En_Ps 2 (pc' := 48) (lv' := [(0, .ref 159), (1, .int a), (2, .int b), (3, .int c)]) (st' := [.int b, .int a, .ref 178]) rfl ?_
          refine En_iast (l := 0) (u := 3) rfl rfl tgz_178 (by decide +kernel) (by (first | exact q_32028d2b65 h6.2.2.1 h6.2.1 h9 h6.1 | omega)) (lnI (by decide +kernel : LN _ = 4) (by (first | exact q_87da96c949 h6.2.2.1 h6.2.1 h9 h6.1 | omega))) (FTsgl (by decide +kernel)) (rngI rfl (by (first | exact q_bf5288a390 (i2lI rfl) h17.2.2.1 h20 h17.1 (by decide) | omega)) (by (first | exact q_8130a48c79 (i2lI rfl) h17.2.2.1 h20 h17.1 this | omega))) h28 h29 (by decide +kernel) (fun σ34 h35 h36 h37 h38 => ?_)
          refine En_Ps 2 (pc' := 52) (lv' := [(4, .int ((Int32.ofInt 0))), (0, .ref 159), (1, .int a), (2, .int b), (3, .int c)]) (st' := []) rfl ?_
          have key52 : ∀ (n52 : Nat) (σ40 : SG) (y39 : Int32), WT σ40 → Fr [(53, 0), (54, 0), (55, 0)] σ0 σ40 → (σ40 159)[32]? = some (Value.ref 177) → (σ40 159)[33]? = some (Value.ref 178) → 0 ≤ y39.toInt → y39.toInt ≤ 60 → -y39.toInt + 60 < (n52 : Int) → En 2 45 none mr_308 (P_308x σ0 a b c) 52 [(0, .ref 159), (1, .int a), (2, .int b), (3, .int c), (4, .int y39)] [] σ40 := by
            intro n52
            induction n52 with
            | zero =>
              intro σ40 y39 h41 h42 h43 h44 h45 h46 h47
              first | exact (q_98ae87e5bf h47 h46).elim | (exfalso; omega)
            | succ n52 ih52 =>
              intro σ40 y39 h41 h42 h43 h44 h45 h46 h47
              refine En_Ps 2 (pc' := 56) (lv' := [(0, .ref 159), (1, .int a), (2, .int b), (3, .int c), (4, .int y39)]) (st' := [.int (((Int8.ofInt 60).toInt32)), .int y39]) rfl ?_
              refine En_icGe _ rfl (by decide : ((Int8.ofInt 60).toInt32).toInt = 60) rfl (fun h48 => ?_) (fun h48 => ?_)
              · refine En_Ps 1 (pc' := 79) (lv' := [(0, .ref 159), (1, .int a), (2, .int b), (3, .int c), (4, .int y39)]) (st' := [.int ((Int32.ofInt 0))]) rfl ?_
                refine En_top (by decide : (Int32.ofInt 0).toInt = 0) (fun z49 h50 => ?_)
                exact En_ret (v := some (Value.int z49)) rfl rfl rfl ⟨h41, h42, z49, rfl, ⟨by first | exact q_fe9485f41f h50 | omega, by first | exact q_c5d285f1b9 h50 | omega, fun hh => by first | exact ⟨q_c5d285f1b9 h50, q_097a37c2ae h50⟩ | omega, fun _ => by omega, fun _ => by omega, fun _ => by omega, fun _ => by omega, fun _ => by omega, fun _ => by omega⟩⟩
              · refine En_Ps 1 (pc' := 60) (lv' := [(0, .ref 159), (1, .int a), (2, .int b), (3, .int c), (4, .int y39)]) (st' := [.ref 159]) rfl ?_
                refine En_getU (j := 34) (u := 179) (g' := 55) (q := 0) rfl rfl rfl tgz_159 (by decide +kernel) h41 (by decide +kernel) un_55_179 (fun h51 => ?_)
                refine En_Ps 3 (pc' := 67) (lv' := [(0, .ref 159), (1, .int a), (2, .int b), (3, .int c), (4, .int y39)]) (st' := [.int (((((Int8.ofInt 60).toInt32)) * a)), .ref 179]) rfl ?_
                refine En_top (mulI (by decide : ((Int8.ofInt 60).toInt32).toInt = 60) rfl (Z := 60 * a.toInt) (by first | exact q_7a16b37b72 | omega) (by (first | exact q_3037e6bb8b h6.2.2.1 h6.2.1 h9 h6.1 | omega)) (by (first | exact q_71b3dc49ab h6.2.2.1 h6.2.1 h9 h6.1 | omega))) (fun z53 h54 => ?_)
                refine En_Ps 2 (pc' := 70) (lv' := [(0, .ref 159), (1, .int a), (2, .int b), (3, .int c), (4, .int y39)]) (st' := [.int ((z53 + y39)), .ref 179]) rfl ?_
                refine En_top (addI rfl rfl (by (first | exact q_a027853e4b h54 h45 h6.2.2.1 h6.2.1 h9 h6.1 | omega)) (by (first | exact q_2a8cb33312 h54 h48 h6.2.2.1 h6.2.1 h9 h6.1 | omega))) (fun z55 h56 => ?_)
                refine En_Ps 1 (pc' := 71) (lv' := [(0, .ref 159), (1, .int a), (2, .int b), (3, .int c), (4, .int y39)]) (st' := [.long ((Int64.ofNat 0)), .int z55, .ref 179]) rfl ?_
                refine En_last (l := (-9223372036854775808)) (u := 9223372036854775807) rfl rfl tgz_179 (by decide +kernel) (by (first | exact q_d744c92080 h56 h54 h45 h6.2.2.1 h6.2.1 h9 h6.1 | omega)) (lnI (by decide +kernel : LN _ = 240) (by (first | exact q_d0bb30fefb h56 h54 h48 h6.2.2.1 h6.2.1 h9 h6.1 | omega))) (FTsgl (by decide +kernel)) (fullL _) h41 h42 (by decide +kernel) (fun σ57 h58 h59 h60 h61 => ?_)
                refine En_Ps 1 (pc' := 75) (lv' := [(4, .int ((y39 + Int32.ofInt 1))), (0, .ref 159), (1, .int a), (2, .int b), (3, .int c)]) (st' := []) rfl ?_
                refine En_lv1 (addI rfl (by decide : (Int32.ofInt 1).toInt = 1) (by first | exact q_465ab79ac1 h45 | omega) (by first | exact q_5aee3ad0d6 h48 | omega)) (fun z62 h63 => ?_)
                refine En_Ps 1 (pc' := 52) (lv' := [(4, .int z62), (0, .ref 159), (1, .int a), (2, .int b), (3, .int c)]) (st' := []) rfl ?_
                refine En_lv (lv := [(0, .ref 159), (1, .int a), (2, .int b), (3, .int c), (4, .int z62)]) ⟨rfl, rfl, rfl, rfl, rfl, trivial⟩ ?_
                exact ih52 σ57 z62 h58 h59 ((h61 _ _ (Or.inl (neTG tgz_159 tgz_179 (by decide)))).trans h43) ((h61 _ _ (Or.inl (neTG tgz_159 tgz_179 (by decide)))).trans h44) (by first | exact q_35104ce9d3 h63 h45 | omega) (by first | exact q_7e37767ea5 h63 h48 | omega) (by first | exact q_45947d8f83 h63 h47 | omega)
          have := (by decide : (Int32.ofInt 0).toInt = 0)
          refine En_lv (lv := [(0, .ref 159), (1, .int a), (2, .int b), (3, .int c), (4, .int ((Int32.ofInt 0)))]) ⟨rfl, rfl, rfl, rfl, rfl, trivial⟩ ?_
          exact key52 (Int.toNat (60) + 1) σ34 ((Int32.ofInt 0)) h35 h36 ((h38 _ _ (Or.inl (neTG tgz_159 tgz_178 (by decide)))).trans ((h31 _ _ (Or.inl (neTG tgz_159 tgz_177 (by decide)))).trans h25)) ((h38 _ _ (Or.inl (neTG tgz_159 tgz_178 (by decide)))).trans h32) (by decide) (by decide) (by first | exact toN_lt _ | omega)
        · refine En_Ps 1 (pc' := 34) (lv' := [(0, .ref 159), (1, .int a), (2, .int b), (3, .int c)]) (st' := [.int (((Int8.ofInt (-3)).toInt32))]) rfl ?_
          refine En_top (by decide : ((Int8.ofInt (-3)).toInt32).toInt = -3) (fun z64 h65 => ?_)
          exact En_ret (v := some (Value.int z64)) rfl rfl rfl ⟨h15, h19, z64, rfl, ⟨by first | exact q_3ed35d91e6 h65 | omega, by first | exact q_16f03d2a2f h65 | omega, fun _ => by omega, fun hh => by first | exact ⟨q_3a751255ef h65, q_3ed35d91e6 h65⟩ | omega, fun _ => by omega, fun _ => by omega, fun _ => by omega, fun _ => by omega, fun _ => by omega⟩⟩
      · refine En_Ps 1 (pc' := 27) (lv' := [(0, .ref 159), (1, .int a), (2, .int b), (3, .int c)]) (st' := [.int (((Int8.ofInt (-2)).toInt32))]) rfl ?_
        refine En_top (by decide : ((Int8.ofInt (-2)).toInt32).toInt = -2) (fun z66 h67 => ?_)
        exact En_ret (v := some (Value.int z66)) rfl rfl rfl ⟨h15, h19, z66, rfl, ⟨by first | exact q_65b477db59 h67 | omega, by first | exact q_bbb39ffa1e h67 | omega, fun _ => by omega, fun _ => by omega, fun hh => by first | exact ⟨q_535bc65891 h67, q_f35c5d346c h67⟩ | omega, fun hh => by first | exact ⟨q_535bc65891 h67, q_f35c5d346c h67⟩ | omega, fun hh => by first | exact ⟨q_535bc65891 h67, q_f35c5d346c h67⟩ | omega, fun hh => by first | exact ⟨q_535bc65891 h67, q_f35c5d346c h67⟩ | omega, fun hh => by first | exact ⟨q_535bc65891 h67, q_f35c5d346c h67⟩ | omega⟩⟩
/-- DoorSchoolModel.school()I -/
abbrev P_312x (σ0 : SG) (By : Int → Int) (Nb : Int) : PO := fun v σ => WT σ ∧ Fr [(35, 5), (35, 7), (35, 8), (35, 9), (35, 10), (35, 11), (35, 12), (35, 13), (36, 0), (41, 0)] σ0 σ ∧ ∃ m1 : Int32, (σ 159)[5]? = some (Value.int m1) ∧ ∃ ret : Int32, v = some (Value.int ret) ∧ -ret.toInt - 4 ≤ 0 ∧ ret.toInt - 1600 ≤ 0 ∧ -m1.toInt ≤ 0 ∧ m1.toInt ≤ 0 ∧ m1.toInt ≤ 0 ∧ -m1.toInt ≤ 0 ∧ ((WI σ ∧ MSC By Nb σ0 σ ret.toInt) ∧ ((fRead By Nb 1601 S00).1 = 0 → TW6 (fRead By Nb 1601 S00).2.2.2))
set_option maxRecDepth 10000 in
set_option maxHeartbeats 4000000 in
theorem c_312x {By : Int → Int} {Nb : Int} (σ0 : SG) (hσ0 : WT σ0) (hI : WI σ0) (hB : TBm By Nb σ0) : En 11 243 none mr_312 (P_312x σ0 By Nb) 0 [(0, .ref 159)] [] σ0 := by
  have hF0 : Fr [(35, 5), (35, 7), (35, 8), (35, 9), (35, 10), (35, 11), (35, 12), (35, 13), (36, 0), (41, 0)] σ0 σ0 := Fr_rfl
  refine En_Ps 2 (pc' := 2) (lv' := [(0, .ref 159)]) (st' := [.ref 159, .ref 159]) rfl ?_
  refine En_getI (j := 5) (l := 0) (u := 1600) rfl rfl rfl tgz_159 (by decide +kernel) hσ0 (by decide +kernel) (fun z2 h1 h3 h4 => ?_)
  refine En_put (j := 7) rfl rfl rfl tgz_159 (by decide +kernel) rfl (vI (l := 0) (u := 1600) (by decide +kernel) rfl (by first | exact q_58e6e51dcc h3 | omega) (by first | exact q_246f9048f8 h4 | omega)) hσ0 hF0 (by decide +kernel) (fun σ5 h6 h7 h8 h9 => ?_)
  have h10 : SWd σ0 σ5 := SWd_tr (fun _ => rfl : SWd σ0 σ0) (fun i => ci_ne h9 (by decide) i)
  refine En_Ps 2 (pc' := 10) (lv' := [(0, .ref 159)]) (st' := [.int ((Int32.ofInt 0)), .ref 159]) rfl ?_
  refine En_put (j := 5) rfl rfl rfl tgz_159 (by decide +kernel) rfl (vI (l := 0) (u := 1600) (by decide +kernel) (by decide : (Int32.ofInt 0).toInt = 0) (by decide) (by decide)) h6 h7 (by decide +kernel) (fun σ11 h12 h13 h14 h15 => ?_)
  have h16 : SWd σ0 σ11 := SWd_tr h10 (fun i => ci_ne h15 (by decide) i)
  refine En_Ps 2 (pc' := 15) (lv' := [(0, .ref 159)]) (st' := [.int ((Int32.ofInt 0)), .ref 159]) rfl ?_
  refine En_put (j := 8) rfl rfl rfl tgz_159 (by decide +kernel) rfl (vI (l := 0) (u := 1600) (by decide +kernel) (by decide : (Int32.ofInt 0).toInt = 0) (by decide) (by decide)) h12 h13 (by decide +kernel) (fun σ17 h18 h19 h20 h21 => ?_)
  have h22 : SWd σ0 σ17 := SWd_tr h16 (fun i => ci_ne h21 (by decide) i)
  refine En_Ps 2 (pc' := 20) (lv' := [(0, .ref 159)]) (st' := [.int ((Int32.ofInt 0)), .ref 159]) rfl ?_
  refine En_put (j := 12) rfl rfl rfl tgz_159 (by decide +kernel) rfl (vI (l := 0) (u := 3) (by decide +kernel) (by decide : (Int32.ofInt 0).toInt = 0) (by decide) (by decide)) h18 h19 (by decide +kernel) (fun σ23 h24 h25 h26 h27 => ?_)
  have h28 : SWd σ0 σ23 := SWd_tr h22 (fun i => ci_ne h27 (by decide) i)
  refine En_Ps 2 (pc' := 25) (lv' := [(0, .ref 159)]) (st' := [.int ((Int32.ofInt (-1))), .ref 159]) rfl ?_
  refine En_put (j := 13) rfl rfl rfl tgz_159 (by decide +kernel) rfl (vI (l := (-1)) (u := 1600) (by decide +kernel) (by decide : (Int32.ofInt (-1)).toInt = -1) (by decide) (by decide)) h24 h25 (by decide +kernel) (fun σ29 h30 h31 h32 h33 => ?_)
  have h34 : SWd σ0 σ29 := SWd_tr h28 (fun i => ci_ne h33 (by decide) i)
  refine En_Ps 2 (pc' := 30) (lv' := [(1, .int ((Int32.ofInt 0))), (0, .ref 159)]) (st' := []) rfl ?_
  have key30 : ∀ (n30 : Nat) (σ36 : SG) (y35 : Int32), WT σ36 → Fr [(35, 5), (35, 7), (35, 8), (35, 9), (35, 10), (35, 11), (35, 12), (35, 13), (36, 0), (41, 0)] σ0 σ36 → (σ36 159)[7]? = some (Value.int z2) → (σ36 159)[5]? = some (Value.int ((Int32.ofInt 0))) → (σ36 159)[8]? = some (Value.int ((Int32.ofInt 0))) → (σ36 159)[12]? = some (Value.int ((Int32.ofInt 0))) → (σ36 159)[13]? = some (Value.int ((Int32.ofInt (-1)))) → 0 ≤ y35.toInt → y35.toInt ≤ 226 → -y35.toInt + 226 < (n30 : Int) → CLF σ36 y35.toInt → SWd σ0 σ36 → En 11 243 none mr_312 (P_312x σ0 By Nb) 30 [(0, .ref 159), (1, .int y35)] [] σ36 := by
    intro n30
    induction n30 with
    | zero =>
      intro σ36 y35 h37 h38 h39 h40 h41 h42 h43 h44 h45 h46 h47 h48
      first | exact (q_93df7d31ea h46 h45).elim | (exfalso; omega)
    | succ n30 ih30 =>
      intro σ36 y35 h37 h38 h39 h40 h41 h42 h43 h44 h45 h46 h47 h48
      refine En_Ps 2 (pc' := 34) (lv' := [(0, .ref 159), (1, .int y35)]) (st' := [.int (((Int16.ofInt 226).toInt32)), .int y35]) rfl ?_
      refine En_icGe _ rfl (by decide : ((Int16.ofInt 226).toInt32).toInt = 226) rfl (fun h49 => ?_) (fun h49 => ?_)
      · have h50 := TPm_of hB h38 (by decide +kernel) h1 h39
        refine En_Ps 1 (pc' := 51) (lv' := [(0, .ref 159), (1, .int y35)]) (st' := [.ref 159]) rfl ?_
        refine En_callV rfl rfl rfl rfl rfl rfl rfl rfl tgz_159 (by decide +kernel) rfl (c_189x σ36 h37 ((Int32.ofInt 0)) h41 h50 (by have := (by decide : (Int32.ofInt 0).toInt = 0); have := hB.1; (first | exact q_cd53164edb this (by decide) | omega))) (by decide) (by decide) (fun v52 σ53 h51 => ?_)
        obtain ⟨h54, h55, z57, h58, z59, h60, rfl, h56⟩ := h51
        have h61 := h56.2.2.2.2.2.2.2
        have h62 := Fr_trans h38 h55 (by decide +kernel)
        have h63 := Imp_m h56.2.2.2.2.2.2.1
        have h64 : SWd σ0 σ53 := SWd_tr h48 (SWd_fr h55 (by decide +kernel))
        have key54 : ∀ (n54 : Nat) (σ84 : SG) (y65 : Int32) (y66 : Int32) (y67 : Int32), WT σ84 → Fr [(35, 5), (35, 7), (35, 8), (35, 9), (35, 10), (35, 11), (35, 12), (35, 13), (36, 0), (41, 0)] σ0 σ84 → (σ84 159)[7]? = some (Value.int z2) → (σ84 159)[5]? = some (Value.int ((Int32.ofInt 0))) → (σ84 159)[12]? = some (Value.int y65) → (σ84 159)[8]? = some (Value.int y66) → (σ84 159)[10]? = some (Value.int y67) → 0 ≤ y65.toInt → y65.toInt ≤ 3 → 0 ≤ y66.toInt → y66.toInt ≤ 1600 → 0 ≤ y67.toInt → y67.toInt ≤ 4 → 5 * (1600 - y66.toInt) + y67.toInt + 9000 * (3 - y65.toInt) < (n54 : Int) → FI σ84 y65.toInt → (y65.toInt = 0 → y67.toInt ≠ 0 → ci σ84 165 7 + 1 ≤ y66.toInt) → SWd σ0 σ84 → LPJ By Nb σ84 → En 11 243 none mr_312 (P_312x σ0 By Nb) 54 [(0, .ref 159), (1, .int y35)] [] σ84 := by
          intro n54
          induction n54 with
          | zero =>
            intro σ84 y65 y66 y67 h85 h86 h87 h88 h89 h90 h91 h92 h93 h94 h95 h96 h97 h98 h99 h100 h101 h102
            obtain ⟨S103, f104, h105, h106, h107, h110⟩ := h102
            have h108 := ML_k h105 h89
            have h109 := ML_t h105 h91
            exfalso; (first | exact q_368a1ef7c0 h98 h96 h95 h93 | omega)
          | succ n54 ih54 =>
            intro σ84 y65 y66 y67 h85 h86 h87 h88 h89 h90 h91 h92 h93 h94 h95 h96 h97 h98 h99 h100 h101 h102
            obtain ⟨S127, f128, h129, h130, h131, h134⟩ := h102
            have h132 := ML_k h129 h89
            have h133 := ML_t h129 h91
            refine En_Ps 1 (pc' := 55) (lv' := [(0, .ref 159), (1, .int y35)]) (st' := [.ref 159]) rfl ?_
            refine En_callV rfl rfl rfl rfl rfl rfl rfl rfl tgz_159 (by decide +kernel) rfl (c_237 σ84 h85 y65 h89) (by decide) (by decide) (fun v136 σ137 h135 => ?_)
            obtain ⟨h138, h139, z141, rfl, h140⟩ := h135
            obtain rfl : σ84 = σ137 := Fr_nil h139
            refine En_iEq _ rfl rfl (fun h142 => ?_) (fun h142 => ?_)
            · refine En_Ps 1 (pc' := 76) (lv' := [(0, .ref 159), (1, .int y35)]) (st' := [.ref 159]) rfl ?_
              refine En_callV rfl rfl rfl rfl rfl rfl rfl rfl tgz_159 (by decide +kernel) rfl (c_237 σ84 h85 y65 h89) (by decide) (by decide) (fun v144 σ145 h143 => ?_)
              obtain ⟨h146, h147, z149, rfl, h148⟩ := h143
              obtain rfl : σ84 = σ145 := Fr_nil h147
              refine En_iNe _ rfl rfl (fun hx => by exfalso; (first | exact q_cffee5c382 h140.2.2.2 h142 h148.2.2.1 hx h148.1 | omega)) (fun h150 => ?_)
              refine En_Ps 1 (pc' := 84) (lv' := [(0, .ref 159), (1, .int y35)]) (st' := [.int (((Int8.ofInt (-4)).toInt32))]) rfl ?_
              have := (by decide : (Int32.ofInt 0).toInt = 0)
              refine En_top (by decide : ((Int8.ofInt (-4)).toInt32).toInt = -4) (fun z151 h152 => ?_)
              exact En_ret (v := some (Value.int z151)) rfl rfl rfl ⟨h85, h86, (Int32.ofInt 0), h88, z151, rfl, ⟨by first | exact q_3a4f36f5dd h152 | omega, by first | exact q_f5f5c736c4 h152 | omega, by decide, by decide, by decide, by decide, ⟨⟨WI_sw h101 h86 (by decide +kernel) hI, MSC_bad h129 h130 (by (first | exact q_fdf04f5fe0 h148.2.2.2 h150 h132 | omega)) (by (first | exact q_df3bae2a4c h152 | omega)) h101⟩, fun zz => by exfalso; rw [← h130, fRead_x (Or.inl (by (first | exact q_fdf04f5fe0 h148.2.2.2 h150 h132 | omega)))] at zz; (first | exact q_e804f08cb8 h148.2.2.2 h150 h132 zz | omega)⟩⟩⟩
            · refine En_Ps 1 (pc' := 62) (lv' := [(0, .ref 159), (1, .int y35)]) (st' := [.ref 159]) rfl ?_
              refine En_getK (j := 10) h91 rfl rfl rfl tgz_159 (by decide +kernel) ?_
              refine En_iEq _ rfl rfl (fun h153 => ?_) (fun h153 => ?_)
              · refine En_Ps 1 (pc' := 76) (lv' := [(0, .ref 159), (1, .int y35)]) (st' := [.ref 159]) rfl ?_
                refine En_callV rfl rfl rfl rfl rfl rfl rfl rfl tgz_159 (by decide +kernel) rfl (c_237 σ84 h85 y65 h89) (by decide) (by decide) (fun v155 σ156 h154 => ?_)
                obtain ⟨h157, h158, z160, rfl, h159⟩ := h154
                obtain rfl : σ84 = σ156 := Fr_nil h158
                refine En_iNe _ rfl rfl (fun h161 => ?_) (fun hx => by exfalso; (first | exact q_d43525113b h140.2.2.1 h142 h140.1 h159.2.2.2 hx | omega))
                refine En_Ps 2 (pc' := 87) (lv' := [(1, .int ((Int32.ofInt 0))), (0, .ref 159)]) (st' := []) rfl ?_
                have key87 : ∀ (n87 : Nat) (σ163 : SG) (y162 : Int32), WT σ163 → Fr [(35, 5), (35, 7), (35, 8), (35, 9), (35, 10), (35, 11), (35, 12), (35, 13), (36, 0), (41, 0)] σ0 σ163 → (σ163 159)[7]? = some (Value.int z2) → (σ163 159)[5]? = some (Value.int ((Int32.ofInt 0))) → (σ163 159)[12]? = some (Value.int y65) → (σ163 159)[8]? = some (Value.int y66) → (σ163 159)[10]? = some (Value.int y67) → 0 ≤ y162.toInt → y162.toInt ≤ 226 → -y162.toInt + 226 < (n87 : Int) → CPY (ff σ163) (wf σ163) y162.toInt → FI σ163 0 → ML By Nb σ163 S127 → En 11 243 none mr_312 (P_312x σ0 By Nb) 87 [(0, .ref 159), (1, .int y162)] [] σ163 := by
                  intro n87
                  induction n87 with
                  | zero =>
                    intro σ163 y162 h164 h165 h166 h167 h168 h169 h170 h171 h172 h173 h174 h175 h176
                    first | exact (q_93df7d31ea h173 h172).elim | (exfalso; omega)
                  | succ n87 ih87 =>
                    intro σ163 y162 h164 h165 h166 h167 h168 h169 h170 h171 h172 h173 h174 h175 h176
                    refine En_Ps 2 (pc' := 91) (lv' := [(0, .ref 159), (1, .int y162)]) (st' := [.int (((Int16.ofInt 226).toInt32)), .int y162]) rfl ?_
                    refine En_icGe _ rfl (by decide : ((Int16.ofInt 226).toInt32).toInt = 226) rfl (fun h177 => ?_) (fun h177 => ?_)
                    · refine En_Ps 1 (pc' := 113) (lv' := [(0, .ref 159), (1, .int y162)]) (st' := [.ref 159]) rfl ?_
                      refine En_getU (j := 1) (u := 160) (g' := 36) (q := 0) rfl rfl rfl tgz_159 (by decide +kernel) h164 (by decide +kernel) un_36_160 (fun h178 => ?_)
                      refine En_Ps 1 (pc' := 118) (lv' := [(0, .ref 159), (1, .int y162)]) (st' := [.int (((Int8.ofInt 7).toInt32)), .ref 160]) rfl ?_
                      refine En_iald (l := 0) (u := 1600) rfl (by decide : ((Int8.ofInt 7).toInt32).toInt = 7) tgz_160 (by decide +kernel) h164 (by decide) (lnI (by decide +kernel : LN _ = 226) (by decide)) (by decide +kernel) (fun z181 h180 h182 h183 => ?_)
                      have := (by decide : (Int32.ofInt 0).toInt = 0)
                      exact En_ret (v := some (Value.int z181)) rfl rfl rfl ⟨h164, h165, (Int32.ofInt 0), h167, z181, rfl, ⟨by first | exact q_3b4a8cfc23 h182 | omega, by first | exact q_5a08281576 h183 | omega, by decide, by decide, by decide, by decide, ⟨⟨FI_x h164 h175 rfl h174 (by (first | exact q_1eb83a62a2 h177 | omega)) h165 (by decide +kernel) hI, MSC_ok h176 h130 (by (first | exact q_4c9c2433b9 h132 h92 h159.2.2.1 h161 h159.1 | omega)) (by (first | exact q_c7950dd462 h133 h132 h92 h159.2.2.1 h161 h159.1 h153 | omega)) h174 (by (first | exact q_1eb83a62a2 h177 | omega)) h180⟩, fun _ => TW6_x h130 (by (first | exact q_4c9c2433b9 h132 h92 h159.2.2.1 h161 h159.1 | omega)) (by (first | exact q_c7950dd462 h133 h132 h92 h159.2.2.1 h161 h159.1 h153 | omega)) h134⟩⟩⟩
                    · refine En_Ps 1 (pc' := 95) (lv' := [(0, .ref 159), (1, .int y162)]) (st' := [.ref 159]) rfl ?_
                      refine En_getU (j := 1) (u := 160) (g' := 36) (q := 0) rfl rfl rfl tgz_159 (by decide +kernel) h164 (by decide +kernel) un_36_160 (fun h184 => ?_)
                      refine En_Ps 2 (pc' := 100) (lv' := [(0, .ref 159), (1, .int y162)]) (st' := [.ref 159, .int y162, .ref 160]) rfl ?_
                      refine En_getU (j := 14) (u := 165) (g' := 41) (q := 0) rfl rfl rfl tgz_159 (by decide +kernel) h164 (by decide +kernel) un_41_165 (fun h186 => ?_)
                      refine En_Ps 1 (pc' := 104) (lv' := [(0, .ref 159), (1, .int y162)]) (st' := [.int y162, .ref 165, .int y162, .ref 160]) rfl ?_
                      refine En_ialdW (n := 226) rfl rfl tgz_165 (by decide +kernel) h164 (by (first | exact q_58e6e51dcc h171 | omega)) (by decide +kernel) (by (first | exact q_f7a270291b h177 | omega)) aw_41 (fun z188 h189 h190 => ?_)
                      refine En_iastW (n := 226) rfl rfl tgz_160 (by decide +kernel) (by (first | exact q_58e6e51dcc h171 | omega)) (by decide +kernel) (by (first | exact q_f7a270291b h177 | omega)) (ft_fw h190 (by (first | exact q_58e6e51dcc h171 | omega)) (by (first | exact q_01af86e644 h177 | omega)) (by (first | exact q_61ddd2b576 | omega))) h164 h165 (by decide +kernel) (fun σ191 h192 h193 h194 h195 => ?_)
                      refine En_Ps 1 (pc' := 109) (lv' := [(1, .int ((y162 + Int32.ofInt 1))), (0, .ref 159)]) (st' := []) rfl ?_
                      refine En_lv1 (addI rfl (by decide : (Int32.ofInt 1).toInt = 1) (by first | exact q_465ab79ac1 h171 | omega) (by first | exact q_00ca1b1d9b h177 | omega)) (fun z196 h197 => ?_)
                      refine En_Ps 1 (pc' := 87) (lv' := [(1, .int z196), (0, .ref 159)]) (st' := []) rfl ?_
                      refine En_lv (lv := [(0, .ref 159), (1, .int z196)]) ⟨rfl, rfl, trivial⟩ ?_
                      exact ih87 σ191 z196 h192 h193 ((h195 _ _ (Or.inl (neTG tgz_159 tgz_160 (by decide)))).trans h166) ((h195 _ _ (Or.inl (neTG tgz_159 tgz_160 (by decide)))).trans h167) ((h195 _ _ (Or.inl (neTG tgz_159 tgz_160 (by decide)))).trans h168) ((h195 _ _ (Or.inl (neTG tgz_159 tgz_160 (by decide)))).trans h169) ((h195 _ _ (Or.inl (neTG tgz_159 tgz_160 (by decide)))).trans h170) (by first | exact q_35104ce9d3 h197 h171 | omega) (by first | exact q_5bd245720d h197 h177 | omega) (by first | exact q_6929b92474 h197 h173 | omega) (CPY_fw h174 h189 h194 h195 (by (first | exact q_58e6e51dcc h171 | omega)) (by (first | exact q_ba1b2c713b h197 | omega))) (FI_ne h175 h195 (by decide)) (ML_ne h176 h195 (by decide))
                have := (by decide : (Int32.ofInt 0).toInt = 0)
                refine En_lv (lv := [(0, .ref 159), (1, .int ((Int32.ofInt 0)))]) ⟨rfl, rfl, trivial⟩ ?_
                exact key87 (Int.toNat (226) + 1) σ84 ((Int32.ofInt 0)) h85 h86 h87 h88 h89 h90 h91 (by decide) (by decide) (by first | exact toN_lt _ | omega) (CPY_0 (by decide)) (FI_z h99 (by (first | exact q_eacb512e73 h159.2.2.1 h161 h159.1 h92 | omega))) (h129)
              · refine En_Ps 1 (pc' := 69) (lv' := [(0, .ref 159), (1, .int y35)]) (st' := [.ref 159]) rfl ?_
                obtain ⟨z199, h198, h200, h201⟩ := WT_peekI h85 tgz_165 (by decide +kernel : FT 41 (7 : Int).toNat = (0, 0, 1600)) (by decide +kernel)
                have h202 := ci_at h198 (rfl : (7 : Int) = 7)
                have h203 := h100 (by (first | exact q_c1d8e49746 h92 h140.2.2.1 h142 h140.1 | omega)) (by (first | exact q_92fdf24cb0 h153 h96 | omega))
                refine En_callV rfl rfl rfl rfl rfl rfl rfl rfl tgz_159 (by decide +kernel) rfl (c_301x σ84 h85 y66 h90 y65 h89 z199 h198 (by (first | exact q_ca2ce0bcba h203 h202 | omega)) (by (first | exact q_59622b1fc0 h140.2.2.1 h142 h140.1 | omega)) h99 h129 (by (first | exact q_4c9c2433b9 h132 h92 h140.2.2.1 h142 h140.1 | omega))) (by decide) (by decide) (fun v205 σ206 h204 => ?_)
                obtain ⟨h207, h208, z210, h211, z212, h213, z214, h215, z216, h217, rfl, h209⟩ := h204
                have h218 := h209.2.2.2.2.2.2.2.2.2.2.2.2.2.2.2
                have h219 := Fr_trans h86 h208 (by decide +kernel)
                have h220 := Imp_m h209.2.2.2.2.2.2.2.2.2.2.2.2.1
                have h221 : SWd σ0 σ206 := SWd_tr h101 (SWd_fr h208 (by decide +kernel))
                refine En_Ps 1 (pc' := 54) (lv' := [(0, .ref 159), (1, .int y35)]) (st' := []) rfl ?_
                have h222 := ci_at h217 (rfl : (7 : Int) = 7)
                exact ih54 σ206 z214 z210 z212 h207 h219 ((h208 _ _ (inW tgz_159 (by decide +kernel))).trans h87) ((h208 _ _ (inW tgz_159 (by decide +kernel))).trans h88) h215 h211 h213 (by first | exact q_ef1e8e38bf h209.2.2.2.2.2.1 | omega) (by first | exact q_87d9217d84 h209.2.2.2.2.2.2.1 | omega) (by first | exact q_996aa4c518 h209.1 | omega) (by first | exact q_70de3c5e42 h209.2.1 | omega) (by first | exact q_ef1e8e38bf h209.2.2.2.1 | omega) (by first | exact q_3b0dd79e8e h209.2.2.2.2.1 | omega) (by omega) (h218.1 _ rfl) (fun _ _ => (by omega)) (h221) (LPJ_s h129 h85 (by (first | exact q_4c9c2433b9 h132 h92 h140.2.2.1 h142 h140.1 | omega)) (by (first | exact q_27f45475c2 h133 h132 h92 h140.2.2.1 h142 h140.1 h153 h96 | omega)) h130 h131 h134 h218.2)
        have := (by decide : (Int32.ofInt 0).toInt = 0)
        have h223 := FI_0 (k := (Int32.ofInt 0).toInt) (CLF_fr (CLF_226 h47 (by (first | exact q_1eb83a62a2 h49 | omega))) h55 (by decide +kernel))
        have h224 := CLF_fr (CLF_226 h47 (by (first | exact q_1eb83a62a2 h49 | omega))) h55 (by decide +kernel) 7 (by (first | decide | omega)) (by (first | decide | omega))
        exact key54 (Int.toNat (5 * (1600 - z57.toInt) + z59.toInt + 9000 * (3 - 0)) + 1) σ53 ((Int32.ofInt 0)) z57 z59 h54 h62 ((h55 _ _ (inW tgz_159 (by decide +kernel))).trans h39) ((h55 _ _ (inW tgz_159 (by decide +kernel))).trans h40) ((h55 _ _ (inW tgz_159 (by decide +kernel))).trans h42) h58 h60 (by decide) (by decide) (by first | exact q_ef1e8e38bf h56.1 | omega) (by first | exact q_70de3c5e42 h56.2.1 | omega) (by first | exact q_ef1e8e38bf h56.2.2.2.1 | omega) (by first | exact q_3b0dd79e8e h56.2.2.2.2.1 | omega) (by omega) (h223) (fun _ _ => (by omega)) (h64) (LPJ_0 h61 (by decide) ((h55 _ _ (inW tgz_159 (by decide +kernel))).trans h42) (by decide) ((h55 _ _ (inW tgz_159 (by decide +kernel))).trans h43) (by decide) (CLF_fr (CLF_226 h47 (by (first | exact q_1eb83a62a2 h49 | omega))) h55 (by decide +kernel)))
      · refine En_Ps 1 (pc' := 38) (lv' := [(0, .ref 159), (1, .int y35)]) (st' := [.ref 159]) rfl ?_
        refine En_getU (j := 14) (u := 165) (g' := 41) (q := 0) rfl rfl rfl tgz_159 (by decide +kernel) h37 (by decide +kernel) un_41_165 (fun h225 => ?_)
        refine En_Ps 2 (pc' := 43) (lv' := [(0, .ref 159), (1, .int y35)]) (st' := [.int ((Int32.ofInt 0)), .int y35, .ref 165]) rfl ?_
        refine En_iastW (n := 226) rfl rfl tgz_165 (by decide +kernel) (by (first | exact q_58e6e51dcc h44 | omega)) (by decide +kernel) (by (first | exact q_f7a270291b h49 | omega)) (ft_zero (by (first | exact q_58e6e51dcc h44 | omega)) (by (first | exact q_01af86e644 h49 | omega)) (by decide)) h37 h38 (by decide +kernel) (fun σ227 h228 h229 h230 h231 => ?_)
        have h232 : SWd σ0 σ227 := SWd_tr h48 (fun i => ci_ne h231 (by decide) i)
        refine En_Ps 1 (pc' := 47) (lv' := [(1, .int ((y35 + Int32.ofInt 1))), (0, .ref 159)]) (st' := []) rfl ?_
        refine En_lv1 (addI rfl (by decide : (Int32.ofInt 1).toInt = 1) (by first | exact q_465ab79ac1 h44 | omega) (by first | exact q_00ca1b1d9b h49 | omega)) (fun z233 h234 => ?_)
        refine En_Ps 1 (pc' := 30) (lv' := [(1, .int z233), (0, .ref 159)]) (st' := []) rfl ?_
        refine En_lv (lv := [(0, .ref 159), (1, .int z233)]) ⟨rfl, rfl, trivial⟩ ?_
        exact ih30 σ227 z233 h228 h229 ((h231 _ _ (Or.inl (neTG tgz_159 tgz_165 (by decide)))).trans h39) ((h231 _ _ (Or.inl (neTG tgz_159 tgz_165 (by decide)))).trans h40) ((h231 _ _ (Or.inl (neTG tgz_159 tgz_165 (by decide)))).trans h41) ((h231 _ _ (Or.inl (neTG tgz_159 tgz_165 (by decide)))).trans h42) ((h231 _ _ (Or.inl (neTG tgz_159 tgz_165 (by decide)))).trans h43) (by first | exact q_35104ce9d3 h234 h44 | omega) (by first | exact q_5bd245720d h234 h49 | omega) (by first | exact q_6929b92474 h234 h46 | omega) (CLF_s h47 h230 h231 (by decide) (by (first | exact q_58e6e51dcc h44 | omega)) (by (first | exact q_ba1b2c713b h234 | omega))) (h232)
  have := (by decide : (Int32.ofInt 0).toInt = 0)
  refine En_lv (lv := [(0, .ref 159), (1, .int ((Int32.ofInt 0)))]) ⟨rfl, rfl, trivial⟩ ?_
  exact key30 (Int.toNat (226) + 1) σ29 ((Int32.ofInt 0)) h30 h31 ((h33 _ _ (Or.inr (by decide))).trans ((h27 _ _ (Or.inr (by decide))).trans ((h21 _ _ (Or.inr (by decide))).trans ((h15 _ _ (Or.inr (by decide))).trans h8)))) ((h33 _ _ (Or.inr (by decide))).trans ((h27 _ _ (Or.inr (by decide))).trans ((h21 _ _ (Or.inr (by decide))).trans h14))) ((h33 _ _ (Or.inr (by decide))).trans ((h27 _ _ (Or.inr (by decide))).trans h20)) ((h33 _ _ (Or.inr (by decide))).trans h26) h32 (by decide) (by decide) (by first | exact toN_lt _ | omega) (CLF_0 (by decide)) (h34)
end
/-! 32.m07 -/
section
/-- DoorSchoolModel.teach(III)I -/
abbrev P_320x (σ0 : SG) (a : Int32) (b : Int32) (c : Int32) : PO := fun v σ => WT σ ∧ Fr [(36, 0)] σ0 σ ∧ ∃ ret : Int32, v = some (Value.int ret) ∧ -ret.toInt - 5 ≤ 0 ∧ ret.toInt - 12 ≤ 0 ∧ ((WINV (wf σ0) → WINV (wf σ)) ∧ ret.toInt = tcR (wf σ0) a.toInt b.toInt c.toInt ∧ (∀ i : Int, 0 ≤ i → i < 226 → wf σ i = tcW (wf σ0) a.toInt b.toInt c.toInt i))
set_option maxRecDepth 10000 in
set_option maxHeartbeats 4000000 in
theorem c_320x (σ0 : SG) (hσ0 : WT σ0) (a : Int32) (b : Int32) (c : Int32) : En 3 62 none mr_320 (P_320x σ0 a b c) 0 [(0, .ref 159), (1, .int a), (2, .int b), (3, .int c)] [] σ0 := by
  have hF0 : Fr [(36, 0)] σ0 σ0 := Fr_rfl
  refine En_Ps 2 (pc' := 2) (lv' := [(0, .ref 159), (1, .int a), (2, .int b), (3, .int c)]) (st' := [.int a, .ref 159]) rfl ?_
  obtain ⟨z2, h1, h3, h4⟩ := WT_peekI hσ0 tgz_160 (by decide +kernel : FT 36 (2 : Int).toNat = (0, 0, 4)) (by decide +kernel)
  refine En_callV rfl rfl rfl rfl rfl rfl rfl rfl tgz_159 (by decide +kernel) rfl (c_254 σ0 hσ0 a z2 h1) (by decide) (by decide) (fun v6 σ7 h5 => ?_)
  obtain ⟨h8, h9, z11, rfl, h10⟩ := h5
  obtain rfl : σ0 = σ7 := Fr_nil h9
  have w12 : wf σ0 (2) = z2.toInt := ci_at h1 (by (first | decide | omega))
  refine En_iEq _ rfl rfl (fun h13 => ?_) (fun h13 => ?_)
  · refine En_Ps 1 (pc' := 29) (lv' := [(0, .ref 159), (1, .int a), (2, .int b), (3, .int c)]) (st' := [.int (((Int8.ofInt (-2)).toInt32))]) rfl ?_
    refine En_top (by decide : ((Int8.ofInt (-2)).toInt32).toInt = -2) (fun z14 h15 => ?_)
    exact En_ret (v := some (Value.int z14)) rfl rfl rfl ⟨hσ0, hF0, z14, rfl, ⟨by first | exact q_f1982a04c6 h15 | omega, by first | exact q_5a5c18c2ab h15 | omega, (by have q0 : ¬ okL (wf σ0) a.toInt b.toInt c.toInt := (fun ⟨q1, q2, q3, q4, q5, q6, q7⟩ => by (first | exact q_de08783852 h10.2.2.2.1 q1 q2 w12 h13 | omega)); exact ⟨fun H => H, tcR_2 q0 (by (first | exact q_a664922815 h15 | omega)), tcMn (fun q => q0 q.1) (fun i _ _ => rfl)⟩)⟩⟩
  · refine En_Ps 3 (pc' := 11) (lv' := [(0, .ref 159), (1, .int a), (2, .int b), (3, .int c)]) (st' := [.long b.toInt64, .ref 159]) rfl ?_
    obtain ⟨z17, h16, h18, h19⟩ := WT_peekI hσ0 tgz_160 (by decide +kernel : FT 36 (0 : Int).toNat = (0, 0, 4)) (by decide +kernel)
    obtain ⟨z21, h20, h22, h23⟩ := WT_peekI hσ0 tgz_160 (by decide +kernel : FT 36 (7 : Int).toNat = (0, 0, 1600)) (by decide +kernel)
    have : b.toInt64.toInt = b.toInt := (i2lI rfl)
    refine En_callV rfl rfl rfl rfl rfl rfl rfl rfl tgz_159 (by decide +kernel) rfl (c_259x σ0 hσ0 b.toInt64 z17 h16 z21 h20) (by decide) (by decide) (fun v25 σ26 h24 => ?_)
    obtain ⟨h27, h28, z30, rfl, h29⟩ := h24
    have h31 := h29.2.2.2
    obtain rfl : σ0 = σ26 := Fr_nil h28
    have h32 := h31
    have w33 : wf σ0 (0) = z17.toInt := ci_at h16 (by (first | decide | omega))
    have w34 : wf σ0 (7) = z21.toInt := ci_at h20 (by (first | decide | omega))
    have h35 : pI (wf σ0 0) = pI (z17.toInt) := by rw [w33]
    refine En_iEq _ rfl rfl (fun h36 => ?_) (fun h36 => ?_)
    · refine En_Ps 1 (pc' := 29) (lv' := [(0, .ref 159), (1, .int a), (2, .int b), (3, .int c)]) (st' := [.int (((Int8.ofInt (-2)).toInt32))]) rfl ?_
      refine En_top (by decide : ((Int8.ofInt (-2)).toInt32).toInt = -2) (fun z37 h38 => ?_)
      exact En_ret (v := some (Value.int z37)) rfl rfl rfl ⟨hσ0, hF0, z37, rfl, ⟨by first | exact q_f1982a04c6 h38 | omega, by first | exact q_5a5c18c2ab h38 | omega, (by have q0 : ¬ okL (wf σ0) a.toInt b.toInt c.toInt := (fun ⟨q1, q2, q3, q4, q5, q6, q7⟩ => by (first | exact q_76a259c2a8 q5 h35 this h32 h36 w34 q3 q4 | omega)); exact ⟨fun H => H, tcR_2 q0 (by (first | exact q_a664922815 h38 | omega)), tcMn (fun q => q0 q.1) (fun i _ _ => rfl)⟩)⟩⟩
    · have h39 := Imp_m h29.2.2.1 (by first | exact q_e3350da514 h36 h29.1 | omega)
      refine En_Ps 4 (pc' := 21) (lv' := [(0, .ref 159), (1, .int a), (2, .int b), (3, .int c)]) (st' := [.long ((Int64.ofNat 1)), .long ((Int64.ofNat 0)), .long c.toInt64]) rfl ?_
      have : c.toInt64.toInt = c.toInt := (i2lI rfl)
      have := (by decide : ((Int64.ofNat 0)).toInt = 0)
      have := (by decide : ((Int64.ofNat 1)).toInt = 1)
      refine En_callS rfl rfl rfl rfl rfl rfl rfl rfl rfl (c_249 σ0 hσ0 c.toInt64 ((Int64.ofNat 0)) ((Int64.ofNat 1))) (by decide) (by decide) (fun v41 σ42 h40 => ?_)
      obtain ⟨h43, h44, z46, rfl, h45⟩ := h40
      obtain rfl : σ0 = σ42 := Fr_nil h44
      refine En_iNe _ rfl rfl (fun h47 => ?_) (fun h47 => ?_)
      · refine En_Ps 3 (pc' := 33) (lv' := [(0, .ref 159), (1, .int a), (2, .int b), (3, .int c)]) (st' := [.int ((Int32.ofInt 2)), .int a, .ref 159]) rfl ?_
        have := (by decide : ((Int32.ofInt 2)).toInt = 2)
        obtain ⟨z48, h49, h50, h51⟩ := WT_peekJ (J := (4 * a.toInt + ((Int32.ofInt 2)).toInt + 10)) (l := 0) (u := 12) hσ0 tgz_160 (by decide +kernel) (by (first | exact q_8c91a107f3 this h10.2.2.1 h13 h10.1 | omega)) (lnI (by decide +kernel : LN _ = 226) (by (first | exact q_8782e16cf0 this h10.2.2.2.2 h10.2.1 h13 h10.1 | omega))) (FTrow 36 12 4 4 (by decide +kernel) (by (first | exact q_1f09e22d0e this h10.2.2.1 h13 h10.1 | omega)) (by (first | exact q_adcac83064 this h10.2.2.2.2 h10.2.1 h13 h10.1 | omega)) (by omega))
        have := (by decide : ((Int32.ofInt 2)).toInt = 2)
        refine En_callV rfl rfl rfl rfl rfl rfl rfl rfl tgz_159 (by decide +kernel) rfl (c_290c σ0 hσ0 a ((Int32.ofInt 2)) (geI rfl (by (first | exact q_bf8258001b h10.2.2.1 h13 h10.1 | omega))) (leI rfl (by (first | exact q_88b0c3c731 h10.2.2.1 h13 h10.1 h4 | omega))) (geI (by decide : (Int32.ofInt 2).toInt = 2) (by decide)) (leI (by decide : (Int32.ofInt 2).toInt = 2) (by decide)) z48 h49) (by decide) (by decide) (fun v53 σ54 h52 => ?_)
        obtain ⟨h55, h56, z58, rfl, h57⟩ := h52
        obtain rfl : σ0 = σ54 := Fr_nil h56
        refine En_Ps 1 (pc' := 38) (lv' := [(0, .ref 159), (1, .int a), (2, .int b), (3, .int c)]) (st' := [.int (((Int8.ofInt 12).toInt32)), .int z58]) rfl ?_
        have w59 : wf σ0 (12 + 4 * a.toInt) = z48.toInt := ci_at h49 (by (first | exact q_6f6f6535ca this | omega))
        refine En_icNe _ rfl (by decide : ((Int8.ofInt 12).toInt32).toInt = 12) rfl (fun h60 => ?_) (fun h60 => ?_)
        · refine En_Ps 1 (pc' := 45) (lv' := [(0, .ref 159), (1, .int a), (2, .int b), (3, .int c)]) (st' := [.ref 159]) rfl ?_
          refine En_getU (j := 1) (u := 160) (g' := 36) (q := 0) rfl rfl rfl tgz_159 (by decide +kernel) hσ0 (by decide +kernel) un_36_160 (fun h61 => ?_)
          refine En_Ps 1 (pc' := 50) (lv' := [(0, .ref 159), (1, .int a), (2, .int b), (3, .int c)]) (st' := [.int (((Int8.ofInt 6).toInt32)), .ref 160]) rfl ?_
          refine En_iald (l := 0) (u := 60) rfl (by decide : ((Int8.ofInt 6).toInt32).toInt = 6) tgz_160 (by decide +kernel) hσ0 (by decide) (lnI (by decide +kernel : LN _ = 226) (by decide)) (by decide +kernel) (fun z64 h63 h65 h66 => ?_)
          refine En_Ps 1 (pc' := 53) (lv' := [(0, .ref 159), (1, .int a), (2, .int b), (3, .int c)]) (st' := [.int (((Int8.ofInt 60).toInt32)), .int z64]) rfl ?_
          have w67 : wf σ0 (6) = z64.toInt := ci_at h63 (by (first | decide | omega))
          refine En_icNe _ rfl (by decide : ((Int8.ofInt 60).toInt32).toInt = 60) rfl (fun h68 => ?_) (fun h68 => ?_)
          · refine En_Ps 4 (pc' := 63) (lv' := [(0, .ref 159), (1, .int a), (2, .int b), (3, .int c)]) (st' := [.int ((Int32.ofInt 2)), .int a, .ref 159, .int a]) rfl ?_
            have := (by decide : ((Int32.ofInt 2)).toInt = 2)
            have := (by decide : ((Int32.ofInt 2)).toInt = 2)
            refine En_callV rfl rfl rfl rfl rfl rfl rfl rfl tgz_159 (by decide +kernel) rfl (c_290c σ0 hσ0 a ((Int32.ofInt 2)) (geI rfl (by (first | exact q_bf8258001b h10.2.2.1 h13 h10.1 | omega))) (leI rfl (by (first | exact q_88b0c3c731 h10.2.2.1 h13 h10.1 h4 | omega))) (geI (by decide : (Int32.ofInt 2).toInt = 2) (by decide)) (leI (by decide : (Int32.ofInt 2).toInt = 2) (by decide)) z48 h49) (by decide) (by decide) (fun v70 σ71 h69 => ?_)
            obtain ⟨h72, h73, z75, rfl, h74⟩ := h69
            obtain rfl : σ0 = σ71 := Fr_nil h73
            refine En_callS rfl rfl rfl rfl rfl rfl rfl rfl rfl (c_281 σ0 hσ0 a z75 (geI rfl (by (first | exact q_bf8258001b h10.2.2.1 h13 h10.1 | omega))) (leI rfl (by (first | exact q_88b0c3c731 h10.2.2.1 h13 h10.1 h4 | omega))) (geI rfl (by first | exact q_ef1e8e38bf h74.1 | omega)) (leI rfl (by first | exact q_b48fc66505 h74.2.1 | omega))) (by decide) (by decide) (fun v77 σ78 h76 => ?_)
            obtain ⟨h79, h80, z82, rfl, h81⟩ := h76
            obtain rfl : σ0 = σ78 := Fr_nil h80
            refine En_Ps 1 (pc' := 71) (lv' := [(4, .int z82), (0, .ref 159), (1, .int a), (2, .int b), (3, .int c)]) (st' := []) rfl ?_
            refine En_Ps 1 (pc' := 72) (lv' := [(4, .int z82), (0, .ref 159), (1, .int a), (2, .int b), (3, .int c)]) (st' := [.ref 159]) rfl ?_
            refine En_getK (j := 1) h61 rfl rfl rfl tgz_159 (by decide +kernel) ?_
            refine En_Ps 2 (pc' := 78) (lv' := [(4, .int z82), (0, .ref 159), (1, .int a), (2, .int b), (3, .int c)]) (st' := [.int b, .int z82, .ref 160]) rfl ?_
            refine En_iast (l := 0) (u := 15) rfl rfl tgz_160 (by decide +kernel) (by first | exact q_2c9de765f8 h81.1 | omega) (lnI (by decide +kernel : LN _ = 226) (by first | exact q_0616d82733 h81.2.1 | omega)) (FTrow 36 26 2 48 (by decide +kernel) (by first | exact q_cfcbae6494 h81.1 | omega) (by (first | exact q_8fd4b72bfa h81.2.2.1 h74.2.2.1 h57.2.2.2 h10.2.2.2.2 h10.2.1 h13 h10.1 h60 h57.2.1 | omega)) (by first | exact q_3ba10c420c h74.2.2.1 h81.2.2.1 h74.2.2.2 h81.2.2.2 | omega)) (rngI rfl (by (first | exact q_bb72464225 (i2lI rfl) h39.1 | omega)) (by (first | exact q_2215209990 (i2lI rfl) h39.2 | omega))) hσ0 hF0 (by decide +kernel) (fun σ83 h84 h85 h86 h87 => ?_)
            refine En_Ps 1 (pc' := 80) (lv' := [(4, .int z82), (0, .ref 159), (1, .int a), (2, .int b), (3, .int c)]) (st' := [.ref 159]) rfl ?_
            refine En_getK (j := 1) ((h87 _ _ (Or.inl (neTG tgz_159 tgz_160 (by decide)))).trans h61) rfl rfl rfl tgz_159 (by decide +kernel) ?_
            refine En_Ps 3 (pc' := 87) (lv' := [(4, .int z82), (0, .ref 159), (1, .int a), (2, .int b), (3, .int c)]) (st' := [.int ((z82 + ((Int32.ofInt 1)))), .ref 160]) rfl ?_
            refine En_top (addI rfl (by decide : (Int32.ofInt 1).toInt = 1) (by first | exact q_c40141e2b1 h81.1 | omega) (by first | exact q_919014a1f8 h81.2.1 | omega)) (fun z88 h89 => ?_)
            refine En_Ps 1 (pc' := 88) (lv' := [(4, .int z82), (0, .ref 159), (1, .int a), (2, .int b), (3, .int c)]) (st' := [.int c, .int z88, .ref 160]) rfl ?_
            refine En_iast (l := 0) (u := 1) rfl rfl tgz_160 (by decide +kernel) (by first | exact q_f9ae7b6bc1 h89 h81.1 | omega) (lnI (by decide +kernel : LN _ = 226) (by first | exact q_4c6d633468 h89 h81.2.1 | omega)) (FTrow 36 27 2 48 (by decide +kernel) (by first | exact q_af8e3f94d3 h89 h81.1 | omega) (by (first | exact q_a31f7f40cb h89 h81.2.2.1 h74.2.2.1 h57.2.2.2 h10.2.2.2.2 h10.2.1 h13 h10.1 h60 h57.2.1 | omega)) (by first | exact q_788aaa09c4 h74.2.2.1 h81.2.2.1 h89 h74.2.2.2 h81.2.2.2 | omega)) (rngI rfl (by (first | exact q_bf5288a390 (i2lI rfl) h45.2.2.1 h47 h45.1 (by decide) | omega)) (by (first | exact q_9535a3cdd5 (i2lI rfl) h45.2.2.1 h47 h45.1 (by decide) | omega))) h84 h85 (by decide +kernel) (fun σ90 h91 h92 h93 h94 => ?_)
            refine En_Ps 1 (pc' := 90) (lv' := [(4, .int z82), (0, .ref 159), (1, .int a), (2, .int b), (3, .int c)]) (st' := [.ref 159]) rfl ?_
            refine En_getK (j := 1) ((h94 _ _ (Or.inl (neTG tgz_159 tgz_160 (by decide)))).trans ((h87 _ _ (Or.inl (neTG tgz_159 tgz_160 (by decide)))).trans h61)) rfl rfl rfl tgz_159 (by decide +kernel) ?_
            refine En_Ps 4 (pc' := 98) (lv' := [(4, .int z82), (0, .ref 159), (1, .int a), (2, .int b), (3, .int c)]) (st' := [.int ((((Int32.ofInt 4)) * a)), .int (((Int8.ofInt 10).toInt32)), .ref 160]) rfl ?_
            refine En_top (mulI (by decide : (Int32.ofInt 4).toInt = 4) rfl (Z := 4 * a.toInt) (by first | exact q_8696eb12a7 | omega) (by first | exact q_bc2cd02f58 h81.2.2.1 h74.2.2.1 h81.1 h57.2.2.2 h60 h57.2.1 | omega) (by first | exact q_bb598b1ffb h81.2.2.2 h74.2.2.2 h81.2.1 h50 | omega)) (fun z95 h96 => ?_)
            refine En_Ps 1 (pc' := 99) (lv' := [(4, .int z82), (0, .ref 159), (1, .int a), (2, .int b), (3, .int c)]) (st' := [.int (((((Int8.ofInt 10).toInt32)) + z95)), .ref 160]) rfl ?_
            refine En_top (addI (by decide : ((Int8.ofInt 10).toInt32).toInt = 10) rfl (by first | exact q_7baf00c54e h96 h81.2.2.1 h74.2.2.1 h81.1 h57.2.2.2 h60 h57.2.1 | omega) (by first | exact q_6ff67d754e h96 h81.2.2.2 h74.2.2.2 h81.2.1 h50 | omega)) (fun z97 h98 => ?_)
            refine En_Ps 2 (pc' := 101) (lv' := [(4, .int z82), (0, .ref 159), (1, .int a), (2, .int b), (3, .int c)]) (st' := [.int ((z97 + ((Int32.ofInt 2)))), .ref 160]) rfl ?_
            refine En_top (addI rfl (by decide : (Int32.ofInt 2).toInt = 2) (by (first | exact q_c9a78fc180 h98 h96 h81.2.2.1 h74.2.1 h81.1 | omega)) (by first | exact q_0919e71a47 h98 h96 h81.2.2.2 h74.2.2.2 h81.2.1 h50 | omega)) (fun z99 h100 => ?_)
            refine En_Ps 1 (pc' := 102) (lv' := [(4, .int z82), (0, .ref 159), (1, .int a), (2, .int b), (3, .int c)]) (st' := [.int z99, .ref 160, .int z99, .ref 160]) rfl ?_
            have h102 : (σ90 160)[(z99.toInt).toNat]? = some (Value.int z48) := by rw [show (z99.toInt) = (4 * a.toInt + ((Int32.ofInt 2)).toInt + 10) by (first | exact q_1601abc26c h100 h98 h96 (by decide) | omega)]; exact ((h94 _ _ (Or.inr (by (first | exact q_9245b45e8a h81.2.2.2 h74.1 (by decide) h89 h81.1 | omega)))).trans ((h87 _ _ (Or.inr (by (first | exact q_87ebcbb8bd h81.2.2.2 h74.1 (by decide) h81.1 | omega)))).trans h49))
            refine En_ialdK h102 rfl rfl tgz_160 (by decide +kernel) h91 (by (first | exact q_1d70ed5bbb h100 h98 h96 h81.2.2.1 h74.2.1 h81.1 | omega)) (lnI (by decide +kernel : LN _ = 226) (by first | exact q_f9b8279f5d h100 h98 h96 h81.2.2.2 h74.2.2.2 h81.2.1 h50 | omega)) ?_
            refine En_Ps 2 (pc' := 105) (lv' := [(4, .int z82), (0, .ref 159), (1, .int a), (2, .int b), (3, .int c)]) (st' := [.int ((z48 + ((Int32.ofInt 1)))), .int z99, .ref 160]) rfl ?_
            refine En_top (addI rfl (by decide : (Int32.ofInt 1).toInt = 1) (by first | exact q_465ab79ac1 h50 | omega) (by first | exact q_1fdc13c345 h51 | omega)) (fun z103 h104 => ?_)
            refine En_iast (l := 0) (u := 12) rfl rfl tgz_160 (by decide +kernel) (by (first | exact q_1d70ed5bbb h100 h98 h96 h81.2.2.1 h74.2.1 h81.1 | omega)) (lnI (by decide +kernel : LN _ = 226) (by first | exact q_f9b8279f5d h100 h98 h96 h81.2.2.2 h74.2.2.2 h81.2.1 h50 | omega)) (FTrow 36 12 4 4 (by decide +kernel) (by (first | exact q_1ba435b77f h100 h98 h96 h10.2.2.1 h13 h10.1 | omega)) (by (first | exact q_e74ebd725d h100 h98 h96 h10.2.2.2.2 h10.2.1 h13 h10.1 | omega)) (by first | exact q_29bc46c6fe h96 h98 h100 | omega)) (rngI rfl (by first | exact q_35104ce9d3 h104 h50 | omega) (by first | exact q_fbccb7dd2b h104 h57.2.2.2 h60 h57.2.1 | omega)) h91 h92 (by decide +kernel) (fun σ105 h106 h107 h108 h109 => ?_)
            refine En_Ps 1 (pc' := 107) (lv' := [(4, .int z82), (0, .ref 159), (1, .int a), (2, .int b), (3, .int c)]) (st' := [.ref 159]) rfl ?_
            refine En_getK (j := 1) ((h109 _ _ (Or.inl (neTG tgz_159 tgz_160 (by decide)))).trans ((h94 _ _ (Or.inl (neTG tgz_159 tgz_160 (by decide)))).trans ((h87 _ _ (Or.inl (neTG tgz_159 tgz_160 (by decide)))).trans h61))) rfl rfl rfl tgz_159 (by decide +kernel) ?_
            refine En_Ps 2 (pc' := 114) (lv' := [(4, .int z82), (0, .ref 159), (1, .int a), (2, .int b), (3, .int c)]) (st' := [.ref 159, .int (((Int16.ofInt 166).toInt32)), .ref 160]) rfl ?_
            refine En_getK (j := 1) ((h109 _ _ (Or.inl (neTG tgz_159 tgz_160 (by decide)))).trans ((h94 _ _ (Or.inl (neTG tgz_159 tgz_160 (by decide)))).trans ((h87 _ _ (Or.inl (neTG tgz_159 tgz_160 (by decide)))).trans h61))) rfl rfl rfl tgz_159 (by decide +kernel) ?_
            refine En_Ps 1 (pc' := 119) (lv' := [(4, .int z82), (0, .ref 159), (1, .int a), (2, .int b), (3, .int c)]) (st' := [.int (((Int8.ofInt 6).toInt32)), .ref 160, .int (((Int16.ofInt 166).toInt32)), .ref 160]) rfl ?_
            refine En_ialdK ((h109 _ _ (Or.inr (by (first | exact q_bd5665fe8d h100 h98 h96 h10.2.2.1 h13 h10.1 | omega)))).trans ((h94 _ _ (Or.inr (by (first | exact q_922474b4b9 h89 h81.1 | omega)))).trans ((h87 _ _ (Or.inr (by (first | exact q_502498cf2f h81.1 | omega)))).trans h63))) rfl (by decide : ((Int8.ofInt 6).toInt32).toInt = 6) tgz_160 (by decide +kernel) h106 (by decide) (lnI (by decide +kernel : LN _ = 226) (by decide)) ?_
            refine En_Ps 1 (pc' := 121) (lv' := [(4, .int z82), (0, .ref 159), (1, .int a), (2, .int b), (3, .int c)]) (st' := [.int (((((Int16.ofInt 166).toInt32)) + z64)), .ref 160]) rfl ?_
            refine En_top (addI (by decide : ((Int16.ofInt 166).toInt32).toInt = 166) rfl (by first | exact q_da5003b62f h65 | omega) (by first | exact q_0c115a356a h68 h66 | omega)) (fun z111 h112 => ?_)
            refine En_Ps 1 (pc' := 122) (lv' := [(4, .int z82), (0, .ref 159), (1, .int a), (2, .int b), (3, .int c)]) (st' := [.int a, .int z111, .ref 160]) rfl ?_
            refine En_iast (l := 0) (u := 3) rfl rfl tgz_160 (by decide +kernel) (by first | exact q_3cc24cabc2 h112 h65 | omega) (lnI (by decide +kernel : LN _ = 226) (by first | exact q_1152749836 h112 h68 h66 | omega)) (FTrow 36 166 1 60 (by decide +kernel) (by first | exact q_7a59a1f092 h112 h65 | omega) (by first | exact q_2083981b07 h112 h68 h66 | omega) (by first | exact q_50ef92cd29 | omega)) (rngI rfl (by first | exact q_4752c9823d h81.2.2.1 h74.2.2.1 h81.1 h57.2.2.2 h60 h57.2.1 | omega) (by (first | exact q_88b0c3c731 h10.2.2.1 h13 h10.1 h4 | omega))) h106 h107 (by decide +kernel) (fun σ113 h114 h115 h116 h117 => ?_)
            refine En_Ps 1 (pc' := 124) (lv' := [(4, .int z82), (0, .ref 159), (1, .int a), (2, .int b), (3, .int c)]) (st' := [.ref 159]) rfl ?_
            refine En_getK (j := 1) ((h117 _ _ (Or.inl (neTG tgz_159 tgz_160 (by decide)))).trans ((h109 _ _ (Or.inl (neTG tgz_159 tgz_160 (by decide)))).trans ((h94 _ _ (Or.inl (neTG tgz_159 tgz_160 (by decide)))).trans ((h87 _ _ (Or.inl (neTG tgz_159 tgz_160 (by decide)))).trans h61)))) rfl rfl rfl tgz_159 (by decide +kernel) ?_
            refine En_Ps 2 (pc' := 130) (lv' := [(4, .int z82), (0, .ref 159), (1, .int a), (2, .int b), (3, .int c)]) (st' := [.int (((Int8.ofInt 6).toInt32)), .ref 160, .int (((Int8.ofInt 6).toInt32)), .ref 160]) rfl ?_
            refine En_ialdK ((h117 _ _ (Or.inr (by (first | exact q_3ef789bacd h112 h65 | omega)))).trans ((h109 _ _ (Or.inr (by (first | exact q_bd5665fe8d h100 h98 h96 h10.2.2.1 h13 h10.1 | omega)))).trans ((h94 _ _ (Or.inr (by (first | exact q_922474b4b9 h89 h81.1 | omega)))).trans ((h87 _ _ (Or.inr (by (first | exact q_502498cf2f h81.1 | omega)))).trans h63)))) rfl (by decide : ((Int8.ofInt 6).toInt32).toInt = 6) tgz_160 (by decide +kernel) h114 (by decide) (lnI (by decide +kernel : LN _ = 226) (by decide)) ?_
            refine En_Ps 2 (pc' := 133) (lv' := [(4, .int z82), (0, .ref 159), (1, .int a), (2, .int b), (3, .int c)]) (st' := [.int ((z64 + ((Int32.ofInt 1)))), .int (((Int8.ofInt 6).toInt32)), .ref 160]) rfl ?_
            refine En_top (addI rfl (by decide : (Int32.ofInt 1).toInt = 1) (by first | exact q_465ab79ac1 h65 | omega) (by first | exact q_a7b9738bd6 h68 h66 | omega)) (fun z119 h120 => ?_)
            refine En_iast (l := 0) (u := 60) rfl (by decide : ((Int8.ofInt 6).toInt32).toInt = 6) tgz_160 (by decide +kernel) (by decide) (lnI (by decide +kernel : LN _ = 226) (by decide)) (by decide +kernel) (rngI rfl (by first | exact q_35104ce9d3 h120 h65 | omega) (by first | exact q_c651c9b73b h120 h68 h66 | omega)) h114 h115 (by decide +kernel) (fun σ121 h122 h123 h124 h125 => ?_)
            refine En_Ps 3 (pc' := 137) (lv' := [(4, .int z82), (0, .ref 159), (1, .int a), (2, .int b), (3, .int c)]) (st' := [.int ((Int32.ofInt 2)), .int a, .ref 159]) rfl ?_
            have := (by decide : ((Int32.ofInt 2)).toInt = 2)
            have h126 : (σ121 160)[(4 * a.toInt + ((Int32.ofInt 2)).toInt + 10).toNat]? = some (Value.int z103) := by rw [show (4 * a.toInt + ((Int32.ofInt 2)).toInt + 10) = (z99.toInt) by (first | exact q_79fa1c0768 this h100 h98 h96 | omega)]; exact ((h125 _ _ (Or.inr (by (first | exact q_2d63896104 h100 h98 h96 h10.2.2.1 h13 h10.1 | omega)))).trans ((h117 _ _ (Or.inr (by (first | exact q_5532bce07c h100 h98 h96 h81.2.2.2 h74.1 h112 h65 h81.2.1 | omega)))).trans h108))
            have := (by decide : ((Int32.ofInt 2)).toInt = 2)
            refine En_callV rfl rfl rfl rfl rfl rfl rfl rfl tgz_159 (by decide +kernel) rfl (c_290c σ121 h122 a ((Int32.ofInt 2)) (geI rfl (by first | exact q_4752c9823d h81.2.2.1 h74.2.2.1 h81.1 h57.2.2.2 h60 h57.2.1 | omega)) (leI rfl (by (first | exact q_88b0c3c731 h10.2.2.1 h13 h10.1 h4 | omega))) (geI (by decide : (Int32.ofInt 2).toInt = 2) (by decide)) (leI (by decide : (Int32.ofInt 2).toInt = 2) (by decide)) z103 h126) (by decide) (by decide) (fun v128 σ129 h127 => ?_)
            obtain ⟨h130, h131, z133, rfl, h132⟩ := h127
            obtain rfl : σ121 = σ129 := Fr_nil h131
            exact En_ret (v := some (Value.int z133)) rfl rfl rfl ⟨h122, h123, z133, rfl, ⟨by first | exact q_9c6701e35e h132.1 | omega, by first | exact q_1d71e39f5f h132.2.1 | omega, ⟨fun H => WINV_teach2 (d := a.toInt) (j := z82.toInt) (m := z103.toInt - 1) (nt := z119.toInt - 1) H (fun i hi => (by rw [show wf _ i = ci _ 160 i from rfl, ci_st h124 h125 (by (first | decide | omega)) i hi, ci_st h116 h117 (by (first | exact q_3cc24cabc2 h112 h65 | omega)) i hi, ci_st h108 h109 (by (first | exact q_1d70ed5bbb h100 h98 h96 h81.2.2.1 h74.2.1 h81.1 | omega)) i hi, ci_st h93 h94 (by (first | exact q_f9ae7b6bc1 h89 h81.1 | omega)) i hi, ci_st h86 h87 (by (first | exact q_2c9de765f8 h81.1 | omega)) i hi]; rfl)) (by have e1 := ci_at h49 (show 12 + 4 * a.toInt = (4 * a.toInt + ((Int32.ofInt 2)).toInt + 10) by (first | exact q_6f6f6535ca this | omega)); show _ = ci _ 160 _; (first | exact q_453b8b113a e1 h104 | omega)) (by have e1 := ci_at h63 (show (6 : Int) = (6 : Int) by (first | decide | omega)); show _ = ci _ 160 _; (first | exact q_453b8b113a e1 h120 | omega)) (by (first | exact q_6fdd8e75f3 h68 h120 h66 | omega)) (by (first | exact q_7c9e165f55 h81.2.2.1 h74.2.2.1 h104 h81.1 h132.2.2.2 h132.2.1 | omega)) (by (first | exact q_8ae55f7da6 h10.2.2.1 h13 h10.1 h4 | omega)) (by (first | exact q_09d51fee8c h81.1 | omega)) (by (first | exact q_444d0b0902 h81.2.2.1 h74.2.2.1 h57.2.2.2 h10.2.2.2.2 h10.2.1 h13 h10.1 h60 h57.2.1 | omega)) (by (first | exact q_61ddd2b576 | omega)) (by (first | exact q_ba1b2c713b h89 | omega)) (by (first | exact q_fedd7637cc h100 h98 h96 | omega)) (by (first | exact q_04520550ee h120 h112 | omega)) (by (first | decide | omega)) (by (first | exact q_458ac62b4b | omega)) (by (first | exact q_61ddd2b576 | omega)) (by (first | exact q_458ac62b4b | omega)), tcR_y (show okL (wf σ0) a.toInt b.toInt c.toInt from ⟨by (first | exact q_7c9e165f55 h81.2.2.1 h74.2.2.1 h104 h81.1 h132.2.2.2 h132.2.1 | omega), by (first | exact q_b5763561eb h10.2.2.1 h13 h10.1 w12 | omega), by (first | exact q_2b8898e9e8 h32 w34 h36 h29.1 | omega), by (first | exact q_bb72464225 (i2lI rfl) h39.1 | omega), by (first | exact q_c43dc2793a h35 (i2lI rfl) h32 h36 h29.1 | omega), by (first | exact q_bf5288a390 (i2lI rfl) h45.2.2.1 h47 h45.1 (by decide) | omega), by (first | exact q_9535a3cdd5 (i2lI rfl) h45.2.2.1 h47 h45.1 (by decide) | omega)⟩) (by (first | exact q_4c7ff67812 w59 h104 h132.2.2.2 h132.2.1 | omega)) (by (first | exact q_1cdffe474c h68 w67 h66 | omega)) (by (first | exact q_fdc2a8a8c1 h132.2.2.2 h104 w59 h132.2.2.1 | omega)), tcM (j := z82.toInt) (m := z103.toInt - 1) (nt := z119.toInt - 1) (fun i hi => (by rw [show wf _ i = ci _ 160 i from rfl, ci_st h124 h125 (by (first | decide | omega)) i hi, ci_st h116 h117 (by (first | exact q_3cc24cabc2 h112 h65 | omega)) i hi, ci_st h108 h109 (by (first | exact q_1d70ed5bbb h100 h98 h96 h81.2.2.1 h74.2.1 h81.1 | omega)) i hi, ci_st h93 h94 (by (first | exact q_f9ae7b6bc1 h89 h81.1 | omega)) i hi, ci_st h86 h87 (by (first | exact q_2c9de765f8 h81.1 | omega)) i hi]; rfl)) (by (first | exact q_1582be8e66 h104 w59 | omega)) (by (first | exact q_1582be8e66 h120 w67 | omega)) (show okL (wf σ0) a.toInt b.toInt c.toInt from ⟨by (first | exact q_7c9e165f55 h81.2.2.1 h74.2.2.1 h104 h81.1 h132.2.2.2 h132.2.1 | omega), by (first | exact q_b5763561eb h10.2.2.1 h13 h10.1 w12 | omega), by (first | exact q_2b8898e9e8 h32 w34 h36 h29.1 | omega), by (first | exact q_bb72464225 (i2lI rfl) h39.1 | omega), by (first | exact q_c43dc2793a h35 (i2lI rfl) h32 h36 h29.1 | omega), by (first | exact q_bf5288a390 (i2lI rfl) h45.2.2.1 h47 h45.1 (by decide) | omega), by (first | exact q_9535a3cdd5 (i2lI rfl) h45.2.2.1 h47 h45.1 (by decide) | omega)⟩) (by (first | exact q_51bf40c21b h132.2.2.2 h132.2.1 | omega)) (by (first | exact q_6fdd8e75f3 h68 h120 h66 | omega)) (by (first | exact q_b8a40b89af h104 h81.2.2.2 h74.2.2.2 h81.2.2.1 h74.2.2.1 | omega)) (by (first | exact q_61ddd2b576 | omega)) (by (first | exact q_ba1b2c713b h89 | omega)) (by (first | exact q_fedd7637cc h100 h98 h96 | omega)) (by (first | exact q_04520550ee h120 h112 | omega)) (by (first | decide | omega)) (by (first | exact q_61ddd2b576 | omega)) (by (first | exact q_61ddd2b576 | omega)) (by (first | exact q_458ac62b4b | omega)) (by (first | exact q_61ddd2b576 | omega)) (by (first | exact q_458ac62b4b | omega))⟩⟩⟩
          · refine En_Ps 1 (pc' := 58) (lv' := [(0, .ref 159), (1, .int a), (2, .int b), (3, .int c)]) (st' := [.int (((Int8.ofInt (-5)).toInt32))]) rfl ?_
            refine En_top (by decide : ((Int8.ofInt (-5)).toInt32).toInt = -5) (fun z134 h135 => ?_)
            exact En_ret (v := some (Value.int z134)) rfl rfl rfl ⟨hσ0, hF0, z134, rfl, ⟨by first | exact q_715ce6bb90 h135 | omega, by first | exact q_c602a05ff1 h135 | omega, ⟨fun H => H, tcR_5 (show okL (wf σ0) a.toInt b.toInt c.toInt from ⟨by (first | exact q_bf8258001b h10.2.2.1 h13 h10.1 | omega), by (first | exact q_b5763561eb h10.2.2.1 h13 h10.1 w12 | omega), by (first | exact q_2b8898e9e8 h32 w34 h36 h29.1 | omega), by (first | exact q_bb72464225 (i2lI rfl) h39.1 | omega), by (first | exact q_c43dc2793a h35 (i2lI rfl) h32 h36 h29.1 | omega), by (first | exact q_bf5288a390 (i2lI rfl) h45.2.2.1 h47 h45.1 (by decide) | omega), by (first | exact q_9535a3cdd5 (i2lI rfl) h45.2.2.1 h47 h45.1 (by decide) | omega)⟩) (by (first | exact q_63229ba952 w59 h57.2.2.2 h60 h57.2.1 | omega)) (by (first | exact q_a7ed6b435b w67 h68 | omega)) (by (first | exact q_93e8fcdef2 h135 | omega)), tcMn (fun q => by (first | exact q_d96f75e454 q.2.2 h68 w67 | omega)) (fun i _ _ => rfl)⟩⟩⟩
        · refine En_Ps 1 (pc' := 43) (lv' := [(0, .ref 159), (1, .int a), (2, .int b), (3, .int c)]) (st' := [.int (((Int8.ofInt (-3)).toInt32))]) rfl ?_
          refine En_top (by decide : ((Int8.ofInt (-3)).toInt32).toInt = -3) (fun z136 h137 => ?_)
          exact En_ret (v := some (Value.int z136)) rfl rfl rfl ⟨hσ0, hF0, z136, rfl, ⟨by first | exact q_95657dd6ca h137 | omega, by first | exact q_70e3f14a17 h137 | omega, ⟨fun H => H, tcR_3 (show okL (wf σ0) a.toInt b.toInt c.toInt from ⟨by (first | exact q_bf8258001b h10.2.2.1 h13 h10.1 | omega), by (first | exact q_b5763561eb h10.2.2.1 h13 h10.1 w12 | omega), by (first | exact q_2b8898e9e8 h32 w34 h36 h29.1 | omega), by (first | exact q_bb72464225 (i2lI rfl) h39.1 | omega), by (first | exact q_c43dc2793a h35 (i2lI rfl) h32 h36 h29.1 | omega), by (first | exact q_bf5288a390 (i2lI rfl) h45.2.2.1 h47 h45.1 (by decide) | omega), by (first | exact q_9535a3cdd5 (i2lI rfl) h45.2.2.1 h47 h45.1 (by decide) | omega)⟩) (by (first | exact q_67495b9514 w59 h57.2.2.1 h60 | omega)) (by (first | exact q_a6100519f0 h137 | omega)), tcMn (fun q => by (first | exact q_972a2f0129 q.2.1 h60 w59 h57.2.2.1 | omega)) (fun i _ _ => rfl)⟩⟩⟩
      · refine En_Ps 1 (pc' := 29) (lv' := [(0, .ref 159), (1, .int a), (2, .int b), (3, .int c)]) (st' := [.int (((Int8.ofInt (-2)).toInt32))]) rfl ?_
        refine En_top (by decide : ((Int8.ofInt (-2)).toInt32).toInt = -2) (fun z138 h139 => ?_)
        exact En_ret (v := some (Value.int z138)) rfl rfl rfl ⟨hσ0, hF0, z138, rfl, ⟨by first | exact q_f1982a04c6 h139 | omega, by first | exact q_5a5c18c2ab h139 | omega, (by have q0 : ¬ okL (wf σ0) a.toInt b.toInt c.toInt := (fun ⟨q1, q2, q3, q4, q5, q6, q7⟩ => by (first | exact q_90d7a3982e q6 (by decide) (i2lI rfl) h45.2.2.2 h47 q7 this | omega)); exact ⟨fun H => H, tcR_2 q0 (by (first | exact q_a664922815 h139 | omega)), tcMn (fun q => q0 q.1) (fun i _ _ => rfl)⟩)⟩⟩
/-- DoorSchoolModel.teacher()I -/
abbrev P_322x (σ0 : SG) : PO := fun v σ => WT σ ∧ Fr [(49, 0), (50, 0)] σ0 σ ∧ ∃ ret : Int32, v = some (Value.int ret) ∧ -ret.toInt - 1000000 ≤ 0 ∧ ret.toInt - 1000000 ≤ 0 ∧ ret.toInt = thR (wf σ0)
set_option maxRecDepth 10000 in
set_option maxHeartbeats 4000000 in
theorem c_322x (σ0 : SG) (hσ0 : WT σ0) (hT : TPOS σ0) : En 5 122 none mr_322 (P_322x σ0) 0 [(0, .ref 159)] [] σ0 := by
  have hF0 : Fr [(49, 0), (50, 0)] σ0 σ0 := Fr_rfl
  refine En_Ps 1 (pc' := 1) (lv' := [(0, .ref 159)]) (st' := [.ref 159]) rfl ?_
  obtain ⟨z2, h1, h3, h4⟩ := WT_peekI hσ0 tgz_160 (by decide +kernel : FT 36 (7 : Int).toNat = (0, 0, 1600)) (by decide +kernel)
  refine En_callV rfl rfl rfl rfl rfl rfl rfl rfl tgz_159 (by decide +kernel) rfl (c_264 σ0 hσ0 z2 h1) (by decide) (by decide) (fun v6 σ7 h5 => ?_)
  obtain ⟨h8, h9, z11, rfl, h10⟩ := h5
  obtain rfl : σ0 = σ7 := Fr_nil h9
  have w12 : wf σ0 (7) = z2.toInt := ci_at h1 (by omega)
  refine En_iEq _ rfl rfl (fun h13 => ?_) (fun h13 => ?_)
  · obtain ⟨z15, h14, h16, h17⟩ := WT_peekI hσ0 tgz_160 (by decide +kernel : FT 36 (1 : Int).toNat = (0, 0, 3)) (by decide +kernel)
    have w18 : wf σ0 (1) = z15.toInt := ci_at h14 (by omega)
    refine En_Ps 1 (pc' := 37) (lv' := [(0, .ref 159)]) (st' := [.int (((Int8.ofInt (-2)).toInt32))]) rfl ?_
    refine En_top (by decide : ((Int8.ofInt (-2)).toInt32).toInt = -2) (fun z19 h20 => ?_)
    exact En_ret (v := some (Value.int z19)) rfl rfl rfl ⟨hσ0, hF0, z19, rfl, ⟨by first | exact q_b9268e245a h20 | omega, by first | exact q_ec7b2e0fd8 h20 | omega, thR_0 (by omega) (by omega)⟩⟩
  · obtain ⟨z22, h21, h23, h24⟩ := WT_peekI hσ0 tgz_160 (by decide +kernel : FT 36 (1 : Int).toNat = (0, 0, 3)) (by decide +kernel)
    have w25 : wf σ0 (1) = z22.toInt := ci_at h21 (by omega)
    refine En_Ps 3 (pc' := 10) (lv' := [(0, .ref 159)]) (st' := [.ref 159, .int ((Int32.ofInt 0)), .ref 159]) rfl ?_
    refine En_getU (j := 1) (u := 160) (g' := 36) (q := 0) rfl rfl rfl tgz_159 (by decide +kernel) hσ0 (by decide +kernel) un_36_160 (fun h26 => ?_)
    refine En_Ps 1 (pc' := 14) (lv' := [(0, .ref 159)]) (st' := [.int ((Int32.ofInt 1)), .ref 160, .int ((Int32.ofInt 0)), .ref 159]) rfl ?_
    refine En_ialdK h21 rfl (by decide : (Int32.ofInt 1).toInt = 1) tgz_160 (by decide +kernel) hσ0 (by decide) (lnI (by decide +kernel : LN _ = 226) (by decide)) ?_
    have h29 : 1 ≤ z22.toInt := by have e1 := ci_at h21 (rfl : (1 : Int) = 1); have e7 := ci_at h1 (rfl : (7 : Int) = 7); have e := hT (Or.inr (by omega)); omega
    have := (by decide : ((Int32.ofInt 0)).toInt = 0)
    refine En_callV rfl rfl rfl rfl rfl rfl rfl rfl tgz_159 (by decide +kernel) rfl (c_277 σ0 hσ0 ((Int32.ofInt 0)) z22 (geI (by decide : (Int32.ofInt 0).toInt = 0) (by decide)) (leI (by decide : (Int32.ofInt 0).toInt = 0) (by decide)) (geI rfl (by omega)) (leI rfl (by first | exact q_571ae29550 h24 | omega)) (by have := n6 hσ0; omega)) (by decide) (by decide) (fun v31 σ32 h30 => ?_)
    obtain ⟨h33, h34, z36, rfl, h35⟩ := h30
    have h37 := h35.2.2
    have h38 := Fr_trans hF0 h34 (by decide +kernel)
    refine En_Ps 3 (pc' := 21) (lv' := [(0, .ref 159)]) (st' := [.ref 159, .int ((Int32.ofInt 0)), .ref 159, .int z36]) rfl ?_
    refine En_getK (j := 1) ((h34 _ _ (inW tgz_159 (by decide +kernel))).trans h26) rfl rfl rfl tgz_159 (by decide +kernel) ?_
    refine En_Ps 1 (pc' := 25) (lv' := [(0, .ref 159)]) (st' := [.int ((Int32.ofInt 1)), .ref 160, .int ((Int32.ofInt 0)), .ref 159, .int z36]) rfl ?_
    refine En_ialdK ((h34 _ _ (inWa tgz_160 (by decide +kernel))).trans h21) rfl (by decide : (Int32.ofInt 1).toInt = 1) tgz_160 (by decide +kernel) h33 (by decide) (lnI (by decide +kernel : LN _ = 226) (by decide)) ?_
    refine En_Ps 2 (pc' := 28) (lv' := [(0, .ref 159)]) (st' := [.int ((z22 + ((Int32.ofInt 1)))), .int ((Int32.ofInt 0)), .ref 159, .int z36]) rfl ?_
    refine En_top (addI rfl (by decide : (Int32.ofInt 1).toInt = 1) (by first | exact q_465ab79ac1 h23 | omega) (by first | exact q_30821ffab8 h24 | omega)) (fun z40 h41 => ?_)
    have := (by decide : ((Int32.ofInt 0)).toInt = 0)
    refine En_callV rfl rfl rfl rfl rfl rfl rfl rfl tgz_159 (by decide +kernel) rfl (c_277 σ32 h33 ((Int32.ofInt 0)) z40 (geI (by decide : (Int32.ofInt 0).toInt = 0) (by decide)) (leI (by decide : (Int32.ofInt 0).toInt = 0) (by decide)) (geI rfl (by first | exact q_246139cee3 h41 h23 | omega)) (leI rfl (by first | exact q_3d6de704c2 h41 h24 | omega)) (by have := n6 h33; omega)) (by decide) (by decide) (fun v43 σ44 h42 => ?_)
    obtain ⟨h45, h46, z48, rfl, h47⟩ := h42
    have h49 := h47.2.2
    have h50 := Fr_trans h38 h46 (by decide +kernel)
    refine En_Ps 1 (pc' := 32) (lv' := [(0, .ref 159)]) (st' := [.int ((z36 - z48))]) rfl ?_
    refine En_top (subI rfl rfl (by first | exact q_32102f5304 h35.1 h47.2.1 | omega) (by first | exact q_80d30d8c4f h35.2.1 h47.1 | omega)) (fun z51 h52 => ?_)
    refine En_Ps 1 (pc' := 37) (lv' := [(0, .ref 159)]) (st' := [.int z51]) rfl ?_
    exact En_ret (v := some (Value.int z51)) rfl rfl rfl ⟨h45, h50, z51, rfl, ⟨by first | exact q_6a272ab126 h52 h35.1 h47.2.1 | omega, by first | exact q_f5fd317cc8 h52 h35.2.1 h47.1 | omega, thR_1 (by omega) (LSW_m h37 (by decide) (by omega) (by omega) hσ0) (LSW_m (LEASTs_eq (SWd_fr h34 (by decide +kernel)) (SXd_fr h34 (by decide +kernel)) h49) (by decide) (by omega) (by omega) hσ0) (by omega) (by omega) (by omega)⟩⟩
/-- DoorSchoolModel.train(III)I -/
abbrev P_325x (σ0 : SG) (a : Int32) (b : Int32) (c : Int32) : PO := fun v σ => WT σ ∧ Fr [(36, 0)] σ0 σ ∧ ∃ ret : Int32, v = some (Value.int ret) ∧ -ret.toInt - 2 ≤ 0 ∧ ret.toInt - 50 ≤ 0 ∧ (SAM (wf σ0) (wf σ) ∧ ret.toInt = trR (wf σ0) a.toInt b.toInt c.toInt ∧ (∀ i : Int, 0 ≤ i → i < 226 → wf σ i = trW (wf σ0) a.toInt b.toInt c.toInt i))
set_option maxRecDepth 10000 in
set_option maxHeartbeats 4000000 in
theorem c_325x (σ0 : SG) (hσ0 : WT σ0) (a : Int32) (b : Int32) (c : Int32) : En 2 46 none mr_325 (P_325x σ0 a b c) 0 [(0, .ref 159), (1, .int a), (2, .int b), (3, .int c)] [] σ0 := by
  have hF0 : Fr [(36, 0)] σ0 σ0 := Fr_rfl
  refine En_Ps 2 (pc' := 2) (lv' := [(0, .ref 159), (1, .int a), (2, .int b), (3, .int c)]) (st' := [.int a, .ref 159]) rfl ?_
  obtain ⟨z2, h1, h3, h4⟩ := WT_peekI hσ0 tgz_160 (by decide +kernel : FT 36 (2 : Int).toNat = (0, 0, 4)) (by decide +kernel)
  refine En_callV rfl rfl rfl rfl rfl rfl rfl rfl tgz_159 (by decide +kernel) rfl (c_254 σ0 hσ0 a z2 h1) (by decide) (by decide) (fun v6 σ7 h5 => ?_)
  obtain ⟨h8, h9, z11, rfl, h10⟩ := h5
  obtain rfl : σ0 = σ7 := Fr_nil h9
  have w12 : wf σ0 (2) = z2.toInt := ci_at h1 (by (first | decide | omega))
  refine En_iEq _ rfl rfl (fun h13 => ?_) (fun h13 => ?_)
  · refine En_Ps 1 (pc' := 42) (lv' := [(0, .ref 159), (1, .int a), (2, .int b), (3, .int c)]) (st' := [.int (((Int8.ofInt (-2)).toInt32))]) rfl ?_
    refine En_top (by decide : ((Int8.ofInt (-2)).toInt32).toInt = -2) (fun z14 h15 => ?_)
    exact En_ret (v := some (Value.int z14)) rfl rfl rfl ⟨hσ0, hF0, z14, rfl, ⟨by first | exact q_f35c5d346c h15 | omega, by first | exact q_307520f238 h15 | omega, (by have q0 : ¬ trC (wf σ0) a.toInt b.toInt c.toInt := (by omega); exact ⟨fun _ _ => rfl, trR_n q0 (by (first | exact q_a664922815 h15 | omega)), trMn q0⟩)⟩⟩
  · refine En_Ps 4 (pc' := 12) (lv' := [(0, .ref 159), (1, .int a), (2, .int b), (3, .int c)]) (st' := [.long ((Int64.ofNat 1)), .long ((Int64.ofNat 0)), .long b.toInt64]) rfl ?_
    have : b.toInt64.toInt = b.toInt := (i2lI rfl)
    have := (by decide : ((Int64.ofNat 0)).toInt = 0)
    have := (by decide : ((Int64.ofNat 1)).toInt = 1)
    refine En_callS rfl rfl rfl rfl rfl rfl rfl rfl rfl (c_249 σ0 hσ0 b.toInt64 ((Int64.ofNat 0)) ((Int64.ofNat 1))) (by decide) (by decide) (fun v17 σ18 h16 => ?_)
    obtain ⟨h19, h20, z22, rfl, h21⟩ := h16
    obtain rfl : σ0 = σ18 := Fr_nil h20
    refine En_iEq _ rfl rfl (fun h23 => ?_) (fun h23 => ?_)
    · refine En_Ps 1 (pc' := 42) (lv' := [(0, .ref 159), (1, .int a), (2, .int b), (3, .int c)]) (st' := [.int (((Int8.ofInt (-2)).toInt32))]) rfl ?_
      refine En_top (by decide : ((Int8.ofInt (-2)).toInt32).toInt = -2) (fun z24 h25 => ?_)
      exact En_ret (v := some (Value.int z24)) rfl rfl rfl ⟨hσ0, hF0, z24, rfl, ⟨by first | exact q_f35c5d346c h25 | omega, by first | exact q_307520f238 h25 | omega, (by have q0 : ¬ trC (wf σ0) a.toInt b.toInt c.toInt := (by omega); exact ⟨fun _ _ => rfl, trR_n q0 (by (first | exact q_a664922815 h25 | omega)), trMn q0⟩)⟩⟩
    · refine En_Ps 4 (pc' := 22) (lv' := [(0, .ref 159), (1, .int a), (2, .int b), (3, .int c)]) (st' := [.int b, .long ((Int64.ofNat 0)), .long c.toInt64]) rfl ?_
      refine En_iNe _ rfl rfl (fun h26 => ?_) (fun h26 => ?_)
      · refine En_Ps 1 (pc' := 34) (lv' := [(0, .ref 159), (1, .int a), (2, .int b), (3, .int c)]) (st' := [.long ((50 : Int64)), .long ((Int64.ofNat 0)), .long c.toInt64]) rfl ?_
        have : c.toInt64.toInt = c.toInt := (i2lI rfl)
        have := (by decide : ((Int64.ofNat 0)).toInt = 0)
        have := (by decide : ((50 : Int64)).toInt = 50)
        refine En_callS rfl rfl rfl rfl rfl rfl rfl rfl rfl (c_249 σ0 hσ0 c.toInt64 ((Int64.ofNat 0)) ((50 : Int64))) (by decide) (by decide) (fun v28 σ29 h27 => ?_)
        obtain ⟨h30, h31, z33, rfl, h32⟩ := h27
        obtain rfl : σ0 = σ29 := Fr_nil h31
        refine En_iNe _ rfl rfl (fun h34 => ?_) (fun h34 => ?_)
        · refine En_Ps 3 (pc' := 46) (lv' := [(0, .ref 159), (1, .int a), (2, .int b), (3, .int c)]) (st' := [.int b, .int a, .ref 159]) rfl ?_
          obtain ⟨z35, h36, h37, h38⟩ := WT_peekJ (J := (4 * a.toInt + b.toInt + 10)) (l := 0) (u := 50) hσ0 tgz_160 (by decide +kernel) (by (first | exact q_7d8ef59d49 (i2lI rfl) h21.2.2.1 h23 h21.1 h10.2.2.1 h13 h10.1 (by decide) | omega)) (lnI (by decide +kernel : LN _ = 226) (by (first | exact q_058b1ce46b (i2lI rfl) h21.2.2.1 h23 h21.1 h10.2.2.2.2 h10.2.1 h13 h10.1 (by decide) | omega))) (FTrow 36 11 4 4 (by decide +kernel) (by (first | exact q_c83d8db5aa (i2lI rfl) h21.2.2.1 h23 h21.1 h26 (by decide) h10.2.2.1 h13 h10.1 | omega)) (by (first | exact q_169dfd27d6 (i2lI rfl) h21.2.2.1 h23 h21.1 h10.2.2.2.2 h10.2.1 h13 h10.1 (by decide) | omega)) (by omega))
          refine En_callV rfl rfl rfl rfl rfl rfl rfl rfl tgz_159 (by decide +kernel) rfl (c_290b σ0 hσ0 a b (geI rfl (by (first | exact q_bf8258001b h10.2.2.1 h13 h10.1 | omega))) (leI rfl (by (first | exact q_88b0c3c731 h10.2.2.1 h13 h10.1 h4 | omega))) (geI rfl (by (first | exact q_35d5c74914 (i2lI rfl) h26 h21.2.2.1 h23 h21.1 (by decide) | omega))) (leI rfl (by (first | exact q_9535a3cdd5 (i2lI rfl) h21.2.2.1 h23 h21.1 (by decide) | omega))) z35 h36) (by decide) (by decide) (fun v40 σ41 h39 => ?_)
          obtain ⟨h42, h43, z45, rfl, h44⟩ := h39
          obtain rfl : σ0 = σ41 := Fr_nil h43
          refine En_Ps 2 (pc' := 52) (lv' := [(4, .int z45), (0, .ref 159), (1, .int a), (2, .int b), (3, .int c)]) (st' := [.ref 159]) rfl ?_
          refine En_getU (j := 1) (u := 160) (g' := 36) (q := 0) rfl rfl rfl tgz_159 (by decide +kernel) hσ0 (by decide +kernel) un_36_160 (fun h46 => ?_)
          refine En_Ps 4 (pc' := 60) (lv' := [(4, .int z45), (0, .ref 159), (1, .int a), (2, .int b), (3, .int c)]) (st' := [.int ((((Int32.ofInt 4)) * a)), .int (((Int8.ofInt 10).toInt32)), .ref 160]) rfl ?_
          refine En_top (mulI (by decide : (Int32.ofInt 4).toInt = 4) rfl (Z := 4 * a.toInt) (by first | exact q_8696eb12a7 | omega) (by (first | exact q_17b26f6ac2 h10.2.2.1 h13 h10.1 | omega)) (by (first | exact q_0e2f933f9c h10.2.2.2.2 h10.2.1 h13 h10.1 | omega))) (fun z48 h49 => ?_)
          refine En_Ps 1 (pc' := 61) (lv' := [(4, .int z45), (0, .ref 159), (1, .int a), (2, .int b), (3, .int c)]) (st' := [.int (((((Int8.ofInt 10).toInt32)) + z48)), .ref 160]) rfl ?_
          refine En_top (addI (by decide : ((Int8.ofInt 10).toInt32).toInt = 10) rfl (by (first | exact q_7a87566369 h49 h10.2.2.1 h13 h10.1 | omega)) (by (first | exact q_418341a107 h49 h10.2.2.2.2 h10.2.1 h13 h10.1 | omega))) (fun z50 h51 => ?_)
          refine En_Ps 2 (pc' := 63) (lv' := [(4, .int z45), (0, .ref 159), (1, .int a), (2, .int b), (3, .int c)]) (st' := [.int ((z50 + b)), .ref 160]) rfl ?_
          refine En_top (addI rfl rfl (by (first | exact q_93a4d0cb57 h51 h49 (i2lI rfl) h21.2.2.1 h23 h21.1 h10.2.2.1 h13 h10.1 (by decide) | omega)) (by omega)) (fun z52 h53 => ?_)
          refine En_Ps 1 (pc' := 64) (lv' := [(4, .int z45), (0, .ref 159), (1, .int a), (2, .int b), (3, .int c)]) (st' := [.int c, .int z52, .ref 160]) rfl ?_
          have w54 : wf σ0 (10 + 4 * a.toInt + b.toInt) = z35.toInt := ci_at h36 (by (first | exact q_7696185349 | omega))
          refine En_iast (l := 0) (u := 50) rfl rfl tgz_160 (by decide +kernel) (by omega) (lnI (by decide +kernel : LN _ = 226) (by omega)) (FTrow 36 11 4 4 (by decide +kernel) (by omega) (by omega) (by omega)) (rngI rfl (by (first | exact q_bf5288a390 (i2lI rfl) h32.2.2.1 h34 h32.1 (by decide) | omega)) (by (first | exact q_0f8e3468f6 (i2lI rfl) h32.2.2.1 h34 h32.1 this | omega))) hσ0 hF0 (by decide +kernel) (fun σ55 h56 h57 h58 h59 => ?_)
          refine En_Ps 1 (pc' := 67) (lv' := [(4, .int z45), (0, .ref 159), (1, .int a), (2, .int b), (3, .int c)]) (st' := [.int z45]) rfl ?_
          exact En_ret (v := some (Value.int z45)) rfl rfl rfl ⟨h56, h57, z45, rfl, ⟨by first | exact q_70a249c7f8 h44.1 | omega, by first | exact q_ff529c7430 h44.2.1 | omega, ⟨fun i hi => (by rw [show wf _ i = ci _ 160 i from rfl, ci_st h58 h59 (by omega) i (by (first | exact q_2ef998e52d hi | omega)), if_neg (by omega)]; rfl), trR_y (i := 10 + 4 * a.toInt + b.toInt) (by omega) (by (first | exact q_a2721cf405 | omega)) (w54.trans (by (first | exact q_dde8c258c6 h44.2.2.1 h44.2.2.2 | omega))), trM (fun i hi => (by rw [show wf _ i = ci _ 160 i from rfl, ci_st h58 h59 (by omega) i hi]; rfl)) (by omega) (by (first | exact q_2619da2ce7 h53 h51 h49 | omega)) rfl⟩⟩⟩
        · refine En_Ps 1 (pc' := 42) (lv' := [(0, .ref 159), (1, .int a), (2, .int b), (3, .int c)]) (st' := [.int (((Int8.ofInt (-2)).toInt32))]) rfl ?_
          refine En_top (by decide : ((Int8.ofInt (-2)).toInt32).toInt = -2) (fun z60 h61 => ?_)
          exact En_ret (v := some (Value.int z60)) rfl rfl rfl ⟨hσ0, hF0, z60, rfl, ⟨by first | exact q_f35c5d346c h61 | omega, by first | exact q_307520f238 h61 | omega, (by have q0 : ¬ trC (wf σ0) a.toInt b.toInt c.toInt := (by omega); exact ⟨fun _ _ => rfl, trR_n q0 (by (first | exact q_a664922815 h61 | omega)), trMn q0⟩)⟩⟩
      · refine En_Ps 2 (pc' := 34) (lv' := [(0, .ref 159), (1, .int a), (2, .int b), (3, .int c)]) (st' := [.long ((2 : Int64)), .long ((Int64.ofNat 0)), .long c.toInt64]) rfl ?_
        have : c.toInt64.toInt = c.toInt := (i2lI rfl)
        have := (by decide : ((Int64.ofNat 0)).toInt = 0)
        have := (by decide : ((2 : Int64)).toInt = 2)
        refine En_callS rfl rfl rfl rfl rfl rfl rfl rfl rfl (c_249 σ0 hσ0 c.toInt64 ((Int64.ofNat 0)) ((2 : Int64))) (by decide) (by decide) (fun v63 σ64 h62 => ?_)
        obtain ⟨h65, h66, z68, rfl, h67⟩ := h62
        obtain rfl : σ0 = σ64 := Fr_nil h66
        refine En_iNe _ rfl rfl (fun h69 => ?_) (fun h69 => ?_)
        · refine En_Ps 3 (pc' := 46) (lv' := [(0, .ref 159), (1, .int a), (2, .int b), (3, .int c)]) (st' := [.int b, .int a, .ref 159]) rfl ?_
          obtain ⟨z70, h71, h72, h73⟩ := WT_peekJ (J := (4 * a.toInt + b.toInt + 10)) (l := 0) (u := 2) hσ0 tgz_160 (by decide +kernel) (by (first | exact q_4ca85bfec3 h26 h10.2.2.1 h13 h10.1 | omega)) (lnI (by decide +kernel : LN _ = 226) (by (first | exact q_d193e4241b h26 h10.2.2.2.2 h10.2.1 h13 h10.1 | omega))) (FTrow 36 10 4 4 (by decide +kernel) (by (first | exact q_e9e7a4bfb8 h26 h10.2.2.1 h13 h10.1 | omega)) (by (first | exact q_b142d71cf1 h26 h10.2.2.2.2 h10.2.1 h13 h10.1 | omega)) (by omega))
          refine En_callV rfl rfl rfl rfl rfl rfl rfl rfl tgz_159 (by decide +kernel) rfl (c_290a σ0 hσ0 a b (geI rfl (by (first | exact q_bf8258001b h10.2.2.1 h13 h10.1 | omega))) (leI rfl (by (first | exact q_88b0c3c731 h10.2.2.1 h13 h10.1 h4 | omega))) (geI rfl (by first | exact q_55451d0a83 h26 | omega)) (leI rfl (by first | exact q_c5d285f1b9 h26 | omega)) z70 h71) (by decide) (by decide) (fun v75 σ76 h74 => ?_)
          obtain ⟨h77, h78, z80, rfl, h79⟩ := h74
          obtain rfl : σ0 = σ76 := Fr_nil h78
          refine En_Ps 2 (pc' := 52) (lv' := [(4, .int z80), (0, .ref 159), (1, .int a), (2, .int b), (3, .int c)]) (st' := [.ref 159]) rfl ?_
          refine En_getU (j := 1) (u := 160) (g' := 36) (q := 0) rfl rfl rfl tgz_159 (by decide +kernel) hσ0 (by decide +kernel) un_36_160 (fun h81 => ?_)
          refine En_Ps 4 (pc' := 60) (lv' := [(4, .int z80), (0, .ref 159), (1, .int a), (2, .int b), (3, .int c)]) (st' := [.int ((((Int32.ofInt 4)) * a)), .int (((Int8.ofInt 10).toInt32)), .ref 160]) rfl ?_
          refine En_top (mulI (by decide : (Int32.ofInt 4).toInt = 4) rfl (Z := 4 * a.toInt) (by first | exact q_8696eb12a7 | omega) (by (first | exact q_17b26f6ac2 h10.2.2.1 h13 h10.1 | omega)) (by (first | exact q_0e2f933f9c h10.2.2.2.2 h10.2.1 h13 h10.1 | omega))) (fun z83 h84 => ?_)
          refine En_Ps 1 (pc' := 61) (lv' := [(4, .int z80), (0, .ref 159), (1, .int a), (2, .int b), (3, .int c)]) (st' := [.int (((((Int8.ofInt 10).toInt32)) + z83)), .ref 160]) rfl ?_
          refine En_top (addI (by decide : ((Int8.ofInt 10).toInt32).toInt = 10) rfl (by (first | exact q_7a87566369 h84 h10.2.2.1 h13 h10.1 | omega)) (by (first | exact q_418341a107 h84 h10.2.2.2.2 h10.2.1 h13 h10.1 | omega))) (fun z85 h86 => ?_)
          refine En_Ps 2 (pc' := 63) (lv' := [(4, .int z80), (0, .ref 159), (1, .int a), (2, .int b), (3, .int c)]) (st' := [.int ((z85 + b)), .ref 160]) rfl ?_
          refine En_top (addI rfl rfl (by (first | exact q_c790e40c26 h86 h84 h26 h10.2.2.1 h13 h10.1 | omega)) (by (first | exact q_dc418f9501 h86 h84 h26 h10.2.2.2.2 h10.2.1 h13 h10.1 | omega))) (fun z87 h88 => ?_)
          refine En_Ps 1 (pc' := 64) (lv' := [(4, .int z80), (0, .ref 159), (1, .int a), (2, .int b), (3, .int c)]) (st' := [.int c, .int z87, .ref 160]) rfl ?_
          have w89 : wf σ0 (10 + 4 * a.toInt + b.toInt) = z70.toInt := ci_at h71 (by (first | exact q_7696185349 | omega))
          refine En_iast (l := 0) (u := 2) rfl rfl tgz_160 (by decide +kernel) (by (first | exact q_092dc46987 h88 h86 h84 h26 h10.2.2.1 h13 h10.1 | omega)) (lnI (by decide +kernel : LN _ = 226) (by (first | exact q_0214d4d4cf h88 h86 h84 h26 h10.2.2.2.2 h10.2.1 h13 h10.1 | omega))) (FTrow 36 10 4 4 (by decide +kernel) (by (first | exact q_bb6980b449 h88 h86 h84 h26 h10.2.2.1 h13 h10.1 | omega)) (by (first | exact q_d20c319e22 h88 h86 h84 h26 h10.2.2.2.2 h10.2.1 h13 h10.1 | omega)) (by omega)) (rngI rfl (by (first | exact q_bf5288a390 (i2lI rfl) h67.2.2.1 h69 h67.1 (by decide) | omega)) (by (first | exact q_d52851690a (i2lI rfl) h67.2.2.1 h69 h67.1 this | omega))) hσ0 hF0 (by decide +kernel) (fun σ90 h91 h92 h93 h94 => ?_)
          refine En_Ps 1 (pc' := 67) (lv' := [(4, .int z80), (0, .ref 159), (1, .int a), (2, .int b), (3, .int c)]) (st' := [.int z80]) rfl ?_
          exact En_ret (v := some (Value.int z80)) rfl rfl rfl ⟨h91, h92, z80, rfl, ⟨by first | exact q_70a249c7f8 h79.1 | omega, by first | exact q_b4dfe153ab h79.2.1 | omega, ⟨fun i hi => (by rw [show wf _ i = ci _ 160 i from rfl, ci_st h93 h94 (by (first | exact q_092dc46987 h88 h86 h84 h26 h10.2.2.1 h13 h10.1 | omega)) i (by (first | exact q_2ef998e52d hi | omega)), if_neg (by omega)]; rfl), trR_y (i := 10 + 4 * a.toInt + b.toInt) (by omega) (by (first | exact q_a2721cf405 | omega)) (w89.trans (by (first | exact q_dde8c258c6 h79.2.2.1 h79.2.2.2 | omega))), trM (fun i hi => (by rw [show wf _ i = ci _ 160 i from rfl, ci_st h93 h94 (by (first | exact q_092dc46987 h88 h86 h84 h26 h10.2.2.1 h13 h10.1 | omega)) i hi]; rfl)) (by omega) (by (first | exact q_2619da2ce7 h88 h86 h84 | omega)) rfl⟩⟩⟩
        · refine En_Ps 1 (pc' := 42) (lv' := [(0, .ref 159), (1, .int a), (2, .int b), (3, .int c)]) (st' := [.int (((Int8.ofInt (-2)).toInt32))]) rfl ?_
          refine En_top (by decide : ((Int8.ofInt (-2)).toInt32).toInt = -2) (fun z95 h96 => ?_)
          exact En_ret (v := some (Value.int z95)) rfl rfl rfl ⟨hσ0, hF0, z95, rfl, ⟨by first | exact q_f35c5d346c h96 | omega, by first | exact q_307520f238 h96 | omega, (by have q0 : ¬ trC (wf σ0) a.toInt b.toInt c.toInt := (by omega); exact ⟨fun _ _ => rfl, trR_n q0 (by (first | exact q_a664922815 h96 | omega)), trMn q0⟩)⟩⟩
/-- DoorSchoolModel.unteach()I -/
abbrev P_329x (σ0 : SG) : PO := fun v σ => WT σ ∧ Fr [(36, 0)] σ0 σ ∧ ∃ ret : Int32, v = some (Value.int ret) ∧ -ret.toInt - 5 ≤ 0 ∧ ret.toInt - 3 ≤ 0 ∧ (WINV (wf σ) ∧ ret.toInt = utR (wf σ0) ∧ (∀ i : Int, 0 ≤ i → i < 226 → wf σ i = utW (wf σ0) i))
set_option maxRecDepth 10000 in
set_option maxHeartbeats 4000000 in
theorem c_329x (σ0 : SG) (hσ0 : WT σ0) (hI : WINV (wf σ0)) : En 1 20 none mr_329 (P_329x σ0) 0 [(0, .ref 159)] [] σ0 := by
  have hF0 : Fr [(36, 0)] σ0 σ0 := Fr_rfl
  refine En_Ps 1 (pc' := 1) (lv' := [(0, .ref 159)]) (st' := [.ref 159]) rfl ?_
  obtain ⟨z2, h1, h3, h4⟩ := WT_peekI hσ0 tgz_160 (by decide +kernel : FT 36 (7 : Int).toNat = (0, 0, 1600)) (by decide +kernel)
  refine En_callV rfl rfl rfl rfl rfl rfl rfl rfl tgz_159 (by decide +kernel) rfl (c_264 σ0 hσ0 z2 h1) (by decide) (by decide) (fun v6 σ7 h5 => ?_)
  obtain ⟨h8, h9, z11, rfl, h10⟩ := h5
  obtain rfl : σ0 = σ7 := Fr_nil h9
  have w12 : wf σ0 (7) = z2.toInt := ci_at h1 (by (first | decide | omega))
  refine En_iNe _ rfl rfl (fun h13 => ?_) (fun h13 => ?_)
  · refine En_Ps 1 (pc' := 11) (lv' := [(0, .ref 159)]) (st' := [.ref 159]) rfl ?_
    refine En_getU (j := 1) (u := 160) (g' := 36) (q := 0) rfl rfl rfl tgz_159 (by decide +kernel) hσ0 (by decide +kernel) un_36_160 (fun h14 => ?_)
    refine En_Ps 1 (pc' := 16) (lv' := [(0, .ref 159)]) (st' := [.int (((Int8.ofInt 6).toInt32)), .ref 160]) rfl ?_
    refine En_iald (l := 0) (u := 60) rfl (by decide : ((Int8.ofInt 6).toInt32).toInt = 6) tgz_160 (by decide +kernel) hσ0 (by decide) (lnI (by decide +kernel : LN _ = 226) (by decide)) (by decide +kernel) (fun z17 h16 h18 h19 => ?_)
    have w20 : wf σ0 (6) = z17.toInt := ci_at h16 (by (first | decide | omega))
    refine En_iNe _ rfl rfl (fun h21 => ?_) (fun h21 => ?_)
    · refine En_Ps 1 (pc' := 24) (lv' := [(0, .ref 159)]) (st' := [.ref 159]) rfl ?_
      refine En_getK (j := 1) h14 rfl rfl rfl tgz_159 (by decide +kernel) ?_
      refine En_Ps 2 (pc' := 30) (lv' := [(0, .ref 159)]) (st' := [.int (((Int8.ofInt 6).toInt32)), .ref 160, .int (((Int8.ofInt 6).toInt32)), .ref 160]) rfl ?_
      refine En_ialdK h16 rfl (by decide : ((Int8.ofInt 6).toInt32).toInt = 6) tgz_160 (by decide +kernel) hσ0 (by decide) (lnI (by decide +kernel : LN _ = 226) (by decide)) ?_
      refine En_Ps 2 (pc' := 33) (lv' := [(0, .ref 159)]) (st' := [.int ((z17 - ((Int32.ofInt 1)))), .int (((Int8.ofInt 6).toInt32)), .ref 160]) rfl ?_
      refine En_top (subI rfl (by decide : (Int32.ofInt 1).toInt = 1) (by first | exact q_ee101262ad h21 h18 | omega) (by first | exact q_b13050f55d h19 | omega)) (fun z23 h24 => ?_)
      refine En_iast (l := 0) (u := 60) rfl (by decide : ((Int8.ofInt 6).toInt32).toInt = 6) tgz_160 (by decide +kernel) (by decide) (lnI (by decide +kernel : LN _ = 226) (by decide)) (by decide +kernel) (rngI rfl (by first | exact q_1298620a37 h24 h21 h18 | omega) (by first | exact q_7c91e6b6c0 h24 h19 | omega)) hσ0 hF0 (by decide +kernel) (fun σ25 h26 h27 h28 h29 => ?_)
      refine En_Ps 1 (pc' := 35) (lv' := [(0, .ref 159)]) (st' := [.ref 159]) rfl ?_
      refine En_getK (j := 1) ((h29 _ _ (Or.inl (neTG tgz_159 tgz_160 (by decide)))).trans h14) rfl rfl rfl tgz_159 (by decide +kernel) ?_
      refine En_Ps 2 (pc' := 42) (lv' := [(0, .ref 159)]) (st' := [.ref 159, .int (((Int16.ofInt 166).toInt32)), .ref 160]) rfl ?_
      refine En_getK (j := 1) ((h29 _ _ (Or.inl (neTG tgz_159 tgz_160 (by decide)))).trans h14) rfl rfl rfl tgz_159 (by decide +kernel) ?_
      refine En_Ps 1 (pc' := 47) (lv' := [(0, .ref 159)]) (st' := [.int (((Int8.ofInt 6).toInt32)), .ref 160, .int (((Int16.ofInt 166).toInt32)), .ref 160]) rfl ?_
      refine En_ialdK h28 rfl (by decide : ((Int8.ofInt 6).toInt32).toInt = 6) tgz_160 (by decide +kernel) h26 (by decide) (lnI (by decide +kernel : LN _ = 226) (by decide)) ?_
      refine En_Ps 1 (pc' := 49) (lv' := [(0, .ref 159)]) (st' := [.int (((((Int16.ofInt 166).toInt32)) + z23)), .ref 160]) rfl ?_
      refine En_top (addI (by decide : ((Int16.ofInt 166).toInt32).toInt = 166) rfl (by first | exact q_8c0da1ef4b h24 h21 h18 | omega) (by first | exact q_1e28427c20 h24 h19 | omega)) (fun z31 h32 => ?_)
      refine En_iald (l := 0) (u := 3) rfl rfl tgz_160 (by decide +kernel) h26 (by first | exact q_2b9e743492 h32 h24 h21 h18 | omega) (lnI (by decide +kernel : LN _ = 226) (by first | exact q_82d2f5345e h32 h24 h19 | omega)) (FTrow 36 166 1 60 (by decide +kernel) (by first | exact q_72ed8397c6 h32 h24 h21 h18 | omega) (by first | exact q_a6e24c7894 h32 h24 h19 | omega) (by first | exact q_50ef92cd29 | omega)) (fun z34 h33 h35 h36 => ?_)
      have h37 := ci_at h33 (rfl : z31.toInt = z31.toInt)
      have h38 := ci_st h28 h29 (by (first | decide | omega)) (z31.toInt) (by (first | exact q_ab4947d449 h32 h24 h18 | omega))
      rw [if_neg (by (first | exact q_ca55fb7a33 h32 h24 h18 | omega))] at h38
      refine En_Ps 2 (pc' := 52) (lv' := [(1, .int z34), (0, .ref 159)]) (st' := [.ref 159]) rfl ?_
      refine En_getK (j := 1) ((h29 _ _ (Or.inl (neTG tgz_159 tgz_160 (by decide)))).trans h14) rfl rfl rfl tgz_159 (by decide +kernel) ?_
      refine En_Ps 4 (pc' := 60) (lv' := [(1, .int z34), (0, .ref 159)]) (st' := [.int ((((Int32.ofInt 4)) * z34)), .int (((Int8.ofInt 10).toInt32)), .ref 160]) rfl ?_
      refine En_top (mulI (by decide : (Int32.ofInt 4).toInt = 4) rfl (Z := 4 * z34.toInt) (by first | exact q_8696eb12a7 | omega) (by first | exact q_be45967ac2 h35 | omega) (by first | exact q_395a9d924c h36 | omega)) (fun z40 h41 => ?_)
      refine En_Ps 1 (pc' := 61) (lv' := [(1, .int z34), (0, .ref 159)]) (st' := [.int (((((Int8.ofInt 10).toInt32)) + z40)), .ref 160]) rfl ?_
      refine En_top (addI (by decide : ((Int8.ofInt 10).toInt32).toInt = 10) rfl (by first | exact q_7bfa00123f h41 h35 | omega) (by first | exact q_a63fdf625c h41 h36 | omega)) (fun z42 h43 => ?_)
      refine En_Ps 2 (pc' := 63) (lv' := [(1, .int z34), (0, .ref 159)]) (st' := [.int ((z42 + ((Int32.ofInt 2)))), .ref 160]) rfl ?_
      refine En_top (addI rfl (by decide : (Int32.ofInt 2).toInt = 2) (by first | exact q_f48788af97 h43 h41 h35 | omega) (by first | exact q_92445dc00e h43 h41 h36 | omega)) (fun z44 h45 => ?_)
      refine En_Ps 1 (pc' := 64) (lv' := [(1, .int z34), (0, .ref 159)]) (st' := [.int z44, .ref 160, .int z44, .ref 160]) rfl ?_
      refine En_iald (l := 0) (u := 12) rfl rfl tgz_160 (by decide +kernel) h26 (by first | exact q_a578b517ac h45 h43 h41 h35 | omega) (lnI (by decide +kernel : LN _ = 226) (by first | exact q_f266bffb3f h45 h43 h41 h36 | omega)) (FTrow 36 12 4 4 (by decide +kernel) (by first | exact q_25a2632096 h45 h43 h41 h35 | omega) (by first | exact q_6a14783eb1 h45 h43 h41 h36 | omega) (by first | exact q_29bc46c6fe h41 h43 h45 | omega)) (fun z47 h46 h48 h49 => ?_)
      refine En_Ps 1 (pc' := 66) (lv' := [(1, .int z34), (0, .ref 159)]) (st' := [.int ((Int32.ofInt 1)), .int z47, .int z44, .ref 160]) rfl ?_
      have h50 := WINV_ge hI (d := z34.toInt) (nt := z23.toInt + 1) (by have e1 := ci_at h16 (show (6 : Int) = (6 : Int) by (first | decide | omega)); show _ = ci _ 160 _; (first | exact q_a10a85d7da e1 h24 | omega)) (by (first | exact q_b63492755d h21 h18 h24 | omega)) (by show _ = ci _ 160 _; rw [show (166 : Int) + ((z23.toInt + 1) - 1) = z31.toInt by (first | exact q_08873226a4 h32 | omega)]; (first | exact q_aeeede310e h38 h37 | omega)) (by (first | exact q_58e6e51dcc h35 | omega)) (by (first | exact q_718bc96520 h36 | omega))
      have h51 := ci_at h46 (by (first | exact q_cf002ccb49 h45 h43 h41 | omega) : 12 + 4 * z34.toInt = _)
      have h52 := ci_st h28 h29 (by (first | decide | omega)) (12 + 4 * z34.toInt) (by (first | exact q_8a0e8d37df h35 | omega))
      rw [if_neg (by (first | exact q_3777836402 h35 | omega))] at h52
      have h53 : 1 ≤ z47.toInt := by have e3 : wf σ0 (12 + 4 * z34.toInt) = ci σ0 160 (12 + 4 * z34.toInt) := rfl; (first | exact q_2f6ee56928 h51 h52 e3 h50 | omega)
      refine En_Ps 1 (pc' := 67) (lv' := [(1, .int z34), (0, .ref 159)]) (st' := [.int ((z47 - ((Int32.ofInt 1)))), .int z44, .ref 160]) rfl ?_
      refine En_top (subI rfl (by decide : (Int32.ofInt 1).toInt = 1) (by first | exact q_93f9478bef h48 | omega) (by first | exact q_5f4a85dce3 h49 | omega)) (fun z54 h55 => ?_)
      refine En_iast (l := 0) (u := 12) rfl rfl tgz_160 (by decide +kernel) (by first | exact q_a578b517ac h45 h43 h41 h35 | omega) (lnI (by decide +kernel : LN _ = 226) (by first | exact q_f266bffb3f h45 h43 h41 h36 | omega)) (FTrow 36 12 4 4 (by decide +kernel) (by first | exact q_25a2632096 h45 h43 h41 h35 | omega) (by first | exact q_6a14783eb1 h45 h43 h41 h36 | omega) (by first | exact q_29bc46c6fe h41 h43 h45 | omega)) (rngI rfl (by (first | exact q_00529e3716 h55 h53 | omega)) (by first | exact q_0f6bf0cdc4 h55 h49 | omega)) h26 h27 (by decide +kernel) (fun σ56 h57 h58 h59 h60 => ?_)
      refine En_Ps 1 (pc' := 69) (lv' := [(1, .int z34), (0, .ref 159)]) (st' := [.int z34]) rfl ?_
      exact En_ret (v := some (Value.int z34)) rfl rfl rfl ⟨h57, h58, z34, rfl, ⟨by first | exact q_885c998ca8 h35 | omega, by first | exact q_e9a8eec0c4 h36 | omega, ⟨WINV_unteach2 (d := z34.toInt) (m := z54.toInt + 1) (nt := z23.toInt + 1) hI (fun i hi => (by rw [show wf _ i = ci _ 160 i from rfl, ci_st h59 h60 (by (first | exact q_a578b517ac h45 h43 h41 h35 | omega)) i hi, ci_st h28 h29 (by (first | decide | omega)) i hi]; rfl)) (by show _ = ci _ 160 _; (first | exact q_972c6612ff h55 h52 h51 | omega)) (by have e1 := ci_at h16 (show (6 : Int) = (6 : Int) by (first | decide | omega)); show _ = ci _ 160 _; (first | exact q_a10a85d7da e1 h24 | omega)) (by (first | exact q_b63492755d h21 h18 h24 | omega)) (by show _ = ci _ 160 _; rw [show (166 : Int) + ((z23.toInt + 1) - 1) = z31.toInt by (first | exact q_08873226a4 h32 | omega)]; (first | exact q_aeeede310e h38 h37 | omega)) (by (first | exact q_58e6e51dcc h35 | omega)) (by (first | exact q_718bc96520 h36 | omega)) (by (first | decide | omega)) (by (first | exact q_fedd7637cc h45 h43 h41 | omega)) (by (first | exact q_b8472f8229 | omega)) (by (first | exact q_b8472f8229 | omega)), by unfold utR utD; rw [if_neg (by (first | exact q_fb5266371a h10.2.2.1 h13 h10.1 w12 | omega)), if_neg (by (first | exact q_e1f15da704 h21 h18 w20 | omega)), show wf σ0 6 = z23.toInt + 1 from Eq.symm (by have e1 := ci_at h16 (show (6 : Int) = (6 : Int) by (first | decide | omega)); show _ = ci _ 160 _; (first | exact q_a10a85d7da e1 h24 | omega))]; exact (by show _ = ci _ 160 _; rw [show (166 : Int) + ((z23.toInt + 1) - 1) = z31.toInt by (first | exact q_08873226a4 h32 | omega)]; (first | exact q_aeeede310e h38 h37 | omega)), utM (d := z34.toInt) (m := z54.toInt + 1) (nt := z23.toInt + 1) (fun i hi => (by rw [show wf _ i = ci _ 160 i from rfl, ci_st h59 h60 (by (first | exact q_a578b517ac h45 h43 h41 h35 | omega)) i hi, ci_st h28 h29 (by (first | decide | omega)) i hi]; rfl)) (by (first | exact q_f3e1c62af3 h10.2.2.1 h13 h10.1 w12 | omega)) (by show _ = ci _ 160 _; (first | exact q_972c6612ff h55 h52 h51 | omega)) (by have e1 := ci_at h16 (show (6 : Int) = (6 : Int) by (first | decide | omega)); show _ = ci _ 160 _; (first | exact q_a10a85d7da e1 h24 | omega)) (by (first | exact q_b63492755d h21 h18 h24 | omega)) (by show _ = ci _ 160 _; rw [show (166 : Int) + ((z23.toInt + 1) - 1) = z31.toInt by (first | exact q_08873226a4 h32 | omega)]; (first | exact q_aeeede310e h38 h37 | omega)) (by (first | decide | omega)) (by (first | exact q_fedd7637cc h45 h43 h41 | omega)) (by (first | exact q_b8472f8229 | omega)) (by (first | exact q_b8472f8229 | omega))⟩⟩⟩
    · refine En_Ps 1 (pc' := 22) (lv' := [(0, .ref 159)]) (st' := [.int (((Int8.ofInt (-5)).toInt32))]) rfl ?_
      refine En_top (by decide : ((Int8.ofInt (-5)).toInt32).toInt = -5) (fun z61 h62 => ?_)
      exact En_ret (v := some (Value.int z61)) rfl rfl rfl ⟨hσ0, hF0, z61, rfl, ⟨by first | exact q_715ce6bb90 h62 | omega, by first | exact q_08e77983b4 h62 | omega, ⟨hI, by unfold utR; rw [if_neg (by (first | exact q_fb5266371a h10.2.2.1 h13 h10.1 w12 | omega)), if_pos (by (first | exact q_857e4f1c1c w20 h21 | omega))]; (first | exact q_93e8fcdef2 h62 | omega), utMn (by (first | exact q_b716058e8d w20 h21 | omega)) (fun i _ _ => rfl)⟩⟩⟩
  · refine En_Ps 1 (pc' := 9) (lv' := [(0, .ref 159)]) (st' := [.int (((Int8.ofInt (-2)).toInt32))]) rfl ?_
    refine En_top (by decide : ((Int8.ofInt (-2)).toInt32).toInt = -2) (fun z63 h64 => ?_)
    exact En_ret (v := some (Value.int z63)) rfl rfl rfl ⟨hσ0, hF0, z63, rfl, ⟨by first | exact q_f1982a04c6 h64 | omega, by first | exact q_09eb541a79 h64 | omega, ⟨hI, by unfold utR; rw [if_pos (by (first | exact q_b87706a97b h10.2.2.2 h13 w12 | omega))]; (first | exact q_a664922815 h64 | omega), utMn (by (first | exact q_105a466342 h10.2.2.2 h13 w12 | omega)) (fun i _ _ => rfl)⟩⟩⟩
end
/-! 32.n00 -/
section
/-- java/lang/Integer.bitCount(I)I of a small set -/
abbrev P_7ax (σ0 : SG) (a : Int32) : PO := fun v σ => WT σ ∧ Fr [] σ0 σ ∧ ∃ ret : Int32, v = some (Value.int ret) ∧ -ret.toInt ≤ 0 ∧ ret.toInt - 4 ≤ 0 ∧ ret.toInt = bcI a.toInt
set_option maxRecDepth 10000 in
set_option maxHeartbeats 4000000 in
theorem c_7ax (σ0 : SG) (hσ0 : WT σ0) (a : Int32) (hl_a : 0 ≤ a.toInt) (hu_a : a.toInt ≤ 15) : En 0 0 none mr_7 (P_7ax σ0 a) 0 [(0, .int a)] [] σ0 := by
  have hF0 : Fr [] σ0 σ0 := Fr_rfl
  refine En_Ps 41 (pc' := 52) (lv' := [(0, .int ((((((((a - (((a.toUInt32 >>> ((Int32.ofInt 1).toUInt32 &&& Int32.toUInt32 31)).toInt32) &&& (1431655765 : Int32))) &&& (858993459 : Int32)) + ((((a - (((a.toUInt32 >>> ((Int32.ofInt 1).toUInt32 &&& Int32.toUInt32 31)).toInt32) &&& (1431655765 : Int32))).toUInt32 >>> ((Int32.ofInt 2).toUInt32 &&& Int32.toUInt32 31)).toInt32) &&& (858993459 : Int32))) + (((((a - (((a.toUInt32 >>> ((Int32.ofInt 1).toUInt32 &&& Int32.toUInt32 31)).toInt32) &&& (1431655765 : Int32))) &&& (858993459 : Int32)) + ((((a - (((a.toUInt32 >>> ((Int32.ofInt 1).toUInt32 &&& Int32.toUInt32 31)).toInt32) &&& (1431655765 : Int32))).toUInt32 >>> ((Int32.ofInt 2).toUInt32 &&& Int32.toUInt32 31)).toInt32) &&& (858993459 : Int32))).toUInt32 >>> ((Int32.ofInt 4).toUInt32 &&& Int32.toUInt32 31)).toInt32)) &&& (252645135 : Int32)) + (((((((a - (((a.toUInt32 >>> ((Int32.ofInt 1).toUInt32 &&& Int32.toUInt32 31)).toInt32) &&& (1431655765 : Int32))) &&& (858993459 : Int32)) + ((((a - (((a.toUInt32 >>> ((Int32.ofInt 1).toUInt32 &&& Int32.toUInt32 31)).toInt32) &&& (1431655765 : Int32))).toUInt32 >>> ((Int32.ofInt 2).toUInt32 &&& Int32.toUInt32 31)).toInt32) &&& (858993459 : Int32))) + (((((a - (((a.toUInt32 >>> ((Int32.ofInt 1).toUInt32 &&& Int32.toUInt32 31)).toInt32) &&& (1431655765 : Int32))) &&& (858993459 : Int32)) + ((((a - (((a.toUInt32 >>> ((Int32.ofInt 1).toUInt32 &&& Int32.toUInt32 31)).toInt32) &&& (1431655765 : Int32))).toUInt32 >>> ((Int32.ofInt 2).toUInt32 &&& Int32.toUInt32 31)).toInt32) &&& (858993459 : Int32))).toUInt32 >>> ((Int32.ofInt 4).toUInt32 &&& Int32.toUInt32 31)).toInt32)) &&& (252645135 : Int32)).toUInt32 >>> (((Int8.ofInt 8).toInt32).toUInt32 &&& Int32.toUInt32 31)).toInt32)) + ((((((((a - (((a.toUInt32 >>> ((Int32.ofInt 1).toUInt32 &&& Int32.toUInt32 31)).toInt32) &&& (1431655765 : Int32))) &&& (858993459 : Int32)) + ((((a - (((a.toUInt32 >>> ((Int32.ofInt 1).toUInt32 &&& Int32.toUInt32 31)).toInt32) &&& (1431655765 : Int32))).toUInt32 >>> ((Int32.ofInt 2).toUInt32 &&& Int32.toUInt32 31)).toInt32) &&& (858993459 : Int32))) + (((((a - (((a.toUInt32 >>> ((Int32.ofInt 1).toUInt32 &&& Int32.toUInt32 31)).toInt32) &&& (1431655765 : Int32))) &&& (858993459 : Int32)) + ((((a - (((a.toUInt32 >>> ((Int32.ofInt 1).toUInt32 &&& Int32.toUInt32 31)).toInt32) &&& (1431655765 : Int32))).toUInt32 >>> ((Int32.ofInt 2).toUInt32 &&& Int32.toUInt32 31)).toInt32) &&& (858993459 : Int32))).toUInt32 >>> ((Int32.ofInt 4).toUInt32 &&& Int32.toUInt32 31)).toInt32)) &&& (252645135 : Int32)) + (((((((a - (((a.toUInt32 >>> ((Int32.ofInt 1).toUInt32 &&& Int32.toUInt32 31)).toInt32) &&& (1431655765 : Int32))) &&& (858993459 : Int32)) + ((((a - (((a.toUInt32 >>> ((Int32.ofInt 1).toUInt32 &&& Int32.toUInt32 31)).toInt32) &&& (1431655765 : Int32))).toUInt32 >>> ((Int32.ofInt 2).toUInt32 &&& Int32.toUInt32 31)).toInt32) &&& (858993459 : Int32))) + (((((a - (((a.toUInt32 >>> ((Int32.ofInt 1).toUInt32 &&& Int32.toUInt32 31)).toInt32) &&& (1431655765 : Int32))) &&& (858993459 : Int32)) + ((((a - (((a.toUInt32 >>> ((Int32.ofInt 1).toUInt32 &&& Int32.toUInt32 31)).toInt32) &&& (1431655765 : Int32))).toUInt32 >>> ((Int32.ofInt 2).toUInt32 &&& Int32.toUInt32 31)).toInt32) &&& (858993459 : Int32))).toUInt32 >>> ((Int32.ofInt 4).toUInt32 &&& Int32.toUInt32 31)).toInt32)) &&& (252645135 : Int32)).toUInt32 >>> (((Int8.ofInt 8).toInt32).toUInt32 &&& Int32.toUInt32 31)).toInt32)).toUInt32 >>> (((Int8.ofInt 16).toInt32).toUInt32 &&& Int32.toUInt32 31)).toInt32))))]) (st' := [.int (((((((((a - (((a.toUInt32 >>> ((Int32.ofInt 1).toUInt32 &&& Int32.toUInt32 31)).toInt32) &&& (1431655765 : Int32))) &&& (858993459 : Int32)) + ((((a - (((a.toUInt32 >>> ((Int32.ofInt 1).toUInt32 &&& Int32.toUInt32 31)).toInt32) &&& (1431655765 : Int32))).toUInt32 >>> ((Int32.ofInt 2).toUInt32 &&& Int32.toUInt32 31)).toInt32) &&& (858993459 : Int32))) + (((((a - (((a.toUInt32 >>> ((Int32.ofInt 1).toUInt32 &&& Int32.toUInt32 31)).toInt32) &&& (1431655765 : Int32))) &&& (858993459 : Int32)) + ((((a - (((a.toUInt32 >>> ((Int32.ofInt 1).toUInt32 &&& Int32.toUInt32 31)).toInt32) &&& (1431655765 : Int32))).toUInt32 >>> ((Int32.ofInt 2).toUInt32 &&& Int32.toUInt32 31)).toInt32) &&& (858993459 : Int32))).toUInt32 >>> ((Int32.ofInt 4).toUInt32 &&& Int32.toUInt32 31)).toInt32)) &&& (252645135 : Int32)) + (((((((a - (((a.toUInt32 >>> ((Int32.ofInt 1).toUInt32 &&& Int32.toUInt32 31)).toInt32) &&& (1431655765 : Int32))) &&& (858993459 : Int32)) + ((((a - (((a.toUInt32 >>> ((Int32.ofInt 1).toUInt32 &&& Int32.toUInt32 31)).toInt32) &&& (1431655765 : Int32))).toUInt32 >>> ((Int32.ofInt 2).toUInt32 &&& Int32.toUInt32 31)).toInt32) &&& (858993459 : Int32))) + (((((a - (((a.toUInt32 >>> ((Int32.ofInt 1).toUInt32 &&& Int32.toUInt32 31)).toInt32) &&& (1431655765 : Int32))) &&& (858993459 : Int32)) + ((((a - (((a.toUInt32 >>> ((Int32.ofInt 1).toUInt32 &&& Int32.toUInt32 31)).toInt32) &&& (1431655765 : Int32))).toUInt32 >>> ((Int32.ofInt 2).toUInt32 &&& Int32.toUInt32 31)).toInt32) &&& (858993459 : Int32))).toUInt32 >>> ((Int32.ofInt 4).toUInt32 &&& Int32.toUInt32 31)).toInt32)) &&& (252645135 : Int32)).toUInt32 >>> (((Int8.ofInt 8).toInt32).toUInt32 &&& Int32.toUInt32 31)).toInt32)) + ((((((((a - (((a.toUInt32 >>> ((Int32.ofInt 1).toUInt32 &&& Int32.toUInt32 31)).toInt32) &&& (1431655765 : Int32))) &&& (858993459 : Int32)) + ((((a - (((a.toUInt32 >>> ((Int32.ofInt 1).toUInt32 &&& Int32.toUInt32 31)).toInt32) &&& (1431655765 : Int32))).toUInt32 >>> ((Int32.ofInt 2).toUInt32 &&& Int32.toUInt32 31)).toInt32) &&& (858993459 : Int32))) + (((((a - (((a.toUInt32 >>> ((Int32.ofInt 1).toUInt32 &&& Int32.toUInt32 31)).toInt32) &&& (1431655765 : Int32))) &&& (858993459 : Int32)) + ((((a - (((a.toUInt32 >>> ((Int32.ofInt 1).toUInt32 &&& Int32.toUInt32 31)).toInt32) &&& (1431655765 : Int32))).toUInt32 >>> ((Int32.ofInt 2).toUInt32 &&& Int32.toUInt32 31)).toInt32) &&& (858993459 : Int32))).toUInt32 >>> ((Int32.ofInt 4).toUInt32 &&& Int32.toUInt32 31)).toInt32)) &&& (252645135 : Int32)) + (((((((a - (((a.toUInt32 >>> ((Int32.ofInt 1).toUInt32 &&& Int32.toUInt32 31)).toInt32) &&& (1431655765 : Int32))) &&& (858993459 : Int32)) + ((((a - (((a.toUInt32 >>> ((Int32.ofInt 1).toUInt32 &&& Int32.toUInt32 31)).toInt32) &&& (1431655765 : Int32))).toUInt32 >>> ((Int32.ofInt 2).toUInt32 &&& Int32.toUInt32 31)).toInt32) &&& (858993459 : Int32))) + (((((a - (((a.toUInt32 >>> ((Int32.ofInt 1).toUInt32 &&& Int32.toUInt32 31)).toInt32) &&& (1431655765 : Int32))) &&& (858993459 : Int32)) + ((((a - (((a.toUInt32 >>> ((Int32.ofInt 1).toUInt32 &&& Int32.toUInt32 31)).toInt32) &&& (1431655765 : Int32))).toUInt32 >>> ((Int32.ofInt 2).toUInt32 &&& Int32.toUInt32 31)).toInt32) &&& (858993459 : Int32))).toUInt32 >>> ((Int32.ofInt 4).toUInt32 &&& Int32.toUInt32 31)).toInt32)) &&& (252645135 : Int32)).toUInt32 >>> (((Int8.ofInt 8).toInt32).toUInt32 &&& Int32.toUInt32 31)).toInt32)).toUInt32 >>> (((Int8.ofInt 16).toInt32).toUInt32 &&& Int32.toUInt32 31)).toInt32)) &&& ((Int8.ofInt 63).toInt32)))]) rfl ?_
  refine En_nam (fun z hz => ?_)
  have hb := bits_small (fun x => ((((((((x - (((x.toUInt32 >>> ((Int32.ofInt 1).toUInt32 &&& Int32.toUInt32 31)).toInt32) &&& (1431655765 : Int32))) &&& (858993459 : Int32)) + ((((x - (((x.toUInt32 >>> ((Int32.ofInt 1).toUInt32 &&& Int32.toUInt32 31)).toInt32) &&& (1431655765 : Int32))).toUInt32 >>> ((Int32.ofInt 2).toUInt32 &&& Int32.toUInt32 31)).toInt32) &&& (858993459 : Int32))) + (((((x - (((x.toUInt32 >>> ((Int32.ofInt 1).toUInt32 &&& Int32.toUInt32 31)).toInt32) &&& (1431655765 : Int32))) &&& (858993459 : Int32)) + ((((x - (((x.toUInt32 >>> ((Int32.ofInt 1).toUInt32 &&& Int32.toUInt32 31)).toInt32) &&& (1431655765 : Int32))).toUInt32 >>> ((Int32.ofInt 2).toUInt32 &&& Int32.toUInt32 31)).toInt32) &&& (858993459 : Int32))).toUInt32 >>> ((Int32.ofInt 4).toUInt32 &&& Int32.toUInt32 31)).toInt32)) &&& (252645135 : Int32)) + (((((((x - (((x.toUInt32 >>> ((Int32.ofInt 1).toUInt32 &&& Int32.toUInt32 31)).toInt32) &&& (1431655765 : Int32))) &&& (858993459 : Int32)) + ((((x - (((x.toUInt32 >>> ((Int32.ofInt 1).toUInt32 &&& Int32.toUInt32 31)).toInt32) &&& (1431655765 : Int32))).toUInt32 >>> ((Int32.ofInt 2).toUInt32 &&& Int32.toUInt32 31)).toInt32) &&& (858993459 : Int32))) + (((((x - (((x.toUInt32 >>> ((Int32.ofInt 1).toUInt32 &&& Int32.toUInt32 31)).toInt32) &&& (1431655765 : Int32))) &&& (858993459 : Int32)) + ((((x - (((x.toUInt32 >>> ((Int32.ofInt 1).toUInt32 &&& Int32.toUInt32 31)).toInt32) &&& (1431655765 : Int32))).toUInt32 >>> ((Int32.ofInt 2).toUInt32 &&& Int32.toUInt32 31)).toInt32) &&& (858993459 : Int32))).toUInt32 >>> ((Int32.ofInt 4).toUInt32 &&& Int32.toUInt32 31)).toInt32)) &&& (252645135 : Int32)).toUInt32 >>> (((Int8.ofInt 8).toInt32).toUInt32 &&& Int32.toUInt32 31)).toInt32)) + ((((((((x - (((x.toUInt32 >>> ((Int32.ofInt 1).toUInt32 &&& Int32.toUInt32 31)).toInt32) &&& (1431655765 : Int32))) &&& (858993459 : Int32)) + ((((x - (((x.toUInt32 >>> ((Int32.ofInt 1).toUInt32 &&& Int32.toUInt32 31)).toInt32) &&& (1431655765 : Int32))).toUInt32 >>> ((Int32.ofInt 2).toUInt32 &&& Int32.toUInt32 31)).toInt32) &&& (858993459 : Int32))) + (((((x - (((x.toUInt32 >>> ((Int32.ofInt 1).toUInt32 &&& Int32.toUInt32 31)).toInt32) &&& (1431655765 : Int32))) &&& (858993459 : Int32)) + ((((x - (((x.toUInt32 >>> ((Int32.ofInt 1).toUInt32 &&& Int32.toUInt32 31)).toInt32) &&& (1431655765 : Int32))).toUInt32 >>> ((Int32.ofInt 2).toUInt32 &&& Int32.toUInt32 31)).toInt32) &&& (858993459 : Int32))).toUInt32 >>> ((Int32.ofInt 4).toUInt32 &&& Int32.toUInt32 31)).toInt32)) &&& (252645135 : Int32)) + (((((((x - (((x.toUInt32 >>> ((Int32.ofInt 1).toUInt32 &&& Int32.toUInt32 31)).toInt32) &&& (1431655765 : Int32))) &&& (858993459 : Int32)) + ((((x - (((x.toUInt32 >>> ((Int32.ofInt 1).toUInt32 &&& Int32.toUInt32 31)).toInt32) &&& (1431655765 : Int32))).toUInt32 >>> ((Int32.ofInt 2).toUInt32 &&& Int32.toUInt32 31)).toInt32) &&& (858993459 : Int32))) + (((((x - (((x.toUInt32 >>> ((Int32.ofInt 1).toUInt32 &&& Int32.toUInt32 31)).toInt32) &&& (1431655765 : Int32))) &&& (858993459 : Int32)) + ((((x - (((x.toUInt32 >>> ((Int32.ofInt 1).toUInt32 &&& Int32.toUInt32 31)).toInt32) &&& (1431655765 : Int32))).toUInt32 >>> ((Int32.ofInt 2).toUInt32 &&& Int32.toUInt32 31)).toInt32) &&& (858993459 : Int32))).toUInt32 >>> ((Int32.ofInt 4).toUInt32 &&& Int32.toUInt32 31)).toInt32)) &&& (252645135 : Int32)).toUInt32 >>> (((Int8.ofInt 8).toInt32).toUInt32 &&& Int32.toUInt32 31)).toInt32)).toUInt32 >>> (((Int8.ofInt 16).toInt32).toUInt32 &&& Int32.toUInt32 31)).toInt32)) &&& ((Int8.ofInt 63).toInt32))) hz (by decide +kernel) hl_a hu_a
  have hr := bcI_rng a.toInt
  exact En_ret (v := some (Value.int z)) rfl rfl rfl ⟨hσ0, hF0, z, rfl, (by (first | exact q_ce10a64c12 hb hr.1 hr.2 | omega))⟩
/-- java/lang/Integer.bitCount(I)I -/
abbrev P_7bx (σ0 : SG) (a : Int32) : PO := fun v σ => WT σ ∧ Fr [] σ0 σ ∧ ∃ ret : Int32, v = some (Value.int ret) ∧ -ret.toInt ≤ 0 ∧ ret.toInt - 63 ≤ 0
set_option maxRecDepth 10000 in
set_option maxHeartbeats 4000000 in
theorem c_7bx (σ0 : SG) (hσ0 : WT σ0) (a : Int32) : En 0 0 none mr_7 (P_7bx σ0 a) 0 [(0, .int a)] [] σ0 := by
  have hF0 : Fr [] σ0 σ0 := Fr_rfl
  refine En_Ps 4 (pc' := 4) (lv' := [(0, .int a)]) (st' := [.int (((a.toUInt32 >>> (((Int32.ofInt 1)).toUInt32 &&& Int32.toUInt32 31)).toInt32)), .int a]) rfl ?_
  refine En_hav (fun z1 => ?_)
  refine En_Ps 2 (pc' := 8) (lv' := [(0, .int a)]) (st' := [.int ((z1 &&& ((1431655765 : Int32)))), .int a]) rfl ?_
  refine En_rng (l := 0) (u := 1431655765) (andR_rng (by decide : (1431655765 : Int32).toInt = 1431655765) (by decide)) (fun z2 h3 h4 => ?_)
  refine En_Ps 1 (pc' := 9) (lv' := [(0, .int a)]) (st' := [.int ((a - z2))]) rfl ?_
  refine En_hav (fun z5 => ?_)
  refine En_Ps 4 (pc' := 15) (lv' := [(0, .int z5)]) (st' := [.int ((z5 &&& ((858993459 : Int32))))]) rfl ?_
  refine En_rng (l := 0) (u := 858993459) (andR_rng (by decide : (858993459 : Int32).toInt = 858993459) (by decide)) (fun z6 h7 h8 => ?_)
  refine En_Ps 3 (pc' := 18) (lv' := [(0, .int z5)]) (st' := [.int (((z5.toUInt32 >>> (((Int32.ofInt 2)).toUInt32 &&& Int32.toUInt32 31)).toInt32)), .int z6]) rfl ?_
  refine En_hav (fun z9 => ?_)
  refine En_Ps 2 (pc' := 22) (lv' := [(0, .int z5)]) (st' := [.int ((z9 &&& ((858993459 : Int32)))), .int z6]) rfl ?_
  refine En_rng (l := 0) (u := 858993459) (andR_rng (by decide : (858993459 : Int32).toInt = 858993459) (by decide)) (fun z10 h11 h12 => ?_)
  refine En_Ps 1 (pc' := 23) (lv' := [(0, .int z5)]) (st' := [.int ((z6 + z10))]) rfl ?_
  refine En_top (addI rfl rfl (by first | exact q_3bb374bebc h7 h11 | omega) (by first | exact q_ce39e5e0e0 h8 h12 | omega)) (fun z13 h14 => ?_)
  refine En_Ps 5 (pc' := 28) (lv' := [(0, .int z13)]) (st' := [.int (((z13.toUInt32 >>> (((Int32.ofInt 4)).toUInt32 &&& Int32.toUInt32 31)).toInt32)), .int z13]) rfl ?_
  refine En_hav (fun z15 => ?_)
  refine En_Ps 1 (pc' := 29) (lv' := [(0, .int z13)]) (st' := [.int ((z13 + z15))]) rfl ?_
  refine En_hav (fun z16 => ?_)
  refine En_Ps 2 (pc' := 33) (lv' := [(0, .int z13)]) (st' := [.int ((z16 &&& ((252645135 : Int32))))]) rfl ?_
  refine En_rng (l := 0) (u := 252645135) (andR_rng (by decide : (252645135 : Int32).toInt = 252645135) (by decide)) (fun z17 h18 h19 => ?_)
  refine En_Ps 5 (pc' := 39) (lv' := [(0, .int z17)]) (st' := [.int (((z17.toUInt32 >>> ((((Int8.ofInt 8).toInt32)).toUInt32 &&& Int32.toUInt32 31)).toInt32)), .int z17]) rfl ?_
  refine En_hav (fun z20 => ?_)
  refine En_Ps 1 (pc' := 40) (lv' := [(0, .int z17)]) (st' := [.int ((z17 + z20))]) rfl ?_
  refine En_hav (fun z21 => ?_)
  refine En_Ps 5 (pc' := 46) (lv' := [(0, .int z21)]) (st' := [.int (((z21.toUInt32 >>> ((((Int8.ofInt 16).toInt32)).toUInt32 &&& Int32.toUInt32 31)).toInt32)), .int z21]) rfl ?_
  refine En_hav (fun z22 => ?_)
  refine En_Ps 1 (pc' := 47) (lv' := [(0, .int z21)]) (st' := [.int ((z21 + z22))]) rfl ?_
  refine En_hav (fun z23 => ?_)
  refine En_Ps 4 (pc' := 52) (lv' := [(0, .int z23)]) (st' := [.int ((z23 &&& (((Int8.ofInt 63).toInt32))))]) rfl ?_
  refine En_rng (l := 0) (u := 63) (andR_rng (by decide : ((Int8.ofInt 63).toInt32).toInt = 63) (by decide)) (fun z24 h25 h26 => ?_)
  exact En_ret (v := some (Value.int z24)) rfl rfl rfl ⟨hσ0, hF0, z24, rfl, ⟨by first | exact q_c803b490ef h25 | omega, by first | exact q_ac3306975b h26 | omega⟩⟩
/-- java/util/Arrays.fill([II)V -/
abbrev P_8ax (σ0 : SG) (a : Nat) (b : Int32) : PO := fun v σ => WT σ ∧ Fr [(26, 0)] σ0 σ ∧ v = none ∧ ((∀ k : Int, 0 ≤ k → k < 6 → ci σ a k = 0) ∧ ∀ b q : Nat, b ≠ a → (σ b)[q]? = (σ0 b)[q]?)
set_option maxRecDepth 10000 in
set_option maxHeartbeats 4000000 in
theorem c_8ax (σ0 : SG) (hσ0 : WT σ0) (a : Nat) (ha : TG a = 26) (b : Int32) (hl_b : 0 ≤ b.toInt) (hu_b : b.toInt ≤ 0) : En 0 0 none mr_8 (P_8ax σ0 a b) 0 [(0, .ref a), (1, .int b)] [] σ0 := by
  have hF0 : Fr [(26, 0)] σ0 σ0 := Fr_rfl
  refine En_Ps 3 (pc' := 3) (lv' := [(2, .int ((Int32.ofInt 0))), (0, .ref a), (1, .int b)]) (st' := [.ref a]) rfl ?_
  refine En_alenN (n := 6) rfl ha (by decide +kernel) (by decide +kernel) hσ0 ?_
  refine En_Ps 1 (pc' := 5) (lv' := [(3, .int ((Int32.ofNat 6))), (2, .int ((Int32.ofInt 0))), (0, .ref a), (1, .int b)]) (st' := []) rfl ?_
  have key5 : ∀ (n5 : Nat) (σ2 : SG) (y1 : Int32), WT σ2 → Fr [(26, 0)] σ0 σ2 → 0 ≤ y1.toInt → y1.toInt ≤ 6 → -y1.toInt + 6 < (n5 : Int) → FZi σ2 a y1.toInt → (∀ b q : Nat, b ≠ a → (σ2 b)[q]? = (σ0 b)[q]?) → En 0 0 none mr_8 (P_8ax σ0 a b) 5 [(0, .ref a), (1, .int b), (2, .int y1), (3, .int ((Int32.ofNat 6)))] [] σ2 := by
    intro n5
    induction n5 with
    | zero =>
      intro σ2 y1 h3 h4 h5 h6 h7 h8 h9
      first | exact (q_1c67ffb2e6 h7 h6).elim | (exfalso; omega)
    | succ n5 ih5 =>
      intro σ2 y1 h3 h4 h5 h6 h7 h8 h9
      refine En_Ps 2 (pc' := 7) (lv' := [(0, .ref a), (1, .int b), (2, .int y1), (3, .int ((Int32.ofNat 6)))]) (st' := [.int ((Int32.ofNat 6)), .int y1]) rfl ?_
      refine En_icGe _ rfl (by decide : (Int32.ofNat 6).toInt = 6) rfl (fun h10 => ?_) (fun h10 => ?_)
      · exact En_ret (v := none) rfl rfl rfl ⟨h3, h4, rfl, ⟨FZi_x h8 (by (first | exact q_eddbad93f4 h10 | omega)), h9⟩⟩
      · refine En_Ps 3 (pc' := 13) (lv' := [(0, .ref a), (1, .int b), (2, .int y1), (3, .int ((Int32.ofNat 6)))]) (st' := [.int b, .int y1, .ref a]) rfl ?_
        refine En_iast (l := 0) (u := 63) rfl rfl ha (by decide +kernel) (by first | exact q_58e6e51dcc h5 | omega) (lnI (by decide +kernel : LN _ = 6) (by first | exact q_ab9991d2ad h10 | omega)) (FTsgl (by decide +kernel)) (rngI rfl (by first | exact q_58e6e51dcc hl_b | omega) (by first | exact q_6903924f0e hu_b | omega)) h3 h4 (by decide +kernel) (fun σ11 h12 h13 h14 h15 => ?_)
        refine En_Ps 1 (pc' := 17) (lv' := [(2, .int ((y1 + Int32.ofInt 1))), (0, .ref a), (1, .int b), (3, .int ((Int32.ofNat 6)))]) (st' := []) rfl ?_
        refine En_lv1 (addI rfl (by decide : (Int32.ofInt 1).toInt = 1) (by first | exact q_465ab79ac1 h5 | omega) (by first | exact q_2918abfa70 h10 | omega)) (fun z16 h17 => ?_)
        refine En_Ps 1 (pc' := 5) (lv' := [(2, .int z16), (0, .ref a), (1, .int b), (3, .int ((Int32.ofNat 6)))]) (st' := []) rfl ?_
        refine En_lv (lv := [(0, .ref a), (1, .int b), (2, .int z16), (3, .int ((Int32.ofNat 6)))]) ⟨rfl, rfl, rfl, rfl, trivial⟩ ?_
        exact ih5 σ11 z16 h12 h13 (by first | exact q_35104ce9d3 h17 h5 | omega) (by first | exact q_13d1e79bb8 h17 h10 | omega) (by first | exact q_18a3ecfd63 h17 h7 | omega) (FZi_s h8 h14 h15 (by (first | exact q_66af5a274d hl_b hu_b | omega)) (by (first | exact q_9cedef5b60 h5 | omega)) (by (first | exact q_ba1b2c713b h17 | omega))) (NE_s h9 h15)
  have := (by decide : (Int32.ofInt 0).toInt = 0)
  refine En_lv (lv := [(0, .ref a), (1, .int b), (2, .int ((Int32.ofInt 0))), (3, .int ((Int32.ofNat 6)))]) ⟨rfl, rfl, rfl, rfl, trivial⟩ ?_
  exact key5 (Int.toNat (6) + 1) σ0 ((Int32.ofInt 0)) hσ0 hF0 (by decide) (by decide) (by first | exact toN_lt _ | omega) (FZi_0 (by decide)) (fun _ _ _ => rfl)
/-- java/util/Arrays.fill([II)V -/
abbrev P_8bx (σ0 : SG) (a : Nat) (b : Int32) : PO := fun v σ => WT σ ∧ Fr [(16, 0)] σ0 σ ∧ v = none ∧ True
set_option maxRecDepth 10000 in
set_option maxHeartbeats 4000000 in
theorem c_8bx (σ0 : SG) (hσ0 : WT σ0) (a : Nat) (ha : TG a = 16) (b : Int32) (hl_b : 0 ≤ b.toInt) (hu_b : b.toInt ≤ 0) : En 0 0 none mr_8 (P_8bx σ0 a b) 0 [(0, .ref a), (1, .int b)] [] σ0 := by
  have hF0 : Fr [(16, 0)] σ0 σ0 := Fr_rfl
  refine En_Ps 3 (pc' := 3) (lv' := [(2, .int ((Int32.ofInt 0))), (0, .ref a), (1, .int b)]) (st' := [.ref a]) rfl ?_
  refine En_alenN (n := 6) rfl ha (by decide +kernel) (by decide +kernel) hσ0 ?_
  refine En_Ps 1 (pc' := 5) (lv' := [(3, .int ((Int32.ofNat 6))), (2, .int ((Int32.ofInt 0))), (0, .ref a), (1, .int b)]) (st' := []) rfl ?_
  have key5 : ∀ (n5 : Nat) (σ2 : SG) (y1 : Int32), WT σ2 → Fr [(16, 0)] σ0 σ2 → 0 ≤ y1.toInt → y1.toInt ≤ 6 → -y1.toInt + 6 < (n5 : Int) → FZi σ2 a y1.toInt → (∀ b q : Nat, b ≠ a → (σ2 b)[q]? = (σ0 b)[q]?) → En 0 0 none mr_8 (P_8bx σ0 a b) 5 [(0, .ref a), (1, .int b), (2, .int y1), (3, .int ((Int32.ofNat 6)))] [] σ2 := by
    intro n5
    induction n5 with
    | zero =>
      intro σ2 y1 h3 h4 h5 h6 h7 h8 h9
      first | exact (q_1c67ffb2e6 h7 h6).elim | (exfalso; omega)
    | succ n5 ih5 =>
      intro σ2 y1 h3 h4 h5 h6 h7 h8 h9
      refine En_Ps 2 (pc' := 7) (lv' := [(0, .ref a), (1, .int b), (2, .int y1), (3, .int ((Int32.ofNat 6)))]) (st' := [.int ((Int32.ofNat 6)), .int y1]) rfl ?_
      refine En_icGe _ rfl (by decide : (Int32.ofNat 6).toInt = 6) rfl (fun h10 => ?_) (fun h10 => ?_)
      · exact En_ret (v := none) rfl rfl rfl ⟨h3, h4, rfl, trivial⟩
      · refine En_Ps 3 (pc' := 13) (lv' := [(0, .ref a), (1, .int b), (2, .int y1), (3, .int ((Int32.ofNat 6)))]) (st' := [.int b, .int y1, .ref a]) rfl ?_
        refine En_iast (l := 0) (u := 54) rfl rfl ha (by decide +kernel) (by first | exact q_58e6e51dcc h5 | omega) (lnI (by decide +kernel : LN _ = 6) (by first | exact q_ab9991d2ad h10 | omega)) (FTsgl (by decide +kernel)) (rngI rfl (by first | exact q_58e6e51dcc hl_b | omega) (by first | exact q_cad496af17 hu_b | omega)) h3 h4 (by decide +kernel) (fun σ11 h12 h13 h14 h15 => ?_)
        refine En_Ps 1 (pc' := 17) (lv' := [(2, .int ((y1 + Int32.ofInt 1))), (0, .ref a), (1, .int b), (3, .int ((Int32.ofNat 6)))]) (st' := []) rfl ?_
        refine En_lv1 (addI rfl (by decide : (Int32.ofInt 1).toInt = 1) (by first | exact q_465ab79ac1 h5 | omega) (by first | exact q_2918abfa70 h10 | omega)) (fun z16 h17 => ?_)
        refine En_Ps 1 (pc' := 5) (lv' := [(2, .int z16), (0, .ref a), (1, .int b), (3, .int ((Int32.ofNat 6)))]) (st' := []) rfl ?_
        refine En_lv (lv := [(0, .ref a), (1, .int b), (2, .int z16), (3, .int ((Int32.ofNat 6)))]) ⟨rfl, rfl, rfl, rfl, trivial⟩ ?_
        exact ih5 σ11 z16 h12 h13 (by first | exact q_35104ce9d3 h17 h5 | omega) (by first | exact q_13d1e79bb8 h17 h10 | omega) (by first | exact q_18a3ecfd63 h17 h7 | omega) (FZi_s h8 h14 h15 (by omega) (by omega) (by omega)) (NE_s h9 h15)
  have := (by decide : (Int32.ofInt 0).toInt = 0)
  refine En_lv (lv := [(0, .ref a), (1, .int b), (2, .int ((Int32.ofInt 0))), (3, .int ((Int32.ofNat 6)))]) ⟨rfl, rfl, rfl, rfl, trivial⟩ ?_
  exact key5 (Int.toNat (6) + 1) σ0 ((Int32.ofInt 0)) hσ0 hF0 (by decide) (by decide) (by first | exact toN_lt _ | omega) (FZi_0 (by decide)) (fun _ _ _ => rfl)
/-- DoorSchool$Door.begin(II)V -/
abbrev P_12x (σ0 : SG) (s : Nat) (a : Int32) (b : Int32) (l : Nat) : PO := fun v σ => WT σ ∧ Fr [(20, 2), (28, 1), (28, 2), (28, 3)] σ0 σ ∧ v = none ∧ BGNp σ0 σ s l a.toInt b.toInt
set_option maxRecDepth 10000 in
set_option maxHeartbeats 4000000 in
theorem c_12x (σ0 : SG) (hσ0 : WT σ0) (s : Nat) (hs : TG s = 28) (a : Int32) (b : Int32) (hl_a : 0 ≤ a.toInt) (hu_a : a.toInt ≤ 2) (hl_b : 0 ≤ b.toInt) (hu_b : b.toInt ≤ 50) (l : Nat) (hl : TG l = 20) (h_l : (σ0 s)[0]? = some (Value.ref l)) : En 0 0 none mr_12 (P_12x σ0 s a b l) 0 [(0, .ref s), (1, .int a), (2, .int b)] [] σ0 := by
  have hF0 : Fr [(20, 2), (28, 1), (28, 2), (28, 3)] σ0 σ0 := Fr_rfl
  refine En_Ps 2 (pc' := 2) (lv' := [(0, .ref s), (1, .int a), (2, .int b)]) (st' := [.int a, .ref s]) rfl ?_
  refine En_put (j := 1) rfl rfl rfl hs (by decide +kernel) rfl (vI (l := 0) (u := 2) (by decide +kernel) rfl (by first | exact q_58e6e51dcc hl_a | omega) (by first | exact q_a85463bd0d hu_a | omega)) hσ0 hF0 (by decide +kernel) (fun σ1 h2 h3 h4 h5 => ?_)
  refine En_Ps 2 (pc' := 7) (lv' := [(0, .ref s), (1, .int a), (2, .int b)]) (st' := [.int b, .ref s]) rfl ?_
  refine En_put (j := 2) rfl rfl rfl hs (by decide +kernel) rfl (vI (l := 0) (u := 50) (by decide +kernel) rfl (by first | exact q_58e6e51dcc hl_b | omega) (by first | exact q_2eaa18fab1 hu_b | omega)) h2 h3 (by decide +kernel) (fun σ6 h7 h8 h9 h10 => ?_)
  refine En_Ps 2 (pc' := 12) (lv' := [(0, .ref s), (1, .int a), (2, .int b)]) (st' := [.int ((Int32.ofInt (-1))), .ref s]) rfl ?_
  refine En_put (j := 3) rfl rfl rfl hs (by decide +kernel) rfl (vI (l := (-1)) (u := 3) (by decide +kernel) (by decide : (Int32.ofInt (-1)).toInt = -1) (by decide) (by decide)) h7 h8 (by decide +kernel) (fun σ11 h12 h13 h14 h15 => ?_)
  refine En_Ps 1 (pc' := 16) (lv' := [(0, .ref s), (1, .int a), (2, .int b)]) (st' := [.ref s]) rfl ?_
  refine En_getK (j := 0) ((h15 _ _ (Or.inr (by decide))).trans ((h10 _ _ (Or.inr (by decide))).trans ((h5 _ _ (Or.inr (by decide))).trans h_l))) rfl rfl rfl hs (by decide +kernel) ?_
  refine En_Ps 1 (pc' := 20) (lv' := [(0, .ref s), (1, .int a), (2, .int b)]) (st' := [.int ((Int32.ofInt 0)), .ref l]) rfl ?_
  refine En_put (j := 2) rfl rfl rfl hl (by decide +kernel) rfl (vI (l := 0) (u := 13) (by decide +kernel) (by decide : (Int32.ofInt 0).toInt = 0) (by decide) (by decide)) h12 h13 (by decide +kernel) (fun σ16 h17 h18 h19 h20 => ?_)
  exact En_ret (v := none) rfl rfl rfl ⟨h17, h18, rfl, BGN_mk h4 h5 h9 h10 h14 h15 h19 h20 hs hl rfl rfl (by decide) (by decide)⟩
/-- DoorSchool$Lessons.takeFrom(LDoorSchool$Lessons;)V -/
abbrev P_40x (σ0 : SG) (s : Nat) (a : Nat) (kn : Nat) (op : Nat) (ak : Nat) (ao : Nat) (az : Int32) : PO := fun v σ => WT σ ∧ Fr [(20, 2), (21, 0), (22, 0)] σ0 σ ∧ v = none ∧ LTF σ0 σ s kn op a ak ao
set_option maxRecDepth 10000 in
set_option maxHeartbeats 4000000 in
theorem c_40x (σ0 : SG) (hσ0 : WT σ0) (s : Nat) (hs : TG s = 20) (a : Nat) (ha : TG a = 20) (kn : Nat) (hkn : TG kn = 21) (h_kn : (σ0 s)[0]? = some (Value.ref kn)) (op : Nat) (hop : TG op = 22) (h_op : (σ0 s)[1]? = some (Value.ref op)) (ak : Nat) (hak : TG ak = 21) (h_ak : (σ0 a)[0]? = some (Value.ref ak)) (ao : Nat) (hao : TG ao = 22) (h_ao : (σ0 a)[1]? = some (Value.ref ao)) (az : Int32) (h_az : (σ0 a)[2]? = some (Value.int az)) (hs1 : kn = s + 1 ∧ op = s + 2) (ht1 : ak = a + 1 ∧ ao = a + 2) (hd1 : s + 3 ≤ a ∨ a + 3 ≤ s) : En 1 60 none mr_40 (P_40x σ0 s a kn op ak ao az) 0 [(0, .ref s), (1, .ref a)] [] σ0 := by
  obtain ⟨hl_az, hu_az⟩ := WT_int hσ0 (g := 20) ha (by decide +kernel) (l := 0) (u := 13) (by decide +kernel) h_az
  have hF0 : Fr [(20, 2), (21, 0), (22, 0)] σ0 σ0 := Fr_rfl
  refine En_Ps 2 (pc' := 2) (lv' := [(0, .ref s), (1, .ref a)]) (st' := [.ref a, .ref s]) rfl ?_
  refine En_getK (j := 2) h_az rfl rfl rfl ha (by decide +kernel) ?_
  refine En_put (j := 2) rfl rfl rfl hs (by decide +kernel) rfl (vI (l := 0) (u := 13) (by decide +kernel) rfl (by first | exact q_58e6e51dcc hl_az | omega) (by first | exact q_7991346fe8 hu_az | omega)) hσ0 hF0 (by decide +kernel) (fun σ1 h2 h3 h4 h5 => ?_)
  refine En_Ps 1 (pc' := 9) (lv' := [(0, .ref s), (1, .ref a)]) (st' := [.ref a]) rfl ?_
  refine En_getK (j := 0) ((h5 _ _ (Or.inr (by decide))).trans h_ak) rfl rfl rfl ha (by decide +kernel) ?_
  refine En_Ps 2 (pc' := 14) (lv' := [(0, .ref s), (1, .ref a)]) (st' := [.ref s, .int ((Int32.ofInt 0)), .ref ak]) rfl ?_
  refine En_getK (j := 0) ((h5 _ _ (Or.inr (by decide))).trans h_kn) rfl rfl rfl hs (by decide +kernel) ?_
  refine En_Ps 2 (pc' := 20) (lv' := [(0, .ref s), (1, .ref a)]) (st' := [.int (((Int8.ofInt 13).toInt32)), .int ((Int32.ofInt 0)), .ref kn, .int ((Int32.ofInt 0)), .ref ak]) rfl ?_
  refine En_copyX (n0 := 13) (n1 := 13) (by decide : ((Int8.ofInt 13).toInt32).toInt = 13) (by decide : (Int32.ofInt 0).toInt = 0) (by decide : (Int32.ofInt 0).toInt = 0) rfl rfl rfl rfl hak hkn (by decide +kernel) (by decide +kernel) (by decide +kernel) (by decide +kernel) (by decide +kernel) (by (first | decide | omega)) (by (first | decide | omega)) (by (first | decide | omega)) (by (first | decide | omega)) (by (first | decide | omega)) h2 h3 (by decide +kernel) (fun σ6 h7 h8 h9 h10 => ?_)
  have h11 := ROW_mk (n := 13) h9 h10 (by decide) (by decide) (by decide)
  refine En_Ps 1 (pc' := 24) (lv' := [(0, .ref s), (1, .ref a)]) (st' := [.ref a]) rfl ?_
  refine En_getK (j := 1) ((h9 _ _ (neTG ha hkn (by decide))).trans ((h5 _ _ (Or.inr (by decide))).trans h_ao)) rfl rfl rfl ha (by decide +kernel) ?_
  refine En_Ps 2 (pc' := 29) (lv' := [(0, .ref s), (1, .ref a)]) (st' := [.ref s, .int ((Int32.ofInt 0)), .ref ao]) rfl ?_
  refine En_getK (j := 1) ((h9 _ _ (neTG hs hkn (by decide))).trans ((h5 _ _ (Or.inr (by decide))).trans h_op)) rfl rfl rfl hs (by decide +kernel) ?_
  refine En_Ps 2 (pc' := 35) (lv' := [(0, .ref s), (1, .ref a)]) (st' := [.int (((Int8.ofInt 13).toInt32)), .int ((Int32.ofInt 0)), .ref op, .int ((Int32.ofInt 0)), .ref ao]) rfl ?_
  refine En_copyX (n0 := 13) (n1 := 13) (by decide : ((Int8.ofInt 13).toInt32).toInt = 13) (by decide : (Int32.ofInt 0).toInt = 0) (by decide : (Int32.ofInt 0).toInt = 0) rfl rfl rfl rfl hao hop (by decide +kernel) (by decide +kernel) (by decide +kernel) (by decide +kernel) (by decide +kernel) (by (first | decide | omega)) (by (first | decide | omega)) (by (first | decide | omega)) (by (first | decide | omega)) (by (first | decide | omega)) h7 h8 (by decide +kernel) (fun σ12 h13 h14 h15 h16 => ?_)
  have h17 := ROW_mk (n := 13) h15 h16 (by decide) (by decide) (by decide)
  exact En_ret (v := none) rfl rfl rfl ⟨h13, h14, rfl, LTF_mk h_az h4 h5 h11 h17 (by omega) (by omega) (by omega) (by omega) (by omega) (by omega)⟩
/-- DoorSchool$Door.takeFrom(LDoorSchool$Door;)V -/
abbrev P_14x (σ0 : SG) (s : Nat) (a : Nat) (l : Nat) (kn : Nat) (op : Nat) (al : Nat) (ak : Nat) (ao : Nat) : PO := fun v σ => WT σ ∧ Fr [(20, 2), (21, 0), (22, 0), (28, 1), (28, 2), (28, 3)] σ0 σ ∧ v = none ∧ DTF σ0 σ s l kn op a al ak ao
set_option maxRecDepth 10000 in
set_option maxHeartbeats 4000000 in
theorem c_14x (σ0 : SG) (hσ0 : WT σ0) (s : Nat) (hs : TG s = 28) (a : Nat) (ha : TG a = 28) (l : Nat) (hl : TG l = 20) (h_l : (σ0 s)[0]? = some (Value.ref l)) (kn : Nat) (hkn : TG kn = 21) (h_kn : (σ0 l)[0]? = some (Value.ref kn)) (op : Nat) (hop : TG op = 22) (h_op : (σ0 l)[1]? = some (Value.ref op)) (al : Nat) (hal : TG al = 20) (h_al : (σ0 a)[0]? = some (Value.ref al)) (ak : Nat) (hak : TG ak = 21) (h_ak : (σ0 al)[0]? = some (Value.ref ak)) (ao : Nat) (hao : TG ao = 22) (h_ao : (σ0 al)[1]? = some (Value.ref ao)) (hs1 : l = s + 1 ∧ kn = s + 2 ∧ op = s + 3) (ht1 : al = a + 1 ∧ ak = a + 2 ∧ ao = a + 3) (hd1 : s + 4 ≤ a ∨ a + 4 ≤ s) : En 2 81 none mr_14 (P_14x σ0 s a l kn op al ak ao) 0 [(0, .ref s), (1, .ref a)] [] σ0 := by
  have hF0 : Fr [(20, 2), (21, 0), (22, 0), (28, 1), (28, 2), (28, 3)] σ0 σ0 := Fr_rfl
  refine En_Ps 2 (pc' := 2) (lv' := [(0, .ref s), (1, .ref a)]) (st' := [.ref a, .ref s]) rfl ?_
  refine En_getI (j := 1) (l := 0) (u := 2) rfl rfl rfl ha (by decide +kernel) hσ0 (by decide +kernel) (fun z2 h1 h3 h4 => ?_)
  refine En_Ps 1 (pc' := 6) (lv' := [(0, .ref s), (1, .ref a)]) (st' := [.ref a, .int z2, .ref s]) rfl ?_
  refine En_getI (j := 2) (l := 0) (u := 50) rfl rfl rfl ha (by decide +kernel) hσ0 (by decide +kernel) (fun z6 h5 h7 h8 => ?_)
  refine En_callV rfl rfl rfl rfl rfl rfl rfl rfl hs (by decide +kernel) rfl (c_12x σ0 hσ0 s hs z2 z6 (geI rfl (by first | exact q_58e6e51dcc h3 | omega)) (leI rfl (by first | exact q_a85463bd0d h4 | omega)) (geI rfl (by first | exact q_58e6e51dcc h7 | omega)) (leI rfl (by first | exact q_2eaa18fab1 h8 | omega)) l hl h_l) (by decide) (by decide) (fun v10 σ11 h9 => ?_)
  obtain ⟨h12, h13, rfl, h14⟩ := h9
  have h15 := h14
  have h16 := Fr_trans hF0 h13 (by decide +kernel)
  refine En_Ps 2 (pc' := 14) (lv' := [(0, .ref s), (1, .ref a)]) (st' := [.ref a, .ref s]) rfl ?_
  refine En_getI (j := 3) (l := (-1)) (u := 3) rfl rfl rfl ha (by decide +kernel) h12 (by decide +kernel) (fun z18 h17 h19 h20 => ?_)
  have h21 := (h15.2.2.2.2 _ _ (by omega) (by omega) (by omega) (by omega)).symm.trans h17
  refine En_put (j := 3) rfl rfl rfl hs (by decide +kernel) rfl (vI (l := (-1)) (u := 3) (by decide +kernel) rfl (by first | exact q_77b189e83d h19 | omega) (by first | exact q_da5e9b976f h20 | omega)) h12 h16 (by decide +kernel) (fun σ22 h23 h24 h25 h26 => ?_)
  refine En_Ps 1 (pc' := 21) (lv' := [(0, .ref s), (1, .ref a)]) (st' := [.ref s]) rfl ?_
  refine En_getK (j := 0) ((h26 _ _ (Or.inr (by decide))).trans ((h13 _ _ (inW hs (by decide +kernel))).trans h_l)) rfl rfl rfl hs (by decide +kernel) ?_
  refine En_Ps 1 (pc' := 25) (lv' := [(0, .ref s), (1, .ref a)]) (st' := [.ref a, .ref l]) rfl ?_
  refine En_getK (j := 0) ((h26 _ _ (Or.inr (by decide))).trans ((h13 _ _ (inW ha (by decide +kernel))).trans h_al)) rfl rfl rfl ha (by decide +kernel) ?_
  obtain ⟨z28, h27, h29, h30⟩ := WT_peekI h23 hal (by decide +kernel : FT 20 2 = (0, 0, 13)) (by decide +kernel)
  refine En_callV rfl rfl rfl rfl rfl rfl rfl rfl hl (by decide +kernel) rfl (c_40x σ22 h23 l hl al hal kn hkn ((h26 _ _ (Or.inr (by decide))).trans ((h13 _ _ (inW hl (by decide +kernel))).trans h_kn)) op hop ((h26 _ _ (Or.inr (by decide))).trans ((h13 _ _ (inW hl (by decide +kernel))).trans h_op)) ak hak ((h26 _ _ (Or.inr (by decide))).trans ((h13 _ _ (inW hal (by decide +kernel))).trans h_ak)) ao hao ((h26 _ _ (Or.inr (by decide))).trans ((h13 _ _ (inW hal (by decide +kernel))).trans h_ao)) z28 h27 (by omega) (by omega) (by omega)) (by decide) (by decide) (fun v32 σ33 h31 => ?_)
  obtain ⟨h34, h35, rfl, h36⟩ := h31
  have h37 := h36
  have h38 := Fr_trans h24 h35 (by decide +kernel)
  exact En_ret (v := none) rfl rfl rfl ⟨h34, h38, rfl, DTF_mk h15 (ci_at (j := 1) h1 rfl) (ci_at (j := 2) h5 rfl) h21 h25 h26 h37 hs1 ht1 hd1⟩
/-- DoorSchool.bit(II)I -/
abbrev P_108ax (σ0 : SG) (a : Int32) (b : Int32) : PO := fun v σ => WT σ ∧ Fr [] σ0 σ ∧ ∃ ret : Int32, v = some (Value.int ret) ∧ -ret.toInt ≤ 0 ∧ ret.toInt - 1 ≤ 0 ∧ ret.toInt = btI a.toInt b.toInt
set_option maxRecDepth 10000 in
set_option maxHeartbeats 4000000 in
theorem c_108ax (σ0 : SG) (hσ0 : WT σ0) (a : Int32) (b : Int32) (hl_a : 0 ≤ a.toInt) (hu_a : a.toInt ≤ 65535) (hl_b : 0 ≤ b.toInt) (hu_b : b.toInt ≤ 15) : En 0 0 none mr_108 (P_108ax σ0 a b) 0 [(0, .int a), (1, .int b)] [] σ0 := by
  have hF0 : Fr [] σ0 σ0 := Fr_rfl
  refine En_Ps 3 (pc' := 3) (lv' := [(0, .int a), (1, .int b)]) (st' := [.int ((a >>> (b &&& 31)))]) rfl ?_
  refine En_nam (fun z1 h2 => ?_)
  have h3 : z1.toInt = a.toInt / pI b.toInt := shr_v h2 rfl rfl (by omega) (by omega)
  refine En_Ps 2 (pc' := 5) (lv' := [(0, .int a), (1, .int b)]) (st' := [.int ((z1 &&& ((Int32.ofInt 1))))]) rfl ?_
  refine En_nam (fun z4 h5 => ?_)
  have h6 : z4.toInt = btI a.toInt b.toInt := bit_v h5 rfl h3 (by decide : (Int32.ofInt 1).toInt = 1) (by omega)
  have := btI_rng a.toInt b.toInt
  exact En_ret (v := some (Value.int z4)) rfl rfl rfl ⟨hσ0, hF0, z4, rfl, ⟨by omega, by omega, (by omega)⟩⟩
/-- DoorSchool$Lessons.putIn(III)V -/
abbrev P_38ax (σ0 : SG) (s : Nat) (a : Int32) (b : Int32) (c : Int32) (kn : Nat) (op : Nat) (sz : Int32) : PO := fun v σ => WT σ ∧ Fr [(20, 2), (21, 0), (22, 0)] σ0 σ ∧ ∃ sz1 : Int32, (σ s)[2]? = some (Value.int sz1) ∧ v = none ∧ -sz1.toInt + 1 ≤ 0 ∧ sz1.toInt - 13 ≤ 0 ∧ -sz1.toInt + sz.toInt + 1 ≤ 0 ∧ sz1.toInt - sz.toInt - 1 ≤ 0 ∧ ADDp σ0 σ s kn op sz.toInt b.toInt c.toInt
set_option maxRecDepth 10000 in
set_option maxHeartbeats 4000000 in
theorem c_38ax (σ0 : SG) (hσ0 : WT σ0) (s : Nat) (hs : TG s = 20) (a : Int32) (b : Int32) (c : Int32) (hl_a : 0 ≤ a.toInt) (hu_a : a.toInt ≤ 12) (hl_b : 0 ≤ b.toInt) (hu_b : b.toInt ≤ 15) (hl_c : 0 ≤ c.toInt) (hu_c : c.toInt ≤ 1) (kn : Nat) (hkn : TG kn = 21) (h_kn : (σ0 s)[0]? = some (Value.ref kn)) (op : Nat) (hop : TG op = 22) (h_op : (σ0 s)[1]? = some (Value.ref op)) (sz : Int32) (h_sz : (σ0 s)[2]? = some (Value.int sz)) (hp0 : a.toInt - sz.toInt ≤ 0) (hp1 : -a.toInt + sz.toInt ≤ 0) (hp2 : sz.toInt - 12 ≤ 0) : En 0 0 none mr_38 (P_38ax σ0 s a b c kn op sz) 0 [(0, .ref s), (1, .int a), (2, .int b), (3, .int c)] [] σ0 := by
  obtain ⟨hl_sz, hu_sz⟩ := WT_int hσ0 (g := 20) hs (by decide +kernel) (l := 0) (u := 13) (by decide +kernel) h_sz
  have hF0 : Fr [(20, 2), (21, 0), (22, 0)] σ0 σ0 := Fr_rfl
  refine En_Ps 1 (pc' := 1) (lv' := [(0, .ref s), (1, .int a), (2, .int b), (3, .int c)]) (st' := [.int a]) rfl ?_
  refine En_iLt _ rfl rfl (fun hx => by first | exact (q_ca2574f947 hl_a hx).elim | (exfalso; omega)) (fun h1 => ?_)
  refine En_Ps 2 (pc' := 6) (lv' := [(0, .ref s), (1, .int a), (2, .int b), (3, .int c)]) (st' := [.ref s, .int a]) rfl ?_
  refine En_getK (j := 2) h_sz rfl rfl rfl hs (by decide +kernel) ?_
  refine En_icGt _ rfl rfl rfl (fun hx => by first | exact (q_c9193cb1c8 hp0 hx).elim | (exfalso; omega)) (fun h2 => ?_)
  refine En_Ps 1 (pc' := 13) (lv' := [(0, .ref s), (1, .int a), (2, .int b), (3, .int c)]) (st' := [.ref s]) rfl ?_
  refine En_getK (j := 2) h_sz rfl rfl rfl hs (by decide +kernel) ?_
  refine En_Ps 1 (pc' := 18) (lv' := [(0, .ref s), (1, .int a), (2, .int b), (3, .int c)]) (st' := [.int (((Int8.ofInt 13).toInt32)), .int sz]) rfl ?_
  refine En_icLt _ rfl (by decide : ((Int8.ofInt 13).toInt32).toInt = 13) rfl (fun h3 => ?_) (fun hx => by first | exact (q_ab9047be28 hx hp2).elim | (exfalso; omega))
  refine En_Ps 1 (pc' := 23) (lv' := [(0, .ref s), (1, .int a), (2, .int b), (3, .int c)]) (st' := [.ref s]) rfl ?_
  refine En_getK (j := 2) h_sz rfl rfl rfl hs (by decide +kernel) ?_
  refine En_Ps 3 (pc' := 31) (lv' := [(4, .int sz), (0, .ref s), (1, .int a), (2, .int b), (3, .int c)]) (st' := [.int a, .int sz]) rfl ?_
  refine En_icLe _ rfl rfl rfl (fun h4 => ?_) (fun hx => by first | exact (q_938346e14a hx hp1).elim | (exfalso; omega))
  refine En_Ps 1 (pc' := 73) (lv' := [(4, .int sz), (0, .ref s), (1, .int a), (2, .int b), (3, .int c)]) (st' := [.ref s]) rfl ?_
  refine En_getK (j := 0) h_kn rfl rfl rfl hs (by decide +kernel) ?_
  refine En_Ps 2 (pc' := 78) (lv' := [(4, .int sz), (0, .ref s), (1, .int a), (2, .int b), (3, .int c)]) (st' := [.int b, .int a, .ref kn]) rfl ?_
  refine En_iast (l := 0) (u := 15) rfl rfl hkn (by decide +kernel) (by first | exact q_58e6e51dcc hl_a | omega) (lnI (by decide +kernel : LN _ = 13) (by first | exact q_eca5b91a1e hu_a | omega)) (FTsgl (by decide +kernel)) (rngI rfl (by first | exact q_58e6e51dcc hl_b | omega) (by first | exact q_5a4d8a7e08 hu_b | omega)) hσ0 hF0 (by decide +kernel) (fun σ5 h6 h7 h8 h9 => ?_)
  refine En_Ps 1 (pc' := 80) (lv' := [(4, .int sz), (0, .ref s), (1, .int a), (2, .int b), (3, .int c)]) (st' := [.ref s]) rfl ?_
  refine En_getK (j := 1) ((h9 _ _ (Or.inl (neTG hs hkn (by decide)))).trans h_op) rfl rfl rfl hs (by decide +kernel) ?_
  refine En_Ps 2 (pc' := 85) (lv' := [(4, .int sz), (0, .ref s), (1, .int a), (2, .int b), (3, .int c)]) (st' := [.int c, .int a, .ref op]) rfl ?_
  refine En_iast (l := 0) (u := 1) rfl rfl hop (by decide +kernel) (by first | exact q_58e6e51dcc hl_a | omega) (lnI (by decide +kernel : LN _ = 13) (by first | exact q_eca5b91a1e hu_a | omega)) (FTsgl (by decide +kernel)) (rngI rfl (by first | exact q_58e6e51dcc hl_c | omega) (by first | exact q_9d0c30f9c5 hu_c | omega)) h6 h7 (by decide +kernel) (fun σ10 h11 h12 h13 h14 => ?_)
  refine En_Ps 2 (pc' := 88) (lv' := [(4, .int sz), (0, .ref s), (1, .int a), (2, .int b), (3, .int c)]) (st' := [.ref s, .ref s]) rfl ?_
  refine En_getK (j := 2) ((h14 _ _ (Or.inl (neTG hs hop (by decide)))).trans ((h9 _ _ (Or.inl (neTG hs hkn (by decide)))).trans h_sz)) rfl rfl rfl hs (by decide +kernel) ?_
  refine En_Ps 2 (pc' := 93) (lv' := [(4, .int sz), (0, .ref s), (1, .int a), (2, .int b), (3, .int c)]) (st' := [.int ((sz + ((Int32.ofInt 1)))), .ref s]) rfl ?_
  refine En_top (addI rfl (by decide : (Int32.ofInt 1).toInt = 1) (by first | exact q_465ab79ac1 hl_sz | omega) (by first | exact q_bf43a41d51 hp2 | omega)) (fun z15 h16 => ?_)
  refine En_put (j := 2) rfl rfl rfl hs (by decide +kernel) rfl (vI (l := 0) (u := 13) (by decide +kernel) rfl (by first | exact q_35104ce9d3 h16 hl_sz | omega) (by first | exact q_ef750b473d h16 hp2 | omega)) h11 h12 (by decide +kernel) (fun σ17 h18 h19 h20 h21 => ?_)
  exact En_ret (v := none) rfl rfl rfl ⟨h18, h19, z15, h20, rfl, ⟨by first | exact q_eeff886842 h16 hl_sz | omega, by first | exact q_2993df89fb h16 hp2 | omega, by first | exact q_0f0670fdd6 h16 | omega, by first | exact q_9a409ce733 h16 | omega, (by have e9 : a.toInt = sz.toInt := (by (first | exact q_9ad3dc81d7 h4 h2 | omega)); rw [← e9]; exact ADD_mk h8 h9 h13 h14 h20 h21 hs hkn hop rfl rfl (by (first | exact q_24a0445613 e9 h16 | omega)))⟩⟩
/-- DoorSchool$Lessons.putIn(III)V -/
abbrev P_38bx (σ0 : SG) (s : Nat) (a : Int32) (b : Int32) (c : Int32) (kn : Nat) (op : Nat) (sz : Int32) : PO := fun v σ => WT σ ∧ Fr [(20, 2), (21, 0), (22, 0)] σ0 σ ∧ ∃ sz1 : Int32, (σ s)[2]? = some (Value.int sz1) ∧ v = none ∧ -sz1.toInt + 1 ≤ 0 ∧ sz1.toInt - 13 ≤ 0 ∧ -sz1.toInt + sz.toInt + 1 ≤ 0 ∧ sz1.toInt - sz.toInt - 1 ≤ 0 ∧ PTp σ0 σ s kn op a.toInt sz.toInt b.toInt c.toInt
set_option maxRecDepth 10000 in
set_option maxHeartbeats 4000000 in
theorem c_38bx (σ0 : SG) (hσ0 : WT σ0) (s : Nat) (hs : TG s = 20) (a : Int32) (b : Int32) (c : Int32) (hl_a : 0 ≤ a.toInt) (hu_a : a.toInt ≤ 12) (hl_b : 0 ≤ b.toInt) (hu_b : b.toInt ≤ 15) (hl_c : 0 ≤ c.toInt) (hu_c : c.toInt ≤ 1) (kn : Nat) (hkn : TG kn = 21) (h_kn : (σ0 s)[0]? = some (Value.ref kn)) (op : Nat) (hop : TG op = 22) (h_op : (σ0 s)[1]? = some (Value.ref op)) (sz : Int32) (h_sz : (σ0 s)[2]? = some (Value.int sz)) (hp0 : a.toInt - sz.toInt ≤ 0) (hp1 : sz.toInt - 12 ≤ 0) : En 0 0 none mr_38 (P_38bx σ0 s a b c kn op sz) 0 [(0, .ref s), (1, .int a), (2, .int b), (3, .int c)] [] σ0 := by
  obtain ⟨hl_sz, hu_sz⟩ := WT_int hσ0 (g := 20) hs (by decide +kernel) (l := 0) (u := 13) (by decide +kernel) h_sz
  have hF0 : Fr [(20, 2), (21, 0), (22, 0)] σ0 σ0 := Fr_rfl
  refine En_Ps 1 (pc' := 1) (lv' := [(0, .ref s), (1, .int a), (2, .int b), (3, .int c)]) (st' := [.int a]) rfl ?_
  refine En_iLt _ rfl rfl (fun hx => by first | exact (q_ca2574f947 hl_a hx).elim | (exfalso; omega)) (fun h1 => ?_)
  refine En_Ps 2 (pc' := 6) (lv' := [(0, .ref s), (1, .int a), (2, .int b), (3, .int c)]) (st' := [.ref s, .int a]) rfl ?_
  refine En_getK (j := 2) h_sz rfl rfl rfl hs (by decide +kernel) ?_
  refine En_icGt _ rfl rfl rfl (fun hx => by first | exact (q_c9193cb1c8 hp0 hx).elim | (exfalso; omega)) (fun h2 => ?_)
  refine En_Ps 1 (pc' := 13) (lv' := [(0, .ref s), (1, .int a), (2, .int b), (3, .int c)]) (st' := [.ref s]) rfl ?_
  refine En_getK (j := 2) h_sz rfl rfl rfl hs (by decide +kernel) ?_
  refine En_Ps 1 (pc' := 18) (lv' := [(0, .ref s), (1, .int a), (2, .int b), (3, .int c)]) (st' := [.int (((Int8.ofInt 13).toInt32)), .int sz]) rfl ?_
  refine En_icLt _ rfl (by decide : ((Int8.ofInt 13).toInt32).toInt = 13) rfl (fun h3 => ?_) (fun hx => by first | exact (q_ab9047be28 hx hp1).elim | (exfalso; omega))
  refine En_Ps 1 (pc' := 23) (lv' := [(0, .ref s), (1, .int a), (2, .int b), (3, .int c)]) (st' := [.ref s]) rfl ?_
  refine En_getK (j := 2) h_sz rfl rfl rfl hs (by decide +kernel) ?_
  refine En_Ps 1 (pc' := 28) (lv' := [(4, .int sz), (0, .ref s), (1, .int a), (2, .int b), (3, .int c)]) (st' := []) rfl ?_
  have key28 : ∀ (n28 : Nat) (σ5 : SG) (y4 : Int32), WT σ5 → Fr [(20, 2), (21, 0), (22, 0)] σ0 σ5 → (σ5 s)[0]? = some (Value.ref kn) → (σ5 s)[1]? = some (Value.ref op) → (σ5 s)[2]? = some (Value.int sz) → 0 ≤ y4.toInt → y4.toInt ≤ 12 → a.toInt - y4.toInt ≤ 0 → y4.toInt - sz.toInt ≤ 0 → y4.toInt - a.toInt < (n28 : Int) → PTI σ0 σ5 kn op sz.toInt y4.toInt → En 0 0 none mr_38 (P_38bx σ0 s a b c kn op sz) 28 [(0, .ref s), (1, .int a), (2, .int b), (3, .int c), (4, .int y4)] [] σ5 := by
    intro n28
    induction n28 with
    | zero =>
      intro σ5 y4 h6 h7 h8 h9 h10 h11 h12 h13 h14 h15 h16
      first | exact (q_14257feae7 h13 h15).elim | (exfalso; omega)
    | succ n28 ih28 =>
      intro σ5 y4 h6 h7 h8 h9 h10 h11 h12 h13 h14 h15 h16
      refine En_Ps 2 (pc' := 31) (lv' := [(0, .ref s), (1, .int a), (2, .int b), (3, .int c), (4, .int y4)]) (st' := [.int a, .int y4]) rfl ?_
      refine En_icLe _ rfl rfl rfl (fun h17 => ?_) (fun h17 => ?_)
      · refine En_Ps 1 (pc' := 73) (lv' := [(0, .ref s), (1, .int a), (2, .int b), (3, .int c), (4, .int y4)]) (st' := [.ref s]) rfl ?_
        refine En_getK (j := 0) h8 rfl rfl rfl hs (by decide +kernel) ?_
        refine En_Ps 2 (pc' := 78) (lv' := [(0, .ref s), (1, .int a), (2, .int b), (3, .int c), (4, .int y4)]) (st' := [.int b, .int a, .ref kn]) rfl ?_
        refine En_iast (l := 0) (u := 15) rfl rfl hkn (by decide +kernel) (by first | exact q_58e6e51dcc hl_a | omega) (lnI (by decide +kernel : LN _ = 13) (by first | exact q_eca5b91a1e hu_a | omega)) (FTsgl (by decide +kernel)) (rngI rfl (by first | exact q_58e6e51dcc hl_b | omega) (by first | exact q_5a4d8a7e08 hu_b | omega)) h6 h7 (by decide +kernel) (fun σ18 h19 h20 h21 h22 => ?_)
        refine En_Ps 1 (pc' := 80) (lv' := [(0, .ref s), (1, .int a), (2, .int b), (3, .int c), (4, .int y4)]) (st' := [.ref s]) rfl ?_
        refine En_getK (j := 1) ((h22 _ _ (Or.inl (neTG hs hkn (by decide)))).trans h9) rfl rfl rfl hs (by decide +kernel) ?_
        refine En_Ps 2 (pc' := 85) (lv' := [(0, .ref s), (1, .int a), (2, .int b), (3, .int c), (4, .int y4)]) (st' := [.int c, .int a, .ref op]) rfl ?_
        refine En_iast (l := 0) (u := 1) rfl rfl hop (by decide +kernel) (by first | exact q_58e6e51dcc hl_a | omega) (lnI (by decide +kernel : LN _ = 13) (by first | exact q_eca5b91a1e hu_a | omega)) (FTsgl (by decide +kernel)) (rngI rfl (by first | exact q_58e6e51dcc hl_c | omega) (by first | exact q_9d0c30f9c5 hu_c | omega)) h19 h20 (by decide +kernel) (fun σ23 h24 h25 h26 h27 => ?_)
        refine En_Ps 2 (pc' := 88) (lv' := [(0, .ref s), (1, .int a), (2, .int b), (3, .int c), (4, .int y4)]) (st' := [.ref s, .ref s]) rfl ?_
        refine En_getK (j := 2) ((h27 _ _ (Or.inl (neTG hs hop (by decide)))).trans ((h22 _ _ (Or.inl (neTG hs hkn (by decide)))).trans h10)) rfl rfl rfl hs (by decide +kernel) ?_
        refine En_Ps 2 (pc' := 93) (lv' := [(0, .ref s), (1, .int a), (2, .int b), (3, .int c), (4, .int y4)]) (st' := [.int ((sz + ((Int32.ofInt 1)))), .ref s]) rfl ?_
        refine En_top (addI rfl (by decide : (Int32.ofInt 1).toInt = 1) (by first | exact q_465ab79ac1 hl_sz | omega) (by first | exact q_bf43a41d51 hp1 | omega)) (fun z28 h29 => ?_)
        refine En_put (j := 2) rfl rfl rfl hs (by decide +kernel) rfl (vI (l := 0) (u := 13) (by decide +kernel) rfl (by first | exact q_35104ce9d3 h29 hl_sz | omega) (by first | exact q_ef750b473d h29 hp1 | omega)) h24 h25 (by decide +kernel) (fun σ30 h31 h32 h33 h34 => ?_)
        exact En_ret (v := none) rfl rfl rfl ⟨h31, h32, z28, h33, rfl, ⟨by first | exact q_eeff886842 h29 hl_sz | omega, by first | exact q_2993df89fb h29 hp1 | omega, by first | exact q_0f0670fdd6 h29 | omega, by first | exact q_9a409ce733 h29 | omega, PTI_x h16 (by (first | exact q_596e244303 h13 h17 | omega)) h21 h22 h26 h27 h33 h34 rfl (by (first | exact q_58e6e51dcc h1 | omega)) (neTG hkn hop (by decide)) (neTG hkn hs (by decide)) (neTG hop hs (by decide)) (by (first | exact q_ba1b2c713b h29 | omega))⟩⟩
      · refine En_Ps 1 (pc' := 35) (lv' := [(0, .ref s), (1, .int a), (2, .int b), (3, .int c), (4, .int y4)]) (st' := [.ref s]) rfl ?_
        refine En_getK (j := 0) h8 rfl rfl rfl hs (by decide +kernel) ?_
        refine En_Ps 2 (pc' := 41) (lv' := [(0, .ref s), (1, .int a), (2, .int b), (3, .int c), (4, .int y4)]) (st' := [.ref s, .int y4, .ref kn]) rfl ?_
        refine En_getK (j := 0) h8 rfl rfl rfl hs (by decide +kernel) ?_
        refine En_Ps 3 (pc' := 48) (lv' := [(0, .ref s), (1, .int a), (2, .int b), (3, .int c), (4, .int y4)]) (st' := [.int ((y4 - ((Int32.ofInt 1)))), .ref kn, .int y4, .ref kn]) rfl ?_
        refine En_top (subI rfl (by decide : (Int32.ofInt 1).toInt = 1) (by first | exact q_93f9478bef h11 | omega) (by first | exact q_5f4a85dce3 h12 | omega)) (fun z35 h36 => ?_)
        refine En_iald (l := 0) (u := 15) rfl rfl hkn (by decide +kernel) h6 (by first | exact q_33d4421f1e h36 h17 hl_a | omega) (lnI (by decide +kernel : LN _ = 13) (by first | exact q_5fc37093b9 h36 h12 | omega)) (FTsgl (by decide +kernel)) (fun z38 h37 h39 h40 => ?_)
        refine En_iast (l := 0) (u := 15) rfl rfl hkn (by decide +kernel) (by first | exact q_58e6e51dcc h11 | omega) (lnI (by decide +kernel : LN _ = 13) (by first | exact q_eca5b91a1e h12 | omega)) (FTsgl (by decide +kernel)) (rngI rfl (by first | exact q_58e6e51dcc h39 | omega) (by first | exact q_5a4d8a7e08 h40 | omega)) h6 h7 (by decide +kernel) (fun σ41 h42 h43 h44 h45 => ?_)
        refine En_Ps 1 (pc' := 51) (lv' := [(0, .ref s), (1, .int a), (2, .int b), (3, .int c), (4, .int y4)]) (st' := [.ref s]) rfl ?_
        refine En_getK (j := 1) ((h45 _ _ (Or.inl (neTG hs hkn (by decide)))).trans h9) rfl rfl rfl hs (by decide +kernel) ?_
        refine En_Ps 2 (pc' := 57) (lv' := [(0, .ref s), (1, .int a), (2, .int b), (3, .int c), (4, .int y4)]) (st' := [.ref s, .int y4, .ref op]) rfl ?_
        refine En_getK (j := 1) ((h45 _ _ (Or.inl (neTG hs hkn (by decide)))).trans h9) rfl rfl rfl hs (by decide +kernel) ?_
        refine En_Ps 3 (pc' := 64) (lv' := [(0, .ref s), (1, .int a), (2, .int b), (3, .int c), (4, .int y4)]) (st' := [.int ((y4 - ((Int32.ofInt 1)))), .ref op, .int y4, .ref op]) rfl ?_
        refine En_top (subI rfl (by decide : (Int32.ofInt 1).toInt = 1) (by first | exact q_93f9478bef h11 | omega) (by first | exact q_5f4a85dce3 h12 | omega)) (fun z46 h47 => ?_)
        refine En_iald (l := 0) (u := 1) rfl rfl hop (by decide +kernel) h42 (by first | exact q_33d4421f1e h47 h17 hl_a | omega) (lnI (by decide +kernel : LN _ = 13) (by first | exact q_5fc37093b9 h47 h12 | omega)) (FTsgl (by decide +kernel)) (fun z49 h48 h50 h51 => ?_)
        refine En_iast (l := 0) (u := 1) rfl rfl hop (by decide +kernel) (by first | exact q_58e6e51dcc h11 | omega) (lnI (by decide +kernel : LN _ = 13) (by first | exact q_eca5b91a1e h12 | omega)) (FTsgl (by decide +kernel)) (rngI rfl (by first | exact q_58e6e51dcc h50 | omega) (by first | exact q_9d0c30f9c5 h51 | omega)) h42 h43 (by decide +kernel) (fun σ52 h53 h54 h55 h56 => ?_)
        refine En_Ps 1 (pc' := 69) (lv' := [(4, .int ((y4 + Int32.ofInt (-1)))), (0, .ref s), (1, .int a), (2, .int b), (3, .int c)]) (st' := []) rfl ?_
        refine En_lv1 (addI rfl (by decide : (Int32.ofInt (-1)).toInt = -1) (by first | exact q_069e58d060 h11 | omega) (by first | exact q_22df3f42b4 h12 | omega)) (fun z57 h58 => ?_)
        refine En_Ps 1 (pc' := 28) (lv' := [(4, .int z57), (0, .ref s), (1, .int a), (2, .int b), (3, .int c)]) (st' := []) rfl ?_
        refine En_lv (lv := [(0, .ref s), (1, .int a), (2, .int b), (3, .int c), (4, .int z57)]) ⟨rfl, rfl, rfl, rfl, rfl, trivial⟩ ?_
        exact ih28 σ52 z57 h53 h54 ((h56 _ _ (Or.inl (neTG hs hop (by decide)))).trans ((h45 _ _ (Or.inl (neTG hs hkn (by decide)))).trans h8)) ((h56 _ _ (Or.inl (neTG hs hop (by decide)))).trans ((h45 _ _ (Or.inl (neTG hs hkn (by decide)))).trans h9)) ((h56 _ _ (Or.inl (neTG hs hop (by decide)))).trans ((h45 _ _ (Or.inl (neTG hs hkn (by decide)))).trans h10)) (by first | exact q_f5ee678ee2 h58 h17 hl_a | omega) (by first | exact q_bf87cd541d h58 h12 | omega) (by first | exact q_4fa3e3f0d6 h17 h58 | omega) (by first | exact q_fbcec499c6 h14 h58 | omega) (by first | exact q_60d27c56d4 h58 h15 | omega) (PTI_s (J := y4.toInt) (J' := y4.toInt - 1) h16 (neTG hkn hop (by decide)) (by rw [show y4.toInt - 1 = z35.toInt by (first | exact q_3158e72c55 h36 | omega)]; exact h37) h44 h45 (by rw [show y4.toInt - 1 = z46.toInt by (first | exact q_3158e72c55 h47 | omega)]; exact h48) h55 h56 (by (first | exact q_61ddd2b576 | omega)) (by (first | exact q_38c22365c1 | omega)) (by (first | exact q_91a80efd7a h17 h1 | omega)) (by (first | exact q_2f9e8475ec h14 | omega)) (by (first | exact q_fb0fb1e27f h58 | omega)))
  refine En_lv (lv := [(0, .ref s), (1, .int a), (2, .int b), (3, .int c), (4, .int sz)]) ⟨rfl, rfl, rfl, rfl, rfl, trivial⟩ ?_
  exact key28 (Int.toNat (sz.toInt - a.toInt) + 1) σ0 sz hσ0 hF0 h_kn h_op h_sz (by first | exact q_58e6e51dcc hl_sz | omega) (by first | exact q_b48fc66505 hp1 | omega) (by first | exact q_f67127b06c hp0 | omega) (by first | exact q_1bb76abeaf | omega) (by first | exact toN_lt _ | omega) (PTI_0 rfl)
/-- DoorSchool$Lessons.add(II)V -/
abbrev P_31x (σ0 : SG) (s : Nat) (a : Int32) (b : Int32) (kn : Nat) (op : Nat) (sz : Int32) : PO := fun v σ => WT σ ∧ Fr [(20, 2), (21, 0), (22, 0)] σ0 σ ∧ ∃ sz1 : Int32, (σ s)[2]? = some (Value.int sz1) ∧ v = none ∧ -sz1.toInt + 1 ≤ 0 ∧ sz1.toInt - 13 ≤ 0 ∧ -sz1.toInt + sz.toInt + 1 ≤ 0 ∧ sz1.toInt - sz.toInt - 1 ≤ 0 ∧ ADDp σ0 σ s kn op sz.toInt a.toInt b.toInt
set_option maxRecDepth 10000 in
set_option maxHeartbeats 4000000 in
theorem c_31x (σ0 : SG) (hσ0 : WT σ0) (s : Nat) (hs : TG s = 20) (a : Int32) (b : Int32) (hl_a : 0 ≤ a.toInt) (hu_a : a.toInt ≤ 15) (hl_b : 0 ≤ b.toInt) (hu_b : b.toInt ≤ 1) (kn : Nat) (hkn : TG kn = 21) (h_kn : (σ0 s)[0]? = some (Value.ref kn)) (op : Nat) (hop : TG op = 22) (h_op : (σ0 s)[1]? = some (Value.ref op)) (sz : Int32) (h_sz : (σ0 s)[2]? = some (Value.int sz)) (hp0 : sz.toInt - 12 ≤ 0) : En 1 24 none mr_31 (P_31x σ0 s a b kn op sz) 0 [(0, .ref s), (1, .int a), (2, .int b)] [] σ0 := by
  obtain ⟨hl_sz, hu_sz⟩ := WT_int hσ0 (g := 20) hs (by decide +kernel) (l := 0) (u := 13) (by decide +kernel) h_sz
  have hF0 : Fr [(20, 2), (21, 0), (22, 0)] σ0 σ0 := Fr_rfl
  refine En_Ps 2 (pc' := 2) (lv' := [(0, .ref s), (1, .int a), (2, .int b)]) (st' := [.ref s, .ref s]) rfl ?_
  refine En_getK (j := 2) h_sz rfl rfl rfl hs (by decide +kernel) ?_
  refine En_Ps 2 (pc' := 7) (lv' := [(0, .ref s), (1, .int a), (2, .int b)]) (st' := [.int b, .int a, .int sz, .ref s]) rfl ?_
  refine En_callV rfl rfl rfl rfl rfl rfl rfl rfl hs (by decide +kernel) rfl (c_38ax σ0 hσ0 s hs sz a b (geI rfl (by first | exact q_58e6e51dcc hl_sz | omega)) (leI rfl (by first | exact q_b48fc66505 hp0 | omega)) (geI rfl (by first | exact q_58e6e51dcc hl_a | omega)) (leI rfl (by first | exact q_5a4d8a7e08 hu_a | omega)) (geI rfl (by first | exact q_58e6e51dcc hl_b | omega)) (leI rfl (by first | exact q_9d0c30f9c5 hu_b | omega)) kn hkn h_kn op hop h_op sz h_sz (by first | exact q_1bb76abeaf | omega) (by first | exact q_857069189f | omega) (by first | exact q_1d71e39f5f hp0 | omega)) (by decide) (by decide) (fun v2 σ3 h1 => ?_)
  obtain ⟨h4, h5, z7, h8, rfl, h6⟩ := h1
  have h9 := h6.2.2.2.2
  have h10 := Fr_trans hF0 h5 (by decide +kernel)
  exact En_ret (v := none) rfl rfl rfl ⟨h4, h10, z7, h8, rfl, ⟨by first | exact q_68fbff215b h6.1 | omega, by first | exact q_74b353401a h6.2.1 | omega, by first | exact q_b8b1191c64 h6.2.2.1 | omega, by first | exact q_9a4fe11a50 h6.2.2.2.1 | omega, h9⟩⟩
/-- DoorSchool$Lessons.takeOut(I)V -/
abbrev P_41ax (σ0 : SG) (s : Nat) (a : Int32) (kn : Nat) (op : Nat) (sz : Int32) : PO := fun v σ => WT σ ∧ Fr [(20, 2)] σ0 σ ∧ ∃ sz1 : Int32, (σ s)[2]? = some (Value.int sz1) ∧ v = none ∧ -sz1.toInt ≤ 0 ∧ sz1.toInt - 12 ≤ 0 ∧ -sz1.toInt + sz.toInt - 1 ≤ 0 ∧ sz1.toInt - sz.toInt + 1 ≤ 0 ∧ sz1.toInt - sz.toInt + 1 ≤ 0 ∧ -sz1.toInt + sz.toInt - 1 ≤ 0 ∧ DRPp σ0 σ s sz.toInt
set_option maxRecDepth 10000 in
set_option maxHeartbeats 4000000 in
theorem c_41ax (σ0 : SG) (hσ0 : WT σ0) (s : Nat) (hs : TG s = 20) (a : Int32) (hl_a : 0 ≤ a.toInt) (hu_a : a.toInt ≤ 12) (kn : Nat) (hkn : TG kn = 21) (h_kn : (σ0 s)[0]? = some (Value.ref kn)) (op : Nat) (hop : TG op = 22) (h_op : (σ0 s)[1]? = some (Value.ref op)) (sz : Int32) (h_sz : (σ0 s)[2]? = some (Value.int sz)) (hp0 : a.toInt - sz.toInt + 1 ≤ 0) (hp1 : -a.toInt + sz.toInt - 1 ≤ 0) : En 0 0 none mr_41 (P_41ax σ0 s a kn op sz) 0 [(0, .ref s), (1, .int a)] [] σ0 := by
  obtain ⟨hl_sz, hu_sz⟩ := WT_int hσ0 (g := 20) hs (by decide +kernel) (l := 0) (u := 13) (by decide +kernel) h_sz
  have hF0 : Fr [(20, 2)] σ0 σ0 := Fr_rfl
  refine En_Ps 1 (pc' := 1) (lv' := [(0, .ref s), (1, .int a)]) (st' := [.int a]) rfl ?_
  refine En_iLt _ rfl rfl (fun hx => by first | exact (q_ca2574f947 hl_a hx).elim | (exfalso; omega)) (fun h1 => ?_)
  refine En_Ps 2 (pc' := 6) (lv' := [(0, .ref s), (1, .int a)]) (st' := [.ref s, .int a]) rfl ?_
  refine En_getK (j := 2) h_sz rfl rfl rfl hs (by decide +kernel) ?_
  refine En_icLt _ rfl rfl rfl (fun h2 => ?_) (fun hx => by first | exact (q_92d2fd6345 hp0 hx).elim | (exfalso; omega))
  refine En_Ps 5 (pc' := 18) (lv' := [(2, .int a), (0, .ref s), (1, .int a)]) (st' := [.int ((a + ((Int32.ofInt 1))))]) rfl ?_
  refine En_top (addI rfl (by decide : (Int32.ofInt 1).toInt = 1) (by first | exact q_465ab79ac1 hl_a | omega) (by first | exact q_1fdc13c345 hu_a | omega)) (fun z3 h4 => ?_)
  refine En_Ps 1 (pc' := 19) (lv' := [(2, .int a), (0, .ref s), (1, .int a)]) (st' := [.ref s, .int z3]) rfl ?_
  refine En_getK (j := 2) h_sz rfl rfl rfl hs (by decide +kernel) ?_
  refine En_icGe _ rfl rfl rfl (fun h5 => ?_) (fun hx => by first | exact (q_948883f2c4 hp1 h4 hx).elim | (exfalso; omega))
  refine En_Ps 2 (pc' := 61) (lv' := [(2, .int a), (0, .ref s), (1, .int a)]) (st' := [.ref s, .ref s]) rfl ?_
  refine En_getK (j := 2) h_sz rfl rfl rfl hs (by decide +kernel) ?_
  refine En_Ps 2 (pc' := 66) (lv' := [(2, .int a), (0, .ref s), (1, .int a)]) (st' := [.int ((sz - ((Int32.ofInt 1)))), .ref s]) rfl ?_
  refine En_top (subI rfl (by decide : (Int32.ofInt 1).toInt = 1) (by first | exact q_93f9478bef hl_sz | omega) (by first | exact q_36ce509e97 hu_sz | omega)) (fun z6 h7 => ?_)
  refine En_put (j := 2) rfl rfl rfl hs (by decide +kernel) rfl (vI (l := 0) (u := 13) (by decide +kernel) rfl (by first | exact q_7aac38d150 h7 hp0 hl_a | omega) (by first | exact q_6c9ce9e948 h7 hu_sz | omega)) hσ0 hF0 (by decide +kernel) (fun σ8 h9 h10 h11 h12 => ?_)
  exact En_ret (v := none) rfl rfl rfl ⟨h9, h10, z6, h11, rfl, ⟨by first | exact q_a3a41410e6 h7 hp0 hl_a | omega, by first | exact q_d44cac6eaa h7 hu_sz | omega, by first | exact q_e4a5646b6e h7 | omega, by first | exact q_8e6f8e4fd9 h7 | omega, by first | exact q_8e6f8e4fd9 h7 | omega, by first | exact q_e4a5646b6e h7 | omega, DRP_mk h11 h12 (by (first | exact q_0c138feee5 h7 | omega))⟩⟩
/-- DoorSchool$Lessons.takeOut(I)V -/
abbrev P_41bx (σ0 : SG) (s : Nat) (a : Int32) (kn : Nat) (op : Nat) (sz : Int32) : PO := fun v σ => WT σ ∧ Fr [(20, 2), (21, 0), (22, 0)] σ0 σ ∧ ∃ sz1 : Int32, (σ s)[2]? = some (Value.int sz1) ∧ v = none ∧ -sz1.toInt ≤ 0 ∧ sz1.toInt - 12 ≤ 0 ∧ -sz1.toInt + sz.toInt - 1 ≤ 0 ∧ sz1.toInt - sz.toInt + 1 ≤ 0 ∧ sz1.toInt - sz.toInt + 1 ≤ 0 ∧ -sz1.toInt + sz.toInt - 1 ≤ 0 ∧ TKO σ0 σ s kn op a.toInt sz.toInt
set_option maxRecDepth 10000 in
set_option maxHeartbeats 4000000 in
theorem c_41bx (σ0 : SG) (hσ0 : WT σ0) (s : Nat) (hs : TG s = 20) (a : Int32) (hl_a : 0 ≤ a.toInt) (hu_a : a.toInt ≤ 12) (kn : Nat) (hkn : TG kn = 21) (h_kn : (σ0 s)[0]? = some (Value.ref kn)) (op : Nat) (hop : TG op = 22) (h_op : (σ0 s)[1]? = some (Value.ref op)) (sz : Int32) (h_sz : (σ0 s)[2]? = some (Value.int sz)) (hp0 : a.toInt - sz.toInt + 1 ≤ 0) : En 0 0 none mr_41 (P_41bx σ0 s a kn op sz) 0 [(0, .ref s), (1, .int a)] [] σ0 := by
  obtain ⟨hl_sz, hu_sz⟩ := WT_int hσ0 (g := 20) hs (by decide +kernel) (l := 0) (u := 13) (by decide +kernel) h_sz
  have hF0 : Fr [(20, 2), (21, 0), (22, 0)] σ0 σ0 := Fr_rfl
  refine En_Ps 1 (pc' := 1) (lv' := [(0, .ref s), (1, .int a)]) (st' := [.int a]) rfl ?_
  refine En_iLt _ rfl rfl (fun hx => by first | exact (q_ca2574f947 hl_a hx).elim | (exfalso; omega)) (fun h1 => ?_)
  refine En_Ps 2 (pc' := 6) (lv' := [(0, .ref s), (1, .int a)]) (st' := [.ref s, .int a]) rfl ?_
  refine En_getK (j := 2) h_sz rfl rfl rfl hs (by decide +kernel) ?_
  refine En_icLt _ rfl rfl rfl (fun h2 => ?_) (fun hx => by first | exact (q_92d2fd6345 hp0 hx).elim | (exfalso; omega))
  refine En_Ps 2 (pc' := 15) (lv' := [(2, .int a), (0, .ref s), (1, .int a)]) (st' := []) rfl ?_
  have key15 : ∀ (n15 : Nat) (σ4 : SG) (y3 : Int32), WT σ4 → Fr [(20, 2), (21, 0), (22, 0)] σ0 σ4 → (σ4 s)[0]? = some (Value.ref kn) → (σ4 s)[1]? = some (Value.ref op) → (σ4 s)[2]? = some (Value.int sz) → 0 ≤ y3.toInt → y3.toInt ≤ 12 → a.toInt - y3.toInt ≤ 0 → y3.toInt - sz.toInt + 1 ≤ 0 → sz.toInt - y3.toInt < (n15 : Int) → TKI σ0 σ4 kn op a.toInt y3.toInt → En 0 0 none mr_41 (P_41bx σ0 s a kn op sz) 15 [(0, .ref s), (1, .int a), (2, .int y3)] [] σ4 := by
    intro n15
    induction n15 with
    | zero =>
      intro σ4 y3 h5 h6 h7 h8 h9 h10 h11 h12 h13 h14 h15
      first | exact (q_33086d7645 h13 h14).elim | (exfalso; omega)
    | succ n15 ih15 =>
      intro σ4 y3 h5 h6 h7 h8 h9 h10 h11 h12 h13 h14 h15
      refine En_Ps 3 (pc' := 18) (lv' := [(0, .ref s), (1, .int a), (2, .int y3)]) (st' := [.int ((y3 + ((Int32.ofInt 1))))]) rfl ?_
      refine En_top (addI rfl (by decide : (Int32.ofInt 1).toInt = 1) (by first | exact q_465ab79ac1 h10 | omega) (by first | exact q_1fdc13c345 h11 | omega)) (fun z16 h17 => ?_)
      refine En_Ps 1 (pc' := 19) (lv' := [(0, .ref s), (1, .int a), (2, .int y3)]) (st' := [.ref s, .int z16]) rfl ?_
      refine En_getK (j := 2) h9 rfl rfl rfl hs (by decide +kernel) ?_
      refine En_icGe _ rfl rfl rfl (fun h18 => ?_) (fun h18 => ?_)
      · refine En_Ps 2 (pc' := 61) (lv' := [(0, .ref s), (1, .int a), (2, .int y3)]) (st' := [.ref s, .ref s]) rfl ?_
        refine En_getK (j := 2) h9 rfl rfl rfl hs (by decide +kernel) ?_
        refine En_Ps 2 (pc' := 66) (lv' := [(0, .ref s), (1, .int a), (2, .int y3)]) (st' := [.int ((sz - ((Int32.ofInt 1)))), .ref s]) rfl ?_
        refine En_top (subI rfl (by decide : (Int32.ofInt 1).toInt = 1) (by first | exact q_93f9478bef hl_sz | omega) (by first | exact q_36ce509e97 hu_sz | omega)) (fun z19 h20 => ?_)
        refine En_put (j := 2) rfl rfl rfl hs (by decide +kernel) rfl (vI (l := 0) (u := 13) (by decide +kernel) rfl (by first | exact q_7aac38d150 h20 hp0 hl_a | omega) (by first | exact q_6c9ce9e948 h20 hu_sz | omega)) h5 h6 (by decide +kernel) (fun σ21 h22 h23 h24 h25 => ?_)
        exact En_ret (v := none) rfl rfl rfl ⟨h22, h23, z19, h24, rfl, ⟨by first | exact q_a3a41410e6 h20 hp0 hl_a | omega, by first | exact q_d44cac6eaa h20 hu_sz | omega, by first | exact q_e4a5646b6e h20 | omega, by first | exact q_8e6f8e4fd9 h20 | omega, by first | exact q_8e6f8e4fd9 h20 | omega, by first | exact q_e4a5646b6e h20 | omega, TKI_x h15 (by (first | exact q_455e899177 h18 h17 h13 | omega)) h24 h25 (by (first | exact q_0c138feee5 h20 | omega)) (neTG hkn hs (by decide)) (neTG hop hs (by decide))⟩⟩
      · refine En_Ps 1 (pc' := 26) (lv' := [(0, .ref s), (1, .int a), (2, .int y3)]) (st' := [.ref s]) rfl ?_
        refine En_getK (j := 0) h7 rfl rfl rfl hs (by decide +kernel) ?_
        refine En_Ps 2 (pc' := 31) (lv' := [(0, .ref s), (1, .int a), (2, .int y3)]) (st' := [.ref s, .int y3, .ref kn]) rfl ?_
        refine En_getK (j := 0) h7 rfl rfl rfl hs (by decide +kernel) ?_
        refine En_Ps 3 (pc' := 37) (lv' := [(0, .ref s), (1, .int a), (2, .int y3)]) (st' := [.int ((y3 + ((Int32.ofInt 1)))), .ref kn, .int y3, .ref kn]) rfl ?_
        refine En_top (addI rfl (by decide : (Int32.ofInt 1).toInt = 1) (by first | exact q_465ab79ac1 h10 | omega) (by first | exact q_1fdc13c345 h11 | omega)) (fun z26 h27 => ?_)
        refine En_iald (l := 0) (u := 15) rfl rfl hkn (by decide +kernel) h5 (by first | exact q_35104ce9d3 h27 h10 | omega) (lnI (by decide +kernel : LN _ = 13) (by first | exact q_5d2c583439 h27 h17 h18 hu_sz | omega)) (FTsgl (by decide +kernel)) (fun z29 h28 h30 h31 => ?_)
        refine En_iast (l := 0) (u := 15) rfl rfl hkn (by decide +kernel) (by first | exact q_58e6e51dcc h10 | omega) (lnI (by decide +kernel : LN _ = 13) (by first | exact q_eca5b91a1e h11 | omega)) (FTsgl (by decide +kernel)) (rngI rfl (by first | exact q_58e6e51dcc h30 | omega) (by first | exact q_5a4d8a7e08 h31 | omega)) h5 h6 (by decide +kernel) (fun σ32 h33 h34 h35 h36 => ?_)
        refine En_Ps 1 (pc' := 40) (lv' := [(0, .ref s), (1, .int a), (2, .int y3)]) (st' := [.ref s]) rfl ?_
        refine En_getK (j := 1) ((h36 _ _ (Or.inl (neTG hs hkn (by decide)))).trans h8) rfl rfl rfl hs (by decide +kernel) ?_
        refine En_Ps 2 (pc' := 45) (lv' := [(0, .ref s), (1, .int a), (2, .int y3)]) (st' := [.ref s, .int y3, .ref op]) rfl ?_
        refine En_getK (j := 1) ((h36 _ _ (Or.inl (neTG hs hkn (by decide)))).trans h8) rfl rfl rfl hs (by decide +kernel) ?_
        refine En_Ps 3 (pc' := 51) (lv' := [(0, .ref s), (1, .int a), (2, .int y3)]) (st' := [.int ((y3 + ((Int32.ofInt 1)))), .ref op, .int y3, .ref op]) rfl ?_
        refine En_top (addI rfl (by decide : (Int32.ofInt 1).toInt = 1) (by first | exact q_465ab79ac1 h10 | omega) (by first | exact q_1fdc13c345 h11 | omega)) (fun z37 h38 => ?_)
        refine En_iald (l := 0) (u := 1) rfl rfl hop (by decide +kernel) h33 (by first | exact q_35104ce9d3 h38 h10 | omega) (lnI (by decide +kernel : LN _ = 13) (by first | exact q_5d2c583439 h38 h17 h18 hu_sz | omega)) (FTsgl (by decide +kernel)) (fun z40 h39 h41 h42 => ?_)
        refine En_iast (l := 0) (u := 1) rfl rfl hop (by decide +kernel) (by first | exact q_58e6e51dcc h10 | omega) (lnI (by decide +kernel : LN _ = 13) (by first | exact q_eca5b91a1e h11 | omega)) (FTsgl (by decide +kernel)) (rngI rfl (by first | exact q_58e6e51dcc h41 | omega) (by first | exact q_9d0c30f9c5 h42 | omega)) h33 h34 (by decide +kernel) (fun σ43 h44 h45 h46 h47 => ?_)
        refine En_Ps 1 (pc' := 56) (lv' := [(2, .int ((y3 + Int32.ofInt 1))), (0, .ref s), (1, .int a)]) (st' := []) rfl ?_
        refine En_lv1 (addI rfl (by decide : (Int32.ofInt 1).toInt = 1) (by first | exact q_465ab79ac1 h10 | omega) (by first | exact q_1fdc13c345 h11 | omega)) (fun z48 h49 => ?_)
        refine En_Ps 1 (pc' := 15) (lv' := [(2, .int z48), (0, .ref s), (1, .int a)]) (st' := []) rfl ?_
        refine En_lv (lv := [(0, .ref s), (1, .int a), (2, .int z48)]) ⟨rfl, rfl, rfl, trivial⟩ ?_
        exact ih15 σ43 z48 h44 h45 ((h47 _ _ (Or.inl (neTG hs hop (by decide)))).trans ((h36 _ _ (Or.inl (neTG hs hkn (by decide)))).trans h7)) ((h47 _ _ (Or.inl (neTG hs hop (by decide)))).trans ((h36 _ _ (Or.inl (neTG hs hkn (by decide)))).trans h8)) ((h47 _ _ (Or.inl (neTG hs hop (by decide)))).trans ((h36 _ _ (Or.inl (neTG hs hkn (by decide)))).trans h9)) (by first | exact q_35104ce9d3 h49 h10 | omega) (by first | exact q_aa13a08d74 h49 h17 h18 hu_sz | omega) (by first | exact q_3a5e225620 h12 h49 | omega) (by first | exact q_7c639a0963 h17 h18 h49 | omega) (by first | exact q_8d03a5a7cb h49 h14 | omega) (TKI_s (J := y3.toInt) (J' := y3.toInt + 1) h15 (neTG hkn hop (by decide)) (by rw [show y3.toInt + 1 = z26.toInt by (first | exact q_dd63493976 h27 | omega)]; exact h28) h35 h36 (by rw [show y3.toInt + 1 = z37.toInt by (first | exact q_dd63493976 h38 | omega)]; exact h39) h46 h47 (by (first | exact q_61ddd2b576 | omega)) (by (first | exact q_a758490361 | omega)) (by (first | exact q_58e6e51dcc h1 | omega)) (by (first | exact q_2f9e8475ec h12 | omega)) (by (first | exact q_ba1b2c713b h49 | omega)))
  refine En_lv (lv := [(0, .ref s), (1, .int a), (2, .int a)]) ⟨rfl, rfl, rfl, trivial⟩ ?_
  exact key15 (Int.toNat (sz.toInt - a.toInt) + 1) σ0 a hσ0 hF0 h_kn h_op h_sz (by first | exact q_58e6e51dcc hl_a | omega) (by first | exact q_7c77837619 hu_a | omega) (by first | exact q_1bb76abeaf | omega) (by first | exact q_ef157b5a0e hp0 | omega) (by first | exact toN_lt _ | omega) (TKI_0 rfl)
/-- DoorSchool$Lessons.dropLast()V -/
abbrev P_33x (σ0 : SG) (s : Nat) (kn : Nat) (op : Nat) (sz : Int32) : PO := fun v σ => WT σ ∧ Fr [(20, 2)] σ0 σ ∧ ∃ sz1 : Int32, (σ s)[2]? = some (Value.int sz1) ∧ v = none ∧ -sz1.toInt ≤ 0 ∧ sz1.toInt - 12 ≤ 0 ∧ -sz1.toInt + sz.toInt - 1 ≤ 0 ∧ sz1.toInt - sz.toInt + 1 ≤ 0 ∧ sz1.toInt - sz.toInt + 1 ≤ 0 ∧ -sz1.toInt + sz.toInt - 1 ≤ 0 ∧ DRPp σ0 σ s sz.toInt
set_option maxRecDepth 10000 in
set_option maxHeartbeats 4000000 in
theorem c_33x (σ0 : SG) (hσ0 : WT σ0) (s : Nat) (hs : TG s = 20) (kn : Nat) (hkn : TG kn = 21) (h_kn : (σ0 s)[0]? = some (Value.ref kn)) (op : Nat) (hop : TG op = 22) (h_op : (σ0 s)[1]? = some (Value.ref op)) (sz : Int32) (h_sz : (σ0 s)[2]? = some (Value.int sz)) (hp0 : -sz.toInt + 1 ≤ 0) : En 1 22 none mr_33 (P_33x σ0 s kn op sz) 0 [(0, .ref s)] [] σ0 := by
  obtain ⟨hl_sz, hu_sz⟩ := WT_int hσ0 (g := 20) hs (by decide +kernel) (l := 0) (u := 13) (by decide +kernel) h_sz
  have hF0 : Fr [(20, 2)] σ0 σ0 := Fr_rfl
  refine En_Ps 2 (pc' := 2) (lv' := [(0, .ref s)]) (st' := [.ref s, .ref s]) rfl ?_
  refine En_getK (j := 2) h_sz rfl rfl rfl hs (by decide +kernel) ?_
  refine En_Ps 2 (pc' := 7) (lv' := [(0, .ref s)]) (st' := [.int ((sz - ((Int32.ofInt 1)))), .ref s]) rfl ?_
  refine En_top (subI rfl (by decide : (Int32.ofInt 1).toInt = 1) (by first | exact q_ead043ab48 hp0 | omega) (by first | exact q_36ce509e97 hu_sz | omega)) (fun z1 h2 => ?_)
  refine En_callV rfl rfl rfl rfl rfl rfl rfl rfl hs (by decide +kernel) rfl (c_41ax σ0 hσ0 s hs z1 (geI rfl (by first | exact q_ee40ea6e47 h2 hp0 | omega)) (leI rfl (by first | exact q_c1a695b5f4 h2 hu_sz | omega)) kn hkn h_kn op hop h_op sz h_sz (by first | exact q_8e6f8e4fd9 h2 | omega) (by first | exact q_e4a5646b6e h2 | omega)) (by decide) (by decide) (fun v4 σ5 h3 => ?_)
  obtain ⟨h6, h7, z9, h10, rfl, h8⟩ := h3
  have h11 := h8.2.2.2.2.2.2
  have h12 := Fr_trans hF0 h7 (by decide +kernel)
  exact En_ret (v := none) rfl rfl rfl ⟨h6, h12, z9, h10, rfl, ⟨by first | exact q_a555021d16 h8.1 | omega, by first | exact q_1d71e39f5f h8.2.1 | omega, by first | exact q_b155147890 h8.2.2.1 | omega, by first | exact q_ef157b5a0e h8.2.2.2.1 | omega, by first | exact q_ef157b5a0e h8.2.2.2.1 | omega, by first | exact q_b155147890 h8.2.2.1 | omega, h11⟩⟩
/-- DoorSchool$Plan.clear()V -/
abbrev P_42x (σ0 : SG) (s : Nat) : PO := fun v σ => WT σ ∧ Fr [(18, 0), (18, 1), (18, 2), (18, 3), (18, 6), (18, 7), (18, 8), (18, 11), (18, 14), (20, 2), (26, 0)] σ0 σ ∧ ∃ l0 : Int32, (σ s)[0]? = some (Value.int l0) ∧ ∃ g0 : Int32, (σ s)[1]? = some (Value.int g0) ∧ v = none ∧ OUT σ0 σ s ∧ -l0.toInt ≤ 0 ∧ l0.toInt ≤ 0 ∧ -g0.toInt ≤ 0 ∧ g0.toInt ≤ 0 ∧ l0.toInt ≤ 0 ∧ -l0.toInt ≤ 0 ∧ g0.toInt ≤ 0 ∧ -g0.toInt ≤ 0 ∧ (OTH s σ0 σ ∧ KN σ s (fun _ => 0) (act (fun _ => 0)))
set_option maxRecDepth 10000 in
set_option maxHeartbeats 4000000 in
theorem c_42x (σ0 : SG) (hσ0 : WT σ0) (s : Nat) (hs : TG s = 18) (hP : PLA s) (hX : FXP σ0 s) : En 1 23 none mr_42 (P_42x σ0 s) 0 [(0, .ref s)] [] σ0 := by
  have hF0 : Fr [(18, 0), (18, 1), (18, 2), (18, 3), (18, 6), (18, 7), (18, 8), (18, 11), (18, 14), (20, 2), (26, 0)] σ0 σ0 := Fr_rfl
  refine En_Ps 2 (pc' := 2) (lv' := [(0, .ref s)]) (st' := [.int ((Int32.ofInt 0)), .ref s]) rfl ?_
  refine En_put (j := 0) rfl rfl rfl hs (by decide +kernel) rfl (vI (l := 0) (u := 1601) (by decide +kernel) (by decide : (Int32.ofInt 0).toInt = 0) (by decide) (by decide)) hσ0 hF0 (by decide +kernel) (fun σ1 h2 h3 h4 h5 => ?_)
  have h6 := OTH_pj (OTH_0 (a := s) (σ := σ0)) h5 (by decide)
  have o7 : OUT σ0 σ1 s := OUT_st OUT_0 h5 (by omega)
  refine En_Ps 2 (pc' := 7) (lv' := [(0, .ref s)]) (st' := [.int ((Int32.ofInt 0)), .ref s]) rfl ?_
  refine En_put (j := 1) rfl rfl rfl hs (by decide +kernel) rfl (vI (l := (-1)) (u := 4) (by decide +kernel) (by decide : (Int32.ofInt 0).toInt = 0) (by decide) (by decide)) h2 h3 (by decide +kernel) (fun σ8 h9 h10 h11 h12 => ?_)
  have h13 := OTH_pt h6 h12
  have o14 : OUT σ0 σ8 s := OUT_st o7 h12 (by omega)
  refine En_Ps 2 (pc' := 12) (lv' := [(0, .ref s)]) (st' := [.int ((Int32.ofInt 0)), .ref s]) rfl ?_
  refine En_put (j := 2) rfl rfl rfl hs (by decide +kernel) rfl (vI (l := (-1)) (u := 3) (by decide +kernel) (by decide : (Int32.ofInt 0).toInt = 0) (by decide) (by decide)) h9 h10 (by decide +kernel) (fun σ15 h16 h17 h18 h19 => ?_)
  have h20 := OTH_pj h13 h19 (by decide)
  have o21 : OUT σ0 σ15 s := OUT_st o14 h19 (by omega)
  refine En_Ps 2 (pc' := 17) (lv' := [(0, .ref s)]) (st' := [.int ((Int32.ofInt 0)), .ref s]) rfl ?_
  refine En_put (j := 3) rfl rfl rfl hs (by decide +kernel) rfl (vI (l := 0) (u := 4) (by decide +kernel) (by decide : (Int32.ofInt 0).toInt = 0) (by decide) (by decide)) h16 h17 (by decide +kernel) (fun σ22 h23 h24 h25 h26 => ?_)
  have h27 := OTH_pj h20 h26 (by decide)
  have o28 : OUT σ0 σ22 s := OUT_st o21 h26 (by omega)
  refine En_Ps 1 (pc' := 21) (lv' := [(0, .ref s)]) (st' := [.ref s]) rfl ?_
  refine En_getR (j := 5) (g' := 20) (u := 0) rfl rfl rfl hs (by decide +kernel) h23 (by decide +kernel) (fun a30 h29 ha30 => ?_)
  refine En_Ps 1 (pc' := 25) (lv' := [(0, .ref s)]) (st' := [.int ((Int32.ofInt 0)), .ref a30]) rfl ?_
  have h31 : a30 = s + 2 := ref_uniq h29 (FXP_fr hP hX h24 (by decide +kernel)).2.1
  refine En_put (j := 2) rfl rfl rfl ha30 (by decide +kernel) rfl (vI (l := 0) (u := 13) (by decide +kernel) (by decide : (Int32.ofInt 0).toInt = 0) (by decide) (by decide)) h23 h24 (by decide +kernel) (fun σ32 h33 h34 h35 h36 => ?_)
  have h37 := OTH_pn h27 h36 ha30 (by decide)
  have o38 : OUT σ0 σ32 s := OUT_st o28 h36 (by omega)
  refine En_Ps 2 (pc' := 30) (lv' := [(0, .ref s)]) (st' := [.int ((Int32.ofInt 0)), .ref s]) rfl ?_
  refine En_put (j := 6) rfl rfl rfl hs (by decide +kernel) rfl (vI (l := 0) (u := 15) (by decide +kernel) (by decide : (Int32.ofInt 0).toInt = 0) (by decide) (by decide)) h33 h34 (by decide +kernel) (fun σ39 h40 h41 h42 h43 => ?_)
  have h44 := OTH_pj h37 h43 (by decide)
  have o45 : OUT σ0 σ39 s := OUT_st o38 h43 (by omega)
  refine En_Ps 2 (pc' := 35) (lv' := [(0, .ref s)]) (st' := [.int ((Int32.ofInt 0)), .ref s]) rfl ?_
  refine En_put (j := 7) rfl rfl rfl hs (by decide +kernel) rfl (vI (l := 0) (u := 15) (by decide +kernel) (by decide : (Int32.ofInt 0).toInt = 0) (by decide) (by decide)) h40 h41 (by decide +kernel) (fun σ46 h47 h48 h49 h50 => ?_)
  have h51 := OTH_pj h44 h50 (by decide)
  have o52 : OUT σ0 σ46 s := OUT_st o45 h50 (by omega)
  refine En_Ps 2 (pc' := 40) (lv' := [(0, .ref s)]) (st' := [.int ((Int32.ofInt 0)), .ref s]) rfl ?_
  refine En_put (j := 8) rfl rfl rfl hs (by decide +kernel) rfl (vI (l := 0) (u := 4) (by decide +kernel) (by decide : (Int32.ofInt 0).toInt = 0) (by decide) (by decide)) h47 h48 (by decide +kernel) (fun σ53 h54 h55 h56 h57 => ?_)
  have h58 := OTH_pj h51 h57 (by decide)
  have o59 : OUT σ0 σ53 s := OUT_st o52 h57 (by omega)
  refine En_Ps 2 (pc' := 45) (lv' := [(0, .ref s)]) (st' := [.int ((Int32.ofInt 0)), .ref s]) rfl ?_
  refine En_put (j := 11) rfl rfl rfl hs (by decide +kernel) rfl (vI (l := 0) (u := 6) (by decide +kernel) (by decide : (Int32.ofInt 0).toInt = 0) (by decide) (by decide)) h54 h55 (by decide +kernel) (fun σ60 h61 h62 h63 h64 => ?_)
  have h65 := OTH_pj h58 h64 (by decide)
  have o66 : OUT σ0 σ60 s := OUT_st o59 h64 (by omega)
  refine En_Ps 1 (pc' := 49) (lv' := [(0, .ref s)]) (st' := [.ref s]) rfl ?_
  refine En_getR (j := 13) (g' := 26) (u := 0) rfl rfl rfl hs (by decide +kernel) h61 (by decide +kernel) (fun a68 h67 ha68 => ?_)
  refine En_Ps 1 (pc' := 53) (lv' := [(0, .ref s)]) (st' := [.int ((Int32.ofInt 0)), .ref a68]) rfl ?_
  have h69 : a68 = s + 8 := ref_uniq h67 (FXP_fr hP hX h62 (by decide +kernel)).2.2.2.2.2.1
  have := (by decide : ((Int32.ofInt 0)).toInt = 0)
  refine En_callS rfl rfl rfl rfl rfl rfl rfl rfl rfl (c_8ax σ60 h61 a68 ha68 ((Int32.ofInt 0)) (geI (by decide : (Int32.ofInt 0).toInt = 0) (by decide)) (leI (by decide : (Int32.ofInt 0).toInt = 0) (by decide))) (by decide) (by decide) (fun v71 σ72 h70 => ?_)
  obtain ⟨h73, h74, rfl, h75⟩ := h70
  have h76 := h75
  have h77 := Fr_trans h62 h74 (by decide +kernel)
  have h78 := OTH_fr h65 h74 (by decide +kernel)
  have o79 : OUT σ0 σ72 s := OUT_cp o66 h76.2 (by omega)
  refine En_Ps 2 (pc' := 58) (lv' := [(0, .ref s)]) (st' := [.int ((Int32.ofInt 0)), .ref s]) rfl ?_
  refine En_put (j := 14) rfl rfl rfl hs (by decide +kernel) rfl (vI (l := 0) (u := 60) (by decide +kernel) (by decide : (Int32.ofInt 0).toInt = 0) (by decide) (by decide)) h73 h77 (by decide +kernel) (fun σ80 h81 h82 h83 h84 => ?_)
  have h85 := OTH_pj h78 h84 (by decide)
  have o86 : OUT σ0 σ80 s := OUT_st o79 h84 (by omega)
  have := (by decide : (Int32.ofInt 0).toInt = 0)
  have := (by decide : (Int32.ofInt 0).toInt = 0)
  have h87 : a30 = s + 2 := ref_uniq ((h84 _ _ (Or.inr (by decide))).trans ((h74 _ _ (inW hs (by decide +kernel))).trans ((h64 _ _ (Or.inr (by decide))).trans ((h57 _ _ (Or.inr (by decide))).trans ((h50 _ _ (Or.inr (by decide))).trans ((h43 _ _ (Or.inr (by decide))).trans ((h36 _ _ (Or.inr (by decide))).trans h29))))))) (FXP_fr hP hX h82 (by decide +kernel)).2.1
  have h88 : a68 = s + 8 := ref_uniq ((h84 _ _ (Or.inr (by decide))).trans ((h74 _ _ (inW hs (by decide +kernel))).trans h67)) (FXP_fr hP hX h82 (by decide +kernel)).2.2.2.2.2.1
  have h89 : ∀ k : Int, 0 ≤ k → k < 6 → ci σ80 (s + 8) k = 0 := fun k k0 k1 => by rw [← h88, ci_ne h84 (by rw [h88]; omega)]; exact h76.1 k k0 k1
  exact En_ret (v := none) rfl rfl rfl ⟨h81, h82, (Int32.ofInt 0), ((h84 _ _ (Or.inr (by decide))).trans ((h74 _ _ (inW hs (by decide +kernel))).trans ((h64 _ _ (Or.inr (by decide))).trans ((h57 _ _ (Or.inr (by decide))).trans ((h50 _ _ (Or.inr (by decide))).trans ((h43 _ _ (Or.inr (by decide))).trans ((h36 _ _ (Or.inr (by decide))).trans ((h26 _ _ (Or.inr (by decide))).trans ((h19 _ _ (Or.inr (by decide))).trans ((h12 _ _ (Or.inr (by decide))).trans h4)))))))))), (Int32.ofInt 0), ((h84 _ _ (Or.inr (by decide))).trans ((h74 _ _ (inW hs (by decide +kernel))).trans ((h64 _ _ (Or.inr (by decide))).trans ((h57 _ _ (Or.inr (by decide))).trans ((h50 _ _ (Or.inr (by decide))).trans ((h43 _ _ (Or.inr (by decide))).trans ((h36 _ _ (Or.inr (by decide))).trans ((h26 _ _ (Or.inr (by decide))).trans ((h19 _ _ (Or.inr (by decide))).trans h11))))))))), rfl, ⟨o86, by decide, by decide, by decide, by decide, by decide, by decide, by decide, by decide, ⟨h85, KN_clr ((ci_at (j := 0) ((h84 _ _ (Or.inr (by decide))).trans ((h74 _ _ (inW hs (by decide +kernel))).trans ((h64 _ _ (Or.inr (by decide))).trans ((h57 _ _ (Or.inr (by decide))).trans ((h50 _ _ (Or.inr (by decide))).trans ((h43 _ _ (Or.inr (by decide))).trans ((h36 _ _ (Or.inr (by decide))).trans ((h26 _ _ (Or.inr (by decide))).trans ((h19 _ _ (Or.inr (by decide))).trans ((h12 _ _ (Or.inr (by decide))).trans h4)))))))))) rfl).trans (by decide)) ((ci_at (j := 1) ((h84 _ _ (Or.inr (by decide))).trans ((h74 _ _ (inW hs (by decide +kernel))).trans ((h64 _ _ (Or.inr (by decide))).trans ((h57 _ _ (Or.inr (by decide))).trans ((h50 _ _ (Or.inr (by decide))).trans ((h43 _ _ (Or.inr (by decide))).trans ((h36 _ _ (Or.inr (by decide))).trans ((h26 _ _ (Or.inr (by decide))).trans ((h19 _ _ (Or.inr (by decide))).trans h11))))))))) rfl).trans (by decide)) ((ci_at (j := 2) ((h84 _ _ (Or.inr (by decide))).trans ((h74 _ _ (inW hs (by decide +kernel))).trans ((h64 _ _ (Or.inr (by decide))).trans ((h57 _ _ (Or.inr (by decide))).trans ((h50 _ _ (Or.inr (by decide))).trans ((h43 _ _ (Or.inr (by decide))).trans ((h36 _ _ (Or.inl (neTG hs ha30 (by decide)))).trans ((h26 _ _ (Or.inr (by decide))).trans h18)))))))) rfl).trans (by decide)) ((ci_at (j := 3) ((h84 _ _ (Or.inr (by decide))).trans ((h74 _ _ (inW hs (by decide +kernel))).trans ((h64 _ _ (Or.inr (by decide))).trans ((h57 _ _ (Or.inr (by decide))).trans ((h50 _ _ (Or.inr (by decide))).trans ((h43 _ _ (Or.inr (by decide))).trans ((h36 _ _ (Or.inr (by decide))).trans h25))))))) rfl).trans (by decide)) (by rw [← h87]; exact ((ci_at (j := 2) ((h84 _ _ (Or.inr (by decide))).trans ((h74 _ _ (inW ha30 (by decide +kernel))).trans ((h64 _ _ (Or.inr (by decide))).trans ((h57 _ _ (Or.inr (by decide))).trans ((h50 _ _ (Or.inr (by decide))).trans ((h43 _ _ (Or.inr (by decide))).trans h35)))))) rfl).trans (by decide))) ((ci_at (j := 6) ((h84 _ _ (Or.inr (by decide))).trans ((h74 _ _ (inW hs (by decide +kernel))).trans ((h64 _ _ (Or.inr (by decide))).trans ((h57 _ _ (Or.inr (by decide))).trans ((h50 _ _ (Or.inr (by decide))).trans h42))))) rfl).trans (by decide)) ((ci_at (j := 7) ((h84 _ _ (Or.inr (by decide))).trans ((h74 _ _ (inW hs (by decide +kernel))).trans ((h64 _ _ (Or.inr (by decide))).trans ((h57 _ _ (Or.inr (by decide))).trans h49)))) rfl).trans (by decide)) ((ci_at (j := 8) ((h84 _ _ (Or.inr (by decide))).trans ((h74 _ _ (inW hs (by decide +kernel))).trans ((h64 _ _ (Or.inr (by decide))).trans h56))) rfl).trans (by decide)) ((ci_at (j := 11) ((h84 _ _ (Or.inr (by decide))).trans ((h74 _ _ (inW hs (by decide +kernel))).trans h63)) rfl).trans (by decide)) ((ci_at (j := 14) h83 rfl).trans (by decide)) h89⟩⟩⟩
/-- DoorSchool$Plan.exists()Z -/
abbrev P_43x (σ0 : SG) (s : Nat) (l : Int32) : PO := fun v σ => WT σ ∧ Fr [] σ0 σ ∧ ∃ ret : Int32, v = some (Value.int ret) ∧ -ret.toInt ≤ 0 ∧ ret.toInt - 1 ≤ 0 ∧ Imp (-ret.toInt + 1 ≤ 0) (-l.toInt + 1 ≤ 0) ∧ Imp (-l.toInt + 1 ≤ 0) (-ret.toInt + 1 ≤ 0)
set_option maxRecDepth 10000 in
set_option maxHeartbeats 4000000 in
theorem c_43x (σ0 : SG) (hσ0 : WT σ0) (s : Nat) (hs : TG s = 18) (l : Int32) (h_l : (σ0 s)[0]? = some (Value.int l)) : En 0 0 none mr_43 (P_43x σ0 s l) 0 [(0, .ref s)] [] σ0 := by
  obtain ⟨hl_l, hu_l⟩ := WT_int hσ0 (g := 18) hs (by decide +kernel) (l := 0) (u := 1601) (by decide +kernel) h_l
  have hF0 : Fr [] σ0 σ0 := Fr_rfl
  refine En_Ps 1 (pc' := 1) (lv' := [(0, .ref s)]) (st' := [.ref s]) rfl ?_
  refine En_getK (j := 0) h_l rfl rfl rfl hs (by decide +kernel) ?_
  refine En_iLe _ rfl rfl (fun h1 => ?_) (fun h1 => ?_)
  · refine En_Ps 1 (pc' := 12) (lv' := [(0, .ref s)]) (st' := [.int ((Int32.ofInt 0))]) rfl ?_
    refine En_top (by decide : (Int32.ofInt 0).toInt = 0) (fun z2 h3 => ?_)
    exact En_ret (v := some (Value.int z2)) rfl rfl (retZ rfl rfl (by first | exact q_55451d0a83 h3 | omega) (by first | exact q_87849c3859 h3 | omega)) ⟨hσ0, hF0, z2, rfl, ⟨by first | exact q_097a37c2ae h3 | omega, by first | exact q_e269517bee h3 | omega, fun _ => by omega, fun _ => by omega⟩⟩
  · refine En_Ps 2 (pc' := 12) (lv' := [(0, .ref s)]) (st' := [.int ((Int32.ofInt 1))]) rfl ?_
    refine En_top (by decide : (Int32.ofInt 1).toInt = 1) (fun z4 h5 => ?_)
    exact En_ret (v := some (Value.int z4)) rfl rfl (retZ rfl rfl (by first | exact q_2b07c97645 h5 | omega) (by first | exact q_d9e7cbb253 h5 | omega)) ⟨hσ0, hF0, z4, rfl, ⟨by first | exact q_ad3eee31ca h5 | omega, by first | exact q_81cf297dc4 h5 | omega, fun hh => by first | exact q_f23a0149bf h1 | omega, fun hh => by first | exact q_a439be255a h5 | omega⟩⟩
/-- DoorSchool$Plan.isCopied(I)Z -/
abbrev P_45x (σ0 : SG) (Wv : Int → Int) (s : Nat) (a : Int32) : PO := fun v σ => WT σ ∧ Fr [] σ0 σ ∧ ∃ ret : Int32, v = some (Value.int ret) ∧ -ret.toInt ≤ 0 ∧ ret.toInt - 1 ≤ 0 ∧ Imp (ret.toInt - 1 ≤ 0 ∧ -ret.toInt + 1 ≤ 0) (-a.toInt - 1 ≤ 0 ∧ a.toInt - 3 ≤ 0) ∧ ret.toInt = cpI Wv a.toInt
set_option maxRecDepth 10000 in
set_option maxHeartbeats 4000000 in
theorem c_45x {Wv : Int → Int} (σ0 : SG) (hσ0 : WT σ0) (s : Nat) (hs : TG s = 18) (a : Int32) (hP : PLA s) (hX : FXP σ0 s) (hK : KN σ0 s Wv (act Wv)) : En 0 0 none mr_45 (P_45x σ0 Wv s a) 0 [(0, .ref s), (1, .int a)] [] σ0 := by
  have hF0 : Fr [] σ0 σ0 := Fr_rfl
  refine En_Ps 2 (pc' := 2) (lv' := [(2, .int ((Int32.ofInt 0))), (0, .ref s), (1, .int a)]) (st' := []) rfl ?_
  have key2 : ∀ (n2 : Nat) (y1 : Int32), 0 ≤ y1.toInt → y1.toInt ≤ 4 → -y1.toInt + 4 < (n2 : Int) → NCw Wv a.toInt y1.toInt → En 0 0 none mr_45 (P_45x σ0 Wv s a) 2 [(0, .ref s), (1, .int a), (2, .int y1)] [] σ0 := by
    intro n2
    induction n2 with
    | zero =>
      intro y1 h5 h6 h7 h8
      first | exact (q_20d6385c6f h7 h6).elim | (exfalso; omega)
    | succ n2 ih2 =>
      intro y1 h5 h6 h7 h8
      refine En_Ps 2 (pc' := 4) (lv' := [(0, .ref s), (1, .int a), (2, .int y1)]) (st' := [.ref s, .int y1]) rfl ?_
      refine En_getI (j := 3) (l := 0) (u := 4) rfl rfl rfl hs (by decide +kernel) hσ0 (by decide +kernel) (fun z10 h9 h11 h12 => ?_)
      have h13 : Wv 2 = z10.toInt := KN_v hK (Or.inl (by decide)) (by decide) (by decide) (by rw [lcO_lt (by decide) (by decide), Nat.add_zero]) rfl h9
      refine En_icGe _ rfl rfl rfl (fun h14 => ?_) (fun h14 => ?_)
      · refine En_Ps 1 (pc' := 32) (lv' := [(0, .ref s), (1, .int a), (2, .int y1)]) (st' := [.int ((Int32.ofInt 0))]) rfl ?_
        refine En_top (by decide : (Int32.ofInt 0).toInt = 0) (fun z15 h16 => ?_)
        exact En_ret (v := some (Value.int z15)) rfl rfl (retZ rfl rfl (by first | exact q_55451d0a83 h16 | omega) (by first | exact q_87849c3859 h16 | omega)) ⟨hσ0, hF0, z15, rfl, ⟨by first | exact q_097a37c2ae h16 | omega, by first | exact q_e269517bee h16 | omega, fun _ => by omega, CPw_n h8 (by (first | exact q_130eb18579 h14 h13 | omega)) (by (first | exact q_d2dcd30e56 h16 | omega))⟩⟩
      · refine En_Ps 1 (pc' := 11) (lv' := [(0, .ref s), (1, .int a), (2, .int y1)]) (st' := [.ref s]) rfl ?_
        refine En_getR (j := 4) (g' := 19) (u := 0) rfl rfl rfl hs (by decide +kernel) hσ0 (by decide +kernel) (fun a18 h17 ha18 => ?_)
        refine En_Ps 1 (pc' := 15) (lv' := [(0, .ref s), (1, .int a), (2, .int y1)]) (st' := [.int y1, .ref a18]) rfl ?_
        refine En_aald (g' := 28) (u := 0) rfl rfl ha18 (by decide +kernel) hσ0 (by first | exact q_58e6e51dcc h5 | omega) (lnI (by decide +kernel : LN _ = 4) (by first | exact q_1a45a931b1 h14 h12 | omega)) (FTsgl (by decide +kernel)) (fun a20 h19 ha20 => ?_)
        refine En_getI (j := 3) (l := (-1)) (u := 3) rfl rfl rfl ha20 (by decide +kernel) hσ0 (by decide +kernel) (fun z22 h21 h23 h24 => ?_)
        refine En_Ps 1 (pc' := 20) (lv' := [(0, .ref s), (1, .int a), (2, .int y1)]) (st' := [.int a, .int z22]) rfl ?_
        have h25 := DRc (d := y1.toInt) hX h17 h19 (by (first | exact q_58e6e51dcc h5 | omega)) (by (first | exact q_52e7395150 h14 h12 | omega))
        have h26 := lc_d (d := y1.toInt) (by (first | exact q_58e6e51dcc h5 | omega)) (by (first | exact q_52e7395150 h14 h12 | omega))
        have h27 : Wv (13 + 4 * y1.toInt) = z22.toInt := KN_v hK (Or.inr (Or.inl ⟨by (first | exact q_549ef2026b h5 | omega), by (first | exact q_6d937ea7be h14 h12 | omega), by omega⟩)) (by (first | exact q_ecbead000b h5 | omega)) (by (first | exact q_2958ed35f5 h6 | omega)) (by omega) (by (first | exact q_67bf5599ba h26.2.2.2.2.2.2.2 | omega)) h21
        refine En_icNe _ rfl rfl rfl (fun h28 => ?_) (fun h28 => ?_)
        · refine En_Ps 1 (pc' := 28) (lv' := [(2, .int ((y1 + Int32.ofInt 1))), (0, .ref s), (1, .int a)]) (st' := []) rfl ?_
          refine En_lv1 (addI rfl (by decide : (Int32.ofInt 1).toInt = 1) (by first | exact q_465ab79ac1 h5 | omega) (by first | exact q_f7282962fd h6 | omega)) (fun z29 h30 => ?_)
          refine En_Ps 1 (pc' := 2) (lv' := [(2, .int z29), (0, .ref s), (1, .int a)]) (st' := []) rfl ?_
          refine En_lv (lv := [(0, .ref s), (1, .int a), (2, .int z29)]) ⟨rfl, rfl, rfl, trivial⟩ ?_
          exact ih2 z29 (by first | exact q_35104ce9d3 h30 h5 | omega) (by first | exact q_de42116b63 h30 h14 h12 | omega) (by first | exact q_3d8d70ace2 h30 h7 | omega) (NCw_s h8 (by rw [h27]; (first | exact q_f3cb68eaf4 h28 | omega)) (by (first | exact q_ba1b2c713b h30 | omega)))
        · refine En_Ps 1 (pc' := 24) (lv' := [(0, .ref s), (1, .int a), (2, .int y1)]) (st' := [.int ((Int32.ofInt 1))]) rfl ?_
          refine En_top (by decide : (Int32.ofInt 1).toInt = 1) (fun z31 h32 => ?_)
          exact En_ret (v := some (Value.int z31)) rfl rfl (retZ rfl rfl (by first | exact q_2b07c97645 h32 | omega) (by first | exact q_d9e7cbb253 h32 | omega)) ⟨hσ0, hF0, z31, rfl, ⟨by first | exact q_ad3eee31ca h32 | omega, by first | exact q_81cf297dc4 h32 | omega, fun hh => by first | exact ⟨q_0989a0d07f h28 h23, q_c3d83eb9e6 h28 h24⟩ | omega, CPw_1 (y := y1.toInt) (by (first | exact q_58e6e51dcc h5 | omega)) (by (first | exact q_4cbdceccfe h14 h13 | omega)) (by (first | exact q_f0aa810593 h13 h12 | omega)) (by rw [h27]; (first | exact q_b1495600e7 h28 | omega)) (by (first | exact q_0bfa10f27c h32 | omega))⟩⟩
  have := (by decide : (Int32.ofInt 0).toInt = 0)
  refine En_lv (lv := [(0, .ref s), (1, .int a), (2, .int ((Int32.ofInt 0)))]) ⟨rfl, rfl, rfl, trivial⟩ ?_
  exact key2 (Int.toNat (4) + 1) ((Int32.ofInt 0)) (by decide) (by decide) (by first | exact toN_lt _ | omega) (fun q q0 q1 => by (first | exact q_4a3c5b87cf q1 q0 this | omega))
/-- DoorSchool$Plan.knocks()I -/
abbrev P_51x (σ0 : SG) (s : Nat) (sg : Int32) : PO := fun v σ => WT σ ∧ Fr [] σ0 σ ∧ ∃ ret : Int32, v = some (Value.int ret) ∧ -ret.toInt + 1 ≤ 0 ∧ ret.toInt - 16 ≤ 0 ∧ ret.toInt = pI sg.toInt
set_option maxRecDepth 10000 in
set_option maxHeartbeats 4000000 in
theorem c_51x (σ0 : SG) (hσ0 : WT σ0) (s : Nat) (hs : TG s = 18) (sg : Int32) (h_sg : (σ0 s)[1]? = some (Value.int sg)) (hp0 : -sg.toInt ≤ 0) : En 0 0 none mr_51 (P_51x σ0 s sg) 0 [(0, .ref s)] [] σ0 := by
  obtain ⟨hl_sg, hu_sg⟩ := WT_int hσ0 (g := 18) hs (by decide +kernel) (l := (-1)) (u := 4) (by decide +kernel) h_sg
  have hF0 : Fr [] σ0 σ0 := Fr_rfl
  refine En_Ps 2 (pc' := 2) (lv' := [(0, .ref s)]) (st' := [.ref s, .int ((Int32.ofInt 1))]) rfl ?_
  refine En_getK (j := 1) h_sg rfl rfl rfl hs (by decide +kernel) ?_
  refine En_Ps 1 (pc' := 6) (lv' := [(0, .ref s)]) (st' := [.int ((((Int32.ofInt 1)) <<< (sg &&& 31)))]) rfl ?_
  refine En_nam (fun z1 h2 => ?_)
  have h3 := shl1_v (y := sg) rfl (by (first | exact q_ef1e8e38bf hp0 | omega)) (by (first | exact q_c82ed93a8c hu_sg | omega))
  rw [← h2] at h3
  have h4 := shl1_p (y := sg) 4 rfl (by (first | exact q_ef1e8e38bf hp0 | omega)) (by (first | exact q_584a054cc0 hu_sg | omega)) (by decide)
  rw [← h2] at h4
  exact En_ret (v := some (Value.int z1)) rfl rfl rfl ⟨hσ0, hF0, z1, rfl, ⟨by (first | exact q_996bab80f3 h4.1 | omega), by omega, (by (first | exact q_b1495600e7 h3 | omega))⟩⟩
/-- DoorSchool$Plan.isDoor(I)Z -/
abbrev P_47x (σ0 : SG) (s : Nat) (a : Int32) (n : Int32) : PO := fun v σ => WT σ ∧ Fr [] σ0 σ ∧ ∃ ret : Int32, v = some (Value.int ret) ∧ -ret.toInt ≤ 0 ∧ ret.toInt - 1 ≤ 0 ∧ Imp (-ret.toInt + 1 ≤ 0) (-a.toInt ≤ 0 ∧ a.toInt - n.toInt + 1 ≤ 0) ∧ Imp (-a.toInt ≤ 0 ∧ a.toInt - n.toInt + 1 ≤ 0) (-ret.toInt + 1 ≤ 0) ∧ Imp (ret.toInt ≤ 0 ∧ -ret.toInt ≤ 0) (-a.toInt - 2147483648 ≤ 0 ∧ a.toInt - 2147483647 ≤ 0) ∧ Imp (ret.toInt - 1 ≤ 0 ∧ -ret.toInt + 1 ≤ 0) (-a.toInt ≤ 0 ∧ a.toInt - 3 ≤ 0)
set_option maxRecDepth 10000 in
set_option maxHeartbeats 4000000 in
theorem c_47x (σ0 : SG) (hσ0 : WT σ0) (s : Nat) (hs : TG s = 18) (a : Int32) (n : Int32) (h_n : (σ0 s)[3]? = some (Value.int n)) : En 0 0 none mr_47 (P_47x σ0 s a n) 0 [(0, .ref s), (1, .int a)] [] σ0 := by
  obtain ⟨hl_n, hu_n⟩ := WT_int hσ0 (g := 18) hs (by decide +kernel) (l := 0) (u := 4) (by decide +kernel) h_n
  have := Int32.le_toInt a
  have := Int32.toInt_lt a
  have hF0 : Fr [] σ0 σ0 := Fr_rfl
  refine En_Ps 1 (pc' := 1) (lv' := [(0, .ref s), (1, .int a)]) (st' := [.int a]) rfl ?_
  refine En_iLt _ rfl rfl (fun h1 => ?_) (fun h1 => ?_)
  · refine En_Ps 1 (pc' := 17) (lv' := [(0, .ref s), (1, .int a)]) (st' := [.int ((Int32.ofInt 0))]) rfl ?_
    refine En_top (by decide : (Int32.ofInt 0).toInt = 0) (fun z2 h3 => ?_)
    exact En_ret (v := some (Value.int z2)) rfl rfl (retZ rfl rfl (by first | exact q_55451d0a83 h3 | omega) (by first | exact q_87849c3859 h3 | omega)) ⟨hσ0, hF0, z2, rfl, ⟨by first | exact q_097a37c2ae h3 | omega, by first | exact q_e269517bee h3 | omega, fun _ => by omega, fun _ => by omega, fun _ => by omega, fun _ => by omega⟩⟩
  · refine En_Ps 2 (pc' := 6) (lv' := [(0, .ref s), (1, .int a)]) (st' := [.ref s, .int a]) rfl ?_
    refine En_getK (j := 3) h_n rfl rfl rfl hs (by decide +kernel) ?_
    refine En_icGe _ rfl rfl rfl (fun h4 => ?_) (fun h4 => ?_)
    · refine En_Ps 1 (pc' := 17) (lv' := [(0, .ref s), (1, .int a)]) (st' := [.int ((Int32.ofInt 0))]) rfl ?_
      refine En_top (by decide : (Int32.ofInt 0).toInt = 0) (fun z5 h6 => ?_)
      exact En_ret (v := some (Value.int z5)) rfl rfl (retZ rfl rfl (by first | exact q_55451d0a83 h6 | omega) (by first | exact q_87849c3859 h6 | omega)) ⟨hσ0, hF0, z5, rfl, ⟨by first | exact q_097a37c2ae h6 | omega, by first | exact q_e269517bee h6 | omega, fun _ => by omega, fun _ => by omega, fun _ => by omega, fun _ => by omega⟩⟩
    · refine En_Ps 2 (pc' := 17) (lv' := [(0, .ref s), (1, .int a)]) (st' := [.int ((Int32.ofInt 1))]) rfl ?_
      refine En_top (by decide : (Int32.ofInt 1).toInt = 1) (fun z7 h8 => ?_)
      exact En_ret (v := some (Value.int z7)) rfl rfl (retZ rfl rfl (by first | exact q_2b07c97645 h8 | omega) (by first | exact q_d9e7cbb253 h8 | omega)) ⟨hσ0, hF0, z7, rfl, ⟨by first | exact q_ad3eee31ca h8 | omega, by first | exact q_81cf297dc4 h8 | omega, fun hh => by first | exact ⟨q_c803b490ef h1, q_1be5a5166e h4⟩ | omega, fun hh => by first | exact q_a439be255a h8 | omega, fun hh => by first | exact ⟨q_0d55f0b380 h1, q_d9cc3a00e4 h4 hu_n⟩ | omega, fun hh => by first | exact ⟨q_c803b490ef h1, q_14bb4498e6 h4 hu_n⟩ | omega⟩⟩
end
