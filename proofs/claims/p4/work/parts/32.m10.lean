set_option maxRecDepth 10000 in
set_option maxHeartbeats 4000000 in
theorem k_302x_386 {By : Int → Int} {Nb : Int} {Sp : PS} (σ0 : SG) (hσ0 : WT σ0) (f : Int32) (h_f : (σ0 159)[8]? = some (.int f)) (k : Int32) (h_k : (σ0 159)[12]? = some (.int k)) (hM : ML By Nb σ0 Sp) (hg : Sp.1 = 0) : ∀ (σ284 : SG) (y287 : Int32) (y291 : Int32) (y295 : Int32), WT σ284 → Fr [(35, 8), (35, 9), (35, 10), (35, 11), (35, 12), (35, 13), (41, 0)] σ0 σ284 → (σ284 165)[(5 : Int).toNat]? = some (.int y287) → 0 ≤ y287.toInt → y287.toInt ≤ 6 → (σ284 159)[12]? = some (.int y291) → 0 ≤ y291.toInt → y291.toInt ≤ 3 → (σ284 159)[8]? = some (.int y295) → 0 ≤ y295.toInt → y295.toInt ≤ 1600 → f.toInt - y295.toInt ≤ 0 → (y291.toInt ≤ 0 → k.toInt ≤ 0) → y291.toInt ≤ 0 → (iW By Nb 2 Sp) ≤ 0 ∧ -(iW By Nb 2 Sp) ≤ 0 → (iW By Nb 6 Sp) ≤ 0 ∧ -(iW By Nb 6 Sp) ≤ 0 → (iW By Nb 3 Sp) ≤ 0 ∧ -(iW By Nb 3 Sp) ≤ 0 → (iW By Nb 17 Sp) ≤ 0 ∧ -(iW By Nb 17 Sp) ≤ 0 → (iW By Nb 9 Sp) ≤ 0 ∧ -(iW By Nb 9 Sp) ≤ 0 → (iW By Nb 5 Sp) ≤ 0 ∧ -(iW By Nb 5 Sp) ≤ 0 → (iW By Nb 1 Sp) ≤ 0 ∧ -(iW By Nb 1 Sp) ≤ 0 → KF σ0 σ284 → ML By Nb σ284 Sp → gN2 By Nb (gN1 By Nb Sp) = Sp → En 9 200 none mr_302 (P_302x σ0 By Nb Sp f k) 386 [(0, .ref 159)] [] σ284 := by
  obtain ⟨hl_f, hu_f⟩ := WT_int hσ0 (g := 35) (by decide +kernel) (by decide +kernel) (l := 0) (u := 1600) (by decide +kernel) h_f
  obtain ⟨hl_k, hu_k⟩ := WT_int hσ0 (g := 35) (by decide +kernel) (by decide +kernel) (l := 0) (u := 3) (by decide +kernel) h_k
  have hF0 : Fr [(35, 8), (35, 9), (35, 10), (35, 11), (35, 12), (35, 13), (41, 0)] σ0 σ0 := Fr_rfl
  intro σ284 y287 y291 y295 h285 h286 h288 h289 h290 h292 h293 h294 h296 h297 h298 h299 h300 h301 h302 h303 h304 h305 h306 h307 h308 h309 h310 h311
  have h312 := ML_k h310 h292
  have h313 := ML_w h310 hg h288 (by omega) (by omega)
  refine En_Ps 1 (pc' := 387) (lv' := [(0, .ref 159)]) (st' := [.ref 159]) rfl ?_
  refine En_callV rfl rfl rfl rfl rfl rfl rfl rfl (by decide +kernel : TG 159 = 35) (by decide +kernel) rfl (c_189x σ284 h285 y295 h296 h310.1 (ML_at h310 (by omega) h296)) (by decide) (by decide) (fun v315 σ316 h314 => ?_)
  obtain ⟨h317, h318, z320, h321, z322, h323, rfl, h319⟩ := h314
  have h324 := h319.2.2.2.2.2.2.2.2.2.2
  have h325 := Fr_trans h286 h318 (by decide +kernel)
  have h326 := KF_fr h309 h318 (by decide +kernel)
  obtain ⟨S327, h328⟩ : ∃ q : PS, q = adv By Nb Sp := ⟨_, rfl⟩
  have h329 : ML By Nb σ316 S327 := by rw [h328]; exact (ML_adv h310 (by omega) h296 h318 (by decide +kernel) h324.2)
  have h330 := ML_k h329 ((h318 _ _ (inW (by decide +kernel : TG 159 = 35) (by decide +kernel))).trans h292)
  have h331 : Imp (S327.1 = 0) (tK By Nb S327.2.2.1 = z322.toInt) := ML_t h329 h323
  have h332 : S327.2.2.2 = Sp.2.2.2 := by rw [h328]; exact adv_w
  have h333 : S327.1 = 0 := by rw [h328, adv_1]; omega
  have h334 : S327.2.2.2 0 = Sp.2.2.2 0 := by rw [h332]
  have h335 : S327.2.2.2 5 = Sp.2.2.2 5 := by rw [h332]
  refine En_Ps 3 (pc' := 393) (lv' := [(0, .ref 159)]) (st' := [.ref 159, .int ((Int32.ofInt 0)), .ref 159]) rfl ?_
  refine En_getU (j := 14) (u := 165) (g' := 41) (q := 0) rfl rfl rfl (by decide +kernel : TG 159 = 35) (by decide +kernel) h317 (by decide +kernel) (by decide +kernel) (fun h336 => ?_)
  refine En_Ps 1 (pc' := 397) (lv' := [(0, .ref 159)]) (st' := [.int ((Int32.ofInt 5)), .ref 165, .int ((Int32.ofInt 0)), .ref 159]) rfl ?_
  refine En_ialdK ((h318 _ _ (inWa (by decide +kernel : TG 165 = 41) (by decide +kernel))).trans h288) rfl (by decide : (Int32.ofInt 5).toInt = 5) (by decide +kernel : TG 165 = 41) (by decide +kernel) h317 (by omega) (lnI (by decide +kernel : LN _ = 226) (by omega)) ?_
  refine En_Ps 2 (pc' := 400) (lv' := [(0, .ref 159)]) (st' := [.int ((y287 - ((Int32.ofInt 1)))), .int ((Int32.ofInt 0)), .ref 159]) rfl ?_
  refine En_top (subI rfl (by decide : (Int32.ofInt 1).toInt = 1) (by omega) (by omega)) (fun z339 h340 => ?_)
  obtain ⟨z342, h341, h343, h344⟩ := WT_peekI h317 (by decide +kernel : TG 159 = 35) (by decide +kernel : FT 35 11 = (0, 0, 99999)) (by decide +kernel)
  have := (by decide : ((Int32.ofInt 0)).toInt = 0)
  refine En_callV rfl rfl rfl rfl rfl rfl rfl rfl (by decide +kernel : TG 159 = 35) (by decide +kernel) rfl (c_288x σ316 h317 ((Int32.ofInt 0)) z339 (geI (by decide : (Int32.ofInt 0).toInt = 0) (by omega)) (leI (by decide : (Int32.ofInt 0).toInt = 0) (by omega)) (geI rfl (by omega)) (leI rfl (by omega)) z320 h321 y291 ((h318 _ _ (inW (by decide +kernel : TG 159 = 35) (by decide +kernel))).trans h292) z322 h323 z342 h341 h329) (by decide) (by decide) (fun v346 σ347 h345 => ?_)
  obtain ⟨h348, h349, z351, h352, z353, h354, z355, rfl, h350⟩ := h345
  have h356 := h350.2.2.2.2.2.2.2.2.2.2.2.2.2.2.2.2.2.2.2.2.2.2.2.2.2.2.2.2
  have h357 := Fr_trans h325 h349 (by decide +kernel)
  have h358 := KF_fr h326 h349 (by decide +kernel)
  have h359 : tN By Nb ((Int32.ofInt 0)).toInt z339.toInt S327 = tN By Nb (0) (S327.2.2.2 5 - 1) S327 := tN_cg2 (fun zz => by have j1 := Imp_m h331 zz; omega) (fun zz => by have j1 := Imp_m h331 zz; omega)
  obtain ⟨S360, h361⟩ : ∃ q : PS, q = tN By Nb (0) (S327.2.2.2 5 - 1) S327 := ⟨_, rfl⟩
  have h362 : ML By Nb σ347 S360 := by rw [h361]; exact (ML_eq h356.1 h359)
  have h363 := ML_k h362 h354
  have h364 : Imp (S360.1 = 0) (z355.toInt = tV By Nb S327.2.2.1) := fun z => h356.2 (by rw [h359, ← h361]; exact z)
  have h365 : Imp (S360.1 = 0) (S327.1 = 0 ∧ tK By Nb S327.2.2.1 = 2 ∧ 0 ≤ tV By Nb S327.2.2.1 ∧ tV By Nb S327.2.2.1 ≤ S327.2.2.2 5 - 1) := fun z => tN_gg (by rw [← h361]; exact z)
  have h366 : S360.2.2.2 = S327.2.2.2 := by rw [h361]; exact tN_w
  have h367 := Imp_m h350.2.2.2.2.2.2.2.2.2.2.2.2.2.2.2.2.2.2.2.2.2.2.2.1 (by omega)
  have h368 := Imp_m h350.2.2.2.2.2.2.2.2.2.2.2.2.2.2.2.2.2.2.2.2.2.2.2.2.1 (by omega)
  refine En_Ps 5 (pc' := 408) (lv' := [(2, .int z355), (0, .ref 159)]) (st' := [.int ((z355 + ((Int32.ofInt 1)))), .ref 159]) rfl ?_
  refine En_top (addI rfl (by decide : (Int32.ofInt 1).toInt = 1) (by omega) (by omega)) (fun z369 h370 => ?_)
  refine En_Ps 1 (pc' := 409) (lv' := [(2, .int z355), (0, .ref 159)]) (st' := [.ref 159, .int z369, .ref 159]) rfl ?_
  refine En_getK (j := 14) ((h349 _ _ (inW (by decide +kernel : TG 159 = 35) (by decide +kernel))).trans h336) rfl rfl rfl (by decide +kernel : TG 159 = 35) (by decide +kernel) ?_
  refine En_Ps 1 (pc' := 413) (lv' := [(2, .int z355), (0, .ref 159)]) (st' := [.int ((Int32.ofInt 5)), .ref 165, .int z369, .ref 159]) rfl ?_
  refine En_ialdK ((h349 _ _ (inWa (by decide +kernel : TG 165 = 41) (by decide +kernel))).trans ((h318 _ _ (inWa (by decide +kernel : TG 165 = 41) (by decide +kernel))).trans h288)) rfl (by decide : (Int32.ofInt 5).toInt = 5) (by decide +kernel : TG 165 = 41) (by decide +kernel) h348 (by omega) (lnI (by decide +kernel : LN _ = 226) (by omega)) ?_
  refine En_Ps 2 (pc' := 416) (lv' := [(2, .int z355), (0, .ref 159)]) (st' := [.int ((y287 - ((Int32.ofInt 1)))), .int z369, .ref 159]) rfl ?_
  refine En_top (subI rfl (by decide : (Int32.ofInt 1).toInt = 1) (by omega) (by omega)) (fun z372 h373 => ?_)
  obtain ⟨z375, h374, h376, h377⟩ := WT_peekI h348 (by decide +kernel : TG 159 = 35) (by decide +kernel : FT 35 10 = (0, 0, 4)) (by decide +kernel)
  obtain ⟨z379, h378, h380, h381⟩ := WT_peekI h348 (by decide +kernel : TG 159 = 35) (by decide +kernel : FT 35 11 = (0, 0, 99999)) (by decide +kernel)
  refine En_callV rfl rfl rfl rfl rfl rfl rfl rfl (by decide +kernel : TG 159 = 35) (by decide +kernel) rfl (c_288x σ347 h348 z369 z372 (geI rfl (by omega)) (leI rfl (by omega)) (geI rfl (by omega)) (leI rfl (by omega)) z351 h352 z353 h354 z375 h374 z379 h378 h362) (by decide) (by decide) (fun v383 σ384 h382 => ?_)
  obtain ⟨h385, h386, z388, h389, z390, h391, z392, rfl, h387⟩ := h382
  have h393 := h387.2.2.2.2.2.2.2.2.2.2.2.2.2.2.2.2.2.2.2.2.2.2.2.2.2.2.2.2
  have h394 := Fr_trans h357 h386 (by decide +kernel)
  have h395 := KF_fr h358 h386 (by decide +kernel)
  have h396 : tN By Nb z369.toInt z372.toInt S360 = tN By Nb ((tV By Nb S327.2.2.1) + 1) (S327.2.2.2 5 - 1) S360 := tN_cg2 (fun zz => by have j1 := Imp_m h364 zz; have j2 := Imp_m h365 zz; have j3 := Imp_m h331 j2.1; omega) (fun zz => by have j1 := Imp_m h364 zz; have j2 := Imp_m h365 zz; have j3 := Imp_m h331 j2.1; omega)
  obtain ⟨S397, h398⟩ : ∃ q : PS, q = tN By Nb ((tV By Nb S327.2.2.1) + 1) (S327.2.2.2 5 - 1) S360 := ⟨_, rfl⟩
  have h399 : ML By Nb σ384 S397 := by rw [h398]; exact (ML_eq h393.1 h396)
  have h400 := ML_k h399 h391
  have h401 : Imp (S397.1 = 0) (z392.toInt = tV By Nb S360.2.2.1) := fun z => h393.2 (by rw [h396, ← h398]; exact z)
  have h402 : Imp (S397.1 = 0) (S360.1 = 0 ∧ tK By Nb S360.2.2.1 = 2 ∧ (tV By Nb S327.2.2.1) + 1 ≤ tV By Nb S360.2.2.1 ∧ tV By Nb S360.2.2.1 ≤ S327.2.2.2 5 - 1) := fun z => tN_gg (by rw [← h398]; exact z)
  have h403 : S397.2.2.2 = S360.2.2.2 := by rw [h398]; exact tN_w
  have h404 := Imp_m h387.2.2.2.2.2.2.2.2.2.2.2.2.2.2.2.2.2.2.2.2.2.2.2.2.1 (by omega)
  refine En_Ps 2 (pc' := 421) (lv' := [(3, .int z392), (2, .int z355), (0, .ref 159)]) (st' := [.ref 159]) rfl ?_
  refine En_callV rfl rfl rfl rfl rfl rfl rfl rfl (by decide +kernel : TG 159 = 35) (by decide +kernel) rfl (c_237 σ384 h385 z390 h391) (by decide) (by decide) (fun v406 σ407 h405 => ?_)
  obtain ⟨h408, h409, z411, rfl, h410⟩ := h405
  obtain rfl : σ384 = σ407 := Fr_nil h409
  refine En_iEq _ rfl rfl (fun h412 => ?_) (fun h412 => ?_)
  · exact En_ret (v := none) rfl rfl rfl ⟨h385, h394, z388, h389, z390, h391, rfl, ⟨by omega, by omega, by omega, by omega, by omega, by omega, by omega, by omega, by omega, by omega, by omega, by omega, by omega, fun _ => by omega, ⟨h395, ML_eq h399 (by subst h398; subst h361; subst h328; rw [gNx_0 h311 hg (by omega) (by omega) (by omega) (by omega) (by omega) (by omega) (by omega)]; unfold gAhead; (try dsimp only); first | done | (rw [if_pos (by omega)]; first | done | rfl) | (rw [if_neg (by omega)]; first | done | rfl))⟩⟩⟩
  · have h413 := Imp_m h350.2.2.2.2.2.2.2.2.2.2.2.2.2.2.2.2.2.2.2.2.2.2.2.2.2.2.2.1 (by omega)
    have h414 := Imp_m h387.2.2.2.2.2.2.2.2.2.2.2.2.2.2.2.2.2.2.2.2.2.2.2.2.2.1 (by omega)
    have h415 := Imp_m h387.2.2.2.2.2.2.2.2.2.2.2.2.2.2.2.2.2.2.2.2.2.2.2.2.2.2.2.1 (by omega)
    have h416 := Imp_m h319.2.2.2.2.2.2.2.2.2.1 (by omega)
    have h417 := Imp_m h350.2.2.2.2.2.2.2.2.2.2.2.2.2.2.2.2.2.2.2.2.2.2.2.2.2.1 (by omega)
    have h418 : S397.1 = 0 := by omega
    have h419 := Imp_m h401 h418
    have h420 := Imp_m h402 h418
    have h421 := Imp_m h364 h420.1
    have h422 := Imp_m h365 h420.1
    have h423 := Imp_m h331 h422.1
    refine En_Ps 1 (pc' := 428) (lv' := [(3, .int z392), (2, .int z355), (0, .ref 159)]) (st' := [.ref 159]) rfl ?_
    refine En_getK (j := 14) ((h386 _ _ (inW (by decide +kernel : TG 159 = 35) (by decide +kernel))).trans ((h349 _ _ (inW (by decide +kernel : TG 159 = 35) (by decide +kernel))).trans h336)) rfl rfl rfl (by decide +kernel : TG 159 = 35) (by decide +kernel) ?_
    refine En_Ps 4 (pc' := 437) (lv' := [(3, .int z392), (2, .int z355), (0, .ref 159)]) (st' := [.int ((((Int32.ofInt 2)) * z392)), .int (((Int16.ofInt 154).toInt32)), .ref 165]) rfl ?_
    refine En_top (mulI (by decide : (Int32.ofInt 2).toInt = 2) rfl (Z := 2 * z392.toInt) (by omega) (by omega) (by omega)) (fun z424 h425 => ?_)
    refine En_Ps 1 (pc' := 438) (lv' := [(3, .int z392), (2, .int z355), (0, .ref 159)]) (st' := [.int (((((Int16.ofInt 154).toInt32)) + z424)), .ref 165]) rfl ?_
    refine En_top (addI (by decide : ((Int16.ofInt 154).toInt32).toInt = 154) rfl (by omega) (by omega)) (fun z426 h427 => ?_)
    refine En_Ps 2 (pc' := 440) (lv' := [(3, .int z392), (2, .int z355), (0, .ref 159)]) (st' := [.int ((z426 + ((Int32.ofInt 1)))), .ref 165]) rfl ?_
    refine En_top (addI rfl (by decide : (Int32.ofInt 1).toInt = 1) (by omega) (by omega)) (fun z428 h429 => ?_)
    refine En_Ps 1 (pc' := 441) (lv' := [(3, .int z392), (2, .int z355), (0, .ref 159)]) (st' := [.int z428, .ref 165, .int z428, .ref 165]) rfl ?_
    refine En_iald (l := 0) (u := 63) rfl rfl (by decide +kernel : TG 165 = 41) (by decide +kernel) h385 (by omega) (lnI (by decide +kernel : LN _ = 226) (by omega)) (FTrow 41 157 2 5 (by decide +kernel) (by omega) (by omega) (by omega)) (fun z431 h430 h432 h433 => ?_)
    have h434 : S397.2.2.2 (155 + 2 * (tV By Nb S360.2.2.1)) = z431.toInt := ML_wi h399 (by omega) h430 (by omega) (by omega) (by omega)
    rw [h403, h366] at h434
    refine En_Ps 4 (pc' := 446) (lv' := [(3, .int z392), (2, .int z355), (0, .ref 159)]) (st' := [.int ((z431 ||| ((Int32.ofInt 1) <<< (z355 &&& 31)))), .int z428, .ref 165]) rfl ?_
    refine En_nam (fun z435 h436 => ?_)
    have h437 := orP_v (x := z431) (y := z355) h436 rfl rfl (by omega) (by omega) (by omega) (by omega)
    have h438 : z435.toInt = orP (S327.2.2.2 (155 + 2 * (tV By Nb S360.2.2.1))) (tV By Nb S327.2.2.1) := by rw [h437.1]; exact orP_cg (by omega) (by omega)
    refine En_iast (l := 0) (u := 63) rfl rfl (by decide +kernel : TG 165 = 41) (by decide +kernel) (by omega) (lnI (by decide +kernel : LN _ = 226) (by omega)) (FTrow 41 157 2 5 (by decide +kernel) (by omega) (by omega) (by omega)) (rngI rfl (by omega) (by omega)) h385 h394 (by decide +kernel) (fun σ439 h440 h441 h442 h443 => ?_)
    have h444 := KF_st h395 (J := z428.toInt) h443 (by omega) (by omega)
    obtain ⟨S445, h446⟩ : ∃ q : PS, q = wst S397 (155 + 2 * (tV By Nb S360.2.2.1)) (orP (S327.2.2.2 (155 + 2 * (tV By Nb S360.2.2.1))) (tV By Nb S327.2.2.1)) := ⟨_, rfl⟩
    have h447 : ML By Nb σ439 S445 := by rw [h446]; exact (ML_wst (i := 155 + 2 * (tV By Nb S360.2.2.1)) (v := orP (S327.2.2.2 (155 + 2 * (tV By Nb S360.2.2.1))) (tV By Nb S327.2.2.1)) h399 h442 h443 (by omega) (fun z => by have j1 := Imp_m h401 z; have j2 := Imp_m h402 z; have j3 := Imp_m h364 j2.1; have j4 := Imp_m h365 j2.1; have j5 := Imp_m h331 j4.1; exact ⟨by omega, by omega⟩))
    have h448 := ML_k h447 ((h443 _ _ (Or.inl (neTG (by decide +kernel : TG 159 = 35) (by decide +kernel : TG 165 = 41) (by decide)))).trans h391)
    have h449 : S445.1 = S397.1 := by rw [h446]; rfl
    exact En_ret (v := none) rfl rfl rfl ⟨h440, h441, z388, ((h443 _ _ (Or.inl (neTG (by decide +kernel : TG 159 = 35) (by decide +kernel : TG 165 = 41) (by decide)))).trans h389), z390, ((h443 _ _ (Or.inl (neTG (by decide +kernel : TG 159 = 35) (by decide +kernel : TG 165 = 41) (by decide)))).trans h391), rfl, ⟨by omega, by omega, by omega, by omega, by omega, by omega, by omega, by omega, by omega, by omega, by omega, by omega, by omega, fun _ => by omega, ⟨h444, ML_eq h447 (by subst h446; subst h398; subst h361; subst h328; rw [gNx_0 h311 hg (by omega) (by omega) (by omega) (by omega) (by omega) (by omega) (by omega)]; unfold gAhead; (try dsimp only); first | done | (rw [if_pos (by omega)]; first | done | rfl) | (rw [if_neg (by omega)]; first | done | rfl))⟩⟩⟩
set_option maxRecDepth 10000 in
set_option maxHeartbeats 4000000 in
theorem k_302x_170 {By : Int → Int} {Nb : Int} {Sp : PS} (σ0 : SG) (hσ0 : WT σ0) (f : Int32) (h_f : (σ0 159)[8]? = some (.int f)) (k : Int32) (h_k : (σ0 159)[12]? = some (.int k)) (hM : ML By Nb σ0 Sp) (hg : Sp.1 = 0) : ∀ (σ450 : SG) (y453 : Int32) (y457 : Int32) (y461 : Int32) (y465 : Int32) (y469 : Int32) (y473 : Int32), WT σ450 → Fr [(35, 8), (35, 9), (35, 10), (35, 11), (35, 12), (35, 13), (41, 0)] σ0 σ450 → (σ450 165)[(2 : Int).toNat]? = some (.int y453) → 0 ≤ y453.toInt → y453.toInt ≤ 4 → (σ450 165)[(3 : Int).toNat]? = some (.int y457) → 0 ≤ y457.toInt → y457.toInt ≤ 12 → (σ450 165)[(4 : Int).toNat]? = some (.int y461) → 0 ≤ y461.toInt → y461.toInt ≤ 4 → (σ450 165)[(5 : Int).toNat]? = some (.int y465) → 0 ≤ y465.toInt → y465.toInt ≤ 6 → (σ450 159)[12]? = some (.int y469) → 0 ≤ y469.toInt → y469.toInt ≤ 3 → (σ450 159)[8]? = some (.int y473) → 0 ≤ y473.toInt → y473.toInt ≤ 1600 → f.toInt - y473.toInt ≤ 0 → (y469.toInt ≤ 0 → k.toInt ≤ 0) → (y469.toInt ≤ 0 ∧ -(iW By Nb 2 Sp) + 1 ≤ 0 → y453.toInt - 3 ≤ 0) → (y469.toInt ≤ 0 ∧ -(iW By Nb 3 Sp) + 1 ≤ 0 → y457.toInt - 11 ≤ 0) → (y469.toInt ≤ 0 ∧ -(iW By Nb 5 Sp) + 1 ≤ 0 → y461.toInt - 3 ≤ 0) → (y469.toInt ≤ 0 ∧ -(iW By Nb 1 Sp) + 1 ≤ 0 → y465.toInt - 5 ≤ 0) → KF σ0 σ450 → ML By Nb σ450 (gN2 By Nb (gN1 By Nb Sp)) → En 9 200 none mr_302 (P_302x σ0 By Nb Sp f k) 170 [(0, .ref 159)] [] σ450 := by
  obtain ⟨hl_f, hu_f⟩ := WT_int hσ0 (g := 35) (by decide +kernel) (by decide +kernel) (l := 0) (u := 1600) (by decide +kernel) h_f
  obtain ⟨hl_k, hu_k⟩ := WT_int hσ0 (g := 35) (by decide +kernel) (by decide +kernel) (l := 0) (u := 3) (by decide +kernel) h_k
  have hF0 : Fr [(35, 8), (35, 9), (35, 10), (35, 11), (35, 12), (35, 13), (41, 0)] σ0 σ0 := Fr_rfl
  have keyj219 := k_302x_219 σ0 hσ0 f h_f k h_k hM hg
  have keyj309 := k_302x_309 σ0 hσ0 f h_f k h_k hM hg
  have keyj347 := k_302x_347 σ0 hσ0 f h_f k h_k hM hg
  have keyj386 := k_302x_386 σ0 hσ0 f h_f k h_k hM hg
  intro σ450 y453 y457 y461 y465 y469 y473 h451 h452 h454 h455 h456 h458 h459 h460 h462 h463 h464 h466 h467 h468 h470 h471 h472 h474 h475 h476 h477 h478 h479 h480 h481 h482 h483 h484
  have h485 := ML_k h484 h470
  refine En_Ps 1 (pc' := 171) (lv' := [(0, .ref 159)]) (st' := [.ref 159]) rfl ?_
  refine En_callV rfl rfl rfl rfl rfl rfl rfl rfl (by decide +kernel : TG 159 = 35) (by decide +kernel) rfl (c_237 σ450 h451 y469 h470) (by decide) (by decide) (fun v487 σ488 h486 => ?_)
  obtain ⟨h489, h490, z492, rfl, h491⟩ := h486
  obtain rfl : σ450 = σ488 := Fr_nil h490
  refine En_iNe _ rfl rfl (fun h493 => ?_) (fun h493 => ?_)
  · have h494 : gN2 By Nb (gN1 By Nb Sp) = Sp := gN12_id (by omega)
    have h495 : ML By Nb σ450 Sp := ML_eq h484 h494
    have h497 := ML_k h495 h470
    have h498 := ML_w h495 hg h454 (by omega) (by omega)
    have h499 := ML_w h495 hg h458 (by omega) (by omega)
    have h500 := ML_w h495 hg h462 (by omega) (by omega)
    have h501 := ML_w h495 hg h466 (by omega) (by omega)
    refine En_Ps 1 (pc' := 179) (lv' := [(0, .ref 159)]) (st' := [.ref 159]) rfl ?_
    refine En_ldcS (i := 2) rfl rfl rfl ?_
    refine En_callV rfl rfl rfl rfl rfl rfl rfl rfl (by decide +kernel : TG 159 = 35) (by decide +kernel) rfl (c_318s2x σ450 h451 y473 h474 h495) (by decide) (by decide) (fun v503 σ504 h502 => ?_)
    obtain ⟨h505, h506, z508, h509, z510, rfl, h507⟩ := h502
    have h511 := h507.2.2.2.2.2.2.2
    have h512 := Fr_trans h452 h506 (by decide +kernel)
    have h513 := KF_fr h483 h506 (by decide +kernel)
    have h514 := h511.2.1
    refine En_iEq _ rfl rfl (fun h515 => ?_) (fun h515 => ?_)
    · obtain rfl : σ450 = σ504 := h511.1 (by omega)
      refine En_Ps 1 (pc' := 195) (lv' := [(0, .ref 159)]) (st' := [.ref 159]) rfl ?_
      refine En_ldcS (i := 6) rfl rfl rfl ?_
      refine En_callV rfl rfl rfl rfl rfl rfl rfl rfl (by decide +kernel : TG 159 = 35) (by decide +kernel) rfl (c_318s6x σ450 h451 y473 h474 h495) (by decide) (by decide) (fun v517 σ518 h516 => ?_)
      obtain ⟨h519, h520, z522, h523, z524, rfl, h521⟩ := h516
      have h525 := h521.2.2.2.2.2.2.2
      have h526 := Fr_trans h452 h520 (by decide +kernel)
      have h527 := KF_fr h483 h520 (by decide +kernel)
      have h528 := h525.2.1
      refine En_iEq _ rfl rfl (fun h529 => ?_) (fun h529 => ?_)
      · obtain rfl : σ450 = σ518 := h525.1 (by omega)
        refine En_Ps 1 (pc' := 211) (lv' := [(0, .ref 159)]) (st' := [.ref 159]) rfl ?_
        refine En_ldcS (i := 3) rfl rfl rfl ?_
        refine En_callV rfl rfl rfl rfl rfl rfl rfl rfl (by decide +kernel : TG 159 = 35) (by decide +kernel) rfl (c_318s3x σ450 h451 y473 h474 h495) (by decide) (by decide) (fun v531 σ532 h530 => ?_)
        obtain ⟨h533, h534, z536, h537, z538, rfl, h535⟩ := h530
        have h539 := h535.2.2.2.2.2.2.2
        have h540 := Fr_trans h452 h534 (by decide +kernel)
        have h541 := KF_fr h483 h534 (by decide +kernel)
        have h542 := h539.2.1
        refine En_iEq _ rfl rfl (fun h543 => ?_) (fun h543 => ?_)
        · obtain rfl : σ450 = σ532 := h539.1 (by omega)
          refine En_Ps 1 (pc' := 267) (lv' := [(0, .ref 159)]) (st' := [.ref 159]) rfl ?_
          refine En_ldcS (i := 17) rfl rfl rfl ?_
          refine En_callV rfl rfl rfl rfl rfl rfl rfl rfl (by decide +kernel : TG 159 = 35) (by decide +kernel) rfl (c_318s17x σ450 h451 y473 h474 h495) (by decide) (by decide) (fun v545 σ546 h544 => ?_)
          obtain ⟨h547, h548, z550, h551, z552, rfl, h549⟩ := h544
          have h553 := h549.2.2.2.2.2.2.2
          have h554 := Fr_trans h452 h548 (by decide +kernel)
          have h555 := KF_fr h483 h548 (by decide +kernel)
          have h556 := h553.2.1
          refine En_iEq _ rfl rfl (fun h557 => ?_) (fun h557 => ?_)
          · obtain rfl : σ450 = σ546 := h553.1 (by omega)
            refine En_Ps 1 (pc' := 283) (lv' := [(0, .ref 159)]) (st' := [.ref 159]) rfl ?_
            refine En_ldcS (i := 9) rfl rfl rfl ?_
            refine En_callV rfl rfl rfl rfl rfl rfl rfl rfl (by decide +kernel : TG 159 = 35) (by decide +kernel) rfl (c_318s9x σ450 h451 y473 h474 h495) (by decide) (by decide) (fun v559 σ560 h558 => ?_)
            obtain ⟨h561, h562, z564, h565, z566, rfl, h563⟩ := h558
            have h567 := h563.2.2.2.2.2.2.2
            have h568 := Fr_trans h452 h562 (by decide +kernel)
            have h569 := KF_fr h483 h562 (by decide +kernel)
            have h570 := h567.2.1
            refine En_iEq _ rfl rfl (fun h571 => ?_) (fun h571 => ?_)
            · obtain rfl : σ450 = σ560 := h567.1 (by omega)
              refine En_Ps 1 (pc' := 301) (lv' := [(0, .ref 159)]) (st' := [.ref 159]) rfl ?_
              refine En_ldcS (i := 5) rfl rfl rfl ?_
              refine En_callV rfl rfl rfl rfl rfl rfl rfl rfl (by decide +kernel : TG 159 = 35) (by decide +kernel) rfl (c_318s5x σ450 h451 y473 h474 h495) (by decide) (by decide) (fun v573 σ574 h572 => ?_)
              obtain ⟨h575, h576, z578, h579, z580, rfl, h577⟩ := h572
              have h581 := h577.2.2.2.2.2.2.2
              have h582 := Fr_trans h452 h576 (by decide +kernel)
              have h583 := KF_fr h483 h576 (by decide +kernel)
              have h584 := h581.2.1
              refine En_iEq _ rfl rfl (fun h585 => ?_) (fun h585 => ?_)
              · obtain rfl : σ450 = σ574 := h581.1 (by omega)
                refine En_Ps 1 (pc' := 339) (lv' := [(0, .ref 159)]) (st' := [.ref 159]) rfl ?_
                refine En_ldcS (i := 1) rfl rfl rfl ?_
                refine En_callV rfl rfl rfl rfl rfl rfl rfl rfl (by decide +kernel : TG 159 = 35) (by decide +kernel) rfl (c_318s1x σ450 h451 y473 h474 h495) (by decide) (by decide) (fun v587 σ588 h586 => ?_)
                obtain ⟨h589, h590, z592, h593, z594, rfl, h591⟩ := h586
                have h595 := h591.2.2.2.2.2.2.2
                have h596 := Fr_trans h452 h590 (by decide +kernel)
                have h597 := KF_fr h483 h590 (by decide +kernel)
                have h598 := h595.2.1
                refine En_iEq _ rfl rfl (fun h599 => ?_) (fun h599 => ?_)
                · exact keyj386 σ588 y465 y469 z592 h589 h596 ((h590 _ _ (inWa (by decide +kernel : TG 165 = 41) (by decide +kernel))).trans h466) (by omega) (by omega) ((h590 _ _ (inW (by decide +kernel : TG 159 = 35) (by decide +kernel))).trans h470) (by omega) (by omega) h593 (by omega) (by omega) (by omega) (by omega) (by omega) (by omega) (by omega) (by omega) (by omega) (by omega) (by omega) (by omega) (h597) ((h595.1 (by omega)) ▸ h495) (h494)
                · exact keyj347 σ588 y465 y469 z592 h589 h596 ((h590 _ _ (inWa (by decide +kernel : TG 165 = 41) (by decide +kernel))).trans h466) (by omega) (by omega) ((h590 _ _ (inW (by decide +kernel : TG 159 = 35) (by decide +kernel))).trans h470) (by omega) (by omega) h593 (by omega) (by omega) (by omega) (by omega) (by omega) (by omega) (by omega) (by omega) (by omega) (by omega) (by omega) (by omega) (by omega) (h597) (h595.2.2 (by omega)) (h494)
              · exact keyj309 σ574 y461 y469 z578 h575 h582 ((h576 _ _ (inWa (by decide +kernel : TG 165 = 41) (by decide +kernel))).trans h462) (by omega) (by omega) ((h576 _ _ (inW (by decide +kernel : TG 159 = 35) (by decide +kernel))).trans h470) (by omega) (by omega) h579 (by omega) (by omega) (by omega) (by omega) (by omega) (by omega) (by omega) (by omega) (by omega) (by omega) (by omega) (by omega) (h583) (h581.2.2 (by omega)) (h494)
            · have h600 : Sp.1 = 0 := iW_g (i := 9) (B := By) (n := Nb) (by omega)
              obtain ⟨S601, h602⟩ : ∃ q : PS, q = adv By Nb Sp := ⟨_, rfl⟩
              have h603 : ML By Nb σ560 S601 := by rw [h602]; exact h567.2.2 (by omega)
              have h604 := ML_k h603 ((h562 _ _ (inW (by decide +kernel : TG 159 = 35) (by decide +kernel))).trans h470)
              have h605 : S601.2.2.2 = Sp.2.2.2 := by rw [h602]; exact adv_w
              have h606 : S601.1 = 0 := by rw [h602, adv_1]; exact h600
              have h607 : S601.2.2.2 0 = Sp.2.2.2 0 := by rw [h605]
              have h608 : S601.2.2.2 2 = Sp.2.2.2 2 := by rw [h605]
              have h609 : S601.2.2.2 3 = Sp.2.2.2 3 := by rw [h605]
              have h610 : S601.2.2.2 4 = Sp.2.2.2 4 := by rw [h605]
              have h611 : S601.2.2.2 5 = Sp.2.2.2 5 := by rw [h605]
              refine En_Ps 2 (pc' := 294) (lv' := [(0, .ref 159)]) (st' := [.int (((Int8.ofInt 8).toInt32)), .ref 159]) rfl ?_
              have := (by decide : (((Int8.ofInt 8).toInt32)).toInt = 8)
              refine En_callV rfl rfl rfl rfl rfl rfl rfl rfl (by decide +kernel : TG 159 = 35) (by decide +kernel) rfl (c_303ax σ560 h561 (((Int8.ofInt 8).toInt32)) (geI (by decide : ((Int8.ofInt 8).toInt32).toInt = 8) (by omega)) (leI (by decide : ((Int8.ofInt 8).toInt32).toInt = 8) (by omega)) z564 h565 y469 ((h562 _ _ (inW (by decide +kernel : TG 159 = 35) (by decide +kernel))).trans h470) h603 (by omega)) (by decide) (by decide) (fun v613 σ614 h612 => ?_)
              obtain ⟨h615, h616, z618, h619, z620, h621, rfl, h617⟩ := h612
              have h622 := h617.2.2.2.2.2.2.2.2.2.2.2.2.2.2
              have h623 := Fr_trans h568 h616 (by decide +kernel)
              have h624 := KF_tr h569 (KF_of h622.1)
              obtain ⟨S625, h626⟩ : ∃ q : PS, q = gRule By Nb (8) S601 := ⟨_, rfl⟩
              have h627 : ML By Nb σ614 S625 := by rw [h626]; exact (ML_eq h622.2 (gRule_cg (by omega)))
              have h628 := ML_k h627 h621
              refine En_Ps 1 (pc' := 447) (lv' := [(0, .ref 159)]) (st' := []) rfl ?_
              exact En_ret (v := none) rfl rfl rfl ⟨h615, h623, z618, h619, z620, h621, rfl, ⟨by omega, by omega, by omega, by omega, by omega, by omega, by omega, by omega, by omega, by omega, by omega, by omega, by omega, fun _ => by omega, ⟨h624, ML_eq h627 (by subst h626; subst h602; rw [gNx_9 h494 hg (by omega) (by omega) (by omega) (by omega) (by omega)])⟩⟩⟩
          · have h629 : Sp.1 = 0 := iW_g (i := 17) (B := By) (n := Nb) (by omega)
            obtain ⟨S630, h631⟩ : ∃ q : PS, q = adv By Nb Sp := ⟨_, rfl⟩
            have h632 : ML By Nb σ546 S630 := by rw [h631]; exact h553.2.2 (by omega)
            have h633 := ML_k h632 ((h548 _ _ (inW (by decide +kernel : TG 159 = 35) (by decide +kernel))).trans h470)
            have h634 : S630.2.2.2 = Sp.2.2.2 := by rw [h631]; exact adv_w
            have h635 : S630.1 = 0 := by rw [h631, adv_1]; exact h629
            have h636 : S630.2.2.2 0 = Sp.2.2.2 0 := by rw [h634]
            have h637 : S630.2.2.2 2 = Sp.2.2.2 2 := by rw [h634]
            have h638 : S630.2.2.2 3 = Sp.2.2.2 3 := by rw [h634]
            have h639 : S630.2.2.2 4 = Sp.2.2.2 4 := by rw [h634]
            have h640 : S630.2.2.2 5 = Sp.2.2.2 5 := by rw [h634]
            refine En_Ps 1 (pc' := 276) (lv' := [(0, .ref 159)]) (st' := [.ref 159]) rfl ?_
            refine En_callV rfl rfl rfl rfl rfl rfl rfl rfl (by decide +kernel : TG 159 = 35) (by decide +kernel) rfl (c_304x σ546 h547 z550 h551 y469 ((h548 _ _ (inW (by decide +kernel : TG 159 = 35) (by decide +kernel))).trans h470) h632 (by omega)) (by decide) (by decide) (fun v642 σ643 h641 => ?_)
            obtain ⟨h644, h645, z647, h648, z649, h650, rfl, h646⟩ := h641
            have h651 := h646.2.2.2.2.2.2.2.2.2.2.2.2.2.2
            have h652 := Fr_trans h554 h645 (by decide +kernel)
            have h653 := KF_tr h555 h651.1
            obtain ⟨S654, h655⟩ : ∃ q : PS, q = gTwin By Nb S630 := ⟨_, rfl⟩
            have h656 : ML By Nb σ643 S654 := by rw [h655]; exact h651.2
            have h657 := ML_k h656 h650
            refine En_Ps 1 (pc' := 447) (lv' := [(0, .ref 159)]) (st' := []) rfl ?_
            exact En_ret (v := none) rfl rfl rfl ⟨h644, h652, z647, h648, z649, h650, rfl, ⟨by omega, by omega, by omega, by omega, by omega, by omega, by omega, by omega, by omega, by omega, by omega, by omega, by omega, fun _ => by omega, ⟨h653, ML_eq h656 (by subst h655; subst h631; rw [gNx_17 h494 hg (by omega) (by omega) (by omega) (by omega)])⟩⟩⟩
        · exact keyj219 σ532 y457 y469 z536 h533 h540 ((h534 _ _ (inWa (by decide +kernel : TG 165 = 41) (by decide +kernel))).trans h458) (by omega) (by omega) ((h534 _ _ (inW (by decide +kernel : TG 159 = 35) (by decide +kernel))).trans h470) (by omega) (by omega) h537 (by omega) (by omega) (by omega) (by omega) (by omega) (by omega) (by omega) (by omega) (by omega) (h541) (h539.2.2 (by omega)) (h494)
      · have h658 : Sp.1 = 0 := iW_g (i := 6) (B := By) (n := Nb) (by omega)
        obtain ⟨S659, h660⟩ : ∃ q : PS, q = adv By Nb Sp := ⟨_, rfl⟩
        have h661 : ML By Nb σ518 S659 := by rw [h660]; exact h525.2.2 (by omega)
        have h662 := ML_k h661 ((h520 _ _ (inW (by decide +kernel : TG 159 = 35) (by decide +kernel))).trans h470)
        have h663 : S659.2.2.2 = Sp.2.2.2 := by rw [h660]; exact adv_w
        have h664 : S659.1 = 0 := by rw [h660, adv_1]; exact h658
        have h665 : S659.2.2.2 0 = Sp.2.2.2 0 := by rw [h663]
        have h666 : S659.2.2.2 2 = Sp.2.2.2 2 := by rw [h663]
        have h667 : S659.2.2.2 3 = Sp.2.2.2 3 := by rw [h663]
        have h668 : S659.2.2.2 4 = Sp.2.2.2 4 := by rw [h663]
        have h669 : S659.2.2.2 5 = Sp.2.2.2 5 := by rw [h663]
        refine En_Ps 1 (pc' := 204) (lv' := [(0, .ref 159)]) (st' := [.ref 159]) rfl ?_
        refine En_callV rfl rfl rfl rfl rfl rfl rfl rfl (by decide +kernel : TG 159 = 35) (by decide +kernel) rfl (c_300x σ518 h519 z522 h523 y469 ((h520 _ _ (inW (by decide +kernel : TG 159 = 35) (by decide +kernel))).trans h470) h661 (by omega)) (by decide) (by decide) (fun v671 σ672 h670 => ?_)
        obtain ⟨h673, h674, z676, h677, z678, h679, rfl, h675⟩ := h670
        have h680 := h675.2.2.2.2.2.2.2.2.2.2.2.2.2.2
        have h681 := Fr_trans h526 h674 (by decide +kernel)
        have h682 := KF_tr h527 h680.1
        obtain ⟨S683, h684⟩ : ∃ q : PS, q = gLesson By Nb S659 := ⟨_, rfl⟩
        have h685 : ML By Nb σ672 S683 := by rw [h684]; exact h680.2
        have h686 := ML_k h685 h679
        refine En_Ps 1 (pc' := 447) (lv' := [(0, .ref 159)]) (st' := []) rfl ?_
        exact En_ret (v := none) rfl rfl rfl ⟨h673, h681, z676, h677, z678, h679, rfl, ⟨by omega, by omega, by omega, by omega, by omega, by omega, by omega, by omega, by omega, by omega, by omega, by omega, by omega, fun _ => by omega, ⟨h682, ML_eq h685 (by subst h684; subst h660; rw [gNx_6 h494 hg (by omega) (by omega)])⟩⟩⟩
    · have h687 : Sp.1 = 0 := iW_g (i := 2) (B := By) (n := Nb) (by omega)
      obtain ⟨S688, h689⟩ : ∃ q : PS, q = adv By Nb Sp := ⟨_, rfl⟩
      have h690 : ML By Nb σ504 S688 := by rw [h689]; exact h511.2.2 (by omega)
      have h691 := ML_k h690 ((h506 _ _ (inW (by decide +kernel : TG 159 = 35) (by decide +kernel))).trans h470)
      have h692 : S688.2.2.2 = Sp.2.2.2 := by rw [h689]; exact adv_w
      have h693 : S688.1 = 0 := by rw [h689, adv_1]; exact h687
      have h694 : S688.2.2.2 0 = Sp.2.2.2 0 := by rw [h692]
      have h695 : S688.2.2.2 2 = Sp.2.2.2 2 := by rw [h692]
      have h696 : S688.2.2.2 3 = Sp.2.2.2 3 := by rw [h692]
      have h697 : S688.2.2.2 4 = Sp.2.2.2 4 := by rw [h692]
      have h698 : S688.2.2.2 5 = Sp.2.2.2 5 := by rw [h692]
      refine En_Ps 1 (pc' := 188) (lv' := [(0, .ref 159)]) (st' := [.ref 159]) rfl ?_
      refine En_callV rfl rfl rfl rfl rfl rfl rfl rfl (by decide +kernel : TG 159 = 35) (by decide +kernel) rfl (c_299x σ504 h505 z508 h509 y469 ((h506 _ _ (inW (by decide +kernel : TG 159 = 35) (by decide +kernel))).trans h470) y453 ((h506 _ _ (inWa (by decide +kernel : TG 165 = 41) (by decide +kernel))).trans h454) (by omega) h690 (by omega)) (by decide) (by decide) (fun v700 σ701 h699 => ?_)
      obtain ⟨h702, h703, z705, h706, z707, h708, rfl, h704⟩ := h699
      have h709 := h704.2.2.2.2.2.2.2.2.2.2.2.2.2.2.2.2.2.2
      have h710 := Fr_trans h512 h703 (by decide +kernel)
      have h711 := KF_tr h513 h709.1
      obtain ⟨S712, h713⟩ : ∃ q : PS, q = gDoor By Nb S688 := ⟨_, rfl⟩
      have h714 : ML By Nb σ701 S712 := by rw [h713]; exact h709.2
      have h715 := ML_k h714 h708
      refine En_Ps 1 (pc' := 447) (lv' := [(0, .ref 159)]) (st' := []) rfl ?_
      exact En_ret (v := none) rfl rfl rfl ⟨h702, h710, z705, h706, z707, h708, rfl, ⟨by omega, by omega, by omega, by omega, by omega, by omega, by omega, by omega, by omega, by omega, by omega, by omega, by omega, fun _ => by omega, ⟨h711, ML_eq h714 (by subst h713; subst h689; rw [gNx_2 h494 hg (by omega)])⟩⟩⟩
  · exact En_ret (v := none) rfl rfl rfl ⟨h451, h452, y473, h474, y469, h470, rfl, ⟨by omega, by omega, by omega, by omega, by omega, by omega, by omega, by omega, by omega, by omega, by omega, by omega, by omega, fun _ => by omega, ⟨h483, ML_eq h484 (by unfold gNext; dsimp only; rw [if_pos (by omega)])⟩⟩⟩
set_option maxRecDepth 10000 in
set_option maxHeartbeats 4000000 in
theorem k_302x_87 {By : Int → Int} {Nb : Int} {Sp : PS} (σ0 : SG) (hσ0 : WT σ0) (f : Int32) (h_f : (σ0 159)[8]? = some (.int f)) (k : Int32) (h_k : (σ0 159)[12]? = some (.int k)) (hM : ML By Nb σ0 Sp) (hg : Sp.1 = 0) : ∀ (σ716 : SG) (y719 : Int32) (y723 : Int32), WT σ716 → Fr [(35, 8), (35, 9), (35, 10), (35, 11), (35, 12), (35, 13), (41, 0)] σ0 σ716 → (σ716 159)[12]? = some (.int y719) → 0 ≤ y719.toInt → y719.toInt ≤ 3 → (σ716 159)[8]? = some (.int y723) → 0 ≤ y723.toInt → y723.toInt ≤ 1600 → f.toInt - y723.toInt ≤ 0 → (y719.toInt ≤ 0 → k.toInt ≤ 0) → KF σ0 σ716 → ML By Nb σ716 (gN1 By Nb Sp) → En 9 200 none mr_302 (P_302x σ0 By Nb Sp f k) 87 [(0, .ref 159)] [] σ716 := by
  obtain ⟨hl_f, hu_f⟩ := WT_int hσ0 (g := 35) (by decide +kernel) (by decide +kernel) (l := 0) (u := 1600) (by decide +kernel) h_f
  obtain ⟨hl_k, hu_k⟩ := WT_int hσ0 (g := 35) (by decide +kernel) (by decide +kernel) (l := 0) (u := 3) (by decide +kernel) h_k
  have hF0 : Fr [(35, 8), (35, 9), (35, 10), (35, 11), (35, 12), (35, 13), (41, 0)] σ0 σ0 := Fr_rfl
  have keyj170 := k_302x_170 σ0 hσ0 f h_f k h_k hM hg
  intro σ716 y719 y723 h717 h718 h720 h721 h722 h724 h725 h726 h727 h728 h729 h730
  have h731 := ML_k h730 h720
  have h732 : Imp ((gN1 By Nb Sp).1 = 0) (iW By Nb 2 (gN1 By Nb Sp) = iW By Nb 2 Sp) := gN1_iW
  have h733 : Imp ((gN1 By Nb Sp).1 = 0) (iW By Nb 3 (gN1 By Nb Sp) = iW By Nb 3 Sp) := gN1_iW
  have h734 : Imp ((gN1 By Nb Sp).1 = 0) (iW By Nb 5 (gN1 By Nb Sp) = iW By Nb 5 Sp) := gN1_iW
  have h735 : Imp ((gN1 By Nb Sp).1 = 0) (iW By Nb 1 (gN1 By Nb Sp) = iW By Nb 1 Sp) := gN1_iW
  refine En_Ps 1 (pc' := 88) (lv' := [(0, .ref 159)]) (st' := [.ref 159]) rfl ?_
  refine En_ldcS (i := 2) rfl rfl rfl ?_
  refine En_callV rfl rfl rfl rfl rfl rfl rfl rfl (by decide +kernel : TG 159 = 35) (by decide +kernel) rfl (c_251s2x σ716 h717 h730) (by decide) (by decide) (fun v737 σ738 h736 => ?_)
  obtain ⟨h739, h740, z742, rfl, h741⟩ := h736
  have h743 := h741.2.2
  obtain rfl : σ716 = σ738 := Fr_nil h740
  refine En_iEq _ rfl rfl (fun h744 => ?_) (fun h744 => ?_)
  · refine En_Ps 1 (pc' := 107) (lv' := [(0, .ref 159)]) (st' := [.ref 159]) rfl ?_
    refine En_ldcS (i := 3) rfl rfl rfl ?_
    refine En_callV rfl rfl rfl rfl rfl rfl rfl rfl (by decide +kernel : TG 159 = 35) (by decide +kernel) rfl (c_251s3x σ716 h717 h730) (by decide) (by decide) (fun v746 σ747 h745 => ?_)
    obtain ⟨h748, h749, z751, rfl, h750⟩ := h745
    have h752 := h750.2.2
    obtain rfl : σ716 = σ747 := Fr_nil h749
    refine En_iEq _ rfl rfl (fun h753 => ?_) (fun h753 => ?_)
    · refine En_Ps 1 (pc' := 127) (lv' := [(0, .ref 159)]) (st' := [.ref 159]) rfl ?_
      refine En_ldcS (i := 5) rfl rfl rfl ?_
      refine En_callV rfl rfl rfl rfl rfl rfl rfl rfl (by decide +kernel : TG 159 = 35) (by decide +kernel) rfl (c_251s5x σ716 h717 h730) (by decide) (by decide) (fun v755 σ756 h754 => ?_)
      obtain ⟨h757, h758, z760, rfl, h759⟩ := h754
      have h761 := h759.2.2
      obtain rfl : σ716 = σ756 := Fr_nil h758
      refine En_iEq _ rfl rfl (fun h762 => ?_) (fun h762 => ?_)
      · refine En_Ps 1 (pc' := 146) (lv' := [(0, .ref 159)]) (st' := [.ref 159]) rfl ?_
        refine En_ldcS (i := 1) rfl rfl rfl ?_
        refine En_callV rfl rfl rfl rfl rfl rfl rfl rfl (by decide +kernel : TG 159 = 35) (by decide +kernel) rfl (c_251s1x σ716 h717 h730) (by decide) (by decide) (fun v764 σ765 h763 => ?_)
        obtain ⟨h766, h767, z769, rfl, h768⟩ := h763
        have h770 := h768.2.2
        obtain rfl : σ716 = σ765 := Fr_nil h767
        refine En_iEq _ rfl rfl (fun h771 => ?_) (fun h771 => ?_)
        · obtain ⟨z773, h772, h774, h775⟩ := WT_peekI h717 (by decide +kernel : TG 165 = 41) (by decide +kernel : FT 41 (2 : Int).toNat = (0, 0, 4)) (by decide +kernel)
          obtain ⟨z777, h776, h778, h779⟩ := WT_peekI h717 (by decide +kernel : TG 165 = 41) (by decide +kernel : FT 41 (3 : Int).toNat = (0, 0, 12)) (by decide +kernel)
          obtain ⟨z781, h780, h782, h783⟩ := WT_peekI h717 (by decide +kernel : TG 165 = 41) (by decide +kernel : FT 41 (4 : Int).toNat = (0, 0, 4)) (by decide +kernel)
          obtain ⟨z785, h784, h786, h787⟩ := WT_peekI h717 (by decide +kernel : TG 165 = 41) (by decide +kernel : FT 41 (5 : Int).toNat = (0, 0, 6)) (by decide +kernel)
          exact keyj170 σ716 z773 z777 z781 z785 y719 y723 h717 h718 h772 (by omega) (by omega) h776 (by omega) (by omega) h780 (by omega) (by omega) h784 (by omega) (by omega) h720 (by omega) (by omega) h724 (by omega) (by omega) (by omega) (by omega) (by intro hh; have zz : (gN1 By Nb Sp).1 = 0 := (by omega); have j1 := Imp_m h732 zz; have j2 := Imp_m h733 zz; have j3 := Imp_m h734 zz; have j4 := Imp_m h735 zz; omega) (by intro hh; have zz : (gN1 By Nb Sp).1 = 0 := (by omega); have j1 := Imp_m h732 zz; have j2 := Imp_m h733 zz; have j3 := Imp_m h734 zz; have j4 := Imp_m h735 zz; omega) (by intro hh; have zz : (gN1 By Nb Sp).1 = 0 := (by omega); have j1 := Imp_m h732 zz; have j2 := Imp_m h733 zz; have j3 := Imp_m h734 zz; have j4 := Imp_m h735 zz; omega) (by intro hh; have zz : (gN1 By Nb Sp).1 = 0 := (by omega); have j1 := Imp_m h732 zz; have j2 := Imp_m h733 zz; have j3 := Imp_m h734 zz; have j4 := Imp_m h735 zz; omega) (h729) (ML_eq h730 (gN2_neg (by omega)).symm)
        · refine En_Ps 1 (pc' := 155) (lv' := [(0, .ref 159)]) (st' := [.ref 159]) rfl ?_
          refine En_getU (j := 14) (u := 165) (g' := 41) (q := 0) rfl rfl rfl (by decide +kernel : TG 159 = 35) (by decide +kernel) h717 (by decide +kernel) (by decide +kernel) (fun h788 => ?_)
          refine En_Ps 1 (pc' := 159) (lv' := [(0, .ref 159)]) (st' := [.int ((Int32.ofInt 5)), .ref 165]) rfl ?_
          refine En_iald (l := 0) (u := 6) rfl (by decide : (Int32.ofInt 5).toInt = 5) (by decide +kernel : TG 165 = 41) (by decide +kernel) h717 (by omega) (lnI (by decide +kernel : LN _ = 226) (by omega)) (by decide +kernel) (fun z791 h790 h792 h793 => ?_)
          have h795 : (gN1 By Nb Sp).1 = 0 := iW_g (i := 1) (B := By) (n := Nb) (by omega)
          have h794 : (gN1 By Nb Sp).2.2.2 5 = z791.toInt := ML_wi h730 h795 h790 (by omega) (by omega) (by omega)
          refine En_Ps 1 (pc' := 162) (lv' := [(0, .ref 159)]) (st' := [.int (((Int8.ofInt 6).toInt32)), .int z791]) rfl ?_
          refine En_icNe _ rfl (by decide : ((Int8.ofInt 6).toInt32).toInt = 6) rfl (fun h796 => ?_) (fun h796 => ?_)
          · obtain ⟨z798, h797, h799, h800⟩ := WT_peekI h717 (by decide +kernel : TG 165 = 41) (by decide +kernel : FT 41 (2 : Int).toNat = (0, 0, 4)) (by decide +kernel)
            obtain ⟨z802, h801, h803, h804⟩ := WT_peekI h717 (by decide +kernel : TG 165 = 41) (by decide +kernel : FT 41 (3 : Int).toNat = (0, 0, 12)) (by decide +kernel)
            obtain ⟨z806, h805, h807, h808⟩ := WT_peekI h717 (by decide +kernel : TG 165 = 41) (by decide +kernel : FT 41 (4 : Int).toNat = (0, 0, 4)) (by decide +kernel)
            exact keyj170 σ716 z798 z802 z806 z791 y719 y723 h717 h718 h797 (by omega) (by omega) h801 (by omega) (by omega) h805 (by omega) (by omega) h790 (by omega) (by omega) h720 (by omega) (by omega) h724 (by omega) (by omega) (by omega) (by omega) (by intro hh; have zz : (gN1 By Nb Sp).1 = 0 := (by omega); have j1 := Imp_m h732 zz; have j2 := Imp_m h733 zz; have j3 := Imp_m h734 zz; have j4 := Imp_m h735 zz; omega) (by intro hh; have zz : (gN1 By Nb Sp).1 = 0 := (by omega); have j1 := Imp_m h732 zz; have j2 := Imp_m h733 zz; have j3 := Imp_m h734 zz; have j4 := Imp_m h735 zz; omega) (by intro hh; have zz : (gN1 By Nb Sp).1 = 0 := (by omega); have j1 := Imp_m h732 zz; have j2 := Imp_m h733 zz; have j3 := Imp_m h734 zz; have j4 := Imp_m h735 zz; omega) (by intro hh; have zz : (gN1 By Nb Sp).1 = 0 := (by omega); have j1 := Imp_m h732 zz; have j2 := Imp_m h733 zz; have j3 := Imp_m h734 zz; have j4 := Imp_m h735 zz; omega) (h729) (ML_eq h730 (gN2_neg (by omega)).symm)
          · refine En_Ps 2 (pc' := 167) (lv' := [(0, .ref 159)]) (st' := [.int ((Int32.ofInt 3)), .ref 159]) rfl ?_
            have := (by decide : ((Int32.ofInt 3)).toInt = 3)
            refine En_callV rfl rfl rfl rfl rfl rfl rfl rfl (by decide +kernel : TG 159 = 35) (by decide +kernel) rfl (c_223x σ716 h717 ((Int32.ofInt 3)) (geI (by decide : (Int32.ofInt 3).toInt = 3) (by omega)) (leI (by decide : (Int32.ofInt 3).toInt = 3) (by omega)) y719 h720 h730) (by decide) (by decide) (fun v810 σ811 h809 => ?_)
            obtain ⟨h812, h813, z815, h816, rfl, h814⟩ := h809
            have h817 := h814.2.2.2.2.2
            have h818 := Fr_trans h718 h813 (by decide +kernel)
            have h819 := KF_fr h729 h813 (by decide +kernel)
            obtain ⟨S820, h821⟩ : ∃ q : PS, q = err By Nb 3 (gN1 By Nb Sp) := ⟨_, rfl⟩
            have h822 : ML By Nb σ811 S820 := by rw [h821]; exact (ML_eq h817 (err_cg (by omega)))
            have h823 := ML_k h822 h816
            have h824 : S820.2.2.2 = (gN1 By Nb Sp).2.2.2 := by rw [h821]; exact err_w
            obtain ⟨z826, h825, h827, h828⟩ := WT_peekI h812 (by decide +kernel : TG 165 = 41) (by decide +kernel : FT 41 (2 : Int).toNat = (0, 0, 4)) (by decide +kernel)
            obtain ⟨z830, h829, h831, h832⟩ := WT_peekI h812 (by decide +kernel : TG 165 = 41) (by decide +kernel : FT 41 (3 : Int).toNat = (0, 0, 12)) (by decide +kernel)
            obtain ⟨z834, h833, h835, h836⟩ := WT_peekI h812 (by decide +kernel : TG 165 = 41) (by decide +kernel : FT 41 (4 : Int).toNat = (0, 0, 4)) (by decide +kernel)
            exact keyj170 σ811 z826 z830 z834 z791 z815 y723 h812 h818 h825 (by omega) (by omega) h829 (by omega) (by omega) h833 (by omega) (by omega) ((h813 _ _ (inWa (by decide +kernel : TG 165 = 41) (by decide +kernel))).trans h790) (by omega) (by omega) h816 (by omega) (by omega) ((h813 _ _ (inW (by decide +kernel : TG 159 = 35) (by decide +kernel))).trans h724) (by omega) (by omega) (by omega) (by omega) (by omega) (by omega) (by omega) (by omega) (h819) (ML_eq h822 (by subst h821; exact (gN2_pos (by omega)).symm))
      · refine En_Ps 1 (pc' := 136) (lv' := [(0, .ref 159)]) (st' := [.ref 159]) rfl ?_
        refine En_getU (j := 14) (u := 165) (g' := 41) (q := 0) rfl rfl rfl (by decide +kernel : TG 159 = 35) (by decide +kernel) h717 (by decide +kernel) (by decide +kernel) (fun h837 => ?_)
        refine En_Ps 1 (pc' := 140) (lv' := [(0, .ref 159)]) (st' := [.int ((Int32.ofInt 4)), .ref 165]) rfl ?_
        refine En_iald (l := 0) (u := 4) rfl (by decide : (Int32.ofInt 4).toInt = 4) (by decide +kernel : TG 165 = 41) (by decide +kernel) h717 (by omega) (lnI (by decide +kernel : LN _ = 226) (by omega)) (by decide +kernel) (fun z840 h839 h841 h842 => ?_)
        have h844 : (gN1 By Nb Sp).1 = 0 := iW_g (i := 5) (B := By) (n := Nb) (by omega)
        have h843 : (gN1 By Nb Sp).2.2.2 4 = z840.toInt := ML_wi h730 h844 h839 (by omega) (by omega) (by omega)
        refine En_Ps 1 (pc' := 142) (lv' := [(0, .ref 159)]) (st' := [.int ((Int32.ofInt 4)), .int z840]) rfl ?_
        refine En_icEq _ rfl (by decide : (Int32.ofInt 4).toInt = 4) rfl (fun h845 => ?_) (fun h845 => ?_)
        · refine En_Ps 2 (pc' := 167) (lv' := [(0, .ref 159)]) (st' := [.int ((Int32.ofInt 3)), .ref 159]) rfl ?_
          have := (by decide : ((Int32.ofInt 3)).toInt = 3)
          refine En_callV rfl rfl rfl rfl rfl rfl rfl rfl (by decide +kernel : TG 159 = 35) (by decide +kernel) rfl (c_223x σ716 h717 ((Int32.ofInt 3)) (geI (by decide : (Int32.ofInt 3).toInt = 3) (by omega)) (leI (by decide : (Int32.ofInt 3).toInt = 3) (by omega)) y719 h720 h730) (by decide) (by decide) (fun v847 σ848 h846 => ?_)
          obtain ⟨h849, h850, z852, h853, rfl, h851⟩ := h846
          have h854 := h851.2.2.2.2.2
          have h855 := Fr_trans h718 h850 (by decide +kernel)
          have h856 := KF_fr h729 h850 (by decide +kernel)
          obtain ⟨S857, h858⟩ : ∃ q : PS, q = err By Nb 3 (gN1 By Nb Sp) := ⟨_, rfl⟩
          have h859 : ML By Nb σ848 S857 := by rw [h858]; exact (ML_eq h854 (err_cg (by omega)))
          have h860 := ML_k h859 h853
          have h861 : S857.2.2.2 = (gN1 By Nb Sp).2.2.2 := by rw [h858]; exact err_w
          obtain ⟨z863, h862, h864, h865⟩ := WT_peekI h849 (by decide +kernel : TG 165 = 41) (by decide +kernel : FT 41 (2 : Int).toNat = (0, 0, 4)) (by decide +kernel)
          obtain ⟨z867, h866, h868, h869⟩ := WT_peekI h849 (by decide +kernel : TG 165 = 41) (by decide +kernel : FT 41 (3 : Int).toNat = (0, 0, 12)) (by decide +kernel)
          obtain ⟨z871, h870, h872, h873⟩ := WT_peekI h849 (by decide +kernel : TG 165 = 41) (by decide +kernel : FT 41 (5 : Int).toNat = (0, 0, 6)) (by decide +kernel)
          exact keyj170 σ848 z863 z867 z840 z871 z852 y723 h849 h855 h862 (by omega) (by omega) h866 (by omega) (by omega) ((h850 _ _ (inWa (by decide +kernel : TG 165 = 41) (by decide +kernel))).trans h839) (by omega) (by omega) h870 (by omega) (by omega) h853 (by omega) (by omega) ((h850 _ _ (inW (by decide +kernel : TG 159 = 35) (by decide +kernel))).trans h724) (by omega) (by omega) (by omega) (by omega) (by omega) (by omega) (by omega) (by omega) (h856) (ML_eq h859 (by subst h858; exact (gN2_pos (by omega)).symm))
        · refine En_Ps 1 (pc' := 146) (lv' := [(0, .ref 159)]) (st' := [.ref 159]) rfl ?_
          refine En_ldcS (i := 1) rfl rfl rfl ?_
          refine En_callV rfl rfl rfl rfl rfl rfl rfl rfl (by decide +kernel : TG 159 = 35) (by decide +kernel) rfl (c_251s1x σ716 h717 h730) (by decide) (by decide) (fun v875 σ876 h874 => ?_)
          obtain ⟨h877, h878, z880, rfl, h879⟩ := h874
          have h881 := h879.2.2
          obtain rfl : σ716 = σ876 := Fr_nil h878
          refine En_iEq _ rfl rfl (fun h882 => ?_) (fun h882 => ?_)
          · obtain ⟨z884, h883, h885, h886⟩ := WT_peekI h717 (by decide +kernel : TG 165 = 41) (by decide +kernel : FT 41 (2 : Int).toNat = (0, 0, 4)) (by decide +kernel)
            obtain ⟨z888, h887, h889, h890⟩ := WT_peekI h717 (by decide +kernel : TG 165 = 41) (by decide +kernel : FT 41 (3 : Int).toNat = (0, 0, 12)) (by decide +kernel)
            obtain ⟨z892, h891, h893, h894⟩ := WT_peekI h717 (by decide +kernel : TG 165 = 41) (by decide +kernel : FT 41 (5 : Int).toNat = (0, 0, 6)) (by decide +kernel)
            exact keyj170 σ716 z884 z888 z840 z892 y719 y723 h717 h718 h883 (by omega) (by omega) h887 (by omega) (by omega) h839 (by omega) (by omega) h891 (by omega) (by omega) h720 (by omega) (by omega) h724 (by omega) (by omega) (by omega) (by omega) (by intro hh; have zz : (gN1 By Nb Sp).1 = 0 := (by omega); have j1 := Imp_m h732 zz; have j2 := Imp_m h733 zz; have j3 := Imp_m h734 zz; have j4 := Imp_m h735 zz; omega) (by intro hh; have zz : (gN1 By Nb Sp).1 = 0 := (by omega); have j1 := Imp_m h732 zz; have j2 := Imp_m h733 zz; have j3 := Imp_m h734 zz; have j4 := Imp_m h735 zz; omega) (by intro hh; have zz : (gN1 By Nb Sp).1 = 0 := (by omega); have j1 := Imp_m h732 zz; have j2 := Imp_m h733 zz; have j3 := Imp_m h734 zz; have j4 := Imp_m h735 zz; omega) (by intro hh; have zz : (gN1 By Nb Sp).1 = 0 := (by omega); have j1 := Imp_m h732 zz; have j2 := Imp_m h733 zz; have j3 := Imp_m h734 zz; have j4 := Imp_m h735 zz; omega) (h729) (ML_eq h730 (gN2_neg (by omega)).symm)
          · refine En_Ps 1 (pc' := 155) (lv' := [(0, .ref 159)]) (st' := [.ref 159]) rfl ?_
            refine En_getK (j := 14) h837 rfl rfl rfl (by decide +kernel : TG 159 = 35) (by decide +kernel) ?_
            refine En_Ps 1 (pc' := 159) (lv' := [(0, .ref 159)]) (st' := [.int ((Int32.ofInt 5)), .ref 165]) rfl ?_
            refine En_iald (l := 0) (u := 6) rfl (by decide : (Int32.ofInt 5).toInt = 5) (by decide +kernel : TG 165 = 41) (by decide +kernel) h717 (by omega) (lnI (by decide +kernel : LN _ = 226) (by omega)) (by decide +kernel) (fun z896 h895 h897 h898 => ?_)
            have h900 : (gN1 By Nb Sp).1 = 0 := iW_g (i := 1) (B := By) (n := Nb) (by omega)
            have h899 : (gN1 By Nb Sp).2.2.2 5 = z896.toInt := ML_wi h730 h900 h895 (by omega) (by omega) (by omega)
            refine En_Ps 1 (pc' := 162) (lv' := [(0, .ref 159)]) (st' := [.int (((Int8.ofInt 6).toInt32)), .int z896]) rfl ?_
            refine En_icNe _ rfl (by decide : ((Int8.ofInt 6).toInt32).toInt = 6) rfl (fun h901 => ?_) (fun h901 => ?_)
            · obtain ⟨z903, h902, h904, h905⟩ := WT_peekI h717 (by decide +kernel : TG 165 = 41) (by decide +kernel : FT 41 (2 : Int).toNat = (0, 0, 4)) (by decide +kernel)
              obtain ⟨z907, h906, h908, h909⟩ := WT_peekI h717 (by decide +kernel : TG 165 = 41) (by decide +kernel : FT 41 (3 : Int).toNat = (0, 0, 12)) (by decide +kernel)
              exact keyj170 σ716 z903 z907 z840 z896 y719 y723 h717 h718 h902 (by omega) (by omega) h906 (by omega) (by omega) h839 (by omega) (by omega) h895 (by omega) (by omega) h720 (by omega) (by omega) h724 (by omega) (by omega) (by omega) (by omega) (by intro hh; have zz : (gN1 By Nb Sp).1 = 0 := (by omega); have j1 := Imp_m h732 zz; have j2 := Imp_m h733 zz; have j3 := Imp_m h734 zz; have j4 := Imp_m h735 zz; omega) (by intro hh; have zz : (gN1 By Nb Sp).1 = 0 := (by omega); have j1 := Imp_m h732 zz; have j2 := Imp_m h733 zz; have j3 := Imp_m h734 zz; have j4 := Imp_m h735 zz; omega) (by intro hh; have zz : (gN1 By Nb Sp).1 = 0 := (by omega); have j1 := Imp_m h732 zz; have j2 := Imp_m h733 zz; have j3 := Imp_m h734 zz; have j4 := Imp_m h735 zz; omega) (by intro hh; have zz : (gN1 By Nb Sp).1 = 0 := (by omega); have j1 := Imp_m h732 zz; have j2 := Imp_m h733 zz; have j3 := Imp_m h734 zz; have j4 := Imp_m h735 zz; omega) (h729) (ML_eq h730 (gN2_neg (by omega)).symm)
            · refine En_Ps 2 (pc' := 167) (lv' := [(0, .ref 159)]) (st' := [.int ((Int32.ofInt 3)), .ref 159]) rfl ?_
              have := (by decide : ((Int32.ofInt 3)).toInt = 3)
              refine En_callV rfl rfl rfl rfl rfl rfl rfl rfl (by decide +kernel : TG 159 = 35) (by decide +kernel) rfl (c_223x σ716 h717 ((Int32.ofInt 3)) (geI (by decide : (Int32.ofInt 3).toInt = 3) (by omega)) (leI (by decide : (Int32.ofInt 3).toInt = 3) (by omega)) y719 h720 h730) (by decide) (by decide) (fun v911 σ912 h910 => ?_)
              obtain ⟨h913, h914, z916, h917, rfl, h915⟩ := h910
              have h918 := h915.2.2.2.2.2
              have h919 := Fr_trans h718 h914 (by decide +kernel)
              have h920 := KF_fr h729 h914 (by decide +kernel)
              obtain ⟨S921, h922⟩ : ∃ q : PS, q = err By Nb 3 (gN1 By Nb Sp) := ⟨_, rfl⟩
              have h923 : ML By Nb σ912 S921 := by rw [h922]; exact (ML_eq h918 (err_cg (by omega)))
              have h924 := ML_k h923 h917
              have h925 : S921.2.2.2 = (gN1 By Nb Sp).2.2.2 := by rw [h922]; exact err_w
              obtain ⟨z927, h926, h928, h929⟩ := WT_peekI h913 (by decide +kernel : TG 165 = 41) (by decide +kernel : FT 41 (2 : Int).toNat = (0, 0, 4)) (by decide +kernel)
              obtain ⟨z931, h930, h932, h933⟩ := WT_peekI h913 (by decide +kernel : TG 165 = 41) (by decide +kernel : FT 41 (3 : Int).toNat = (0, 0, 12)) (by decide +kernel)
              exact keyj170 σ912 z927 z931 z840 z896 z916 y723 h913 h919 h926 (by omega) (by omega) h930 (by omega) (by omega) ((h914 _ _ (inWa (by decide +kernel : TG 165 = 41) (by decide +kernel))).trans h839) (by omega) (by omega) ((h914 _ _ (inWa (by decide +kernel : TG 165 = 41) (by decide +kernel))).trans h895) (by omega) (by omega) h917 (by omega) (by omega) ((h914 _ _ (inW (by decide +kernel : TG 159 = 35) (by decide +kernel))).trans h724) (by omega) (by omega) (by omega) (by omega) (by omega) (by omega) (by omega) (by omega) (h920) (ML_eq h923 (by subst h922; exact (gN2_pos (by omega)).symm))
    · refine En_Ps 1 (pc' := 116) (lv' := [(0, .ref 159)]) (st' := [.ref 159]) rfl ?_
      refine En_getU (j := 14) (u := 165) (g' := 41) (q := 0) rfl rfl rfl (by decide +kernel : TG 159 = 35) (by decide +kernel) h717 (by decide +kernel) (by decide +kernel) (fun h934 => ?_)
      refine En_Ps 1 (pc' := 120) (lv' := [(0, .ref 159)]) (st' := [.int ((Int32.ofInt 3)), .ref 165]) rfl ?_
      refine En_iald (l := 0) (u := 12) rfl (by decide : (Int32.ofInt 3).toInt = 3) (by decide +kernel : TG 165 = 41) (by decide +kernel) h717 (by omega) (lnI (by decide +kernel : LN _ = 226) (by omega)) (by decide +kernel) (fun z937 h936 h938 h939 => ?_)
      have h941 : (gN1 By Nb Sp).1 = 0 := iW_g (i := 3) (B := By) (n := Nb) (by omega)
      have h940 : (gN1 By Nb Sp).2.2.2 3 = z937.toInt := ML_wi h730 h941 h936 (by omega) (by omega) (by omega)
      refine En_Ps 1 (pc' := 123) (lv' := [(0, .ref 159)]) (st' := [.int (((Int8.ofInt 12).toInt32)), .int z937]) rfl ?_
      refine En_icEq _ rfl (by decide : ((Int8.ofInt 12).toInt32).toInt = 12) rfl (fun h942 => ?_) (fun h942 => ?_)
      · refine En_Ps 2 (pc' := 167) (lv' := [(0, .ref 159)]) (st' := [.int ((Int32.ofInt 3)), .ref 159]) rfl ?_
        have := (by decide : ((Int32.ofInt 3)).toInt = 3)
        refine En_callV rfl rfl rfl rfl rfl rfl rfl rfl (by decide +kernel : TG 159 = 35) (by decide +kernel) rfl (c_223x σ716 h717 ((Int32.ofInt 3)) (geI (by decide : (Int32.ofInt 3).toInt = 3) (by omega)) (leI (by decide : (Int32.ofInt 3).toInt = 3) (by omega)) y719 h720 h730) (by decide) (by decide) (fun v944 σ945 h943 => ?_)
        obtain ⟨h946, h947, z949, h950, rfl, h948⟩ := h943
        have h951 := h948.2.2.2.2.2
        have h952 := Fr_trans h718 h947 (by decide +kernel)
        have h953 := KF_fr h729 h947 (by decide +kernel)
        obtain ⟨S954, h955⟩ : ∃ q : PS, q = err By Nb 3 (gN1 By Nb Sp) := ⟨_, rfl⟩
        have h956 : ML By Nb σ945 S954 := by rw [h955]; exact (ML_eq h951 (err_cg (by omega)))
        have h957 := ML_k h956 h950
        have h958 : S954.2.2.2 = (gN1 By Nb Sp).2.2.2 := by rw [h955]; exact err_w
        obtain ⟨z960, h959, h961, h962⟩ := WT_peekI h946 (by decide +kernel : TG 165 = 41) (by decide +kernel : FT 41 (2 : Int).toNat = (0, 0, 4)) (by decide +kernel)
        obtain ⟨z964, h963, h965, h966⟩ := WT_peekI h946 (by decide +kernel : TG 165 = 41) (by decide +kernel : FT 41 (4 : Int).toNat = (0, 0, 4)) (by decide +kernel)
        obtain ⟨z968, h967, h969, h970⟩ := WT_peekI h946 (by decide +kernel : TG 165 = 41) (by decide +kernel : FT 41 (5 : Int).toNat = (0, 0, 6)) (by decide +kernel)
        exact keyj170 σ945 z960 z937 z964 z968 z949 y723 h946 h952 h959 (by omega) (by omega) ((h947 _ _ (inWa (by decide +kernel : TG 165 = 41) (by decide +kernel))).trans h936) (by omega) (by omega) h963 (by omega) (by omega) h967 (by omega) (by omega) h950 (by omega) (by omega) ((h947 _ _ (inW (by decide +kernel : TG 159 = 35) (by decide +kernel))).trans h724) (by omega) (by omega) (by omega) (by omega) (by omega) (by omega) (by omega) (by omega) (h953) (ML_eq h956 (by subst h955; exact (gN2_pos (by omega)).symm))
      · refine En_Ps 1 (pc' := 127) (lv' := [(0, .ref 159)]) (st' := [.ref 159]) rfl ?_
        refine En_ldcS (i := 5) rfl rfl rfl ?_
        refine En_callV rfl rfl rfl rfl rfl rfl rfl rfl (by decide +kernel : TG 159 = 35) (by decide +kernel) rfl (c_251s5x σ716 h717 h730) (by decide) (by decide) (fun v972 σ973 h971 => ?_)
        obtain ⟨h974, h975, z977, rfl, h976⟩ := h971
        have h978 := h976.2.2
        obtain rfl : σ716 = σ973 := Fr_nil h975
        refine En_iEq _ rfl rfl (fun h979 => ?_) (fun h979 => ?_)
        · refine En_Ps 1 (pc' := 146) (lv' := [(0, .ref 159)]) (st' := [.ref 159]) rfl ?_
          refine En_ldcS (i := 1) rfl rfl rfl ?_
          refine En_callV rfl rfl rfl rfl rfl rfl rfl rfl (by decide +kernel : TG 159 = 35) (by decide +kernel) rfl (c_251s1x σ716 h717 h730) (by decide) (by decide) (fun v981 σ982 h980 => ?_)
          obtain ⟨h983, h984, z986, rfl, h985⟩ := h980
          have h987 := h985.2.2
          obtain rfl : σ716 = σ982 := Fr_nil h984
          refine En_iEq _ rfl rfl (fun h988 => ?_) (fun h988 => ?_)
          · obtain ⟨z990, h989, h991, h992⟩ := WT_peekI h717 (by decide +kernel : TG 165 = 41) (by decide +kernel : FT 41 (2 : Int).toNat = (0, 0, 4)) (by decide +kernel)
            obtain ⟨z994, h993, h995, h996⟩ := WT_peekI h717 (by decide +kernel : TG 165 = 41) (by decide +kernel : FT 41 (4 : Int).toNat = (0, 0, 4)) (by decide +kernel)
            obtain ⟨z998, h997, h999, h1000⟩ := WT_peekI h717 (by decide +kernel : TG 165 = 41) (by decide +kernel : FT 41 (5 : Int).toNat = (0, 0, 6)) (by decide +kernel)
            exact keyj170 σ716 z990 z937 z994 z998 y719 y723 h717 h718 h989 (by omega) (by omega) h936 (by omega) (by omega) h993 (by omega) (by omega) h997 (by omega) (by omega) h720 (by omega) (by omega) h724 (by omega) (by omega) (by omega) (by omega) (by intro hh; have zz : (gN1 By Nb Sp).1 = 0 := (by omega); have j1 := Imp_m h732 zz; have j2 := Imp_m h733 zz; have j3 := Imp_m h734 zz; have j4 := Imp_m h735 zz; omega) (by intro hh; have zz : (gN1 By Nb Sp).1 = 0 := (by omega); have j1 := Imp_m h732 zz; have j2 := Imp_m h733 zz; have j3 := Imp_m h734 zz; have j4 := Imp_m h735 zz; omega) (by intro hh; have zz : (gN1 By Nb Sp).1 = 0 := (by omega); have j1 := Imp_m h732 zz; have j2 := Imp_m h733 zz; have j3 := Imp_m h734 zz; have j4 := Imp_m h735 zz; omega) (by intro hh; have zz : (gN1 By Nb Sp).1 = 0 := (by omega); have j1 := Imp_m h732 zz; have j2 := Imp_m h733 zz; have j3 := Imp_m h734 zz; have j4 := Imp_m h735 zz; omega) (h729) (ML_eq h730 (gN2_neg (by omega)).symm)
          · refine En_Ps 1 (pc' := 155) (lv' := [(0, .ref 159)]) (st' := [.ref 159]) rfl ?_
            refine En_getK (j := 14) h934 rfl rfl rfl (by decide +kernel : TG 159 = 35) (by decide +kernel) ?_
            refine En_Ps 1 (pc' := 159) (lv' := [(0, .ref 159)]) (st' := [.int ((Int32.ofInt 5)), .ref 165]) rfl ?_
            refine En_iald (l := 0) (u := 6) rfl (by decide : (Int32.ofInt 5).toInt = 5) (by decide +kernel : TG 165 = 41) (by decide +kernel) h717 (by omega) (lnI (by decide +kernel : LN _ = 226) (by omega)) (by decide +kernel) (fun z1002 h1001 h1003 h1004 => ?_)
            have h1006 : (gN1 By Nb Sp).1 = 0 := iW_g (i := 1) (B := By) (n := Nb) (by omega)
            have h1005 : (gN1 By Nb Sp).2.2.2 5 = z1002.toInt := ML_wi h730 h1006 h1001 (by omega) (by omega) (by omega)
            refine En_Ps 1 (pc' := 162) (lv' := [(0, .ref 159)]) (st' := [.int (((Int8.ofInt 6).toInt32)), .int z1002]) rfl ?_
            refine En_icNe _ rfl (by decide : ((Int8.ofInt 6).toInt32).toInt = 6) rfl (fun h1007 => ?_) (fun h1007 => ?_)
            · obtain ⟨z1009, h1008, h1010, h1011⟩ := WT_peekI h717 (by decide +kernel : TG 165 = 41) (by decide +kernel : FT 41 (2 : Int).toNat = (0, 0, 4)) (by decide +kernel)
              obtain ⟨z1013, h1012, h1014, h1015⟩ := WT_peekI h717 (by decide +kernel : TG 165 = 41) (by decide +kernel : FT 41 (4 : Int).toNat = (0, 0, 4)) (by decide +kernel)
              exact keyj170 σ716 z1009 z937 z1013 z1002 y719 y723 h717 h718 h1008 (by omega) (by omega) h936 (by omega) (by omega) h1012 (by omega) (by omega) h1001 (by omega) (by omega) h720 (by omega) (by omega) h724 (by omega) (by omega) (by omega) (by omega) (by intro hh; have zz : (gN1 By Nb Sp).1 = 0 := (by omega); have j1 := Imp_m h732 zz; have j2 := Imp_m h733 zz; have j3 := Imp_m h734 zz; have j4 := Imp_m h735 zz; omega) (by intro hh; have zz : (gN1 By Nb Sp).1 = 0 := (by omega); have j1 := Imp_m h732 zz; have j2 := Imp_m h733 zz; have j3 := Imp_m h734 zz; have j4 := Imp_m h735 zz; omega) (by intro hh; have zz : (gN1 By Nb Sp).1 = 0 := (by omega); have j1 := Imp_m h732 zz; have j2 := Imp_m h733 zz; have j3 := Imp_m h734 zz; have j4 := Imp_m h735 zz; omega) (by intro hh; have zz : (gN1 By Nb Sp).1 = 0 := (by omega); have j1 := Imp_m h732 zz; have j2 := Imp_m h733 zz; have j3 := Imp_m h734 zz; have j4 := Imp_m h735 zz; omega) (h729) (ML_eq h730 (gN2_neg (by omega)).symm)
            · refine En_Ps 2 (pc' := 167) (lv' := [(0, .ref 159)]) (st' := [.int ((Int32.ofInt 3)), .ref 159]) rfl ?_
              have := (by decide : ((Int32.ofInt 3)).toInt = 3)
              refine En_callV rfl rfl rfl rfl rfl rfl rfl rfl (by decide +kernel : TG 159 = 35) (by decide +kernel) rfl (c_223x σ716 h717 ((Int32.ofInt 3)) (geI (by decide : (Int32.ofInt 3).toInt = 3) (by omega)) (leI (by decide : (Int32.ofInt 3).toInt = 3) (by omega)) y719 h720 h730) (by decide) (by decide) (fun v1017 σ1018 h1016 => ?_)
              obtain ⟨h1019, h1020, z1022, h1023, rfl, h1021⟩ := h1016
              have h1024 := h1021.2.2.2.2.2
              have h1025 := Fr_trans h718 h1020 (by decide +kernel)
              have h1026 := KF_fr h729 h1020 (by decide +kernel)
              obtain ⟨S1027, h1028⟩ : ∃ q : PS, q = err By Nb 3 (gN1 By Nb Sp) := ⟨_, rfl⟩
              have h1029 : ML By Nb σ1018 S1027 := by rw [h1028]; exact (ML_eq h1024 (err_cg (by omega)))
              have h1030 := ML_k h1029 h1023
              have h1031 : S1027.2.2.2 = (gN1 By Nb Sp).2.2.2 := by rw [h1028]; exact err_w
              obtain ⟨z1033, h1032, h1034, h1035⟩ := WT_peekI h1019 (by decide +kernel : TG 165 = 41) (by decide +kernel : FT 41 (2 : Int).toNat = (0, 0, 4)) (by decide +kernel)
              obtain ⟨z1037, h1036, h1038, h1039⟩ := WT_peekI h1019 (by decide +kernel : TG 165 = 41) (by decide +kernel : FT 41 (4 : Int).toNat = (0, 0, 4)) (by decide +kernel)
              exact keyj170 σ1018 z1033 z937 z1037 z1002 z1022 y723 h1019 h1025 h1032 (by omega) (by omega) ((h1020 _ _ (inWa (by decide +kernel : TG 165 = 41) (by decide +kernel))).trans h936) (by omega) (by omega) h1036 (by omega) (by omega) ((h1020 _ _ (inWa (by decide +kernel : TG 165 = 41) (by decide +kernel))).trans h1001) (by omega) (by omega) h1023 (by omega) (by omega) ((h1020 _ _ (inW (by decide +kernel : TG 159 = 35) (by decide +kernel))).trans h724) (by omega) (by omega) (by omega) (by omega) (by omega) (by omega) (by omega) (by omega) (h1026) (ML_eq h1029 (by subst h1028; exact (gN2_pos (by omega)).symm))
        · refine En_Ps 1 (pc' := 136) (lv' := [(0, .ref 159)]) (st' := [.ref 159]) rfl ?_
          refine En_getK (j := 14) h934 rfl rfl rfl (by decide +kernel : TG 159 = 35) (by decide +kernel) ?_
          refine En_Ps 1 (pc' := 140) (lv' := [(0, .ref 159)]) (st' := [.int ((Int32.ofInt 4)), .ref 165]) rfl ?_
          refine En_iald (l := 0) (u := 4) rfl (by decide : (Int32.ofInt 4).toInt = 4) (by decide +kernel : TG 165 = 41) (by decide +kernel) h717 (by omega) (lnI (by decide +kernel : LN _ = 226) (by omega)) (by decide +kernel) (fun z1041 h1040 h1042 h1043 => ?_)
          have h1045 : (gN1 By Nb Sp).1 = 0 := iW_g (i := 5) (B := By) (n := Nb) (by omega)
          have h1044 : (gN1 By Nb Sp).2.2.2 4 = z1041.toInt := ML_wi h730 h1045 h1040 (by omega) (by omega) (by omega)
          refine En_Ps 1 (pc' := 142) (lv' := [(0, .ref 159)]) (st' := [.int ((Int32.ofInt 4)), .int z1041]) rfl ?_
          refine En_icEq _ rfl (by decide : (Int32.ofInt 4).toInt = 4) rfl (fun h1046 => ?_) (fun h1046 => ?_)
          · refine En_Ps 2 (pc' := 167) (lv' := [(0, .ref 159)]) (st' := [.int ((Int32.ofInt 3)), .ref 159]) rfl ?_
            have := (by decide : ((Int32.ofInt 3)).toInt = 3)
            refine En_callV rfl rfl rfl rfl rfl rfl rfl rfl (by decide +kernel : TG 159 = 35) (by decide +kernel) rfl (c_223x σ716 h717 ((Int32.ofInt 3)) (geI (by decide : (Int32.ofInt 3).toInt = 3) (by omega)) (leI (by decide : (Int32.ofInt 3).toInt = 3) (by omega)) y719 h720 h730) (by decide) (by decide) (fun v1048 σ1049 h1047 => ?_)
            obtain ⟨h1050, h1051, z1053, h1054, rfl, h1052⟩ := h1047
            have h1055 := h1052.2.2.2.2.2
            have h1056 := Fr_trans h718 h1051 (by decide +kernel)
            have h1057 := KF_fr h729 h1051 (by decide +kernel)
            obtain ⟨S1058, h1059⟩ : ∃ q : PS, q = err By Nb 3 (gN1 By Nb Sp) := ⟨_, rfl⟩
            have h1060 : ML By Nb σ1049 S1058 := by rw [h1059]; exact (ML_eq h1055 (err_cg (by omega)))
            have h1061 := ML_k h1060 h1054
            have h1062 : S1058.2.2.2 = (gN1 By Nb Sp).2.2.2 := by rw [h1059]; exact err_w
            obtain ⟨z1064, h1063, h1065, h1066⟩ := WT_peekI h1050 (by decide +kernel : TG 165 = 41) (by decide +kernel : FT 41 (2 : Int).toNat = (0, 0, 4)) (by decide +kernel)
            obtain ⟨z1068, h1067, h1069, h1070⟩ := WT_peekI h1050 (by decide +kernel : TG 165 = 41) (by decide +kernel : FT 41 (5 : Int).toNat = (0, 0, 6)) (by decide +kernel)
            exact keyj170 σ1049 z1064 z937 z1041 z1068 z1053 y723 h1050 h1056 h1063 (by omega) (by omega) ((h1051 _ _ (inWa (by decide +kernel : TG 165 = 41) (by decide +kernel))).trans h936) (by omega) (by omega) ((h1051 _ _ (inWa (by decide +kernel : TG 165 = 41) (by decide +kernel))).trans h1040) (by omega) (by omega) h1067 (by omega) (by omega) h1054 (by omega) (by omega) ((h1051 _ _ (inW (by decide +kernel : TG 159 = 35) (by decide +kernel))).trans h724) (by omega) (by omega) (by omega) (by omega) (by omega) (by omega) (by omega) (by omega) (h1057) (ML_eq h1060 (by subst h1059; exact (gN2_pos (by omega)).symm))
          · refine En_Ps 1 (pc' := 146) (lv' := [(0, .ref 159)]) (st' := [.ref 159]) rfl ?_
            refine En_ldcS (i := 1) rfl rfl rfl ?_
            refine En_callV rfl rfl rfl rfl rfl rfl rfl rfl (by decide +kernel : TG 159 = 35) (by decide +kernel) rfl (c_251s1x σ716 h717 h730) (by decide) (by decide) (fun v1072 σ1073 h1071 => ?_)
            obtain ⟨h1074, h1075, z1077, rfl, h1076⟩ := h1071
            have h1078 := h1076.2.2
            obtain rfl : σ716 = σ1073 := Fr_nil h1075
            refine En_iEq _ rfl rfl (fun h1079 => ?_) (fun h1079 => ?_)
            · obtain ⟨z1081, h1080, h1082, h1083⟩ := WT_peekI h717 (by decide +kernel : TG 165 = 41) (by decide +kernel : FT 41 (2 : Int).toNat = (0, 0, 4)) (by decide +kernel)
              obtain ⟨z1085, h1084, h1086, h1087⟩ := WT_peekI h717 (by decide +kernel : TG 165 = 41) (by decide +kernel : FT 41 (5 : Int).toNat = (0, 0, 6)) (by decide +kernel)
              exact keyj170 σ716 z1081 z937 z1041 z1085 y719 y723 h717 h718 h1080 (by omega) (by omega) h936 (by omega) (by omega) h1040 (by omega) (by omega) h1084 (by omega) (by omega) h720 (by omega) (by omega) h724 (by omega) (by omega) (by omega) (by omega) (by intro hh; have zz : (gN1 By Nb Sp).1 = 0 := (by omega); have j1 := Imp_m h732 zz; have j2 := Imp_m h733 zz; have j3 := Imp_m h734 zz; have j4 := Imp_m h735 zz; omega) (by intro hh; have zz : (gN1 By Nb Sp).1 = 0 := (by omega); have j1 := Imp_m h732 zz; have j2 := Imp_m h733 zz; have j3 := Imp_m h734 zz; have j4 := Imp_m h735 zz; omega) (by intro hh; have zz : (gN1 By Nb Sp).1 = 0 := (by omega); have j1 := Imp_m h732 zz; have j2 := Imp_m h733 zz; have j3 := Imp_m h734 zz; have j4 := Imp_m h735 zz; omega) (by intro hh; have zz : (gN1 By Nb Sp).1 = 0 := (by omega); have j1 := Imp_m h732 zz; have j2 := Imp_m h733 zz; have j3 := Imp_m h734 zz; have j4 := Imp_m h735 zz; omega) (h729) (ML_eq h730 (gN2_neg (by omega)).symm)
            · refine En_Ps 1 (pc' := 155) (lv' := [(0, .ref 159)]) (st' := [.ref 159]) rfl ?_
              refine En_getK (j := 14) h934 rfl rfl rfl (by decide +kernel : TG 159 = 35) (by decide +kernel) ?_
              refine En_Ps 1 (pc' := 159) (lv' := [(0, .ref 159)]) (st' := [.int ((Int32.ofInt 5)), .ref 165]) rfl ?_
              refine En_iald (l := 0) (u := 6) rfl (by decide : (Int32.ofInt 5).toInt = 5) (by decide +kernel : TG 165 = 41) (by decide +kernel) h717 (by omega) (lnI (by decide +kernel : LN _ = 226) (by omega)) (by decide +kernel) (fun z1089 h1088 h1090 h1091 => ?_)
              have h1093 : (gN1 By Nb Sp).1 = 0 := iW_g (i := 1) (B := By) (n := Nb) (by omega)
              have h1092 : (gN1 By Nb Sp).2.2.2 5 = z1089.toInt := ML_wi h730 h1093 h1088 (by omega) (by omega) (by omega)
              refine En_Ps 1 (pc' := 162) (lv' := [(0, .ref 159)]) (st' := [.int (((Int8.ofInt 6).toInt32)), .int z1089]) rfl ?_
              refine En_icNe _ rfl (by decide : ((Int8.ofInt 6).toInt32).toInt = 6) rfl (fun h1094 => ?_) (fun h1094 => ?_)
              · obtain ⟨z1096, h1095, h1097, h1098⟩ := WT_peekI h717 (by decide +kernel : TG 165 = 41) (by decide +kernel : FT 41 (2 : Int).toNat = (0, 0, 4)) (by decide +kernel)
                exact keyj170 σ716 z1096 z937 z1041 z1089 y719 y723 h717 h718 h1095 (by omega) (by omega) h936 (by omega) (by omega) h1040 (by omega) (by omega) h1088 (by omega) (by omega) h720 (by omega) (by omega) h724 (by omega) (by omega) (by omega) (by omega) (by intro hh; have zz : (gN1 By Nb Sp).1 = 0 := (by omega); have j1 := Imp_m h732 zz; have j2 := Imp_m h733 zz; have j3 := Imp_m h734 zz; have j4 := Imp_m h735 zz; omega) (by intro hh; have zz : (gN1 By Nb Sp).1 = 0 := (by omega); have j1 := Imp_m h732 zz; have j2 := Imp_m h733 zz; have j3 := Imp_m h734 zz; have j4 := Imp_m h735 zz; omega) (by intro hh; have zz : (gN1 By Nb Sp).1 = 0 := (by omega); have j1 := Imp_m h732 zz; have j2 := Imp_m h733 zz; have j3 := Imp_m h734 zz; have j4 := Imp_m h735 zz; omega) (by intro hh; have zz : (gN1 By Nb Sp).1 = 0 := (by omega); have j1 := Imp_m h732 zz; have j2 := Imp_m h733 zz; have j3 := Imp_m h734 zz; have j4 := Imp_m h735 zz; omega) (h729) (ML_eq h730 (gN2_neg (by omega)).symm)
              · refine En_Ps 2 (pc' := 167) (lv' := [(0, .ref 159)]) (st' := [.int ((Int32.ofInt 3)), .ref 159]) rfl ?_
                have := (by decide : ((Int32.ofInt 3)).toInt = 3)
                refine En_callV rfl rfl rfl rfl rfl rfl rfl rfl (by decide +kernel : TG 159 = 35) (by decide +kernel) rfl (c_223x σ716 h717 ((Int32.ofInt 3)) (geI (by decide : (Int32.ofInt 3).toInt = 3) (by omega)) (leI (by decide : (Int32.ofInt 3).toInt = 3) (by omega)) y719 h720 h730) (by decide) (by decide) (fun v1100 σ1101 h1099 => ?_)
                obtain ⟨h1102, h1103, z1105, h1106, rfl, h1104⟩ := h1099
                have h1107 := h1104.2.2.2.2.2
                have h1108 := Fr_trans h718 h1103 (by decide +kernel)
                have h1109 := KF_fr h729 h1103 (by decide +kernel)
                obtain ⟨S1110, h1111⟩ : ∃ q : PS, q = err By Nb 3 (gN1 By Nb Sp) := ⟨_, rfl⟩
                have h1112 : ML By Nb σ1101 S1110 := by rw [h1111]; exact (ML_eq h1107 (err_cg (by omega)))
                have h1113 := ML_k h1112 h1106
                have h1114 : S1110.2.2.2 = (gN1 By Nb Sp).2.2.2 := by rw [h1111]; exact err_w
                obtain ⟨z1116, h1115, h1117, h1118⟩ := WT_peekI h1102 (by decide +kernel : TG 165 = 41) (by decide +kernel : FT 41 (2 : Int).toNat = (0, 0, 4)) (by decide +kernel)
                exact keyj170 σ1101 z1116 z937 z1041 z1089 z1105 y723 h1102 h1108 h1115 (by omega) (by omega) ((h1103 _ _ (inWa (by decide +kernel : TG 165 = 41) (by decide +kernel))).trans h936) (by omega) (by omega) ((h1103 _ _ (inWa (by decide +kernel : TG 165 = 41) (by decide +kernel))).trans h1040) (by omega) (by omega) ((h1103 _ _ (inWa (by decide +kernel : TG 165 = 41) (by decide +kernel))).trans h1088) (by omega) (by omega) h1106 (by omega) (by omega) ((h1103 _ _ (inW (by decide +kernel : TG 159 = 35) (by decide +kernel))).trans h724) (by omega) (by omega) (by omega) (by omega) (by omega) (by omega) (by omega) (by omega) (h1109) (ML_eq h1112 (by subst h1111; exact (gN2_pos (by omega)).symm))
  · refine En_Ps 1 (pc' := 97) (lv' := [(0, .ref 159)]) (st' := [.ref 159]) rfl ?_
    refine En_getU (j := 14) (u := 165) (g' := 41) (q := 0) rfl rfl rfl (by decide +kernel : TG 159 = 35) (by decide +kernel) h717 (by decide +kernel) (by decide +kernel) (fun h1119 => ?_)
    refine En_Ps 1 (pc' := 101) (lv' := [(0, .ref 159)]) (st' := [.int ((Int32.ofInt 2)), .ref 165]) rfl ?_
    refine En_iald (l := 0) (u := 4) rfl (by decide : (Int32.ofInt 2).toInt = 2) (by decide +kernel : TG 165 = 41) (by decide +kernel) h717 (by omega) (lnI (by decide +kernel : LN _ = 226) (by omega)) (by decide +kernel) (fun z1122 h1121 h1123 h1124 => ?_)
    have h1126 : (gN1 By Nb Sp).1 = 0 := iW_g (i := 2) (B := By) (n := Nb) (by omega)
    have h1125 : (gN1 By Nb Sp).2.2.2 2 = z1122.toInt := ML_wi h730 h1126 h1121 (by omega) (by omega) (by omega)
    refine En_Ps 1 (pc' := 103) (lv' := [(0, .ref 159)]) (st' := [.int ((Int32.ofInt 4)), .int z1122]) rfl ?_
    refine En_icEq _ rfl (by decide : (Int32.ofInt 4).toInt = 4) rfl (fun h1127 => ?_) (fun h1127 => ?_)
    · refine En_Ps 2 (pc' := 167) (lv' := [(0, .ref 159)]) (st' := [.int ((Int32.ofInt 3)), .ref 159]) rfl ?_
      have := (by decide : ((Int32.ofInt 3)).toInt = 3)
      refine En_callV rfl rfl rfl rfl rfl rfl rfl rfl (by decide +kernel : TG 159 = 35) (by decide +kernel) rfl (c_223x σ716 h717 ((Int32.ofInt 3)) (geI (by decide : (Int32.ofInt 3).toInt = 3) (by omega)) (leI (by decide : (Int32.ofInt 3).toInt = 3) (by omega)) y719 h720 h730) (by decide) (by decide) (fun v1129 σ1130 h1128 => ?_)
      obtain ⟨h1131, h1132, z1134, h1135, rfl, h1133⟩ := h1128
      have h1136 := h1133.2.2.2.2.2
      have h1137 := Fr_trans h718 h1132 (by decide +kernel)
      have h1138 := KF_fr h729 h1132 (by decide +kernel)
      obtain ⟨S1139, h1140⟩ : ∃ q : PS, q = err By Nb 3 (gN1 By Nb Sp) := ⟨_, rfl⟩
      have h1141 : ML By Nb σ1130 S1139 := by rw [h1140]; exact (ML_eq h1136 (err_cg (by omega)))
      have h1142 := ML_k h1141 h1135
      have h1143 : S1139.2.2.2 = (gN1 By Nb Sp).2.2.2 := by rw [h1140]; exact err_w
      obtain ⟨z1145, h1144, h1146, h1147⟩ := WT_peekI h1131 (by decide +kernel : TG 165 = 41) (by decide +kernel : FT 41 (3 : Int).toNat = (0, 0, 12)) (by decide +kernel)
      obtain ⟨z1149, h1148, h1150, h1151⟩ := WT_peekI h1131 (by decide +kernel : TG 165 = 41) (by decide +kernel : FT 41 (4 : Int).toNat = (0, 0, 4)) (by decide +kernel)
      obtain ⟨z1153, h1152, h1154, h1155⟩ := WT_peekI h1131 (by decide +kernel : TG 165 = 41) (by decide +kernel : FT 41 (5 : Int).toNat = (0, 0, 6)) (by decide +kernel)
      exact keyj170 σ1130 z1122 z1145 z1149 z1153 z1134 y723 h1131 h1137 ((h1132 _ _ (inWa (by decide +kernel : TG 165 = 41) (by decide +kernel))).trans h1121) (by omega) (by omega) h1144 (by omega) (by omega) h1148 (by omega) (by omega) h1152 (by omega) (by omega) h1135 (by omega) (by omega) ((h1132 _ _ (inW (by decide +kernel : TG 159 = 35) (by decide +kernel))).trans h724) (by omega) (by omega) (by omega) (by omega) (by omega) (by omega) (by omega) (by omega) (h1138) (ML_eq h1141 (by subst h1140; exact (gN2_pos (by omega)).symm))
    · refine En_Ps 1 (pc' := 107) (lv' := [(0, .ref 159)]) (st' := [.ref 159]) rfl ?_
      refine En_ldcS (i := 3) rfl rfl rfl ?_
      refine En_callV rfl rfl rfl rfl rfl rfl rfl rfl (by decide +kernel : TG 159 = 35) (by decide +kernel) rfl (c_251s3x σ716 h717 h730) (by decide) (by decide) (fun v1157 σ1158 h1156 => ?_)
      obtain ⟨h1159, h1160, z1162, rfl, h1161⟩ := h1156
      have h1163 := h1161.2.2
      obtain rfl : σ716 = σ1158 := Fr_nil h1160
      refine En_iEq _ rfl rfl (fun h1164 => ?_) (fun h1164 => ?_)
      · refine En_Ps 1 (pc' := 127) (lv' := [(0, .ref 159)]) (st' := [.ref 159]) rfl ?_
        refine En_ldcS (i := 5) rfl rfl rfl ?_
        refine En_callV rfl rfl rfl rfl rfl rfl rfl rfl (by decide +kernel : TG 159 = 35) (by decide +kernel) rfl (c_251s5x σ716 h717 h730) (by decide) (by decide) (fun v1166 σ1167 h1165 => ?_)
        obtain ⟨h1168, h1169, z1171, rfl, h1170⟩ := h1165
        have h1172 := h1170.2.2
        obtain rfl : σ716 = σ1167 := Fr_nil h1169
        refine En_iEq _ rfl rfl (fun h1173 => ?_) (fun h1173 => ?_)
        · refine En_Ps 1 (pc' := 146) (lv' := [(0, .ref 159)]) (st' := [.ref 159]) rfl ?_
          refine En_ldcS (i := 1) rfl rfl rfl ?_
          refine En_callV rfl rfl rfl rfl rfl rfl rfl rfl (by decide +kernel : TG 159 = 35) (by decide +kernel) rfl (c_251s1x σ716 h717 h730) (by decide) (by decide) (fun v1175 σ1176 h1174 => ?_)
          obtain ⟨h1177, h1178, z1180, rfl, h1179⟩ := h1174
          have h1181 := h1179.2.2
          obtain rfl : σ716 = σ1176 := Fr_nil h1178
          refine En_iEq _ rfl rfl (fun h1182 => ?_) (fun h1182 => ?_)
          · obtain ⟨z1184, h1183, h1185, h1186⟩ := WT_peekI h717 (by decide +kernel : TG 165 = 41) (by decide +kernel : FT 41 (3 : Int).toNat = (0, 0, 12)) (by decide +kernel)
            obtain ⟨z1188, h1187, h1189, h1190⟩ := WT_peekI h717 (by decide +kernel : TG 165 = 41) (by decide +kernel : FT 41 (4 : Int).toNat = (0, 0, 4)) (by decide +kernel)
            obtain ⟨z1192, h1191, h1193, h1194⟩ := WT_peekI h717 (by decide +kernel : TG 165 = 41) (by decide +kernel : FT 41 (5 : Int).toNat = (0, 0, 6)) (by decide +kernel)
            exact keyj170 σ716 z1122 z1184 z1188 z1192 y719 y723 h717 h718 h1121 (by omega) (by omega) h1183 (by omega) (by omega) h1187 (by omega) (by omega) h1191 (by omega) (by omega) h720 (by omega) (by omega) h724 (by omega) (by omega) (by omega) (by omega) (by intro hh; have zz : (gN1 By Nb Sp).1 = 0 := (by omega); have j1 := Imp_m h732 zz; have j2 := Imp_m h733 zz; have j3 := Imp_m h734 zz; have j4 := Imp_m h735 zz; omega) (by intro hh; have zz : (gN1 By Nb Sp).1 = 0 := (by omega); have j1 := Imp_m h732 zz; have j2 := Imp_m h733 zz; have j3 := Imp_m h734 zz; have j4 := Imp_m h735 zz; omega) (by intro hh; have zz : (gN1 By Nb Sp).1 = 0 := (by omega); have j1 := Imp_m h732 zz; have j2 := Imp_m h733 zz; have j3 := Imp_m h734 zz; have j4 := Imp_m h735 zz; omega) (by intro hh; have zz : (gN1 By Nb Sp).1 = 0 := (by omega); have j1 := Imp_m h732 zz; have j2 := Imp_m h733 zz; have j3 := Imp_m h734 zz; have j4 := Imp_m h735 zz; omega) (h729) (ML_eq h730 (gN2_neg (by omega)).symm)
          · refine En_Ps 1 (pc' := 155) (lv' := [(0, .ref 159)]) (st' := [.ref 159]) rfl ?_
            refine En_getK (j := 14) h1119 rfl rfl rfl (by decide +kernel : TG 159 = 35) (by decide +kernel) ?_
            refine En_Ps 1 (pc' := 159) (lv' := [(0, .ref 159)]) (st' := [.int ((Int32.ofInt 5)), .ref 165]) rfl ?_
            refine En_iald (l := 0) (u := 6) rfl (by decide : (Int32.ofInt 5).toInt = 5) (by decide +kernel : TG 165 = 41) (by decide +kernel) h717 (by omega) (lnI (by decide +kernel : LN _ = 226) (by omega)) (by decide +kernel) (fun z1196 h1195 h1197 h1198 => ?_)
            have h1200 : (gN1 By Nb Sp).1 = 0 := iW_g (i := 1) (B := By) (n := Nb) (by omega)
            have h1199 : (gN1 By Nb Sp).2.2.2 5 = z1196.toInt := ML_wi h730 h1200 h1195 (by omega) (by omega) (by omega)
            refine En_Ps 1 (pc' := 162) (lv' := [(0, .ref 159)]) (st' := [.int (((Int8.ofInt 6).toInt32)), .int z1196]) rfl ?_
            refine En_icNe _ rfl (by decide : ((Int8.ofInt 6).toInt32).toInt = 6) rfl (fun h1201 => ?_) (fun h1201 => ?_)
            · obtain ⟨z1203, h1202, h1204, h1205⟩ := WT_peekI h717 (by decide +kernel : TG 165 = 41) (by decide +kernel : FT 41 (3 : Int).toNat = (0, 0, 12)) (by decide +kernel)
              obtain ⟨z1207, h1206, h1208, h1209⟩ := WT_peekI h717 (by decide +kernel : TG 165 = 41) (by decide +kernel : FT 41 (4 : Int).toNat = (0, 0, 4)) (by decide +kernel)
              exact keyj170 σ716 z1122 z1203 z1207 z1196 y719 y723 h717 h718 h1121 (by omega) (by omega) h1202 (by omega) (by omega) h1206 (by omega) (by omega) h1195 (by omega) (by omega) h720 (by omega) (by omega) h724 (by omega) (by omega) (by omega) (by omega) (by intro hh; have zz : (gN1 By Nb Sp).1 = 0 := (by omega); have j1 := Imp_m h732 zz; have j2 := Imp_m h733 zz; have j3 := Imp_m h734 zz; have j4 := Imp_m h735 zz; omega) (by intro hh; have zz : (gN1 By Nb Sp).1 = 0 := (by omega); have j1 := Imp_m h732 zz; have j2 := Imp_m h733 zz; have j3 := Imp_m h734 zz; have j4 := Imp_m h735 zz; omega) (by intro hh; have zz : (gN1 By Nb Sp).1 = 0 := (by omega); have j1 := Imp_m h732 zz; have j2 := Imp_m h733 zz; have j3 := Imp_m h734 zz; have j4 := Imp_m h735 zz; omega) (by intro hh; have zz : (gN1 By Nb Sp).1 = 0 := (by omega); have j1 := Imp_m h732 zz; have j2 := Imp_m h733 zz; have j3 := Imp_m h734 zz; have j4 := Imp_m h735 zz; omega) (h729) (ML_eq h730 (gN2_neg (by omega)).symm)
            · refine En_Ps 2 (pc' := 167) (lv' := [(0, .ref 159)]) (st' := [.int ((Int32.ofInt 3)), .ref 159]) rfl ?_
              have := (by decide : ((Int32.ofInt 3)).toInt = 3)
              refine En_callV rfl rfl rfl rfl rfl rfl rfl rfl (by decide +kernel : TG 159 = 35) (by decide +kernel) rfl (c_223x σ716 h717 ((Int32.ofInt 3)) (geI (by decide : (Int32.ofInt 3).toInt = 3) (by omega)) (leI (by decide : (Int32.ofInt 3).toInt = 3) (by omega)) y719 h720 h730) (by decide) (by decide) (fun v1211 σ1212 h1210 => ?_)
              obtain ⟨h1213, h1214, z1216, h1217, rfl, h1215⟩ := h1210
              have h1218 := h1215.2.2.2.2.2
              have h1219 := Fr_trans h718 h1214 (by decide +kernel)
              have h1220 := KF_fr h729 h1214 (by decide +kernel)
              obtain ⟨S1221, h1222⟩ : ∃ q : PS, q = err By Nb 3 (gN1 By Nb Sp) := ⟨_, rfl⟩
              have h1223 : ML By Nb σ1212 S1221 := by rw [h1222]; exact (ML_eq h1218 (err_cg (by omega)))
              have h1224 := ML_k h1223 h1217
              have h1225 : S1221.2.2.2 = (gN1 By Nb Sp).2.2.2 := by rw [h1222]; exact err_w
              obtain ⟨z1227, h1226, h1228, h1229⟩ := WT_peekI h1213 (by decide +kernel : TG 165 = 41) (by decide +kernel : FT 41 (3 : Int).toNat = (0, 0, 12)) (by decide +kernel)
              obtain ⟨z1231, h1230, h1232, h1233⟩ := WT_peekI h1213 (by decide +kernel : TG 165 = 41) (by decide +kernel : FT 41 (4 : Int).toNat = (0, 0, 4)) (by decide +kernel)
              exact keyj170 σ1212 z1122 z1227 z1231 z1196 z1216 y723 h1213 h1219 ((h1214 _ _ (inWa (by decide +kernel : TG 165 = 41) (by decide +kernel))).trans h1121) (by omega) (by omega) h1226 (by omega) (by omega) h1230 (by omega) (by omega) ((h1214 _ _ (inWa (by decide +kernel : TG 165 = 41) (by decide +kernel))).trans h1195) (by omega) (by omega) h1217 (by omega) (by omega) ((h1214 _ _ (inW (by decide +kernel : TG 159 = 35) (by decide +kernel))).trans h724) (by omega) (by omega) (by omega) (by omega) (by omega) (by omega) (by omega) (by omega) (h1220) (ML_eq h1223 (by subst h1222; exact (gN2_pos (by omega)).symm))
        · refine En_Ps 1 (pc' := 136) (lv' := [(0, .ref 159)]) (st' := [.ref 159]) rfl ?_
          refine En_getK (j := 14) h1119 rfl rfl rfl (by decide +kernel : TG 159 = 35) (by decide +kernel) ?_
          refine En_Ps 1 (pc' := 140) (lv' := [(0, .ref 159)]) (st' := [.int ((Int32.ofInt 4)), .ref 165]) rfl ?_
          refine En_iald (l := 0) (u := 4) rfl (by decide : (Int32.ofInt 4).toInt = 4) (by decide +kernel : TG 165 = 41) (by decide +kernel) h717 (by omega) (lnI (by decide +kernel : LN _ = 226) (by omega)) (by decide +kernel) (fun z1235 h1234 h1236 h1237 => ?_)
          have h1239 : (gN1 By Nb Sp).1 = 0 := iW_g (i := 5) (B := By) (n := Nb) (by omega)
          have h1238 : (gN1 By Nb Sp).2.2.2 4 = z1235.toInt := ML_wi h730 h1239 h1234 (by omega) (by omega) (by omega)
          refine En_Ps 1 (pc' := 142) (lv' := [(0, .ref 159)]) (st' := [.int ((Int32.ofInt 4)), .int z1235]) rfl ?_
          refine En_icEq _ rfl (by decide : (Int32.ofInt 4).toInt = 4) rfl (fun h1240 => ?_) (fun h1240 => ?_)
          · refine En_Ps 2 (pc' := 167) (lv' := [(0, .ref 159)]) (st' := [.int ((Int32.ofInt 3)), .ref 159]) rfl ?_
            have := (by decide : ((Int32.ofInt 3)).toInt = 3)
            refine En_callV rfl rfl rfl rfl rfl rfl rfl rfl (by decide +kernel : TG 159 = 35) (by decide +kernel) rfl (c_223x σ716 h717 ((Int32.ofInt 3)) (geI (by decide : (Int32.ofInt 3).toInt = 3) (by omega)) (leI (by decide : (Int32.ofInt 3).toInt = 3) (by omega)) y719 h720 h730) (by decide) (by decide) (fun v1242 σ1243 h1241 => ?_)
            obtain ⟨h1244, h1245, z1247, h1248, rfl, h1246⟩ := h1241
            have h1249 := h1246.2.2.2.2.2
            have h1250 := Fr_trans h718 h1245 (by decide +kernel)
            have h1251 := KF_fr h729 h1245 (by decide +kernel)
            obtain ⟨S1252, h1253⟩ : ∃ q : PS, q = err By Nb 3 (gN1 By Nb Sp) := ⟨_, rfl⟩
            have h1254 : ML By Nb σ1243 S1252 := by rw [h1253]; exact (ML_eq h1249 (err_cg (by omega)))
            have h1255 := ML_k h1254 h1248
            have h1256 : S1252.2.2.2 = (gN1 By Nb Sp).2.2.2 := by rw [h1253]; exact err_w
            obtain ⟨z1258, h1257, h1259, h1260⟩ := WT_peekI h1244 (by decide +kernel : TG 165 = 41) (by decide +kernel : FT 41 (3 : Int).toNat = (0, 0, 12)) (by decide +kernel)
            obtain ⟨z1262, h1261, h1263, h1264⟩ := WT_peekI h1244 (by decide +kernel : TG 165 = 41) (by decide +kernel : FT 41 (5 : Int).toNat = (0, 0, 6)) (by decide +kernel)
            exact keyj170 σ1243 z1122 z1258 z1235 z1262 z1247 y723 h1244 h1250 ((h1245 _ _ (inWa (by decide +kernel : TG 165 = 41) (by decide +kernel))).trans h1121) (by omega) (by omega) h1257 (by omega) (by omega) ((h1245 _ _ (inWa (by decide +kernel : TG 165 = 41) (by decide +kernel))).trans h1234) (by omega) (by omega) h1261 (by omega) (by omega) h1248 (by omega) (by omega) ((h1245 _ _ (inW (by decide +kernel : TG 159 = 35) (by decide +kernel))).trans h724) (by omega) (by omega) (by omega) (by omega) (by omega) (by omega) (by omega) (by omega) (h1251) (ML_eq h1254 (by subst h1253; exact (gN2_pos (by omega)).symm))
          · refine En_Ps 1 (pc' := 146) (lv' := [(0, .ref 159)]) (st' := [.ref 159]) rfl ?_
            refine En_ldcS (i := 1) rfl rfl rfl ?_
            refine En_callV rfl rfl rfl rfl rfl rfl rfl rfl (by decide +kernel : TG 159 = 35) (by decide +kernel) rfl (c_251s1x σ716 h717 h730) (by decide) (by decide) (fun v1266 σ1267 h1265 => ?_)
            obtain ⟨h1268, h1269, z1271, rfl, h1270⟩ := h1265
            have h1272 := h1270.2.2
            obtain rfl : σ716 = σ1267 := Fr_nil h1269
            refine En_iEq _ rfl rfl (fun h1273 => ?_) (fun h1273 => ?_)
            · obtain ⟨z1275, h1274, h1276, h1277⟩ := WT_peekI h717 (by decide +kernel : TG 165 = 41) (by decide +kernel : FT 41 (3 : Int).toNat = (0, 0, 12)) (by decide +kernel)
              obtain ⟨z1279, h1278, h1280, h1281⟩ := WT_peekI h717 (by decide +kernel : TG 165 = 41) (by decide +kernel : FT 41 (5 : Int).toNat = (0, 0, 6)) (by decide +kernel)
              exact keyj170 σ716 z1122 z1275 z1235 z1279 y719 y723 h717 h718 h1121 (by omega) (by omega) h1274 (by omega) (by omega) h1234 (by omega) (by omega) h1278 (by omega) (by omega) h720 (by omega) (by omega) h724 (by omega) (by omega) (by omega) (by omega) (by intro hh; have zz : (gN1 By Nb Sp).1 = 0 := (by omega); have j1 := Imp_m h732 zz; have j2 := Imp_m h733 zz; have j3 := Imp_m h734 zz; have j4 := Imp_m h735 zz; omega) (by intro hh; have zz : (gN1 By Nb Sp).1 = 0 := (by omega); have j1 := Imp_m h732 zz; have j2 := Imp_m h733 zz; have j3 := Imp_m h734 zz; have j4 := Imp_m h735 zz; omega) (by intro hh; have zz : (gN1 By Nb Sp).1 = 0 := (by omega); have j1 := Imp_m h732 zz; have j2 := Imp_m h733 zz; have j3 := Imp_m h734 zz; have j4 := Imp_m h735 zz; omega) (by intro hh; have zz : (gN1 By Nb Sp).1 = 0 := (by omega); have j1 := Imp_m h732 zz; have j2 := Imp_m h733 zz; have j3 := Imp_m h734 zz; have j4 := Imp_m h735 zz; omega) (h729) (ML_eq h730 (gN2_neg (by omega)).symm)
            · refine En_Ps 1 (pc' := 155) (lv' := [(0, .ref 159)]) (st' := [.ref 159]) rfl ?_
              refine En_getK (j := 14) h1119 rfl rfl rfl (by decide +kernel : TG 159 = 35) (by decide +kernel) ?_
              refine En_Ps 1 (pc' := 159) (lv' := [(0, .ref 159)]) (st' := [.int ((Int32.ofInt 5)), .ref 165]) rfl ?_
              refine En_iald (l := 0) (u := 6) rfl (by decide : (Int32.ofInt 5).toInt = 5) (by decide +kernel : TG 165 = 41) (by decide +kernel) h717 (by omega) (lnI (by decide +kernel : LN _ = 226) (by omega)) (by decide +kernel) (fun z1283 h1282 h1284 h1285 => ?_)
              have h1287 : (gN1 By Nb Sp).1 = 0 := iW_g (i := 1) (B := By) (n := Nb) (by omega)
              have h1286 : (gN1 By Nb Sp).2.2.2 5 = z1283.toInt := ML_wi h730 h1287 h1282 (by omega) (by omega) (by omega)
              refine En_Ps 1 (pc' := 162) (lv' := [(0, .ref 159)]) (st' := [.int (((Int8.ofInt 6).toInt32)), .int z1283]) rfl ?_
              refine En_icNe _ rfl (by decide : ((Int8.ofInt 6).toInt32).toInt = 6) rfl (fun h1288 => ?_) (fun h1288 => ?_)
              · obtain ⟨z1290, h1289, h1291, h1292⟩ := WT_peekI h717 (by decide +kernel : TG 165 = 41) (by decide +kernel : FT 41 (3 : Int).toNat = (0, 0, 12)) (by decide +kernel)
                exact keyj170 σ716 z1122 z1290 z1235 z1283 y719 y723 h717 h718 h1121 (by omega) (by omega) h1289 (by omega) (by omega) h1234 (by omega) (by omega) h1282 (by omega) (by omega) h720 (by omega) (by omega) h724 (by omega) (by omega) (by omega) (by omega) (by intro hh; have zz : (gN1 By Nb Sp).1 = 0 := (by omega); have j1 := Imp_m h732 zz; have j2 := Imp_m h733 zz; have j3 := Imp_m h734 zz; have j4 := Imp_m h735 zz; omega) (by intro hh; have zz : (gN1 By Nb Sp).1 = 0 := (by omega); have j1 := Imp_m h732 zz; have j2 := Imp_m h733 zz; have j3 := Imp_m h734 zz; have j4 := Imp_m h735 zz; omega) (by intro hh; have zz : (gN1 By Nb Sp).1 = 0 := (by omega); have j1 := Imp_m h732 zz; have j2 := Imp_m h733 zz; have j3 := Imp_m h734 zz; have j4 := Imp_m h735 zz; omega) (by intro hh; have zz : (gN1 By Nb Sp).1 = 0 := (by omega); have j1 := Imp_m h732 zz; have j2 := Imp_m h733 zz; have j3 := Imp_m h734 zz; have j4 := Imp_m h735 zz; omega) (h729) (ML_eq h730 (gN2_neg (by omega)).symm)
              · refine En_Ps 2 (pc' := 167) (lv' := [(0, .ref 159)]) (st' := [.int ((Int32.ofInt 3)), .ref 159]) rfl ?_
                have := (by decide : ((Int32.ofInt 3)).toInt = 3)
                refine En_callV rfl rfl rfl rfl rfl rfl rfl rfl (by decide +kernel : TG 159 = 35) (by decide +kernel) rfl (c_223x σ716 h717 ((Int32.ofInt 3)) (geI (by decide : (Int32.ofInt 3).toInt = 3) (by omega)) (leI (by decide : (Int32.ofInt 3).toInt = 3) (by omega)) y719 h720 h730) (by decide) (by decide) (fun v1294 σ1295 h1293 => ?_)
                obtain ⟨h1296, h1297, z1299, h1300, rfl, h1298⟩ := h1293
                have h1301 := h1298.2.2.2.2.2
                have h1302 := Fr_trans h718 h1297 (by decide +kernel)
                have h1303 := KF_fr h729 h1297 (by decide +kernel)
                obtain ⟨S1304, h1305⟩ : ∃ q : PS, q = err By Nb 3 (gN1 By Nb Sp) := ⟨_, rfl⟩
                have h1306 : ML By Nb σ1295 S1304 := by rw [h1305]; exact (ML_eq h1301 (err_cg (by omega)))
                have h1307 := ML_k h1306 h1300
                have h1308 : S1304.2.2.2 = (gN1 By Nb Sp).2.2.2 := by rw [h1305]; exact err_w
                obtain ⟨z1310, h1309, h1311, h1312⟩ := WT_peekI h1296 (by decide +kernel : TG 165 = 41) (by decide +kernel : FT 41 (3 : Int).toNat = (0, 0, 12)) (by decide +kernel)
                exact keyj170 σ1295 z1122 z1310 z1235 z1283 z1299 y723 h1296 h1302 ((h1297 _ _ (inWa (by decide +kernel : TG 165 = 41) (by decide +kernel))).trans h1121) (by omega) (by omega) h1309 (by omega) (by omega) ((h1297 _ _ (inWa (by decide +kernel : TG 165 = 41) (by decide +kernel))).trans h1234) (by omega) (by omega) ((h1297 _ _ (inWa (by decide +kernel : TG 165 = 41) (by decide +kernel))).trans h1282) (by omega) (by omega) h1300 (by omega) (by omega) ((h1297 _ _ (inW (by decide +kernel : TG 159 = 35) (by decide +kernel))).trans h724) (by omega) (by omega) (by omega) (by omega) (by omega) (by omega) (by omega) (by omega) (h1303) (ML_eq h1306 (by subst h1305; exact (gN2_pos (by omega)).symm))
      · refine En_Ps 1 (pc' := 116) (lv' := [(0, .ref 159)]) (st' := [.ref 159]) rfl ?_
        refine En_getK (j := 14) h1119 rfl rfl rfl (by decide +kernel : TG 159 = 35) (by decide +kernel) ?_
        refine En_Ps 1 (pc' := 120) (lv' := [(0, .ref 159)]) (st' := [.int ((Int32.ofInt 3)), .ref 165]) rfl ?_
        refine En_iald (l := 0) (u := 12) rfl (by decide : (Int32.ofInt 3).toInt = 3) (by decide +kernel : TG 165 = 41) (by decide +kernel) h717 (by omega) (lnI (by decide +kernel : LN _ = 226) (by omega)) (by decide +kernel) (fun z1314 h1313 h1315 h1316 => ?_)
        have h1318 : (gN1 By Nb Sp).1 = 0 := iW_g (i := 3) (B := By) (n := Nb) (by omega)
        have h1317 : (gN1 By Nb Sp).2.2.2 3 = z1314.toInt := ML_wi h730 h1318 h1313 (by omega) (by omega) (by omega)
        refine En_Ps 1 (pc' := 123) (lv' := [(0, .ref 159)]) (st' := [.int (((Int8.ofInt 12).toInt32)), .int z1314]) rfl ?_
        refine En_icEq _ rfl (by decide : ((Int8.ofInt 12).toInt32).toInt = 12) rfl (fun h1319 => ?_) (fun h1319 => ?_)
        · refine En_Ps 2 (pc' := 167) (lv' := [(0, .ref 159)]) (st' := [.int ((Int32.ofInt 3)), .ref 159]) rfl ?_
          have := (by decide : ((Int32.ofInt 3)).toInt = 3)
          refine En_callV rfl rfl rfl rfl rfl rfl rfl rfl (by decide +kernel : TG 159 = 35) (by decide +kernel) rfl (c_223x σ716 h717 ((Int32.ofInt 3)) (geI (by decide : (Int32.ofInt 3).toInt = 3) (by omega)) (leI (by decide : (Int32.ofInt 3).toInt = 3) (by omega)) y719 h720 h730) (by decide) (by decide) (fun v1321 σ1322 h1320 => ?_)
          obtain ⟨h1323, h1324, z1326, h1327, rfl, h1325⟩ := h1320
          have h1328 := h1325.2.2.2.2.2
          have h1329 := Fr_trans h718 h1324 (by decide +kernel)
          have h1330 := KF_fr h729 h1324 (by decide +kernel)
          obtain ⟨S1331, h1332⟩ : ∃ q : PS, q = err By Nb 3 (gN1 By Nb Sp) := ⟨_, rfl⟩
          have h1333 : ML By Nb σ1322 S1331 := by rw [h1332]; exact (ML_eq h1328 (err_cg (by omega)))
          have h1334 := ML_k h1333 h1327
          have h1335 : S1331.2.2.2 = (gN1 By Nb Sp).2.2.2 := by rw [h1332]; exact err_w
          obtain ⟨z1337, h1336, h1338, h1339⟩ := WT_peekI h1323 (by decide +kernel : TG 165 = 41) (by decide +kernel : FT 41 (4 : Int).toNat = (0, 0, 4)) (by decide +kernel)
          obtain ⟨z1341, h1340, h1342, h1343⟩ := WT_peekI h1323 (by decide +kernel : TG 165 = 41) (by decide +kernel : FT 41 (5 : Int).toNat = (0, 0, 6)) (by decide +kernel)
          exact keyj170 σ1322 z1122 z1314 z1337 z1341 z1326 y723 h1323 h1329 ((h1324 _ _ (inWa (by decide +kernel : TG 165 = 41) (by decide +kernel))).trans h1121) (by omega) (by omega) ((h1324 _ _ (inWa (by decide +kernel : TG 165 = 41) (by decide +kernel))).trans h1313) (by omega) (by omega) h1336 (by omega) (by omega) h1340 (by omega) (by omega) h1327 (by omega) (by omega) ((h1324 _ _ (inW (by decide +kernel : TG 159 = 35) (by decide +kernel))).trans h724) (by omega) (by omega) (by omega) (by omega) (by omega) (by omega) (by omega) (by omega) (h1330) (ML_eq h1333 (by subst h1332; exact (gN2_pos (by omega)).symm))
        · refine En_Ps 1 (pc' := 127) (lv' := [(0, .ref 159)]) (st' := [.ref 159]) rfl ?_
          refine En_ldcS (i := 5) rfl rfl rfl ?_
          refine En_callV rfl rfl rfl rfl rfl rfl rfl rfl (by decide +kernel : TG 159 = 35) (by decide +kernel) rfl (c_251s5x σ716 h717 h730) (by decide) (by decide) (fun v1345 σ1346 h1344 => ?_)
          obtain ⟨h1347, h1348, z1350, rfl, h1349⟩ := h1344
          have h1351 := h1349.2.2
          obtain rfl : σ716 = σ1346 := Fr_nil h1348
          refine En_iEq _ rfl rfl (fun h1352 => ?_) (fun h1352 => ?_)
          · refine En_Ps 1 (pc' := 146) (lv' := [(0, .ref 159)]) (st' := [.ref 159]) rfl ?_
            refine En_ldcS (i := 1) rfl rfl rfl ?_
            refine En_callV rfl rfl rfl rfl rfl rfl rfl rfl (by decide +kernel : TG 159 = 35) (by decide +kernel) rfl (c_251s1x σ716 h717 h730) (by decide) (by decide) (fun v1354 σ1355 h1353 => ?_)
            obtain ⟨h1356, h1357, z1359, rfl, h1358⟩ := h1353
            have h1360 := h1358.2.2
            obtain rfl : σ716 = σ1355 := Fr_nil h1357
            refine En_iEq _ rfl rfl (fun h1361 => ?_) (fun h1361 => ?_)
            · obtain ⟨z1363, h1362, h1364, h1365⟩ := WT_peekI h717 (by decide +kernel : TG 165 = 41) (by decide +kernel : FT 41 (4 : Int).toNat = (0, 0, 4)) (by decide +kernel)
              obtain ⟨z1367, h1366, h1368, h1369⟩ := WT_peekI h717 (by decide +kernel : TG 165 = 41) (by decide +kernel : FT 41 (5 : Int).toNat = (0, 0, 6)) (by decide +kernel)
              exact keyj170 σ716 z1122 z1314 z1363 z1367 y719 y723 h717 h718 h1121 (by omega) (by omega) h1313 (by omega) (by omega) h1362 (by omega) (by omega) h1366 (by omega) (by omega) h720 (by omega) (by omega) h724 (by omega) (by omega) (by omega) (by omega) (by intro hh; have zz : (gN1 By Nb Sp).1 = 0 := (by omega); have j1 := Imp_m h732 zz; have j2 := Imp_m h733 zz; have j3 := Imp_m h734 zz; have j4 := Imp_m h735 zz; omega) (by intro hh; have zz : (gN1 By Nb Sp).1 = 0 := (by omega); have j1 := Imp_m h732 zz; have j2 := Imp_m h733 zz; have j3 := Imp_m h734 zz; have j4 := Imp_m h735 zz; omega) (by intro hh; have zz : (gN1 By Nb Sp).1 = 0 := (by omega); have j1 := Imp_m h732 zz; have j2 := Imp_m h733 zz; have j3 := Imp_m h734 zz; have j4 := Imp_m h735 zz; omega) (by intro hh; have zz : (gN1 By Nb Sp).1 = 0 := (by omega); have j1 := Imp_m h732 zz; have j2 := Imp_m h733 zz; have j3 := Imp_m h734 zz; have j4 := Imp_m h735 zz; omega) (h729) (ML_eq h730 (gN2_neg (by omega)).symm)
            · refine En_Ps 1 (pc' := 155) (lv' := [(0, .ref 159)]) (st' := [.ref 159]) rfl ?_
              refine En_getK (j := 14) h1119 rfl rfl rfl (by decide +kernel : TG 159 = 35) (by decide +kernel) ?_
              refine En_Ps 1 (pc' := 159) (lv' := [(0, .ref 159)]) (st' := [.int ((Int32.ofInt 5)), .ref 165]) rfl ?_
              refine En_iald (l := 0) (u := 6) rfl (by decide : (Int32.ofInt 5).toInt = 5) (by decide +kernel : TG 165 = 41) (by decide +kernel) h717 (by omega) (lnI (by decide +kernel : LN _ = 226) (by omega)) (by decide +kernel) (fun z1371 h1370 h1372 h1373 => ?_)
              have h1375 : (gN1 By Nb Sp).1 = 0 := iW_g (i := 1) (B := By) (n := Nb) (by omega)
              have h1374 : (gN1 By Nb Sp).2.2.2 5 = z1371.toInt := ML_wi h730 h1375 h1370 (by omega) (by omega) (by omega)
              refine En_Ps 1 (pc' := 162) (lv' := [(0, .ref 159)]) (st' := [.int (((Int8.ofInt 6).toInt32)), .int z1371]) rfl ?_
              refine En_icNe _ rfl (by decide : ((Int8.ofInt 6).toInt32).toInt = 6) rfl (fun h1376 => ?_) (fun h1376 => ?_)
              · obtain ⟨z1378, h1377, h1379, h1380⟩ := WT_peekI h717 (by decide +kernel : TG 165 = 41) (by decide +kernel : FT 41 (4 : Int).toNat = (0, 0, 4)) (by decide +kernel)
                exact keyj170 σ716 z1122 z1314 z1378 z1371 y719 y723 h717 h718 h1121 (by omega) (by omega) h1313 (by omega) (by omega) h1377 (by omega) (by omega) h1370 (by omega) (by omega) h720 (by omega) (by omega) h724 (by omega) (by omega) (by omega) (by omega) (by intro hh; have zz : (gN1 By Nb Sp).1 = 0 := (by omega); have j1 := Imp_m h732 zz; have j2 := Imp_m h733 zz; have j3 := Imp_m h734 zz; have j4 := Imp_m h735 zz; omega) (by intro hh; have zz : (gN1 By Nb Sp).1 = 0 := (by omega); have j1 := Imp_m h732 zz; have j2 := Imp_m h733 zz; have j3 := Imp_m h734 zz; have j4 := Imp_m h735 zz; omega) (by intro hh; have zz : (gN1 By Nb Sp).1 = 0 := (by omega); have j1 := Imp_m h732 zz; have j2 := Imp_m h733 zz; have j3 := Imp_m h734 zz; have j4 := Imp_m h735 zz; omega) (by intro hh; have zz : (gN1 By Nb Sp).1 = 0 := (by omega); have j1 := Imp_m h732 zz; have j2 := Imp_m h733 zz; have j3 := Imp_m h734 zz; have j4 := Imp_m h735 zz; omega) (h729) (ML_eq h730 (gN2_neg (by omega)).symm)
              · refine En_Ps 2 (pc' := 167) (lv' := [(0, .ref 159)]) (st' := [.int ((Int32.ofInt 3)), .ref 159]) rfl ?_
                have := (by decide : ((Int32.ofInt 3)).toInt = 3)
                refine En_callV rfl rfl rfl rfl rfl rfl rfl rfl (by decide +kernel : TG 159 = 35) (by decide +kernel) rfl (c_223x σ716 h717 ((Int32.ofInt 3)) (geI (by decide : (Int32.ofInt 3).toInt = 3) (by omega)) (leI (by decide : (Int32.ofInt 3).toInt = 3) (by omega)) y719 h720 h730) (by decide) (by decide) (fun v1382 σ1383 h1381 => ?_)
                obtain ⟨h1384, h1385, z1387, h1388, rfl, h1386⟩ := h1381
                have h1389 := h1386.2.2.2.2.2
                have h1390 := Fr_trans h718 h1385 (by decide +kernel)
                have h1391 := KF_fr h729 h1385 (by decide +kernel)
                obtain ⟨S1392, h1393⟩ : ∃ q : PS, q = err By Nb 3 (gN1 By Nb Sp) := ⟨_, rfl⟩
                have h1394 : ML By Nb σ1383 S1392 := by rw [h1393]; exact (ML_eq h1389 (err_cg (by omega)))
                have h1395 := ML_k h1394 h1388
                have h1396 : S1392.2.2.2 = (gN1 By Nb Sp).2.2.2 := by rw [h1393]; exact err_w
                obtain ⟨z1398, h1397, h1399, h1400⟩ := WT_peekI h1384 (by decide +kernel : TG 165 = 41) (by decide +kernel : FT 41 (4 : Int).toNat = (0, 0, 4)) (by decide +kernel)
                exact keyj170 σ1383 z1122 z1314 z1398 z1371 z1387 y723 h1384 h1390 ((h1385 _ _ (inWa (by decide +kernel : TG 165 = 41) (by decide +kernel))).trans h1121) (by omega) (by omega) ((h1385 _ _ (inWa (by decide +kernel : TG 165 = 41) (by decide +kernel))).trans h1313) (by omega) (by omega) h1397 (by omega) (by omega) ((h1385 _ _ (inWa (by decide +kernel : TG 165 = 41) (by decide +kernel))).trans h1370) (by omega) (by omega) h1388 (by omega) (by omega) ((h1385 _ _ (inW (by decide +kernel : TG 159 = 35) (by decide +kernel))).trans h724) (by omega) (by omega) (by omega) (by omega) (by omega) (by omega) (by omega) (by omega) (h1391) (ML_eq h1394 (by subst h1393; exact (gN2_pos (by omega)).symm))
          · refine En_Ps 1 (pc' := 136) (lv' := [(0, .ref 159)]) (st' := [.ref 159]) rfl ?_
            refine En_getK (j := 14) h1119 rfl rfl rfl (by decide +kernel : TG 159 = 35) (by decide +kernel) ?_
            refine En_Ps 1 (pc' := 140) (lv' := [(0, .ref 159)]) (st' := [.int ((Int32.ofInt 4)), .ref 165]) rfl ?_
            refine En_iald (l := 0) (u := 4) rfl (by decide : (Int32.ofInt 4).toInt = 4) (by decide +kernel : TG 165 = 41) (by decide +kernel) h717 (by omega) (lnI (by decide +kernel : LN _ = 226) (by omega)) (by decide +kernel) (fun z1402 h1401 h1403 h1404 => ?_)
            have h1406 : (gN1 By Nb Sp).1 = 0 := iW_g (i := 5) (B := By) (n := Nb) (by omega)
            have h1405 : (gN1 By Nb Sp).2.2.2 4 = z1402.toInt := ML_wi h730 h1406 h1401 (by omega) (by omega) (by omega)
            refine En_Ps 1 (pc' := 142) (lv' := [(0, .ref 159)]) (st' := [.int ((Int32.ofInt 4)), .int z1402]) rfl ?_
            refine En_icEq _ rfl (by decide : (Int32.ofInt 4).toInt = 4) rfl (fun h1407 => ?_) (fun h1407 => ?_)
            · refine En_Ps 2 (pc' := 167) (lv' := [(0, .ref 159)]) (st' := [.int ((Int32.ofInt 3)), .ref 159]) rfl ?_
              have := (by decide : ((Int32.ofInt 3)).toInt = 3)
              refine En_callV rfl rfl rfl rfl rfl rfl rfl rfl (by decide +kernel : TG 159 = 35) (by decide +kernel) rfl (c_223x σ716 h717 ((Int32.ofInt 3)) (geI (by decide : (Int32.ofInt 3).toInt = 3) (by omega)) (leI (by decide : (Int32.ofInt 3).toInt = 3) (by omega)) y719 h720 h730) (by decide) (by decide) (fun v1409 σ1410 h1408 => ?_)
              obtain ⟨h1411, h1412, z1414, h1415, rfl, h1413⟩ := h1408
              have h1416 := h1413.2.2.2.2.2
              have h1417 := Fr_trans h718 h1412 (by decide +kernel)
              have h1418 := KF_fr h729 h1412 (by decide +kernel)
              obtain ⟨S1419, h1420⟩ : ∃ q : PS, q = err By Nb 3 (gN1 By Nb Sp) := ⟨_, rfl⟩
              have h1421 : ML By Nb σ1410 S1419 := by rw [h1420]; exact (ML_eq h1416 (err_cg (by omega)))
              have h1422 := ML_k h1421 h1415
              have h1423 : S1419.2.2.2 = (gN1 By Nb Sp).2.2.2 := by rw [h1420]; exact err_w
              obtain ⟨z1425, h1424, h1426, h1427⟩ := WT_peekI h1411 (by decide +kernel : TG 165 = 41) (by decide +kernel : FT 41 (5 : Int).toNat = (0, 0, 6)) (by decide +kernel)
              exact keyj170 σ1410 z1122 z1314 z1402 z1425 z1414 y723 h1411 h1417 ((h1412 _ _ (inWa (by decide +kernel : TG 165 = 41) (by decide +kernel))).trans h1121) (by omega) (by omega) ((h1412 _ _ (inWa (by decide +kernel : TG 165 = 41) (by decide +kernel))).trans h1313) (by omega) (by omega) ((h1412 _ _ (inWa (by decide +kernel : TG 165 = 41) (by decide +kernel))).trans h1401) (by omega) (by omega) h1424 (by omega) (by omega) h1415 (by omega) (by omega) ((h1412 _ _ (inW (by decide +kernel : TG 159 = 35) (by decide +kernel))).trans h724) (by omega) (by omega) (by omega) (by omega) (by omega) (by omega) (by omega) (by omega) (h1418) (ML_eq h1421 (by subst h1420; exact (gN2_pos (by omega)).symm))
            · refine En_Ps 1 (pc' := 146) (lv' := [(0, .ref 159)]) (st' := [.ref 159]) rfl ?_
              refine En_ldcS (i := 1) rfl rfl rfl ?_
              refine En_callV rfl rfl rfl rfl rfl rfl rfl rfl (by decide +kernel : TG 159 = 35) (by decide +kernel) rfl (c_251s1x σ716 h717 h730) (by decide) (by decide) (fun v1429 σ1430 h1428 => ?_)
              obtain ⟨h1431, h1432, z1434, rfl, h1433⟩ := h1428
              have h1435 := h1433.2.2
              obtain rfl : σ716 = σ1430 := Fr_nil h1432
              refine En_iEq _ rfl rfl (fun h1436 => ?_) (fun h1436 => ?_)
              · obtain ⟨z1438, h1437, h1439, h1440⟩ := WT_peekI h717 (by decide +kernel : TG 165 = 41) (by decide +kernel : FT 41 (5 : Int).toNat = (0, 0, 6)) (by decide +kernel)
                exact keyj170 σ716 z1122 z1314 z1402 z1438 y719 y723 h717 h718 h1121 (by omega) (by omega) h1313 (by omega) (by omega) h1401 (by omega) (by omega) h1437 (by omega) (by omega) h720 (by omega) (by omega) h724 (by omega) (by omega) (by omega) (by omega) (by intro hh; have zz : (gN1 By Nb Sp).1 = 0 := (by omega); have j1 := Imp_m h732 zz; have j2 := Imp_m h733 zz; have j3 := Imp_m h734 zz; have j4 := Imp_m h735 zz; omega) (by intro hh; have zz : (gN1 By Nb Sp).1 = 0 := (by omega); have j1 := Imp_m h732 zz; have j2 := Imp_m h733 zz; have j3 := Imp_m h734 zz; have j4 := Imp_m h735 zz; omega) (by intro hh; have zz : (gN1 By Nb Sp).1 = 0 := (by omega); have j1 := Imp_m h732 zz; have j2 := Imp_m h733 zz; have j3 := Imp_m h734 zz; have j4 := Imp_m h735 zz; omega) (by intro hh; have zz : (gN1 By Nb Sp).1 = 0 := (by omega); have j1 := Imp_m h732 zz; have j2 := Imp_m h733 zz; have j3 := Imp_m h734 zz; have j4 := Imp_m h735 zz; omega) (h729) (ML_eq h730 (gN2_neg (by omega)).symm)
              · refine En_Ps 1 (pc' := 155) (lv' := [(0, .ref 159)]) (st' := [.ref 159]) rfl ?_
                refine En_getK (j := 14) h1119 rfl rfl rfl (by decide +kernel : TG 159 = 35) (by decide +kernel) ?_
                refine En_Ps 1 (pc' := 159) (lv' := [(0, .ref 159)]) (st' := [.int ((Int32.ofInt 5)), .ref 165]) rfl ?_
                refine En_iald (l := 0) (u := 6) rfl (by decide : (Int32.ofInt 5).toInt = 5) (by decide +kernel : TG 165 = 41) (by decide +kernel) h717 (by omega) (lnI (by decide +kernel : LN _ = 226) (by omega)) (by decide +kernel) (fun z1442 h1441 h1443 h1444 => ?_)
                have h1446 : (gN1 By Nb Sp).1 = 0 := iW_g (i := 1) (B := By) (n := Nb) (by omega)
                have h1445 : (gN1 By Nb Sp).2.2.2 5 = z1442.toInt := ML_wi h730 h1446 h1441 (by omega) (by omega) (by omega)
                refine En_Ps 1 (pc' := 162) (lv' := [(0, .ref 159)]) (st' := [.int (((Int8.ofInt 6).toInt32)), .int z1442]) rfl ?_
                refine En_icNe _ rfl (by decide : ((Int8.ofInt 6).toInt32).toInt = 6) rfl (fun h1447 => ?_) (fun h1447 => ?_)
                · exact keyj170 σ716 z1122 z1314 z1402 z1442 y719 y723 h717 h718 h1121 (by omega) (by omega) h1313 (by omega) (by omega) h1401 (by omega) (by omega) h1441 (by omega) (by omega) h720 (by omega) (by omega) h724 (by omega) (by omega) (by omega) (by omega) (by intro hh; have zz : (gN1 By Nb Sp).1 = 0 := (by omega); have j1 := Imp_m h732 zz; have j2 := Imp_m h733 zz; have j3 := Imp_m h734 zz; have j4 := Imp_m h735 zz; omega) (by intro hh; have zz : (gN1 By Nb Sp).1 = 0 := (by omega); have j1 := Imp_m h732 zz; have j2 := Imp_m h733 zz; have j3 := Imp_m h734 zz; have j4 := Imp_m h735 zz; omega) (by intro hh; have zz : (gN1 By Nb Sp).1 = 0 := (by omega); have j1 := Imp_m h732 zz; have j2 := Imp_m h733 zz; have j3 := Imp_m h734 zz; have j4 := Imp_m h735 zz; omega) (by intro hh; have zz : (gN1 By Nb Sp).1 = 0 := (by omega); have j1 := Imp_m h732 zz; have j2 := Imp_m h733 zz; have j3 := Imp_m h734 zz; have j4 := Imp_m h735 zz; omega) (h729) (ML_eq h730 (gN2_neg (by omega)).symm)
                · refine En_Ps 2 (pc' := 167) (lv' := [(0, .ref 159)]) (st' := [.int ((Int32.ofInt 3)), .ref 159]) rfl ?_
                  have := (by decide : ((Int32.ofInt 3)).toInt = 3)
                  refine En_callV rfl rfl rfl rfl rfl rfl rfl rfl (by decide +kernel : TG 159 = 35) (by decide +kernel) rfl (c_223x σ716 h717 ((Int32.ofInt 3)) (geI (by decide : (Int32.ofInt 3).toInt = 3) (by omega)) (leI (by decide : (Int32.ofInt 3).toInt = 3) (by omega)) y719 h720 h730) (by decide) (by decide) (fun v1449 σ1450 h1448 => ?_)
                  obtain ⟨h1451, h1452, z1454, h1455, rfl, h1453⟩ := h1448
                  have h1456 := h1453.2.2.2.2.2
                  have h1457 := Fr_trans h718 h1452 (by decide +kernel)
                  have h1458 := KF_fr h729 h1452 (by decide +kernel)
                  obtain ⟨S1459, h1460⟩ : ∃ q : PS, q = err By Nb 3 (gN1 By Nb Sp) := ⟨_, rfl⟩
                  have h1461 : ML By Nb σ1450 S1459 := by rw [h1460]; exact (ML_eq h1456 (err_cg (by omega)))
                  have h1462 := ML_k h1461 h1455
                  have h1463 : S1459.2.2.2 = (gN1 By Nb Sp).2.2.2 := by rw [h1460]; exact err_w
                  exact keyj170 σ1450 z1122 z1314 z1402 z1442 z1454 y723 h1451 h1457 ((h1452 _ _ (inWa (by decide +kernel : TG 165 = 41) (by decide +kernel))).trans h1121) (by omega) (by omega) ((h1452 _ _ (inWa (by decide +kernel : TG 165 = 41) (by decide +kernel))).trans h1313) (by omega) (by omega) ((h1452 _ _ (inWa (by decide +kernel : TG 165 = 41) (by decide +kernel))).trans h1401) (by omega) (by omega) ((h1452 _ _ (inWa (by decide +kernel : TG 165 = 41) (by decide +kernel))).trans h1441) (by omega) (by omega) h1455 (by omega) (by omega) ((h1452 _ _ (inW (by decide +kernel : TG 159 = 35) (by decide +kernel))).trans h724) (by omega) (by omega) (by omega) (by omega) (by omega) (by omega) (by omega) (by omega) (h1458) (ML_eq h1461 (by subst h1460; exact (gN2_pos (by omega)).symm))

