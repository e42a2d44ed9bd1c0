abbrev LPO : PO := fun v σ => v = some (.int 1) ∧ WT σ
set_option maxRecDepth 100000 in
theorem law_end {L : Nat} {xs : Nat → Int32} {y : Int32} {σ : SG} (hσ : WT σ) : En 2048 84000 (some (L, xs)) mr_336 LPO 2242 [(0, .retAddr 0), (1, .ref 0), (2, .ref 159), (3, .int y)] [] σ := by
  refine En_Ps 1 (pc' := 2243) (lv' := [(0, .retAddr 0), (1, .ref 0), (2, .ref 159), (3, .int y)]) (st' := [.int (Int32.ofInt 1)]) rfl ?_
  refine En_top (by decide : (Int32.ofInt 1).toInt = 1) (fun z h => ?_)
  have e : z = 1 := Int32.toInt_inj.mp (by rw [h]; decide)
  exact En_ret (v := some (.int z)) rfl rfl (retZ rfl rfl (by omega) (by omega)) ⟨by rw [e], hσ⟩
set_option maxRecDepth 100000 in
set_option maxHeartbeats 8000000 in
theorem law_loop {L : Nat} {xs : Nat → Int32} (hL : L ≤ 3072) : ∀ (n : Nat) (y : Int32) (σ : SG), 0 ≤ y.toInt → y.toInt ≤ 3078 → (L : Int) - y.toInt < (n : Int) → WT σ → INVc σ → WI σ → LEA σ → En 2048 84000 (some (L, xs)) mr_336 LPO 18 [(0, .retAddr 0), (1, .ref 0), (2, .ref 159), (3, .int y)] [] σ := by
  intro n
  induction n with
  | zero =>
    intro y σ h0 h1 h2 hσ hC hI hR
    refine En_Ps 5 (pc' := 24) (lv' := [(0, .retAddr 0), (1, .ref 0), (2, .ref 159), (3, .int y)]) (st' := [.int ((Int32.ofNat L) - ((Int8.ofInt 6).toInt32)), .int y]) rfl ?_
    exact En_icGt _ rfl (law_L6 hL) rfl (fun h => law_end hσ) (fun h => by exfalso; omega)
  | succ n ih =>
    intro y σ h0 h1 h2 hσ hC hI hR
    refine En_Ps 5 (pc' := 24) (lv' := [(0, .retAddr 0), (1, .ref 0), (2, .ref 159), (3, .int y)]) (st' := [.int ((Int32.ofNat L) - ((Int8.ofInt 6).toInt32)), .int y]) rfl ?_
    refine En_icGt _ rfl (law_L6 hL) rfl (fun h => law_end hσ) (fun h => ?_)
    refine En_Ps 2 (pc' := 29) (lv' := [(0, .retAddr 0), (1, .ref 0), (2, .ref 159), (3, .int y)]) (st' := [.int y, .retAddr 0]) rfl ?_
    refine En_sld rfl rfl (by omega) (by omega) (fun z hz => ?_)
    refine En_Ps 2 (pc' := 33) (lv' := [(0, .retAddr 0), (1, .ref 0), (2, .ref 159), (3, .int y)]) (st' := [.int (z &&& ((Int8.ofInt 63).toInt32))]) rfl ?_
    refine En_rng (l := 0) (u := 63) (andR_rng (by decide : ((Int8.ofInt 63).toInt32).toInt = 63) (by decide)) (fun w w0 w1 => ?_)
    have nx : ∀ σ', WT σ' → INVc σ' → WI σ' → LEA σ' → En 2048 84000 (some (L, xs)) mr_336 LPO 2236 [(0, .retAddr 0), (1, .ref 0), (2, .ref 159), (3, .int y)] [] σ' := by
      intro σ' a b c d
      refine En_Ps 1 (pc' := 2239) (lv' := [(3, .int (y + Int32.ofInt 6)), (0, .retAddr 0), (1, .ref 0), (2, .ref 159)]) (st' := []) rfl ?_
      refine En_lv1 (addI rfl (by decide : (Int32.ofInt 6).toInt = 6) (by omega) (by omega)) (fun y2 hy => ?_)
      refine En_Ps 1 (pc' := 18) (lv' := [(3, .int y2), (0, .retAddr 0), (1, .ref 0), (2, .ref 159)]) (st' := []) rfl ?_
      refine En_lv (lv := [(0, .retAddr 0), (1, .ref 0), (2, .ref 159), (3, .int y2)]) ⟨rfl, rfl, rfl, rfl, trivial⟩ ?_
      exact ih y2 σ' (by omega) (by omega) (by omega) a b c d
    rcases (show w.toInt = 0 ∨ w.toInt = 1 ∨ w.toInt = 2 ∨ w.toInt = 3 ∨ w.toInt = 4 ∨ w.toInt = 5 ∨ w.toInt = 6 ∨ w.toInt = 7 ∨ w.toInt = 8 ∨ w.toInt = 9 ∨ w.toInt = 10 ∨ w.toInt = 11 ∨ w.toInt = 12 ∨ w.toInt = 13 ∨ w.toInt = 14 ∨ w.toInt = 15 ∨ w.toInt = 16 ∨ w.toInt = 17 ∨ w.toInt = 18 ∨ w.toInt = 19 ∨ w.toInt = 20 ∨ w.toInt = 21 ∨ w.toInt = 22 ∨ w.toInt = 23 ∨ w.toInt = 24 ∨ w.toInt = 25 ∨ w.toInt = 26 ∨ w.toInt = 27 ∨ w.toInt = 28 ∨ w.toInt = 29 ∨ w.toInt = 30 ∨ w.toInt = 31 ∨ w.toInt = 32 ∨ w.toInt = 33 ∨ w.toInt = 34 ∨ w.toInt = 35 ∨ w.toInt = 36 ∨ w.toInt = 37 ∨ w.toInt = 38 ∨ w.toInt = 39 ∨ w.toInt = 40 ∨ w.toInt = 41 ∨ w.toInt = 42 ∨ w.toInt = 43 ∨ w.toInt = 44 ∨ w.toInt = 45 ∨ w.toInt = 46 ∨ w.toInt = 47 ∨ w.toInt = 48 ∨ w.toInt = 49 ∨ w.toInt = 50 ∨ w.toInt = 51 ∨ w.toInt = 52 ∨ w.toInt = 53 ∨ w.toInt = 54 ∨ w.toInt = 55 ∨ w.toInt = 56 ∨ w.toInt = 57 ∨ w.toInt = 58 ∨ w.toInt = 59 ∨ w.toInt = 60 ∨ w.toInt = 61 ∨ w.toInt = 62 ∨ w.toInt = 63 by omega) with h' | h' | h' | h' | h' | h' | h' | h' | h' | h' | h' | h' | h' | h' | h' | h' | h' | h' | h' | h' | h' | h' | h' | h' | h' | h' | h' | h' | h' | h' | h' | h' | h' | h' | h' | h' | h' | h' | h' | h' | h' | h' | h' | h' | h' | h' | h' | h' | h' | h' | h' | h' | h' | h' | h' | h' | h' | h' | h' | h' | h' | h' | h' | h'
    · exact En_swI (t := 304) (n := 0) rfl h' rfl (by decide +kernel) (law_c0 hL y h0 (by omega) σ hσ hC hI hR nx)
    · exact En_swI (t := 367) (n := 1) rfl h' rfl (by decide +kernel) (law_c1 hL y h0 (by omega) σ hσ hC hI hR nx)
    · exact En_swI (t := 390) (n := 2) rfl h' rfl (by decide +kernel) (law_c2 hL y h0 (by omega) σ hσ hC hI hR nx)
    · exact En_swI (t := 403) (n := 3) rfl h' rfl (by decide +kernel) (law_c3 hL y h0 (by omega) σ hσ hC hI hR nx)
    · exact En_swI (t := 426) (n := 4) rfl h' rfl (by decide +kernel) (law_c4 hL y h0 (by omega) σ hσ hC hI hR nx)
    · exact En_swI (t := 459) (n := 5) rfl h' rfl (by decide +kernel) (law_c5 hL y h0 (by omega) σ hσ hC hI hR nx)
    · exact En_swI (t := 502) (n := 6) rfl h' rfl (by decide +kernel) (law_c6 hL y h0 (by omega) σ hσ hC hI hR nx)
    · exact En_swI (t := 535) (n := 7) rfl h' rfl (by decide +kernel) (law_c7 hL y h0 (by omega) σ hσ hC hI hR nx)
    · exact En_swI (t := 568) (n := 8) rfl h' rfl (by decide +kernel) (law_c8 hL y h0 (by omega) σ hσ hC hI hR nx)
    · exact En_swI (t := 601) (n := 9) rfl h' rfl (by decide +kernel) (law_c9 hL y h0 (by omega) σ hσ hC hI hR nx)
    · exact En_swI (t := 624) (n := 10) rfl h' rfl (by decide +kernel) (law_c10 hL y h0 (by omega) σ hσ hC hI hR nx)
    · exact En_swI (t := 647) (n := 11) rfl h' rfl (by decide +kernel) (law_c11 hL y h0 (by omega) σ hσ hC hI hR nx)
    · exact En_swI (t := 680) (n := 12) rfl h' rfl (by decide +kernel) (law_c12 hL y h0 (by omega) σ hσ hC hI hR nx)
    · exact En_swI (t := 713) (n := 13) rfl h' rfl (by decide +kernel) (law_c13 hL y h0 (by omega) σ hσ hC hI hR nx)
    · exact En_swI (t := 736) (n := 14) rfl h' rfl (by decide +kernel) (law_c14 hL y h0 (by omega) σ hσ hC hI hR nx)
    · exact En_swI (t := 769) (n := 15) rfl h' rfl (by decide +kernel) (law_c15 hL y h0 (by omega) σ hσ hC hI hR nx)
    · exact En_swI (t := 802) (n := 16) rfl h' rfl (by decide +kernel) (law_c16 hL y h0 (by omega) σ hσ hC hI hR nx)
    · exact En_swI (t := 825) (n := 17) rfl h' rfl (by decide +kernel) (law_c17 hL y h0 (by omega) σ hσ hC hI hR nx)
    · exact En_swI (t := 848) (n := 18) rfl h' rfl (by decide +kernel) (law_c18 hL y h0 (by omega) σ hσ hC hI hR nx)
    · exact En_swI (t := 861) (n := 19) rfl h' rfl (by decide +kernel) (law_c19 hL y h0 (by omega) σ hσ hC hI hR nx)
    · exact En_swI (t := 874) (n := 20) rfl h' rfl (by decide +kernel) (law_c20 hL y h0 (by omega) σ hσ hC hI hR nx)
    · exact En_swI (t := 917) (n := 21) rfl h' rfl (by decide +kernel) (law_c21 hL y h0 (by omega) σ hσ hC hI hR nx)
    · exact En_swI (t := 930) (n := 22) rfl h' rfl (by decide +kernel) (law_c22 hL y h0 (by omega) σ hσ hC hI hR nx)
    · exact En_swI (t := 973) (n := 23) rfl h' rfl (by decide +kernel) (law_c23 hL y h0 (by omega) σ hσ hC hI hR nx)
    · exact En_swI (t := 996) (n := 24) rfl h' rfl (by decide +kernel) (law_c24 hL y h0 (by omega) σ hσ hC hI hR nx)
    · exact En_swI (t := 1019) (n := 25) rfl h' rfl (by decide +kernel) (law_c25 hL y h0 (by omega) σ hσ hC hI hR nx)
    · exact En_swI (t := 1052) (n := 26) rfl h' rfl (by decide +kernel) (law_c26 hL y h0 (by omega) σ hσ hC hI hR nx)
    · exact En_swI (t := 1085) (n := 27) rfl h' rfl (by decide +kernel) (law_c27 hL y h0 (by omega) σ hσ hC hI hR nx)
    · exact En_swI (t := 1128) (n := 28) rfl h' rfl (by decide +kernel) (law_c28 hL y h0 (by omega) σ hσ hC hI hR nx)
    · exact En_swI (t := 1151) (n := 29) rfl h' rfl (by decide +kernel) (law_c29 hL y h0 (by omega) σ hσ hC hI hR nx)
    · exact En_swI (t := 1184) (n := 30) rfl h' rfl (by decide +kernel) (law_c30 hL y h0 (by omega) σ hσ hC hI hR nx)
    · exact En_swI (t := 1217) (n := 31) rfl h' rfl (by decide +kernel) (law_c31 hL y h0 (by omega) σ hσ hC hI hR nx)
    · exact En_swI (t := 1250) (n := 32) rfl h' rfl (by decide +kernel) (law_c32 hL y h0 (by omega) σ hσ hC hI hR nx)
    · exact En_swI (t := 1273) (n := 33) rfl h' rfl (by decide +kernel) (law_c33 hL y h0 (by omega) σ hσ hC hI hR nx)
    · exact En_swI (t := 1296) (n := 34) rfl h' rfl (by decide +kernel) (law_c34 hL y h0 (by omega) σ hσ hC hI hR nx)
    · exact En_swI (t := 1339) (n := 35) rfl h' rfl (by decide +kernel) (law_c35 hL y h0 (by omega) σ hσ hC hI hR nx)
    · exact En_swI (t := 1362) (n := 36) rfl h' rfl (by decide +kernel) (law_c36 hL y h0 (by omega) σ hσ hC hI hR nx)
    · exact En_swI (t := 1385) (n := 37) rfl h' rfl (by decide +kernel) (law_c37 hL y h0 (by omega) σ hσ hC hI hR nx)
    · exact En_swI (t := 1418) (n := 38) rfl h' rfl (by decide +kernel) (law_c38 hL y h0 (by omega) σ hσ hC hI hR nx)
    · exact En_swI (t := 1451) (n := 39) rfl h' rfl (by decide +kernel) (law_c39 hL y h0 (by omega) σ hσ hC hI hR nx)
    · exact En_swI (t := 1484) (n := 40) rfl h' rfl (by decide +kernel) (law_c40 hL y h0 (by omega) σ hσ hC hI hR nx)
    · exact En_swI (t := 1517) (n := 41) rfl h' rfl (by decide +kernel) (law_c41 hL y h0 (by omega) σ hσ hC hI hR nx)
    · exact En_swI (t := 1540) (n := 42) rfl h' rfl (by decide +kernel) (law_c42 hL y h0 (by omega) σ hσ hC hI hR nx)
    · exact En_swI (t := 1563) (n := 43) rfl h' rfl (by decide +kernel) (law_c43 hL y h0 (by omega) σ hσ hC hI hR nx)
    · exact En_swI (t := 1596) (n := 44) rfl h' rfl (by decide +kernel) (law_c44 hL y h0 (by omega) σ hσ hC hI hR nx)
    · exact En_swI (t := 1609) (n := 45) rfl h' rfl (by decide +kernel) (law_c45 hL y h0 (by omega) σ hσ hC hI hR nx)
    · exact En_swI (t := 1632) (n := 46) rfl h' rfl (by decide +kernel) (law_c46 hL y h0 (by omega) σ hσ hC hI hR nx)
    · exact En_swI (t := 1665) (n := 47) rfl h' rfl (by decide +kernel) (law_c47 hL y h0 (by omega) σ hσ hC hI hR nx)
    · exact En_swI (t := 1688) (n := 48) rfl h' rfl (by decide +kernel) (law_c48 hL y h0 (by omega) σ hσ hC hI hR nx)
    · exact En_swI (t := 1721) (n := 49) rfl h' rfl (by decide +kernel) (law_c49 hL y h0 (by omega) σ hσ hC hI hR nx)
    · exact En_swI (t := 1744) (n := 50) rfl h' rfl (by decide +kernel) (law_c50 hL y h0 (by omega) σ hσ hC hI hR nx)
    · exact En_swI (t := 1767) (n := 51) rfl h' rfl (by decide +kernel) (law_c51 hL y h0 (by omega) σ hσ hC hI hR nx)
    · exact En_swI (t := 1780) (n := 52) rfl h' rfl (by decide +kernel) (law_c52 hL y h0 (by omega) σ hσ hC hI hR nx)
    · exact En_swI (t := 1803) (n := 53) rfl h' rfl (by decide +kernel) (law_c53 hL y h0 (by omega) σ hσ hC hI hR nx)
    · exact En_swI (t := 1816) (n := 54) rfl h' rfl (by decide +kernel) (law_c54 hL y h0 (by omega) σ hσ hC hI hR nx)
    · exact En_swI (t := 1859) (n := 55) rfl h' rfl (by decide +kernel) (law_c55 hL y h0 (by omega) σ hσ hC hI hR nx)
    · exact En_swI (t := 1892) (n := 56) rfl h' rfl (by decide +kernel) (law_c56 hL y h0 (by omega) σ hσ hC hI hR nx)
    · exact En_swI (t := 1935) (n := 57) rfl h' rfl (by decide +kernel) (law_c57 hL y h0 (by omega) σ hσ hC hI hR nx)
    · exact En_swI (t := 1988) (n := 58) rfl h' rfl (by decide +kernel) (law_c58 hL y h0 (by omega) σ hσ hC hI hR nx)
    · exact En_swI (t := 2011) (n := 59) rfl h' rfl (by decide +kernel) (law_c59 hL y h0 (by omega) σ hσ hC hI hR nx)
    · exact En_swI (t := 2034) (n := 60) rfl h' rfl (by decide +kernel) (law_c60 hL y h0 (by omega) σ hσ hC hI hR nx)
    · exact En_swI (t := 2057) (n := 61) rfl h' rfl (by decide +kernel) (law_c61 hL y h0 (by omega) σ hσ hC hI hR nx)
    · exact En_swI (t := 2100) (n := 62) rfl h' rfl (by decide +kernel) (law_c62 hL y h0 (by omega) σ hσ hC hI hR nx)
    · exact En_swI (t := 2173) (n := 63) rfl h' rfl (by decide +kernel) (law_c63 hL y h0 (by omega) σ hσ hC hI hR nx)

