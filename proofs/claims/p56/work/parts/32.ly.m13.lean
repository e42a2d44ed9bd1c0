/-- DoorSchoolModel.lesson(III)I -/
abbrev P_280 (σ0 : SG) (a : Int32) (b : Int32) (c : Int32) : PO := fun v σ => WT σ ∧ Fr [] σ0 σ ∧ ∃ ret : Int32, v = some (.int ret) ∧ -ret.toInt - 2 ≤ 0 ∧ ret.toInt - 15 ≤ 0
set_option maxRecDepth 10000 in
set_option maxHeartbeats 4000000 in
theorem c_280 (σ0 : SG) (hσ0 : WT σ0) (a : Int32) (b : Int32) (c : Int32) : En 2 46 none mr_280 (P_280 σ0 a b c) 0 [(0, .ref 159), (1, .int a), (2, .int b), (3, .int c)] [] σ0 := by
  have hF0 : Fr [] σ0 σ0 := Fr_rfl
  refine En_Ps 2 (pc' := 2) (lv' := [(0, .ref 159), (1, .int a), (2, .int b), (3, .int c)]) (st' := [.int a, .ref 159]) rfl ?_
  obtain ⟨z2, h1, h3, h4⟩ := WT_peekI hσ0 tgz_160 (by decide +kernel : FT 36 (2 : Int).toNat = (0, 0, 4)) (by decide +kernel)
  refine En_callV rfl rfl rfl rfl rfl rfl rfl rfl tgz_159 (by decide +kernel) rfl (c_254 σ0 hσ0 a z2 h1) (by decide) (by decide) (fun v6 σ7 h5 => ?_)
  obtain ⟨h8, h9, z11, rfl, h10⟩ := h5
  have h12 := Fr_trans hF0 h9 (by decide +kernel)
  refine En_iEq _ rfl rfl (fun h13 => ?_) (fun h13 => ?_)
  · refine En_Ps 1 (pc' := 20) (lv' := [(0, .ref 159), (1, .int a), (2, .int b), (3, .int c)]) (st' := [.int (((Int8.ofInt (-2)).toInt32))]) rfl ?_
    refine En_top (by decide : ((Int8.ofInt (-2)).toInt32).toInt = -2) (fun z14 h15 => ?_)
    exact En_ret (v := some (.int z14)) rfl rfl rfl ⟨h8, h12, z14, rfl, ⟨by first | exact q_f35c5d346c h15 | omega, by first | exact q_12a74e12a3 h15 | omega⟩⟩
  · refine En_Ps 4 (pc' := 12) (lv' := [(0, .ref 159), (1, .int a), (2, .int b), (3, .int c)]) (st' := [.long ((Int64.ofNat 1)), .long ((Int64.ofNat 0)), .long c.toInt64]) rfl ?_
    have : c.toInt64.toInt = c.toInt := (i2lI rfl)
    have := (by decide : ((Int64.ofNat 0)).toInt = 0)
    have := (by decide : ((Int64.ofNat 1)).toInt = 1)
    refine En_callS rfl rfl rfl rfl rfl rfl rfl rfl rfl (c_249 σ7 h8 c.toInt64 ((Int64.ofNat 0)) ((Int64.ofNat 1))) (by decide) (by decide) (fun v17 σ18 h16 => ?_)
    obtain ⟨h19, h20, z22, rfl, h21⟩ := h16
    have h23 := Fr_trans h12 h20 (by decide +kernel)
    refine En_iNe _ rfl rfl (fun h24 => ?_) (fun h24 => ?_)
    · refine En_Ps 6 (pc' := 27) (lv' := [(0, .ref 159), (1, .int a), (2, .int b), (3, .int c)]) (st' := [.int ((Int32.ofInt 2)), .int a, .ref 159, .long ((Int64.ofNat 0)), .long b.toInt64]) rfl ?_
      have := (by decide : ((Int32.ofInt 2)).toInt = 2)
      obtain ⟨z25, h26, h27, h28⟩ := WT_peekJ (J := (4 * a.toInt + ((Int32.ofInt 2)).toInt + 10)) (l := 0) (u := 12) h19 tgz_160 (by decide +kernel) (by omega) (lnI (by decide +kernel : LN _ = 226) (by omega)) (FTrow 36 12 4 4 (by decide +kernel) (by omega) (by omega) (by omega))
      have := (by decide : ((Int32.ofInt 2)).toInt = 2)
      refine En_callV rfl rfl rfl rfl rfl rfl rfl rfl tgz_159 (by decide +kernel) rfl (c_290c σ18 h19 a ((Int32.ofInt 2)) (geI rfl (by omega)) (leI rfl (by omega)) (geI (by decide : (Int32.ofInt 2).toInt = 2) (by decide)) (leI (by decide : (Int32.ofInt 2).toInt = 2) (by decide)) z25 h26) (by decide) (by decide) (fun v30 σ31 h29 => ?_)
      obtain ⟨h32, h33, z35, rfl, h34⟩ := h29
      have h36 := Fr_trans h23 h33 (by decide +kernel)
      refine En_Ps 2 (pc' := 32) (lv' := [(0, .ref 159), (1, .int a), (2, .int b), (3, .int c)]) (st' := [.int ((z35 - ((Int32.ofInt 1)))), .long ((Int64.ofNat 0)), .long b.toInt64]) rfl ?_
      refine En_top (subI rfl (by decide : (Int32.ofInt 1).toInt = 1) (by first | exact q_89a3f9d69a h34.1 | omega) (by first | exact q_489450915e h34.2.1 | omega)) (fun z37 h38 => ?_)
      refine En_Ps 1 (pc' := 33) (lv' := [(0, .ref 159), (1, .int a), (2, .int b), (3, .int c)]) (st' := [.long z37.toInt64, .long ((Int64.ofNat 0)), .long b.toInt64]) rfl ?_
      have : b.toInt64.toInt = b.toInt := (i2lI rfl)
      have := (by decide : ((Int64.ofNat 0)).toInt = 0)
      have : z37.toInt64.toInt = z37.toInt := (i2lI rfl)
      refine En_callS rfl rfl rfl rfl rfl rfl rfl rfl rfl (c_249 σ31 h32 b.toInt64 ((Int64.ofNat 0)) z37.toInt64) (by decide) (by decide) (fun v40 σ41 h39 => ?_)
      obtain ⟨h42, h43, z45, rfl, h44⟩ := h39
      have h46 := Fr_trans h36 h43 (by decide +kernel)
      refine En_iEq _ rfl rfl (fun h47 => ?_) (fun h47 => ?_)
      · refine En_Ps 1 (pc' := 55) (lv' := [(0, .ref 159), (1, .int a), (2, .int b), (3, .int c)]) (st' := [.int ((Int32.ofInt (-1)))]) rfl ?_
        refine En_top (by decide : (Int32.ofInt (-1)).toInt = -1) (fun z48 h49 => ?_)
        exact En_ret (v := some (.int z48)) rfl rfl rfl ⟨h42, h46, z48, rfl, ⟨by first | exact q_e1de8c7867 h49 | omega, by first | exact q_af62099904 h49 | omega⟩⟩
      · refine En_Ps 1 (pc' := 40) (lv' := [(0, .ref 159), (1, .int a), (2, .int b), (3, .int c)]) (st' := [.ref 159]) rfl ?_
        refine En_getU (j := 1) (u := 160) (g' := 36) (q := 0) rfl rfl rfl tgz_159 (by decide +kernel) h42 (by decide +kernel) (by decide +kernel) (fun h50 => ?_)
        refine En_Ps 2 (pc' := 45) (lv' := [(0, .ref 159), (1, .int a), (2, .int b), (3, .int c)]) (st' := [.int b, .int a, .ref 160]) rfl ?_
        refine En_callS rfl rfl rfl rfl rfl rfl rfl rfl rfl (c_281 σ41 h42 a b (geI rfl (by omega)) (leI rfl (by omega)) (geI rfl (by omega)) (leI rfl (by omega))) (by decide) (by decide) (fun v53 σ54 h52 => ?_)
        obtain ⟨h55, h56, z58, rfl, h57⟩ := h52
        have h59 := Fr_trans h46 h56 (by decide +kernel)
        refine En_Ps 2 (pc' := 50) (lv' := [(0, .ref 159), (1, .int a), (2, .int b), (3, .int c)]) (st' := [.int ((z58 + c)), .ref 160]) rfl ?_
        refine En_top (addI rfl rfl (by omega) (by omega)) (fun z60 h61 => ?_)
        rcases (show z60.toInt = 26 ∨ z60.toInt = 27 ∨ z60.toInt = 28 ∨ z60.toInt = 29 ∨ z60.toInt = 30 ∨ z60.toInt = 31 ∨ z60.toInt = 32 ∨ z60.toInt = 33 ∨ z60.toInt = 34 ∨ z60.toInt = 35 ∨ z60.toInt = 36 ∨ z60.toInt = 37 ∨ z60.toInt = 38 ∨ z60.toInt = 39 ∨ z60.toInt = 40 ∨ z60.toInt = 41 ∨ z60.toInt = 42 ∨ z60.toInt = 43 ∨ z60.toInt = 44 ∨ z60.toInt = 45 ∨ z60.toInt = 46 ∨ z60.toInt = 47 ∨ z60.toInt = 48 ∨ z60.toInt = 49 ∨ z60.toInt = 50 ∨ z60.toInt = 51 ∨ z60.toInt = 52 ∨ z60.toInt = 53 ∨ z60.toInt = 54 ∨ z60.toInt = 55 ∨ z60.toInt = 56 ∨ z60.toInt = 57 ∨ z60.toInt = 58 ∨ z60.toInt = 59 ∨ z60.toInt = 60 ∨ z60.toInt = 61 ∨ z60.toInt = 62 ∨ z60.toInt = 63 ∨ z60.toInt = 64 ∨ z60.toInt = 65 ∨ z60.toInt = 66 ∨ z60.toInt = 67 ∨ z60.toInt = 68 ∨ z60.toInt = 69 ∨ z60.toInt = 70 ∨ z60.toInt = 71 ∨ z60.toInt = 72 ∨ z60.toInt = 73 ∨ z60.toInt = 74 ∨ z60.toInt = 75 ∨ z60.toInt = 76 ∨ z60.toInt = 77 ∨ z60.toInt = 78 ∨ z60.toInt = 79 ∨ z60.toInt = 80 ∨ z60.toInt = 81 ∨ z60.toInt = 82 ∨ z60.toInt = 83 ∨ z60.toInt = 84 ∨ z60.toInt = 85 ∨ z60.toInt = 86 ∨ z60.toInt = 87 ∨ z60.toInt = 88 ∨ z60.toInt = 89 ∨ z60.toInt = 90 ∨ z60.toInt = 91 ∨ z60.toInt = 92 ∨ z60.toInt = 93 ∨ z60.toInt = 94 ∨ z60.toInt = 95 ∨ z60.toInt = 96 ∨ z60.toInt = 97 ∨ z60.toInt = 98 ∨ z60.toInt = 99 ∨ z60.toInt = 100 ∨ z60.toInt = 101 ∨ z60.toInt = 102 ∨ z60.toInt = 103 ∨ z60.toInt = 104 ∨ z60.toInt = 105 ∨ z60.toInt = 106 ∨ z60.toInt = 107 ∨ z60.toInt = 108 ∨ z60.toInt = 109 ∨ z60.toInt = 110 ∨ z60.toInt = 111 ∨ z60.toInt = 112 ∨ z60.toInt = 113 ∨ z60.toInt = 114 ∨ z60.toInt = 115 ∨ z60.toInt = 116 ∨ z60.toInt = 117 ∨ z60.toInt = 118 ∨ z60.toInt = 119 ∨ z60.toInt = 120 ∨ z60.toInt = 121 by omega) with h62 | h62 | h62 | h62 | h62 | h62 | h62 | h62 | h62 | h62 | h62 | h62 | h62 | h62 | h62 | h62 | h62 | h62 | h62 | h62 | h62 | h62 | h62 | h62 | h62 | h62 | h62 | h62 | h62 | h62 | h62 | h62 | h62 | h62 | h62 | h62 | h62 | h62 | h62 | h62 | h62 | h62 | h62 | h62 | h62 | h62 | h62 | h62 | h62 | h62 | h62 | h62 | h62 | h62 | h62 | h62 | h62 | h62 | h62 | h62 | h62 | h62 | h62 | h62 | h62 | h62 | h62 | h62 | h62 | h62 | h62 | h62 | h62 | h62 | h62 | h62 | h62 | h62 | h62 | h62 | h62 | h62 | h62 | h62 | h62 | h62 | h62 | h62 | h62 | h62 | h62 | h62 | h62 | h62 | h62 | h62
        · refine En_iald (l := 0) (u := 15) rfl h62 tgz_160 (by decide +kernel) h55 (by decide) (lnI (by decide +kernel : LN _ = 226) (by decide)) (by decide +kernel) (fun z64 h63 h65 h66 => ?_)
          refine En_Ps 1 (pc' := 55) (lv' := [(0, .ref 159), (1, .int a), (2, .int b), (3, .int c)]) (st' := [.int z64]) rfl ?_
          exact En_ret (v := some (.int z64)) rfl rfl rfl ⟨h55, h59, z64, rfl, ⟨by first | exact q_ea7f0ffdb1 h65 | omega, by first | exact q_867a9ac627 h66 | omega⟩⟩
        · refine En_iald (l := 0) (u := 1) rfl h62 tgz_160 (by decide +kernel) h55 (by decide) (lnI (by decide +kernel : LN _ = 226) (by decide)) (by decide +kernel) (fun z68 h67 h69 h70 => ?_)
          refine En_Ps 1 (pc' := 55) (lv' := [(0, .ref 159), (1, .int a), (2, .int b), (3, .int c)]) (st' := [.int z68]) rfl ?_
          exact En_ret (v := some (.int z68)) rfl rfl rfl ⟨h55, h59, z68, rfl, ⟨by first | exact q_ea7f0ffdb1 h69 | omega, by first | exact q_31525ae3c9 h70 | omega⟩⟩
        · refine En_iald (l := 0) (u := 15) rfl h62 tgz_160 (by decide +kernel) h55 (by decide) (lnI (by decide +kernel : LN _ = 226) (by decide)) (by decide +kernel) (fun z72 h71 h73 h74 => ?_)
          refine En_Ps 1 (pc' := 55) (lv' := [(0, .ref 159), (1, .int a), (2, .int b), (3, .int c)]) (st' := [.int z72]) rfl ?_
          exact En_ret (v := some (.int z72)) rfl rfl rfl ⟨h55, h59, z72, rfl, ⟨by first | exact q_ea7f0ffdb1 h73 | omega, by first | exact q_867a9ac627 h74 | omega⟩⟩
        · refine En_iald (l := 0) (u := 1) rfl h62 tgz_160 (by decide +kernel) h55 (by decide) (lnI (by decide +kernel : LN _ = 226) (by decide)) (by decide +kernel) (fun z76 h75 h77 h78 => ?_)
          refine En_Ps 1 (pc' := 55) (lv' := [(0, .ref 159), (1, .int a), (2, .int b), (3, .int c)]) (st' := [.int z76]) rfl ?_
          exact En_ret (v := some (.int z76)) rfl rfl rfl ⟨h55, h59, z76, rfl, ⟨by first | exact q_ea7f0ffdb1 h77 | omega, by first | exact q_31525ae3c9 h78 | omega⟩⟩
        · refine En_iald (l := 0) (u := 15) rfl h62 tgz_160 (by decide +kernel) h55 (by decide) (lnI (by decide +kernel : LN _ = 226) (by decide)) (by decide +kernel) (fun z80 h79 h81 h82 => ?_)
          refine En_Ps 1 (pc' := 55) (lv' := [(0, .ref 159), (1, .int a), (2, .int b), (3, .int c)]) (st' := [.int z80]) rfl ?_
          exact En_ret (v := some (.int z80)) rfl rfl rfl ⟨h55, h59, z80, rfl, ⟨by first | exact q_ea7f0ffdb1 h81 | omega, by first | exact q_867a9ac627 h82 | omega⟩⟩
        · refine En_iald (l := 0) (u := 1) rfl h62 tgz_160 (by decide +kernel) h55 (by decide) (lnI (by decide +kernel : LN _ = 226) (by decide)) (by decide +kernel) (fun z84 h83 h85 h86 => ?_)
          refine En_Ps 1 (pc' := 55) (lv' := [(0, .ref 159), (1, .int a), (2, .int b), (3, .int c)]) (st' := [.int z84]) rfl ?_
          exact En_ret (v := some (.int z84)) rfl rfl rfl ⟨h55, h59, z84, rfl, ⟨by first | exact q_ea7f0ffdb1 h85 | omega, by first | exact q_31525ae3c9 h86 | omega⟩⟩
        · refine En_iald (l := 0) (u := 15) rfl h62 tgz_160 (by decide +kernel) h55 (by decide) (lnI (by decide +kernel : LN _ = 226) (by decide)) (by decide +kernel) (fun z88 h87 h89 h90 => ?_)
          refine En_Ps 1 (pc' := 55) (lv' := [(0, .ref 159), (1, .int a), (2, .int b), (3, .int c)]) (st' := [.int z88]) rfl ?_
          exact En_ret (v := some (.int z88)) rfl rfl rfl ⟨h55, h59, z88, rfl, ⟨by first | exact q_ea7f0ffdb1 h89 | omega, by first | exact q_867a9ac627 h90 | omega⟩⟩
        · refine En_iald (l := 0) (u := 1) rfl h62 tgz_160 (by decide +kernel) h55 (by decide) (lnI (by decide +kernel : LN _ = 226) (by decide)) (by decide +kernel) (fun z92 h91 h93 h94 => ?_)
          refine En_Ps 1 (pc' := 55) (lv' := [(0, .ref 159), (1, .int a), (2, .int b), (3, .int c)]) (st' := [.int z92]) rfl ?_
          exact En_ret (v := some (.int z92)) rfl rfl rfl ⟨h55, h59, z92, rfl, ⟨by first | exact q_ea7f0ffdb1 h93 | omega, by first | exact q_31525ae3c9 h94 | omega⟩⟩
        · refine En_iald (l := 0) (u := 15) rfl h62 tgz_160 (by decide +kernel) h55 (by decide) (lnI (by decide +kernel : LN _ = 226) (by decide)) (by decide +kernel) (fun z96 h95 h97 h98 => ?_)
          refine En_Ps 1 (pc' := 55) (lv' := [(0, .ref 159), (1, .int a), (2, .int b), (3, .int c)]) (st' := [.int z96]) rfl ?_
          exact En_ret (v := some (.int z96)) rfl rfl rfl ⟨h55, h59, z96, rfl, ⟨by first | exact q_ea7f0ffdb1 h97 | omega, by first | exact q_867a9ac627 h98 | omega⟩⟩
        · refine En_iald (l := 0) (u := 1) rfl h62 tgz_160 (by decide +kernel) h55 (by decide) (lnI (by decide +kernel : LN _ = 226) (by decide)) (by decide +kernel) (fun z100 h99 h101 h102 => ?_)
          refine En_Ps 1 (pc' := 55) (lv' := [(0, .ref 159), (1, .int a), (2, .int b), (3, .int c)]) (st' := [.int z100]) rfl ?_
          exact En_ret (v := some (.int z100)) rfl rfl rfl ⟨h55, h59, z100, rfl, ⟨by first | exact q_ea7f0ffdb1 h101 | omega, by first | exact q_31525ae3c9 h102 | omega⟩⟩
        · refine En_iald (l := 0) (u := 15) rfl h62 tgz_160 (by decide +kernel) h55 (by decide) (lnI (by decide +kernel : LN _ = 226) (by decide)) (by decide +kernel) (fun z104 h103 h105 h106 => ?_)
          refine En_Ps 1 (pc' := 55) (lv' := [(0, .ref 159), (1, .int a), (2, .int b), (3, .int c)]) (st' := [.int z104]) rfl ?_
          exact En_ret (v := some (.int z104)) rfl rfl rfl ⟨h55, h59, z104, rfl, ⟨by first | exact q_ea7f0ffdb1 h105 | omega, by first | exact q_867a9ac627 h106 | omega⟩⟩
        · refine En_iald (l := 0) (u := 1) rfl h62 tgz_160 (by decide +kernel) h55 (by decide) (lnI (by decide +kernel : LN _ = 226) (by decide)) (by decide +kernel) (fun z108 h107 h109 h110 => ?_)
          refine En_Ps 1 (pc' := 55) (lv' := [(0, .ref 159), (1, .int a), (2, .int b), (3, .int c)]) (st' := [.int z108]) rfl ?_
          exact En_ret (v := some (.int z108)) rfl rfl rfl ⟨h55, h59, z108, rfl, ⟨by first | exact q_ea7f0ffdb1 h109 | omega, by first | exact q_31525ae3c9 h110 | omega⟩⟩
        · refine En_iald (l := 0) (u := 15) rfl h62 tgz_160 (by decide +kernel) h55 (by decide) (lnI (by decide +kernel : LN _ = 226) (by decide)) (by decide +kernel) (fun z112 h111 h113 h114 => ?_)
          refine En_Ps 1 (pc' := 55) (lv' := [(0, .ref 159), (1, .int a), (2, .int b), (3, .int c)]) (st' := [.int z112]) rfl ?_
          exact En_ret (v := some (.int z112)) rfl rfl rfl ⟨h55, h59, z112, rfl, ⟨by first | exact q_ea7f0ffdb1 h113 | omega, by first | exact q_867a9ac627 h114 | omega⟩⟩
        · refine En_iald (l := 0) (u := 1) rfl h62 tgz_160 (by decide +kernel) h55 (by decide) (lnI (by decide +kernel : LN _ = 226) (by decide)) (by decide +kernel) (fun z116 h115 h117 h118 => ?_)
          refine En_Ps 1 (pc' := 55) (lv' := [(0, .ref 159), (1, .int a), (2, .int b), (3, .int c)]) (st' := [.int z116]) rfl ?_
          exact En_ret (v := some (.int z116)) rfl rfl rfl ⟨h55, h59, z116, rfl, ⟨by first | exact q_ea7f0ffdb1 h117 | omega, by first | exact q_31525ae3c9 h118 | omega⟩⟩
        · refine En_iald (l := 0) (u := 15) rfl h62 tgz_160 (by decide +kernel) h55 (by decide) (lnI (by decide +kernel : LN _ = 226) (by decide)) (by decide +kernel) (fun z120 h119 h121 h122 => ?_)
          refine En_Ps 1 (pc' := 55) (lv' := [(0, .ref 159), (1, .int a), (2, .int b), (3, .int c)]) (st' := [.int z120]) rfl ?_
          exact En_ret (v := some (.int z120)) rfl rfl rfl ⟨h55, h59, z120, rfl, ⟨by first | exact q_ea7f0ffdb1 h121 | omega, by first | exact q_867a9ac627 h122 | omega⟩⟩
        · refine En_iald (l := 0) (u := 1) rfl h62 tgz_160 (by decide +kernel) h55 (by decide) (lnI (by decide +kernel : LN _ = 226) (by decide)) (by decide +kernel) (fun z124 h123 h125 h126 => ?_)
          refine En_Ps 1 (pc' := 55) (lv' := [(0, .ref 159), (1, .int a), (2, .int b), (3, .int c)]) (st' := [.int z124]) rfl ?_
          exact En_ret (v := some (.int z124)) rfl rfl rfl ⟨h55, h59, z124, rfl, ⟨by first | exact q_ea7f0ffdb1 h125 | omega, by first | exact q_31525ae3c9 h126 | omega⟩⟩
        · refine En_iald (l := 0) (u := 15) rfl h62 tgz_160 (by decide +kernel) h55 (by decide) (lnI (by decide +kernel : LN _ = 226) (by decide)) (by decide +kernel) (fun z128 h127 h129 h130 => ?_)
          refine En_Ps 1 (pc' := 55) (lv' := [(0, .ref 159), (1, .int a), (2, .int b), (3, .int c)]) (st' := [.int z128]) rfl ?_
          exact En_ret (v := some (.int z128)) rfl rfl rfl ⟨h55, h59, z128, rfl, ⟨by first | exact q_ea7f0ffdb1 h129 | omega, by first | exact q_867a9ac627 h130 | omega⟩⟩
        · refine En_iald (l := 0) (u := 1) rfl h62 tgz_160 (by decide +kernel) h55 (by decide) (lnI (by decide +kernel : LN _ = 226) (by decide)) (by decide +kernel) (fun z132 h131 h133 h134 => ?_)
          refine En_Ps 1 (pc' := 55) (lv' := [(0, .ref 159), (1, .int a), (2, .int b), (3, .int c)]) (st' := [.int z132]) rfl ?_
          exact En_ret (v := some (.int z132)) rfl rfl rfl ⟨h55, h59, z132, rfl, ⟨by first | exact q_ea7f0ffdb1 h133 | omega, by first | exact q_31525ae3c9 h134 | omega⟩⟩
        · refine En_iald (l := 0) (u := 15) rfl h62 tgz_160 (by decide +kernel) h55 (by decide) (lnI (by decide +kernel : LN _ = 226) (by decide)) (by decide +kernel) (fun z136 h135 h137 h138 => ?_)
          refine En_Ps 1 (pc' := 55) (lv' := [(0, .ref 159), (1, .int a), (2, .int b), (3, .int c)]) (st' := [.int z136]) rfl ?_
          exact En_ret (v := some (.int z136)) rfl rfl rfl ⟨h55, h59, z136, rfl, ⟨by first | exact q_ea7f0ffdb1 h137 | omega, by first | exact q_867a9ac627 h138 | omega⟩⟩
        · refine En_iald (l := 0) (u := 1) rfl h62 tgz_160 (by decide +kernel) h55 (by decide) (lnI (by decide +kernel : LN _ = 226) (by decide)) (by decide +kernel) (fun z140 h139 h141 h142 => ?_)
          refine En_Ps 1 (pc' := 55) (lv' := [(0, .ref 159), (1, .int a), (2, .int b), (3, .int c)]) (st' := [.int z140]) rfl ?_
          exact En_ret (v := some (.int z140)) rfl rfl rfl ⟨h55, h59, z140, rfl, ⟨by first | exact q_ea7f0ffdb1 h141 | omega, by first | exact q_31525ae3c9 h142 | omega⟩⟩
        · refine En_iald (l := 0) (u := 15) rfl h62 tgz_160 (by decide +kernel) h55 (by decide) (lnI (by decide +kernel : LN _ = 226) (by decide)) (by decide +kernel) (fun z144 h143 h145 h146 => ?_)
          refine En_Ps 1 (pc' := 55) (lv' := [(0, .ref 159), (1, .int a), (2, .int b), (3, .int c)]) (st' := [.int z144]) rfl ?_
          exact En_ret (v := some (.int z144)) rfl rfl rfl ⟨h55, h59, z144, rfl, ⟨by first | exact q_ea7f0ffdb1 h145 | omega, by first | exact q_867a9ac627 h146 | omega⟩⟩
        · refine En_iald (l := 0) (u := 1) rfl h62 tgz_160 (by decide +kernel) h55 (by decide) (lnI (by decide +kernel : LN _ = 226) (by decide)) (by decide +kernel) (fun z148 h147 h149 h150 => ?_)
          refine En_Ps 1 (pc' := 55) (lv' := [(0, .ref 159), (1, .int a), (2, .int b), (3, .int c)]) (st' := [.int z148]) rfl ?_
          exact En_ret (v := some (.int z148)) rfl rfl rfl ⟨h55, h59, z148, rfl, ⟨by first | exact q_ea7f0ffdb1 h149 | omega, by first | exact q_31525ae3c9 h150 | omega⟩⟩
        · refine En_iald (l := 0) (u := 15) rfl h62 tgz_160 (by decide +kernel) h55 (by decide) (lnI (by decide +kernel : LN _ = 226) (by decide)) (by decide +kernel) (fun z152 h151 h153 h154 => ?_)
          refine En_Ps 1 (pc' := 55) (lv' := [(0, .ref 159), (1, .int a), (2, .int b), (3, .int c)]) (st' := [.int z152]) rfl ?_
          exact En_ret (v := some (.int z152)) rfl rfl rfl ⟨h55, h59, z152, rfl, ⟨by first | exact q_ea7f0ffdb1 h153 | omega, by first | exact q_867a9ac627 h154 | omega⟩⟩
        · refine En_iald (l := 0) (u := 1) rfl h62 tgz_160 (by decide +kernel) h55 (by decide) (lnI (by decide +kernel : LN _ = 226) (by decide)) (by decide +kernel) (fun z156 h155 h157 h158 => ?_)
          refine En_Ps 1 (pc' := 55) (lv' := [(0, .ref 159), (1, .int a), (2, .int b), (3, .int c)]) (st' := [.int z156]) rfl ?_
          exact En_ret (v := some (.int z156)) rfl rfl rfl ⟨h55, h59, z156, rfl, ⟨by first | exact q_ea7f0ffdb1 h157 | omega, by first | exact q_31525ae3c9 h158 | omega⟩⟩
        · refine En_iald (l := 0) (u := 15) rfl h62 tgz_160 (by decide +kernel) h55 (by decide) (lnI (by decide +kernel : LN _ = 226) (by decide)) (by decide +kernel) (fun z160 h159 h161 h162 => ?_)
          refine En_Ps 1 (pc' := 55) (lv' := [(0, .ref 159), (1, .int a), (2, .int b), (3, .int c)]) (st' := [.int z160]) rfl ?_
          exact En_ret (v := some (.int z160)) rfl rfl rfl ⟨h55, h59, z160, rfl, ⟨by first | exact q_ea7f0ffdb1 h161 | omega, by first | exact q_867a9ac627 h162 | omega⟩⟩
        · refine En_iald (l := 0) (u := 1) rfl h62 tgz_160 (by decide +kernel) h55 (by decide) (lnI (by decide +kernel : LN _ = 226) (by decide)) (by decide +kernel) (fun z164 h163 h165 h166 => ?_)
          refine En_Ps 1 (pc' := 55) (lv' := [(0, .ref 159), (1, .int a), (2, .int b), (3, .int c)]) (st' := [.int z164]) rfl ?_
          exact En_ret (v := some (.int z164)) rfl rfl rfl ⟨h55, h59, z164, rfl, ⟨by first | exact q_ea7f0ffdb1 h165 | omega, by first | exact q_31525ae3c9 h166 | omega⟩⟩
        · refine En_iald (l := 0) (u := 15) rfl h62 tgz_160 (by decide +kernel) h55 (by decide) (lnI (by decide +kernel : LN _ = 226) (by decide)) (by decide +kernel) (fun z168 h167 h169 h170 => ?_)
          refine En_Ps 1 (pc' := 55) (lv' := [(0, .ref 159), (1, .int a), (2, .int b), (3, .int c)]) (st' := [.int z168]) rfl ?_
          exact En_ret (v := some (.int z168)) rfl rfl rfl ⟨h55, h59, z168, rfl, ⟨by first | exact q_ea7f0ffdb1 h169 | omega, by first | exact q_867a9ac627 h170 | omega⟩⟩
        · refine En_iald (l := 0) (u := 1) rfl h62 tgz_160 (by decide +kernel) h55 (by decide) (lnI (by decide +kernel : LN _ = 226) (by decide)) (by decide +kernel) (fun z172 h171 h173 h174 => ?_)
          refine En_Ps 1 (pc' := 55) (lv' := [(0, .ref 159), (1, .int a), (2, .int b), (3, .int c)]) (st' := [.int z172]) rfl ?_
          exact En_ret (v := some (.int z172)) rfl rfl rfl ⟨h55, h59, z172, rfl, ⟨by first | exact q_ea7f0ffdb1 h173 | omega, by first | exact q_31525ae3c9 h174 | omega⟩⟩
        · refine En_iald (l := 0) (u := 15) rfl h62 tgz_160 (by decide +kernel) h55 (by decide) (lnI (by decide +kernel : LN _ = 226) (by decide)) (by decide +kernel) (fun z176 h175 h177 h178 => ?_)
          refine En_Ps 1 (pc' := 55) (lv' := [(0, .ref 159), (1, .int a), (2, .int b), (3, .int c)]) (st' := [.int z176]) rfl ?_
          exact En_ret (v := some (.int z176)) rfl rfl rfl ⟨h55, h59, z176, rfl, ⟨by first | exact q_ea7f0ffdb1 h177 | omega, by first | exact q_867a9ac627 h178 | omega⟩⟩
        · refine En_iald (l := 0) (u := 1) rfl h62 tgz_160 (by decide +kernel) h55 (by decide) (lnI (by decide +kernel : LN _ = 226) (by decide)) (by decide +kernel) (fun z180 h179 h181 h182 => ?_)
          refine En_Ps 1 (pc' := 55) (lv' := [(0, .ref 159), (1, .int a), (2, .int b), (3, .int c)]) (st' := [.int z180]) rfl ?_
          exact En_ret (v := some (.int z180)) rfl rfl rfl ⟨h55, h59, z180, rfl, ⟨by first | exact q_ea7f0ffdb1 h181 | omega, by first | exact q_31525ae3c9 h182 | omega⟩⟩
        · refine En_iald (l := 0) (u := 15) rfl h62 tgz_160 (by decide +kernel) h55 (by decide) (lnI (by decide +kernel : LN _ = 226) (by decide)) (by decide +kernel) (fun z184 h183 h185 h186 => ?_)
          refine En_Ps 1 (pc' := 55) (lv' := [(0, .ref 159), (1, .int a), (2, .int b), (3, .int c)]) (st' := [.int z184]) rfl ?_
          exact En_ret (v := some (.int z184)) rfl rfl rfl ⟨h55, h59, z184, rfl, ⟨by first | exact q_ea7f0ffdb1 h185 | omega, by first | exact q_867a9ac627 h186 | omega⟩⟩
        · refine En_iald (l := 0) (u := 1) rfl h62 tgz_160 (by decide +kernel) h55 (by decide) (lnI (by decide +kernel : LN _ = 226) (by decide)) (by decide +kernel) (fun z188 h187 h189 h190 => ?_)
          refine En_Ps 1 (pc' := 55) (lv' := [(0, .ref 159), (1, .int a), (2, .int b), (3, .int c)]) (st' := [.int z188]) rfl ?_
          exact En_ret (v := some (.int z188)) rfl rfl rfl ⟨h55, h59, z188, rfl, ⟨by first | exact q_ea7f0ffdb1 h189 | omega, by first | exact q_31525ae3c9 h190 | omega⟩⟩
        · refine En_iald (l := 0) (u := 15) rfl h62 tgz_160 (by decide +kernel) h55 (by decide) (lnI (by decide +kernel : LN _ = 226) (by decide)) (by decide +kernel) (fun z192 h191 h193 h194 => ?_)
          refine En_Ps 1 (pc' := 55) (lv' := [(0, .ref 159), (1, .int a), (2, .int b), (3, .int c)]) (st' := [.int z192]) rfl ?_
          exact En_ret (v := some (.int z192)) rfl rfl rfl ⟨h55, h59, z192, rfl, ⟨by first | exact q_ea7f0ffdb1 h193 | omega, by first | exact q_867a9ac627 h194 | omega⟩⟩
        · refine En_iald (l := 0) (u := 1) rfl h62 tgz_160 (by decide +kernel) h55 (by decide) (lnI (by decide +kernel : LN _ = 226) (by decide)) (by decide +kernel) (fun z196 h195 h197 h198 => ?_)
          refine En_Ps 1 (pc' := 55) (lv' := [(0, .ref 159), (1, .int a), (2, .int b), (3, .int c)]) (st' := [.int z196]) rfl ?_
          exact En_ret (v := some (.int z196)) rfl rfl rfl ⟨h55, h59, z196, rfl, ⟨by first | exact q_ea7f0ffdb1 h197 | omega, by first | exact q_31525ae3c9 h198 | omega⟩⟩
        · refine En_iald (l := 0) (u := 15) rfl h62 tgz_160 (by decide +kernel) h55 (by decide) (lnI (by decide +kernel : LN _ = 226) (by decide)) (by decide +kernel) (fun z200 h199 h201 h202 => ?_)
          refine En_Ps 1 (pc' := 55) (lv' := [(0, .ref 159), (1, .int a), (2, .int b), (3, .int c)]) (st' := [.int z200]) rfl ?_
          exact En_ret (v := some (.int z200)) rfl rfl rfl ⟨h55, h59, z200, rfl, ⟨by first | exact q_ea7f0ffdb1 h201 | omega, by first | exact q_867a9ac627 h202 | omega⟩⟩
        · refine En_iald (l := 0) (u := 1) rfl h62 tgz_160 (by decide +kernel) h55 (by decide) (lnI (by decide +kernel : LN _ = 226) (by decide)) (by decide +kernel) (fun z204 h203 h205 h206 => ?_)
          refine En_Ps 1 (pc' := 55) (lv' := [(0, .ref 159), (1, .int a), (2, .int b), (3, .int c)]) (st' := [.int z204]) rfl ?_
          exact En_ret (v := some (.int z204)) rfl rfl rfl ⟨h55, h59, z204, rfl, ⟨by first | exact q_ea7f0ffdb1 h205 | omega, by first | exact q_31525ae3c9 h206 | omega⟩⟩
        · refine En_iald (l := 0) (u := 15) rfl h62 tgz_160 (by decide +kernel) h55 (by decide) (lnI (by decide +kernel : LN _ = 226) (by decide)) (by decide +kernel) (fun z208 h207 h209 h210 => ?_)
          refine En_Ps 1 (pc' := 55) (lv' := [(0, .ref 159), (1, .int a), (2, .int b), (3, .int c)]) (st' := [.int z208]) rfl ?_
          exact En_ret (v := some (.int z208)) rfl rfl rfl ⟨h55, h59, z208, rfl, ⟨by first | exact q_ea7f0ffdb1 h209 | omega, by first | exact q_867a9ac627 h210 | omega⟩⟩
        · refine En_iald (l := 0) (u := 1) rfl h62 tgz_160 (by decide +kernel) h55 (by decide) (lnI (by decide +kernel : LN _ = 226) (by decide)) (by decide +kernel) (fun z212 h211 h213 h214 => ?_)
          refine En_Ps 1 (pc' := 55) (lv' := [(0, .ref 159), (1, .int a), (2, .int b), (3, .int c)]) (st' := [.int z212]) rfl ?_
          exact En_ret (v := some (.int z212)) rfl rfl rfl ⟨h55, h59, z212, rfl, ⟨by first | exact q_ea7f0ffdb1 h213 | omega, by first | exact q_31525ae3c9 h214 | omega⟩⟩
        · refine En_iald (l := 0) (u := 15) rfl h62 tgz_160 (by decide +kernel) h55 (by decide) (lnI (by decide +kernel : LN _ = 226) (by decide)) (by decide +kernel) (fun z216 h215 h217 h218 => ?_)
          refine En_Ps 1 (pc' := 55) (lv' := [(0, .ref 159), (1, .int a), (2, .int b), (3, .int c)]) (st' := [.int z216]) rfl ?_
          exact En_ret (v := some (.int z216)) rfl rfl rfl ⟨h55, h59, z216, rfl, ⟨by first | exact q_ea7f0ffdb1 h217 | omega, by first | exact q_867a9ac627 h218 | omega⟩⟩
        · refine En_iald (l := 0) (u := 1) rfl h62 tgz_160 (by decide +kernel) h55 (by decide) (lnI (by decide +kernel : LN _ = 226) (by decide)) (by decide +kernel) (fun z220 h219 h221 h222 => ?_)
          refine En_Ps 1 (pc' := 55) (lv' := [(0, .ref 159), (1, .int a), (2, .int b), (3, .int c)]) (st' := [.int z220]) rfl ?_
          exact En_ret (v := some (.int z220)) rfl rfl rfl ⟨h55, h59, z220, rfl, ⟨by first | exact q_ea7f0ffdb1 h221 | omega, by first | exact q_31525ae3c9 h222 | omega⟩⟩
        · refine En_iald (l := 0) (u := 15) rfl h62 tgz_160 (by decide +kernel) h55 (by decide) (lnI (by decide +kernel : LN _ = 226) (by decide)) (by decide +kernel) (fun z224 h223 h225 h226 => ?_)
          refine En_Ps 1 (pc' := 55) (lv' := [(0, .ref 159), (1, .int a), (2, .int b), (3, .int c)]) (st' := [.int z224]) rfl ?_
          exact En_ret (v := some (.int z224)) rfl rfl rfl ⟨h55, h59, z224, rfl, ⟨by first | exact q_ea7f0ffdb1 h225 | omega, by first | exact q_867a9ac627 h226 | omega⟩⟩
        · refine En_iald (l := 0) (u := 1) rfl h62 tgz_160 (by decide +kernel) h55 (by decide) (lnI (by decide +kernel : LN _ = 226) (by decide)) (by decide +kernel) (fun z228 h227 h229 h230 => ?_)
          refine En_Ps 1 (pc' := 55) (lv' := [(0, .ref 159), (1, .int a), (2, .int b), (3, .int c)]) (st' := [.int z228]) rfl ?_
          exact En_ret (v := some (.int z228)) rfl rfl rfl ⟨h55, h59, z228, rfl, ⟨by first | exact q_ea7f0ffdb1 h229 | omega, by first | exact q_31525ae3c9 h230 | omega⟩⟩
        · refine En_iald (l := 0) (u := 15) rfl h62 tgz_160 (by decide +kernel) h55 (by decide) (lnI (by decide +kernel : LN _ = 226) (by decide)) (by decide +kernel) (fun z232 h231 h233 h234 => ?_)
          refine En_Ps 1 (pc' := 55) (lv' := [(0, .ref 159), (1, .int a), (2, .int b), (3, .int c)]) (st' := [.int z232]) rfl ?_
          exact En_ret (v := some (.int z232)) rfl rfl rfl ⟨h55, h59, z232, rfl, ⟨by first | exact q_ea7f0ffdb1 h233 | omega, by first | exact q_867a9ac627 h234 | omega⟩⟩
        · refine En_iald (l := 0) (u := 1) rfl h62 tgz_160 (by decide +kernel) h55 (by decide) (lnI (by decide +kernel : LN _ = 226) (by decide)) (by decide +kernel) (fun z236 h235 h237 h238 => ?_)
          refine En_Ps 1 (pc' := 55) (lv' := [(0, .ref 159), (1, .int a), (2, .int b), (3, .int c)]) (st' := [.int z236]) rfl ?_
          exact En_ret (v := some (.int z236)) rfl rfl rfl ⟨h55, h59, z236, rfl, ⟨by first | exact q_ea7f0ffdb1 h237 | omega, by first | exact q_31525ae3c9 h238 | omega⟩⟩
        · refine En_iald (l := 0) (u := 15) rfl h62 tgz_160 (by decide +kernel) h55 (by decide) (lnI (by decide +kernel : LN _ = 226) (by decide)) (by decide +kernel) (fun z240 h239 h241 h242 => ?_)
          refine En_Ps 1 (pc' := 55) (lv' := [(0, .ref 159), (1, .int a), (2, .int b), (3, .int c)]) (st' := [.int z240]) rfl ?_
          exact En_ret (v := some (.int z240)) rfl rfl rfl ⟨h55, h59, z240, rfl, ⟨by first | exact q_ea7f0ffdb1 h241 | omega, by first | exact q_867a9ac627 h242 | omega⟩⟩
        · refine En_iald (l := 0) (u := 1) rfl h62 tgz_160 (by decide +kernel) h55 (by decide) (lnI (by decide +kernel : LN _ = 226) (by decide)) (by decide +kernel) (fun z244 h243 h245 h246 => ?_)
          refine En_Ps 1 (pc' := 55) (lv' := [(0, .ref 159), (1, .int a), (2, .int b), (3, .int c)]) (st' := [.int z244]) rfl ?_
          exact En_ret (v := some (.int z244)) rfl rfl rfl ⟨h55, h59, z244, rfl, ⟨by first | exact q_ea7f0ffdb1 h245 | omega, by first | exact q_31525ae3c9 h246 | omega⟩⟩
        · refine En_iald (l := 0) (u := 15) rfl h62 tgz_160 (by decide +kernel) h55 (by decide) (lnI (by decide +kernel : LN _ = 226) (by decide)) (by decide +kernel) (fun z248 h247 h249 h250 => ?_)
          refine En_Ps 1 (pc' := 55) (lv' := [(0, .ref 159), (1, .int a), (2, .int b), (3, .int c)]) (st' := [.int z248]) rfl ?_
          exact En_ret (v := some (.int z248)) rfl rfl rfl ⟨h55, h59, z248, rfl, ⟨by first | exact q_ea7f0ffdb1 h249 | omega, by first | exact q_867a9ac627 h250 | omega⟩⟩
        · refine En_iald (l := 0) (u := 1) rfl h62 tgz_160 (by decide +kernel) h55 (by decide) (lnI (by decide +kernel : LN _ = 226) (by decide)) (by decide +kernel) (fun z252 h251 h253 h254 => ?_)
          refine En_Ps 1 (pc' := 55) (lv' := [(0, .ref 159), (1, .int a), (2, .int b), (3, .int c)]) (st' := [.int z252]) rfl ?_
          exact En_ret (v := some (.int z252)) rfl rfl rfl ⟨h55, h59, z252, rfl, ⟨by first | exact q_ea7f0ffdb1 h253 | omega, by first | exact q_31525ae3c9 h254 | omega⟩⟩
        · refine En_iald (l := 0) (u := 15) rfl h62 tgz_160 (by decide +kernel) h55 (by decide) (lnI (by decide +kernel : LN _ = 226) (by decide)) (by decide +kernel) (fun z256 h255 h257 h258 => ?_)
          refine En_Ps 1 (pc' := 55) (lv' := [(0, .ref 159), (1, .int a), (2, .int b), (3, .int c)]) (st' := [.int z256]) rfl ?_
          exact En_ret (v := some (.int z256)) rfl rfl rfl ⟨h55, h59, z256, rfl, ⟨by first | exact q_ea7f0ffdb1 h257 | omega, by first | exact q_867a9ac627 h258 | omega⟩⟩
        · refine En_iald (l := 0) (u := 1) rfl h62 tgz_160 (by decide +kernel) h55 (by decide) (lnI (by decide +kernel : LN _ = 226) (by decide)) (by decide +kernel) (fun z260 h259 h261 h262 => ?_)
          refine En_Ps 1 (pc' := 55) (lv' := [(0, .ref 159), (1, .int a), (2, .int b), (3, .int c)]) (st' := [.int z260]) rfl ?_
          exact En_ret (v := some (.int z260)) rfl rfl rfl ⟨h55, h59, z260, rfl, ⟨by first | exact q_ea7f0ffdb1 h261 | omega, by first | exact q_31525ae3c9 h262 | omega⟩⟩
        · refine En_iald (l := 0) (u := 15) rfl h62 tgz_160 (by decide +kernel) h55 (by decide) (lnI (by decide +kernel : LN _ = 226) (by decide)) (by decide +kernel) (fun z264 h263 h265 h266 => ?_)
          refine En_Ps 1 (pc' := 55) (lv' := [(0, .ref 159), (1, .int a), (2, .int b), (3, .int c)]) (st' := [.int z264]) rfl ?_
          exact En_ret (v := some (.int z264)) rfl rfl rfl ⟨h55, h59, z264, rfl, ⟨by first | exact q_ea7f0ffdb1 h265 | omega, by first | exact q_867a9ac627 h266 | omega⟩⟩
        · refine En_iald (l := 0) (u := 1) rfl h62 tgz_160 (by decide +kernel) h55 (by decide) (lnI (by decide +kernel : LN _ = 226) (by decide)) (by decide +kernel) (fun z268 h267 h269 h270 => ?_)
          refine En_Ps 1 (pc' := 55) (lv' := [(0, .ref 159), (1, .int a), (2, .int b), (3, .int c)]) (st' := [.int z268]) rfl ?_
          exact En_ret (v := some (.int z268)) rfl rfl rfl ⟨h55, h59, z268, rfl, ⟨by first | exact q_ea7f0ffdb1 h269 | omega, by first | exact q_31525ae3c9 h270 | omega⟩⟩
        · refine En_iald (l := 0) (u := 15) rfl h62 tgz_160 (by decide +kernel) h55 (by decide) (lnI (by decide +kernel : LN _ = 226) (by decide)) (by decide +kernel) (fun z272 h271 h273 h274 => ?_)
          refine En_Ps 1 (pc' := 55) (lv' := [(0, .ref 159), (1, .int a), (2, .int b), (3, .int c)]) (st' := [.int z272]) rfl ?_
          exact En_ret (v := some (.int z272)) rfl rfl rfl ⟨h55, h59, z272, rfl, ⟨by first | exact q_ea7f0ffdb1 h273 | omega, by first | exact q_867a9ac627 h274 | omega⟩⟩
        · refine En_iald (l := 0) (u := 1) rfl h62 tgz_160 (by decide +kernel) h55 (by decide) (lnI (by decide +kernel : LN _ = 226) (by decide)) (by decide +kernel) (fun z276 h275 h277 h278 => ?_)
          refine En_Ps 1 (pc' := 55) (lv' := [(0, .ref 159), (1, .int a), (2, .int b), (3, .int c)]) (st' := [.int z276]) rfl ?_
          exact En_ret (v := some (.int z276)) rfl rfl rfl ⟨h55, h59, z276, rfl, ⟨by first | exact q_ea7f0ffdb1 h277 | omega, by first | exact q_31525ae3c9 h278 | omega⟩⟩
        · refine En_iald (l := 0) (u := 15) rfl h62 tgz_160 (by decide +kernel) h55 (by decide) (lnI (by decide +kernel : LN _ = 226) (by decide)) (by decide +kernel) (fun z280 h279 h281 h282 => ?_)
          refine En_Ps 1 (pc' := 55) (lv' := [(0, .ref 159), (1, .int a), (2, .int b), (3, .int c)]) (st' := [.int z280]) rfl ?_
          exact En_ret (v := some (.int z280)) rfl rfl rfl ⟨h55, h59, z280, rfl, ⟨by first | exact q_ea7f0ffdb1 h281 | omega, by first | exact q_867a9ac627 h282 | omega⟩⟩
        · refine En_iald (l := 0) (u := 1) rfl h62 tgz_160 (by decide +kernel) h55 (by decide) (lnI (by decide +kernel : LN _ = 226) (by decide)) (by decide +kernel) (fun z284 h283 h285 h286 => ?_)
          refine En_Ps 1 (pc' := 55) (lv' := [(0, .ref 159), (1, .int a), (2, .int b), (3, .int c)]) (st' := [.int z284]) rfl ?_
          exact En_ret (v := some (.int z284)) rfl rfl rfl ⟨h55, h59, z284, rfl, ⟨by first | exact q_ea7f0ffdb1 h285 | omega, by first | exact q_31525ae3c9 h286 | omega⟩⟩
        · refine En_iald (l := 0) (u := 15) rfl h62 tgz_160 (by decide +kernel) h55 (by decide) (lnI (by decide +kernel : LN _ = 226) (by decide)) (by decide +kernel) (fun z288 h287 h289 h290 => ?_)
          refine En_Ps 1 (pc' := 55) (lv' := [(0, .ref 159), (1, .int a), (2, .int b), (3, .int c)]) (st' := [.int z288]) rfl ?_
          exact En_ret (v := some (.int z288)) rfl rfl rfl ⟨h55, h59, z288, rfl, ⟨by first | exact q_ea7f0ffdb1 h289 | omega, by first | exact q_867a9ac627 h290 | omega⟩⟩
        · refine En_iald (l := 0) (u := 1) rfl h62 tgz_160 (by decide +kernel) h55 (by decide) (lnI (by decide +kernel : LN _ = 226) (by decide)) (by decide +kernel) (fun z292 h291 h293 h294 => ?_)
          refine En_Ps 1 (pc' := 55) (lv' := [(0, .ref 159), (1, .int a), (2, .int b), (3, .int c)]) (st' := [.int z292]) rfl ?_
          exact En_ret (v := some (.int z292)) rfl rfl rfl ⟨h55, h59, z292, rfl, ⟨by first | exact q_ea7f0ffdb1 h293 | omega, by first | exact q_31525ae3c9 h294 | omega⟩⟩
        · refine En_iald (l := 0) (u := 15) rfl h62 tgz_160 (by decide +kernel) h55 (by decide) (lnI (by decide +kernel : LN _ = 226) (by decide)) (by decide +kernel) (fun z296 h295 h297 h298 => ?_)
          refine En_Ps 1 (pc' := 55) (lv' := [(0, .ref 159), (1, .int a), (2, .int b), (3, .int c)]) (st' := [.int z296]) rfl ?_
          exact En_ret (v := some (.int z296)) rfl rfl rfl ⟨h55, h59, z296, rfl, ⟨by first | exact q_ea7f0ffdb1 h297 | omega, by first | exact q_867a9ac627 h298 | omega⟩⟩
        · refine En_iald (l := 0) (u := 1) rfl h62 tgz_160 (by decide +kernel) h55 (by decide) (lnI (by decide +kernel : LN _ = 226) (by decide)) (by decide +kernel) (fun z300 h299 h301 h302 => ?_)
          refine En_Ps 1 (pc' := 55) (lv' := [(0, .ref 159), (1, .int a), (2, .int b), (3, .int c)]) (st' := [.int z300]) rfl ?_
          exact En_ret (v := some (.int z300)) rfl rfl rfl ⟨h55, h59, z300, rfl, ⟨by first | exact q_ea7f0ffdb1 h301 | omega, by first | exact q_31525ae3c9 h302 | omega⟩⟩
        · refine En_iald (l := 0) (u := 15) rfl h62 tgz_160 (by decide +kernel) h55 (by decide) (lnI (by decide +kernel : LN _ = 226) (by decide)) (by decide +kernel) (fun z304 h303 h305 h306 => ?_)
          refine En_Ps 1 (pc' := 55) (lv' := [(0, .ref 159), (1, .int a), (2, .int b), (3, .int c)]) (st' := [.int z304]) rfl ?_
          exact En_ret (v := some (.int z304)) rfl rfl rfl ⟨h55, h59, z304, rfl, ⟨by first | exact q_ea7f0ffdb1 h305 | omega, by first | exact q_867a9ac627 h306 | omega⟩⟩
        · refine En_iald (l := 0) (u := 1) rfl h62 tgz_160 (by decide +kernel) h55 (by decide) (lnI (by decide +kernel : LN _ = 226) (by decide)) (by decide +kernel) (fun z308 h307 h309 h310 => ?_)
          refine En_Ps 1 (pc' := 55) (lv' := [(0, .ref 159), (1, .int a), (2, .int b), (3, .int c)]) (st' := [.int z308]) rfl ?_
          exact En_ret (v := some (.int z308)) rfl rfl rfl ⟨h55, h59, z308, rfl, ⟨by first | exact q_ea7f0ffdb1 h309 | omega, by first | exact q_31525ae3c9 h310 | omega⟩⟩
        · refine En_iald (l := 0) (u := 15) rfl h62 tgz_160 (by decide +kernel) h55 (by decide) (lnI (by decide +kernel : LN _ = 226) (by decide)) (by decide +kernel) (fun z312 h311 h313 h314 => ?_)
          refine En_Ps 1 (pc' := 55) (lv' := [(0, .ref 159), (1, .int a), (2, .int b), (3, .int c)]) (st' := [.int z312]) rfl ?_
          exact En_ret (v := some (.int z312)) rfl rfl rfl ⟨h55, h59, z312, rfl, ⟨by first | exact q_ea7f0ffdb1 h313 | omega, by first | exact q_867a9ac627 h314 | omega⟩⟩
        · refine En_iald (l := 0) (u := 1) rfl h62 tgz_160 (by decide +kernel) h55 (by decide) (lnI (by decide +kernel : LN _ = 226) (by decide)) (by decide +kernel) (fun z316 h315 h317 h318 => ?_)
          refine En_Ps 1 (pc' := 55) (lv' := [(0, .ref 159), (1, .int a), (2, .int b), (3, .int c)]) (st' := [.int z316]) rfl ?_
          exact En_ret (v := some (.int z316)) rfl rfl rfl ⟨h55, h59, z316, rfl, ⟨by first | exact q_ea7f0ffdb1 h317 | omega, by first | exact q_31525ae3c9 h318 | omega⟩⟩
        · refine En_iald (l := 0) (u := 15) rfl h62 tgz_160 (by decide +kernel) h55 (by decide) (lnI (by decide +kernel : LN _ = 226) (by decide)) (by decide +kernel) (fun z320 h319 h321 h322 => ?_)
          refine En_Ps 1 (pc' := 55) (lv' := [(0, .ref 159), (1, .int a), (2, .int b), (3, .int c)]) (st' := [.int z320]) rfl ?_
          exact En_ret (v := some (.int z320)) rfl rfl rfl ⟨h55, h59, z320, rfl, ⟨by first | exact q_ea7f0ffdb1 h321 | omega, by first | exact q_867a9ac627 h322 | omega⟩⟩
        · refine En_iald (l := 0) (u := 1) rfl h62 tgz_160 (by decide +kernel) h55 (by decide) (lnI (by decide +kernel : LN _ = 226) (by decide)) (by decide +kernel) (fun z324 h323 h325 h326 => ?_)
          refine En_Ps 1 (pc' := 55) (lv' := [(0, .ref 159), (1, .int a), (2, .int b), (3, .int c)]) (st' := [.int z324]) rfl ?_
          exact En_ret (v := some (.int z324)) rfl rfl rfl ⟨h55, h59, z324, rfl, ⟨by first | exact q_ea7f0ffdb1 h325 | omega, by first | exact q_31525ae3c9 h326 | omega⟩⟩
        · refine En_iald (l := 0) (u := 15) rfl h62 tgz_160 (by decide +kernel) h55 (by decide) (lnI (by decide +kernel : LN _ = 226) (by decide)) (by decide +kernel) (fun z328 h327 h329 h330 => ?_)
          refine En_Ps 1 (pc' := 55) (lv' := [(0, .ref 159), (1, .int a), (2, .int b), (3, .int c)]) (st' := [.int z328]) rfl ?_
          exact En_ret (v := some (.int z328)) rfl rfl rfl ⟨h55, h59, z328, rfl, ⟨by first | exact q_ea7f0ffdb1 h329 | omega, by first | exact q_867a9ac627 h330 | omega⟩⟩
        · refine En_iald (l := 0) (u := 1) rfl h62 tgz_160 (by decide +kernel) h55 (by decide) (lnI (by decide +kernel : LN _ = 226) (by decide)) (by decide +kernel) (fun z332 h331 h333 h334 => ?_)
          refine En_Ps 1 (pc' := 55) (lv' := [(0, .ref 159), (1, .int a), (2, .int b), (3, .int c)]) (st' := [.int z332]) rfl ?_
          exact En_ret (v := some (.int z332)) rfl rfl rfl ⟨h55, h59, z332, rfl, ⟨by first | exact q_ea7f0ffdb1 h333 | omega, by first | exact q_31525ae3c9 h334 | omega⟩⟩
        · refine En_iald (l := 0) (u := 15) rfl h62 tgz_160 (by decide +kernel) h55 (by decide) (lnI (by decide +kernel : LN _ = 226) (by decide)) (by decide +kernel) (fun z336 h335 h337 h338 => ?_)
          refine En_Ps 1 (pc' := 55) (lv' := [(0, .ref 159), (1, .int a), (2, .int b), (3, .int c)]) (st' := [.int z336]) rfl ?_
          exact En_ret (v := some (.int z336)) rfl rfl rfl ⟨h55, h59, z336, rfl, ⟨by first | exact q_ea7f0ffdb1 h337 | omega, by first | exact q_867a9ac627 h338 | omega⟩⟩
        · refine En_iald (l := 0) (u := 1) rfl h62 tgz_160 (by decide +kernel) h55 (by decide) (lnI (by decide +kernel : LN _ = 226) (by decide)) (by decide +kernel) (fun z340 h339 h341 h342 => ?_)
          refine En_Ps 1 (pc' := 55) (lv' := [(0, .ref 159), (1, .int a), (2, .int b), (3, .int c)]) (st' := [.int z340]) rfl ?_
          exact En_ret (v := some (.int z340)) rfl rfl rfl ⟨h55, h59, z340, rfl, ⟨by first | exact q_ea7f0ffdb1 h341 | omega, by first | exact q_31525ae3c9 h342 | omega⟩⟩
        · refine En_iald (l := 0) (u := 15) rfl h62 tgz_160 (by decide +kernel) h55 (by decide) (lnI (by decide +kernel : LN _ = 226) (by decide)) (by decide +kernel) (fun z344 h343 h345 h346 => ?_)
          refine En_Ps 1 (pc' := 55) (lv' := [(0, .ref 159), (1, .int a), (2, .int b), (3, .int c)]) (st' := [.int z344]) rfl ?_
          exact En_ret (v := some (.int z344)) rfl rfl rfl ⟨h55, h59, z344, rfl, ⟨by first | exact q_ea7f0ffdb1 h345 | omega, by first | exact q_867a9ac627 h346 | omega⟩⟩
        · refine En_iald (l := 0) (u := 1) rfl h62 tgz_160 (by decide +kernel) h55 (by decide) (lnI (by decide +kernel : LN _ = 226) (by decide)) (by decide +kernel) (fun z348 h347 h349 h350 => ?_)
          refine En_Ps 1 (pc' := 55) (lv' := [(0, .ref 159), (1, .int a), (2, .int b), (3, .int c)]) (st' := [.int z348]) rfl ?_
          exact En_ret (v := some (.int z348)) rfl rfl rfl ⟨h55, h59, z348, rfl, ⟨by first | exact q_ea7f0ffdb1 h349 | omega, by first | exact q_31525ae3c9 h350 | omega⟩⟩
        · refine En_iald (l := 0) (u := 15) rfl h62 tgz_160 (by decide +kernel) h55 (by decide) (lnI (by decide +kernel : LN _ = 226) (by decide)) (by decide +kernel) (fun z352 h351 h353 h354 => ?_)
          refine En_Ps 1 (pc' := 55) (lv' := [(0, .ref 159), (1, .int a), (2, .int b), (3, .int c)]) (st' := [.int z352]) rfl ?_
          exact En_ret (v := some (.int z352)) rfl rfl rfl ⟨h55, h59, z352, rfl, ⟨by first | exact q_ea7f0ffdb1 h353 | omega, by first | exact q_867a9ac627 h354 | omega⟩⟩
        · refine En_iald (l := 0) (u := 1) rfl h62 tgz_160 (by decide +kernel) h55 (by decide) (lnI (by decide +kernel : LN _ = 226) (by decide)) (by decide +kernel) (fun z356 h355 h357 h358 => ?_)
          refine En_Ps 1 (pc' := 55) (lv' := [(0, .ref 159), (1, .int a), (2, .int b), (3, .int c)]) (st' := [.int z356]) rfl ?_
          exact En_ret (v := some (.int z356)) rfl rfl rfl ⟨h55, h59, z356, rfl, ⟨by first | exact q_ea7f0ffdb1 h357 | omega, by first | exact q_31525ae3c9 h358 | omega⟩⟩
        · refine En_iald (l := 0) (u := 15) rfl h62 tgz_160 (by decide +kernel) h55 (by decide) (lnI (by decide +kernel : LN _ = 226) (by decide)) (by decide +kernel) (fun z360 h359 h361 h362 => ?_)
          refine En_Ps 1 (pc' := 55) (lv' := [(0, .ref 159), (1, .int a), (2, .int b), (3, .int c)]) (st' := [.int z360]) rfl ?_
          exact En_ret (v := some (.int z360)) rfl rfl rfl ⟨h55, h59, z360, rfl, ⟨by first | exact q_ea7f0ffdb1 h361 | omega, by first | exact q_867a9ac627 h362 | omega⟩⟩
        · refine En_iald (l := 0) (u := 1) rfl h62 tgz_160 (by decide +kernel) h55 (by decide) (lnI (by decide +kernel : LN _ = 226) (by decide)) (by decide +kernel) (fun z364 h363 h365 h366 => ?_)
          refine En_Ps 1 (pc' := 55) (lv' := [(0, .ref 159), (1, .int a), (2, .int b), (3, .int c)]) (st' := [.int z364]) rfl ?_
          exact En_ret (v := some (.int z364)) rfl rfl rfl ⟨h55, h59, z364, rfl, ⟨by first | exact q_ea7f0ffdb1 h365 | omega, by first | exact q_31525ae3c9 h366 | omega⟩⟩
        · refine En_iald (l := 0) (u := 15) rfl h62 tgz_160 (by decide +kernel) h55 (by decide) (lnI (by decide +kernel : LN _ = 226) (by decide)) (by decide +kernel) (fun z368 h367 h369 h370 => ?_)
          refine En_Ps 1 (pc' := 55) (lv' := [(0, .ref 159), (1, .int a), (2, .int b), (3, .int c)]) (st' := [.int z368]) rfl ?_
          exact En_ret (v := some (.int z368)) rfl rfl rfl ⟨h55, h59, z368, rfl, ⟨by first | exact q_ea7f0ffdb1 h369 | omega, by first | exact q_867a9ac627 h370 | omega⟩⟩
        · refine En_iald (l := 0) (u := 1) rfl h62 tgz_160 (by decide +kernel) h55 (by decide) (lnI (by decide +kernel : LN _ = 226) (by decide)) (by decide +kernel) (fun z372 h371 h373 h374 => ?_)
          refine En_Ps 1 (pc' := 55) (lv' := [(0, .ref 159), (1, .int a), (2, .int b), (3, .int c)]) (st' := [.int z372]) rfl ?_
          exact En_ret (v := some (.int z372)) rfl rfl rfl ⟨h55, h59, z372, rfl, ⟨by first | exact q_ea7f0ffdb1 h373 | omega, by first | exact q_31525ae3c9 h374 | omega⟩⟩
        · refine En_iald (l := 0) (u := 15) rfl h62 tgz_160 (by decide +kernel) h55 (by decide) (lnI (by decide +kernel : LN _ = 226) (by decide)) (by decide +kernel) (fun z376 h375 h377 h378 => ?_)
          refine En_Ps 1 (pc' := 55) (lv' := [(0, .ref 159), (1, .int a), (2, .int b), (3, .int c)]) (st' := [.int z376]) rfl ?_
          exact En_ret (v := some (.int z376)) rfl rfl rfl ⟨h55, h59, z376, rfl, ⟨by first | exact q_ea7f0ffdb1 h377 | omega, by first | exact q_867a9ac627 h378 | omega⟩⟩
        · refine En_iald (l := 0) (u := 1) rfl h62 tgz_160 (by decide +kernel) h55 (by decide) (lnI (by decide +kernel : LN _ = 226) (by decide)) (by decide +kernel) (fun z380 h379 h381 h382 => ?_)
          refine En_Ps 1 (pc' := 55) (lv' := [(0, .ref 159), (1, .int a), (2, .int b), (3, .int c)]) (st' := [.int z380]) rfl ?_
          exact En_ret (v := some (.int z380)) rfl rfl rfl ⟨h55, h59, z380, rfl, ⟨by first | exact q_ea7f0ffdb1 h381 | omega, by first | exact q_31525ae3c9 h382 | omega⟩⟩
        · refine En_iald (l := 0) (u := 15) rfl h62 tgz_160 (by decide +kernel) h55 (by decide) (lnI (by decide +kernel : LN _ = 226) (by decide)) (by decide +kernel) (fun z384 h383 h385 h386 => ?_)
          refine En_Ps 1 (pc' := 55) (lv' := [(0, .ref 159), (1, .int a), (2, .int b), (3, .int c)]) (st' := [.int z384]) rfl ?_
          exact En_ret (v := some (.int z384)) rfl rfl rfl ⟨h55, h59, z384, rfl, ⟨by first | exact q_ea7f0ffdb1 h385 | omega, by first | exact q_867a9ac627 h386 | omega⟩⟩
        · refine En_iald (l := 0) (u := 1) rfl h62 tgz_160 (by decide +kernel) h55 (by decide) (lnI (by decide +kernel : LN _ = 226) (by decide)) (by decide +kernel) (fun z388 h387 h389 h390 => ?_)
          refine En_Ps 1 (pc' := 55) (lv' := [(0, .ref 159), (1, .int a), (2, .int b), (3, .int c)]) (st' := [.int z388]) rfl ?_
          exact En_ret (v := some (.int z388)) rfl rfl rfl ⟨h55, h59, z388, rfl, ⟨by first | exact q_ea7f0ffdb1 h389 | omega, by first | exact q_31525ae3c9 h390 | omega⟩⟩
        · refine En_iald (l := 0) (u := 15) rfl h62 tgz_160 (by decide +kernel) h55 (by decide) (lnI (by decide +kernel : LN _ = 226) (by decide)) (by decide +kernel) (fun z392 h391 h393 h394 => ?_)
          refine En_Ps 1 (pc' := 55) (lv' := [(0, .ref 159), (1, .int a), (2, .int b), (3, .int c)]) (st' := [.int z392]) rfl ?_
          exact En_ret (v := some (.int z392)) rfl rfl rfl ⟨h55, h59, z392, rfl, ⟨by first | exact q_ea7f0ffdb1 h393 | omega, by first | exact q_867a9ac627 h394 | omega⟩⟩
        · refine En_iald (l := 0) (u := 1) rfl h62 tgz_160 (by decide +kernel) h55 (by decide) (lnI (by decide +kernel : LN _ = 226) (by decide)) (by decide +kernel) (fun z396 h395 h397 h398 => ?_)
          refine En_Ps 1 (pc' := 55) (lv' := [(0, .ref 159), (1, .int a), (2, .int b), (3, .int c)]) (st' := [.int z396]) rfl ?_
          exact En_ret (v := some (.int z396)) rfl rfl rfl ⟨h55, h59, z396, rfl, ⟨by first | exact q_ea7f0ffdb1 h397 | omega, by first | exact q_31525ae3c9 h398 | omega⟩⟩
        · refine En_iald (l := 0) (u := 15) rfl h62 tgz_160 (by decide +kernel) h55 (by decide) (lnI (by decide +kernel : LN _ = 226) (by decide)) (by decide +kernel) (fun z400 h399 h401 h402 => ?_)
          refine En_Ps 1 (pc' := 55) (lv' := [(0, .ref 159), (1, .int a), (2, .int b), (3, .int c)]) (st' := [.int z400]) rfl ?_
          exact En_ret (v := some (.int z400)) rfl rfl rfl ⟨h55, h59, z400, rfl, ⟨by first | exact q_ea7f0ffdb1 h401 | omega, by first | exact q_867a9ac627 h402 | omega⟩⟩
        · refine En_iald (l := 0) (u := 1) rfl h62 tgz_160 (by decide +kernel) h55 (by decide) (lnI (by decide +kernel : LN _ = 226) (by decide)) (by decide +kernel) (fun z404 h403 h405 h406 => ?_)
          refine En_Ps 1 (pc' := 55) (lv' := [(0, .ref 159), (1, .int a), (2, .int b), (3, .int c)]) (st' := [.int z404]) rfl ?_
          exact En_ret (v := some (.int z404)) rfl rfl rfl ⟨h55, h59, z404, rfl, ⟨by first | exact q_ea7f0ffdb1 h405 | omega, by first | exact q_31525ae3c9 h406 | omega⟩⟩
        · refine En_iald (l := 0) (u := 15) rfl h62 tgz_160 (by decide +kernel) h55 (by decide) (lnI (by decide +kernel : LN _ = 226) (by decide)) (by decide +kernel) (fun z408 h407 h409 h410 => ?_)
          refine En_Ps 1 (pc' := 55) (lv' := [(0, .ref 159), (1, .int a), (2, .int b), (3, .int c)]) (st' := [.int z408]) rfl ?_
          exact En_ret (v := some (.int z408)) rfl rfl rfl ⟨h55, h59, z408, rfl, ⟨by first | exact q_ea7f0ffdb1 h409 | omega, by first | exact q_867a9ac627 h410 | omega⟩⟩
        · refine En_iald (l := 0) (u := 1) rfl h62 tgz_160 (by decide +kernel) h55 (by decide) (lnI (by decide +kernel : LN _ = 226) (by decide)) (by decide +kernel) (fun z412 h411 h413 h414 => ?_)
          refine En_Ps 1 (pc' := 55) (lv' := [(0, .ref 159), (1, .int a), (2, .int b), (3, .int c)]) (st' := [.int z412]) rfl ?_
          exact En_ret (v := some (.int z412)) rfl rfl rfl ⟨h55, h59, z412, rfl, ⟨by first | exact q_ea7f0ffdb1 h413 | omega, by first | exact q_31525ae3c9 h414 | omega⟩⟩
        · refine En_iald (l := 0) (u := 15) rfl h62 tgz_160 (by decide +kernel) h55 (by decide) (lnI (by decide +kernel : LN _ = 226) (by decide)) (by decide +kernel) (fun z416 h415 h417 h418 => ?_)
          refine En_Ps 1 (pc' := 55) (lv' := [(0, .ref 159), (1, .int a), (2, .int b), (3, .int c)]) (st' := [.int z416]) rfl ?_
          exact En_ret (v := some (.int z416)) rfl rfl rfl ⟨h55, h59, z416, rfl, ⟨by first | exact q_ea7f0ffdb1 h417 | omega, by first | exact q_867a9ac627 h418 | omega⟩⟩
        · refine En_iald (l := 0) (u := 1) rfl h62 tgz_160 (by decide +kernel) h55 (by decide) (lnI (by decide +kernel : LN _ = 226) (by decide)) (by decide +kernel) (fun z420 h419 h421 h422 => ?_)
          refine En_Ps 1 (pc' := 55) (lv' := [(0, .ref 159), (1, .int a), (2, .int b), (3, .int c)]) (st' := [.int z420]) rfl ?_
          exact En_ret (v := some (.int z420)) rfl rfl rfl ⟨h55, h59, z420, rfl, ⟨by first | exact q_ea7f0ffdb1 h421 | omega, by first | exact q_31525ae3c9 h422 | omega⟩⟩
        · refine En_iald (l := 0) (u := 15) rfl h62 tgz_160 (by decide +kernel) h55 (by decide) (lnI (by decide +kernel : LN _ = 226) (by decide)) (by decide +kernel) (fun z424 h423 h425 h426 => ?_)
          refine En_Ps 1 (pc' := 55) (lv' := [(0, .ref 159), (1, .int a), (2, .int b), (3, .int c)]) (st' := [.int z424]) rfl ?_
          exact En_ret (v := some (.int z424)) rfl rfl rfl ⟨h55, h59, z424, rfl, ⟨by first | exact q_ea7f0ffdb1 h425 | omega, by first | exact q_867a9ac627 h426 | omega⟩⟩
        · refine En_iald (l := 0) (u := 1) rfl h62 tgz_160 (by decide +kernel) h55 (by decide) (lnI (by decide +kernel : LN _ = 226) (by decide)) (by decide +kernel) (fun z428 h427 h429 h430 => ?_)
          refine En_Ps 1 (pc' := 55) (lv' := [(0, .ref 159), (1, .int a), (2, .int b), (3, .int c)]) (st' := [.int z428]) rfl ?_
          exact En_ret (v := some (.int z428)) rfl rfl rfl ⟨h55, h59, z428, rfl, ⟨by first | exact q_ea7f0ffdb1 h429 | omega, by first | exact q_31525ae3c9 h430 | omega⟩⟩
        · refine En_iald (l := 0) (u := 15) rfl h62 tgz_160 (by decide +kernel) h55 (by decide) (lnI (by decide +kernel : LN _ = 226) (by decide)) (by decide +kernel) (fun z432 h431 h433 h434 => ?_)
          refine En_Ps 1 (pc' := 55) (lv' := [(0, .ref 159), (1, .int a), (2, .int b), (3, .int c)]) (st' := [.int z432]) rfl ?_
          exact En_ret (v := some (.int z432)) rfl rfl rfl ⟨h55, h59, z432, rfl, ⟨by first | exact q_ea7f0ffdb1 h433 | omega, by first | exact q_867a9ac627 h434 | omega⟩⟩
        · refine En_iald (l := 0) (u := 1) rfl h62 tgz_160 (by decide +kernel) h55 (by decide) (lnI (by decide +kernel : LN _ = 226) (by decide)) (by decide +kernel) (fun z436 h435 h437 h438 => ?_)
          refine En_Ps 1 (pc' := 55) (lv' := [(0, .ref 159), (1, .int a), (2, .int b), (3, .int c)]) (st' := [.int z436]) rfl ?_
          exact En_ret (v := some (.int z436)) rfl rfl rfl ⟨h55, h59, z436, rfl, ⟨by first | exact q_ea7f0ffdb1 h437 | omega, by first | exact q_31525ae3c9 h438 | omega⟩⟩
        · refine En_iald (l := 0) (u := 15) rfl h62 tgz_160 (by decide +kernel) h55 (by decide) (lnI (by decide +kernel : LN _ = 226) (by decide)) (by decide +kernel) (fun z440 h439 h441 h442 => ?_)
          refine En_Ps 1 (pc' := 55) (lv' := [(0, .ref 159), (1, .int a), (2, .int b), (3, .int c)]) (st' := [.int z440]) rfl ?_
          exact En_ret (v := some (.int z440)) rfl rfl rfl ⟨h55, h59, z440, rfl, ⟨by first | exact q_ea7f0ffdb1 h441 | omega, by first | exact q_867a9ac627 h442 | omega⟩⟩
        · refine En_iald (l := 0) (u := 1) rfl h62 tgz_160 (by decide +kernel) h55 (by decide) (lnI (by decide +kernel : LN _ = 226) (by decide)) (by decide +kernel) (fun z444 h443 h445 h446 => ?_)
          refine En_Ps 1 (pc' := 55) (lv' := [(0, .ref 159), (1, .int a), (2, .int b), (3, .int c)]) (st' := [.int z444]) rfl ?_
          exact En_ret (v := some (.int z444)) rfl rfl rfl ⟨h55, h59, z444, rfl, ⟨by first | exact q_ea7f0ffdb1 h445 | omega, by first | exact q_31525ae3c9 h446 | omega⟩⟩
    · refine En_Ps 1 (pc' := 20) (lv' := [(0, .ref 159), (1, .int a), (2, .int b), (3, .int c)]) (st' := [.int (((Int8.ofInt (-2)).toInt32))]) rfl ?_
      refine En_top (by decide : ((Int8.ofInt (-2)).toInt32).toInt = -2) (fun z447 h448 => ?_)
      exact En_ret (v := some (.int z447)) rfl rfl rfl ⟨h19, h23, z447, rfl, ⟨by first | exact q_f35c5d346c h448 | omega, by first | exact q_12a74e12a3 h448 | omega⟩⟩
/-- DoorSchoolModel.marks(I)I -/
abbrev P_282 (σ0 : SG) (a : Int32) : PO := fun v σ => WT σ ∧ Fr [(35, 18), (35, 21), (42, 0), (43, 0), (44, 0), (45, 0), (46, 0)] σ0 σ ∧ ∃ ret : Int32, v = some (.int ret) ∧ -ret.toInt - 2 ≤ 0 ∧ ret.toInt - 13 ≤ 0
set_option maxRecDepth 10000 in
set_option maxHeartbeats 4000000 in
theorem c_282 (σ0 : SG) (hσ0 : WT σ0) (a : Int32) : En 5 112 none mr_282 (P_282 σ0 a) 0 [(0, .ref 159), (1, .int a)] [] σ0 := by
  have hF0 : Fr [(35, 18), (35, 21), (42, 0), (43, 0), (44, 0), (45, 0), (46, 0)] σ0 σ0 := Fr_rfl
  refine En_Ps 2 (pc' := 2) (lv' := [(0, .ref 159), (1, .int a)]) (st' := [.int a, .ref 159]) rfl ?_
  obtain ⟨z2, h1, h3, h4⟩ := WT_peekI hσ0 tgz_160 (by decide +kernel : FT 36 (2 : Int).toNat = (0, 0, 4)) (by decide +kernel)
  refine En_callV rfl rfl rfl rfl rfl rfl rfl rfl tgz_159 (by decide +kernel) rfl (c_254 σ0 hσ0 a z2 h1) (by decide) (by decide) (fun v6 σ7 h5 => ?_)
  obtain ⟨h8, h9, z11, rfl, h10⟩ := h5
  have h12 := Fr_trans hF0 h9 (by decide +kernel)
  refine En_iEq _ rfl rfl (fun h13 => ?_) (fun h13 => ?_)
  · refine En_Ps 1 (pc' := 22) (lv' := [(0, .ref 159), (1, .int a)]) (st' := [.int (((Int8.ofInt (-2)).toInt32))]) rfl ?_
    refine En_top (by decide : ((Int8.ofInt (-2)).toInt32).toInt = -2) (fun z14 h15 => ?_)
    exact En_ret (v := some (.int z14)) rfl rfl rfl ⟨h8, h12, z14, rfl, ⟨by first | exact q_f35c5d346c h15 | omega, by first | exact q_ac30c7c473 h15 | omega⟩⟩
  · refine En_Ps 3 (pc' := 11) (lv' := [(0, .ref 159), (1, .int a)]) (st' := [.int a, .ref 159, .ref 159]) rfl ?_
    refine En_callV rfl rfl rfl rfl rfl rfl rfl rfl tgz_159 (by decide +kernel) rfl (c_213 σ7 h8 a (geI rfl (by omega)) (leI rfl (by omega))) (by decide) (by decide) (fun v17 σ18 h16 => ?_)
    obtain ⟨h19, h20, z22, h23, z24, rfl, h21⟩ := h16
    have h25 := Fr_trans h12 h20 (by decide +kernel)
    refine En_callV rfl rfl rfl rfl rfl rfl rfl rfl tgz_159 (by decide +kernel) rfl (c_283 σ18 h19 z24) (by decide) (by decide) (fun v27 σ28 h26 => ?_)
    obtain ⟨h29, h30, z32, rfl, h31⟩ := h26
    have h33 := Fr_trans h25 h30 (by decide +kernel)
    refine En_Ps 1 (pc' := 22) (lv' := [(0, .ref 159), (1, .int a)]) (st' := [.int z32]) rfl ?_
    exact En_ret (v := some (.int z32)) rfl rfl rfl ⟨h29, h33, z32, rfl, ⟨by first | exact q_70a249c7f8 h31.1 | omega, by first | exact q_74b353401a h31.2 | omega⟩⟩
/-- DoorSchoolModel.next(II)I -/
abbrev P_287 (σ0 : SG) (a : Int32) (b : Int32) : PO := fun v σ => WT σ ∧ Fr [(35, 18), (35, 21), (35, 22), (35, 23), (42, 0), (43, 0), (44, 0), (45, 0), (46, 0)] σ0 σ ∧ ∃ ret : Int32, v = some (.int ret) ∧ -ret.toInt - 2 ≤ 0 ∧ ret.toInt - 15 ≤ 0
set_option maxRecDepth 10000 in
set_option maxHeartbeats 4000000 in
theorem c_287 (σ0 : SG) (hσ0 : WT σ0) (a : Int32) (b : Int32) : En 5 115 none mr_287 (P_287 σ0 a b) 0 [(0, .ref 159), (1, .int a), (2, .int b)] [] σ0 := by
  have hF0 : Fr [(35, 18), (35, 21), (35, 22), (35, 23), (42, 0), (43, 0), (44, 0), (45, 0), (46, 0)] σ0 σ0 := Fr_rfl
  refine En_Ps 1 (pc' := 1) (lv' := [(0, .ref 159), (1, .int a), (2, .int b)]) (st' := [.int a]) rfl ?_
  refine En_callS rfl rfl rfl rfl rfl rfl rfl rfl rfl (c_268 σ0 hσ0 a) (by decide) (by decide) (fun v2 σ3 h1 => ?_)
  obtain ⟨h4, h5, z7, rfl, h6⟩ := h1
  have h8 := Fr_trans hF0 h5 (by decide +kernel)
  refine En_iEq _ rfl rfl (fun h9 => ?_) (fun h9 => ?_)
  · refine En_Ps 1 (pc' := 17) (lv' := [(0, .ref 159), (1, .int a), (2, .int b)]) (st' := [.int (((Int8.ofInt (-2)).toInt32))]) rfl ?_
    refine En_top (by decide : ((Int8.ofInt (-2)).toInt32).toInt = -2) (fun z10 h11 => ?_)
    exact En_ret (v := some (.int z10)) rfl rfl rfl ⟨h4, h8, z10, rfl, ⟨by first | exact q_f35c5d346c h11 | omega, by first | exact q_12a74e12a3 h11 | omega⟩⟩
  · refine En_Ps 2 (pc' := 9) (lv' := [(0, .ref 159), (1, .int a), (2, .int b)]) (st' := [.int b, .ref 159]) rfl ?_
    refine En_callV rfl rfl rfl rfl rfl rfl rfl rfl tgz_159 (by decide +kernel) rfl (c_195 σ3 h4 b) (by decide) (by decide) (fun v13 σ14 h12 => ?_)
    obtain ⟨h15, h16, z18, rfl, h17⟩ := h12
    have h19 := Fr_trans h8 h16 (by decide +kernel)
    refine En_iNe _ rfl rfl (fun h20 => ?_) (fun h20 => ?_)
    · refine En_Ps 6 (pc' := 28) (lv' := [(5, .int ((Int32.ofInt 0))), (4, .int ((1000000 : Int32))), (3, .int ((Int32.ofInt (-1)))), (0, .ref 159), (1, .int a), (2, .int b)]) (st' := []) rfl ?_
      have key28 : ∀ (n28 : Nat) (σ24 : SG) (y21 : Int32) (y22 : Int32) (y23 : Int32), WT σ24 → Fr [(35, 18), (35, 21), (35, 22), (35, 23), (42, 0), (43, 0), (44, 0), (45, 0), (46, 0)] σ0 σ24 → (-1) ≤ y21.toInt → y21.toInt ≤ 15 → y22.toInt ≤ 1000000 → 0 ≤ y23.toInt → y23.toInt ≤ 16 → y21.toInt - y23.toInt + 1 ≤ 0 → -y23.toInt + 16 < (n28 : Int) → En 5 115 none mr_287 (P_287 σ0 a b) 28 [(0, .ref 159), (1, .int a), (2, .int b), (3, .int y21), (4, .int y22), (5, .int y23)] [] σ24 := by
        intro n28
        induction n28 with
        | zero =>
          intro σ24 y21 y22 y23 h25 h26 h27 h28 h29 h30 h31 h32 h33
          first | exact (q_511f6d33ac h33 h31).elim | (exfalso; omega)
        | succ n28 ih28 =>
          intro σ24 y21 y22 y23 h25 h26 h27 h28 h29 h30 h31 h32 h33
          refine En_Ps 2 (pc' := 31) (lv' := [(0, .ref 159), (1, .int a), (2, .int b), (3, .int y21), (4, .int y22), (5, .int y23)]) (st' := [.ref 159, .int y23]) rfl ?_
          obtain ⟨z35, h34, h36, h37⟩ := WT_peekI h25 tgz_160 (by decide +kernel : FT 36 (0 : Int).toNat = (0, 0, 4)) (by decide +kernel)
          obtain ⟨z39, h38, h40, h41⟩ := WT_peekI h25 tgz_160 (by decide +kernel : FT 36 (7 : Int).toNat = (0, 0, 1600)) (by decide +kernel)
          refine En_callV rfl rfl rfl rfl rfl rfl rfl rfl tgz_159 (by decide +kernel) rfl (c_269 σ24 h25 z35 h34 z39 h38) (by decide) (by decide) (fun v43 σ44 h42 => ?_)
          obtain ⟨h45, h46, z48, rfl, h47⟩ := h42
          have h49 := h47.2.2
          have h50 := Fr_trans h26 h46 (by decide +kernel)
          refine En_icGe _ rfl rfl rfl (fun h51 => ?_) (fun h51 => ?_)
          · refine En_Ps 1 (pc' := 89) (lv' := [(0, .ref 159), (1, .int a), (2, .int b), (3, .int y21), (4, .int y22), (5, .int y23)]) (st' := [.int y21]) rfl ?_
            exact En_ret (v := some (.int y21)) rfl rfl rfl ⟨h45, h50, y21, rfl, ⟨by first | exact q_fe58cd40d0 h27 | omega, by first | exact q_867a9ac627 h28 | omega⟩⟩
          · refine En_Ps 2 (pc' := 40) (lv' := [(0, .ref 159), (1, .int a), (2, .int b), (3, .int y21), (4, .int y22), (5, .int y23)]) (st' := [.int y23, .int b]) rfl ?_
            refine En_callS rfl rfl rfl rfl rfl rfl rfl rfl rfl (c_202b σ44 h45 b y23) (by decide) (by decide) (fun v53 σ54 h52 => ?_)
            obtain ⟨h55, h56, z58, rfl, h57⟩ := h52
            have h59 := Fr_trans h50 h56 (by decide +kernel)
            refine En_Ps 1 (pc' := 44) (lv' := [(0, .ref 159), (1, .int a), (2, .int b), (3, .int y21), (4, .int y22), (5, .int y23)]) (st' := [.int ((Int32.ofInt 1)), .int z58]) rfl ?_
            refine En_icNe _ rfl (by decide : (Int32.ofInt 1).toInt = 1) rfl (fun h60 => ?_) (fun h60 => ?_)
            · refine En_Ps 6 (pc' := 57) (lv' := [(0, .ref 159), (1, .int a), (2, .int b), (3, .int y21), (4, .int y22), (5, .int y23)]) (st' := [.int ((((Int32.ofInt 1)) <<< (y23 &&& 31))), .int b, .int a, .ref 159]) rfl ?_
              refine En_rng (shl1_p 15 rfl (by omega) (by omega) (by decide)) (fun z61 h62 h63 => ?_)
              refine En_Ps 1 (pc' := 58) (lv' := [(0, .ref 159), (1, .int a), (2, .int b), (3, .int y21), (4, .int y22), (5, .int y23)]) (st' := [.int ((b ||| z61)), .int a, .ref 159]) rfl ?_
              refine En_rng (l := 0) (u := 65535) (or_rng 16 rfl rfl (by omega) (by omega) (by omega) (by omega) (by decide)) (fun z64 h65 h66 => ?_)
              refine En_callV rfl rfl rfl rfl rfl rfl rfl rfl tgz_159 (by decide +kernel) rfl (c_321 σ54 h55 a z64) (by decide) (by decide) (fun v68 σ69 h67 => ?_)
              obtain ⟨h70, h71, rfl, h72⟩ := h67
              have h73 := Fr_trans h59 h71 (by decide +kernel)
              refine En_Ps 1 (pc' := 62) (lv' := [(0, .ref 159), (1, .int a), (2, .int b), (3, .int y21), (4, .int y22), (5, .int y23)]) (st' := [.ref 159]) rfl ?_
              refine En_getI (j := 22) (l := (-2147483648)) (u := 2147483647) rfl rfl rfl tgz_159 (by decide +kernel) h70 (by decide +kernel) (fun z75 h74 h76 h77 => ?_)
              refine En_Ps 1 (pc' := 67) (lv' := [(0, .ref 159), (1, .int a), (2, .int b), (3, .int y21), (4, .int y22), (5, .int y23)]) (st' := [.int y22, .int z75]) rfl ?_
              refine En_icLt _ rfl rfl rfl (fun h78 => ?_) (fun h78 => ?_)
              · refine En_Ps 1 (pc' := 74) (lv' := [(0, .ref 159), (1, .int a), (2, .int b), (3, .int y21), (4, .int y22), (5, .int y23)]) (st' := [.ref 159]) rfl ?_
                refine En_getK (j := 22) h74 rfl rfl rfl tgz_159 (by decide +kernel) ?_
                refine En_Ps 4 (pc' := 85) (lv' := [(5, .int ((y23 + Int32.ofInt 1))), (3, .int y23), (4, .int z75), (0, .ref 159), (1, .int a), (2, .int b)]) (st' := []) rfl ?_
                refine En_lv1 (addI rfl (by decide : (Int32.ofInt 1).toInt = 1) (by first | exact q_465ab79ac1 h30 | omega) (by first | exact q_f3f8e04381 h31 | omega)) (fun z79 h80 => ?_)
                refine En_Ps 1 (pc' := 28) (lv' := [(5, .int z79), (3, .int y23), (4, .int z75), (0, .ref 159), (1, .int a), (2, .int b)]) (st' := []) rfl ?_
                refine En_lv (lv := [(0, .ref 159), (1, .int a), (2, .int b), (3, .int y23), (4, .int z75), (5, .int z79)]) ⟨rfl, rfl, rfl, rfl, rfl, rfl, trivial⟩ ?_
                exact ih28 σ69 y23 z75 z79 h70 h73 (by first | exact q_5b439548fc h30 | omega) (by first | exact q_c15b485600 h51 h47.2.1 | omega) (by first | exact q_d3ae4bc11d h78 h29 | omega) (by first | exact q_35104ce9d3 h80 h30 | omega) (by first | exact q_34dc714687 h80 h51 h47.2.1 | omega) (by first | exact q_2fedec469a h80 | omega) (by first | exact q_c5d740bdff h80 h33 | omega)
              · refine En_Ps 2 (pc' := 85) (lv' := [(5, .int ((y23 + Int32.ofInt 1))), (0, .ref 159), (1, .int a), (2, .int b), (3, .int y21), (4, .int y22)]) (st' := []) rfl ?_
                refine En_lv1 (addI rfl (by decide : (Int32.ofInt 1).toInt = 1) (by first | exact q_465ab79ac1 h30 | omega) (by first | exact q_f3f8e04381 h31 | omega)) (fun z81 h82 => ?_)
                refine En_Ps 1 (pc' := 28) (lv' := [(5, .int z81), (0, .ref 159), (1, .int a), (2, .int b), (3, .int y21), (4, .int y22)]) (st' := []) rfl ?_
                refine En_lv (lv := [(0, .ref 159), (1, .int a), (2, .int b), (3, .int y21), (4, .int y22), (5, .int z81)]) ⟨rfl, rfl, rfl, rfl, rfl, rfl, trivial⟩ ?_
                exact ih28 σ69 y21 y22 z81 h70 h73 (by first | exact q_77b189e83d h27 | omega) (by first | exact q_5a4d8a7e08 h28 | omega) (by first | exact q_2507c1a77a h29 | omega) (by first | exact q_35104ce9d3 h82 h30 | omega) (by first | exact q_34dc714687 h82 h51 h47.2.1 | omega) (by first | exact q_6591527e3e h32 h82 | omega) (by first | exact q_c5d740bdff h82 h33 | omega)
            · refine En_Ps 2 (pc' := 85) (lv' := [(5, .int ((y23 + Int32.ofInt 1))), (0, .ref 159), (1, .int a), (2, .int b), (3, .int y21), (4, .int y22)]) (st' := []) rfl ?_
              refine En_lv1 (addI rfl (by decide : (Int32.ofInt 1).toInt = 1) (by first | exact q_465ab79ac1 h30 | omega) (by first | exact q_f3f8e04381 h31 | omega)) (fun z83 h84 => ?_)
              refine En_Ps 1 (pc' := 28) (lv' := [(5, .int z83), (0, .ref 159), (1, .int a), (2, .int b), (3, .int y21), (4, .int y22)]) (st' := []) rfl ?_
              refine En_lv (lv := [(0, .ref 159), (1, .int a), (2, .int b), (3, .int y21), (4, .int y22), (5, .int z83)]) ⟨rfl, rfl, rfl, rfl, rfl, rfl, trivial⟩ ?_
              exact ih28 σ54 y21 y22 z83 h55 h59 (by first | exact q_77b189e83d h27 | omega) (by first | exact q_5a4d8a7e08 h28 | omega) (by first | exact q_2507c1a77a h29 | omega) (by first | exact q_35104ce9d3 h84 h30 | omega) (by first | exact q_34dc714687 h84 h51 h47.2.1 | omega) (by first | exact q_6591527e3e h32 h84 | omega) (by first | exact q_c5d740bdff h84 h33 | omega)
      have := (by decide : (Int32.ofInt (-1)).toInt = -1)
      have := (by decide : (1000000 : Int32).toInt = 1000000)
      have := (by decide : (Int32.ofInt 0).toInt = 0)
      refine En_lv (lv := [(0, .ref 159), (1, .int a), (2, .int b), (3, .int ((Int32.ofInt (-1)))), (4, .int ((1000000 : Int32))), (5, .int ((Int32.ofInt 0)))]) ⟨rfl, rfl, rfl, rfl, rfl, rfl, trivial⟩ ?_
      exact key28 (Int.toNat (16) + 1) σ14 ((Int32.ofInt (-1))) ((1000000 : Int32)) ((Int32.ofInt 0)) h15 h19 (by decide) (by decide) (by decide) (by decide) (by decide) (by omega) (by first | exact toN_lt _ | omega)
    · refine En_Ps 1 (pc' := 17) (lv' := [(0, .ref 159), (1, .int a), (2, .int b)]) (st' := [.int (((Int8.ofInt (-2)).toInt32))]) rfl ?_
      refine En_top (by decide : ((Int8.ofInt (-2)).toInt32).toInt = -2) (fun z85 h86 => ?_)
      exact En_ret (v := some (.int z85)) rfl rfl rfl ⟨h15, h19, z85, rfl, ⟨by first | exact q_f35c5d346c h86 | omega, by first | exact q_12a74e12a3 h86 | omega⟩⟩
/-- DoorSchoolModel.often(I)I -/
abbrev P_291 (σ0 : SG) (a : Int32) : PO := fun v σ => WT σ ∧ Fr [(35, 18), (35, 21), (42, 0), (43, 0), (44, 0), (45, 0), (46, 0)] σ0 σ ∧ ∃ ret : Int32, v = some (.int ret) ∧ True
set_option maxRecDepth 10000 in
set_option maxHeartbeats 4000000 in
theorem c_291 (σ0 : SG) (hσ0 : WT σ0) (a : Int32) : En 5 112 none mr_291 (P_291 σ0 a) 0 [(0, .ref 159), (1, .int a)] [] σ0 := by
  have hF0 : Fr [(35, 18), (35, 21), (42, 0), (43, 0), (44, 0), (45, 0), (46, 0)] σ0 σ0 := Fr_rfl
  refine En_Ps 2 (pc' := 2) (lv' := [(0, .ref 159), (1, .int a)]) (st' := [.int a, .ref 159]) rfl ?_
  obtain ⟨z2, h1, h3, h4⟩ := WT_peekI hσ0 tgz_160 (by decide +kernel : FT 36 (2 : Int).toNat = (0, 0, 4)) (by decide +kernel)
  refine En_callV rfl rfl rfl rfl rfl rfl rfl rfl tgz_159 (by decide +kernel) rfl (c_254 σ0 hσ0 a z2 h1) (by decide) (by decide) (fun v6 σ7 h5 => ?_)
  obtain ⟨h8, h9, z11, rfl, h10⟩ := h5
  have h12 := Fr_trans hF0 h9 (by decide +kernel)
  refine En_iEq _ rfl rfl (fun h13 => ?_) (fun h13 => ?_)
  · refine En_Ps 1 (pc' := 21) (lv' := [(0, .ref 159), (1, .int a)]) (st' := [.int (((Int8.ofInt (-2)).toInt32))]) rfl ?_
    refine En_top (by decide : ((Int8.ofInt (-2)).toInt32).toInt = -2) (fun z14 h15 => ?_)
    exact En_ret (v := some (.int z14)) rfl rfl rfl ⟨h8, h12, z14, rfl, trivial⟩
  · refine En_Ps 2 (pc' := 10) (lv' := [(0, .ref 159), (1, .int a)]) (st' := [.int a, .ref 159]) rfl ?_
    refine En_callV rfl rfl rfl rfl rfl rfl rfl rfl tgz_159 (by decide +kernel) rfl (c_213 σ7 h8 a (geI rfl (by omega)) (leI rfl (by omega))) (by decide) (by decide) (fun v17 σ18 h16 => ?_)
    obtain ⟨h19, h20, z22, h23, z24, rfl, h21⟩ := h16
    have h25 := Fr_trans h12 h20 (by decide +kernel)
    refine En_callS rfl rfl rfl rfl rfl rfl rfl rfl rfl (c_203b σ18 h19 z24) (by decide) (by decide) (fun v27 σ28 h26 => ?_)
    obtain ⟨h29, h30, z32, rfl, h31⟩ := h26
    have h33 := Fr_trans h25 h30 (by decide +kernel)
    refine En_Ps 1 (pc' := 21) (lv' := [(0, .ref 159), (1, .int a)]) (st' := [.int z32]) rfl ?_
    exact En_ret (v := some (.int z32)) rfl rfl rfl ⟨h29, h33, z32, rfl, trivial⟩
/-- DoorSchoolModel.opens(II)I -/
abbrev P_292 (σ0 : SG) (a : Int32) (b : Int32) : PO := fun v σ => WT σ ∧ Fr [(35, 18), (35, 21), (42, 0), (43, 0), (44, 0), (45, 0), (46, 0)] σ0 σ ∧ ∃ ret : Int32, v = some (.int ret) ∧ -ret.toInt - 2 ≤ 0 ∧ ret.toInt - 1 ≤ 0
set_option maxRecDepth 10000 in
set_option maxHeartbeats 4000000 in
theorem c_292 (σ0 : SG) (hσ0 : WT σ0) (a : Int32) (b : Int32) : En 5 112 none mr_292 (P_292 σ0 a b) 0 [(0, .ref 159), (1, .int a), (2, .int b)] [] σ0 := by
  have hF0 : Fr [(35, 18), (35, 21), (42, 0), (43, 0), (44, 0), (45, 0), (46, 0)] σ0 σ0 := Fr_rfl
  refine En_Ps 2 (pc' := 2) (lv' := [(0, .ref 159), (1, .int a), (2, .int b)]) (st' := [.int a, .ref 159]) rfl ?_
  obtain ⟨z2, h1, h3, h4⟩ := WT_peekI hσ0 tgz_160 (by decide +kernel : FT 36 (2 : Int).toNat = (0, 0, 4)) (by decide +kernel)
  refine En_callV rfl rfl rfl rfl rfl rfl rfl rfl tgz_159 (by decide +kernel) rfl (c_254 σ0 hσ0 a z2 h1) (by decide) (by decide) (fun v6 σ7 h5 => ?_)
  obtain ⟨h8, h9, z11, rfl, h10⟩ := h5
  have h12 := Fr_trans hF0 h9 (by decide +kernel)
  refine En_iEq _ rfl rfl (fun h13 => ?_) (fun h13 => ?_)
  · refine En_Ps 1 (pc' := 31) (lv' := [(0, .ref 159), (1, .int a), (2, .int b)]) (st' := [.int (((Int8.ofInt (-2)).toInt32))]) rfl ?_
    refine En_top (by decide : ((Int8.ofInt (-2)).toInt32).toInt = -2) (fun z14 h15 => ?_)
    exact En_ret (v := some (.int z14)) rfl rfl rfl ⟨h8, h12, z14, rfl, ⟨by first | exact q_f35c5d346c h15 | omega, by first | exact q_680688d8e6 h15 | omega⟩⟩
  · refine En_Ps 3 (pc' := 11) (lv' := [(0, .ref 159), (1, .int a), (2, .int b)]) (st' := [.long b.toInt64, .ref 159]) rfl ?_
    have : b.toInt64.toInt = b.toInt := (i2lI rfl)
    refine En_callV rfl rfl rfl rfl rfl rfl rfl rfl tgz_159 (by decide +kernel) rfl (c_259 σ7 h8 b.toInt64) (by decide) (by decide) (fun v17 σ18 h16 => ?_)
    obtain ⟨h19, h20, z22, rfl, h21⟩ := h16
    have h23 := Fr_trans h12 h20 (by decide +kernel)
    refine En_iEq _ rfl rfl (fun h24 => ?_) (fun h24 => ?_)
    · refine En_Ps 1 (pc' := 31) (lv' := [(0, .ref 159), (1, .int a), (2, .int b)]) (st' := [.int (((Int8.ofInt (-2)).toInt32))]) rfl ?_
      refine En_top (by decide : ((Int8.ofInt (-2)).toInt32).toInt = -2) (fun z25 h26 => ?_)
      exact En_ret (v := some (.int z25)) rfl rfl rfl ⟨h19, h23, z25, rfl, ⟨by first | exact q_f35c5d346c h26 | omega, by first | exact q_680688d8e6 h26 | omega⟩⟩
    · refine En_Ps 2 (pc' := 19) (lv' := [(0, .ref 159), (1, .int a), (2, .int b)]) (st' := [.int a, .ref 159]) rfl ?_
      refine En_callV rfl rfl rfl rfl rfl rfl rfl rfl tgz_159 (by decide +kernel) rfl (c_213 σ18 h19 a (geI rfl (by omega)) (leI rfl (by omega))) (by decide) (by decide) (fun v28 σ29 h27 => ?_)
      obtain ⟨h30, h31, z33, h34, z35, rfl, h32⟩ := h27
      have h36 := Fr_trans h23 h31 (by decide +kernel)
      refine En_Ps 1 (pc' := 23) (lv' := [(0, .ref 159), (1, .int a), (2, .int b)]) (st' := [.int b, .int z35]) rfl ?_
      refine En_callS rfl rfl rfl rfl rfl rfl rfl rfl rfl (c_202b σ29 h30 z35 b) (by decide) (by decide) (fun v38 σ39 h37 => ?_)
      obtain ⟨h40, h41, z43, rfl, h42⟩ := h37
      have h44 := Fr_trans h36 h41 (by decide +kernel)
      refine En_Ps 1 (pc' := 31) (lv' := [(0, .ref 159), (1, .int a), (2, .int b)]) (st' := [.int z43]) rfl ?_
      exact En_ret (v := some (.int z43)) rfl rfl rfl ⟨h40, h44, z43, rfl, ⟨by first | exact q_70a249c7f8 h42.1 | omega, by first | exact q_ad5b726bf8 h42.2 | omega⟩⟩
/-- DoorSchoolModel.paste(IIIII)I -/
abbrev P_297 (σ0 : SG) (a : Int32) (b : Int32) (c : Int32) (d : Int32) (e : Int32) : PO := fun v σ => WT σ ∧ Fr [(55, 0), (56, 0)] σ0 σ ∧ ∃ ret : Int32, v = some (.int ret) ∧ -ret.toInt - 8 ≤ 0 ∧ ret.toInt ≤ 0
set_option maxRecDepth 10000 in
set_option maxHeartbeats 4000000 in
theorem c_297 (σ0 : SG) (hσ0 : WT σ0) (a : Int32) (b : Int32) (c : Int32) (d : Int32) (e : Int32) : En 2 45 none mr_297 (P_297 σ0 a b c d e) 0 [(0, .ref 159), (1, .int a), (2, .int b), (3, .int c), (4, .int d), (5, .int e)] [] σ0 := by
  have hF0 : Fr [(55, 0), (56, 0)] σ0 σ0 := Fr_rfl
  refine En_Ps 1 (pc' := 1) (lv' := [(0, .ref 159), (1, .int a), (2, .int b), (3, .int c), (4, .int d), (5, .int e)]) (st' := [.int a]) rfl ?_
  refine En_callS rfl rfl rfl rfl rfl rfl rfl rfl rfl (c_266 σ0 hσ0 a) (by decide) (by decide) (fun v2 σ3 h1 => ?_)
  obtain ⟨h4, h5, z7, rfl, h6⟩ := h1
  have h8 := Fr_trans hF0 h5 (by decide +kernel)
  refine En_iEq _ rfl rfl (fun h9 => ?_) (fun h9 => ?_)
  · refine En_Ps 1 (pc' := 16) (lv' := [(0, .ref 159), (1, .int a), (2, .int b), (3, .int c), (4, .int d), (5, .int e)]) (st' := [.int (((Int8.ofInt (-2)).toInt32))]) rfl ?_
    refine En_top (by decide : ((Int8.ofInt (-2)).toInt32).toInt = -2) (fun z10 h11 => ?_)
    exact En_ret (v := some (.int z10)) rfl rfl rfl ⟨h4, h8, z10, rfl, ⟨by first | exact q_a9585dd42b h11 | omega, by first | exact q_bbb39ffa1e h11 | omega⟩⟩
  · refine En_Ps 1 (pc' := 8) (lv' := [(0, .ref 159), (1, .int a), (2, .int b), (3, .int c), (4, .int d), (5, .int e)]) (st' := [.int c]) rfl ?_
    refine En_callS rfl rfl rfl rfl rfl rfl rfl rfl rfl (c_266 σ3 h4 c) (by decide) (by decide) (fun v13 σ14 h12 => ?_)
    obtain ⟨h15, h16, z18, rfl, h17⟩ := h12
    have h19 := Fr_trans h8 h16 (by decide +kernel)
    refine En_iNe _ rfl rfl (fun h20 => ?_) (fun h20 => ?_)
    · refine En_Ps 1 (pc' := 18) (lv' := [(0, .ref 159), (1, .int a), (2, .int b), (3, .int c), (4, .int d), (5, .int e)]) (st' := [.ref 159]) rfl ?_
      refine En_getU (j := 32) (u := 177) (g' := 53) (q := 0) rfl rfl rfl tgz_159 (by decide +kernel) h15 (by decide +kernel) (by decide +kernel) (fun h21 => ?_)
      refine En_Ps 1 (pc' := 22) (lv' := [(0, .ref 159), (1, .int a), (2, .int b), (3, .int c), (4, .int d), (5, .int e)]) (st' := [.int a, .ref 177]) rfl ?_
      refine En_iald (l := (-1)) (u := 60) rfl rfl tgz_177 (by decide +kernel) h15 (by omega) (lnI (by decide +kernel : LN _ = 4) (by omega)) (FTsgl (by decide +kernel)) (fun z24 h23 h25 h26 => ?_)
      refine En_Ps 1 (pc' := 24) (lv' := [(0, .ref 159), (1, .int a), (2, .int b), (3, .int c), (4, .int d), (5, .int e)]) (st' := [.int ((Int32.ofInt (-1))), .int z24]) rfl ?_
      refine En_icEq _ rfl (by decide : (Int32.ofInt (-1)).toInt = -1) rfl (fun h27 => ?_) (fun h27 => ?_)
      · refine En_Ps 1 (pc' := 39) (lv' := [(0, .ref 159), (1, .int a), (2, .int b), (3, .int c), (4, .int d), (5, .int e)]) (st' := [.int (((Int8.ofInt (-6)).toInt32))]) rfl ?_
        refine En_top (by decide : ((Int8.ofInt (-6)).toInt32).toInt = -6) (fun z28 h29 => ?_)
        exact En_ret (v := some (.int z28)) rfl rfl rfl ⟨h15, h19, z28, rfl, ⟨by first | exact q_04810bc0c7 h29 | omega, by first | exact q_9bcb887de1 h29 | omega⟩⟩
      · refine En_Ps 1 (pc' := 28) (lv' := [(0, .ref 159), (1, .int a), (2, .int b), (3, .int c), (4, .int d), (5, .int e)]) (st' := [.ref 159]) rfl ?_
        refine En_getK (j := 32) h21 rfl rfl rfl tgz_159 (by decide +kernel) ?_
        refine En_Ps 1 (pc' := 32) (lv' := [(0, .ref 159), (1, .int a), (2, .int b), (3, .int c), (4, .int d), (5, .int e)]) (st' := [.int c, .ref 177]) rfl ?_
        refine En_iald (l := (-1)) (u := 60) rfl rfl tgz_177 (by decide +kernel) h15 (by omega) (lnI (by decide +kernel : LN _ = 4) (by omega)) (FTsgl (by decide +kernel)) (fun z31 h30 h32 h33 => ?_)
        refine En_Ps 1 (pc' := 34) (lv' := [(0, .ref 159), (1, .int a), (2, .int b), (3, .int c), (4, .int d), (5, .int e)]) (st' := [.int ((Int32.ofInt (-1))), .int z31]) rfl ?_
        refine En_icNe _ rfl (by decide : (Int32.ofInt (-1)).toInt = -1) rfl (fun h34 => ?_) (fun h34 => ?_)
        · refine En_Ps 1 (pc' := 41) (lv' := [(0, .ref 159), (1, .int a), (2, .int b), (3, .int c), (4, .int d), (5, .int e)]) (st' := [.ref 159]) rfl ?_
          refine En_getU (j := 33) (u := 178) (g' := 54) (q := 0) rfl rfl rfl tgz_159 (by decide +kernel) h15 (by decide +kernel) (by decide +kernel) (fun h35 => ?_)
          refine En_Ps 1 (pc' := 45) (lv' := [(0, .ref 159), (1, .int a), (2, .int b), (3, .int c), (4, .int d), (5, .int e)]) (st' := [.int a, .ref 178]) rfl ?_
          refine En_iald (l := 0) (u := 3) rfl rfl tgz_178 (by decide +kernel) h15 (by omega) (lnI (by decide +kernel : LN _ = 4) (by omega)) (FTsgl (by decide +kernel)) (fun z38 h37 h39 h40 => ?_)
          refine En_Ps 1 (pc' := 47) (lv' := [(0, .ref 159), (1, .int a), (2, .int b), (3, .int c), (4, .int d), (5, .int e)]) (st' := [.ref 159, .int z38]) rfl ?_
          refine En_getK (j := 33) h35 rfl rfl rfl tgz_159 (by decide +kernel) ?_
          refine En_Ps 1 (pc' := 51) (lv' := [(0, .ref 159), (1, .int a), (2, .int b), (3, .int c), (4, .int d), (5, .int e)]) (st' := [.int c, .ref 178, .int z38]) rfl ?_
          refine En_iald (l := 0) (u := 3) rfl rfl tgz_178 (by decide +kernel) h15 (by omega) (lnI (by decide +kernel : LN _ = 4) (by omega)) (FTsgl (by decide +kernel)) (fun z42 h41 h43 h44 => ?_)
          refine En_icEq _ rfl rfl rfl (fun h45 => ?_) (fun h45 => ?_)
          · refine En_Ps 1 (pc' := 59) (lv' := [(0, .ref 159), (1, .int a), (2, .int b), (3, .int c), (4, .int d), (5, .int e)]) (st' := [.int b]) rfl ?_
            refine En_iLt _ rfl rfl (fun h46 => ?_) (fun h46 => ?_)
            · refine En_Ps 1 (pc' := 109) (lv' := [(0, .ref 159), (1, .int a), (2, .int b), (3, .int c), (4, .int d), (5, .int e)]) (st' := [.int (((Int8.ofInt (-7)).toInt32))]) rfl ?_
              refine En_top (by decide : ((Int8.ofInt (-7)).toInt32).toInt = -7) (fun z47 h48 => ?_)
              exact En_ret (v := some (.int z47)) rfl rfl rfl ⟨h15, h19, z47, rfl, ⟨by first | exact q_bed7a61884 h48 | omega, by first | exact q_d916b56ab6 h48 | omega⟩⟩
            · refine En_Ps 1 (pc' := 64) (lv' := [(0, .ref 159), (1, .int a), (2, .int b), (3, .int c), (4, .int d), (5, .int e)]) (st' := [.int d]) rfl ?_
              refine En_iLt _ rfl rfl (fun h49 => ?_) (fun h49 => ?_)
              · refine En_Ps 1 (pc' := 109) (lv' := [(0, .ref 159), (1, .int a), (2, .int b), (3, .int c), (4, .int d), (5, .int e)]) (st' := [.int (((Int8.ofInt (-7)).toInt32))]) rfl ?_
                refine En_top (by decide : ((Int8.ofInt (-7)).toInt32).toInt = -7) (fun z50 h51 => ?_)
                exact En_ret (v := some (.int z50)) rfl rfl rfl ⟨h15, h19, z50, rfl, ⟨by first | exact q_bed7a61884 h51 | omega, by first | exact q_d916b56ab6 h51 | omega⟩⟩
              · refine En_Ps 1 (pc' := 69) (lv' := [(0, .ref 159), (1, .int a), (2, .int b), (3, .int c), (4, .int d), (5, .int e)]) (st' := [.int e]) rfl ?_
                refine En_iLt _ rfl rfl (fun h52 => ?_) (fun h52 => ?_)
                · refine En_Ps 1 (pc' := 109) (lv' := [(0, .ref 159), (1, .int a), (2, .int b), (3, .int c), (4, .int d), (5, .int e)]) (st' := [.int (((Int8.ofInt (-7)).toInt32))]) rfl ?_
                  refine En_top (by decide : ((Int8.ofInt (-7)).toInt32).toInt = -7) (fun z53 h54 => ?_)
                  exact En_ret (v := some (.int z53)) rfl rfl rfl ⟨h15, h19, z53, rfl, ⟨by first | exact q_bed7a61884 h54 | omega, by first | exact q_d916b56ab6 h54 | omega⟩⟩
                · refine En_Ps 1 (pc' := 73) (lv' := [(0, .ref 159), (1, .int a), (2, .int b), (3, .int c), (4, .int d), (5, .int e)]) (st' := [.int b]) rfl ?_
                  have := fullI b
                  refine En_Ps 2 (pc' := 76) (lv' := [(0, .ref 159), (1, .int a), (2, .int b), (3, .int c), (4, .int d), (5, .int e)]) (st' := [.int e, .long b.toInt64]) rfl ?_
                  have := fullI e
                  refine En_Ps 2 (pc' := 78) (lv' := [(0, .ref 159), (1, .int a), (2, .int b), (3, .int c), (4, .int d), (5, .int e)]) (st' := [.long ((b.toInt64 + e.toInt64))]) rfl ?_
                  refine En_topL (addL (i2lI rfl) (i2lI rfl) (by omega) (by omega)) (fun z55 h56 => ?_)
                  refine En_Ps 1 (pc' := 79) (lv' := [(0, .ref 159), (1, .int a), (2, .int b), (3, .int c), (4, .int d), (5, .int e)]) (st' := [.ref 159, .long z55]) rfl ?_
                  refine En_getK (j := 32) h21 rfl rfl rfl tgz_159 (by decide +kernel) ?_
                  refine En_Ps 1 (pc' := 83) (lv' := [(0, .ref 159), (1, .int a), (2, .int b), (3, .int c), (4, .int d), (5, .int e)]) (st' := [.int a, .ref 177, .long z55]) rfl ?_
                  refine En_ialdK h23 rfl rfl tgz_177 (by decide +kernel) h15 (by omega) (lnI (by decide +kernel : LN _ = 4) (by omega)) ?_
                  have := fullI z24
                  refine En_Ps 2 (pc' := 86) (lv' := [(0, .ref 159), (1, .int a), (2, .int b), (3, .int c), (4, .int d), (5, .int e)]) (st' := [.int (lg_cmp z55 z24.toInt64)]) rfl ?_
                  refine En_lgGt _ rfl (i2lI rfl) rfl (fun h58 => ?_) (fun h58 => ?_)
                  · refine En_Ps 1 (pc' := 109) (lv' := [(0, .ref 159), (1, .int a), (2, .int b), (3, .int c), (4, .int d), (5, .int e)]) (st' := [.int (((Int8.ofInt (-7)).toInt32))]) rfl ?_
                    refine En_top (by decide : ((Int8.ofInt (-7)).toInt32).toInt = -7) (fun z59 h60 => ?_)
                    exact En_ret (v := some (.int z59)) rfl rfl rfl ⟨h15, h19, z59, rfl, ⟨by first | exact q_bed7a61884 h60 | omega, by first | exact q_d916b56ab6 h60 | omega⟩⟩
                  · refine En_Ps 1 (pc' := 91) (lv' := [(0, .ref 159), (1, .int a), (2, .int b), (3, .int c), (4, .int d), (5, .int e)]) (st' := [.int d]) rfl ?_
                    have := fullI d
                    refine En_Ps 2 (pc' := 94) (lv' := [(0, .ref 159), (1, .int a), (2, .int b), (3, .int c), (4, .int d), (5, .int e)]) (st' := [.int e, .long d.toInt64]) rfl ?_
                    have := fullI e
                    refine En_Ps 2 (pc' := 96) (lv' := [(0, .ref 159), (1, .int a), (2, .int b), (3, .int c), (4, .int d), (5, .int e)]) (st' := [.long ((d.toInt64 + e.toInt64))]) rfl ?_
                    refine En_topL (addL (i2lI rfl) (i2lI rfl) (by omega) (by omega)) (fun z61 h62 => ?_)
                    refine En_Ps 1 (pc' := 97) (lv' := [(0, .ref 159), (1, .int a), (2, .int b), (3, .int c), (4, .int d), (5, .int e)]) (st' := [.ref 159, .long z61]) rfl ?_
                    refine En_getK (j := 32) h21 rfl rfl rfl tgz_159 (by decide +kernel) ?_
                    refine En_Ps 1 (pc' := 101) (lv' := [(0, .ref 159), (1, .int a), (2, .int b), (3, .int c), (4, .int d), (5, .int e)]) (st' := [.int c, .ref 177, .long z61]) rfl ?_
                    refine En_ialdK h30 rfl rfl tgz_177 (by decide +kernel) h15 (by omega) (lnI (by decide +kernel : LN _ = 4) (by omega)) ?_
                    have := fullI z31
                    refine En_Ps 2 (pc' := 104) (lv' := [(0, .ref 159), (1, .int a), (2, .int b), (3, .int c), (4, .int d), (5, .int e)]) (st' := [.int (lg_cmp z61 z31.toInt64)]) rfl ?_
                    refine En_lgLe _ rfl (i2lI rfl) rfl (fun h64 => ?_) (fun h64 => ?_)
                    · refine En_Ps 2 (pc' := 113) (lv' := [(6, .int ((Int32.ofInt 0))), (0, .ref 159), (1, .int a), (2, .int b), (3, .int c), (4, .int d), (5, .int e)]) (st' := []) rfl ?_
                      have key113 : ∀ (n113 : Nat) (σ66 : SG) (y65 : Int32), WT σ66 → Fr [(55, 0), (56, 0)] σ0 σ66 → (σ66 159)[32]? = some (.ref 177) → (σ66 177)[(a.toInt).toNat]? = some (.int z24) → (σ66 177)[(c.toInt).toNat]? = some (.int z31) → (σ66 159)[33]? = some (.ref 178) → (σ66 178)[(a.toInt).toNat]? = some (.int z38) → (σ66 178)[(c.toInt).toNat]? = some (.int z42) → 0 ≤ y65.toInt → y65.toInt ≤ 60 → y65.toInt - e.toInt ≤ 0 → e.toInt - y65.toInt < (n113 : Int) → En 2 45 none mr_297 (P_297 σ0 a b c d e) 113 [(0, .ref 159), (1, .int a), (2, .int b), (3, .int c), (4, .int d), (5, .int e), (6, .int y65)] [] σ66 := by
                        intro n113
                        induction n113 with
                        | zero =>
                          intro σ66 y65 h67 h68 h69 h70 h71 h72 h73 h74 h75 h76 h77 h78
                          first | exact (q_14257feae7 h77 h78).elim | (exfalso; omega)
                        | succ n113 ih113 =>
                          intro σ66 y65 h67 h68 h69 h70 h71 h72 h73 h74 h75 h76 h77 h78
                          refine En_Ps 2 (pc' := 117) (lv' := [(0, .ref 159), (1, .int a), (2, .int b), (3, .int c), (4, .int d), (5, .int e), (6, .int y65)]) (st' := [.int e, .int y65]) rfl ?_
                          refine En_icGe _ rfl rfl rfl (fun h79 => ?_) (fun h79 => ?_)
                          · refine En_Ps 2 (pc' := 150) (lv' := [(6, .int ((Int32.ofInt 0))), (0, .ref 159), (1, .int a), (2, .int b), (3, .int c), (4, .int d), (5, .int e)]) (st' := []) rfl ?_
                            have key150 : ∀ (n150 : Nat) (σ81 : SG) (y80 : Int32), WT σ81 → Fr [(55, 0), (56, 0)] σ0 σ81 → (σ81 159)[32]? = some (.ref 177) → (σ81 177)[(a.toInt).toNat]? = some (.int z24) → (σ81 177)[(c.toInt).toNat]? = some (.int z31) → (σ81 159)[33]? = some (.ref 178) → (σ81 178)[(a.toInt).toNat]? = some (.int z38) → (σ81 178)[(c.toInt).toNat]? = some (.int z42) → 0 ≤ y80.toInt → y80.toInt ≤ 60 → y80.toInt - e.toInt ≤ 0 → e.toInt - y80.toInt < (n150 : Int) → En 2 45 none mr_297 (P_297 σ0 a b c d e) 150 [(0, .ref 159), (1, .int a), (2, .int b), (3, .int c), (4, .int d), (5, .int e), (6, .int y80)] [] σ81 := by
                              intro n150
                              induction n150 with
                              | zero =>
                                intro σ81 y80 h82 h83 h84 h85 h86 h87 h88 h89 h90 h91 h92 h93
                                first | exact (q_14257feae7 h92 h93).elim | (exfalso; omega)
                              | succ n150 ih150 =>
                                intro σ81 y80 h82 h83 h84 h85 h86 h87 h88 h89 h90 h91 h92 h93
                                refine En_Ps 2 (pc' := 154) (lv' := [(0, .ref 159), (1, .int a), (2, .int b), (3, .int c), (4, .int d), (5, .int e), (6, .int y80)]) (st' := [.int e, .int y80]) rfl ?_
                                refine En_icGe _ rfl rfl rfl (fun h94 => ?_) (fun h94 => ?_)
                                · refine En_Ps 1 (pc' := 186) (lv' := [(0, .ref 159), (1, .int a), (2, .int b), (3, .int c), (4, .int d), (5, .int e), (6, .int y80)]) (st' := [.int ((Int32.ofInt 0))]) rfl ?_
                                  refine En_top (by decide : (Int32.ofInt 0).toInt = 0) (fun z95 h96 => ?_)
                                  exact En_ret (v := some (.int z95)) rfl rfl rfl ⟨h82, h83, z95, rfl, ⟨by first | exact q_444a964a01 h96 | omega, by first | exact q_c5d285f1b9 h96 | omega⟩⟩
                                · refine En_Ps 1 (pc' := 158) (lv' := [(0, .ref 159), (1, .int a), (2, .int b), (3, .int c), (4, .int d), (5, .int e), (6, .int y80)]) (st' := [.ref 159]) rfl ?_
                                  refine En_getU (j := 34) (u := 179) (g' := 55) (q := 0) rfl rfl rfl tgz_159 (by decide +kernel) h82 (by decide +kernel) (by decide +kernel) (fun h97 => ?_)
                                  refine En_Ps 3 (pc' := 165) (lv' := [(0, .ref 159), (1, .int a), (2, .int b), (3, .int c), (4, .int d), (5, .int e), (6, .int y80)]) (st' := [.int (((((Int8.ofInt 60).toInt32)) * c)), .ref 179]) rfl ?_
                                  refine En_top (mulI (by decide : ((Int8.ofInt 60).toInt32).toInt = 60) rfl (Z := 60 * c.toInt) (by first | exact q_7a16b37b72 | omega) (by omega) (by omega)) (fun z99 h100 => ?_)
                                  refine En_Ps 2 (pc' := 168) (lv' := [(0, .ref 159), (1, .int a), (2, .int b), (3, .int c), (4, .int d), (5, .int e), (6, .int y80)]) (st' := [.int ((z99 + d)), .ref 179]) rfl ?_
                                  refine En_top (addI rfl rfl (by omega) (by omega)) (fun z101 h102 => ?_)
                                  refine En_Ps 2 (pc' := 171) (lv' := [(0, .ref 159), (1, .int a), (2, .int b), (3, .int c), (4, .int d), (5, .int e), (6, .int y80)]) (st' := [.int ((z101 + y80)), .ref 179]) rfl ?_
                                  refine En_top (addI rfl rfl (by omega) (by omega)) (fun z103 h104 => ?_)
                                  refine En_Ps 1 (pc' := 172) (lv' := [(0, .ref 159), (1, .int a), (2, .int b), (3, .int c), (4, .int d), (5, .int e), (6, .int y80)]) (st' := [.ref 159, .int z103, .ref 179]) rfl ?_
                                  refine En_getU (j := 35) (u := 180) (g' := 56) (q := 0) rfl rfl rfl tgz_159 (by decide +kernel) h82 (by decide +kernel) (by decide +kernel) (fun h105 => ?_)
                                  refine En_Ps 1 (pc' := 177) (lv' := [(0, .ref 159), (1, .int a), (2, .int b), (3, .int c), (4, .int d), (5, .int e), (6, .int y80)]) (st' := [.int y80, .ref 180, .int z103, .ref 179]) rfl ?_
                                  refine En_lald (l := (-9223372036854775808)) (u := 9223372036854775807) rfl rfl tgz_180 (by decide +kernel) h82 (by first | exact q_58e6e51dcc h90 | omega) (lnI (by decide +kernel : LN _ = 60) (by first | exact q_3d068043d1 h94 h79 h76 | omega)) (FTsgl (by decide +kernel)) (fun z108 h107 h109 h110 => ?_)
                                  refine En_last (l := (-9223372036854775808)) (u := 9223372036854775807) rfl rfl tgz_179 (by decide +kernel) (by omega) (lnI (by decide +kernel : LN _ = 240) (by omega)) (FTsgl (by decide +kernel)) (fullL _) h82 h83 (by decide +kernel) (fun σ111 h112 h113 h114 h115 => ?_)
                                  refine En_Ps 1 (pc' := 182) (lv' := [(6, .int ((y80 + Int32.ofInt 1))), (0, .ref 159), (1, .int a), (2, .int b), (3, .int c), (4, .int d), (5, .int e)]) (st' := []) rfl ?_
                                  refine En_lv1 (addI rfl (by decide : (Int32.ofInt 1).toInt = 1) (by first | exact q_465ab79ac1 h90 | omega) (by first | exact q_232407ab69 h91 | omega)) (fun z116 h117 => ?_)
                                  refine En_Ps 1 (pc' := 150) (lv' := [(6, .int z116), (0, .ref 159), (1, .int a), (2, .int b), (3, .int c), (4, .int d), (5, .int e)]) (st' := []) rfl ?_
                                  refine En_lv (lv := [(0, .ref 159), (1, .int a), (2, .int b), (3, .int c), (4, .int d), (5, .int e), (6, .int z116)]) ⟨rfl, rfl, rfl, rfl, rfl, rfl, rfl, trivial⟩ ?_
                                  exact ih150 σ111 z116 h112 h113 ((h115 _ _ (Or.inl (neTG tgz_159 tgz_179 (by decide)))).trans h84) ((h115 _ _ (Or.inl (neTG tgz_177 tgz_179 (by decide)))).trans h85) ((h115 _ _ (Or.inl (neTG tgz_177 tgz_179 (by decide)))).trans h86) ((h115 _ _ (Or.inl (neTG tgz_159 tgz_179 (by decide)))).trans h87) ((h115 _ _ (Or.inl (neTG tgz_178 tgz_179 (by decide)))).trans h88) ((h115 _ _ (Or.inl (neTG tgz_178 tgz_179 (by decide)))).trans h89) (by first | exact q_35104ce9d3 h117 h90 | omega) (by first | exact q_93fe10ffe0 h117 h94 h79 h76 | omega) (by first | exact q_ae2dbf4292 h94 h117 | omega) (by first | exact q_8d03a5a7cb h117 h93 | omega)
                            have := (by decide : (Int32.ofInt 0).toInt = 0)
                            refine En_lv (lv := [(0, .ref 159), (1, .int a), (2, .int b), (3, .int c), (4, .int d), (5, .int e), (6, .int ((Int32.ofInt 0)))]) ⟨rfl, rfl, rfl, rfl, rfl, rfl, rfl, trivial⟩ ?_
                            exact key150 (Int.toNat (e.toInt) + 1) σ66 ((Int32.ofInt 0)) h67 h68 h69 h70 h71 h72 h73 h74 (by decide) (by decide) (by omega) (by first | exact toN_lt _ | omega)
                          · refine En_Ps 1 (pc' := 121) (lv' := [(0, .ref 159), (1, .int a), (2, .int b), (3, .int c), (4, .int d), (5, .int e), (6, .int y65)]) (st' := [.ref 159]) rfl ?_
                            refine En_getU (j := 35) (u := 180) (g' := 56) (q := 0) rfl rfl rfl tgz_159 (by decide +kernel) h67 (by decide +kernel) (by decide +kernel) (fun h118 => ?_)
                            refine En_Ps 2 (pc' := 127) (lv' := [(0, .ref 159), (1, .int a), (2, .int b), (3, .int c), (4, .int d), (5, .int e), (6, .int y65)]) (st' := [.ref 159, .int y65, .ref 180]) rfl ?_
                            refine En_getU (j := 34) (u := 179) (g' := 55) (q := 0) rfl rfl rfl tgz_159 (by decide +kernel) h67 (by decide +kernel) (by decide +kernel) (fun h120 => ?_)
                            refine En_Ps 3 (pc' := 134) (lv' := [(0, .ref 159), (1, .int a), (2, .int b), (3, .int c), (4, .int d), (5, .int e), (6, .int y65)]) (st' := [.int (((((Int8.ofInt 60).toInt32)) * a)), .ref 179, .int y65, .ref 180]) rfl ?_
                            refine En_top (mulI (by decide : ((Int8.ofInt 60).toInt32).toInt = 60) rfl (Z := 60 * a.toInt) (by first | exact q_7a16b37b72 | omega) (by omega) (by omega)) (fun z122 h123 => ?_)
                            refine En_Ps 2 (pc' := 136) (lv' := [(0, .ref 159), (1, .int a), (2, .int b), (3, .int c), (4, .int d), (5, .int e), (6, .int y65)]) (st' := [.int ((z122 + b)), .ref 179, .int y65, .ref 180]) rfl ?_
                            refine En_top (addI rfl rfl (by omega) (by omega)) (fun z124 h125 => ?_)
                            refine En_Ps 2 (pc' := 139) (lv' := [(0, .ref 159), (1, .int a), (2, .int b), (3, .int c), (4, .int d), (5, .int e), (6, .int y65)]) (st' := [.int ((z124 + y65)), .ref 179, .int y65, .ref 180]) rfl ?_
                            refine En_top (addI rfl rfl (by omega) (by omega)) (fun z126 h127 => ?_)
                            refine En_lald (l := (-9223372036854775808)) (u := 9223372036854775807) rfl rfl tgz_179 (by decide +kernel) h67 (by omega) (lnI (by decide +kernel : LN _ = 240) (by omega)) (FTsgl (by decide +kernel)) (fun z129 h128 h130 h131 => ?_)
                            refine En_last (l := (-9223372036854775808)) (u := 9223372036854775807) rfl rfl tgz_180 (by decide +kernel) (by first | exact q_58e6e51dcc h75 | omega) (lnI (by decide +kernel : LN _ = 60) (by omega)) (FTsgl (by decide +kernel)) (fullL _) h67 h68 (by decide +kernel) (fun σ132 h133 h134 h135 h136 => ?_)
                            refine En_Ps 1 (pc' := 144) (lv' := [(6, .int ((y65 + Int32.ofInt 1))), (0, .ref 159), (1, .int a), (2, .int b), (3, .int c), (4, .int d), (5, .int e)]) (st' := []) rfl ?_
                            refine En_lv1 (addI rfl (by decide : (Int32.ofInt 1).toInt = 1) (by first | exact q_465ab79ac1 h75 | omega) (by first | exact q_232407ab69 h76 | omega)) (fun z137 h138 => ?_)
                            refine En_Ps 1 (pc' := 113) (lv' := [(6, .int z137), (0, .ref 159), (1, .int a), (2, .int b), (3, .int c), (4, .int d), (5, .int e)]) (st' := []) rfl ?_
                            refine En_lv (lv := [(0, .ref 159), (1, .int a), (2, .int b), (3, .int c), (4, .int d), (5, .int e), (6, .int z137)]) ⟨rfl, rfl, rfl, rfl, rfl, rfl, rfl, trivial⟩ ?_
                            exact ih113 σ132 z137 h133 h134 ((h136 _ _ (Or.inl (neTG tgz_159 tgz_180 (by decide)))).trans h69) ((h136 _ _ (Or.inl (neTG tgz_177 tgz_180 (by decide)))).trans h70) ((h136 _ _ (Or.inl (neTG tgz_177 tgz_180 (by decide)))).trans h71) ((h136 _ _ (Or.inl (neTG tgz_159 tgz_180 (by decide)))).trans h72) ((h136 _ _ (Or.inl (neTG tgz_178 tgz_180 (by decide)))).trans h73) ((h136 _ _ (Or.inl (neTG tgz_178 tgz_180 (by decide)))).trans h74) (by first | exact q_35104ce9d3 h138 h75 | omega) (by omega) (by first | exact q_ae2dbf4292 h79 h138 | omega) (by first | exact q_8d03a5a7cb h138 h78 | omega)
                      have := (by decide : (Int32.ofInt 0).toInt = 0)
                      refine En_lv (lv := [(0, .ref 159), (1, .int a), (2, .int b), (3, .int c), (4, .int d), (5, .int e), (6, .int ((Int32.ofInt 0)))]) ⟨rfl, rfl, rfl, rfl, rfl, rfl, rfl, trivial⟩ ?_
                      exact key113 (Int.toNat (e.toInt) + 1) σ14 ((Int32.ofInt 0)) h15 h19 h21 h23 h30 h35 h37 h41 (by decide) (by decide) (by omega) (by first | exact toN_lt _ | omega)
                    · refine En_Ps 1 (pc' := 109) (lv' := [(0, .ref 159), (1, .int a), (2, .int b), (3, .int c), (4, .int d), (5, .int e)]) (st' := [.int (((Int8.ofInt (-7)).toInt32))]) rfl ?_
                      refine En_top (by decide : ((Int8.ofInt (-7)).toInt32).toInt = -7) (fun z139 h140 => ?_)
                      exact En_ret (v := some (.int z139)) rfl rfl rfl ⟨h15, h19, z139, rfl, ⟨by first | exact q_bed7a61884 h140 | omega, by first | exact q_d916b56ab6 h140 | omega⟩⟩
          · refine En_Ps 1 (pc' := 57) (lv' := [(0, .ref 159), (1, .int a), (2, .int b), (3, .int c), (4, .int d), (5, .int e)]) (st' := [.int (((Int8.ofInt (-8)).toInt32))]) rfl ?_
            refine En_top (by decide : ((Int8.ofInt (-8)).toInt32).toInt = -8) (fun z141 h142 => ?_)
            exact En_ret (v := some (.int z141)) rfl rfl rfl ⟨h15, h19, z141, rfl, ⟨by first | exact q_433a6fecb0 h142 | omega, by first | exact q_e64e7d08e3 h142 | omega⟩⟩
        · refine En_Ps 1 (pc' := 39) (lv' := [(0, .ref 159), (1, .int a), (2, .int b), (3, .int c), (4, .int d), (5, .int e)]) (st' := [.int (((Int8.ofInt (-6)).toInt32))]) rfl ?_
          refine En_top (by decide : ((Int8.ofInt (-6)).toInt32).toInt = -6) (fun z143 h144 => ?_)
          exact En_ret (v := some (.int z143)) rfl rfl rfl ⟨h15, h19, z143, rfl, ⟨by first | exact q_04810bc0c7 h144 | omega, by first | exact q_9bcb887de1 h144 | omega⟩⟩
    · refine En_Ps 1 (pc' := 16) (lv' := [(0, .ref 159), (1, .int a), (2, .int b), (3, .int c), (4, .int d), (5, .int e)]) (st' := [.int (((Int8.ofInt (-2)).toInt32))]) rfl ?_
      refine En_top (by decide : ((Int8.ofInt (-2)).toInt32).toInt = -2) (fun z145 h146 => ?_)
      exact En_ret (v := some (.int z145)) rfl rfl rfl ⟨h15, h19, z145, rfl, ⟨by first | exact q_a9585dd42b h146 | omega, by first | exact q_bbb39ffa1e h146 | omega⟩⟩

