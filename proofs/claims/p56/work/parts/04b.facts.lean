/-! the classes' words -/
theorem u_ws_in {C : String} {T : u_T} {N : Nat} (pl : List (Nat × Nat)) (h : (List.range N).all (fun k => isW (pl.getD k (0, 0)) (u_lay C T k)) = true) : ∀ w ∈ u_ws C T N, w ∈ TBL := by
  intro w hw
  obtain ⟨k, hk, rfl⟩ := List.mem_map.mp hw
  exact isW_in (List.all_eq_true.mp h k hk)
theorem cls_0 : ∀ w ∈ u_ws RX0 TX0 4, w ∈ TBL := u_ws_in [(1, 223), (1, 225), (1, 227), (1, 229)] (by decide +kernel)
theorem clsi_0 : Cond.instantiable RX0 4 ∈ TBL := isW_in (q := (1, 205)) (by decide +kernel)
theorem clsn_0 : Cond.initialized RX0 ∈ TBL := isW_in (q := (1, 11)) (by decide +kernel)
theorem clsd_0 (b : Nat → Nat) (base : Nat) : ∀ j, j < 4 → defaultValue (TYF 0 j) = vp_V ((DFL 0).map (gV b base)) j := fun j hj => match j, hj with
  | 0, _ => rfl
  | 1, _ => rfl
  | 2, _ => rfl
  | 3, _ => rfl
  | k + 4, h => absurd h (by omega)
theorem cls_1 : ∀ w ∈ u_ws RX1 TX1 6, w ∈ TBL := u_ws_in [(1, 138), (1, 140), (1, 142), (1, 144), (1, 146), (1, 148)] (by decide +kernel)
theorem clsi_1 : Cond.instantiable RX1 6 ∈ TBL := isW_in (q := (1, 124)) (by decide +kernel)
theorem clsn_1 : Cond.initialized RX1 ∈ TBL := isW_in (q := (1, 7)) (by decide +kernel)
theorem clsd_1 (b : Nat → Nat) (base : Nat) : ∀ j, j < 6 → defaultValue (TYF 1 j) = vp_V ((DFL 1).map (gV b base)) j := fun j hj => match j, hj with
  | 0, _ => rfl
  | 1, _ => rfl
  | 2, _ => rfl
  | 3, _ => rfl
  | 4, _ => rfl
  | 5, _ => rfl
  | k + 6, h => absurd h (by omega)
theorem cls_2 : ∀ w ∈ u_ws RX2 TX2 2, w ∈ TBL := u_ws_in [(1, 118), (1, 120)] (by decide +kernel)
theorem clsi_2 : Cond.instantiable RX2 2 ∈ TBL := isW_in (q := (1, 105)) (by decide +kernel)
theorem clsn_2 : Cond.initialized RX2 ∈ TBL := isW_in (q := (1, 5)) (by decide +kernel)
theorem clsd_2 (b : Nat → Nat) (base : Nat) : ∀ j, j < 2 → defaultValue (TYF 2 j) = vp_V ((DFL 2).map (gV b base)) j := fun j hj => match j, hj with
  | 0, _ => rfl
  | 1, _ => rfl
  | k + 2, h => absurd h (by omega)
theorem cls_3 : ∀ w ∈ u_ws RX3 TX3 3, w ∈ TBL := u_ws_in [(1, 198), (1, 200), (1, 202)] (by decide +kernel)
theorem clsi_3 : Cond.instantiable RX3 3 ∈ TBL := isW_in (q := (1, 183)) (by decide +kernel)
theorem clsn_3 : Cond.initialized RX3 ∈ TBL := isW_in (q := (1, 10)) (by decide +kernel)
theorem clsd_3 (b : Nat → Nat) (base : Nat) : ∀ j, j < 3 → defaultValue (TYF 3 j) = vp_V ((DFL 3).map (gV b base)) j := fun j hj => match j, hj with
  | 0, _ => rfl
  | 1, _ => rfl
  | 2, _ => rfl
  | k + 3, h => absurd h (by omega)
theorem cls_4 : ∀ w ∈ u_ws RX4 TX4 16, w ∈ TBL := u_ws_in [(2, 39), (2, 41), (2, 43), (2, 45), (2, 47), (2, 49), (2, 51), (2, 53), (2, 55), (2, 57), (2, 59), (2, 61), (2, 63), (2, 65), (2, 67), (2, 69)] (by decide +kernel)
theorem clsi_4 : Cond.instantiable RX4 16 ∈ TBL := isW_in (q := (1, 175)) (by decide +kernel)
theorem clsn_4 : Cond.initialized RX4 ∈ TBL := isW_in (q := (1, 9)) (by decide +kernel)
theorem clsd_4 (b : Nat → Nat) (base : Nat) : ∀ j, j < 16 → defaultValue (TYF 4 j) = vp_V ((DFL 4).map (gV b base)) j := fun j hj => match j, hj with
  | 0, _ => rfl
  | 1, _ => rfl
  | 2, _ => rfl
  | 3, _ => rfl
  | 4, _ => rfl
  | 5, _ => rfl
  | 6, _ => rfl
  | 7, _ => rfl
  | 8, _ => rfl
  | 9, _ => rfl
  | 10, _ => rfl
  | 11, _ => rfl
  | 12, _ => rfl
  | 13, _ => rfl
  | 14, _ => rfl
  | 15, _ => rfl
  | k + 16, h => absurd h (by omega)
theorem cls_5 : ∀ w ∈ u_ws RX5 TX5 7, w ∈ TBL := u_ws_in [(1, 61), (1, 63), (1, 65), (1, 67), (1, 69), (1, 71), (1, 73)] (by decide +kernel)
theorem clsi_5 : Cond.instantiable RX5 7 ∈ TBL := isW_in (q := (1, 47)) (by decide +kernel)
theorem clsn_5 : Cond.initialized RX5 ∈ TBL := isW_in (q := (1, 3)) (by decide +kernel)
theorem clsd_5 (b : Nat → Nat) (base : Nat) : ∀ j, j < 7 → defaultValue (TYF 5 j) = vp_V ((DFL 5).map (gV b base)) j := fun j hj => match j, hj with
  | 0, _ => rfl
  | 1, _ => rfl
  | 2, _ => rfl
  | 3, _ => rfl
  | 4, _ => rfl
  | 5, _ => rfl
  | 6, _ => rfl
  | k + 7, h => absurd h (by omega)
theorem cls_6 : ∀ w ∈ u_ws RX6 TX6 5, w ∈ TBL := u_ws_in [(1, 92), (1, 94), (1, 96), (1, 98), (1, 100)] (by decide +kernel)
theorem clsi_6 : Cond.instantiable RX6 5 ∈ TBL := isW_in (q := (1, 77)) (by decide +kernel)
theorem clsn_6 : Cond.initialized RX6 ∈ TBL := isW_in (q := (1, 4)) (by decide +kernel)
theorem clsd_6 (b : Nat → Nat) (base : Nat) : ∀ j, j < 5 → defaultValue (TYF 6 j) = vp_V ((DFL 6).map (gV b base)) j := fun j hj => match j, hj with
  | 0, _ => rfl
  | 1, _ => rfl
  | 2, _ => rfl
  | 3, _ => rfl
  | 4, _ => rfl
  | k + 5, h => absurd h (by omega)
theorem cls_7 : ∀ w ∈ u_ws RX7 TX7 4, w ∈ TBL := u_ws_in [(2, 88), (2, 90), (2, 92), (2, 94)] (by decide +kernel)
theorem clsi_7 : Cond.instantiable RX7 4 ∈ TBL := isW_in (q := (2, 75)) (by decide +kernel)
theorem clsn_7 : Cond.initialized RX7 ∈ TBL := isW_in (q := (1, 12)) (by decide +kernel)
theorem clsd_7 (b : Nat → Nat) (base : Nat) : ∀ j, j < 4 → defaultValue (TYF 7 j) = vp_V ((DFL 7).map (gV b base)) j := fun j hj => match j, hj with
  | 0, _ => rfl
  | 1, _ => rfl
  | 2, _ => rfl
  | 3, _ => rfl
  | k + 4, h => absurd h (by omega)
theorem cls_8 : ∀ w ∈ u_ws RX8 TX8 2, w ∈ TBL := u_ws_in [(1, 40), (1, 42)] (by decide +kernel)
theorem clsi_8 : Cond.instantiable RX8 2 ∈ TBL := isW_in (q := (1, 30)) (by decide +kernel)
theorem clsn_8 : Cond.initialized RX8 ∈ TBL := isW_in (q := (1, 2)) (by decide +kernel)
theorem clsd_8 (b : Nat → Nat) (base : Nat) : ∀ j, j < 2 → defaultValue (TYF 8 j) = vp_V ((DFL 8).map (gV b base)) j := fun j hj => match j, hj with
  | 0, _ => rfl
  | 1, _ => rfl
  | k + 2, h => absurd h (by omega)
theorem cls_9 : ∀ w ∈ u_ws RX9 TX9 5, w ∈ TBL := u_ws_in [(1, 163), (1, 165), (1, 167), (1, 169), (1, 171)] (by decide +kernel)
theorem clsi_9 : Cond.instantiable RX9 5 ∈ TBL := isW_in (q := (1, 152)) (by decide +kernel)
theorem clsn_9 : Cond.initialized RX9 ∈ TBL := isW_in (q := (1, 8)) (by decide +kernel)
theorem clsd_9 (b : Nat → Nat) (base : Nat) : ∀ j, j < 5 → defaultValue (TYF 9 j) = vp_V ((DFL 9).map (gV b base)) j := fun j hj => match j, hj with
  | 0, _ => rfl
  | 1, _ => rfl
  | 2, _ => rfl
  | 3, _ => rfl
  | 4, _ => rfl
  | k + 5, h => absurd h (by omega)
theorem cls_10 : ∀ w ∈ u_ws RX10 TX10 11, w ∈ TBL := u_ws_in [(2, 110), (2, 112), (2, 114), (2, 116), (2, 118), (2, 120), (2, 122), (2, 124), (2, 126), (2, 128), (2, 130)] (by decide +kernel)
theorem clsi_10 : Cond.instantiable RX10 11 ∈ TBL := isW_in (q := (1, 22)) (by decide +kernel)
theorem clsn_10 : Cond.initialized RX10 ∈ TBL := isW_in (q := (1, 1)) (by decide +kernel)
theorem clsd_10 (b : Nat → Nat) (base : Nat) : ∀ j, j < 11 → defaultValue (TYF 10 j) = vp_V ((DFL 10).map (gV b base)) j := fun j hj => match j, hj with
  | 0, _ => rfl
  | 1, _ => rfl
  | 2, _ => rfl
  | 3, _ => rfl
  | 4, _ => rfl
  | 5, _ => rfl
  | 6, _ => rfl
  | 7, _ => rfl
  | 8, _ => rfl
  | 9, _ => rfl
  | 10, _ => rfl
  | k + 11, h => absurd h (by omega)
theorem cls_11 : ∀ w ∈ u_ws RX11 TX11 36, w ∈ TBL := u_ws_in [(5, 225), (5, 227), (5, 229), (5, 231), (5, 233), (5, 235), (5, 237), (5, 239), (6, 1), (6, 3), (6, 5), (6, 7), (6, 9), (6, 11), (6, 13), (6, 15), (6, 17), (6, 19), (6, 21), (6, 23), (6, 25), (6, 27), (6, 29), (6, 31), (6, 33), (6, 35), (6, 37), (6, 39), (6, 41), (6, 43), (6, 45), (6, 47), (6, 49), (6, 51), (6, 53), (6, 55)] (by decide +kernel)
theorem clsi_11 : Cond.instantiable RX11 36 ∈ TBL := isW_in (q := (5, 185)) (by decide +kernel)
theorem clsn_11 : Cond.initialized RX11 ∈ TBL := isW_in (q := (1, 13)) (by decide +kernel)
theorem clsd_11 (b : Nat → Nat) (base : Nat) : ∀ j, j < 36 → defaultValue (TYF 11 j) = vp_V ((DFL 11).map (gV b base)) j := fun j hj => match j, hj with
  | 0, _ => rfl
  | 1, _ => rfl
  | 2, _ => rfl
  | 3, _ => rfl
  | 4, _ => rfl
  | 5, _ => rfl
  | 6, _ => rfl
  | 7, _ => rfl
  | 8, _ => rfl
  | 9, _ => rfl
  | 10, _ => rfl
  | 11, _ => rfl
  | 12, _ => rfl
  | 13, _ => rfl
  | 14, _ => rfl
  | 15, _ => rfl
  | 16, _ => rfl
  | 17, _ => rfl
  | 18, _ => rfl
  | 19, _ => rfl
  | 20, _ => rfl
  | 21, _ => rfl
  | 22, _ => rfl
  | 23, _ => rfl
  | 24, _ => rfl
  | 25, _ => rfl
  | 26, _ => rfl
  | 27, _ => rfl
  | 28, _ => rfl
  | 29, _ => rfl
  | 30, _ => rfl
  | 31, _ => rfl
  | 32, _ => rfl
  | 33, _ => rfl
  | 34, _ => rfl
  | 35, _ => rfl
  | k + 36, h => absurd h (by omega)
theorem CLS_in {ci : Nat} {C : String} {T : u_T} {N : Nat} (h : vwCl[ci]? = some (C, T, N)) : ∀ w ∈ u_ws C T N, w ∈ TBL := by
  match ci, h with
  | 0, h => cases (show some (RX0, TX0, 4) = some (C, T, N) from h); exact cls_0
  | 1, h => cases (show some (RX1, TX1, 6) = some (C, T, N) from h); exact cls_1
  | 2, h => cases (show some (RX2, TX2, 2) = some (C, T, N) from h); exact cls_2
  | 3, h => cases (show some (RX3, TX3, 3) = some (C, T, N) from h); exact cls_3
  | 4, h => cases (show some (RX4, TX4, 16) = some (C, T, N) from h); exact cls_4
  | 5, h => cases (show some (RX5, TX5, 7) = some (C, T, N) from h); exact cls_5
  | 6, h => cases (show some (RX6, TX6, 5) = some (C, T, N) from h); exact cls_6
  | 7, h => cases (show some (RX7, TX7, 4) = some (C, T, N) from h); exact cls_7
  | 8, h => cases (show some (RX8, TX8, 2) = some (C, T, N) from h); exact cls_8
  | 9, h => cases (show some (RX9, TX9, 5) = some (C, T, N) from h); exact cls_9
  | 10, h => cases (show some (RX10, TX10, 11) = some (C, T, N) from h); exact cls_10
  | 11, h => cases (show some (RX11, TX11, 36) = some (C, T, N) from h); exact cls_11
  | k + 12, h => exact absurd h (by intro z; cases z)
theorem CLS_ty {ci : Nat} {C : String} {T : u_T} {N : Nat} (h : vwCl[ci]? = some (C, T, N)) : (∀ k, k < N → parseFieldDescriptor (T k).2.2.1 = some (TYF ci k)) ∧ ∀ a, a < N → ∀ b, b < N → a ≠ b → (T a).2.1 ≠ (T b).2.1 := by
  match ci, h with
  | 0, h => cases (show some (RX0, TX0, 4) = some (C, T, N) from h); exact ⟨tyX0_ok, nmX0⟩
  | 1, h => cases (show some (RX1, TX1, 6) = some (C, T, N) from h); exact ⟨tyX1_ok, nmX1⟩
  | 2, h => cases (show some (RX2, TX2, 2) = some (C, T, N) from h); exact ⟨tyX2_ok, nmX2⟩
  | 3, h => cases (show some (RX3, TX3, 3) = some (C, T, N) from h); exact ⟨tyX3_ok, nmX3⟩
  | 4, h => cases (show some (RX4, TX4, 16) = some (C, T, N) from h); exact ⟨tyX4_ok, nmX4⟩
  | 5, h => cases (show some (RX5, TX5, 7) = some (C, T, N) from h); exact ⟨tyX5_ok, nmX5⟩
  | 6, h => cases (show some (RX6, TX6, 5) = some (C, T, N) from h); exact ⟨tyX6_ok, nmX6⟩
  | 7, h => cases (show some (RX7, TX7, 4) = some (C, T, N) from h); exact ⟨tyX7_ok, nmX7⟩
  | 8, h => cases (show some (RX8, TX8, 2) = some (C, T, N) from h); exact ⟨tyX8_ok, nmX8⟩
  | 9, h => cases (show some (RX9, TX9, 5) = some (C, T, N) from h); exact ⟨tyX9_ok, nmX9⟩
  | 10, h => cases (show some (RX10, TX10, 11) = some (C, T, N) from h); exact ⟨tyX10_ok, nmX10⟩
  | 11, h => cases (show some (RX11, TX11, 36) = some (C, T, N) from h); exact ⟨tyX11_ok, nmX11⟩
  | k + 12, h => exact absurd h (by intro z; cases z)
theorem CLS_new {ci : Nat} {C : String} {T : u_T} {N : Nat} (h : vwCl[ci]? = some (C, T, N)) : Cond.instantiable C N ∈ TBL ∧ Cond.initialized C ∈ TBL ∧ (DFL ci).length = N ∧ ∀ (b : Nat → Nat) (base j : Nat), j < N → defaultValue (TYF ci j) = vp_V ((DFL ci).map (gV b base)) j := by
  match ci, h with
  | 0, h => cases (show some (RX0, TX0, 4) = some (C, T, N) from h); exact ⟨clsi_0, clsn_0, rfl, clsd_0⟩
  | 1, h => cases (show some (RX1, TX1, 6) = some (C, T, N) from h); exact ⟨clsi_1, clsn_1, rfl, clsd_1⟩
  | 2, h => cases (show some (RX2, TX2, 2) = some (C, T, N) from h); exact ⟨clsi_2, clsn_2, rfl, clsd_2⟩
  | 3, h => cases (show some (RX3, TX3, 3) = some (C, T, N) from h); exact ⟨clsi_3, clsn_3, rfl, clsd_3⟩
  | 4, h => cases (show some (RX4, TX4, 16) = some (C, T, N) from h); exact ⟨clsi_4, clsn_4, rfl, clsd_4⟩
  | 5, h => cases (show some (RX5, TX5, 7) = some (C, T, N) from h); exact ⟨clsi_5, clsn_5, rfl, clsd_5⟩
  | 6, h => cases (show some (RX6, TX6, 5) = some (C, T, N) from h); exact ⟨clsi_6, clsn_6, rfl, clsd_6⟩
  | 7, h => cases (show some (RX7, TX7, 4) = some (C, T, N) from h); exact ⟨clsi_7, clsn_7, rfl, clsd_7⟩
  | 8, h => cases (show some (RX8, TX8, 2) = some (C, T, N) from h); exact ⟨clsi_8, clsn_8, rfl, clsd_8⟩
  | 9, h => cases (show some (RX9, TX9, 5) = some (C, T, N) from h); exact ⟨clsi_9, clsn_9, rfl, clsd_9⟩
  | 10, h => cases (show some (RX10, TX10, 11) = some (C, T, N) from h); exact ⟨clsi_10, clsn_10, rfl, clsd_10⟩
  | 11, h => cases (show some (RX11, TX11, 36) = some (C, T, N) from h); exact ⟨clsi_11, clsn_11, rfl, clsd_11⟩
  | k + 12, h => exact absurd h (by intro z; cases z)
theorem ARR_int : Cond.arrayClass .int ∈ TBL := isW_in (q := (1, 103)) (by decide +kernel)
theorem ARR_long : Cond.arrayClass .long ∈ TBL := isW_in (q := (2, 98)) (by decide +kernel)
theorem ARR_byte : Cond.arrayClass .byte ∈ TBL := isW_in (q := (1, 45)) (by decide +kernel)
theorem ARR_boolean : Cond.arrayClass .boolean ∈ TBL := isW_in (q := (2, 97)) (by decide +kernel)
theorem ACN_native : Cond.native arraycopyName ∈ TBL := isW_in (q := (5, 10)) (by decide +kernel)
theorem ACN_static : Cond.static arraycopyName ∈ TBL := isW_in (q := (5, 9)) (by decide +kernel)
theorem ACN_init : Cond.initialized "java/lang/System" ∈ TBL := isW_in (q := (1, 20)) (by decide +kernel)
theorem OBJ_inst : Cond.instanceMethod objectInit ∈ TBL := isW_in (q := (1, 27)) (by decide +kernel)
theorem OBJ_code : Cond.code objectInit ⟨#[0xb1]⟩ 1 none ∈ TBL := isW_in (q := (1, 28)) (by decide +kernel)

