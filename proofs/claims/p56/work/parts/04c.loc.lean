/-! an instruction is read from its own bytes alone -/
section LOC
def AG (b c : ByteArray) (p q : Nat) : Prop := ∀ k v, c.data.toList[q + k]? = some v → b.data.toList[p + k]? = some v
theorem AG_s {b c : ByteArray} {p q : Nat} (h : AG b c p q) (m : Nat) : AG b c (p + m) (q + m) := fun k v e => by
  rw [Nat.add_assoc] at e ⊢
  exact h (m + k) v e
def RD2 {α : Type} (r r' : Decoder α) : Prop := ∀ (b c : ByteArray) (p q : Nat), AG b c p q → ∀ x q', r' c q = .ok (x, q') → ∃ m, q' = q + m ∧ r b p = .ok (x, p + m)
theorem RD2_pure {α : Type} (x : α) : RD2 (pure x : Decoder α) (pure x) := fun b c p q _ y q' e => by
  have e : (Except.ok (x, q) : Except _ _) = .ok (y, q') := e
  injection e with e
  injection e with e1 e2
  subst e1 e2
  exact ⟨0, rfl, rfl⟩
theorem RD2_throw {α : Type} (e e' : DecodeError) : RD2 (throw e : Decoder α) (throw e') := fun b c p q _ y q' h => by
  have h : (Except.error e' : Except _ _) = .ok (y, q') := h
  cases h
theorem bind_ok {α β : Type} {r : Decoder α} {f : α → Decoder β} {c : ByteArray} {q q1 : Nat} {y : α} (h : r c q = .ok (y, q1)) : (r >>= f) c q = f y c q1 := by
  show Except.bind (r c q) (fun z => f z.1 c z.2) = _
  rw [h]
  rfl
theorem RD2_bind {α β : Type} {r r' : Decoder α} {f f' : α → Decoder β} (h : RD2 r r') (hf : ∀ x, RD2 (f x) (f' x)) : RD2 (r >>= f) (r' >>= f') := fun b c p q hy x q' e => by
  have e : Except.bind (r' c q) (fun z => f' z.1 c z.2) = .ok (x, q') := e
  cases hr : r' c q with
  | error er =>
    rw [hr] at e
    cases e
  | ok y =>
    obtain ⟨y1, y2⟩ := y
    rw [hr] at e
    have e : f' y1 c y2 = .ok (x, q') := e
    obtain ⟨m, hm, h1⟩ := h b c p q hy y1 y2 hr
    subst hm
    obtain ⟨m2, hm2, h2⟩ := hf y1 b c (p + m) (q + m) (AG_s hy m) x q' e
    refine ⟨m + m2, by omega, ?_⟩
    rw [bind_ok h1, h2, Nat.add_assoc]
theorem u1_ok {b : ByteArray} {p : Nat} {v : UInt8} (h : b.data.toList[p]? = some v) : (Reader.u1 : Decoder Nat) b p = .ok (v.toNat, p + 1) := by
  obtain ⟨hl, he⟩ := List.getElem?_eq_some_iff.mp h
  have h1 : p < b.size := hl
  have e : (Reader.u1 : Decoder Nat) b p = (if h : p < b.size then .ok (b[p].toNat, p + 1) else .error (HasTruncated.truncated p)) := by
    show (dite (p < b.size) _ _ : Decoder Nat) b p = _
    by_cases z : p < b.size
    · rw [dif_pos z, dif_pos z]; rfl
    · rw [dif_neg z, dif_neg z]; rfl
  rw [e, dif_pos h1]
  have g : b[p] = v := he
  rw [g]
theorem u1_inv {c : ByteArray} {q x q' : Nat} (h : (Reader.u1 : Decoder Nat) c q = .ok (x, q')) : ∃ v, c.data.toList[q]? = some v ∧ x = v.toNat ∧ q' = q + 1 := by
  have e : (Reader.u1 : Decoder Nat) c q = (if h : q < c.size then .ok (c[q].toNat, q + 1) else .error (HasTruncated.truncated q)) := by
    show (dite (q < c.size) _ _ : Decoder Nat) c q = _
    by_cases z : q < c.size
    · rw [dif_pos z, dif_pos z]; rfl
    · rw [dif_neg z, dif_neg z]; rfl
  rw [e] at h
  by_cases z : q < c.size
  · rw [dif_pos z] at h
    injection h with h
    injection h with h1 h2
    exact ⟨c[q], List.getElem?_eq_some_iff.mpr ⟨z, rfl⟩, h1.symm, h2.symm⟩
  · rw [dif_neg z] at h
    cases h
theorem RD2_u1 : RD2 (Reader.u1 : Decoder Nat) Reader.u1 := fun b c p q hy x q' e => by
  obtain ⟨v, h1, rfl, rfl⟩ := u1_inv e
  exact ⟨1, rfl, u1_ok (hy 0 v h1)⟩
theorem RD2_map {α β : Type} {r r' : Decoder α} (g : α → β) (h : RD2 r r') : RD2 (g <$> r) (g <$> r') := by
  rw [map_eq_pure_bind, map_eq_pure_bind]
  exact RD2_bind h (fun _ => RD2_pure _)
theorem RD2_u2 : RD2 (Reader.u2 : Decoder Nat) Reader.u2 := RD2_bind RD2_u1 (fun _ => RD2_bind RD2_u1 (fun _ => RD2_pure _))
theorem RD2_s1 : RD2 (Reader.s1 : Decoder Int) Reader.s1 := RD2_map _ RD2_u1
theorem RD2_s2 : RD2 (Reader.s2 : Decoder Int) Reader.s2 := RD2_map _ RD2_u2
theorem fin1 {r r' : Decoder Instr} {b c : ByteArray} {pc q' : Nat} {x : Instr} (h : RD2 r r') (hy : AG b c (pc + 1) (0 + 1)) (e : r' c (0 + 1) = .ok (x, q')) : ∃ m, q' = 0 + m ∧ r b (pc + 1) = .ok (x, pc + m) := by
  obtain ⟨m, h1, h2⟩ := h b c (pc + 1) (0 + 1) hy x q' e
  exact ⟨1 + m, by omega, by rw [h2, Nat.add_assoc]⟩
set_option maxRecDepth 4000 in
set_option maxHeartbeats 4000000 in
theorem in_p0 {b c : ByteArray} {pc : Nat} {v : UInt8} (hy : AG b c pc 0) (hv : c.data.toList[0]? = some v) {x : Instr} {q' : Nat} (e : (Decoder.instr 0) c 0 = .ok (x, q')) (hop : v.toNat ∈ [0, 1, 2, 3, 4, 5, 6, 7, 8, 9, 10, 11, 12, 13, 14, 15, 26, 27, 28, 29, 30, 31, 32, 33, 34, 35, 36, 37, 38, 39, 40, 41, 42, 43, 44, 45, 46, 47, 48, 49]) : ∃ m, q' = 0 + m ∧ (Decoder.instr pc) b pc = .ok (x, pc + m) := by
  have e1 := u1_ok (p := 0) hv
  have e2 := u1_ok (p := pc) (hy 0 v hv)
  have hz := AG_s hy 1
  unfold Decoder.instr at e ⊢
  rw [bind_ok e1] at e
  rw [bind_ok e2]
  simp only [List.mem_cons, List.not_mem_nil, or_false] at hop
  generalize v.toNat = op at e hop ⊢
  rcases hop with rfl | rfl | rfl | rfl | rfl | rfl | rfl | rfl | rfl | rfl | rfl | rfl | rfl | rfl | rfl | rfl | rfl | rfl | rfl | rfl | rfl | rfl | rfl | rfl | rfl | rfl | rfl | rfl | rfl | rfl | rfl | rfl | rfl | rfl | rfl | rfl | rfl | rfl | rfl | rfl <;> exact fin1 (RD2_pure _) hz e
set_option maxRecDepth 4000 in
set_option maxHeartbeats 4000000 in
theorem in_p1 {b c : ByteArray} {pc : Nat} {v : UInt8} (hy : AG b c pc 0) (hv : c.data.toList[0]? = some v) {x : Instr} {q' : Nat} (e : (Decoder.instr 0) c 0 = .ok (x, q')) (hop : v.toNat ∈ [50, 51, 52, 53, 59, 60, 61, 62, 63, 64, 65, 66, 67, 68, 69, 70, 71, 72, 73, 74, 75, 76, 77, 78, 79, 80, 81, 82, 83, 84, 85, 86, 87, 88, 89, 90, 91, 92, 93, 94]) : ∃ m, q' = 0 + m ∧ (Decoder.instr pc) b pc = .ok (x, pc + m) := by
  have e1 := u1_ok (p := 0) hv
  have e2 := u1_ok (p := pc) (hy 0 v hv)
  have hz := AG_s hy 1
  unfold Decoder.instr at e ⊢
  rw [bind_ok e1] at e
  rw [bind_ok e2]
  simp only [List.mem_cons, List.not_mem_nil, or_false] at hop
  generalize v.toNat = op at e hop ⊢
  rcases hop with rfl | rfl | rfl | rfl | rfl | rfl | rfl | rfl | rfl | rfl | rfl | rfl | rfl | rfl | rfl | rfl | rfl | rfl | rfl | rfl | rfl | rfl | rfl | rfl | rfl | rfl | rfl | rfl | rfl | rfl | rfl | rfl | rfl | rfl | rfl | rfl | rfl | rfl | rfl | rfl <;> exact fin1 (RD2_pure _) hz e
set_option maxRecDepth 4000 in
set_option maxHeartbeats 4000000 in
theorem in_p2 {b c : ByteArray} {pc : Nat} {v : UInt8} (hy : AG b c pc 0) (hv : c.data.toList[0]? = some v) {x : Instr} {q' : Nat} (e : (Decoder.instr 0) c 0 = .ok (x, q')) (hop : v.toNat ∈ [95, 96, 97, 98, 99, 100, 101, 102, 103, 104, 105, 106, 107, 108, 109, 110, 111, 112, 113, 114, 115, 116, 117, 118, 119, 120, 121, 122, 123, 124, 125, 126, 127, 128, 129, 130, 131, 133, 134, 135]) : ∃ m, q' = 0 + m ∧ (Decoder.instr pc) b pc = .ok (x, pc + m) := by
  have e1 := u1_ok (p := 0) hv
  have e2 := u1_ok (p := pc) (hy 0 v hv)
  have hz := AG_s hy 1
  unfold Decoder.instr at e ⊢
  rw [bind_ok e1] at e
  rw [bind_ok e2]
  simp only [List.mem_cons, List.not_mem_nil, or_false] at hop
  generalize v.toNat = op at e hop ⊢
  rcases hop with rfl | rfl | rfl | rfl | rfl | rfl | rfl | rfl | rfl | rfl | rfl | rfl | rfl | rfl | rfl | rfl | rfl | rfl | rfl | rfl | rfl | rfl | rfl | rfl | rfl | rfl | rfl | rfl | rfl | rfl | rfl | rfl | rfl | rfl | rfl | rfl | rfl | rfl | rfl | rfl <;> exact fin1 (RD2_pure _) hz e
set_option maxRecDepth 4000 in
set_option maxHeartbeats 4000000 in
theorem in_p3 {b c : ByteArray} {pc : Nat} {v : UInt8} (hy : AG b c pc 0) (hv : c.data.toList[0]? = some v) {x : Instr} {q' : Nat} (e : (Decoder.instr 0) c 0 = .ok (x, q')) (hop : v.toNat ∈ [136, 137, 138, 139, 140, 141, 142, 143, 144, 145, 146, 147, 148, 149, 150, 151, 152, 172, 173, 174, 175, 176, 177, 190, 191, 194, 195]) : ∃ m, q' = 0 + m ∧ (Decoder.instr pc) b pc = .ok (x, pc + m) := by
  have e1 := u1_ok (p := 0) hv
  have e2 := u1_ok (p := pc) (hy 0 v hv)
  have hz := AG_s hy 1
  unfold Decoder.instr at e ⊢
  rw [bind_ok e1] at e
  rw [bind_ok e2]
  simp only [List.mem_cons, List.not_mem_nil, or_false] at hop
  generalize v.toNat = op at e hop ⊢
  rcases hop with rfl | rfl | rfl | rfl | rfl | rfl | rfl | rfl | rfl | rfl | rfl | rfl | rfl | rfl | rfl | rfl | rfl | rfl | rfl | rfl | rfl | rfl | rfl | rfl | rfl | rfl | rfl <;> exact fin1 (RD2_pure _) hz e
set_option maxRecDepth 4000 in
set_option maxHeartbeats 4000000 in
theorem in_u0 {b c : ByteArray} {pc : Nat} {v : UInt8} (hy : AG b c pc 0) (hv : c.data.toList[0]? = some v) {x : Instr} {q' : Nat} (e : (Decoder.instr 0) c 0 = .ok (x, q')) (hop : v.toNat ∈ [18, 21, 22, 23, 24, 25, 54, 55, 56, 57, 58, 169]) : ∃ m, q' = 0 + m ∧ (Decoder.instr pc) b pc = .ok (x, pc + m) := by
  have e1 := u1_ok (p := 0) hv
  have e2 := u1_ok (p := pc) (hy 0 v hv)
  have hz := AG_s hy 1
  unfold Decoder.instr at e ⊢
  rw [bind_ok e1] at e
  rw [bind_ok e2]
  simp only [List.mem_cons, List.not_mem_nil, or_false] at hop
  generalize v.toNat = op at e hop ⊢
  rcases hop with rfl | rfl | rfl | rfl | rfl | rfl | rfl | rfl | rfl | rfl | rfl | rfl <;> exact fin1 (RD2_bind RD2_u1 (fun _ => RD2_pure _)) hz e
set_option maxRecDepth 4000 in
set_option maxHeartbeats 4000000 in
theorem in_t0 {b c : ByteArray} {pc : Nat} {v : UInt8} (hy : AG b c pc 0) (hv : c.data.toList[0]? = some v) {x : Instr} {q' : Nat} (e : (Decoder.instr 0) c 0 = .ok (x, q')) (hop : v.toNat ∈ [16]) : ∃ m, q' = 0 + m ∧ (Decoder.instr pc) b pc = .ok (x, pc + m) := by
  have e1 := u1_ok (p := 0) hv
  have e2 := u1_ok (p := pc) (hy 0 v hv)
  have hz := AG_s hy 1
  unfold Decoder.instr at e ⊢
  rw [bind_ok e1] at e
  rw [bind_ok e2]
  simp only [List.mem_cons, List.not_mem_nil, or_false] at hop
  generalize v.toNat = op at e hop ⊢
  subst hop
  exact fin1 (RD2_bind RD2_s1 (fun _ => RD2_pure _)) hz e
set_option maxRecDepth 4000 in
set_option maxHeartbeats 4000000 in
theorem in_s0 {b c : ByteArray} {pc : Nat} {v : UInt8} (hy : AG b c pc 0) (hv : c.data.toList[0]? = some v) {x : Instr} {q' : Nat} (e : (Decoder.instr 0) c 0 = .ok (x, q')) (hop : v.toNat ∈ [17, 153, 154, 155, 156, 157, 158, 159, 160, 161, 162, 163, 164, 165, 166, 167, 168, 198, 199]) : ∃ m, q' = 0 + m ∧ (Decoder.instr pc) b pc = .ok (x, pc + m) := by
  have e1 := u1_ok (p := 0) hv
  have e2 := u1_ok (p := pc) (hy 0 v hv)
  have hz := AG_s hy 1
  unfold Decoder.instr at e ⊢
  rw [bind_ok e1] at e
  rw [bind_ok e2]
  simp only [List.mem_cons, List.not_mem_nil, or_false] at hop
  generalize v.toNat = op at e hop ⊢
  rcases hop with rfl | rfl | rfl | rfl | rfl | rfl | rfl | rfl | rfl | rfl | rfl | rfl | rfl | rfl | rfl | rfl | rfl | rfl | rfl <;> exact fin1 (RD2_bind RD2_s2 (fun _ => RD2_pure _)) hz e
set_option maxRecDepth 4000 in
set_option maxHeartbeats 4000000 in
theorem in_w0 {b c : ByteArray} {pc : Nat} {v : UInt8} (hy : AG b c pc 0) (hv : c.data.toList[0]? = some v) {x : Instr} {q' : Nat} (e : (Decoder.instr 0) c 0 = .ok (x, q')) (hop : v.toNat ∈ [19, 20, 178, 179, 180, 181, 182, 183, 184, 187, 189, 192, 193]) : ∃ m, q' = 0 + m ∧ (Decoder.instr pc) b pc = .ok (x, pc + m) := by
  have e1 := u1_ok (p := 0) hv
  have e2 := u1_ok (p := pc) (hy 0 v hv)
  have hz := AG_s hy 1
  unfold Decoder.instr at e ⊢
  rw [bind_ok e1] at e
  rw [bind_ok e2]
  simp only [List.mem_cons, List.not_mem_nil, or_false] at hop
  generalize v.toNat = op at e hop ⊢
  rcases hop with rfl | rfl | rfl | rfl | rfl | rfl | rfl | rfl | rfl | rfl | rfl | rfl | rfl <;> exact fin1 (RD2_bind RD2_u2 (fun _ => RD2_pure _)) hz e
set_option maxRecDepth 4000 in
set_option maxHeartbeats 4000000 in
theorem in_i0 {b c : ByteArray} {pc : Nat} {v : UInt8} (hy : AG b c pc 0) (hv : c.data.toList[0]? = some v) {x : Instr} {q' : Nat} (e : (Decoder.instr 0) c 0 = .ok (x, q')) (hop : v.toNat ∈ [132]) : ∃ m, q' = 0 + m ∧ (Decoder.instr pc) b pc = .ok (x, pc + m) := by
  have e1 := u1_ok (p := 0) hv
  have e2 := u1_ok (p := pc) (hy 0 v hv)
  have hz := AG_s hy 1
  unfold Decoder.instr at e ⊢
  rw [bind_ok e1] at e
  rw [bind_ok e2]
  simp only [List.mem_cons, List.not_mem_nil, or_false] at hop
  generalize v.toNat = op at e hop ⊢
  subst hop
  exact fin1 (RD2_bind RD2_u1 (fun _ => RD2_bind RD2_s1 (fun _ => RD2_pure _))) hz e
set_option maxRecDepth 4000 in
set_option maxHeartbeats 4000000 in
theorem in_n0 {b c : ByteArray} {pc : Nat} {v : UInt8} (hy : AG b c pc 0) (hv : c.data.toList[0]? = some v) {x : Instr} {q' : Nat} (e : (Decoder.instr 0) c 0 = .ok (x, q')) (hop : v.toNat ∈ [188]) : ∃ m, q' = 0 + m ∧ (Decoder.instr pc) b pc = .ok (x, pc + m) := by
  have e1 := u1_ok (p := 0) hv
  have e2 := u1_ok (p := pc) (hy 0 v hv)
  have hz := AG_s hy 1
  unfold Decoder.instr at e ⊢
  rw [bind_ok e1] at e
  rw [bind_ok e2]
  simp only [List.mem_cons, List.not_mem_nil, or_false] at hop
  generalize v.toNat = op at e hop ⊢
  subst hop
  exact fin1 (RD2_bind RD2_u1 (fun z => by split <;> first | exact RD2_pure _ | exact RD2_throw _ _)) hz e
def okOp (n : Nat) : Bool := (Nat.ble 0 n && Nat.ble n 169) || (Nat.ble 172 n && Nat.ble n 184) || (Nat.ble 187 n && Nat.ble n 195) || (Nat.ble 198 n && Nat.ble n 199)
theorem okOp_lt {n : Nat} (h : n < 256) (k : okOp n = true) : (n ∈ [0, 1, 2, 3, 4, 5, 6, 7, 8, 9, 10, 11, 12, 13, 14, 15, 26, 27, 28, 29, 30, 31, 32, 33, 34, 35, 36, 37, 38, 39, 40, 41, 42, 43, 44, 45, 46, 47, 48, 49]) ∨ (n ∈ [50, 51, 52, 53, 59, 60, 61, 62, 63, 64, 65, 66, 67, 68, 69, 70, 71, 72, 73, 74, 75, 76, 77, 78, 79, 80, 81, 82, 83, 84, 85, 86, 87, 88, 89, 90, 91, 92, 93, 94]) ∨ (n ∈ [95, 96, 97, 98, 99, 100, 101, 102, 103, 104, 105, 106, 107, 108, 109, 110, 111, 112, 113, 114, 115, 116, 117, 118, 119, 120, 121, 122, 123, 124, 125, 126, 127, 128, 129, 130, 131, 133, 134, 135]) ∨ (n ∈ [136, 137, 138, 139, 140, 141, 142, 143, 144, 145, 146, 147, 148, 149, 150, 151, 152, 172, 173, 174, 175, 176, 177, 190, 191, 194, 195]) ∨ (n ∈ [18, 21, 22, 23, 24, 25, 54, 55, 56, 57, 58, 169]) ∨ (n ∈ [16]) ∨ (n ∈ [17, 153, 154, 155, 156, 157, 158, 159, 160, 161, 162, 163, 164, 165, 166, 167, 168, 198, 199]) ∨ (n ∈ [19, 20, 178, 179, 180, 181, 182, 183, 184, 187, 189, 192, 193]) ∨ (n ∈ [132]) ∨ (n ∈ [188]) := by
  have key : ∀ j : Fin 256, okOp j.val = true → (j.val ∈ [0, 1, 2, 3, 4, 5, 6, 7, 8, 9, 10, 11, 12, 13, 14, 15, 26, 27, 28, 29, 30, 31, 32, 33, 34, 35, 36, 37, 38, 39, 40, 41, 42, 43, 44, 45, 46, 47, 48, 49]) ∨ (j.val ∈ [50, 51, 52, 53, 59, 60, 61, 62, 63, 64, 65, 66, 67, 68, 69, 70, 71, 72, 73, 74, 75, 76, 77, 78, 79, 80, 81, 82, 83, 84, 85, 86, 87, 88, 89, 90, 91, 92, 93, 94]) ∨ (j.val ∈ [95, 96, 97, 98, 99, 100, 101, 102, 103, 104, 105, 106, 107, 108, 109, 110, 111, 112, 113, 114, 115, 116, 117, 118, 119, 120, 121, 122, 123, 124, 125, 126, 127, 128, 129, 130, 131, 133, 134, 135]) ∨ (j.val ∈ [136, 137, 138, 139, 140, 141, 142, 143, 144, 145, 146, 147, 148, 149, 150, 151, 152, 172, 173, 174, 175, 176, 177, 190, 191, 194, 195]) ∨ (j.val ∈ [18, 21, 22, 23, 24, 25, 54, 55, 56, 57, 58, 169]) ∨ (j.val ∈ [16]) ∨ (j.val ∈ [17, 153, 154, 155, 156, 157, 158, 159, 160, 161, 162, 163, 164, 165, 166, 167, 168, 198, 199]) ∨ (j.val ∈ [19, 20, 178, 179, 180, 181, 182, 183, 184, 187, 189, 192, 193]) ∨ (j.val ∈ [132]) ∨ (j.val ∈ [188]) := by decide +kernel
  exact key ⟨n, h⟩ k
theorem instr_loc {b c : ByteArray} {pc : Nat} {v : UInt8} (hy : AG b c pc 0) (hv : c.data.toList[0]? = some v) {x : Instr} {q' : Nat} (e : (Decoder.instr 0) c 0 = .ok (x, q')) (hop : okOp v.toNat = true) : ∃ m, q' = 0 + m ∧ (Decoder.instr pc) b pc = .ok (x, pc + m) := by
  rcases okOp_lt v.toNat_lt hop with h | h | h | h | h | h | h | h | h | h
  · exact in_p0 hy hv e h
  · exact in_p1 hy hv e h
  · exact in_p2 hy hv e h
  · exact in_p3 hy hv e h
  · exact in_u0 hy hv e h
  · exact in_t0 hy hv e h
  · exact in_s0 hy hv e h
  · exact in_w0 hy hv e h
  · exact in_i0 hy hv e h
  · exact in_n0 hy hv e h
theorem dec_loc {b c : ByteArray} {pc n : Nat} {v : UInt8} {i : Instr} (hy : AG b c pc 0) (hv : c.data.toList[0]? = some v) (hop : okOp v.toNat = true) (e : decode c 0 = .ok (i, n)) : decode b pc = .ok (i, n) := by
  have e : Except.bind ((Decoder.instr 0) c 0) (fun z => (.ok (z.1, z.2 - 0) : Except _ (Instr × Nat))) = .ok (i, n) := e
  cases hr : (Decoder.instr 0) c 0 with
  | error er =>
    rw [hr] at e
    cases e
  | ok y =>
    obtain ⟨y1, y2⟩ := y
    rw [hr] at e
    have e : (.ok (y1, y2 - 0) : Except DecodeError (Instr × Nat)) = .ok (i, n) := e
    injection e with e
    injection e with e1 e2
    subst e1
    obtain ⟨m, hm, h1⟩ := instr_loc hy hv hr hop
    show Except.bind ((Decoder.instr pc) b pc) (fun z => (.ok (z.1, z.2 - pc) : Except _ (Instr × Nat))) = _
    rw [h1]
    show (.ok (y1, pc + m - pc) : Except DecodeError (Instr × Nat)) = _
    rw [show pc + m - pc = n by omega]
def isSw (i : Instr) : Bool := match i with
  | .tableswitch _ _ _ _ => true
  | .lookupswitch _ _ => true
  | _ => false
def chkJ (q : AI) : Bool := (ilen q.2.1 == 0 || ilen q.2.1 == q.2.2.1) && (match ioff q.2.1 with
  | some o => decide ((q.1 : Int) + o = (q.2.2.2 : Int))
  | none => true)
end LOC
