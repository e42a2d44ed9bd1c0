/-! 04d.fast -/
section
/-! one instruction's bytes, read the other way round -/
section FST
def u1c : List UInt8 → Nat → Bool
  | v :: _, x => Nat.beq v.toNat x
  | _, _ => false
def u2c : List UInt8 → Nat → Bool
  | v :: w :: _, x => Nat.beq (v.toNat * 256 + w.toNat) x
  | _, _ => false
def s1c : List UInt8 → Int → Bool
  | v :: _, x => decide (Reader.signed 8 v.toNat = x)
  | _, _ => false
def s2c : List UInt8 → Int → Bool
  | v :: w :: _, x => decide (Reader.signed 16 (v.toNat * 256 + w.toNat) = x)
  | _, _ => false
def icc : List UInt8 → Nat → Int → Bool
  | v :: w :: _, x, y => Nat.beq v.toNat x && decide (Reader.signed 8 w.toNat = y)
  | _, _, _ => false
def cdc : ClassFile.Cond → Nat
  | .eq => 0
  | .ne => 1
  | .lt => 2
  | .ge => 3
  | .gt => 4
  | .le => 5
def fst1 (i : Instr) (n o : Nat) (l : List UInt8) : Bool := match i with
  | .iaload => Nat.beq o 46 && Nat.beq n 1
  | .laload => Nat.beq o 47 && Nat.beq n 1
  | .aaload => Nat.beq o 50 && Nat.beq n 1
  | .baload => Nat.beq o 51 && Nat.beq n 1
  | .iastore => Nat.beq o 79 && Nat.beq n 1
  | .lastore => Nat.beq o 80 && Nat.beq n 1
  | .aastore => Nat.beq o 83 && Nat.beq n 1
  | .bastore => Nat.beq o 84 && Nat.beq n 1
  | .pop => Nat.beq o 87 && Nat.beq n 1
  | .dup => Nat.beq o 89 && Nat.beq n 1
  | .dup2 => Nat.beq o 92 && Nat.beq n 1
  | .iadd => Nat.beq o 96 && Nat.beq n 1
  | .ladd => Nat.beq o 97 && Nat.beq n 1
  | .isub => Nat.beq o 100 && Nat.beq n 1
  | .imul => Nat.beq o 104 && Nat.beq n 1
  | .lmul => Nat.beq o 105 && Nat.beq n 1
  | .idiv => Nat.beq o 108 && Nat.beq n 1
  | .ldiv => Nat.beq o 109 && Nat.beq n 1
  | .irem => Nat.beq o 112 && Nat.beq n 1
  | .lrem => Nat.beq o 113 && Nat.beq n 1
  | .ishl => Nat.beq o 120 && Nat.beq n 1
  | .lshl => Nat.beq o 121 && Nat.beq n 1
  | .iushr => Nat.beq o 124 && Nat.beq n 1
  | .iand => Nat.beq o 126 && Nat.beq n 1
  | .ior => Nat.beq o 128 && Nat.beq n 1
  | .ixor => Nat.beq o 130 && Nat.beq n 1
  | .i2l => Nat.beq o 133 && Nat.beq n 1
  | .lcmp => Nat.beq o 148 && Nat.beq n 1
  | .ireturn => Nat.beq o 172 && Nat.beq n 1
  | .return_ => Nat.beq o 177 && Nat.beq n 1
  | .arraylength => Nat.beq o 190 && Nat.beq n 1
  | .iload_n k => Nat.beq o (26 + k.val) && Nat.beq n 1
  | .lload_n k => Nat.beq o (30 + k.val) && Nat.beq n 1
  | .aload_n k => Nat.beq o (42 + k.val) && Nat.beq n 1
  | .istore_n k => Nat.beq o (59 + k.val) && Nat.beq n 1
  | .lstore_n k => Nat.beq o (63 + k.val) && Nat.beq n 1
  | .astore_n k => Nat.beq o (75 + k.val) && Nat.beq n 1
  | .lconst k => Nat.beq o (9 + k.val) && Nat.beq n 1
  | .iconst z => decide (-1 ≤ z) && decide (z ≤ 5) && Nat.beq o (z + 3).toNat && Nat.beq n 1
  | .ldc x => Nat.beq o 18 && u1c l x && Nat.beq n 2
  | .iload x => Nat.beq o 21 && u1c l x && Nat.beq n 2
  | .lload x => Nat.beq o 22 && u1c l x && Nat.beq n 2
  | .aload x => Nat.beq o 25 && u1c l x && Nat.beq n 2
  | .istore x => Nat.beq o 54 && u1c l x && Nat.beq n 2
  | .lstore x => Nat.beq o 55 && u1c l x && Nat.beq n 2
  | .astore x => Nat.beq o 58 && u1c l x && Nat.beq n 2
  | .ldc_w x => Nat.beq o 19 && u2c l x && Nat.beq n 3
  | .ldc2_w x => Nat.beq o 20 && u2c l x && Nat.beq n 3
  | .getfield x => Nat.beq o 180 && u2c l x && Nat.beq n 3
  | .putfield x => Nat.beq o 181 && u2c l x && Nat.beq n 3
  | .invokevirtual x => Nat.beq o 182 && u2c l x && Nat.beq n 3
  | .invokespecial x => Nat.beq o 183 && u2c l x && Nat.beq n 3
  | .invokestatic x => Nat.beq o 184 && u2c l x && Nat.beq n 3
  | .new x => Nat.beq o 187 && u2c l x && Nat.beq n 3
  | .anewarray x => Nat.beq o 189 && u2c l x && Nat.beq n 3
  | .getstatic x => Nat.beq o 178 && u2c l x && Nat.beq n 3
  | .bipush x => Nat.beq o 16 && s1c l x && Nat.beq n 2
  | .sipush x => Nat.beq o 17 && s2c l x && Nat.beq n 3
  | .goto x => Nat.beq o 167 && s2c l x && Nat.beq n 3
  | .ifCond c x => Nat.beq o (153 + cdc c) && s2c l x && Nat.beq n 3
  | .if_icmp c x => Nat.beq o (159 + cdc c) && s2c l x && Nat.beq n 3
  | .iinc x y => Nat.beq o 132 && icc l x y && Nat.beq n 3
  | _ => false
/-- the bytes begin with the instruction's -/
def FSQ (i : Instr) (n : Nat) (op : UInt8) (l : List UInt8) : Prop := ∃ c : List UInt8, (∀ (k : Nat) (v : UInt8), c[k]? = some v → (op :: l)[k]? = some v) ∧ c[0]? = some op ∧ okOp op.toNat = true ∧ decode ⟨c.toArray⟩ 0 = .ok (i, n)
variable {i : Instr} {n x : Nat} {z y : Int} {op : UInt8} {l : List UInt8}
theorem fsopE (m : UInt8) (h : Nat.beq op.toNat m.toNat = true) : op = m := UInt8.toNat_inj.mp (Nat.eq_of_beq_eq_true h)
theorem fsq1 (m : UInt8) (h : (Nat.beq op.toNat m.toNat && Nat.beq n 1) = true) (hd : decode ⟨#[m]⟩ 0 = .ok (i, 1)) (ho : okOp m.toNat = true) : FSQ i n op l := by
  rw [Bool.and_eq_true] at h
  obtain rfl := fsopE m h.1
  obtain rfl := Nat.eq_of_beq_eq_true h.2
  refine ⟨[op], fun k v e => ?_, rfl, ho, hd⟩
  cases k with
  | zero => exact e
  | succ k => cases e
theorem fsq2 (m : UInt8) {f : Nat → Instr} (h : (Nat.beq op.toNat m.toNat && u1c l x && Nat.beq n 2) = true) (hd : ∀ v : UInt8, decode ⟨#[m, v]⟩ 0 = .ok (f v.toNat, 2)) (ho : okOp m.toNat = true) : FSQ (f x) n op l := by
  rw [Bool.and_eq_true, Bool.and_eq_true] at h
  obtain rfl := fsopE m h.1.1
  obtain rfl := Nat.eq_of_beq_eq_true h.2
  have h2 := h.1.2
  cases l with
  | nil => cases h2
  | cons v t =>
    obtain rfl := Nat.eq_of_beq_eq_true h2
    refine ⟨[op, v], fun k w e => ?_, rfl, ho, hd v⟩
    match k, e with
    | 0, e => exact e
    | 1, e => exact e
    | k + 2, e => cases e
theorem fsq2s (m : UInt8) {f : Int → Instr} (h : (Nat.beq op.toNat m.toNat && s1c l z && Nat.beq n 2) = true) (hd : ∀ v : UInt8, decode ⟨#[m, v]⟩ 0 = .ok (f (Reader.signed 8 v.toNat), 2)) (ho : okOp m.toNat = true) : FSQ (f z) n op l := by
  rw [Bool.and_eq_true, Bool.and_eq_true] at h
  obtain rfl := fsopE m h.1.1
  obtain rfl := Nat.eq_of_beq_eq_true h.2
  have h2 := h.1.2
  cases l with
  | nil => cases h2
  | cons v t =>
    obtain rfl := of_decide_eq_true h2
    refine ⟨[op, v], fun k w e => ?_, rfl, ho, hd v⟩
    match k, e with
    | 0, e => exact e
    | 1, e => exact e
    | k + 2, e => cases e
theorem fsq3 (m : UInt8) {f : Nat → Instr} (h : (Nat.beq op.toNat m.toNat && u2c l x && Nat.beq n 3) = true) (hd : ∀ v w : UInt8, decode ⟨#[m, v, w]⟩ 0 = .ok (f (v.toNat * 256 + w.toNat), 3)) (ho : okOp m.toNat = true) : FSQ (f x) n op l := by
  rw [Bool.and_eq_true, Bool.and_eq_true] at h
  obtain rfl := fsopE m h.1.1
  obtain rfl := Nat.eq_of_beq_eq_true h.2
  have h2 := h.1.2
  match l, h2 with
  | v :: w :: t, h2 =>
    obtain rfl := Nat.eq_of_beq_eq_true h2
    refine ⟨[op, v, w], fun k u e => ?_, rfl, ho, hd v w⟩
    match k, e with
    | 0, e => exact e
    | 1, e => exact e
    | 2, e => exact e
    | k + 3, e => cases e
theorem fsq3s (m : UInt8) {f : Int → Instr} (h : (Nat.beq op.toNat m.toNat && s2c l z && Nat.beq n 3) = true) (hd : ∀ v w : UInt8, decode ⟨#[m, v, w]⟩ 0 = .ok (f (Reader.signed 16 (v.toNat * 256 + w.toNat)), 3)) (ho : okOp m.toNat = true) : FSQ (f z) n op l := by
  rw [Bool.and_eq_true, Bool.and_eq_true] at h
  obtain rfl := fsopE m h.1.1
  obtain rfl := Nat.eq_of_beq_eq_true h.2
  have h2 := h.1.2
  match l, h2 with
  | v :: w :: t, h2 =>
    obtain rfl := of_decide_eq_true h2
    refine ⟨[op, v, w], fun k u e => ?_, rfl, ho, hd v w⟩
    match k, e with
    | 0, e => exact e
    | 1, e => exact e
    | 2, e => exact e
    | k + 3, e => cases e
theorem fsq3i (h : (Nat.beq op.toNat 132 && icc l x y && Nat.beq n 3) = true) (hd : ∀ v w : UInt8, decode ⟨#[132, v, w]⟩ 0 = .ok (.iinc v.toNat (Reader.signed 8 w.toNat), 3)) : FSQ (.iinc x y) n op l := by
  rw [Bool.and_eq_true, Bool.and_eq_true] at h
  obtain rfl := fsopE 132 h.1.1
  obtain rfl := Nat.eq_of_beq_eq_true h.2
  have h2 := h.1.2
  match l, h2 with
  | v :: w :: t, h2 =>
    have h2 : (Nat.beq v.toNat x && decide (Reader.signed 8 w.toNat = y)) = true := h2
    rw [Bool.and_eq_true] at h2
    obtain rfl := Nat.eq_of_beq_eq_true h2.1
    obtain rfl := of_decide_eq_true h2.2
    refine ⟨[132, v, w], fun k u e => ?_, rfl, rfl, hd v w⟩
    match k, e with
    | 0, e => exact e
    | 1, e => exact e
    | 2, e => exact e
    | k + 3, e => cases e
theorem dk_46 : decode ⟨#[46]⟩ 0 = .ok (.iaload, 1) := by decide +kernel
theorem dk_47 : decode ⟨#[47]⟩ 0 = .ok (.laload, 1) := by decide +kernel
theorem dk_50 : decode ⟨#[50]⟩ 0 = .ok (.aaload, 1) := by decide +kernel
theorem dk_51 : decode ⟨#[51]⟩ 0 = .ok (.baload, 1) := by decide +kernel
theorem dk_79 : decode ⟨#[79]⟩ 0 = .ok (.iastore, 1) := by decide +kernel
theorem dk_80 : decode ⟨#[80]⟩ 0 = .ok (.lastore, 1) := by decide +kernel
theorem dk_83 : decode ⟨#[83]⟩ 0 = .ok (.aastore, 1) := by decide +kernel
theorem dk_84 : decode ⟨#[84]⟩ 0 = .ok (.bastore, 1) := by decide +kernel
theorem dk_87 : decode ⟨#[87]⟩ 0 = .ok (.pop, 1) := by decide +kernel
theorem dk_89 : decode ⟨#[89]⟩ 0 = .ok (.dup, 1) := by decide +kernel
theorem dk_92 : decode ⟨#[92]⟩ 0 = .ok (.dup2, 1) := by decide +kernel
theorem dk_96 : decode ⟨#[96]⟩ 0 = .ok (.iadd, 1) := by decide +kernel
theorem dk_97 : decode ⟨#[97]⟩ 0 = .ok (.ladd, 1) := by decide +kernel
theorem dk_100 : decode ⟨#[100]⟩ 0 = .ok (.isub, 1) := by decide +kernel
theorem dk_104 : decode ⟨#[104]⟩ 0 = .ok (.imul, 1) := by decide +kernel
theorem dk_105 : decode ⟨#[105]⟩ 0 = .ok (.lmul, 1) := by decide +kernel
theorem dk_108 : decode ⟨#[108]⟩ 0 = .ok (.idiv, 1) := by decide +kernel
theorem dk_109 : decode ⟨#[109]⟩ 0 = .ok (.ldiv, 1) := by decide +kernel
theorem dk_112 : decode ⟨#[112]⟩ 0 = .ok (.irem, 1) := by decide +kernel
theorem dk_113 : decode ⟨#[113]⟩ 0 = .ok (.lrem, 1) := by decide +kernel
theorem dk_120 : decode ⟨#[120]⟩ 0 = .ok (.ishl, 1) := by decide +kernel
theorem dk_121 : decode ⟨#[121]⟩ 0 = .ok (.lshl, 1) := by decide +kernel
theorem dk_124 : decode ⟨#[124]⟩ 0 = .ok (.iushr, 1) := by decide +kernel
theorem dk_126 : decode ⟨#[126]⟩ 0 = .ok (.iand, 1) := by decide +kernel
theorem dk_128 : decode ⟨#[128]⟩ 0 = .ok (.ior, 1) := by decide +kernel
theorem dk_130 : decode ⟨#[130]⟩ 0 = .ok (.ixor, 1) := by decide +kernel
theorem dk_133 : decode ⟨#[133]⟩ 0 = .ok (.i2l, 1) := by decide +kernel
theorem dk_148 : decode ⟨#[148]⟩ 0 = .ok (.lcmp, 1) := by decide +kernel
theorem dk_172 : decode ⟨#[172]⟩ 0 = .ok (.ireturn, 1) := by decide +kernel
theorem dk_177 : decode ⟨#[177]⟩ 0 = .ok (.return_, 1) := by decide +kernel
theorem dk_190 : decode ⟨#[190]⟩ 0 = .ok (.arraylength, 1) := by decide +kernel
theorem dk_26 : decode ⟨#[26]⟩ 0 = .ok (.iload_n 0, 1) := by decide +kernel
theorem dk_27 : decode ⟨#[27]⟩ 0 = .ok (.iload_n 1, 1) := by decide +kernel
theorem dk_28 : decode ⟨#[28]⟩ 0 = .ok (.iload_n 2, 1) := by decide +kernel
theorem dk_29 : decode ⟨#[29]⟩ 0 = .ok (.iload_n 3, 1) := by decide +kernel
theorem dk_30 : decode ⟨#[30]⟩ 0 = .ok (.lload_n 0, 1) := by decide +kernel
theorem dk_31 : decode ⟨#[31]⟩ 0 = .ok (.lload_n 1, 1) := by decide +kernel
theorem dk_32 : decode ⟨#[32]⟩ 0 = .ok (.lload_n 2, 1) := by decide +kernel
theorem dk_33 : decode ⟨#[33]⟩ 0 = .ok (.lload_n 3, 1) := by decide +kernel
theorem dk_42 : decode ⟨#[42]⟩ 0 = .ok (.aload_n 0, 1) := by decide +kernel
theorem dk_43 : decode ⟨#[43]⟩ 0 = .ok (.aload_n 1, 1) := by decide +kernel
theorem dk_44 : decode ⟨#[44]⟩ 0 = .ok (.aload_n 2, 1) := by decide +kernel
theorem dk_45 : decode ⟨#[45]⟩ 0 = .ok (.aload_n 3, 1) := by decide +kernel
theorem dk_59 : decode ⟨#[59]⟩ 0 = .ok (.istore_n 0, 1) := by decide +kernel
theorem dk_60 : decode ⟨#[60]⟩ 0 = .ok (.istore_n 1, 1) := by decide +kernel
theorem dk_61 : decode ⟨#[61]⟩ 0 = .ok (.istore_n 2, 1) := by decide +kernel
theorem dk_62 : decode ⟨#[62]⟩ 0 = .ok (.istore_n 3, 1) := by decide +kernel
theorem dk_63 : decode ⟨#[63]⟩ 0 = .ok (.lstore_n 0, 1) := by decide +kernel
theorem dk_64 : decode ⟨#[64]⟩ 0 = .ok (.lstore_n 1, 1) := by decide +kernel
theorem dk_65 : decode ⟨#[65]⟩ 0 = .ok (.lstore_n 2, 1) := by decide +kernel
theorem dk_66 : decode ⟨#[66]⟩ 0 = .ok (.lstore_n 3, 1) := by decide +kernel
theorem dk_75 : decode ⟨#[75]⟩ 0 = .ok (.astore_n 0, 1) := by decide +kernel
theorem dk_76 : decode ⟨#[76]⟩ 0 = .ok (.astore_n 1, 1) := by decide +kernel
theorem dk_77 : decode ⟨#[77]⟩ 0 = .ok (.astore_n 2, 1) := by decide +kernel
theorem dk_78 : decode ⟨#[78]⟩ 0 = .ok (.astore_n 3, 1) := by decide +kernel
theorem dk_9 : decode ⟨#[9]⟩ 0 = .ok (.lconst 0, 1) := by decide +kernel
theorem dk_10 : decode ⟨#[10]⟩ 0 = .ok (.lconst 1, 1) := by decide +kernel
theorem dk_2 : decode ⟨#[2]⟩ 0 = .ok (.iconst (-1), 1) := by decide +kernel
theorem dk_3 : decode ⟨#[3]⟩ 0 = .ok (.iconst 0, 1) := by decide +kernel
theorem dk_4 : decode ⟨#[4]⟩ 0 = .ok (.iconst 1, 1) := by decide +kernel
theorem dk_5 : decode ⟨#[5]⟩ 0 = .ok (.iconst 2, 1) := by decide +kernel
theorem dk_6 : decode ⟨#[6]⟩ 0 = .ok (.iconst 3, 1) := by decide +kernel
theorem dk_7 : decode ⟨#[7]⟩ 0 = .ok (.iconst 4, 1) := by decide +kernel
theorem dk_8 : decode ⟨#[8]⟩ 0 = .ok (.iconst 5, 1) := by decide +kernel
theorem dk_18 (v : UInt8) : decode ⟨#[18, v]⟩ 0 = .ok (.ldc v.toNat, 2) := (rfl)
theorem dk_21 (v : UInt8) : decode ⟨#[21, v]⟩ 0 = .ok (.iload v.toNat, 2) := (rfl)
theorem dk_22 (v : UInt8) : decode ⟨#[22, v]⟩ 0 = .ok (.lload v.toNat, 2) := (rfl)
theorem dk_25 (v : UInt8) : decode ⟨#[25, v]⟩ 0 = .ok (.aload v.toNat, 2) := (rfl)
theorem dk_54 (v : UInt8) : decode ⟨#[54, v]⟩ 0 = .ok (.istore v.toNat, 2) := (rfl)
theorem dk_55 (v : UInt8) : decode ⟨#[55, v]⟩ 0 = .ok (.lstore v.toNat, 2) := (rfl)
theorem dk_58 (v : UInt8) : decode ⟨#[58, v]⟩ 0 = .ok (.astore v.toNat, 2) := (rfl)
theorem dk_19 (v w : UInt8) : decode ⟨#[19, v, w]⟩ 0 = .ok (.ldc_w (v.toNat * 256 + w.toNat), 3) := (rfl)
theorem dk_20 (v w : UInt8) : decode ⟨#[20, v, w]⟩ 0 = .ok (.ldc2_w (v.toNat * 256 + w.toNat), 3) := (rfl)
theorem dk_180 (v w : UInt8) : decode ⟨#[180, v, w]⟩ 0 = .ok (.getfield (v.toNat * 256 + w.toNat), 3) := (rfl)
theorem dk_181 (v w : UInt8) : decode ⟨#[181, v, w]⟩ 0 = .ok (.putfield (v.toNat * 256 + w.toNat), 3) := (rfl)
theorem dk_182 (v w : UInt8) : decode ⟨#[182, v, w]⟩ 0 = .ok (.invokevirtual (v.toNat * 256 + w.toNat), 3) := (rfl)
theorem dk_183 (v w : UInt8) : decode ⟨#[183, v, w]⟩ 0 = .ok (.invokespecial (v.toNat * 256 + w.toNat), 3) := (rfl)
theorem dk_184 (v w : UInt8) : decode ⟨#[184, v, w]⟩ 0 = .ok (.invokestatic (v.toNat * 256 + w.toNat), 3) := (rfl)
theorem dk_187 (v w : UInt8) : decode ⟨#[187, v, w]⟩ 0 = .ok (.new (v.toNat * 256 + w.toNat), 3) := (rfl)
theorem dk_189 (v w : UInt8) : decode ⟨#[189, v, w]⟩ 0 = .ok (.anewarray (v.toNat * 256 + w.toNat), 3) := (rfl)
theorem dk_178 (v w : UInt8) : decode ⟨#[178, v, w]⟩ 0 = .ok (.getstatic (v.toNat * 256 + w.toNat), 3) := (rfl)
theorem dk_16 (v : UInt8) : decode ⟨#[16, v]⟩ 0 = .ok (.bipush (Reader.signed 8 v.toNat), 2) := (rfl)
theorem dk_17 (v w : UInt8) : decode ⟨#[17, v, w]⟩ 0 = .ok (.sipush (Reader.signed 16 (v.toNat * 256 + w.toNat)), 3) := (rfl)
theorem dk_167 (v w : UInt8) : decode ⟨#[167, v, w]⟩ 0 = .ok (.goto (Reader.signed 16 (v.toNat * 256 + w.toNat)), 3) := (rfl)
theorem dk_153 (v w : UInt8) : decode ⟨#[153, v, w]⟩ 0 = .ok (.ifCond .eq (Reader.signed 16 (v.toNat * 256 + w.toNat)), 3) := (rfl)
theorem dk_154 (v w : UInt8) : decode ⟨#[154, v, w]⟩ 0 = .ok (.ifCond .ne (Reader.signed 16 (v.toNat * 256 + w.toNat)), 3) := (rfl)
theorem dk_155 (v w : UInt8) : decode ⟨#[155, v, w]⟩ 0 = .ok (.ifCond .lt (Reader.signed 16 (v.toNat * 256 + w.toNat)), 3) := (rfl)
theorem dk_156 (v w : UInt8) : decode ⟨#[156, v, w]⟩ 0 = .ok (.ifCond .ge (Reader.signed 16 (v.toNat * 256 + w.toNat)), 3) := (rfl)
theorem dk_157 (v w : UInt8) : decode ⟨#[157, v, w]⟩ 0 = .ok (.ifCond .gt (Reader.signed 16 (v.toNat * 256 + w.toNat)), 3) := (rfl)
theorem dk_158 (v w : UInt8) : decode ⟨#[158, v, w]⟩ 0 = .ok (.ifCond .le (Reader.signed 16 (v.toNat * 256 + w.toNat)), 3) := (rfl)
theorem dk_159 (v w : UInt8) : decode ⟨#[159, v, w]⟩ 0 = .ok (.if_icmp .eq (Reader.signed 16 (v.toNat * 256 + w.toNat)), 3) := (rfl)
theorem dk_160 (v w : UInt8) : decode ⟨#[160, v, w]⟩ 0 = .ok (.if_icmp .ne (Reader.signed 16 (v.toNat * 256 + w.toNat)), 3) := (rfl)
theorem dk_161 (v w : UInt8) : decode ⟨#[161, v, w]⟩ 0 = .ok (.if_icmp .lt (Reader.signed 16 (v.toNat * 256 + w.toNat)), 3) := (rfl)
theorem dk_162 (v w : UInt8) : decode ⟨#[162, v, w]⟩ 0 = .ok (.if_icmp .ge (Reader.signed 16 (v.toNat * 256 + w.toNat)), 3) := (rfl)
theorem dk_163 (v w : UInt8) : decode ⟨#[163, v, w]⟩ 0 = .ok (.if_icmp .gt (Reader.signed 16 (v.toNat * 256 + w.toNat)), 3) := (rfl)
theorem dk_164 (v w : UInt8) : decode ⟨#[164, v, w]⟩ 0 = .ok (.if_icmp .le (Reader.signed 16 (v.toNat * 256 + w.toNat)), 3) := (rfl)
theorem dk_132 (v w : UInt8) : decode ⟨#[132, v, w]⟩ 0 = .ok (.iinc v.toNat (Reader.signed 8 w.toNat), 3) := (rfl)
theorem fst1_ok (h : fst1 i n op.toNat l = true) : FSQ i n op l := by
  cases i with
  | iaload => exact fsq1 46 h dk_46 rfl
  | laload => exact fsq1 47 h dk_47 rfl
  | aaload => exact fsq1 50 h dk_50 rfl
  | baload => exact fsq1 51 h dk_51 rfl
  | iastore => exact fsq1 79 h dk_79 rfl
  | lastore => exact fsq1 80 h dk_80 rfl
  | aastore => exact fsq1 83 h dk_83 rfl
  | bastore => exact fsq1 84 h dk_84 rfl
  | pop => exact fsq1 87 h dk_87 rfl
  | dup => exact fsq1 89 h dk_89 rfl
  | dup2 => exact fsq1 92 h dk_92 rfl
  | iadd => exact fsq1 96 h dk_96 rfl
  | ladd => exact fsq1 97 h dk_97 rfl
  | isub => exact fsq1 100 h dk_100 rfl
  | imul => exact fsq1 104 h dk_104 rfl
  | lmul => exact fsq1 105 h dk_105 rfl
  | idiv => exact fsq1 108 h dk_108 rfl
  | ldiv => exact fsq1 109 h dk_109 rfl
  | irem => exact fsq1 112 h dk_112 rfl
  | lrem => exact fsq1 113 h dk_113 rfl
  | ishl => exact fsq1 120 h dk_120 rfl
  | lshl => exact fsq1 121 h dk_121 rfl
  | iushr => exact fsq1 124 h dk_124 rfl
  | iand => exact fsq1 126 h dk_126 rfl
  | ior => exact fsq1 128 h dk_128 rfl
  | ixor => exact fsq1 130 h dk_130 rfl
  | i2l => exact fsq1 133 h dk_133 rfl
  | lcmp => exact fsq1 148 h dk_148 rfl
  | ireturn => exact fsq1 172 h dk_172 rfl
  | return_ => exact fsq1 177 h dk_177 rfl
  | arraylength => exact fsq1 190 h dk_190 rfl
  | iload_n k =>
    rcases k with ⟨k, hk⟩
    rcases (show k = 0 ∨ k = 1 ∨ k = 2 ∨ k = 3 by omega) with e | e | e | e <;> subst e
    · exact fsq1 26 h dk_26 rfl
    · exact fsq1 27 h dk_27 rfl
    · exact fsq1 28 h dk_28 rfl
    · exact fsq1 29 h dk_29 rfl
  | lload_n k =>
    rcases k with ⟨k, hk⟩
    rcases (show k = 0 ∨ k = 1 ∨ k = 2 ∨ k = 3 by omega) with e | e | e | e <;> subst e
    · exact fsq1 30 h dk_30 rfl
    · exact fsq1 31 h dk_31 rfl
    · exact fsq1 32 h dk_32 rfl
    · exact fsq1 33 h dk_33 rfl
  | aload_n k =>
    rcases k with ⟨k, hk⟩
    rcases (show k = 0 ∨ k = 1 ∨ k = 2 ∨ k = 3 by omega) with e | e | e | e <;> subst e
    · exact fsq1 42 h dk_42 rfl
    · exact fsq1 43 h dk_43 rfl
    · exact fsq1 44 h dk_44 rfl
    · exact fsq1 45 h dk_45 rfl
  | istore_n k =>
    rcases k with ⟨k, hk⟩
    rcases (show k = 0 ∨ k = 1 ∨ k = 2 ∨ k = 3 by omega) with e | e | e | e <;> subst e
    · exact fsq1 59 h dk_59 rfl
    · exact fsq1 60 h dk_60 rfl
    · exact fsq1 61 h dk_61 rfl
    · exact fsq1 62 h dk_62 rfl
  | lstore_n k =>
    rcases k with ⟨k, hk⟩
    rcases (show k = 0 ∨ k = 1 ∨ k = 2 ∨ k = 3 by omega) with e | e | e | e <;> subst e
    · exact fsq1 63 h dk_63 rfl
    · exact fsq1 64 h dk_64 rfl
    · exact fsq1 65 h dk_65 rfl
    · exact fsq1 66 h dk_66 rfl
  | astore_n k =>
    rcases k with ⟨k, hk⟩
    rcases (show k = 0 ∨ k = 1 ∨ k = 2 ∨ k = 3 by omega) with e | e | e | e <;> subst e
    · exact fsq1 75 h dk_75 rfl
    · exact fsq1 76 h dk_76 rfl
    · exact fsq1 77 h dk_77 rfl
    · exact fsq1 78 h dk_78 rfl
  | lconst k =>
    rcases k with ⟨k, hk⟩
    rcases (show k = 0 ∨ k = 1 by omega) with e | e <;> subst e
    · exact fsq1 9 h dk_9 rfl
    · exact fsq1 10 h dk_10 rfl
  | iconst z =>
    have h : (decide (-1 ≤ z) && decide (z ≤ 5) && Nat.beq op.toNat (z + 3).toNat && Nat.beq n 1) = true := h
    rw [Bool.and_eq_true, Bool.and_eq_true, Bool.and_eq_true, decide_eq_true_eq, decide_eq_true_eq] at h
    obtain ⟨⟨⟨a, b⟩, c⟩, d⟩ := h
    have cd : (Nat.beq op.toNat (z + 3).toNat && Nat.beq n 1) = true := by rw [c, d]; rfl
    rcases (show z = -1 ∨ z = 0 ∨ z = 1 ∨ z = 2 ∨ z = 3 ∨ z = 4 ∨ z = 5 by omega) with e | e | e | e | e | e | e <;> subst e
    · exact fsq1 2 cd dk_2 rfl
    · exact fsq1 3 cd dk_3 rfl
    · exact fsq1 4 cd dk_4 rfl
    · exact fsq1 5 cd dk_5 rfl
    · exact fsq1 6 cd dk_6 rfl
    · exact fsq1 7 cd dk_7 rfl
    · exact fsq1 8 cd dk_8 rfl
  | ldc x => exact fsq2 18 h dk_18 rfl
  | iload x => exact fsq2 21 h dk_21 rfl
  | lload x => exact fsq2 22 h dk_22 rfl
  | aload x => exact fsq2 25 h dk_25 rfl
  | istore x => exact fsq2 54 h dk_54 rfl
  | lstore x => exact fsq2 55 h dk_55 rfl
  | astore x => exact fsq2 58 h dk_58 rfl
  | ldc_w x => exact fsq3 19 h dk_19 rfl
  | ldc2_w x => exact fsq3 20 h dk_20 rfl
  | getfield x => exact fsq3 180 h dk_180 rfl
  | putfield x => exact fsq3 181 h dk_181 rfl
  | invokevirtual x => exact fsq3 182 h dk_182 rfl
  | invokespecial x => exact fsq3 183 h dk_183 rfl
  | invokestatic x => exact fsq3 184 h dk_184 rfl
  | new x => exact fsq3 187 h dk_187 rfl
  | anewarray x => exact fsq3 189 h dk_189 rfl
  | getstatic x => exact fsq3 178 h dk_178 rfl
  | bipush x => exact fsq2s 16 h dk_16 rfl
  | sipush x => exact fsq3s 17 h dk_17 rfl
  | goto x => exact fsq3s 167 h dk_167 rfl
  | ifCond c x =>
    cases c with
    | eq => exact fsq3s 153 h dk_153 rfl
    | ne => exact fsq3s 154 h dk_154 rfl
    | lt => exact fsq3s 155 h dk_155 rfl
    | ge => exact fsq3s 156 h dk_156 rfl
    | gt => exact fsq3s 157 h dk_157 rfl
    | le => exact fsq3s 158 h dk_158 rfl
  | if_icmp c x =>
    cases c with
    | eq => exact fsq3s 159 h dk_159 rfl
    | ne => exact fsq3s 160 h dk_160 rfl
    | lt => exact fsq3s 161 h dk_161 rfl
    | ge => exact fsq3s 162 h dk_162 rfl
    | gt => exact fsq3s 163 h dk_163 rfl
    | le => exact fsq3s 164 h dk_164 rfl
  | iinc x y => exact fsq3i h dk_132
  | _ => cases h
def walf : List AI → Nat → List UInt8 → Bool
  | [], _, _ => true
  | q :: r, pc, l => match l with
    | [] => false
    | v :: t => Nat.beq q.1 pc && ((fst1 q.2.1 q.2.2.1 v.toNat t || isSw q.2.1 || (okOp v.toNat && decide (decode ⟨(List.take 3 (v :: t)).toArray⟩ 0 = .ok (q.2.1, q.2.2.1)))) && (isSw q.2.1 || chkJ q)) && walf r (pc + q.2.2.1) (List.drop q.2.2.1 (v :: t))
theorem walf_ok {F : MR} : ∀ (code : List AI) (pc : Nat) (l : List UInt8), (∀ k v, l[k]? = some v → (mcc F).data.toList[pc + k]? = some v) → walf code pc l = true → ∀ q ∈ code, isSw q.2.1 = true ∨ IOK F q := by
  intro code
  induction code with
  | nil => intro pc l _ _ q hq; cases hq
  | cons a r ih =>
    intro pc l hl h q hq
    cases l with
    | nil => cases h
    | cons v t =>
      have h : (Nat.beq a.1 pc && ((fst1 a.2.1 a.2.2.1 v.toNat t || isSw a.2.1 || (okOp v.toNat && decide (decode ⟨(List.take 3 (v :: t)).toArray⟩ 0 = .ok (a.2.1, a.2.2.1)))) && (isSw a.2.1 || chkJ a)) && walf r (pc + a.2.2.1) (List.drop a.2.2.1 (v :: t))) = true := h
      rw [Bool.and_eq_true, Bool.and_eq_true, Bool.and_eq_true] at h
      obtain ⟨⟨h1, h2, h6⟩, h3⟩ := h
      have h1 := Nat.eq_of_beq_eq_true h1
      rcases List.mem_cons.mp hq with e | e
      · subst e
        by_cases hs : isSw q.2.1 = true
        · exact Or.inl hs
        · have hs : isSw q.2.1 = false := by simpa using hs
          rw [hs] at h2 h6
          rw [Bool.false_or] at h6
          rw [Bool.or_false, Bool.or_eq_true, Bool.and_eq_true, decide_eq_true_eq] at h2
          refine Or.inr ⟨?_, ?_⟩
          · rw [h1]
            rcases h2 with h2 | ⟨h4, h5⟩
            · obtain ⟨c, g1, g2, g3, g4⟩ := fst1_ok h2
              refine dec_loc (v := v) (fun k w hw => ?_) g2 g3 g4
              rw [Nat.zero_add] at hw
              exact hl k w (g1 k w hw)
            · refine dec_loc (v := v) (fun k w hw => ?_) rfl h4 h5
              have hw : (List.take 3 (v :: t))[0 + k]? = some w := hw
              rw [Nat.zero_add, List.getElem?_take] at hw
              split at hw
              · exact hl k w hw
              · cases hw
          · unfold chkJ at h6
            simp only [Bool.and_eq_true, Bool.or_eq_true, beq_iff_eq] at h6
            refine ⟨h6.1, fun o ho => ?_⟩
            have h7 := h6.2
            rw [ho] at h7
            exact of_decide_eq_true h7
      · refine ih (pc + a.2.2.1) (List.drop a.2.2.1 (v :: t)) (fun k w hw => ?_) h3 q e
        rw [List.getElem?_drop] at hw
        rw [Nat.add_assoc]
        exact hl _ w hw
theorem WLF {F : MR} {code : List AI} (pc : Nat) (h : walf code pc ((mcc F).data.toList.drop pc) = true) (h2 : code.all (fun q => !isSw q.2.1 || chkI F q) = true) : ∀ q ∈ code, IOK F q := fun q hq => by
  rcases walf_ok (F := F) code pc _ (fun k v e => by rw [List.getElem?_drop] at e; exact e) h q hq with z | z
  · have k := List.all_eq_true.mp h2 q hq
    rw [z] at k
    exact IOK_of (by simpa using k)
  · exact z
end FST
end
/-! 04e.rfl -/
section
/-! the tables' entries by reduction -/
section RFW
variable {F G : MR} {MT : Nat → Option MR} {i j sl ci v : Nat} {C : String} {T : u_T} {N : Nat}
theorem AL_n {α : Type} {P : α → Prop} : ∀ q ∈ ([] : List α), P q := fun _ h => absurd h List.not_mem_nil
theorem AL_c {α : Type} {P : α → Prop} {a : α} {l : List α} (h : P a) (t : ∀ q ∈ l, P q) : ∀ q ∈ a :: l, P q := List.forall_mem_cons.mpr ⟨h, t⟩
theorem W_r {e : Nat} {w : Cond} (h : w ∈ chunk e) (g : goodWord w = true) : w ∈ TBL := List.mem_filter.mpr ⟨chunk_in h, g⟩
theorem N_r {e : Nat} {w : Cond} (h : w ∈ chunk e) (g : isNest w = true) : InW w := Or.inr (List.mem_filter.mpr ⟨chunk_in h, g⟩)
theorem FL_0 {a b e : Nat} (h1 : vwCl[ci]? = some (C, T, N)) (h2 : Nat.blt sl N = true) (h3 : (Cond.fieldLink (my F).cls i (T sl).1 (T sl).2.1 (T sl).2.2.1 : Cond) ∈ chunk e) (h4 : (T sl).2.2.2 = false) : FLok F (i, ci, sl, 0, a, b) :=
  ⟨(C, T, N), h1, Nat.blt_eq.mp h2, Or.inl (W_r h3 rfl), fun _ => h4, fun z => absurd (show 0 = 2 from z) (by decide)⟩
theorem FL_1 {a b e : Nat} (h1 : vwCl[ci]? = some (C, T, N)) (h2 : Nat.blt sl N = true) (h3 : (Cond.fieldLinkNest (my F).cls i (T sl).1 (T sl).2.1 (T sl).2.2.1 HOST : Cond) ∈ chunk e) (h4 : (T sl).2.2.2 = false) : FLok F (i, ci, sl, 1, a, b) :=
  ⟨(C, T, N), h1, Nat.blt_eq.mp h2, N_r h3 rfl, fun _ => h4, fun z => absurd (show 1 = 2 from z) (by decide)⟩
theorem FL_2 {a b e : Nat} (h1 : vwCl[ci]? = some (C, T, N)) (h2 : Nat.blt sl N = true) (h3 : (Cond.fieldLink (my F).cls i (T sl).1 (T sl).2.1 (T sl).2.2.1 : Cond) ∈ chunk e) (h4 : (T sl).2.2.2 = true) (h5 : (T sl).1 = (my F).cls) (h6 : (my F).name = "<init>") : FLok F (i, ci, sl, 2, a, b) :=
  ⟨(C, T, N), h1, Nat.blt_eq.mp h2, Or.inl (W_r h3 rfl), fun z => absurd (show 2 = 0 ∨ 2 = 1 from z) (by decide), fun _ => ⟨h4, h5, h6⟩⟩
theorem FL_3 {a b e : Nat} (h1 : vwCl[ci]? = some (C, T, N)) (h2 : Nat.blt sl N = true) (h3 : (Cond.fieldLink (my F).cls i (T sl).1 (T sl).2.1 (T sl).2.2.1 : Cond) ∈ chunk e) : FLok F (i, ci, sl, 3, a, b) :=
  ⟨(C, T, N), h1, Nat.blt_eq.mp h2, Or.inl (W_r h3 rfl), fun z => absurd (show 3 = 0 ∨ 3 = 1 from z) (by decide), fun z => absurd (show 3 = 2 from z) (by decide)⟩
theorem FL_4 {a b e : Nat} (h1 : vwCl[ci]? = some (C, T, N)) (h2 : Nat.blt sl N = true) (h3 : (Cond.fieldLinkNest (my F).cls i (T sl).1 (T sl).2.1 (T sl).2.2.1 HOST : Cond) ∈ chunk e) : FLok F (i, ci, sl, 4, a, b) :=
  ⟨(C, T, N), h1, Nat.blt_eq.mp h2, N_r h3 rfl, fun z => absurd (show 4 = 0 ∨ 4 = 1 from z) (by decide), fun z => absurd (show 4 = 2 from z) (by decide)⟩
def MFv (G : MR) : Prop := .instanceMethod (my G) ∈ TBL ∧ .selects (my G).cls (my G) (my G) ∈ TBL ∧ vwCl[mci G]?.map (fun r => r.1) = some (my G).cls
def MFj (G : MR) : Prop := .instanceMethod (my G) ∈ TBL ∧ .selects (my G).cls (my G) (my G) ∈ TBL ∧ (my G).cls = "java/lang/String"
def MFi (G : MR) : Prop := .instanceMethod (my G) ∈ TBL ∧ (my G).name = "<init>" ∧ mret G = none
theorem MFv_r (h1 : .instanceMethod (my G) ∈ TBL) (h2 : .selects (my G).cls (my G) (my G) ∈ TBL) (h3 : vwCl[mci G]?.map (fun r => r.1) = some (my G).cls) : MFv G := ⟨h1, h2, h3⟩
theorem MFj_r (h1 : .instanceMethod (my G) ∈ TBL) (h2 : .selects (my G).cls (my G) (my G) ∈ TBL) (h3 : (my G).cls = "java/lang/String") : MFj G := ⟨h1, h2, h3⟩
theorem MFi_r (h1 : .instanceMethod (my G) ∈ TBL) (h2 : (my G).name = "<init>") (h3 : mret G = none) : MFi G := ⟨h1, h2, h3⟩
theorem CK_8 {a b e : Nat} (h : (Cond.methodLink (my F).cls i arraycopyName : Cond) ∈ chunk e) : CKok MT F (i, 8, j, a, b) := ⟨fun _ => W_r h rfl, fun z => absurd (show 8 = 9 from z) (by decide), fun z => absurd (show 8 < 8 from z) (by decide)⟩
theorem CK_9 {a b e : Nat} (h : (Cond.methodLink (my F).cls i objectInit : Cond) ∈ chunk e) : CKok MT F (i, 9, j, a, b) := ⟨fun z => absurd (show 9 = 8 from z) (by decide), fun _ => W_r h rfl, fun z => absurd (show 9 < 8 from z) (by decide)⟩

theorem CK_0 {a b e : Nat} (hM : MT j = some G) (h : (Cond.methodLink (my F).cls i (my G) : Cond) ∈ chunk e) (m : MFv G) : CKok MT F (i, 0, j, a, b) := by
  refine ⟨fun z => absurd (show 0 = 8 from z) (by decide), fun z => absurd (show 0 = 9 from z) (by decide), fun _ G' hG => ?_⟩
  have e : some G = some G' := hM.symm.trans hG
  cases e
  have l : InW (Cond.methodLink (my F).cls i (my G)) := Or.inl (W_r h rfl)
  refine ⟨?_, fun _ => m, fun z => absurd (show 0 = 2 ∨ 0 = 3 from z) (by decide), fun z => absurd (show 0 = 4 ∨ 0 = 5 from z) (by decide), fun z => absurd (show 0 = 6 from z) (by decide)⟩
  rw [if_neg (by decide : ¬ ((0 : Nat) = 1 ∨ (0 : Nat) = 3 ∨ (0 : Nat) = 5))]
  exact l

theorem CK_1 {a b e : Nat} (hM : MT j = some G) (h : (Cond.methodLinkNest (my F).cls i (my G) HOST : Cond) ∈ chunk e) (m : MFv G) : CKok MT F (i, 1, j, a, b) := by
  refine ⟨fun z => absurd (show 1 = 8 from z) (by decide), fun z => absurd (show 1 = 9 from z) (by decide), fun _ G' hG => ?_⟩
  have e : some G = some G' := hM.symm.trans hG
  cases e
  have l : InW (Cond.methodLinkNest (my F).cls i (my G) HOST) := N_r h rfl
  refine ⟨?_, fun _ => m, fun z => absurd (show 1 = 2 ∨ 1 = 3 from z) (by decide), fun z => absurd (show 1 = 4 ∨ 1 = 5 from z) (by decide), fun z => absurd (show 1 = 6 from z) (by decide)⟩
  rw [if_pos (by decide : ((1 : Nat) = 1 ∨ (1 : Nat) = 3 ∨ (1 : Nat) = 5))]
  exact l

theorem CK_2 {a b e : Nat} (hM : MT j = some G) (h : (Cond.methodLink (my F).cls i (my G) : Cond) ∈ chunk e) (m : Cond.static (my G) ∈ TBL) : CKok MT F (i, 2, j, a, b) := by
  refine ⟨fun z => absurd (show 2 = 8 from z) (by decide), fun z => absurd (show 2 = 9 from z) (by decide), fun _ G' hG => ?_⟩
  have e : some G = some G' := hM.symm.trans hG
  cases e
  have l : InW (Cond.methodLink (my F).cls i (my G)) := Or.inl (W_r h rfl)
  refine ⟨?_, fun z => absurd (show 2 = 0 ∨ 2 = 1 from z) (by decide), fun _ => m, fun z => absurd (show 2 = 4 ∨ 2 = 5 from z) (by decide), fun z => absurd (show 2 = 6 from z) (by decide)⟩
  rw [if_neg (by decide : ¬ ((2 : Nat) = 1 ∨ (2 : Nat) = 3 ∨ (2 : Nat) = 5))]
  exact l

theorem CK_3 {a b e : Nat} (hM : MT j = some G) (h : (Cond.methodLinkNest (my F).cls i (my G) HOST : Cond) ∈ chunk e) (m : Cond.static (my G) ∈ TBL) : CKok MT F (i, 3, j, a, b) := by
  refine ⟨fun z => absurd (show 3 = 8 from z) (by decide), fun z => absurd (show 3 = 9 from z) (by decide), fun _ G' hG => ?_⟩
  have e : some G = some G' := hM.symm.trans hG
  cases e
  have l : InW (Cond.methodLinkNest (my F).cls i (my G) HOST) := N_r h rfl
  refine ⟨?_, fun z => absurd (show 3 = 0 ∨ 3 = 1 from z) (by decide), fun _ => m, fun z => absurd (show 3 = 4 ∨ 3 = 5 from z) (by decide), fun z => absurd (show 3 = 6 from z) (by decide)⟩
  rw [if_pos (by decide : ((3 : Nat) = 1 ∨ (3 : Nat) = 3 ∨ (3 : Nat) = 5))]
  exact l

theorem CK_4 {a b e : Nat} (hM : MT j = some G) (h : (Cond.methodLink (my F).cls i (my G) : Cond) ∈ chunk e) (m : MFi G) : CKok MT F (i, 4, j, a, b) := by
  refine ⟨fun z => absurd (show 4 = 8 from z) (by decide), fun z => absurd (show 4 = 9 from z) (by decide), fun _ G' hG => ?_⟩
  have e : some G = some G' := hM.symm.trans hG
  cases e
  have l : InW (Cond.methodLink (my F).cls i (my G)) := Or.inl (W_r h rfl)
  refine ⟨?_, fun z => absurd (show 4 = 0 ∨ 4 = 1 from z) (by decide), fun z => absurd (show 4 = 2 ∨ 4 = 3 from z) (by decide), fun _ => m, fun z => absurd (show 4 = 6 from z) (by decide)⟩
  rw [if_neg (by decide : ¬ ((4 : Nat) = 1 ∨ (4 : Nat) = 3 ∨ (4 : Nat) = 5))]
  exact l

theorem CK_5 {a b e : Nat} (hM : MT j = some G) (h : (Cond.methodLinkNest (my F).cls i (my G) HOST : Cond) ∈ chunk e) (m : MFi G) : CKok MT F (i, 5, j, a, b) := by
  refine ⟨fun z => absurd (show 5 = 8 from z) (by decide), fun z => absurd (show 5 = 9 from z) (by decide), fun _ G' hG => ?_⟩
  have e : some G = some G' := hM.symm.trans hG
  cases e
  have l : InW (Cond.methodLinkNest (my F).cls i (my G) HOST) := N_r h rfl
  refine ⟨?_, fun z => absurd (show 5 = 0 ∨ 5 = 1 from z) (by decide), fun z => absurd (show 5 = 2 ∨ 5 = 3 from z) (by decide), fun _ => m, fun z => absurd (show 5 = 6 from z) (by decide)⟩
  rw [if_pos (by decide : ((5 : Nat) = 1 ∨ (5 : Nat) = 3 ∨ (5 : Nat) = 5))]
  exact l

theorem CK_6 {a b e : Nat} (hM : MT j = some G) (h : (Cond.methodLink (my F).cls i (my G) : Cond) ∈ chunk e) (m : MFj G) : CKok MT F (i, 6, j, a, b) := by
  refine ⟨fun z => absurd (show 6 = 8 from z) (by decide), fun z => absurd (show 6 = 9 from z) (by decide), fun _ G' hG => ?_⟩
  have e : some G = some G' := hM.symm.trans hG
  cases e
  have l : InW (Cond.methodLink (my F).cls i (my G)) := Or.inl (W_r h rfl)
  refine ⟨?_, fun z => absurd (show 6 = 0 ∨ 6 = 1 from z) (by decide), fun z => absurd (show 6 = 2 ∨ 6 = 3 from z) (by decide), fun z => absurd (show 6 = 4 ∨ 6 = 5 from z) (by decide), fun _ => m⟩
  rw [if_neg (by decide : ¬ ((6 : Nat) = 1 ∨ (6 : Nat) = 3 ∨ (6 : Nat) = 5))]
  exact l

theorem KC_r {a b e : Nat} (h1 : vwCl[ci]? = some (C, T, N)) (h : (Cond.classLink (my F).cls i C : Cond) ∈ chunk e) : KCok F (i, ci, a, b) := ⟨(C, T, N), h1, W_r h rfl⟩
theorem XS_0 (n : Nat) {a b : Nat} (h : STRTAB[n]? = some ((my F).cls, i, v)) : XOK F (i, 0, v, a, b) := ⟨fun _ => List.mem_of_getElem? h, fun z => absurd (show 0 = 1 from z) (by decide), fun z => absurd (show 0 = 2 from z) (by decide), fun z => absurd (show 0 = 3 from z) (by decide), fun z => absurd (show 0 = 4 from z) (by decide)⟩
theorem XS_1 {a b e : Nat} (h : (Cond.fieldLink (my F).cls i "java/lang/String" "value" "[B" : Cond) ∈ chunk e) : XOK F (i, 1, v, a, b) := ⟨fun z => absurd (show 1 = 0 from z) (by decide), fun _ => W_r h rfl, fun z => absurd (show 1 = 2 from z) (by decide), fun z => absurd (show 1 = 3 from z) (by decide), fun z => absurd (show 1 = 4 from z) (by decide)⟩
theorem XS_2 {a b e : Nat} (h : (Cond.fieldLink (my F).cls i "java/lang/String" "coder" "B" : Cond) ∈ chunk e) : XOK F (i, 2, v, a, b) := ⟨fun z => absurd (show 2 = 0 from z) (by decide), fun z => absurd (show 2 = 1 from z) (by decide), fun _ => W_r h rfl, fun z => absurd (show 2 = 3 from z) (by decide), fun z => absurd (show 2 = 4 from z) (by decide)⟩
theorem XS_3 {a b e : Nat} (h : (Cond.fieldLink (my F).cls i "java/lang/String" "COMPACT_STRINGS" "Z" : Cond) ∈ chunk e) : XOK F (i, 3, v, a, b) := ⟨fun z => absurd (show 3 = 0 from z) (by decide), fun z => absurd (show 3 = 1 from z) (by decide), fun z => absurd (show 3 = 2 from z) (by decide), fun _ => W_r h rfl, fun z => absurd (show 3 = 4 from z) (by decide)⟩
theorem XS_4 {a b e : Nat} (h : (Cond.fieldLink (my F).cls i "jdk/internal/util/Preconditions" "SIOOBE_FORMATTER" "Ljava/util/function/BiFunction;" : Cond) ∈ chunk e) : XOK F (i, 4, v, a, b) := ⟨fun z => absurd (show 4 = 0 from z) (by decide), fun z => absurd (show 4 = 1 from z) (by decide), fun z => absurd (show 4 = 2 from z) (by decide), fun z => absurd (show 4 = 3 from z) (by decide), fun _ => W_r h rfl⟩
theorem GK_r {e : Nat} (h1 : (Cond.code (my G) (mcc G) (mml G) (mret G) : Cond) ∈ chunk e) (h2 : .initialized (my G).cls ∈ TBL) (h3 : plainFor (my G) = true) (h4 : (my G).cls ≠ "java/lang/invoke/MethodHandle" ∧ (my G).cls ≠ "java/lang/invoke/VarHandle") (h6 : (parseMethodDescriptor (my G).desc).map (fun d => d.parameters.length) = some (mnp G)) : GOK G := ⟨W_r h1 rfl, h2, h3, h4.1, h4.2, h6⟩
theorem FK_r (h1 : ∀ q ∈ mcode F, IOK F q) (h2 : ∀ q ∈ mfl F, FLok F q) (h3 : ∀ q ∈ mcl F, CKok MT F q) (h4 : ∀ q ∈ mki F, .constant (my F).cls q.1 q.2.1 ∈ TBL) (h5 : ∀ q ∈ mkl F, .constantLong (my F).cls q.1 q.2.1 ∈ TBL) (h6 : ∀ q ∈ mkc F, KCok F q) (h7 : ∀ q ∈ mks F, XOK F q) : FOK MT F := ⟨h1, h2, h3, h4, h5, h6, h7⟩
theorem FW_r (h1 : walf (mcode F) 0 ((mcc F).data.toList.drop 0) = true) (h2 : (mcode F).all (fun q => !isSw q.2.1 || chkI F q) = true) : ∀ q ∈ mcode F, IOK F q := WLF 0 h1 h2
theorem plain_of {x : MethodName} (h : plainName x.cls = true) : plainFor x = true := by unfold plainFor; rw [h]; rfl
end RFW
end
/-! 04f.blk -/
section
theorem bi_1_0 {w : Cond} (h : w ∈ bk_1_0) : w ∈ chunk 1 := bt_1_0 h
theorem bi_1_1 {w : Cond} (h : w ∈ bk_1_1) : w ∈ chunk 1 := bt_1_1 h
theorem bi_1_2 {w : Cond} (h : w ∈ bk_1_2) : w ∈ chunk 1 := bt_1_2 h
theorem bi_1_3 {w : Cond} (h : w ∈ bk_1_3) : w ∈ chunk 1 := bt_1_3 h
theorem bi_1_4 {w : Cond} (h : w ∈ bk_1_4) : w ∈ chunk 1 := bt_1_4 h
theorem bi_1_5 {w : Cond} (h : w ∈ bk_1_5) : w ∈ chunk 1 := bt_1_5 h
theorem bi_1_6 {w : Cond} (h : w ∈ bk_1_6) : w ∈ chunk 1 := bt_1_6 h
theorem bi_1_7 {w : Cond} (h : w ∈ bk_1_7) : w ∈ chunk 1 := bt_1_7 h
theorem bi_1_8 {w : Cond} (h : w ∈ bk_1_8) : w ∈ chunk 1 := bt_1_8 h
theorem bi_1_9 {w : Cond} (h : w ∈ bk_1_9) : w ∈ chunk 1 := bt_1_9 h
theorem bi_1_10 {w : Cond} (h : w ∈ bk_1_10) : w ∈ chunk 1 := bt_1_10 h
theorem bi_1_11 {w : Cond} (h : w ∈ bk_1_11) : w ∈ chunk 1 := bt_1_11 h
theorem bi_1_12 {w : Cond} (h : w ∈ bk_1_12) : w ∈ chunk 1 := bt_1_12 h
theorem bi_1_13 {w : Cond} (h : w ∈ bk_1_13) : w ∈ chunk 1 := bt_1_13 h
theorem bi_1_14 {w : Cond} (h : w ∈ bk_1_14) : w ∈ chunk 1 := bt_1_14 h
theorem bi_2_0 {w : Cond} (h : w ∈ bk_2_0) : w ∈ chunk 2 := bt_2_0 h
theorem bi_2_1 {w : Cond} (h : w ∈ bk_2_1) : w ∈ chunk 2 := bt_2_1 h
theorem bi_2_2 {w : Cond} (h : w ∈ bk_2_2) : w ∈ chunk 2 := bt_2_2 h
theorem bi_2_4 {w : Cond} (h : w ∈ bk_2_4) : w ∈ chunk 2 := bt_2_4 h
theorem bi_2_5 {w : Cond} (h : w ∈ bk_2_5) : w ∈ chunk 2 := bt_2_5 h
theorem bi_2_6 {w : Cond} (h : w ∈ bk_2_6) : w ∈ chunk 2 := bt_2_6 h
theorem bi_2_8 {w : Cond} (h : w ∈ bk_2_8) : w ∈ chunk 2 := bt_2_8 h
theorem bi_2_9 {w : Cond} (h : w ∈ bk_2_9) : w ∈ chunk 2 := bt_2_9 h
theorem bi_2_10 {w : Cond} (h : w ∈ bk_2_10) : w ∈ chunk 2 := bt_2_10 h
theorem bi_2_11 {w : Cond} (h : w ∈ bk_2_11) : w ∈ chunk 2 := bt_2_11 h
theorem bi_2_12 {w : Cond} (h : w ∈ bk_2_12) : w ∈ chunk 2 := bt_2_12 h
theorem bi_2_13 {w : Cond} (h : w ∈ bk_2_13) : w ∈ chunk 2 := bt_2_13 h
theorem bi_2_14 {w : Cond} (h : w ∈ bk_2_14) : w ∈ chunk 2 := bt_2_14 h
theorem bi_3_0 {w : Cond} (h : w ∈ bk_3_0) : w ∈ chunk 3 := bt_3_0 h
theorem bi_3_1 {w : Cond} (h : w ∈ bk_3_1) : w ∈ chunk 3 := bt_3_1 h
theorem bi_3_2 {w : Cond} (h : w ∈ bk_3_2) : w ∈ chunk 3 := bt_3_2 h
theorem bi_3_3 {w : Cond} (h : w ∈ bk_3_3) : w ∈ chunk 3 := bt_3_3 h
theorem bi_3_4 {w : Cond} (h : w ∈ bk_3_4) : w ∈ chunk 3 := bt_3_4 h
theorem bi_3_5 {w : Cond} (h : w ∈ bk_3_5) : w ∈ chunk 3 := bt_3_5 h
theorem bi_3_6 {w : Cond} (h : w ∈ bk_3_6) : w ∈ chunk 3 := bt_3_6 h
theorem bi_3_7 {w : Cond} (h : w ∈ bk_3_7) : w ∈ chunk 3 := bt_3_7 h
theorem bi_3_8 {w : Cond} (h : w ∈ bk_3_8) : w ∈ chunk 3 := bt_3_8 h
theorem bi_3_9 {w : Cond} (h : w ∈ bk_3_9) : w ∈ chunk 3 := bt_3_9 h
theorem bi_3_10 {w : Cond} (h : w ∈ bk_3_10) : w ∈ chunk 3 := bt_3_10 h
theorem bi_3_11 {w : Cond} (h : w ∈ bk_3_11) : w ∈ chunk 3 := bt_3_11 h
theorem bi_3_12 {w : Cond} (h : w ∈ bk_3_12) : w ∈ chunk 3 := bt_3_12 h
theorem bi_3_13 {w : Cond} (h : w ∈ bk_3_13) : w ∈ chunk 3 := bt_3_13 h
theorem bi_3_14 {w : Cond} (h : w ∈ bk_3_14) : w ∈ chunk 3 := bt_3_14 h
theorem bi_4_0 {w : Cond} (h : w ∈ bk_4_0) : w ∈ chunk 4 := bt_4_0 h
theorem bi_4_1 {w : Cond} (h : w ∈ bk_4_1) : w ∈ chunk 4 := bt_4_1 h
theorem bi_4_2 {w : Cond} (h : w ∈ bk_4_2) : w ∈ chunk 4 := bt_4_2 h
theorem bi_4_3 {w : Cond} (h : w ∈ bk_4_3) : w ∈ chunk 4 := bt_4_3 h
theorem bi_4_4 {w : Cond} (h : w ∈ bk_4_4) : w ∈ chunk 4 := bt_4_4 h
theorem bi_4_5 {w : Cond} (h : w ∈ bk_4_5) : w ∈ chunk 4 := bt_4_5 h
theorem bi_4_6 {w : Cond} (h : w ∈ bk_4_6) : w ∈ chunk 4 := bt_4_6 h
theorem bi_4_7 {w : Cond} (h : w ∈ bk_4_7) : w ∈ chunk 4 := bt_4_7 h
theorem bi_4_8 {w : Cond} (h : w ∈ bk_4_8) : w ∈ chunk 4 := bt_4_8 h
theorem bi_4_9 {w : Cond} (h : w ∈ bk_4_9) : w ∈ chunk 4 := bt_4_9 h
theorem bi_4_10 {w : Cond} (h : w ∈ bk_4_10) : w ∈ chunk 4 := bt_4_10 h
theorem bi_4_11 {w : Cond} (h : w ∈ bk_4_11) : w ∈ chunk 4 := bt_4_11 h
theorem bi_4_12 {w : Cond} (h : w ∈ bk_4_12) : w ∈ chunk 4 := bt_4_12 h
theorem bi_4_13 {w : Cond} (h : w ∈ bk_4_13) : w ∈ chunk 4 := bt_4_13 h
theorem bi_4_14 {w : Cond} (h : w ∈ bk_4_14) : w ∈ chunk 4 := bt_4_14 h
theorem bi_5_0 {w : Cond} (h : w ∈ bk_5_0) : w ∈ chunk 5 := bt_5_0 h
theorem bi_5_1 {w : Cond} (h : w ∈ bk_5_1) : w ∈ chunk 5 := bt_5_1 h
theorem bi_5_2 {w : Cond} (h : w ∈ bk_5_2) : w ∈ chunk 5 := bt_5_2 h
theorem bi_5_3 {w : Cond} (h : w ∈ bk_5_3) : w ∈ chunk 5 := bt_5_3 h
theorem bi_5_4 {w : Cond} (h : w ∈ bk_5_4) : w ∈ chunk 5 := bt_5_4 h
theorem bi_5_5 {w : Cond} (h : w ∈ bk_5_5) : w ∈ chunk 5 := bt_5_5 h
theorem bi_5_6 {w : Cond} (h : w ∈ bk_5_6) : w ∈ chunk 5 := bt_5_6 h
theorem bi_5_7 {w : Cond} (h : w ∈ bk_5_7) : w ∈ chunk 5 := bt_5_7 h
theorem bi_5_8 {w : Cond} (h : w ∈ bk_5_8) : w ∈ chunk 5 := bt_5_8 h
theorem bi_5_9 {w : Cond} (h : w ∈ bk_5_9) : w ∈ chunk 5 := bt_5_9 h
theorem bi_5_10 {w : Cond} (h : w ∈ bk_5_10) : w ∈ chunk 5 := bt_5_10 h
theorem bi_5_11 {w : Cond} (h : w ∈ bk_5_11) : w ∈ chunk 5 := bt_5_11 h
theorem bi_5_12 {w : Cond} (h : w ∈ bk_5_12) : w ∈ chunk 5 := bt_5_12 h
theorem bi_5_13 {w : Cond} (h : w ∈ bk_5_13) : w ∈ chunk 5 := bt_5_13 h
theorem bi_5_14 {w : Cond} (h : w ∈ bk_5_14) : w ∈ chunk 5 := bt_5_14 h
theorem bi_6_3 {w : Cond} (h : w ∈ bk_6_3) : w ∈ chunk 6 := bt_6_3 h
theorem bi_6_4 {w : Cond} (h : w ∈ bk_6_4) : w ∈ chunk 6 := bt_6_4 h
theorem bi_6_5 {w : Cond} (h : w ∈ bk_6_5) : w ∈ chunk 6 := bt_6_5 h
theorem bi_6_6 {w : Cond} (h : w ∈ bk_6_6) : w ∈ chunk 6 := bt_6_6 h
theorem bi_6_7 {w : Cond} (h : w ∈ bk_6_7) : w ∈ chunk 6 := bt_6_7 h
theorem bi_6_8 {w : Cond} (h : w ∈ bk_6_8) : w ∈ chunk 6 := bt_6_8 h
theorem bi_6_9 {w : Cond} (h : w ∈ bk_6_9) : w ∈ chunk 6 := bt_6_9 h
theorem bi_6_10 {w : Cond} (h : w ∈ bk_6_10) : w ∈ chunk 6 := bt_6_10 h
theorem bi_6_11 {w : Cond} (h : w ∈ bk_6_11) : w ∈ chunk 6 := bt_6_11 h
theorem bi_6_12 {w : Cond} (h : w ∈ bk_6_12) : w ∈ chunk 6 := bt_6_12 h
theorem bi_6_13 {w : Cond} (h : w ∈ bk_6_13) : w ∈ chunk 6 := bt_6_13 h
theorem bi_6_14 {w : Cond} (h : w ∈ bk_6_14) : w ∈ chunk 6 := bt_6_14 h
theorem bi_7_0 {w : Cond} (h : w ∈ bk_7_0) : w ∈ chunk 7 := bt_7_0 h
theorem bi_7_1 {w : Cond} (h : w ∈ bk_7_1) : w ∈ chunk 7 := bt_7_1 h
theorem bi_7_2 {w : Cond} (h : w ∈ bk_7_2) : w ∈ chunk 7 := bt_7_2 h
theorem bi_7_3 {w : Cond} (h : w ∈ bk_7_3) : w ∈ chunk 7 := bt_7_3 h
theorem bi_7_4 {w : Cond} (h : w ∈ bk_7_4) : w ∈ chunk 7 := bt_7_4 h
theorem bi_7_5 {w : Cond} (h : w ∈ bk_7_5) : w ∈ chunk 7 := bt_7_5 h
theorem bi_7_6 {w : Cond} (h : w ∈ bk_7_6) : w ∈ chunk 7 := bt_7_6 h
theorem bi_7_7 {w : Cond} (h : w ∈ bk_7_7) : w ∈ chunk 7 := bt_7_7 h
theorem bi_7_8 {w : Cond} (h : w ∈ bk_7_8) : w ∈ chunk 7 := bt_7_8 h
theorem bi_7_9 {w : Cond} (h : w ∈ bk_7_9) : w ∈ chunk 7 := bt_7_9 h
theorem bi_7_10 {w : Cond} (h : w ∈ bk_7_10) : w ∈ chunk 7 := bt_7_10 h
theorem bi_7_11 {w : Cond} (h : w ∈ bk_7_11) : w ∈ chunk 7 := bt_7_11 h
theorem bi_7_12 {w : Cond} (h : w ∈ bk_7_12) : w ∈ chunk 7 := bt_7_12 h
theorem bi_7_13 {w : Cond} (h : w ∈ bk_7_13) : w ∈ chunk 7 := bt_7_13 h
theorem bi_7_14 {w : Cond} (h : w ∈ bk_7_14) : w ∈ chunk 7 := bt_7_14 h
theorem bi_8_0 {w : Cond} (h : w ∈ bk_8_0) : w ∈ chunk 8 := bt_8_0 h
theorem bi_8_1 {w : Cond} (h : w ∈ bk_8_1) : w ∈ chunk 8 := bt_8_1 h
theorem bi_8_2 {w : Cond} (h : w ∈ bk_8_2) : w ∈ chunk 8 := bt_8_2 h
theorem bi_8_3 {w : Cond} (h : w ∈ bk_8_3) : w ∈ chunk 8 := bt_8_3 h
theorem bi_8_4 {w : Cond} (h : w ∈ bk_8_4) : w ∈ chunk 8 := bt_8_4 h
theorem bi_8_5 {w : Cond} (h : w ∈ bk_8_5) : w ∈ chunk 8 := bt_8_5 h
theorem bi_8_6 {w : Cond} (h : w ∈ bk_8_6) : w ∈ chunk 8 := bt_8_6 h
theorem bi_8_7 {w : Cond} (h : w ∈ bk_8_7) : w ∈ chunk 8 := bt_8_7 h
theorem bi_8_8 {w : Cond} (h : w ∈ bk_8_8) : w ∈ chunk 8 := bt_8_8 h
theorem bi_8_9 {w : Cond} (h : w ∈ bk_8_9) : w ∈ chunk 8 := bt_8_9 h
theorem bi_8_10 {w : Cond} (h : w ∈ bk_8_10) : w ∈ chunk 8 := bt_8_10 h
theorem bi_8_11 {w : Cond} (h : w ∈ bk_8_11) : w ∈ chunk 8 := bt_8_11 h
theorem bi_8_12 {w : Cond} (h : w ∈ bk_8_12) : w ∈ chunk 8 := bt_8_12 h
theorem sI_1 {q : MethodName × Nat} (h : q ∈ lw_privs_1) : Cond.selects q.1.cls q.1 q.1 ∈ chunk 0 := List.mem_map.mpr ⟨q, (List.mem_append_left _ h), rfl⟩
theorem sI_2 {q : MethodName × Nat} (h : q ∈ lw_privs_2) : Cond.selects q.1.cls q.1 q.1 ∈ chunk 0 := List.mem_map.mpr ⟨q, (List.mem_append_right _ (List.mem_append_left _ h)), rfl⟩
theorem sI_3 {q : MethodName × Nat} (h : q ∈ lw_privs_3) : Cond.selects q.1.cls q.1 q.1 ∈ chunk 0 := List.mem_map.mpr ⟨q, (List.mem_append_right _ (List.mem_append_right _ (List.mem_append_left _ h))), rfl⟩
theorem sI_4 {q : MethodName × Nat} (h : q ∈ lw_privs_4) : Cond.selects q.1.cls q.1 q.1 ∈ chunk 0 := List.mem_map.mpr ⟨q, (List.mem_append_right _ (List.mem_append_right _ (List.mem_append_right _ (List.mem_append_left _ h)))), rfl⟩
theorem sI_5 {q : MethodName × Nat} (h : q ∈ lw_privs_5) : Cond.selects q.1.cls q.1 q.1 ∈ chunk 0 := List.mem_map.mpr ⟨q, (List.mem_append_right _ (List.mem_append_right _ (List.mem_append_right _ (List.mem_append_right _ (List.mem_append_left _ h))))), rfl⟩
theorem sI_6 {q : MethodName × Nat} (h : q ∈ lw_privs_6) : Cond.selects q.1.cls q.1 q.1 ∈ chunk 0 := List.mem_map.mpr ⟨q, (List.mem_append_right _ (List.mem_append_right _ (List.mem_append_right _ (List.mem_append_right _ (List.mem_append_right _ (List.mem_append_left _ h)))))), rfl⟩
theorem sI_7 {q : MethodName × Nat} (h : q ∈ lw_privs_7) : Cond.selects q.1.cls q.1 q.1 ∈ chunk 0 := List.mem_map.mpr ⟨q, (List.mem_append_right _ (List.mem_append_right _ (List.mem_append_right _ (List.mem_append_right _ (List.mem_append_right _ (List.mem_append_right _ (List.mem_append_left _ h))))))), rfl⟩
theorem sI_8 {q : MethodName × Nat} (h : q ∈ lw_privs_8) : Cond.selects q.1.cls q.1 q.1 ∈ chunk 0 := List.mem_map.mpr ⟨q, (List.mem_append_right _ (List.mem_append_right _ (List.mem_append_right _ (List.mem_append_right _ (List.mem_append_right _ (List.mem_append_right _ (List.mem_append_right _ (List.mem_append_left _ h)))))))), rfl⟩
theorem sI_9 {q : MethodName × Nat} (h : q ∈ lw_privs_9) : Cond.selects q.1.cls q.1 q.1 ∈ chunk 0 := List.mem_map.mpr ⟨q, (List.mem_append_right _ (List.mem_append_right _ (List.mem_append_right _ (List.mem_append_right _ (List.mem_append_right _ (List.mem_append_right _ (List.mem_append_right _ (List.mem_append_right _ (List.mem_append_left _ h))))))))), rfl⟩
theorem sI_10 {q : MethodName × Nat} (h : q ∈ lw_privs_10) : Cond.selects q.1.cls q.1 q.1 ∈ chunk 0 := List.mem_map.mpr ⟨q, (List.mem_append_right _ (List.mem_append_right _ (List.mem_append_right _ (List.mem_append_right _ (List.mem_append_right _ (List.mem_append_right _ (List.mem_append_right _ (List.mem_append_right _ (List.mem_append_right _ (List.mem_append_left _ h)))))))))), rfl⟩
theorem sI_11 {q : MethodName × Nat} (h : q ∈ lw_privs_11) : Cond.selects q.1.cls q.1 q.1 ∈ chunk 0 := List.mem_map.mpr ⟨q, (List.mem_append_right _ (List.mem_append_right _ (List.mem_append_right _ (List.mem_append_right _ (List.mem_append_right _ (List.mem_append_right _ (List.mem_append_right _ (List.mem_append_right _ (List.mem_append_right _ (List.mem_append_right _ h)))))))))), rfl⟩
end
/-! 05.pure -/
section
/-! the steps that read alone -/
abbrev AS : Type := Option (Nat × (Nat → Int32))
def jmp (t : Bool) (a b : Nat) (lv : ALv) (r : List Value) : Option (Nat × ALv × List Value) := match t with
  | true => some (a, lv, r)
  | false => some (b, lv, r)
theorem jmp_inv {t : Bool} {a b : Nat} {lv : ALv} {r : List Value} {x : Nat × ALv × List Value} (h : jmp t a b lv r = some x) : (t = true ∧ x = (a, lv, r)) ∨ (t = false ∧ x = (b, lv, r)) := by
  unfold jmp at h; split at h
  · cases h; exact Or.inl ⟨rfl, rfl⟩
  · cases h; exact Or.inr ⟨rfl, rfl⟩
def sV {α : Type} (st : List Value) (f : Value → List Value → Option α) : Option α := match st with
  | v :: r => f v r
  | _ => none
def sVV {α : Type} (st : List Value) (f : Value → Value → List Value → Option α) : Option α := match st with
  | v :: u :: r => f v u r
  | _ => none
theorem sV_inv {α : Type} {st : List Value} {f : Value → List Value → Option α} {a : α} (h : sV st f = some a) : ∃ v r, st = v :: r ∧ f v r = some a := by
  unfold sV at h; split at h
  · exact ⟨_, _, rfl, h⟩
  · cases h
theorem sVV_inv {α : Type} {st : List Value} {f : Value → Value → List Value → Option α} {a : α} (h : sVV st f = some a) : ∃ v u r, st = v :: u :: r ∧ f v u r = some a := by
  unfold sVV at h; split at h
  · exact ⟨_, _, _, rfl, h⟩
  · cases h
/-- a load out of a row -/
def ldR (scr : AS) (k ty1 ty2 : Nat) (st : List Value) (h : AH) : Option (Value × List Value) := match st with
  | .int j :: .ref a :: r => oB h[a]? (fun c => oC (c.1 == k && (c.2.1 == ty1 || c.2.1 == ty2) && decide (¬ j < 0)) (oB c.2.2[j.toNatClampNeg]? (fun v => some (v, r))))
  | .int j :: .retAddr 0 :: r => oB scr (fun q => oC (decide (¬ (j < 0 ∨ q.1 ≤ j.toNatClampNeg))) (some (.int (q.2 j.toNatClampNeg), r)))
  | _ => none
theorem ldR_inv {scr : AS} {k t1 t2 : Nat} {st : List Value} {h : AH} {x : Value × List Value} (hh : ldR scr k t1 t2 st h = some x) :
    (∃ a j c, st = .int j :: .ref a :: x.2 ∧ h[a]? = some c ∧ c.1 = k ∧ (c.2.1 = t1 ∨ c.2.1 = t2) ∧ ¬ j < 0 ∧ c.2.2[j.toNatClampNeg]? = some x.1) ∨ (∃ (_ : Nat) (j : Int32) (q : Nat × (Nat → Int32)), st = .int j :: .retAddr 0 :: x.2 ∧ scr = some q ∧ ¬ (j < 0 ∨ q.1 ≤ j.toNatClampNeg) ∧ x.1 = .int (q.2 j.toNatClampNeg)) := by
  unfold ldR at hh; split at hh
  · rename_i j a r
    obtain ⟨c, hc, h2⟩ := oB_inv hh
    obtain ⟨h3, h4⟩ := oC_inv h2
    obtain ⟨v, hv, h5⟩ := oB_inv h4
    cases h5
    simp only [Bool.and_eq_true, Bool.or_eq_true, beq_iff_eq, decide_eq_true_eq] at h3
    exact Or.inl ⟨a, j, c, rfl, hc, h3.1.1, h3.1.2, h3.2, hv⟩
  · rename_i j r
    obtain ⟨q, hq, h2⟩ := oB_inv hh
    obtain ⟨h3, h4⟩ := oC_inv h2
    cases h4
    exact Or.inr ⟨0, j, q, rfl, hq, of_decide_eq_true h3, rfl⟩
  · cases hh
def isI : Value → Bool
  | .int _ => true
  | _ => false
def isL : Value → Bool
  | .long _ => true
  | _ => false
def isR : Value → Bool
  | .ref _ => true
  | .null => true
  | _ => false
theorem isI_inv {v : Value} (h : isI v = true) : ∃ x, v = .int x := by cases v <;> first | exact ⟨_, rfl⟩ | cases h
theorem isL_inv {v : Value} (h : isL v = true) : ∃ x, v = .long x := by cases v <;> first | exact ⟨_, rfl⟩ | cases h
theorem isR_inv {v : Value} (h : isR v = true) : v = .null ∨ ∃ x, v = .ref x := by cases v <;> first | exact Or.inr ⟨_, rfl⟩ | exact Or.inl rfl | cases h
def alen (scr : AS) (h : AH) (v : Value) : Option Int32 := match v with
  | .ref a => oB h[a]? (fun c => oC ((c.1 == 1 || c.1 == 2 || c.1 == 3) && decide (c.2.1 < 7)) (some (Int32.ofNat c.2.2.length)))
  | .retAddr 0 => oB scr (fun q => some (Int32.ofNat q.1))
  | _ => none
def tsw (pc : Nat) (dflt lo hi : Int) (offs : Array Int) (x : Int32) : Option Nat :=
  if x.toInt < lo ∨ hi < x.toInt then oC (decide (0 ≤ (pc : Int) + dflt)) (some ((pc : Int) + dflt).toNat) else oB offs[(x.toInt - lo).toNat]? (fun o => oC (decide (0 ≤ (pc : Int) + o)) (some ((pc : Int) + o).toNat))

def stpP (F : MR) (scr : AS) (i : Instr) (tgt pc : Nat) (lv : ALv) (st : List Value) (h : AH) : Option (Nat × ALv × List Value) :=
  match i with
  | .iconst n => some (pc + 1, lv, .int (Int32.ofInt n) :: st)
  | .bipush n => some (pc + 2, lv, .int (Int8.ofInt n).toInt32 :: st)
  | .sipush n => some (pc + 3, lv, .int (Int16.ofInt n).toInt32 :: st)
  | .lconst n => some (pc + 1, lv, .long (Int64.ofNat (n : Nat)) :: st)
  | .iload_n k => oB (ldI lv (k : Nat)) (fun v => some (pc + 1, lv, v :: st))
  | .iload k => oB (ldI lv k) (fun v => some (pc + 2, lv, v :: st))
  | .lload_n k => oB (ldL lv (k : Nat)) (fun v => some (pc + 1, lv, v :: st))
  | .lload k => oB (ldL lv k) (fun v => some (pc + 2, lv, v :: st))
  | .aload_n k => oB (ldA lv (k : Nat)) (fun v => some (pc + 1, lv, v :: st))
  | .aload k => oB (ldA lv k) (fun v => some (pc + 2, lv, v :: st))
  | .istore_n k => sI st (fun x r => oC (decide ((k : Nat) < mml F)) (some (pc + 1, lvset1 lv (k : Nat) (.int x), r)))
  | .istore k => sI st (fun x r => oC (decide (k < mml F)) (some (pc + 2, lvset1 lv k (.int x), r)))
  | .lstore_n k => sL st (fun x r => oC (decide ((k : Nat) + 1 < mml F)) (some (pc + 1, lvset2 lv (k : Nat) (.long x), r)))
  | .lstore k => sL st (fun x r => oC (decide (k + 1 < mml F)) (some (pc + 2, lvset2 lv k (.long x), r)))
  | .astore_n k => sR st (fun x r => oC (decide ((k : Nat) < mml F)) (some (pc + 1, lvset1 lv (k : Nat) (.ref x), r)))
  | .astore k => sR st (fun x r => oC (decide (k < mml F)) (some (pc + 2, lvset1 lv k (.ref x), r)))
  | .iinc k n => oB (ldI lv k) (fun v => oC (decide (k < mml F)) (some (pc + 3, lvset1 lv k (.int (asI v + Int32.ofInt n)), st)))
  | .iadd => sII st (fun x y r => some (pc + 1, lv, .int (x + y) :: r))
  | .isub => sII st (fun x y r => some (pc + 1, lv, .int (x - y) :: r))
  | .imul => sII st (fun x y r => some (pc + 1, lv, .int (x * y) :: r))
  | .iand => sII st (fun x y r => some (pc + 1, lv, .int (x &&& y) :: r))
  | .ior => sII st (fun x y r => some (pc + 1, lv, .int (x ||| y) :: r))
  | .ixor => sII st (fun x y r => some (pc + 1, lv, .int (x ^^^ y) :: r))
  | .ishl => sII st (fun x y r => some (pc + 1, lv, .int (x <<< (y &&& 31)) :: r))
  | .ishr => sII st (fun x y r => some (pc + 1, lv, .int (x >>> (y &&& 31)) :: r))
  | .iushr => sII st (fun x y r => some (pc + 1, lv, .int ((x.toUInt32 >>> (y.toUInt32 &&& Int32.toUInt32 31)).toInt32) :: r))
  | .idiv => sII st (fun x y r => oC (decide (¬ y = 0)) (some (pc + 1, lv, .int (x / y) :: r)))
  | .irem => sII st (fun x y r => oC (decide (¬ y = 0)) (some (pc + 1, lv, .int (x - x / y * y) :: r)))
  | .ladd => sLL st (fun x y r => some (pc + 1, lv, .long (x + y) :: r))
  | .lsub => sLL st (fun x y r => some (pc + 1, lv, .long (x - y) :: r))
  | .lmul => sLL st (fun x y r => some (pc + 1, lv, .long (x * y) :: r))
  | .land => sLL st (fun x y r => some (pc + 1, lv, .long (x &&& y) :: r))
  | .lor => sLL st (fun x y r => some (pc + 1, lv, .long (x ||| y) :: r))
  | .lxor => sLL st (fun x y r => some (pc + 1, lv, .long (x ^^^ y) :: r))
  | .ldiv => sLL st (fun x y r => oC (decide (¬ y = 0)) (some (pc + 1, lv, .long (x / y) :: r)))
  | .lrem => sLL st (fun x y r => oC (decide (¬ y = 0)) (some (pc + 1, lv, .long (x - x / y * y) :: r)))
  | .lshl => sLI st (fun x y r => some (pc + 1, lv, .long (x <<< (y.toInt64 &&& 63)) :: r))
  | .lshr => sLI st (fun x y r => some (pc + 1, lv, .long (x >>> (y.toInt64 &&& 63)) :: r))
  | .ineg => sI st (fun x r => some (pc + 1, lv, .int (-x) :: r))
  | .i2l => sI st (fun x r => some (pc + 1, lv, .long x.toInt64 :: r))
  | .l2i => sL st (fun x r => some (pc + 1, lv, .int x.toInt32 :: r))
  | .i2b => sI st (fun x r => some (pc + 1, lv, .int x.toInt8.toInt32 :: r))
  | .lcmp => sLL st (fun x y r => some (pc + 1, lv, .int (lg_cmp x y) :: r))
  | .dup => sV st (fun v r => oC (v.category == 1) (some (pc + 1, lv, v :: v :: r)))
  | .dup2 => sVV st (fun v u r => oC (v.category == 1 && u.category == 1) (some (pc + 1, lv, v :: u :: v :: u :: r)))
  | .pop => sV st (fun v r => oC (v.category == 1) (some (pc + 1, lv, r)))
  | .goto _ => some (tgt, lv, st)
  | .if_icmp .eq _ => sII st (fun x y r => jmp (decide (x = y)) tgt (pc + 3) lv r)
  | .ifCond .eq _ => sI st (fun x r => jmp (decide (x = 0)) tgt (pc + 3) lv r)
  | .if_icmp .ne _ => sII st (fun x y r => jmp (decide (¬ x = y)) tgt (pc + 3) lv r)
  | .ifCond .ne _ => sI st (fun x r => jmp (decide (¬ x = 0)) tgt (pc + 3) lv r)
  | .if_icmp .lt _ => sII st (fun x y r => jmp (decide (x < y)) tgt (pc + 3) lv r)
  | .ifCond .lt _ => sI st (fun x r => jmp (decide (x < 0)) tgt (pc + 3) lv r)
  | .if_icmp .ge _ => sII st (fun x y r => jmp (decide (y ≤ x)) tgt (pc + 3) lv r)
  | .ifCond .ge _ => sI st (fun x r => jmp (decide (0 ≤ x)) tgt (pc + 3) lv r)
  | .if_icmp .gt _ => sII st (fun x y r => jmp (decide (y < x)) tgt (pc + 3) lv r)
  | .ifCond .gt _ => sI st (fun x r => jmp (decide (0 < x)) tgt (pc + 3) lv r)
  | .if_icmp .le _ => sII st (fun x y r => jmp (decide (x ≤ y)) tgt (pc + 3) lv r)
  | .ifCond .le _ => sI st (fun x r => jmp (decide (x ≤ 0)) tgt (pc + 3) lv r)
  | .tableswitch dflt lo hi offs => sI st (fun x r => oB (tsw pc dflt lo hi offs x) (fun t => some (t, lv, r)))
  | .lookupswitch dflt ps => sI st (fun x r => oC ((ps.toList.zip (ps.toList.drop 1)).all (fun (a, next) => a.1 < next.1) && decide (0 ≤ (pc : Int) + Op.lookupswitch.offset ps.toList dflt x.toInt)) (some (((pc : Int) + Op.lookupswitch.offset ps.toList dflt x.toInt).toNat, lv, r)))
  | .ldc k => oB (fnd (mki F) k) (fun q => some (pc + 2, lv, .int q.1 :: st))
  | .ldc_w k => oB (fnd (mki F) k) (fun q => some (pc + 3, lv, .int q.1 :: st))
  | .ldc2_w k => oB (fnd (mkl F) k) (fun q => some (pc + 3, lv, .long q.1 :: st))
  | .getfield k => sR st (fun a r => oB (fnd (mfl F) k) (fun e => oB h[a]? (fun c => oC (c.1 == 0 && c.2.1 == e.1) (oB c.2.2[e.2.1]? (fun v => some (pc + 3, lv, v :: r))))))
  | .iaload => oB (ldR scr 1 0 0 st h) (fun q => oC (isI q.1) (some (pc + 1, lv, q.1 :: q.2)))
  | .baload => oB (ldR none 1 2 3 st h) (fun q => oC (isI q.1) (some (pc + 1, lv, q.1 :: q.2)))
  | .laload => oB (ldR none 2 1 1 st h) (fun q => oC (isL q.1) (some (pc + 1, lv, q.1 :: q.2)))
  | .aaload => sRI st (fun a j r => oB h[a]? (fun c => oC (c.1 == 3 && (c.2.1 == 4 || c.2.1 == 5 || c.2.1 == 6) && decide (¬ j < 0)) (oB c.2.2[j.toNatClampNeg]? (fun v => oC (isR v) (some (pc + 1, lv, v :: r))))))
  | .arraylength => sV st (fun v r => oB (alen scr h v) (fun x => some (pc + 1, lv, .int x :: r)))
  | _ => none
/-- the cells outside: the literals, and two statics of the library -/
def KS (b : Nat → Nat) (base : Nat) (s : State) : Prop := vk_S NSTR LENS BYT (fun i => b (2 * i + 1)) (fun i => b (2 * i + 2)) (fun q => base ≤ q) s s.heap ∧ (∀ t ∈ STRTAB, vk_R t.1 t.2.1 (TXT.getD t.2.2 "") (b (2 * t.2.2 + 1)) s) ∧ va_Z "java/lang/String" "COMPACT_STRINGS" "Z" (.int 1) (fun q => base ≤ q) s s.heap ∧ va_Z "jdk/internal/util/Preconditions" "SIOOBE_FORMATTER" "Ljava/util/function/BiFunction;" (fV b) (fun q => base ≤ q) s s.heap
theorem KS_to {b : Nat → Nat} {base : Nat} {s U : State} {locs : List Loc} (h : KS b base s) (hW : s.WarmedH U.vm) (hS : va_S (fun q => base ≤ q) s.heap U.heap locs) : KS b base U :=
  ⟨(vk_S.moved hW.alike h.1).kept hS.2.1, fun t ht => vk_R.warm hW (h.2.1 t ht), (va_Z.moved hW.alike h.2.2.1).kept hS.2.1, (va_Z.moved hW.alike h.2.2.2).kept hS.2.1⟩
theorem KS_call {b : Nat → Nat} {base : Nat} {U : State} {g : JFrame} {mk : MethodId} {a : Array Value} (h : KS b base U) : KS b base (U.calling g mk a) :=
  ⟨vk_S.moved (u := U) (U := U.calling g mk a) (Vm.Alike.refl U.vm) h.1, fun t ht => vk_R.same (u := U) (U := U.calling g mk a) rfl (h.2.1 t ht), va_Z.moved (u := U) (U := U.calling g mk a) (Vm.Alike.refl U.vm) h.2.2.1, va_Z.moved (u := U) (U := U.calling g mk a) (Vm.Alike.refl U.vm) h.2.2.2⟩
def SC (scr : AS) (b : Nat → Nat) (base : Nat) (s : State) : Prop := (∀ q, scr = some q → va_X (b 0) q.1 q.2 s s.heap ∧ b 0 < s.heap.size ∧ b 0 < base) ∧ KS b base s
set_option maxHeartbeats 4000000 in
set_option maxRecDepth 100000 in
theorem stpP_ok {MT : Nat → Option MR} {p : Program} {l : Launch} {e : Env} {R : Room} {s : State} {m : MethodId} {args : Array Value} {below : List Frame} {meth : Method} {c : Code} {H : Heap} {locs : List Loc} {cells slots : Nat} {Q : State → Prop} {F : MR} {scr : AS} {i : Instr} {len tgt pc pc' : Nat} {lv lv' : ALv} {st st' : List Value} {h : AH} {D : va_G} {tyc : Nat → ClassId} {b : Nat → Nat} {base : Nat} {ls : Array Slot}
    (hF : FOK MT F) (C : Ctx p s m args meth c F) (hK : va_K D vwCl (TYS tyc) s) (hW : Wd D tyc b base h H) (hS : va_S (fun q => base ≤ q) s.heap H locs) (hl : lv_has ls (mml F) (gL b base lv)) (hsc : SC scr b base s)
    (hf : fc F pc = some (i, len, tgt)) (hst : stpP F scr i tgt pc lv st h = some (pc', lv', st'))
    (k : ∀ ls', lv_has ls' (mml F) (gL b base lv') → W p l e R s m args below meth c H locs cells slots Q (F0 m pc' ls' (st'.map (gV b base)))) :
    W p l e R s m args below meth c H locs cells slots Q (F0 m pc ls (st.map (gV b base))) := by
  obtain ⟨hx, hb, hr, hml, hown, hlocks, hts, hin0, hal⟩ := C
  obtain ⟨hD, hlen, hoff⟩ := hF.1 _ (fc_mem hf)
  dsimp only at hD hlen hoff
  have hd : ∀ n, ilen i = n → n ≠ 0 → decode (mcc F) pc = .ok (i, n) := by
    intro n h1 h2
    rcases hlen with h3 | h3
    · omega
    · rw [← h1, h3]; exact hD
  cases i with
  | iconst n =>
    change some (_, _, _) = some _ at hst
    have h2 := hst
    simp only [Option.some.injEq, Prod.mk.injEq] at h2
    obtain ⟨rfl, rfl, rfl⟩ := h2
    exact lv_iconst hx hb (hd 1 rfl (by decide)) rfl (k ls hl)
  | bipush n =>
    change some (_, _, _) = some _ at hst
    have h2 := hst
    simp only [Option.some.injEq, Prod.mk.injEq] at h2
    obtain ⟨rfl, rfl, rfl⟩ := h2
    exact lv_bipush hx hb (hd 2 rfl (by decide)) rfl (k ls hl)
  | sipush n =>
    change some (_, _, _) = some _ at hst
    have h2 := hst
    simp only [Option.some.injEq, Prod.mk.injEq] at h2
    obtain ⟨rfl, rfl, rfl⟩ := h2
    exact lv_sipush hx hb (hd 3 rfl (by decide)) rfl (k ls hl)
  | lconst n =>
    change some (_, _, _) = some _ at hst
    have h2 := hst
    simp only [Option.some.injEq, Prod.mk.injEq] at h2
    obtain ⟨rfl, rfl, rfl⟩ := h2
    exact lv_lconst hx hb (hd 1 rfl (by decide)) rfl (k ls hl)
  | iload_n z =>
    change oB _ _ = some _ at hst
    obtain ⟨v, hv, h2⟩ := oB_inv hst
    obtain ⟨x, rfl, hx2⟩ := ldI_inv hv
    simp only [Option.some.injEq, Prod.mk.injEq] at h2
    obtain ⟨rfl, rfl, rfl⟩ := h2
    exact lv_iload_n hx hb (hd 1 rfl (by decide)) rfl (lvA hl hx2) (k ls hl)
  | iload z =>
    change oB _ _ = some _ at hst
    obtain ⟨v, hv, h2⟩ := oB_inv hst
    obtain ⟨x, rfl, hx2⟩ := ldI_inv hv
    simp only [Option.some.injEq, Prod.mk.injEq] at h2
    obtain ⟨rfl, rfl, rfl⟩ := h2
    exact lv_iload hx hb (hd 2 rfl (by decide)) (lvA hl hx2) (k ls hl)
  | lload_n z =>
    change oB _ _ = some _ at hst
    obtain ⟨v, hv, h2⟩ := oB_inv hst
    obtain ⟨x, rfl, hx2⟩ := ldL_inv hv
    simp only [Option.some.injEq, Prod.mk.injEq] at h2
    obtain ⟨rfl, rfl, rfl⟩ := h2
    exact lv_lload_n hx hb (hd 1 rfl (by decide)) rfl (lvA hl hx2) (k ls hl)
  | lload z =>
    change oB _ _ = some _ at hst
    obtain ⟨v, hv, h2⟩ := oB_inv hst
    obtain ⟨x, rfl, hx2⟩ := ldL_inv hv
    simp only [Option.some.injEq, Prod.mk.injEq] at h2
    obtain ⟨rfl, rfl, rfl⟩ := h2
    exact lv_lload hx hb (hd 2 rfl (by decide)) (lvA hl hx2) (k ls hl)
  | aload_n z =>
    change oB _ _ = some _ at hst
    obtain ⟨v, hv, h2⟩ := oB_inv hst
    obtain ⟨hv3, hx2⟩ := ldA_inv hv
    simp only [Option.some.injEq, Prod.mk.injEq] at h2
    obtain ⟨rfl, rfl, rfl⟩ := h2
    rcases hv3 with rfl | ⟨x, rfl⟩ | ⟨x, rfl⟩
    · exact lv_aload_nN hx hb (hd 1 rfl (by decide)) rfl (lvA hl hx2) (k ls hl)
    · exact lv_aload_n hx hb (hd 1 rfl (by decide)) rfl (lvA hl hx2) (k ls hl)
    · exact lv_aload_n hx hb (hd 1 rfl (by decide)) rfl (lvA hl hx2) (k ls hl)
  | aload z =>
    change oB _ _ = some _ at hst
    obtain ⟨v, hv, h2⟩ := oB_inv hst
    obtain ⟨hv3, hx2⟩ := ldA_inv hv
    simp only [Option.some.injEq, Prod.mk.injEq] at h2
    obtain ⟨rfl, rfl, rfl⟩ := h2
    rcases hv3 with rfl | ⟨x, rfl⟩ | ⟨x, rfl⟩
    · exact lv_aloadN hx hb (hd 2 rfl (by decide)) (lvA hl hx2) (k ls hl)
    · exact lv_aload hx hb (hd 2 rfl (by decide)) (lvA hl hx2) (k ls hl)
    · exact lv_aload hx hb (hd 2 rfl (by decide)) (lvA hl hx2) (k ls hl)
  | istore_n z =>
    change sI _ _ = some _ at hst
    obtain ⟨x, r, rfl, h1⟩ := sI_inv hst
    obtain ⟨h3, h2⟩ := oC_inv h1
    simp only [Option.some.injEq, Prod.mk.injEq] at h2
    obtain ⟨rfl, rfl, rfl⟩ := h2
    exact lv_istore_n hx hb (hd 1 rfl (by decide)) rfl hl (of_decide_eq_true h3) (gL_set1 b base lv _ (.int x)) (fun ls2 hl2 => k ls2 hl2)
  | istore z =>
    change sI _ _ = some _ at hst
    obtain ⟨x, r, rfl, h1⟩ := sI_inv hst
    obtain ⟨h3, h2⟩ := oC_inv h1
    simp only [Option.some.injEq, Prod.mk.injEq] at h2
    obtain ⟨rfl, rfl, rfl⟩ := h2
    exact lv_istore hx hb (hd 2 rfl (by decide)) hl (of_decide_eq_true h3) (gL_set1 b base lv _ (.int x)) (fun ls2 hl2 => k ls2 hl2)
  | lstore_n z =>
    change sL _ _ = some _ at hst
    obtain ⟨x, r, rfl, h1⟩ := sL_inv hst
    obtain ⟨h3, h2⟩ := oC_inv h1
    simp only [Option.some.injEq, Prod.mk.injEq] at h2
    obtain ⟨rfl, rfl, rfl⟩ := h2
    exact lv_lstore_n hx hb (hd 1 rfl (by decide)) rfl hl (of_decide_eq_true h3) (gL_set2 b base lv _ (.long x)) (fun ls2 hl2 => k ls2 hl2)
  | lstore z =>
    change sL _ _ = some _ at hst
    obtain ⟨x, r, rfl, h1⟩ := sL_inv hst
    obtain ⟨h3, h2⟩ := oC_inv h1
    simp only [Option.some.injEq, Prod.mk.injEq] at h2
    obtain ⟨rfl, rfl, rfl⟩ := h2
    exact lv_lstore hx hb (hd 2 rfl (by decide)) hl (of_decide_eq_true h3) (gL_set2 b base lv _ (.long x)) (fun ls2 hl2 => k ls2 hl2)
  | astore_n z =>
    change sR _ _ = some _ at hst
    obtain ⟨x, r, rfl, h1⟩ := sR_inv hst
    obtain ⟨h3, h2⟩ := oC_inv h1
    simp only [Option.some.injEq, Prod.mk.injEq] at h2
    obtain ⟨rfl, rfl, rfl⟩ := h2
    exact lv_astore_n hx hb (hd 1 rfl (by decide)) rfl hl (of_decide_eq_true h3) (gL_set1 b base lv _ (.ref x)) (fun ls2 hl2 => k ls2 hl2)
  | astore z =>
    change sR _ _ = some _ at hst
    obtain ⟨x, r, rfl, h1⟩ := sR_inv hst
    obtain ⟨h3, h2⟩ := oC_inv h1
    simp only [Option.some.injEq, Prod.mk.injEq] at h2
    obtain ⟨rfl, rfl, rfl⟩ := h2
    exact lv_astore hx hb (hd 2 rfl (by decide)) hl (of_decide_eq_true h3) (gL_set1 b base lv _ (.ref x)) (fun ls2 hl2 => k ls2 hl2)
  | iinc z n =>
    change oB _ _ = some _ at hst
    obtain ⟨v, hv, h1⟩ := oB_inv hst
    obtain ⟨x, rfl, hx2⟩ := ldI_inv hv
    obtain ⟨h3, h2⟩ := oC_inv h1
    simp only [Option.some.injEq, Prod.mk.injEq] at h2
    obtain ⟨rfl, rfl, rfl⟩ := h2
    obtain ⟨j, hj⟩ := List.getElem?_of_mem (List.mem_map.mpr ⟨(z, .int x), fnd_mem hx2, rfl⟩ : (z, gV b base (.int x)) ∈ gL b base lv)
    exact lv_iinc hx hb (hd 3 rfl (by decide)) hl hj rfl (of_decide_eq_true h3) (gL_set1 b base lv _ (.int (x + Int32.ofInt n))) (fun ls2 hl2 => k ls2 hl2)
  | iadd =>
    change sII _ _ = some _ at hst
    obtain ⟨x, y, r, rfl, h1⟩ := sII_inv hst
    have h2 := h1
    simp only [Option.some.injEq, Prod.mk.injEq] at h2
    obtain ⟨rfl, rfl, rfl⟩ := h2
    exact lv_iadd hx hb (hd 1 rfl (by decide)) (k ls hl)
  | isub =>
    change sII _ _ = some _ at hst
    obtain ⟨x, y, r, rfl, h1⟩ := sII_inv hst
    have h2 := h1
    simp only [Option.some.injEq, Prod.mk.injEq] at h2
    obtain ⟨rfl, rfl, rfl⟩ := h2
    exact lv_isub hx hb (hd 1 rfl (by decide)) (k ls hl)
  | imul =>
    change sII _ _ = some _ at hst
    obtain ⟨x, y, r, rfl, h1⟩ := sII_inv hst
    have h2 := h1
    simp only [Option.some.injEq, Prod.mk.injEq] at h2
    obtain ⟨rfl, rfl, rfl⟩ := h2
    exact lv_imul hx hb (hd 1 rfl (by decide)) (k ls hl)
  | iand =>
    change sII _ _ = some _ at hst
    obtain ⟨x, y, r, rfl, h1⟩ := sII_inv hst
    have h2 := h1
    simp only [Option.some.injEq, Prod.mk.injEq] at h2
    obtain ⟨rfl, rfl, rfl⟩ := h2
    exact lv_iand hx hb (hd 1 rfl (by decide)) (k ls hl)
  | ior =>
    change sII _ _ = some _ at hst
    obtain ⟨x, y, r, rfl, h1⟩ := sII_inv hst
    have h2 := h1
    simp only [Option.some.injEq, Prod.mk.injEq] at h2
    obtain ⟨rfl, rfl, rfl⟩ := h2
    exact lv_ior hx hb (hd 1 rfl (by decide)) (k ls hl)
  | ixor =>
    change sII _ _ = some _ at hst
    obtain ⟨x, y, r, rfl, h1⟩ := sII_inv hst
    have h2 := h1
    simp only [Option.some.injEq, Prod.mk.injEq] at h2
    obtain ⟨rfl, rfl, rfl⟩ := h2
    exact lv_ixor hx hb (hd 1 rfl (by decide)) (k ls hl)
  | ishl =>
    change sII _ _ = some _ at hst
    obtain ⟨x, y, r, rfl, h1⟩ := sII_inv hst
    have h2 := h1
    simp only [Option.some.injEq, Prod.mk.injEq] at h2
    obtain ⟨rfl, rfl, rfl⟩ := h2
    exact lv_ishl hx hb (hd 1 rfl (by decide)) (k ls hl)
  | ishr =>
    change sII _ _ = some _ at hst
    obtain ⟨x, y, r, rfl, h1⟩ := sII_inv hst
    have h2 := h1
    simp only [Option.some.injEq, Prod.mk.injEq] at h2
    obtain ⟨rfl, rfl, rfl⟩ := h2
    exact lv_ishr hx hb (hd 1 rfl (by decide)) (k ls hl)
  | iushr =>
    change sII _ _ = some _ at hst
    obtain ⟨x, y, r, rfl, h1⟩ := sII_inv hst
    have h2 := h1
    simp only [Option.some.injEq, Prod.mk.injEq] at h2
    obtain ⟨rfl, rfl, rfl⟩ := h2
    exact lv_iushr hx hb (hd 1 rfl (by decide)) rfl (k ls hl)
  | idiv =>
    change sII _ _ = some _ at hst
    obtain ⟨x, y, r, rfl, h1⟩ := sII_inv hst
    obtain ⟨h3, h2⟩ := oC_inv h1
    simp only [Option.some.injEq, Prod.mk.injEq] at h2
    obtain ⟨rfl, rfl, rfl⟩ := h2
    exact lv_idiv hx hb (hd 1 rfl (by decide)) (of_decide_eq_true h3) (k ls hl)
  | irem =>
    change sII _ _ = some _ at hst
    obtain ⟨x, y, r, rfl, h1⟩ := sII_inv hst
    obtain ⟨h3, h2⟩ := oC_inv h1
    simp only [Option.some.injEq, Prod.mk.injEq] at h2
    obtain ⟨rfl, rfl, rfl⟩ := h2
    exact lv_irem hx hb (hd 1 rfl (by decide)) (of_decide_eq_true h3) (k ls hl)
  | ladd =>
    change sLL _ _ = some _ at hst
    obtain ⟨x, y, r, rfl, h1⟩ := sLL_inv hst
    have h2 := h1
    simp only [Option.some.injEq, Prod.mk.injEq] at h2
    obtain ⟨rfl, rfl, rfl⟩ := h2
    exact lv_ladd hx hb (hd 1 rfl (by decide)) (k ls hl)
  | lsub =>
    change sLL _ _ = some _ at hst
    obtain ⟨x, y, r, rfl, h1⟩ := sLL_inv hst
    have h2 := h1
    simp only [Option.some.injEq, Prod.mk.injEq] at h2
    obtain ⟨rfl, rfl, rfl⟩ := h2
    exact lv_lsub hx hb (hd 1 rfl (by decide)) (k ls hl)
  | lmul =>
    change sLL _ _ = some _ at hst
    obtain ⟨x, y, r, rfl, h1⟩ := sLL_inv hst
    have h2 := h1
    simp only [Option.some.injEq, Prod.mk.injEq] at h2
    obtain ⟨rfl, rfl, rfl⟩ := h2
    exact lv_lmul hx hb (hd 1 rfl (by decide)) (k ls hl)
  | land =>
    change sLL _ _ = some _ at hst
    obtain ⟨x, y, r, rfl, h1⟩ := sLL_inv hst
    have h2 := h1
    simp only [Option.some.injEq, Prod.mk.injEq] at h2
    obtain ⟨rfl, rfl, rfl⟩ := h2
    exact lv_land hx hb (hd 1 rfl (by decide)) (k ls hl)
  | lor =>
    change sLL _ _ = some _ at hst
    obtain ⟨x, y, r, rfl, h1⟩ := sLL_inv hst
    have h2 := h1
    simp only [Option.some.injEq, Prod.mk.injEq] at h2
    obtain ⟨rfl, rfl, rfl⟩ := h2
    exact lv_lor hx hb (hd 1 rfl (by decide)) (k ls hl)
  | lxor =>
    change sLL _ _ = some _ at hst
    obtain ⟨x, y, r, rfl, h1⟩ := sLL_inv hst
    have h2 := h1
    simp only [Option.some.injEq, Prod.mk.injEq] at h2
    obtain ⟨rfl, rfl, rfl⟩ := h2
    exact lv_lxor hx hb (hd 1 rfl (by decide)) (k ls hl)
  | ldiv =>
    change sLL _ _ = some _ at hst
    obtain ⟨x, y, r, rfl, h1⟩ := sLL_inv hst
    obtain ⟨h3, h2⟩ := oC_inv h1
    simp only [Option.some.injEq, Prod.mk.injEq] at h2
    obtain ⟨rfl, rfl, rfl⟩ := h2
    exact lv_ldiv hx hb (hd 1 rfl (by decide)) (of_decide_eq_true h3) (k ls hl)
  | lrem =>
    change sLL _ _ = some _ at hst
    obtain ⟨x, y, r, rfl, h1⟩ := sLL_inv hst
    obtain ⟨h3, h2⟩ := oC_inv h1
    simp only [Option.some.injEq, Prod.mk.injEq] at h2
    obtain ⟨rfl, rfl, rfl⟩ := h2
    exact lv_lrem hx hb (hd 1 rfl (by decide)) (of_decide_eq_true h3) (k ls hl)
  | lshl =>
    change sLI _ _ = some _ at hst
    obtain ⟨x, y, r, rfl, h1⟩ := sLI_inv hst
    have h2 := h1
    simp only [Option.some.injEq, Prod.mk.injEq] at h2
    obtain ⟨rfl, rfl, rfl⟩ := h2
    exact lv_lshl hx hb (hd 1 rfl (by decide)) rfl (k ls hl)
  | lshr =>
    change sLI _ _ = some _ at hst
    obtain ⟨x, y, r, rfl, h1⟩ := sLI_inv hst
    have h2 := h1
    simp only [Option.some.injEq, Prod.mk.injEq] at h2
    obtain ⟨rfl, rfl, rfl⟩ := h2
    exact lv_lshr hx hb (hd 1 rfl (by decide)) rfl (k ls hl)
  | ineg =>
    change sI _ _ = some _ at hst
    obtain ⟨x, r, rfl, h2⟩ := sI_inv hst
    simp only [Option.some.injEq, Prod.mk.injEq] at h2
    obtain ⟨rfl, rfl, rfl⟩ := h2
    exact lv_ineg hx hb (hd 1 rfl (by decide)) (k ls hl)
  | i2l =>
    change sI _ _ = some _ at hst
    obtain ⟨x, r, rfl, h2⟩ := sI_inv hst
    simp only [Option.some.injEq, Prod.mk.injEq] at h2
    obtain ⟨rfl, rfl, rfl⟩ := h2
    exact lv_i2l hx hb (hd 1 rfl (by decide)) rfl (k ls hl)
  | l2i =>
    change sL _ _ = some _ at hst
    obtain ⟨x, r, rfl, h2⟩ := sL_inv hst
    simp only [Option.some.injEq, Prod.mk.injEq] at h2
    obtain ⟨rfl, rfl, rfl⟩ := h2
    exact lv_l2i hx hb (hd 1 rfl (by decide)) rfl (k ls hl)
  | i2b =>
    change sI _ _ = some _ at hst
    obtain ⟨x, r, rfl, h2⟩ := sI_inv hst
    simp only [Option.some.injEq, Prod.mk.injEq] at h2
    obtain ⟨rfl, rfl, rfl⟩ := h2
    exact lv_i2b hx hb (hd 1 rfl (by decide)) rfl (k ls hl)
  | lcmp =>
    change sLL _ _ = some _ at hst
    obtain ⟨x, y, r, rfl, h2⟩ := sLL_inv hst
    simp only [Option.some.injEq, Prod.mk.injEq] at h2
    obtain ⟨rfl, rfl, rfl⟩ := h2
    exact W.lcmp hx hb (hd 1 rfl (by decide)) (k ls hl)
  | dup =>
    change sV _ _ = some _ at hst
    obtain ⟨v, r, rfl, h1⟩ := sV_inv hst
    obtain ⟨h3, h2⟩ := oC_inv h1
    simp only [Option.some.injEq, Prod.mk.injEq] at h2
    obtain ⟨rfl, rfl, rfl⟩ := h2
    exact lv_dup hx hb (hd 1 rfl (by decide)) ((gV_cat b base v).trans (eq_of_beq h3)) (k ls hl)
  | dup2 =>
    change sVV _ _ = some _ at hst
    obtain ⟨v, u, r, rfl, h1⟩ := sVV_inv hst
    obtain ⟨h3, h2⟩ := oC_inv h1
    simp only [Option.some.injEq, Prod.mk.injEq] at h2
    obtain ⟨rfl, rfl, rfl⟩ := h2
    rw [Bool.and_eq_true] at h3
    exact lv_dup2_11 hx hb (hd 1 rfl (by decide)) ((gV_cat b base v).trans (eq_of_beq h3.1)) ((gV_cat b base u).trans (eq_of_beq h3.2)) (k ls hl)
  | pop =>
    change sV _ _ = some _ at hst
    obtain ⟨v, r, rfl, h1⟩ := sV_inv hst
    obtain ⟨h3, h2⟩ := oC_inv h1
    simp only [Option.some.injEq, Prod.mk.injEq] at h2
    obtain ⟨rfl, rfl, rfl⟩ := h2
    exact lv_pop hx hb (hd 1 rfl (by decide)) ((gV_cat b base v).trans (eq_of_beq h3)) (k ls hl)
  | goto off =>
    change some (_, _, _) = some _ at hst
    have h2 := hst
    simp only [Option.some.injEq, Prod.mk.injEq] at h2
    obtain ⟨rfl, rfl, rfl⟩ := h2
    exact lv_goto hx hb (hd 3 rfl (by decide)) (hoff _ rfl) (k ls hl)
  | if_icmp cd off =>
    cases cd with
    | eq =>
      change sII _ _ = some _ at hst
      obtain ⟨x, y, r, rfl, h2⟩ := sII_inv hst
      rcases jmp_inv h2 with ⟨ht, hz⟩ | ⟨ht, hz⟩
      · cases hz; exact lv_icmp_eq hx hb (hd 3 rfl (by decide)) (hoff _ rfl) (fun _ => k ls hl) (fun z => absurd (of_decide_eq_true ht) z)
      · cases hz; exact lv_icmp_eq hx hb (hd 3 rfl (by decide)) (hoff _ rfl) (fun z => absurd z (of_decide_eq_false ht)) (fun _ => k ls hl)
    | ne =>
      change sII _ _ = some _ at hst
      obtain ⟨x, y, r, rfl, h2⟩ := sII_inv hst
      rcases jmp_inv h2 with ⟨ht, hz⟩ | ⟨ht, hz⟩
      · cases hz; exact lv_icmp_ne hx hb (hd 3 rfl (by decide)) (hoff _ rfl) (fun _ => k ls hl) (fun z => absurd z (of_decide_eq_true ht))
      · cases hz; exact lv_icmp_ne hx hb (hd 3 rfl (by decide)) (hoff _ rfl) (fun z => absurd z (of_decide_eq_false ht)) (fun _ => k ls hl)
    | lt =>
      change sII _ _ = some _ at hst
      obtain ⟨x, y, r, rfl, h2⟩ := sII_inv hst
      rcases jmp_inv h2 with ⟨ht, hz⟩ | ⟨ht, hz⟩
      · cases hz; exact lv_icmp_lt hx hb (hd 3 rfl (by decide)) (hoff _ rfl) (fun _ => k ls hl) (fun z => absurd (of_decide_eq_true ht) z)
      · cases hz; exact lv_icmp_lt hx hb (hd 3 rfl (by decide)) (hoff _ rfl) (fun z => absurd z (of_decide_eq_false ht)) (fun _ => k ls hl)
    | ge =>
      change sII _ _ = some _ at hst
      obtain ⟨x, y, r, rfl, h2⟩ := sII_inv hst
      rcases jmp_inv h2 with ⟨ht, hz⟩ | ⟨ht, hz⟩
      · cases hz; exact lv_icmp_ge hx hb (hd 3 rfl (by decide)) (hoff _ rfl) (fun _ => k ls hl) (fun z => absurd (of_decide_eq_true ht) z)
      · cases hz; exact lv_icmp_ge hx hb (hd 3 rfl (by decide)) (hoff _ rfl) (fun z => absurd z (of_decide_eq_false ht)) (fun _ => k ls hl)
    | gt =>
      change sII _ _ = some _ at hst
      obtain ⟨x, y, r, rfl, h2⟩ := sII_inv hst
      rcases jmp_inv h2 with ⟨ht, hz⟩ | ⟨ht, hz⟩
      · cases hz; exact lv_icmp_gt hx hb (hd 3 rfl (by decide)) (hoff _ rfl) (fun _ => k ls hl) (fun z => absurd (of_decide_eq_true ht) z)
      · cases hz; exact lv_icmp_gt hx hb (hd 3 rfl (by decide)) (hoff _ rfl) (fun z => absurd z (of_decide_eq_false ht)) (fun _ => k ls hl)
    | le =>
      change sII _ _ = some _ at hst
      obtain ⟨x, y, r, rfl, h2⟩ := sII_inv hst
      rcases jmp_inv h2 with ⟨ht, hz⟩ | ⟨ht, hz⟩
      · cases hz; exact lv_icmp_le hx hb (hd 3 rfl (by decide)) (hoff _ rfl) (fun _ => k ls hl) (fun z => absurd (of_decide_eq_true ht) z)
      · cases hz; exact lv_icmp_le hx hb (hd 3 rfl (by decide)) (hoff _ rfl) (fun z => absurd z (of_decide_eq_false ht)) (fun _ => k ls hl)
  | ifCond cd off =>
    cases cd with
    | eq =>
      change sI _ _ = some _ at hst
      obtain ⟨x, r, rfl, h2⟩ := sI_inv hst
      rcases jmp_inv h2 with ⟨ht, hz⟩ | ⟨ht, hz⟩
      · cases hz; exact lv_if_eq hx hb (hd 3 rfl (by decide)) (hoff _ rfl) (fun _ => k ls hl) (fun z => absurd (of_decide_eq_true ht) z)
      · cases hz; exact lv_if_eq hx hb (hd 3 rfl (by decide)) (hoff _ rfl) (fun z => absurd z (of_decide_eq_false ht)) (fun _ => k ls hl)
    | ne =>
      change sI _ _ = some _ at hst
      obtain ⟨x, r, rfl, h2⟩ := sI_inv hst
      rcases jmp_inv h2 with ⟨ht, hz⟩ | ⟨ht, hz⟩
      · cases hz; exact lv_if_ne hx hb (hd 3 rfl (by decide)) (hoff _ rfl) (fun _ => k ls hl) (fun z => absurd z (of_decide_eq_true ht))
      · cases hz; exact lv_if_ne hx hb (hd 3 rfl (by decide)) (hoff _ rfl) (fun z => absurd z (of_decide_eq_false ht)) (fun _ => k ls hl)
    | lt =>
      change sI _ _ = some _ at hst
      obtain ⟨x, r, rfl, h2⟩ := sI_inv hst
      rcases jmp_inv h2 with ⟨ht, hz⟩ | ⟨ht, hz⟩
      · cases hz; exact lv_if_lt hx hb (hd 3 rfl (by decide)) (hoff _ rfl) (fun _ => k ls hl) (fun z => absurd (of_decide_eq_true ht) z)
      · cases hz; exact lv_if_lt hx hb (hd 3 rfl (by decide)) (hoff _ rfl) (fun z => absurd z (of_decide_eq_false ht)) (fun _ => k ls hl)
    | ge =>
      change sI _ _ = some _ at hst
      obtain ⟨x, r, rfl, h2⟩ := sI_inv hst
      rcases jmp_inv h2 with ⟨ht, hz⟩ | ⟨ht, hz⟩
      · cases hz; exact lv_if_ge hx hb (hd 3 rfl (by decide)) (hoff _ rfl) (fun _ => k ls hl) (fun z => absurd (of_decide_eq_true ht) z)
      · cases hz; exact lv_if_ge hx hb (hd 3 rfl (by decide)) (hoff _ rfl) (fun z => absurd z (of_decide_eq_false ht)) (fun _ => k ls hl)
    | gt =>
      change sI _ _ = some _ at hst
      obtain ⟨x, r, rfl, h2⟩ := sI_inv hst
      rcases jmp_inv h2 with ⟨ht, hz⟩ | ⟨ht, hz⟩
      · cases hz; exact lv_if_gt hx hb (hd 3 rfl (by decide)) (hoff _ rfl) (fun _ => k ls hl) (fun z => absurd (of_decide_eq_true ht) z)
      · cases hz; exact lv_if_gt hx hb (hd 3 rfl (by decide)) (hoff _ rfl) (fun z => absurd z (of_decide_eq_false ht)) (fun _ => k ls hl)
    | le =>
      change sI _ _ = some _ at hst
      obtain ⟨x, r, rfl, h2⟩ := sI_inv hst
      rcases jmp_inv h2 with ⟨ht, hz⟩ | ⟨ht, hz⟩
      · cases hz; exact lv_if_le hx hb (hd 3 rfl (by decide)) (hoff _ rfl) (fun _ => k ls hl) (fun z => absurd (of_decide_eq_true ht) z)
      · cases hz; exact lv_if_le hx hb (hd 3 rfl (by decide)) (hoff _ rfl) (fun z => absurd z (of_decide_eq_false ht)) (fun _ => k ls hl)
  | tableswitch dflt lo hi offs =>
    change sI _ _ = some _ at hst
    obtain ⟨x, r, rfl, h1⟩ := sI_inv hst
    obtain ⟨t, ht, h2⟩ := oB_inv h1
    simp only [Option.some.injEq, Prod.mk.injEq] at h2
    obtain ⟨rfl, rfl, rfl⟩ := h2
    unfold tsw at ht
    split at ht
    · rename_i hz
      obtain ⟨h3, h4⟩ := oC_inv ht
      cases h4
      exact lv_tableOut hx hb hD hz (Int.toNat_of_nonneg (of_decide_eq_true h3)).symm (k ls hl)
    · rename_i hz
      obtain ⟨o, ho, h5⟩ := oB_inv ht
      obtain ⟨h3, h4⟩ := oC_inv h5
      cases h4
      exact lv_tableIn hx hb hD (fun z => hz (Or.inl z)) (fun z => hz (Or.inr z)) ho (Int.toNat_of_nonneg (of_decide_eq_true h3)).symm (k ls hl)
  | lookupswitch dflt ps =>
    change sI _ _ = some _ at hst
    obtain ⟨x, r, rfl, h1⟩ := sI_inv hst
    obtain ⟨h3, h2⟩ := oC_inv h1
    simp only [Option.some.injEq, Prod.mk.injEq] at h2
    obtain ⟨rfl, rfl, rfl⟩ := h2
    rw [Bool.and_eq_true] at h3
    exact lv_lookup hx hb hD h3.1 rfl (Int.toNat_of_nonneg (of_decide_eq_true h3.2)).symm (k ls hl)
  | ldc z =>
    change oB _ _ = some _ at hst
    obtain ⟨q, hq, h2⟩ := oB_inv hst
    simp only [Option.some.injEq, Prod.mk.injEq] at h2
    obtain ⟨rfl, rfl, rfl⟩ := h2
    exact lv_ldc hx hb hown (hts _ (hF.2.2.2.1 _ (fnd_mem hq))) (hd 2 rfl (by decide)) (k ls hl)
  | ldc_w z =>
    change oB _ _ = some _ at hst
    obtain ⟨q, hq, h2⟩ := oB_inv hst
    simp only [Option.some.injEq, Prod.mk.injEq] at h2
    obtain ⟨rfl, rfl, rfl⟩ := h2
    exact lv_ldcw hx hb hown (hts _ (hF.2.2.2.1 _ (fnd_mem hq))) (hd 3 rfl (by decide)) (k ls hl)
  | ldc2_w z =>
    change oB _ _ = some _ at hst
    obtain ⟨q, hq, h2⟩ := oB_inv hst
    simp only [Option.some.injEq, Prod.mk.injEq] at h2
    obtain ⟨rfl, rfl, rfl⟩ := h2
    exact lv_ldc2 hx hb hown (hts _ (hF.2.2.2.2.1 _ (fnd_mem hq))) (hd 3 rfl (by decide)) (k ls hl)
  | getfield z =>
    change sR _ _ = some _ at hst
    obtain ⟨a, r, rfl, h1⟩ := sR_inv hst
    obtain ⟨e0, he0, h4⟩ := oB_inv h1
    obtain ⟨cc, hc, h5⟩ := oB_inv h4
    obtain ⟨h3, h6⟩ := oC_inv h5
    obtain ⟨v, hv, h2⟩ := oB_inv h6
    simp only [Option.some.injEq, Prod.mk.injEq] at h2
    obtain ⟨rfl, rfl, rfl⟩ := h2
    simp only [Bool.and_eq_true, beq_iff_eq] at h3
    obtain ⟨⟨C0, T0, N0⟩, hr0, hk0, hw0, -, -⟩ := hF.2.1 _ (fnd_mem he0)
    dsimp only at hr0 hk0 hw0
    have he := gW_at (b := b) (base := base) (tyc := tyc) hc
    rw [gE_o h3.1, h3.2] at he
    have hv2 : (cc.2.2.map (gV b base))[e0.2.1]? = some (gV b base v) := by rw [List.getElem?_map, hv]; rfl
    unfold fldW at hw0
    split at hw0
    · exact va_getN hx hb hts (CLS_in hr0) hown hK hW.2 a he hr0 e0.2.1 hk0 (hal _ hw0) (fun _ h9 => h9) hv2 (hd 3 rfl (by decide)) (k ls hl)
    · exact va_get hx hb hts (CLS_in hr0) hown hK hW.2 a he hr0 e0.2.1 hk0 (hal _ hw0) (fun _ h9 => h9) hv2 (hd 3 rfl (by decide)) (k ls hl)
  | iaload =>
    change oB _ _ = some _ at hst
    obtain ⟨⟨v, r⟩, hq, h1⟩ := oB_inv hst
    obtain ⟨h3, h2⟩ := oC_inv h1
    simp only [Option.some.injEq, Prod.mk.injEq] at h2
    obtain ⟨rfl, rfl, rfl⟩ := h2
    obtain ⟨x, hxv⟩ := isI_inv h3
    dsimp only at hxv
    subst hxv
    rcases ldR_inv hq with ⟨a, j, cc, hs, hc, hk1, hk2, hj, hv⟩ | ⟨a, j, q, hs, hsq, hj, hv⟩
    · dsimp only at hs hv
      subst hs
      have he := gW_at (b := b) (base := base) (tyc := tyc) hc
      rw [gE_i hk1] at he
      have e9 : asI (cc.2.2.getD j.toNatClampNeg .null) = x := by rw [List.getD_eq_getElem?_getD, hv]; rfl
      have hin : vp_in j cc.2.2.length := by
        have h8 := (List.getElem?_eq_some_iff.mp hv).1
        exact fun z => z.elim hj (fun z => by omega)
      have hk3 : cc.2.1 = 0 := by rcases hk2 with z | z <;> exact z
      rw [hk3] at he
      exact va_iald hx hb hK hW.2 a 0 he rfl hin (hd 1 rfl (by decide)) (W.eq (by show F0 m (pc + 1) ls (.int (asI (cc.2.2.getD j.toNatClampNeg .null)) :: _) = _; rw [e9]; rfl) (k ls hl))
    · dsimp only at hs hv
      subst hs
      cases hv
      obtain ⟨hX, hbl, hbb⟩ := hsc.1 q hsq
      exact va_sld hx hb hX hbl (Nat.not_le.mpr hbb) hS hj (hd 1 rfl (by decide)) (k ls hl)
  | baload =>
    change oB _ _ = some _ at hst
    obtain ⟨⟨v, r⟩, hq, h1⟩ := oB_inv hst
    obtain ⟨h3, h2⟩ := oC_inv h1
    simp only [Option.some.injEq, Prod.mk.injEq] at h2
    obtain ⟨rfl, rfl, rfl⟩ := h2
    obtain ⟨x, hxv⟩ := isI_inv h3
    dsimp only at hxv
    subst hxv
    rcases ldR_inv hq with ⟨a, j, cc, hs, hc, hk1, hk2, hj, hv⟩ | ⟨a, j, q, hs, hsq, hj, hv⟩
    · dsimp only at hs hv
      subst hs
      have he := gW_at (b := b) (base := base) (tyc := tyc) hc
      rw [gE_i hk1] at he
      have e9 : asI (cc.2.2.getD j.toNatClampNeg .null) = x := by rw [List.getD_eq_getElem?_getD, hv]; rfl
      have hin : vp_in j cc.2.2.length := by
        have h8 := (List.getElem?_eq_some_iff.mp hv).1
        exact fun z => z.elim hj (fun z => by omega)
      rcases hk2 with hk3 | hk3
      · rw [hk3] at he
        exact va_bald hx hb hK hW.2 a 2 he rfl hin (hd 1 rfl (by decide)) (W.eq (by show F0 m (pc + 1) ls (.int (asI (cc.2.2.getD j.toNatClampNeg .null)) :: _) = _; rw [e9]; rfl) (k ls hl))
      · rw [hk3] at he
        exact va_zald hx hb hK hW.2 a 3 he rfl hin (hd 1 rfl (by decide)) (W.eq (by show F0 m (pc + 1) ls (.int (asI (cc.2.2.getD j.toNatClampNeg .null)) :: _) = _; rw [e9]; rfl) (k ls hl))
    · cases hsq
  | laload =>
    change oB _ _ = some _ at hst
    obtain ⟨⟨v, r⟩, hq, h1⟩ := oB_inv hst
    obtain ⟨h3, h2⟩ := oC_inv h1
    simp only [Option.some.injEq, Prod.mk.injEq] at h2
    obtain ⟨rfl, rfl, rfl⟩ := h2
    obtain ⟨x, hxv⟩ := isL_inv h3
    dsimp only at hxv
    subst hxv
    rcases ldR_inv hq with ⟨a, j, cc, hs, hc, hk1, hk2, hj, hv⟩ | ⟨a, j, q, hs, hsq, hj, hv⟩
    · dsimp only at hs hv
      subst hs
      have he := gW_at (b := b) (base := base) (tyc := tyc) hc
      rw [gE_l hk1] at he
      have e9 : asL (cc.2.2.getD j.toNatClampNeg .null) = x := by rw [List.getD_eq_getElem?_getD, hv]; rfl
      have hin : vp_in j cc.2.2.length := by
        have h8 := (List.getElem?_eq_some_iff.mp hv).1
        exact fun z => z.elim hj (fun z => by omega)
      have hk3 : cc.2.1 = 1 := by rcases hk2 with z | z <;> exact z
      rw [hk3] at he
      exact va_lald hx hb hK hW.2 a 1 he rfl hin (hd 1 rfl (by decide)) (W.eq (by show F0 m (pc + 1) ls (.long (asL (cc.2.2.getD j.toNatClampNeg .null)) :: _) = _; rw [e9]; rfl) (k ls hl))
    · cases hsq
  | aaload =>
    change sRI _ _ = some _ at hst
    obtain ⟨a, j, r, rfl, h1⟩ := sRI_inv hst
    obtain ⟨cc, hc, h4⟩ := oB_inv h1
    obtain ⟨h3, h5⟩ := oC_inv h4
    obtain ⟨v, hv, h6⟩ := oB_inv h5
    obtain ⟨h7, h2⟩ := oC_inv h6
    simp only [Option.some.injEq, Prod.mk.injEq] at h2
    obtain ⟨rfl, rfl, rfl⟩ := h2
    simp only [Bool.and_eq_true, Bool.or_eq_true, beq_iff_eq, decide_eq_true_eq] at h3
    obtain ⟨⟨hk1, hk2⟩, hj⟩ := h3
    have he := gW_at (b := b) (base := base) (tyc := tyc) hc
    rw [gE_r hk1] at he
    have e9 : va_rf (asR base (cc.2.2.getD j.toNatClampNeg .null)) = gV b base v := by
      rw [List.getD_eq_getElem?_getD, hv]
      rcases isR_inv h7 with rfl | ⟨x, rfl⟩ <;> rfl
    have hin : vp_in j cc.2.2.length := by
      have h8 := (List.getElem?_eq_some_iff.mp hv).1
      exact fun z => z.elim hj (fun z => by omega)
    rcases hk2 with (hk3 | hk3) | hk3
    · rw [hk3] at he
      exact va_aldq hx hb hK hW.2 a 4 he rfl hin (hd 1 rfl (by decide)) (W.eq (by show F0 m (pc + 1) ls (va_rf (asR base (cc.2.2.getD j.toNatClampNeg .null)) :: _) = _; rw [e9]; rfl) (k ls hl))
    · rw [hk3] at he
      exact va_aldq hx hb hK hW.2 a 5 he rfl hin (hd 1 rfl (by decide)) (W.eq (by show F0 m (pc + 1) ls (va_rf (asR base (cc.2.2.getD j.toNatClampNeg .null)) :: _) = _; rw [e9]; rfl) (k ls hl))
    · rw [hk3] at he
      exact va_aldq hx hb hK hW.2 a 6 he rfl hin (hd 1 rfl (by decide)) (W.eq (by show F0 m (pc + 1) ls (va_rf (asR base (cc.2.2.getD j.toNatClampNeg .null)) :: _) = _; rw [e9]; rfl) (k ls hl))
  | arraylength =>
    change sV _ _ = some _ at hst
    obtain ⟨v, r, rfl, h1⟩ := sV_inv hst
    obtain ⟨x, hx1, h2⟩ := oB_inv h1
    simp only [Option.some.injEq, Prod.mk.injEq] at h2
    obtain ⟨rfl, rfl, rfl⟩ := h2
    unfold alen at hx1
    split at hx1
    · rename_i a
      obtain ⟨cc, hc, h4⟩ := oB_inv hx1
      obtain ⟨h3, h5⟩ := oC_inv h4
      cases h5
      simp only [Bool.and_eq_true, Bool.or_eq_true, beq_iff_eq, decide_eq_true_eq] at h3
      obtain ⟨hk1, hk2⟩ := h3
      obtain ⟨ty, hty⟩ := TYS_get tyc hk2
      have he := gW_at (b := b) (base := base) (tyc := tyc) hc
      rcases hk1 with (hk1 | hk1) | hk1
      · rw [gE_i hk1] at he; exact va_alen hx hb hK hW.2 a _ he hty rfl (hd 1 rfl (by decide)) (k ls hl)
      · rw [gE_l hk1] at he; exact va_alen hx hb hK hW.2 a _ he hty rfl (hd 1 rfl (by decide)) (k ls hl)
      · rw [gE_r hk1] at he; exact va_alen hx hb hK hW.2 a _ he hty rfl (hd 1 rfl (by decide)) (k ls hl)
    · obtain ⟨q, hq, h4⟩ := oB_inv hx1
      cases h4
      obtain ⟨hX, hbl, hbb⟩ := hsc.1 q hq
      exact va_slen hx hb hX hbl (Nat.not_le.mpr hbb) hS (hd 1 rfl (by decide)) (k ls hl)
    · cases hx1
  | _ => exact absurd hst (by intro z; cases z)
/-! steps on the cells outside -/
def sX {α : Type} (st : List Value) (f : Nat → List Value → Option α) : Option α := match st with
  | .retAddr a :: r => f a r
  | _ => none
def sIX {α : Type} (st : List Value) (f : Nat → Int32 → List Value → Option α) : Option α := match st with
  | .int j :: .retAddr a :: r => f a j r
  | _ => none
theorem sX_inv {α : Type} {st : List Value} {f : Nat → List Value → Option α} {a : α} (h : sX st f = some a) : ∃ x r, st = .retAddr x :: r ∧ f x r = some a := by
  unfold sX at h; split at h
  · exact ⟨_, _, rfl, h⟩
  · cases h
theorem sIX_inv {α : Type} {st : List Value} {f : Nat → Int32 → List Value → Option α} {a : α} (h : sIX st f = some a) : ∃ x j r, st = .int j :: .retAddr x :: r ∧ f x j r = some a := by
  unfold sIX at h; split at h
  · exact ⟨_, _, _, rfl, h⟩
  · cases h
def stpX (F : MR) (i : Instr) (pc : Nat) (lv : ALv) (st : List Value) : Option (Nat × ALv × List Value) := match i with
  | .ldc k => oB (fnd (mks F) k) (fun q => oC (q.1 == 0) (some (pc + 2, lv, .retAddr (2 * q.2.1 + 1) :: st)))
  | .getfield k => sX st (fun a r => oB (fnd (mks F) k) (fun q => oC (a % 2 == 1 && decide (a / 2 < NSTR)) (oC (q.1 == 1 || q.1 == 2) (some (pc + 3, lv, (if q.1 = 1 then .retAddr (2 * (a / 2) + 2) else .int 0) :: r)))))
  | .getstatic k => oB (fnd (mks F) k) (fun q => oC (q.1 == 3 || q.1 == 4) (some (pc + 3, lv, (if q.1 = 3 then .int 1 else .float 0) :: st)))
  | .arraylength => sX st (fun a r => oC (a % 2 == 0 && decide (2 ≤ a) && decide (a / 2 - 1 < NSTR)) (some (pc + 1, lv, .int (Int32.ofNat (LENS.getD (a / 2 - 1) 0)) :: r)))
  | .baload => sIX st (fun a j r => oC (a % 2 == 0 && decide (2 ≤ a) && decide (a / 2 - 1 < NSTR) && decide (¬ j < 0) && decide (j.toNatClampNeg < LENS.getD (a / 2 - 1) 0)) (some (pc + 1, lv, .int ((BYT.getD (a / 2 - 1) []).getD j.toNatClampNeg 0) :: r)))
  | .i2c => sI st (fun x r => some (pc + 1, lv, .int (x.toUInt32 % 65536).toInt32 :: r))
  | _ => none
set_option maxHeartbeats 4000000 in
theorem stpX_ok {MT : Nat → Option MR} {p : Program} {l : Launch} {e : Env} {R : Room} {s : State} {m : MethodId} {args : Array Value} {below : List Frame} {meth : Method} {c : Code} {H : Heap} {locs : List Loc} {cells slots : Nat} {Q : State → Prop} {F : MR} {i : Instr} {len tgt pc pc' : Nat} {lv lv' : ALv} {st st' : List Value} {b : Nat → Nat} {base : Nat} {ls : Array Slot}
    (hF : FOK MT F) (C : Ctx p s m args meth c F) (hS : va_S (fun q => base ≤ q) s.heap H locs) (hl : lv_has ls (mml F) (gL b base lv)) (hks : KS b base s)
    (hf : fc F pc = some (i, len, tgt)) (hst : stpX F i pc lv st = some (pc', lv', st'))
    (k : ∀ ls', lv_has ls' (mml F) (gL b base lv') → W p l e R s m args below meth c H locs cells slots Q (F0 m pc' ls' (st'.map (gV b base)))) :
    W p l e R s m args below meth c H locs cells slots Q (F0 m pc ls (st.map (gV b base))) := by
  obtain ⟨hx, hb, hr, hml, hown, hlocks, hts, hin0, hal⟩ := C
  obtain ⟨hD, hlen, hoff⟩ := hF.1 _ (fc_mem hf)
  dsimp only at hD hlen hoff
  have hd : ∀ n, ilen i = n → n ≠ 0 → decode (mcc F) pc = .ok (i, n) := by
    intro n h1 h2
    rcases hlen with h3 | h3
    · omega
    · rw [← h1, h3]; exact hD
  obtain ⟨kS, kR, kC, kF⟩ := hks
  cases i with
  | ldc z =>
    change oB _ _ = some _ at hst
    obtain ⟨q, hq, h1⟩ := oB_inv hst
    obtain ⟨h3, h2⟩ := oC_inv h1
    simp only [Option.some.injEq, Prod.mk.injEq] at h2
    obtain ⟨rfl, rfl, rfl⟩ := h2
    have hX := hF.2.2.2.2.2.2 _ (fnd_mem hq)
    exact va_ldcS hx hb hown (kR ((my F).cls, z, q.2.1) (hX.1 (eq_of_beq h3))) (hd 2 rfl (by decide)) (k ls hl)
  | getfield z =>
    change sX _ _ = some _ at hst
    obtain ⟨a, r, rfl, h0⟩ := sX_inv hst
    obtain ⟨q, hq, h1⟩ := oB_inv h0
    obtain ⟨h3, h5⟩ := oC_inv h1
    obtain ⟨h4, h2⟩ := oC_inv h5
    simp only [Option.some.injEq, Prod.mk.injEq] at h2
    obtain ⟨rfl, rfl, rfl⟩ := h2
    simp only [Bool.and_eq_true, beq_iff_eq, decide_eq_true_eq] at h3
    have hX := hF.2.2.2.2.2.2 _ (fnd_mem hq)
    have ea : b a = b (2 * (a / 2) + 1) := by rw [show 2 * (a / 2) + 1 = a by omega]
    have hk := kS.1 (a / 2) h3.2
    show W p l e R s m args below meth c H locs cells slots Q (F0 m pc ls (.ref (b a) :: r.map (gV b base)))
    rw [ea]
    by_cases h1 : q.1 = 1
    · rw [if_pos h1] at k
      exact vk_getf hx hb hk.2.2.1 hS hown (hts _ (hX.2.1 h1)) (fun _ h9 => h9) (hd 3 rfl (by decide)) (k ls hl)
    · rw [if_neg h1] at k
      have h2 : q.1 = 2 := by simp only [Bool.or_eq_true, beq_iff_eq] at h4; omega
      exact vk_getf hx hb hk.2.1 hS hown (hts _ (hX.2.2.1 h2)) (fun _ h9 => h9) (hd 3 rfl (by decide)) (k ls hl)
  | getstatic z =>
    change oB _ _ = some _ at hst
    obtain ⟨q, hq, h1⟩ := oB_inv hst
    obtain ⟨h4, h2⟩ := oC_inv h1
    simp only [Option.some.injEq, Prod.mk.injEq] at h2
    obtain ⟨rfl, rfl, rfl⟩ := h2
    have hX := hF.2.2.2.2.2.2 _ (fnd_mem hq)
    by_cases h1 : q.1 = 3
    · rw [if_pos h1] at k
      exact va_gets hx hb kC hS hown (hts _ (hX.2.2.2.1 h1)) (fun _ h9 => h9) (hd 3 rfl (by decide)) (k ls hl)
    · rw [if_neg h1] at k
      have h2 : q.1 = 4 := by simp only [Bool.or_eq_true, beq_iff_eq] at h4; omega
      exact va_gets hx hb kF hS hown (hts _ (hX.2.2.2.2 h2)) (fun _ h9 => h9) (hd 3 rfl (by decide)) (k ls hl)
  | arraylength =>
    change sX _ _ = some _ at hst
    obtain ⟨a, r, rfl, h0⟩ := sX_inv hst
    obtain ⟨h3, h2⟩ := oC_inv h0
    simp only [Option.some.injEq, Prod.mk.injEq] at h2
    obtain ⟨rfl, rfl, rfl⟩ := h2
    simp only [Bool.and_eq_true, beq_iff_eq, decide_eq_true_eq] at h3
    have ea : b a = b (2 * (a / 2 - 1) + 2) := by rw [show 2 * (a / 2 - 1) + 2 = a by omega]
    have hk := kS.1 (a / 2 - 1) h3.2
    show W p l e R s m args below meth c H locs cells slots Q (F0 m pc ls (.ref (b a) :: r.map (gV b base)))
    rw [ea]
    exact va_tlen hx hb hk.2.2.2 hS rfl (hd 1 rfl (by decide)) (k ls hl)
  | baload =>
    change sIX _ _ = some _ at hst
    obtain ⟨a, j, r, rfl, h0⟩ := sIX_inv hst
    obtain ⟨h3, h2⟩ := oC_inv h0
    simp only [Option.some.injEq, Prod.mk.injEq] at h2
    obtain ⟨rfl, rfl, rfl⟩ := h2
    simp only [Bool.and_eq_true, beq_iff_eq, decide_eq_true_eq] at h3
    obtain ⟨⟨⟨⟨g1, g2⟩, g3⟩, g4⟩, g5⟩ := h3
    have ea : b a = b (2 * (a / 2 - 1) + 2) := by rw [show 2 * (a / 2 - 1) + 2 = a by omega]
    have hk := kS.1 (a / 2 - 1) g3
    show W p l e R s m args below meth c H locs cells slots Q (F0 m pc ls (.int j :: .ref (b a) :: r.map (gV b base)))
    rw [ea]
    exact va_tb hx hb hk.2.2.2 hS (fun z => z.elim g4 (fun z => by omega)) rfl (hd 1 rfl (by decide)) (k ls hl)
  | i2c =>
    change sI _ _ = some _ at hst
    obtain ⟨x, r, rfl, h1⟩ := sI_inv hst
    simp only [Option.some.injEq, Prod.mk.injEq] at h1
    obtain ⟨rfl, rfl, rfl⟩ := h1
    exact lv_i2c hx hb (hd 1 rfl (by decide)) rfl (k ls hl)
  | _ => exact absurd hst (by intro z; cases z)
/-- a reading step, of either kind -/
def stpA (F : MR) (scr : AS) (i : Instr) (tgt pc : Nat) (lv : ALv) (st : List Value) (h : AH) : Option (Nat × ALv × List Value) := match stpP F scr i tgt pc lv st h with
  | some x => some x
  | none => stpX F i pc lv st
theorem stpA_P {F : MR} {scr : AS} {i : Instr} {tgt pc : Nat} {lv : ALv} {st : List Value} {h : AH} {x : Nat × ALv × List Value} (hx : stpP F scr i tgt pc lv st h = some x) : stpA F scr i tgt pc lv st h = some x := by unfold stpA; rw [hx]
theorem stpA_inv {F : MR} {scr : AS} {i : Instr} {tgt pc : Nat} {lv : ALv} {st : List Value} {h : AH} {x : Nat × ALv × List Value} (hx : stpA F scr i tgt pc lv st h = some x) : stpP F scr i tgt pc lv st h = some x ∨ stpP F scr i tgt pc lv st h = none ∧ stpX F i pc lv st = some x := by
  unfold stpA at hx
  split at hx
  · rename_i y hy; cases hx; exact Or.inl hy
  · rename_i hy; exact Or.inr ⟨hy, hx⟩
end
/-! 06.heap -/
section
/-! the steps that write and make -/
theorem vS_self {A : Nat → Prop} {H0 H : Heap} {locs : List Loc} (h : va_S A H0 H locs) : va_S A H H locs := ⟨Nat.le_refl _, fun _ _ _ => rfl, h.2.2⟩
theorem vS_comp {A : Nat → Prop} {H0 H H1 : Heap} {locs locs1 : List Loc} (h1 : va_S A H0 H locs) (h2 : va_S A H H1 locs1) : va_S A H0 H1 locs1 :=
  ⟨Nat.le_trans h1.1 h2.1, fun q hq hA => (h2.2.1 q (Nat.lt_of_lt_of_le hq h1.1) hA).trans (h1.2.1 q hq hA), h2.2.2⟩
/-- a frame has no more cells than are booked -/
theorem W_sz {p : Program} {l : Launch} {e : Env} {R : Room} {s : State} {m : MethodId} {args : Array Value} {below : List Frame} {meth : Method} {c : Code} {H : Heap} {locs : List Loc} {cells slots : Nat} {Q : State → Prop} {g : JFrame}
    (k : H.size ≤ s.heap.size + cells → W p l e R s m args below meth c H locs cells slots Q g) : W p l e R s m args below meth c H locs cells slots Q g := fun T hT X => k (by
  have h := X.same.2.2.1
  rw [← hT]
  exact h) T hT X
theorem Wd_set {D : va_G} {tyc : Nat → ClassId} {b : Nat → Nat} {base : Nat} {h : AH} {H H1 : Heap} {a n : Nat} {c : AC} (hW : Wd D tyc b base h H) (hP : va_P D vwCl ((gW b base tyc h).set a (base + a, gE b base tyc c)) H1) (hle : H.size ≤ H1.size) (hN : base + h.length = n) (hub : H1.size ≤ n) : Wd D tyc b base (h.set a c) H1 := by
  refine ⟨?_, by rw [← gW_set]; exact hP⟩
  have h1 := hW.1
  rw [List.length_set]
  omega
theorem Wd_push {D : va_G} {tyc : Nat → ClassId} {b : Nat → Nat} {base : Nat} {h : AH} {H H1 : Heap} {q n : Nat} {c : AC} (hW : Wd D tyc b base h H) (hP : va_P D vwCl (gW b base tyc h ++ [(q, gE b base tyc c)]) H1) (hD : va_D (fun q => base ≤ q) (gW b base tyc h ++ [(q, gE b base tyc c)])) (hN : base + h.length = n) (hub : H1.size ≤ n + 1) : Wd D tyc b base (h ++ [c]) H1 ∧ q = base + h.length := by
  have hk : (gW b base tyc h ++ [(q, gE b base tyc c)])[h.length]? = some (q, gE b base tyc c) := by
    rw [List.getElem?_append_right (by rw [gW_len]; exact Nat.le_refl _), gW_len]; simp
  have hq1 : base ≤ q := hD.2 _ _ hk
  have hq2 : q < H1.size := (hP _ _ hk).lt
  have hq3 : base + h.length ≤ q := by
    rcases Nat.lt_or_ge q (base + h.length) with z | z
    · exfalso
      have hi : q - base < h.length := by omega
      have h2 : (gW b base tyc h ++ [(q, gE b base tyc c)])[q - base]? = some (base + (q - base), gE b base tyc h[q - base]) := by
        rw [List.getElem?_append_left (by rw [gW_len]; exact hi)]
        exact gW_at (List.getElem?_eq_getElem hi)
      have h3 := hD.1 _ _ _ _ h2 hk (by dsimp only; omega)
      omega
    · exact z
  have e : q = base + h.length := by omega
  subst e
  exact ⟨⟨by rw [List.length_append]; simp only [List.length_cons, List.length_nil]; omega, by rw [gW_push]; exact hP⟩, rfl⟩
theorem updI_list {vs : List Value} {j : Nat} (hj : j < vs.length) (x : Int32) : upd (fun k => asI (vs.getD k .null)) j x = fun k => asI ((vs.set j (.int x)).getD k .null) := by
  funext k
  unfold upd
  simp only [List.getD_eq_getElem?_getD, List.getElem?_set]
  by_cases hk : k = j
  · subst hk; simp [hj, asI]
  · rw [if_neg hk, if_neg (fun z => hk z.symm)]
theorem updL_list {vs : List Value} {j : Nat} (hj : j < vs.length) (x : Int64) : vp_updL (fun k => asL (vs.getD k .null)) j x = fun k => asL ((vs.set j (.long x)).getD k .null) := by
  funext k
  unfold vp_updL
  simp only [List.getD_eq_getElem?_getD, List.getElem?_set]
  by_cases hk : k = j
  · subst hk; simp [hj, asL]
  · rw [if_neg hk, if_neg (fun z => hk z.symm)]
theorem updR_list {base : Nat} {vs : List Value} {j : Nat} (hj : j < vs.length) (a : Nat) : va_up (fun k => asR base (vs.getD k .null)) j (some (base + a)) = fun k => asR base ((vs.set j (.ref a)).getD k .null) := by
  funext k
  unfold va_up
  simp only [List.getD_eq_getElem?_getD, List.getElem?_set]
  by_cases hk : k = j
  · subst hk; simp [hj, asR]
  · rw [if_neg hk, if_neg (fun z => hk z.symm)]
def sVR {α : Type} (st : List Value) (f : Value → Nat → List Value → Option α) : Option α := match st with
  | v :: .ref a :: r => f v a r
  | _ => none
def sVIR {α : Type} (st : List Value) (f : Value → Int32 → Nat → List Value → Option α) : Option α := match st with
  | v :: .int j :: .ref a :: r => f v j a r
  | _ => none
theorem sVR_inv {α : Type} {st : List Value} {f : Value → Nat → List Value → Option α} {a : α} (h : sVR st f = some a) : ∃ v x r, st = v :: .ref x :: r ∧ f v x r = some a := by
  unfold sVR at h; split at h
  · exact ⟨_, _, _, rfl, h⟩
  · cases h
theorem sVIR_inv {α : Type} {st : List Value} {f : Value → Int32 → Nat → List Value → Option α} {a : α} (h : sVIR st f = some a) : ∃ v j x r, st = v :: .int j :: .ref x :: r ∧ f v j x r = some a := by
  unfold sVIR at h; split at h
  · exact ⟨_, _, _, _, rfl, h⟩
  · cases h
/-- the type of the rows that hold a class's objects -/
def ciTy (ci : Nat) : Nat := if ci = 0 then 4 else if ci = 4 then 5 else if ci = 7 then 6 else 99
def stpW (F : MR) (i : Instr) (pc : Nat) (st : List Value) (h : AH) : Option (Nat × List Value × AH) :=
  match i with
  | .putfield k => sVR st (fun v a r => oB (fnd (mfl F) k) (fun e => oB h[a]? (fun c => oC (c.1 == 0 && c.2.1 == e.1 && decide (e.2.2.1 < 3) && decide (e.2.1 < c.2.2.length) && okFit (TYF e.1 e.2.1) v) (some (pc + 3, r, h.set a (0, c.2.1, c.2.2.set e.2.1 v))))))
  | .iastore => sVIR st (fun v j a r => oB h[a]? (fun c => oC (isI v && c.1 == 1 && c.2.1 == 0 && decide (¬ j < 0) && decide (j.toNatClampNeg < c.2.2.length)) (some (pc + 1, r, h.set a (1, c.2.1, c.2.2.set j.toNatClampNeg v)))))
  | .bastore => sVIR st (fun v j a r => oB h[a]? (fun c => oC (isI v && c.1 == 1 && (c.2.1 == 2 || c.2.1 == 3) && decide (¬ j < 0) && decide (j.toNatClampNeg < c.2.2.length)) (some (pc + 1, r, h.set a (1, c.2.1, c.2.2.set j.toNatClampNeg (.int (vp_nar (if c.2.1 = 2 then .byte else .boolean) (asI v))))))))
  | .lastore => sVIR st (fun v j a r => oB h[a]? (fun c => oC (isL v && c.1 == 2 && c.2.1 == 1 && decide (¬ j < 0) && decide (j.toNatClampNeg < c.2.2.length)) (some (pc + 1, r, h.set a (2, c.2.1, c.2.2.set j.toNatClampNeg v)))))
  | .aastore => sVIR st (fun v j a r => match v with
    | .ref x => oB h[x]? (fun d => oB h[a]? (fun c => oC (d.1 == 0 && c.1 == 3 && c.2.1 == ciTy d.2.1 && decide (c.2.1 < 7) && decide (¬ j < 0) && decide (j.toNatClampNeg < c.2.2.length)) (some (pc + 1, r, h.set a (3, c.2.1, c.2.2.set j.toNatClampNeg (.ref x))))))
    | _ => none)
  | _ => none

set_option maxHeartbeats 4000000 in
set_option maxRecDepth 100000 in
theorem stpW_ok {MT : Nat → Option MR} {p : Program} {l : Launch} {e : Env} {R : Room} {s : State} {m : MethodId} {args : Array Value} {below : List Frame} {meth : Method} {c : Code} {H : Heap} {locs : List Loc} {cells slots : Nat} {Q : State → Prop} {F : MR} {i : Instr} {len tgt pc pc' : Nat} {st st' : List Value} {h h' : AH} {D : va_G} {tyc : Nat → ClassId} {b : Nat → Nat} {base : Nat} {ls : Array Slot}
    (hF : FOK MT F) (C : Ctx p s m args meth c F) (hK : va_K D vwCl (TYS tyc) s) (hW : Wd D tyc b base h H) (hS : va_S (fun q => base ≤ q) s.heap H locs) (hN : base + h.length = s.heap.size + cells)
    (hf : fc F pc = some (i, len, tgt)) (hst : stpW F i pc st h = some (pc', st', h'))
    (k : ∀ H' locs', Wd D tyc b base h' H' → va_S (fun q => base ≤ q) s.heap H' locs' → W p l e R s m args below meth c H' locs' cells slots Q (F0 m pc' ls (st'.map (gV b base)))) :
    W p l e R s m args below meth c H locs cells slots Q (F0 m pc ls (st.map (gV b base))) := by
  obtain ⟨hx, hb, hr, hml, hown, hlocks, hts, hin0, hal⟩ := C
  obtain ⟨hD, hlen, hoff⟩ := hF.1 _ (fc_mem hf)
  dsimp only at hD hlen hoff
  have hd : ∀ n, ilen i = n → n ≠ 0 → decode (mcc F) pc = .ok (i, n) := by
    intro n h1 h2
    rcases hlen with h3 | h3
    · omega
    · rw [← h1, h3]; exact hD
  cases i with
  | putfield z =>
    change sVR _ _ = some _ at hst
    obtain ⟨v, a, r, rfl, h1⟩ := sVR_inv hst
    obtain ⟨e0, he0, h4⟩ := oB_inv h1
    obtain ⟨cc, hc, h5⟩ := oB_inv h4
    obtain ⟨h3, h2⟩ := oC_inv h5
    simp only [Option.some.injEq, Prod.mk.injEq] at h2
    obtain ⟨rfl, rfl, rfl⟩ := h2
    simp only [Bool.and_eq_true, beq_iff_eq, decide_eq_true_eq] at h3
    obtain ⟨⟨⟨⟨hk1, hk2⟩, hcd⟩, hlt⟩, hfit⟩ := h3
    obtain ⟨⟨C0, T0, N0⟩, hr0, hk0, hw0, hnf, hfn⟩ := hF.2.1 _ (fnd_mem he0)
    dsimp only at hr0 hk0 hw0 hnf hfn
    obtain ⟨hty, hnm⟩ := CLS_ty hr0
    have he := gW_at (b := b) (base := base) (tyc := tyc) hc
    rw [gE_o hk1, hk2] at he
    obtain ⟨hn1, hn2⟩ := okFit_spec b base hfit
    have hlt2 : e0.2.1 < (cc.2.2.map (gV b base)).length := by rw [List.length_map]; exact hlt
    have fin : ∀ (H1 : Heap) (locs1 : List Loc), va_P D vwCl ((gW b base tyc h).set a (base + a, .inr (e0.1, (cc.2.2.map (gV b base)).set e0.2.1 (gV b base v)))) H1 → va_S (fun q => base ≤ q) H H1 locs1 → W p l e R s m args below meth c H1 locs1 cells slots Q (F0 m (pc + 3) ls (r.map (gV b base))) := by
      intro H1 locs1 hP1 hS1
      refine W_sz (fun hub => k H1 locs1 (Wd_set hW ?_ hS1.1 hN hub) (vS_comp hS hS1))
      rw [gE_o rfl]
      dsimp only
      rw [List.map_set, hk2]
      exact hP1
    unfold fldW at hw0
    by_cases hfi : (T0 e0.2.1).2.2.2 = true
    · have hcd2 : e0.2.2.1 = 2 := by
        rcases (show e0.2.2.1 = 0 ∨ e0.2.2.1 = 1 ∨ e0.2.2.1 = 2 by omega) with z | z | z
        · rw [hnf (Or.inl z)] at hfi; cases hfi
        · rw [hnf (Or.inr z)] at hfi; cases hfi
        · exact z
      obtain ⟨g1, g2, g3⟩ := hfn hcd2
      rw [if_neg (by omega)] at hw0
      exact va_putF hx hb hts (CLS_in hr0) (TYF e0.1) hty hnm hown hK hW.2 (gW_D b base tyc h) (vS_self hS) a he hr0 e0.2.1 hk0 (hal _ hw0) (fun _ h9 => h9) g1 (hin0 g3) g2 (hty _ hk0) hn1 hn2 hlt2 (hd 3 rfl (by decide)) (fun H1 locs1 hP1 _ hS1 => fin H1 locs1 hP1 hS1)
    · have hfi2 : (T0 e0.2.1).2.2.2 = false := by simpa using hfi
      split at hw0
      · exact va_putN hx hb hts (CLS_in hr0) (TYF e0.1) hty hnm hown hK hW.2 (gW_D b base tyc h) (vS_self hS) a he hr0 e0.2.1 hk0 (hal _ hw0) (fun _ h9 => h9) hfi2 (hty _ hk0) hn1 hn2 hlt2 (hd 3 rfl (by decide)) (fun H1 locs1 hP1 _ hS1 => fin H1 locs1 hP1 hS1)
      · exact va_put hx hb hts (CLS_in hr0) (TYF e0.1) hty hnm hown hK hW.2 (gW_D b base tyc h) (vS_self hS) a he hr0 e0.2.1 hk0 (hal _ hw0) (fun _ h9 => h9) hfi2 (hty _ hk0) hn1 hn2 hlt2 (hd 3 rfl (by decide)) (fun H1 locs1 hP1 _ hS1 => fin H1 locs1 hP1 hS1)
  | iastore =>
    change sVIR _ _ = some _ at hst
    obtain ⟨v, j, a, r, rfl, h1⟩ := sVIR_inv hst
    obtain ⟨cc, hc, h4⟩ := oB_inv h1
    obtain ⟨h3, h2⟩ := oC_inv h4
    simp only [Option.some.injEq, Prod.mk.injEq] at h2
    obtain ⟨rfl, rfl, rfl⟩ := h2
    simp only [Bool.and_eq_true, Bool.or_eq_true, beq_iff_eq, decide_eq_true_eq] at h3
    obtain ⟨⟨⟨⟨hv, hk1⟩, hk2⟩, hj⟩, hlt⟩ := h3
    obtain ⟨x, rfl⟩ := isI_inv hv
    have he := gW_at (b := b) (base := base) (tyc := tyc) hc
    rw [gE_i hk1] at he
    have hin : vp_in j cc.2.2.length := fun z => z.elim hj (fun z => by omega)
    rw [hk2] at he
    refine va_iast hx hb hK hW.2 (gW_D b base tyc h) (vS_self hS) a 0 he rfl hin (hd 1 rfl (by decide)) (fun H1 locs1 hP1 _ hS1 => W_sz (fun hub => k H1 locs1 (Wd_set hW ?_ hS1.1 hN hub) (vS_comp hS hS1)))
    rw [updI_list hlt] at hP1
    rw [gE_i rfl]
    dsimp only
    rw [hk2, List.length_set]
    exact hP1
  | bastore =>
    change sVIR _ _ = some _ at hst
    obtain ⟨v, j, a, r, rfl, h1⟩ := sVIR_inv hst
    obtain ⟨cc, hc, h4⟩ := oB_inv h1
    obtain ⟨h3, h2⟩ := oC_inv h4
    simp only [Option.some.injEq, Prod.mk.injEq] at h2
    obtain ⟨rfl, rfl, rfl⟩ := h2
    simp only [Bool.and_eq_true, Bool.or_eq_true, beq_iff_eq, decide_eq_true_eq] at h3
    obtain ⟨⟨⟨⟨hv, hk1⟩, hk2⟩, hj⟩, hlt⟩ := h3
    obtain ⟨x, rfl⟩ := isI_inv hv
    have he := gW_at (b := b) (base := base) (tyc := tyc) hc
    rw [gE_i hk1] at he
    have hin : vp_in j cc.2.2.length := fun z => z.elim hj (fun z => by omega)
    rcases hk2 with hk2 | hk2
    · rw [hk2] at he
      refine va_bast hx hb hK hW.2 (gW_D b base tyc h) (vS_self hS) a 2 he rfl hin (hd 1 rfl (by decide)) (fun H1 locs1 hP1 _ hS1 => W_sz (fun hub => k H1 locs1 (Wd_set hW ?_ hS1.1 hN hub) (vS_comp hS hS1)))
      rw [updI_list hlt] at hP1
      rw [gE_i rfl]
      dsimp only
      rw [hk2, List.length_set]
      first | rw [if_pos rfl] | rw [if_neg (by decide)]
      exact hP1
    · rw [hk2] at he
      refine va_zast hx hb hK hW.2 (gW_D b base tyc h) (vS_self hS) a 3 he rfl hin (hd 1 rfl (by decide)) (fun H1 locs1 hP1 _ hS1 => W_sz (fun hub => k H1 locs1 (Wd_set hW ?_ hS1.1 hN hub) (vS_comp hS hS1)))
      rw [updI_list hlt] at hP1
      rw [gE_i rfl]
      dsimp only
      rw [hk2, List.length_set]
      first | rw [if_pos rfl] | rw [if_neg (by decide)]
      exact hP1
  | lastore =>
    change sVIR _ _ = some _ at hst
    obtain ⟨v, j, a, r, rfl, h1⟩ := sVIR_inv hst
    obtain ⟨cc, hc, h4⟩ := oB_inv h1
    obtain ⟨h3, h2⟩ := oC_inv h4
    simp only [Option.some.injEq, Prod.mk.injEq] at h2
    obtain ⟨rfl, rfl, rfl⟩ := h2
    simp only [Bool.and_eq_true, Bool.or_eq_true, beq_iff_eq, decide_eq_true_eq] at h3
    obtain ⟨⟨⟨⟨hv, hk1⟩, hk2⟩, hj⟩, hlt⟩ := h3
    obtain ⟨x, rfl⟩ := isL_inv hv
    have he := gW_at (b := b) (base := base) (tyc := tyc) hc
    rw [gE_l hk1] at he
    have hin : vp_in j cc.2.2.length := fun z => z.elim hj (fun z => by omega)
    rw [hk2] at he
    refine va_last hx hb hK hW.2 (gW_D b base tyc h) (vS_self hS) a 1 he rfl hin (hd 1 rfl (by decide)) (fun H1 locs1 hP1 _ hS1 => W_sz (fun hub => k H1 locs1 (Wd_set hW ?_ hS1.1 hN hub) (vS_comp hS hS1)))
    rw [updL_list hlt] at hP1
    rw [gE_l rfl]
    dsimp only
    rw [hk2, List.length_set]
    exact hP1
  | aastore =>
    change sVIR _ _ = some _ at hst
    obtain ⟨v, j, a, r, rfl, h1⟩ := sVIR_inv hst
    split at h1
    · rename_i x
      obtain ⟨dd, hdd, h1⟩ := oB_inv h1
      obtain ⟨cc, hc, h4⟩ := oB_inv h1
      obtain ⟨h3, h2⟩ := oC_inv h4
      simp only [Option.some.injEq, Prod.mk.injEq] at h2
      obtain ⟨rfl, rfl, rfl⟩ := h2
      simp only [Bool.and_eq_true, Bool.or_eq_true, beq_iff_eq, decide_eq_true_eq] at h3
      obtain ⟨⟨⟨⟨⟨hd1, hk1⟩, hk2⟩, hk7⟩, hj⟩, hlt⟩ := h3
      have he := gW_at (b := b) (base := base) (tyc := tyc) hc
      rw [gE_r hk1] at he
      have hv := gW_at (b := b) (base := base) (tyc := tyc) hdd
      rw [gE_o hd1] at hv
      have hin : vp_in j cc.2.2.length := fun z => z.elim hj (fun z => by omega)
      have fin : ∀ (H1 : Heap) (locs1 : List Loc), va_P D vwCl ((gW b base tyc h).set a (base + a, .inl (tyc cc.2.1, cc.2.2.length, .inr (.inr (.inr (.inr (va_up (fun k => asR base (cc.2.2.getD k .null)) j.toNatClampNeg (some (base + x))))))))) H1 → va_S (fun q => base ≤ q) H H1 locs1 → W p l e R s m args below meth c H1 locs1 cells slots Q (F0 m (pc + 1) ls (r.map (gV b base))) := by
        intro H1 locs1 hP1 hS1
        refine W_sz (fun hub => k H1 locs1 (Wd_set hW ?_ hS1.1 hN hub) (vS_comp hS hS1))
        rw [updR_list hlt] at hP1
        rw [gE_r rfl]
        simpa only [List.length_set] using hP1
      have hty3 : (dd.2.1 = 0 ∧ cc.2.1 = 4) ∨ (dd.2.1 = 4 ∧ cc.2.1 = 5) ∨ (dd.2.1 = 7 ∧ cc.2.1 = 6) := by
        unfold ciTy at hk2
        split at hk2
        · exact Or.inl ⟨by assumption, hk2⟩
        · split at hk2
          · exact Or.inr (Or.inl ⟨by assumption, hk2⟩)
          · split at hk2
            · exact Or.inr (Or.inr ⟨by assumption, hk2⟩)
            · omega
      rcases hty3 with ⟨z1, z2⟩ | ⟨z1, z2⟩ | ⟨z1, z2⟩
      · rw [z2] at he fin
        rw [z1] at hv
        exact va_astq hx hb hK hW.2 (gW_D b base tyc h) (vS_self hS) a 4 x 0 he rfl hv rfl hin (hd 1 rfl (by decide)) (fun H1 locs1 hP1 _ hS1 => fin H1 locs1 hP1 hS1)
      · rw [z2] at he fin
        rw [z1] at hv
        exact va_astq hx hb hK hW.2 (gW_D b base tyc h) (vS_self hS) a 5 x 4 he rfl hv rfl hin (hd 1 rfl (by decide)) (fun H1 locs1 hP1 _ hS1 => fin H1 locs1 hP1 hS1)
      · rw [z2] at he fin
        rw [z1] at hv
        exact va_astq hx hb hK hW.2 (gW_D b base tyc h) (vS_self hS) a 6 x 7 he rfl hv rfl hin (hd 1 rfl (by decide)) (fun H1 locs1 hP1 _ hS1 => fin H1 locs1 hP1 hS1)
    · cases h1
  | _ => exact absurd hst (by intro z; cases z)
/-! cells that come -/
def aty (t : ArrayType) : Option (Nat × Nat × Value) := match t with
  | .int => some (1, 0, .int 0)
  | .long => some (2, 1, .long 0)
  | .byte => some (1, 2, .int 0)
  | .boolean => some (1, 3, .int 0)
  | _ => none
/-- the classes, the rows' types, and that rows of objects may be made -/
def KX (D : va_G) (tyc : Nat → ClassId) (s : State) : Prop := va_K D vwCl (TYS tyc) s ∧ va_AO RX0 s ∧ va_AO RX4 s ∧ va_AO RX7 s ∧ ∀ w ∈ NST, va_Nw w s
theorem KX_warm {D : va_G} {tyc : Nat → ClassId} {u U : State} (hW : u.WarmedH U.vm) (h : KX D tyc u) : KX D tyc U := ⟨va_K.moved hW.alike h.1, va_AO.moved hW.alike h.2.1, va_AO.moved hW.alike h.2.2.1, va_AO.moved hW.alike h.2.2.2.1, fun w hw => NST_warm hw hW (h.2.2.2.2 w hw)⟩
theorem KX_call {D : va_G} {tyc : Nat → ClassId} {U : State} {g : JFrame} {mk : MethodId} {a : Array Value} (h : KX D tyc U) : KX D tyc (U.calling g mk a) := ⟨va_K.moved (u := U) (U := U.calling g mk a) (Vm.Alike.refl U.vm) h.1, va_AO.moved (u := U) (U := U.calling g mk a) (Vm.Alike.refl U.vm) h.2.1, va_AO.moved (u := U) (U := U.calling g mk a) (Vm.Alike.refl U.vm) h.2.2.1, va_AO.moved (u := U) (U := U.calling g mk a) (Vm.Alike.refl U.vm) h.2.2.2.1, fun w hw => va_Nw.same (NST_on hw) (u := U) (U := U.calling g mk a) rfl (h.2.2.2.2 w hw)⟩
def stpN (F : MR) (i : Instr) (pc : Nat) (st : List Value) (h : AH) : Option (Nat × List Value × AH) :=
  match i with
  | .new k => oB (fnd (mkc F) k) (fun e => some (pc + 3, .ref h.length :: st, h ++ [(0, e.1, DFL e.1)]))
  | .newarray t => oB (aty t) (fun q => sI st (fun n r => oC (decide (¬ n < 0) && decide (n.toNatClampNeg ≤ 100000)) (some (pc + 2, .ref h.length :: r, h ++ [(q.1, q.2.1, List.replicate n.toNatClampNeg q.2.2)]))))
  | .anewarray k => oB (fnd (mkc F) k) (fun e => sI st (fun n r => oC (decide (¬ n < 0) && decide (n.toNatClampNeg ≤ 100000) && decide (ciTy e.1 < 7)) (some (pc + 3, .ref h.length :: r, h ++ [(3, ciTy e.1, List.replicate n.toNatClampNeg .null)]))))
  | _ => none
theorem slo_push (h : AH) (c : AC) : slo (h ++ [c]) = slo h + c.2.2.length := by unfold slo; simp
theorem rep_I (n : Nat) : (fun j => asI ((List.replicate n (Value.int 0)).getD j .null)) = fun _ => (0 : Int32) := by
  funext j
  rw [List.getD_eq_getElem?_getD, List.getElem?_replicate]
  by_cases h : j < n <;> simp [h, asI]
theorem rep_L (n : Nat) : (fun j => asL ((List.replicate n (Value.long 0)).getD j .null)) = fun _ => (0 : Int64) := by
  funext j
  rw [List.getD_eq_getElem?_getD, List.getElem?_replicate]
  by_cases h : j < n <;> simp [h, asL]
theorem rep_R (base n : Nat) : (fun j => asR base ((List.replicate n Value.null).getD j .null)) = fun _ => (none : Option Nat) := by
  funext j
  rw [List.getD_eq_getElem?_getD, List.getElem?_replicate]
  by_cases h : j < n <;> simp [h, asR]
theorem TY_same {D : va_G} {tyc : Nat → ClassId} {s : State} {cA : ClassId} {ty : FieldType} {i : Nat} (hK : va_K D vwCl (TYS tyc ++ [(cA, ty)]) s) (hi : (TYS tyc)[i]? = some (tyc i, ty)) : cA = tyc i := by
  have hl : i < (TYS tyc).length := (List.getElem?_eq_some_iff.mp hi).1
  have h1 := (hK.2 i (tyc i, ty) (by rw [List.getElem?_append_left hl]; exact hi)).2
  have h2 := (hK.2 (TYS tyc).length (cA, ty) (by rw [List.getElem?_append_right (Nat.le_refl _)]; simp)).2
  unfold va_RA at h1 h2
  cases ty with
  | object C =>
    obtain ⟨_, _, _, _, _, e1⟩ := h1
    obtain ⟨_, _, _, _, _, e2⟩ := h2
    exact Option.some.inj (e2.symm.trans e1)
  | _ => exact Option.some.inj (h2.symm.trans h1)
set_option maxHeartbeats 4000000 in
set_option maxRecDepth 100000 in
theorem stpN_ok {MT : Nat → Option MR} {p : Program} {l : Launch} {e : Env} {R : Room} {s : State} {m : MethodId} {args : Array Value} {below : List Frame} {meth : Method} {c : Code} {H : Heap} {locs : List Loc} {cells slots S0 : Nat} {Q : State → Prop} {F : MR} {i : Instr} {len tgt pc pc' : Nat} {st st' : List Value} {h h' : AH} {D : va_G} {tyc : Nat → ClassId} {b : Nat → Nat} {base : Nat} {ls : Array Slot}
    (hF : FOK MT F) (C : Ctx p s m args meth c F) (hKX : KX D tyc s) (hW : Wd D tyc b base h H) (hS : va_S (fun q => base ≤ q) s.heap H locs) (hbs : base ≤ s.heap.size) (hN : base + h.length = s.heap.size + cells) (hM : slo h = S0 + slots) (hRc : base + h'.length ≤ s.heap.size + R.cells) (hRs : slo h' ≤ S0 + R.slots)
    (hf : fc F pc = some (i, len, tgt)) (hst : stpN F i pc st h = some (pc', st', h'))
    (k : ∀ H' locs' cells' slots', Wd D tyc b base h' H' → va_S (fun q => base ≤ q) s.heap H' locs' → base + h'.length = s.heap.size + cells' → slo h' = S0 + slots' → W p l e R s m args below meth c H' locs' cells' slots' Q (F0 m pc' ls (st'.map (gV b base)))) :
    W p l e R s m args below meth c H locs cells slots Q (F0 m pc ls (st.map (gV b base))) := by
  obtain ⟨hx, hb, hr, hml, hown, hlocks, hts, hin0, hal⟩ := C
  obtain ⟨hD, hlen, hoff⟩ := hF.1 _ (fc_mem hf)
  dsimp only at hD hlen hoff
  have hd : ∀ n, ilen i = n → n ≠ 0 → decode (mcc F) pc = .ok (i, n) := by
    intro n h1 h2
    rcases hlen with h3 | h3
    · omega
    · rw [← h1, h3]; exact hD
  have hK := hKX.1
  have hsz := hW.1
  have hA : ∀ q, H.size ≤ q → (fun q => base ≤ q) q := fun q hq => by dsimp only; omega
  cases i with
  | new z =>
    change oB _ _ = some _ at hst
    obtain ⟨e0, he0, h2⟩ := oB_inv hst
    simp only [Option.some.injEq, Prod.mk.injEq] at h2
    obtain ⟨rfl, rfl, rfl⟩ := h2
    obtain ⟨⟨C0, T0, N0⟩, hr0, hw0⟩ := hF.2.2.2.2.2.1 _ (fnd_mem he0)
    dsimp only at hr0 hw0
    obtain ⟨hty, hnm⟩ := CLS_ty hr0
    obtain ⟨hi1, hi2, hdl, hdv⟩ := CLS_new hr0
    rw [slo_push] at hRs k
    rw [List.length_append] at hRc k
    dsimp only [List.length_cons, List.length_nil] at hRc hRs k
    refine va_new hx hb hts (CLS_in hr0) (TYF e0.1) hty hown (hts _ hw0) (hts _ hi1) (hts _ hi2) hK hW.2 (gW_D b base tyc h) (vS_self hS) hA hr0 (fs := (DFL e0.1).map (gV b base)) (hdv b base) (by omega) (by omega) (hd 3 rfl (by decide)) (fun q H1 hP1 hD1 hS1 => W_sz (fun hub => ?_))
    have e9 : (Sum.inr (e0.1, (DFL e0.1).map (gV b base)) : va_E) = gE b base tyc (0, e0.1, DFL e0.1) := (gE_o (c := (0, e0.1, DFL e0.1)) rfl).symm
    rw [e9] at hP1 hD1
    obtain ⟨hW1, rfl⟩ := Wd_push hW hP1 hD1 hN hub
    exact k H1 locs (cells + 1) (slots + N0) hW1 (vS_comp hS hS1) (by omega) (by omega)
  | newarray t =>
    change oB _ _ = some _ at hst
    obtain ⟨q0, hq0, h1⟩ := oB_inv hst
    obtain ⟨n, r, rfl, h4⟩ := sI_inv h1
    obtain ⟨h3, h2⟩ := oC_inv h4
    simp only [Option.some.injEq, Prod.mk.injEq] at h2
    obtain ⟨rfl, rfl, rfl⟩ := h2
    simp only [Bool.and_eq_true, decide_eq_true_eq] at h3
    obtain ⟨hn, hn5⟩ := h3
    rw [slo_push] at hRs k
    rw [List.length_append] at hRc k
    dsimp only [List.length_cons, List.length_nil] at hRc hRs k
    rw [List.length_replicate] at hRs k
    cases t with

    | int =>
      cases (show some (1, 0, Value.int 0) = some q0 from hq0)
      have hbytes : n.toNatClampNeg * componentBytes .int ≤ 536870912 := Nat.le_trans (Nat.mul_le_mul hn5 (show componentBytes .int ≤ 8 by decide)) (by decide)
      refine va_newa (atype := .int) (ty := .int) (a0 := (n.toNatClampNeg, .inl (fun _ => 0))) hx hb (hts _ ARR_int) rfl hK hW.2 (gW_D b base tyc h) (vS_self hS) hA (fun cA => rfl) hn rfl hbytes (by omega) (by omega) (hd 2 rfl (by decide)) (fun q cA H1 hK1 hP1 hD1 hS1 => W_sz (fun hub => ?_))
      have e8 := TY_same (i := 0) hK1 rfl
      subst e8
      have e9 : (Sum.inl (tyc 0, n.toNatClampNeg, .inl (fun _ => 0)) : va_E) = gE b base tyc (1, 0, List.replicate n.toNatClampNeg (.int 0)) := by
        rw [gE_i rfl]
        dsimp only
        rw [List.length_replicate, rep_I]
      rw [e9] at hP1 hD1
      obtain ⟨hW1, rfl⟩ := Wd_push hW hP1 hD1 hN hub
      exact k H1 locs (cells + 1) (slots + n.toNatClampNeg) hW1 (vS_comp hS hS1) (by omega) (by omega)
    | long =>
      cases (show some (2, 1, Value.long 0) = some q0 from hq0)
      have hbytes : n.toNatClampNeg * componentBytes .long ≤ 536870912 := Nat.le_trans (Nat.mul_le_mul hn5 (show componentBytes .long ≤ 8 by decide)) (by decide)
      refine va_newa (atype := .long) (ty := .long) (a0 := (n.toNatClampNeg, .inr (.inl (fun _ => 0)))) hx hb (hts _ ARR_long) rfl hK hW.2 (gW_D b base tyc h) (vS_self hS) hA (fun cA => rfl) hn rfl hbytes (by omega) (by omega) (hd 2 rfl (by decide)) (fun q cA H1 hK1 hP1 hD1 hS1 => W_sz (fun hub => ?_))
      have e8 := TY_same (i := 1) hK1 rfl
      subst e8
      have e9 : (Sum.inl (tyc 1, n.toNatClampNeg, .inr (.inl (fun _ => 0))) : va_E) = gE b base tyc (2, 1, List.replicate n.toNatClampNeg (.long 0)) := by
        rw [gE_l rfl]
        dsimp only
        rw [List.length_replicate, rep_L]
      rw [e9] at hP1 hD1
      obtain ⟨hW1, rfl⟩ := Wd_push hW hP1 hD1 hN hub
      exact k H1 locs (cells + 1) (slots + n.toNatClampNeg) hW1 (vS_comp hS hS1) (by omega) (by omega)
    | byte =>
      cases (show some (1, 2, Value.int 0) = some q0 from hq0)
      have hbytes : n.toNatClampNeg * componentBytes .byte ≤ 536870912 := Nat.le_trans (Nat.mul_le_mul hn5 (show componentBytes .byte ≤ 8 by decide)) (by decide)
      refine va_newa (atype := .byte) (ty := .byte) (a0 := (n.toNatClampNeg, .inl (fun _ => 0))) hx hb (hts _ ARR_byte) rfl hK hW.2 (gW_D b base tyc h) (vS_self hS) hA (fun cA => rfl) hn rfl hbytes (by omega) (by omega) (hd 2 rfl (by decide)) (fun q cA H1 hK1 hP1 hD1 hS1 => W_sz (fun hub => ?_))
      have e8 := TY_same (i := 2) hK1 rfl
      subst e8
      have e9 : (Sum.inl (tyc 2, n.toNatClampNeg, .inl (fun _ => 0)) : va_E) = gE b base tyc (1, 2, List.replicate n.toNatClampNeg (.int 0)) := by
        rw [gE_i rfl]
        dsimp only
        rw [List.length_replicate, rep_I]
      rw [e9] at hP1 hD1
      obtain ⟨hW1, rfl⟩ := Wd_push hW hP1 hD1 hN hub
      exact k H1 locs (cells + 1) (slots + n.toNatClampNeg) hW1 (vS_comp hS hS1) (by omega) (by omega)
    | boolean =>
      cases (show some (1, 3, Value.int 0) = some q0 from hq0)
      have hbytes : n.toNatClampNeg * componentBytes .boolean ≤ 536870912 := Nat.le_trans (Nat.mul_le_mul hn5 (show componentBytes .boolean ≤ 8 by decide)) (by decide)
      refine va_newa (atype := .boolean) (ty := .boolean) (a0 := (n.toNatClampNeg, .inl (fun _ => 0))) hx hb (hts _ ARR_boolean) rfl hK hW.2 (gW_D b base tyc h) (vS_self hS) hA (fun cA => rfl) hn rfl hbytes (by omega) (by omega) (hd 2 rfl (by decide)) (fun q cA H1 hK1 hP1 hD1 hS1 => W_sz (fun hub => ?_))
      have e8 := TY_same (i := 3) hK1 rfl
      subst e8
      have e9 : (Sum.inl (tyc 3, n.toNatClampNeg, .inl (fun _ => 0)) : va_E) = gE b base tyc (1, 3, List.replicate n.toNatClampNeg (.int 0)) := by
        rw [gE_i rfl]
        dsimp only
        rw [List.length_replicate, rep_I]
      rw [e9] at hP1 hD1
      obtain ⟨hW1, rfl⟩ := Wd_push hW hP1 hD1 hN hub
      exact k H1 locs (cells + 1) (slots + n.toNatClampNeg) hW1 (vS_comp hS hS1) (by omega) (by omega)
    | _ => exact absurd hq0 (by intro z; cases z)
  | anewarray z =>
    change oB _ _ = some _ at hst
    obtain ⟨e0, he0, h1⟩ := oB_inv hst
    obtain ⟨n, r, rfl, h4⟩ := sI_inv h1
    obtain ⟨h3, h2⟩ := oC_inv h4
    simp only [Option.some.injEq, Prod.mk.injEq] at h2
    obtain ⟨rfl, rfl, rfl⟩ := h2
    simp only [Bool.and_eq_true, decide_eq_true_eq] at h3
    obtain ⟨⟨hn, hn5⟩, hci⟩ := h3
    rw [slo_push] at hRs k
    rw [List.length_append] at hRc k
    dsimp only [List.length_cons, List.length_nil] at hRc hRs k
    rw [List.length_replicate] at hRs k
    obtain ⟨⟨C0, T0, N0⟩, hr0, hw0⟩ := hF.2.2.2.2.2.1 _ (fnd_mem he0)
    dsimp only at hr0 hw0
    have hty3 : (e0.1 = 0 ∧ ciTy e0.1 = 4) ∨ (e0.1 = 4 ∧ ciTy e0.1 = 5) ∨ (e0.1 = 7 ∧ ciTy e0.1 = 6) := by
      unfold ciTy at hci ⊢
      split
      · exact Or.inl ⟨by assumption, rfl⟩
      · split
        · exact Or.inr (Or.inl ⟨by assumption, rfl⟩)
        · split
          · exact Or.inr (Or.inr ⟨by assumption, rfl⟩)
          · rename_i g1 g2 g3
            rw [if_neg g1, if_neg g2, if_neg g3] at hci
            omega
    rcases hty3 with ⟨z1, z2⟩ | ⟨z1, z2⟩ | ⟨z1, z2⟩
    · rw [z1] at hr0
      cases (show some (RX0, TX0, 4) = some (C0, T0, N0) from hr0)
      refine va_newq hx hb hown (hts _ hw0) hKX.2.1 hK hW.2 (gW_D b base tyc h) (vS_self hS) hA (N' := n.toNatClampNeg) hn rfl (by omega) (by omega) (by omega) (hd 3 rfl (by decide)) (fun q cA H1 hK1 hP1 hD1 hS1 => W_sz (fun hub => ?_))
      have e8 := TY_same (i := 4) hK1 rfl
      subst e8
      have e9 : (Sum.inl (tyc 4, n.toNatClampNeg, .inr (.inr (.inr (.inr (fun _ => none))))) : va_E) = gE b base tyc (3, ciTy e0.1, List.replicate n.toNatClampNeg .null) := by
        rw [gE_r rfl, z2]
        dsimp only
        rw [List.length_replicate, rep_R]
      rw [e9] at hP1 hD1
      obtain ⟨hW1, rfl⟩ := Wd_push hW hP1 hD1 hN hub
      exact k H1 locs (cells + 1) (slots + n.toNatClampNeg) hW1 (vS_comp hS hS1) (by omega) (by omega)
    · rw [z1] at hr0
      cases (show some (RX4, TX4, 16) = some (C0, T0, N0) from hr0)
      refine va_newq hx hb hown (hts _ hw0) hKX.2.2.1 hK hW.2 (gW_D b base tyc h) (vS_self hS) hA (N' := n.toNatClampNeg) hn rfl (by omega) (by omega) (by omega) (hd 3 rfl (by decide)) (fun q cA H1 hK1 hP1 hD1 hS1 => W_sz (fun hub => ?_))
      have e8 := TY_same (i := 5) hK1 rfl
      subst e8
      have e9 : (Sum.inl (tyc 5, n.toNatClampNeg, .inr (.inr (.inr (.inr (fun _ => none))))) : va_E) = gE b base tyc (3, ciTy e0.1, List.replicate n.toNatClampNeg .null) := by
        rw [gE_r rfl, z2]
        dsimp only
        rw [List.length_replicate, rep_R]
      rw [e9] at hP1 hD1
      obtain ⟨hW1, rfl⟩ := Wd_push hW hP1 hD1 hN hub
      exact k H1 locs (cells + 1) (slots + n.toNatClampNeg) hW1 (vS_comp hS hS1) (by omega) (by omega)
    · rw [z1] at hr0
      cases (show some (RX7, TX7, 4) = some (C0, T0, N0) from hr0)
      refine va_newq hx hb hown (hts _ hw0) hKX.2.2.2.1 hK hW.2 (gW_D b base tyc h) (vS_self hS) hA (N' := n.toNatClampNeg) hn rfl (by omega) (by omega) (by omega) (hd 3 rfl (by decide)) (fun q cA H1 hK1 hP1 hD1 hS1 => W_sz (fun hub => ?_))
      have e8 := TY_same (i := 6) hK1 rfl
      subst e8
      have e9 : (Sum.inl (tyc 6, n.toNatClampNeg, .inr (.inr (.inr (.inr (fun _ => none))))) : va_E) = gE b base tyc (3, ciTy e0.1, List.replicate n.toNatClampNeg .null) := by
        rw [gE_r rfl, z2]
        dsimp only
        rw [List.length_replicate, rep_R]
      rw [e9] at hP1 hD1
      obtain ⟨hW1, rfl⟩ := Wd_push hW hP1 hD1 hN hub
      exact k H1 locs (cells + 1) (slots + n.toNatClampNeg) hW1 (vS_comp hS hS1) (by omega) (by omega)
  | _ => exact absurd hst (by intro z; cases z)
end
/-! 07.am -/
section
/-! THE MACHINE -/
def callKd (i : Instr) (kd : Nat) : Bool := match i with
  | .invokevirtual _ => kd == 0 || kd == 1 || kd == 6
  | .invokestatic _ => kd == 2 || kd == 3 || kd == 8
  | .invokespecial _ => kd == 4 || kd == 5 || kd == 9
  | _ => false
def callIx (i : Instr) : Nat := match i with
  | .invokevirtual k => k
  | .invokestatic k => k
  | .invokespecial k => k
  | _ => 0
def cpyl (l0 l1 : List Value) (sp dp n : Nat) : List Value := (List.range l1.length).map (fun k => if dp ≤ k ∧ k < dp + n then l0.getD (sp + (k - dp)) .null else l1.getD k .null)
def acopy (st : List Value) (h : AH) : Option (List Value × AH) := match st with
  | .int n :: .int dp :: .ref a1 :: .int sp :: .ref a0 :: r => oB h[a0]? (fun c0 => oB h[a1]? (fun c1 => oC (decide (¬ sp < 0) && decide (¬ dp < 0) && decide (¬ n < 0) && c0.1 == c1.1 && c0.2.1 == c1.2.1 && (c0.1 == 1 && c0.2.1 == 0 || c0.1 == 2 && c0.2.1 == 1) && decide (sp.toNatClampNeg + n.toNatClampNeg ≤ c0.2.2.length) && decide (dp.toNatClampNeg + n.toNatClampNeg ≤ c1.2.2.length)) (some (r, h.set a1 (c1.1, c1.2.1, cpyl c0.2.2 c1.2.2 sp.toNatClampNeg dp.toNatClampNeg n.toNatClampNeg)))))
  | _ => none
def doRet (F : MR) (i : Instr) (st : List Value) (h : AH) : Option (Option Value × AH) := match i with
  | .ireturn => match mret F, st with
    | some .int, [.int x] => some (some (.int x), h)
    | some .boolean, [.int x] => oC (x &&& 1 == x) (some (some (.int x), h))
    | some .byte, [.int x] => oC (x.toInt8.toInt32 == x) (some (some (.int x), h))
    | some .char, [.int x] => oC ((x.toUInt32 % 65536).toInt32 == x) (some (some (.int x), h))
    | _, _ => none
  | .lreturn => match mret F, st with
    | some .long, [.long x] => some (some (.long x), h)
    | _, _ => none
  | .areturn => match mret F, st with
    | some (.object _), [.ref a] => some (some (.ref a), h)
    | _, _ => none
  | .return_ => match mret F, st with
    | none, [] => some (none, h)
    | _, _ => none
  | _ => none
/-- the receiver of a call is of the callee's class (virtual), or any object (init), or there is none (static) -/
def rcv (kd ci : Nat) (vs : List Value) (h : AH) : Bool := match kd with
  | 2 => true
  | 3 => true
  | 4 => match vs with
    | .ref _ :: _ => true
    | _ => false
  | 5 => match vs with
    | .ref _ :: _ => true
    | _ => false
  | 6 => match vs with
    | .retAddr a :: _ => a % 2 == 1 && decide (a / 2 < NSTR)
    | _ => false
  | _ => match vs with
    | .ref a :: _ => match h[a]? with
      | some c => c.1 == 0 && c.2.1 == ci
      | none => false
    | _ => false
abbrev AM : Type := Nat → Nat → AS → MR → Nat → ALv → List Value → AH → Option (Option Value × AH)
def nArg (kd : Nat) (G : MR) : Nat := if kd = 2 ∨ kd = 3 then mnp G else mnp G + 1
def amC (MT : Nat → Option MR) (rec : AM) (fr lo : Nat) (scr : AS) (F : MR) (i : Instr) (pc : Nat) (lv : ALv) (st : List Value) (h : AH) (kd id : Nat) : Option (Option Value × AH) := match kd with
  | 8 => oB (acopy st h) (fun q => oC (decide (1 ≤ fr) && decide (cats q.1 + 40 ≤ lo)) (rec fr lo scr F (pc + 3) lv q.1 q.2))
  | 9 => sR st (fun _ r => oC (decide (1 ≤ fr) && decide (cats r + 12 ≤ lo)) (rec fr lo scr F (pc + 3) lv r h))
  | kd => oB (MT id) (fun G => oC (decide (nArg kd G ≤ st.length) && decide (1 ≤ fr) && decide (mml G + 19 ≤ lo) && decide (cats (st.drop (nArg kd G)) ≤ 8) && decide (cats (st.take (nArg kd G)) ≤ mml G) && rcv kd (mci G) (st.take (nArg kd G)).reverse h)
      (oB (rec (fr - 1) (lo - (mml G + 19)) none G 0 (lv_args 0 (st.take (nArg kd G)).reverse) [] h) (fun q => rec fr lo scr F (pc + 3) lv (q.1.toList ++ st.drop (nArg kd G)) q.2)))
def amB (MT : Nat → Option MR) (rec : AM) : AM := fun fr lo scr F pc lv st h =>
  oB (fc F pc) (fun q => match ikind q.1 with
    | 0 => oB (stpA F scr q.1 q.2.2 pc lv st h) (fun x => rec fr lo scr F x.1 x.2.1 x.2.2 h)
    | 1 => oB (stpW F q.1 pc st h) (fun x => rec fr lo scr F x.1 lv x.2.1 x.2.2)
    | 2 => oB (stpN F q.1 pc st h) (fun x => rec fr lo scr F x.1 lv x.2.1 x.2.2)
    | 3 => oB (fnd (mcl F) (callIx q.1)) (fun e => oC (callKd q.1 e.1) (amC MT rec fr lo scr F q.1 pc lv st h e.1 e.2.1))
    | _ => doRet F q.1 st h)
noncomputable def am (MT : Nat → Option MR) (n : Nat) : AM := Nat.rec (motive := fun _ => AM) (fun _ _ _ _ _ _ _ _ => none) (fun _ ih => amB MT ih) n
theorem am_s (MT : Nat → Option MR) (n : Nat) : am MT (n + 1) = amB MT (am MT n) := rfl
/-! cells only come -/
theorem slo_set {h : AH} {a : Nat} {c d : AC} (hc : h[a]? = some c) (hd : d.2.2.length = c.2.2.length) : slo (h.set a d) = slo h := by
  unfold slo
  congr 1
  apply List.ext_getElem?
  intro i
  simp only [List.getElem?_map, List.getElem?_set]
  by_cases hi : a = i
  · subst hi
    obtain ⟨hlt, he⟩ := List.getElem?_eq_some_iff.mp hc
    simp [hlt, hd, he]
  · simp [hi]
theorem stpW_len {F : MR} {i : Instr} {pc pc' : Nat} {st st' : List Value} {h h' : AH} (hst : stpW F i pc st h = some (pc', st', h')) : h'.length = h.length ∧ slo h' = slo h := by
  cases i with
  | putfield z =>
    change sVR _ _ = some _ at hst
    obtain ⟨v, a, r, rfl, h1⟩ := sVR_inv hst
    obtain ⟨e0, he0, h4⟩ := oB_inv h1
    obtain ⟨cc, hc, h5⟩ := oB_inv h4
    obtain ⟨h3, h2⟩ := oC_inv h5
    simp only [Option.some.injEq, Prod.mk.injEq] at h2
    obtain ⟨rfl, rfl, rfl⟩ := h2
    exact ⟨List.length_set, slo_set hc (by simp)⟩
  | iastore =>
    change sVIR _ _ = some _ at hst
    obtain ⟨v, j, a, r, rfl, h1⟩ := sVIR_inv hst
    obtain ⟨cc, hc, h4⟩ := oB_inv h1
    obtain ⟨h3, h2⟩ := oC_inv h4
    simp only [Option.some.injEq, Prod.mk.injEq] at h2
    obtain ⟨rfl, rfl, rfl⟩ := h2
    exact ⟨List.length_set, slo_set hc (by simp)⟩
  | bastore =>
    change sVIR _ _ = some _ at hst
    obtain ⟨v, j, a, r, rfl, h1⟩ := sVIR_inv hst
    obtain ⟨cc, hc, h4⟩ := oB_inv h1
    obtain ⟨h3, h2⟩ := oC_inv h4
    simp only [Option.some.injEq, Prod.mk.injEq] at h2
    obtain ⟨rfl, rfl, rfl⟩ := h2
    exact ⟨List.length_set, slo_set hc (by simp)⟩
  | lastore =>
    change sVIR _ _ = some _ at hst
    obtain ⟨v, j, a, r, rfl, h1⟩ := sVIR_inv hst
    obtain ⟨cc, hc, h4⟩ := oB_inv h1
    obtain ⟨h3, h2⟩ := oC_inv h4
    simp only [Option.some.injEq, Prod.mk.injEq] at h2
    obtain ⟨rfl, rfl, rfl⟩ := h2
    exact ⟨List.length_set, slo_set hc (by simp)⟩
  | aastore =>
    change sVIR _ _ = some _ at hst
    obtain ⟨v, j, a, r, rfl, h1⟩ := sVIR_inv hst
    split at h1
    · obtain ⟨dd, hdd, h1⟩ := oB_inv h1
      obtain ⟨cc, hc, h4⟩ := oB_inv h1
      obtain ⟨h3, h2⟩ := oC_inv h4
      simp only [Option.some.injEq, Prod.mk.injEq] at h2
      obtain ⟨rfl, rfl, rfl⟩ := h2
      exact ⟨List.length_set, slo_set hc (by simp)⟩
    · cases h1
  | _ => exact absurd hst (by intro z; cases z)
theorem stpN_len {F : MR} {i : Instr} {pc pc' : Nat} {st st' : List Value} {h h' : AH} (hst : stpN F i pc st h = some (pc', st', h')) : h.length ≤ h'.length ∧ slo h ≤ slo h' := by
  cases i with
  | new z =>
    change oB _ _ = some _ at hst
    obtain ⟨e0, he0, h2⟩ := oB_inv hst
    simp only [Option.some.injEq, Prod.mk.injEq] at h2
    obtain ⟨rfl, rfl, rfl⟩ := h2
    exact ⟨by simp, by rw [slo_push]; omega⟩
  | newarray t =>
    change oB _ _ = some _ at hst
    obtain ⟨q0, hq0, h1⟩ := oB_inv hst
    obtain ⟨n, r, rfl, h4⟩ := sI_inv h1
    obtain ⟨h3, h2⟩ := oC_inv h4
    simp only [Option.some.injEq, Prod.mk.injEq] at h2
    obtain ⟨rfl, rfl, rfl⟩ := h2
    exact ⟨by simp, by rw [slo_push]; omega⟩
  | anewarray z =>
    change oB _ _ = some _ at hst
    obtain ⟨e0, he0, h1⟩ := oB_inv hst
    obtain ⟨n, r, rfl, h4⟩ := sI_inv h1
    obtain ⟨h3, h2⟩ := oC_inv h4
    simp only [Option.some.injEq, Prod.mk.injEq] at h2
    obtain ⟨rfl, rfl, rfl⟩ := h2
    exact ⟨by simp, by rw [slo_push]; omega⟩
  | _ => exact absurd hst (by intro z; cases z)
theorem acopy_inv {st r : List Value} {h h' : AH} (hst : acopy st h = some (r, h')) : ∃ (n dp sp : Int32) (a0 a1 : Nat) (c0 c1 : AC), st = .int n :: .int dp :: .ref a1 :: .int sp :: .ref a0 :: r ∧ h[a0]? = some c0 ∧ h[a1]? = some c1 ∧ ¬ sp < 0 ∧ ¬ dp < 0 ∧ ¬ n < 0 ∧ c0.1 = c1.1 ∧ c0.2.1 = c1.2.1 ∧ (c0.1 = 1 ∧ c0.2.1 = 0 ∨ c0.1 = 2 ∧ c0.2.1 = 1) ∧ sp.toNatClampNeg + n.toNatClampNeg ≤ c0.2.2.length ∧ dp.toNatClampNeg + n.toNatClampNeg ≤ c1.2.2.length ∧ h' = h.set a1 (c1.1, c1.2.1, cpyl c0.2.2 c1.2.2 sp.toNatClampNeg dp.toNatClampNeg n.toNatClampNeg) := by
  unfold acopy at hst
  split at hst
  · rename_i n dp a1 sp a0 r
    obtain ⟨c0, hc0, h1⟩ := oB_inv hst
    obtain ⟨c1, hc1, h2⟩ := oB_inv h1
    obtain ⟨h3, h4⟩ := oC_inv h2
    simp only [Option.some.injEq, Prod.mk.injEq] at h4
    obtain ⟨rfl, rfl⟩ := h4
    simp only [Bool.and_eq_true, Bool.or_eq_true, beq_iff_eq, decide_eq_true_eq] at h3
    obtain ⟨⟨⟨⟨⟨⟨⟨g1, g2⟩, g3⟩, g4⟩, g5⟩, g6⟩, g7⟩, g8⟩ := h3
    exact ⟨n, dp, sp, a0, a1, c0, c1, rfl, hc0, hc1, g1, g2, g3, g4, g5, g6, g7, g8, rfl⟩
  · cases hst
theorem cpyl_len (l0 l1 : List Value) (sp dp n : Nat) : (cpyl l0 l1 sp dp n).length = l1.length := by unfold cpyl; simp
theorem doRet_h {F : MR} {i : Instr} {st : List Value} {h h' : AH} {v : Option Value} (hst : doRet F i st h = some (v, h')) : h' = h := by
  unfold doRet at hst
  split at hst
  · split at hst
    · cases hst; rfl
    · obtain ⟨-, h2⟩ := oC_inv hst; cases h2; rfl
    · obtain ⟨-, h2⟩ := oC_inv hst; cases h2; rfl
    · obtain ⟨-, h2⟩ := oC_inv hst; cases h2; rfl
    · cases hst
  · split at hst
    · cases hst; rfl
    · cases hst
  · split at hst
    · cases hst; rfl
    · cases hst
  · split at hst
    · cases hst; rfl
    · cases hst
  · cases hst
theorem am_len (MT : Nat → Option MR) : ∀ (n fr lo : Nat) (scr : AS) (F : MR) (pc : Nat) (lv : ALv) (st : List Value) (h h' : AH) (v : Option Value), am MT n fr lo scr F pc lv st h = some (v, h') → h.length ≤ h'.length ∧ slo h ≤ slo h' := by
  intro n
  induction n with
  | zero => intro fr lo scr F pc lv st h h' v hh; cases hh
  | succ n ih =>
    intro fr lo scr F pc lv st h h' v hh
    rw [am_s] at hh
    unfold amB at hh
    obtain ⟨q, hq, h1⟩ := oB_inv hh
    split at h1
    · obtain ⟨x, hx, h2⟩ := oB_inv h1
      exact ih _ _ _ _ _ _ _ _ _ _ h2
    · obtain ⟨x, hx, h2⟩ := oB_inv h1
      have z := ih _ _ _ _ _ _ _ _ _ _ h2
      have y := stpW_len (pc' := x.1) (st' := x.2.1) (h' := x.2.2) hx
      omega
    · obtain ⟨x, hx, h2⟩ := oB_inv h1
      have z := ih _ _ _ _ _ _ _ _ _ _ h2
      have y := stpN_len (pc' := x.1) (st' := x.2.1) (h' := x.2.2) hx
      omega
    · obtain ⟨e, he, h2⟩ := oB_inv h1
      obtain ⟨hk, h3⟩ := oC_inv h2
      unfold amC at h3
      split at h3
      · obtain ⟨x, hx, h4⟩ := oB_inv h3
        obtain ⟨-, h5⟩ := oC_inv h4
        obtain ⟨n0, dp, sp, a0, a1, c0, c1, -, -, hc1, -, -, -, -, -, -, -, -, e9⟩ := acopy_inv (r := x.1) (h' := x.2) hx
        have z := ih _ _ _ _ _ _ _ _ _ _ h5
        have y := slo_set hc1 (d := (c1.1, c1.2.1, cpyl c0.2.2 c1.2.2 sp.toNatClampNeg dp.toNatClampNeg n0.toNatClampNeg)) (cpyl_len _ _ _ _ _)
        rw [e9, y, List.length_set] at z
        exact z
      · obtain ⟨a, r, rfl, h4⟩ := sR_inv h3
        obtain ⟨-, h5⟩ := oC_inv h4
        exact ih _ _ _ _ _ _ _ _ _ _ h5
      · obtain ⟨G, hG, h4⟩ := oB_inv h3
        obtain ⟨-, h5⟩ := oC_inv h4
        obtain ⟨x, hx, h6⟩ := oB_inv h5
        have z := ih _ _ _ _ _ _ _ _ _ _ h6
        have y := ih _ _ _ _ _ _ _ _ x.2 x.1 hx
        omega
    · rw [doRet_h h1]
      exact ⟨Nat.le_refl _, Nat.le_refl _⟩
end
