/-! one instruction's bytes, read the other way round -/
section FST
def u1c : List UInt8 → Nat → Bool
  | v :: _, x => Nat.beq v.toNat x
  | _, _ => false
def u2c : List UInt8 → Nat → Bool
  | v :: w :: _, x => Nat.beq (v.toNat * 256 + w.toNat) x
  | _, _ => false
def s1c : List UInt8 → Int → Bool
  | v :: _, x => decide (Reader.signed 8 v.toNat = x)
  | _, _ => false
def s2c : List UInt8 → Int → Bool
  | v :: w :: _, x => decide (Reader.signed 16 (v.toNat * 256 + w.toNat) = x)
  | _, _ => false
def icc : List UInt8 → Nat → Int → Bool
  | v :: w :: _, x, y => Nat.beq v.toNat x && decide (Reader.signed 8 w.toNat = y)
  | _, _, _ => false
def cdc : ClassFile.Cond → Nat
  | .eq => 0
  | .ne => 1
  | .lt => 2
  | .ge => 3
  | .gt => 4
  | .le => 5
def fst1 (i : Instr) (n o : Nat) (l : List UInt8) : Bool := match i with
  | .iaload => Nat.beq o 46 && Nat.beq n 1
  | .laload => Nat.beq o 47 && Nat.beq n 1
  | .aaload => Nat.beq o 50 && Nat.beq n 1
  | .baload => Nat.beq o 51 && Nat.beq n 1
  | .iastore => Nat.beq o 79 && Nat.beq n 1
  | .lastore => Nat.beq o 80 && Nat.beq n 1
  | .aastore => Nat.beq o 83 && Nat.beq n 1
  | .bastore => Nat.beq o 84 && Nat.beq n 1
  | .pop => Nat.beq o 87 && Nat.beq n 1
  | .dup => Nat.beq o 89 && Nat.beq n 1
  | .dup2 => Nat.beq o 92 && Nat.beq n 1
  | .iadd => Nat.beq o 96 && Nat.beq n 1
  | .ladd => Nat.beq o 97 && Nat.beq n 1
  | .isub => Nat.beq o 100 && Nat.beq n 1
  | .imul => Nat.beq o 104 && Nat.beq n 1
  | .lmul => Nat.beq o 105 && Nat.beq n 1
  | .idiv => Nat.beq o 108 && Nat.beq n 1
  | .ldiv => Nat.beq o 109 && Nat.beq n 1
  | .irem => Nat.beq o 112 && Nat.beq n 1
  | .lrem => Nat.beq o 113 && Nat.beq n 1
  | .ishl => Nat.beq o 120 && Nat.beq n 1
  | .lshl => Nat.beq o 121 && Nat.beq n 1
  | .iushr => Nat.beq o 124 && Nat.beq n 1
  | .iand => Nat.beq o 126 && Nat.beq n 1
  | .ior => Nat.beq o 128 && Nat.beq n 1
  | .ixor => Nat.beq o 130 && Nat.beq n 1
  | .i2l => Nat.beq o 133 && Nat.beq n 1
  | .lcmp => Nat.beq o 148 && Nat.beq n 1
  | .ireturn => Nat.beq o 172 && Nat.beq n 1
  | .return_ => Nat.beq o 177 && Nat.beq n 1
  | .arraylength => Nat.beq o 190 && Nat.beq n 1
  | .iload_n k => Nat.beq o (26 + k.val) && Nat.beq n 1
  | .lload_n k => Nat.beq o (30 + k.val) && Nat.beq n 1
  | .aload_n k => Nat.beq o (42 + k.val) && Nat.beq n 1
  | .istore_n k => Nat.beq o (59 + k.val) && Nat.beq n 1
  | .lstore_n k => Nat.beq o (63 + k.val) && Nat.beq n 1
  | .astore_n k => Nat.beq o (75 + k.val) && Nat.beq n 1
  | .lconst k => Nat.beq o (9 + k.val) && Nat.beq n 1
  | .iconst z => decide (-1 ≤ z) && decide (z ≤ 5) && Nat.beq o (z + 3).toNat && Nat.beq n 1
  | .ldc x => Nat.beq o 18 && u1c l x && Nat.beq n 2
  | .iload x => Nat.beq o 21 && u1c l x && Nat.beq n 2
  | .lload x => Nat.beq o 22 && u1c l x && Nat.beq n 2
  | .aload x => Nat.beq o 25 && u1c l x && Nat.beq n 2
  | .istore x => Nat.beq o 54 && u1c l x && Nat.beq n 2
  | .lstore x => Nat.beq o 55 && u1c l x && Nat.beq n 2
  | .astore x => Nat.beq o 58 && u1c l x && Nat.beq n 2
  | .ldc_w x => Nat.beq o 19 && u2c l x && Nat.beq n 3
  | .ldc2_w x => Nat.beq o 20 && u2c l x && Nat.beq n 3
  | .getfield x => Nat.beq o 180 && u2c l x && Nat.beq n 3
  | .putfield x => Nat.beq o 181 && u2c l x && Nat.beq n 3
  | .invokevirtual x => Nat.beq o 182 && u2c l x && Nat.beq n 3
  | .invokespecial x => Nat.beq o 183 && u2c l x && Nat.beq n 3
  | .invokestatic x => Nat.beq o 184 && u2c l x && Nat.beq n 3
  | .new x => Nat.beq o 187 && u2c l x && Nat.beq n 3
  | .anewarray x => Nat.beq o 189 && u2c l x && Nat.beq n 3
  | .getstatic x => Nat.beq o 178 && u2c l x && Nat.beq n 3
  | .bipush x => Nat.beq o 16 && s1c l x && Nat.beq n 2
  | .sipush x => Nat.beq o 17 && s2c l x && Nat.beq n 3
  | .goto x => Nat.beq o 167 && s2c l x && Nat.beq n 3
  | .ifCond c x => Nat.beq o (153 + cdc c) && s2c l x && Nat.beq n 3
  | .if_icmp c x => Nat.beq o (159 + cdc c) && s2c l x && Nat.beq n 3
  | .iinc x y => Nat.beq o 132 && icc l x y && Nat.beq n 3
  | _ => false
/-- the bytes begin with the instruction's -/
def FSQ (i : Instr) (n : Nat) (op : UInt8) (l : List UInt8) : Prop := ∃ c : List UInt8, (∀ (k : Nat) (v : UInt8), c[k]? = some v → (op :: l)[k]? = some v) ∧ c[0]? = some op ∧ okOp op.toNat = true ∧ decode ⟨c.toArray⟩ 0 = .ok (i, n)
variable {i : Instr} {n x : Nat} {z y : Int} {op : UInt8} {l : List UInt8}
theorem fsopE (m : UInt8) (h : Nat.beq op.toNat m.toNat = true) : op = m := UInt8.toNat_inj.mp (Nat.eq_of_beq_eq_true h)
theorem fsq1 (m : UInt8) (h : (Nat.beq op.toNat m.toNat && Nat.beq n 1) = true) (hd : decode ⟨#[m]⟩ 0 = .ok (i, 1)) (ho : okOp m.toNat = true) : FSQ i n op l := by
  rw [Bool.and_eq_true] at h
  obtain rfl := fsopE m h.1
  obtain rfl := Nat.eq_of_beq_eq_true h.2
  refine ⟨[op], fun k v e => ?_, rfl, ho, hd⟩
  cases k with
  | zero => exact e
  | succ k => cases e
theorem fsq2 (m : UInt8) {f : Nat → Instr} (h : (Nat.beq op.toNat m.toNat && u1c l x && Nat.beq n 2) = true) (hd : ∀ v : UInt8, decode ⟨#[m, v]⟩ 0 = .ok (f v.toNat, 2)) (ho : okOp m.toNat = true) : FSQ (f x) n op l := by
  rw [Bool.and_eq_true, Bool.and_eq_true] at h
  obtain rfl := fsopE m h.1.1
  obtain rfl := Nat.eq_of_beq_eq_true h.2
  have h2 := h.1.2
  cases l with
  | nil => cases h2
  | cons v t =>
    obtain rfl := Nat.eq_of_beq_eq_true h2
    refine ⟨[op, v], fun k w e => ?_, rfl, ho, hd v⟩
    match k, e with
    | 0, e => exact e
    | 1, e => exact e
    | k + 2, e => cases e
theorem fsq2s (m : UInt8) {f : Int → Instr} (h : (Nat.beq op.toNat m.toNat && s1c l z && Nat.beq n 2) = true) (hd : ∀ v : UInt8, decode ⟨#[m, v]⟩ 0 = .ok (f (Reader.signed 8 v.toNat), 2)) (ho : okOp m.toNat = true) : FSQ (f z) n op l := by
  rw [Bool.and_eq_true, Bool.and_eq_true] at h
  obtain rfl := fsopE m h.1.1
  obtain rfl := Nat.eq_of_beq_eq_true h.2
  have h2 := h.1.2
  cases l with
  | nil => cases h2
  | cons v t =>
    obtain rfl := of_decide_eq_true h2
    refine ⟨[op, v], fun k w e => ?_, rfl, ho, hd v⟩
    match k, e with
    | 0, e => exact e
    | 1, e => exact e
    | k + 2, e => cases e
theorem fsq3 (m : UInt8) {f : Nat → Instr} (h : (Nat.beq op.toNat m.toNat && u2c l x && Nat.beq n 3) = true) (hd : ∀ v w : UInt8, decode ⟨#[m, v, w]⟩ 0 = .ok (f (v.toNat * 256 + w.toNat), 3)) (ho : okOp m.toNat = true) : FSQ (f x) n op l := by
  rw [Bool.and_eq_true, Bool.and_eq_true] at h
  obtain rfl := fsopE m h.1.1
  obtain rfl := Nat.eq_of_beq_eq_true h.2
  have h2 := h.1.2
  match l, h2 with
  | v :: w :: t, h2 =>
    obtain rfl := Nat.eq_of_beq_eq_true h2
    refine ⟨[op, v, w], fun k u e => ?_, rfl, ho, hd v w⟩
    match k, e with
    | 0, e => exact e
    | 1, e => exact e
    | 2, e => exact e
    | k + 3, e => cases e
theorem fsq3s (m : UInt8) {f : Int → Instr} (h : (Nat.beq op.toNat m.toNat && s2c l z && Nat.beq n 3) = true) (hd : ∀ v w : UInt8, decode ⟨#[m, v, w]⟩ 0 = .ok (f (Reader.signed 16 (v.toNat * 256 + w.toNat)), 3)) (ho : okOp m.toNat = true) : FSQ (f z) n op l := by
  rw [Bool.and_eq_true, Bool.and_eq_true] at h
  obtain rfl := fsopE m h.1.1
  obtain rfl := Nat.eq_of_beq_eq_true h.2
  have h2 := h.1.2
  match l, h2 with
  | v :: w :: t, h2 =>
    obtain rfl := of_decide_eq_true h2
    refine ⟨[op, v, w], fun k u e => ?_, rfl, ho, hd v w⟩
    match k, e with
    | 0, e => exact e
    | 1, e => exact e
    | 2, e => exact e
    | k + 3, e => cases e
theorem fsq3i (h : (Nat.beq op.toNat 132 && icc l x y && Nat.beq n 3) = true) (hd : ∀ v w : UInt8, decode ⟨#[132, v, w]⟩ 0 = .ok (.iinc v.toNat (Reader.signed 8 w.toNat), 3)) : FSQ (.iinc x y) n op l := by
  rw [Bool.and_eq_true, Bool.and_eq_true] at h
  obtain rfl := fsopE 132 h.1.1
  obtain rfl := Nat.eq_of_beq_eq_true h.2
  have h2 := h.1.2
  match l, h2 with
  | v :: w :: t, h2 =>
    have h2 : (Nat.beq v.toNat x && decide (Reader.signed 8 w.toNat = y)) = true := h2
    rw [Bool.and_eq_true] at h2
    obtain rfl := Nat.eq_of_beq_eq_true h2.1
    obtain rfl := of_decide_eq_true h2.2
    refine ⟨[132, v, w], fun k u e => ?_, rfl, rfl, hd v w⟩
    match k, e with
    | 0, e => exact e
    | 1, e => exact e
    | 2, e => exact e
    | k + 3, e => cases e
theorem dk_46 : decode ⟨#[46]⟩ 0 = .ok (.iaload, 1) := by decide +kernel
theorem dk_47 : decode ⟨#[47]⟩ 0 = .ok (.laload, 1) := by decide +kernel
theorem dk_50 : decode ⟨#[50]⟩ 0 = .ok (.aaload, 1) := by decide +kernel
theorem dk_51 : decode ⟨#[51]⟩ 0 = .ok (.baload, 1) := by decide +kernel
theorem dk_79 : decode ⟨#[79]⟩ 0 = .ok (.iastore, 1) := by decide +kernel
theorem dk_80 : decode ⟨#[80]⟩ 0 = .ok (.lastore, 1) := by decide +kernel
theorem dk_83 : decode ⟨#[83]⟩ 0 = .ok (.aastore, 1) := by decide +kernel
theorem dk_84 : decode ⟨#[84]⟩ 0 = .ok (.bastore, 1) := by decide +kernel
theorem dk_87 : decode ⟨#[87]⟩ 0 = .ok (.pop, 1) := by decide +kernel
theorem dk_89 : decode ⟨#[89]⟩ 0 = .ok (.dup, 1) := by decide +kernel
theorem dk_92 : decode ⟨#[92]⟩ 0 = .ok (.dup2, 1) := by decide +kernel
theorem dk_96 : decode ⟨#[96]⟩ 0 = .ok (.iadd, 1) := by decide +kernel
theorem dk_97 : decode ⟨#[97]⟩ 0 = .ok (.ladd, 1) := by decide +kernel
theorem dk_100 : decode ⟨#[100]⟩ 0 = .ok (.isub, 1) := by decide +kernel
theorem dk_104 : decode ⟨#[104]⟩ 0 = .ok (.imul, 1) := by decide +kernel
theorem dk_105 : decode ⟨#[105]⟩ 0 = .ok (.lmul, 1) := by decide +kernel
theorem dk_108 : decode ⟨#[108]⟩ 0 = .ok (.idiv, 1) := by decide +kernel
theorem dk_109 : decode ⟨#[109]⟩ 0 = .ok (.ldiv, 1) := by decide +kernel
theorem dk_112 : decode ⟨#[112]⟩ 0 = .ok (.irem, 1) := by decide +kernel
theorem dk_113 : decode ⟨#[113]⟩ 0 = .ok (.lrem, 1) := by decide +kernel
theorem dk_120 : decode ⟨#[120]⟩ 0 = .ok (.ishl, 1) := by decide +kernel
theorem dk_121 : decode ⟨#[121]⟩ 0 = .ok (.lshl, 1) := by decide +kernel
theorem dk_124 : decode ⟨#[124]⟩ 0 = .ok (.iushr, 1) := by decide +kernel
theorem dk_126 : decode ⟨#[126]⟩ 0 = .ok (.iand, 1) := by decide +kernel
theorem dk_128 : decode ⟨#[128]⟩ 0 = .ok (.ior, 1) := by decide +kernel
theorem dk_130 : decode ⟨#[130]⟩ 0 = .ok (.ixor, 1) := by decide +kernel
theorem dk_133 : decode ⟨#[133]⟩ 0 = .ok (.i2l, 1) := by decide +kernel
theorem dk_148 : decode ⟨#[148]⟩ 0 = .ok (.lcmp, 1) := by decide +kernel
theorem dk_172 : decode ⟨#[172]⟩ 0 = .ok (.ireturn, 1) := by decide +kernel
theorem dk_177 : decode ⟨#[177]⟩ 0 = .ok (.return_, 1) := by decide +kernel
theorem dk_190 : decode ⟨#[190]⟩ 0 = .ok (.arraylength, 1) := by decide +kernel
theorem dk_26 : decode ⟨#[26]⟩ 0 = .ok (.iload_n 0, 1) := by decide +kernel
theorem dk_27 : decode ⟨#[27]⟩ 0 = .ok (.iload_n 1, 1) := by decide +kernel
theorem dk_28 : decode ⟨#[28]⟩ 0 = .ok (.iload_n 2, 1) := by decide +kernel
theorem dk_29 : decode ⟨#[29]⟩ 0 = .ok (.iload_n 3, 1) := by decide +kernel
theorem dk_30 : decode ⟨#[30]⟩ 0 = .ok (.lload_n 0, 1) := by decide +kernel
theorem dk_31 : decode ⟨#[31]⟩ 0 = .ok (.lload_n 1, 1) := by decide +kernel
theorem dk_32 : decode ⟨#[32]⟩ 0 = .ok (.lload_n 2, 1) := by decide +kernel
theorem dk_33 : decode ⟨#[33]⟩ 0 = .ok (.lload_n 3, 1) := by decide +kernel
theorem dk_42 : decode ⟨#[42]⟩ 0 = .ok (.aload_n 0, 1) := by decide +kernel
theorem dk_43 : decode ⟨#[43]⟩ 0 = .ok (.aload_n 1, 1) := by decide +kernel
theorem dk_44 : decode ⟨#[44]⟩ 0 = .ok (.aload_n 2, 1) := by decide +kernel
theorem dk_45 : decode ⟨#[45]⟩ 0 = .ok (.aload_n 3, 1) := by decide +kernel
theorem dk_59 : decode ⟨#[59]⟩ 0 = .ok (.istore_n 0, 1) := by decide +kernel
theorem dk_60 : decode ⟨#[60]⟩ 0 = .ok (.istore_n 1, 1) := by decide +kernel
theorem dk_61 : decode ⟨#[61]⟩ 0 = .ok (.istore_n 2, 1) := by decide +kernel
theorem dk_62 : decode ⟨#[62]⟩ 0 = .ok (.istore_n 3, 1) := by decide +kernel
theorem dk_63 : decode ⟨#[63]⟩ 0 = .ok (.lstore_n 0, 1) := by decide +kernel
theorem dk_64 : decode ⟨#[64]⟩ 0 = .ok (.lstore_n 1, 1) := by decide +kernel
theorem dk_65 : decode ⟨#[65]⟩ 0 = .ok (.lstore_n 2, 1) := by decide +kernel
theorem dk_66 : decode ⟨#[66]⟩ 0 = .ok (.lstore_n 3, 1) := by decide +kernel
theorem dk_75 : decode ⟨#[75]⟩ 0 = .ok (.astore_n 0, 1) := by decide +kernel
theorem dk_76 : decode ⟨#[76]⟩ 0 = .ok (.astore_n 1, 1) := by decide +kernel
theorem dk_77 : decode ⟨#[77]⟩ 0 = .ok (.astore_n 2, 1) := by decide +kernel
theorem dk_78 : decode ⟨#[78]⟩ 0 = .ok (.astore_n 3, 1) := by decide +kernel
theorem dk_9 : decode ⟨#[9]⟩ 0 = .ok (.lconst 0, 1) := by decide +kernel
theorem dk_10 : decode ⟨#[10]⟩ 0 = .ok (.lconst 1, 1) := by decide +kernel
theorem dk_2 : decode ⟨#[2]⟩ 0 = .ok (.iconst (-1), 1) := by decide +kernel
theorem dk_3 : decode ⟨#[3]⟩ 0 = .ok (.iconst 0, 1) := by decide +kernel
theorem dk_4 : decode ⟨#[4]⟩ 0 = .ok (.iconst 1, 1) := by decide +kernel
theorem dk_5 : decode ⟨#[5]⟩ 0 = .ok (.iconst 2, 1) := by decide +kernel
theorem dk_6 : decode ⟨#[6]⟩ 0 = .ok (.iconst 3, 1) := by decide +kernel
theorem dk_7 : decode ⟨#[7]⟩ 0 = .ok (.iconst 4, 1) := by decide +kernel
theorem dk_8 : decode ⟨#[8]⟩ 0 = .ok (.iconst 5, 1) := by decide +kernel
theorem dk_18 (v : UInt8) : decode ⟨#[18, v]⟩ 0 = .ok (.ldc v.toNat, 2) := rfl
theorem dk_21 (v : UInt8) : decode ⟨#[21, v]⟩ 0 = .ok (.iload v.toNat, 2) := rfl
theorem dk_22 (v : UInt8) : decode ⟨#[22, v]⟩ 0 = .ok (.lload v.toNat, 2) := rfl
theorem dk_25 (v : UInt8) : decode ⟨#[25, v]⟩ 0 = .ok (.aload v.toNat, 2) := rfl
theorem dk_54 (v : UInt8) : decode ⟨#[54, v]⟩ 0 = .ok (.istore v.toNat, 2) := rfl
theorem dk_55 (v : UInt8) : decode ⟨#[55, v]⟩ 0 = .ok (.lstore v.toNat, 2) := rfl
theorem dk_58 (v : UInt8) : decode ⟨#[58, v]⟩ 0 = .ok (.astore v.toNat, 2) := rfl
theorem dk_19 (v w : UInt8) : decode ⟨#[19, v, w]⟩ 0 = .ok (.ldc_w (v.toNat * 256 + w.toNat), 3) := rfl
theorem dk_20 (v w : UInt8) : decode ⟨#[20, v, w]⟩ 0 = .ok (.ldc2_w (v.toNat * 256 + w.toNat), 3) := rfl
theorem dk_180 (v w : UInt8) : decode ⟨#[180, v, w]⟩ 0 = .ok (.getfield (v.toNat * 256 + w.toNat), 3) := rfl
theorem dk_181 (v w : UInt8) : decode ⟨#[181, v, w]⟩ 0 = .ok (.putfield (v.toNat * 256 + w.toNat), 3) := rfl
theorem dk_182 (v w : UInt8) : decode ⟨#[182, v, w]⟩ 0 = .ok (.invokevirtual (v.toNat * 256 + w.toNat), 3) := rfl
theorem dk_183 (v w : UInt8) : decode ⟨#[183, v, w]⟩ 0 = .ok (.invokespecial (v.toNat * 256 + w.toNat), 3) := rfl
theorem dk_184 (v w : UInt8) : decode ⟨#[184, v, w]⟩ 0 = .ok (.invokestatic (v.toNat * 256 + w.toNat), 3) := rfl
theorem dk_187 (v w : UInt8) : decode ⟨#[187, v, w]⟩ 0 = .ok (.new (v.toNat * 256 + w.toNat), 3) := rfl
theorem dk_189 (v w : UInt8) : decode ⟨#[189, v, w]⟩ 0 = .ok (.anewarray (v.toNat * 256 + w.toNat), 3) := rfl
theorem dk_178 (v w : UInt8) : decode ⟨#[178, v, w]⟩ 0 = .ok (.getstatic (v.toNat * 256 + w.toNat), 3) := rfl
theorem dk_16 (v : UInt8) : decode ⟨#[16, v]⟩ 0 = .ok (.bipush (Reader.signed 8 v.toNat), 2) := rfl
theorem dk_17 (v w : UInt8) : decode ⟨#[17, v, w]⟩ 0 = .ok (.sipush (Reader.signed 16 (v.toNat * 256 + w.toNat)), 3) := rfl
theorem dk_167 (v w : UInt8) : decode ⟨#[167, v, w]⟩ 0 = .ok (.goto (Reader.signed 16 (v.toNat * 256 + w.toNat)), 3) := rfl
theorem dk_153 (v w : UInt8) : decode ⟨#[153, v, w]⟩ 0 = .ok (.ifCond .eq (Reader.signed 16 (v.toNat * 256 + w.toNat)), 3) := rfl
theorem dk_154 (v w : UInt8) : decode ⟨#[154, v, w]⟩ 0 = .ok (.ifCond .ne (Reader.signed 16 (v.toNat * 256 + w.toNat)), 3) := rfl
theorem dk_155 (v w : UInt8) : decode ⟨#[155, v, w]⟩ 0 = .ok (.ifCond .lt (Reader.signed 16 (v.toNat * 256 + w.toNat)), 3) := rfl
theorem dk_156 (v w : UInt8) : decode ⟨#[156, v, w]⟩ 0 = .ok (.ifCond .ge (Reader.signed 16 (v.toNat * 256 + w.toNat)), 3) := rfl
theorem dk_157 (v w : UInt8) : decode ⟨#[157, v, w]⟩ 0 = .ok (.ifCond .gt (Reader.signed 16 (v.toNat * 256 + w.toNat)), 3) := rfl
theorem dk_158 (v w : UInt8) : decode ⟨#[158, v, w]⟩ 0 = .ok (.ifCond .le (Reader.signed 16 (v.toNat * 256 + w.toNat)), 3) := rfl
theorem dk_159 (v w : UInt8) : decode ⟨#[159, v, w]⟩ 0 = .ok (.if_icmp .eq (Reader.signed 16 (v.toNat * 256 + w.toNat)), 3) := rfl
theorem dk_160 (v w : UInt8) : decode ⟨#[160, v, w]⟩ 0 = .ok (.if_icmp .ne (Reader.signed 16 (v.toNat * 256 + w.toNat)), 3) := rfl
theorem dk_161 (v w : UInt8) : decode ⟨#[161, v, w]⟩ 0 = .ok (.if_icmp .lt (Reader.signed 16 (v.toNat * 256 + w.toNat)), 3) := rfl
theorem dk_162 (v w : UInt8) : decode ⟨#[162, v, w]⟩ 0 = .ok (.if_icmp .ge (Reader.signed 16 (v.toNat * 256 + w.toNat)), 3) := rfl
theorem dk_163 (v w : UInt8) : decode ⟨#[163, v, w]⟩ 0 = .ok (.if_icmp .gt (Reader.signed 16 (v.toNat * 256 + w.toNat)), 3) := rfl
theorem dk_164 (v w : UInt8) : decode ⟨#[164, v, w]⟩ 0 = .ok (.if_icmp .le (Reader.signed 16 (v.toNat * 256 + w.toNat)), 3) := rfl
theorem dk_132 (v w : UInt8) : decode ⟨#[132, v, w]⟩ 0 = .ok (.iinc v.toNat (Reader.signed 8 w.toNat), 3) := rfl
theorem fst1_ok (h : fst1 i n op.toNat l = true) : FSQ i n op l := by
  cases i with
  | iaload => exact fsq1 46 h dk_46 rfl
  | laload => exact fsq1 47 h dk_47 rfl
  | aaload => exact fsq1 50 h dk_50 rfl
  | baload => exact fsq1 51 h dk_51 rfl
  | iastore => exact fsq1 79 h dk_79 rfl
  | lastore => exact fsq1 80 h dk_80 rfl
  | aastore => exact fsq1 83 h dk_83 rfl
  | bastore => exact fsq1 84 h dk_84 rfl
  | pop => exact fsq1 87 h dk_87 rfl
  | dup => exact fsq1 89 h dk_89 rfl
  | dup2 => exact fsq1 92 h dk_92 rfl
  | iadd => exact fsq1 96 h dk_96 rfl
  | ladd => exact fsq1 97 h dk_97 rfl
  | isub => exact fsq1 100 h dk_100 rfl
  | imul => exact fsq1 104 h dk_104 rfl
  | lmul => exact fsq1 105 h dk_105 rfl
  | idiv => exact fsq1 108 h dk_108 rfl
  | ldiv => exact fsq1 109 h dk_109 rfl
  | irem => exact fsq1 112 h dk_112 rfl
  | lrem => exact fsq1 113 h dk_113 rfl
  | ishl => exact fsq1 120 h dk_120 rfl
  | lshl => exact fsq1 121 h dk_121 rfl
  | iushr => exact fsq1 124 h dk_124 rfl
  | iand => exact fsq1 126 h dk_126 rfl
  | ior => exact fsq1 128 h dk_128 rfl
  | ixor => exact fsq1 130 h dk_130 rfl
  | i2l => exact fsq1 133 h dk_133 rfl
  | lcmp => exact fsq1 148 h dk_148 rfl
  | ireturn => exact fsq1 172 h dk_172 rfl
  | return_ => exact fsq1 177 h dk_177 rfl
  | arraylength => exact fsq1 190 h dk_190 rfl
  | iload_n k =>
    rcases k with ⟨k, hk⟩
    rcases (show k = 0 ∨ k = 1 ∨ k = 2 ∨ k = 3 by omega) with e | e | e | e <;> subst e
    · exact fsq1 26 h dk_26 rfl
    · exact fsq1 27 h dk_27 rfl
    · exact fsq1 28 h dk_28 rfl
    · exact fsq1 29 h dk_29 rfl
  | lload_n k =>
    rcases k with ⟨k, hk⟩
    rcases (show k = 0 ∨ k = 1 ∨ k = 2 ∨ k = 3 by omega) with e | e | e | e <;> subst e
    · exact fsq1 30 h dk_30 rfl
    · exact fsq1 31 h dk_31 rfl
    · exact fsq1 32 h dk_32 rfl
    · exact fsq1 33 h dk_33 rfl
  | aload_n k =>
    rcases k with ⟨k, hk⟩
    rcases (show k = 0 ∨ k = 1 ∨ k = 2 ∨ k = 3 by omega) with e | e | e | e <;> subst e
    · exact fsq1 42 h dk_42 rfl
    · exact fsq1 43 h dk_43 rfl
    · exact fsq1 44 h dk_44 rfl
    · exact fsq1 45 h dk_45 rfl
  | istore_n k =>
    rcases k with ⟨k, hk⟩
    rcases (show k = 0 ∨ k = 1 ∨ k = 2 ∨ k = 3 by omega) with e | e | e | e <;> subst e
    · exact fsq1 59 h dk_59 rfl
    · exact fsq1 60 h dk_60 rfl
    · exact fsq1 61 h dk_61 rfl
    · exact fsq1 62 h dk_62 rfl
  | lstore_n k =>
    rcases k with ⟨k, hk⟩
    rcases (show k = 0 ∨ k = 1 ∨ k = 2 ∨ k = 3 by omega) with e | e | e | e <;> subst e
    · exact fsq1 63 h dk_63 rfl
    · exact fsq1 64 h dk_64 rfl
    · exact fsq1 65 h dk_65 rfl
    · exact fsq1 66 h dk_66 rfl
  | astore_n k =>
    rcases k with ⟨k, hk⟩
    rcases (show k = 0 ∨ k = 1 ∨ k = 2 ∨ k = 3 by omega) with e | e | e | e <;> subst e
    · exact fsq1 75 h dk_75 rfl
    · exact fsq1 76 h dk_76 rfl
    · exact fsq1 77 h dk_77 rfl
    · exact fsq1 78 h dk_78 rfl
  | lconst k =>
    rcases k with ⟨k, hk⟩
    rcases (show k = 0 ∨ k = 1 by omega) with e | e <;> subst e
    · exact fsq1 9 h dk_9 rfl
    · exact fsq1 10 h dk_10 rfl
  | iconst z =>
    have h : (decide (-1 ≤ z) && decide (z ≤ 5) && Nat.beq op.toNat (z + 3).toNat && Nat.beq n 1) = true := h
    rw [Bool.and_eq_true, Bool.and_eq_true, Bool.and_eq_true, decide_eq_true_eq, decide_eq_true_eq] at h
    obtain ⟨⟨⟨a, b⟩, c⟩, d⟩ := h
    have cd : (Nat.beq op.toNat (z + 3).toNat && Nat.beq n 1) = true := by rw [c, d]; rfl
    rcases (show z = -1 ∨ z = 0 ∨ z = 1 ∨ z = 2 ∨ z = 3 ∨ z = 4 ∨ z = 5 by omega) with e | e | e | e | e | e | e <;> subst e
    · exact fsq1 2 cd dk_2 rfl
    · exact fsq1 3 cd dk_3 rfl
    · exact fsq1 4 cd dk_4 rfl
    · exact fsq1 5 cd dk_5 rfl
    · exact fsq1 6 cd dk_6 rfl
    · exact fsq1 7 cd dk_7 rfl
    · exact fsq1 8 cd dk_8 rfl
  | ldc x => exact fsq2 18 h dk_18 rfl
  | iload x => exact fsq2 21 h dk_21 rfl
  | lload x => exact fsq2 22 h dk_22 rfl
  | aload x => exact fsq2 25 h dk_25 rfl
  | istore x => exact fsq2 54 h dk_54 rfl
  | lstore x => exact fsq2 55 h dk_55 rfl
  | astore x => exact fsq2 58 h dk_58 rfl
  | ldc_w x => exact fsq3 19 h dk_19 rfl
  | ldc2_w x => exact fsq3 20 h dk_20 rfl
  | getfield x => exact fsq3 180 h dk_180 rfl
  | putfield x => exact fsq3 181 h dk_181 rfl
  | invokevirtual x => exact fsq3 182 h dk_182 rfl
  | invokespecial x => exact fsq3 183 h dk_183 rfl
  | invokestatic x => exact fsq3 184 h dk_184 rfl
  | new x => exact fsq3 187 h dk_187 rfl
  | anewarray x => exact fsq3 189 h dk_189 rfl
  | getstatic x => exact fsq3 178 h dk_178 rfl
  | bipush x => exact fsq2s 16 h dk_16 rfl
  | sipush x => exact fsq3s 17 h dk_17 rfl
  | goto x => exact fsq3s 167 h dk_167 rfl
  | ifCond c x =>
    cases c with
    | eq => exact fsq3s 153 h dk_153 rfl
    | ne => exact fsq3s 154 h dk_154 rfl
    | lt => exact fsq3s 155 h dk_155 rfl
    | ge => exact fsq3s 156 h dk_156 rfl
    | gt => exact fsq3s 157 h dk_157 rfl
    | le => exact fsq3s 158 h dk_158 rfl
  | if_icmp c x =>
    cases c with
    | eq => exact fsq3s 159 h dk_159 rfl
    | ne => exact fsq3s 160 h dk_160 rfl
    | lt => exact fsq3s 161 h dk_161 rfl
    | ge => exact fsq3s 162 h dk_162 rfl
    | gt => exact fsq3s 163 h dk_163 rfl
    | le => exact fsq3s 164 h dk_164 rfl
  | iinc x y => exact fsq3i h dk_132
  | _ => cases h
def walf : List AI → Nat → List UInt8 → Bool
  | [], _, _ => true
  | q :: r, pc, l => match l with
    | [] => false
    | v :: t => Nat.beq q.1 pc && ((fst1 q.2.1 q.2.2.1 v.toNat t || isSw q.2.1 || (okOp v.toNat && decide (decode ⟨(List.take 3 (v :: t)).toArray⟩ 0 = .ok (q.2.1, q.2.2.1)))) && (isSw q.2.1 || chkJ q)) && walf r (pc + q.2.2.1) (List.drop q.2.2.1 (v :: t))
theorem walf_ok {F : MR} : ∀ (code : List AI) (pc : Nat) (l : List UInt8), (∀ k v, l[k]? = some v → (mcc F).data.toList[pc + k]? = some v) → walf code pc l = true → ∀ q ∈ code, isSw q.2.1 = true ∨ IOK F q := by
  intro code
  induction code with
  | nil => intro pc l _ _ q hq; cases hq
  | cons a r ih =>
    intro pc l hl h q hq
    cases l with
    | nil => cases h
    | cons v t =>
      have h : (Nat.beq a.1 pc && ((fst1 a.2.1 a.2.2.1 v.toNat t || isSw a.2.1 || (okOp v.toNat && decide (decode ⟨(List.take 3 (v :: t)).toArray⟩ 0 = .ok (a.2.1, a.2.2.1)))) && (isSw a.2.1 || chkJ a)) && walf r (pc + a.2.2.1) (List.drop a.2.2.1 (v :: t))) = true := h
      rw [Bool.and_eq_true, Bool.and_eq_true, Bool.and_eq_true] at h
      obtain ⟨⟨h1, h2, h6⟩, h3⟩ := h
      have h1 := Nat.eq_of_beq_eq_true h1
      rcases List.mem_cons.mp hq with e | e
      · subst e
        by_cases hs : isSw q.2.1 = true
        · exact Or.inl hs
        · have hs : isSw q.2.1 = false := by simpa using hs
          rw [hs] at h2 h6
          rw [Bool.false_or] at h6
          rw [Bool.or_false, Bool.or_eq_true, Bool.and_eq_true, decide_eq_true_eq] at h2
          refine Or.inr ⟨?_, ?_⟩
          · rw [h1]
            rcases h2 with h2 | ⟨h4, h5⟩
            · obtain ⟨c, g1, g2, g3, g4⟩ := fst1_ok h2
              refine dec_loc (v := v) (fun k w hw => ?_) g2 g3 g4
              rw [Nat.zero_add] at hw
              exact hl k w (g1 k w hw)
            · refine dec_loc (v := v) (fun k w hw => ?_) rfl h4 h5
              have hw : (List.take 3 (v :: t))[0 + k]? = some w := hw
              rw [Nat.zero_add, List.getElem?_take] at hw
              split at hw
              · exact hl k w hw
              · cases hw
          · unfold chkJ at h6
            simp only [Bool.and_eq_true, Bool.or_eq_true, beq_iff_eq] at h6
            refine ⟨h6.1, fun o ho => ?_⟩
            have h7 := h6.2
            rw [ho] at h7
            exact of_decide_eq_true h7
      · refine ih (pc + a.2.2.1) (List.drop a.2.2.1 (v :: t)) (fun k w hw => ?_) h3 q e
        rw [List.getElem?_drop] at hw
        rw [Nat.add_assoc]
        exact hl _ w hw
theorem WLF {F : MR} {code : List AI} (pc : Nat) (h : walf code pc ((mcc F).data.toList.drop pc) = true) (h2 : code.all (fun q => !isSw q.2.1 || chkI F q) = true) : ∀ q ∈ code, IOK F q := fun q hq => by
  rcases walf_ok (F := F) code pc _ (fun k v e => by rw [List.getElem?_drop] at e; exact e) h q hq with z | z
  · have k := List.all_eq_true.mp h2 q hq
    rw [z] at k
    exact IOK_of (by simpa using k)
  · exact z
end FST
