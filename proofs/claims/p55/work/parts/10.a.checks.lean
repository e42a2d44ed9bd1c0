set_option maxRecDepth 20000 in
theorem cni_RJ0 : Cond.initialized RJ0 ∈ TBL := W_r (bi_1_1 MM_0) rfl
set_option maxRecDepth 20000 in
theorem cnh_RJ0 : RJ0 ≠ "java/lang/invoke/MethodHandle" ∧ RJ0 ≠ "java/lang/invoke/VarHandle" := ⟨by decide +kernel, by decide +kernel⟩
set_option maxRecDepth 20000 in
theorem cni_RJ1 : Cond.initialized RJ1 ∈ TBL := W_r (bi_1_1 MM_1) rfl
set_option maxRecDepth 20000 in
theorem cnh_RJ1 : RJ1 ≠ "java/lang/invoke/MethodHandle" ∧ RJ1 ≠ "java/lang/invoke/VarHandle" := ⟨by decide +kernel, by decide +kernel⟩
set_option maxRecDepth 20000 in
theorem cni_RJ3 : Cond.initialized RJ3 ∈ TBL := W_r (bi_1_1 MM_2) rfl
set_option maxRecDepth 20000 in
theorem cnh_RJ3 : RJ3 ≠ "java/lang/invoke/MethodHandle" ∧ RJ3 ≠ "java/lang/invoke/VarHandle" := ⟨by decide +kernel, by decide +kernel⟩
set_option maxRecDepth 20000 in
theorem cni_RJ6 : Cond.initialized RJ6 ∈ TBL := W_r (bi_1_0 MM_6) rfl
set_option maxRecDepth 20000 in
theorem cnh_RJ6 : RJ6 ≠ "java/lang/invoke/MethodHandle" ∧ RJ6 ≠ "java/lang/invoke/VarHandle" := ⟨by decide +kernel, by decide +kernel⟩
set_option maxRecDepth 20000 in
theorem cni_RJ7 : Cond.initialized RJ7 ∈ TBL := W_r (bi_1_0 MM_14) rfl
set_option maxRecDepth 20000 in
theorem cnh_RJ7 : RJ7 ≠ "java/lang/invoke/MethodHandle" ∧ RJ7 ≠ "java/lang/invoke/VarHandle" := ⟨by decide +kernel, by decide +kernel⟩
set_option maxRecDepth 20000 in
theorem cni_RJ9 : Cond.initialized RJ9 ∈ TBL := W_r (bi_1_0 MM_15) rfl
set_option maxRecDepth 20000 in
theorem cnh_RJ9 : RJ9 ≠ "java/lang/invoke/MethodHandle" ∧ RJ9 ≠ "java/lang/invoke/VarHandle" := ⟨by decide +kernel, by decide +kernel⟩
set_option maxRecDepth 20000 in
theorem cni_RX0 : Cond.initialized RX0 ∈ TBL := W_r (bi_1_0 MM_11) rfl
set_option maxRecDepth 20000 in
theorem cnh_RX0 : RX0 ≠ "java/lang/invoke/MethodHandle" ∧ RX0 ≠ "java/lang/invoke/VarHandle" := ⟨by decide +kernel, by decide +kernel⟩
set_option maxRecDepth 20000 in
theorem cpl_RX0 : plainName RX0 = true := by decide +kernel
set_option maxRecDepth 20000 in
theorem cni_RX1 : Cond.initialized RX1 ∈ TBL := W_r (bi_1_0 MM_7) rfl
set_option maxRecDepth 20000 in
theorem cnh_RX1 : RX1 ≠ "java/lang/invoke/MethodHandle" ∧ RX1 ≠ "java/lang/invoke/VarHandle" := ⟨by decide +kernel, by decide +kernel⟩
set_option maxRecDepth 20000 in
theorem cpl_RX1 : plainName RX1 = true := by decide +kernel
set_option maxRecDepth 20000 in
theorem cni_RX10 : Cond.initialized RX10 ∈ TBL := W_r (bi_1_0 MM_1) rfl
set_option maxRecDepth 20000 in
theorem cnh_RX10 : RX10 ≠ "java/lang/invoke/MethodHandle" ∧ RX10 ≠ "java/lang/invoke/VarHandle" := ⟨by decide +kernel, by decide +kernel⟩
set_option maxRecDepth 20000 in
theorem cpl_RX10 : plainName RX10 = true := by decide +kernel
set_option maxRecDepth 20000 in
theorem cni_RX11 : Cond.initialized RX11 ∈ TBL := W_r (bi_1_0 MM_13) rfl
set_option maxRecDepth 20000 in
theorem cnh_RX11 : RX11 ≠ "java/lang/invoke/MethodHandle" ∧ RX11 ≠ "java/lang/invoke/VarHandle" := ⟨by decide +kernel, by decide +kernel⟩
set_option maxRecDepth 20000 in
theorem cpl_RX11 : plainName RX11 = true := by decide +kernel
set_option maxRecDepth 20000 in
theorem cni_RX2 : Cond.initialized RX2 ∈ TBL := W_r (bi_1_0 MM_5) rfl
set_option maxRecDepth 20000 in
theorem cnh_RX2 : RX2 ≠ "java/lang/invoke/MethodHandle" ∧ RX2 ≠ "java/lang/invoke/VarHandle" := ⟨by decide +kernel, by decide +kernel⟩
set_option maxRecDepth 20000 in
theorem cpl_RX2 : plainName RX2 = true := by decide +kernel
set_option maxRecDepth 20000 in
theorem cni_RX3 : Cond.initialized RX3 ∈ TBL := W_r (bi_1_0 MM_10) rfl
set_option maxRecDepth 20000 in
theorem cnh_RX3 : RX3 ≠ "java/lang/invoke/MethodHandle" ∧ RX3 ≠ "java/lang/invoke/VarHandle" := ⟨by decide +kernel, by decide +kernel⟩
set_option maxRecDepth 20000 in
theorem cpl_RX3 : plainName RX3 = true := by decide +kernel
set_option maxRecDepth 20000 in
theorem cni_RX4 : Cond.initialized RX4 ∈ TBL := W_r (bi_1_0 MM_9) rfl
set_option maxRecDepth 20000 in
theorem cnh_RX4 : RX4 ≠ "java/lang/invoke/MethodHandle" ∧ RX4 ≠ "java/lang/invoke/VarHandle" := ⟨by decide +kernel, by decide +kernel⟩
set_option maxRecDepth 20000 in
theorem cpl_RX4 : plainName RX4 = true := by decide +kernel
set_option maxRecDepth 20000 in
theorem cni_RX5 : Cond.initialized RX5 ∈ TBL := W_r (bi_1_0 MM_3) rfl
set_option maxRecDepth 20000 in
theorem cnh_RX5 : RX5 ≠ "java/lang/invoke/MethodHandle" ∧ RX5 ≠ "java/lang/invoke/VarHandle" := ⟨by decide +kernel, by decide +kernel⟩
set_option maxRecDepth 20000 in
theorem cpl_RX5 : plainName RX5 = true := by decide +kernel
set_option maxRecDepth 20000 in
theorem cni_RX6 : Cond.initialized RX6 ∈ TBL := W_r (bi_1_0 MM_4) rfl
set_option maxRecDepth 20000 in
theorem cnh_RX6 : RX6 ≠ "java/lang/invoke/MethodHandle" ∧ RX6 ≠ "java/lang/invoke/VarHandle" := ⟨by decide +kernel, by decide +kernel⟩
set_option maxRecDepth 20000 in
theorem cpl_RX6 : plainName RX6 = true := by decide +kernel
set_option maxRecDepth 20000 in
theorem cni_RX7 : Cond.initialized RX7 ∈ TBL := W_r (bi_1_0 MM_12) rfl
set_option maxRecDepth 20000 in
theorem cnh_RX7 : RX7 ≠ "java/lang/invoke/MethodHandle" ∧ RX7 ≠ "java/lang/invoke/VarHandle" := ⟨by decide +kernel, by decide +kernel⟩
set_option maxRecDepth 20000 in
theorem cpl_RX7 : plainName RX7 = true := by decide +kernel
set_option maxRecDepth 20000 in
theorem cni_RX8 : Cond.initialized RX8 ∈ TBL := W_r (bi_1_0 MM_2) rfl
set_option maxRecDepth 20000 in
theorem cnh_RX8 : RX8 ≠ "java/lang/invoke/MethodHandle" ∧ RX8 ≠ "java/lang/invoke/VarHandle" := ⟨by decide +kernel, by decide +kernel⟩
set_option maxRecDepth 20000 in
theorem cpl_RX8 : plainName RX8 = true := by decide +kernel
set_option maxRecDepth 20000 in
theorem cni_RX9 : Cond.initialized RX9 ∈ TBL := W_r (bi_1_0 MM_8) rfl
set_option maxRecDepth 20000 in
theorem cnh_RX9 : RX9 ≠ "java/lang/invoke/MethodHandle" ∧ RX9 ≠ "java/lang/invoke/VarHandle" := ⟨by decide +kernel, by decide +kernel⟩
set_option maxRecDepth 20000 in
theorem cpl_RX9 : plainName RX9 = true := by decide +kernel
set_option maxRecDepth 20000 in
theorem pds_0 : (parseMethodDescriptor "(I)C").map (fun d => d.parameters.length) = some 1 := by decide +kernel
set_option maxRecDepth 20000 in
theorem pds_1 : (parseMethodDescriptor "(II)V").map (fun d => d.parameters.length) = some 2 := by decide +kernel
set_option maxRecDepth 20000 in
theorem pds_2 : (parseMethodDescriptor "()B").map (fun d => d.parameters.length) = some 0 := by decide +kernel
set_option maxRecDepth 20000 in
theorem pds_3 : (parseMethodDescriptor "()Z").map (fun d => d.parameters.length) = some 0 := by decide +kernel
set_option maxRecDepth 20000 in
theorem pds_4 : (parseMethodDescriptor "()I").map (fun d => d.parameters.length) = some 0 := by decide +kernel
set_option maxRecDepth 20000 in
theorem pds_5 : (parseMethodDescriptor "([BI)C").map (fun d => d.parameters.length) = some 2 := by decide +kernel
set_option maxRecDepth 20000 in
theorem pds_6 : (parseMethodDescriptor "(IILjava/util/function/BiFunction;)I").map (fun d => d.parameters.length) = some 3 := by decide +kernel
set_option maxRecDepth 20000 in
theorem pds_7 : (parseMethodDescriptor "(I)I").map (fun d => d.parameters.length) = some 1 := by decide +kernel
set_option maxRecDepth 20000 in
theorem pds_8 : (parseMethodDescriptor "([II)V").map (fun d => d.parameters.length) = some 2 := by decide +kernel
set_option maxRecDepth 20000 in
theorem pds_9 : (parseMethodDescriptor "([JJ)V").map (fun d => d.parameters.length) = some 2 := by decide +kernel
set_option maxRecDepth 20000 in
theorem pds_10 : (parseMethodDescriptor "(II)I").map (fun d => d.parameters.length) = some 2 := by decide +kernel
set_option maxRecDepth 20000 in
theorem pds_11 : (parseMethodDescriptor "()V").map (fun d => d.parameters.length) = some 0 := by decide +kernel
set_option maxRecDepth 20000 in
theorem pds_12 : (parseMethodDescriptor "(LDoorSchool$Door;)V").map (fun d => d.parameters.length) = some 1 := by decide +kernel
set_option maxRecDepth 20000 in
theorem pds_13 : (parseMethodDescriptor "(LDoorSchool$Hanging;III)V").map (fun d => d.parameters.length) = some 4 := by decide +kernel
set_option maxRecDepth 20000 in
theorem pds_14 : (parseMethodDescriptor "(I)V").map (fun d => d.parameters.length) = some 1 := by decide +kernel
set_option maxRecDepth 20000 in
theorem pds_15 : (parseMethodDescriptor "(LDoorSchool$Rules;)V").map (fun d => d.parameters.length) = some 1 := by decide +kernel
set_option maxRecDepth 20000 in
theorem pds_16 : (parseMethodDescriptor "(ILDoorSchool$Lessons;)I").map (fun d => d.parameters.length) = some 2 := by decide +kernel
set_option maxRecDepth 20000 in
theorem pds_17 : (parseMethodDescriptor "(III)I").map (fun d => d.parameters.length) = some 3 := by decide +kernel
set_option maxRecDepth 20000 in
theorem pds_18 : (parseMethodDescriptor "(III)Z").map (fun d => d.parameters.length) = some 3 := by decide +kernel
set_option maxRecDepth 20000 in
theorem pds_19 : (parseMethodDescriptor "(III)V").map (fun d => d.parameters.length) = some 3 := by decide +kernel
set_option maxRecDepth 20000 in
theorem pds_20 : (parseMethodDescriptor "(LDoorSchool$Lessons;)V").map (fun d => d.parameters.length) = some 1 := by decide +kernel
set_option maxRecDepth 20000 in
theorem pds_21 : (parseMethodDescriptor "(I)Z").map (fun d => d.parameters.length) = some 1 := by decide +kernel
set_option maxRecDepth 20000 in
theorem pds_22 : (parseMethodDescriptor "(II)Z").map (fun d => d.parameters.length) = some 2 := by decide +kernel
set_option maxRecDepth 20000 in
theorem pds_23 : (parseMethodDescriptor "(I)LDoorSchool$Door;").map (fun d => d.parameters.length) = some 1 := by decide +kernel
set_option maxRecDepth 20000 in
theorem pds_24 : (parseMethodDescriptor "(LDoorSchool$Plan;)V").map (fun d => d.parameters.length) = some 1 := by decide +kernel
set_option maxRecDepth 20000 in
theorem pds_25 : (parseMethodDescriptor "(LDoorSchool$Tape;)V").map (fun d => d.parameters.length) = some 1 := by decide +kernel
set_option maxRecDepth 20000 in
theorem pds_26 : (parseMethodDescriptor "(B)Z").map (fun d => d.parameters.length) = some 1 := by decide +kernel
set_option maxRecDepth 20000 in
theorem pds_27 : (parseMethodDescriptor "(Z)V").map (fun d => d.parameters.length) = some 1 := by decide +kernel
set_option maxRecDepth 20000 in
theorem pds_28 : (parseMethodDescriptor "(LDoorSchool$Plan;LDoorSchool$Lessons;)V").map (fun d => d.parameters.length) = some 2 := by decide +kernel
set_option maxRecDepth 20000 in
theorem pds_29 : (parseMethodDescriptor "(Ljava/lang/String;)Z").map (fun d => d.parameters.length) = some 1 := by decide +kernel
set_option maxRecDepth 20000 in
theorem pds_30 : (parseMethodDescriptor "(IIZ)I").map (fun d => d.parameters.length) = some 3 := by decide +kernel
set_option maxRecDepth 20000 in
theorem pds_31 : (parseMethodDescriptor "(IJ)V").map (fun d => d.parameters.length) = some 2 := by decide +kernel
set_option maxRecDepth 20000 in
theorem pds_32 : (parseMethodDescriptor "(LDoorSchool$Plan;I)I").map (fun d => d.parameters.length) = some 2 := by decide +kernel
set_option maxRecDepth 20000 in
theorem pds_33 : (parseMethodDescriptor "(LDoorSchool$Timetable;LDoorSchool$Plan;III)V").map (fun d => d.parameters.length) = some 5 := by decide +kernel
set_option maxRecDepth 20000 in
theorem pds_34 : (parseMethodDescriptor "(LDoorSchool$Slot;)I").map (fun d => d.parameters.length) = some 1 := by decide +kernel
set_option maxRecDepth 20000 in
theorem pds_35 : (parseMethodDescriptor "(IIIII)I").map (fun d => d.parameters.length) = some 5 := by decide +kernel
set_option maxRecDepth 20000 in
theorem pds_36 : (parseMethodDescriptor "(LDoorSchool$Slot;I)I").map (fun d => d.parameters.length) = some 2 := by decide +kernel
set_option maxRecDepth 20000 in
theorem pds_37 : (parseMethodDescriptor "(IIJ)I").map (fun d => d.parameters.length) = some 3 := by decide +kernel
set_option maxRecDepth 20000 in
theorem pds_38 : (parseMethodDescriptor "(IIII)I").map (fun d => d.parameters.length) = some 4 := by decide +kernel
set_option maxRecDepth 20000 in
theorem pds_39 : (parseMethodDescriptor "(IZ)I").map (fun d => d.parameters.length) = some 2 := by decide +kernel
set_option maxRecDepth 20000 in
theorem pds_40 : (parseMethodDescriptor "(JI)J").map (fun d => d.parameters.length) = some 2 := by decide +kernel
set_option maxRecDepth 20000 in
theorem pds_41 : (parseMethodDescriptor "(JJJ)Z").map (fun d => d.parameters.length) = some 3 := by decide +kernel
set_option maxRecDepth 20000 in
theorem pds_42 : (parseMethodDescriptor "(J)Z").map (fun d => d.parameters.length) = some 1 := by decide +kernel
set_option maxRecDepth 20000 in
theorem pds_43 : (parseMethodDescriptor "(Ljava/lang/String;)V").map (fun d => d.parameters.length) = some 1 := by decide +kernel
set_option maxRecDepth 20000 in
theorem pds_44 : (parseMethodDescriptor "(II)J").map (fun d => d.parameters.length) = some 2 := by decide +kernel
set_option maxRecDepth 20000 in
theorem pds_45 : (parseMethodDescriptor "(JI)I").map (fun d => d.parameters.length) = some 2 := by decide +kernel
set_option maxRecDepth 20000 in
theorem pds_46 : (parseMethodDescriptor "(Ljava/lang/String;II)I").map (fun d => d.parameters.length) = some 3 := by decide +kernel
set_option maxRecDepth 20000 in
theorem mt_0 : MT 0 = some mr_0 := mtb_0 0
set_option maxRecDepth 20000 in
theorem mfj_0 : MFj mr_0 := MFj_r (W_r (bi_2_12 MM_3) rfl) (W_r (bi_2_12 MM_4) rfl) rfl
set_option maxRecDepth 20000 in
theorem mt_1 : MT 1 = some mr_1 := mtb_0 1
set_option maxRecDepth 20000 in
theorem mfs_1 : Cond.static (my mr_1) ∈ TBL := W_r (bi_2_12 MM_14) rfl
set_option maxRecDepth 20000 in
theorem mt_2 : MT 2 = some mr_2 := mtb_0 2
set_option maxRecDepth 20000 in
theorem mfj_2 : MFj mr_2 := MFj_r (W_r (bi_2_11 MM_13) rfl) (W_r (bi_2_11 MM_14) rfl) rfl
set_option maxRecDepth 20000 in
theorem mt_3 : MT 3 = some mr_3 := mtb_0 3
set_option maxRecDepth 20000 in
theorem mfj_3 : MFj mr_3 := MFj_r (W_r (bi_2_12 MM_7) rfl) (W_r (bi_2_12 MM_8) rfl) rfl
set_option maxRecDepth 20000 in
theorem mt_4 : MT 4 = some mr_4 := mtb_0 4
set_option maxRecDepth 20000 in
theorem mfj_4 : MFj mr_4 := MFj_r (W_r (bi_2_11 MM_9) rfl) (W_r (bi_2_11 MM_10) rfl) rfl
set_option maxRecDepth 20000 in
theorem mt_5 : MT 5 = some mr_5 := mtb_0 5
set_option maxRecDepth 20000 in
theorem mfs_5 : Cond.static (my mr_5) ∈ TBL := W_r (bi_2_12 MM_11) rfl
set_option maxRecDepth 20000 in
theorem mt_6 : MT 6 = some mr_6 := mtb_0 6
set_option maxRecDepth 20000 in
theorem mfs_6 : Cond.static (my mr_6) ∈ TBL := W_r (bi_2_13 MM_3) rfl
set_option maxRecDepth 20000 in
theorem mt_7 : MT 7 = some mr_7 := mtb_0 7
set_option maxRecDepth 20000 in
theorem mfs_7 : Cond.static (my mr_7) ∈ TBL := W_r (bi_1_6 MM_15) rfl
set_option maxRecDepth 20000 in
theorem mt_8 : MT 8 = some mr_8 := mtb_0 8
set_option maxRecDepth 20000 in
theorem mfs_8 : Cond.static (my mr_8) ∈ TBL := W_r (bi_2_9 MM_14) rfl
set_option maxRecDepth 20000 in
theorem mt_9 : MT 9 = some mr_9 := mtb_0 9
set_option maxRecDepth 20000 in
theorem mfs_9 : Cond.static (my mr_9) ∈ TBL := W_r (bi_5_10 MM_5) rfl
set_option maxRecDepth 20000 in
theorem mt_10 : MT 10 = some mr_10 := mtb_0 10
set_option maxRecDepth 20000 in
theorem mfs_10 : Cond.static (my mr_10) ∈ TBL := W_r (bi_5_2 MM_13) rfl
set_option maxRecDepth 20000 in
theorem mt_11 : MT 11 = some mr_11 := mtb_0 11
set_option maxRecDepth 20000 in
theorem mfs_11 : Cond.static (my mr_11) ∈ TBL := W_r (bi_2_10 MM_13) rfl
set_option maxRecDepth 20000 in
theorem mt_12 : MT 12 = some mr_12 := mtb_0 12
set_option maxRecDepth 20000 in
theorem mfv_12 : MFv mr_12 := MFv_r (W_r (bi_3_1 MM_9) rfl) (W_r (sI_1 MM_13) rfl) rfl
set_option maxRecDepth 20000 in
theorem mt_13 : MT 13 = some mr_13 := mtb_0 13
set_option maxRecDepth 20000 in
theorem mfi_13 : MFi mr_13 := MFi_r (W_r (bi_1_12 MM_15) rfl) rfl rfl
set_option maxRecDepth 20000 in
theorem mt_14 : MT 14 = some mr_14 := mtb_0 14
set_option maxRecDepth 20000 in
theorem mfv_14 : MFv mr_14 := MFv_r (W_r (bi_5_8 MM_14) rfl) (W_r (sI_6 MM_6) rfl) rfl
set_option maxRecDepth 20000 in
theorem mt_15 : MT 15 = some mr_15 := mtb_0 15
set_option maxRecDepth 20000 in
theorem mfs_15 : Cond.static (my mr_15) ∈ TBL := W_r (bi_5_0 MM_2) rfl
set_option maxRecDepth 20000 in
theorem mt_16 : MT 16 = some mr_16 := mtb_1 0
set_option maxRecDepth 20000 in
theorem mfi_16 : MFi mr_16 := MFi_r (W_r (bi_1_7 MM_14) rfl) rfl rfl
set_option maxRecDepth 20000 in
theorem mt_17 : MT 17 = some mr_17 := mtb_1 1
set_option maxRecDepth 20000 in
theorem mfv_17 : MFv mr_17 := MFv_r (W_r (bi_5_0 MM_6) rfl) (W_r (sI_5 MM_9) rfl) rfl
set_option maxRecDepth 20000 in
theorem mt_18 : MT 18 = some mr_18 := mtb_1 2
set_option maxRecDepth 20000 in
theorem mfv_18 : MFv mr_18 := MFv_r (W_r (bi_4_14 MM_15) rfl) (W_r (sI_5 MM_8) rfl) rfl
set_option maxRecDepth 20000 in
theorem mt_19 : MT 19 = some mr_19 := mtb_1 3
set_option maxRecDepth 20000 in
theorem mfv_19 : MFv mr_19 := MFv_r (W_r (bi_4_4 MM_11) rfl) (W_r (sI_4 MM_5) rfl) rfl
set_option maxRecDepth 20000 in
theorem mt_20 : MT 20 = some mr_20 := mtb_1 4
set_option maxRecDepth 20000 in
theorem mfv_20 : MFv mr_20 := MFv_r (W_r (bi_4_11 MM_6) rfl) (W_r (sI_5 MM_1) rfl) rfl
set_option maxRecDepth 20000 in
theorem mt_21 : MT 21 = some mr_21 := mtb_1 5
set_option maxRecDepth 20000 in
theorem mfi_21 : MFi mr_21 := MFi_r (W_r (bi_1_6 MM_11) rfl) rfl rfl
set_option maxRecDepth 20000 in
theorem mt_22 : MT 22 = some mr_22 := mtb_1 6
set_option maxRecDepth 20000 in
theorem mfv_22 : MFv mr_22 := MFv_r (W_r (bi_3_9 MM_15) rfl) (W_r (sI_3 MM_4) rfl) rfl
set_option maxRecDepth 20000 in
theorem mt_23 : MT 23 = some mr_23 := mtb_1 7
set_option maxRecDepth 20000 in
theorem mfv_23 : MFv mr_23 := MFv_r (W_r (bi_4_5 MM_3) rfl) (W_r (sI_4 MM_7) rfl) rfl
set_option maxRecDepth 20000 in
theorem mt_24 : MT 24 = some mr_24 := mtb_1 8
set_option maxRecDepth 20000 in
theorem mfv_24 : MFv mr_24 := MFv_r (W_r (bi_4_11 MM_14) rfl) (W_r (sI_5 MM_2) rfl) rfl
set_option maxRecDepth 20000 in
theorem mt_25 : MT 25 = some mr_25 := mtb_1 9
set_option maxRecDepth 20000 in
theorem mfv_25 : MFv mr_25 := MFv_r (W_r (bi_4_4 MM_7) rfl) (W_r (sI_4 MM_4) rfl) rfl
set_option maxRecDepth 20000 in
theorem mt_26 : MT 26 = some mr_26 := mtb_1 10
set_option maxRecDepth 20000 in
theorem mfv_26 : MFv mr_26 := MFv_r (W_r (bi_4_5 MM_7) rfl) (W_r (sI_4 MM_8) rfl) rfl
set_option maxRecDepth 20000 in
theorem mt_27 : MT 27 = some mr_27 := mtb_1 11
set_option maxRecDepth 20000 in
theorem mfv_27 : MFv mr_27 := MFv_r (W_r (bi_4_5 MM_12) rfl) (W_r (sI_4 MM_9) rfl) rfl
set_option maxRecDepth 20000 in
theorem mt_28 : MT 28 = some mr_28 := mtb_1 12
set_option maxRecDepth 20000 in
theorem mfs_28 : Cond.static (my mr_28) ∈ TBL := W_r (bi_4_5 MM_15) rfl
set_option maxRecDepth 20000 in
theorem mt_29 : MT 29 = some mr_29 := mtb_1 13
set_option maxRecDepth 20000 in
theorem mfv_29 : MFv mr_29 := MFv_r (W_r (bi_4_6 MM_12) rfl) (W_r (sI_4 MM_10) rfl) rfl
set_option maxRecDepth 20000 in
theorem mt_30 : MT 30 = some mr_30 := mtb_1 14
set_option maxRecDepth 20000 in
theorem mfv_30 : MFv mr_30 := MFv_r (W_r (bi_4_4 MM_15) rfl) (W_r (sI_4 MM_6) rfl) rfl
set_option maxRecDepth 20000 in
theorem mt_31 : MT 31 = some mr_31 := mtb_1 15
set_option maxRecDepth 20000 in
theorem mfv_31 : MFv mr_31 := MFv_r (W_r (bi_3_2 MM_12) rfl) (W_r (sI_2 MM_1) rfl) rfl
set_option maxRecDepth 20000 in
theorem mt_32 : MT 32 = some mr_32 := mtb_2 0
set_option maxRecDepth 20000 in
theorem mfv_32 : MFv mr_32 := MFv_r (W_r (bi_4_0 MM_3) rfl) (W_r (sI_3 MM_14) rfl) rfl
set_option maxRecDepth 20000 in
theorem mt_33 : MT 33 = some mr_33 := mtb_2 1
set_option maxRecDepth 20000 in
theorem mfv_33 : MFv mr_33 := MFv_r (W_r (bi_4_2 MM_5) rfl) (W_r (sI_4 MM_1) rfl) rfl
set_option maxRecDepth 20000 in
theorem mt_34 : MT 34 = some mr_34 := mtb_2 2
set_option maxRecDepth 20000 in
theorem mfv_34 : MFv mr_34 := MFv_r (W_r (bi_4_0 MM_12) rfl) (W_r (sI_3 MM_15) rfl) rfl
set_option maxRecDepth 20000 in
theorem mt_35 : MT 35 = some mr_35 := mtb_2 3
set_option maxRecDepth 20000 in
theorem mfi_35 : MFi mr_35 := MFi_r (W_r (bi_1_11 MM_9) rfl) rfl rfl
set_option maxRecDepth 20000 in
theorem mt_36 : MT 36 = some mr_36 := mtb_2 4
set_option maxRecDepth 20000 in
theorem mfv_36 : MFv mr_36 := MFv_r (W_r (bi_3_10 MM_14) rfl) (W_r (sI_3 MM_7) rfl) rfl
set_option maxRecDepth 20000 in
theorem mt_37 : MT 37 = some mr_37 := mtb_2 5
set_option maxRecDepth 20000 in
theorem mfv_37 : MFv mr_37 := MFv_r (W_r (bi_3_11 MM_2) rfl) (W_r (sI_3 MM_8) rfl) rfl
set_option maxRecDepth 20000 in
theorem mt_38 : MT 38 = some mr_38 := mtb_2 6
set_option maxRecDepth 20000 in
theorem mfv_38 : MFv mr_38 := MFv_r (W_r (bi_3_3 MM_0) rfl) (W_r (sI_2 MM_2) rfl) rfl
set_option maxRecDepth 20000 in
theorem mt_39 : MT 39 = some mr_39 := mtb_2 7
set_option maxRecDepth 20000 in
theorem mfv_39 : MFv mr_39 := MFv_r (W_r (bi_3_10 MM_3) rfl) (W_r (sI_3 MM_5) rfl) rfl
set_option maxRecDepth 20000 in
theorem mt_40 : MT 40 = some mr_40 := mtb_2 8
set_option maxRecDepth 20000 in
theorem mfv_40 : MFv mr_40 := MFv_r (W_r (bi_5_9 MM_3) rfl) (W_r (sI_6 MM_7) rfl) rfl
set_option maxRecDepth 20000 in
theorem mt_41 : MT 41 = some mr_41 := mtb_2 9
set_option maxRecDepth 20000 in
theorem mfv_41 : MFv mr_41 := MFv_r (W_r (bi_4_2 MM_9) rfl) (W_r (sI_4 MM_2) rfl) rfl
set_option maxRecDepth 20000 in
theorem mt_42 : MT 42 = some mr_42 := mtb_2 10
set_option maxRecDepth 20000 in
theorem mfv_42 : MFv mr_42 := MFv_r (W_r (bi_2_9 MM_11) rfl) (W_r (sI_1 MM_2) rfl) rfl
set_option maxRecDepth 20000 in
theorem mt_43 : MT 43 = some mr_43 := mtb_2 11
set_option maxRecDepth 20000 in
theorem mfv_43 : MFv mr_43 := MFv_r (W_r (bi_3_8 MM_3) rfl) (W_r (sI_2 MM_15) rfl) rfl
set_option maxRecDepth 20000 in
theorem mt_44 : MT 44 = some mr_44 := mtb_2 12
set_option maxRecDepth 20000 in
theorem mfi_44 : MFi mr_44 := MFi_r (W_r (bi_1_11 MM_1) rfl) rfl rfl
set_option maxRecDepth 20000 in
theorem mt_45 : MT 45 = some mr_45 := mtb_2 13
set_option maxRecDepth 20000 in
theorem mfv_45 : MFv mr_45 := MFv_r (W_r (bi_3_3 MM_14) rfl) (W_r (sI_2 MM_5) rfl) rfl
set_option maxRecDepth 20000 in
theorem mt_46 : MT 46 = some mr_46 := mtb_2 14
set_option maxRecDepth 20000 in
theorem mfv_46 : MFv mr_46 := MFv_r (W_r (bi_3_14 MM_3) rfl) (W_r (sI_3 MM_11) rfl) rfl
set_option maxRecDepth 20000 in
theorem mt_47 : MT 47 = some mr_47 := mtb_2 15
set_option maxRecDepth 20000 in
theorem mfv_47 : MFv mr_47 := MFv_r (W_r (bi_3_7 MM_0) rfl) (W_r (sI_2 MM_14) rfl) rfl
set_option maxRecDepth 20000 in
theorem mt_48 : MT 48 = some mr_48 := mtb_3 0
set_option maxRecDepth 20000 in
theorem mfv_48 : MFv mr_48 := MFv_r (W_r (bi_3_8 MM_7) rfl) (W_r (sI_3 MM_0) rfl) rfl
set_option maxRecDepth 20000 in
theorem mt_49 : MT 49 = some mr_49 := mtb_3 1
set_option maxRecDepth 20000 in
theorem mfv_49 : MFv mr_49 := MFv_r (W_r (bi_3_9 MM_1) rfl) (W_r (sI_3 MM_1) rfl) rfl
set_option maxRecDepth 20000 in
theorem mt_50 : MT 50 = some mr_50 := mtb_3 2
set_option maxRecDepth 20000 in
theorem mfv_50 : MFv mr_50 := MFv_r (W_r (bi_3_13 MM_10) rfl) (W_r (sI_3 MM_10) rfl) rfl
set_option maxRecDepth 20000 in
theorem mt_51 : MT 51 = some mr_51 := mtb_3 3
set_option maxRecDepth 20000 in
theorem mfv_51 : MFv mr_51 := MFv_r (W_r (bi_3_2 MM_6) rfl) (W_r (sI_2 MM_0) rfl) rfl
set_option maxRecDepth 20000 in
theorem mt_52 : MT 52 = some mr_52 := mtb_3 4
set_option maxRecDepth 20000 in
theorem mfv_52 : MFv mr_52 := MFv_r (W_r (bi_3_9 MM_11) rfl) (W_r (sI_3 MM_3) rfl) rfl
set_option maxRecDepth 20000 in
theorem mt_53 : MT 53 = some mr_53 := mtb_3 5
set_option maxRecDepth 20000 in
theorem mfv_53 : MFv mr_53 := MFv_r (W_r (bi_5_8 MM_10) rfl) (W_r (sI_6 MM_5) rfl) rfl
set_option maxRecDepth 20000 in
theorem mt_54 : MT 54 = some mr_54 := mtb_3 6
set_option maxRecDepth 20000 in
theorem mfv_54 : MFv mr_54 := MFv_r (W_r (bi_2_14 MM_14) rfl) (W_r (sI_1 MM_8) rfl) rfl
set_option maxRecDepth 20000 in
theorem mt_55 : MT 55 = some mr_55 := mtb_3 7
set_option maxRecDepth 20000 in
theorem mfi_55 : MFi mr_55 := MFi_r (W_r (bi_1_3 MM_1) rfl) rfl rfl
set_option maxRecDepth 20000 in
theorem mt_56 : MT 56 = some mr_56 := mtb_3 8
set_option maxRecDepth 20000 in
theorem mfs_56 : Cond.static (my mr_56) ∈ TBL := W_r (bi_2_10 MM_5) rfl
set_option maxRecDepth 20000 in
theorem mt_57 : MT 57 = some mr_57 := mtb_3 9
set_option maxRecDepth 20000 in
theorem mfv_57 : MFv mr_57 := MFv_r (W_r (bi_2_10 MM_9) rfl) (W_r (sI_1 MM_4) rfl) rfl
set_option maxRecDepth 20000 in
theorem mt_58 : MT 58 = some mr_58 := mtb_3 10
set_option maxRecDepth 20000 in
theorem mfv_58 : MFv mr_58 := MFv_r (W_r (bi_3_0 MM_7) rfl) (W_r (sI_1 MM_10) rfl) rfl
set_option maxRecDepth 20000 in
theorem mt_59 : MT 59 = some mr_59 := mtb_3 11
set_option maxRecDepth 20000 in
theorem mfv_59 : MFv mr_59 := MFv_r (W_r (bi_2_14 MM_10) rfl) (W_r (sI_1 MM_7) rfl) rfl
set_option maxRecDepth 20000 in
theorem mt_60 : MT 60 = some mr_60 := mtb_3 12
set_option maxRecDepth 20000 in
theorem mfv_60 : MFv mr_60 := MFv_r (W_r (bi_2_9 MM_7) rfl) (W_r (sI_1 MM_1) rfl) rfl
set_option maxRecDepth 20000 in
theorem mt_61 : MT 61 = some mr_61 := mtb_3 13
set_option maxRecDepth 20000 in
theorem mfv_61 : MFv mr_61 := MFv_r (W_r (bi_3_5 MM_7) rfl) (W_r (sI_2 MM_10) rfl) rfl
set_option maxRecDepth 20000 in
theorem mt_62 : MT 62 = some mr_62 := mtb_3 14
set_option maxRecDepth 20000 in
theorem mfv_62 : MFv mr_62 := MFv_r (W_r (bi_3_5 MM_1) rfl) (W_r (sI_2 MM_9) rfl) rfl
set_option maxRecDepth 20000 in
theorem mt_63 : MT 63 = some mr_63 := mtb_3 15
set_option maxRecDepth 20000 in
theorem mfv_63 : MFv mr_63 := MFv_r (W_r (bi_3_0 MM_13) rfl) (W_r (sI_1 MM_11) rfl) rfl
set_option maxRecDepth 20000 in
theorem mt_64 : MT 64 = some mr_64 := mtb_4 0
set_option maxRecDepth 20000 in
theorem mfv_64 : MFv mr_64 := MFv_r (W_r (bi_3_3 MM_5) rfl) (W_r (sI_2 MM_3) rfl) rfl
set_option maxRecDepth 20000 in
theorem mt_65 : MT 65 = some mr_65 := mtb_4 1
set_option maxRecDepth 20000 in
theorem mfv_65 : MFv mr_65 := MFv_r (W_r (bi_2_11 MM_1) rfl) (W_r (sI_1 MM_5) rfl) rfl
set_option maxRecDepth 20000 in
theorem mt_66 : MT 66 = some mr_66 := mtb_4 2
set_option maxRecDepth 20000 in
theorem mfv_66 : MFv mr_66 := MFv_r (W_r (bi_3_4 MM_12) rfl) (W_r (sI_2 MM_8) rfl) rfl
set_option maxRecDepth 20000 in
theorem mt_67 : MT 67 = some mr_67 := mtb_4 3
set_option maxRecDepth 20000 in
theorem mfv_67 : MFv mr_67 := MFv_r (W_r (bi_3_1 MM_14) rfl) (W_r (sI_1 MM_14) rfl) rfl
set_option maxRecDepth 20000 in
theorem mt_68 : MT 68 = some mr_68 := mtb_4 4
set_option maxRecDepth 20000 in
theorem mfv_68 : MFv mr_68 := MFv_r (W_r (bi_3_4 MM_3) rfl) (W_r (sI_2 MM_6) rfl) rfl
set_option maxRecDepth 20000 in
theorem mt_69 : MT 69 = some mr_69 := mtb_4 5
set_option maxRecDepth 20000 in
theorem mfv_69 : MFv mr_69 := MFv_r (W_r (bi_3_2 MM_2) rfl) (W_r (sI_1 MM_15) rfl) rfl
set_option maxRecDepth 20000 in
theorem mt_70 : MT 70 = some mr_70 := mtb_4 6
set_option maxRecDepth 20000 in
theorem mfv_70 : MFv mr_70 := MFv_r (W_r (bi_3_3 MM_10) rfl) (W_r (sI_2 MM_4) rfl) rfl
set_option maxRecDepth 20000 in
theorem mt_71 : MT 71 = some mr_71 := mtb_4 7
set_option maxRecDepth 20000 in
theorem mfv_71 : MFv mr_71 := MFv_r (W_r (bi_2_11 MM_6) rfl) (W_r (sI_1 MM_6) rfl) rfl
set_option maxRecDepth 20000 in
theorem mt_72 : MT 72 = some mr_72 := mtb_4 8
set_option maxRecDepth 20000 in
theorem mfv_72 : MFv mr_72 := MFv_r (W_r (bi_2_10 MM_2) rfl) (W_r (sI_1 MM_3) rfl) rfl
set_option maxRecDepth 20000 in
theorem mt_73 : MT 73 = some mr_73 := mtb_4 9
set_option maxRecDepth 20000 in
theorem mfv_73 : MFv mr_73 := MFv_r (W_r (bi_3_0 MM_3) rfl) (W_r (sI_1 MM_9) rfl) rfl
set_option maxRecDepth 20000 in
theorem mt_74 : MT 74 = some mr_74 := mtb_4 10
set_option maxRecDepth 20000 in
theorem mfv_74 : MFv mr_74 := MFv_r (W_r (bi_3_4 MM_7) rfl) (W_r (sI_2 MM_7) rfl) rfl
set_option maxRecDepth 20000 in
theorem mt_75 : MT 75 = some mr_75 := mtb_4 11
set_option maxRecDepth 20000 in
theorem mfv_75 : MFv mr_75 := MFv_r (W_r (bi_3_1 MM_1) rfl) (W_r (sI_1 MM_12) rfl) rfl
set_option maxRecDepth 20000 in
theorem mt_76 : MT 76 = some mr_76 := mtb_4 12
set_option maxRecDepth 20000 in
theorem mfv_76 : MFv mr_76 := MFv_r (W_r (bi_3_6 MM_0) rfl) (W_r (sI_2 MM_12) rfl) rfl
set_option maxRecDepth 20000 in
theorem mt_77 : MT 77 = some mr_77 := mtb_4 13
set_option maxRecDepth 20000 in
theorem mfv_77 : MFv mr_77 := MFv_r (W_r (bi_3_6 MM_4) rfl) (W_r (sI_2 MM_13) rfl) rfl
set_option maxRecDepth 20000 in
theorem mt_78 : MT 78 = some mr_78 := mtb_4 14
set_option maxRecDepth 20000 in
theorem mfv_78 : MFv mr_78 := MFv_r (W_r (bi_3_10 MM_7) rfl) (W_r (sI_3 MM_6) rfl) rfl
set_option maxRecDepth 20000 in
theorem mt_79 : MT 79 = some mr_79 := mtb_4 15
set_option maxRecDepth 20000 in
theorem mfv_79 : MFv mr_79 := MFv_r (W_r (bi_3_13 MM_2) rfl) (W_r (sI_3 MM_9) rfl) rfl
set_option maxRecDepth 20000 in
theorem mt_80 : MT 80 = some mr_80 := mtb_5 0
set_option maxRecDepth 20000 in
theorem mfi_80 : MFi mr_80 := MFi_r (W_r (bi_1_4 MM_15) rfl) rfl rfl
set_option maxRecDepth 20000 in
theorem mt_81 : MT 81 = some mr_81 := mtb_5 1
set_option maxRecDepth 20000 in
theorem mfv_81 : MFv mr_81 := MFv_r (W_r (bi_3_14 MM_7) rfl) (W_r (sI_3 MM_12) rfl) rfl
set_option maxRecDepth 20000 in
theorem mt_82 : MT 82 = some mr_82 := mtb_5 2
set_option maxRecDepth 20000 in
theorem mfv_82 : MFv mr_82 := MFv_r (W_r (bi_3_5 MM_11) rfl) (W_r (sI_2 MM_11) rfl) rfl
set_option maxRecDepth 20000 in
theorem mt_83 : MT 83 = some mr_83 := mtb_5 3
set_option maxRecDepth 20000 in
theorem mfv_83 : MFv mr_83 := MFv_r (W_r (bi_5_1 MM_14) rfl) (W_r (sI_5 MM_10) rfl) rfl
set_option maxRecDepth 20000 in
theorem mt_84 : MT 84 = some mr_84 := mtb_5 4
set_option maxRecDepth 20000 in
theorem mfv_84 : MFv mr_84 := MFv_r (W_r (bi_5_10 MM_2) rfl) (W_r (sI_6 MM_8) rfl) rfl
set_option maxRecDepth 20000 in
theorem mt_85 : MT 85 = some mr_85 := mtb_5 5
set_option maxRecDepth 20000 in
theorem mfv_85 : MFv mr_85 := MFv_r (W_r (bi_5_11 MM_5) rfl) (W_r (sI_6 MM_10) rfl) rfl
set_option maxRecDepth 20000 in
theorem mt_86 : MT 86 = some mr_86 := mtb_5 6
set_option maxRecDepth 20000 in
theorem mfi_86 : MFi mr_86 := MFi_r (W_r (bi_2_4 MM_13) rfl) rfl rfl
set_option maxRecDepth 20000 in
theorem mt_87 : MT 87 = some mr_87 := mtb_5 7
set_option maxRecDepth 20000 in
theorem mfv_87 : MFv mr_87 := MFv_r (W_r (bi_4_13 MM_1) rfl) (W_r (sI_5 MM_4) rfl) rfl
set_option maxRecDepth 20000 in
theorem mt_88 : MT 88 = some mr_88 := mtb_5 8
set_option maxRecDepth 20000 in
theorem mfv_88 : MFv mr_88 := MFv_r (W_r (bi_5_10 MM_13) rfl) (W_r (sI_6 MM_9) rfl) rfl
set_option maxRecDepth 20000 in
theorem mt_89 : MT 89 = some mr_89 := mtb_5 9
set_option maxRecDepth 20000 in
theorem mfv_89 : MFv mr_89 := MFv_r (W_r (bi_4_13 MM_5) rfl) (W_r (sI_5 MM_5) rfl) rfl
set_option maxRecDepth 20000 in
theorem mt_90 : MT 90 = some mr_90 := mtb_5 10
set_option maxRecDepth 20000 in
theorem mfv_90 : MFv mr_90 := MFv_r (W_r (bi_2_8 MM_11) rfl) (W_r (sI_1 MM_0) rfl) rfl
set_option maxRecDepth 20000 in
theorem mt_91 : MT 91 = some mr_91 := mtb_5 11
set_option maxRecDepth 20000 in
theorem mfi_91 : MFi mr_91 := MFi_r (W_r (bi_1_2 MM_0) rfl) rfl rfl
set_option maxRecDepth 20000 in
theorem mt_92 : MT 92 = some mr_92 := mtb_5 12
set_option maxRecDepth 20000 in
theorem mfv_92 : MFv mr_92 := MFv_r (W_r (bi_5_4 MM_12) rfl) (W_r (sI_6 MM_0) rfl) rfl
set_option maxRecDepth 20000 in
theorem mt_93 : MT 93 = some mr_93 := mtb_5 13
set_option maxRecDepth 20000 in
theorem mfi_93 : MFi mr_93 := MFi_r (W_r (bi_1_9 MM_10) rfl) rfl rfl
set_option maxRecDepth 20000 in
theorem mt_94 : MT 94 = some mr_94 := mtb_5 14
set_option maxRecDepth 20000 in
theorem mfv_94 : MFv mr_94 := MFv_r (W_r (bi_5_4 MM_6) rfl) (W_r (sI_5 MM_15) rfl) rfl
set_option maxRecDepth 20000 in
theorem mt_95 : MT 95 = some mr_95 := mtb_5 15
set_option maxRecDepth 20000 in
theorem mfv_95 : MFv mr_95 := MFv_r (W_r (bi_5_4 MM_2) rfl) (W_r (sI_5 MM_14) rfl) rfl
set_option maxRecDepth 20000 in
theorem mt_96 : MT 96 = some mr_96 := mtb_6 0
set_option maxRecDepth 20000 in
theorem mfs_96 : Cond.static (my mr_96) ∈ TBL := W_r (bi_5_3 MM_14) rfl
set_option maxRecDepth 20000 in
theorem mt_97 : MT 97 = some mr_97 := mtb_6 1
set_option maxRecDepth 20000 in
theorem mfv_97 : MFv mr_97 := MFv_r (W_r (bi_5_5 MM_0) rfl) (W_r (sI_6 MM_1) rfl) rfl
set_option maxRecDepth 20000 in
theorem mt_98 : MT 98 = some mr_98 := mtb_6 2
set_option maxRecDepth 20000 in
theorem mfv_98 : MFv mr_98 := MFv_r (W_r (bi_5_3 MM_10) rfl) (W_r (sI_5 MM_13) rfl) rfl
set_option maxRecDepth 20000 in
theorem mt_99 : MT 99 = some mr_99 := mtb_6 3
set_option maxRecDepth 20000 in
theorem mfv_99 : MFv mr_99 := MFv_r (W_r (bi_5_5 MM_5) rfl) (W_r (sI_6 MM_2) rfl) rfl
set_option maxRecDepth 20000 in
theorem mt_100 : MT 100 = some mr_100 := mtb_6 4
set_option maxRecDepth 20000 in
theorem mfs_100 : Cond.static (my mr_100) ∈ TBL := W_r (bi_3_10 MM_10) rfl
set_option maxRecDepth 20000 in
theorem mt_101 : MT 101 = some mr_101 := mtb_6 5
set_option maxRecDepth 20000 in
theorem mfv_101 : MFv mr_101 := MFv_r (W_r (bi_4_13 MM_9) rfl) (W_r (bi_4_13 MM_10) rfl) rfl
set_option maxRecDepth 20000 in
theorem mt_102 : MT 102 = some mr_102 := mtb_6 6
set_option maxRecDepth 20000 in
theorem mfv_102 : MFv mr_102 := MFv_r (W_r (bi_5_1 MM_1) rfl) (W_r (bi_5_1 MM_2) rfl) rfl
set_option maxRecDepth 20000 in
theorem mt_103 : MT 103 = some mr_103 := mtb_6 7
set_option maxRecDepth 20000 in
theorem mfv_103 : MFv mr_103 := MFv_r (W_r (bi_5_2 MM_1) rfl) (W_r (bi_5_2 MM_2) rfl) rfl
set_option maxRecDepth 20000 in
theorem mt_104 : MT 104 = some mr_104 := mtb_6 8
set_option maxRecDepth 20000 in
theorem mfv_104 : MFv mr_104 := MFv_r (W_r (bi_5_2 MM_6) rfl) (W_r (sI_5 MM_11) rfl) rfl
set_option maxRecDepth 20000 in
theorem mt_105 : MT 105 = some mr_105 := mtb_6 9
set_option maxRecDepth 20000 in
theorem mfv_105 : MFv mr_105 := MFv_r (W_r (bi_5_9 MM_9) rfl) (W_r (bi_5_9 MM_10) rfl) rfl
set_option maxRecDepth 20000 in
theorem mt_106 : MT 106 = some mr_106 := mtb_6 10
set_option maxRecDepth 20000 in
theorem mfv_106 : MFv mr_106 := MFv_r (W_r (bi_5_5 MM_8) rfl) (W_r (bi_5_5 MM_9) rfl) rfl
set_option maxRecDepth 20000 in
theorem mt_107 : MT 107 = some mr_107 := mtb_6 11
set_option maxRecDepth 20000 in
theorem mfv_107 : MFv mr_107 := MFv_r (W_r (bi_4_0 MM_15) rfl) (W_r (bi_4_1 MM_0) rfl) rfl
set_option maxRecDepth 20000 in
theorem mt_108 : MT 108 = some mr_108 := mtb_6 12
set_option maxRecDepth 20000 in
theorem mfs_108 : Cond.static (my mr_108) ∈ TBL := W_r (bi_3_11 MM_6) rfl
set_option maxRecDepth 20000 in
theorem mt_109 : MT 109 = some mr_109 := mtb_6 13
set_option maxRecDepth 20000 in
theorem mfv_109 : MFv mr_109 := MFv_r (W_r (bi_4_13 MM_13) rfl) (W_r (bi_4_13 MM_14) rfl) rfl
set_option maxRecDepth 20000 in
theorem mt_110 : MT 110 = some mr_110 := mtb_6 14
set_option maxRecDepth 20000 in
theorem mfv_110 : MFv mr_110 := MFv_r (W_r (bi_5_7 MM_13) rfl) (W_r (bi_5_7 MM_14) rfl) rfl
set_option maxRecDepth 20000 in
theorem mt_111 : MT 111 = some mr_111 := mtb_6 15
set_option maxRecDepth 20000 in
theorem mfv_111 : MFv mr_111 := MFv_r (W_r (bi_4_6 MM_3) rfl) (W_r (bi_4_6 MM_4) rfl) rfl
set_option maxRecDepth 20000 in
theorem mt_112 : MT 112 = some mr_112 := mtb_7 0
set_option maxRecDepth 20000 in
theorem mfv_112 : MFv mr_112 := MFv_r (W_r (bi_3_11 MM_9) rfl) (W_r (bi_3_11 MM_10) rfl) rfl
set_option maxRecDepth 20000 in
theorem mt_113 : MT 113 = some mr_113 := mtb_7 1
set_option maxRecDepth 20000 in
theorem mfv_113 : MFv mr_113 := MFv_r (W_r (bi_3_13 MM_5) rfl) (W_r (bi_3_13 MM_6) rfl) rfl
set_option maxRecDepth 20000 in
theorem mt_114 : MT 114 = some mr_114 := mtb_7 2
set_option maxRecDepth 20000 in
theorem mfv_114 : MFv mr_114 := MFv_r (W_r (bi_3_9 MM_7) rfl) (W_r (sI_3 MM_2) rfl) rfl
set_option maxRecDepth 20000 in
theorem mt_115 : MT 115 = some mr_115 := mtb_7 3
set_option maxRecDepth 20000 in
theorem mfv_115 : MFv mr_115 := MFv_r (W_r (bi_5_7 MM_1) rfl) (W_r (sI_6 MM_3) rfl) rfl
set_option maxRecDepth 20000 in
theorem mt_116 : MT 116 = some mr_116 := mtb_7 4
set_option maxRecDepth 20000 in
theorem mfv_116 : MFv mr_116 := MFv_r (W_r (bi_3_6 MM_11) rfl) (W_r (bi_3_6 MM_12) rfl) rfl
set_option maxRecDepth 20000 in
theorem mt_117 : MT 117 = some mr_117 := mtb_7 5
set_option maxRecDepth 20000 in
theorem mfv_117 : MFv mr_117 := MFv_r (W_r (bi_4_6 MM_15) rfl) (W_r (bi_4_7 MM_0) rfl) rfl
set_option maxRecDepth 20000 in
theorem mt_118 : MT 118 = some mr_118 := mtb_7 6
set_option maxRecDepth 20000 in
theorem mfv_118 : MFv mr_118 := MFv_r (W_r (bi_2_8 MM_14) rfl) (W_r (bi_2_8 MM_15) rfl) rfl
set_option maxRecDepth 20000 in
theorem mt_119 : MT 119 = some mr_119 := mtb_7 7
set_option maxRecDepth 20000 in
theorem mfv_119 : MFv mr_119 := MFv_r (W_r (bi_4_11 MM_1) rfl) (W_r (bi_4_11 MM_2) rfl) rfl
set_option maxRecDepth 20000 in
theorem mt_120 : MT 120 = some mr_120 := mtb_7 8
set_option maxRecDepth 20000 in
theorem mfv_120 : MFv mr_120 := MFv_r (W_r (bi_3_7 MM_10) rfl) (W_r (bi_3_7 MM_11) rfl) rfl
set_option maxRecDepth 20000 in
theorem mt_121 : MT 121 = some mr_121 := mtb_7 9
set_option maxRecDepth 20000 in
theorem mfv_121 : MFv mr_121 := MFv_r (W_r (bi_3_6 MM_7) rfl) (W_r (bi_3_6 MM_8) rfl) rfl
set_option maxRecDepth 20000 in
theorem mt_122 : MT 122 = some mr_122 := mtb_7 10
set_option maxRecDepth 20000 in
theorem mfv_122 : MFv mr_122 := MFv_r (W_r (bi_2_8 MM_6) rfl) (W_r (bi_2_8 MM_7) rfl) rfl
set_option maxRecDepth 20000 in
theorem mt_123 : MT 123 = some mr_123 := mtb_7 11
set_option maxRecDepth 20000 in
theorem mfv_123 : MFv mr_123 := MFv_r (W_r (bi_4_3 MM_15) rfl) (W_r (bi_4_4 MM_0) rfl) rfl
set_option maxRecDepth 20000 in
theorem mt_124 : MT 124 = some mr_124 := mtb_7 12
set_option maxRecDepth 20000 in
theorem mfv_124 : MFv mr_124 := MFv_r (W_r (bi_5_1 MM_5) rfl) (W_r (bi_5_1 MM_6) rfl) rfl
set_option maxRecDepth 20000 in
theorem mt_125 : MT 125 = some mr_125 := mtb_7 13
set_option maxRecDepth 20000 in
theorem mfv_125 : MFv mr_125 := MFv_r (W_r (bi_4_7 MM_3) rfl) (W_r (bi_4_7 MM_4) rfl) rfl
set_option maxRecDepth 20000 in
theorem mt_126 : MT 126 = some mr_126 := mtb_7 14
set_option maxRecDepth 20000 in
theorem mfv_126 : MFv mr_126 := MFv_r (W_r (bi_4_7 MM_8) rfl) (W_r (sI_4 MM_11) rfl) rfl
set_option maxRecDepth 20000 in
theorem mt_127 : MT 127 = some mr_127 := mtb_7 15
set_option maxRecDepth 20000 in
theorem mfv_127 : MFv mr_127 := MFv_r (W_r (bi_4_8 MM_13) rfl) (W_r (sI_4 MM_13) rfl) rfl
set_option maxRecDepth 20000 in
theorem mt_128 : MT 128 = some mr_128 := mtb_8 0
set_option maxRecDepth 20000 in
theorem mfv_128 : MFv mr_128 := MFv_r (W_r (bi_5_8 MM_2) rfl) (W_r (sI_6 MM_4) rfl) rfl
set_option maxRecDepth 20000 in
theorem mt_129 : MT 129 = some mr_129 := mtb_8 1
set_option maxRecDepth 20000 in
theorem mfv_129 : MFv mr_129 := MFv_r (W_r (bi_4_3 MM_1) rfl) (W_r (sI_4 MM_3) rfl) rfl
set_option maxRecDepth 20000 in
theorem mt_130 : MT 130 = some mr_130 := mtb_8 2
set_option maxRecDepth 20000 in
theorem mfv_130 : MFv mr_130 := MFv_r (W_r (bi_4_2 MM_12) rfl) (W_r (bi_4_2 MM_13) rfl) rfl
set_option maxRecDepth 20000 in
theorem mt_131 : MT 131 = some mr_131 := mtb_8 3
set_option maxRecDepth 20000 in
theorem mfv_131 : MFv mr_131 := MFv_r (W_r (bi_4_9 MM_5) rfl) (W_r (bi_4_9 MM_6) rfl) rfl
set_option maxRecDepth 20000 in
theorem mt_132 : MT 132 = some mr_132 := mtb_8 4
set_option maxRecDepth 20000 in
theorem mfv_132 : MFv mr_132 := MFv_r (W_r (bi_4_14 MM_7) rfl) (W_r (sI_5 MM_6) rfl) rfl
set_option maxRecDepth 20000 in
theorem mt_133 : MT 133 = some mr_133 := mtb_8 5
set_option maxRecDepth 20000 in
theorem mfv_133 : MFv mr_133 := MFv_r (W_r (bi_4_14 MM_2) rfl) (W_r (bi_4_14 MM_3) rfl) rfl
set_option maxRecDepth 20000 in
theorem mt_134 : MT 134 = some mr_134 := mtb_8 6
set_option maxRecDepth 20000 in
theorem mfv_134 : MFv mr_134 := MFv_r (W_r (bi_4_1 MM_3) rfl) (W_r (bi_4_1 MM_4) rfl) rfl
set_option maxRecDepth 20000 in
theorem mt_135 : MT 135 = some mr_135 := mtb_8 7
set_option maxRecDepth 20000 in
theorem mfv_135 : MFv mr_135 := MFv_r (W_r (bi_4_8 MM_8) rfl) (W_r (bi_4_8 MM_9) rfl) rfl
set_option maxRecDepth 20000 in
theorem mt_136 : MT 136 = some mr_136 := mtb_8 8
set_option maxRecDepth 20000 in
theorem mfv_136 : MFv mr_136 := MFv_r (W_r (bi_4_3 MM_4) rfl) (W_r (bi_4_3 MM_5) rfl) rfl
set_option maxRecDepth 20000 in
theorem mt_137 : MT 137 = some mr_137 := mtb_8 9
set_option maxRecDepth 20000 in
theorem mfv_137 : MFv mr_137 := MFv_r (W_r (bi_5_3 MM_5) rfl) (W_r (bi_5_3 MM_6) rfl) rfl
set_option maxRecDepth 20000 in
theorem mt_138 : MT 138 = some mr_138 := mtb_8 10
set_option maxRecDepth 20000 in
theorem mfv_138 : MFv mr_138 := MFv_r (W_r (bi_3_7 MM_14) rfl) (W_r (bi_3_7 MM_15) rfl) rfl
set_option maxRecDepth 20000 in
theorem mt_139 : MT 139 = some mr_139 := mtb_8 11
set_option maxRecDepth 20000 in
theorem mfv_139 : MFv mr_139 := MFv_r (W_r (bi_4_14 MM_11) rfl) (W_r (sI_5 MM_7) rfl) rfl
set_option maxRecDepth 20000 in
theorem mt_140 : MT 140 = some mr_140 := mtb_8 12
set_option maxRecDepth 20000 in
theorem mfv_140 : MFv mr_140 := MFv_r (W_r (bi_5_0 MM_13) rfl) (W_r (bi_5_0 MM_14) rfl) rfl
set_option maxRecDepth 20000 in
theorem mt_141 : MT 141 = some mr_141 := mtb_8 13
set_option maxRecDepth 20000 in
theorem mfv_141 : MFv mr_141 := MFv_r (W_r (bi_4_3 MM_9) rfl) (W_r (bi_4_3 MM_10) rfl) rfl
set_option maxRecDepth 20000 in
theorem mt_142 : MT 142 = some mr_142 := mtb_8 14
set_option maxRecDepth 20000 in
theorem mfv_142 : MFv mr_142 := MFv_r (W_r (bi_5_8 MM_5) rfl) (W_r (bi_5_8 MM_6) rfl) rfl
set_option maxRecDepth 20000 in
theorem mt_143 : MT 143 = some mr_143 := mtb_8 15
set_option maxRecDepth 20000 in
theorem mfi_143 : MFi mr_143 := MFi_r (W_r (bi_1_1 MM_8) rfl) rfl rfl
set_option maxRecDepth 20000 in
theorem mt_144 : MT 144 = some mr_144 := mtb_9 0
set_option maxRecDepth 20000 in
theorem mfv_144 : MFv mr_144 := MFv_r (W_r (bi_4_1 MM_12) rfl) (W_r (sI_4 MM_0) rfl) rfl
set_option maxRecDepth 20000 in
theorem mt_145 : MT 145 = some mr_145 := mtb_9 1
set_option maxRecDepth 20000 in
theorem mfv_145 : MFv mr_145 := MFv_r (W_r (bi_4_10 MM_6) rfl) (W_r (sI_5 MM_0) rfl) rfl
set_option maxRecDepth 20000 in
theorem mt_146 : MT 146 = some mr_146 := mtb_9 2
set_option maxRecDepth 20000 in
theorem mfs_146 : Cond.static (my mr_146) ∈ TBL := W_r (bi_5_6 MM_12) rfl
set_option maxRecDepth 20000 in
theorem mt_147 : MT 147 = some mr_147 := mtb_9 3
set_option maxRecDepth 20000 in
theorem mfs_147 : Cond.static (my mr_147) ∈ TBL := W_r (bi_4_12 MM_13) rfl
set_option maxRecDepth 20000 in
theorem mt_148 : MT 148 = some mr_148 := mtb_9 4
set_option maxRecDepth 20000 in
theorem mfs_148 : Cond.static (my mr_148) ∈ TBL := W_r (bi_4_4 MM_3) rfl
set_option maxRecDepth 20000 in
theorem mt_149 : MT 149 = some mr_149 := mtb_9 5
set_option maxRecDepth 20000 in
theorem mfs_149 : Cond.static (my mr_149) ∈ TBL := W_r (bi_3_7 MM_7) rfl
set_option maxRecDepth 20000 in
theorem mt_150 : MT 150 = some mr_150 := mtb_9 6
set_option maxRecDepth 20000 in
theorem mfv_150 : MFv mr_150 := MFv_r (W_r (bi_4_11 MM_9) rfl) (W_r (bi_4_11 MM_10) rfl) rfl
set_option maxRecDepth 20000 in
theorem mt_151 : MT 151 = some mr_151 := mtb_9 7
set_option maxRecDepth 20000 in
theorem mfv_151 : MFv mr_151 := MFv_r (W_r (bi_5_3 MM_0) rfl) (W_r (bi_5_3 MM_1) rfl) rfl
set_option maxRecDepth 20000 in
theorem mt_152 : MT 152 = some mr_152 := mtb_9 8
set_option maxRecDepth 20000 in
theorem mfv_152 : MFv mr_152 := MFv_r (W_r (bi_4_9 MM_0) rfl) (W_r (bi_4_9 MM_1) rfl) rfl
set_option maxRecDepth 20000 in
theorem mt_153 : MT 153 = some mr_153 := mtb_9 9
set_option maxRecDepth 20000 in
theorem mfv_153 : MFv mr_153 := MFv_r (W_r (bi_5_2 MM_10) rfl) (W_r (sI_5 MM_12) rfl) rfl
set_option maxRecDepth 20000 in
theorem mt_154 : MT 154 = some mr_154 := mtb_9 10
set_option maxRecDepth 20000 in
theorem mfv_154 : MFv mr_154 := MFv_r (W_r (bi_3_7 MM_3) rfl) (W_r (bi_3_7 MM_4) rfl) rfl
set_option maxRecDepth 20000 in
theorem mt_155 : MT 155 = some mr_155 := mtb_9 11
set_option maxRecDepth 20000 in
theorem mfv_155 : MFv mr_155 := MFv_r (W_r (bi_3_14 MM_10) rfl) (W_r (bi_3_14 MM_11) rfl) rfl
set_option maxRecDepth 20000 in
theorem mt_156 : MT 156 = some mr_156 := mtb_9 12
set_option maxRecDepth 20000 in
theorem mfv_156 : MFv mr_156 := MFv_r (W_r (bi_3_14 MM_15) rfl) (W_r (sI_3 MM_13) rfl) rfl
set_option maxRecDepth 20000 in
theorem mt_157 : MT 157 = some mr_157 := mtb_9 13
set_option maxRecDepth 20000 in
theorem mfv_157 : MFv mr_157 := MFv_r (W_r (bi_4_12 MM_1) rfl) (W_r (bi_4_12 MM_2) rfl) rfl
set_option maxRecDepth 20000 in
theorem mt_158 : MT 158 = some mr_158 := mtb_9 14
set_option maxRecDepth 20000 in
theorem mfv_158 : MFv mr_158 := MFv_r (W_r (bi_3_11 MM_13) rfl) (W_r (bi_3_11 MM_14) rfl) rfl
set_option maxRecDepth 20000 in
theorem mt_159 : MT 159 = some mr_159 := mtb_9 15
set_option maxRecDepth 20000 in
theorem mfv_159 : MFv mr_159 := MFv_r (W_r (bi_3_8 MM_12) rfl) (W_r (bi_3_8 MM_13) rfl) rfl
set_option maxRecDepth 20000 in
theorem mt_160 : MT 160 = some mr_160 := mtb_10 0
set_option maxRecDepth 20000 in
theorem mfv_160 : MFv mr_160 := MFv_r (W_r (bi_4_7 MM_12) rfl) (W_r (sI_4 MM_12) rfl) rfl
set_option maxRecDepth 20000 in
theorem mt_161 : MT 161 = some mr_161 := mtb_10 1
set_option maxRecDepth 20000 in
theorem mfv_161 : MFv mr_161 := MFv_r (W_r (bi_5_6 MM_4) rfl) (W_r (bi_5_6 MM_5) rfl) rfl
set_option maxRecDepth 20000 in
theorem mt_162 : MT 162 = some mr_162 := mtb_10 2
set_option maxRecDepth 20000 in
theorem mfv_162 : MFv mr_162 := MFv_r (W_r (bi_5_11 MM_0) rfl) (W_r (bi_5_11 MM_1) rfl) rfl
set_option maxRecDepth 20000 in
theorem mt_163 : MT 163 = some mr_163 := mtb_10 3
set_option maxRecDepth 20000 in
theorem mfv_163 : MFv mr_163 := MFv_r (W_r (bi_4_10 MM_9) rfl) (W_r (bi_4_10 MM_10) rfl) rfl
set_option maxRecDepth 20000 in
theorem mt_164 : MT 164 = some mr_164 := mtb_10 4
set_option maxRecDepth 20000 in
theorem mfv_164 : MFv mr_164 := MFv_r (W_r (bi_4_10 MM_1) rfl) (W_r (bi_4_10 MM_2) rfl) rfl
set_option maxRecDepth 20000 in
theorem mt_165 : MT 165 = some mr_165 := mtb_10 5
set_option maxRecDepth 20000 in
theorem mfv_165 : MFv mr_165 := MFv_r (W_r (bi_5_9 MM_13) rfl) (W_r (bi_5_9 MM_14) rfl) rfl
set_option maxRecDepth 20000 in
theorem mt_166 : MT 166 = some mr_166 := mtb_10 6
set_option maxRecDepth 20000 in
theorem mfv_166 : MFv mr_166 := MFv_r (W_r (bi_3_12 MM_7) rfl) (W_r (bi_3_12 MM_8) rfl) rfl
set_option maxRecDepth 20000 in
theorem mt_167 : MT 167 = some mr_167 := mtb_10 7
set_option maxRecDepth 20000 in
theorem mfv_167 : MFv mr_167 := MFv_r (W_r (bi_3_12 MM_13) rfl) (W_r (bi_3_12 MM_14) rfl) rfl
set_option maxRecDepth 20000 in
theorem mt_168 : MT 168 = some mr_168 := mtb_10 8
set_option maxRecDepth 20000 in
theorem mfv_168 : MFv mr_168 := MFv_r (W_r (bi_4_12 MM_5) rfl) (W_r (bi_4_12 MM_6) rfl) rfl
set_option maxRecDepth 20000 in
theorem mt_169 : MT 169 = some mr_169 := mtb_10 9
set_option maxRecDepth 20000 in
theorem mfv_169 : MFv mr_169 := MFv_r (W_r (bi_2_9 MM_2) rfl) (W_r (bi_2_9 MM_3) rfl) rfl
set_option maxRecDepth 20000 in
theorem mt_170 : MT 170 = some mr_170 := mtb_10 10
set_option maxRecDepth 20000 in
theorem mfv_170 : MFv mr_170 := MFv_r (W_r (bi_4_6 MM_7) rfl) (W_r (bi_4_6 MM_8) rfl) rfl
set_option maxRecDepth 20000 in
theorem mt_171 : MT 171 = some mr_171 := mtb_10 11
set_option maxRecDepth 20000 in
theorem mfv_171 : MFv mr_171 := MFv_r (W_r (bi_4_9 MM_10) rfl) (W_r (sI_4 MM_14) rfl) rfl
set_option maxRecDepth 20000 in
theorem mt_172 : MT 172 = some mr_172 := mtb_10 12
set_option maxRecDepth 20000 in
theorem mfv_172 : MFv mr_172 := MFv_r (W_r (bi_5_6 MM_8) rfl) (W_r (bi_5_6 MM_9) rfl) rfl
set_option maxRecDepth 20000 in
theorem mt_173 : MT 173 = some mr_173 := mtb_10 13
set_option maxRecDepth 20000 in
theorem mfv_173 : MFv mr_173 := MFv_r (W_r (bi_5_1 MM_9) rfl) (W_r (bi_5_1 MM_10) rfl) rfl
set_option maxRecDepth 20000 in
theorem mt_174 : MT 174 = some mr_174 := mtb_10 14
set_option maxRecDepth 20000 in
theorem mfv_174 : MFv mr_174 := MFv_r (W_r (bi_4_1 MM_7) rfl) (W_r (bi_4_1 MM_8) rfl) rfl
set_option maxRecDepth 20000 in
theorem mt_175 : MT 175 = some mr_175 := mtb_10 15
set_option maxRecDepth 20000 in
theorem mfv_175 : MFv mr_175 := MFv_r (W_r (bi_5_5 MM_12) rfl) (W_r (bi_5_5 MM_13) rfl) rfl
set_option maxRecDepth 20000 in
theorem mt_176 : MT 176 = some mr_176 := mtb_11 0
set_option maxRecDepth 20000 in
theorem mfv_176 : MFv mr_176 := MFv_r (W_r (bi_3_13 MM_14) rfl) (W_r (bi_3_13 MM_15) rfl) rfl
set_option maxRecDepth 20000 in
theorem mt_177 : MT 177 = some mr_177 := mtb_11 1
set_option maxRecDepth 20000 in
theorem mfv_177 : MFv mr_177 := MFv_r (W_r (bi_5_6 MM_0) rfl) (W_r (bi_5_6 MM_1) rfl) rfl
set_option maxRecDepth 20000 in
theorem mt_178 : MT 178 = some mr_178 := mtb_11 2
set_option maxRecDepth 20000 in
theorem mfv_178 : MFv mr_178 := MFv_r (W_r (bi_4_8 MM_3) rfl) (W_r (bi_4_8 MM_4) rfl) rfl
set_option maxRecDepth 20000 in
theorem mt_179 : MT 179 = some mr_179 := mtb_11 3
set_option maxRecDepth 20000 in
theorem mfv_179 : MFv mr_179 := MFv_r (W_r (bi_4_7 MM_15) rfl) (W_r (bi_4_8 MM_0) rfl) rfl
set_option maxRecDepth 20000 in
theorem mt_180 : MT 180 = some mr_180 := mtb_11 4
set_option maxRecDepth 20000 in
theorem mfv_180 : MFv mr_180 := MFv_r (W_r (bi_4_12 MM_10) rfl) (W_r (sI_5 MM_3) rfl) rfl
set_option maxRecDepth 20000 in
theorem mt_181 : MT 181 = some mr_181 := mtb_11 5
set_option maxRecDepth 20000 in
theorem mfv_181 : MFv mr_181 := MFv_r (W_r (bi_4_2 MM_0) rfl) (W_r (bi_4_2 MM_1) rfl) rfl
set_option maxRecDepth 20000 in
theorem mt_182 : MT 182 = some mr_182 := mtb_11 6
set_option maxRecDepth 20000 in
theorem mfv_182 : MFv mr_182 := MFv_r (W_r (bi_4_10 MM_13) rfl) (W_r (bi_4_10 MM_14) rfl) rfl
set_option maxRecDepth 20000 in
theorem mt_183 : MT 183 = some mr_183 := mtb_11 7
set_option maxRecDepth 20000 in
theorem mfv_183 : MFv mr_183 := MFv_r (W_r (bi_3_12 MM_1) rfl) (W_r (bi_3_12 MM_2) rfl) rfl
set_option maxRecDepth 20000 in
theorem mt_184 : MT 184 = some mr_184 := mtb_11 8
set_option maxRecDepth 20000 in
theorem mfv_184 : MFv mr_184 := MFv_r (W_r (bi_4_9 MM_14) rfl) (W_r (sI_4 MM_15) rfl) rfl
set_option maxRecDepth 20000 in
theorem mt_185 : MT 185 = some mr_185 := mtb_11 9
set_option maxRecDepth 20000 in
theorem mfv_185 : MFv mr_185 := MFv_r (W_r (bi_5_10 MM_8) rfl) (W_r (bi_5_10 MM_9) rfl) rfl
set_option maxRecDepth 20000 in
theorem mt_186 : MT 186 = some mr_186 := mtb_11 10
set_option maxRecDepth 20000 in
theorem mfv_186 : MFv mr_186 := MFv_r (W_r (bi_4_0 MM_7) rfl) (W_r (bi_4_0 MM_8) rfl) rfl
set_option maxRecDepth 20000 in
theorem mt_187 : MT 187 = some mr_187 := mtb_11 11
set_option maxRecDepth 20000 in
theorem mfv_187 : MFv mr_187 := MFv_r (W_r (bi_5_7 MM_9) rfl) (W_r (bi_5_7 MM_10) rfl) rfl
set_option maxRecDepth 20000 in
theorem mt_188 : MT 188 = some mr_188 := mtb_11 12
set_option maxRecDepth 20000 in
theorem mfv_188 : MFv mr_188 := MFv_r (W_r (bi_7_2 MM_1) rfl) (W_r (sI_8 MM_11) rfl) rfl
set_option maxRecDepth 20000 in
theorem mt_189 : MT 189 = some mr_189 := mtb_11 13
set_option maxRecDepth 20000 in
theorem mfv_189 : MFv mr_189 := MFv_r (W_r (bi_6_5 MM_8) rfl) (W_r (sI_6 MM_11) rfl) rfl
set_option maxRecDepth 20000 in
theorem mt_190 : MT 190 = some mr_190 := mtb_11 14
set_option maxRecDepth 20000 in
theorem mfv_190 : MFv mr_190 := MFv_r (W_r (bi_8_8 MM_6) rfl) (W_r (sI_11 MM_2) rfl) rfl
set_option maxRecDepth 20000 in
theorem mt_191 : MT 191 = some mr_191 := mtb_11 15
set_option maxRecDepth 20000 in
theorem mfv_191 : MFv mr_191 := MFv_r (W_r (bi_8_3 MM_0) rfl) (W_r (bi_8_3 MM_1) rfl) rfl
set_option maxRecDepth 20000 in
theorem mt_192 : MT 192 = some mr_192 := mtb_12 0
set_option maxRecDepth 20000 in
theorem mfv_192 : MFv mr_192 := MFv_r (W_r (bi_7_6 MM_4) rfl) (W_r (sI_9 MM_4) rfl) rfl
set_option maxRecDepth 20000 in
theorem mt_193 : MT 193 = some mr_193 := mtb_12 1
set_option maxRecDepth 20000 in
theorem mfv_193 : MFv mr_193 := MFv_r (W_r (bi_8_4 MM_12) rfl) (W_r (bi_8_4 MM_13) rfl) rfl
set_option maxRecDepth 20000 in
theorem mt_194 : MT 194 = some mr_194 := mtb_12 2
set_option maxRecDepth 20000 in
theorem mfv_194 : MFv mr_194 := MFv_r (W_r (bi_8_4 MM_5) rfl) (W_r (sI_10 MM_9) rfl) rfl
set_option maxRecDepth 20000 in
theorem mt_195 : MT 195 = some mr_195 := mtb_12 3
set_option maxRecDepth 20000 in
theorem mfv_195 : MFv mr_195 := MFv_r (W_r (bi_7_6 MM_0) rfl) (W_r (sI_9 MM_3) rfl) rfl
set_option maxRecDepth 20000 in
theorem mt_196 : MT 196 = some mr_196 := mtb_12 4
set_option maxRecDepth 20000 in
theorem mfv_196 : MFv mr_196 := MFv_r (W_r (bi_8_5 MM_12) rfl) (W_r (bi_8_5 MM_13) rfl) rfl
set_option maxRecDepth 20000 in
theorem mt_197 : MT 197 = some mr_197 := mtb_12 5
set_option maxRecDepth 20000 in
theorem mfv_197 : MFv mr_197 := MFv_r (W_r (bi_8_6 MM_1) rfl) (W_r (sI_10 MM_11) rfl) rfl
set_option maxRecDepth 20000 in
theorem mt_198 : MT 198 = some mr_198 := mtb_12 6
set_option maxRecDepth 20000 in
theorem mfv_198 : MFv mr_198 := MFv_r (W_r (bi_8_2 MM_2) rfl) (W_r (sI_10 MM_4) rfl) rfl
set_option maxRecDepth 20000 in
theorem mt_199 : MT 199 = some mr_199 := mtb_12 7
set_option maxRecDepth 20000 in
theorem mfv_199 : MFv mr_199 := MFv_r (W_r (bi_6_4 MM_3) rfl) (W_r (bi_6_4 MM_4) rfl) rfl
set_option maxRecDepth 20000 in
theorem mt_200 : MT 200 = some mr_200 := mtb_12 8
set_option maxRecDepth 20000 in
theorem mfv_200 : MFv mr_200 := MFv_r (W_r (bi_8_8 MM_13) rfl) (W_r (bi_8_8 MM_14) rfl) rfl
set_option maxRecDepth 20000 in
theorem mt_201 : MT 201 = some mr_201 := mtb_12 9
set_option maxRecDepth 20000 in
theorem mfv_201 : MFv mr_201 := MFv_r (W_r (bi_7_7 MM_7) rfl) (W_r (bi_7_7 MM_8) rfl) rfl
set_option maxRecDepth 20000 in
theorem mt_202 : MT 202 = some mr_202 := mtb_12 10
set_option maxRecDepth 20000 in
theorem mfs_202 : Cond.static (my mr_202) ∈ TBL := W_r (bi_7_3 MM_0) rfl
set_option maxRecDepth 20000 in
theorem mt_203 : MT 203 = some mr_203 := mtb_12 11
set_option maxRecDepth 20000 in
theorem mfs_203 : Cond.static (my mr_203) ∈ TBL := W_r (bi_7_0 MM_1) rfl
set_option maxRecDepth 20000 in
theorem mt_204 : MT 204 = some mr_204 := mtb_12 12
set_option maxRecDepth 20000 in
theorem mfv_204 : MFv mr_204 := MFv_r (W_r (bi_7_3 MM_4) rfl) (W_r (sI_8 MM_15) rfl) rfl
set_option maxRecDepth 20000 in
theorem mt_205 : MT 205 = some mr_205 := mtb_12 13
set_option maxRecDepth 20000 in
theorem mfv_205 : MFv mr_205 := MFv_r (W_r (bi_8_3 MM_4) rfl) (W_r (bi_8_3 MM_5) rfl) rfl
set_option maxRecDepth 20000 in
theorem mt_206 : MT 206 = some mr_206 := mtb_12 14
set_option maxRecDepth 20000 in
theorem mfv_206 : MFv mr_206 := MFv_r (W_r (bi_8_11 MM_8) rfl) (W_r (bi_8_11 MM_9) rfl) rfl
set_option maxRecDepth 20000 in
theorem mt_207 : MT 207 = some mr_207 := mtb_12 15
set_option maxRecDepth 20000 in
theorem mfv_207 : MFv mr_207 := MFv_r (W_r (bi_7_10 MM_14) rfl) (W_r (bi_7_10 MM_15) rfl) rfl
set_option maxRecDepth 20000 in
theorem mt_208 : MT 208 = some mr_208 := mtb_13 0
set_option maxRecDepth 20000 in
theorem mfs_208 : Cond.static (my mr_208) ∈ TBL := W_r (bi_8_12 MM_4) rfl
set_option maxRecDepth 20000 in
theorem mt_209 : MT 209 = some mr_209 := mtb_13 1
set_option maxRecDepth 20000 in
theorem mfv_209 : MFv mr_209 := MFv_r (W_r (bi_6_10 MM_11) rfl) (W_r (sI_7 MM_10) rfl) rfl
set_option maxRecDepth 20000 in
theorem mt_210 : MT 210 = some mr_210 := mtb_13 2
set_option maxRecDepth 20000 in
theorem mfv_210 : MFv mr_210 := MFv_r (W_r (bi_7_3 MM_15) rfl) (W_r (bi_7_4 MM_0) rfl) rfl
set_option maxRecDepth 20000 in
theorem mt_211 : MT 211 = some mr_211 := mtb_13 3
set_option maxRecDepth 20000 in
theorem mfv_211 : MFv mr_211 := MFv_r (W_r (bi_7_14 MM_10) rfl) (W_r (sI_10 MM_1) rfl) rfl
set_option maxRecDepth 20000 in
theorem mt_212 : MT 212 = some mr_212 := mtb_13 4
set_option maxRecDepth 20000 in
theorem mfv_212 : MFv mr_212 := MFv_r (W_r (bi_6_14 MM_10) rfl) (W_r (sI_8 MM_4) rfl) rfl
set_option maxRecDepth 20000 in
theorem mt_213 : MT 213 = some mr_213 := mtb_13 5
set_option maxRecDepth 20000 in
theorem mfv_213 : MFv mr_213 := MFv_r (W_r (bi_7_1 MM_1) rfl) (W_r (sI_8 MM_7) rfl) rfl
set_option maxRecDepth 20000 in
theorem mt_214 : MT 214 = some mr_214 := mtb_13 6
set_option maxRecDepth 20000 in
theorem mfv_214 : MFv mr_214 := MFv_r (W_r (bi_7_8 MM_12) rfl) (W_r (sI_9 MM_7) rfl) rfl
set_option maxRecDepth 20000 in
theorem mt_215 : MT 215 = some mr_215 := mtb_13 7
set_option maxRecDepth 20000 in
theorem mfv_215 : MFv mr_215 := MFv_r (W_r (bi_7_9 MM_8) rfl) (W_r (sI_9 MM_8) rfl) rfl
set_option maxRecDepth 20000 in
theorem mt_216 : MT 216 = some mr_216 := mtb_13 8
set_option maxRecDepth 20000 in
theorem mfv_216 : MFv mr_216 := MFv_r (W_r (bi_7_5 MM_3) rfl) (W_r (bi_7_5 MM_4) rfl) rfl
set_option maxRecDepth 20000 in
theorem mt_217 : MT 217 = some mr_217 := mtb_13 9
set_option maxRecDepth 20000 in
theorem mfv_217 : MFv mr_217 := MFv_r (W_r (bi_6_11 MM_8) rfl) (W_r (sI_7 MM_12) rfl) rfl
set_option maxRecDepth 20000 in
theorem mt_218 : MT 218 = some mr_218 := mtb_13 10
set_option maxRecDepth 20000 in
theorem mfv_218 : MFv mr_218 := MFv_r (W_r (bi_8_2 MM_13) rfl) (W_r (sI_10 MM_6) rfl) rfl
set_option maxRecDepth 20000 in
theorem mt_219 : MT 219 = some mr_219 := mtb_13 11
set_option maxRecDepth 20000 in
theorem mfv_219 : MFv mr_219 := MFv_r (W_r (bi_6_12 MM_4) rfl) (W_r (bi_6_12 MM_5) rfl) rfl
set_option maxRecDepth 20000 in
theorem mt_220 : MT 220 = some mr_220 := mtb_13 12
set_option maxRecDepth 20000 in
theorem mfv_220 : MFv mr_220 := MFv_r (W_r (bi_7_11 MM_7) rfl) (W_r (bi_7_11 MM_8) rfl) rfl
set_option maxRecDepth 20000 in
theorem mt_221 : MT 221 = some mr_221 := mtb_13 13
set_option maxRecDepth 20000 in
theorem mfv_221 : MFv mr_221 := MFv_r (W_r (bi_6_4 MM_11) rfl) (W_r (bi_6_4 MM_12) rfl) rfl
set_option maxRecDepth 20000 in
theorem mt_222 : MT 222 = some mr_222 := mtb_13 14
set_option maxRecDepth 20000 in
theorem mfv_222 : MFv mr_222 := MFv_r (W_r (bi_8_0 MM_13) rfl) (W_r (bi_8_0 MM_14) rfl) rfl
set_option maxRecDepth 20000 in
theorem mt_223 : MT 223 = some mr_223 := mtb_13 15
set_option maxRecDepth 20000 in
theorem mfv_223 : MFv mr_223 := MFv_r (W_r (bi_6_7 MM_13) rfl) (W_r (sI_7 MM_2) rfl) rfl
set_option maxRecDepth 20000 in
theorem mt_224 : MT 224 = some mr_224 := mtb_14 0
set_option maxRecDepth 20000 in
theorem mfv_224 : MFv mr_224 := MFv_r (W_r (bi_6_13 MM_5) rfl) (W_r (bi_6_13 MM_6) rfl) rfl
set_option maxRecDepth 20000 in
theorem mt_225 : MT 225 = some mr_225 := mtb_14 1
set_option maxRecDepth 20000 in
theorem mfv_225 : MFv mr_225 := MFv_r (W_r (bi_6_4 MM_15) rfl) (W_r (bi_6_5 MM_0) rfl) rfl
set_option maxRecDepth 20000 in
theorem mt_226 : MT 226 = some mr_226 := mtb_14 2
set_option maxRecDepth 20000 in
theorem mfv_226 : MFv mr_226 := MFv_r (W_r (bi_6_4 MM_7) rfl) (W_r (bi_6_4 MM_8) rfl) rfl
set_option maxRecDepth 20000 in
theorem mt_227 : MT 227 = some mr_227 := mtb_14 3
set_option maxRecDepth 20000 in
theorem mfv_227 : MFv mr_227 := MFv_r (W_r (bi_7_9 MM_11) rfl) (W_r (bi_7_9 MM_12) rfl) rfl
set_option maxRecDepth 20000 in
theorem mt_228 : MT 228 = some mr_228 := mtb_14 4
set_option maxRecDepth 20000 in
theorem mfv_228 : MFv mr_228 := MFv_r (W_r (bi_7_10 MM_3) rfl) (W_r (sI_9 MM_9) rfl) rfl
set_option maxRecDepth 20000 in
theorem mt_229 : MT 229 = some mr_229 := mtb_14 5
set_option maxRecDepth 20000 in
theorem mfv_229 : MFv mr_229 := MFv_r (W_r (bi_7_2 MM_9) rfl) (W_r (sI_8 MM_13) rfl) rfl
set_option maxRecDepth 20000 in
theorem mt_230 : MT 230 = some mr_230 := mtb_14 6
set_option maxRecDepth 20000 in
theorem mfv_230 : MFv mr_230 := MFv_r (W_r (bi_8_5 MM_0) rfl) (W_r (bi_8_5 MM_1) rfl) rfl
set_option maxRecDepth 20000 in
theorem mt_231 : MT 231 = some mr_231 := mtb_14 7
set_option maxRecDepth 20000 in
theorem mfv_231 : MFv mr_231 := MFv_r (W_r (bi_8_5 MM_5) rfl) (W_r (sI_10 MM_10) rfl) rfl
set_option maxRecDepth 20000 in
theorem mt_232 : MT 232 = some mr_232 := mtb_14 8
set_option maxRecDepth 20000 in
theorem mfv_232 : MFv mr_232 := MFv_r (W_r (bi_7_11 MM_12) rfl) (W_r (bi_7_11 MM_13) rfl) rfl
set_option maxRecDepth 20000 in
theorem mt_233 : MT 233 = some mr_233 := mtb_14 9
set_option maxRecDepth 20000 in
theorem mfv_233 : MFv mr_233 := MFv_r (W_r (bi_7_13 MM_5) rfl) (W_r (sI_9 MM_14) rfl) rfl
set_option maxRecDepth 20000 in
theorem mt_234 : MT 234 = some mr_234 := mtb_14 10
set_option maxRecDepth 20000 in
theorem mfv_234 : MFv mr_234 := MFv_r (W_r (bi_6_10 MM_7) rfl) (W_r (sI_7 MM_9) rfl) rfl
set_option maxRecDepth 20000 in
theorem mt_235 : MT 235 = some mr_235 := mtb_14 11
set_option maxRecDepth 20000 in
theorem mfv_235 : MFv mr_235 := MFv_r (W_r (bi_7_8 MM_7) rfl) (W_r (bi_7_8 MM_8) rfl) rfl
set_option maxRecDepth 20000 in
theorem mt_236 : MT 236 = some mr_236 := mtb_14 12
set_option maxRecDepth 20000 in
theorem mfv_236 : MFv mr_236 := MFv_r (W_r (bi_7_14 MM_1) rfl) (W_r (bi_7_14 MM_2) rfl) rfl
set_option maxRecDepth 20000 in
theorem mt_237 : MT 237 = some mr_237 := mtb_14 13
set_option maxRecDepth 20000 in
theorem mfv_237 : MFv mr_237 := MFv_r (W_r (bi_6_6 MM_6) rfl) (W_r (sI_6 MM_13) rfl) rfl
set_option maxRecDepth 20000 in
theorem mt_238 : MT 238 = some mr_238 := mtb_14 14
set_option maxRecDepth 20000 in
theorem mfv_238 : MFv mr_238 := MFv_r (W_r (bi_8_4 MM_1) rfl) (W_r (sI_10 MM_8) rfl) rfl
set_option maxRecDepth 20000 in
theorem mt_239 : MT 239 = some mr_239 := mtb_14 15
set_option maxRecDepth 20000 in
theorem mfv_239 : MFv mr_239 := MFv_r (W_r (bi_8_3 MM_12) rfl) (W_r (bi_8_3 MM_13) rfl) rfl
set_option maxRecDepth 20000 in
theorem mt_240 : MT 240 = some mr_240 := mtb_15 0
set_option maxRecDepth 20000 in
theorem mfv_240 : MFv mr_240 := MFv_r (W_r (bi_7_7 MM_11) rfl) (W_r (bi_7_7 MM_12) rfl) rfl
set_option maxRecDepth 20000 in
theorem mt_241 : MT 241 = some mr_241 := mtb_15 1
set_option maxRecDepth 20000 in
theorem mfv_241 : MFv mr_241 := MFv_r (W_r (bi_7_13 MM_0) rfl) (W_r (bi_7_13 MM_1) rfl) rfl
set_option maxRecDepth 20000 in
theorem mt_242 : MT 242 = some mr_242 := mtb_15 2
set_option maxRecDepth 20000 in
theorem mfv_242 : MFv mr_242 := MFv_r (W_r (bi_7_13 MM_9) rfl) (W_r (sI_9 MM_15) rfl) rfl
set_option maxRecDepth 20000 in
theorem mt_243 : MT 243 = some mr_243 := mtb_15 3
set_option maxRecDepth 20000 in
theorem mfv_243 : MFv mr_243 := MFv_r (W_r (bi_7_8 MM_15) rfl) (W_r (bi_7_9 MM_0) rfl) rfl
set_option maxRecDepth 20000 in
theorem mt_244 : MT 244 = some mr_244 := mtb_15 4
set_option maxRecDepth 20000 in
theorem mfv_244 : MFv mr_244 := MFv_r (W_r (bi_8_6 MM_13) rfl) (W_r (bi_8_6 MM_14) rfl) rfl
set_option maxRecDepth 20000 in
theorem mt_245 : MT 245 = some mr_245 := mtb_15 5
set_option maxRecDepth 20000 in
theorem mfv_245 : MFv mr_245 := MFv_r (W_r (bi_6_13 MM_13) rfl) (W_r (bi_6_13 MM_14) rfl) rfl
set_option maxRecDepth 20000 in
theorem mt_246 : MT 246 = some mr_246 := mtb_15 6
set_option maxRecDepth 20000 in
theorem mfv_246 : MFv mr_246 := MFv_r (W_r (bi_8_4 MM_8) rfl) (W_r (bi_8_4 MM_9) rfl) rfl
set_option maxRecDepth 20000 in
theorem mt_247 : MT 247 = some mr_247 := mtb_15 7
set_option maxRecDepth 20000 in
theorem mfv_247 : MFv mr_247 := MFv_r (W_r (bi_7_9 MM_3) rfl) (W_r (bi_7_9 MM_4) rfl) rfl
set_option maxRecDepth 20000 in
theorem mt_248 : MT 248 = some mr_248 := mtb_15 8
set_option maxRecDepth 20000 in
theorem mfv_248 : MFv mr_248 := MFv_r (W_r (bi_6_3 MM_11) rfl) (W_r (bi_6_3 MM_12) rfl) rfl
set_option maxRecDepth 20000 in
theorem mt_249 : MT 249 = some mr_249 := mtb_15 9
set_option maxRecDepth 20000 in
theorem mfs_249 : Cond.static (my mr_249) ∈ TBL := W_r (bi_6_4 MM_0) rfl
set_option maxRecDepth 20000 in
theorem mt_250 : MT 250 = some mr_250 := mtb_15 10
set_option maxRecDepth 20000 in
theorem mfi_250 : MFi mr_250 := MFi_r (W_r (bi_5_11 MM_11) rfl) rfl rfl
set_option maxRecDepth 20000 in
theorem mt_251 : MT 251 = some mr_251 := mtb_15 11
set_option maxRecDepth 20000 in
theorem mfv_251 : MFv mr_251 := MFv_r (W_r (bi_6_7 MM_7) rfl) (W_r (sI_7 MM_1) rfl) rfl
set_option maxRecDepth 20000 in
theorem mt_252 : MT 252 = some mr_252 := mtb_15 12
set_option maxRecDepth 20000 in
theorem mfv_252 : MFv mr_252 := MFv_r (W_r (bi_7_2 MM_13) rfl) (W_r (sI_8 MM_14) rfl) rfl
set_option maxRecDepth 20000 in
theorem mt_253 : MT 253 = some mr_253 := mtb_15 13
set_option maxRecDepth 20000 in
theorem mfv_253 : MFv mr_253 := MFv_r (W_r (bi_8_3 MM_9) rfl) (W_r (sI_10 MM_7) rfl) rfl
set_option maxRecDepth 20000 in
theorem mt_254 : MT 254 = some mr_254 := mtb_15 14
set_option maxRecDepth 20000 in
theorem mfv_254 : MFv mr_254 := MFv_r (W_r (bi_6_12 MM_9) rfl) (W_r (sI_7 MM_15) rfl) rfl
set_option maxRecDepth 20000 in
theorem mt_255 : MT 255 = some mr_255 := mtb_15 15
set_option maxRecDepth 20000 in
theorem mfv_255 : MFv mr_255 := MFv_r (W_r (bi_6_13 MM_10) rfl) (W_r (sI_8 MM_1) rfl) rfl
set_option maxRecDepth 20000 in
theorem mt_256 : MT 256 = some mr_256 := mtb_16 0
set_option maxRecDepth 20000 in
theorem mfv_256 : MFv mr_256 := MFv_r (W_r (bi_8_8 MM_10) rfl) (W_r (sI_11 MM_3) rfl) rfl
set_option maxRecDepth 20000 in
theorem mt_257 : MT 257 = some mr_257 := mtb_16 1
set_option maxRecDepth 20000 in
theorem mfv_257 : MFv mr_257 := MFv_r (W_r (bi_6_11 MM_12) rfl) (W_r (sI_7 MM_13) rfl) rfl
set_option maxRecDepth 20000 in
theorem mt_258 : MT 258 = some mr_258 := mtb_16 2
set_option maxRecDepth 20000 in
theorem mfv_258 : MFv mr_258 := MFv_r (W_r (bi_6_14 MM_6) rfl) (W_r (sI_8 MM_3) rfl) rfl
set_option maxRecDepth 20000 in
theorem mt_259 : MT 259 = some mr_259 := mtb_16 3
set_option maxRecDepth 20000 in
theorem mfv_259 : MFv mr_259 := MFv_r (W_r (bi_7_0 MM_13) rfl) (W_r (sI_8 MM_6) rfl) rfl
set_option maxRecDepth 20000 in
theorem mt_260 : MT 260 = some mr_260 := mtb_16 4
set_option maxRecDepth 20000 in
theorem mfv_260 : MFv mr_260 := MFv_r (W_r (bi_6_10 MM_3) rfl) (W_r (sI_7 MM_8) rfl) rfl
set_option maxRecDepth 20000 in
theorem mt_261 : MT 261 = some mr_261 := mtb_16 5
set_option maxRecDepth 20000 in
theorem mfv_261 : MFv mr_261 := MFv_r (W_r (bi_8_0 MM_2) rfl) (W_r (sI_10 MM_2) rfl) rfl
set_option maxRecDepth 20000 in
theorem mt_262 : MT 262 = some mr_262 := mtb_16 6
set_option maxRecDepth 20000 in
theorem mfv_262 : MFv mr_262 := MFv_r (W_r (bi_7_7 MM_0) rfl) (W_r (sI_9 MM_6) rfl) rfl
set_option maxRecDepth 20000 in
theorem mt_263 : MT 263 = some mr_263 := mtb_16 7
set_option maxRecDepth 20000 in
theorem mfv_263 : MFv mr_263 := MFv_r (W_r (bi_7_5 MM_8) rfl) (W_r (sI_9 MM_2) rfl) rfl
set_option maxRecDepth 20000 in
theorem mt_264 : MT 264 = some mr_264 := mtb_16 8
set_option maxRecDepth 20000 in
theorem mfv_264 : MFv mr_264 := MFv_r (W_r (bi_6_14 MM_2) rfl) (W_r (sI_8 MM_2) rfl) rfl
set_option maxRecDepth 20000 in
theorem mt_265 : MT 265 = some mr_265 := mtb_16 9
set_option maxRecDepth 20000 in
theorem mfs_265 : Cond.static (my mr_265) ∈ TBL := W_r (bi_8_10 MM_6) rfl
set_option maxRecDepth 20000 in
theorem mt_266 : MT 266 = some mr_266 := mtb_16 10
set_option maxRecDepth 20000 in
theorem mfs_266 : Cond.static (my mr_266) ∈ TBL := W_r (bi_8_2 MM_5) rfl
set_option maxRecDepth 20000 in
theorem mt_267 : MT 267 = some mr_267 := mtb_16 11
set_option maxRecDepth 20000 in
theorem mfv_267 : MFv mr_267 := MFv_r (W_r (bi_7_14 MM_6) rfl) (W_r (sI_10 MM_0) rfl) rfl
set_option maxRecDepth 20000 in
theorem mt_268 : MT 268 = some mr_268 := mtb_16 12
set_option maxRecDepth 20000 in
theorem mfs_268 : Cond.static (my mr_268) ∈ TBL := W_r (bi_7_9 MM_15) rfl
set_option maxRecDepth 20000 in
theorem mt_269 : MT 269 = some mr_269 := mtb_16 13
set_option maxRecDepth 20000 in
theorem mfv_269 : MFv mr_269 := MFv_r (W_r (bi_6_14 MM_14) rfl) (W_r (sI_8 MM_5) rfl) rfl
set_option maxRecDepth 20000 in
theorem mt_270 : MT 270 = some mr_270 := mtb_16 14
set_option maxRecDepth 20000 in
theorem mfv_270 : MFv mr_270 := MFv_r (W_r (bi_7_3 MM_8) rfl) (W_r (sI_9 MM_0) rfl) rfl
set_option maxRecDepth 20000 in
theorem mt_271 : MT 271 = some mr_271 := mtb_16 15
set_option maxRecDepth 20000 in
theorem mfv_271 : MFv mr_271 := MFv_r (W_r (bi_7_1 MM_13) rfl) (W_r (sI_8 MM_10) rfl) rfl
set_option maxRecDepth 20000 in
theorem mt_272 : MT 272 = some mr_272 := mtb_17 0
set_option maxRecDepth 20000 in
theorem mfv_272 : MFv mr_272 := MFv_r (W_r (bi_7_1 MM_5) rfl) (W_r (sI_8 MM_8) rfl) rfl
set_option maxRecDepth 20000 in
theorem mt_273 : MT 273 = some mr_273 := mtb_17 1
set_option maxRecDepth 20000 in
theorem mfv_273 : MFv mr_273 := MFv_r (W_r (bi_7_10 MM_11) rfl) (W_r (sI_9 MM_11) rfl) rfl
set_option maxRecDepth 20000 in
theorem mt_274 : MT 274 = some mr_274 := mtb_17 2
set_option maxRecDepth 20000 in
theorem mfv_274 : MFv mr_274 := MFv_r (W_r (bi_7_2 MM_5) rfl) (W_r (sI_8 MM_12) rfl) rfl
set_option maxRecDepth 20000 in
theorem mt_275 : MT 275 = some mr_275 := mtb_17 3
set_option maxRecDepth 20000 in
theorem mfv_275 : MFv mr_275 := MFv_r (W_r (bi_7_10 MM_7) rfl) (W_r (sI_9 MM_10) rfl) rfl
set_option maxRecDepth 20000 in
theorem mt_276 : MT 276 = some mr_276 := mtb_17 4
set_option maxRecDepth 20000 in
theorem mfv_276 : MFv mr_276 := MFv_r (W_r (bi_8_1 MM_5) rfl) (W_r (bi_8_1 MM_6) rfl) rfl
set_option maxRecDepth 20000 in
theorem mt_277 : MT 277 = some mr_277 := mtb_17 5
set_option maxRecDepth 20000 in
theorem mfv_277 : MFv mr_277 := MFv_r (W_r (bi_8_7 MM_2) rfl) (W_r (sI_10 MM_13) rfl) rfl
set_option maxRecDepth 20000 in
theorem mt_278 : MT 278 = some mr_278 := mtb_17 6
set_option maxRecDepth 20000 in
theorem mfv_278 : MFv mr_278 := MFv_r (W_r (bi_8_6 MM_9) rfl) (W_r (bi_8_6 MM_10) rfl) rfl
set_option maxRecDepth 20000 in
theorem mt_279 : MT 279 = some mr_279 := mtb_17 7
set_option maxRecDepth 20000 in
theorem mfv_279 : MFv mr_279 := MFv_r (W_r (bi_7_13 MM_12) rfl) (W_r (bi_7_13 MM_13) rfl) rfl
set_option maxRecDepth 20000 in
theorem mt_280 : MT 280 = some mr_280 := mtb_17 8
set_option maxRecDepth 20000 in
theorem mfv_280 : MFv mr_280 := MFv_r (W_r (bi_6_13 MM_1) rfl) (W_r (bi_6_13 MM_2) rfl) rfl
set_option maxRecDepth 20000 in
theorem mt_281 : MT 281 = some mr_281 := mtb_17 9
set_option maxRecDepth 20000 in
theorem mfs_281 : Cond.static (my mr_281) ∈ TBL := W_r (bi_6_11 MM_0) rfl
set_option maxRecDepth 20000 in
theorem mt_282 : MT 282 = some mr_282 := mtb_17 10
set_option maxRecDepth 20000 in
theorem mfv_282 : MFv mr_282 := MFv_r (W_r (bi_7_6 MM_7) rfl) (W_r (bi_7_6 MM_8) rfl) rfl
set_option maxRecDepth 20000 in
theorem mt_283 : MT 283 = some mr_283 := mtb_17 11
set_option maxRecDepth 20000 in
theorem mfv_283 : MFv mr_283 := MFv_r (W_r (bi_7_6 MM_12) rfl) (W_r (sI_9 MM_5) rfl) rfl
set_option maxRecDepth 20000 in
theorem mt_284 : MT 284 = some mr_284 := mtb_17 12
set_option maxRecDepth 20000 in
theorem mfv_284 : MFv mr_284 := MFv_r (W_r (bi_8_9 MM_2) rfl) (W_r (sI_11 MM_4) rfl) rfl
set_option maxRecDepth 20000 in
theorem mt_285 : MT 285 = some mr_285 := mtb_17 13
set_option maxRecDepth 20000 in
theorem mfv_285 : MFv mr_285 := MFv_r (W_r (bi_7_3 MM_12) rfl) (W_r (sI_9 MM_1) rfl) rfl
set_option maxRecDepth 20000 in
theorem mt_286 : MT 286 = some mr_286 := mtb_17 14
set_option maxRecDepth 20000 in
theorem mfv_286 : MFv mr_286 := MFv_r (W_r (bi_6_6 MM_15) rfl) (W_r (sI_6 MM_15) rfl) rfl
set_option maxRecDepth 20000 in
theorem mt_287 : MT 287 = some mr_287 := mtb_17 15
set_option maxRecDepth 20000 in
theorem mfv_287 : MFv mr_287 := MFv_r (W_r (bi_8_1 MM_9) rfl) (W_r (bi_8_1 MM_10) rfl) rfl
set_option maxRecDepth 20000 in
theorem mt_288 : MT 288 = some mr_288 := mtb_18 0
set_option maxRecDepth 20000 in
theorem mfv_288 : MFv mr_288 := MFv_r (W_r (bi_6_8 MM_6) rfl) (W_r (sI_7 MM_4) rfl) rfl
set_option maxRecDepth 20000 in
theorem mt_289 : MT 289 = some mr_289 := mtb_18 1
set_option maxRecDepth 20000 in
theorem mfv_289 : MFv mr_289 := MFv_r (W_r (bi_8_2 MM_9) rfl) (W_r (sI_10 MM_5) rfl) rfl
set_option maxRecDepth 20000 in
theorem mt_290 : MT 290 = some mr_290 := mtb_18 2
set_option maxRecDepth 20000 in
theorem mfv_290 : MFv mr_290 := MFv_r (W_r (bi_6_12 MM_14) rfl) (W_r (sI_8 MM_0) rfl) rfl
set_option maxRecDepth 20000 in
theorem mt_291 : MT 291 = some mr_291 := mtb_18 3
set_option maxRecDepth 20000 in
theorem mfv_291 : MFv mr_291 := MFv_r (W_r (bi_7_4 MM_3) rfl) (W_r (bi_7_4 MM_4) rfl) rfl
set_option maxRecDepth 20000 in
theorem mt_292 : MT 292 = some mr_292 := mtb_18 4
set_option maxRecDepth 20000 in
theorem mfv_292 : MFv mr_292 := MFv_r (W_r (bi_7_0 MM_8) rfl) (W_r (bi_7_0 MM_9) rfl) rfl
set_option maxRecDepth 20000 in
theorem mt_293 : MT 293 = some mr_293 := mtb_18 5
set_option maxRecDepth 20000 in
theorem mfv_293 : MFv mr_293 := MFv_r (W_r (bi_8_7 MM_6) rfl) (W_r (sI_10 MM_14) rfl) rfl
set_option maxRecDepth 20000 in
theorem mt_294 : MT 294 = some mr_294 := mtb_18 6
set_option maxRecDepth 20000 in
theorem mfv_294 : MFv mr_294 := MFv_r (W_r (bi_8_8 MM_2) rfl) (W_r (sI_11 MM_1) rfl) rfl
set_option maxRecDepth 20000 in
theorem mt_295 : MT 295 = some mr_295 := mtb_18 7
set_option maxRecDepth 20000 in
theorem mfv_295 : MFv mr_295 := MFv_r (W_r (bi_7_12 MM_1) rfl) (W_r (sI_9 MM_12) rfl) rfl
set_option maxRecDepth 20000 in
theorem mt_296 : MT 296 = some mr_296 := mtb_18 8
set_option maxRecDepth 20000 in
theorem mfv_296 : MFv mr_296 := MFv_r (W_r (bi_8_9 MM_14) rfl) (W_r (bi_8_9 MM_15) rfl) rfl
set_option maxRecDepth 20000 in
theorem mt_297 : MT 297 = some mr_297 := mtb_18 9
set_option maxRecDepth 20000 in
theorem mfv_297 : MFv mr_297 := MFv_r (W_r (bi_8_12 MM_7) rfl) (W_r (bi_8_12 MM_8) rfl) rfl
set_option maxRecDepth 20000 in
theorem mt_298 : MT 298 = some mr_298 := mtb_18 10
set_option maxRecDepth 20000 in
theorem mfv_298 : MFv mr_298 := MFv_r (W_r (bi_8_7 MM_10) rfl) (W_r (sI_10 MM_15) rfl) rfl
set_option maxRecDepth 20000 in
theorem mt_299 : MT 299 = some mr_299 := mtb_18 11
set_option maxRecDepth 20000 in
theorem mfv_299 : MFv mr_299 := MFv_r (W_r (bi_6_9 MM_7) rfl) (W_r (sI_7 MM_6) rfl) rfl
set_option maxRecDepth 20000 in
theorem mt_300 : MT 300 = some mr_300 := mtb_18 12
set_option maxRecDepth 20000 in
theorem mfv_300 : MFv mr_300 := MFv_r (W_r (bi_6_9 MM_15) rfl) (W_r (sI_7 MM_7) rfl) rfl
set_option maxRecDepth 20000 in
theorem mt_301 : MT 301 = some mr_301 := mtb_18 13
set_option maxRecDepth 20000 in
theorem mfv_301 : MFv mr_301 := MFv_r (W_r (bi_6_6 MM_10) rfl) (W_r (sI_6 MM_14) rfl) rfl
set_option maxRecDepth 20000 in
theorem mt_302 : MT 302 = some mr_302 := mtb_18 14
set_option maxRecDepth 20000 in
theorem mfv_302 : MFv mr_302 := MFv_r (W_r (bi_6_8 MM_11) rfl) (W_r (sI_7 MM_5) rfl) rfl
set_option maxRecDepth 20000 in
theorem mt_303 : MT 303 = some mr_303 := mtb_18 15
set_option maxRecDepth 20000 in
theorem mfv_303 : MFv mr_303 := MFv_r (W_r (bi_6_12 MM_0) rfl) (W_r (sI_7 MM_14) rfl) rfl
set_option maxRecDepth 20000 in
theorem mt_304 : MT 304 = some mr_304 := mtb_19 0
set_option maxRecDepth 20000 in
theorem mfv_304 : MFv mr_304 := MFv_r (W_r (bi_6_11 MM_4) rfl) (W_r (sI_7 MM_11) rfl) rfl
set_option maxRecDepth 20000 in
theorem mt_305 : MT 305 = some mr_305 := mtb_19 1
set_option maxRecDepth 20000 in
theorem mfv_305 : MFv mr_305 := MFv_r (W_r (bi_7_1 MM_9) rfl) (W_r (sI_8 MM_9) rfl) rfl
set_option maxRecDepth 20000 in
theorem mt_306 : MT 306 = some mr_306 := mtb_19 2
set_option maxRecDepth 20000 in
theorem mfv_306 : MFv mr_306 := MFv_r (W_r (bi_8_0 MM_5) rfl) (W_r (bi_8_0 MM_6) rfl) rfl
set_option maxRecDepth 20000 in
theorem mt_307 : MT 307 = some mr_307 := mtb_19 3
set_option maxRecDepth 20000 in
theorem mfv_307 : MFv mr_307 := MFv_r (W_r (bi_7_14 MM_13) rfl) (W_r (bi_7_14 MM_14) rfl) rfl
set_option maxRecDepth 20000 in
theorem mt_308 : MT 308 = some mr_308 := mtb_19 4
set_option maxRecDepth 20000 in
theorem mfv_308 : MFv mr_308 := MFv_r (W_r (bi_8_11 MM_12) rfl) (W_r (bi_8_11 MM_13) rfl) rfl
set_option maxRecDepth 20000 in
theorem mt_309 : MT 309 = some mr_309 := mtb_19 5
set_option maxRecDepth 20000 in
theorem mfv_309 : MFv mr_309 := MFv_r (W_r (bi_7_4 MM_11) rfl) (W_r (bi_7_4 MM_12) rfl) rfl
set_option maxRecDepth 20000 in
theorem mt_310 : MT 310 = some mr_310 := mtb_19 6
set_option maxRecDepth 20000 in
theorem mfv_310 : MFv mr_310 := MFv_r (W_r (bi_7_4 MM_15) rfl) (W_r (bi_7_5 MM_0) rfl) rfl
set_option maxRecDepth 20000 in
theorem mt_311 : MT 311 = some mr_311 := mtb_19 7
set_option maxRecDepth 20000 in
theorem mfv_311 : MFv mr_311 := MFv_r (W_r (bi_8_1 MM_13) rfl) (W_r (bi_8_1 MM_14) rfl) rfl
set_option maxRecDepth 20000 in
theorem mt_312 : MT 312 = some mr_312 := mtb_19 8
set_option maxRecDepth 20000 in
theorem mfv_312 : MFv mr_312 := MFv_r (W_r (bi_6_5 MM_3) rfl) (W_r (bi_6_5 MM_4) rfl) rfl
set_option maxRecDepth 20000 in
theorem mt_313 : MT 313 = some mr_313 := mtb_19 9
set_option maxRecDepth 20000 in
theorem mfv_313 : MFv mr_313 := MFv_r (W_r (bi_6_5 MM_12) rfl) (W_r (sI_6 MM_12) rfl) rfl
set_option maxRecDepth 20000 in
theorem mt_314 : MT 314 = some mr_314 := mtb_19 10
set_option maxRecDepth 20000 in
theorem mfv_314 : MFv mr_314 := MFv_r (W_r (bi_7_11 MM_2) rfl) (W_r (bi_7_11 MM_3) rfl) rfl
set_option maxRecDepth 20000 in
theorem mt_315 : MT 315 = some mr_315 := mtb_19 11
set_option maxRecDepth 20000 in
theorem mfv_315 : MFv mr_315 := MFv_r (W_r (bi_8_10 MM_2) rfl) (W_r (bi_8_10 MM_3) rfl) rfl
set_option maxRecDepth 20000 in
theorem mt_316 : MT 316 = some mr_316 := mtb_19 12
set_option maxRecDepth 20000 in
theorem mfv_316 : MFv mr_316 := MFv_r (W_r (bi_8_10 MM_11) rfl) (W_r (sI_11 MM_5) rfl) rfl
set_option maxRecDepth 20000 in
theorem mt_317 : MT 317 = some mr_317 := mtb_19 13
set_option maxRecDepth 20000 in
theorem mfv_317 : MFv mr_317 := MFv_r (W_r (bi_8_5 MM_8) rfl) (W_r (bi_8_5 MM_9) rfl) rfl
set_option maxRecDepth 20000 in
theorem mt_318 : MT 318 = some mr_318 := mtb_19 14
set_option maxRecDepth 20000 in
theorem mfv_318 : MFv mr_318 := MFv_r (W_r (bi_6_7 MM_3) rfl) (W_r (sI_7 MM_0) rfl) rfl
set_option maxRecDepth 20000 in
theorem mt_319 : MT 319 = some mr_319 := mtb_19 15
set_option maxRecDepth 20000 in
theorem mfv_319 : MFv mr_319 := MFv_r (W_r (bi_8_7 MM_14) rfl) (W_r (sI_11 MM_0) rfl) rfl
set_option maxRecDepth 20000 in
theorem mt_320 : MT 320 = some mr_320 := mtb_20 0
set_option maxRecDepth 20000 in
theorem mfv_320 : MFv mr_320 := MFv_r (W_r (bi_7_7 MM_15) rfl) (W_r (bi_7_8 MM_0) rfl) rfl
set_option maxRecDepth 20000 in
theorem mt_321 : MT 321 = some mr_321 := mtb_20 1
set_option maxRecDepth 20000 in
theorem mfv_321 : MFv mr_321 := MFv_r (W_r (bi_8_1 MM_2) rfl) (W_r (sI_10 MM_3) rfl) rfl
set_option maxRecDepth 20000 in
theorem mt_322 : MT 322 = some mr_322 := mtb_20 2
set_option maxRecDepth 20000 in
theorem mfv_322 : MFv mr_322 := MFv_r (W_r (bi_8_9 MM_5) rfl) (W_r (bi_8_9 MM_6) rfl) rfl
set_option maxRecDepth 20000 in
theorem mt_323 : MT 323 = some mr_323 := mtb_20 3
set_option maxRecDepth 20000 in
theorem mfv_323 : MFv mr_323 := MFv_r (W_r (bi_6_8 MM_2) rfl) (W_r (sI_7 MM_3) rfl) rfl
set_option maxRecDepth 20000 in
theorem mt_324 : MT 324 = some mr_324 := mtb_20 4
set_option maxRecDepth 20000 in
theorem mfv_324 : MFv mr_324 := MFv_r (W_r (bi_7_5 MM_11) rfl) (W_r (bi_7_5 MM_12) rfl) rfl
set_option maxRecDepth 20000 in
theorem mt_325 : MT 325 = some mr_325 := mtb_20 5
set_option maxRecDepth 20000 in
theorem mfv_325 : MFv mr_325 := MFv_r (W_r (bi_8_9 MM_9) rfl) (W_r (bi_8_9 MM_10) rfl) rfl
set_option maxRecDepth 20000 in
theorem mt_326 : MT 326 = some mr_326 := mtb_20 6
set_option maxRecDepth 20000 in
theorem mfv_326 : MFv mr_326 := MFv_r (W_r (bi_7_12 MM_12) rfl) (W_r (bi_7_12 MM_13) rfl) rfl
set_option maxRecDepth 20000 in
theorem mt_327 : MT 327 = some mr_327 := mtb_20 7
set_option maxRecDepth 20000 in
theorem mfv_327 : MFv mr_327 := MFv_r (W_r (bi_7_12 MM_9) rfl) (W_r (sI_9 MM_13) rfl) rfl
set_option maxRecDepth 20000 in
theorem mt_328 : MT 328 = some mr_328 := mtb_20 8
set_option maxRecDepth 20000 in
theorem mfv_328 : MFv mr_328 := MFv_r (W_r (bi_7_12 MM_4) rfl) (W_r (bi_7_12 MM_5) rfl) rfl
set_option maxRecDepth 20000 in
theorem mt_329 : MT 329 = some mr_329 := mtb_20 9
set_option maxRecDepth 20000 in
theorem mfv_329 : MFv mr_329 := MFv_r (W_r (bi_7_8 MM_3) rfl) (W_r (bi_7_8 MM_4) rfl) rfl
set_option maxRecDepth 20000 in
theorem mt_330 : MT 330 = some mr_330 := mtb_20 10
set_option maxRecDepth 20000 in
theorem mfv_330 : MFv mr_330 := MFv_r (W_r (bi_8_0 MM_9) rfl) (W_r (bi_8_0 MM_10) rfl) rfl
set_option maxRecDepth 20000 in
theorem mt_331 : MT 331 = some mr_331 := mtb_20 11
set_option maxRecDepth 20000 in
theorem mfv_331 : MFv mr_331 := MFv_r (W_r (bi_7_4 MM_7) rfl) (W_r (bi_7_4 MM_8) rfl) rfl
set_option maxRecDepth 20000 in
theorem mt_332 : MT 332 = some mr_332 := mtb_20 12
set_option maxRecDepth 20000 in
theorem mfv_332 : MFv mr_332 := MFv_r (W_r (bi_8_6 MM_5) rfl) (W_r (sI_10 MM_12) rfl) rfl
set_option maxRecDepth 20000 in
theorem mt_333 : MT 333 = some mr_333 := mtb_20 13
set_option maxRecDepth 20000 in
theorem mfv_333 : MFv mr_333 := MFv_r (W_r (bi_8_12 MM_0) rfl) (W_r (bi_8_12 MM_1) rfl) rfl
set_option maxRecDepth 20000 in
theorem mt_334 : MT 334 = some mr_334 := mtb_20 14
set_option maxRecDepth 20000 in
theorem mfv_334 : MFv mr_334 := MFv_r (W_r (bi_7_7 MM_3) rfl) (W_r (bi_7_7 MM_4) rfl) rfl
set_option maxRecDepth 20000 in
theorem mt_335 : MT 335 = some mr_335 := mtb_20 15
set_option maxRecDepth 20000 in
theorem mfv_335 : MFv mr_335 := MFv_r (W_r (bi_8_11 MM_3) rfl) (W_r (bi_8_11 MM_4) rfl) rfl
set_option maxRecDepth 20000 in
theorem ok_0 : FOK MT mr_0 := FK_r (FW_r (by decide +kernel) (by decide +kernel)) AL_n (AL_c (CK_6 mt_3 (bi_2_12 MM_6) mfj_3) (AL_c (CK_2 mt_5 (bi_2_12 MM_10) mfs_5) AL_n) : ∀ q ∈ ([(492, 6, 3, 2, 198), (495, 2, 5, 2, 202)] : List AK), CKok MT mr_0 q) AL_n AL_n AL_n (AL_c (XS_1 (bi_8_12 MM_11)) AL_n : ∀ q ∈ ([(9, 1, 0, 8, 203)] : List AKs), XOK mr_0 q)
theorem pf_of {x : MethodName} {f : NativeRow → Bool} (h : Jvm.natives.all f = true) (k : ∀ r, f r = true → (r.name == x.name && r.cls == x.cls && r.desc == x.desc) = false) : plainFor x = true := by
  unfold plainFor
  rw [Bool.or_eq_true]
  refine Or.inr ?_
  unfold NativeRow.find?
  rw [Option.isNone_iff_eq_none, List.find?_eq_none]
  intro r hr
  rw [k r (List.all_eq_true.mp h r hr)]
  decide
theorem pf_nat : (Jvm.natives.all fun r => !(r.name == "max" && r.cls == "java/lang/Math" && r.desc == "(II)I") && !(r.name == "min" && r.cls == "java/lang/Math" && r.desc == "(II)I")) = true := by
  unfold Jvm.natives
  simp only [List.all_append, Bool.and_eq_true]
  (repeat' apply And.intro) <;> decide +kernel
set_option maxRecDepth 20000 in
theorem gk_0 : GOK mr_0 := GK_r (bi_2_12 MM_5) cni_RJ0 (by decide +kernel) cnh_RJ0 pds_0
set_option maxRecDepth 20000 in
theorem ok_1 : FOK MT mr_1 := FK_r (FW_r (by decide +kernel) (by decide +kernel)) AL_n (AL_c (CK_2 mt_6 (bi_2_13 MM_2) mfs_6) AL_n : ∀ q ∈ ([(1059, 2, 6, 2, 210)] : List AK), CKok MT mr_1 q) AL_n AL_n AL_n (AL_c (XS_4 (bi_2_13 MM_0)) AL_n : ∀ q ∈ ([(1053, 4, 0, 2, 208)] : List AKs), XOK mr_1 q)
set_option maxRecDepth 20000 in
theorem gk_1 : GOK mr_1 := GK_r (bi_2_12 MM_15) cni_RJ0 (by decide +kernel) cnh_RJ0 pds_1
set_option maxRecDepth 20000 in
theorem ok_2 : FOK MT mr_2 := FK_r (FW_r (by decide +kernel) (by decide +kernel)) AL_n AL_n AL_n AL_n AL_n (AL_c (XS_3 (bi_2_12 MM_0)) (AL_c (XS_2 (bi_8_12 MM_12)) AL_n) : ∀ q ∈ ([(38, 3, 0, 2, 192), (15, 2, 0, 8, 204)] : List AKs), XOK mr_2 q)
set_option maxRecDepth 20000 in
theorem gk_2 : GOK mr_2 := GK_r (bi_2_11 MM_15) cni_RJ0 (by decide +kernel) cnh_RJ0 pds_2
set_option maxRecDepth 20000 in
theorem ok_3 : FOK MT mr_3 := FK_r (FW_r (by decide +kernel) (by decide +kernel)) AL_n AL_n AL_n AL_n AL_n (AL_c (XS_3 (bi_2_12 MM_0)) (AL_c (XS_2 (bi_8_12 MM_12)) AL_n) : ∀ q ∈ ([(38, 3, 0, 2, 192), (15, 2, 0, 8, 204)] : List AKs), XOK mr_3 q)
set_option maxRecDepth 20000 in
theorem gk_3 : GOK mr_3 := GK_r (bi_2_12 MM_9) cni_RJ0 (by decide +kernel) cnh_RJ0 pds_3
set_option maxRecDepth 20000 in
theorem ok_4 : FOK MT mr_4 := FK_r (FW_r (by decide +kernel) (by decide +kernel)) AL_n (AL_c (CK_6 mt_2 (bi_2_11 MM_12) mfj_2) AL_n : ∀ q ∈ ([(335, 6, 2, 2, 188)] : List AK), CKok MT mr_4 q) AL_n AL_n AL_n (AL_c (XS_1 (bi_8_12 MM_11)) AL_n : ∀ q ∈ ([(9, 1, 0, 8, 203)] : List AKs), XOK mr_4 q)
set_option maxRecDepth 20000 in
theorem gk_4 : GOK mr_4 := GK_r (bi_2_11 MM_11) cni_RJ0 (by decide +kernel) cnh_RJ0 pds_4
set_option maxRecDepth 20000 in
theorem ok_5 : FOK MT mr_5 := FK_r (FW_r (by decide +kernel) (by decide +kernel)) AL_n (AL_c (CK_2 mt_1 (bi_2_12 MM_13) mfs_1) AL_n : ∀ q ∈ ([(9, 2, 1, 2, 205)] : List AK), CKok MT mr_5 q) AL_n AL_n AL_n AL_n
set_option maxRecDepth 20000 in
theorem gk_5 : GOK mr_5 := GK_r (bi_2_12 MM_12) cni_RJ1 (by decide +kernel) cnh_RJ1 pds_5
set_option maxRecDepth 20000 in
theorem ok_6 : FOK MT mr_6 := FK_r (FW_r (by decide +kernel) (by decide +kernel)) AL_n AL_n AL_n AL_n AL_n AL_n
set_option maxRecDepth 20000 in
theorem gk_6 : GOK mr_6 := GK_r (bi_2_13 MM_4) cni_RJ3 (by decide +kernel) cnh_RJ3 pds_6
set_option maxRecDepth 20000 in
theorem ok_7 : FOK MT mr_7 := FK_r (FW_r (by decide +kernel) (by decide +kernel)) AL_n AL_n (AL_c (W_r (bi_1_7 MM_1) rfl) (AL_c (W_r (bi_1_7 MM_2) rfl) (AL_c (W_r (bi_1_7 MM_3) rfl) AL_n)) : ∀ q ∈ ([(265, 1431655765, 1, 113), (266, 858993459, 1, 114), (267, 252645135, 1, 115)] : List AKi), Cond.constant (my mr_7).cls q.1 q.2.1 ∈ TBL) AL_n AL_n AL_n
set_option maxRecDepth 20000 in
theorem gk_7 : GOK mr_7 := GK_r (bi_1_7 MM_0) cni_RJ6 (by decide +kernel) cnh_RJ6 pds_7
set_option maxRecDepth 20000 in
theorem ok_8 : FOK MT mr_8 := FK_r (FW_r (by decide +kernel) (by decide +kernel)) AL_n AL_n AL_n AL_n AL_n AL_n
set_option maxRecDepth 20000 in
theorem gk_8 : GOK mr_8 := GK_r (bi_2_9 MM_15) cni_RJ7 (by decide +kernel) cnh_RJ7 pds_8
set_option maxRecDepth 20000 in
theorem ok_9 : FOK MT mr_9 := FK_r (FW_r (by decide +kernel) (by decide +kernel)) AL_n AL_n AL_n AL_n AL_n AL_n
set_option maxRecDepth 20000 in
theorem gk_9 : GOK mr_9 := GK_r (bi_5_10 MM_6) cni_RJ7 (by decide +kernel) cnh_RJ7 pds_9
set_option maxRecDepth 20000 in
theorem ok_10 : FOK MT mr_10 := FK_r (FW_r (by decide +kernel) (by decide +kernel)) AL_n AL_n AL_n AL_n AL_n AL_n
set_option maxRecDepth 20000 in
theorem gk_10 : GOK mr_10 := GK_r (bi_5_2 MM_14) cni_RJ9 (pf_of pf_nat (fun r h => by rw [Bool.and_eq_true, Bool.not_eq_true', Bool.not_eq_true'] at h; first | exact h.1 | exact h.2)) cnh_RJ9 pds_10
set_option maxRecDepth 20000 in
theorem ok_11 : FOK MT mr_11 := FK_r (FW_r (by decide +kernel) (by decide +kernel)) AL_n AL_n AL_n AL_n AL_n AL_n
set_option maxRecDepth 20000 in
theorem gk_11 : GOK mr_11 := GK_r (bi_2_10 MM_14) cni_RJ9 (pf_of pf_nat (fun r h => by rw [Bool.and_eq_true, Bool.not_eq_true', Bool.not_eq_true'] at h; first | exact h.1 | exact h.2)) cnh_RJ9 pds_10
set_option maxRecDepth 20000 in
theorem ok_12 : FOK MT mr_12 := FK_r (FW_r (by decide +kernel) (by decide +kernel)) (AL_c (FL_0 rfl rfl (bi_1_13 MM_7) rfl) (AL_c (FL_0 rfl rfl (bi_1_13 MM_9) rfl) (AL_c (FL_0 rfl rfl (bi_1_13 MM_11) rfl) (AL_c (FL_3 rfl rfl (bi_1_13 MM_4)) (AL_c (FL_1 rfl rfl (bi_1_12 MM_2) rfl) AL_n)))) : ∀ q ∈ ([(22, 0, 1, 0, 1, 215), (25, 0, 2, 0, 1, 217), (18, 0, 3, 0, 1, 219), (12, 0, 0, 3, 1, 212), (28, 3, 2, 1, 1, 194)] : List AF), FLok mr_12 q) AL_n AL_n AL_n AL_n AL_n
set_option maxRecDepth 20000 in
theorem gk_12 : GOK mr_12 := GK_r (bi_3_1 MM_10) cni_RX0 (plain_of cpl_RX0) cnh_RX0 pds_1
set_option maxRecDepth 20000 in
theorem ok_13 : FOK MT mr_13 := FK_r (FW_r (by decide +kernel) (by decide +kernel)) (AL_c (FL_2 rfl rfl (bi_1_13 MM_4) rfl rfl rfl) (AL_c (FL_0 rfl rfl (bi_1_13 MM_11) rfl) AL_n) : ∀ q ∈ ([(12, 0, 0, 2, 1, 212), (18, 0, 3, 0, 1, 219)] : List AF), FLok mr_13 q) (AL_c (CK_9 (bi_1_13 MM_1)) (AL_c (CK_5 mt_35 (bi_1_13 MM_3) mfi_35) AL_n) : ∀ q ∈ ([(3, 9, 0, 1, 209), (11, 5, 35, 1, 211)] : List AK), CKok MT mr_13 q) AL_n AL_n (AL_c (KC_r rfl (bi_1_13 MM_2)) AL_n : ∀ q ∈ ([(9, 3, 1, 210)] : List AKc), KCok mr_13 q) AL_n
set_option maxRecDepth 20000 in
theorem gk_13 : GOK mr_13 := GK_r (bi_1_13 MM_0) cni_RX0 (plain_of cpl_RX0) cnh_RX0 pds_11
set_option maxRecDepth 20000 in
theorem ok_14 : FOK MT mr_14 := FK_r (FW_r (by decide +kernel) (by decide +kernel)) (AL_c (FL_0 rfl rfl (bi_1_13 MM_7) rfl) (AL_c (FL_0 rfl rfl (bi_1_13 MM_9) rfl) (AL_c (FL_0 rfl rfl (bi_1_13 MM_11) rfl) (AL_c (FL_3 rfl rfl (bi_1_13 MM_4)) AL_n))) : ∀ q ∈ ([(22, 0, 1, 0, 1, 215), (25, 0, 2, 0, 1, 217), (18, 0, 3, 0, 1, 219), (12, 0, 0, 3, 1, 212)] : List AF), FLok mr_14 q) (AL_c (CK_0 mt_12 (bi_5_9 MM_0) mfv_12) (AL_c (CK_1 mt_40 (bi_5_9 MM_1) mfv_40) AL_n) : ∀ q ∈ ([(31, 0, 12, 5, 144), (35, 1, 40, 5, 145)] : List AK), CKok MT mr_14 q) AL_n AL_n AL_n AL_n
set_option maxRecDepth 20000 in
theorem gk_14 : GOK mr_14 := GK_r (bi_5_8 MM_15) cni_RX0 (plain_of cpl_RX0) cnh_RX0 pds_12
set_option maxRecDepth 20000 in
theorem ok_15 : FOK MT mr_15 := FK_r (FW_r (by decide +kernel) (by decide +kernel)) (AL_c (FL_0 rfl rfl (bi_1_8 MM_7) rfl) (AL_c (FL_0 rfl rfl (bi_1_8 MM_6) rfl) (AL_c (FL_3 rfl rfl (bi_1_8 MM_3)) (AL_c (FL_3 rfl rfl (bi_1_8 MM_1)) AL_n))) : ∀ q ∈ ([(25, 1, 4, 0, 1, 135), (21, 1, 3, 0, 1, 134), (15, 1, 1, 3, 1, 131), (9, 1, 0, 3, 1, 129)] : List AF), FLok mr_15 q) (AL_c (CK_0 mt_17 (bi_5_0 MM_4) mfv_17) (AL_c (CK_3 mt_108 (bi_5_0 MM_11) mfs_108) (AL_c (CK_2 mt_15 (bi_5_0 MM_1) mfs_15) AL_n)) : ∀ q ∈ ([(35, 0, 17, 5, 4), (39, 3, 108, 5, 11), (31, 2, 15, 5, 1)] : List AK), CKok MT mr_15 q) AL_n AL_n AL_n AL_n
set_option maxRecDepth 20000 in
theorem gk_15 : GOK mr_15 := GK_r (bi_5_0 MM_3) cni_RX1 (plain_of cpl_RX1) cnh_RX1 pds_13
set_option maxRecDepth 20000 in
theorem ok_16 : FOK MT mr_16 := FK_r (FW_r (by decide +kernel) (by decide +kernel)) (AL_c (FL_2 rfl rfl (bi_1_8 MM_1) rfl rfl rfl) (AL_c (FL_2 rfl rfl (bi_1_8 MM_3) rfl rfl rfl) (AL_c (FL_2 rfl rfl (bi_1_8 MM_4) rfl rfl rfl) AL_n)) : ∀ q ∈ ([(9, 1, 0, 2, 1, 129), (15, 1, 1, 2, 1, 131), (18, 1, 2, 2, 1, 132)] : List AF), FLok mr_16 q) (AL_c (CK_9 (bi_1_8 MM_0)) AL_n : ∀ q ∈ ([(3, 9, 0, 1, 128)] : List AK), CKok MT mr_16 q) AL_n AL_n AL_n AL_n
set_option maxRecDepth 20000 in
theorem gk_16 : GOK mr_16 := GK_r (bi_1_7 MM_15) cni_RX1 (plain_of cpl_RX1) cnh_RX1 pds_11
set_option maxRecDepth 20000 in
theorem ok_17 : FOK MT mr_17 := FK_r (FW_r (by decide +kernel) (by decide +kernel)) (AL_c (FL_0 rfl rfl (bi_1_8 MM_8) rfl) (AL_c (FL_3 rfl rfl (bi_1_8 MM_3)) (AL_c (FL_3 rfl rfl (bi_1_8 MM_4)) AL_n)) : ∀ q ∈ ([(28, 1, 5, 0, 1, 136), (15, 1, 1, 3, 1, 131), (18, 1, 2, 3, 1, 132)] : List AF), FLok mr_17 q) (AL_c (CK_8 (bi_5_0 MM_8)) AL_n : ∀ q ∈ ([(43, 8, 0, 5, 8)] : List AK), CKok MT mr_17 q) AL_n AL_n AL_n AL_n
set_option maxRecDepth 20000 in
theorem gk_17 : GOK mr_17 := GK_r (bi_5_0 MM_7) cni_RX1 (plain_of cpl_RX1) cnh_RX1 pds_14
set_option maxRecDepth 20000 in
theorem ok_18 : FOK MT mr_18 := FK_r (FW_r (by decide +kernel) (by decide +kernel)) (AL_c (FL_0 rfl rfl (bi_1_8 MM_6) rfl) (AL_c (FL_0 rfl rfl (bi_1_8 MM_7) rfl) (AL_c (FL_0 rfl rfl (bi_1_8 MM_8) rfl) AL_n)) : ∀ q ∈ ([(21, 1, 3, 0, 1, 134), (25, 1, 4, 0, 1, 135), (28, 1, 5, 0, 1, 136)] : List AF), FLok mr_18 q) (AL_c (CK_2 mt_15 (bi_5_0 MM_1) mfs_15) AL_n : ∀ q ∈ ([(31, 2, 15, 5, 1)] : List AK), CKok MT mr_18 q) AL_n AL_n AL_n AL_n
set_option maxRecDepth 20000 in
theorem gk_18 : GOK mr_18 := GK_r (bi_5_0 MM_0) cni_RX1 (plain_of cpl_RX1) cnh_RX1 pds_1
set_option maxRecDepth 20000 in
theorem ok_19 : FOK MT mr_19 := FK_r (FW_r (by decide +kernel) (by decide +kernel)) (AL_c (FL_3 rfl rfl (bi_1_7 MM_4)) (AL_c (FL_1 rfl rfl (bi_1_5 MM_3) rfl) AL_n) : ∀ q ∈ ([(15, 2, 0, 3, 1, 116), (39, 6, 0, 1, 1, 83)] : List AF), FLok mr_19 q) AL_n AL_n AL_n AL_n AL_n
set_option maxRecDepth 20000 in
theorem gk_19 : GOK mr_19 := GK_r (bi_4_4 MM_12) cni_RX2 (plain_of cpl_RX2) cnh_RX2 pds_4
set_option maxRecDepth 20000 in
theorem ok_20 : FOK MT mr_20 := FK_r (FW_r (by decide +kernel) (by decide +kernel)) (AL_c (FL_3 rfl rfl (bi_1_7 MM_4)) (AL_c (FL_1 rfl rfl (bi_1_5 MM_5) rfl) (AL_c (FL_4 rfl rfl (bi_1_5 MM_11)) AL_n)) : ∀ q ∈ ([(15, 2, 0, 3, 1, 116), (77, 6, 1, 1, 1, 85), (36, 6, 4, 4, 1, 91)] : List AF), FLok mr_20 q) (AL_c (CK_0 mt_23 (bi_4_5 MM_1) mfv_23) (AL_c (CK_2 mt_7 (bi_1_6 MM_14) mfs_7) AL_n) : ∀ q ∈ ([(55, 0, 23, 4, 81), (19, 2, 7, 1, 110)] : List AK), CKok MT mr_20 q) AL_n AL_n AL_n AL_n
set_option maxRecDepth 20000 in
theorem gk_20 : GOK mr_20 := GK_r (bi_4_11 MM_7) cni_RX2 (plain_of cpl_RX2) cnh_RX2 pds_10
set_option maxRecDepth 20000 in
theorem ok_21 : FOK MT mr_21 := FK_r (FW_r (by decide +kernel) (by decide +kernel)) (AL_c (FL_2 rfl rfl (bi_1_7 MM_5) rfl rfl rfl) (AL_c (FL_2 rfl rfl (bi_1_7 MM_4) rfl rfl rfl) AL_n) : ∀ q ∈ ([(11, 2, 1, 2, 1, 117), (15, 2, 0, 2, 1, 116)] : List AF), FLok mr_21 q) (AL_c (CK_9 (bi_1_6 MM_13)) (AL_c (CK_2 mt_7 (bi_1_6 MM_14) mfs_7) AL_n) : ∀ q ∈ ([(3, 9, 0, 1, 109), (19, 2, 7, 1, 110)] : List AK), CKok MT mr_21 q) AL_n AL_n AL_n AL_n
set_option maxRecDepth 20000 in
theorem gk_21 : GOK mr_21 := GK_r (bi_1_6 MM_12) cni_RX2 (plain_of cpl_RX2) cnh_RX2 pds_15
set_option maxRecDepth 20000 in
theorem ok_22 : FOK MT mr_22 := FK_r (FW_r (by decide +kernel) (by decide +kernel)) (AL_c (FL_3 rfl rfl (bi_1_7 MM_4)) (AL_c (FL_4 rfl rfl (bi_1_5 MM_11)) (AL_c (FL_1 rfl rfl (bi_1_5 MM_3) rfl) (AL_c (FL_4 rfl rfl (bi_1_11 MM_15)) AL_n))) : ∀ q ∈ ([(15, 2, 0, 3, 1, 116), (36, 6, 4, 4, 1, 91), (39, 6, 0, 1, 1, 83), (49, 3, 1, 4, 1, 191)] : List AF), FLok mr_22 q) (AL_c (CK_1 mt_39 (bi_3_10 MM_1) mfv_39) (AL_c (CK_1 mt_78 (bi_3_10 MM_5) mfv_78) (AL_c (CK_1 mt_36 (bi_3_10 MM_12) mfv_36) (AL_c (CK_1 mt_37 (bi_3_11 MM_0) mfv_37) AL_n))) : ∀ q ∈ ([(25, 1, 39, 3, 161), (30, 1, 78, 3, 165), (43, 1, 36, 3, 172), (46, 1, 37, 3, 176)] : List AK), CKok MT mr_22 q) AL_n AL_n AL_n AL_n
set_option maxRecDepth 20000 in
theorem gk_22 : GOK mr_22 := GK_r (bi_3_10 MM_0) cni_RX2 (plain_of cpl_RX2) cnh_RX2 pds_16
set_option maxRecDepth 20000 in
theorem ok_23 : FOK MT mr_23 := FK_r (FW_r (by decide +kernel) (by decide +kernel)) (AL_c (FL_3 rfl rfl (bi_1_7 MM_4)) (AL_c (FL_4 rfl rfl (bi_1_5 MM_11)) (AL_c (FL_1 rfl rfl (bi_1_5 MM_3) rfl) AL_n)) : ∀ q ∈ ([(15, 2, 0, 3, 1, 116), (36, 6, 4, 4, 1, 91), (39, 6, 0, 1, 1, 83)] : List AF), FLok mr_23 q) (AL_c (CK_1 mt_78 (bi_3_10 MM_5) mfv_78) (AL_c (CK_0 mt_26 (bi_4_5 MM_5) mfv_26) AL_n) : ∀ q ∈ ([(30, 1, 78, 3, 165), (52, 0, 26, 4, 85)] : List AK), CKok MT mr_23 q) AL_n AL_n AL_n AL_n
set_option maxRecDepth 20000 in
theorem gk_23 : GOK mr_23 := GK_r (bi_4_5 MM_4) cni_RX2 (plain_of cpl_RX2) cnh_RX2 pds_17
set_option maxRecDepth 20000 in
theorem ok_24 : FOK MT mr_24 := FK_r (FW_r (by decide +kernel) (by decide +kernel)) (AL_c (FL_3 rfl rfl (bi_1_7 MM_4)) (AL_c (FL_1 rfl rfl (bi_1_5 MM_5) rfl) (AL_c (FL_4 rfl rfl (bi_1_5 MM_11)) AL_n)) : ∀ q ∈ ([(15, 2, 0, 3, 1, 116), (77, 6, 1, 1, 1, 85), (36, 6, 4, 4, 1, 91)] : List AF), FLok mr_24 q) (AL_c (CK_0 mt_23 (bi_4_5 MM_1) mfv_23) AL_n : ∀ q ∈ ([(55, 0, 23, 4, 81)] : List AK), CKok MT mr_24 q) AL_n AL_n AL_n AL_n
set_option maxRecDepth 20000 in
theorem gk_24 : GOK mr_24 := GK_r (bi_4_11 MM_15) cni_RX2 (plain_of cpl_RX2) cnh_RX2 pds_10
set_option maxRecDepth 20000 in
theorem ok_25 : FOK MT mr_25 := FK_r (FW_r (by decide +kernel) (by decide +kernel)) (AL_c (FL_3 rfl rfl (bi_1_7 MM_4)) (AL_c (FL_1 rfl rfl (bi_1_5 MM_3) rfl) AL_n) : ∀ q ∈ ([(15, 2, 0, 3, 1, 116), (39, 6, 0, 1, 1, 83)] : List AF), FLok mr_25 q) (AL_c (CK_0 mt_19 (bi_4_4 MM_9) mfv_19) (AL_c (CK_0 mt_30 (bi_4_4 MM_13) mfv_30) (AL_c (CK_0 mt_27 (bi_4_5 MM_10) mfv_27) (AL_c (CK_2 mt_7 (bi_1_6 MM_14) mfs_7) (AL_c (CK_2 mt_28 (bi_4_5 MM_14) mfs_28) AL_n)))) : ∀ q ∈ ([(62, 0, 19, 4, 73), (66, 0, 30, 4, 77), (70, 0, 27, 4, 90), (19, 2, 7, 1, 110), (73, 2, 28, 4, 94)] : List AK), CKok MT mr_25 q) AL_n AL_n AL_n AL_n
set_option maxRecDepth 20000 in
theorem gk_25 : GOK mr_25 := GK_r (bi_4_4 MM_8) cni_RX2 (plain_of cpl_RX2) cnh_RX2 pds_10
set_option maxRecDepth 20000 in
theorem ok_26 : FOK MT mr_26 := FK_r (FW_r (by decide +kernel) (by decide +kernel)) (AL_c (FL_3 rfl rfl (bi_1_7 MM_5)) AL_n : ∀ q ∈ ([(11, 2, 1, 3, 1, 117)] : List AF), FLok mr_26 q) AL_n AL_n AL_n AL_n AL_n
set_option maxRecDepth 20000 in
theorem gk_26 : GOK mr_26 := GK_r (bi_4_5 MM_8) cni_RX2 (plain_of cpl_RX2) cnh_RX2 pds_10
set_option maxRecDepth 20000 in
theorem ok_27 : FOK MT mr_27 := FK_r (FW_r (by decide +kernel) (by decide +kernel)) (AL_c (FL_3 rfl rfl (bi_1_7 MM_4)) (AL_c (FL_1 rfl rfl (bi_1_5 MM_3) rfl) AL_n) : ∀ q ∈ ([(15, 2, 0, 3, 1, 116), (39, 6, 0, 1, 1, 83)] : List AF), FLok mr_27 q) (AL_c (CK_0 mt_19 (bi_4_4 MM_9) mfv_19) (AL_c (CK_0 mt_30 (bi_4_4 MM_13) mfv_30) AL_n) : ∀ q ∈ ([(62, 0, 19, 4, 73), (66, 0, 30, 4, 77)] : List AK), CKok MT mr_27 q) AL_n AL_n AL_n AL_n
set_option maxRecDepth 20000 in
theorem gk_27 : GOK mr_27 := GK_r (bi_4_5 MM_13) cni_RX2 (plain_of cpl_RX2) cnh_RX2 pds_10
set_option maxRecDepth 20000 in
theorem ok_28 : FOK MT mr_28 := FK_r (FW_r (by decide +kernel) (by decide +kernel)) AL_n (AL_c (CK_2 mt_7 (bi_1_6 MM_14) mfs_7) AL_n : ∀ q ∈ ([(19, 2, 7, 1, 110)] : List AK), CKok MT mr_28 q) (AL_c (W_r (bi_4_6 MM_1) rfl) AL_n : ∀ q ∈ ([(76, 65536, 4, 97)] : List AKi), Cond.constant (my mr_28).cls q.1 q.2.1 ∈ TBL) AL_n AL_n AL_n
set_option maxRecDepth 20000 in
theorem gk_28 : GOK mr_28 := GK_r (bi_4_6 MM_0) cni_RX2 (plain_of cpl_RX2) cnh_RX2 pds_7
set_option maxRecDepth 20000 in
theorem ok_29 : FOK MT mr_29 := FK_r (FW_r (by decide +kernel) (by decide +kernel)) AL_n (AL_c (CK_0 mt_19 (bi_4_4 MM_9) mfv_19) (AL_c (CK_0 mt_30 (bi_4_4 MM_13) mfv_30) (AL_c (CK_0 mt_27 (bi_4_5 MM_10) mfv_27) (AL_c (CK_2 mt_28 (bi_4_5 MM_14) mfs_28) AL_n))) : ∀ q ∈ ([(62, 0, 19, 4, 73), (66, 0, 30, 4, 77), (70, 0, 27, 4, 90), (73, 2, 28, 4, 94)] : List AK), CKok MT mr_29 q) AL_n AL_n AL_n AL_n
set_option maxRecDepth 20000 in
theorem gk_29 : GOK mr_29 := GK_r (bi_4_6 MM_13) cni_RX2 (plain_of cpl_RX2) cnh_RX2 pds_17
set_option maxRecDepth 20000 in
theorem ok_30 : FOK MT mr_30 := FK_r (FW_r (by decide +kernel) (by decide +kernel)) (AL_c (FL_3 rfl rfl (bi_1_7 MM_4)) (AL_c (FL_1 rfl rfl (bi_1_5 MM_3) rfl) AL_n) : ∀ q ∈ ([(15, 2, 0, 3, 1, 116), (39, 6, 0, 1, 1, 83)] : List AF), FLok mr_30 q) (AL_c (CK_0 mt_23 (bi_4_5 MM_1) mfv_23) (AL_c (CK_0 mt_26 (bi_4_5 MM_5) mfv_26) (AL_c (CK_3 mt_108 (bi_4_5 MM_9) mfs_108) AL_n)) : ∀ q ∈ ([(55, 0, 23, 4, 81), (52, 0, 26, 4, 85), (59, 3, 108, 4, 89)] : List AK), CKok MT mr_30 q) AL_n AL_n AL_n AL_n
set_option maxRecDepth 20000 in
theorem gk_30 : GOK mr_30 := GK_r (bi_4_5 MM_0) cni_RX2 (plain_of cpl_RX2) cnh_RX2 pds_18
set_option maxRecDepth 20000 in
theorem ok_31 : FOK MT mr_31 := FK_r (FW_r (by decide +kernel) (by decide +kernel)) (AL_c (FL_0 rfl rfl (bi_1_12 MM_1) rfl) AL_n : ∀ q ∈ ([(18, 3, 2, 0, 1, 193)] : List AF), FLok mr_31 q) (AL_c (CK_0 mt_38 (bi_3_2 MM_14) mfv_38) AL_n : ∀ q ∈ ([(22, 0, 38, 3, 46)] : List AK), CKok MT mr_31 q) AL_n AL_n AL_n AL_n
set_option maxRecDepth 20000 in
theorem gk_31 : GOK mr_31 := GK_r (bi_3_2 MM_13) cni_RX3 (plain_of cpl_RX3) cnh_RX3 pds_1
set_option maxRecDepth 20000 in
theorem ok_32 : FOK MT mr_32 := FK_r (FW_r (by decide +kernel) (by decide +kernel)) (AL_c (FL_0 rfl rfl (bi_1_12 MM_1) rfl) (AL_c (FL_3 rfl rfl (bi_1_11 MM_12)) (AL_c (FL_3 rfl rfl (bi_1_11 MM_14)) AL_n)) : ∀ q ∈ ([(18, 3, 2, 0, 1, 193), (11, 3, 0, 3, 1, 188), (15, 3, 1, 3, 1, 190)] : List AF), FLok mr_32 q) (AL_c (CK_3 mt_108 (bi_4_0 MM_5) mfs_108) AL_n : ∀ q ∈ ([(42, 3, 108, 4, 5)] : List AK), CKok MT mr_32 q) AL_n AL_n AL_n AL_n
set_option maxRecDepth 20000 in
theorem gk_32 : GOK mr_32 := GK_r (bi_4_0 MM_4) cni_RX3 (plain_of cpl_RX3) cnh_RX3 pds_7
set_option maxRecDepth 20000 in
theorem ok_33 : FOK MT mr_33 := FK_r (FW_r (by decide +kernel) (by decide +kernel)) (AL_c (FL_0 rfl rfl (bi_1_12 MM_1) rfl) AL_n : ∀ q ∈ ([(18, 3, 2, 0, 1, 193)] : List AF), FLok mr_33 q) (AL_c (CK_0 mt_41 (bi_4_2 MM_7) mfv_41) AL_n : ∀ q ∈ ([(26, 0, 41, 4, 39)] : List AK), CKok MT mr_33 q) AL_n AL_n AL_n AL_n
set_option maxRecDepth 20000 in
theorem gk_33 : GOK mr_33 := GK_r (bi_4_2 MM_6) cni_RX3 (plain_of cpl_RX3) cnh_RX3 pds_11
set_option maxRecDepth 20000 in
theorem ok_34 : FOK MT mr_34 := FK_r (FW_r (by decide +kernel) (by decide +kernel)) (AL_c (FL_0 rfl rfl (bi_1_12 MM_1) rfl) (AL_c (FL_3 rfl rfl (bi_1_11 MM_12)) (AL_c (FL_3 rfl rfl (bi_1_11 MM_14)) AL_n)) : ∀ q ∈ ([(18, 3, 2, 0, 1, 193), (11, 3, 0, 3, 1, 188), (15, 3, 1, 3, 1, 190)] : List AF), FLok mr_34 q) (AL_c (CK_3 mt_108 (bi_4_0 MM_5) mfs_108) AL_n : ∀ q ∈ ([(42, 3, 108, 4, 5)] : List AK), CKok MT mr_34 q) AL_n AL_n AL_n AL_n
set_option maxRecDepth 20000 in
theorem gk_34 : GOK mr_34 := GK_r (bi_4_0 MM_13) cni_RX3 (plain_of cpl_RX3) cnh_RX3 pds_7
set_option maxRecDepth 20000 in
theorem ok_35 : FOK MT mr_35 := FK_r (FW_r (by decide +kernel) (by decide +kernel)) (AL_c (FL_2 rfl rfl (bi_1_11 MM_12) rfl rfl rfl) (AL_c (FL_2 rfl rfl (bi_1_11 MM_14) rfl rfl rfl) AL_n) : ∀ q ∈ ([(11, 3, 0, 2, 1, 188), (15, 3, 1, 2, 1, 190)] : List AF), FLok mr_35 q) (AL_c (CK_9 (bi_1_11 MM_11)) AL_n : ∀ q ∈ ([(3, 9, 0, 1, 187)] : List AK), CKok MT mr_35 q) AL_n AL_n AL_n AL_n
set_option maxRecDepth 20000 in
theorem gk_35 : GOK mr_35 := GK_r (bi_1_11 MM_10) cni_RX3 (plain_of cpl_RX3) cnh_RX3 pds_11
set_option maxRecDepth 20000 in
theorem ok_36 : FOK MT mr_36 := FK_r (FW_r (by decide +kernel) (by decide +kernel)) (AL_c (FL_0 rfl rfl (bi_1_12 MM_1) rfl) (AL_c (FL_3 rfl rfl (bi_1_11 MM_12)) AL_n) : ∀ q ∈ ([(18, 3, 2, 0, 1, 193), (11, 3, 0, 3, 1, 188)] : List AF), FLok mr_36 q) AL_n AL_n AL_n AL_n AL_n
set_option maxRecDepth 20000 in
theorem gk_36 : GOK mr_36 := GK_r (bi_3_10 MM_15) cni_RX3 (plain_of cpl_RX3) cnh_RX3 pds_7
set_option maxRecDepth 20000 in
theorem ok_37 : FOK MT mr_37 := FK_r (FW_r (by decide +kernel) (by decide +kernel)) (AL_c (FL_0 rfl rfl (bi_1_12 MM_1) rfl) (AL_c (FL_3 rfl rfl (bi_1_11 MM_12)) AL_n) : ∀ q ∈ ([(18, 3, 2, 0, 1, 193), (11, 3, 0, 3, 1, 188)] : List AF), FLok mr_37 q) (AL_c (CK_2 mt_7 (bi_3_11 MM_4) mfs_7) AL_n : ∀ q ∈ ([(36, 2, 7, 3, 180)] : List AK), CKok MT mr_37 q) AL_n AL_n AL_n AL_n
set_option maxRecDepth 20000 in
theorem gk_37 : GOK mr_37 := GK_r (bi_3_11 MM_3) cni_RX3 (plain_of cpl_RX3) cnh_RX3 pds_7
set_option maxRecDepth 20000 in
theorem ok_38 : FOK MT mr_38 := FK_r (FW_r (by decide +kernel) (by decide +kernel)) (AL_c (FL_0 rfl rfl (bi_1_12 MM_1) rfl) (AL_c (FL_3 rfl rfl (bi_1_11 MM_12)) (AL_c (FL_3 rfl rfl (bi_1_11 MM_14)) AL_n)) : ∀ q ∈ ([(18, 3, 2, 0, 1, 193), (11, 3, 0, 3, 1, 188), (15, 3, 1, 3, 1, 190)] : List AF), FLok mr_38 q) AL_n AL_n AL_n AL_n AL_n
set_option maxRecDepth 20000 in
theorem gk_38 : GOK mr_38 := GK_r (bi_3_3 MM_1) cni_RX3 (plain_of cpl_RX3) cnh_RX3 pds_19
set_option maxRecDepth 20000 in
theorem ok_39 : FOK MT mr_39 := FK_r (FW_r (by decide +kernel) (by decide +kernel)) (AL_c (FL_0 rfl rfl (bi_1_12 MM_1) rfl) (AL_c (FL_3 rfl rfl (bi_1_11 MM_14)) (AL_c (FL_3 rfl rfl (bi_1_11 MM_12)) AL_n)) : ∀ q ∈ ([(18, 3, 2, 0, 1, 193), (15, 3, 1, 3, 1, 190), (11, 3, 0, 3, 1, 188)] : List AF), FLok mr_39 q) AL_n AL_n AL_n AL_n AL_n
set_option maxRecDepth 20000 in
theorem gk_39 : GOK mr_39 := GK_r (bi_3_10 MM_4) cni_RX3 (plain_of cpl_RX3) cnh_RX3 pds_7
set_option maxRecDepth 20000 in
theorem ok_40 : FOK MT mr_40 := FK_r (FW_r (by decide +kernel) (by decide +kernel)) (AL_c (FL_0 rfl rfl (bi_1_12 MM_1) rfl) (AL_c (FL_3 rfl rfl (bi_1_11 MM_12)) (AL_c (FL_3 rfl rfl (bi_1_11 MM_14)) AL_n)) : ∀ q ∈ ([(18, 3, 2, 0, 1, 193), (11, 3, 0, 3, 1, 188), (15, 3, 1, 3, 1, 190)] : List AF), FLok mr_40 q) (AL_c (CK_8 (bi_5_9 MM_5)) AL_n : ∀ q ∈ ([(30, 8, 0, 5, 149)] : List AK), CKok MT mr_40 q) AL_n AL_n AL_n AL_n
set_option maxRecDepth 20000 in
theorem gk_40 : GOK mr_40 := GK_r (bi_5_9 MM_4) cni_RX3 (plain_of cpl_RX3) cnh_RX3 pds_20
set_option maxRecDepth 20000 in
theorem ok_41 : FOK MT mr_41 := FK_r (FW_r (by decide +kernel) (by decide +kernel)) (AL_c (FL_0 rfl rfl (bi_1_12 MM_1) rfl) (AL_c (FL_3 rfl rfl (bi_1_11 MM_12)) (AL_c (FL_3 rfl rfl (bi_1_11 MM_14)) AL_n)) : ∀ q ∈ ([(18, 3, 2, 0, 1, 193), (11, 3, 0, 3, 1, 188), (15, 3, 1, 3, 1, 190)] : List AF), FLok mr_41 q) AL_n AL_n AL_n AL_n AL_n
set_option maxRecDepth 20000 in
theorem gk_41 : GOK mr_41 := GK_r (bi_4_2 MM_10) cni_RX3 (plain_of cpl_RX3) cnh_RX3 pds_14
set_option maxRecDepth 20000 in
theorem ok_42 : FOK MT mr_42 := FK_r (FW_r (by decide +kernel) (by decide +kernel)) (AL_c (FL_0 rfl rfl (bi_1_14 MM_8) rfl) (AL_c (FL_0 rfl rfl (bi_1_14 MM_11) rfl) (AL_c (FL_0 rfl rfl (bi_1_14 MM_14) rfl) (AL_c (FL_0 rfl rfl (bi_2_0 MM_1) rfl) (AL_c (FL_3 rfl rfl (bi_2_0 MM_7)) (AL_c (FL_1 rfl rfl (bi_1_12 MM_3) rfl) (AL_c (FL_0 rfl rfl (bi_2_0 MM_10) rfl) (AL_c (FL_0 rfl rfl (bi_2_0 MM_13) rfl) (AL_c (FL_0 rfl rfl (bi_2_1 MM_0) rfl) (AL_c (FL_0 rfl rfl (bi_2_1 MM_9) rfl) (AL_c (FL_3 rfl rfl (bi_2_2 MM_0)) (AL_c (FL_0 rfl rfl (bi_2_2 MM_3) rfl) AL_n))))))))))) : ∀ q ∈ ([(41, 4, 0, 0, 1, 232), (45, 4, 1, 0, 1, 235), (48, 4, 2, 0, 1, 238), (51, 4, 3, 0, 2, 1), (20, 4, 5, 3, 2, 7), (54, 3, 2, 1, 1, 195), (57, 4, 6, 0, 2, 10), (60, 4, 7, 0, 2, 13), (63, 4, 8, 0, 2, 16), (66, 4, 11, 0, 2, 25), (34, 4, 13, 3, 2, 32), (75, 4, 14, 0, 2, 35)] : List AF), FLok mr_42 q) (AL_c (CK_2 mt_8 (bi_2_9 MM_13) mfs_8) AL_n : ∀ q ∈ ([(69, 2, 8, 2, 157)] : List AK), CKok MT mr_42 q) AL_n AL_n AL_n AL_n
set_option maxRecDepth 20000 in
theorem gk_42 : GOK mr_42 := GK_r (bi_2_9 MM_12) cni_RX4 (plain_of cpl_RX4) cnh_RX4 pds_11
set_option maxRecDepth 20000 in
theorem ok_43 : FOK MT mr_43 := FK_r (FW_r (by decide +kernel) (by decide +kernel)) (AL_c (FL_0 rfl rfl (bi_1_14 MM_8) rfl) AL_n : ∀ q ∈ ([(41, 4, 0, 0, 1, 232)] : List AF), FLok mr_43 q) AL_n AL_n AL_n AL_n AL_n
set_option maxRecDepth 20000 in
theorem gk_43 : GOK mr_43 := GK_r (bi_3_8 MM_4) cni_RX4 (plain_of cpl_RX4) cnh_RX4 pds_3
set_option maxRecDepth 20000 in
theorem ok_44 : FOK MT mr_44 := FK_r (FW_r (by decide +kernel) (by decide +kernel)) (AL_c (FL_2 rfl rfl (bi_2_0 MM_4) rfl rfl rfl) (AL_c (FL_2 rfl rfl (bi_2_0 MM_7) rfl rfl rfl) (AL_c (FL_2 rfl rfl (bi_2_1 MM_3) rfl rfl rfl) (AL_c (FL_2 rfl rfl (bi_2_1 MM_6) rfl rfl rfl) (AL_c (FL_2 rfl rfl (bi_2_1 MM_13) rfl rfl rfl) (AL_c (FL_2 rfl rfl (bi_2_2 MM_0) rfl rfl rfl) (AL_c (FL_2 rfl rfl (bi_2_2 MM_5) rfl rfl rfl) AL_n)))))) : ∀ q ∈ ([(11, 4, 4, 2, 2, 4), (20, 4, 5, 2, 2, 7), (24, 4, 9, 2, 2, 19), (28, 4, 10, 2, 2, 22), (31, 4, 12, 2, 2, 29), (34, 4, 13, 2, 2, 32), (37, 4, 15, 2, 2, 37)] : List AF), FLok mr_44 q) (AL_c (CK_9 (bi_1_11 MM_3)) (AL_c (CK_5 mt_35 (bi_1_11 MM_8) mfi_35) (AL_c (CK_5 mt_13 (bi_1_12 MM_14) mfi_13) AL_n)) : ∀ q ∈ ([(3, 9, 0, 1, 179), (19, 5, 35, 1, 184), (40, 5, 13, 1, 206)] : List AK), CKok MT mr_44 q) AL_n AL_n (AL_c (KC_r rfl (bi_1_11 MM_4)) (AL_c (KC_r rfl (bi_1_11 MM_6)) AL_n) : ∀ q ∈ ([(9, 0, 1, 180), (17, 3, 1, 182)] : List AKc), KCok mr_44 q) AL_n
set_option maxRecDepth 20000 in
theorem gk_44 : GOK mr_44 := GK_r (bi_1_11 MM_2) cni_RX4 (plain_of cpl_RX4) cnh_RX4 pds_11
set_option maxRecDepth 20000 in
theorem ok_45 : FOK MT mr_45 := FK_r (FW_r (by decide +kernel) (by decide +kernel)) (AL_c (FL_0 rfl rfl (bi_2_0 MM_1) rfl) (AL_c (FL_3 rfl rfl (bi_2_0 MM_4)) (AL_c (FL_1 rfl rfl (bi_1_13 MM_14) rfl) AL_n)) : ∀ q ∈ ([(51, 4, 3, 0, 2, 1), (11, 4, 4, 3, 2, 4), (103, 0, 3, 1, 1, 222)] : List AF), FLok mr_45 q) AL_n AL_n AL_n AL_n AL_n
set_option maxRecDepth 20000 in
theorem gk_45 : GOK mr_45 := GK_r (bi_3_3 MM_15) cni_RX4 (plain_of cpl_RX4) cnh_RX4 pds_21
set_option maxRecDepth 20000 in
theorem ok_46 : FOK MT mr_46 := FK_r (FW_r (by decide +kernel) (by decide +kernel)) AL_n (AL_c (CK_0 mt_43 (bi_3_9 MM_3) mfv_43) (AL_c (CK_0 mt_51 (bi_3_9 MM_4) mfv_51) AL_n) : ∀ q ∈ ([(91, 0, 43, 3, 147), (95, 0, 51, 3, 148)] : List AK), CKok MT mr_46 q) AL_n AL_n AL_n AL_n
set_option maxRecDepth 20000 in
theorem gk_46 : GOK mr_46 := GK_r (bi_3_14 MM_4) cni_RX4 (plain_of cpl_RX4) cnh_RX4 pds_21
set_option maxRecDepth 20000 in
theorem ok_47 : FOK MT mr_47 := FK_r (FW_r (by decide +kernel) (by decide +kernel)) (AL_c (FL_0 rfl rfl (bi_2_0 MM_1) rfl) AL_n : ∀ q ∈ ([(51, 4, 3, 0, 2, 1)] : List AF), FLok mr_47 q) AL_n AL_n AL_n AL_n AL_n
set_option maxRecDepth 20000 in
theorem gk_47 : GOK mr_47 := GK_r (bi_3_7 MM_1) cni_RX4 (plain_of cpl_RX4) cnh_RX4 pds_21
set_option maxRecDepth 20000 in
theorem ok_48 : FOK MT mr_48 := FK_r (FW_r (by decide +kernel) (by decide +kernel)) (AL_c (FL_0 rfl rfl (bi_2_1 MM_0) rfl) AL_n : ∀ q ∈ ([(63, 4, 8, 0, 2, 16)] : List AF), FLok mr_48 q) AL_n AL_n AL_n AL_n AL_n
set_option maxRecDepth 20000 in
theorem gk_48 : GOK mr_48 := GK_r (bi_3_8 MM_8) cni_RX4 (plain_of cpl_RX4) cnh_RX4 pds_21
set_option maxRecDepth 20000 in
theorem ok_49 : FOK MT mr_49 := FK_r (FW_r (by decide +kernel) (by decide +kernel)) AL_n (AL_c (CK_0 mt_43 (bi_3_9 MM_3) mfv_43) (AL_c (CK_0 mt_51 (bi_3_9 MM_4) mfv_51) AL_n) : ∀ q ∈ ([(91, 0, 43, 3, 147), (95, 0, 51, 3, 148)] : List AK), CKok MT mr_49 q) AL_n AL_n AL_n AL_n
set_option maxRecDepth 20000 in
theorem gk_49 : GOK mr_49 := GK_r (bi_3_9 MM_2) cni_RX4 (plain_of cpl_RX4) cnh_RX4 pds_21
set_option maxRecDepth 20000 in
theorem ok_50 : FOK MT mr_50 := FK_r (FW_r (by decide +kernel) (by decide +kernel)) AL_n (AL_c (CK_0 mt_49 (bi_3_13 MM_12) mfv_49) AL_n : ∀ q ∈ ([(99, 0, 49, 3, 220)] : List AK), CKok MT mr_50 q) AL_n AL_n AL_n AL_n
set_option maxRecDepth 20000 in
theorem gk_50 : GOK mr_50 := GK_r (bi_3_13 MM_11) cni_RX4 (plain_of cpl_RX4) cnh_RX4 pds_22
set_option maxRecDepth 20000 in
theorem ok_51 : FOK MT mr_51 := FK_r (FW_r (by decide +kernel) (by decide +kernel)) (AL_c (FL_0 rfl rfl (bi_1_14 MM_11) rfl) AL_n : ∀ q ∈ ([(45, 4, 1, 0, 1, 235)] : List AF), FLok mr_51 q) AL_n AL_n AL_n AL_n AL_n
set_option maxRecDepth 20000 in
theorem gk_51 : GOK mr_51 := GK_r (bi_3_2 MM_7) cni_RX4 (plain_of cpl_RX4) cnh_RX4 pds_4
set_option maxRecDepth 20000 in
theorem ok_52 : FOK MT mr_52 := FK_r (FW_r (by decide +kernel) (by decide +kernel)) (AL_c (FL_3 rfl rfl (bi_2_0 MM_4)) (AL_c (FL_1 rfl rfl (bi_1_13 MM_14) rfl) AL_n) : ∀ q ∈ ([(11, 4, 4, 3, 2, 4), (103, 0, 3, 1, 1, 222)] : List AF), FLok mr_52 q) AL_n AL_n AL_n AL_n AL_n
set_option maxRecDepth 20000 in
theorem gk_52 : GOK mr_52 := GK_r (bi_3_9 MM_12) cni_RX4 (plain_of cpl_RX4) cnh_RX4 pds_23
set_option maxRecDepth 20000 in
theorem ok_53 : FOK MT mr_53 := FK_r (FW_r (by decide +kernel) (by decide +kernel)) (AL_c (FL_0 rfl rfl (bi_1_14 MM_8) rfl) (AL_c (FL_0 rfl rfl (bi_1_14 MM_11) rfl) (AL_c (FL_0 rfl rfl (bi_1_14 MM_14) rfl) (AL_c (FL_0 rfl rfl (bi_2_0 MM_1) rfl) (AL_c (FL_3 rfl rfl (bi_2_0 MM_4)) (AL_c (FL_3 rfl rfl (bi_2_0 MM_7)) (AL_c (FL_0 rfl rfl (bi_2_0 MM_10) rfl) (AL_c (FL_0 rfl rfl (bi_2_0 MM_13) rfl) (AL_c (FL_0 rfl rfl (bi_2_1 MM_0) rfl) (AL_c (FL_3 rfl rfl (bi_2_1 MM_3)) (AL_c (FL_3 rfl rfl (bi_2_1 MM_6)) (AL_c (FL_0 rfl rfl (bi_2_1 MM_9) rfl) (AL_c (FL_3 rfl rfl (bi_2_1 MM_13)) (AL_c (FL_3 rfl rfl (bi_2_2 MM_0)) (AL_c (FL_0 rfl rfl (bi_2_2 MM_3) rfl) (AL_c (FL_3 rfl rfl (bi_2_2 MM_5)) AL_n))))))))))))))) : ∀ q ∈ ([(41, 4, 0, 0, 1, 232), (45, 4, 1, 0, 1, 235), (48, 4, 2, 0, 1, 238), (51, 4, 3, 0, 2, 1), (11, 4, 4, 3, 2, 4), (20, 4, 5, 3, 2, 7), (57, 4, 6, 0, 2, 10), (60, 4, 7, 0, 2, 13), (63, 4, 8, 0, 2, 16), (24, 4, 9, 3, 2, 19), (28, 4, 10, 3, 2, 22), (66, 4, 11, 0, 2, 25), (31, 4, 12, 3, 2, 29), (34, 4, 13, 3, 2, 32), (75, 4, 14, 0, 2, 35), (37, 4, 15, 3, 2, 37)] : List AF), FLok mr_53 q) (AL_c (CK_1 mt_14 (bi_5_8 MM_12) mfv_14) (AL_c (CK_1 mt_40 (bi_5_9 MM_6) mfv_40) (AL_c (CK_8 (bi_5_9 MM_7)) AL_n)) : ∀ q ∈ ([(78, 1, 14, 5, 140), (82, 1, 40, 5, 150), (85, 8, 0, 5, 151)] : List AK), CKok MT mr_53 q) AL_n AL_n AL_n AL_n
set_option maxRecDepth 20000 in
theorem gk_53 : GOK mr_53 := GK_r (bi_5_8 MM_11) cni_RX4 (plain_of cpl_RX4) cnh_RX4 pds_24
set_option maxRecDepth 20000 in
theorem ok_54 : FOK MT mr_54 := FK_r (FW_r (by decide +kernel) (by decide +kernel)) (AL_c (FL_0 rfl rfl (bi_1_3 MM_9) rfl) (AL_c (FL_0 rfl rfl (bi_1_3 MM_6) rfl) (AL_c (FL_0 rfl rfl (bi_1_3 MM_11) rfl) AL_n)) : ∀ q ∈ ([(19, 5, 5, 0, 1, 57), (202, 5, 2, 0, 1, 54), (9, 5, 6, 0, 1, 59)] : List AF), FLok mr_54 q) AL_n AL_n AL_n AL_n AL_n
set_option maxRecDepth 20000 in
theorem gk_54 : GOK mr_54 := GK_r (bi_2_14 MM_15) cni_RX5 (plain_of cpl_RX5) cnh_RX5 pds_14
set_option maxRecDepth 20000 in
theorem ok_55 : FOK MT mr_55 := FK_r (FW_r (by decide +kernel) (by decide +kernel)) (AL_c (FL_0 rfl rfl (bi_1_3 MM_11) rfl) (AL_c (FL_2 rfl rfl (bi_1_3 MM_4) rfl rfl rfl) AL_n) : ∀ q ∈ ([(9, 5, 6, 0, 1, 59), (15, 5, 0, 2, 1, 52)] : List AF), FLok mr_55 q) (AL_c (CK_9 (bi_1_3 MM_3)) AL_n : ∀ q ∈ ([(3, 9, 0, 1, 51)] : List AK), CKok MT mr_55 q) AL_n AL_n AL_n AL_n
set_option maxRecDepth 20000 in
theorem gk_55 : GOK mr_55 := GK_r (bi_1_3 MM_2) cni_RX5 (plain_of cpl_RX5) cnh_RX5 pds_25
set_option maxRecDepth 20000 in
theorem ok_56 : FOK MT mr_56 := FK_r (FW_r (by decide +kernel) (by decide +kernel)) AL_n AL_n AL_n AL_n AL_n AL_n
set_option maxRecDepth 20000 in
theorem gk_56 : GOK mr_56 := GK_r (bi_2_10 MM_6) cni_RX5 (plain_of cpl_RX5) cnh_RX5 pds_26
set_option maxRecDepth 20000 in
theorem ok_57 : FOK MT mr_57 := FK_r (FW_r (by decide +kernel) (by decide +kernel)) (AL_c (FL_3 rfl rfl (bi_1_3 MM_4)) (AL_c (FL_1 rfl rfl (bi_1_2 MM_7) rfl) (AL_c (FL_4 rfl rfl (bi_1_2 MM_4)) AL_n)) : ∀ q ∈ ([(15, 5, 0, 3, 1, 52), (220, 8, 1, 1, 1, 39), (210, 8, 0, 4, 1, 36)] : List AF), FLok mr_57 q) AL_n AL_n AL_n AL_n AL_n
set_option maxRecDepth 20000 in
theorem gk_57 : GOK mr_57 := GK_r (bi_2_10 MM_10) cni_RX5 (plain_of cpl_RX5) cnh_RX5 pds_7
set_option maxRecDepth 20000 in
theorem ok_58 : FOK MT mr_58 := FK_r (FW_r (by decide +kernel) (by decide +kernel)) (AL_c (FL_0 rfl rfl (bi_1_3 MM_5) rfl) (AL_c (FL_0 rfl rfl (bi_1_3 MM_8) rfl) (AL_c (FL_0 rfl rfl (bi_1_3 MM_9) rfl) AL_n)) : ∀ q ∈ ([(33, 5, 1, 0, 1, 53), (199, 5, 4, 0, 1, 56), (19, 5, 5, 0, 1, 57)] : List AF), FLok mr_58 q) (AL_c (CK_0 mt_54 (bi_2_14 MM_12) mfv_54) AL_n : ∀ q ∈ ([(84, 0, 54, 2, 236)] : List AK), CKok MT mr_58 q) AL_n AL_n AL_n AL_n
set_option maxRecDepth 20000 in
theorem gk_58 : GOK mr_58 := GK_r (bi_3_0 MM_8) cni_RX5 (plain_of cpl_RX5) cnh_RX5 pds_10
set_option maxRecDepth 20000 in
theorem ok_59 : FOK MT mr_59 := FK_r (FW_r (by decide +kernel) (by decide +kernel)) (AL_c (FL_0 rfl rfl (bi_1_3 MM_9) rfl) AL_n : ∀ q ∈ ([(19, 5, 5, 0, 1, 57)] : List AF), FLok mr_59 q) (AL_c (CK_0 mt_54 (bi_2_14 MM_12) mfv_54) (AL_c (CK_0 mt_72 (bi_2_10 MM_0) mfv_72) AL_n) : ∀ q ∈ ([(84, 0, 54, 2, 236), (30, 0, 72, 2, 160)] : List AK), CKok MT mr_59 q) AL_n AL_n AL_n AL_n
set_option maxRecDepth 20000 in
theorem gk_59 : GOK mr_59 := GK_r (bi_2_14 MM_11) cni_RX5 (plain_of cpl_RX5) cnh_RX5 pds_27
set_option maxRecDepth 20000 in
theorem ok_60 : FOK MT mr_60 := FK_r (FW_r (by decide +kernel) (by decide +kernel)) (AL_c (FL_0 rfl rfl (bi_1_3 MM_9) rfl) (AL_c (FL_0 rfl rfl (bi_1_3 MM_11) rfl) (AL_c (FL_0 rfl rfl (bi_1_3 MM_7) rfl) (AL_c (FL_0 rfl rfl (bi_1_3 MM_5) rfl) (AL_c (FL_1 rfl rfl (bi_1_14 MM_9) rfl) AL_n)))) : ∀ q ∈ ([(19, 5, 5, 0, 1, 57), (9, 5, 6, 0, 1, 59), (22, 5, 3, 0, 1, 55), (33, 5, 1, 0, 1, 53), (92, 4, 0, 1, 1, 233)] : List AF), FLok mr_60 q) (AL_c (CK_1 mt_42 (bi_2_9 MM_9) mfv_42) (AL_c (CK_0 mt_72 (bi_2_10 MM_0) mfv_72) (AL_c (CK_0 mt_65 (bi_2_10 MM_15) mfv_65) (AL_c (CK_0 mt_71 (bi_2_11 MM_4) mfv_71) (AL_c (CK_0 mt_63 (bi_3_0 MM_11) mfv_63) (AL_c (CK_0 mt_67 (bi_3_1 MM_12) mfv_67) (AL_c (CK_0 mt_64 (bi_3_3 MM_3) mfv_64) (AL_c (CK_0 mt_70 (bi_3_3 MM_8) mfv_70) (AL_c (CK_0 mt_68 (bi_3_4 MM_1) mfv_68) (AL_c (CK_0 mt_66 (bi_3_4 MM_10) mfv_66) (AL_c (CK_0 mt_62 (bi_3_4 MM_15) mfv_62) (AL_c (CK_0 mt_61 (bi_3_5 MM_5) mfv_61) (AL_c (CK_0 mt_54 (bi_2_14 MM_12) mfv_54) (AL_c (CK_0 mt_59 (bi_2_14 MM_8) mfv_59) AL_n))))))))))))) : ∀ q ∈ ([(25, 1, 42, 2, 153), (30, 0, 72, 2, 160), (36, 0, 65, 2, 175), (42, 0, 71, 2, 180), (46, 0, 63, 3, 11), (51, 0, 67, 3, 28), (56, 0, 64, 3, 51), (61, 0, 70, 3, 56), (66, 0, 68, 3, 65), (71, 0, 66, 3, 74), (76, 0, 62, 3, 79), (81, 0, 61, 3, 85), (84, 0, 54, 2, 236), (88, 0, 59, 2, 232)] : List AK), CKok MT mr_60 q) AL_n AL_n AL_n (AL_c (XS_0 3 rfl) (AL_c (XS_0 8 rfl) (AL_c (XS_0 11 rfl) (AL_c (XS_0 12 rfl) (AL_c (XS_0 13 rfl) (AL_c (XS_0 14 rfl) (AL_c (XS_0 15 rfl) (AL_c (XS_0 17 rfl) AL_n))))))) : ∀ q ∈ ([(40, 0, 2, 0, 0), (49, 0, 6, 0, 0), (54, 0, 3, 0, 0), (59, 0, 17, 0, 0), (64, 0, 9, 0, 0), (69, 0, 5, 0, 0), (74, 0, 1, 0, 0), (79, 0, 0, 0, 0)] : List AKs), XOK mr_60 q)
set_option maxRecDepth 20000 in
theorem gk_60 : GOK mr_60 := GK_r (bi_2_9 MM_8) cni_RX5 (plain_of cpl_RX5) cnh_RX5 pds_24
set_option maxRecDepth 20000 in
theorem ok_61 : FOK MT mr_61 := FK_r (FW_r (by decide +kernel) (by decide +kernel)) (AL_c (FL_1 rfl rfl (bi_2_1 MM_11) rfl) (AL_c (FL_0 rfl rfl (bi_1_3 MM_9) rfl) (AL_c (FL_4 rfl rfl (bi_2_2 MM_2)) AL_n)) : ∀ q ∈ ([(184, 4, 11, 1, 2, 27), (19, 5, 5, 0, 1, 57), (191, 4, 13, 4, 2, 34)] : List AF), FLok mr_61 q) (AL_c (CK_0 mt_72 (bi_2_10 MM_0) mfv_72) (AL_c (CK_0 mt_73 (bi_3_0 MM_1) mfv_73) AL_n) : ∀ q ∈ ([(30, 0, 72, 2, 160), (99, 0, 73, 3, 1)] : List AK), CKok MT mr_61 q) AL_n AL_n AL_n AL_n
set_option maxRecDepth 20000 in
theorem gk_61 : GOK mr_61 := GK_r (bi_3_5 MM_8) cni_RX5 (plain_of cpl_RX5) cnh_RX5 pds_24
set_option maxRecDepth 20000 in
theorem ok_62 : FOK MT mr_62 := FK_r (FW_r (by decide +kernel) (by decide +kernel)) (AL_c (FL_1 rfl rfl (bi_2_1 MM_11) rfl) (AL_c (FL_0 rfl rfl (bi_1_3 MM_9) rfl) (AL_c (FL_4 rfl rfl (bi_2_1 MM_15)) AL_n)) : ∀ q ∈ ([(184, 4, 11, 1, 2, 27), (19, 5, 5, 0, 1, 57), (189, 4, 12, 4, 2, 31)] : List AF), FLok mr_62 q) (AL_c (CK_0 mt_54 (bi_2_14 MM_12) mfv_54) (AL_c (CK_0 mt_72 (bi_2_10 MM_0) mfv_72) (AL_c (CK_0 mt_71 (bi_2_11 MM_4) mfv_71) (AL_c (CK_0 mt_59 (bi_2_14 MM_8) mfv_59) (AL_c (CK_0 mt_73 (bi_3_0 MM_1) mfv_73) AL_n)))) : ∀ q ∈ ([(84, 0, 54, 2, 236), (30, 0, 72, 2, 160), (42, 0, 71, 2, 180), (88, 0, 59, 2, 232), (99, 0, 73, 3, 1)] : List AK), CKok MT mr_62 q) AL_n AL_n AL_n (AL_c (XS_0 16 rfl) AL_n : ∀ q ∈ ([(187, 0, 15, 0, 0)] : List AKs), XOK mr_62 q)
set_option maxRecDepth 20000 in
theorem gk_62 : GOK mr_62 := GK_r (bi_3_5 MM_2) cni_RX5 (plain_of cpl_RX5) cnh_RX5 pds_24
set_option maxRecDepth 20000 in
theorem ok_63 : FOK MT mr_63 := FK_r (FW_r (by decide +kernel) (by decide +kernel)) (AL_c (FL_1 rfl rfl (bi_2_0 MM_2) rfl) (AL_c (FL_0 rfl rfl (bi_1_3 MM_9) rfl) (AL_c (FL_4 rfl rfl (bi_2_0 MM_5)) AL_n)) : ∀ q ∈ ([(109, 4, 3, 1, 2, 2), (19, 5, 5, 0, 1, 57), (118, 4, 4, 4, 2, 5)] : List AF), FLok mr_63 q) (AL_c (CK_0 mt_54 (bi_2_14 MM_12) mfv_54) (AL_c (CK_0 mt_72 (bi_2_10 MM_0) mfv_72) (AL_c (CK_0 mt_75 (bi_3_0 MM_15) mfv_75) (AL_c (CK_0 mt_71 (bi_2_11 MM_4) mfv_71) (AL_c (CK_0 mt_59 (bi_2_14 MM_8) mfv_59) (AL_c (CK_0 mt_73 (bi_3_0 MM_1) mfv_73) (AL_c (CK_1 mt_12 (bi_3_1 MM_7) mfv_12) AL_n)))))) : ∀ q ∈ ([(84, 0, 54, 2, 236), (30, 0, 72, 2, 160), (112, 0, 75, 3, 15), (42, 0, 71, 2, 180), (88, 0, 59, 2, 232), (99, 0, 73, 3, 1), (122, 1, 12, 3, 23)] : List AK), CKok MT mr_63 q) AL_n AL_n AL_n (AL_c (XS_0 7 rfl) AL_n : ∀ q ∈ ([(116, 0, 14, 0, 0)] : List AKs), XOK mr_63 q)
set_option maxRecDepth 20000 in
theorem gk_63 : GOK mr_63 := GK_r (bi_3_0 MM_14) cni_RX5 (plain_of cpl_RX5) cnh_RX5 pds_24
set_option maxRecDepth 20000 in
theorem ok_64 : FOK MT mr_64 := FK_r (FW_r (by decide +kernel) (by decide +kernel)) (AL_c (FL_4 rfl rfl (bi_2_0 MM_8)) (AL_c (FL_1 rfl rfl (bi_1_12 MM_4) rfl) AL_n) : ∀ q ∈ ([(144, 4, 5, 4, 2, 8), (135, 3, 2, 1, 1, 196)] : List AF), FLok mr_64 q) (AL_c (CK_0 mt_54 (bi_2_14 MM_12) mfv_54) (AL_c (CK_0 mt_72 (bi_2_10 MM_0) mfv_72) (AL_c (CK_0 mt_69 (bi_3_2 MM_0) mfv_69) AL_n)) : ∀ q ∈ ([(84, 0, 54, 2, 236), (30, 0, 72, 2, 160), (140, 0, 69, 3, 32)] : List AK), CKok MT mr_64 q) AL_n AL_n AL_n AL_n
set_option maxRecDepth 20000 in
theorem gk_64 : GOK mr_64 := GK_r (bi_3_3 MM_6) cni_RX5 (plain_of cpl_RX5) cnh_RX5 pds_24
set_option maxRecDepth 20000 in
theorem ok_65 : FOK MT mr_65 := FK_r (FW_r (by decide +kernel) (by decide +kernel)) (AL_c (FL_1 rfl rfl (bi_1_14 MM_12) rfl) (AL_c (FL_1 rfl rfl (bi_1_14 MM_15) rfl) AL_n) : ∀ q ∈ ([(103, 4, 1, 1, 1, 236), (107, 4, 2, 1, 1, 239)] : List AF), FLok mr_65 q) (AL_c (CK_0 mt_71 (bi_2_11 MM_4) mfv_71) (AL_c (CK_0 mt_59 (bi_2_14 MM_8) mfv_59) (AL_c (CK_0 mt_73 (bi_3_0 MM_1) mfv_73) AL_n)) : ∀ q ∈ ([(42, 0, 71, 2, 180), (88, 0, 59, 2, 232), (99, 0, 73, 3, 1)] : List AK), CKok MT mr_65 q) AL_n AL_n AL_n (AL_c (XS_0 0 rfl) (AL_c (XS_0 1 rfl) (AL_c (XS_0 2 rfl) AL_n)) : ∀ q ∈ ([(95, 0, 10, 0, 0), (97, 0, 13, 0, 0), (105, 0, 16, 0, 0)] : List AKs), XOK mr_65 q)
set_option maxRecDepth 20000 in
theorem gk_65 : GOK mr_65 := GK_r (bi_2_11 MM_2) cni_RX5 (plain_of cpl_RX5) cnh_RX5 pds_24
set_option maxRecDepth 20000 in
theorem ok_66 : FOK MT mr_66 := FK_r (FW_r (by decide +kernel) (by decide +kernel)) (AL_c (FL_1 rfl rfl (bi_2_1 MM_1) rfl) (AL_c (FL_0 rfl rfl (bi_1_3 MM_9) rfl) (AL_c (FL_4 rfl rfl (bi_2_1 MM_5)) (AL_c (FL_4 rfl rfl (bi_2_1 MM_8)) AL_n))) : ∀ q ∈ ([(174, 4, 8, 1, 2, 17), (19, 5, 5, 0, 1, 57), (177, 4, 9, 4, 2, 21), (181, 4, 10, 4, 2, 24)] : List AF), FLok mr_66 q) (AL_c (CK_0 mt_54 (bi_2_14 MM_12) mfv_54) (AL_c (CK_0 mt_72 (bi_2_10 MM_0) mfv_72) (AL_c (CK_1 mt_51 (bi_3_2 MM_4) mfv_51) (AL_c (CK_0 mt_73 (bi_3_0 MM_1) mfv_73) (AL_c (CK_0 mt_74 (bi_3_4 MM_5) mfv_74) AL_n)))) : ∀ q ∈ ([(84, 0, 54, 2, 236), (30, 0, 72, 2, 160), (147, 1, 51, 3, 36), (99, 0, 73, 3, 1), (164, 0, 74, 3, 69)] : List AK), CKok MT mr_66 q) AL_n AL_n AL_n AL_n
set_option maxRecDepth 20000 in
theorem gk_66 : GOK mr_66 := GK_r (bi_3_4 MM_13) cni_RX5 (plain_of cpl_RX5) cnh_RX5 pds_24
set_option maxRecDepth 20000 in
theorem ok_67 : FOK MT mr_67 := FK_r (FW_r (by decide +kernel) (by decide +kernel)) (AL_c (FL_1 rfl rfl (bi_2_0 MM_2) rfl) (AL_c (FL_0 rfl rfl (bi_1_3 MM_9) rfl) (AL_c (FL_4 rfl rfl (bi_2_0 MM_5)) (AL_c (FL_4 rfl rfl (bi_1_13 MM_5)) (AL_c (FL_1 rfl rfl (bi_1_12 MM_4) rfl) AL_n)))) : ∀ q ∈ ([(109, 4, 3, 1, 2, 2), (19, 5, 5, 0, 1, 57), (118, 4, 4, 4, 2, 5), (131, 0, 0, 4, 1, 213), (135, 3, 2, 1, 1, 196)] : List AF), FLok mr_67 q) (AL_c (CK_0 mt_72 (bi_2_10 MM_0) mfv_72) (AL_c (CK_0 mt_58 (bi_3_0 MM_5) mfv_58) (AL_c (CK_0 mt_54 (bi_2_14 MM_12) mfv_54) (AL_c (CK_0 mt_69 (bi_3_2 MM_0) mfv_69) AL_n))) : ∀ q ∈ ([(30, 0, 72, 2, 160), (128, 0, 58, 3, 5), (84, 0, 54, 2, 236), (140, 0, 69, 3, 32)] : List AK), CKok MT mr_67 q) AL_n AL_n AL_n AL_n
set_option maxRecDepth 20000 in
theorem gk_67 : GOK mr_67 := GK_r (bi_3_1 MM_15) cni_RX5 (plain_of cpl_RX5) cnh_RX5 pds_24
set_option maxRecDepth 20000 in
theorem ok_68 : FOK MT mr_68 := FK_r (FW_r (by decide +kernel) (by decide +kernel)) (AL_c (FL_0 rfl rfl (bi_1_3 MM_9) rfl) (AL_c (FL_1 rfl rfl (bi_2_0 MM_11) rfl) (AL_c (FL_1 rfl rfl (bi_2_0 MM_14) rfl) AL_n)) : ∀ q ∈ ([(19, 5, 5, 0, 1, 57), (168, 4, 6, 1, 2, 11), (171, 4, 7, 1, 2, 14)] : List AF), FLok mr_68 q) (AL_c (CK_0 mt_72 (bi_2_10 MM_0) mfv_72) (AL_c (CK_1 mt_51 (bi_3_2 MM_4) mfv_51) (AL_c (CK_0 mt_73 (bi_3_0 MM_1) mfv_73) (AL_c (CK_0 mt_74 (bi_3_4 MM_5) mfv_74) AL_n))) : ∀ q ∈ ([(30, 0, 72, 2, 160), (147, 1, 51, 3, 36), (99, 0, 73, 3, 1), (164, 0, 74, 3, 69)] : List AK), CKok MT mr_68 q) AL_n AL_n AL_n AL_n
set_option maxRecDepth 20000 in
theorem gk_68 : GOK mr_68 := GK_r (bi_3_4 MM_4) cni_RX5 (plain_of cpl_RX5) cnh_RX5 pds_24
set_option maxRecDepth 20000 in
theorem ok_69 : FOK MT mr_69 := FK_r (FW_r (by decide +kernel) (by decide +kernel)) (AL_c (FL_0 rfl rfl (bi_1_3 MM_9) rfl) AL_n : ∀ q ∈ ([(19, 5, 5, 0, 1, 57)] : List AF), FLok mr_69 q) (AL_c (CK_1 mt_51 (bi_3_2 MM_4) mfv_51) (AL_c (CK_0 mt_73 (bi_3_0 MM_1) mfv_73) (AL_c (CK_0 mt_71 (bi_2_11 MM_4) mfv_71) (AL_c (CK_0 mt_59 (bi_2_14 MM_8) mfv_59) (AL_c (CK_1 mt_31 (bi_3_2 MM_10) mfv_31) AL_n)))) : ∀ q ∈ ([(147, 1, 51, 3, 36), (99, 0, 73, 3, 1), (42, 0, 71, 2, 180), (88, 0, 59, 2, 232), (154, 1, 31, 3, 42)] : List AK), CKok MT mr_69 q) AL_n AL_n AL_n (AL_c (XS_0 9 rfl) (AL_c (XS_0 10 rfl) AL_n) : ∀ q ∈ ([(150, 0, 8, 0, 0), (152, 0, 12, 0, 0)] : List AKs), XOK mr_69 q)
set_option maxRecDepth 20000 in
theorem gk_69 : GOK mr_69 := GK_r (bi_3_2 MM_3) cni_RX5 (plain_of cpl_RX5) cnh_RX5 pds_28
set_option maxRecDepth 20000 in
theorem ok_70 : FOK MT mr_70 := FK_r (FW_r (by decide +kernel) (by decide +kernel)) (AL_c (FL_1 rfl rfl (bi_2_0 MM_2) rfl) (AL_c (FL_0 rfl rfl (bi_1_3 MM_9) rfl) (AL_c (FL_4 rfl rfl (bi_2_0 MM_5)) (AL_c (FL_1 rfl rfl (bi_1_13 MM_13) rfl) AL_n))) : ∀ q ∈ ([(109, 4, 3, 1, 2, 2), (19, 5, 5, 0, 1, 57), (118, 4, 4, 4, 2, 5), (157, 0, 3, 1, 1, 221)] : List AF), FLok mr_70 q) (AL_c (CK_0 mt_72 (bi_2_10 MM_0) mfv_72) (AL_c (CK_0 mt_58 (bi_3_0 MM_5) mfv_58) (AL_c (CK_1 mt_45 (bi_3_3 MM_12) mfv_45) (AL_c (CK_0 mt_54 (bi_2_14 MM_12) mfv_54) AL_n))) : ∀ q ∈ ([(30, 0, 72, 2, 160), (128, 0, 58, 3, 5), (160, 1, 45, 3, 60), (84, 0, 54, 2, 236)] : List AK), CKok MT mr_70 q) AL_n AL_n AL_n AL_n
set_option maxRecDepth 20000 in
theorem gk_70 : GOK mr_70 := GK_r (bi_3_3 MM_11) cni_RX5 (plain_of cpl_RX5) cnh_RX5 pds_24
set_option maxRecDepth 20000 in
theorem ok_71 : FOK MT mr_71 := FK_r (FW_r (by decide +kernel) (by decide +kernel)) (AL_c (FL_0 rfl rfl (bi_1_3 MM_5) rfl) (AL_c (FL_0 rfl rfl (bi_1_3 MM_7) rfl) (AL_c (FL_0 rfl rfl (bi_1_3 MM_6) rfl) (AL_c (FL_3 rfl rfl (bi_1_3 MM_4)) (AL_c (FL_4 rfl rfl (bi_1_2 MM_4)) AL_n)))) : ∀ q ∈ ([(33, 5, 1, 0, 1, 53), (22, 5, 3, 0, 1, 55), (202, 5, 2, 0, 1, 54), (15, 5, 0, 3, 1, 52), (210, 8, 0, 4, 1, 36)] : List AF), FLok mr_71 q) (AL_c (CK_6 mt_4 (bi_2_11 MM_8) mfj_4) (AL_c (CK_6 mt_0 (bi_2_12 MM_2) mfj_0) AL_n) : ∀ q ∈ ([(205, 6, 4, 2, 184), (216, 6, 0, 2, 194)] : List AK), CKok MT mr_71 q) AL_n AL_n AL_n AL_n
set_option maxRecDepth 20000 in
theorem gk_71 : GOK mr_71 := GK_r (bi_2_11 MM_7) cni_RX5 (plain_of cpl_RX5) cnh_RX5 pds_29
set_option maxRecDepth 20000 in
theorem ok_72 : FOK MT mr_72 := FK_r (FW_r (by decide +kernel) (by decide +kernel)) (AL_c (FL_0 rfl rfl (bi_1_3 MM_7) rfl) (AL_c (FL_0 rfl rfl (bi_1_3 MM_6) rfl) (AL_c (FL_3 rfl rfl (bi_1_3 MM_4)) (AL_c (FL_1 rfl rfl (bi_1_2 MM_7) rfl) (AL_c (FL_4 rfl rfl (bi_1_2 MM_4)) (AL_c (FL_0 rfl rfl (bi_1_3 MM_5) rfl) (AL_c (FL_0 rfl rfl (bi_1_3 MM_8) rfl) AL_n)))))) : ∀ q ∈ ([(22, 5, 3, 0, 1, 55), (202, 5, 2, 0, 1, 54), (15, 5, 0, 3, 1, 52), (220, 8, 1, 1, 1, 39), (210, 8, 0, 4, 1, 36), (33, 5, 1, 0, 1, 53), (199, 5, 4, 0, 1, 56)] : List AF), FLok mr_72 q) (AL_c (CK_2 mt_56 (bi_2_10 MM_4) mfs_56) (AL_c (CK_0 mt_57 (bi_2_10 MM_7) mfv_57) (AL_c (CK_2 mt_11 (bi_2_10 MM_12) mfs_11) AL_n)) : ∀ q ∈ ([(221, 2, 56, 2, 164), (225, 0, 57, 2, 167), (229, 2, 11, 2, 172)] : List AK), CKok MT mr_72 q) (AL_c (W_r (bi_2_10 MM_11) rfl) AL_n : ∀ q ∈ ([(228, 1000000, 2, 171)] : List AKi), Cond.constant (my mr_72).cls q.1 q.2.1 ∈ TBL) AL_n AL_n AL_n
set_option maxRecDepth 20000 in
theorem gk_72 : GOK mr_72 := GK_r (bi_2_10 MM_3) cni_RX5 (plain_of cpl_RX5) cnh_RX5 pds_11
set_option maxRecDepth 20000 in
theorem ok_73 : FOK MT mr_73 := FK_r (FW_r (by decide +kernel) (by decide +kernel)) (AL_c (FL_0 rfl rfl (bi_1_3 MM_9) rfl) AL_n : ∀ q ∈ ([(19, 5, 5, 0, 1, 57)] : List AF), FLok mr_73 q) (AL_c (CK_0 mt_58 (bi_3_0 MM_5) mfv_58) (AL_c (CK_0 mt_72 (bi_2_10 MM_0) mfv_72) AL_n) : ∀ q ∈ ([(128, 0, 58, 3, 5), (30, 0, 72, 2, 160)] : List AK), CKok MT mr_73 q) AL_n AL_n AL_n AL_n
set_option maxRecDepth 20000 in
theorem gk_73 : GOK mr_73 := GK_r (bi_3_0 MM_4) cni_RX5 (plain_of cpl_RX5) cnh_RX5 pds_10
set_option maxRecDepth 20000 in
theorem ok_74 : FOK MT mr_74 := FK_r (FW_r (by decide +kernel) (by decide +kernel)) (AL_c (FL_0 rfl rfl (bi_1_3 MM_9) rfl) AL_n : ∀ q ∈ ([(19, 5, 5, 0, 1, 57)] : List AF), FLok mr_74 q) (AL_c (CK_0 mt_58 (bi_3_0 MM_5) mfv_58) (AL_c (CK_0 mt_54 (bi_2_14 MM_12) mfv_54) (AL_c (CK_0 mt_72 (bi_2_10 MM_0) mfv_72) AL_n)) : ∀ q ∈ ([(128, 0, 58, 3, 5), (84, 0, 54, 2, 236), (30, 0, 72, 2, 160)] : List AK), CKok MT mr_74 q) AL_n AL_n AL_n AL_n
set_option maxRecDepth 20000 in
theorem gk_74 : GOK mr_74 := GK_r (bi_3_4 MM_8) cni_RX5 (plain_of cpl_RX5) cnh_RX5 pds_7
set_option maxRecDepth 20000 in
theorem ok_75 : FOK MT mr_75 := FK_r (FW_r (by decide +kernel) (by decide +kernel)) AL_n (AL_c (CK_0 mt_71 (bi_2_11 MM_4) mfv_71) (AL_c (CK_0 mt_59 (bi_2_14 MM_8) mfv_59) AL_n) : ∀ q ∈ ([(42, 0, 71, 2, 180), (88, 0, 59, 2, 232)] : List AK), CKok MT mr_75 q) AL_n AL_n AL_n (AL_c (XS_0 4 rfl) (AL_c (XS_0 5 rfl) (AL_c (XS_0 6 rfl) AL_n)) : ∀ q ∈ ([(193, 0, 4, 0, 0), (195, 0, 11, 0, 0), (197, 0, 7, 0, 0)] : List AKs), XOK mr_75 q)
set_option maxRecDepth 20000 in
theorem gk_75 : GOK mr_75 := GK_r (bi_3_1 MM_2) cni_RX5 (plain_of cpl_RX5) cnh_RX5 pds_4
set_option maxRecDepth 20000 in
theorem ok_76 : FOK MT mr_76 := FK_r (FW_r (by decide +kernel) (by decide +kernel)) (AL_c (FL_0 rfl rfl (bi_1_5 MM_4) rfl) (AL_c (FL_3 rfl rfl (bi_1_5 MM_6)) (AL_c (FL_3 rfl rfl (bi_1_5 MM_8)) (AL_c (FL_3 rfl rfl (bi_1_5 MM_10)) AL_n))) : ∀ q ∈ ([(25, 6, 1, 0, 1, 84), (9, 6, 2, 3, 1, 86), (15, 6, 3, 3, 1, 88), (18, 6, 4, 3, 1, 90)] : List AF), FLok mr_76 q) (AL_c (CK_0 mt_77 (bi_3_6 MM_2) mfv_77) AL_n : ∀ q ∈ ([(38, 0, 77, 3, 98)] : List AK), CKok MT mr_76 q) AL_n AL_n AL_n AL_n
set_option maxRecDepth 20000 in
theorem gk_76 : GOK mr_76 := GK_r (bi_3_6 MM_1) cni_RX6 (plain_of cpl_RX6) cnh_RX6 pds_14
set_option maxRecDepth 20000 in
theorem ok_77 : FOK MT mr_77 := FK_r (FW_r (by decide +kernel) (by decide +kernel)) (AL_c (FL_0 rfl rfl (bi_1_5 MM_2) rfl) AL_n : ∀ q ∈ ([(21, 6, 0, 0, 1, 82)] : List AF), FLok mr_77 q) AL_n AL_n AL_n AL_n AL_n
set_option maxRecDepth 20000 in
theorem gk_77 : GOK mr_77 := GK_r (bi_3_6 MM_5) cni_RX6 (plain_of cpl_RX6) cnh_RX6 pds_10
set_option maxRecDepth 20000 in
theorem ok_78 : FOK MT mr_78 := FK_r (FW_r (by decide +kernel) (by decide +kernel)) (AL_c (FL_0 rfl rfl (bi_1_5 MM_4) rfl) (AL_c (FL_3 rfl rfl (bi_1_5 MM_10)) AL_n) : ∀ q ∈ ([(25, 6, 1, 0, 1, 84), (18, 6, 4, 3, 1, 90)] : List AF), FLok mr_78 q) (AL_c (CK_3 mt_100 (bi_3_10 MM_9) mfs_100) AL_n : ∀ q ∈ ([(42, 3, 100, 3, 169)] : List AK), CKok MT mr_78 q) AL_n AL_n AL_n AL_n
set_option maxRecDepth 20000 in
theorem gk_78 : GOK mr_78 := GK_r (bi_3_10 MM_8) cni_RX6 (plain_of cpl_RX6) cnh_RX6 pds_10
set_option maxRecDepth 20000 in
theorem ok_79 : FOK MT mr_79 := FK_r (FW_r (by decide +kernel) (by decide +kernel)) (AL_c (FL_0 rfl rfl (bi_1_5 MM_4) rfl) (AL_c (FL_3 rfl rfl (bi_1_5 MM_10)) AL_n) : ∀ q ∈ ([(25, 6, 1, 0, 1, 84), (18, 6, 4, 3, 1, 90)] : List AF), FLok mr_79 q) (AL_c (CK_3 mt_100 (bi_3_10 MM_9) mfs_100) AL_n : ∀ q ∈ ([(42, 3, 100, 3, 169)] : List AK), CKok MT mr_79 q) AL_n AL_n AL_n AL_n
set_option maxRecDepth 20000 in
theorem gk_79 : GOK mr_79 := GK_r (bi_3_13 MM_3) cni_RX6 (plain_of cpl_RX6) cnh_RX6 pds_10
set_option maxRecDepth 20000 in
theorem ok_80 : FOK MT mr_80 := FK_r (FW_r (by decide +kernel) (by decide +kernel)) (AL_c (FL_2 rfl rfl (bi_1_5 MM_6) rfl rfl rfl) (AL_c (FL_2 rfl rfl (bi_1_5 MM_8) rfl rfl rfl) (AL_c (FL_2 rfl rfl (bi_1_5 MM_10) rfl rfl rfl) AL_n)) : ∀ q ∈ ([(9, 6, 2, 2, 1, 86), (15, 6, 3, 2, 1, 88), (18, 6, 4, 2, 1, 90)] : List AF), FLok mr_80 q) (AL_c (CK_9 (bi_1_5 MM_1)) AL_n : ∀ q ∈ ([(3, 9, 0, 1, 81)] : List AK), CKok MT mr_80 q) AL_n AL_n AL_n AL_n
set_option maxRecDepth 20000 in
theorem gk_80 : GOK mr_80 := GK_r (bi_1_5 MM_0) cni_RX6 (plain_of cpl_RX6) cnh_RX6 pds_11
set_option maxRecDepth 20000 in
theorem ok_81 : FOK MT mr_81 := FK_r (FW_r (by decide +kernel) (by decide +kernel)) (AL_c (FL_0 rfl rfl (bi_1_5 MM_4) rfl) (AL_c (FL_3 rfl rfl (bi_1_5 MM_10)) AL_n) : ∀ q ∈ ([(25, 6, 1, 0, 1, 84), (18, 6, 4, 3, 1, 90)] : List AF), FLok mr_81 q) AL_n AL_n AL_n AL_n AL_n
set_option maxRecDepth 20000 in
theorem gk_81 : GOK mr_81 := GK_r (bi_3_14 MM_8) cni_RX6 (plain_of cpl_RX6) cnh_RX6 pds_7
set_option maxRecDepth 20000 in
theorem ok_82 : FOK MT mr_82 := FK_r (FW_r (by decide +kernel) (by decide +kernel)) (AL_c (FL_0 rfl rfl (bi_1_5 MM_2) rfl) (AL_c (FL_0 rfl rfl (bi_1_5 MM_4) rfl) AL_n) : ∀ q ∈ ([(21, 6, 0, 0, 1, 82), (25, 6, 1, 0, 1, 84)] : List AF), FLok mr_82 q) (AL_c (CK_2 mt_7 (bi_3_5 MM_13) mfs_7) (AL_c (CK_0 mt_76 (bi_3_5 MM_14) mfv_76) AL_n) : ∀ q ∈ ([(28, 2, 7, 3, 93), (34, 0, 76, 3, 94)] : List AK), CKok MT mr_82 q) AL_n AL_n AL_n AL_n
set_option maxRecDepth 20000 in
theorem gk_82 : GOK mr_82 := GK_r (bi_3_5 MM_12) cni_RX6 (plain_of cpl_RX6) cnh_RX6 pds_14
set_option maxRecDepth 20000 in
theorem ok_83 : FOK MT mr_83 := FK_r (FW_r (by decide +kernel) (by decide +kernel)) (AL_c (FL_0 rfl rfl (bi_1_5 MM_2) rfl) (AL_c (FL_0 rfl rfl (bi_1_5 MM_4) rfl) (AL_c (FL_3 rfl rfl (bi_1_5 MM_10)) AL_n)) : ∀ q ∈ ([(21, 6, 0, 0, 1, 82), (25, 6, 1, 0, 1, 84), (18, 6, 4, 3, 1, 90)] : List AF), FLok mr_83 q) (AL_c (CK_3 mt_100 (bi_3_10 MM_9) mfs_100) AL_n : ∀ q ∈ ([(42, 3, 100, 3, 169)] : List AK), CKok MT mr_83 q) AL_n AL_n AL_n AL_n
set_option maxRecDepth 20000 in
theorem gk_83 : GOK mr_83 := GK_r (bi_5_1 MM_15) cni_RX6 (plain_of cpl_RX6) cnh_RX6 pds_30
set_option maxRecDepth 20000 in
theorem ok_84 : FOK MT mr_84 := FK_r (FW_r (by decide +kernel) (by decide +kernel)) (AL_c (FL_0 rfl rfl (bi_2_5 MM_2) rfl) (AL_c (FL_0 rfl rfl (bi_2_5 MM_4) rfl) (AL_c (FL_0 rfl rfl (bi_2_5 MM_6) rfl) (AL_c (FL_3 rfl rfl (bi_2_5 MM_0)) AL_n))) : ∀ q ∈ ([(15, 7, 1, 0, 2, 82), (19, 7, 2, 0, 2, 84), (23, 7, 3, 0, 2, 86), (9, 7, 0, 3, 2, 80)] : List AF), FLok mr_84 q) (AL_c (CK_2 mt_9 (bi_5_10 MM_4) mfs_9) AL_n : ∀ q ∈ ([(26, 2, 9, 5, 164)] : List AK), CKok MT mr_84 q) AL_n AL_n AL_n AL_n
set_option maxRecDepth 20000 in
theorem gk_84 : GOK mr_84 := GK_r (bi_5_10 MM_3) cni_RX7 (plain_of cpl_RX7) cnh_RX7 pds_1
set_option maxRecDepth 20000 in
theorem ok_85 : FOK MT mr_85 := FK_r (FW_r (by decide +kernel) (by decide +kernel)) (AL_c (FL_0 rfl rfl (bi_2_5 MM_6) rfl) AL_n : ∀ q ∈ ([(23, 7, 3, 0, 2, 86)] : List AF), FLok mr_85 q) AL_n AL_n AL_n AL_n AL_n
set_option maxRecDepth 20000 in
theorem gk_85 : GOK mr_85 := GK_r (bi_5_11 MM_6) cni_RX7 (plain_of cpl_RX7) cnh_RX7 pds_22
set_option maxRecDepth 20000 in
theorem ok_86 : FOK MT mr_86 := FK_r (FW_r (by decide +kernel) (by decide +kernel)) (AL_c (FL_2 rfl rfl (bi_2_5 MM_0) rfl rfl rfl) AL_n : ∀ q ∈ ([(9, 7, 0, 2, 2, 80)] : List AF), FLok mr_86 q) (AL_c (CK_9 (bi_2_4 MM_15)) AL_n : ∀ q ∈ ([(3, 9, 0, 2, 79)] : List AK), CKok MT mr_86 q) AL_n AL_n AL_n AL_n
set_option maxRecDepth 20000 in
theorem gk_86 : GOK mr_86 := GK_r (bi_2_4 MM_14) cni_RX7 (plain_of cpl_RX7) cnh_RX7 pds_11
set_option maxRecDepth 20000 in
theorem ok_87 : FOK MT mr_87 := FK_r (FW_r (by decide +kernel) (by decide +kernel)) (AL_c (FL_0 rfl rfl (bi_2_5 MM_6) rfl) (AL_c (FL_3 rfl rfl (bi_2_5 MM_0)) AL_n) : ∀ q ∈ ([(23, 7, 3, 0, 2, 86), (9, 7, 0, 3, 2, 80)] : List AF), FLok mr_87 q) AL_n AL_n AL_n AL_n AL_n
set_option maxRecDepth 20000 in
theorem gk_87 : GOK mr_87 := GK_r (bi_4_13 MM_2) cni_RX7 (plain_of cpl_RX7) cnh_RX7 pds_21
set_option maxRecDepth 20000 in
theorem ok_88 : FOK MT mr_88 := FK_r (FW_r (by decide +kernel) (by decide +kernel)) (AL_c (FL_0 rfl rfl (bi_2_5 MM_4) rfl) (AL_c (FL_3 rfl rfl (bi_2_5 MM_0)) AL_n) : ∀ q ∈ ([(19, 7, 2, 0, 2, 84), (9, 7, 0, 3, 2, 80)] : List AF), FLok mr_88 q) AL_n AL_n AL_n AL_n AL_n
set_option maxRecDepth 20000 in
theorem gk_88 : GOK mr_88 := GK_r (bi_5_10 MM_14) cni_RX7 (plain_of cpl_RX7) cnh_RX7 pds_31
set_option maxRecDepth 20000 in
theorem ok_89 : FOK MT mr_89 := FK_r (FW_r (by decide +kernel) (by decide +kernel)) (AL_c (FL_0 rfl rfl (bi_2_5 MM_6) rfl) (AL_c (FL_3 rfl rfl (bi_2_5 MM_0)) AL_n) : ∀ q ∈ ([(23, 7, 3, 0, 2, 86), (9, 7, 0, 3, 2, 80)] : List AF), FLok mr_89 q) AL_n AL_n AL_n AL_n AL_n
set_option maxRecDepth 20000 in
theorem gk_89 : GOK mr_89 := GK_r (bi_4_13 MM_6) cni_RX7 (plain_of cpl_RX7) cnh_RX7 pds_7
set_option maxRecDepth 20000 in
theorem ok_90 : FOK MT mr_90 := FK_r (FW_r (by decide +kernel) (by decide +kernel)) (AL_c (FL_0 rfl rfl (bi_1_2 MM_6) rfl) (AL_c (FL_3 rfl rfl (bi_1_2 MM_3)) AL_n) : ∀ q ∈ ([(15, 8, 1, 0, 1, 38), (9, 8, 0, 3, 1, 35)] : List AF), FLok mr_90 q) AL_n AL_n AL_n AL_n AL_n
set_option maxRecDepth 20000 in
theorem gk_90 : GOK mr_90 := GK_r (bi_2_8 MM_12) cni_RX8 (plain_of cpl_RX8) cnh_RX8 pds_14
set_option maxRecDepth 20000 in
theorem ok_91 : FOK MT mr_91 := FK_r (FW_r (by decide +kernel) (by decide +kernel)) (AL_c (FL_2 rfl rfl (bi_1_2 MM_3) rfl rfl rfl) AL_n : ∀ q ∈ ([(9, 8, 0, 2, 1, 35)] : List AF), FLok mr_91 q) (AL_c (CK_9 (bi_1_2 MM_2)) AL_n : ∀ q ∈ ([(3, 9, 0, 1, 34)] : List AK), CKok MT mr_91 q) AL_n AL_n AL_n AL_n
set_option maxRecDepth 20000 in
theorem gk_91 : GOK mr_91 := GK_r (bi_1_2 MM_1) cni_RX8 (plain_of cpl_RX8) cnh_RX8 pds_11
set_option maxRecDepth 20000 in
theorem ok_92 : FOK MT mr_92 := FK_r (FW_r (by decide +kernel) (by decide +kernel)) (AL_c (FL_3 rfl rfl (bi_1_9 MM_13)) (AL_c (FL_0 rfl rfl (bi_1_10 MM_1) rfl) (AL_c (FL_4 rfl rfl (bi_2_1 MM_14)) AL_n)) : ∀ q ∈ ([(11, 9, 0, 3, 1, 157), (21, 9, 3, 0, 1, 161), (58, 4, 12, 4, 2, 30)] : List AF), FLok mr_92 q) (AL_c (CK_0 mt_97 (bi_5_4 MM_14) mfv_97) AL_n : ∀ q ∈ ([(70, 0, 97, 5, 78)] : List AK), CKok MT mr_92 q) AL_n AL_n AL_n AL_n
set_option maxRecDepth 20000 in
theorem gk_92 : GOK mr_92 := GK_r (bi_5_4 MM_13) cni_RX9 (plain_of cpl_RX9) cnh_RX9 pds_32
set_option maxRecDepth 20000 in
theorem ok_93 : FOK MT mr_93 := FK_r (FW_r (by decide +kernel) (by decide +kernel)) (AL_c (FL_2 rfl rfl (bi_1_9 MM_13) rfl rfl rfl) (AL_c (FL_2 rfl rfl (bi_1_9 MM_14) rfl rfl rfl) (AL_c (FL_2 rfl rfl (bi_1_9 MM_15) rfl rfl rfl) AL_n)) : ∀ q ∈ ([(11, 9, 0, 2, 1, 157), (15, 9, 1, 2, 1, 158), (18, 9, 2, 2, 1, 159)] : List AF), FLok mr_93 q) (AL_c (CK_9 (bi_1_9 MM_12)) AL_n : ∀ q ∈ ([(3, 9, 0, 1, 156)] : List AK), CKok MT mr_93 q) AL_n AL_n AL_n AL_n
set_option maxRecDepth 20000 in
theorem gk_93 : GOK mr_93 := GK_r (bi_1_9 MM_11) cni_RX9 (plain_of cpl_RX9) cnh_RX9 pds_11
set_option maxRecDepth 20000 in
theorem ok_94 : FOK MT mr_94 := FK_r (FW_r (by decide +kernel) (by decide +kernel)) (AL_c (FL_3 rfl rfl (bi_1_9 MM_14)) (AL_c (FL_3 rfl rfl (bi_1_9 MM_15)) AL_n) : ∀ q ∈ ([(15, 9, 1, 3, 1, 158), (18, 9, 2, 3, 1, 159)] : List AF), FLok mr_94 q) AL_n AL_n AL_n AL_n AL_n
set_option maxRecDepth 20000 in
theorem gk_94 : GOK mr_94 := GK_r (bi_5_4 MM_7) cni_RX9 (plain_of cpl_RX9) cnh_RX9 pds_3
set_option maxRecDepth 20000 in
theorem ok_95 : FOK MT mr_95 := FK_r (FW_r (by decide +kernel) (by decide +kernel)) (AL_c (FL_0 rfl rfl (bi_1_10 MM_2) rfl) (AL_c (FL_3 rfl rfl (bi_1_9 MM_14)) (AL_c (FL_3 rfl rfl (bi_1_9 MM_15)) AL_n)) : ∀ q ∈ ([(25, 9, 4, 0, 1, 162), (15, 9, 1, 3, 1, 158), (18, 9, 2, 3, 1, 159)] : List AF), FLok mr_95 q) (AL_c (CK_0 mt_94 (bi_5_4 MM_4) mfv_94) (AL_c (CK_8 (bi_5_4 MM_8)) AL_n) : ∀ q ∈ ([(73, 0, 94, 5, 68), (77, 8, 0, 5, 72)] : List AK), CKok MT mr_95 q) AL_n AL_n AL_n AL_n
set_option maxRecDepth 20000 in
theorem gk_95 : GOK mr_95 := GK_r (bi_5_4 MM_3) cni_RX9 (plain_of cpl_RX9) cnh_RX9 pds_14
set_option maxRecDepth 20000 in
theorem ok_96 : FOK MT mr_96 := FK_r (FW_r (by decide +kernel) (by decide +kernel)) (AL_c (FL_1 rfl rfl (bi_2_1 MM_10) rfl) (AL_c (FL_4 rfl rfl (bi_2_2 MM_1)) (AL_c (FL_4 rfl rfl (bi_2_1 MM_14)) (AL_c (FL_0 rfl rfl (bi_1_10 MM_2) rfl) (AL_c (FL_3 rfl rfl (bi_1_9 MM_14)) AL_n)))) : ∀ q ∈ ([(38, 4, 11, 1, 2, 26), (51, 4, 13, 4, 2, 33), (58, 4, 12, 4, 2, 30), (25, 9, 4, 0, 1, 162), (15, 9, 1, 3, 1, 158)] : List AF), FLok mr_96 q) (AL_c (CK_0 mt_95 (bi_5_4 MM_0) mfv_95) (AL_c (CK_3 mt_108 (bi_5_4 MM_9) mfs_108) (AL_c (CK_0 mt_92 (bi_5_4 MM_10) mfv_92) (AL_c (CK_0 mt_99 (bi_5_5 MM_3) mfv_99) (AL_c (CK_2 mt_10 (bi_5_5 MM_2) mfs_10) (AL_c (CK_2 mt_96 (bi_5_3 MM_13) mfs_96) AL_n))))) : ∀ q ∈ ([(43, 0, 95, 5, 64), (47, 3, 108, 5, 73), (54, 0, 92, 5, 74), (61, 0, 99, 5, 83), (65, 2, 10, 5, 82), (34, 2, 96, 5, 61)] : List AK), CKok MT mr_96 q) AL_n AL_n AL_n AL_n
set_option maxRecDepth 20000 in
theorem gk_96 : GOK mr_96 := GK_r (bi_5_3 MM_15) cni_RX9 (plain_of cpl_RX9) cnh_RX9 pds_33
set_option maxRecDepth 20000 in
theorem ok_97 : FOK MT mr_97 := FK_r (FW_r (by decide +kernel) (by decide +kernel)) (AL_c (FL_4 rfl rfl (bi_2_2 MM_1)) (AL_c (FL_3 rfl rfl (bi_1_9 MM_14)) (AL_c (FL_4 rfl rfl (bi_2_1 MM_14)) AL_n)) : ∀ q ∈ ([(51, 4, 13, 4, 2, 33), (15, 9, 1, 3, 1, 158), (58, 4, 12, 4, 2, 30)] : List AF), FLok mr_97 q) (AL_c (CK_3 mt_108 (bi_5_4 MM_9) mfs_108) (AL_c (CK_2 mt_10 (bi_5_5 MM_2) mfs_10) AL_n) : ∀ q ∈ ([(47, 3, 108, 5, 73), (65, 2, 10, 5, 82)] : List AK), CKok MT mr_97 q) AL_n AL_n AL_n AL_n
set_option maxRecDepth 20000 in
theorem gk_97 : GOK mr_97 := GK_r (bi_5_5 MM_1) cni_RX9 (plain_of cpl_RX9) cnh_RX9 pds_32
set_option maxRecDepth 20000 in
theorem ok_98 : FOK MT mr_98 := FK_r (FW_r (by decide +kernel) (by decide +kernel)) (AL_c (FL_0 rfl rfl (bi_1_10 MM_1) rfl) (AL_c (FL_0 rfl rfl (bi_1_10 MM_2) rfl) (AL_c (FL_3 rfl rfl (bi_1_9 MM_14)) AL_n)) : ∀ q ∈ ([(21, 9, 3, 0, 1, 161), (25, 9, 4, 0, 1, 162), (15, 9, 1, 3, 1, 158)] : List AF), FLok mr_98 q) (AL_c (CK_2 mt_8 (bi_5_3 MM_12) mfs_8) (AL_c (CK_2 mt_96 (bi_5_3 MM_13) mfs_96) AL_n) : ∀ q ∈ ([(28, 2, 8, 5, 60), (34, 2, 96, 5, 61)] : List AK), CKok MT mr_98 q) AL_n AL_n AL_n AL_n
set_option maxRecDepth 20000 in
theorem gk_98 : GOK mr_98 := GK_r (bi_5_3 MM_11) cni_RX9 (plain_of cpl_RX9) cnh_RX9 pds_32
set_option maxRecDepth 20000 in
theorem ok_99 : FOK MT mr_99 := FK_r (FW_r (by decide +kernel) (by decide +kernel)) (AL_c (FL_3 rfl rfl (bi_1_9 MM_13)) AL_n : ∀ q ∈ ([(11, 9, 0, 3, 1, 157)] : List AF), FLok mr_99 q) AL_n AL_n AL_n AL_n AL_n
set_option maxRecDepth 20000 in
theorem gk_99 : GOK mr_99 := GK_r (bi_5_5 MM_6) cni_RX9 (plain_of cpl_RX9) cnh_RX9 pds_19
set_option maxRecDepth 20000 in
theorem ok_100 : FOK MT mr_100 := FK_r (FW_r (by decide +kernel) (by decide +kernel)) AL_n AL_n AL_n AL_n AL_n AL_n
set_option maxRecDepth 20000 in
theorem gk_100 : GOK mr_100 := GK_r (bi_3_10 MM_11) cni_RX10 (plain_of cpl_RX10) cnh_RX10 pds_18
set_option maxRecDepth 20000 in
theorem ok_101 : FOK MT mr_101 := FK_r (FW_r (by decide +kernel) (by decide +kernel)) (AL_c (FL_0 rfl rfl (bi_2_6 MM_12) rfl) (AL_c (FL_1 rfl rfl (bi_2_0 MM_3) rfl) AL_n) : ∀ q ∈ ([(58, 10, 9, 0, 2, 108), (224, 4, 3, 1, 2, 3)] : List AF), FLok mr_101 q) (AL_c (CK_1 mt_47 (bi_3_6 MM_14) mfv_47) (AL_c (CK_0 mt_114 (bi_3_9 MM_5) mfv_114) AL_n) : ∀ q ∈ ([(107, 1, 47, 3, 110), (178, 0, 114, 3, 149)] : List AK), CKok MT mr_101 q) AL_n AL_n AL_n AL_n
set_option maxRecDepth 20000 in
theorem gk_101 : GOK mr_101 := GK_r (bi_4_13 MM_11) cni_RX10 (plain_of cpl_RX10) cnh_RX10 pds_7
set_option maxRecDepth 20000 in
theorem ok_102 : FOK MT mr_102 := FK_r (FW_r (by decide +kernel) (by decide +kernel)) (AL_c (FL_0 rfl rfl (bi_2_6 MM_12) rfl) AL_n : ∀ q ∈ ([(58, 10, 9, 0, 2, 108)] : List AF), FLok mr_102 q) (AL_c (CK_1 mt_47 (bi_3_6 MM_14) mfv_47) (AL_c (CK_1 mt_48 (bi_3_8 MM_5) mfv_48) (AL_c (CK_0 mt_114 (bi_3_9 MM_5) mfv_114) (AL_c (CK_0 mt_139 (bi_4_14 MM_9) mfv_139) (AL_c (CK_2 mt_7 (bi_3_8 MM_10) mfs_7) AL_n)))) : ∀ q ∈ ([(107, 1, 47, 3, 110), (150, 1, 48, 3, 133), (178, 0, 114, 3, 149), (319, 0, 139, 4, 233), (169, 2, 7, 3, 138)] : List AK), CKok MT mr_102 q) AL_n AL_n AL_n AL_n
set_option maxRecDepth 20000 in
theorem gk_102 : GOK mr_102 := GK_r (bi_5_1 MM_3) cni_RX10 (plain_of cpl_RX10) cnh_RX10 pds_10
set_option maxRecDepth 20000 in
theorem ok_103 : FOK MT mr_103 := FK_r (FW_r (by decide +kernel) (by decide +kernel)) (AL_c (FL_3 rfl rfl (bi_2_6 MM_9)) AL_n : ∀ q ∈ ([(75, 10, 6, 3, 2, 105)] : List AF), FLok mr_103 q) (AL_c (CK_0 mt_180 (bi_4_12 MM_8) mfv_180) (AL_c (CK_0 mt_104 (bi_5_2 MM_4) mfv_104) AL_n) : ∀ q ∈ ([(300, 0, 180, 4, 200), (326, 0, 104, 5, 36)] : List AK), CKok MT mr_103 q) AL_n AL_n AL_n AL_n
set_option maxRecDepth 20000 in
theorem gk_103 : GOK mr_103 := GK_r (bi_5_2 MM_3) cni_RX10 (plain_of cpl_RX10) cnh_RX10 pds_7
set_option maxRecDepth 20000 in
theorem ok_104 : FOK MT mr_104 := FK_r (FW_r (by decide +kernel) (by decide +kernel)) (AL_c (FL_3 rfl rfl (bi_2_6 MM_5)) (AL_c (FL_0 rfl rfl (bi_2_6 MM_12) rfl) AL_n) : ∀ q ∈ ([(28, 10, 2, 3, 2, 101), (58, 10, 9, 0, 2, 108)] : List AF), FLok mr_104 q) (AL_c (CK_1 mt_89 (bi_4_13 MM_3) mfv_89) (AL_c (CK_1 mt_79 (bi_3_13 MM_0) mfv_79) (AL_c (CK_1 mt_51 (bi_4_3 MM_7) mfv_51) (AL_c (CK_0 mt_153 (bi_5_2 MM_8) mfv_153) AL_n))) : ∀ q ∈ ([(303, 1, 89, 4, 211), (205, 1, 79, 3, 208), (251, 1, 51, 4, 55), (333, 0, 153, 5, 40)] : List AK), CKok MT mr_104 q) AL_n AL_n AL_n AL_n
set_option maxRecDepth 20000 in
theorem gk_104 : GOK mr_104 := GK_r (bi_5_2 MM_7) cni_RX10 (plain_of cpl_RX10) cnh_RX10 pds_34
set_option maxRecDepth 20000 in
theorem ok_105 : FOK MT mr_105 := FK_r (FW_r (by decide +kernel) (by decide +kernel)) (AL_c (FL_3 rfl rfl (bi_2_6 MM_11)) (AL_c (FL_0 rfl rfl (bi_2_6 MM_12) rfl) (AL_c (FL_3 rfl rfl (bi_2_6 MM_10)) (AL_c (FL_3 rfl rfl (bi_2_6 MM_5)) (AL_c (FL_1 rfl rfl (bi_1_14 MM_13) rfl) AL_n)))) : ∀ q ∈ ([(69, 10, 8, 3, 2, 107), (58, 10, 9, 0, 2, 108), (65, 10, 7, 3, 2, 106), (28, 10, 2, 3, 2, 101), (95, 4, 1, 1, 1, 237)] : List AF), FLok mr_105 q) (AL_c (CK_1 mt_53 (bi_5_8 MM_8) mfv_53) (AL_c (CK_1 mt_82 (bi_3_5 MM_9) mfv_82) AL_n) : ∀ q ∈ ([(362, 1, 53, 5, 136), (98, 1, 82, 3, 89)] : List AK), CKok MT mr_105 q) AL_n AL_n AL_n AL_n
set_option maxRecDepth 20000 in
theorem gk_105 : GOK mr_105 := GK_r (bi_5_9 MM_11) cni_RX10 (plain_of cpl_RX10) cnh_RX10 pds_7
set_option maxRecDepth 20000 in
theorem ok_106 : FOK MT mr_106 := FK_r (FW_r (by decide +kernel) (by decide +kernel)) (AL_c (FL_0 rfl rfl (bi_2_6 MM_12) rfl) (AL_c (FL_1 rfl rfl (bi_2_1 MM_12) rfl) (AL_c (FL_3 rfl rfl (bi_2_6 MM_8)) (AL_c (FL_1 rfl rfl (bi_2_0 MM_0) rfl) (AL_c (FL_4 rfl rfl (bi_1_10 MM_0)) AL_n)))) : ∀ q ∈ ([(58, 10, 9, 0, 2, 108), (344, 4, 11, 1, 2, 28), (51, 10, 5, 3, 2, 104), (337, 4, 2, 1, 2, 0), (347, 9, 2, 4, 1, 160)] : List AF), FLok mr_106 q) (AL_c (CK_1 mt_98 (bi_5_3 MM_8) mfv_98) AL_n : ∀ q ∈ ([(340, 1, 98, 5, 56)] : List AK), CKok MT mr_106 q) AL_n AL_n AL_n AL_n
set_option maxRecDepth 20000 in
theorem gk_106 : GOK mr_106 := GK_r (bi_5_5 MM_10) cni_RX10 (plain_of cpl_RX10) cnh_RX10 pds_7
set_option maxRecDepth 20000 in
theorem ok_107 : FOK MT mr_107 := FK_r (FW_r (by decide +kernel) (by decide +kernel)) (AL_c (FL_0 rfl rfl (bi_2_6 MM_12) rfl) (AL_c (FL_1 rfl rfl (bi_2_0 MM_3) rfl) AL_n) : ∀ q ∈ ([(58, 10, 9, 0, 2, 108), (224, 4, 3, 1, 2, 3)] : List AF), FLok mr_107 q) (AL_c (CK_1 mt_43 (bi_3_8 MM_1) mfv_43) (AL_c (CK_0 mt_114 (bi_3_9 MM_5) mfv_114) (AL_c (CK_0 mt_156 (bi_3_14 MM_13) mfv_156) AL_n)) : ∀ q ∈ ([(146, 1, 43, 3, 129), (178, 0, 114, 3, 149), (218, 0, 156, 3, 237)] : List AK), CKok MT mr_107 q) AL_n AL_n AL_n AL_n
set_option maxRecDepth 20000 in
theorem gk_107 : GOK mr_107 := GK_r (bi_4_1 MM_1) cni_RX10 (plain_of cpl_RX10) cnh_RX10 pds_4
set_option maxRecDepth 20000 in
theorem ok_108 : FOK MT mr_108 := FK_r (FW_r (by decide +kernel) (by decide +kernel)) AL_n AL_n AL_n AL_n AL_n AL_n
set_option maxRecDepth 20000 in
theorem gk_108 : GOK mr_108 := GK_r (bi_3_11 MM_7) cni_RX10 (plain_of cpl_RX10) cnh_RX10 pds_10
set_option maxRecDepth 20000 in
theorem ok_109 : FOK MT mr_109 := FK_r (FW_r (by decide +kernel) (by decide +kernel)) (AL_c (FL_0 rfl rfl (bi_2_6 MM_12) rfl) (AL_c (FL_4 rfl rfl (bi_2_0 MM_6)) (AL_c (FL_1 rfl rfl (bi_1_13 MM_12) rfl) AL_n)) : ∀ q ∈ ([(58, 10, 9, 0, 2, 108), (111, 4, 4, 4, 2, 6), (130, 0, 3, 1, 1, 220)] : List AF), FLok mr_109 q) (AL_c (CK_1 mt_47 (bi_3_6 MM_14) mfv_47) (AL_c (CK_1 mt_45 (bi_4_14 MM_0) mfv_45) AL_n) : ∀ q ∈ ([(107, 1, 47, 3, 110), (307, 1, 45, 4, 224)] : List AK), CKok MT mr_109 q) AL_n AL_n AL_n AL_n
set_option maxRecDepth 20000 in
theorem gk_109 : GOK mr_109 := GK_r (bi_4_13 MM_15) cni_RX10 (plain_of cpl_RX10) cnh_RX10 pds_10
set_option maxRecDepth 20000 in
theorem ok_110 : FOK MT mr_110 := FK_r (FW_r (by decide +kernel) (by decide +kernel)) (AL_c (FL_0 rfl rfl (bi_2_6 MM_12) rfl) (AL_c (FL_1 rfl rfl (bi_1_14 MM_13) rfl) (AL_c (FL_1 rfl rfl (bi_2_0 MM_0) rfl) (AL_c (FL_1 rfl rfl (bi_2_0 MM_3) rfl) (AL_c (FL_4 rfl rfl (bi_2_0 MM_9)) (AL_c (FL_1 rfl rfl (bi_1_12 MM_5) rfl) (AL_c (FL_1 rfl rfl (bi_2_1 MM_2) rfl) (AL_c (FL_1 rfl rfl (bi_2_1 MM_12) rfl) (AL_c (FL_1 rfl rfl (bi_2_2 MM_4) rfl) (AL_c (FL_1 rfl rfl (bi_1_14 MM_10) rfl) (AL_c (FL_3 rfl rfl (bi_2_6 MM_3)) (AL_c (FL_1 rfl rfl (bi_1_2 MM_5) rfl) AL_n))))))))))) : ∀ q ∈ ([(58, 10, 9, 0, 2, 108), (95, 4, 1, 1, 1, 237), (337, 4, 2, 1, 2, 0), (224, 4, 3, 1, 2, 3), (143, 4, 5, 4, 2, 9), (127, 3, 2, 1, 1, 197), (356, 4, 8, 1, 2, 18), (344, 4, 11, 1, 2, 28), (234, 4, 14, 1, 2, 36), (101, 4, 0, 1, 1, 234), (10, 10, 0, 3, 2, 99), (80, 8, 1, 1, 1, 37)] : List AF), FLok mr_110 q) (AL_c (CK_0 mt_128 (bi_5_8 MM_0) mfv_128) AL_n : ∀ q ∈ ([(359, 0, 128, 5, 128)] : List AK), CKok MT mr_110 q) AL_n AL_n AL_n AL_n
set_option maxRecDepth 20000 in
theorem gk_110 : GOK mr_110 := GK_r (bi_5_7 MM_15) cni_RX10 (plain_of cpl_RX10) cnh_RX10 pds_7
set_option maxRecDepth 20000 in
theorem ok_111 : FOK MT mr_111 := FK_r (FW_r (by decide +kernel) (by decide +kernel)) (AL_c (FL_0 rfl rfl (bi_2_6 MM_12) rfl) (AL_c (FL_3 rfl rfl (bi_2_6 MM_6)) AL_n) : ∀ q ∈ ([(58, 10, 9, 0, 2, 108), (37, 10, 3, 3, 2, 102)] : List AF), FLok mr_111 q) (AL_c (CK_2 mt_148 (bi_4_4 MM_2) mfs_148) (AL_c (CK_1 mt_46 (bi_3_14 MM_1) mfv_46) (AL_c (CK_1 mt_25 (bi_4_4 MM_5) mfv_25) AL_n)) : ∀ q ∈ ([(261, 2, 148, 4, 66), (212, 1, 46, 3, 225), (264, 1, 25, 4, 69)] : List AK), CKok MT mr_111 q) AL_n AL_n AL_n AL_n
set_option maxRecDepth 20000 in
theorem gk_111 : GOK mr_111 := GK_r (bi_4_6 MM_5) cni_RX10 (plain_of cpl_RX10) cnh_RX10 pds_10
set_option maxRecDepth 20000 in
theorem ok_112 : FOK MT mr_112 := FK_r (FW_r (by decide +kernel) (by decide +kernel)) (AL_c (FL_0 rfl rfl (bi_2_6 MM_12) rfl) AL_n : ∀ q ∈ ([(58, 10, 9, 0, 2, 108)] : List AF), FLok mr_112 q) (AL_c (CK_1 mt_47 (bi_3_6 MM_14) mfv_47) (AL_c (CK_0 mt_114 (bi_3_9 MM_5) mfv_114) AL_n) : ∀ q ∈ ([(107, 1, 47, 3, 110), (178, 0, 114, 3, 149)] : List AK), CKok MT mr_112 q) AL_n AL_n AL_n AL_n
set_option maxRecDepth 20000 in
theorem gk_112 : GOK mr_112 := GK_r (bi_3_11 MM_11) cni_RX10 (plain_of cpl_RX10) cnh_RX10 pds_7
set_option maxRecDepth 20000 in
theorem ok_113 : FOK MT mr_113 := FK_r (FW_r (by decide +kernel) (by decide +kernel)) (AL_c (FL_0 rfl rfl (bi_2_6 MM_12) rfl) (AL_c (FL_3 rfl rfl (bi_2_6 MM_5)) AL_n) : ∀ q ∈ ([(58, 10, 9, 0, 2, 108), (28, 10, 2, 3, 2, 101)] : List AF), FLok mr_113 q) (AL_c (CK_1 mt_50 (bi_3_13 MM_8) mfv_50) (AL_c (CK_1 mt_77 (bi_3_8 MM_9) mfv_77) AL_n) : ∀ q ∈ ([(208, 1, 50, 3, 216), (165, 1, 77, 3, 137)] : List AK), CKok MT mr_113 q) AL_n AL_n AL_n AL_n
set_option maxRecDepth 20000 in
theorem gk_113 : GOK mr_113 := GK_r (bi_3_13 MM_7) cni_RX10 (plain_of cpl_RX10) cnh_RX10 pds_10
set_option maxRecDepth 20000 in
theorem ok_114 : FOK MT mr_114 := FK_r (FW_r (by decide +kernel) (by decide +kernel)) (AL_c (FL_0 rfl rfl (bi_2_6 MM_12) rfl) (AL_c (FL_3 rfl rfl (bi_2_6 MM_6)) (AL_c (FL_1 rfl rfl (bi_1_13 MM_8) rfl) (AL_c (FL_4 rfl rfl (bi_1_13 MM_6)) AL_n))) : ∀ q ∈ ([(58, 10, 9, 0, 2, 108), (37, 10, 3, 3, 2, 102), (115, 0, 1, 1, 1, 216), (123, 0, 0, 4, 1, 214)] : List AF), FLok mr_114 q) (AL_c (CK_1 mt_52 (bi_3_9 MM_9) mfv_52) (AL_c (CK_1 mt_22 (bi_3_9 MM_13) mfv_22) AL_n) : ∀ q ∈ ([(184, 1, 52, 3, 153), (397, 1, 22, 3, 157)] : List AK), CKok MT mr_114 q) AL_n AL_n AL_n AL_n
set_option maxRecDepth 20000 in
theorem gk_114 : GOK mr_114 := GK_r (bi_3_9 MM_8) cni_RX10 (plain_of cpl_RX10) cnh_RX10 pds_7
set_option maxRecDepth 20000 in
theorem ok_115 : FOK MT mr_115 := FK_r (FW_r (by decide +kernel) (by decide +kernel)) (AL_c (FL_0 rfl rfl (bi_2_6 MM_12) rfl) (AL_c (FL_4 rfl rfl (bi_2_0 MM_6)) (AL_c (FL_1 rfl rfl (bi_1_13 MM_10) rfl) AL_n)) : ∀ q ∈ ([(58, 10, 9, 0, 2, 108), (111, 4, 4, 4, 2, 6), (120, 0, 2, 1, 1, 218)] : List AF), FLok mr_115 q) (AL_c (CK_0 mt_114 (bi_3_9 MM_5) mfv_114) (AL_c (CK_1 mt_51 (bi_4_3 MM_7) mfv_51) AL_n) : ∀ q ∈ ([(178, 0, 114, 3, 149), (251, 1, 51, 4, 55)] : List AK), CKok MT mr_115 q) AL_n (AL_c (W_r (bi_5_7 MM_3) rfl) (AL_c (W_r (bi_5_7 MM_4) rfl) (AL_c (W_r (bi_5_7 MM_5) rfl) (AL_c (W_r (bi_5_7 MM_6) rfl) (AL_c (W_r (bi_5_7 MM_7) rfl) AL_n)))) : ∀ q ∈ ([(415, 1103515245, 5, 115), (417, 12345, 5, 116), (419, 2147483648, 5, 117), (421, 65536, 5, 118), (423, 100, 5, 119)] : List AKl), Cond.constantLong (my mr_115).cls q.1 q.2.1 ∈ TBL) AL_n AL_n
set_option maxRecDepth 20000 in
theorem gk_115 : GOK mr_115 := GK_r (bi_5_7 MM_2) cni_RX10 (plain_of cpl_RX10) cnh_RX10 pds_10
set_option maxRecDepth 20000 in
theorem ok_116 : FOK MT mr_116 := FK_r (FW_r (by decide +kernel) (by decide +kernel)) (AL_c (FL_0 rfl rfl (bi_2_6 MM_12) rfl) (AL_c (FL_4 rfl rfl (bi_2_0 MM_6)) (AL_c (FL_1 rfl rfl (bi_1_13 MM_8) rfl) (AL_c (FL_1 rfl rfl (bi_1_13 MM_10) rfl) (AL_c (FL_4 rfl rfl (bi_1_13 MM_6)) (AL_c (FL_1 rfl rfl (bi_1_12 MM_5) rfl) (AL_c (FL_1 rfl rfl (bi_1_13 MM_12) rfl) AL_n)))))) : ∀ q ∈ ([(58, 10, 9, 0, 2, 108), (111, 4, 4, 4, 2, 6), (115, 0, 1, 1, 1, 216), (120, 0, 2, 1, 1, 218), (123, 0, 0, 4, 1, 214), (127, 3, 2, 1, 1, 197), (130, 0, 3, 1, 1, 220)] : List AF), FLok mr_116 q) (AL_c (CK_1 mt_47 (bi_3_6 MM_14) mfv_47) AL_n : ∀ q ∈ ([(107, 1, 47, 3, 110)] : List AK), CKok MT mr_116 q) AL_n AL_n AL_n AL_n
set_option maxRecDepth 20000 in
theorem gk_116 : GOK mr_116 := GK_r (bi_3_6 MM_13) cni_RX10 (plain_of cpl_RX10) cnh_RX10 pds_10
set_option maxRecDepth 20000 in
theorem ok_117 : FOK MT mr_117 := FK_r (FW_r (by decide +kernel) (by decide +kernel)) (AL_c (FL_0 rfl rfl (bi_2_6 MM_12) rfl) (AL_c (FL_3 rfl rfl (bi_2_6 MM_6)) AL_n) : ∀ q ∈ ([(58, 10, 9, 0, 2, 108), (37, 10, 3, 3, 2, 102)] : List AF), FLok mr_117 q) (AL_c (CK_1 mt_46 (bi_3_14 MM_1) mfv_46) (AL_c (CK_1 mt_25 (bi_4_4 MM_5) mfv_25) (AL_c (CK_2 mt_7 (bi_3_8 MM_10) mfs_7) AL_n)) : ∀ q ∈ ([(212, 1, 46, 3, 225), (264, 1, 25, 4, 69), (169, 2, 7, 3, 138)] : List AK), CKok MT mr_117 q) AL_n AL_n AL_n AL_n
set_option maxRecDepth 20000 in
theorem gk_117 : GOK mr_117 := GK_r (bi_4_7 MM_1) cni_RX10 (plain_of cpl_RX10) cnh_RX10 pds_7
set_option maxRecDepth 20000 in
theorem ok_118 : FOK MT mr_118 := FK_r (FW_r (by decide +kernel) (by decide +kernel)) (AL_c (FL_3 rfl rfl (bi_2_6 MM_3)) (AL_c (FL_1 rfl rfl (bi_1_2 MM_5) rfl) AL_n) : ∀ q ∈ ([(10, 10, 0, 3, 2, 99), (80, 8, 1, 1, 1, 37)] : List AF), FLok mr_118 q) AL_n AL_n AL_n AL_n AL_n
set_option maxRecDepth 20000 in
theorem gk_118 : GOK mr_118 := GK_r (bi_2_9 MM_0) cni_RX10 (plain_of cpl_RX10) cnh_RX10 pds_7
set_option maxRecDepth 20000 in
theorem ok_119 : FOK MT mr_119 := FK_r (FW_r (by decide +kernel) (by decide +kernel)) (AL_c (FL_0 rfl rfl (bi_2_6 MM_12) rfl) (AL_c (FL_3 rfl rfl (bi_2_6 MM_6)) AL_n) : ∀ q ∈ ([(58, 10, 9, 0, 2, 108), (37, 10, 3, 3, 2, 102)] : List AF), FLok mr_119 q) (AL_c (CK_2 mt_148 (bi_4_4 MM_2) mfs_148) (AL_c (CK_1 mt_46 (bi_3_14 MM_1) mfv_46) (AL_c (CK_1 mt_20 (bi_4_11 MM_4) mfv_20) AL_n)) : ∀ q ∈ ([(261, 2, 148, 4, 66), (212, 1, 46, 3, 225), (294, 1, 20, 4, 180)] : List AK), CKok MT mr_119 q) AL_n AL_n AL_n AL_n
set_option maxRecDepth 20000 in
theorem gk_119 : GOK mr_119 := GK_r (bi_4_11 MM_3) cni_RX10 (plain_of cpl_RX10) cnh_RX10 pds_10
set_option maxRecDepth 20000 in
theorem ok_120 : FOK MT mr_120 := FK_r (FW_r (by decide +kernel) (by decide +kernel)) (AL_c (FL_0 rfl rfl (bi_2_6 MM_12) rfl) (AL_c (FL_4 rfl rfl (bi_2_0 MM_9)) (AL_c (FL_1 rfl rfl (bi_1_12 MM_5) rfl) (AL_c (FL_4 rfl rfl (bi_1_11 MM_13)) (AL_c (FL_4 rfl rfl (bi_1_12 MM_0)) AL_n)))) : ∀ q ∈ ([(58, 10, 9, 0, 2, 108), (143, 4, 5, 4, 2, 9), (127, 3, 2, 1, 1, 197), (136, 3, 0, 4, 1, 189), (140, 3, 1, 4, 1, 192)] : List AF), FLok mr_120 q) (AL_c (CK_2 mt_149 (bi_3_7 MM_6) mfs_149) AL_n : ∀ q ∈ ([(133, 2, 149, 3, 118)] : List AK), CKok MT mr_120 q) AL_n AL_n AL_n AL_n
set_option maxRecDepth 20000 in
theorem gk_120 : GOK mr_120 := GK_r (bi_3_7 MM_12) cni_RX10 (plain_of cpl_RX10) cnh_RX10 pds_10
set_option maxRecDepth 20000 in
theorem ok_121 : FOK MT mr_121 := FK_r (FW_r (by decide +kernel) (by decide +kernel)) (AL_c (FL_3 rfl rfl (bi_2_6 MM_4)) (AL_c (FL_1 rfl rfl (bi_1_3 MM_10) rfl) (AL_c (FL_1 rfl rfl (bi_1_3 MM_12) rfl) AL_n)) : ∀ q ∈ ([(21, 10, 1, 3, 2, 100), (92, 5, 5, 1, 1, 58), (104, 5, 6, 1, 1, 60)] : List AF), FLok mr_121 q) AL_n AL_n AL_n AL_n AL_n
set_option maxRecDepth 20000 in
theorem gk_121 : GOK mr_121 := GK_r (bi_3_6 MM_9) cni_RX10 (plain_of cpl_RX10) cnh_RX10 pds_7
set_option maxRecDepth 20000 in
theorem ok_122 : FOK MT mr_122 := FK_r (FW_r (by decide +kernel) (by decide +kernel)) (AL_c (FL_3 rfl rfl (bi_2_6 MM_3)) (AL_c (FL_1 rfl rfl (bi_1_2 MM_5) rfl) AL_n) : ∀ q ∈ ([(10, 10, 0, 3, 2, 99), (80, 8, 1, 1, 1, 37)] : List AF), FLok mr_122 q) (AL_c (CK_1 mt_90 (bi_2_8 MM_9) mfv_90) AL_n : ∀ q ∈ ([(84, 1, 90, 2, 137)] : List AK), CKok MT mr_122 q) AL_n AL_n AL_n AL_n
set_option maxRecDepth 20000 in
theorem gk_122 : GOK mr_122 := GK_r (bi_2_8 MM_8) cni_RX10 (plain_of cpl_RX10) cnh_RX10 pds_35
set_option maxRecDepth 20000 in
theorem ok_123 : FOK MT mr_123 := FK_r (FW_r (by decide +kernel) (by decide +kernel)) (AL_c (FL_0 rfl rfl (bi_2_6 MM_12) rfl) (AL_c (FL_3 rfl rfl (bi_2_6 MM_6)) AL_n) : ∀ q ∈ ([(58, 10, 9, 0, 2, 108), (37, 10, 3, 3, 2, 102)] : List AF), FLok mr_123 q) (AL_c (CK_2 mt_148 (bi_4_4 MM_2) mfs_148) (AL_c (CK_1 mt_46 (bi_3_14 MM_1) mfv_46) (AL_c (CK_1 mt_25 (bi_4_4 MM_5) mfv_25) (AL_c (CK_2 mt_7 (bi_3_8 MM_10) mfs_7) AL_n))) : ∀ q ∈ ([(261, 2, 148, 4, 66), (212, 1, 46, 3, 225), (264, 1, 25, 4, 69), (169, 2, 7, 3, 138)] : List AK), CKok MT mr_123 q) AL_n AL_n AL_n AL_n
set_option maxRecDepth 20000 in
theorem gk_123 : GOK mr_123 := GK_r (bi_4_4 MM_1) cni_RX10 (plain_of cpl_RX10) cnh_RX10 pds_10
set_option maxRecDepth 20000 in
theorem ok_124 : FOK MT mr_124 := FK_r (FW_r (by decide +kernel) (by decide +kernel)) (AL_c (FL_3 rfl rfl (bi_2_6 MM_5)) (AL_c (FL_3 rfl rfl (bi_2_6 MM_9)) AL_n) : ∀ q ∈ ([(28, 10, 2, 3, 2, 101), (75, 10, 6, 3, 2, 105)] : List AF), FLok mr_124 q) (AL_c (CK_0 mt_180 (bi_4_12 MM_8) mfv_180) (AL_c (CK_1 mt_89 (bi_4_13 MM_3) mfv_89) (AL_c (CK_1 mt_79 (bi_3_13 MM_0) mfv_79) AL_n)) : ∀ q ∈ ([(300, 0, 180, 4, 200), (303, 1, 89, 4, 211), (205, 1, 79, 3, 208)] : List AK), CKok MT mr_124 q) AL_n AL_n AL_n AL_n
set_option maxRecDepth 20000 in
theorem gk_124 : GOK mr_124 := GK_r (bi_5_1 MM_7) cni_RX10 (plain_of cpl_RX10) cnh_RX10 pds_7
set_option maxRecDepth 20000 in
theorem ok_125 : FOK MT mr_125 := FK_r (FW_r (by decide +kernel) (by decide +kernel)) (AL_c (FL_0 rfl rfl (bi_2_6 MM_12) rfl) AL_n : ∀ q ∈ ([(58, 10, 9, 0, 2, 108)] : List AF), FLok mr_125 q) (AL_c (CK_1 mt_47 (bi_3_6 MM_14) mfv_47) (AL_c (CK_2 mt_149 (bi_3_7 MM_6) mfs_149) (AL_c (CK_0 mt_126 (bi_4_7 MM_6) mfv_126) (AL_c (CK_0 mt_160 (bi_4_7 MM_10) mfv_160) (AL_c (CK_0 mt_114 (bi_3_9 MM_5) mfv_114) AL_n)))) : ∀ q ∈ ([(107, 1, 47, 3, 110), (133, 2, 149, 3, 118), (270, 0, 126, 4, 118), (273, 0, 160, 4, 122), (178, 0, 114, 3, 149)] : List AK), CKok MT mr_125 q) AL_n AL_n AL_n AL_n
set_option maxRecDepth 20000 in
theorem gk_125 : GOK mr_125 := GK_r (bi_4_7 MM_5) cni_RX10 (plain_of cpl_RX10) cnh_RX10 pds_10
set_option maxRecDepth 20000 in
theorem ok_126 : FOK MT mr_126 := FK_r (FW_r (by decide +kernel) (by decide +kernel)) AL_n (AL_c (CK_0 mt_114 (bi_3_9 MM_5) mfv_114) (AL_c (CK_0 mt_160 (bi_4_7 MM_10) mfv_160) AL_n) : ∀ q ∈ ([(178, 0, 114, 3, 149), (273, 0, 160, 4, 122)] : List AK), CKok MT mr_126 q) AL_n AL_n AL_n AL_n
set_option maxRecDepth 20000 in
theorem gk_126 : GOK mr_126 := GK_r (bi_4_7 MM_9) cni_RX10 (plain_of cpl_RX10) cnh_RX10 pds_7
set_option maxRecDepth 20000 in
theorem ok_127 : FOK MT mr_127 := FK_r (FW_r (by decide +kernel) (by decide +kernel)) (AL_c (FL_0 rfl rfl (bi_2_6 MM_12) rfl) (AL_c (FL_4 rfl rfl (bi_2_0 MM_6)) (AL_c (FL_4 rfl rfl (bi_1_13 MM_6)) AL_n)) : ∀ q ∈ ([(58, 10, 9, 0, 2, 108), (111, 4, 4, 4, 2, 6), (123, 0, 0, 4, 1, 214)] : List AF), FLok mr_127 q) (AL_c (CK_0 mt_160 (bi_4_7 MM_10) mfv_160) (AL_c (CK_2 mt_108 (bi_3_11 MM_5) mfs_108) (AL_c (CK_1 mt_31 (bi_4_1 MM_14) mfv_31) (AL_c (CK_0 mt_114 (bi_3_9 MM_5) mfv_114) (AL_c (CK_1 mt_33 (bi_4_2 MM_3) mfv_33) (AL_c (CK_2 mt_7 (bi_3_8 MM_10) mfs_7) AL_n))))) : ∀ q ∈ ([(273, 0, 160, 4, 122), (181, 2, 108, 3, 181), (237, 1, 31, 4, 30), (178, 0, 114, 3, 149), (244, 1, 33, 4, 35), (169, 2, 7, 3, 138)] : List AK), CKok MT mr_127 q) AL_n AL_n AL_n AL_n
set_option maxRecDepth 20000 in
theorem gk_127 : GOK mr_127 := GK_r (bi_4_8 MM_14) cni_RX10 (plain_of cpl_RX10) cnh_RX10 pds_10
set_option maxRecDepth 20000 in
theorem ok_128 : FOK MT mr_128 := FK_r (FW_r (by decide +kernel) (by decide +kernel)) (AL_c (FL_3 rfl rfl (bi_2_6 MM_9)) (AL_c (FL_1 rfl rfl (bi_2_5 MM_3) rfl) AL_n) : ∀ q ∈ ([(75, 10, 6, 3, 2, 105), (371, 7, 1, 1, 2, 83)] : List AF), FLok mr_128 q) AL_n AL_n AL_n AL_n AL_n
set_option maxRecDepth 20000 in
theorem gk_128 : GOK mr_128 := GK_r (bi_5_8 MM_3) cni_RX10 (plain_of cpl_RX10) cnh_RX10 pds_4
set_option maxRecDepth 20000 in
theorem ok_129 : FOK MT mr_129 := FK_r (FW_r (by decide +kernel) (by decide +kernel)) (AL_c (FL_0 rfl rfl (bi_2_6 MM_12) rfl) (AL_c (FL_4 rfl rfl (bi_2_0 MM_6)) (AL_c (FL_4 rfl rfl (bi_1_13 MM_6)) AL_n)) : ∀ q ∈ ([(58, 10, 9, 0, 2, 108), (111, 4, 4, 4, 2, 6), (123, 0, 0, 4, 1, 214)] : List AF), FLok mr_129 q) (AL_c (CK_0 mt_114 (bi_3_9 MM_5) mfv_114) (AL_c (CK_0 mt_156 (bi_3_14 MM_13) mfv_156) (AL_c (CK_1 mt_31 (bi_4_1 MM_14) mfv_31) (AL_c (CK_1 mt_33 (bi_4_2 MM_3) mfv_33) AL_n))) : ∀ q ∈ ([(178, 0, 114, 3, 149), (218, 0, 156, 3, 237), (237, 1, 31, 4, 30), (244, 1, 33, 4, 35)] : List AK), CKok MT mr_129 q) AL_n AL_n AL_n AL_n
set_option maxRecDepth 20000 in
theorem gk_129 : GOK mr_129 := GK_r (bi_4_3 MM_2) cni_RX10 (plain_of cpl_RX10) cnh_RX10 pds_17
set_option maxRecDepth 20000 in
theorem ok_130 : FOK MT mr_130 := FK_r (FW_r (by decide +kernel) (by decide +kernel)) AL_n (AL_c (CK_0 mt_144 (bi_4_1 MM_10) mfv_144) (AL_c (CK_0 mt_129 (bi_4_2 MM_15) mfv_129) AL_n) : ∀ q ∈ ([(230, 0, 144, 4, 26), (247, 0, 129, 4, 47)] : List AK), CKok MT mr_130 q) AL_n AL_n AL_n AL_n
set_option maxRecDepth 20000 in
theorem gk_130 : GOK mr_130 := GK_r (bi_4_2 MM_14) cni_RX10 (plain_of cpl_RX10) cnh_RX10 pds_17
set_option maxRecDepth 20000 in
theorem ok_131 : FOK MT mr_131 := FK_r (FW_r (by decide +kernel) (by decide +kernel)) (AL_c (FL_0 rfl rfl (bi_2_6 MM_12) rfl) AL_n : ∀ q ∈ ([(58, 10, 9, 0, 2, 108)] : List AF), FLok mr_131 q) (AL_c (CK_1 mt_47 (bi_3_6 MM_14) mfv_47) (AL_c (CK_2 mt_148 (bi_4_4 MM_2) mfs_148) (AL_c (CK_1 mt_49 (bi_3_8 MM_15) mfv_49) (AL_c (CK_0 mt_160 (bi_4_7 MM_10) mfv_160) (AL_c (CK_2 mt_108 (bi_3_11 MM_5) mfs_108) (AL_c (CK_0 mt_171 (bi_4_9 MM_8) mfv_171) AL_n))))) : ∀ q ∈ ([(107, 1, 47, 3, 110), (261, 2, 148, 4, 66), (175, 1, 49, 3, 143), (273, 0, 160, 4, 122), (181, 2, 108, 3, 181), (285, 0, 171, 4, 152)] : List AK), CKok MT mr_131 q) AL_n AL_n AL_n AL_n
set_option maxRecDepth 20000 in
theorem gk_131 : GOK mr_131 := GK_r (bi_4_9 MM_7) cni_RX10 (plain_of cpl_RX10) cnh_RX10 pds_17
set_option maxRecDepth 20000 in
theorem ok_132 : FOK MT mr_132 := FK_r (FW_r (by decide +kernel) (by decide +kernel)) (AL_c (FL_0 rfl rfl (bi_2_6 MM_12) rfl) (AL_c (FL_1 rfl rfl (bi_2_0 MM_3) rfl) (AL_c (FL_1 rfl rfl (bi_2_1 MM_2) rfl) (AL_c (FL_3 rfl rfl (bi_2_6 MM_7)) (AL_c (FL_4 rfl rfl (bi_1_8 MM_2)) AL_n)))) : ∀ q ∈ ([(58, 10, 9, 0, 2, 108), (224, 4, 3, 1, 2, 3), (356, 4, 8, 1, 2, 18), (44, 10, 4, 3, 2, 103), (401, 1, 0, 4, 1, 130)] : List AF), FLok mr_132 q) (AL_c (CK_0 mt_114 (bi_3_9 MM_5) mfv_114) (AL_c (CK_0 mt_139 (bi_4_14 MM_9) mfv_139) (AL_c (CK_2 mt_7 (bi_3_8 MM_10) mfs_7) (AL_c (CK_1 mt_18 (bi_4_14 MM_13) mfv_18) AL_n))) : ∀ q ∈ ([(178, 0, 114, 3, 149), (319, 0, 139, 4, 233), (169, 2, 7, 3, 138), (404, 1, 18, 4, 237)] : List AK), CKok MT mr_132 q) AL_n AL_n AL_n AL_n
set_option maxRecDepth 20000 in
theorem gk_132 : GOK mr_132 := GK_r (bi_4_14 MM_8) cni_RX10 (plain_of cpl_RX10) cnh_RX10 pds_3
set_option maxRecDepth 20000 in
theorem ok_133 : FOK MT mr_133 := FK_r (FW_r (by decide +kernel) (by decide +kernel)) (AL_c (FL_0 rfl rfl (bi_2_6 MM_12) rfl) (AL_c (FL_3 rfl rfl (bi_2_6 MM_7)) (AL_c (FL_1 rfl rfl (bi_1_8 MM_9) rfl) AL_n)) : ∀ q ∈ ([(58, 10, 9, 0, 2, 108), (44, 10, 4, 3, 2, 103), (313, 1, 5, 1, 1, 137)] : List AF), FLok mr_133 q) (AL_c (CK_1 mt_43 (bi_3_8 MM_1) mfv_43) (AL_c (CK_0 mt_132 (bi_4_14 MM_5) mfv_132) AL_n) : ∀ q ∈ ([(146, 1, 43, 3, 129), (310, 0, 132, 4, 229)] : List AK), CKok MT mr_133 q) AL_n AL_n AL_n AL_n
set_option maxRecDepth 20000 in
theorem gk_133 : GOK mr_133 := GK_r (bi_4_14 MM_4) cni_RX10 (plain_of cpl_RX10) cnh_RX10 pds_4
set_option maxRecDepth 20000 in
theorem ok_134 : FOK MT mr_134 := FK_r (FW_r (by decide +kernel) (by decide +kernel)) (AL_c (FL_0 rfl rfl (bi_2_6 MM_12) rfl) (AL_c (FL_4 rfl rfl (bi_2_0 MM_9)) (AL_c (FL_1 rfl rfl (bi_1_12 MM_5) rfl) (AL_c (FL_1 rfl rfl (bi_2_0 MM_3) rfl) AL_n))) : ∀ q ∈ ([(58, 10, 9, 0, 2, 108), (143, 4, 5, 4, 2, 9), (127, 3, 2, 1, 1, 197), (224, 4, 3, 1, 2, 3)] : List AF), FLok mr_134 q) (AL_c (CK_1 mt_43 (bi_3_8 MM_1) mfv_43) (AL_c (CK_0 mt_114 (bi_3_9 MM_5) mfv_114) (AL_c (CK_1 mt_32 (bi_4_0 MM_1) mfv_32) AL_n)) : ∀ q ∈ ([(146, 1, 43, 3, 129), (178, 0, 114, 3, 149), (227, 1, 32, 4, 1)] : List AK), CKok MT mr_134 q) AL_n AL_n AL_n AL_n
set_option maxRecDepth 20000 in
theorem gk_134 : GOK mr_134 := GK_r (bi_4_1 MM_5) cni_RX10 (plain_of cpl_RX10) cnh_RX10 pds_4
set_option maxRecDepth 20000 in
theorem ok_135 : FOK MT mr_135 := FK_r (FW_r (by decide +kernel) (by decide +kernel)) (AL_c (FL_0 rfl rfl (bi_2_6 MM_12) rfl) AL_n : ∀ q ∈ ([(58, 10, 9, 0, 2, 108)] : List AF), FLok mr_135 q) (AL_c (CK_1 mt_47 (bi_3_6 MM_14) mfv_47) (AL_c (CK_0 mt_126 (bi_4_7 MM_6) mfv_126) (AL_c (CK_2 mt_7 (bi_3_8 MM_10) mfs_7) (AL_c (CK_1 mt_51 (bi_4_3 MM_7) mfv_51) (AL_c (CK_0 mt_127 (bi_4_8 MM_11) mfv_127) AL_n)))) : ∀ q ∈ ([(107, 1, 47, 3, 110), (270, 0, 126, 4, 118), (169, 2, 7, 3, 138), (251, 1, 51, 4, 55), (279, 0, 127, 4, 139)] : List AK), CKok MT mr_135 q) AL_n AL_n AL_n AL_n
set_option maxRecDepth 20000 in
theorem gk_135 : GOK mr_135 := GK_r (bi_4_8 MM_10) cni_RX10 (plain_of cpl_RX10) cnh_RX10 pds_7
set_option maxRecDepth 20000 in
theorem ok_136 : FOK MT mr_136 := FK_r (FW_r (by decide +kernel) (by decide +kernel)) (AL_c (FL_0 rfl rfl (bi_2_6 MM_12) rfl) AL_n : ∀ q ∈ ([(58, 10, 9, 0, 2, 108)] : List AF), FLok mr_136 q) (AL_c (CK_1 mt_47 (bi_3_6 MM_14) mfv_47) (AL_c (CK_1 mt_51 (bi_4_3 MM_7) mfv_51) (AL_c (CK_0 mt_129 (bi_4_2 MM_15) mfv_129) AL_n)) : ∀ q ∈ ([(107, 1, 47, 3, 110), (251, 1, 51, 4, 55), (247, 0, 129, 4, 47)] : List AK), CKok MT mr_136 q) AL_n AL_n AL_n AL_n
set_option maxRecDepth 20000 in
theorem gk_136 : GOK mr_136 := GK_r (bi_4_3 MM_6) cni_RX10 (plain_of cpl_RX10) cnh_RX10 pds_7
set_option maxRecDepth 20000 in
theorem ok_137 : FOK MT mr_137 := FK_r (FW_r (by decide +kernel) (by decide +kernel)) (AL_c (FL_0 rfl rfl (bi_2_6 MM_12) rfl) (AL_c (FL_3 rfl rfl (bi_2_6 MM_8)) (AL_c (FL_1 rfl rfl (bi_2_0 MM_0) rfl) AL_n)) : ∀ q ∈ ([(58, 10, 9, 0, 2, 108), (51, 10, 5, 3, 2, 104), (337, 4, 2, 1, 2, 0)] : List AF), FLok mr_137 q) (AL_c (CK_1 mt_43 (bi_3_8 MM_1) mfv_43) (AL_c (CK_1 mt_98 (bi_5_3 MM_8) mfv_98) AL_n) : ∀ q ∈ ([(146, 1, 43, 3, 129), (340, 1, 98, 5, 56)] : List AK), CKok MT mr_137 q) AL_n AL_n AL_n AL_n
set_option maxRecDepth 20000 in
theorem gk_137 : GOK mr_137 := GK_r (bi_5_3 MM_7) cni_RX10 (plain_of cpl_RX10) cnh_RX10 pds_4
set_option maxRecDepth 20000 in
theorem ok_138 : FOK MT mr_138 := FK_r (FW_r (by decide +kernel) (by decide +kernel)) (AL_c (FL_0 rfl rfl (bi_2_6 MM_12) rfl) (AL_c (FL_1 rfl rfl (bi_2_0 MM_12) rfl) (AL_c (FL_4 rfl rfl (bi_2_1 MM_4)) (AL_c (FL_1 rfl rfl (bi_2_0 MM_15) rfl) (AL_c (FL_4 rfl rfl (bi_2_1 MM_7)) (AL_c (FL_3 rfl rfl (bi_2_6 MM_5)) AL_n))))) : ∀ q ∈ ([(58, 10, 9, 0, 2, 108), (153, 4, 6, 1, 2, 12), (156, 4, 9, 4, 2, 20), (159, 4, 7, 1, 2, 15), (162, 4, 10, 4, 2, 23), (28, 10, 2, 3, 2, 101)] : List AF), FLok mr_138 q) (AL_c (CK_1 mt_43 (bi_3_8 MM_1) mfv_43) (AL_c (CK_1 mt_48 (bi_3_8 MM_5) mfv_48) (AL_c (CK_1 mt_77 (bi_3_8 MM_9) mfv_77) (AL_c (CK_2 mt_7 (bi_3_8 MM_10) mfs_7) AL_n))) : ∀ q ∈ ([(146, 1, 43, 3, 129), (150, 1, 48, 3, 133), (165, 1, 77, 3, 137), (169, 2, 7, 3, 138)] : List AK), CKok MT mr_138 q) AL_n AL_n AL_n AL_n
set_option maxRecDepth 20000 in
theorem gk_138 : GOK mr_138 := GK_r (bi_3_8 MM_0) cni_RX10 (plain_of cpl_RX10) cnh_RX10 pds_10
set_option maxRecDepth 20000 in
theorem ok_139 : FOK MT mr_139 := FK_r (FW_r (by decide +kernel) (by decide +kernel)) (AL_c (FL_3 rfl rfl (bi_2_6 MM_5)) (AL_c (FL_0 rfl rfl (bi_2_6 MM_12) rfl) (AL_c (FL_4 rfl rfl (bi_2_1 MM_4)) (AL_c (FL_4 rfl rfl (bi_2_1 MM_7)) AL_n))) : ∀ q ∈ ([(28, 10, 2, 3, 2, 101), (58, 10, 9, 0, 2, 108), (156, 4, 9, 4, 2, 20), (162, 4, 10, 4, 2, 23)] : List AF), FLok mr_139 q) (AL_c (CK_1 mt_77 (bi_3_8 MM_9) mfv_77) AL_n : ∀ q ∈ ([(165, 1, 77, 3, 137)] : List AK), CKok MT mr_139 q) AL_n AL_n AL_n AL_n
set_option maxRecDepth 20000 in
theorem gk_139 : GOK mr_139 := GK_r (bi_4_14 MM_12) cni_RX10 (plain_of cpl_RX10) cnh_RX10 pds_7
set_option maxRecDepth 20000 in
theorem ok_140 : FOK MT mr_140 := FK_r (FW_r (by decide +kernel) (by decide +kernel)) (AL_c (FL_0 rfl rfl (bi_2_6 MM_12) rfl) (AL_c (FL_3 rfl rfl (bi_2_6 MM_7)) (AL_c (FL_4 rfl rfl (bi_1_8 MM_5)) AL_n)) : ∀ q ∈ ([(58, 10, 9, 0, 2, 108), (44, 10, 4, 3, 2, 103), (316, 1, 2, 4, 1, 133)] : List AF), FLok mr_140 q) (AL_c (CK_1 mt_48 (bi_3_8 MM_5) mfv_48) (AL_c (CK_0 mt_132 (bi_4_14 MM_5) mfv_132) AL_n) : ∀ q ∈ ([(150, 1, 48, 3, 133), (310, 0, 132, 4, 229)] : List AK), CKok MT mr_140 q) AL_n AL_n AL_n AL_n
set_option maxRecDepth 20000 in
theorem gk_140 : GOK mr_140 := GK_r (bi_5_0 MM_15) cni_RX10 (plain_of cpl_RX10) cnh_RX10 pds_7
set_option maxRecDepth 20000 in
theorem ok_141 : FOK MT mr_141 := FK_r (FW_r (by decide +kernel) (by decide +kernel)) (AL_c (FL_0 rfl rfl (bi_2_6 MM_12) rfl) (AL_c (FL_4 rfl rfl (bi_2_0 MM_6)) (AL_c (FL_4 rfl rfl (bi_1_13 MM_6)) (AL_c (FL_1 rfl rfl (bi_1_12 MM_5) rfl) (AL_c (FL_4 rfl rfl (bi_1_11 MM_13)) (AL_c (FL_4 rfl rfl (bi_1_12 MM_0)) AL_n))))) : ∀ q ∈ ([(58, 10, 9, 0, 2, 108), (111, 4, 4, 4, 2, 6), (123, 0, 0, 4, 1, 214), (127, 3, 2, 1, 1, 197), (136, 3, 0, 4, 1, 189), (140, 3, 1, 4, 1, 192)] : List AF), FLok mr_141 q) (AL_c (CK_1 mt_47 (bi_3_6 MM_14) mfv_47) (AL_c (CK_0 mt_114 (bi_3_9 MM_5) mfv_114) (AL_c (CK_1 mt_41 (bi_4_3 MM_12) mfv_41) (AL_c (CK_1 mt_38 (bi_4_3 MM_13) mfv_38) AL_n))) : ∀ q ∈ ([(107, 1, 47, 3, 110), (178, 0, 114, 3, 149), (254, 1, 41, 4, 60), (257, 1, 38, 4, 61)] : List AK), CKok MT mr_141 q) AL_n AL_n AL_n AL_n
set_option maxRecDepth 20000 in
theorem gk_141 : GOK mr_141 := GK_r (bi_4_3 MM_11) cni_RX10 (plain_of cpl_RX10) cnh_RX10 pds_7
set_option maxRecDepth 20000 in
theorem ok_142 : FOK MT mr_142 := FK_r (FW_r (by decide +kernel) (by decide +kernel)) (AL_c (FL_3 rfl rfl (bi_2_6 MM_10)) (AL_c (FL_0 rfl rfl (bi_2_6 MM_12) rfl) (AL_c (FL_3 rfl rfl (bi_2_6 MM_11)) AL_n)) : ∀ q ∈ ([(65, 10, 7, 3, 2, 106), (58, 10, 9, 0, 2, 108), (69, 10, 8, 3, 2, 107)] : List AF), FLok mr_142 q) (AL_c (CK_1 mt_53 (bi_5_8 MM_8) mfv_53) AL_n : ∀ q ∈ ([(362, 1, 53, 5, 136)] : List AK), CKok MT mr_142 q) AL_n AL_n AL_n AL_n
set_option maxRecDepth 20000 in
theorem gk_142 : GOK mr_142 := GK_r (bi_5_8 MM_7) cni_RX10 (plain_of cpl_RX10) cnh_RX10 pds_7
set_option maxRecDepth 20000 in
theorem ok_143 : FOK MT mr_143 := FK_r (FW_r (by decide +kernel) (by decide +kernel)) (AL_c (FL_2 rfl rfl (bi_2_6 MM_3) rfl rfl rfl) (AL_c (FL_2 rfl rfl (bi_2_6 MM_4) rfl rfl rfl) (AL_c (FL_2 rfl rfl (bi_2_6 MM_5) rfl rfl rfl) (AL_c (FL_2 rfl rfl (bi_2_6 MM_6) rfl rfl rfl) (AL_c (FL_2 rfl rfl (bi_2_6 MM_7) rfl rfl rfl) (AL_c (FL_2 rfl rfl (bi_2_6 MM_8) rfl rfl rfl) (AL_c (FL_0 rfl rfl (bi_2_6 MM_12) rfl) (AL_c (FL_0 rfl rfl (bi_2_6 MM_13) rfl) (AL_c (FL_2 rfl rfl (bi_2_6 MM_10) rfl rfl rfl) (AL_c (FL_2 rfl rfl (bi_2_6 MM_11) rfl rfl rfl) (AL_c (FL_2 rfl rfl (bi_2_6 MM_9) rfl rfl rfl) AL_n)))))))))) : ∀ q ∈ ([(10, 10, 0, 2, 2, 99), (21, 10, 1, 2, 2, 100), (28, 10, 2, 2, 2, 101), (37, 10, 3, 2, 2, 102), (44, 10, 4, 2, 2, 103), (51, 10, 5, 2, 2, 104), (58, 10, 9, 0, 2, 108), (62, 10, 10, 0, 2, 109), (65, 10, 7, 2, 2, 106), (69, 10, 8, 2, 2, 107), (75, 10, 6, 2, 2, 105)] : List AF), FLok mr_143 q) (AL_c (CK_9 (bi_1_1 MM_10)) (AL_c (CK_5 mt_91 (bi_1_1 MM_15) mfi_91) (AL_c (CK_5 mt_55 (bi_1_3 MM_0) mfi_55) (AL_c (CK_5 mt_80 (bi_1_4 MM_14) mfi_80) (AL_c (CK_5 mt_21 (bi_1_6 MM_10) mfi_21) (AL_c (CK_5 mt_16 (bi_1_7 MM_13) mfi_16) (AL_c (CK_5 mt_93 (bi_1_9 MM_9) mfi_93) (AL_c (CK_5 mt_44 (bi_1_11 MM_0) mfi_44) (AL_c (CK_5 mt_86 (bi_2_4 MM_12) mfi_86) AL_n)))))))) : ∀ q ∈ ([(1, 9, 0, 1, 26), (9, 5, 91, 1, 31), (18, 5, 55, 1, 48), (27, 5, 80, 1, 78), (34, 5, 21, 1, 106), (43, 5, 16, 1, 125), (50, 5, 93, 1, 153), (57, 5, 44, 1, 176), (79, 5, 86, 2, 76)] : List AK), CKok MT mr_143 q) AL_n AL_n (AL_c (KC_r rfl (bi_1_1 MM_13)) (AL_c (KC_r rfl (bi_1_2 MM_14)) (AL_c (KC_r rfl (bi_1_4 MM_12)) (AL_c (KC_r rfl (bi_1_6 MM_8)) (AL_c (KC_r rfl (bi_1_7 MM_11)) (AL_c (KC_r rfl (bi_1_9 MM_7)) (AL_c (KC_r rfl (bi_1_10 MM_14)) (AL_c (KC_r rfl (bi_2_4 MM_9)) AL_n))))))) : ∀ q ∈ ([(7, 8, 1, 29), (16, 5, 1, 46), (25, 6, 1, 76), (32, 2, 1, 104), (41, 1, 1, 123), (48, 9, 1, 151), (55, 4, 1, 174), (73, 7, 2, 73)] : List AKc), KCok mr_143 q) AL_n
set_option maxRecDepth 20000 in
theorem gk_143 : GOK mr_143 := GK_r (bi_1_1 MM_9) cni_RX10 (plain_of cpl_RX10) cnh_RX10 pds_11
set_option maxRecDepth 20000 in
theorem ok_144 : FOK MT mr_144 := FK_r (FW_r (by decide +kernel) (by decide +kernel)) (AL_c (FL_0 rfl rfl (bi_2_6 MM_12) rfl) AL_n : ∀ q ∈ ([(58, 10, 9, 0, 2, 108)] : List AF), FLok mr_144 q) (AL_c (CK_1 mt_47 (bi_3_6 MM_14) mfv_47) (AL_c (CK_1 mt_49 (bi_3_8 MM_15) mfv_49) (AL_c (CK_2 mt_149 (bi_3_7 MM_6) mfs_149) AL_n)) : ∀ q ∈ ([(107, 1, 47, 3, 110), (175, 1, 49, 3, 143), (133, 2, 149, 3, 118)] : List AK), CKok MT mr_144 q) AL_n AL_n AL_n AL_n
set_option maxRecDepth 20000 in
theorem gk_144 : GOK mr_144 := GK_r (bi_4_1 MM_13) cni_RX10 (plain_of cpl_RX10) cnh_RX10 pds_18
set_option maxRecDepth 20000 in
theorem ok_145 : FOK MT mr_145 := FK_r (FW_r (by decide +kernel) (by decide +kernel)) AL_n (AL_c (CK_0 mt_160 (bi_4_7 MM_10) mfv_160) (AL_c (CK_2 mt_108 (bi_3_11 MM_5) mfs_108) (AL_c (CK_0 mt_171 (bi_4_9 MM_8) mfv_171) AL_n)) : ∀ q ∈ ([(273, 0, 160, 4, 122), (181, 2, 108, 3, 181), (285, 0, 171, 4, 152)] : List AK), CKok MT mr_145 q) AL_n AL_n AL_n AL_n
set_option maxRecDepth 20000 in
theorem gk_145 : GOK mr_145 := GK_r (bi_4_10 MM_7) cni_RX10 (plain_of cpl_RX10) cnh_RX10 pds_18
set_option maxRecDepth 20000 in
theorem ok_146 : FOK MT mr_146 := FK_r (FW_r (by decide +kernel) (by decide +kernel)) AL_n AL_n (AL_c (W_r (bi_5_6 MM_14) rfl) AL_n : ∀ q ∈ ([(396, 2000000000, 5, 110)] : List AKi), Cond.constant (my mr_146).cls q.1 q.2.1 ∈ TBL) AL_n AL_n AL_n
set_option maxRecDepth 20000 in
theorem gk_146 : GOK mr_146 := GK_r (bi_5_6 MM_13) cni_RX10 (plain_of cpl_RX10) cnh_RX10 pds_21
set_option maxRecDepth 20000 in
theorem ok_147 : FOK MT mr_147 := FK_r (FW_r (by decide +kernel) (by decide +kernel)) AL_n AL_n AL_n AL_n AL_n AL_n
set_option maxRecDepth 20000 in
theorem gk_147 : GOK mr_147 := GK_r (bi_4_12 MM_14) cni_RX10 (plain_of cpl_RX10) cnh_RX10 pds_21
set_option maxRecDepth 20000 in
theorem ok_148 : FOK MT mr_148 := FK_r (FW_r (by decide +kernel) (by decide +kernel)) AL_n AL_n AL_n AL_n AL_n AL_n
set_option maxRecDepth 20000 in
theorem gk_148 : GOK mr_148 := GK_r (bi_4_4 MM_4) cni_RX10 (plain_of cpl_RX10) cnh_RX10 pds_21
set_option maxRecDepth 20000 in
theorem ok_149 : FOK MT mr_149 := FK_r (FW_r (by decide +kernel) (by decide +kernel)) AL_n AL_n AL_n AL_n AL_n AL_n
set_option maxRecDepth 20000 in
theorem gk_149 : GOK mr_149 := GK_r (bi_3_7 MM_8) cni_RX10 (plain_of cpl_RX10) cnh_RX10 pds_21
set_option maxRecDepth 20000 in
theorem ok_150 : FOK MT mr_150 := FK_r (FW_r (by decide +kernel) (by decide +kernel)) (AL_c (FL_0 rfl rfl (bi_2_6 MM_12) rfl) (AL_c (FL_3 rfl rfl (bi_2_6 MM_6)) AL_n) : ∀ q ∈ ([(58, 10, 9, 0, 2, 108), (37, 10, 3, 3, 2, 102)] : List AF), FLok mr_150 q) (AL_c (CK_2 mt_148 (bi_4_4 MM_2) mfs_148) (AL_c (CK_1 mt_46 (bi_3_14 MM_1) mfv_46) (AL_c (CK_1 mt_24 (bi_4_11 MM_12) mfv_24) AL_n)) : ∀ q ∈ ([(261, 2, 148, 4, 66), (212, 1, 46, 3, 225), (297, 1, 24, 4, 188)] : List AK), CKok MT mr_150 q) AL_n AL_n AL_n AL_n
set_option maxRecDepth 20000 in
theorem gk_150 : GOK mr_150 := GK_r (bi_4_11 MM_11) cni_RX10 (plain_of cpl_RX10) cnh_RX10 pds_10
set_option maxRecDepth 20000 in
theorem ok_151 : FOK MT mr_151 := FK_r (FW_r (by decide +kernel) (by decide +kernel)) (AL_c (FL_3 rfl rfl (bi_2_6 MM_9)) AL_n : ∀ q ∈ ([(75, 10, 6, 3, 2, 105)] : List AF), FLok mr_151 q) (AL_c (CK_0 mt_180 (bi_4_12 MM_8) mfv_180) (AL_c (CK_0 mt_104 (bi_5_2 MM_4) mfv_104) (AL_c (CK_0 mt_124 (bi_5_3 MM_3) mfv_124) (AL_c (CK_0 mt_153 (bi_5_2 MM_8) mfv_153) AL_n))) : ∀ q ∈ ([(300, 0, 180, 4, 200), (326, 0, 104, 5, 36), (330, 0, 124, 5, 51), (333, 0, 153, 5, 40)] : List AK), CKok MT mr_151 q) AL_n AL_n AL_n AL_n
set_option maxRecDepth 20000 in
theorem gk_151 : GOK mr_151 := GK_r (bi_5_3 MM_2) cni_RX10 (plain_of cpl_RX10) cnh_RX10 pds_7
set_option maxRecDepth 20000 in
theorem ok_152 : FOK MT mr_152 := FK_r (FW_r (by decide +kernel) (by decide +kernel)) AL_n (AL_c (CK_0 mt_135 (bi_4_9 MM_3) mfv_135) (AL_c (CK_0 mt_126 (bi_4_7 MM_6) mfv_126) (AL_c (CK_2 mt_7 (bi_3_8 MM_10) mfs_7) (AL_c (CK_0 mt_127 (bi_4_8 MM_11) mfv_127) AL_n))) : ∀ q ∈ ([(282, 0, 135, 4, 147), (270, 0, 126, 4, 118), (169, 2, 7, 3, 138), (279, 0, 127, 4, 139)] : List AK), CKok MT mr_152 q) AL_n AL_n AL_n AL_n
set_option maxRecDepth 20000 in
theorem gk_152 : GOK mr_152 := GK_r (bi_4_9 MM_2) cni_RX10 (plain_of cpl_RX10) cnh_RX10 pds_7
set_option maxRecDepth 20000 in
theorem ok_153 : FOK MT mr_153 := FK_r (FW_r (by decide +kernel) (by decide +kernel)) (AL_c (FL_3 rfl rfl (bi_2_6 MM_5)) AL_n : ∀ q ∈ ([(28, 10, 2, 3, 2, 101)] : List AF), FLok mr_153 q) (AL_c (CK_1 mt_89 (bi_4_13 MM_3) mfv_89) (AL_c (CK_1 mt_79 (bi_3_13 MM_0) mfv_79) (AL_c (CK_2 mt_10 (bi_5_2 MM_12) mfs_10) AL_n)) : ∀ q ∈ ([(303, 1, 89, 4, 211), (205, 1, 79, 3, 208), (410, 2, 10, 5, 44)] : List AK), CKok MT mr_153 q) AL_n AL_n AL_n AL_n
set_option maxRecDepth 20000 in
theorem gk_153 : GOK mr_153 := GK_r (bi_5_2 MM_11) cni_RX10 (plain_of cpl_RX10) cnh_RX10 pds_36
set_option maxRecDepth 20000 in
theorem ok_154 : FOK MT mr_154 := FK_r (FW_r (by decide +kernel) (by decide +kernel)) (AL_c (FL_0 rfl rfl (bi_2_6 MM_12) rfl) (AL_c (FL_4 rfl rfl (bi_2_0 MM_6)) (AL_c (FL_4 rfl rfl (bi_1_13 MM_6)) (AL_c (FL_1 rfl rfl (bi_1_12 MM_5) rfl) (AL_c (FL_4 rfl rfl (bi_1_11 MM_13)) (AL_c (FL_4 rfl rfl (bi_1_12 MM_0)) AL_n))))) : ∀ q ∈ ([(58, 10, 9, 0, 2, 108), (111, 4, 4, 4, 2, 6), (123, 0, 0, 4, 1, 214), (127, 3, 2, 1, 1, 197), (136, 3, 0, 4, 1, 189), (140, 3, 1, 4, 1, 192)] : List AF), FLok mr_154 q) (AL_c (CK_1 mt_47 (bi_3_6 MM_14) mfv_47) (AL_c (CK_2 mt_149 (bi_3_7 MM_6) mfs_149) AL_n) : ∀ q ∈ ([(107, 1, 47, 3, 110), (133, 2, 149, 3, 118)] : List AK), CKok MT mr_154 q) AL_n AL_n AL_n AL_n
set_option maxRecDepth 20000 in
theorem gk_154 : GOK mr_154 := GK_r (bi_3_7 MM_5) cni_RX10 (plain_of cpl_RX10) cnh_RX10 pds_17
set_option maxRecDepth 20000 in
theorem ok_155 : FOK MT mr_155 := FK_r (FW_r (by decide +kernel) (by decide +kernel)) (AL_c (FL_0 rfl rfl (bi_2_6 MM_12) rfl) AL_n : ∀ q ∈ ([(58, 10, 9, 0, 2, 108)] : List AF), FLok mr_155 q) (AL_c (CK_1 mt_47 (bi_3_6 MM_14) mfv_47) (AL_c (CK_0 mt_114 (bi_3_9 MM_5) mfv_114) (AL_c (CK_0 mt_156 (bi_3_14 MM_13) mfv_156) AL_n)) : ∀ q ∈ ([(107, 1, 47, 3, 110), (178, 0, 114, 3, 149), (218, 0, 156, 3, 237)] : List AK), CKok MT mr_155 q) AL_n AL_n AL_n AL_n
set_option maxRecDepth 20000 in
theorem gk_155 : GOK mr_155 := GK_r (bi_3_14 MM_12) cni_RX10 (plain_of cpl_RX10) cnh_RX10 pds_7
set_option maxRecDepth 20000 in
theorem ok_156 : FOK MT mr_156 := FK_r (FW_r (by decide +kernel) (by decide +kernel)) (AL_c (FL_0 rfl rfl (bi_2_6 MM_12) rfl) (AL_c (FL_4 rfl rfl (bi_2_0 MM_9)) AL_n) : ∀ q ∈ ([(58, 10, 9, 0, 2, 108), (143, 4, 5, 4, 2, 9)] : List AF), FLok mr_156 q) (AL_c (CK_1 mt_32 (bi_4_0 MM_1) mfv_32) (AL_c (CK_2 mt_7 (bi_3_8 MM_10) mfs_7) AL_n) : ∀ q ∈ ([(227, 1, 32, 4, 1), (169, 2, 7, 3, 138)] : List AK), CKok MT mr_156 q) AL_n AL_n AL_n AL_n
set_option maxRecDepth 20000 in
theorem gk_156 : GOK mr_156 := GK_r (bi_4_0 MM_0) cni_RX10 (plain_of cpl_RX10) cnh_RX10 pds_7
set_option maxRecDepth 20000 in
theorem ok_157 : FOK MT mr_157 := FK_r (FW_r (by decide +kernel) (by decide +kernel)) (AL_c (FL_0 rfl rfl (bi_2_6 MM_12) rfl) (AL_c (FL_3 rfl rfl (bi_2_6 MM_6)) AL_n) : ∀ q ∈ ([(58, 10, 9, 0, 2, 108), (37, 10, 3, 3, 2, 102)] : List AF), FLok mr_157 q) (AL_c (CK_2 mt_148 (bi_4_4 MM_2) mfs_148) (AL_c (CK_1 mt_46 (bi_3_14 MM_1) mfv_46) (AL_c (CK_1 mt_51 (bi_4_3 MM_7) mfv_51) (AL_c (CK_2 mt_108 (bi_3_11 MM_5) mfs_108) (AL_c (CK_1 mt_20 (bi_4_11 MM_4) mfv_20) AL_n)))) : ∀ q ∈ ([(261, 2, 148, 4, 66), (212, 1, 46, 3, 225), (251, 1, 51, 4, 55), (181, 2, 108, 3, 181), (294, 1, 20, 4, 180)] : List AK), CKok MT mr_157 q) AL_n AL_n AL_n AL_n
set_option maxRecDepth 20000 in
theorem gk_157 : GOK mr_157 := GK_r (bi_4_12 MM_3) cni_RX10 (plain_of cpl_RX10) cnh_RX10 pds_10
set_option maxRecDepth 20000 in
theorem ok_158 : FOK MT mr_158 := FK_r (FW_r (by decide +kernel) (by decide +kernel)) (AL_c (FL_0 rfl rfl (bi_2_6 MM_12) rfl) AL_n : ∀ q ∈ ([(58, 10, 9, 0, 2, 108)] : List AF), FLok mr_158 q) (AL_c (CK_1 mt_47 (bi_3_6 MM_14) mfv_47) (AL_c (CK_0 mt_114 (bi_3_9 MM_5) mfv_114) (AL_c (CK_2 mt_7 (bi_3_8 MM_10) mfs_7) AL_n)) : ∀ q ∈ ([(107, 1, 47, 3, 110), (178, 0, 114, 3, 149), (169, 2, 7, 3, 138)] : List AK), CKok MT mr_158 q) AL_n AL_n AL_n AL_n
set_option maxRecDepth 20000 in
theorem gk_158 : GOK mr_158 := GK_r (bi_3_11 MM_15) cni_RX10 (plain_of cpl_RX10) cnh_RX10 pds_7
set_option maxRecDepth 20000 in
theorem ok_159 : FOK MT mr_159 := FK_r (FW_r (by decide +kernel) (by decide +kernel)) (AL_c (FL_0 rfl rfl (bi_2_6 MM_12) rfl) AL_n : ∀ q ∈ ([(58, 10, 9, 0, 2, 108)] : List AF), FLok mr_159 q) (AL_c (CK_1 mt_47 (bi_3_6 MM_14) mfv_47) (AL_c (CK_1 mt_49 (bi_3_8 MM_15) mfv_49) (AL_c (CK_0 mt_114 (bi_3_9 MM_5) mfv_114) (AL_c (CK_2 mt_108 (bi_3_11 MM_5) mfs_108) AL_n))) : ∀ q ∈ ([(107, 1, 47, 3, 110), (175, 1, 49, 3, 143), (178, 0, 114, 3, 149), (181, 2, 108, 3, 181)] : List AK), CKok MT mr_159 q) AL_n AL_n AL_n AL_n
set_option maxRecDepth 20000 in
theorem gk_159 : GOK mr_159 := GK_r (bi_3_8 MM_14) cni_RX10 (plain_of cpl_RX10) cnh_RX10 pds_10
set_option maxRecDepth 20000 in
theorem ok_160 : FOK MT mr_160 := FK_r (FW_r (by decide +kernel) (by decide +kernel)) (AL_c (FL_3 rfl rfl (bi_2_6 MM_5)) (AL_c (FL_0 rfl rfl (bi_2_6 MM_12) rfl) (AL_c (FL_1 rfl rfl (bi_2_0 MM_12) rfl) (AL_c (FL_1 rfl rfl (bi_2_0 MM_15) rfl) AL_n))) : ∀ q ∈ ([(28, 10, 2, 3, 2, 101), (58, 10, 9, 0, 2, 108), (153, 4, 6, 1, 2, 12), (159, 4, 7, 1, 2, 15)] : List AF), FLok mr_160 q) (AL_c (CK_1 mt_77 (bi_3_8 MM_9) mfv_77) AL_n : ∀ q ∈ ([(165, 1, 77, 3, 137)] : List AK), CKok MT mr_160 q) AL_n AL_n AL_n AL_n
set_option maxRecDepth 20000 in
theorem gk_160 : GOK mr_160 := GK_r (bi_4_7 MM_13) cni_RX10 (plain_of cpl_RX10) cnh_RX10 pds_4
set_option maxRecDepth 20000 in
theorem ok_161 : FOK MT mr_161 := FK_r (FW_r (by decide +kernel) (by decide +kernel)) (AL_c (FL_0 rfl rfl (bi_2_6 MM_12) rfl) (AL_c (FL_1 rfl rfl (bi_2_0 MM_12) rfl) (AL_c (FL_1 rfl rfl (bi_2_0 MM_15) rfl) AL_n)) : ∀ q ∈ ([(58, 10, 9, 0, 2, 108), (153, 4, 6, 1, 2, 12), (159, 4, 7, 1, 2, 15)] : List AF), FLok mr_161 q) (AL_c (CK_1 mt_50 (bi_3_13 MM_8) mfv_50) (AL_c (CK_0 mt_160 (bi_4_7 MM_10) mfv_160) AL_n) : ∀ q ∈ ([(208, 1, 50, 3, 216), (273, 0, 160, 4, 122)] : List AK), CKok MT mr_161 q) AL_n AL_n AL_n AL_n
set_option maxRecDepth 20000 in
theorem gk_161 : GOK mr_161 := GK_r (bi_5_6 MM_6) cni_RX10 (plain_of cpl_RX10) cnh_RX10 pds_10
set_option maxRecDepth 20000 in
theorem ok_162 : FOK MT mr_162 := FK_r (FW_r (by decide +kernel) (by decide +kernel)) (AL_c (FL_3 rfl rfl (bi_2_6 MM_9)) (AL_c (FL_1 rfl rfl (bi_2_5 MM_3) rfl) (AL_c (FL_1 rfl rfl (bi_2_5 MM_5) rfl) (AL_c (FL_4 rfl rfl (bi_2_5 MM_1)) AL_n))) : ∀ q ∈ ([(75, 10, 6, 3, 2, 105), (371, 7, 1, 1, 2, 83), (380, 7, 2, 1, 2, 85), (386, 7, 0, 4, 2, 81)] : List AF), FLok mr_162 q) (AL_c (CK_2 mt_147 (bi_4_12 MM_12) mfs_147) (AL_c (CK_1 mt_85 (bi_5_11 MM_3) mfv_85) (AL_c (CK_8 (bi_5_11 MM_7)) AL_n)) : ∀ q ∈ ([(365, 2, 147, 4, 204), (383, 1, 85, 5, 179), (390, 8, 0, 5, 183)] : List AK), CKok MT mr_162 q) AL_n AL_n AL_n AL_n
set_option maxRecDepth 20000 in
theorem gk_162 : GOK mr_162 := GK_r (bi_5_11 MM_2) cni_RX10 (plain_of cpl_RX10) cnh_RX10 pds_35
set_option maxRecDepth 20000 in
theorem ok_163 : FOK MT mr_163 := FK_r (FW_r (by decide +kernel) (by decide +kernel)) (AL_c (FL_0 rfl rfl (bi_2_6 MM_12) rfl) AL_n : ∀ q ∈ ([(58, 10, 9, 0, 2, 108)] : List AF), FLok mr_163 q) (AL_c (CK_1 mt_47 (bi_3_6 MM_14) mfv_47) (AL_c (CK_1 mt_51 (bi_4_3 MM_7) mfv_51) (AL_c (CK_0 mt_145 (bi_4_10 MM_4) mfv_145) AL_n)) : ∀ q ∈ ([(107, 1, 47, 3, 110), (251, 1, 51, 4, 55), (288, 0, 145, 4, 164)] : List AK), CKok MT mr_163 q) AL_n AL_n AL_n AL_n
set_option maxRecDepth 20000 in
theorem gk_163 : GOK mr_163 := GK_r (bi_4_10 MM_11) cni_RX10 (plain_of cpl_RX10) cnh_RX10 pds_7
set_option maxRecDepth 20000 in
theorem ok_164 : FOK MT mr_164 := FK_r (FW_r (by decide +kernel) (by decide +kernel)) (AL_c (FL_0 rfl rfl (bi_2_6 MM_12) rfl) AL_n : ∀ q ∈ ([(58, 10, 9, 0, 2, 108)] : List AF), FLok mr_164 q) (AL_c (CK_1 mt_47 (bi_3_6 MM_14) mfv_47) (AL_c (CK_1 mt_51 (bi_4_3 MM_7) mfv_51) (AL_c (CK_0 mt_145 (bi_4_10 MM_4) mfv_145) AL_n)) : ∀ q ∈ ([(107, 1, 47, 3, 110), (251, 1, 51, 4, 55), (288, 0, 145, 4, 164)] : List AK), CKok MT mr_164 q) AL_n AL_n AL_n AL_n
set_option maxRecDepth 20000 in
theorem gk_164 : GOK mr_164 := GK_r (bi_4_10 MM_3) cni_RX10 (plain_of cpl_RX10) cnh_RX10 pds_7
set_option maxRecDepth 20000 in
theorem ok_165 : FOK MT mr_165 := FK_r (FW_r (by decide +kernel) (by decide +kernel)) (AL_c (FL_3 rfl rfl (bi_2_6 MM_9)) AL_n : ∀ q ∈ ([(75, 10, 6, 3, 2, 105)] : List AF), FLok mr_165 q) (AL_c (CK_2 mt_147 (bi_4_12 MM_12) mfs_147) (AL_c (CK_1 mt_84 (bi_5_10 MM_0) mfv_84) AL_n) : ∀ q ∈ ([(365, 2, 147, 4, 204), (368, 1, 84, 5, 160)] : List AK), CKok MT mr_165 q) AL_n AL_n AL_n AL_n
set_option maxRecDepth 20000 in
theorem gk_165 : GOK mr_165 := GK_r (bi_5_9 MM_15) cni_RX10 (plain_of cpl_RX10) cnh_RX10 pds_17
set_option maxRecDepth 20000 in
theorem ok_166 : FOK MT mr_166 := FK_r (FW_r (by decide +kernel) (by decide +kernel)) (AL_c (FL_0 rfl rfl (bi_2_6 MM_12) rfl) (AL_c (FL_4 rfl rfl (bi_2_0 MM_6)) (AL_c (FL_4 rfl rfl (bi_1_13 MM_6)) (AL_c (FL_3 rfl rfl (bi_2_6 MM_5)) (AL_c (FL_4 rfl rfl (bi_1_5 MM_7)) (AL_c (FL_4 rfl rfl (bi_1_5 MM_9)) AL_n))))) : ∀ q ∈ ([(58, 10, 9, 0, 2, 108), (111, 4, 4, 4, 2, 6), (123, 0, 0, 4, 1, 214), (28, 10, 2, 3, 2, 101), (200, 6, 2, 4, 1, 87), (202, 6, 3, 4, 1, 89)] : List AF), FLok mr_166 q) (AL_c (CK_1 mt_47 (bi_3_6 MM_14) mfv_47) (AL_c (CK_1 mt_39 (bi_3_12 MM_10) mfv_39) (AL_c (CK_1 mt_78 (bi_3_12 MM_11) mfv_78) AL_n)) : ∀ q ∈ ([(107, 1, 47, 3, 110), (194, 1, 39, 3, 202), (197, 1, 78, 3, 203)] : List AK), CKok MT mr_166 q) AL_n AL_n AL_n AL_n
set_option maxRecDepth 20000 in
theorem gk_166 : GOK mr_166 := GK_r (bi_3_12 MM_9) cni_RX10 (plain_of cpl_RX10) cnh_RX10 pds_10
set_option maxRecDepth 20000 in
theorem ok_167 : FOK MT mr_167 := FK_r (FW_r (by decide +kernel) (by decide +kernel)) (AL_c (FL_0 rfl rfl (bi_2_6 MM_12) rfl) (AL_c (FL_4 rfl rfl (bi_2_0 MM_6)) (AL_c (FL_4 rfl rfl (bi_1_13 MM_6)) (AL_c (FL_3 rfl rfl (bi_2_6 MM_5)) AL_n))) : ∀ q ∈ ([(58, 10, 9, 0, 2, 108), (111, 4, 4, 4, 2, 6), (123, 0, 0, 4, 1, 214), (28, 10, 2, 3, 2, 101)] : List AF), FLok mr_167 q) (AL_c (CK_1 mt_47 (bi_3_6 MM_14) mfv_47) (AL_c (CK_1 mt_39 (bi_3_12 MM_10) mfv_39) (AL_c (CK_1 mt_79 (bi_3_13 MM_0) mfv_79) AL_n)) : ∀ q ∈ ([(107, 1, 47, 3, 110), (194, 1, 39, 3, 202), (205, 1, 79, 3, 208)] : List AK), CKok MT mr_167 q) AL_n AL_n AL_n AL_n
set_option maxRecDepth 20000 in
theorem gk_167 : GOK mr_167 := GK_r (bi_3_12 MM_15) cni_RX10 (plain_of cpl_RX10) cnh_RX10 pds_7
set_option maxRecDepth 20000 in
theorem ok_168 : FOK MT mr_168 := FK_r (FW_r (by decide +kernel) (by decide +kernel)) (AL_c (FL_3 rfl rfl (bi_2_6 MM_9)) (AL_c (FL_0 rfl rfl (bi_2_6 MM_12) rfl) (AL_c (FL_1 rfl rfl (bi_2_0 MM_3) rfl) AL_n)) : ∀ q ∈ ([(75, 10, 6, 3, 2, 105), (58, 10, 9, 0, 2, 108), (224, 4, 3, 1, 2, 3)] : List AF), FLok mr_168 q) (AL_c (CK_0 mt_180 (bi_4_12 MM_8) mfv_180) (AL_c (CK_1 mt_89 (bi_4_13 MM_3) mfv_89) (AL_c (CK_0 mt_114 (bi_3_9 MM_5) mfv_114) (AL_c (CK_2 mt_100 (bi_4_13 MM_7) mfs_100) AL_n))) : ∀ q ∈ ([(300, 0, 180, 4, 200), (303, 1, 89, 4, 211), (178, 0, 114, 3, 149), (304, 2, 100, 4, 215)] : List AK), CKok MT mr_168 q) AL_n AL_n AL_n AL_n
set_option maxRecDepth 20000 in
theorem gk_168 : GOK mr_168 := GK_r (bi_4_12 MM_7) cni_RX10 (plain_of cpl_RX10) cnh_RX10 pds_7
set_option maxRecDepth 20000 in
theorem ok_169 : FOK MT mr_169 := FK_r (FW_r (by decide +kernel) (by decide +kernel)) (AL_c (FL_3 rfl rfl (bi_2_6 MM_4)) (AL_c (FL_0 rfl rfl (bi_2_6 MM_13) rfl) (AL_c (FL_3 rfl rfl (bi_2_6 MM_3)) (AL_c (FL_1 rfl rfl (bi_1_2 MM_5) rfl) (AL_c (FL_1 rfl rfl (bi_1_3 MM_10) rfl) (AL_c (FL_0 rfl rfl (bi_2_6 MM_12) rfl) (AL_c (FL_3 rfl rfl (bi_2_6 MM_5)) (AL_c (FL_1 rfl rfl (bi_1_14 MM_13) rfl) (AL_c (FL_1 rfl rfl (bi_1_14 MM_10) rfl) AL_n)))))))) : ∀ q ∈ ([(21, 10, 1, 3, 2, 100), (62, 10, 10, 0, 2, 109), (10, 10, 0, 3, 2, 99), (80, 8, 1, 1, 1, 37), (92, 5, 5, 1, 1, 58), (58, 10, 9, 0, 2, 108), (28, 10, 2, 3, 2, 101), (95, 4, 1, 1, 1, 237), (101, 4, 0, 1, 1, 234)] : List AF), FLok mr_169 q) (AL_c (CK_1 mt_60 (bi_2_9 MM_5) mfv_60) (AL_c (CK_1 mt_82 (bi_3_5 MM_9) mfv_82) AL_n) : ∀ q ∈ ([(88, 1, 60, 2, 149), (98, 1, 82, 3, 89)] : List AK), CKok MT mr_169 q) AL_n AL_n AL_n AL_n
set_option maxRecDepth 20000 in
theorem gk_169 : GOK mr_169 := GK_r (bi_2_9 MM_4) cni_RX10 (plain_of cpl_RX10) cnh_RX10 pds_4
set_option maxRecDepth 20000 in
theorem ok_170 : FOK MT mr_170 := FK_r (FW_r (by decide +kernel) (by decide +kernel)) (AL_c (FL_0 rfl rfl (bi_2_6 MM_12) rfl) (AL_c (FL_3 rfl rfl (bi_2_6 MM_6)) AL_n) : ∀ q ∈ ([(58, 10, 9, 0, 2, 108), (37, 10, 3, 3, 2, 102)] : List AF), FLok mr_170 q) (AL_c (CK_2 mt_148 (bi_4_4 MM_2) mfs_148) (AL_c (CK_1 mt_46 (bi_3_14 MM_1) mfv_46) (AL_c (CK_1 mt_29 (bi_4_6 MM_10) mfv_29) AL_n)) : ∀ q ∈ ([(261, 2, 148, 4, 66), (212, 1, 46, 3, 225), (267, 1, 29, 4, 106)] : List AK), CKok MT mr_170 q) AL_n AL_n AL_n AL_n
set_option maxRecDepth 20000 in
theorem gk_170 : GOK mr_170 := GK_r (bi_4_6 MM_9) cni_RX10 (plain_of cpl_RX10) cnh_RX10 pds_17
set_option maxRecDepth 20000 in
theorem ok_171 : FOK MT mr_171 := FK_r (FW_r (by decide +kernel) (by decide +kernel)) AL_n (AL_c (CK_0 mt_184 (bi_4_9 MM_12) mfv_184) (AL_c (CK_0 mt_160 (bi_4_7 MM_10) mfv_160) AL_n) : ∀ q ∈ ([(291, 0, 184, 4, 156), (273, 0, 160, 4, 122)] : List AK), CKok MT mr_171 q) AL_n AL_n AL_n AL_n
set_option maxRecDepth 20000 in
theorem gk_171 : GOK mr_171 := GK_r (bi_4_9 MM_11) cni_RX10 (plain_of cpl_RX10) cnh_RX10 pds_10
set_option maxRecDepth 20000 in
theorem ok_172 : FOK MT mr_172 := FK_r (FW_r (by decide +kernel) (by decide +kernel)) (AL_c (FL_0 rfl rfl (bi_2_6 MM_12) rfl) AL_n : ∀ q ∈ ([(58, 10, 9, 0, 2, 108)] : List AF), FLok mr_172 q) (AL_c (CK_2 mt_146 (bi_5_6 MM_11) mfs_146) (AL_c (CK_1 mt_47 (bi_3_6 MM_14) mfv_47) (AL_c (CK_0 mt_115 (bi_5_6 MM_15) mfv_115) (AL_c (CK_0 mt_156 (bi_3_14 MM_13) mfv_156) (AL_c (CK_0 mt_114 (bi_3_9 MM_5) mfv_114) (AL_c (CK_2 mt_7 (bi_3_8 MM_10) mfs_7) AL_n))))) : ∀ q ∈ ([(350, 2, 146, 5, 107), (107, 1, 47, 3, 110), (353, 0, 115, 5, 111), (218, 0, 156, 3, 237), (178, 0, 114, 3, 149), (169, 2, 7, 3, 138)] : List AK), CKok MT mr_172 q) AL_n AL_n AL_n AL_n
set_option maxRecDepth 20000 in
theorem gk_172 : GOK mr_172 := GK_r (bi_5_6 MM_10) cni_RX10 (plain_of cpl_RX10) cnh_RX10 pds_17
set_option maxRecDepth 20000 in
theorem ok_173 : FOK MT mr_173 := FK_r (FW_r (by decide +kernel) (by decide +kernel)) (AL_c (FL_3 rfl rfl (bi_2_6 MM_5)) (AL_c (FL_3 rfl rfl (bi_2_6 MM_9)) AL_n) : ∀ q ∈ ([(28, 10, 2, 3, 2, 101), (75, 10, 6, 3, 2, 105)] : List AF), FLok mr_173 q) (AL_c (CK_2 mt_149 (bi_3_7 MM_6) mfs_149) (AL_c (CK_0 mt_180 (bi_4_12 MM_8) mfv_180) (AL_c (CK_1 mt_89 (bi_4_13 MM_3) mfv_89) (AL_c (CK_1 mt_83 (bi_5_1 MM_12) mfv_83) AL_n))) : ∀ q ∈ ([(133, 2, 149, 3, 118), (300, 0, 180, 4, 200), (303, 1, 89, 4, 211), (322, 1, 83, 5, 28)] : List AK), CKok MT mr_173 q) AL_n AL_n AL_n AL_n
set_option maxRecDepth 20000 in
theorem gk_173 : GOK mr_173 := GK_r (bi_5_1 MM_11) cni_RX10 (plain_of cpl_RX10) cnh_RX10 pds_10
set_option maxRecDepth 20000 in
theorem ok_174 : FOK MT mr_174 := FK_r (FW_r (by decide +kernel) (by decide +kernel)) (AL_c (FL_0 rfl rfl (bi_2_6 MM_12) rfl) (AL_c (FL_4 rfl rfl (bi_2_0 MM_6)) (AL_c (FL_4 rfl rfl (bi_1_13 MM_6)) (AL_c (FL_1 rfl rfl (bi_1_12 MM_5) rfl) (AL_c (FL_1 rfl rfl (bi_2_2 MM_4) rfl) (AL_c (FL_4 rfl rfl (bi_2_2 MM_6)) AL_n))))) : ∀ q ∈ ([(58, 10, 9, 0, 2, 108), (111, 4, 4, 4, 2, 6), (123, 0, 0, 4, 1, 214), (127, 3, 2, 1, 1, 197), (234, 4, 14, 1, 2, 36), (241, 4, 15, 4, 2, 38)] : List AF), FLok mr_174 q) (AL_c (CK_0 mt_144 (bi_4_1 MM_10) mfv_144) (AL_c (CK_1 mt_31 (bi_4_1 MM_14) mfv_31) AL_n) : ∀ q ∈ ([(230, 0, 144, 4, 26), (237, 1, 31, 4, 30)] : List AK), CKok MT mr_174 q) AL_n AL_n AL_n AL_n
set_option maxRecDepth 20000 in
theorem gk_174 : GOK mr_174 := GK_r (bi_4_1 MM_9) cni_RX10 (plain_of cpl_RX10) cnh_RX10 pds_17
set_option maxRecDepth 20000 in
theorem ok_175 : FOK MT mr_175 := FK_r (FW_r (by decide +kernel) (by decide +kernel)) (AL_c (FL_0 rfl rfl (bi_2_6 MM_12) rfl) (AL_c (FL_3 rfl rfl (bi_2_6 MM_8)) (AL_c (FL_1 rfl rfl (bi_2_0 MM_0) rfl) AL_n)) : ∀ q ∈ ([(58, 10, 9, 0, 2, 108), (51, 10, 5, 3, 2, 104), (337, 4, 2, 1, 2, 0)] : List AF), FLok mr_175 q) (AL_c (CK_1 mt_43 (bi_3_8 MM_1) mfv_43) (AL_c (CK_1 mt_98 (bi_5_3 MM_8) mfv_98) AL_n) : ∀ q ∈ ([(146, 1, 43, 3, 129), (340, 1, 98, 5, 56)] : List AK), CKok MT mr_175 q) AL_n AL_n AL_n AL_n
set_option maxRecDepth 20000 in
theorem gk_175 : GOK mr_175 := GK_r (bi_5_5 MM_14) cni_RX10 (plain_of cpl_RX10) cnh_RX10 pds_4
set_option maxRecDepth 20000 in
theorem ok_176 : FOK MT mr_176 := FK_r (FW_r (by decide +kernel) (by decide +kernel)) (AL_c (FL_0 rfl rfl (bi_2_6 MM_12) rfl) (AL_c (FL_3 rfl rfl (bi_2_6 MM_5)) (AL_c (FL_4 rfl rfl (bi_1_5 MM_7)) (AL_c (FL_4 rfl rfl (bi_1_5 MM_9)) AL_n))) : ∀ q ∈ ([(58, 10, 9, 0, 2, 108), (28, 10, 2, 3, 2, 101), (200, 6, 2, 4, 1, 87), (202, 6, 3, 4, 1, 89)] : List AF), FLok mr_176 q) (AL_c (CK_1 mt_46 (bi_3_14 MM_1) mfv_46) (AL_c (CK_2 mt_149 (bi_3_7 MM_6) mfs_149) (AL_c (CK_1 mt_81 (bi_3_14 MM_5) mfv_81) AL_n)) : ∀ q ∈ ([(212, 1, 46, 3, 225), (133, 2, 149, 3, 118), (215, 1, 81, 3, 229)] : List AK), CKok MT mr_176 q) AL_n AL_n AL_n AL_n
set_option maxRecDepth 20000 in
theorem gk_176 : GOK mr_176 := GK_r (bi_3_14 MM_0) cni_RX10 (plain_of cpl_RX10) cnh_RX10 pds_10
set_option maxRecDepth 20000 in
theorem ok_177 : FOK MT mr_177 := FK_r (FW_r (by decide +kernel) (by decide +kernel)) (AL_c (FL_0 rfl rfl (bi_2_6 MM_12) rfl) (AL_c (FL_4 rfl rfl (bi_2_0 MM_6)) (AL_c (FL_1 rfl rfl (bi_1_13 MM_8) rfl) (AL_c (FL_1 rfl rfl (bi_1_13 MM_10) rfl) AL_n))) : ∀ q ∈ ([(58, 10, 9, 0, 2, 108), (111, 4, 4, 4, 2, 6), (115, 0, 1, 1, 1, 216), (120, 0, 2, 1, 1, 218)] : List AF), FLok mr_177 q) (AL_c (CK_1 mt_47 (bi_3_6 MM_14) mfv_47) (AL_c (CK_2 mt_149 (bi_3_7 MM_6) mfs_149) (AL_c (CK_2 mt_148 (bi_4_4 MM_2) mfs_148) AL_n)) : ∀ q ∈ ([(107, 1, 47, 3, 110), (133, 2, 149, 3, 118), (261, 2, 148, 4, 66)] : List AK), CKok MT mr_177 q) AL_n AL_n AL_n AL_n
set_option maxRecDepth 20000 in
theorem gk_177 : GOK mr_177 := GK_r (bi_5_6 MM_2) cni_RX10 (plain_of cpl_RX10) cnh_RX10 pds_17
set_option maxRecDepth 20000 in
theorem ok_178 : FOK MT mr_178 := FK_r (FW_r (by decide +kernel) (by decide +kernel)) (AL_c (FL_0 rfl rfl (bi_2_6 MM_12) rfl) AL_n : ∀ q ∈ ([(58, 10, 9, 0, 2, 108)] : List AF), FLok mr_178 q) (AL_c (CK_1 mt_47 (bi_3_6 MM_14) mfv_47) (AL_c (CK_1 mt_49 (bi_3_8 MM_15) mfv_49) (AL_c (CK_0 mt_114 (bi_3_9 MM_5) mfv_114) (AL_c (CK_1 mt_51 (bi_4_3 MM_7) mfv_51) (AL_c (CK_2 mt_7 (bi_3_8 MM_10) mfs_7) (AL_c (CK_2 mt_108 (bi_3_11 MM_5) mfs_108) AL_n))))) : ∀ q ∈ ([(107, 1, 47, 3, 110), (175, 1, 49, 3, 143), (178, 0, 114, 3, 149), (251, 1, 51, 4, 55), (169, 2, 7, 3, 138), (181, 2, 108, 3, 181)] : List AK), CKok MT mr_178 q) AL_n AL_n AL_n AL_n
set_option maxRecDepth 20000 in
theorem gk_178 : GOK mr_178 := GK_r (bi_4_8 MM_5) cni_RX10 (plain_of cpl_RX10) cnh_RX10 pds_10
set_option maxRecDepth 20000 in
theorem ok_179 : FOK MT mr_179 := FK_r (FW_r (by decide +kernel) (by decide +kernel)) AL_n (AL_c (CK_0 mt_178 (bi_4_8 MM_2) mfv_178) (AL_c (CK_2 mt_7 (bi_3_8 MM_10) mfs_7) AL_n) : ∀ q ∈ ([(276, 0, 178, 4, 130), (169, 2, 7, 3, 138)] : List AK), CKok MT mr_179 q) AL_n AL_n AL_n AL_n
set_option maxRecDepth 20000 in
theorem gk_179 : GOK mr_179 := GK_r (bi_4_8 MM_1) cni_RX10 (plain_of cpl_RX10) cnh_RX10 pds_10
set_option maxRecDepth 20000 in
theorem ok_180 : FOK MT mr_180 := FK_r (FW_r (by decide +kernel) (by decide +kernel)) (AL_c (FL_0 rfl rfl (bi_2_6 MM_12) rfl) (AL_c (FL_3 rfl rfl (bi_2_6 MM_9)) (AL_c (FL_1 rfl rfl (bi_2_5 MM_3) rfl) AL_n)) : ∀ q ∈ ([(58, 10, 9, 0, 2, 108), (75, 10, 6, 3, 2, 105), (371, 7, 1, 1, 2, 83)] : List AF), FLok mr_180 q) (AL_c (CK_2 mt_147 (bi_4_12 MM_12) mfs_147) (AL_c (CK_1 mt_43 (bi_3_8 MM_1) mfv_43) (AL_c (CK_1 mt_51 (bi_4_3 MM_7) mfv_51) (AL_c (CK_1 mt_87 (bi_4_12 MM_15) mfv_87) AL_n))) : ∀ q ∈ ([(365, 2, 147, 4, 204), (146, 1, 43, 3, 129), (251, 1, 51, 4, 55), (407, 1, 87, 4, 207)] : List AK), CKok MT mr_180 q) AL_n AL_n AL_n AL_n
set_option maxRecDepth 20000 in
theorem gk_180 : GOK mr_180 := GK_r (bi_4_12 MM_11) cni_RX10 (plain_of cpl_RX10) cnh_RX10 pds_7
set_option maxRecDepth 20000 in
theorem ok_181 : FOK MT mr_181 := FK_r (FW_r (by decide +kernel) (by decide +kernel)) (AL_c (FL_0 rfl rfl (bi_2_6 MM_12) rfl) (AL_c (FL_1 rfl rfl (bi_2_2 MM_4) rfl) (AL_c (FL_4 rfl rfl (bi_2_2 MM_6)) (AL_c (FL_4 rfl rfl (bi_2_0 MM_6)) (AL_c (FL_4 rfl rfl (bi_1_13 MM_6)) AL_n)))) : ∀ q ∈ ([(58, 10, 9, 0, 2, 108), (234, 4, 14, 1, 2, 36), (241, 4, 15, 4, 2, 38), (111, 4, 4, 4, 2, 6), (123, 0, 0, 4, 1, 214)] : List AF), FLok mr_181 q) (AL_c (CK_1 mt_43 (bi_3_8 MM_1) mfv_43) (AL_c (CK_1 mt_33 (bi_4_2 MM_3) mfv_33) AL_n) : ∀ q ∈ ([(146, 1, 43, 3, 129), (244, 1, 33, 4, 35)] : List AK), CKok MT mr_181 q) AL_n AL_n AL_n AL_n
set_option maxRecDepth 20000 in
theorem gk_181 : GOK mr_181 := GK_r (bi_4_2 MM_2) cni_RX10 (plain_of cpl_RX10) cnh_RX10 pds_4
set_option maxRecDepth 20000 in
theorem ok_182 : FOK MT mr_182 := FK_r (FW_r (by decide +kernel) (by decide +kernel)) (AL_c (FL_0 rfl rfl (bi_2_6 MM_12) rfl) AL_n : ∀ q ∈ ([(58, 10, 9, 0, 2, 108)] : List AF), FLok mr_182 q) (AL_c (CK_1 mt_47 (bi_3_6 MM_14) mfv_47) (AL_c (CK_2 mt_149 (bi_3_7 MM_6) mfs_149) (AL_c (CK_0 mt_184 (bi_4_9 MM_12) mfv_184) (AL_c (CK_0 mt_160 (bi_4_7 MM_10) mfv_160) (AL_c (CK_2 mt_7 (bi_3_8 MM_10) mfs_7) AL_n)))) : ∀ q ∈ ([(107, 1, 47, 3, 110), (133, 2, 149, 3, 118), (291, 0, 184, 4, 156), (273, 0, 160, 4, 122), (169, 2, 7, 3, 138)] : List AK), CKok MT mr_182 q) AL_n AL_n AL_n AL_n
set_option maxRecDepth 20000 in
theorem gk_182 : GOK mr_182 := GK_r (bi_4_10 MM_15) cni_RX10 (plain_of cpl_RX10) cnh_RX10 pds_10
set_option maxRecDepth 20000 in
theorem ok_183 : FOK MT mr_183 := FK_r (FW_r (by decide +kernel) (by decide +kernel)) (AL_c (FL_0 rfl rfl (bi_2_6 MM_12) rfl) (AL_c (FL_1 rfl rfl (bi_1_13 MM_8) rfl) (AL_c (FL_4 rfl rfl (bi_1_13 MM_6)) AL_n)) : ∀ q ∈ ([(58, 10, 9, 0, 2, 108), (115, 0, 1, 1, 1, 216), (123, 0, 0, 4, 1, 214)] : List AF), FLok mr_183 q) (AL_c (CK_1 mt_47 (bi_3_6 MM_14) mfv_47) (AL_c (CK_1 mt_49 (bi_3_8 MM_15) mfv_49) (AL_c (CK_1 mt_52 (bi_3_9 MM_9) mfv_52) (AL_c (CK_1 mt_36 (bi_3_12 MM_4) mfv_36) (AL_c (CK_1 mt_37 (bi_3_12 MM_5) mfv_37) AL_n)))) : ∀ q ∈ ([(107, 1, 47, 3, 110), (175, 1, 49, 3, 143), (184, 1, 52, 3, 153), (188, 1, 36, 3, 196), (191, 1, 37, 3, 197)] : List AK), CKok MT mr_183 q) AL_n AL_n AL_n AL_n
set_option maxRecDepth 20000 in
theorem gk_183 : GOK mr_183 := GK_r (bi_3_12 MM_3) cni_RX10 (plain_of cpl_RX10) cnh_RX10 pds_10
set_option maxRecDepth 20000 in
theorem ok_184 : FOK MT mr_184 := FK_r (FW_r (by decide +kernel) (by decide +kernel)) (AL_c (FL_3 rfl rfl (bi_2_6 MM_6)) (AL_c (FL_0 rfl rfl (bi_2_6 MM_12) rfl) (AL_c (FL_4 rfl rfl (bi_2_0 MM_6)) (AL_c (FL_4 rfl rfl (bi_1_13 MM_6)) AL_n))) : ∀ q ∈ ([(37, 10, 3, 3, 2, 102), (58, 10, 9, 0, 2, 108), (111, 4, 4, 4, 2, 6), (123, 0, 0, 4, 1, 214)] : List AF), FLok mr_184 q) (AL_c (CK_1 mt_22 (bi_3_9 MM_13) mfv_22) AL_n : ∀ q ∈ ([(397, 1, 22, 3, 157)] : List AK), CKok MT mr_184 q) AL_n AL_n AL_n AL_n
set_option maxRecDepth 20000 in
theorem gk_184 : GOK mr_184 := GK_r (bi_4_9 MM_15) cni_RX10 (plain_of cpl_RX10) cnh_RX10 pds_10
set_option maxRecDepth 20000 in
theorem ok_185 : FOK MT mr_185 := FK_r (FW_r (by decide +kernel) (by decide +kernel)) (AL_c (FL_3 rfl rfl (bi_2_6 MM_9)) (AL_c (FL_1 rfl rfl (bi_2_5 MM_3) rfl) (AL_c (FL_1 rfl rfl (bi_2_5 MM_7) rfl) AL_n)) : ∀ q ∈ ([(75, 10, 6, 3, 2, 105), (371, 7, 1, 1, 2, 83), (375, 7, 3, 1, 2, 87)] : List AF), FLok mr_185 q) (AL_c (CK_2 mt_147 (bi_4_12 MM_12) mfs_147) (AL_c (CK_1 mt_88 (bi_5_10 MM_11) mfv_88) AL_n) : ∀ q ∈ ([(365, 2, 147, 4, 204), (376, 1, 88, 5, 171)] : List AK), CKok MT mr_185 q) AL_n AL_n AL_n AL_n
set_option maxRecDepth 20000 in
theorem gk_185 : GOK mr_185 := GK_r (bi_5_10 MM_10) cni_RX10 (plain_of cpl_RX10) cnh_RX10 pds_37
set_option maxRecDepth 20000 in
theorem ok_186 : FOK MT mr_186 := FK_r (FW_r (by decide +kernel) (by decide +kernel)) (AL_c (FL_0 rfl rfl (bi_2_6 MM_12) rfl) (AL_c (FL_4 rfl rfl (bi_2_0 MM_9)) AL_n) : ∀ q ∈ ([(58, 10, 9, 0, 2, 108), (143, 4, 5, 4, 2, 9)] : List AF), FLok mr_186 q) (AL_c (CK_1 mt_47 (bi_3_6 MM_14) mfv_47) (AL_c (CK_0 mt_114 (bi_3_9 MM_5) mfv_114) (AL_c (CK_1 mt_34 (bi_4_0 MM_10) mfv_34) AL_n)) : ∀ q ∈ ([(107, 1, 47, 3, 110), (178, 0, 114, 3, 149), (221, 1, 34, 4, 10)] : List AK), CKok MT mr_186 q) AL_n AL_n AL_n AL_n
set_option maxRecDepth 20000 in
theorem gk_186 : GOK mr_186 := GK_r (bi_4_0 MM_9) cni_RX10 (plain_of cpl_RX10) cnh_RX10 pds_7
set_option maxRecDepth 20000 in
theorem ok_187 : FOK MT mr_187 := FK_r (FW_r (by decide +kernel) (by decide +kernel)) (AL_c (FL_0 rfl rfl (bi_2_6 MM_12) rfl) AL_n : ∀ q ∈ ([(58, 10, 9, 0, 2, 108)] : List AF), FLok mr_187 q) (AL_c (CK_2 mt_146 (bi_5_6 MM_11) mfs_146) (AL_c (CK_1 mt_47 (bi_3_6 MM_14) mfv_47) (AL_c (CK_0 mt_115 (bi_5_6 MM_15) mfv_115) (AL_c (CK_0 mt_156 (bi_3_14 MM_13) mfv_156) AL_n))) : ∀ q ∈ ([(350, 2, 146, 5, 107), (107, 1, 47, 3, 110), (353, 0, 115, 5, 111), (218, 0, 156, 3, 237)] : List AK), CKok MT mr_187 q) AL_n AL_n AL_n AL_n
set_option maxRecDepth 20000 in
theorem gk_187 : GOK mr_187 := GK_r (bi_5_7 MM_11) cni_RX10 (plain_of cpl_RX10) cnh_RX10 pds_38
set_option maxRecDepth 20000 in
theorem ok_188 : FOK MT mr_188 := FK_r (FW_r (by decide +kernel) (by decide +kernel)) (AL_c (FL_3 rfl rfl (bi_5_13 MM_0)) (AL_c (FL_0 rfl rfl (bi_5_13 MM_2) rfl) (AL_c (FL_3 rfl rfl (bi_5_13 MM_1)) AL_n)) : ∀ q ∈ ([(43, 11, 19, 3, 5, 208), (262, 11, 21, 0, 5, 210), (46, 11, 20, 3, 5, 209)] : List AF), FLok mr_188 q) AL_n AL_n AL_n AL_n AL_n
set_option maxRecDepth 20000 in
theorem gk_188 : GOK mr_188 := GK_r (bi_7_2 MM_2) cni_RX11 (plain_of cpl_RX11) cnh_RX11 pds_1
set_option maxRecDepth 20000 in
theorem ok_189 : FOK MT mr_189 := FK_r (FW_r (by decide +kernel) (by decide +kernel)) (AL_c (FL_0 rfl rfl (bi_5_12 MM_5) rfl) (AL_c (FL_0 rfl rfl (bi_5_12 MM_6) rfl) (AL_c (FL_0 rfl rfl (bi_5_12 MM_7) rfl) (AL_c (FL_0 rfl rfl (bi_5_12 MM_8) rfl) AL_n))) : ∀ q ∈ ([(110, 11, 8, 0, 5, 197), (117, 11, 9, 0, 5, 198), (120, 11, 10, 0, 5, 199), (131, 11, 11, 0, 5, 200)] : List AF), FLok mr_189 q) (AL_c (CK_0 mt_313 (bi_6_5 MM_10) mfv_313) (AL_c (CK_2 mt_249 (bi_6_3 MM_15) mfs_249) (AL_c (CK_2 mt_11 (bi_6_6 MM_3) mfs_11) AL_n)) : ∀ q ∈ ([(113, 0, 313, 6, 90), (89, 2, 249, 6, 63), (135, 2, 11, 6, 99)] : List AK), CKok MT mr_189 q) (AL_c (W_r (bi_6_6 MM_2) rfl) AL_n : ∀ q ∈ ([(134, 99999, 6, 98)] : List AKi), Cond.constant (my mr_189).cls q.1 q.2.1 ∈ TBL) (AL_c (W_r (bi_6_5 MM_14) rfl) (AL_c (W_r (bi_6_5 MM_15) rfl) (AL_c (W_r (bi_6_6 MM_0) rfl) (AL_c (W_r (bi_6_6 MM_1) rfl) AL_n))) : ∀ q ∈ ([(123, 97, 6, 94), (125, 122, 6, 95), (127, 48, 6, 96), (129, 57, 6, 97)] : List AKl), Cond.constantLong (my mr_189).cls q.1 q.2.1 ∈ TBL) AL_n AL_n
set_option maxRecDepth 20000 in
theorem gk_189 : GOK mr_189 := GK_r (bi_6_5 MM_9) cni_RX11 (plain_of cpl_RX11) cnh_RX11 pds_11
set_option maxRecDepth 20000 in
theorem ok_190 : FOK MT mr_190 := FK_r (FW_r (by decide +kernel) (by decide +kernel)) (AL_c (FL_3 rfl rfl (bi_5_11 MM_14)) AL_n : ∀ q ∈ ([(9, 11, 1, 3, 5, 190)] : List AF), FLok mr_190 q) (AL_c (CK_2 mt_202 (bi_7_2 MM_15) mfs_202) (AL_c (CK_0 mt_294 (bi_8_8 MM_0) mfv_294) (AL_c (CK_2 mt_10 (bi_8_6 MM_7) mfs_10) AL_n)) : ∀ q ∈ ([(272, 2, 202, 7, 47), (430, 0, 294, 8, 128), (418, 2, 10, 8, 103)] : List AK), CKok MT mr_190 q) AL_n AL_n AL_n AL_n
set_option maxRecDepth 20000 in
theorem gk_190 : GOK mr_190 := GK_r (bi_8_8 MM_7) cni_RX11 (plain_of cpl_RX11) cnh_RX11 pds_10
set_option maxRecDepth 20000 in
theorem ok_191 : FOK MT mr_191 := FK_r (FW_r (by decide +kernel) (by decide +kernel)) (AL_c (FL_3 rfl rfl (bi_5_11 MM_14)) AL_n : ∀ q ∈ ([(9, 11, 1, 3, 5, 190)] : List AF), FLok mr_191 q) (AL_c (CK_0 mt_254 (bi_6_12 MM_7) mfv_254) (AL_c (CK_0 mt_213 (bi_7_0 MM_15) mfv_213) AL_n) : ∀ q ∈ ([(302, 0, 254, 6, 199), (317, 0, 213, 7, 15)] : List AK), CKok MT mr_191 q) AL_n AL_n AL_n AL_n
set_option maxRecDepth 20000 in
theorem gk_191 : GOK mr_191 := GK_r (bi_8_3 MM_2) cni_RX11 (plain_of cpl_RX11) cnh_RX11 pds_7
set_option maxRecDepth 20000 in
theorem ok_192 : FOK MT mr_192 := FK_r (FW_r (by decide +kernel) (by decide +kernel)) AL_n (AL_c (CK_0 mt_269 (bi_6_14 MM_12) mfv_269) AL_n : ∀ q ∈ ([(97, 0, 269, 6, 236)] : List AK), CKok MT mr_192 q) AL_n AL_n AL_n AL_n
set_option maxRecDepth 20000 in
theorem gk_192 : GOK mr_192 := GK_r (bi_7_6 MM_5) cni_RX11 (plain_of cpl_RX11) cnh_RX11 pds_4
set_option maxRecDepth 20000 in
theorem ok_193 : FOK MT mr_193 := FK_r (FW_r (by decide +kernel) (by decide +kernel)) AL_n (AL_c (CK_0 mt_254 (bi_6_12 MM_7) mfv_254) (AL_c (CK_0 mt_258 (bi_6_14 MM_4) mfv_258) (AL_c (CK_0 mt_194 (bi_8_4 MM_3) mfv_194) AL_n)) : ∀ q ∈ ([(302, 0, 254, 6, 199), (310, 0, 258, 6, 228), (409, 0, 194, 8, 67)] : List AK), CKok MT mr_193 q) AL_n AL_n AL_n AL_n
set_option maxRecDepth 20000 in
theorem gk_193 : GOK mr_193 := GK_r (bi_8_4 MM_14) cni_RX11 (plain_of cpl_RX11) cnh_RX11 pds_10
set_option maxRecDepth 20000 in
theorem ok_194 : FOK MT mr_194 := FK_r (FW_r (by decide +kernel) (by decide +kernel)) (AL_c (FL_3 rfl rfl (bi_5_11 MM_14)) AL_n : ∀ q ∈ ([(9, 11, 1, 3, 5, 190)] : List AF), FLok mr_194 q) (AL_c (CK_0 mt_213 (bi_7_0 MM_15) mfv_213) (AL_c (CK_0 mt_212 (bi_6_14 MM_8) mfv_212) (AL_c (CK_2 mt_203 (bi_7_0 MM_0) mfs_203) AL_n)) : ∀ q ∈ ([(317, 0, 213, 7, 15), (259, 0, 212, 6, 232), (256, 2, 203, 7, 0)] : List AK), CKok MT mr_194 q) AL_n AL_n AL_n AL_n
set_option maxRecDepth 20000 in
theorem gk_194 : GOK mr_194 := GK_r (bi_8_4 MM_6) cni_RX11 (plain_of cpl_RX11) cnh_RX11 pds_10
set_option maxRecDepth 20000 in
theorem ok_195 : FOK MT mr_195 := FK_r (FW_r (by decide +kernel) (by decide +kernel)) AL_n (AL_c (CK_0 mt_264 (bi_6_14 MM_0) mfv_264) (AL_c (CK_0 mt_192 (bi_7_6 MM_2) mfv_192) (AL_c (CK_2 mt_249 (bi_6_3 MM_15) mfs_249) AL_n)) : ∀ q ∈ ([(93, 0, 264, 6, 224), (101, 0, 192, 7, 98), (89, 2, 249, 6, 63)] : List AK), CKok MT mr_195 q) AL_n AL_n AL_n AL_n
set_option maxRecDepth 20000 in
theorem gk_195 : GOK mr_195 := GK_r (bi_7_6 MM_1) cni_RX11 (plain_of cpl_RX11) cnh_RX11 pds_21
set_option maxRecDepth 20000 in
theorem ok_196 : FOK MT mr_196 := FK_r (FW_r (by decide +kernel) (by decide +kernel)) AL_n (AL_c (CK_0 mt_198 (bi_8_2 MM_0) mfv_198) (AL_c (CK_0 mt_197 (bi_8_5 MM_15) mfv_197) AL_n) : ∀ q ∈ ([(396, 0, 198, 8, 32), (424, 0, 197, 8, 95)] : List AK), CKok MT mr_196 q) AL_n AL_n AL_n AL_n
set_option maxRecDepth 20000 in
theorem gk_196 : GOK mr_196 := GK_r (bi_8_5 MM_14) cni_RX11 (plain_of cpl_RX11) cnh_RX11 pds_7
set_option maxRecDepth 20000 in
theorem ok_197 : FOK MT mr_197 := FK_r (FW_r (by decide +kernel) (by decide +kernel)) AL_n (AL_c (CK_0 mt_231 (bi_8_5 MM_3) mfv_231) (AL_c (CK_0 mt_269 (bi_6_14 MM_12) mfv_269) (AL_c (CK_0 mt_332 (bi_8_6 MM_3) mfv_332) AL_n)) : ∀ q ∈ ([(415, 0, 231, 8, 83), (97, 0, 269, 6, 236), (421, 0, 332, 8, 99)] : List AK), CKok MT mr_197 q) AL_n AL_n AL_n AL_n
set_option maxRecDepth 20000 in
theorem gk_197 : GOK mr_197 := GK_r (bi_8_6 MM_2) cni_RX11 (plain_of cpl_RX11) cnh_RX11 pds_7
set_option maxRecDepth 20000 in
theorem ok_198 : FOK MT mr_198 := FK_r (FW_r (by decide +kernel) (by decide +kernel)) (AL_c (FL_3 rfl rfl (bi_5_13 MM_13)) AL_n : ∀ q ∈ ([(67, 11, 32, 3, 5, 221)] : List AF), FLok mr_198 q) (AL_c (CK_2 mt_266 (bi_8_2 MM_4) mfs_266) (AL_c (CK_0 mt_264 (bi_6_14 MM_0) mfv_264) (AL_c (CK_0 mt_289 (bi_8_2 MM_7) mfv_289) (AL_c (CK_0 mt_259 (bi_7_0 MM_11) mfv_259) (AL_c (CK_2 mt_249 (bi_6_3 MM_15) mfs_249) AL_n)))) : ∀ q ∈ ([(389, 2, 266, 8, 36), (93, 0, 264, 6, 224), (392, 0, 289, 8, 39), (313, 0, 259, 7, 11), (89, 2, 249, 6, 63)] : List AK), CKok MT mr_198 q) AL_n AL_n AL_n AL_n
set_option maxRecDepth 20000 in
theorem gk_198 : GOK mr_198 := GK_r (bi_8_2 MM_3) cni_RX11 (plain_of cpl_RX11) cnh_RX11 pds_39
set_option maxRecDepth 20000 in
theorem ok_199 : FOK MT mr_199 := FK_r (FW_r (by decide +kernel) (by decide +kernel)) (AL_c (FL_3 rfl rfl (bi_5_12 MM_0)) (AL_c (FL_3 rfl rfl (bi_5_11 MM_14)) (AL_c (FL_3 rfl rfl (bi_5_11 MM_15)) AL_n)) : ∀ q ∈ ([(16, 11, 3, 3, 5, 192), (9, 11, 1, 3, 5, 190), (13, 11, 2, 3, 5, 191)] : List AF), FLok mr_199 q) (AL_c (CK_2 mt_249 (bi_6_3 MM_15) mfs_249) AL_n : ∀ q ∈ ([(89, 2, 249, 6, 63)] : List AK), CKok MT mr_199 q) AL_n (AL_c (W_r (bi_6_3 MM_14) rfl) AL_n : ∀ q ∈ ([(87, 2, 6, 62)] : List AKl), Cond.constantLong (my mr_199).cls q.1 q.2.1 ∈ TBL) AL_n AL_n
set_option maxRecDepth 20000 in
theorem gk_199 : GOK mr_199 := GK_r (bi_6_4 MM_5) cni_RX11 (plain_of cpl_RX11) cnh_RX11 pds_7
set_option maxRecDepth 20000 in
theorem ok_200 : FOK MT mr_200 := FK_r (FW_r (by decide +kernel) (by decide +kernel)) (AL_c (FL_3 rfl rfl (bi_5_11 MM_14)) (AL_c (FL_3 rfl rfl (bi_5_13 MM_10)) AL_n) : ∀ q ∈ ([(9, 11, 1, 3, 5, 190), (61, 11, 29, 3, 5, 218)] : List AF), FLok mr_200 q) (AL_c (CK_2 mt_249 (bi_6_3 MM_15) mfs_249) (AL_c (CK_0 mt_277 (bi_8_7 MM_0) mfv_277) (AL_c (CK_0 mt_284 (bi_8_9 MM_0) mfv_284) AL_n)) : ∀ q ∈ ([(89, 2, 249, 6, 63), (445, 0, 277, 8, 112), (448, 0, 284, 8, 144)] : List AK), CKok MT mr_200 q) AL_n AL_n AL_n AL_n
set_option maxRecDepth 20000 in
theorem gk_200 : GOK mr_200 := GK_r (bi_8_8 MM_15) cni_RX11 (plain_of cpl_RX11) cnh_RX11 pds_7
set_option maxRecDepth 20000 in
theorem ok_201 : FOK MT mr_201 := FK_r (FW_r (by decide +kernel) (by decide +kernel)) (AL_c (FL_3 rfl rfl (bi_5_11 MM_14)) AL_n : ∀ q ∈ ([(9, 11, 1, 3, 5, 190)] : List AF), FLok mr_201 q) (AL_c (CK_0 mt_264 (bi_6_14 MM_0) mfv_264) (AL_c (CK_0 mt_213 (bi_7_0 MM_15) mfv_213) (AL_c (CK_0 mt_283 (bi_7_6 MM_10) mfv_283) AL_n)) : ∀ q ∈ ([(93, 0, 264, 6, 224), (317, 0, 213, 7, 15), (330, 0, 283, 7, 106)] : List AK), CKok MT mr_201 q) AL_n AL_n AL_n AL_n
set_option maxRecDepth 20000 in
theorem gk_201 : GOK mr_201 := GK_r (bi_7_7 MM_9) cni_RX11 (plain_of cpl_RX11) cnh_RX11 pds_4
set_option maxRecDepth 20000 in
theorem ok_202 : FOK MT mr_202 := FK_r (FW_r (by decide +kernel) (by decide +kernel)) AL_n AL_n AL_n AL_n AL_n AL_n
set_option maxRecDepth 20000 in
theorem gk_202 : GOK mr_202 := GK_r (bi_7_3 MM_1) cni_RX11 (plain_of cpl_RX11) cnh_RX11 pds_10
set_option maxRecDepth 20000 in
theorem ok_203 : FOK MT mr_203 := FK_r (FW_r (by decide +kernel) (by decide +kernel)) AL_n AL_n (AL_c (W_r (bi_7_0 MM_3) rfl) (AL_c (W_r (bi_7_0 MM_4) rfl) (AL_c (W_r (bi_7_0 MM_5) rfl) (AL_c (W_r (bi_7_0 MM_6) rfl) AL_n))) : ∀ q ∈ ([(83, 1431655765, 7, 3), (84, 858993459, 7, 4), (85, 252645135, 7, 5), (86, 16843009, 7, 6)] : List AKi), Cond.constant (my mr_203).cls q.1 q.2.1 ∈ TBL) AL_n AL_n AL_n
set_option maxRecDepth 20000 in
theorem gk_203 : GOK mr_203 := GK_r (bi_7_0 MM_2) cni_RX11 (plain_of cpl_RX11) cnh_RX11 pds_7
set_option maxRecDepth 20000 in
theorem ok_204 : FOK MT mr_204 := FK_r (FW_r (by decide +kernel) (by decide +kernel)) AL_n (AL_c (CK_0 mt_270 (bi_7_3 MM_6) mfv_270) (AL_c (CK_0 mt_285 (bi_7_3 MM_10) mfv_285) AL_n) : ∀ q ∈ ([(278, 0, 270, 7, 54), (281, 0, 285, 7, 58)] : List AK), CKok MT mr_204 q) AL_n AL_n AL_n AL_n
set_option maxRecDepth 20000 in
theorem gk_204 : GOK mr_204 := GK_r (bi_7_3 MM_5) cni_RX11 (plain_of cpl_RX11) cnh_RX11 pds_10
set_option maxRecDepth 20000 in
theorem ok_205 : FOK MT mr_205 := FK_r (FW_r (by decide +kernel) (by decide +kernel)) (AL_c (FL_3 rfl rfl (bi_5_11 MM_14)) AL_n : ∀ q ∈ ([(9, 11, 1, 3, 5, 190)] : List AF), FLok mr_205 q) (AL_c (CK_0 mt_254 (bi_6_12 MM_7) mfv_254) (AL_c (CK_0 mt_290 (bi_6_12 MM_12) mfv_290) (AL_c (CK_0 mt_253 (bi_8_3 MM_7) mfv_253) AL_n)) : ∀ q ∈ ([(302, 0, 254, 6, 199), (265, 0, 290, 6, 204), (403, 0, 253, 8, 55)] : List AK), CKok MT mr_205 q) AL_n AL_n AL_n AL_n
set_option maxRecDepth 20000 in
theorem gk_205 : GOK mr_205 := GK_r (bi_8_3 MM_6) cni_RX11 (plain_of cpl_RX11) cnh_RX11 pds_10
set_option maxRecDepth 20000 in
theorem ok_206 : FOK MT mr_206 := FK_r (FW_r (by decide +kernel) (by decide +kernel)) (AL_c (FL_3 rfl rfl (bi_5_11 MM_14)) (AL_c (FL_0 rfl rfl (bi_5_12 MM_2) rfl) (AL_c (FL_3 rfl rfl (bi_5_13 MM_13)) AL_n)) : ∀ q ∈ ([(9, 11, 1, 3, 5, 190), (104, 11, 5, 0, 5, 194), (67, 11, 32, 3, 5, 221)] : List AF), FLok mr_206 q) AL_n AL_n AL_n AL_n AL_n
set_option maxRecDepth 20000 in
theorem gk_206 : GOK mr_206 := GK_r (bi_8_11 MM_10) cni_RX11 (plain_of cpl_RX11) cnh_RX11 pds_7
set_option maxRecDepth 20000 in
theorem ok_207 : FOK MT mr_207 := FK_r (FW_r (by decide +kernel) (by decide +kernel)) AL_n (AL_c (CK_2 mt_268 (bi_7_9 MM_14) mfs_268) (AL_c (CK_0 mt_195 (bi_7_5 MM_14) mfv_195) (AL_c (CK_0 mt_228 (bi_7_10 MM_1) mfv_228) AL_n)) : ∀ q ∈ ([(347, 2, 268, 7, 158), (324, 0, 195, 7, 94), (350, 0, 228, 7, 161)] : List AK), CKok MT mr_207 q) AL_n AL_n AL_n AL_n
set_option maxRecDepth 20000 in
theorem gk_207 : GOK mr_207 := GK_r (bi_7_11 MM_0) cni_RX11 (plain_of cpl_RX11) cnh_RX11 pds_10
set_option maxRecDepth 20000 in
theorem ok_208 : FOK MT mr_208 := FK_r (FW_r (by decide +kernel) (by decide +kernel)) AL_n AL_n AL_n AL_n AL_n AL_n
set_option maxRecDepth 20000 in
theorem gk_208 : GOK mr_208 := GK_r (bi_8_12 MM_5) cni_RX11 (plain_of cpl_RX11) cnh_RX11 pds_40
set_option maxRecDepth 20000 in
theorem ok_209 : FOK MT mr_209 := FK_r (FW_r (by decide +kernel) (by decide +kernel)) AL_n (AL_c (CK_0 mt_318 (bi_6_7 MM_1) mfv_318) (AL_c (CK_0 mt_286 (bi_6_6 MM_13) mfv_286) AL_n) : ∀ q ∈ ([(163, 0, 318, 6, 113), (170, 0, 286, 6, 109)] : List AK), CKok MT mr_209 q) AL_n AL_n AL_n (AL_c (XS_0 33 rfl) (AL_c (XS_0 34 rfl) AL_n) : ∀ q ∈ ([(177, 0, 8, 0, 0), (179, 0, 12, 0, 0)] : List AKs), XOK mr_209 q)
set_option maxRecDepth 20000 in
theorem gk_209 : GOK mr_209 := GK_r (bi_6_10 MM_12) cni_RX11 (plain_of cpl_RX11) cnh_RX11 pds_4
set_option maxRecDepth 20000 in
theorem ok_210 : FOK MT mr_210 := FK_r (FW_r (by decide +kernel) (by decide +kernel)) AL_n (AL_c (CK_0 mt_254 (bi_6_12 MM_7) mfv_254) (AL_c (CK_0 mt_213 (bi_7_0 MM_15) mfv_213) AL_n) : ∀ q ∈ ([(302, 0, 254, 6, 199), (317, 0, 213, 7, 15)] : List AK), CKok MT mr_210 q) AL_n AL_n AL_n AL_n
set_option maxRecDepth 20000 in
theorem gk_210 : GOK mr_210 := GK_r (bi_7_4 MM_1) cni_RX11 (plain_of cpl_RX11) cnh_RX11 pds_7
set_option maxRecDepth 20000 in
theorem ok_211 : FOK MT mr_211 := FK_r (FW_r (by decide +kernel) (by decide +kernel)) AL_n (AL_c (CK_0 mt_272 (bi_7_1 MM_3) mfv_272) (AL_c (CK_0 mt_271 (bi_7_1 MM_11) mfv_271) (AL_c (CK_0 mt_274 (bi_7_2 MM_3) mfv_274) AL_n)) : ∀ q ∈ ([(290, 0, 272, 7, 19), (296, 0, 271, 7, 27), (299, 0, 274, 7, 35)] : List AK), CKok MT mr_211 q) AL_n AL_n AL_n AL_n
set_option maxRecDepth 20000 in
theorem gk_211 : GOK mr_211 := GK_r (bi_7_14 MM_11) cni_RX11 (plain_of cpl_RX11) cnh_RX11 pds_10
set_option maxRecDepth 20000 in
theorem ok_212 : FOK MT mr_212 := FK_r (FW_r (by decide +kernel) (by decide +kernel)) AL_n (AL_c (CK_0 mt_269 (bi_6_14 MM_12) mfv_269) AL_n : ∀ q ∈ ([(97, 0, 269, 6, 236)] : List AK), CKok MT mr_212 q) AL_n AL_n AL_n AL_n
set_option maxRecDepth 20000 in
theorem gk_212 : GOK mr_212 := GK_r (bi_6_14 MM_11) cni_RX11 (plain_of cpl_RX11) cnh_RX11 pds_10
set_option maxRecDepth 20000 in
theorem ok_213 : FOK MT mr_213 := FK_r (FW_r (by decide +kernel) (by decide +kernel)) AL_n (AL_c (CK_0 mt_272 (bi_7_1 MM_3) mfv_272) (AL_c (CK_0 mt_305 (bi_7_1 MM_7) mfv_305) (AL_c (CK_0 mt_271 (bi_7_1 MM_11) mfv_271) (AL_c (CK_0 mt_290 (bi_6_12 MM_12) mfv_290) (AL_c (CK_0 mt_274 (bi_7_2 MM_3) mfv_274) AL_n)))) : ∀ q ∈ ([(290, 0, 272, 7, 19), (293, 0, 305, 7, 23), (296, 0, 271, 7, 27), (265, 0, 290, 6, 204), (299, 0, 274, 7, 35)] : List AK), CKok MT mr_213 q) AL_n AL_n AL_n AL_n
set_option maxRecDepth 20000 in
theorem gk_213 : GOK mr_213 := GK_r (bi_7_1 MM_2) cni_RX11 (plain_of cpl_RX11) cnh_RX11 pds_7
set_option maxRecDepth 20000 in
theorem ok_214 : FOK MT mr_214 := FK_r (FW_r (by decide +kernel) (by decide +kernel)) AL_n (AL_c (CK_0 mt_213 (bi_7_0 MM_15) mfv_213) (AL_c (CK_0 mt_305 (bi_7_1 MM_7) mfv_305) (AL_c (CK_0 mt_188 (bi_7_1 MM_15) mfv_188) (AL_c (CK_0 mt_290 (bi_6_12 MM_12) mfv_290) (AL_c (CK_0 mt_274 (bi_7_2 MM_3) mfv_274) AL_n)))) : ∀ q ∈ ([(317, 0, 213, 7, 15), (293, 0, 305, 7, 23), (268, 0, 188, 7, 31), (265, 0, 290, 6, 204), (299, 0, 274, 7, 35)] : List AK), CKok MT mr_214 q) AL_n AL_n AL_n AL_n
set_option maxRecDepth 20000 in
theorem gk_214 : GOK mr_214 := GK_r (bi_7_8 MM_13) cni_RX11 (plain_of cpl_RX11) cnh_RX11 pds_17
set_option maxRecDepth 20000 in
theorem ok_215 : FOK MT mr_215 := FK_r (FW_r (by decide +kernel) (by decide +kernel)) (AL_c (FL_0 rfl rfl (bi_5_13 MM_2) rfl) (AL_c (FL_3 rfl rfl (bi_5_11 MM_14)) AL_n) : ∀ q ∈ ([(262, 11, 21, 0, 5, 210), (9, 11, 1, 3, 5, 190)] : List AF), FLok mr_215 q) (AL_c (CK_0 mt_272 (bi_7_1 MM_3) mfv_272) (AL_c (CK_0 mt_290 (bi_6_12 MM_12) mfv_290) (AL_c (CK_2 mt_281 (bi_6_10 MM_15) mfs_281) (AL_c (CK_0 mt_188 (bi_7_1 MM_15) mfv_188) (AL_c (CK_0 mt_274 (bi_7_2 MM_3) mfv_274) AL_n)))) : ∀ q ∈ ([(290, 0, 272, 7, 19), (265, 0, 290, 6, 204), (203, 2, 281, 6, 175), (268, 0, 188, 7, 31), (299, 0, 274, 7, 35)] : List AK), CKok MT mr_215 q) AL_n AL_n AL_n AL_n
set_option maxRecDepth 20000 in
theorem gk_215 : GOK mr_215 := GK_r (bi_7_9 MM_9) cni_RX11 (plain_of cpl_RX11) cnh_RX11 pds_10
set_option maxRecDepth 20000 in
theorem ok_216 : FOK MT mr_216 := FK_r (FW_r (by decide +kernel) (by decide +kernel)) AL_n (AL_c (CK_0 mt_263 (bi_7_5 MM_6) mfv_263) (AL_c (CK_0 mt_212 (bi_6_14 MM_8) mfv_212) AL_n) : ∀ q ∈ ([(320, 0, 263, 7, 86), (259, 0, 212, 6, 232)] : List AK), CKok MT mr_216 q) AL_n AL_n AL_n AL_n
set_option maxRecDepth 20000 in
theorem gk_216 : GOK mr_216 := GK_r (bi_7_5 MM_5) cni_RX11 (plain_of cpl_RX11) cnh_RX11 pds_10
set_option maxRecDepth 20000 in
theorem ok_217 : FOK MT mr_217 := FK_r (FW_r (by decide +kernel) (by decide +kernel)) (AL_c (FL_3 rfl rfl (bi_5_12 MM_11)) AL_n : ∀ q ∈ ([(31, 11, 14, 3, 5, 203)] : List AF), FLok mr_217 q) AL_n AL_n AL_n AL_n AL_n
set_option maxRecDepth 20000 in
theorem gk_217 : GOK mr_217 := GK_r (bi_6_11 MM_9) cni_RX11 (plain_of cpl_RX11) cnh_RX11 pds_21
set_option maxRecDepth 20000 in
theorem ok_218 : FOK MT mr_218 := FK_r (FW_r (by decide +kernel) (by decide +kernel)) (AL_c (FL_3 rfl rfl (bi_5_13 MM_13)) AL_n : ∀ q ∈ ([(67, 11, 32, 3, 5, 221)] : List AF), FLok mr_218 q) (AL_c (CK_0 mt_289 (bi_8_2 MM_7) mfv_289) (AL_c (CK_2 mt_202 (bi_7_2 MM_15) mfs_202) AL_n) : ∀ q ∈ ([(392, 0, 289, 8, 39), (272, 2, 202, 7, 47)] : List AK), CKok MT mr_218 q) AL_n AL_n AL_n AL_n
set_option maxRecDepth 20000 in
theorem gk_218 : GOK mr_218 := GK_r (bi_8_2 MM_14) cni_RX11 (plain_of cpl_RX11) cnh_RX11 pds_22
set_option maxRecDepth 20000 in
theorem ok_219 : FOK MT mr_219 := FK_r (FW_r (by decide +kernel) (by decide +kernel)) AL_n (AL_c (CK_0 mt_254 (bi_6_12 MM_7) mfv_254) (AL_c (CK_2 mt_249 (bi_6_3 MM_15) mfs_249) (AL_c (CK_0 mt_290 (bi_6_12 MM_12) mfv_290) AL_n)) : ∀ q ∈ ([(302, 0, 254, 6, 199), (89, 2, 249, 6, 63), (265, 0, 290, 6, 204)] : List AK), CKok MT mr_219 q) AL_n (AL_c (W_r (bi_6_12 MM_11) rfl) AL_n : ∀ q ∈ ([(305, 3, 6, 203)] : List AKl), Cond.constantLong (my mr_219).cls q.1 q.2.1 ∈ TBL) AL_n AL_n
set_option maxRecDepth 20000 in
theorem gk_219 : GOK mr_219 := GK_r (bi_6_12 MM_6) cni_RX11 (plain_of cpl_RX11) cnh_RX11 pds_10
set_option maxRecDepth 20000 in
theorem ok_220 : FOK MT mr_220 := FK_r (FW_r (by decide +kernel) (by decide +kernel)) AL_n (AL_c (CK_0 mt_195 (bi_7_5 MM_14) mfv_195) (AL_c (CK_0 mt_228 (bi_7_10 MM_1) mfv_228) (AL_c (CK_2 mt_203 (bi_7_0 MM_0) mfs_203) AL_n)) : ∀ q ∈ ([(324, 0, 195, 7, 94), (350, 0, 228, 7, 161), (256, 2, 203, 7, 0)] : List AK), CKok MT mr_220 q) (AL_c (W_r (bi_7_11 MM_10) rfl) AL_n : ∀ q ∈ ([(355, 1000000, 7, 186)] : List AKi), Cond.constant (my mr_220).cls q.1 q.2.1 ∈ TBL) AL_n AL_n AL_n
set_option maxRecDepth 20000 in
theorem gk_220 : GOK mr_220 := GK_r (bi_7_11 MM_9) cni_RX11 (plain_of cpl_RX11) cnh_RX11 pds_7
set_option maxRecDepth 20000 in
theorem ok_221 : FOK MT mr_221 := FK_r (FW_r (by decide +kernel) (by decide +kernel)) (AL_c (FL_0 rfl rfl (bi_5_12 MM_2) rfl) AL_n : ∀ q ∈ ([(104, 11, 5, 0, 5, 194)] : List AF), FLok mr_221 q) (AL_c (CK_2 mt_249 (bi_6_3 MM_15) mfs_249) AL_n : ∀ q ∈ ([(89, 2, 249, 6, 63)] : List AK), CKok MT mr_221 q) AL_n AL_n AL_n AL_n
set_option maxRecDepth 20000 in
theorem gk_221 : GOK mr_221 := GK_r (bi_6_4 MM_13) cni_RX11 (plain_of cpl_RX11) cnh_RX11 pds_7
set_option maxRecDepth 20000 in
theorem ok_222 : FOK MT mr_222 := FK_r (FW_r (by decide +kernel) (by decide +kernel)) (AL_c (FL_0 rfl rfl (bi_5_13 MM_3) rfl) AL_n : ∀ q ∈ ([(380, 11, 22, 0, 5, 211)] : List AF), FLok mr_222 q) (AL_c (CK_2 mt_268 (bi_7_9 MM_14) mfs_268) (AL_c (CK_0 mt_195 (bi_7_5 MM_14) mfv_195) (AL_c (CK_0 mt_321 (bi_8_1 MM_0) mfv_321) AL_n)) : ∀ q ∈ ([(347, 2, 268, 7, 158), (324, 0, 195, 7, 94), (386, 0, 321, 8, 16)] : List AK), CKok MT mr_222 q) AL_n AL_n AL_n AL_n
set_option maxRecDepth 20000 in
theorem gk_222 : GOK mr_222 := GK_r (bi_8_0 MM_15) cni_RX11 (plain_of cpl_RX11) cnh_RX11 pds_10
set_option maxRecDepth 20000 in
theorem ok_223 : FOK MT mr_223 := FK_r (FW_r (by decide +kernel) (by decide +kernel)) (AL_c (FL_0 rfl rfl (bi_5_12 MM_9) rfl) (AL_c (FL_0 rfl rfl (bi_5_12 MM_6) rfl) (AL_c (FL_0 rfl rfl (bi_5_12 MM_10) rfl) AL_n)) : ∀ q ∈ ([(141, 11, 12, 0, 5, 201), (117, 11, 9, 0, 5, 198), (27, 11, 13, 0, 5, 202)] : List AF), FLok mr_223 q) (AL_c (CK_0 mt_237 (bi_6_6 MM_4) mfv_237) AL_n : ∀ q ∈ ([(144, 0, 237, 6, 100)] : List AK), CKok MT mr_223 q) AL_n AL_n AL_n AL_n
set_option maxRecDepth 20000 in
theorem gk_223 : GOK mr_223 := GK_r (bi_6_7 MM_14) cni_RX11 (plain_of cpl_RX11) cnh_RX11 pds_14
set_option maxRecDepth 20000 in
theorem ok_224 : FOK MT mr_224 := FK_r (FW_r (by decide +kernel) (by decide +kernel)) (AL_c (FL_3 rfl rfl (bi_5_11 MM_14)) AL_n : ∀ q ∈ ([(9, 11, 1, 3, 5, 190)] : List AF), FLok mr_224 q) (AL_c (CK_0 mt_255 (bi_6_13 MM_8) mfv_255) (AL_c (CK_2 mt_249 (bi_6_3 MM_15) mfs_249) AL_n) : ∀ q ∈ ([(307, 0, 255, 6, 216), (89, 2, 249, 6, 63)] : List AK), CKok MT mr_224 q) AL_n AL_n AL_n AL_n
set_option maxRecDepth 20000 in
theorem gk_224 : GOK mr_224 := GK_r (bi_6_13 MM_7) cni_RX11 (plain_of cpl_RX11) cnh_RX11 pds_10
set_option maxRecDepth 20000 in
theorem ok_225 : FOK MT mr_225 := FK_r (FW_r (by decide +kernel) (by decide +kernel)) (AL_c (FL_0 rfl rfl (bi_5_12 MM_9) rfl) (AL_c (FL_0 rfl rfl (bi_5_12 MM_10) rfl) AL_n) : ∀ q ∈ ([(141, 11, 12, 0, 5, 201), (27, 11, 13, 0, 5, 202)] : List AF), FLok mr_225 q) AL_n AL_n AL_n AL_n AL_n
set_option maxRecDepth 20000 in
theorem gk_225 : GOK mr_225 := GK_r (bi_6_5 MM_1) cni_RX11 (plain_of cpl_RX11) cnh_RX11 pds_7
set_option maxRecDepth 20000 in
theorem ok_226 : FOK MT mr_226 := FK_r (FW_r (by decide +kernel) (by decide +kernel)) (AL_c (FL_0 rfl rfl (bi_5_12 MM_2) rfl) (AL_c (FL_3 rfl rfl (bi_5_12 MM_3)) (AL_c (FL_3 rfl rfl (bi_5_12 MM_1)) AL_n)) : ∀ q ∈ ([(104, 11, 5, 0, 5, 194), (24, 11, 6, 3, 5, 195), (20, 11, 4, 3, 5, 193)] : List AF), FLok mr_226 q) AL_n AL_n AL_n AL_n AL_n
set_option maxRecDepth 20000 in
theorem gk_226 : GOK mr_226 := GK_r (bi_6_4 MM_9) cni_RX11 (plain_of cpl_RX11) cnh_RX11 pds_35
set_option maxRecDepth 20000 in
theorem ok_227 : FOK MT mr_227 := FK_r (FW_r (by decide +kernel) (by decide +kernel)) AL_n (AL_c (CK_2 mt_268 (bi_7_9 MM_14) mfs_268) (AL_c (CK_0 mt_195 (bi_7_5 MM_14) mfv_195) (AL_c (CK_0 mt_228 (bi_7_10 MM_1) mfv_228) (AL_c (CK_2 mt_203 (bi_7_0 MM_0) mfs_203) AL_n))) : ∀ q ∈ ([(347, 2, 268, 7, 158), (324, 0, 195, 7, 94), (350, 0, 228, 7, 161), (256, 2, 203, 7, 0)] : List AK), CKok MT mr_227 q) AL_n AL_n AL_n AL_n
set_option maxRecDepth 20000 in
theorem gk_227 : GOK mr_227 := GK_r (bi_7_9 MM_13) cni_RX11 (plain_of cpl_RX11) cnh_RX11 pds_10
set_option maxRecDepth 20000 in
theorem ok_228 : FOK MT mr_228 := FK_r (FW_r (by decide +kernel) (by decide +kernel)) AL_n (AL_c (CK_0 mt_272 (bi_7_1 MM_3) mfv_272) (AL_c (CK_0 mt_192 (bi_7_6 MM_2) mfv_192) (AL_c (CK_2 mt_203 (bi_7_0 MM_0) mfs_203) (AL_c (CK_0 mt_275 (bi_7_10 MM_5) mfv_275) AL_n))) : ∀ q ∈ ([(290, 0, 272, 7, 19), (101, 0, 192, 7, 98), (256, 2, 203, 7, 0), (343, 0, 275, 7, 165)] : List AK), CKok MT mr_228 q) AL_n AL_n AL_n AL_n
set_option maxRecDepth 20000 in
theorem gk_228 : GOK mr_228 := GK_r (bi_7_10 MM_4) cni_RX11 (plain_of cpl_RX11) cnh_RX11 pds_10
set_option maxRecDepth 20000 in
theorem ok_229 : FOK MT mr_229 := FK_r (FW_r (by decide +kernel) (by decide +kernel)) (AL_c (FL_0 rfl rfl (bi_5_12 MM_15) rfl) (AL_c (FL_3 rfl rfl (bi_5_12 MM_14)) AL_n) : ∀ q ∈ ([(253, 11, 18, 0, 5, 207), (40, 11, 17, 3, 5, 206)] : List AF), FLok mr_229 q) (AL_c (CK_0 mt_252 (bi_7_2 MM_11) mfv_252) AL_n : ∀ q ∈ ([(275, 0, 252, 7, 43)] : List AK), CKok MT mr_229 q) AL_n AL_n AL_n AL_n
set_option maxRecDepth 20000 in
theorem gk_229 : GOK mr_229 := GK_r (bi_7_2 MM_10) cni_RX11 (plain_of cpl_RX11) cnh_RX11 pds_4
set_option maxRecDepth 20000 in
theorem ok_230 : FOK MT mr_230 := FK_r (FW_r (by decide +kernel) (by decide +kernel)) AL_n (AL_c (CK_0 mt_198 (bi_8_2 MM_0) mfv_198) (AL_c (CK_0 mt_231 (bi_8_5 MM_3) mfv_231) AL_n) : ∀ q ∈ ([(396, 0, 198, 8, 32), (415, 0, 231, 8, 83)] : List AK), CKok MT mr_230 q) AL_n AL_n AL_n AL_n
set_option maxRecDepth 20000 in
theorem gk_230 : GOK mr_230 := GK_r (bi_8_5 MM_2) cni_RX11 (plain_of cpl_RX11) cnh_RX11 pds_7
set_option maxRecDepth 20000 in
theorem ok_231 : FOK MT mr_231 := FK_r (FW_r (by decide +kernel) (by decide +kernel)) (AL_c (FL_0 rfl rfl (bi_5_12 MM_15) rfl) (AL_c (FL_3 rfl rfl (bi_5_12 MM_14)) AL_n) : ∀ q ∈ ([(253, 11, 18, 0, 5, 207), (40, 11, 17, 3, 5, 206)] : List AF), FLok mr_231 q) (AL_c (CK_0 mt_272 (bi_7_1 MM_3) mfv_272) (AL_c (CK_0 mt_218 (bi_8_2 MM_11) mfv_218) AL_n) : ∀ q ∈ ([(290, 0, 272, 7, 19), (400, 0, 218, 8, 43)] : List AK), CKok MT mr_231 q) AL_n AL_n AL_n AL_n
set_option maxRecDepth 20000 in
theorem gk_231 : GOK mr_231 := GK_r (bi_8_5 MM_6) cni_RX11 (plain_of cpl_RX11) cnh_RX11 pds_7
set_option maxRecDepth 20000 in
theorem ok_232 : FOK MT mr_232 := FK_r (FW_r (by decide +kernel) (by decide +kernel)) AL_n (AL_c (CK_0 mt_254 (bi_6_12 MM_7) mfv_254) (AL_c (CK_2 mt_249 (bi_6_3 MM_15) mfs_249) (AL_c (CK_0 mt_213 (bi_7_0 MM_15) mfv_213) (AL_c (CK_0 mt_295 (bi_7_11 MM_15) mfv_295) AL_n))) : ∀ q ∈ ([(302, 0, 254, 6, 199), (89, 2, 249, 6, 63), (317, 0, 213, 7, 15), (356, 0, 295, 7, 191)] : List AK), CKok MT mr_232 q) AL_n AL_n AL_n AL_n
set_option maxRecDepth 20000 in
theorem gk_232 : GOK mr_232 := GK_r (bi_7_11 MM_14) cni_RX11 (plain_of cpl_RX11) cnh_RX11 pds_10
set_option maxRecDepth 20000 in
theorem ok_233 : FOK MT mr_233 := FK_r (FW_r (by decide +kernel) (by decide +kernel)) AL_n (AL_c (CK_0 mt_295 (bi_7_11 MM_15) mfv_295) (AL_c (CK_2 mt_203 (bi_7_0 MM_0) mfs_203) AL_n) : ∀ q ∈ ([(356, 0, 295, 7, 191), (256, 2, 203, 7, 0)] : List AK), CKok MT mr_233 q) AL_n AL_n AL_n AL_n
set_option maxRecDepth 20000 in
theorem gk_233 : GOK mr_233 := GK_r (bi_7_13 MM_6) cni_RX11 (plain_of cpl_RX11) cnh_RX11 pds_7
set_option maxRecDepth 20000 in
theorem ok_234 : FOK MT mr_234 := FK_r (FW_r (by decide +kernel) (by decide +kernel)) (AL_c (FL_3 rfl rfl (bi_5_12 MM_11)) AL_n : ∀ q ∈ ([(31, 11, 14, 3, 5, 203)] : List AF), FLok mr_234 q) (AL_c (CK_0 mt_288 (bi_6_8 MM_4) mfv_288) AL_n : ∀ q ∈ ([(174, 0, 288, 6, 132)] : List AK), CKok MT mr_234 q) AL_n AL_n AL_n AL_n
set_option maxRecDepth 20000 in
theorem gk_234 : GOK mr_234 := GK_r (bi_6_10 MM_8) cni_RX11 (plain_of cpl_RX11) cnh_RX11 pds_4
set_option maxRecDepth 20000 in
theorem ok_235 : FOK MT mr_235 := FK_r (FW_r (by decide +kernel) (by decide +kernel)) AL_n (AL_c (CK_0 mt_254 (bi_6_12 MM_7) mfv_254) (AL_c (CK_0 mt_259 (bi_7_0 MM_11) mfv_259) (AL_c (CK_2 mt_249 (bi_6_3 MM_15) mfs_249) (AL_c (CK_0 mt_214 (bi_7_8 MM_10) mfv_214) (AL_c (CK_0 mt_283 (bi_7_6 MM_10) mfv_283) (AL_c (CK_0 mt_213 (bi_7_0 MM_15) mfv_213) AL_n))))) : ∀ q ∈ ([(302, 0, 254, 6, 199), (313, 0, 259, 7, 11), (89, 2, 249, 6, 63), (333, 0, 214, 7, 138), (330, 0, 283, 7, 106), (317, 0, 213, 7, 15)] : List AK), CKok MT mr_235 q) AL_n AL_n AL_n AL_n
set_option maxRecDepth 20000 in
theorem gk_235 : GOK mr_235 := GK_r (bi_7_8 MM_9) cni_RX11 (plain_of cpl_RX11) cnh_RX11 pds_17
set_option maxRecDepth 20000 in
theorem ok_236 : FOK MT mr_236 := FK_r (FW_r (by decide +kernel) (by decide +kernel)) AL_n (AL_c (CK_0 mt_254 (bi_6_12 MM_7) mfv_254) (AL_c (CK_2 mt_268 (bi_7_9 MM_14) mfs_268) (AL_c (CK_0 mt_267 (bi_7_14 MM_4) mfv_267) (AL_c (CK_0 mt_211 (bi_7_14 MM_8) mfv_211) (AL_c (CK_2 mt_202 (bi_7_2 MM_15) mfs_202) AL_n)))) : ∀ q ∈ ([(302, 0, 254, 6, 199), (347, 2, 268, 7, 158), (371, 0, 267, 7, 228), (374, 0, 211, 7, 232), (272, 2, 202, 7, 47)] : List AK), CKok MT mr_236 q) AL_n AL_n AL_n AL_n
set_option maxRecDepth 20000 in
theorem gk_236 : GOK mr_236 := GK_r (bi_7_14 MM_3) cni_RX11 (plain_of cpl_RX11) cnh_RX11 pds_17
set_option maxRecDepth 20000 in
theorem ok_237 : FOK MT mr_237 := FK_r (FW_r (by decide +kernel) (by decide +kernel)) (AL_c (FL_0 rfl rfl (bi_5_12 MM_9) rfl) AL_n : ∀ q ∈ ([(141, 11, 12, 0, 5, 201)] : List AF), FLok mr_237 q) AL_n AL_n AL_n AL_n AL_n
set_option maxRecDepth 20000 in
theorem gk_237 : GOK mr_237 := GK_r (bi_6_6 MM_7) cni_RX11 (plain_of cpl_RX11) cnh_RX11 pds_3
set_option maxRecDepth 20000 in
theorem ok_238 : FOK MT mr_238 := FK_r (FW_r (by decide +kernel) (by decide +kernel)) (AL_c (FL_0 rfl rfl (bi_5_13 MM_7) rfl) (AL_c (FL_3 rfl rfl (bi_5_11 MM_14)) (AL_c (FL_3 rfl rfl (bi_5_13 MM_5)) (AL_c (FL_3 rfl rfl (bi_5_13 MM_6)) AL_n))) : ∀ q ∈ ([(406, 11, 26, 0, 5, 215), (9, 11, 1, 3, 5, 190), (49, 11, 24, 3, 5, 213), (52, 11, 25, 3, 5, 214)] : List AF), FLok mr_238 q) (AL_c (CK_2 mt_203 (bi_7_0 MM_0) mfs_203) (AL_c (CK_0 mt_194 (bi_8_4 MM_3) mfv_194) AL_n) : ∀ q ∈ ([(256, 2, 203, 7, 0), (409, 0, 194, 8, 67)] : List AK), CKok MT mr_238 q) AL_n AL_n AL_n AL_n
set_option maxRecDepth 20000 in
theorem gk_238 : GOK mr_238 := GK_r (bi_8_4 MM_2) cni_RX11 (plain_of cpl_RX11) cnh_RX11 pds_11
set_option maxRecDepth 20000 in
theorem ok_239 : FOK MT mr_239 := FK_r (FW_r (by decide +kernel) (by decide +kernel)) (AL_c (FL_0 rfl rfl (bi_5_13 MM_7) rfl) AL_n : ∀ q ∈ ([(406, 11, 26, 0, 5, 215)] : List AF), FLok mr_239 q) (AL_c (CK_0 mt_264 (bi_6_14 MM_0) mfv_264) (AL_c (CK_0 mt_238 (bi_8_3 MM_15) mfv_238) AL_n) : ∀ q ∈ ([(93, 0, 264, 6, 224), (412, 0, 238, 8, 63)] : List AK), CKok MT mr_239 q) AL_n AL_n AL_n AL_n
set_option maxRecDepth 20000 in
theorem gk_239 : GOK mr_239 := GK_r (bi_8_3 MM_14) cni_RX11 (plain_of cpl_RX11) cnh_RX11 pds_4
set_option maxRecDepth 20000 in
theorem ok_240 : FOK MT mr_240 := FK_r (FW_r (by decide +kernel) (by decide +kernel)) (AL_c (FL_3 rfl rfl (bi_5_11 MM_14)) AL_n : ∀ q ∈ ([(9, 11, 1, 3, 5, 190)] : List AF), FLok mr_240 q) (AL_c (CK_0 mt_264 (bi_6_14 MM_0) mfv_264) (AL_c (CK_0 mt_213 (bi_7_0 MM_15) mfv_213) (AL_c (CK_0 mt_262 (bi_7_6 MM_14) mfv_262) AL_n)) : ∀ q ∈ ([(93, 0, 264, 6, 224), (317, 0, 213, 7, 15), (327, 0, 262, 7, 110)] : List AK), CKok MT mr_240 q) AL_n AL_n AL_n AL_n
set_option maxRecDepth 20000 in
theorem gk_240 : GOK mr_240 := GK_r (bi_7_7 MM_13) cni_RX11 (plain_of cpl_RX11) cnh_RX11 pds_4
set_option maxRecDepth 20000 in
theorem ok_241 : FOK MT mr_241 := FK_r (FW_r (by decide +kernel) (by decide +kernel)) AL_n (AL_c (CK_0 mt_254 (bi_6_12 MM_7) mfv_254) (AL_c (CK_0 mt_213 (bi_7_0 MM_15) mfv_213) (AL_c (CK_0 mt_233 (bi_7_13 MM_3) mfv_233) (AL_c (CK_0 mt_269 (bi_6_14 MM_12) mfv_269) (AL_c (CK_0 mt_242 (bi_7_13 MM_7) mfv_242) AL_n)))) : ∀ q ∈ ([(302, 0, 254, 6, 199), (317, 0, 213, 7, 15), (362, 0, 233, 7, 211), (97, 0, 269, 6, 236), (365, 0, 242, 7, 215)] : List AK), CKok MT mr_241 q) AL_n AL_n AL_n AL_n
set_option maxRecDepth 20000 in
theorem gk_241 : GOK mr_241 := GK_r (bi_7_13 MM_2) cni_RX11 (plain_of cpl_RX11) cnh_RX11 pds_7
set_option maxRecDepth 20000 in
theorem ok_242 : FOK MT mr_242 := FK_r (FW_r (by decide +kernel) (by decide +kernel)) AL_n (AL_c (CK_0 mt_295 (bi_7_11 MM_15) mfv_295) (AL_c (CK_2 mt_202 (bi_7_2 MM_15) mfs_202) (AL_c (CK_0 mt_214 (bi_7_8 MM_10) mfv_214) (AL_c (CK_0 mt_233 (bi_7_13 MM_3) mfv_233) AL_n))) : ∀ q ∈ ([(356, 0, 295, 7, 191), (272, 2, 202, 7, 47), (333, 0, 214, 7, 138), (362, 0, 233, 7, 211)] : List AK), CKok MT mr_242 q) AL_n AL_n AL_n AL_n
set_option maxRecDepth 20000 in
theorem gk_242 : GOK mr_242 := GK_r (bi_7_13 MM_10) cni_RX11 (plain_of cpl_RX11) cnh_RX11 pds_10
set_option maxRecDepth 20000 in
theorem ok_243 : FOK MT mr_243 := FK_r (FW_r (by decide +kernel) (by decide +kernel)) AL_n (AL_c (CK_0 mt_254 (bi_6_12 MM_7) mfv_254) (AL_c (CK_0 mt_213 (bi_7_0 MM_15) mfv_213) (AL_c (CK_0 mt_283 (bi_7_6 MM_10) mfv_283) (AL_c (CK_0 mt_269 (bi_6_14 MM_12) mfv_269) (AL_c (CK_0 mt_214 (bi_7_8 MM_10) mfv_214) AL_n)))) : ∀ q ∈ ([(302, 0, 254, 6, 199), (317, 0, 213, 7, 15), (330, 0, 283, 7, 106), (97, 0, 269, 6, 236), (333, 0, 214, 7, 138)] : List AK), CKok MT mr_243 q) AL_n AL_n AL_n AL_n
set_option maxRecDepth 20000 in
theorem gk_243 : GOK mr_243 := GK_r (bi_7_9 MM_1) cni_RX11 (plain_of cpl_RX11) cnh_RX11 pds_7
set_option maxRecDepth 20000 in
theorem ok_244 : FOK MT mr_244 := FK_r (FW_r (by decide +kernel) (by decide +kernel)) (AL_c (FL_3 rfl rfl (bi_5_11 MM_14)) AL_n : ∀ q ∈ ([(9, 11, 1, 3, 5, 190)] : List AF), FLok mr_244 q) (AL_c (CK_0 mt_264 (bi_6_14 MM_0) mfv_264) (AL_c (CK_0 mt_277 (bi_8_7 MM_0) mfv_277) AL_n) : ∀ q ∈ ([(93, 0, 264, 6, 224), (445, 0, 277, 8, 112)] : List AK), CKok MT mr_244 q) AL_n AL_n AL_n AL_n
set_option maxRecDepth 20000 in
theorem gk_244 : GOK mr_244 := GK_r (bi_8_6 MM_15) cni_RX11 (plain_of cpl_RX11) cnh_RX11 pds_4
set_option maxRecDepth 20000 in
theorem ok_245 : FOK MT mr_245 := FK_r (FW_r (by decide +kernel) (by decide +kernel)) (AL_c (FL_3 rfl rfl (bi_5_11 MM_14)) AL_n : ∀ q ∈ ([(9, 11, 1, 3, 5, 190)] : List AF), FLok mr_245 q) (AL_c (CK_0 mt_264 (bi_6_14 MM_0) mfv_264) (AL_c (CK_0 mt_258 (bi_6_14 MM_4) mfv_258) (AL_c (CK_2 mt_249 (bi_6_3 MM_15) mfs_249) (AL_c (CK_0 mt_212 (bi_6_14 MM_8) mfv_212) (AL_c (CK_2 mt_203 (bi_7_0 MM_0) mfs_203) AL_n)))) : ∀ q ∈ ([(93, 0, 264, 6, 224), (310, 0, 258, 6, 228), (89, 2, 249, 6, 63), (259, 0, 212, 6, 232), (256, 2, 203, 7, 0)] : List AK), CKok MT mr_245 q) AL_n (AL_c (W_r (bi_6_3 MM_14) rfl) AL_n : ∀ q ∈ ([(87, 2, 6, 62)] : List AKl), Cond.constantLong (my mr_245).cls q.1 q.2.1 ∈ TBL) AL_n AL_n
set_option maxRecDepth 20000 in
theorem gk_245 : GOK mr_245 := GK_r (bi_6_13 MM_15) cni_RX11 (plain_of cpl_RX11) cnh_RX11 pds_10
set_option maxRecDepth 20000 in
theorem ok_246 : FOK MT mr_246 := FK_r (FW_r (by decide +kernel) (by decide +kernel)) (AL_c (FL_0 rfl rfl (bi_5_13 MM_7) rfl) (AL_c (FL_3 rfl rfl (bi_5_13 MM_6)) AL_n) : ∀ q ∈ ([(406, 11, 26, 0, 5, 215), (52, 11, 25, 3, 5, 214)] : List AF), FLok mr_246 q) (AL_c (CK_0 mt_258 (bi_6_14 MM_4) mfv_258) (AL_c (CK_0 mt_238 (bi_8_3 MM_15) mfv_238) AL_n) : ∀ q ∈ ([(310, 0, 258, 6, 228), (412, 0, 238, 8, 63)] : List AK), CKok MT mr_246 q) AL_n AL_n AL_n AL_n
set_option maxRecDepth 20000 in
theorem gk_246 : GOK mr_246 := GK_r (bi_8_4 MM_10) cni_RX11 (plain_of cpl_RX11) cnh_RX11 pds_7
set_option maxRecDepth 20000 in
theorem ok_247 : FOK MT mr_247 := FK_r (FW_r (by decide +kernel) (by decide +kernel)) AL_n (AL_c (CK_0 mt_254 (bi_6_12 MM_7) mfv_254) (AL_c (CK_0 mt_213 (bi_7_0 MM_15) mfv_213) (AL_c (CK_0 mt_290 (bi_6_12 MM_12) mfv_290) (AL_c (CK_0 mt_305 (bi_7_1 MM_7) mfv_305) (AL_c (CK_0 mt_215 (bi_7_9 MM_6) mfv_215) AL_n)))) : ∀ q ∈ ([(302, 0, 254, 6, 199), (317, 0, 213, 7, 15), (265, 0, 290, 6, 204), (293, 0, 305, 7, 23), (337, 0, 215, 7, 150)] : List AK), CKok MT mr_247 q) AL_n AL_n AL_n AL_n
set_option maxRecDepth 20000 in
theorem gk_247 : GOK mr_247 := GK_r (bi_7_9 MM_5) cni_RX11 (plain_of cpl_RX11) cnh_RX11 pds_7
set_option maxRecDepth 20000 in
theorem ok_248 : FOK MT mr_248 := FK_r (FW_r (by decide +kernel) (by decide +kernel)) (AL_c (FL_3 rfl rfl (bi_5_11 MM_15)) (AL_c (FL_3 rfl rfl (bi_5_11 MM_14)) (AL_c (FL_3 rfl rfl (bi_5_12 MM_0)) AL_n)) : ∀ q ∈ ([(13, 11, 2, 3, 5, 191), (9, 11, 1, 3, 5, 190), (16, 11, 3, 3, 5, 192)] : List AF), FLok mr_248 q) (AL_c (CK_2 mt_249 (bi_6_3 MM_15) mfs_249) AL_n : ∀ q ∈ ([(89, 2, 249, 6, 63)] : List AK), CKok MT mr_248 q) AL_n (AL_c (W_r (bi_6_3 MM_14) rfl) AL_n : ∀ q ∈ ([(87, 2, 6, 62)] : List AKl), Cond.constantLong (my mr_248).cls q.1 q.2.1 ∈ TBL) AL_n AL_n
set_option maxRecDepth 20000 in
theorem gk_248 : GOK mr_248 := GK_r (bi_6_3 MM_13) cni_RX11 (plain_of cpl_RX11) cnh_RX11 pds_7
set_option maxRecDepth 20000 in
theorem ok_249 : FOK MT mr_249 := FK_r (FW_r (by decide +kernel) (by decide +kernel)) AL_n AL_n AL_n AL_n AL_n AL_n
set_option maxRecDepth 20000 in
theorem gk_249 : GOK mr_249 := GK_r (bi_6_4 MM_1) cni_RX11 (plain_of cpl_RX11) cnh_RX11 pds_41
set_option maxRecDepth 20000 in
theorem ok_250 : FOK MT mr_250 := FK_r (FW_r (by decide +kernel) (by decide +kernel)) (AL_c (FL_2 rfl rfl (bi_5_11 MM_14) rfl rfl rfl) (AL_c (FL_2 rfl rfl (bi_5_11 MM_15) rfl rfl rfl) (AL_c (FL_2 rfl rfl (bi_5_12 MM_0) rfl rfl rfl) (AL_c (FL_2 rfl rfl (bi_5_12 MM_1) rfl rfl rfl) (AL_c (FL_2 rfl rfl (bi_5_12 MM_3) rfl rfl rfl) (AL_c (FL_0 rfl rfl (bi_5_12 MM_10) rfl) (AL_c (FL_2 rfl rfl (bi_5_12 MM_11) rfl rfl rfl) (AL_c (FL_2 rfl rfl (bi_5_12 MM_12) rfl rfl rfl) (AL_c (FL_2 rfl rfl (bi_5_12 MM_13) rfl rfl rfl) (AL_c (FL_2 rfl rfl (bi_5_12 MM_14) rfl rfl rfl) (AL_c (FL_2 rfl rfl (bi_5_13 MM_0) rfl rfl rfl) (AL_c (FL_2 rfl rfl (bi_5_13 MM_1) rfl rfl rfl) (AL_c (FL_2 rfl rfl (bi_5_13 MM_5) rfl rfl rfl) (AL_c (FL_2 rfl rfl (bi_5_13 MM_6) rfl rfl rfl) (AL_c (FL_2 rfl rfl (bi_5_13 MM_8) rfl rfl rfl) (AL_c (FL_2 rfl rfl (bi_5_13 MM_9) rfl rfl rfl) (AL_c (FL_2 rfl rfl (bi_5_13 MM_10) rfl rfl rfl) (AL_c (FL_2 rfl rfl (bi_5_13 MM_11) rfl rfl rfl) (AL_c (FL_2 rfl rfl (bi_5_13 MM_13) rfl rfl rfl) (AL_c (FL_2 rfl rfl (bi_5_13 MM_14) rfl rfl rfl) (AL_c (FL_2 rfl rfl (bi_5_13 MM_15) rfl rfl rfl) (AL_c (FL_2 rfl rfl (bi_5_14 MM_0) rfl rfl rfl) AL_n))))))))))))))))))))) : ∀ q ∈ ([(9, 11, 1, 2, 5, 190), (13, 11, 2, 2, 5, 191), (16, 11, 3, 2, 5, 192), (20, 11, 4, 2, 5, 193), (24, 11, 6, 2, 5, 195), (27, 11, 13, 0, 5, 202), (31, 11, 14, 2, 5, 203), (34, 11, 15, 2, 5, 204), (37, 11, 16, 2, 5, 205), (40, 11, 17, 2, 5, 206), (43, 11, 19, 2, 5, 208), (46, 11, 20, 2, 5, 209), (49, 11, 24, 2, 5, 213), (52, 11, 25, 2, 5, 214), (55, 11, 27, 2, 5, 216), (58, 11, 28, 2, 5, 217), (61, 11, 29, 2, 5, 218), (64, 11, 30, 2, 5, 219), (67, 11, 32, 2, 5, 221), (70, 11, 33, 2, 5, 222), (73, 11, 34, 2, 5, 223), (77, 11, 35, 2, 5, 224)] : List AF), FLok mr_250 q) (AL_c (CK_9 (bi_5_11 MM_13)) AL_n : ∀ q ∈ ([(3, 9, 0, 5, 189)] : List AK), CKok MT mr_250 q) AL_n AL_n AL_n AL_n
set_option maxRecDepth 20000 in
theorem gk_250 : GOK mr_250 := GK_r (bi_5_11 MM_12) cni_RX11 (plain_of cpl_RX11) cnh_RX11 pds_11
set_option maxRecDepth 20000 in
theorem ok_251 : FOK MT mr_251 := FK_r (FW_r (by decide +kernel) (by decide +kernel)) (AL_c (FL_0 rfl rfl (bi_5_12 MM_7) rfl) (AL_c (FL_0 rfl rfl (bi_5_12 MM_5) rfl) (AL_c (FL_0 rfl rfl (bi_5_12 MM_6) rfl) (AL_c (FL_3 rfl rfl (bi_5_12 MM_1)) AL_n))) : ∀ q ∈ ([(120, 11, 10, 0, 5, 199), (110, 11, 8, 0, 5, 197), (117, 11, 9, 0, 5, 198), (20, 11, 4, 3, 5, 193)] : List AF), FLok mr_251 q) (AL_c (CK_0 mt_237 (bi_6_6 MM_4) mfv_237) (AL_c (CK_6 mt_4 (bi_6_7 MM_9) mfj_4) (AL_c (CK_6 mt_0 (bi_6_7 MM_10) mfj_0) AL_n)) : ∀ q ∈ ([(144, 0, 237, 6, 100), (147, 6, 4, 6, 121), (152, 6, 0, 6, 122)] : List AK), CKok MT mr_251 q) AL_n AL_n AL_n AL_n
set_option maxRecDepth 20000 in
theorem gk_251 : GOK mr_251 := GK_r (bi_6_7 MM_8) cni_RX11 (plain_of cpl_RX11) cnh_RX11 pds_29
set_option maxRecDepth 20000 in
theorem ok_252 : FOK MT mr_252 := FK_r (FW_r (by decide +kernel) (by decide +kernel)) (AL_c (FL_0 rfl rfl (bi_5_13 MM_2) rfl) (AL_c (FL_3 rfl rfl (bi_5_13 MM_0)) (AL_c (FL_3 rfl rfl (bi_5_13 MM_1)) AL_n)) : ∀ q ∈ ([(262, 11, 21, 0, 5, 210), (43, 11, 19, 3, 5, 208), (46, 11, 20, 3, 5, 209)] : List AF), FLok mr_252 q) (AL_c (CK_2 mt_202 (bi_7_2 MM_15) mfs_202) AL_n : ∀ q ∈ ([(272, 2, 202, 7, 47)] : List AK), CKok MT mr_252 q) AL_n AL_n AL_n AL_n
set_option maxRecDepth 20000 in
theorem gk_252 : GOK mr_252 := GK_r (bi_7_2 MM_14) cni_RX11 (plain_of cpl_RX11) cnh_RX11 pds_21
set_option maxRecDepth 20000 in
theorem ok_253 : FOK MT mr_253 := FK_r (FW_r (by decide +kernel) (by decide +kernel)) (AL_c (FL_3 rfl rfl (bi_5_11 MM_14)) AL_n : ∀ q ∈ ([(9, 11, 1, 3, 5, 190)] : List AF), FLok mr_253 q) (AL_c (CK_0 mt_290 (bi_6_12 MM_12) mfv_290) AL_n : ∀ q ∈ ([(265, 0, 290, 6, 204)] : List AK), CKok MT mr_253 q) AL_n AL_n AL_n AL_n
set_option maxRecDepth 20000 in
theorem gk_253 : GOK mr_253 := GK_r (bi_8_3 MM_10) cni_RX11 (plain_of cpl_RX11) cnh_RX11 pds_21
set_option maxRecDepth 20000 in
theorem ok_254 : FOK MT mr_254 := FK_r (FW_r (by decide +kernel) (by decide +kernel)) (AL_c (FL_3 rfl rfl (bi_5_11 MM_14)) AL_n : ∀ q ∈ ([(9, 11, 1, 3, 5, 190)] : List AF), FLok mr_254 q) (AL_c (CK_2 mt_249 (bi_6_3 MM_15) mfs_249) AL_n : ∀ q ∈ ([(89, 2, 249, 6, 63)] : List AK), CKok MT mr_254 q) AL_n AL_n AL_n AL_n
set_option maxRecDepth 20000 in
theorem gk_254 : GOK mr_254 := GK_r (bi_6_12 MM_10) cni_RX11 (plain_of cpl_RX11) cnh_RX11 pds_21
set_option maxRecDepth 20000 in
theorem ok_255 : FOK MT mr_255 := FK_r (FW_r (by decide +kernel) (by decide +kernel)) (AL_c (FL_3 rfl rfl (bi_5_11 MM_14)) AL_n : ∀ q ∈ ([(9, 11, 1, 3, 5, 190)] : List AF), FLok mr_255 q) (AL_c (CK_2 mt_249 (bi_6_3 MM_15) mfs_249) AL_n : ∀ q ∈ ([(89, 2, 249, 6, 63)] : List AK), CKok MT mr_255 q) AL_n AL_n AL_n AL_n
set_option maxRecDepth 20000 in
theorem gk_255 : GOK mr_255 := GK_r (bi_6_13 MM_11) cni_RX11 (plain_of cpl_RX11) cnh_RX11 pds_21
set_option maxRecDepth 20000 in
theorem ok_256 : FOK MT mr_256 := FK_r (FW_r (by decide +kernel) (by decide +kernel)) (AL_c (FL_3 rfl rfl (bi_5_13 MM_9)) AL_n : ∀ q ∈ ([(58, 11, 28, 3, 5, 217)] : List AF), FLok mr_256 q) (AL_c (CK_0 mt_319 (bi_8_7 MM_12) mfv_319) AL_n : ∀ q ∈ ([(427, 0, 319, 8, 124)] : List AK), CKok MT mr_256 q) AL_n AL_n AL_n AL_n
set_option maxRecDepth 20000 in
theorem gk_256 : GOK mr_256 := GK_r (bi_8_8 MM_11) cni_RX11 (plain_of cpl_RX11) cnh_RX11 pds_18
set_option maxRecDepth 20000 in
theorem ok_257 : FOK MT mr_257 := FK_r (FW_r (by decide +kernel) (by decide +kernel)) (AL_c (FL_3 rfl rfl (bi_5_12 MM_11)) AL_n : ∀ q ∈ ([(31, 11, 14, 3, 5, 203)] : List AF), FLok mr_257 q) AL_n AL_n AL_n AL_n AL_n
set_option maxRecDepth 20000 in
theorem gk_257 : GOK mr_257 := GK_r (bi_6_11 MM_13) cni_RX11 (plain_of cpl_RX11) cnh_RX11 pds_21
set_option maxRecDepth 20000 in
theorem ok_258 : FOK MT mr_258 := FK_r (FW_r (by decide +kernel) (by decide +kernel)) (AL_c (FL_3 rfl rfl (bi_5_11 MM_14)) AL_n : ∀ q ∈ ([(9, 11, 1, 3, 5, 190)] : List AF), FLok mr_258 q) (AL_c (CK_2 mt_249 (bi_6_3 MM_15) mfs_249) AL_n : ∀ q ∈ ([(89, 2, 249, 6, 63)] : List AK), CKok MT mr_258 q) AL_n AL_n AL_n AL_n
set_option maxRecDepth 20000 in
theorem gk_258 : GOK mr_258 := GK_r (bi_6_14 MM_7) cni_RX11 (plain_of cpl_RX11) cnh_RX11 pds_21
set_option maxRecDepth 20000 in
theorem ok_259 : FOK MT mr_259 := FK_r (FW_r (by decide +kernel) (by decide +kernel)) AL_n (AL_c (CK_0 mt_269 (bi_6_14 MM_12) mfv_269) (AL_c (CK_2 mt_249 (bi_6_3 MM_15) mfs_249) AL_n) : ∀ q ∈ ([(97, 0, 269, 6, 236), (89, 2, 249, 6, 63)] : List AK), CKok MT mr_259 q) AL_n AL_n AL_n AL_n
set_option maxRecDepth 20000 in
theorem gk_259 : GOK mr_259 := GK_r (bi_7_0 MM_14) cni_RX11 (plain_of cpl_RX11) cnh_RX11 pds_42
set_option maxRecDepth 20000 in
theorem ok_260 : FOK MT mr_260 := FK_r (FW_r (by decide +kernel) (by decide +kernel)) (AL_c (FL_0 rfl rfl (bi_5_12 MM_7) rfl) (AL_c (FL_0 rfl rfl (bi_5_12 MM_8) rfl) AL_n) : ∀ q ∈ ([(120, 11, 10, 0, 5, 199), (131, 11, 11, 0, 5, 200)] : List AF), FLok mr_260 q) (AL_c (CK_0 mt_237 (bi_6_6 MM_4) mfv_237) AL_n : ∀ q ∈ ([(144, 0, 237, 6, 100)] : List AK), CKok MT mr_260 q) AL_n AL_n AL_n AL_n
set_option maxRecDepth 20000 in
theorem gk_260 : GOK mr_260 := GK_r (bi_6_10 MM_4) cni_RX11 (plain_of cpl_RX11) cnh_RX11 pds_21
set_option maxRecDepth 20000 in
theorem ok_261 : FOK MT mr_261 := FK_r (FW_r (by decide +kernel) (by decide +kernel)) AL_n (AL_c (CK_0 mt_211 (bi_7_14 MM_8) mfv_211) (AL_c (CK_2 mt_202 (bi_7_2 MM_15) mfs_202) (AL_c (CK_0 mt_269 (bi_6_14 MM_12) mfv_269) (AL_c (CK_0 mt_267 (bi_7_14 MM_4) mfv_267) AL_n))) : ∀ q ∈ ([(374, 0, 211, 7, 232), (272, 2, 202, 7, 47), (97, 0, 269, 6, 236), (371, 0, 267, 7, 228)] : List AK), CKok MT mr_261 q) AL_n AL_n AL_n AL_n
set_option maxRecDepth 20000 in
theorem gk_261 : GOK mr_261 := GK_r (bi_8_0 MM_3) cni_RX11 (plain_of cpl_RX11) cnh_RX11 pds_18
set_option maxRecDepth 20000 in
theorem ok_262 : FOK MT mr_262 := FK_r (FW_r (by decide +kernel) (by decide +kernel)) (AL_c (FL_3 rfl rfl (bi_5_11 MM_14)) AL_n : ∀ q ∈ ([(9, 11, 1, 3, 5, 190)] : List AF), FLok mr_262 q) (AL_c (CK_2 mt_202 (bi_7_2 MM_15) mfs_202) AL_n : ∀ q ∈ ([(272, 2, 202, 7, 47)] : List AK), CKok MT mr_262 q) AL_n AL_n AL_n AL_n
set_option maxRecDepth 20000 in
theorem gk_262 : GOK mr_262 := GK_r (bi_7_7 MM_1) cni_RX11 (plain_of cpl_RX11) cnh_RX11 pds_22
set_option maxRecDepth 20000 in
theorem ok_263 : FOK MT mr_263 := FK_r (FW_r (by decide +kernel) (by decide +kernel)) AL_n (AL_c (CK_0 mt_259 (bi_7_0 MM_11) mfv_259) AL_n : ∀ q ∈ ([(313, 0, 259, 7, 11)] : List AK), CKok MT mr_263 q) AL_n AL_n AL_n AL_n
set_option maxRecDepth 20000 in
theorem gk_263 : GOK mr_263 := GK_r (bi_7_5 MM_9) cni_RX11 (plain_of cpl_RX11) cnh_RX11 pds_22
set_option maxRecDepth 20000 in
theorem ok_264 : FOK MT mr_264 := FK_r (FW_r (by decide +kernel) (by decide +kernel)) (AL_c (FL_3 rfl rfl (bi_5_11 MM_14)) AL_n : ∀ q ∈ ([(9, 11, 1, 3, 5, 190)] : List AF), FLok mr_264 q) AL_n AL_n AL_n AL_n AL_n
set_option maxRecDepth 20000 in
theorem gk_264 : GOK mr_264 := GK_r (bi_6_14 MM_3) cni_RX11 (plain_of cpl_RX11) cnh_RX11 pds_3
set_option maxRecDepth 20000 in
theorem ok_265 : FOK MT mr_265 := FK_r (FW_r (by decide +kernel) (by decide +kernel)) AL_n (AL_c (CK_2 mt_249 (bi_6_3 MM_15) mfs_249) AL_n : ∀ q ∈ ([(89, 2, 249, 6, 63)] : List AK), CKok MT mr_265 q) AL_n (AL_c (W_r (bi_8_10 MM_8) rfl) AL_n : ∀ q ∈ ([(466, 2000000000, 8, 168)] : List AKl), Cond.constantLong (my mr_265).cls q.1 q.2.1 ∈ TBL) AL_n AL_n
set_option maxRecDepth 20000 in
theorem gk_265 : GOK mr_265 := GK_r (bi_8_10 MM_7) cni_RX11 (plain_of cpl_RX11) cnh_RX11 pds_21
set_option maxRecDepth 20000 in
theorem ok_266 : FOK MT mr_266 := FK_r (FW_r (by decide +kernel) (by decide +kernel)) AL_n (AL_c (CK_2 mt_249 (bi_6_3 MM_15) mfs_249) AL_n : ∀ q ∈ ([(89, 2, 249, 6, 63)] : List AK), CKok MT mr_266 q) AL_n (AL_c (W_r (bi_6_12 MM_11) rfl) AL_n : ∀ q ∈ ([(305, 3, 6, 203)] : List AKl), Cond.constantLong (my mr_266).cls q.1 q.2.1 ∈ TBL) AL_n AL_n
set_option maxRecDepth 20000 in
theorem gk_266 : GOK mr_266 := GK_r (bi_8_2 MM_6) cni_RX11 (plain_of cpl_RX11) cnh_RX11 pds_21
set_option maxRecDepth 20000 in
theorem ok_267 : FOK MT mr_267 := FK_r (FW_r (by decide +kernel) (by decide +kernel)) AL_n (AL_c (CK_0 mt_259 (bi_7_0 MM_11) mfv_259) (AL_c (CK_0 mt_295 (bi_7_11 MM_15) mfv_295) (AL_c (CK_2 mt_202 (bi_7_2 MM_15) mfs_202) AL_n)) : ∀ q ∈ ([(313, 0, 259, 7, 11), (356, 0, 295, 7, 191), (272, 2, 202, 7, 47)] : List AK), CKok MT mr_267 q) AL_n AL_n AL_n AL_n
set_option maxRecDepth 20000 in
theorem gk_267 : GOK mr_267 := GK_r (bi_7_14 MM_7) cni_RX11 (plain_of cpl_RX11) cnh_RX11 pds_21
set_option maxRecDepth 20000 in
theorem ok_268 : FOK MT mr_268 := FK_r (FW_r (by decide +kernel) (by decide +kernel)) AL_n (AL_c (CK_2 mt_249 (bi_6_3 MM_15) mfs_249) AL_n : ∀ q ∈ ([(89, 2, 249, 6, 63)] : List AK), CKok MT mr_268 q) AL_n (AL_c (W_r (bi_6_3 MM_14) rfl) AL_n : ∀ q ∈ ([(87, 2, 6, 62)] : List AKl), Cond.constantLong (my mr_268).cls q.1 q.2.1 ∈ TBL) AL_n AL_n
set_option maxRecDepth 20000 in
theorem gk_268 : GOK mr_268 := GK_r (bi_7_10 MM_0) cni_RX11 (plain_of cpl_RX11) cnh_RX11 pds_21
set_option maxRecDepth 20000 in
theorem ok_269 : FOK MT mr_269 := FK_r (FW_r (by decide +kernel) (by decide +kernel)) (AL_c (FL_3 rfl rfl (bi_5_11 MM_14)) AL_n : ∀ q ∈ ([(9, 11, 1, 3, 5, 190)] : List AF), FLok mr_269 q) (AL_c (CK_0 mt_264 (bi_6_14 MM_0) mfv_264) AL_n : ∀ q ∈ ([(93, 0, 264, 6, 224)] : List AK), CKok MT mr_269 q) AL_n AL_n AL_n AL_n
set_option maxRecDepth 20000 in
theorem gk_269 : GOK mr_269 := GK_r (bi_6_14 MM_15) cni_RX11 (plain_of cpl_RX11) cnh_RX11 pds_4
set_option maxRecDepth 20000 in
theorem ok_270 : FOK MT mr_270 := FK_r (FW_r (by decide +kernel) (by decide +kernel)) (AL_c (FL_0 rfl rfl (bi_5_13 MM_2) rfl) (AL_c (FL_3 rfl rfl (bi_5_13 MM_0)) AL_n) : ∀ q ∈ ([(262, 11, 21, 0, 5, 210), (43, 11, 19, 3, 5, 208)] : List AF), FLok mr_270 q) AL_n AL_n AL_n AL_n AL_n
set_option maxRecDepth 20000 in
theorem gk_270 : GOK mr_270 := GK_r (bi_7_3 MM_9) cni_RX11 (plain_of cpl_RX11) cnh_RX11 pds_7
set_option maxRecDepth 20000 in
theorem ok_271 : FOK MT mr_271 := FK_r (FW_r (by decide +kernel) (by decide +kernel)) (AL_c (FL_0 rfl rfl (bi_5_13 MM_2) rfl) (AL_c (FL_3 rfl rfl (bi_5_11 MM_14)) AL_n) : ∀ q ∈ ([(262, 11, 21, 0, 5, 210), (9, 11, 1, 3, 5, 190)] : List AF), FLok mr_271 q) (AL_c (CK_0 mt_290 (bi_6_12 MM_12) mfv_290) (AL_c (CK_2 mt_281 (bi_6_10 MM_15) mfs_281) (AL_c (CK_0 mt_188 (bi_7_1 MM_15) mfv_188) AL_n)) : ∀ q ∈ ([(265, 0, 290, 6, 204), (203, 2, 281, 6, 175), (268, 0, 188, 7, 31)] : List AK), CKok MT mr_271 q) AL_n AL_n AL_n AL_n
set_option maxRecDepth 20000 in
theorem gk_271 : GOK mr_271 := GK_r (bi_7_1 MM_14) cni_RX11 (plain_of cpl_RX11) cnh_RX11 pds_14
set_option maxRecDepth 20000 in
theorem ok_272 : FOK MT mr_272 := FK_r (FW_r (by decide +kernel) (by decide +kernel)) (AL_c (FL_0 rfl rfl (bi_5_12 MM_15) rfl) (AL_c (FL_3 rfl rfl (bi_5_11 MM_14)) (AL_c (FL_3 rfl rfl (bi_5_12 MM_12)) (AL_c (FL_3 rfl rfl (bi_5_12 MM_13)) (AL_c (FL_3 rfl rfl (bi_5_12 MM_14)) AL_n)))) : ∀ q ∈ ([(253, 11, 18, 0, 5, 207), (9, 11, 1, 3, 5, 190), (34, 11, 15, 3, 5, 204), (37, 11, 16, 3, 5, 205), (40, 11, 17, 3, 5, 206)] : List AF), FLok mr_272 q) (AL_c (CK_0 mt_269 (bi_6_14 MM_12) mfv_269) (AL_c (CK_2 mt_203 (bi_7_0 MM_0) mfs_203) (AL_c (CK_0 mt_212 (bi_6_14 MM_8) mfv_212) AL_n)) : ∀ q ∈ ([(97, 0, 269, 6, 236), (256, 2, 203, 7, 0), (259, 0, 212, 6, 232)] : List AK), CKok MT mr_272 q) AL_n AL_n AL_n AL_n
set_option maxRecDepth 20000 in
theorem gk_272 : GOK mr_272 := GK_r (bi_7_1 MM_6) cni_RX11 (plain_of cpl_RX11) cnh_RX11 pds_11
set_option maxRecDepth 20000 in
theorem ok_273 : FOK MT mr_273 := FK_r (FW_r (by decide +kernel) (by decide +kernel)) (AL_c (FL_0 rfl rfl (bi_5_13 MM_2) rfl) AL_n : ∀ q ∈ ([(262, 11, 21, 0, 5, 210)] : List AF), FLok mr_273 q) (AL_c (CK_0 mt_269 (bi_6_14 MM_12) mfv_269) (AL_c (CK_2 mt_202 (bi_7_2 MM_15) mfs_202) (AL_c (CK_0 mt_188 (bi_7_1 MM_15) mfv_188) AL_n)) : ∀ q ∈ ([(97, 0, 269, 6, 236), (272, 2, 202, 7, 47), (268, 0, 188, 7, 31)] : List AK), CKok MT mr_273 q) AL_n AL_n AL_n AL_n
set_option maxRecDepth 20000 in
theorem gk_273 : GOK mr_273 := GK_r (bi_7_10 MM_12) cni_RX11 (plain_of cpl_RX11) cnh_RX11 pds_1
set_option maxRecDepth 20000 in
theorem ok_274 : FOK MT mr_274 := FK_r (FW_r (by decide +kernel) (by decide +kernel)) (AL_c (FL_3 rfl rfl (bi_5_12 MM_14)) (AL_c (FL_3 rfl rfl (bi_5_13 MM_1)) AL_n) : ∀ q ∈ ([(40, 11, 17, 3, 5, 206), (46, 11, 20, 3, 5, 209)] : List AF), FLok mr_274 q) (AL_c (CK_0 mt_229 (bi_7_2 MM_7) mfv_229) (AL_c (CK_0 mt_269 (bi_6_14 MM_12) mfv_269) (AL_c (CK_0 mt_204 (bi_7_3 MM_2) mfv_204) AL_n)) : ∀ q ∈ ([(284, 0, 229, 7, 39), (97, 0, 269, 6, 236), (287, 0, 204, 7, 50)] : List AK), CKok MT mr_274 q) AL_n AL_n AL_n AL_n
set_option maxRecDepth 20000 in
theorem gk_274 : GOK mr_274 := GK_r (bi_7_2 MM_6) cni_RX11 (plain_of cpl_RX11) cnh_RX11 pds_7
set_option maxRecDepth 20000 in
theorem ok_275 : FOK MT mr_275 := FK_r (FW_r (by decide +kernel) (by decide +kernel)) (AL_c (FL_0 rfl rfl (bi_5_12 MM_15) rfl) (AL_c (FL_3 rfl rfl (bi_5_12 MM_14)) AL_n) : ∀ q ∈ ([(253, 11, 18, 0, 5, 207), (40, 11, 17, 3, 5, 206)] : List AF), FLok mr_275 q) (AL_c (CK_0 mt_273 (bi_7_10 MM_9) mfv_273) (AL_c (CK_0 mt_274 (bi_7_2 MM_3) mfv_274) AL_n) : ∀ q ∈ ([(340, 0, 273, 7, 169), (299, 0, 274, 7, 35)] : List AK), CKok MT mr_275 q) AL_n AL_n AL_n AL_n
set_option maxRecDepth 20000 in
theorem gk_275 : GOK mr_275 := GK_r (bi_7_10 MM_8) cni_RX11 (plain_of cpl_RX11) cnh_RX11 pds_18
set_option maxRecDepth 20000 in
theorem ok_276 : FOK MT mr_276 := FK_r (FW_r (by decide +kernel) (by decide +kernel)) (AL_c (FL_0 rfl rfl (bi_5_13 MM_4) rfl) AL_n : ∀ q ∈ ([(383, 11, 23, 0, 5, 212)] : List AF), FLok mr_276 q) (AL_c (CK_2 mt_268 (bi_7_9 MM_14) mfs_268) (AL_c (CK_0 mt_195 (bi_7_5 MM_14) mfv_195) (AL_c (CK_0 mt_321 (bi_8_1 MM_0) mfv_321) AL_n)) : ∀ q ∈ ([(347, 2, 268, 7, 158), (324, 0, 195, 7, 94), (386, 0, 321, 8, 16)] : List AK), CKok MT mr_276 q) AL_n AL_n AL_n AL_n
set_option maxRecDepth 20000 in
theorem gk_276 : GOK mr_276 := GK_r (bi_8_1 MM_7) cni_RX11 (plain_of cpl_RX11) cnh_RX11 pds_10
set_option maxRecDepth 20000 in
theorem ok_277 : FOK MT mr_277 := FK_r (FW_r (by decide +kernel) (by decide +kernel)) (AL_c (FL_3 rfl rfl (bi_5_11 MM_14)) AL_n : ∀ q ∈ ([(9, 11, 1, 3, 5, 190)] : List AF), FLok mr_277 q) (AL_c (CK_0 mt_293 (bi_8_7 MM_4) mfv_293) (AL_c (CK_2 mt_11 (bi_6_6 MM_3) mfs_11) AL_n) : ∀ q ∈ ([(442, 0, 293, 8, 116), (135, 2, 11, 6, 99)] : List AK), CKok MT mr_277 q) (AL_c (W_r (bi_7_11 MM_10) rfl) AL_n : ∀ q ∈ ([(355, 1000000, 7, 186)] : List AKi), Cond.constant (my mr_277).cls q.1 q.2.1 ∈ TBL) AL_n AL_n AL_n
set_option maxRecDepth 20000 in
theorem gk_277 : GOK mr_277 := GK_r (bi_8_7 MM_3) cni_RX11 (plain_of cpl_RX11) cnh_RX11 pds_10
set_option maxRecDepth 20000 in
theorem ok_278 : FOK MT mr_278 := FK_r (FW_r (by decide +kernel) (by decide +kernel)) AL_n (AL_c (CK_0 mt_198 (bi_8_2 MM_0) mfv_198) (AL_c (CK_0 mt_197 (bi_8_5 MM_15) mfv_197) (AL_c (CK_0 mt_231 (bi_8_5 MM_3) mfv_231) (AL_c (CK_0 mt_332 (bi_8_6 MM_3) mfv_332) AL_n))) : ∀ q ∈ ([(396, 0, 198, 8, 32), (424, 0, 197, 8, 95), (415, 0, 231, 8, 83), (421, 0, 332, 8, 99)] : List AK), CKok MT mr_278 q) AL_n AL_n AL_n AL_n
set_option maxRecDepth 20000 in
theorem gk_278 : GOK mr_278 := GK_r (bi_8_6 MM_11) cni_RX11 (plain_of cpl_RX11) cnh_RX11 pds_7
set_option maxRecDepth 20000 in
theorem ok_279 : FOK MT mr_279 := FK_r (FW_r (by decide +kernel) (by decide +kernel)) AL_n (AL_c (CK_0 mt_254 (bi_6_12 MM_7) mfv_254) (AL_c (CK_0 mt_241 (bi_7_13 MM_15) mfv_241) (AL_c (CK_0 mt_213 (bi_7_0 MM_15) mfv_213) (AL_c (CK_0 mt_233 (bi_7_13 MM_3) mfv_233) (AL_c (CK_0 mt_242 (bi_7_13 MM_7) mfv_242) AL_n)))) : ∀ q ∈ ([(302, 0, 254, 6, 199), (368, 0, 241, 7, 223), (317, 0, 213, 7, 15), (362, 0, 233, 7, 211), (365, 0, 242, 7, 215)] : List AK), CKok MT mr_279 q) AL_n AL_n AL_n AL_n
set_option maxRecDepth 20000 in
theorem gk_279 : GOK mr_279 := GK_r (bi_7_13 MM_14) cni_RX11 (plain_of cpl_RX11) cnh_RX11 pds_7
set_option maxRecDepth 20000 in
theorem ok_280 : FOK MT mr_280 := FK_r (FW_r (by decide +kernel) (by decide +kernel)) (AL_c (FL_3 rfl rfl (bi_5_11 MM_14)) AL_n : ∀ q ∈ ([(9, 11, 1, 3, 5, 190)] : List AF), FLok mr_280 q) (AL_c (CK_0 mt_254 (bi_6_12 MM_7) mfv_254) (AL_c (CK_2 mt_249 (bi_6_3 MM_15) mfs_249) (AL_c (CK_0 mt_290 (bi_6_12 MM_12) mfv_290) (AL_c (CK_2 mt_281 (bi_6_10 MM_15) mfs_281) AL_n))) : ∀ q ∈ ([(302, 0, 254, 6, 199), (89, 2, 249, 6, 63), (265, 0, 290, 6, 204), (203, 2, 281, 6, 175)] : List AK), CKok MT mr_280 q) AL_n AL_n AL_n AL_n
set_option maxRecDepth 20000 in
theorem gk_280 : GOK mr_280 := GK_r (bi_6_13 MM_3) cni_RX11 (plain_of cpl_RX11) cnh_RX11 pds_17
set_option maxRecDepth 20000 in
theorem ok_281 : FOK MT mr_281 := FK_r (FW_r (by decide +kernel) (by decide +kernel)) AL_n AL_n AL_n AL_n AL_n AL_n
set_option maxRecDepth 20000 in
theorem gk_281 : GOK mr_281 := GK_r (bi_6_11 MM_1) cni_RX11 (plain_of cpl_RX11) cnh_RX11 pds_10
set_option maxRecDepth 20000 in
theorem ok_282 : FOK MT mr_282 := FK_r (FW_r (by decide +kernel) (by decide +kernel)) AL_n (AL_c (CK_0 mt_254 (bi_6_12 MM_7) mfv_254) (AL_c (CK_0 mt_213 (bi_7_0 MM_15) mfv_213) (AL_c (CK_0 mt_283 (bi_7_6 MM_10) mfv_283) AL_n)) : ∀ q ∈ ([(302, 0, 254, 6, 199), (317, 0, 213, 7, 15), (330, 0, 283, 7, 106)] : List AK), CKok MT mr_282 q) AL_n AL_n AL_n AL_n
set_option maxRecDepth 20000 in
theorem gk_282 : GOK mr_282 := GK_r (bi_7_6 MM_9) cni_RX11 (plain_of cpl_RX11) cnh_RX11 pds_7
set_option maxRecDepth 20000 in
theorem ok_283 : FOK MT mr_283 := FK_r (FW_r (by decide +kernel) (by decide +kernel)) (AL_c (FL_3 rfl rfl (bi_5_11 MM_14)) AL_n : ∀ q ∈ ([(9, 11, 1, 3, 5, 190)] : List AF), FLok mr_283 q) (AL_c (CK_0 mt_262 (bi_7_6 MM_14) mfv_262) AL_n : ∀ q ∈ ([(327, 0, 262, 7, 110)] : List AK), CKok MT mr_283 q) AL_n AL_n AL_n AL_n
set_option maxRecDepth 20000 in
theorem gk_283 : GOK mr_283 := GK_r (bi_7_6 MM_13) cni_RX11 (plain_of cpl_RX11) cnh_RX11 pds_7
set_option maxRecDepth 20000 in
theorem ok_284 : FOK MT mr_284 := FK_r (FW_r (by decide +kernel) (by decide +kernel)) (AL_c (FL_3 rfl rfl (bi_5_13 MM_9)) (AL_c (FL_3 rfl rfl (bi_5_13 MM_10)) (AL_c (FL_3 rfl rfl (bi_5_11 MM_14)) AL_n)) : ∀ q ∈ ([(58, 11, 28, 3, 5, 217), (61, 11, 29, 3, 5, 218), (9, 11, 1, 3, 5, 190)] : List AF), FLok mr_284 q) (AL_c (CK_0 mt_298 (bi_8_7 MM_8) mfv_298) (AL_c (CK_0 mt_190 (bi_8_8 MM_4) mfv_190) (AL_c (CK_0 mt_256 (bi_8_8 MM_8) mfv_256) AL_n)) : ∀ q ∈ ([(433, 0, 298, 8, 120), (436, 0, 190, 8, 132), (439, 0, 256, 8, 136)] : List AK), CKok MT mr_284 q) AL_n AL_n AL_n AL_n
set_option maxRecDepth 20000 in
theorem gk_284 : GOK mr_284 := GK_r (bi_8_9 MM_3) cni_RX11 (plain_of cpl_RX11) cnh_RX11 pds_22
set_option maxRecDepth 20000 in
theorem ok_285 : FOK MT mr_285 := FK_r (FW_r (by decide +kernel) (by decide +kernel)) (AL_c (FL_0 rfl rfl (bi_5_13 MM_2) rfl) (AL_c (FL_3 rfl rfl (bi_5_13 MM_0)) AL_n) : ∀ q ∈ ([(262, 11, 21, 0, 5, 210), (43, 11, 19, 3, 5, 208)] : List AF), FLok mr_285 q) (AL_c (CK_2 mt_203 (bi_7_0 MM_0) mfs_203) AL_n : ∀ q ∈ ([(256, 2, 203, 7, 0)] : List AK), CKok MT mr_285 q) AL_n AL_n AL_n AL_n
set_option maxRecDepth 20000 in
theorem gk_285 : GOK mr_285 := GK_r (bi_7_3 MM_13) cni_RX11 (plain_of cpl_RX11) cnh_RX11 pds_7
set_option maxRecDepth 20000 in
theorem ok_286 : FOK MT mr_286 := FK_r (FW_r (by decide +kernel) (by decide +kernel)) AL_n (AL_c (CK_0 mt_318 (bi_6_7 MM_1) mfv_318) (AL_c (CK_0 mt_223 (bi_6_7 MM_11) mfv_223) AL_n) : ∀ q ∈ ([(163, 0, 318, 6, 113), (166, 0, 223, 6, 123)] : List AK), CKok MT mr_286 q) AL_n AL_n AL_n AL_n
set_option maxRecDepth 20000 in
theorem gk_286 : GOK mr_286 := GK_r (bi_6_7 MM_0) cni_RX11 (plain_of cpl_RX11) cnh_RX11 pds_43
set_option maxRecDepth 20000 in
theorem ok_287 : FOK MT mr_287 := FK_r (FW_r (by decide +kernel) (by decide +kernel)) (AL_c (FL_0 rfl rfl (bi_5_13 MM_3) rfl) AL_n : ∀ q ∈ ([(380, 11, 22, 0, 5, 211)] : List AF), FLok mr_287 q) (AL_c (CK_2 mt_268 (bi_7_9 MM_14) mfs_268) (AL_c (CK_0 mt_195 (bi_7_5 MM_14) mfv_195) (AL_c (CK_0 mt_269 (bi_6_14 MM_12) mfv_269) (AL_c (CK_2 mt_202 (bi_7_2 MM_15) mfs_202) (AL_c (CK_0 mt_321 (bi_8_1 MM_0) mfv_321) AL_n)))) : ∀ q ∈ ([(347, 2, 268, 7, 158), (324, 0, 195, 7, 94), (97, 0, 269, 6, 236), (272, 2, 202, 7, 47), (386, 0, 321, 8, 16)] : List AK), CKok MT mr_287 q) (AL_c (W_r (bi_7_11 MM_10) rfl) AL_n : ∀ q ∈ ([(355, 1000000, 7, 186)] : List AKi), Cond.constant (my mr_287).cls q.1 q.2.1 ∈ TBL) AL_n AL_n AL_n
set_option maxRecDepth 20000 in
theorem gk_287 : GOK mr_287 := GK_r (bi_8_1 MM_11) cni_RX11 (plain_of cpl_RX11) cnh_RX11 pds_10
set_option maxRecDepth 20000 in
theorem ok_288 : FOK MT mr_288 := FK_r (FW_r (by decide +kernel) (by decide +kernel)) (AL_c (FL_0 rfl rfl (bi_5_12 MM_7) rfl) (AL_c (FL_0 rfl rfl (bi_5_12 MM_8) rfl) AL_n) : ∀ q ∈ ([(120, 11, 10, 0, 5, 199), (131, 11, 11, 0, 5, 200)] : List AF), FLok mr_288 q) (AL_c (CK_0 mt_237 (bi_6_6 MM_4) mfv_237) (AL_c (CK_0 mt_223 (bi_6_7 MM_11) mfv_223) (AL_c (CK_2 mt_249 (bi_6_3 MM_15) mfs_249) (AL_c (CK_0 mt_189 (bi_6_5 MM_6) mfv_189) AL_n))) : ∀ q ∈ ([(144, 0, 237, 6, 100), (166, 0, 223, 6, 123), (89, 2, 249, 6, 63), (160, 0, 189, 6, 86)] : List AK), CKok MT mr_288 q) AL_n AL_n AL_n AL_n
set_option maxRecDepth 20000 in
theorem gk_288 : GOK mr_288 := GK_r (bi_6_8 MM_7) cni_RX11 (plain_of cpl_RX11) cnh_RX11 pds_10
set_option maxRecDepth 20000 in
theorem ok_289 : FOK MT mr_289 := FK_r (FW_r (by decide +kernel) (by decide +kernel)) (AL_c (FL_3 rfl rfl (bi_5_13 MM_15)) AL_n : ∀ q ∈ ([(73, 11, 34, 3, 5, 223)] : List AF), FLok mr_289 q) AL_n AL_n AL_n AL_n AL_n
set_option maxRecDepth 20000 in
theorem gk_289 : GOK mr_289 := GK_r (bi_8_2 MM_10) cni_RX11 (plain_of cpl_RX11) cnh_RX11 pds_44
set_option maxRecDepth 20000 in
theorem ok_290 : FOK MT mr_290 := FK_r (FW_r (by decide +kernel) (by decide +kernel)) (AL_c (FL_3 rfl rfl (bi_5_11 MM_14)) AL_n : ∀ q ∈ ([(9, 11, 1, 3, 5, 190)] : List AF), FLok mr_290 q) AL_n AL_n AL_n AL_n AL_n
set_option maxRecDepth 20000 in
theorem gk_290 : GOK mr_290 := GK_r (bi_6_12 MM_15) cni_RX11 (plain_of cpl_RX11) cnh_RX11 pds_10
set_option maxRecDepth 20000 in
theorem ok_291 : FOK MT mr_291 := FK_r (FW_r (by decide +kernel) (by decide +kernel)) AL_n (AL_c (CK_0 mt_254 (bi_6_12 MM_7) mfv_254) (AL_c (CK_0 mt_213 (bi_7_0 MM_15) mfv_213) (AL_c (CK_2 mt_203 (bi_7_0 MM_0) mfs_203) AL_n)) : ∀ q ∈ ([(302, 0, 254, 6, 199), (317, 0, 213, 7, 15), (256, 2, 203, 7, 0)] : List AK), CKok MT mr_291 q) AL_n AL_n AL_n AL_n
set_option maxRecDepth 20000 in
theorem gk_291 : GOK mr_291 := GK_r (bi_7_4 MM_5) cni_RX11 (plain_of cpl_RX11) cnh_RX11 pds_7
set_option maxRecDepth 20000 in
theorem ok_292 : FOK MT mr_292 := FK_r (FW_r (by decide +kernel) (by decide +kernel)) AL_n (AL_c (CK_0 mt_254 (bi_6_12 MM_7) mfv_254) (AL_c (CK_0 mt_259 (bi_7_0 MM_11) mfv_259) (AL_c (CK_0 mt_213 (bi_7_0 MM_15) mfv_213) (AL_c (CK_2 mt_202 (bi_7_2 MM_15) mfs_202) AL_n))) : ∀ q ∈ ([(302, 0, 254, 6, 199), (313, 0, 259, 7, 11), (317, 0, 213, 7, 15), (272, 2, 202, 7, 47)] : List AK), CKok MT mr_292 q) AL_n AL_n AL_n AL_n
set_option maxRecDepth 20000 in
theorem gk_292 : GOK mr_292 := GK_r (bi_7_0 MM_10) cni_RX11 (plain_of cpl_RX11) cnh_RX11 pds_10
set_option maxRecDepth 20000 in
theorem ok_293 : FOK MT mr_293 := FK_r (FW_r (by decide +kernel) (by decide +kernel)) (AL_c (FL_3 rfl rfl (bi_5_13 MM_9)) (AL_c (FL_3 rfl rfl (bi_5_13 MM_10)) (AL_c (FL_3 rfl rfl (bi_5_11 MM_14)) AL_n)) : ∀ q ∈ ([(58, 11, 28, 3, 5, 217), (61, 11, 29, 3, 5, 218), (9, 11, 1, 3, 5, 190)] : List AF), FLok mr_293 q) (AL_c (CK_0 mt_298 (bi_8_7 MM_8) mfv_298) (AL_c (CK_0 mt_294 (bi_8_8 MM_0) mfv_294) (AL_c (CK_2 mt_10 (bi_8_6 MM_7) mfs_10) (AL_c (CK_2 mt_202 (bi_7_2 MM_15) mfs_202) (AL_c (CK_0 mt_190 (bi_8_8 MM_4) mfv_190) (AL_c (CK_0 mt_256 (bi_8_8 MM_8) mfv_256) AL_n))))) : ∀ q ∈ ([(433, 0, 298, 8, 120), (430, 0, 294, 8, 128), (418, 2, 10, 8, 103), (272, 2, 202, 7, 47), (436, 0, 190, 8, 132), (439, 0, 256, 8, 136)] : List AK), CKok MT mr_293 q) (AL_c (W_r (bi_7_11 MM_10) rfl) AL_n : ∀ q ∈ ([(355, 1000000, 7, 186)] : List AKi), Cond.constant (my mr_293).cls q.1 q.2.1 ∈ TBL) AL_n AL_n AL_n
set_option maxRecDepth 20000 in
theorem gk_293 : GOK mr_293 := GK_r (bi_8_7 MM_7) cni_RX11 (plain_of cpl_RX11) cnh_RX11 pds_17
set_option maxRecDepth 20000 in
theorem ok_294 : FOK MT mr_294 := FK_r (FW_r (by decide +kernel) (by decide +kernel)) (AL_c (FL_3 rfl rfl (bi_5_13 MM_8)) AL_n : ∀ q ∈ ([(55, 11, 27, 3, 5, 216)] : List AF), FLok mr_294 q) (AL_c (CK_0 mt_319 (bi_8_7 MM_12) mfv_319) AL_n : ∀ q ∈ ([(427, 0, 319, 8, 124)] : List AK), CKok MT mr_294 q) AL_n AL_n AL_n AL_n
set_option maxRecDepth 20000 in
theorem gk_294 : GOK mr_294 := GK_r (bi_8_8 MM_3) cni_RX11 (plain_of cpl_RX11) cnh_RX11 pds_7
set_option maxRecDepth 20000 in
theorem ok_295 : FOK MT mr_295 := FK_r (FW_r (by decide +kernel) (by decide +kernel)) (AL_c (FL_3 rfl rfl (bi_5_11 MM_14)) AL_n : ∀ q ∈ ([(9, 11, 1, 3, 5, 190)] : List AF), FLok mr_295 q) (AL_c (CK_0 mt_212 (bi_6_14 MM_8) mfv_212) AL_n : ∀ q ∈ ([(259, 0, 212, 6, 232)] : List AK), CKok MT mr_295 q) AL_n AL_n AL_n AL_n
set_option maxRecDepth 20000 in
theorem gk_295 : GOK mr_295 := GK_r (bi_7_12 MM_2) cni_RX11 (plain_of cpl_RX11) cnh_RX11 pds_4
set_option maxRecDepth 20000 in
theorem ok_296 : FOK MT mr_296 := FK_r (FW_r (by decide +kernel) (by decide +kernel)) (AL_c (FL_3 rfl rfl (bi_5_11 MM_14)) AL_n : ∀ q ∈ ([(9, 11, 1, 3, 5, 190)] : List AF), FLok mr_296 q) (AL_c (CK_0 mt_263 (bi_7_5 MM_6) mfv_263) (AL_c (CK_0 mt_295 (bi_7_11 MM_15) mfv_295) AL_n) : ∀ q ∈ ([(320, 0, 263, 7, 86), (356, 0, 295, 7, 191)] : List AK), CKok MT mr_296 q) AL_n AL_n AL_n AL_n
set_option maxRecDepth 20000 in
theorem gk_296 : GOK mr_296 := GK_r (bi_8_10 MM_0) cni_RX11 (plain_of cpl_RX11) cnh_RX11 pds_10
set_option maxRecDepth 20000 in
theorem ok_297 : FOK MT mr_297 := FK_r (FW_r (by decide +kernel) (by decide +kernel)) (AL_c (FL_3 rfl rfl (bi_5_13 MM_13)) (AL_c (FL_3 rfl rfl (bi_5_13 MM_14)) (AL_c (FL_3 rfl rfl (bi_5_14 MM_0)) (AL_c (FL_3 rfl rfl (bi_5_13 MM_15)) AL_n))) : ∀ q ∈ ([(67, 11, 32, 3, 5, 221), (70, 11, 33, 3, 5, 222), (77, 11, 35, 3, 5, 224), (73, 11, 34, 3, 5, 223)] : List AF), FLok mr_297 q) (AL_c (CK_2 mt_266 (bi_8_2 MM_4) mfs_266) AL_n : ∀ q ∈ ([(389, 2, 266, 8, 36)] : List AK), CKok MT mr_297 q) AL_n AL_n AL_n AL_n
set_option maxRecDepth 20000 in
theorem gk_297 : GOK mr_297 := GK_r (bi_8_12 MM_9) cni_RX11 (plain_of cpl_RX11) cnh_RX11 pds_35
set_option maxRecDepth 20000 in
theorem ok_298 : FOK MT mr_298 := FK_r (FW_r (by decide +kernel) (by decide +kernel)) (AL_c (FL_3 rfl rfl (bi_5_13 MM_8)) (AL_c (FL_3 rfl rfl (bi_5_13 MM_9)) AL_n) : ∀ q ∈ ([(55, 11, 27, 3, 5, 216), (58, 11, 28, 3, 5, 217)] : List AF), FLok mr_298 q) (AL_c (CK_0 mt_319 (bi_8_7 MM_12) mfv_319) AL_n : ∀ q ∈ ([(427, 0, 319, 8, 124)] : List AK), CKok MT mr_298 q) AL_n AL_n AL_n AL_n
set_option maxRecDepth 20000 in
theorem gk_298 : GOK mr_298 := GK_r (bi_8_7 MM_11) cni_RX11 (plain_of cpl_RX11) cnh_RX11 pds_1
set_option maxRecDepth 20000 in
theorem ok_299 : FOK MT mr_299 := FK_r (FW_r (by decide +kernel) (by decide +kernel)) (AL_c (FL_3 rfl rfl (bi_5_12 MM_11)) AL_n : ∀ q ∈ ([(31, 11, 14, 3, 5, 203)] : List AF), FLok mr_299 q) (AL_c (CK_0 mt_318 (bi_6_7 MM_1) mfv_318) (AL_c (CK_0 mt_286 (bi_6_6 MM_13) mfv_286) (AL_c (CK_0 mt_323 (bi_6_8 MM_0) mfv_323) AL_n)) : ∀ q ∈ ([(163, 0, 318, 6, 113), (170, 0, 286, 6, 109), (189, 0, 323, 6, 128)] : List AK), CKok MT mr_299 q) AL_n AL_n AL_n (AL_c (XS_0 29 rfl) (AL_c (XS_0 30 rfl) (AL_c (XS_0 31 rfl) (AL_c (XS_0 32 rfl) AL_n))) : ∀ q ∈ ([(181, 0, 4, 0, 0), (183, 0, 11, 0, 0), (185, 0, 7, 0, 0), (187, 0, 14, 0, 0)] : List AKs), XOK mr_299 q)
set_option maxRecDepth 20000 in
theorem gk_299 : GOK mr_299 := GK_r (bi_6_9 MM_8) cni_RX11 (plain_of cpl_RX11) cnh_RX11 pds_11
set_option maxRecDepth 20000 in
theorem ok_300 : FOK MT mr_300 := FK_r (FW_r (by decide +kernel) (by decide +kernel)) (AL_c (FL_3 rfl rfl (bi_5_12 MM_11)) (AL_c (FL_0 rfl rfl (bi_5_12 MM_8) rfl) AL_n) : ∀ q ∈ ([(31, 11, 14, 3, 5, 203), (131, 11, 11, 0, 5, 200)] : List AF), FLok mr_300 q) (AL_c (CK_0 mt_260 (bi_6_10 MM_1) mfv_260) (AL_c (CK_0 mt_223 (bi_6_7 MM_11) mfv_223) (AL_c (CK_0 mt_288 (bi_6_8 MM_4) mfv_288) (AL_c (CK_0 mt_234 (bi_6_10 MM_5) mfv_234) (AL_c (CK_0 mt_209 (bi_6_10 MM_9) mfv_209) (AL_c (CK_0 mt_237 (bi_6_6 MM_4) mfv_237) (AL_c (CK_2 mt_281 (bi_6_10 MM_15) mfs_281) AL_n)))))) : ∀ q ∈ ([(193, 0, 260, 6, 161), (166, 0, 223, 6, 123), (174, 0, 288, 6, 132), (197, 0, 234, 6, 165), (200, 0, 209, 6, 169), (144, 0, 237, 6, 100), (203, 2, 281, 6, 175)] : List AK), CKok MT mr_300 q) AL_n AL_n AL_n AL_n
set_option maxRecDepth 20000 in
theorem gk_300 : GOK mr_300 := GK_r (bi_6_10 MM_0) cni_RX11 (plain_of cpl_RX11) cnh_RX11 pds_11
set_option maxRecDepth 20000 in
theorem ok_301 : FOK MT mr_301 := FK_r (FW_r (by decide +kernel) (by decide +kernel)) (AL_c (FL_3 rfl rfl (bi_5_12 MM_11)) (AL_c (FL_0 rfl rfl (bi_5_12 MM_7) rfl) AL_n) : ∀ q ∈ ([(31, 11, 14, 3, 5, 203), (120, 11, 10, 0, 5, 199)] : List AF), FLok mr_301 q) (AL_c (CK_0 mt_286 (bi_6_6 MM_13) mfv_286) (AL_c (CK_0 mt_323 (bi_6_8 MM_0) mfv_323) (AL_c (CK_0 mt_302 (bi_6_8 MM_9) mfv_302) (AL_c (CK_0 mt_237 (bi_6_6 MM_4) mfv_237) (AL_c (CK_0 mt_223 (bi_6_7 MM_11) mfv_223) (AL_c (CK_0 mt_189 (bi_6_5 MM_6) mfv_189) AL_n))))) : ∀ q ∈ ([(170, 0, 286, 6, 109), (189, 0, 323, 6, 128), (247, 0, 302, 6, 137), (144, 0, 237, 6, 100), (166, 0, 223, 6, 123), (160, 0, 189, 6, 86)] : List AK), CKok MT mr_301 q) AL_n AL_n AL_n (AL_c (XS_0 18 rfl) (AL_c (XS_0 19 rfl) (AL_c (XS_0 20 rfl) AL_n)) : ∀ q ∈ ([(241, 0, 10, 0, 0), (243, 0, 13, 0, 0), (245, 0, 16, 0, 0)] : List AKs), XOK mr_301 q)
set_option maxRecDepth 20000 in
theorem gk_301 : GOK mr_301 := GK_r (bi_6_6 MM_11) cni_RX11 (plain_of cpl_RX11) cnh_RX11 pds_11
set_option maxRecDepth 20000 in
theorem ok_302 : FOK MT mr_302 := FK_r (FW_r (by decide +kernel) (by decide +kernel)) (AL_c (FL_3 rfl rfl (bi_5_12 MM_11)) AL_n : ∀ q ∈ ([(31, 11, 14, 3, 5, 203)] : List AF), FLok mr_302 q) (AL_c (CK_0 mt_251 (bi_6_7 MM_5) mfv_251) (AL_c (CK_0 mt_223 (bi_6_7 MM_11) mfv_223) (AL_c (CK_0 mt_237 (bi_6_6 MM_4) mfv_237) (AL_c (CK_0 mt_318 (bi_6_7 MM_1) mfv_318) (AL_c (CK_0 mt_299 (bi_6_9 MM_5) mfv_299) (AL_c (CK_0 mt_300 (bi_6_9 MM_13) mfv_300) (AL_c (CK_0 mt_234 (bi_6_10 MM_5) mfv_234) (AL_c (CK_0 mt_209 (bi_6_10 MM_9) mfv_209) (AL_c (CK_0 mt_304 (bi_6_11 MM_2) mfv_304) (AL_c (CK_0 mt_303 (bi_6_11 MM_14) mfv_303) (AL_c (CK_0 mt_323 (bi_6_8 MM_0) mfv_323) (AL_c (CK_0 mt_189 (bi_6_5 MM_6) mfv_189) (AL_c (CK_0 mt_288 (bi_6_8 MM_4) mfv_288) AL_n)))))))))))) : ∀ q ∈ ([(156, 0, 251, 6, 117), (166, 0, 223, 6, 123), (144, 0, 237, 6, 100), (163, 0, 318, 6, 113), (228, 0, 299, 6, 149), (231, 0, 300, 6, 157), (197, 0, 234, 6, 165), (200, 0, 209, 6, 169), (234, 0, 304, 6, 178), (237, 0, 303, 6, 190), (189, 0, 323, 6, 128), (160, 0, 189, 6, 86), (174, 0, 288, 6, 132)] : List AK), CKok MT mr_302 q) AL_n AL_n AL_n (AL_c (XS_0 21 rfl) (AL_c (XS_0 22 rfl) (AL_c (XS_0 23 rfl) (AL_c (XS_0 24 rfl) (AL_c (XS_0 25 rfl) (AL_c (XS_0 26 rfl) (AL_c (XS_0 27 rfl) (AL_c (XS_0 28 rfl) (AL_c (XS_0 35 rfl) AL_n)))))))) : ∀ q ∈ ([(212, 0, 2, 0, 0), (214, 0, 6, 0, 0), (216, 0, 3, 0, 0), (218, 0, 17, 0, 0), (220, 0, 9, 0, 0), (222, 0, 5, 0, 0), (224, 0, 1, 0, 0), (226, 0, 0, 0, 0), (240, 0, 15, 0, 0)] : List AKs), XOK mr_302 q)
set_option maxRecDepth 20000 in
theorem gk_302 : GOK mr_302 := GK_r (bi_6_8 MM_12) cni_RX11 (plain_of cpl_RX11) cnh_RX11 pds_11
set_option maxRecDepth 20000 in
theorem ok_303 : FOK MT mr_303 := FK_r (FW_r (by decide +kernel) (by decide +kernel)) (AL_c (FL_0 rfl rfl (bi_5_12 MM_7) rfl) (AL_c (FL_0 rfl rfl (bi_5_12 MM_8) rfl) (AL_c (FL_3 rfl rfl (bi_5_12 MM_11)) AL_n)) : ∀ q ∈ ([(120, 11, 10, 0, 5, 199), (131, 11, 11, 0, 5, 200), (31, 11, 14, 3, 5, 203)] : List AF), FLok mr_303 q) (AL_c (CK_0 mt_234 (bi_6_10 MM_5) mfv_234) (AL_c (CK_0 mt_237 (bi_6_6 MM_4) mfv_237) (AL_c (CK_0 mt_223 (bi_6_7 MM_11) mfv_223) AL_n)) : ∀ q ∈ ([(197, 0, 234, 6, 165), (144, 0, 237, 6, 100), (166, 0, 223, 6, 123)] : List AK), CKok MT mr_303 q) AL_n AL_n AL_n AL_n
set_option maxRecDepth 20000 in
theorem gk_303 : GOK mr_303 := GK_r (bi_6_12 MM_1) cni_RX11 (plain_of cpl_RX11) cnh_RX11 pds_14
set_option maxRecDepth 20000 in
theorem ok_304 : FOK MT mr_304 := FK_r (FW_r (by decide +kernel) (by decide +kernel)) (AL_c (FL_3 rfl rfl (bi_5_12 MM_11)) (AL_c (FL_0 rfl rfl (bi_5_12 MM_8) rfl) AL_n) : ∀ q ∈ ([(31, 11, 14, 3, 5, 203), (131, 11, 11, 0, 5, 200)] : List AF), FLok mr_304 q) (AL_c (CK_0 mt_260 (bi_6_10 MM_1) mfv_260) (AL_c (CK_0 mt_217 (bi_6_11 MM_6) mfv_217) (AL_c (CK_0 mt_257 (bi_6_11 MM_10) mfv_257) (AL_c (CK_0 mt_223 (bi_6_7 MM_11) mfv_223) (AL_c (CK_0 mt_288 (bi_6_8 MM_4) mfv_288) (AL_c (CK_0 mt_237 (bi_6_6 MM_4) mfv_237) AL_n))))) : ∀ q ∈ ([(193, 0, 260, 6, 161), (206, 0, 217, 6, 182), (209, 0, 257, 6, 186), (166, 0, 223, 6, 123), (174, 0, 288, 6, 132), (144, 0, 237, 6, 100)] : List AK), CKok MT mr_304 q) AL_n AL_n AL_n AL_n
set_option maxRecDepth 20000 in
theorem gk_304 : GOK mr_304 := GK_r (bi_6_11 MM_5) cni_RX11 (plain_of cpl_RX11) cnh_RX11 pds_11
set_option maxRecDepth 20000 in
theorem ok_305 : FOK MT mr_305 := FK_r (FW_r (by decide +kernel) (by decide +kernel)) AL_n (AL_c (CK_0 mt_290 (bi_6_12 MM_12) mfv_290) AL_n : ∀ q ∈ ([(265, 0, 290, 6, 204)] : List AK), CKok MT mr_305 q) AL_n AL_n AL_n AL_n
set_option maxRecDepth 20000 in
theorem gk_305 : GOK mr_305 := GK_r (bi_7_1 MM_10) cni_RX11 (plain_of cpl_RX11) cnh_RX11 pds_7
set_option maxRecDepth 20000 in
theorem ok_306 : FOK MT mr_306 := FK_r (FW_r (by decide +kernel) (by decide +kernel)) AL_n (AL_c (CK_0 mt_254 (bi_6_12 MM_7) mfv_254) (AL_c (CK_0 mt_269 (bi_6_14 MM_12) mfv_269) (AL_c (CK_0 mt_267 (bi_7_14 MM_4) mfv_267) (AL_c (CK_0 mt_261 (bi_8_0 MM_0) mfv_261) AL_n))) : ∀ q ∈ ([(302, 0, 254, 6, 199), (97, 0, 269, 6, 236), (371, 0, 267, 7, 228), (377, 0, 261, 8, 0)] : List AK), CKok MT mr_306 q) AL_n AL_n AL_n AL_n
set_option maxRecDepth 20000 in
theorem gk_306 : GOK mr_306 := GK_r (bi_8_0 MM_7) cni_RX11 (plain_of cpl_RX11) cnh_RX11 pds_7
set_option maxRecDepth 20000 in
theorem ok_307 : FOK MT mr_307 := FK_r (FW_r (by decide +kernel) (by decide +kernel)) AL_n (AL_c (CK_0 mt_254 (bi_6_12 MM_7) mfv_254) (AL_c (CK_0 mt_269 (bi_6_14 MM_12) mfv_269) (AL_c (CK_0 mt_267 (bi_7_14 MM_4) mfv_267) (AL_c (CK_0 mt_261 (bi_8_0 MM_0) mfv_261) AL_n))) : ∀ q ∈ ([(302, 0, 254, 6, 199), (97, 0, 269, 6, 236), (371, 0, 267, 7, 228), (377, 0, 261, 8, 0)] : List AK), CKok MT mr_307 q) AL_n AL_n AL_n AL_n
set_option maxRecDepth 20000 in
theorem gk_307 : GOK mr_307 := GK_r (bi_7_14 MM_15) cni_RX11 (plain_of cpl_RX11) cnh_RX11 pds_7
set_option maxRecDepth 20000 in
theorem ok_308 : FOK MT mr_308 := FK_r (FW_r (by decide +kernel) (by decide +kernel)) (AL_c (FL_3 rfl rfl (bi_5_13 MM_13)) (AL_c (FL_3 rfl rfl (bi_5_13 MM_14)) (AL_c (FL_3 rfl rfl (bi_5_13 MM_15)) AL_n)) : ∀ q ∈ ([(67, 11, 32, 3, 5, 221), (70, 11, 33, 3, 5, 222), (73, 11, 34, 3, 5, 223)] : List AF), FLok mr_308 q) (AL_c (CK_2 mt_266 (bi_8_2 MM_4) mfs_266) (AL_c (CK_2 mt_249 (bi_6_3 MM_15) mfs_249) AL_n) : ∀ q ∈ ([(389, 2, 266, 8, 36), (89, 2, 249, 6, 63)] : List AK), CKok MT mr_308 q) AL_n (AL_c (W_r (bi_6_12 MM_11) rfl) AL_n : ∀ q ∈ ([(305, 3, 6, 203)] : List AKl), Cond.constantLong (my mr_308).cls q.1 q.2.1 ∈ TBL) AL_n AL_n
set_option maxRecDepth 20000 in
theorem gk_308 : GOK mr_308 := GK_r (bi_8_11 MM_14) cni_RX11 (plain_of cpl_RX11) cnh_RX11 pds_17
set_option maxRecDepth 20000 in
theorem ok_309 : FOK MT mr_309 := FK_r (FW_r (by decide +kernel) (by decide +kernel)) (AL_c (FL_3 rfl rfl (bi_5_12 MM_12)) (AL_c (FL_3 rfl rfl (bi_5_12 MM_13)) AL_n) : ∀ q ∈ ([(34, 11, 15, 3, 5, 204), (37, 11, 16, 3, 5, 205)] : List AF), FLok mr_309 q) (AL_c (CK_0 mt_254 (bi_6_12 MM_7) mfv_254) (AL_c (CK_2 mt_249 (bi_6_3 MM_15) mfs_249) (AL_c (CK_0 mt_272 (bi_7_1 MM_3) mfv_272) (AL_c (CK_0 mt_271 (bi_7_1 MM_11) mfv_271) (AL_c (CK_0 mt_229 (bi_7_2 MM_7) mfv_229) AL_n)))) : ∀ q ∈ ([(302, 0, 254, 6, 199), (89, 2, 249, 6, 63), (290, 0, 272, 7, 19), (296, 0, 271, 7, 27), (284, 0, 229, 7, 39)] : List AK), CKok MT mr_309 q) AL_n (AL_c (W_r (bi_6_3 MM_14) rfl) AL_n : ∀ q ∈ ([(87, 2, 6, 62)] : List AKl), Cond.constantLong (my mr_309).cls q.1 q.2.1 ∈ TBL) AL_n AL_n
set_option maxRecDepth 20000 in
theorem gk_309 : GOK mr_309 := GK_r (bi_7_4 MM_13) cni_RX11 (plain_of cpl_RX11) cnh_RX11 pds_10
set_option maxRecDepth 20000 in
theorem ok_310 : FOK MT mr_310 := FK_r (FW_r (by decide +kernel) (by decide +kernel)) (AL_c (FL_0 rfl rfl (bi_5_12 MM_15) rfl) (AL_c (FL_3 rfl rfl (bi_5_12 MM_14)) AL_n) : ∀ q ∈ ([(253, 11, 18, 0, 5, 207), (40, 11, 17, 3, 5, 206)] : List AF), FLok mr_310 q) (AL_c (CK_0 mt_254 (bi_6_12 MM_7) mfv_254) (AL_c (CK_0 mt_272 (bi_7_1 MM_3) mfv_272) (AL_c (CK_0 mt_271 (bi_7_1 MM_11) mfv_271) (AL_c (CK_0 mt_252 (bi_7_2 MM_11) mfv_252) AL_n))) : ∀ q ∈ ([(302, 0, 254, 6, 199), (290, 0, 272, 7, 19), (296, 0, 271, 7, 27), (275, 0, 252, 7, 43)] : List AK), CKok MT mr_310 q) AL_n AL_n AL_n AL_n
set_option maxRecDepth 20000 in
theorem gk_310 : GOK mr_310 := GK_r (bi_7_5 MM_1) cni_RX11 (plain_of cpl_RX11) cnh_RX11 pds_7
set_option maxRecDepth 20000 in
theorem ok_311 : FOK MT mr_311 := FK_r (FW_r (by decide +kernel) (by decide +kernel)) (AL_c (FL_3 rfl rfl (bi_5_11 MM_14)) AL_n : ∀ q ∈ ([(9, 11, 1, 3, 5, 190)] : List AF), FLok mr_311 q) (AL_c (CK_0 mt_198 (bi_8_2 MM_0) mfv_198) (AL_c (CK_0 mt_213 (bi_7_0 MM_15) mfv_213) (AL_c (CK_0 mt_218 (bi_8_2 MM_11) mfv_218) AL_n)) : ∀ q ∈ ([(396, 0, 198, 8, 32), (317, 0, 213, 7, 15), (400, 0, 218, 8, 43)] : List AK), CKok MT mr_311 q) AL_n AL_n AL_n AL_n
set_option maxRecDepth 20000 in
theorem gk_311 : GOK mr_311 := GK_r (bi_8_1 MM_15) cni_RX11 (plain_of cpl_RX11) cnh_RX11 pds_7
set_option maxRecDepth 20000 in
theorem ok_312 : FOK MT mr_312 := FK_r (FW_r (by decide +kernel) (by decide +kernel)) (AL_c (FL_0 rfl rfl (bi_5_12 MM_2) rfl) (AL_c (FL_0 rfl rfl (bi_5_12 MM_4) rfl) (AL_c (FL_0 rfl rfl (bi_5_12 MM_5) rfl) (AL_c (FL_0 rfl rfl (bi_5_12 MM_9) rfl) (AL_c (FL_0 rfl rfl (bi_5_12 MM_10) rfl) (AL_c (FL_3 rfl rfl (bi_5_12 MM_11)) (AL_c (FL_0 rfl rfl (bi_5_12 MM_7) rfl) (AL_c (FL_3 rfl rfl (bi_5_11 MM_14)) AL_n))))))) : ∀ q ∈ ([(104, 11, 5, 0, 5, 194), (107, 11, 7, 0, 5, 196), (110, 11, 8, 0, 5, 197), (141, 11, 12, 0, 5, 201), (27, 11, 13, 0, 5, 202), (31, 11, 14, 3, 5, 203), (120, 11, 10, 0, 5, 199), (9, 11, 1, 3, 5, 190)] : List AF), FLok mr_312 q) (AL_c (CK_0 mt_189 (bi_6_5 MM_6) mfv_189) (AL_c (CK_0 mt_237 (bi_6_6 MM_4) mfv_237) (AL_c (CK_0 mt_301 (bi_6_6 MM_8) mfv_301) AL_n)) : ∀ q ∈ ([(160, 0, 189, 6, 86), (144, 0, 237, 6, 100), (250, 0, 301, 6, 104)] : List AK), CKok MT mr_312 q) AL_n AL_n AL_n AL_n
set_option maxRecDepth 20000 in
theorem gk_312 : GOK mr_312 := GK_r (bi_6_5 MM_5) cni_RX11 (plain_of cpl_RX11) cnh_RX11 pds_4
set_option maxRecDepth 20000 in
theorem ok_313 : FOK MT mr_313 := FK_r (FW_r (by decide +kernel) (by decide +kernel)) (AL_c (FL_0 rfl rfl (bi_5_12 MM_4) rfl) (AL_c (FL_3 rfl rfl (bi_5_12 MM_1)) AL_n) : ∀ q ∈ ([(107, 11, 7, 0, 5, 196), (20, 11, 4, 3, 5, 193)] : List AF), FLok mr_313 q) AL_n AL_n AL_n AL_n AL_n
set_option maxRecDepth 20000 in
theorem gk_313 : GOK mr_313 := GK_r (bi_6_5 MM_13) cni_RX11 (plain_of cpl_RX11) cnh_RX11 pds_7
set_option maxRecDepth 20000 in
theorem ok_314 : FOK MT mr_314 := FK_r (FW_r (by decide +kernel) (by decide +kernel)) AL_n (AL_c (CK_2 mt_268 (bi_7_9 MM_14) mfs_268) (AL_c (CK_0 mt_195 (bi_7_5 MM_14) mfv_195) (AL_c (CK_2 mt_249 (bi_6_3 MM_15) mfs_249) (AL_c (CK_0 mt_272 (bi_7_1 MM_3) mfv_272) (AL_c (CK_0 mt_192 (bi_7_6 MM_2) mfv_192) (AL_c (CK_2 mt_203 (bi_7_0 MM_0) mfs_203) (AL_c (CK_0 mt_275 (bi_7_10 MM_5) mfv_275) AL_n)))))) : ∀ q ∈ ([(347, 2, 268, 7, 158), (324, 0, 195, 7, 94), (89, 2, 249, 6, 63), (290, 0, 272, 7, 19), (101, 0, 192, 7, 98), (256, 2, 203, 7, 0), (343, 0, 275, 7, 165)] : List AK), CKok MT mr_314 q) AL_n (AL_c (W_r (bi_7_11 MM_5) rfl) AL_n : ∀ q ∈ ([(353, 16, 7, 181)] : List AKl), Cond.constantLong (my mr_314).cls q.1 q.2.1 ∈ TBL) AL_n AL_n
set_option maxRecDepth 20000 in
theorem gk_314 : GOK mr_314 := GK_r (bi_7_11 MM_4) cni_RX11 (plain_of cpl_RX11) cnh_RX11 pds_17
set_option maxRecDepth 20000 in
theorem ok_315 : FOK MT mr_315 := FK_r (FW_r (by decide +kernel) (by decide +kernel)) (AL_c (FL_0 rfl rfl (bi_5_13 MM_12) rfl) AL_n : ∀ q ∈ ([(453, 11, 31, 0, 5, 220)] : List AF), FLok mr_315 q) (AL_c (CK_2 mt_265 (bi_8_10 MM_5) mfs_265) (AL_c (CK_0 mt_254 (bi_6_12 MM_7) mfv_254) (AL_c (CK_2 mt_249 (bi_6_3 MM_15) mfs_249) (AL_c (CK_0 mt_316 (bi_8_10 MM_9) mfv_316) (AL_c (CK_0 mt_283 (bi_7_6 MM_10) mfv_283) AL_n)))) : ∀ q ∈ ([(468, 2, 265, 8, 165), (302, 0, 254, 6, 199), (89, 2, 249, 6, 63), (471, 0, 316, 8, 169), (330, 0, 283, 7, 106)] : List AK), CKok MT mr_315 q) AL_n (AL_c (W_r (bi_6_3 MM_14) rfl) AL_n : ∀ q ∈ ([(87, 2, 6, 62)] : List AKl), Cond.constantLong (my mr_315).cls q.1 q.2.1 ∈ TBL) AL_n AL_n
set_option maxRecDepth 20000 in
theorem gk_315 : GOK mr_315 := GK_r (bi_8_10 MM_4) cni_RX11 (plain_of cpl_RX11) cnh_RX11 pds_17
set_option maxRecDepth 20000 in
theorem ok_316 : FOK MT mr_316 := FK_r (FW_r (by decide +kernel) (by decide +kernel)) (AL_c (FL_0 rfl rfl (bi_5_13 MM_12) rfl) AL_n : ∀ q ∈ ([(453, 11, 31, 0, 5, 220)] : List AF), FLok mr_316 q) (AL_c (CK_0 mt_213 (bi_7_0 MM_15) mfv_213) (AL_c (CK_0 mt_269 (bi_6_14 MM_12) mfv_269) (AL_c (CK_0 mt_290 (bi_6_12 MM_12) mfv_290) AL_n)) : ∀ q ∈ ([(317, 0, 213, 7, 15), (97, 0, 269, 6, 236), (265, 0, 290, 6, 204)] : List AK), CKok MT mr_316 q) AL_n (AL_c (W_r (bi_8_10 MM_13) rfl) (AL_c (W_r (bi_8_10 MM_14) rfl) (AL_c (W_r (bi_8_10 MM_15) rfl) (AL_c (W_r (bi_8_11 MM_0) rfl) (AL_c (W_r (bi_8_11 MM_1) rfl) AL_n)))) : ∀ q ∈ ([(456, 1103515245, 8, 173), (458, 12345, 8, 174), (460, 2147483648, 8, 175), (462, 65536, 8, 176), (464, 100, 8, 177)] : List AKl), Cond.constantLong (my mr_316).cls q.1 q.2.1 ∈ TBL) AL_n AL_n
set_option maxRecDepth 20000 in
theorem gk_316 : GOK mr_316 := GK_r (bi_8_10 MM_12) cni_RX11 (plain_of cpl_RX11) cnh_RX11 pds_45
set_option maxRecDepth 20000 in
theorem ok_317 : FOK MT mr_317 := FK_r (FW_r (by decide +kernel) (by decide +kernel)) (AL_c (FL_0 rfl rfl (bi_5_12 MM_15) rfl) (AL_c (FL_3 rfl rfl (bi_5_12 MM_14)) AL_n) : ∀ q ∈ ([(253, 11, 18, 0, 5, 207), (40, 11, 17, 3, 5, 206)] : List AF), FLok mr_317 q) (AL_c (CK_2 mt_249 (bi_6_3 MM_15) mfs_249) (AL_c (CK_0 mt_198 (bi_8_2 MM_0) mfv_198) (AL_c (CK_0 mt_272 (bi_7_1 MM_3) mfv_272) (AL_c (CK_0 mt_192 (bi_7_6 MM_2) mfv_192) (AL_c (CK_0 mt_218 (bi_8_2 MM_11) mfv_218) AL_n)))) : ∀ q ∈ ([(89, 2, 249, 6, 63), (396, 0, 198, 8, 32), (290, 0, 272, 7, 19), (101, 0, 192, 7, 98), (400, 0, 218, 8, 43)] : List AK), CKok MT mr_317 q) AL_n AL_n AL_n AL_n
set_option maxRecDepth 20000 in
theorem gk_317 : GOK mr_317 := GK_r (bi_8_5 MM_10) cni_RX11 (plain_of cpl_RX11) cnh_RX11 pds_10
set_option maxRecDepth 20000 in
theorem ok_318 : FOK MT mr_318 := FK_r (FW_r (by decide +kernel) (by decide +kernel)) AL_n (AL_c (CK_0 mt_251 (bi_6_7 MM_5) mfv_251) (AL_c (CK_0 mt_189 (bi_6_5 MM_6) mfv_189) AL_n) : ∀ q ∈ ([(156, 0, 251, 6, 117), (160, 0, 189, 6, 86)] : List AK), CKok MT mr_318 q) AL_n AL_n AL_n AL_n
set_option maxRecDepth 20000 in
theorem gk_318 : GOK mr_318 := GK_r (bi_6_7 MM_4) cni_RX11 (plain_of cpl_RX11) cnh_RX11 pds_29
set_option maxRecDepth 20000 in
theorem ok_319 : FOK MT mr_319 := FK_r (FW_r (by decide +kernel) (by decide +kernel)) (AL_c (FL_3 rfl rfl (bi_5_11 MM_14)) AL_n : ∀ q ∈ ([(9, 11, 1, 3, 5, 190)] : List AF), FLok mr_319 q) AL_n AL_n AL_n AL_n AL_n
set_option maxRecDepth 20000 in
theorem gk_319 : GOK mr_319 := GK_r (bi_8_7 MM_15) cni_RX11 (plain_of cpl_RX11) cnh_RX11 pds_7
set_option maxRecDepth 20000 in
theorem ok_320 : FOK MT mr_320 := FK_r (FW_r (by decide +kernel) (by decide +kernel)) (AL_c (FL_3 rfl rfl (bi_5_11 MM_14)) AL_n : ∀ q ∈ ([(9, 11, 1, 3, 5, 190)] : List AF), FLok mr_320 q) (AL_c (CK_0 mt_254 (bi_6_12 MM_7) mfv_254) (AL_c (CK_0 mt_259 (bi_7_0 MM_11) mfv_259) (AL_c (CK_2 mt_249 (bi_6_3 MM_15) mfs_249) (AL_c (CK_0 mt_290 (bi_6_12 MM_12) mfv_290) (AL_c (CK_2 mt_281 (bi_6_10 MM_15) mfs_281) AL_n)))) : ∀ q ∈ ([(302, 0, 254, 6, 199), (313, 0, 259, 7, 11), (89, 2, 249, 6, 63), (265, 0, 290, 6, 204), (203, 2, 281, 6, 175)] : List AK), CKok MT mr_320 q) AL_n AL_n AL_n AL_n
set_option maxRecDepth 20000 in
theorem gk_320 : GOK mr_320 := GK_r (bi_7_8 MM_1) cni_RX11 (plain_of cpl_RX11) cnh_RX11 pds_17
set_option maxRecDepth 20000 in
theorem ok_321 : FOK MT mr_321 := FK_r (FW_r (by decide +kernel) (by decide +kernel)) (AL_c (FL_0 rfl rfl (bi_5_13 MM_3) rfl) (AL_c (FL_0 rfl rfl (bi_5_13 MM_4) rfl) (AL_c (FL_0 rfl rfl (bi_5_12 MM_15) rfl) (AL_c (FL_3 rfl rfl (bi_5_12 MM_14)) AL_n))) : ∀ q ∈ ([(380, 11, 22, 0, 5, 211), (383, 11, 23, 0, 5, 212), (253, 11, 18, 0, 5, 207), (40, 11, 17, 3, 5, 206)] : List AF), FLok mr_321 q) (AL_c (CK_0 mt_272 (bi_7_1 MM_3) mfv_272) (AL_c (CK_0 mt_273 (bi_7_10 MM_9) mfv_273) (AL_c (CK_0 mt_274 (bi_7_2 MM_3) mfv_274) (AL_c (CK_2 mt_203 (bi_7_0 MM_0) mfs_203) AL_n))) : ∀ q ∈ ([(290, 0, 272, 7, 19), (340, 0, 273, 7, 169), (299, 0, 274, 7, 35), (256, 2, 203, 7, 0)] : List AK), CKok MT mr_321 q) AL_n AL_n AL_n AL_n
set_option maxRecDepth 20000 in
theorem gk_321 : GOK mr_321 := GK_r (bi_8_1 MM_3) cni_RX11 (plain_of cpl_RX11) cnh_RX11 pds_1
set_option maxRecDepth 20000 in
theorem ok_322 : FOK MT mr_322 := FK_r (FW_r (by decide +kernel) (by decide +kernel)) (AL_c (FL_3 rfl rfl (bi_5_11 MM_14)) AL_n : ∀ q ∈ ([(9, 11, 1, 3, 5, 190)] : List AF), FLok mr_322 q) (AL_c (CK_0 mt_264 (bi_6_14 MM_0) mfv_264) (AL_c (CK_0 mt_277 (bi_8_7 MM_0) mfv_277) AL_n) : ∀ q ∈ ([(93, 0, 264, 6, 224), (445, 0, 277, 8, 112)] : List AK), CKok MT mr_322 q) AL_n AL_n AL_n AL_n
set_option maxRecDepth 20000 in
theorem gk_322 : GOK mr_322 := GK_r (bi_8_9 MM_7) cni_RX11 (plain_of cpl_RX11) cnh_RX11 pds_4
set_option maxRecDepth 20000 in
theorem ok_323 : FOK MT mr_323 := FK_r (FW_r (by decide +kernel) (by decide +kernel)) AL_n (AL_c (CK_0 mt_286 (bi_6_6 MM_13) mfv_286) (AL_c (CK_0 mt_288 (bi_6_8 MM_4) mfv_288) AL_n) : ∀ q ∈ ([(170, 0, 286, 6, 109), (174, 0, 288, 6, 132)] : List AK), CKok MT mr_323 q) AL_n AL_n AL_n AL_n
set_option maxRecDepth 20000 in
theorem gk_323 : GOK mr_323 := GK_r (bi_6_8 MM_3) cni_RX11 (plain_of cpl_RX11) cnh_RX11 pds_46
set_option maxRecDepth 20000 in
theorem ok_324 : FOK MT mr_324 := FK_r (FW_r (by decide +kernel) (by decide +kernel)) (AL_c (FL_0 rfl rfl (bi_5_12 MM_15) rfl) (AL_c (FL_3 rfl rfl (bi_5_12 MM_14)) (AL_c (FL_3 rfl rfl (bi_5_12 MM_12)) (AL_c (FL_3 rfl rfl (bi_5_12 MM_13)) AL_n))) : ∀ q ∈ ([(253, 11, 18, 0, 5, 207), (40, 11, 17, 3, 5, 206), (34, 11, 15, 3, 5, 204), (37, 11, 16, 3, 5, 205)] : List AF), FLok mr_324 q) (AL_c (CK_0 mt_195 (bi_7_5 MM_14) mfv_195) (AL_c (CK_2 mt_249 (bi_6_3 MM_15) mfs_249) (AL_c (CK_0 mt_272 (bi_7_1 MM_3) mfv_272) AL_n)) : ∀ q ∈ ([(324, 0, 195, 7, 94), (89, 2, 249, 6, 63), (290, 0, 272, 7, 19)] : List AK), CKok MT mr_324 q) AL_n AL_n AL_n AL_n
set_option maxRecDepth 20000 in
theorem gk_324 : GOK mr_324 := GK_r (bi_7_5 MM_13) cni_RX11 (plain_of cpl_RX11) cnh_RX11 pds_10
set_option maxRecDepth 20000 in
theorem ok_325 : FOK MT mr_325 := FK_r (FW_r (by decide +kernel) (by decide +kernel)) (AL_c (FL_3 rfl rfl (bi_5_11 MM_14)) AL_n : ∀ q ∈ ([(9, 11, 1, 3, 5, 190)] : List AF), FLok mr_325 q) (AL_c (CK_0 mt_254 (bi_6_12 MM_7) mfv_254) (AL_c (CK_2 mt_249 (bi_6_3 MM_15) mfs_249) (AL_c (CK_0 mt_290 (bi_6_12 MM_12) mfv_290) AL_n)) : ∀ q ∈ ([(302, 0, 254, 6, 199), (89, 2, 249, 6, 63), (265, 0, 290, 6, 204)] : List AK), CKok MT mr_325 q) AL_n (AL_c (W_r (bi_6_3 MM_14) rfl) (AL_c (W_r (bi_8_9 MM_12) rfl) AL_n) : ∀ q ∈ ([(87, 2, 6, 62), (451, 50, 8, 156)] : List AKl), Cond.constantLong (my mr_325).cls q.1 q.2.1 ∈ TBL) AL_n AL_n
set_option maxRecDepth 20000 in
theorem gk_325 : GOK mr_325 := GK_r (bi_8_9 MM_11) cni_RX11 (plain_of cpl_RX11) cnh_RX11 pds_17
set_option maxRecDepth 20000 in
theorem ok_326 : FOK MT mr_326 := FK_r (FW_r (by decide +kernel) (by decide +kernel)) AL_n (AL_c (CK_0 mt_254 (bi_6_12 MM_7) mfv_254) (AL_c (CK_0 mt_259 (bi_7_0 MM_11) mfv_259) (AL_c (CK_0 mt_327 (bi_7_12 MM_7) mfv_327) AL_n)) : ∀ q ∈ ([(302, 0, 254, 6, 199), (313, 0, 259, 7, 11), (359, 0, 327, 7, 199)] : List AK), CKok MT mr_326 q) AL_n AL_n AL_n AL_n
set_option maxRecDepth 20000 in
theorem gk_326 : GOK mr_326 := GK_r (bi_7_12 MM_14) cni_RX11 (plain_of cpl_RX11) cnh_RX11 pds_10
set_option maxRecDepth 20000 in
theorem ok_327 : FOK MT mr_327 := FK_r (FW_r (by decide +kernel) (by decide +kernel)) AL_n (AL_c (CK_0 mt_213 (bi_7_0 MM_15) mfv_213) (AL_c (CK_0 mt_269 (bi_6_14 MM_12) mfv_269) (AL_c (CK_2 mt_202 (bi_7_2 MM_15) mfs_202) (AL_c (CK_2 mt_203 (bi_7_0 MM_0) mfs_203) AL_n))) : ∀ q ∈ ([(317, 0, 213, 7, 15), (97, 0, 269, 6, 236), (272, 2, 202, 7, 47), (256, 2, 203, 7, 0)] : List AK), CKok MT mr_327 q) AL_n AL_n AL_n AL_n
set_option maxRecDepth 20000 in
theorem gk_327 : GOK mr_327 := GK_r (bi_7_12 MM_10) cni_RX11 (plain_of cpl_RX11) cnh_RX11 pds_10
set_option maxRecDepth 20000 in
theorem ok_328 : FOK MT mr_328 := FK_r (FW_r (by decide +kernel) (by decide +kernel)) AL_n (AL_c (CK_0 mt_254 (bi_6_12 MM_7) mfv_254) (AL_c (CK_0 mt_259 (bi_7_0 MM_11) mfv_259) (AL_c (CK_0 mt_327 (bi_7_12 MM_7) mfv_327) (AL_c (CK_2 mt_203 (bi_7_0 MM_0) mfs_203) AL_n))) : ∀ q ∈ ([(302, 0, 254, 6, 199), (313, 0, 259, 7, 11), (359, 0, 327, 7, 199), (256, 2, 203, 7, 0)] : List AK), CKok MT mr_328 q) AL_n AL_n AL_n AL_n
set_option maxRecDepth 20000 in
theorem gk_328 : GOK mr_328 := GK_r (bi_7_12 MM_6) cni_RX11 (plain_of cpl_RX11) cnh_RX11 pds_10
set_option maxRecDepth 20000 in
theorem ok_329 : FOK MT mr_329 := FK_r (FW_r (by decide +kernel) (by decide +kernel)) (AL_c (FL_3 rfl rfl (bi_5_11 MM_14)) AL_n : ∀ q ∈ ([(9, 11, 1, 3, 5, 190)] : List AF), FLok mr_329 q) (AL_c (CK_0 mt_264 (bi_6_14 MM_0) mfv_264) AL_n : ∀ q ∈ ([(93, 0, 264, 6, 224)] : List AK), CKok MT mr_329 q) AL_n AL_n AL_n AL_n
set_option maxRecDepth 20000 in
theorem gk_329 : GOK mr_329 := GK_r (bi_7_8 MM_5) cni_RX11 (plain_of cpl_RX11) cnh_RX11 pds_4
set_option maxRecDepth 20000 in
theorem ok_330 : FOK MT mr_330 := FK_r (FW_r (by decide +kernel) (by decide +kernel)) AL_n (AL_c (CK_0 mt_254 (bi_6_12 MM_7) mfv_254) (AL_c (CK_2 mt_249 (bi_6_3 MM_15) mfs_249) (AL_c (CK_0 mt_211 (bi_7_14 MM_8) mfv_211) (AL_c (CK_0 mt_295 (bi_7_11 MM_15) mfv_295) (AL_c (CK_2 mt_203 (bi_7_0 MM_0) mfs_203) AL_n)))) : ∀ q ∈ ([(302, 0, 254, 6, 199), (89, 2, 249, 6, 63), (374, 0, 211, 7, 232), (356, 0, 295, 7, 191), (256, 2, 203, 7, 0)] : List AK), CKok MT mr_330 q) (AL_c (W_r (bi_7_11 MM_10) rfl) AL_n : ∀ q ∈ ([(355, 1000000, 7, 186)] : List AKi), Cond.constant (my mr_330).cls q.1 q.2.1 ∈ TBL) AL_n AL_n AL_n
set_option maxRecDepth 20000 in
theorem gk_330 : GOK mr_330 := GK_r (bi_8_0 MM_11) cni_RX11 (plain_of cpl_RX11) cnh_RX11 pds_10
set_option maxRecDepth 20000 in
theorem ok_331 : FOK MT mr_331 := FK_r (FW_r (by decide +kernel) (by decide +kernel)) AL_n (AL_c (CK_0 mt_254 (bi_6_12 MM_7) mfv_254) (AL_c (CK_0 mt_259 (bi_7_0 MM_11) mfv_259) (AL_c (CK_0 mt_305 (bi_7_1 MM_7) mfv_305) (AL_c (CK_0 mt_271 (bi_7_1 MM_11) mfv_271) (AL_c (CK_0 mt_290 (bi_6_12 MM_12) mfv_290) (AL_c (CK_0 mt_204 (bi_7_3 MM_2) mfv_204) AL_n))))) : ∀ q ∈ ([(302, 0, 254, 6, 199), (313, 0, 259, 7, 11), (293, 0, 305, 7, 23), (296, 0, 271, 7, 27), (265, 0, 290, 6, 204), (287, 0, 204, 7, 50)] : List AK), CKok MT mr_331 q) AL_n AL_n AL_n AL_n
set_option maxRecDepth 20000 in
theorem gk_331 : GOK mr_331 := GK_r (bi_7_4 MM_9) cni_RX11 (plain_of cpl_RX11) cnh_RX11 pds_10
set_option maxRecDepth 20000 in
theorem ok_332 : FOK MT mr_332 := FK_r (FW_r (by decide +kernel) (by decide +kernel)) (AL_c (FL_0 rfl rfl (bi_5_12 MM_15) rfl) (AL_c (FL_3 rfl rfl (bi_5_12 MM_14)) AL_n) : ∀ q ∈ ([(253, 11, 18, 0, 5, 207), (40, 11, 17, 3, 5, 206)] : List AF), FLok mr_332 q) (AL_c (CK_0 mt_218 (bi_8_2 MM_11) mfv_218) (AL_c (CK_2 mt_202 (bi_7_2 MM_15) mfs_202) (AL_c (CK_2 mt_10 (bi_8_6 MM_7) mfs_10) AL_n)) : ∀ q ∈ ([(400, 0, 218, 8, 43), (272, 2, 202, 7, 47), (418, 2, 10, 8, 103)] : List AK), CKok MT mr_332 q) AL_n AL_n AL_n AL_n
set_option maxRecDepth 20000 in
theorem gk_332 : GOK mr_332 := GK_r (bi_8_6 MM_6) cni_RX11 (plain_of cpl_RX11) cnh_RX11 pds_10
set_option maxRecDepth 20000 in
theorem ok_333 : FOK MT mr_333 := FK_r (FW_r (by decide +kernel) (by decide +kernel)) (AL_c (FL_3 rfl rfl (bi_5_13 MM_13)) (AL_c (FL_3 rfl rfl (bi_5_13 MM_15)) (AL_c (FL_3 rfl rfl (bi_5_13 MM_14)) AL_n)) : ∀ q ∈ ([(67, 11, 32, 3, 5, 221), (73, 11, 34, 3, 5, 223), (70, 11, 33, 3, 5, 222)] : List AF), FLok mr_333 q) (AL_c (CK_2 mt_266 (bi_8_2 MM_4) mfs_266) (AL_c (CK_2 mt_249 (bi_6_3 MM_15) mfs_249) (AL_c (CK_2 mt_208 (bi_8_12 MM_3) mfs_208) AL_n)) : ∀ q ∈ ([(389, 2, 266, 8, 36), (89, 2, 249, 6, 63), (477, 2, 208, 8, 195)] : List AK), CKok MT mr_333 q) AL_n AL_n AL_n AL_n
set_option maxRecDepth 20000 in
theorem gk_333 : GOK mr_333 := GK_r (bi_8_12 MM_2) cni_RX11 (plain_of cpl_RX11) cnh_RX11 pds_37
set_option maxRecDepth 20000 in
theorem ok_334 : FOK MT mr_334 := FK_r (FW_r (by decide +kernel) (by decide +kernel)) (AL_c (FL_3 rfl rfl (bi_5_11 MM_14)) AL_n : ∀ q ∈ ([(9, 11, 1, 3, 5, 190)] : List AF), FLok mr_334 q) (AL_c (CK_0 mt_254 (bi_6_12 MM_7) mfv_254) (AL_c (CK_0 mt_213 (bi_7_0 MM_15) mfv_213) (AL_c (CK_0 mt_262 (bi_7_6 MM_14) mfv_262) AL_n)) : ∀ q ∈ ([(302, 0, 254, 6, 199), (317, 0, 213, 7, 15), (327, 0, 262, 7, 110)] : List AK), CKok MT mr_334 q) AL_n AL_n AL_n AL_n
set_option maxRecDepth 20000 in
theorem gk_334 : GOK mr_334 := GK_r (bi_7_7 MM_5) cni_RX11 (plain_of cpl_RX11) cnh_RX11 pds_7
set_option maxRecDepth 20000 in
theorem ok_335 : FOK MT mr_335 := FK_r (FW_r (by decide +kernel) (by decide +kernel)) AL_n (AL_c (CK_2 mt_265 (bi_8_10 MM_5) mfs_265) (AL_c (CK_2 mt_249 (bi_6_3 MM_15) mfs_249) (AL_c (CK_0 mt_254 (bi_6_12 MM_7) mfv_254) (AL_c (CK_0 mt_316 (bi_8_10 MM_9) mfv_316) (AL_c (CK_0 mt_283 (bi_7_6 MM_10) mfv_283) AL_n)))) : ∀ q ∈ ([(468, 2, 265, 8, 165), (89, 2, 249, 6, 63), (302, 0, 254, 6, 199), (471, 0, 316, 8, 169), (330, 0, 283, 7, 106)] : List AK), CKok MT mr_335 q) AL_n (AL_c (W_r (bi_8_11 MM_6) rfl) AL_n : ∀ q ∈ ([(475, 20, 8, 182)] : List AKl), Cond.constantLong (my mr_335).cls q.1 q.2.1 ∈ TBL) AL_n AL_n
set_option maxRecDepth 20000 in
theorem gk_335 : GOK mr_335 := GK_r (bi_8_11 MM_5) cni_RX11 (plain_of cpl_RX11) cnh_RX11 pds_38

