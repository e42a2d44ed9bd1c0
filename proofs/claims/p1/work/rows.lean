section
-- ===== PART A: goes FIRST, ahead of the names: the tables' words, and 'selects' of the private methods out of them =====
/-- a private method of a class that the tables say can be made, by its rows of tables_1 -/
def lw_okq (q : MethodName × Nat) : Prop := (q.1.cls ≠ "java/lang/invoke/MethodHandle" ∧ q.1.cls ≠ "java/lang/invoke/VarHandle") ∧ Cond.instantiable q.1.cls q.2 ∈ tables_1 ∧ Cond.privateMethod q.1 ∈ tables_1 ∧ Cond.instanceMethod q.1 ∈ tables_1
theorem lw_p0 : lw_okq (⟨"DoorSchool$Tape", "append", "(I)V"⟩, 2) := ⟨⟨by decide +kernel, by decide +kernel⟩, List.mem_of_getElem? (i := 30) (by decide +kernel), List.mem_of_getElem? (i := 378) (by decide +kernel), List.mem_of_getElem? (i := 379) (by decide +kernel)⟩
theorem lw_p1 : lw_okq (⟨"DoorSchool$Reader", "read", "(LDoorSchool$Plan;)V"⟩, 7) := ⟨⟨by decide +kernel, by decide +kernel⟩, List.mem_of_getElem? (i := 47) (by decide +kernel), List.mem_of_getElem? (i := 390) (by decide +kernel), List.mem_of_getElem? (i := 391) (by decide +kernel)⟩
theorem lw_p2 : lw_okq (⟨"DoorSchool$Plan", "clear", "()V"⟩, 16) := ⟨⟨by decide +kernel, by decide +kernel⟩, List.mem_of_getElem? (i := 175) (by decide +kernel), List.mem_of_getElem? (i := 394) (by decide +kernel), List.mem_of_getElem? (i := 395) (by decide +kernel)⟩
theorem lw_p3 : lw_okq (⟨"DoorSchool$Reader", "step", "()V"⟩, 7) := ⟨⟨by decide +kernel, by decide +kernel⟩, List.mem_of_getElem? (i := 47) (by decide +kernel), List.mem_of_getElem? (i := 401) (by decide +kernel), List.mem_of_getElem? (i := 402) (by decide +kernel)⟩
theorem lw_p4 : lw_okq (⟨"DoorSchool$Reader", "kindAt", "(I)I"⟩, 7) := ⟨⟨by decide +kernel, by decide +kernel⟩, List.mem_of_getElem? (i := 47) (by decide +kernel), List.mem_of_getElem? (i := 408) (by decide +kernel), List.mem_of_getElem? (i := 409) (by decide +kernel)⟩
theorem lw_p5 : lw_okq (⟨"DoorSchool$Reader", "readFirst", "(LDoorSchool$Plan;)V"⟩, 7) := ⟨⟨by decide +kernel, by decide +kernel⟩, List.mem_of_getElem? (i := 47) (by decide +kernel), List.mem_of_getElem? (i := 416) (by decide +kernel), List.mem_of_getElem? (i := 417) (by decide +kernel)⟩
theorem lw_p6 : lw_okq (⟨"DoorSchool$Reader", "stands", "(Ljava/lang/String;)Z"⟩, 7) := ⟨⟨by decide +kernel, by decide +kernel⟩, List.mem_of_getElem? (i := 47) (by decide +kernel), List.mem_of_getElem? (i := 421) (by decide +kernel), List.mem_of_getElem? (i := 422) (by decide +kernel)⟩
theorem lw_p7 : lw_okq (⟨"DoorSchool$Reader", "pass", "(Z)V"⟩, 7) := ⟨⟨by decide +kernel, by decide +kernel⟩, List.mem_of_getElem? (i := 47) (by decide +kernel), List.mem_of_getElem? (i := 473) (by decide +kernel), List.mem_of_getElem? (i := 474) (by decide +kernel)⟩
theorem lw_p8 : lw_okq (⟨"DoorSchool$Reader", "blame", "(I)V"⟩, 7) := ⟨⟨by decide +kernel, by decide +kernel⟩, List.mem_of_getElem? (i := 47) (by decide +kernel), List.mem_of_getElem? (i := 477) (by decide +kernel), List.mem_of_getElem? (i := 478) (by decide +kernel)⟩
theorem lw_p9 : lw_okq (⟨"DoorSchool$Reader", "takeNumber", "(II)I"⟩, 7) := ⟨⟨by decide +kernel, by decide +kernel⟩, List.mem_of_getElem? (i := 47) (by decide +kernel), List.mem_of_getElem? (i := 482) (by decide +kernel), List.mem_of_getElem? (i := 483) (by decide +kernel)⟩
theorem lw_p10 : lw_okq (⟨"DoorSchool$Reader", "numberHere", "(II)I"⟩, 7) := ⟨⟨by decide +kernel, by decide +kernel⟩, List.mem_of_getElem? (i := 47) (by decide +kernel), List.mem_of_getElem? (i := 486) (by decide +kernel), List.mem_of_getElem? (i := 487) (by decide +kernel)⟩
theorem lw_p11 : lw_okq (⟨"DoorSchool$Reader", "readDoor", "(LDoorSchool$Plan;)V"⟩, 7) := ⟨⟨by decide +kernel, by decide +kernel⟩, List.mem_of_getElem? (i := 47) (by decide +kernel), List.mem_of_getElem? (i := 492) (by decide +kernel), List.mem_of_getElem? (i := 493) (by decide +kernel)⟩
theorem lw_p12 : lw_okq (⟨"DoorSchool$Reader", "takeWay", "()I"⟩, 7) := ⟨⟨by decide +kernel, by decide +kernel⟩, List.mem_of_getElem? (i := 47) (by decide +kernel), List.mem_of_getElem? (i := 496) (by decide +kernel), List.mem_of_getElem? (i := 497) (by decide +kernel)⟩
theorem lw_p13 : lw_okq (⟨"DoorSchool$Door", "begin", "(II)V"⟩, 4) := ⟨⟨by decide +kernel, by decide +kernel⟩, List.mem_of_getElem? (i := 205) (by decide +kernel), List.mem_of_getElem? (i := 504) (by decide +kernel), List.mem_of_getElem? (i := 505) (by decide +kernel)⟩
theorem lw_p14 : lw_okq (⟨"DoorSchool$Reader", "readLesson", "(LDoorSchool$Plan;)V"⟩, 7) := ⟨⟨by decide +kernel, by decide +kernel⟩, List.mem_of_getElem? (i := 47) (by decide +kernel), List.mem_of_getElem? (i := 509) (by decide +kernel), List.mem_of_getElem? (i := 510) (by decide +kernel)⟩
theorem lw_p15 : lw_okq (⟨"DoorSchool$Reader", "readSaid", "(LDoorSchool$Plan;LDoorSchool$Lessons;)V"⟩, 7) := ⟨⟨by decide +kernel, by decide +kernel⟩, List.mem_of_getElem? (i := 47) (by decide +kernel), List.mem_of_getElem? (i := 513) (by decide +kernel), List.mem_of_getElem? (i := 514) (by decide +kernel)⟩
def lw_privs_1 : List (MethodName × Nat) := [(⟨"DoorSchool$Tape", "append", "(I)V"⟩, 2), (⟨"DoorSchool$Reader", "read", "(LDoorSchool$Plan;)V"⟩, 7), (⟨"DoorSchool$Plan", "clear", "()V"⟩, 16), (⟨"DoorSchool$Reader", "step", "()V"⟩, 7), (⟨"DoorSchool$Reader", "kindAt", "(I)I"⟩, 7), (⟨"DoorSchool$Reader", "readFirst", "(LDoorSchool$Plan;)V"⟩, 7), (⟨"DoorSchool$Reader", "stands", "(Ljava/lang/String;)Z"⟩, 7), (⟨"DoorSchool$Reader", "pass", "(Z)V"⟩, 7), (⟨"DoorSchool$Reader", "blame", "(I)V"⟩, 7), (⟨"DoorSchool$Reader", "takeNumber", "(II)I"⟩, 7), (⟨"DoorSchool$Reader", "numberHere", "(II)I"⟩, 7), (⟨"DoorSchool$Reader", "readDoor", "(LDoorSchool$Plan;)V"⟩, 7), (⟨"DoorSchool$Reader", "takeWay", "()I"⟩, 7), (⟨"DoorSchool$Door", "begin", "(II)V"⟩, 4), (⟨"DoorSchool$Reader", "readLesson", "(LDoorSchool$Plan;)V"⟩, 7), (⟨"DoorSchool$Reader", "readSaid", "(LDoorSchool$Plan;LDoorSchool$Lessons;)V"⟩, 7)]
theorem lw_r1 : ∀ q ∈ lw_privs_1, lw_okq q := List.forall_mem_cons.mpr ⟨lw_p0, List.forall_mem_cons.mpr ⟨lw_p1, List.forall_mem_cons.mpr ⟨lw_p2, List.forall_mem_cons.mpr ⟨lw_p3, List.forall_mem_cons.mpr ⟨lw_p4, List.forall_mem_cons.mpr ⟨lw_p5, List.forall_mem_cons.mpr ⟨lw_p6, List.forall_mem_cons.mpr ⟨lw_p7, List.forall_mem_cons.mpr ⟨lw_p8, List.forall_mem_cons.mpr ⟨lw_p9, List.forall_mem_cons.mpr ⟨lw_p10, List.forall_mem_cons.mpr ⟨lw_p11, List.forall_mem_cons.mpr ⟨lw_p12, List.forall_mem_cons.mpr ⟨lw_p13, List.forall_mem_cons.mpr ⟨lw_p14, List.forall_mem_cons.mpr ⟨lw_p15, fun _ h => absurd h List.not_mem_nil⟩⟩⟩⟩⟩⟩⟩⟩⟩⟩⟩⟩⟩⟩⟩⟩
theorem lw_p16 : lw_okq (⟨"DoorSchool$Plan", "knocks", "()I"⟩, 16) := ⟨⟨by decide +kernel, by decide +kernel⟩, List.mem_of_getElem? (i := 175) (by decide +kernel), List.mem_of_getElem? (i := 517) (by decide +kernel), List.mem_of_getElem? (i := 518) (by decide +kernel)⟩
theorem lw_p17 : lw_okq (⟨"DoorSchool$Lessons", "add", "(II)V"⟩, 3) := ⟨⟨by decide +kernel, by decide +kernel⟩, List.mem_of_getElem? (i := 183) (by decide +kernel), List.mem_of_getElem? (i := 523) (by decide +kernel), List.mem_of_getElem? (i := 524) (by decide +kernel)⟩
theorem lw_p18 : lw_okq (⟨"DoorSchool$Lessons", "putIn", "(III)V"⟩, 3) := ⟨⟨by decide +kernel, by decide +kernel⟩, List.mem_of_getElem? (i := 183) (by decide +kernel), List.mem_of_getElem? (i := 527) (by decide +kernel), List.mem_of_getElem? (i := 528) (by decide +kernel)⟩
theorem lw_p19 : lw_okq (⟨"DoorSchool$Reader", "readExam", "(LDoorSchool$Plan;)V"⟩, 7) := ⟨⟨by decide +kernel, by decide +kernel⟩, List.mem_of_getElem? (i := 47) (by decide +kernel), List.mem_of_getElem? (i := 532) (by decide +kernel), List.mem_of_getElem? (i := 533) (by decide +kernel)⟩
theorem lw_p20 : lw_okq (⟨"DoorSchool$Reader", "readTwin", "(LDoorSchool$Plan;)V"⟩, 7) := ⟨⟨by decide +kernel, by decide +kernel⟩, List.mem_of_getElem? (i := 47) (by decide +kernel), List.mem_of_getElem? (i := 537) (by decide +kernel), List.mem_of_getElem? (i := 538) (by decide +kernel)⟩
theorem lw_p21 : lw_okq (⟨"DoorSchool$Plan", "isCopied", "(I)Z"⟩, 16) := ⟨⟨by decide +kernel, by decide +kernel⟩, List.mem_of_getElem? (i := 175) (by decide +kernel), List.mem_of_getElem? (i := 541) (by decide +kernel), List.mem_of_getElem? (i := 542) (by decide +kernel)⟩
theorem lw_p22 : lw_okq (⟨"DoorSchool$Reader", "readOwner", "(LDoorSchool$Plan;)V"⟩, 7) := ⟨⟨by decide +kernel, by decide +kernel⟩, List.mem_of_getElem? (i := 47) (by decide +kernel), List.mem_of_getElem? (i := 546) (by decide +kernel), List.mem_of_getElem? (i := 547) (by decide +kernel)⟩
theorem lw_p23 : lw_okq (⟨"DoorSchool$Reader", "takePart", "(I)I"⟩, 7) := ⟨⟨by decide +kernel, by decide +kernel⟩, List.mem_of_getElem? (i := 47) (by decide +kernel), List.mem_of_getElem? (i := 550) (by decide +kernel), List.mem_of_getElem? (i := 551) (by decide +kernel)⟩
theorem lw_p24 : lw_okq (⟨"DoorSchool$Reader", "readHouse", "(LDoorSchool$Plan;)V"⟩, 7) := ⟨⟨by decide +kernel, by decide +kernel⟩, List.mem_of_getElem? (i := 47) (by decide +kernel), List.mem_of_getElem? (i := 555) (by decide +kernel), List.mem_of_getElem? (i := 556) (by decide +kernel)⟩
theorem lw_p25 : lw_okq (⟨"DoorSchool$Reader", "readCourse", "(LDoorSchool$Plan;)V"⟩, 7) := ⟨⟨by decide +kernel, by decide +kernel⟩, List.mem_of_getElem? (i := 47) (by decide +kernel), List.mem_of_getElem? (i := 560) (by decide +kernel), List.mem_of_getElem? (i := 561) (by decide +kernel)⟩
theorem lw_p26 : lw_okq (⟨"DoorSchool$Reader", "readAhead", "(LDoorSchool$Plan;)V"⟩, 7) := ⟨⟨by decide +kernel, by decide +kernel⟩, List.mem_of_getElem? (i := 47) (by decide +kernel), List.mem_of_getElem? (i := 566) (by decide +kernel), List.mem_of_getElem? (i := 567) (by decide +kernel)⟩
theorem lw_p27 : lw_okq (⟨"DoorSchool$Rules", "prepare", "(I)V"⟩, 5) := ⟨⟨by decide +kernel, by decide +kernel⟩, List.mem_of_getElem? (i := 77) (by decide +kernel), List.mem_of_getElem? (i := 570) (by decide +kernel), List.mem_of_getElem? (i := 571) (by decide +kernel)⟩
theorem lw_p28 : lw_okq (⟨"DoorSchool$Rules", "addAllOf", "(I)V"⟩, 5) := ⟨⟨by decide +kernel, by decide +kernel⟩, List.mem_of_getElem? (i := 77) (by decide +kernel), List.mem_of_getElem? (i := 575) (by decide +kernel), List.mem_of_getElem? (i := 576) (by decide +kernel)⟩
theorem lw_p29 : lw_okq (⟨"DoorSchool$Rules", "deedsOf", "(II)I"⟩, 5) := ⟨⟨by decide +kernel, by decide +kernel⟩, List.mem_of_getElem? (i := 77) (by decide +kernel), List.mem_of_getElem? (i := 579) (by decide +kernel), List.mem_of_getElem? (i := 580) (by decide +kernel)⟩
theorem lw_p30 : lw_okq (⟨"DoorSchool$Plan", "isDoor", "(I)Z"⟩, 16) := ⟨⟨by decide +kernel, by decide +kernel⟩, List.mem_of_getElem? (i := 175) (by decide +kernel), List.mem_of_getElem? (i := 591) (by decide +kernel), List.mem_of_getElem? (i := 592) (by decide +kernel)⟩
theorem lw_p31 : lw_okq (⟨"DoorSchool$Plan", "exists", "()Z"⟩, 16) := ⟨⟨by decide +kernel, by decide +kernel⟩, List.mem_of_getElem? (i := 175) (by decide +kernel), List.mem_of_getElem? (i := 610) (by decide +kernel), List.mem_of_getElem? (i := 611) (by decide +kernel)⟩
def lw_privs_2 : List (MethodName × Nat) := [(⟨"DoorSchool$Plan", "knocks", "()I"⟩, 16), (⟨"DoorSchool$Lessons", "add", "(II)V"⟩, 3), (⟨"DoorSchool$Lessons", "putIn", "(III)V"⟩, 3), (⟨"DoorSchool$Reader", "readExam", "(LDoorSchool$Plan;)V"⟩, 7), (⟨"DoorSchool$Reader", "readTwin", "(LDoorSchool$Plan;)V"⟩, 7), (⟨"DoorSchool$Plan", "isCopied", "(I)Z"⟩, 16), (⟨"DoorSchool$Reader", "readOwner", "(LDoorSchool$Plan;)V"⟩, 7), (⟨"DoorSchool$Reader", "takePart", "(I)I"⟩, 7), (⟨"DoorSchool$Reader", "readHouse", "(LDoorSchool$Plan;)V"⟩, 7), (⟨"DoorSchool$Reader", "readCourse", "(LDoorSchool$Plan;)V"⟩, 7), (⟨"DoorSchool$Reader", "readAhead", "(LDoorSchool$Plan;)V"⟩, 7), (⟨"DoorSchool$Rules", "prepare", "(I)V"⟩, 5), (⟨"DoorSchool$Rules", "addAllOf", "(I)V"⟩, 5), (⟨"DoorSchool$Rules", "deedsOf", "(II)I"⟩, 5), (⟨"DoorSchool$Plan", "isDoor", "(I)Z"⟩, 16), (⟨"DoorSchool$Plan", "exists", "()Z"⟩, 16)]
theorem lw_r2 : ∀ q ∈ lw_privs_2, lw_okq q := List.forall_mem_cons.mpr ⟨lw_p16, List.forall_mem_cons.mpr ⟨lw_p17, List.forall_mem_cons.mpr ⟨lw_p18, List.forall_mem_cons.mpr ⟨lw_p19, List.forall_mem_cons.mpr ⟨lw_p20, List.forall_mem_cons.mpr ⟨lw_p21, List.forall_mem_cons.mpr ⟨lw_p22, List.forall_mem_cons.mpr ⟨lw_p23, List.forall_mem_cons.mpr ⟨lw_p24, List.forall_mem_cons.mpr ⟨lw_p25, List.forall_mem_cons.mpr ⟨lw_p26, List.forall_mem_cons.mpr ⟨lw_p27, List.forall_mem_cons.mpr ⟨lw_p28, List.forall_mem_cons.mpr ⟨lw_p29, List.forall_mem_cons.mpr ⟨lw_p30, List.forall_mem_cons.mpr ⟨lw_p31, fun _ h => absurd h List.not_mem_nil⟩⟩⟩⟩⟩⟩⟩⟩⟩⟩⟩⟩⟩⟩⟩⟩
theorem lw_p32 : lw_okq (⟨"DoorSchool$Plan", "isHouse", "(I)Z"⟩, 16) := ⟨⟨by decide +kernel, by decide +kernel⟩, List.mem_of_getElem? (i := 175) (by decide +kernel), List.mem_of_getElem? (i := 614) (by decide +kernel), List.mem_of_getElem? (i := 615) (by decide +kernel)⟩
theorem lw_p33 : lw_okq (⟨"DoorSchool$Plan", "isKnock", "(I)Z"⟩, 16) := ⟨⟨by decide +kernel, by decide +kernel⟩, List.mem_of_getElem? (i := 175) (by decide +kernel), List.mem_of_getElem? (i := 624) (by decide +kernel), List.mem_of_getElem? (i := 625) (by decide +kernel)⟩
theorem lw_p34 : lw_okq (⟨"DoorSchool", "doneBy", "(I)I"⟩, 11) := ⟨⟨by decide +kernel, by decide +kernel⟩, List.mem_of_getElem? (i := 22) (by decide +kernel), List.mem_of_getElem? (i := 630) (by decide +kernel), List.mem_of_getElem? (i := 631) (by decide +kernel)⟩
theorem lw_p35 : lw_okq (⟨"DoorSchool$Plan", "modelOf", "(I)LDoorSchool$Door;"⟩, 16) := ⟨⟨by decide +kernel, by decide +kernel⟩, List.mem_of_getElem? (i := 175) (by decide +kernel), List.mem_of_getElem? (i := 634) (by decide +kernel), List.mem_of_getElem? (i := 635) (by decide +kernel)⟩
theorem lw_p36 : lw_okq (⟨"DoorSchool$Learner", "learn", "(ILDoorSchool$Lessons;)I"⟩, 2) := ⟨⟨by decide +kernel, by decide +kernel⟩, List.mem_of_getElem? (i := 105) (by decide +kernel), List.mem_of_getElem? (i := 638) (by decide +kernel), List.mem_of_getElem? (i := 639) (by decide +kernel)⟩
theorem lw_p37 : lw_okq (⟨"DoorSchool$Lessons", "said", "(I)I"⟩, 3) := ⟨⟨by decide +kernel, by decide +kernel⟩, List.mem_of_getElem? (i := 183) (by decide +kernel), List.mem_of_getElem? (i := 642) (by decide +kernel), List.mem_of_getElem? (i := 643) (by decide +kernel)⟩
theorem lw_p38 : lw_okq (⟨"DoorSchool$Rules", "first", "(II)I"⟩, 5) := ⟨⟨by decide +kernel, by decide +kernel⟩, List.mem_of_getElem? (i := 77) (by decide +kernel), List.mem_of_getElem? (i := 646) (by decide +kernel), List.mem_of_getElem? (i := 647) (by decide +kernel)⟩
theorem lw_p39 : lw_okq (⟨"DoorSchool$Lessons", "latestOf", "(I)I"⟩, 3) := ⟨⟨by decide +kernel, by decide +kernel⟩, List.mem_of_getElem? (i := 183) (by decide +kernel), List.mem_of_getElem? (i := 653) (by decide +kernel), List.mem_of_getElem? (i := 654) (by decide +kernel)⟩
theorem lw_p40 : lw_okq (⟨"DoorSchool$Lessons", "nearestTo", "(I)I"⟩, 3) := ⟨⟨by decide +kernel, by decide +kernel⟩, List.mem_of_getElem? (i := 183) (by decide +kernel), List.mem_of_getElem? (i := 657) (by decide +kernel), List.mem_of_getElem? (i := 658) (by decide +kernel)⟩
theorem lw_p41 : lw_okq (⟨"DoorSchool$Rules", "howMany", "(II)I"⟩, 5) := ⟨⟨by decide +kernel, by decide +kernel⟩, List.mem_of_getElem? (i := 77) (by decide +kernel), List.mem_of_getElem? (i := 689) (by decide +kernel), List.mem_of_getElem? (i := 690) (by decide +kernel)⟩
theorem lw_p42 : lw_okq (⟨"DoorSchool$Plan", "isRule", "(II)Z"⟩, 16) := ⟨⟨by decide +kernel, by decide +kernel⟩, List.mem_of_getElem? (i := 175) (by decide +kernel), List.mem_of_getElem? (i := 697) (by decide +kernel), List.mem_of_getElem? (i := 698) (by decide +kernel)⟩
theorem lw_p43 : lw_okq (⟨"DoorSchool$Plan", "isDeeds", "(I)Z"⟩, 16) := ⟨⟨by decide +kernel, by decide +kernel⟩, List.mem_of_getElem? (i := 175) (by decide +kernel), List.mem_of_getElem? (i := 706) (by decide +kernel), List.mem_of_getElem? (i := 707) (by decide +kernel)⟩
theorem lw_p44 : lw_okq (⟨"DoorSchool$Rules", "placeOf", "(I)I"⟩, 5) := ⟨⟨by decide +kernel, by decide +kernel⟩, List.mem_of_getElem? (i := 77) (by decide +kernel), List.mem_of_getElem? (i := 710) (by decide +kernel), List.mem_of_getElem? (i := 711) (by decide +kernel)⟩
theorem lw_p45 : lw_okq (⟨"DoorSchool", "marksFor", "(I)I"⟩, 11) := ⟨⟨by decide +kernel, by decide +kernel⟩, List.mem_of_getElem? (i := 22) (by decide +kernel), List.mem_of_getElem? (i := 718) (by decide +kernel), List.mem_of_getElem? (i := 719) (by decide +kernel)⟩
theorem lw_p46 : lw_okq (⟨"DoorSchool$Lessons", "allAs", "(I)I"⟩, 3) := ⟨⟨by decide +kernel, by decide +kernel⟩, List.mem_of_getElem? (i := 183) (by decide +kernel), List.mem_of_getElem? (i := 722) (by decide +kernel), List.mem_of_getElem? (i := 723) (by decide +kernel)⟩
theorem lw_p47 : lw_okq (⟨"DoorSchool$Lessons", "firstNotAs", "(I)I"⟩, 3) := ⟨⟨by decide +kernel, by decide +kernel⟩, List.mem_of_getElem? (i := 183) (by decide +kernel), List.mem_of_getElem? (i := 731) (by decide +kernel), List.mem_of_getElem? (i := 732) (by decide +kernel)⟩
def lw_privs_3 : List (MethodName × Nat) := [(⟨"DoorSchool$Plan", "isHouse", "(I)Z"⟩, 16), (⟨"DoorSchool$Plan", "isKnock", "(I)Z"⟩, 16), (⟨"DoorSchool", "doneBy", "(I)I"⟩, 11), (⟨"DoorSchool$Plan", "modelOf", "(I)LDoorSchool$Door;"⟩, 16), (⟨"DoorSchool$Learner", "learn", "(ILDoorSchool$Lessons;)I"⟩, 2), (⟨"DoorSchool$Lessons", "said", "(I)I"⟩, 3), (⟨"DoorSchool$Rules", "first", "(II)I"⟩, 5), (⟨"DoorSchool$Lessons", "latestOf", "(I)I"⟩, 3), (⟨"DoorSchool$Lessons", "nearestTo", "(I)I"⟩, 3), (⟨"DoorSchool$Rules", "howMany", "(II)I"⟩, 5), (⟨"DoorSchool$Plan", "isRule", "(II)Z"⟩, 16), (⟨"DoorSchool$Plan", "isDeeds", "(I)Z"⟩, 16), (⟨"DoorSchool$Rules", "placeOf", "(I)I"⟩, 5), (⟨"DoorSchool", "marksFor", "(I)I"⟩, 11), (⟨"DoorSchool$Lessons", "allAs", "(I)I"⟩, 3), (⟨"DoorSchool$Lessons", "firstNotAs", "(I)I"⟩, 3)]
theorem lw_r3 : ∀ q ∈ lw_privs_3, lw_okq q := List.forall_mem_cons.mpr ⟨lw_p32, List.forall_mem_cons.mpr ⟨lw_p33, List.forall_mem_cons.mpr ⟨lw_p34, List.forall_mem_cons.mpr ⟨lw_p35, List.forall_mem_cons.mpr ⟨lw_p36, List.forall_mem_cons.mpr ⟨lw_p37, List.forall_mem_cons.mpr ⟨lw_p38, List.forall_mem_cons.mpr ⟨lw_p39, List.forall_mem_cons.mpr ⟨lw_p40, List.forall_mem_cons.mpr ⟨lw_p41, List.forall_mem_cons.mpr ⟨lw_p42, List.forall_mem_cons.mpr ⟨lw_p43, List.forall_mem_cons.mpr ⟨lw_p44, List.forall_mem_cons.mpr ⟨lw_p45, List.forall_mem_cons.mpr ⟨lw_p46, List.forall_mem_cons.mpr ⟨lw_p47, fun _ h => absurd h List.not_mem_nil⟩⟩⟩⟩⟩⟩⟩⟩⟩⟩⟩⟩⟩⟩⟩⟩
theorem lw_p48 : lw_okq (⟨"DoorSchool", "isLesson", "(III)Z"⟩, 11) := ⟨⟨by decide +kernel, by decide +kernel⟩, List.mem_of_getElem? (i := 22) (by decide +kernel), List.mem_of_getElem? (i := 747) (by decide +kernel), List.mem_of_getElem? (i := 748) (by decide +kernel)⟩
theorem lw_p49 : lw_okq (⟨"DoorSchool$Lessons", "dropLast", "()V"⟩, 3) := ⟨⟨by decide +kernel, by decide +kernel⟩, List.mem_of_getElem? (i := 183) (by decide +kernel), List.mem_of_getElem? (i := 756) (by decide +kernel), List.mem_of_getElem? (i := 757) (by decide +kernel)⟩
theorem lw_p50 : lw_okq (⟨"DoorSchool$Lessons", "takeOut", "(I)V"⟩, 3) := ⟨⟨by decide +kernel, by decide +kernel⟩, List.mem_of_getElem? (i := 183) (by decide +kernel), List.mem_of_getElem? (i := 760) (by decide +kernel), List.mem_of_getElem? (i := 761) (by decide +kernel)⟩
theorem lw_p51 : lw_okq (⟨"DoorSchool", "gainOf", "(III)I"⟩, 11) := ⟨⟨by decide +kernel, by decide +kernel⟩, List.mem_of_getElem? (i := 22) (by decide +kernel), List.mem_of_getElem? (i := 768) (by decide +kernel), List.mem_of_getElem? (i := 769) (by decide +kernel)⟩
theorem lw_p52 : lw_okq (⟨"DoorSchool$Learner", "leastSet", "(II)I"⟩, 2) := ⟨⟨by decide +kernel, by decide +kernel⟩, List.mem_of_getElem? (i := 105) (by decide +kernel), List.mem_of_getElem? (i := 790) (by decide +kernel), List.mem_of_getElem? (i := 791) (by decide +kernel)⟩
theorem lw_p53 : lw_okq (⟨"DoorSchool$Learner", "allKnocks", "()I"⟩, 2) := ⟨⟨by decide +kernel, by decide +kernel⟩, List.mem_of_getElem? (i := 105) (by decide +kernel), List.mem_of_getElem? (i := 794) (by decide +kernel), List.mem_of_getElem? (i := 795) (by decide +kernel)⟩
theorem lw_p54 : lw_okq (⟨"DoorSchool$Learner", "teaches", "(III)Z"⟩, 2) := ⟨⟨by decide +kernel, by decide +kernel⟩, List.mem_of_getElem? (i := 105) (by decide +kernel), List.mem_of_getElem? (i := 798) (by decide +kernel), List.mem_of_getElem? (i := 799) (by decide +kernel)⟩
theorem lw_p55 : lw_okq (⟨"DoorSchool$Learner", "learnSet", "(III)I"⟩, 2) := ⟨⟨by decide +kernel, by decide +kernel⟩, List.mem_of_getElem? (i := 105) (by decide +kernel), List.mem_of_getElem? (i := 802) (by decide +kernel), List.mem_of_getElem? (i := 803) (by decide +kernel)⟩
theorem lw_p56 : lw_okq (⟨"DoorSchool$Learner", "nearestOf", "(II)I"⟩, 2) := ⟨⟨by decide +kernel, by decide +kernel⟩, List.mem_of_getElem? (i := 105) (by decide +kernel), List.mem_of_getElem? (i := 806) (by decide +kernel), List.mem_of_getElem? (i := 807) (by decide +kernel)⟩
theorem lw_p57 : lw_okq (⟨"DoorSchool$Learner", "needed", "(II)I"⟩, 2) := ⟨⟨by decide +kernel, by decide +kernel⟩, List.mem_of_getElem? (i := 105) (by decide +kernel), List.mem_of_getElem? (i := 811) (by decide +kernel), List.mem_of_getElem? (i := 812) (by decide +kernel)⟩
theorem lw_p58 : lw_okq (⟨"DoorSchool$Learner", "setsOf", "(III)I"⟩, 2) := ⟨⟨by decide +kernel, by decide +kernel⟩, List.mem_of_getElem? (i := 105) (by decide +kernel), List.mem_of_getElem? (i := 827) (by decide +kernel), List.mem_of_getElem? (i := 828) (by decide +kernel)⟩
theorem lw_p59 : lw_okq (⟨"DoorSchool", "fooling", "(I)I"⟩, 11) := ⟨⟨by decide +kernel, by decide +kernel⟩, List.mem_of_getElem? (i := 22) (by decide +kernel), List.mem_of_getElem? (i := 839) (by decide +kernel), List.mem_of_getElem? (i := 840) (by decide +kernel)⟩
theorem lw_p60 : lw_okq (⟨"DoorSchool", "ownerDeeds", "()I"⟩, 11) := ⟨⟨by decide +kernel, by decide +kernel⟩, List.mem_of_getElem? (i := 22) (by decide +kernel), List.mem_of_getElem? (i := 843) (by decide +kernel), List.mem_of_getElem? (i := 844) (by decide +kernel)⟩
theorem lw_p61 : lw_okq (⟨"DoorSchool", "foolingAfter", "(II)I"⟩, 11) := ⟨⟨by decide +kernel, by decide +kernel⟩, List.mem_of_getElem? (i := 22) (by decide +kernel), List.mem_of_getElem? (i := 860) (by decide +kernel), List.mem_of_getElem? (i := 861) (by decide +kernel)⟩
theorem lw_p62 : lw_okq (⟨"DoorSchool", "stolenBy", "(II)I"⟩, 11) := ⟨⟨by decide +kernel, by decide +kernel⟩, List.mem_of_getElem? (i := 22) (by decide +kernel), List.mem_of_getElem? (i := 873) (by decide +kernel), List.mem_of_getElem? (i := 874) (by decide +kernel)⟩
theorem lw_p63 : lw_okq (⟨"DoorSchool", "wouldDo", "(II)I"⟩, 11) := ⟨⟨by decide +kernel, by decide +kernel⟩, List.mem_of_getElem? (i := 22) (by decide +kernel), List.mem_of_getElem? (i := 877) (by decide +kernel), List.mem_of_getElem? (i := 878) (by decide +kernel)⟩
def lw_privs_4 : List (MethodName × Nat) := [(⟨"DoorSchool", "isLesson", "(III)Z"⟩, 11), (⟨"DoorSchool$Lessons", "dropLast", "()V"⟩, 3), (⟨"DoorSchool$Lessons", "takeOut", "(I)V"⟩, 3), (⟨"DoorSchool", "gainOf", "(III)I"⟩, 11), (⟨"DoorSchool$Learner", "leastSet", "(II)I"⟩, 2), (⟨"DoorSchool$Learner", "allKnocks", "()I"⟩, 2), (⟨"DoorSchool$Learner", "teaches", "(III)Z"⟩, 2), (⟨"DoorSchool$Learner", "learnSet", "(III)I"⟩, 2), (⟨"DoorSchool$Learner", "nearestOf", "(II)I"⟩, 2), (⟨"DoorSchool$Learner", "needed", "(II)I"⟩, 2), (⟨"DoorSchool$Learner", "setsOf", "(III)I"⟩, 2), (⟨"DoorSchool", "fooling", "(I)I"⟩, 11), (⟨"DoorSchool", "ownerDeeds", "()I"⟩, 11), (⟨"DoorSchool", "foolingAfter", "(II)I"⟩, 11), (⟨"DoorSchool", "stolenBy", "(II)I"⟩, 11), (⟨"DoorSchool", "wouldDo", "(II)I"⟩, 11)]
theorem lw_r4 : ∀ q ∈ lw_privs_4, lw_okq q := List.forall_mem_cons.mpr ⟨lw_p48, List.forall_mem_cons.mpr ⟨lw_p49, List.forall_mem_cons.mpr ⟨lw_p50, List.forall_mem_cons.mpr ⟨lw_p51, List.forall_mem_cons.mpr ⟨lw_p52, List.forall_mem_cons.mpr ⟨lw_p53, List.forall_mem_cons.mpr ⟨lw_p54, List.forall_mem_cons.mpr ⟨lw_p55, List.forall_mem_cons.mpr ⟨lw_p56, List.forall_mem_cons.mpr ⟨lw_p57, List.forall_mem_cons.mpr ⟨lw_p58, List.forall_mem_cons.mpr ⟨lw_p59, List.forall_mem_cons.mpr ⟨lw_p60, List.forall_mem_cons.mpr ⟨lw_p61, List.forall_mem_cons.mpr ⟨lw_p62, List.forall_mem_cons.mpr ⟨lw_p63, fun _ h => absurd h List.not_mem_nil⟩⟩⟩⟩⟩⟩⟩⟩⟩⟩⟩⟩⟩⟩⟩⟩
theorem lw_p64 : lw_okq (⟨"DoorSchool", "isRest", "(III)Z"⟩, 11) := ⟨⟨by decide +kernel, by decide +kernel⟩, List.mem_of_getElem? (i := 22) (by decide +kernel), List.mem_of_getElem? (i := 885) (by decide +kernel), List.mem_of_getElem? (i := 886) (by decide +kernel)⟩
theorem lw_p65 : lw_okq (⟨"DoorSchool$Learner", "errorsBy", "(II)I"⟩, 2) := ⟨⟨by decide +kernel, by decide +kernel⟩, List.mem_of_getElem? (i := 105) (by decide +kernel), List.mem_of_getElem? (i := 901) (by decide +kernel), List.mem_of_getElem? (i := 902) (by decide +kernel)⟩
theorem lw_p66 : lw_okq (⟨"DoorSchool$Learner", "learntWhole", "(II)I"⟩, 2) := ⟨⟨by decide +kernel, by decide +kernel⟩, List.mem_of_getElem? (i := 105) (by decide +kernel), List.mem_of_getElem? (i := 909) (by decide +kernel), List.mem_of_getElem? (i := 910) (by decide +kernel)⟩
theorem lw_p67 : lw_okq (⟨"DoorSchool", "troubleWith", "(I)I"⟩, 11) := ⟨⟨by decide +kernel, by decide +kernel⟩, List.mem_of_getElem? (i := 22) (by decide +kernel), List.mem_of_getElem? (i := 921) (by decide +kernel), List.mem_of_getElem? (i := 922) (by decide +kernel)⟩
theorem lw_p68 : lw_okq (⟨"DoorSchool$Slot", "isPairs", "(I)Z"⟩, 4) := ⟨⟨by decide +kernel, by decide +kernel⟩, List.mem_of_getElem? (i := 315) (by decide +kernel), List.mem_of_getElem? (i := 928) (by decide +kernel), List.mem_of_getElem? (i := 929) (by decide +kernel)⟩
theorem lw_p69 : lw_okq (⟨"DoorSchool$Slot", "said", "(I)I"⟩, 4) := ⟨⟨by decide +kernel, by decide +kernel⟩, List.mem_of_getElem? (i := 315) (by decide +kernel), List.mem_of_getElem? (i := 932) (by decide +kernel), List.mem_of_getElem? (i := 933) (by decide +kernel)⟩
theorem lw_p70 : lw_okq (⟨"DoorSchool", "hangAll", "()Z"⟩, 11) := ⟨⟨by decide +kernel, by decide +kernel⟩, List.mem_of_getElem? (i := 22) (by decide +kernel), List.mem_of_getElem? (i := 950) (by decide +kernel), List.mem_of_getElem? (i := 951) (by decide +kernel)⟩
theorem lw_p71 : lw_okq (⟨"DoorSchool", "houseDeeds", "(I)I"⟩, 11) := ⟨⟨by decide +kernel, by decide +kernel⟩, List.mem_of_getElem? (i := 22) (by decide +kernel), List.mem_of_getElem? (i := 954) (by decide +kernel), List.mem_of_getElem? (i := 955) (by decide +kernel)⟩
theorem lw_p72 : lw_okq (⟨"DoorSchool$Hanging", "search", "(II)V"⟩, 6) := ⟨⟨by decide +kernel, by decide +kernel⟩, List.mem_of_getElem? (i := 124) (by decide +kernel), List.mem_of_getElem? (i := 958) (by decide +kernel), List.mem_of_getElem? (i := 959) (by decide +kernel)⟩
theorem lw_p73 : lw_okq (⟨"DoorSchool$Hanging", "keepIfBetter", "(I)V"⟩, 6) := ⟨⟨by decide +kernel, by decide +kernel⟩, List.mem_of_getElem? (i := 124) (by decide +kernel), List.mem_of_getElem? (i := 965) (by decide +kernel), List.mem_of_getElem? (i := 966) (by decide +kernel)⟩
theorem lw_p74 : lw_okq (⟨"DoorSchool$Rules", "surely", "(IIZ)I"⟩, 5) := ⟨⟨by decide +kernel, by decide +kernel⟩, List.mem_of_getElem? (i := 77) (by decide +kernel), List.mem_of_getElem? (i := 989) (by decide +kernel), List.mem_of_getElem? (i := 990) (by decide +kernel)⟩
theorem lw_p75 : lw_okq (⟨"DoorSchool", "askedOf", "(LDoorSchool$Slot;)I"⟩, 11) := ⟨⟨by decide +kernel, by decide +kernel⟩, List.mem_of_getElem? (i := 22) (by decide +kernel), List.mem_of_getElem? (i := 997) (by decide +kernel), List.mem_of_getElem? (i := 998) (by decide +kernel)⟩
theorem lw_p76 : lw_okq (⟨"DoorSchool", "leftAtWorst", "(LDoorSchool$Slot;I)I"⟩, 11) := ⟨⟨by decide +kernel, by decide +kernel⟩, List.mem_of_getElem? (i := 22) (by decide +kernel), List.mem_of_getElem? (i := 1001) (by decide +kernel), List.mem_of_getElem? (i := 1002) (by decide +kernel)⟩
theorem lw_p77 : lw_okq (⟨"DoorSchool$Timetable", "solve", "(LDoorSchool$Plan;I)I"⟩, 5) := ⟨⟨by decide +kernel, by decide +kernel⟩, List.mem_of_getElem? (i := 152) (by decide +kernel), List.mem_of_getElem? (i := 1017) (by decide +kernel), List.mem_of_getElem? (i := 1018) (by decide +kernel)⟩
theorem lw_p78 : lw_okq (⟨"DoorSchool$Timetable", "keepIfFirst", "(I)V"⟩, 5) := ⟨⟨by decide +kernel, by decide +kernel⟩, List.mem_of_getElem? (i := 152) (by decide +kernel), List.mem_of_getElem? (i := 1025) (by decide +kernel), List.mem_of_getElem? (i := 1026) (by decide +kernel)⟩
theorem lw_p79 : lw_okq (⟨"DoorSchool$Timetable", "isEarlier", "()Z"⟩, 5) := ⟨⟨by decide +kernel, by decide +kernel⟩, List.mem_of_getElem? (i := 152) (by decide +kernel), List.mem_of_getElem? (i := 1029) (by decide +kernel), List.mem_of_getElem? (i := 1030) (by decide +kernel)⟩
def lw_privs_5 : List (MethodName × Nat) := [(⟨"DoorSchool", "isRest", "(III)Z"⟩, 11), (⟨"DoorSchool$Learner", "errorsBy", "(II)I"⟩, 2), (⟨"DoorSchool$Learner", "learntWhole", "(II)I"⟩, 2), (⟨"DoorSchool", "troubleWith", "(I)I"⟩, 11), (⟨"DoorSchool$Slot", "isPairs", "(I)Z"⟩, 4), (⟨"DoorSchool$Slot", "said", "(I)I"⟩, 4), (⟨"DoorSchool", "hangAll", "()Z"⟩, 11), (⟨"DoorSchool", "houseDeeds", "(I)I"⟩, 11), (⟨"DoorSchool$Hanging", "search", "(II)V"⟩, 6), (⟨"DoorSchool$Hanging", "keepIfBetter", "(I)V"⟩, 6), (⟨"DoorSchool$Rules", "surely", "(IIZ)I"⟩, 5), (⟨"DoorSchool", "askedOf", "(LDoorSchool$Slot;)I"⟩, 11), (⟨"DoorSchool", "leftAtWorst", "(LDoorSchool$Slot;I)I"⟩, 11), (⟨"DoorSchool$Timetable", "solve", "(LDoorSchool$Plan;I)I"⟩, 5), (⟨"DoorSchool$Timetable", "keepIfFirst", "(I)V"⟩, 5), (⟨"DoorSchool$Timetable", "isEarlier", "()Z"⟩, 5)]
theorem lw_r5 : ∀ q ∈ lw_privs_5, lw_okq q := List.forall_mem_cons.mpr ⟨lw_p64, List.forall_mem_cons.mpr ⟨lw_p65, List.forall_mem_cons.mpr ⟨lw_p66, List.forall_mem_cons.mpr ⟨lw_p67, List.forall_mem_cons.mpr ⟨lw_p68, List.forall_mem_cons.mpr ⟨lw_p69, List.forall_mem_cons.mpr ⟨lw_p70, List.forall_mem_cons.mpr ⟨lw_p71, List.forall_mem_cons.mpr ⟨lw_p72, List.forall_mem_cons.mpr ⟨lw_p73, List.forall_mem_cons.mpr ⟨lw_p74, List.forall_mem_cons.mpr ⟨lw_p75, List.forall_mem_cons.mpr ⟨lw_p76, List.forall_mem_cons.mpr ⟨lw_p77, List.forall_mem_cons.mpr ⟨lw_p78, List.forall_mem_cons.mpr ⟨lw_p79, fun _ h => absurd h List.not_mem_nil⟩⟩⟩⟩⟩⟩⟩⟩⟩⟩⟩⟩⟩⟩⟩⟩
theorem lw_p80 : lw_okq (⟨"DoorSchool$Timetable", "earliest", "(LDoorSchool$Plan;I)I"⟩, 5) := ⟨⟨by decide +kernel, by decide +kernel⟩, List.mem_of_getElem? (i := 152) (by decide +kernel), List.mem_of_getElem? (i := 1035) (by decide +kernel), List.mem_of_getElem? (i := 1036) (by decide +kernel)⟩
theorem lw_p81 : lw_okq (⟨"DoorSchool$Timetable", "readyAt", "(LDoorSchool$Plan;I)I"⟩, 5) := ⟨⟨by decide +kernel, by decide +kernel⟩, List.mem_of_getElem? (i := 152) (by decide +kernel), List.mem_of_getElem? (i := 1039) (by decide +kernel), List.mem_of_getElem? (i := 1040) (by decide +kernel)⟩
theorem lw_p82 : lw_okq (⟨"DoorSchool$Timetable", "work", "(III)V"⟩, 5) := ⟨⟨by decide +kernel, by decide +kernel⟩, List.mem_of_getElem? (i := 152) (by decide +kernel), List.mem_of_getElem? (i := 1044) (by decide +kernel), List.mem_of_getElem? (i := 1045) (by decide +kernel)⟩
theorem lw_p83 : lw_okq (⟨"DoorSchool", "doneInStorm", "(II)I"⟩, 11) := ⟨⟨by decide +kernel, by decide +kernel⟩, List.mem_of_getElem? (i := 22) (by decide +kernel), List.mem_of_getElem? (i := 1072) (by decide +kernel), List.mem_of_getElem? (i := 1073) (by decide +kernel)⟩
theorem lw_p84 : lw_okq (⟨"DoorSchool", "fullSlots", "()I"⟩, 11) := ⟨⟨by decide +kernel, by decide +kernel⟩, List.mem_of_getElem? (i := 22) (by decide +kernel), List.mem_of_getElem? (i := 1089) (by decide +kernel), List.mem_of_getElem? (i := 1090) (by decide +kernel)⟩
theorem lw_p85 : lw_okq (⟨"DoorSchool$Plan", "takeFrom", "(LDoorSchool$Plan;)V"⟩, 16) := ⟨⟨by decide +kernel, by decide +kernel⟩, List.mem_of_getElem? (i := 175) (by decide +kernel), List.mem_of_getElem? (i := 1097) (by decide +kernel), List.mem_of_getElem? (i := 1098) (by decide +kernel)⟩
theorem lw_p86 : lw_okq (⟨"DoorSchool$Door", "takeFrom", "(LDoorSchool$Door;)V"⟩, 4) := ⟨⟨by decide +kernel, by decide +kernel⟩, List.mem_of_getElem? (i := 205) (by decide +kernel), List.mem_of_getElem? (i := 1101) (by decide +kernel), List.mem_of_getElem? (i := 1102) (by decide +kernel)⟩
theorem lw_p87 : lw_okq (⟨"DoorSchool$Lessons", "takeFrom", "(LDoorSchool$Lessons;)V"⟩, 3) := ⟨⟨by decide +kernel, by decide +kernel⟩, List.mem_of_getElem? (i := 183) (by decide +kernel), List.mem_of_getElem? (i := 1106) (by decide +kernel), List.mem_of_getElem? (i := 1107) (by decide +kernel)⟩
theorem lw_p88 : lw_okq (⟨"DoorSchool$Slot", "begin", "(II)V"⟩, 4) := ⟨⟨by decide +kernel, by decide +kernel⟩, List.mem_of_getElem? (i := 315) (by decide +kernel), List.mem_of_getElem? (i := 1121) (by decide +kernel), List.mem_of_getElem? (i := 1122) (by decide +kernel)⟩
theorem lw_p89 : lw_okq (⟨"DoorSchool$Slot", "put", "(IJ)V"⟩, 4) := ⟨⟨by decide +kernel, by decide +kernel⟩, List.mem_of_getElem? (i := 315) (by decide +kernel), List.mem_of_getElem? (i := 1132) (by decide +kernel), List.mem_of_getElem? (i := 1133) (by decide +kernel)⟩
theorem lw_p90 : lw_okq (⟨"DoorSchool$Slot", "has", "(II)Z"⟩, 4) := ⟨⟨by decide +kernel, by decide +kernel⟩, List.mem_of_getElem? (i := 315) (by decide +kernel), List.mem_of_getElem? (i := 1140) (by decide +kernel), List.mem_of_getElem? (i := 1141) (by decide +kernel)⟩
theorem lw_p91 : lw_okq (⟨"DoorSchoolModel", "advance", "()V"⟩, 36) := ⟨⟨by decide +kernel, by decide +kernel⟩, List.mem_of_getElem? (i := 1145) (by decide +kernel), List.mem_of_getElem? (i := 1287) (by decide +kernel), List.mem_of_getElem? (i := 1288) (by decide +kernel)⟩
theorem lw_p92 : lw_okq (⟨"DoorSchoolModel", "see", "(I)I"⟩, 36) := ⟨⟨by decide +kernel, by decide +kernel⟩, List.mem_of_getElem? (i := 1145) (by decide +kernel), List.mem_of_getElem? (i := 1291) (by decide +kernel), List.mem_of_getElem? (i := 1292) (by decide +kernel)⟩
theorem lw_p93 : lw_okq (⟨"DoorSchoolModel", "good", "()Z"⟩, 36) := ⟨⟨by decide +kernel, by decide +kernel⟩, List.mem_of_getElem? (i := 1145) (by decide +kernel), List.mem_of_getElem? (i := 1301) (by decide +kernel), List.mem_of_getElem? (i := 1302) (by decide +kernel)⟩
theorem lw_p94 : lw_okq (⟨"DoorSchoolModel", "readLine", "()V"⟩, 36) := ⟨⟨by decide +kernel, by decide +kernel⟩, List.mem_of_getElem? (i := 1145) (by decide +kernel), List.mem_of_getElem? (i := 1305) (by decide +kernel), List.mem_of_getElem? (i := 1306) (by decide +kernel)⟩
theorem lw_p95 : lw_okq (⟨"DoorSchoolModel", "needs", "(Ljava/lang/String;)V"⟩, 36) := ⟨⟨by decide +kernel, by decide +kernel⟩, List.mem_of_getElem? (i := 1145) (by decide +kernel), List.mem_of_getElem? (i := 1310) (by decide +kernel), List.mem_of_getElem? (i := 1311) (by decide +kernel)⟩
def lw_privs_6 : List (MethodName × Nat) := [(⟨"DoorSchool$Timetable", "earliest", "(LDoorSchool$Plan;I)I"⟩, 5), (⟨"DoorSchool$Timetable", "readyAt", "(LDoorSchool$Plan;I)I"⟩, 5), (⟨"DoorSchool$Timetable", "work", "(III)V"⟩, 5), (⟨"DoorSchool", "doneInStorm", "(II)I"⟩, 11), (⟨"DoorSchool", "fullSlots", "()I"⟩, 11), (⟨"DoorSchool$Plan", "takeFrom", "(LDoorSchool$Plan;)V"⟩, 16), (⟨"DoorSchool$Door", "takeFrom", "(LDoorSchool$Door;)V"⟩, 4), (⟨"DoorSchool$Lessons", "takeFrom", "(LDoorSchool$Lessons;)V"⟩, 3), (⟨"DoorSchool$Slot", "begin", "(II)V"⟩, 4), (⟨"DoorSchool$Slot", "put", "(IJ)V"⟩, 4), (⟨"DoorSchool$Slot", "has", "(II)Z"⟩, 4), (⟨"DoorSchoolModel", "advance", "()V"⟩, 36), (⟨"DoorSchoolModel", "see", "(I)I"⟩, 36), (⟨"DoorSchoolModel", "good", "()Z"⟩, 36), (⟨"DoorSchoolModel", "readLine", "()V"⟩, 36), (⟨"DoorSchoolModel", "needs", "(Ljava/lang/String;)V"⟩, 36)]
theorem lw_r6 : ∀ q ∈ lw_privs_6, lw_okq q := List.forall_mem_cons.mpr ⟨lw_p80, List.forall_mem_cons.mpr ⟨lw_p81, List.forall_mem_cons.mpr ⟨lw_p82, List.forall_mem_cons.mpr ⟨lw_p83, List.forall_mem_cons.mpr ⟨lw_p84, List.forall_mem_cons.mpr ⟨lw_p85, List.forall_mem_cons.mpr ⟨lw_p86, List.forall_mem_cons.mpr ⟨lw_p87, List.forall_mem_cons.mpr ⟨lw_p88, List.forall_mem_cons.mpr ⟨lw_p89, List.forall_mem_cons.mpr ⟨lw_p90, List.forall_mem_cons.mpr ⟨lw_p91, List.forall_mem_cons.mpr ⟨lw_p92, List.forall_mem_cons.mpr ⟨lw_p93, List.forall_mem_cons.mpr ⟨lw_p94, List.forall_mem_cons.mpr ⟨lw_p95, fun _ h => absurd h List.not_mem_nil⟩⟩⟩⟩⟩⟩⟩⟩⟩⟩⟩⟩⟩⟩⟩⟩
theorem lw_p96 : lw_okq (⟨"DoorSchoolModel", "takes", "(Ljava/lang/String;)Z"⟩, 36) := ⟨⟨by decide +kernel, by decide +kernel⟩, List.mem_of_getElem? (i := 1145) (by decide +kernel), List.mem_of_getElem? (i := 1314) (by decide +kernel), List.mem_of_getElem? (i := 1315) (by decide +kernel)⟩
theorem lw_p97 : lw_okq (⟨"DoorSchoolModel", "is", "(Ljava/lang/String;)Z"⟩, 36) := ⟨⟨by decide +kernel, by decide +kernel⟩, List.mem_of_getElem? (i := 1145) (by decide +kernel), List.mem_of_getElem? (i := 1318) (by decide +kernel), List.mem_of_getElem? (i := 1319) (by decide +kernel)⟩
theorem lw_p98 : lw_okq (⟨"DoorSchoolModel", "errs", "(I)V"⟩, 36) := ⟨⟨by decide +kernel, by decide +kernel⟩, List.mem_of_getElem? (i := 1145) (by decide +kernel), List.mem_of_getElem? (i := 1324) (by decide +kernel), List.mem_of_getElem? (i := 1325) (by decide +kernel)⟩
theorem lw_p99 : lw_okq (⟨"DoorSchoolModel", "told", "(Ljava/lang/String;II)I"⟩, 36) := ⟨⟨by decide +kernel, by decide +kernel⟩, List.mem_of_getElem? (i := 1145) (by decide +kernel), List.mem_of_getElem? (i := 1329) (by decide +kernel), List.mem_of_getElem? (i := 1330) (by decide +kernel)⟩
theorem lw_p100 : lw_okq (⟨"DoorSchoolModel", "number", "(II)I"⟩, 36) := ⟨⟨by decide +kernel, by decide +kernel⟩, List.mem_of_getElem? (i := 1145) (by decide +kernel), List.mem_of_getElem? (i := 1333) (by decide +kernel), List.mem_of_getElem? (i := 1334) (by decide +kernel)⟩
theorem lw_p101 : lw_okq (⟨"DoorSchoolModel", "readNext", "()V"⟩, 36) := ⟨⟨by decide +kernel, by decide +kernel⟩, List.mem_of_getElem? (i := 1145) (by decide +kernel), List.mem_of_getElem? (i := 1338) (by decide +kernel), List.mem_of_getElem? (i := 1339) (by decide +kernel)⟩
theorem lw_p102 : lw_okq (⟨"DoorSchoolModel", "readDoor", "()V"⟩, 36) := ⟨⟨by decide +kernel, by decide +kernel⟩, List.mem_of_getElem? (i := 1145) (by decide +kernel), List.mem_of_getElem? (i := 1350) (by decide +kernel), List.mem_of_getElem? (i := 1351) (by decide +kernel)⟩
theorem lw_p103 : lw_okq (⟨"DoorSchoolModel", "readLesson", "()V"⟩, 36) := ⟨⟨by decide +kernel, by decide +kernel⟩, List.mem_of_getElem? (i := 1145) (by decide +kernel), List.mem_of_getElem? (i := 1358) (by decide +kernel), List.mem_of_getElem? (i := 1359) (by decide +kernel)⟩
theorem lw_p104 : lw_okq (⟨"DoorSchoolModel", "isNextIn", "(I)Z"⟩, 36) := ⟨⟨by decide +kernel, by decide +kernel⟩, List.mem_of_getElem? (i := 1145) (by decide +kernel), List.mem_of_getElem? (i := 1362) (by decide +kernel), List.mem_of_getElem? (i := 1363) (by decide +kernel)⟩
theorem lw_p105 : lw_okq (⟨"DoorSchoolModel", "freshKnock", "()I"⟩, 36) := ⟨⟨by decide +kernel, by decide +kernel⟩, List.mem_of_getElem? (i := 1145) (by decide +kernel), List.mem_of_getElem? (i := 1366) (by decide +kernel), List.mem_of_getElem? (i := 1367) (by decide +kernel)⟩
theorem lw_p106 : lw_okq (⟨"DoorSchoolModel", "deed", "()I"⟩, 36) := ⟨⟨by decide +kernel, by decide +kernel⟩, List.mem_of_getElem? (i := 1145) (by decide +kernel), List.mem_of_getElem? (i := 1370) (by decide +kernel), List.mem_of_getElem? (i := 1371) (by decide +kernel)⟩
theorem lw_p107 : lw_okq (⟨"DoorSchoolModel", "readTwin", "()V"⟩, 36) := ⟨⟨by decide +kernel, by decide +kernel⟩, List.mem_of_getElem? (i := 1145) (by decide +kernel), List.mem_of_getElem? (i := 1379) (by decide +kernel), List.mem_of_getElem? (i := 1380) (by decide +kernel)⟩
theorem lw_p108 : lw_okq (⟨"DoorSchoolModel", "doesFreshCopy", "(I)Z"⟩, 36) := ⟨⟨by decide +kernel, by decide +kernel⟩, List.mem_of_getElem? (i := 1145) (by decide +kernel), List.mem_of_getElem? (i := 1383) (by decide +kernel), List.mem_of_getElem? (i := 1384) (by decide +kernel)⟩
theorem lw_p109 : lw_okq (⟨"DoorSchoolModel", "isFreshCopied", "(I)Z"⟩, 36) := ⟨⟨by decide +kernel, by decide +kernel⟩, List.mem_of_getElem? (i := 1145) (by decide +kernel), List.mem_of_getElem? (i := 1387) (by decide +kernel), List.mem_of_getElem? (i := 1388) (by decide +kernel)⟩
theorem lw_p110 : lw_okq (⟨"DoorSchoolModel", "readRule", "(I)V"⟩, 36) := ⟨⟨by decide +kernel, by decide +kernel⟩, List.mem_of_getElem? (i := 1145) (by decide +kernel), List.mem_of_getElem? (i := 1391) (by decide +kernel), List.mem_of_getElem? (i := 1392) (by decide +kernel)⟩
theorem lw_p111 : lw_okq (⟨"DoorSchoolModel", "isDoor", "(I)Z"⟩, 36) := ⟨⟨by decide +kernel, by decide +kernel⟩, List.mem_of_getElem? (i := 1145) (by decide +kernel), List.mem_of_getElem? (i := 1400) (by decide +kernel), List.mem_of_getElem? (i := 1401) (by decide +kernel)⟩
def lw_privs_7 : List (MethodName × Nat) := [(⟨"DoorSchoolModel", "takes", "(Ljava/lang/String;)Z"⟩, 36), (⟨"DoorSchoolModel", "is", "(Ljava/lang/String;)Z"⟩, 36), (⟨"DoorSchoolModel", "errs", "(I)V"⟩, 36), (⟨"DoorSchoolModel", "told", "(Ljava/lang/String;II)I"⟩, 36), (⟨"DoorSchoolModel", "number", "(II)I"⟩, 36), (⟨"DoorSchoolModel", "readNext", "()V"⟩, 36), (⟨"DoorSchoolModel", "readDoor", "()V"⟩, 36), (⟨"DoorSchoolModel", "readLesson", "()V"⟩, 36), (⟨"DoorSchoolModel", "isNextIn", "(I)Z"⟩, 36), (⟨"DoorSchoolModel", "freshKnock", "()I"⟩, 36), (⟨"DoorSchoolModel", "deed", "()I"⟩, 36), (⟨"DoorSchoolModel", "readTwin", "()V"⟩, 36), (⟨"DoorSchoolModel", "doesFreshCopy", "(I)Z"⟩, 36), (⟨"DoorSchoolModel", "isFreshCopied", "(I)Z"⟩, 36), (⟨"DoorSchoolModel", "readRule", "(I)V"⟩, 36), (⟨"DoorSchoolModel", "isDoor", "(I)Z"⟩, 36)]
theorem lw_r7 : ∀ q ∈ lw_privs_7, lw_okq q := List.forall_mem_cons.mpr ⟨lw_p96, List.forall_mem_cons.mpr ⟨lw_p97, List.forall_mem_cons.mpr ⟨lw_p98, List.forall_mem_cons.mpr ⟨lw_p99, List.forall_mem_cons.mpr ⟨lw_p100, List.forall_mem_cons.mpr ⟨lw_p101, List.forall_mem_cons.mpr ⟨lw_p102, List.forall_mem_cons.mpr ⟨lw_p103, List.forall_mem_cons.mpr ⟨lw_p104, List.forall_mem_cons.mpr ⟨lw_p105, List.forall_mem_cons.mpr ⟨lw_p106, List.forall_mem_cons.mpr ⟨lw_p107, List.forall_mem_cons.mpr ⟨lw_p108, List.forall_mem_cons.mpr ⟨lw_p109, List.forall_mem_cons.mpr ⟨lw_p110, List.forall_mem_cons.mpr ⟨lw_p111, fun _ h => absurd h List.not_mem_nil⟩⟩⟩⟩⟩⟩⟩⟩⟩⟩⟩⟩⟩⟩⟩⟩
theorem lw_p112 : lw_okq (⟨"DoorSchoolModel", "of", "(II)I"⟩, 36) := ⟨⟨by decide +kernel, by decide +kernel⟩, List.mem_of_getElem? (i := 1145) (by decide +kernel), List.mem_of_getElem? (i := 1405) (by decide +kernel), List.mem_of_getElem? (i := 1406) (by decide +kernel)⟩
theorem lw_p113 : lw_okq (⟨"DoorSchoolModel", "isExam", "(I)Z"⟩, 36) := ⟨⟨by decide +kernel, by decide +kernel⟩, List.mem_of_getElem? (i := 1145) (by decide +kernel), List.mem_of_getElem? (i := 1417) (by decide +kernel), List.mem_of_getElem? (i := 1418) (by decide +kernel)⟩
theorem lw_p114 : lw_okq (⟨"DoorSchoolModel", "isSchool", "()Z"⟩, 36) := ⟨⟨by decide +kernel, by decide +kernel⟩, List.mem_of_getElem? (i := 1145) (by decide +kernel), List.mem_of_getElem? (i := 1425) (by decide +kernel), List.mem_of_getElem? (i := 1426) (by decide +kernel)⟩
theorem lw_p115 : lw_okq (⟨"DoorSchoolModel", "isHouse", "(I)Z"⟩, 36) := ⟨⟨by decide +kernel, by decide +kernel⟩, List.mem_of_getElem? (i := 1145) (by decide +kernel), List.mem_of_getElem? (i := 1429) (by decide +kernel), List.mem_of_getElem? (i := 1430) (by decide +kernel)⟩
theorem lw_p116 : lw_okq (⟨"DoorSchoolModel", "deedsOf", "(II)I"⟩, 36) := ⟨⟨by decide +kernel, by decide +kernel⟩, List.mem_of_getElem? (i := 1145) (by decide +kernel), List.mem_of_getElem? (i := 1433) (by decide +kernel), List.mem_of_getElem? (i := 1434) (by decide +kernel)⟩
theorem lw_p117 : lw_okq (⟨"DoorSchoolModel", "knocks", "()I"⟩, 36) := ⟨⟨by decide +kernel, by decide +kernel⟩, List.mem_of_getElem? (i := 1145) (by decide +kernel), List.mem_of_getElem? (i := 1437) (by decide +kernel), List.mem_of_getElem? (i := 1438) (by decide +kernel)⟩
theorem lw_p118 : lw_okq (⟨"DoorSchoolModel", "isKnock", "(J)Z"⟩, 36) := ⟨⟨by decide +kernel, by decide +kernel⟩, List.mem_of_getElem? (i := 1145) (by decide +kernel), List.mem_of_getElem? (i := 1452) (by decide +kernel), List.mem_of_getElem? (i := 1453) (by decide +kernel)⟩
theorem lw_p119 : lw_okq (⟨"DoorSchoolModel", "deedsOfDoor", "(I)I"⟩, 36) := ⟨⟨by decide +kernel, by decide +kernel⟩, List.mem_of_getElem? (i := 1145) (by decide +kernel), List.mem_of_getElem? (i := 1456) (by decide +kernel), List.mem_of_getElem? (i := 1457) (by decide +kernel)⟩
theorem lw_p120 : lw_okq (⟨"DoorSchoolModel", "layRules", "()V"⟩, 36) := ⟨⟨by decide +kernel, by decide +kernel⟩, List.mem_of_getElem? (i := 1145) (by decide +kernel), List.mem_of_getElem? (i := 1460) (by decide +kernel), List.mem_of_getElem? (i := 1461) (by decide +kernel)⟩
theorem lw_p121 : lw_okq (⟨"DoorSchoolModel", "real", "(I)I"⟩, 36) := ⟨⟨by decide +kernel, by decide +kernel⟩, List.mem_of_getElem? (i := 1145) (by decide +kernel), List.mem_of_getElem? (i := 1464) (by decide +kernel), List.mem_of_getElem? (i := 1465) (by decide +kernel)⟩
theorem lw_p122 : lw_okq (⟨"DoorSchoolModel", "layLessons", "(I)V"⟩, 36) := ⟨⟨by decide +kernel, by decide +kernel⟩, List.mem_of_getElem? (i := 1145) (by decide +kernel), List.mem_of_getElem? (i := 1468) (by decide +kernel), List.mem_of_getElem? (i := 1469) (by decide +kernel)⟩
theorem lw_p123 : lw_okq (⟨"DoorSchoolModel", "add", "(II)V"⟩, 36) := ⟨⟨by decide +kernel, by decide +kernel⟩, List.mem_of_getElem? (i := 1145) (by decide +kernel), List.mem_of_getElem? (i := 1472) (by decide +kernel), List.mem_of_getElem? (i := 1473) (by decide +kernel)⟩
theorem lw_p124 : lw_okq (⟨"DoorSchoolModel", "learns", "(I)I"⟩, 36) := ⟨⟨by decide +kernel, by decide +kernel⟩, List.mem_of_getElem? (i := 1145) (by decide +kernel), List.mem_of_getElem? (i := 1476) (by decide +kernel), List.mem_of_getElem? (i := 1477) (by decide +kernel)⟩
theorem lw_p125 : lw_okq (⟨"DoorSchoolModel", "firstRule", "()I"⟩, 36) := ⟨⟨by decide +kernel, by decide +kernel⟩, List.mem_of_getElem? (i := 1145) (by decide +kernel), List.mem_of_getElem? (i := 1480) (by decide +kernel), List.mem_of_getElem? (i := 1481) (by decide +kernel)⟩
theorem lw_p126 : lw_okq (⟨"DoorSchoolModel", "isAsTold", "(I)Z"⟩, 36) := ⟨⟨by decide +kernel, by decide +kernel⟩, List.mem_of_getElem? (i := 1145) (by decide +kernel), List.mem_of_getElem? (i := 1484) (by decide +kernel), List.mem_of_getElem? (i := 1485) (by decide +kernel)⟩
theorem lw_p127 : lw_okq (⟨"DoorSchoolModel", "byLesson", "(II)I"⟩, 36) := ⟨⟨by decide +kernel, by decide +kernel⟩, List.mem_of_getElem? (i := 1145) (by decide +kernel), List.mem_of_getElem? (i := 1491) (by decide +kernel), List.mem_of_getElem? (i := 1492) (by decide +kernel)⟩
def lw_privs_8 : List (MethodName × Nat) := [(⟨"DoorSchoolModel", "of", "(II)I"⟩, 36), (⟨"DoorSchoolModel", "isExam", "(I)Z"⟩, 36), (⟨"DoorSchoolModel", "isSchool", "()Z"⟩, 36), (⟨"DoorSchoolModel", "isHouse", "(I)Z"⟩, 36), (⟨"DoorSchoolModel", "deedsOf", "(II)I"⟩, 36), (⟨"DoorSchoolModel", "knocks", "()I"⟩, 36), (⟨"DoorSchoolModel", "isKnock", "(J)Z"⟩, 36), (⟨"DoorSchoolModel", "deedsOfDoor", "(I)I"⟩, 36), (⟨"DoorSchoolModel", "layRules", "()V"⟩, 36), (⟨"DoorSchoolModel", "real", "(I)I"⟩, 36), (⟨"DoorSchoolModel", "layLessons", "(I)V"⟩, 36), (⟨"DoorSchoolModel", "add", "(II)V"⟩, 36), (⟨"DoorSchoolModel", "learns", "(I)I"⟩, 36), (⟨"DoorSchoolModel", "firstRule", "()I"⟩, 36), (⟨"DoorSchoolModel", "isAsTold", "(I)Z"⟩, 36), (⟨"DoorSchoolModel", "byLesson", "(II)I"⟩, 36)]
theorem lw_r8 : ∀ q ∈ lw_privs_8, lw_okq q := List.forall_mem_cons.mpr ⟨lw_p112, List.forall_mem_cons.mpr ⟨lw_p113, List.forall_mem_cons.mpr ⟨lw_p114, List.forall_mem_cons.mpr ⟨lw_p115, List.forall_mem_cons.mpr ⟨lw_p116, List.forall_mem_cons.mpr ⟨lw_p117, List.forall_mem_cons.mpr ⟨lw_p118, List.forall_mem_cons.mpr ⟨lw_p119, List.forall_mem_cons.mpr ⟨lw_p120, List.forall_mem_cons.mpr ⟨lw_p121, List.forall_mem_cons.mpr ⟨lw_p122, List.forall_mem_cons.mpr ⟨lw_p123, List.forall_mem_cons.mpr ⟨lw_p124, List.forall_mem_cons.mpr ⟨lw_p125, List.forall_mem_cons.mpr ⟨lw_p126, List.forall_mem_cons.mpr ⟨lw_p127, fun _ h => absurd h List.not_mem_nil⟩⟩⟩⟩⟩⟩⟩⟩⟩⟩⟩⟩⟩⟩⟩⟩
theorem lw_p128 : lw_okq (⟨"DoorSchoolModel", "latestOf", "(I)I"⟩, 36) := ⟨⟨by decide +kernel, by decide +kernel⟩, List.mem_of_getElem? (i := 1145) (by decide +kernel), List.mem_of_getElem? (i := 1495) (by decide +kernel), List.mem_of_getElem? (i := 1496) (by decide +kernel)⟩
theorem lw_p129 : lw_okq (⟨"DoorSchoolModel", "nearestTo", "(I)I"⟩, 36) := ⟨⟨by decide +kernel, by decide +kernel⟩, List.mem_of_getElem? (i := 1145) (by decide +kernel), List.mem_of_getElem? (i := 1499) (by decide +kernel), List.mem_of_getElem? (i := 1500) (by decide +kernel)⟩
theorem lw_p130 : lw_okq (⟨"DoorSchoolModel", "isRule", "(II)Z"⟩, 36) := ⟨⟨by decide +kernel, by decide +kernel⟩, List.mem_of_getElem? (i := 1145) (by decide +kernel), List.mem_of_getElem? (i := 1527) (by decide +kernel), List.mem_of_getElem? (i := 1528) (by decide +kernel)⟩
theorem lw_p131 : lw_okq (⟨"DoorSchoolModel", "areDeeds", "(I)Z"⟩, 36) := ⟨⟨by decide +kernel, by decide +kernel⟩, List.mem_of_getElem? (i := 1145) (by decide +kernel), List.mem_of_getElem? (i := 1535) (by decide +kernel), List.mem_of_getElem? (i := 1536) (by decide +kernel)⟩
theorem lw_p132 : lw_okq (⟨"DoorSchoolModel", "allKnocks", "()I"⟩, 36) := ⟨⟨by decide +kernel, by decide +kernel⟩, List.mem_of_getElem? (i := 1145) (by decide +kernel), List.mem_of_getElem? (i := 1539) (by decide +kernel), List.mem_of_getElem? (i := 1540) (by decide +kernel)⟩
theorem lw_p133 : lw_okq (⟨"DoorSchoolModel", "marksBy", "(I)I"⟩, 36) := ⟨⟨by decide +kernel, by decide +kernel⟩, List.mem_of_getElem? (i := 1145) (by decide +kernel), List.mem_of_getElem? (i := 1547) (by decide +kernel), List.mem_of_getElem? (i := 1548) (by decide +kernel)⟩
theorem lw_p134 : lw_okq (⟨"DoorSchoolModel", "isRight", "(II)Z"⟩, 36) := ⟨⟨by decide +kernel, by decide +kernel⟩, List.mem_of_getElem? (i := 1145) (by decide +kernel), List.mem_of_getElem? (i := 1551) (by decide +kernel), List.mem_of_getElem? (i := 1552) (by decide +kernel)⟩
theorem lw_p135 : lw_okq (⟨"DoorSchoolModel", "deedsWith", "(III)I"⟩, 36) := ⟨⟨by decide +kernel, by decide +kernel⟩, List.mem_of_getElem? (i := 1145) (by decide +kernel), List.mem_of_getElem? (i := 1579) (by decide +kernel), List.mem_of_getElem? (i := 1580) (by decide +kernel)⟩
theorem lw_p136 : lw_okq (⟨"DoorSchoolModel", "deedsWithout", "(II)I"⟩, 36) := ⟨⟨by decide +kernel, by decide +kernel⟩, List.mem_of_getElem? (i := 1145) (by decide +kernel), List.mem_of_getElem? (i := 1591) (by decide +kernel), List.mem_of_getElem? (i := 1592) (by decide +kernel)⟩
theorem lw_p137 : lw_okq (⟨"DoorSchoolModel", "fewestSet", "(II)I"⟩, 36) := ⟨⟨by decide +kernel, by decide +kernel⟩, List.mem_of_getElem? (i := 1145) (by decide +kernel), List.mem_of_getElem? (i := 1602) (by decide +kernel), List.mem_of_getElem? (i := 1603) (by decide +kernel)⟩
theorem lw_p138 : lw_okq (⟨"DoorSchoolModel", "learnsBy", "(III)Z"⟩, 36) := ⟨⟨by decide +kernel, by decide +kernel⟩, List.mem_of_getElem? (i := 1145) (by decide +kernel), List.mem_of_getElem? (i := 1606) (by decide +kernel), List.mem_of_getElem? (i := 1607) (by decide +kernel)⟩
theorem lw_p139 : lw_okq (⟨"DoorSchoolModel", "laySet", "(II)V"⟩, 36) := ⟨⟨by decide +kernel, by decide +kernel⟩, List.mem_of_getElem? (i := 1145) (by decide +kernel), List.mem_of_getElem? (i := 1610) (by decide +kernel), List.mem_of_getElem? (i := 1611) (by decide +kernel)⟩
theorem lw_p140 : lw_okq (⟨"DoorSchoolModel", "ownDeeds", "()I"⟩, 36) := ⟨⟨by decide +kernel, by decide +kernel⟩, List.mem_of_getElem? (i := 1145) (by decide +kernel), List.mem_of_getElem? (i := 1632) (by decide +kernel), List.mem_of_getElem? (i := 1633) (by decide +kernel)⟩
theorem lw_p141 : lw_okq (⟨"DoorSchoolModel", "trickOf", "(II)I"⟩, 36) := ⟨⟨by decide +kernel, by decide +kernel⟩, List.mem_of_getElem? (i := 1145) (by decide +kernel), List.mem_of_getElem? (i := 1640) (by decide +kernel), List.mem_of_getElem? (i := 1641) (by decide +kernel)⟩
theorem lw_p142 : lw_okq (⟨"DoorSchoolModel", "fooledBy", "(I)I"⟩, 36) := ⟨⟨by decide +kernel, by decide +kernel⟩, List.mem_of_getElem? (i := 1145) (by decide +kernel), List.mem_of_getElem? (i := 1652) (by decide +kernel), List.mem_of_getElem? (i := 1653) (by decide +kernel)⟩
theorem lw_p143 : lw_okq (⟨"DoorSchoolModel", "hardened", "(II)I"⟩, 36) := ⟨⟨by decide +kernel, by decide +kernel⟩, List.mem_of_getElem? (i := 1145) (by decide +kernel), List.mem_of_getElem? (i := 1656) (by decide +kernel), List.mem_of_getElem? (i := 1657) (by decide +kernel)⟩
def lw_privs_9 : List (MethodName × Nat) := [(⟨"DoorSchoolModel", "latestOf", "(I)I"⟩, 36), (⟨"DoorSchoolModel", "nearestTo", "(I)I"⟩, 36), (⟨"DoorSchoolModel", "isRule", "(II)Z"⟩, 36), (⟨"DoorSchoolModel", "areDeeds", "(I)Z"⟩, 36), (⟨"DoorSchoolModel", "allKnocks", "()I"⟩, 36), (⟨"DoorSchoolModel", "marksBy", "(I)I"⟩, 36), (⟨"DoorSchoolModel", "isRight", "(II)Z"⟩, 36), (⟨"DoorSchoolModel", "deedsWith", "(III)I"⟩, 36), (⟨"DoorSchoolModel", "deedsWithout", "(II)I"⟩, 36), (⟨"DoorSchoolModel", "fewestSet", "(II)I"⟩, 36), (⟨"DoorSchoolModel", "learnsBy", "(III)Z"⟩, 36), (⟨"DoorSchoolModel", "laySet", "(II)V"⟩, 36), (⟨"DoorSchoolModel", "ownDeeds", "()I"⟩, 36), (⟨"DoorSchoolModel", "trickOf", "(II)I"⟩, 36), (⟨"DoorSchoolModel", "fooledBy", "(I)I"⟩, 36), (⟨"DoorSchoolModel", "hardened", "(II)I"⟩, 36)]
theorem lw_r9 : ∀ q ∈ lw_privs_9, lw_okq q := List.forall_mem_cons.mpr ⟨lw_p128, List.forall_mem_cons.mpr ⟨lw_p129, List.forall_mem_cons.mpr ⟨lw_p130, List.forall_mem_cons.mpr ⟨lw_p131, List.forall_mem_cons.mpr ⟨lw_p132, List.forall_mem_cons.mpr ⟨lw_p133, List.forall_mem_cons.mpr ⟨lw_p134, List.forall_mem_cons.mpr ⟨lw_p135, List.forall_mem_cons.mpr ⟨lw_p136, List.forall_mem_cons.mpr ⟨lw_p137, List.forall_mem_cons.mpr ⟨lw_p138, List.forall_mem_cons.mpr ⟨lw_p139, List.forall_mem_cons.mpr ⟨lw_p140, List.forall_mem_cons.mpr ⟨lw_p141, List.forall_mem_cons.mpr ⟨lw_p142, List.forall_mem_cons.mpr ⟨lw_p143, fun _ h => absurd h List.not_mem_nil⟩⟩⟩⟩⟩⟩⟩⟩⟩⟩⟩⟩⟩⟩⟩⟩
theorem lw_p144 : lw_okq (⟨"DoorSchoolModel", "isStrange", "(I)Z"⟩, 36) := ⟨⟨by decide +kernel, by decide +kernel⟩, List.mem_of_getElem? (i := 1145) (by decide +kernel), List.mem_of_getElem? (i := 1669) (by decide +kernel), List.mem_of_getElem? (i := 1670) (by decide +kernel)⟩
theorem lw_p145 : lw_okq (⟨"DoorSchoolModel", "deedsByWay", "(II)I"⟩, 36) := ⟨⟨by decide +kernel, by decide +kernel⟩, List.mem_of_getElem? (i := 1145) (by decide +kernel), List.mem_of_getElem? (i := 1673) (by decide +kernel), List.mem_of_getElem? (i := 1674) (by decide +kernel)⟩
theorem lw_p146 : lw_okq (⟨"DoorSchoolModel", "isRest", "(III)Z"⟩, 36) := ⟨⟨by decide +kernel, by decide +kernel⟩, List.mem_of_getElem? (i := 1145) (by decide +kernel), List.mem_of_getElem? (i := 1681) (by decide +kernel), List.mem_of_getElem? (i := 1682) (by decide +kernel)⟩
theorem lw_p147 : lw_okq (⟨"DoorSchoolModel", "teachAll", "(II)V"⟩, 36) := ⟨⟨by decide +kernel, by decide +kernel⟩, List.mem_of_getElem? (i := 1145) (by decide +kernel), List.mem_of_getElem? (i := 1697) (by decide +kernel), List.mem_of_getElem? (i := 1698) (by decide +kernel)⟩
theorem lw_p148 : lw_okq (⟨"DoorSchoolModel", "asksSeen", "(IZ)I"⟩, 36) := ⟨⟨by decide +kernel, by decide +kernel⟩, List.mem_of_getElem? (i := 1145) (by decide +kernel), List.mem_of_getElem? (i := 1713) (by decide +kernel), List.mem_of_getElem? (i := 1714) (by decide +kernel)⟩
theorem lw_p149 : lw_okq (⟨"DoorSchoolModel", "numberAt", "(II)J"⟩, 36) := ⟨⟨by decide +kernel, by decide +kernel⟩, List.mem_of_getElem? (i := 1145) (by decide +kernel), List.mem_of_getElem? (i := 1720) (by decide +kernel), List.mem_of_getElem? (i := 1721) (by decide +kernel)⟩
theorem lw_p150 : lw_okq (⟨"DoorSchoolModel", "doesSo", "(II)Z"⟩, 36) := ⟨⟨by decide +kernel, by decide +kernel⟩, List.mem_of_getElem? (i := 1145) (by decide +kernel), List.mem_of_getElem? (i := 1724) (by decide +kernel), List.mem_of_getElem? (i := 1725) (by decide +kernel)⟩
theorem lw_p151 : lw_okq (⟨"DoorSchoolModel", "isCopied", "(I)Z"⟩, 36) := ⟨⟨by decide +kernel, by decide +kernel⟩, List.mem_of_getElem? (i := 1145) (by decide +kernel), List.mem_of_getElem? (i := 1736) (by decide +kernel), List.mem_of_getElem? (i := 1737) (by decide +kernel)⟩
theorem lw_p152 : lw_okq (⟨"DoorSchoolModel", "hangAll", "()V"⟩, 36) := ⟨⟨by decide +kernel, by decide +kernel⟩, List.mem_of_getElem? (i := 1145) (by decide +kernel), List.mem_of_getElem? (i := 1744) (by decide +kernel), List.mem_of_getElem? (i := 1745) (by decide +kernel)⟩
theorem lw_p153 : lw_okq (⟨"DoorSchoolModel", "amissOf", "(II)I"⟩, 36) := ⟨⟨by decide +kernel, by decide +kernel⟩, List.mem_of_getElem? (i := 1145) (by decide +kernel), List.mem_of_getElem? (i := 1748) (by decide +kernel), List.mem_of_getElem? (i := 1749) (by decide +kernel)⟩
theorem lw_p154 : lw_okq (⟨"DoorSchoolModel", "fitsOf", "(I)I"⟩, 36) := ⟨⟨by decide +kernel, by decide +kernel⟩, List.mem_of_getElem? (i := 1145) (by decide +kernel), List.mem_of_getElem? (i := 1764) (by decide +kernel), List.mem_of_getElem? (i := 1765) (by decide +kernel)⟩
theorem lw_p155 : lw_okq (⟨"DoorSchoolModel", "askOf", "(I)I"⟩, 36) := ⟨⟨by decide +kernel, by decide +kernel⟩, List.mem_of_getElem? (i := 1145) (by decide +kernel), List.mem_of_getElem? (i := 1776) (by decide +kernel), List.mem_of_getElem? (i := 1777) (by decide +kernel)⟩
theorem lw_p156 : lw_okq (⟨"DoorSchoolModel", "worstOf", "(II)I"⟩, 36) := ⟨⟨by decide +kernel, by decide +kernel⟩, List.mem_of_getElem? (i := 1145) (by decide +kernel), List.mem_of_getElem? (i := 1780) (by decide +kernel), List.mem_of_getElem? (i := 1781) (by decide +kernel)⟩
theorem lw_p157 : lw_okq (⟨"DoorSchoolModel", "leastHours", "(II)I"⟩, 36) := ⟨⟨by decide +kernel, by decide +kernel⟩, List.mem_of_getElem? (i := 1145) (by decide +kernel), List.mem_of_getElem? (i := 1793) (by decide +kernel), List.mem_of_getElem? (i := 1794) (by decide +kernel)⟩
theorem lw_p158 : lw_okq (⟨"DoorSchoolModel", "overBy", "(III)I"⟩, 36) := ⟨⟨by decide +kernel, by decide +kernel⟩, List.mem_of_getElem? (i := 1145) (by decide +kernel), List.mem_of_getElem? (i := 1797) (by decide +kernel), List.mem_of_getElem? (i := 1798) (by decide +kernel)⟩
theorem lw_p159 : lw_okq (⟨"DoorSchoolModel", "put", "(II)V"⟩, 36) := ⟨⟨by decide +kernel, by decide +kernel⟩, List.mem_of_getElem? (i := 1145) (by decide +kernel), List.mem_of_getElem? (i := 1801) (by decide +kernel), List.mem_of_getElem? (i := 1802) (by decide +kernel)⟩
def lw_privs_10 : List (MethodName × Nat) := [(⟨"DoorSchoolModel", "isStrange", "(I)Z"⟩, 36), (⟨"DoorSchoolModel", "deedsByWay", "(II)I"⟩, 36), (⟨"DoorSchoolModel", "isRest", "(III)Z"⟩, 36), (⟨"DoorSchoolModel", "teachAll", "(II)V"⟩, 36), (⟨"DoorSchoolModel", "asksSeen", "(IZ)I"⟩, 36), (⟨"DoorSchoolModel", "numberAt", "(II)J"⟩, 36), (⟨"DoorSchoolModel", "doesSo", "(II)Z"⟩, 36), (⟨"DoorSchoolModel", "isCopied", "(I)Z"⟩, 36), (⟨"DoorSchoolModel", "hangAll", "()V"⟩, 36), (⟨"DoorSchoolModel", "amissOf", "(II)I"⟩, 36), (⟨"DoorSchoolModel", "fitsOf", "(I)I"⟩, 36), (⟨"DoorSchoolModel", "askOf", "(I)I"⟩, 36), (⟨"DoorSchoolModel", "worstOf", "(II)I"⟩, 36), (⟨"DoorSchoolModel", "leastHours", "(II)I"⟩, 36), (⟨"DoorSchoolModel", "overBy", "(III)I"⟩, 36), (⟨"DoorSchoolModel", "put", "(II)V"⟩, 36)]
theorem lw_r10 : ∀ q ∈ lw_privs_10, lw_okq q := List.forall_mem_cons.mpr ⟨lw_p144, List.forall_mem_cons.mpr ⟨lw_p145, List.forall_mem_cons.mpr ⟨lw_p146, List.forall_mem_cons.mpr ⟨lw_p147, List.forall_mem_cons.mpr ⟨lw_p148, List.forall_mem_cons.mpr ⟨lw_p149, List.forall_mem_cons.mpr ⟨lw_p150, List.forall_mem_cons.mpr ⟨lw_p151, List.forall_mem_cons.mpr ⟨lw_p152, List.forall_mem_cons.mpr ⟨lw_p153, List.forall_mem_cons.mpr ⟨lw_p154, List.forall_mem_cons.mpr ⟨lw_p155, List.forall_mem_cons.mpr ⟨lw_p156, List.forall_mem_cons.mpr ⟨lw_p157, List.forall_mem_cons.mpr ⟨lw_p158, List.forall_mem_cons.mpr ⟨lw_p159, fun _ h => absurd h List.not_mem_nil⟩⟩⟩⟩⟩⟩⟩⟩⟩⟩⟩⟩⟩⟩⟩⟩
theorem lw_p160 : lw_okq (⟨"DoorSchoolModel", "takesOf", "(I)I"⟩, 36) := ⟨⟨by decide +kernel, by decide +kernel⟩, List.mem_of_getElem? (i := 1145) (by decide +kernel), List.mem_of_getElem? (i := 1805) (by decide +kernel), List.mem_of_getElem? (i := 1806) (by decide +kernel)⟩
theorem lw_p161 : lw_okq (⟨"DoorSchoolModel", "overOf", "(I)I"⟩, 36) := ⟨⟨by decide +kernel, by decide +kernel⟩, List.mem_of_getElem? (i := 1145) (by decide +kernel), List.mem_of_getElem? (i := 1809) (by decide +kernel), List.mem_of_getElem? (i := 1810) (by decide +kernel)⟩
theorem lw_p162 : lw_okq (⟨"DoorSchoolModel", "afterAll", "(II)I"⟩, 36) := ⟨⟨by decide +kernel, by decide +kernel⟩, List.mem_of_getElem? (i := 1145) (by decide +kernel), List.mem_of_getElem? (i := 1813) (by decide +kernel), List.mem_of_getElem? (i := 1814) (by decide +kernel)⟩
theorem lw_p163 : lw_okq (⟨"DoorSchoolModel", "isFree", "(III)Z"⟩, 36) := ⟨⟨by decide +kernel, by decide +kernel⟩, List.mem_of_getElem? (i := 1145) (by decide +kernel), List.mem_of_getElem? (i := 1817) (by decide +kernel), List.mem_of_getElem? (i := 1818) (by decide +kernel)⟩
theorem lw_p164 : lw_okq (⟨"DoorSchoolModel", "mayBegin", "(II)Z"⟩, 36) := ⟨⟨by decide +kernel, by decide +kernel⟩, List.mem_of_getElem? (i := 1145) (by decide +kernel), List.mem_of_getElem? (i := 1825) (by decide +kernel), List.mem_of_getElem? (i := 1826) (by decide +kernel)⟩
theorem lw_p165 : lw_okq (⟨"DoorSchoolModel", "stormed", "(JI)I"⟩, 36) := ⟨⟨by decide +kernel, by decide +kernel⟩, List.mem_of_getElem? (i := 1145) (by decide +kernel), List.mem_of_getElem? (i := 1850) (by decide +kernel), List.mem_of_getElem? (i := 1851) (by decide +kernel)⟩
def lw_privs_11 : List (MethodName × Nat) := [(⟨"DoorSchoolModel", "takesOf", "(I)I"⟩, 36), (⟨"DoorSchoolModel", "overOf", "(I)I"⟩, 36), (⟨"DoorSchoolModel", "afterAll", "(II)I"⟩, 36), (⟨"DoorSchoolModel", "isFree", "(III)Z"⟩, 36), (⟨"DoorSchoolModel", "mayBegin", "(II)Z"⟩, 36), (⟨"DoorSchoolModel", "stormed", "(JI)I"⟩, 36)]
theorem lw_r11 : ∀ q ∈ lw_privs_11, lw_okq q := List.forall_mem_cons.mpr ⟨lw_p160, List.forall_mem_cons.mpr ⟨lw_p161, List.forall_mem_cons.mpr ⟨lw_p162, List.forall_mem_cons.mpr ⟨lw_p163, List.forall_mem_cons.mpr ⟨lw_p164, List.forall_mem_cons.mpr ⟨lw_p165, fun _ h => absurd h List.not_mem_nil⟩⟩⟩⟩⟩⟩
def lw_privs : List (MethodName × Nat) := lw_privs_1 ++ (lw_privs_2 ++ (lw_privs_3 ++ (lw_privs_4 ++ (lw_privs_5 ++ (lw_privs_6 ++ (lw_privs_7 ++ (lw_privs_8 ++ (lw_privs_9 ++ (lw_privs_10 ++ (lw_privs_11))))))))))
def lw_tbl : List Cond := k2_sels lw_privs ++ tables_1
theorem lw_privs_ok : ∀ q ∈ lw_privs, lw_okq q := by
  show ∀ q ∈ lw_privs_1 ++ (lw_privs_2 ++ (lw_privs_3 ++ (lw_privs_4 ++ (lw_privs_5 ++ (lw_privs_6 ++ (lw_privs_7 ++ (lw_privs_8 ++ (lw_privs_9 ++ (lw_privs_10 ++ (lw_privs_11)))))))))), lw_okq q
  exact List.forall_mem_append.mpr ⟨lw_r1, List.forall_mem_append.mpr ⟨lw_r2, List.forall_mem_append.mpr ⟨lw_r3, List.forall_mem_append.mpr ⟨lw_r4, List.forall_mem_append.mpr ⟨lw_r5, List.forall_mem_append.mpr ⟨lw_r6, List.forall_mem_append.mpr ⟨lw_r7, List.forall_mem_append.mpr ⟨lw_r8, List.forall_mem_append.mpr ⟨lw_r9, List.forall_mem_append.mpr ⟨lw_r10, lw_r11⟩⟩⟩⟩⟩⟩⟩⟩⟩⟩
end
section
def RX0 : String := "DoorSchool$Door"
def TX0 : u_T := fun k => match k with
  | 0 => ("DoorSchool$Door", "lessons", "LDoorSchool$Lessons;", true)
  | 1 => ("DoorSchool$Door", "way", "I", false)
  | 2 => ("DoorSchool$Door", "slips", "I", false)
  | _ => ("DoorSchool$Door", "copies", "I", false)
def tyX0 : Nat → FieldType := fun k => match k with
  | 0 => .object "DoorSchool$Lessons"
  | 1 => .int
  | 2 => .int
  | _ => .int
theorem nmX0 : ∀ a, a < 4 → ∀ b, b < 4 → a ≠ b → (TX0 a).2.1 ≠ (TX0 b).2.1 := by decide +kernel
theorem tyX0_ok : ∀ k, k < 4 → parseFieldDescriptor (TX0 k).2.2.1 = some (tyX0 k) := by decide +kernel
abbrev cX0_init : ByteArray := prog_2_method_1_code
def yX0_init : MethodName := ⟨RX0, "<init>", "()V"⟩
abbrev cX0_begin : ByteArray := prog_2_method_2_code
def yX0_begin : MethodName := ⟨RX0, "begin", "(II)V"⟩
abbrev cX0_takeFrom : ByteArray := prog_2_method_3_code
def yX0_takeFrom : MethodName := ⟨RX0, "takeFrom", "(LDoorSchool$Door;)V"⟩
def RX1 : String := "DoorSchool$Hanging"
def TX1 : u_T := fun k => match k with
  | 0 => ("DoorSchool$Hanging", "amiss", "[I", true)
  | 1 => ("DoorSchool$Hanging", "row", "[I", true)
  | 2 => ("DoorSchool$Hanging", "firstRow", "[I", true)
  | 3 => ("DoorSchool$Hanging", "doorCount", "I", false)
  | 4 => ("DoorSchool$Hanging", "houseCount", "I", false)
  | _ => ("DoorSchool$Hanging", "fewest", "I", false)
def tyX1 : Nat → FieldType := fun k => match k with
  | 0 => .array .int
  | 1 => .array .int
  | 2 => .array .int
  | 3 => .int
  | 4 => .int
  | _ => .int
theorem nmX1 : ∀ a, a < 6 → ∀ b, b < 6 → a ≠ b → (TX1 a).2.1 ≠ (TX1 b).2.1 := by decide +kernel
theorem tyX1_ok : ∀ k, k < 6 → parseFieldDescriptor (TX1 k).2.2.1 = some (tyX1 k) := by decide +kernel
abbrev cX1_init : ByteArray := prog_3_method_1_code
def yX1_init : MethodName := ⟨RX1, "<init>", "()V"⟩
abbrev cX1_search : ByteArray := prog_3_method_2_code
def yX1_search : MethodName := ⟨RX1, "search", "(II)V"⟩
abbrev cX1_hangFrom : ByteArray := prog_3_method_3_code
def yX1_hangFrom : MethodName := ⟨RX1, "hangFrom", "(LDoorSchool$Hanging;III)V"⟩
abbrev cX1_keepIfBetter : ByteArray := prog_3_method_4_code
def yX1_keepIfBetter : MethodName := ⟨RX1, "keepIfBetter", "(I)V"⟩
def RX2 : String := "DoorSchool$Learner"
def TX2 : u_T := fun k => match k with
  | 0 => ("DoorSchool$Learner", "rules", "LDoorSchool$Rules;", true)
  | _ => ("DoorSchool$Learner", "apart", "[I", true)
def tyX2 : Nat → FieldType := fun k => match k with
  | 0 => .object "DoorSchool$Rules"
  | _ => .array .int
theorem nmX2 : ∀ a, a < 2 → ∀ b, b < 2 → a ≠ b → (TX2 a).2.1 ≠ (TX2 b).2.1 := by decide +kernel
theorem tyX2_ok : ∀ k, k < 2 → parseFieldDescriptor (TX2 k).2.2.1 = some (tyX2 k) := by decide +kernel
abbrev cX2_init : ByteArray := prog_4_method_1_code
def yX2_init : MethodName := ⟨RX2, "<init>", "(LDoorSchool$Rules;)V"⟩
abbrev cX2_learn : ByteArray := prog_4_method_2_code
def yX2_learn : MethodName := ⟨RX2, "learn", "(ILDoorSchool$Lessons;)I"⟩
abbrev cX2_learnSet : ByteArray := prog_4_method_3_code
def yX2_learnSet : MethodName := ⟨RX2, "learnSet", "(III)I"⟩
abbrev cX2_nearestOf : ByteArray := prog_4_method_4_code
def yX2_nearestOf : MethodName := ⟨RX2, "nearestOf", "(II)I"⟩
abbrev cX2_teaches : ByteArray := prog_4_method_5_code
def yX2_teaches : MethodName := ⟨RX2, "teaches", "(III)Z"⟩
abbrev cX2_leastSet : ByteArray := prog_4_method_6_code
def yX2_leastSet : MethodName := ⟨RX2, "leastSet", "(II)I"⟩
abbrev cX2_setsOf : ByteArray := prog_4_method_7_code
def yX2_setsOf : MethodName := ⟨RX2, "setsOf", "(III)I"⟩
abbrev cX2_needed : ByteArray := prog_4_method_8_code
def yX2_needed : MethodName := ⟨RX2, "needed", "(II)I"⟩
abbrev cX2_allKnocks : ByteArray := prog_4_method_9_code
def yX2_allKnocks : MethodName := ⟨RX2, "allKnocks", "()I"⟩
abbrev cX2_setBehind : ByteArray := prog_4_method_10_code
def yX2_setBehind : MethodName := ⟨RX2, "setBehind", "(I)I"⟩
abbrev cX2_errorsBy : ByteArray := prog_4_method_11_code
def yX2_errorsBy : MethodName := ⟨RX2, "errorsBy", "(II)I"⟩
abbrev cX2_learntWhole : ByteArray := prog_4_method_12_code
def yX2_learntWhole : MethodName := ⟨RX2, "learntWhole", "(II)I"⟩
def RX3 : String := "DoorSchool$Lessons"
def TX3 : u_T := fun k => match k with
  | 0 => ("DoorSchool$Lessons", "knocks", "[I", true)
  | 1 => ("DoorSchool$Lessons", "opens", "[I", true)
  | _ => ("DoorSchool$Lessons", "size", "I", false)
def tyX3 : Nat → FieldType := fun k => match k with
  | 0 => .array .int
  | 1 => .array .int
  | _ => .int
theorem nmX3 : ∀ a, a < 3 → ∀ b, b < 3 → a ≠ b → (TX3 a).2.1 ≠ (TX3 b).2.1 := by decide +kernel
theorem tyX3_ok : ∀ k, k < 3 → parseFieldDescriptor (TX3 k).2.2.1 = some (tyX3 k) := by decide +kernel
abbrev cX3_init : ByteArray := prog_5_method_1_code
def yX3_init : MethodName := ⟨RX3, "<init>", "()V"⟩
abbrev cX3_add : ByteArray := prog_5_method_2_code
def yX3_add : MethodName := ⟨RX3, "add", "(II)V"⟩
abbrev cX3_dropLast : ByteArray := prog_5_method_3_code
def yX3_dropLast : MethodName := ⟨RX3, "dropLast", "()V"⟩
abbrev cX3_putIn : ByteArray := prog_5_method_4_code
def yX3_putIn : MethodName := ⟨RX3, "putIn", "(III)V"⟩
abbrev cX3_takeOut : ByteArray := prog_5_method_5_code
def yX3_takeOut : MethodName := ⟨RX3, "takeOut", "(I)V"⟩
abbrev cX3_takeFrom : ByteArray := prog_5_method_6_code
def yX3_takeFrom : MethodName := ⟨RX3, "takeFrom", "(LDoorSchool$Lessons;)V"⟩
abbrev cX3_said : ByteArray := prog_5_method_7_code
def yX3_said : MethodName := ⟨RX3, "said", "(I)I"⟩
abbrev cX3_latestOf : ByteArray := prog_5_method_8_code
def yX3_latestOf : MethodName := ⟨RX3, "latestOf", "(I)I"⟩
abbrev cX3_nearestTo : ByteArray := prog_5_method_9_code
def yX3_nearestTo : MethodName := ⟨RX3, "nearestTo", "(I)I"⟩
abbrev cX3_allAs : ByteArray := prog_5_method_10_code
def yX3_allAs : MethodName := ⟨RX3, "allAs", "(I)I"⟩
abbrev cX3_firstNotAs : ByteArray := prog_5_method_11_code
def yX3_firstNotAs : MethodName := ⟨RX3, "firstNotAs", "(I)I"⟩
def RX4 : String := "DoorSchool$Plan"
def TX4 : u_T := fun k => match k with
  | 0 => ("DoorSchool$Plan", "lines", "I", false)
  | 1 => ("DoorSchool$Plan", "signs", "I", false)
  | 2 => ("DoorSchool$Plan", "teachers", "I", false)
  | 3 => ("DoorSchool$Plan", "doorCount", "I", false)
  | 4 => ("DoorSchool$Plan", "doors", "[LDoorSchool$Door;", true)
  | 5 => ("DoorSchool$Plan", "exams", "LDoorSchool$Lessons;", true)
  | 6 => ("DoorSchool$Plan", "ownerSigns", "I", false)
  | 7 => ("DoorSchool$Plan", "ownerThere", "I", false)
  | 8 => ("DoorSchool$Plan", "houseCount", "I", false)
  | 9 => ("DoorSchool$Plan", "houseSigns", "[I", true)
  | 10 => ("DoorSchool$Plan", "houseThere", "[I", true)
  | 11 => ("DoorSchool$Plan", "courseCount", "I", false)
  | 12 => ("DoorSchool$Plan", "takes", "[I", true)
  | 13 => ("DoorSchool$Plan", "ahead", "[I", true)
  | 14 => ("DoorSchool$Plan", "taught", "I", false)
  | _ => ("DoorSchool$Plan", "taughtDoors", "[I", true)
def tyX4 : Nat → FieldType := fun k => match k with
  | 0 => .int
  | 1 => .int
  | 2 => .int
  | 3 => .int
  | 4 => .array (.object "DoorSchool$Door")
  | 5 => .object "DoorSchool$Lessons"
  | 6 => .int
  | 7 => .int
  | 8 => .int
  | 9 => .array .int
  | 10 => .array .int
  | 11 => .int
  | 12 => .array .int
  | 13 => .array .int
  | 14 => .int
  | _ => .array .int
theorem nmX4 : ∀ a, a < 16 → ∀ b, b < 16 → a ≠ b → (TX4 a).2.1 ≠ (TX4 b).2.1 := by decide +kernel
theorem tyX4_ok : ∀ k, k < 16 → parseFieldDescriptor (TX4 k).2.2.1 = some (tyX4 k) := by decide +kernel
abbrev cX4_init : ByteArray := prog_6_method_1_code
def yX4_init : MethodName := ⟨RX4, "<init>", "()V"⟩
abbrev cX4_clear : ByteArray := prog_6_method_2_code
def yX4_clear : MethodName := ⟨RX4, "clear", "()V"⟩
abbrev cX4_takeFrom : ByteArray := prog_6_method_3_code
def yX4_takeFrom : MethodName := ⟨RX4, "takeFrom", "(LDoorSchool$Plan;)V"⟩
abbrev cX4_exists : ByteArray := prog_6_method_4_code
def yX4_exists : MethodName := ⟨RX4, "exists", "()Z"⟩
abbrev cX4_knocks : ByteArray := prog_6_method_5_code
def yX4_knocks : MethodName := ⟨RX4, "knocks", "()I"⟩
abbrev cX4_isDoor : ByteArray := prog_6_method_6_code
def yX4_isDoor : MethodName := ⟨RX4, "isDoor", "(I)Z"⟩
abbrev cX4_isHouse : ByteArray := prog_6_method_7_code
def yX4_isHouse : MethodName := ⟨RX4, "isHouse", "(I)Z"⟩
abbrev cX4_isKnock : ByteArray := prog_6_method_8_code
def yX4_isKnock : MethodName := ⟨RX4, "isKnock", "(I)Z"⟩
abbrev cX4_isRule : ByteArray := prog_6_method_9_code
def yX4_isRule : MethodName := ⟨RX4, "isRule", "(II)Z"⟩
abbrev cX4_isDeeds : ByteArray := prog_6_method_10_code
def yX4_isDeeds : MethodName := ⟨RX4, "isDeeds", "(I)Z"⟩
abbrev cX4_isCopied : ByteArray := prog_6_method_11_code
def yX4_isCopied : MethodName := ⟨RX4, "isCopied", "(I)Z"⟩
abbrev cX4_modelOf : ByteArray := prog_6_method_12_code
def yX4_modelOf : MethodName := ⟨RX4, "modelOf", "(I)LDoorSchool$Door;"⟩
def RX5 : String := "DoorSchool$Reader"
def TX5 : u_T := fun k => match k with
  | 0 => ("DoorSchool$Reader", "tape", "LDoorSchool$Tape;", true)
  | 1 => ("DoorSchool$Reader", "kind", "I", false)
  | 2 => ("DoorSchool$Reader", "start", "I", false)
  | 3 => ("DoorSchool$Reader", "stop", "I", false)
  | 4 => ("DoorSchool$Reader", "value", "I", false)
  | 5 => ("DoorSchool$Reader", "fault", "I", false)
  | _ => ("DoorSchool$Reader", "place", "I", false)
def tyX5 : Nat → FieldType := fun k => match k with
  | 0 => .object "DoorSchool$Tape"
  | 1 => .int
  | 2 => .int
  | 3 => .int
  | 4 => .int
  | 5 => .int
  | _ => .int
theorem nmX5 : ∀ a, a < 7 → ∀ b, b < 7 → a ≠ b → (TX5 a).2.1 ≠ (TX5 b).2.1 := by decide +kernel
theorem tyX5_ok : ∀ k, k < 7 → parseFieldDescriptor (TX5 k).2.2.1 = some (tyX5 k) := by decide +kernel
abbrev cX5_init : ByteArray := prog_7_method_1_code
def yX5_init : MethodName := ⟨RX5, "<init>", "(LDoorSchool$Tape;)V"⟩
abbrev cX5_read : ByteArray := prog_7_method_2_code
def yX5_read : MethodName := ⟨RX5, "read", "(LDoorSchool$Plan;)V"⟩
abbrev cX5_readFirst : ByteArray := prog_7_method_3_code
def yX5_readFirst : MethodName := ⟨RX5, "readFirst", "(LDoorSchool$Plan;)V"⟩
abbrev cX5_readDoor : ByteArray := prog_7_method_4_code
def yX5_readDoor : MethodName := ⟨RX5, "readDoor", "(LDoorSchool$Plan;)V"⟩
abbrev cX5_readLesson : ByteArray := prog_7_method_5_code
def yX5_readLesson : MethodName := ⟨RX5, "readLesson", "(LDoorSchool$Plan;)V"⟩
abbrev cX5_readExam : ByteArray := prog_7_method_6_code
def yX5_readExam : MethodName := ⟨RX5, "readExam", "(LDoorSchool$Plan;)V"⟩
abbrev cX5_readSaid : ByteArray := prog_7_method_7_code
def yX5_readSaid : MethodName := ⟨RX5, "readSaid", "(LDoorSchool$Plan;LDoorSchool$Lessons;)V"⟩
abbrev cX5_readTwin : ByteArray := prog_7_method_8_code
def yX5_readTwin : MethodName := ⟨RX5, "readTwin", "(LDoorSchool$Plan;)V"⟩
abbrev cX5_readOwner : ByteArray := prog_7_method_9_code
def yX5_readOwner : MethodName := ⟨RX5, "readOwner", "(LDoorSchool$Plan;)V"⟩
abbrev cX5_readHouse : ByteArray := prog_7_method_10_code
def yX5_readHouse : MethodName := ⟨RX5, "readHouse", "(LDoorSchool$Plan;)V"⟩
abbrev cX5_readCourse : ByteArray := prog_7_method_11_code
def yX5_readCourse : MethodName := ⟨RX5, "readCourse", "(LDoorSchool$Plan;)V"⟩
abbrev cX5_readAhead : ByteArray := prog_7_method_12_code
def yX5_readAhead : MethodName := ⟨RX5, "readAhead", "(LDoorSchool$Plan;)V"⟩
abbrev cX5_takeWay : ByteArray := prog_7_method_13_code
def yX5_takeWay : MethodName := ⟨RX5, "takeWay", "()I"⟩
abbrev cX5_takePart : ByteArray := prog_7_method_14_code
def yX5_takePart : MethodName := ⟨RX5, "takePart", "(I)I"⟩
abbrev cX5_takeNumber : ByteArray := prog_7_method_15_code
def yX5_takeNumber : MethodName := ⟨RX5, "takeNumber", "(II)I"⟩
abbrev cX5_numberHere : ByteArray := prog_7_method_16_code
def yX5_numberHere : MethodName := ⟨RX5, "numberHere", "(II)I"⟩
abbrev cX5_pass : ByteArray := prog_7_method_17_code
def yX5_pass : MethodName := ⟨RX5, "pass", "(Z)V"⟩
abbrev cX5_blame : ByteArray := prog_7_method_18_code
def yX5_blame : MethodName := ⟨RX5, "blame", "(I)V"⟩
abbrev cX5_stands : ByteArray := prog_7_method_19_code
def yX5_stands : MethodName := ⟨RX5, "stands", "(Ljava/lang/String;)Z"⟩
abbrev cX5_step : ByteArray := prog_7_method_20_code
def yX5_step : MethodName := ⟨RX5, "step", "()V"⟩
abbrev cX5_kindAt : ByteArray := prog_7_method_21_code
def yX5_kindAt : MethodName := ⟨RX5, "kindAt", "(I)I"⟩
abbrev cX5_isBlank : ByteArray := prog_7_method_22_code
def yX5_isBlank : MethodName := ⟨RX5, "isBlank", "(B)Z"⟩
def RX6 : String := "DoorSchool$Rules"
def TX6 : u_T := fun k => match k with
  | 0 => ("DoorSchool$Rules", "knocks", "I", false)
  | 1 => ("DoorSchool$Rules", "size", "I", false)
  | 2 => ("DoorSchool$Rules", "signs", "[I", true)
  | 3 => ("DoorSchool$Rules", "there", "[I", true)
  | _ => ("DoorSchool$Rules", "deeds", "[I", true)
def tyX6 : Nat → FieldType := fun k => match k with
  | 0 => .int
  | 1 => .int
  | 2 => .array .int
  | 3 => .array .int
  | _ => .array .int
theorem nmX6 : ∀ a, a < 5 → ∀ b, b < 5 → a ≠ b → (TX6 a).2.1 ≠ (TX6 b).2.1 := by decide +kernel
theorem tyX6_ok : ∀ k, k < 5 → parseFieldDescriptor (TX6 k).2.2.1 = some (tyX6 k) := by decide +kernel
abbrev cX6_init : ByteArray := prog_8_method_1_code
def yX6_init : MethodName := ⟨RX6, "<init>", "()V"⟩
abbrev cX6_prepare : ByteArray := prog_8_method_2_code
def yX6_prepare : MethodName := ⟨RX6, "prepare", "(I)V"⟩
abbrev cX6_addAllOf : ByteArray := prog_8_method_3_code
def yX6_addAllOf : MethodName := ⟨RX6, "addAllOf", "(I)V"⟩
abbrev cX6_deedsOf : ByteArray := prog_8_method_4_code
def yX6_deedsOf : MethodName := ⟨RX6, "deedsOf", "(II)I"⟩
abbrev cX6_placeOf : ByteArray := prog_8_method_5_code
def yX6_placeOf : MethodName := ⟨RX6, "placeOf", "(I)I"⟩
abbrev cX6_first : ByteArray := prog_8_method_6_code
def yX6_first : MethodName := ⟨RX6, "first", "(II)I"⟩
abbrev cX6_howMany : ByteArray := prog_8_method_7_code
def yX6_howMany : MethodName := ⟨RX6, "howMany", "(II)I"⟩
abbrev cX6_surely : ByteArray := prog_8_method_8_code
def yX6_surely : MethodName := ⟨RX6, "surely", "(IIZ)I"⟩
def RX7 : String := "DoorSchool$Slot"
def TX7 : u_T := fun k => match k with
  | 0 => ("DoorSchool$Slot", "numbers", "[J", true)
  | 1 => ("DoorSchool$Slot", "full", "Z", false)
  | 2 => ("DoorSchool$Slot", "width", "I", false)
  | _ => ("DoorSchool$Slot", "size", "I", false)
def tyX7 : Nat → FieldType := fun k => match k with
  | 0 => .array .long
  | 1 => .boolean
  | 2 => .int
  | _ => .int
theorem nmX7 : ∀ a, a < 4 → ∀ b, b < 4 → a ≠ b → (TX7 a).2.1 ≠ (TX7 b).2.1 := by decide +kernel
theorem tyX7_ok : ∀ k, k < 4 → parseFieldDescriptor (TX7 k).2.2.1 = some (tyX7 k) := by decide +kernel
abbrev cX7_init : ByteArray := prog_9_method_1_code
def yX7_init : MethodName := ⟨RX7, "<init>", "()V"⟩
abbrev cX7_begin : ByteArray := prog_9_method_2_code
def yX7_begin : MethodName := ⟨RX7, "begin", "(II)V"⟩
abbrev cX7_put : ByteArray := prog_9_method_3_code
def yX7_put : MethodName := ⟨RX7, "put", "(IJ)V"⟩
abbrev cX7_has : ByteArray := prog_9_method_4_code
def yX7_has : MethodName := ⟨RX7, "has", "(II)Z"⟩
abbrev cX7_isPairs : ByteArray := prog_9_method_5_code
def yX7_isPairs : MethodName := ⟨RX7, "isPairs", "(I)Z"⟩
abbrev cX7_said : ByteArray := prog_9_method_6_code
def yX7_said : MethodName := ⟨RX7, "said", "(I)I"⟩
def RX8 : String := "DoorSchool$Tape"
def TX8 : u_T := fun k => match k with
  | 0 => ("DoorSchool$Tape", "bytes", "[B", true)
  | _ => ("DoorSchool$Tape", "size", "I", false)
def tyX8 : Nat → FieldType := fun k => match k with
  | 0 => .array .byte
  | _ => .int
theorem nmX8 : ∀ a, a < 2 → ∀ b, b < 2 → a ≠ b → (TX8 a).2.1 ≠ (TX8 b).2.1 := by decide +kernel
theorem tyX8_ok : ∀ k, k < 2 → parseFieldDescriptor (TX8 k).2.2.1 = some (tyX8 k) := by decide +kernel
abbrev cX8_init : ByteArray := prog_10_method_1_code
def yX8_init : MethodName := ⟨RX8, "<init>", "()V"⟩
abbrev cX8_append : ByteArray := prog_10_method_2_code
def yX8_append : MethodName := ⟨RX8, "append", "(I)V"⟩
def RX9 : String := "DoorSchool$Timetable"
def TX9 : u_T := fun k => match k with
  | 0 => ("DoorSchool$Timetable", "busy", "[I", true)
  | 1 => ("DoorSchool$Timetable", "begins", "[I", true)
  | 2 => ("DoorSchool$Timetable", "firstBegins", "[I", true)
  | 3 => ("DoorSchool$Timetable", "teachers", "I", false)
  | _ => ("DoorSchool$Timetable", "soonest", "I", false)
def tyX9 : Nat → FieldType := fun k => match k with
  | 0 => .array .int
  | 1 => .array .int
  | 2 => .array .int
  | 3 => .int
  | _ => .int
theorem nmX9 : ∀ a, a < 5 → ∀ b, b < 5 → a ≠ b → (TX9 a).2.1 ≠ (TX9 b).2.1 := by decide +kernel
theorem tyX9_ok : ∀ k, k < 5 → parseFieldDescriptor (TX9 k).2.2.1 = some (tyX9 k) := by decide +kernel
abbrev cX9_init : ByteArray := prog_11_method_1_code
def yX9_init : MethodName := ⟨RX9, "<init>", "()V"⟩
abbrev cX9_solve : ByteArray := prog_11_method_2_code
def yX9_solve : MethodName := ⟨RX9, "solve", "(LDoorSchool$Plan;I)I"⟩
abbrev cX9_placeFrom : ByteArray := prog_11_method_3_code
def yX9_placeFrom : MethodName := ⟨RX9, "placeFrom", "(LDoorSchool$Timetable;LDoorSchool$Plan;III)V"⟩
abbrev cX9_earliest : ByteArray := prog_11_method_4_code
def yX9_earliest : MethodName := ⟨RX9, "earliest", "(LDoorSchool$Plan;I)I"⟩
abbrev cX9_readyAt : ByteArray := prog_11_method_5_code
def yX9_readyAt : MethodName := ⟨RX9, "readyAt", "(LDoorSchool$Plan;I)I"⟩
abbrev cX9_work : ByteArray := prog_11_method_6_code
def yX9_work : MethodName := ⟨RX9, "work", "(III)V"⟩
abbrev cX9_keepIfFirst : ByteArray := prog_11_method_7_code
def yX9_keepIfFirst : MethodName := ⟨RX9, "keepIfFirst", "(I)V"⟩
abbrev cX9_isEarlier : ByteArray := prog_11_method_8_code
def yX9_isEarlier : MethodName := ⟨RX9, "isEarlier", "()Z"⟩
def RX10 : String := "DoorSchool"
def TX10 : u_T := fun k => match k with
  | 0 => ("DoorSchool", "tape", "LDoorSchool$Tape;", true)
  | 1 => ("DoorSchool", "reader", "LDoorSchool$Reader;", true)
  | 2 => ("DoorSchool", "rules", "LDoorSchool$Rules;", true)
  | 3 => ("DoorSchool", "learner", "LDoorSchool$Learner;", true)
  | 4 => ("DoorSchool", "hanging", "LDoorSchool$Hanging;", true)
  | 5 => ("DoorSchool", "timetable", "LDoorSchool$Timetable;", true)
  | 6 => ("DoorSchool", "slots", "[LDoorSchool$Slot;", true)
  | 7 => ("DoorSchool", "images", "[LDoorSchool$Plan;", true)
  | 8 => ("DoorSchool", "imaged", "[Z", true)
  | 9 => ("DoorSchool", "plan", "LDoorSchool$Plan;", false)
  | _ => ("DoorSchool", "spare", "LDoorSchool$Plan;", false)
def tyX10 : Nat → FieldType := fun k => match k with
  | 0 => .object "DoorSchool$Tape"
  | 1 => .object "DoorSchool$Reader"
  | 2 => .object "DoorSchool$Rules"
  | 3 => .object "DoorSchool$Learner"
  | 4 => .object "DoorSchool$Hanging"
  | 5 => .object "DoorSchool$Timetable"
  | 6 => .array (.object "DoorSchool$Slot")
  | 7 => .array (.object "DoorSchool$Plan")
  | 8 => .array .boolean
  | 9 => .object "DoorSchool$Plan"
  | _ => .object "DoorSchool$Plan"
theorem nmX10 : ∀ a, a < 11 → ∀ b, b < 11 → a ≠ b → (TX10 a).2.1 ≠ (TX10 b).2.1 := by decide +kernel
theorem tyX10_ok : ∀ k, k < 11 → parseFieldDescriptor (TX10 k).2.2.1 = some (tyX10 k) := by decide +kernel
abbrev cX10_init : ByteArray := prog_1_method_1_code
def yX10_init : MethodName := ⟨RX10, "<init>", "()V"⟩
abbrev cX10_feed : ByteArray := prog_1_method_2_code
def yX10_feed : MethodName := ⟨RX10, "feed", "(IIIII)I"⟩
abbrev cX10_end : ByteArray := prog_1_method_3_code
def yX10_end : MethodName := ⟨RX10, "end", "(I)I"⟩
abbrev cX10_school : ByteArray := prog_1_method_4_code
def yX10_school : MethodName := ⟨RX10, "school", "()I"⟩
abbrev cX10_fault : ByteArray := prog_1_method_5_code
def yX10_fault : MethodName := ⟨RX10, "fault", "(I)I"⟩
abbrev cX10_door : ByteArray := prog_1_method_6_code
def yX10_door : MethodName := ⟨RX10, "door", "(II)I"⟩
abbrev cX10_lesson : ByteArray := prog_1_method_7_code
def yX10_lesson : MethodName := ⟨RX10, "lesson", "(III)I"⟩
abbrev cX10_exam : ByteArray := prog_1_method_8_code
def yX10_exam : MethodName := ⟨RX10, "exam", "(II)I"⟩
abbrev cX10_house : ByteArray := prog_1_method_9_code
def yX10_house : MethodName := ⟨RX10, "house", "(II)I"⟩
abbrev cX10_opens : ByteArray := prog_1_method_10_code
def yX10_opens : MethodName := ⟨RX10, "opens", "(II)I"⟩
abbrev cX10_deeds : ByteArray := prog_1_method_11_code
def yX10_deeds : MethodName := ⟨RX10, "deeds", "(I)I"⟩
abbrev cX10_often : ByteArray := prog_1_method_12_code
def yX10_often : MethodName := ⟨RX10, "often", "(I)I"⟩
abbrev cX10_why : ByteArray := prog_1_method_13_code
def yX10_why : MethodName := ⟨RX10, "why", "(II)I"⟩
abbrev cX10_rule : ByteArray := prog_1_method_14_code
def yX10_rule : MethodName := ⟨RX10, "rule", "(II)I"⟩
abbrev cX10_rules : ByteArray := prog_1_method_15_code
def yX10_rules : MethodName := ⟨RX10, "rules", "(I)I"⟩
abbrev cX10_does : ByteArray := prog_1_method_16_code
def yX10_does : MethodName := ⟨RX10, "does", "(II)I"⟩
abbrev cX10_told : ByteArray := prog_1_method_17_code
def yX10_told : MethodName := ⟨RX10, "told", "(II)I"⟩
abbrev cX10_marks : ByteArray := prog_1_method_18_code
def yX10_marks : MethodName := ⟨RX10, "marks", "(I)I"⟩
abbrev cX10_wrong : ByteArray := prog_1_method_19_code
def yX10_wrong : MethodName := ⟨RX10, "wrong", "(I)I"⟩
abbrev cX10_best : ByteArray := prog_1_method_20_code
def yX10_best : MethodName := ⟨RX10, "best", "()I"⟩
abbrev cX10_hard : ByteArray := prog_1_method_21_code
def yX10_hard : MethodName := ⟨RX10, "hard", "()I"⟩
abbrev cX10_teach : ByteArray := prog_1_method_22_code
def yX10_teach : MethodName := ⟨RX10, "teach", "(III)I"⟩
abbrev cX10_unteach : ByteArray := prog_1_method_23_code
def yX10_unteach : MethodName := ⟨RX10, "unteach", "()I"⟩
abbrev cX10_gains : ByteArray := prog_1_method_24_code
def yX10_gains : MethodName := ⟨RX10, "gains", "(III)I"⟩
abbrev cX10_help : ByteArray := prog_1_method_25_code
def yX10_help : MethodName := ⟨RX10, "help", "(I)I"⟩
abbrev cX10_idle : ByteArray := prog_1_method_26_code
def yX10_idle : MethodName := ⟨RX10, "idle", "(I)I"⟩
abbrev cX10_fewest : ByteArray := prog_1_method_27_code
def yX10_fewest : MethodName := ⟨RX10, "fewest", "(II)I"⟩
abbrev cX10_course : ByteArray := prog_1_method_28_code
def yX10_course : MethodName := ⟨RX10, "course", "(II)I"⟩
abbrev cX10_sets : ByteArray := prog_1_method_29_code
def yX10_sets : MethodName := ⟨RX10, "sets", "(III)I"⟩
abbrev cX10_easiest : ByteArray := prog_1_method_30_code
def yX10_easiest : MethodName := ⟨RX10, "easiest", "(I)I"⟩
abbrev cX10_fooled : ByteArray := prog_1_method_31_code
def yX10_fooled : MethodName := ⟨RX10, "fooled", "(II)I"⟩
abbrev cX10_tries : ByteArray := prog_1_method_32_code
def yX10_tries : MethodName := ⟨RX10, "tries", "(II)I"⟩
abbrev cX10_trick : ByteArray := prog_1_method_33_code
def yX10_trick : MethodName := ⟨RX10, "trick", "(II)I"⟩
abbrev cX10_harden : ByteArray := prog_1_method_34_code
def yX10_harden : MethodName := ⟨RX10, "harden", "(I)I"⟩
abbrev cX10_left : ByteArray := prog_1_method_35_code
def yX10_left : MethodName := ⟨RX10, "left", "(I)I"⟩
abbrev cX10_game : ByteArray := prog_1_method_36_code
def yX10_game : MethodName := ⟨RX10, "game", "(III)I"⟩
abbrev cX10_rests : ByteArray := prog_1_method_37_code
def yX10_rests : MethodName := ⟨RX10, "rests", "(I)I"⟩
abbrev cX10_rest : ByteArray := prog_1_method_38_code
def yX10_rest : MethodName := ⟨RX10, "rest", "(I)I"⟩
abbrev cX10_way : ByteArray := prog_1_method_39_code
def yX10_way : MethodName := ⟨RX10, "way", "(II)I"⟩
abbrev cX10_errors : ByteArray := prog_1_method_40_code
def yX10_errors : MethodName := ⟨RX10, "errors", "(II)I"⟩
abbrev cX10_learnt : ByteArray := prog_1_method_41_code
def yX10_learnt : MethodName := ⟨RX10, "learnt", "(II)I"⟩
abbrev cX10_next : ByteArray := prog_1_method_42_code
def yX10_next : MethodName := ⟨RX10, "next", "(II)I"⟩
abbrev cX10_same : ByteArray := prog_1_method_43_code
def yX10_same : MethodName := ⟨RX10, "same", "(I)I"⟩
abbrev cX10_alike : ByteArray := prog_1_method_44_code
def yX10_alike : MethodName := ⟨RX10, "alike", "(I)I"⟩
abbrev cX10_copy : ByteArray := prog_1_method_45_code
def yX10_copy : MethodName := ⟨RX10, "copy", "(II)I"⟩
abbrev cX10_hanging : ByteArray := prog_1_method_46_code
def yX10_hanging : MethodName := ⟨RX10, "hanging", "()I"⟩
abbrev cX10_hung : ByteArray := prog_1_method_47_code
def yX10_hung : MethodName := ⟨RX10, "hung", "(I)I"⟩
abbrev cX10_amiss : ByteArray := prog_1_method_48_code
def yX10_amiss : MethodName := ⟨RX10, "amiss", "(II)I"⟩
abbrev cX10_fits : ByteArray := prog_1_method_49_code
def yX10_fits : MethodName := ⟨RX10, "fits", "(I)I"⟩
abbrev cX10_sure : ByteArray := prog_1_method_50_code
def yX10_sure : MethodName := ⟨RX10, "sure", "(II)I"⟩
abbrev cX10_ask : ByteArray := prog_1_method_51_code
def yX10_ask : MethodName := ⟨RX10, "ask", "(I)I"⟩
abbrev cX10_leaves : ByteArray := prog_1_method_52_code
def yX10_leaves : MethodName := ⟨RX10, "leaves", "(I)I"⟩
abbrev cX10_hours : ByteArray := prog_1_method_53_code
def yX10_hours : MethodName := ⟨RX10, "hours", "()I"⟩
abbrev cX10_begins : ByteArray := prog_1_method_54_code
def yX10_begins : MethodName := ⟨RX10, "begins", "(I)I"⟩
abbrev cX10_teacher : ByteArray := prog_1_method_55_code
def yX10_teacher : MethodName := ⟨RX10, "teacher", "()I"⟩
abbrev cX10_train : ByteArray := prog_1_method_56_code
def yX10_train : MethodName := ⟨RX10, "train", "(III)I"⟩
abbrev cX10_owns : ByteArray := prog_1_method_57_code
def yX10_owns : MethodName := ⟨RX10, "owns", "(II)I"⟩
abbrev cX10_storm : ByteArray := prog_1_method_58_code
def yX10_storm : MethodName := ⟨RX10, "storm", "(III)I"⟩
abbrev cX10_years : ByteArray := prog_1_method_59_code
def yX10_years : MethodName := ⟨RX10, "years", "(IIII)I"⟩
abbrev cX10_count : ByteArray := prog_1_method_60_code
def yX10_count : MethodName := ⟨RX10, "count", "(I)I"⟩
abbrev cX10_image : ByteArray := prog_1_method_61_code
def yX10_image : MethodName := ⟨RX10, "image", "(I)I"⟩
abbrev cX10_back : ByteArray := prog_1_method_62_code
def yX10_back : MethodName := ⟨RX10, "back", "(I)I"⟩
abbrev cX10_row : ByteArray := prog_1_method_63_code
def yX10_row : MethodName := ⟨RX10, "row", "(III)I"⟩
abbrev cX10_write : ByteArray := prog_1_method_64_code
def yX10_write : MethodName := ⟨RX10, "write", "(IIJ)I"⟩
abbrev cX10_paste : ByteArray := prog_1_method_65_code
def yX10_paste : MethodName := ⟨RX10, "paste", "(IIIII)I"⟩
abbrev cX10_isZeroOrOne : ByteArray := prog_1_method_66_code
def yX10_isZeroOrOne : MethodName := ⟨RX10, "isZeroOrOne", "(I)Z"⟩
abbrev cX10_isWay : ByteArray := prog_1_method_67_code
def yX10_isWay : MethodName := ⟨RX10, "isWay", "(I)Z"⟩
abbrev cX10_isSeed : ByteArray := prog_1_method_68_code
def yX10_isSeed : MethodName := ⟨RX10, "isSeed", "(I)Z"⟩
abbrev cX10_isSlot : ByteArray := prog_1_method_69_code
def yX10_isSlot : MethodName := ⟨RX10, "isSlot", "(I)Z"⟩
abbrev cX10_isLesson : ByteArray := prog_1_method_70_code
def yX10_isLesson : MethodName := ⟨RX10, "isLesson", "(III)Z"⟩
abbrev cX10_bit : ByteArray := prog_1_method_71_code
def yX10_bit : MethodName := ⟨RX10, "bit", "(II)I"⟩
abbrev cX10_agree : ByteArray := prog_1_method_72_code
def yX10_agree : MethodName := ⟨RX10, "agree", "(III)Z"⟩
abbrev cX10_doneBy : ByteArray := prog_1_method_73_code
def yX10_doneBy : MethodName := ⟨RX10, "doneBy", "(I)I"⟩
abbrev cX10_wouldDo : ByteArray := prog_1_method_74_code
def yX10_wouldDo : MethodName := ⟨RX10, "wouldDo", "(II)I"⟩
abbrev cX10_ownerDeeds : ByteArray := prog_1_method_75_code
def yX10_ownerDeeds : MethodName := ⟨RX10, "ownerDeeds", "()I"⟩
abbrev cX10_houseDeeds : ByteArray := prog_1_method_76_code
def yX10_houseDeeds : MethodName := ⟨RX10, "houseDeeds", "(I)I"⟩
abbrev cX10_marksFor : ByteArray := prog_1_method_77_code
def yX10_marksFor : MethodName := ⟨RX10, "marksFor", "(I)I"⟩
abbrev cX10_gainOf : ByteArray := prog_1_method_78_code
def yX10_gainOf : MethodName := ⟨RX10, "gainOf", "(III)I"⟩
abbrev cX10_fooling : ByteArray := prog_1_method_79_code
def yX10_fooling : MethodName := ⟨RX10, "fooling", "(I)I"⟩
abbrev cX10_foolingAfter : ByteArray := prog_1_method_80_code
def yX10_foolingAfter : MethodName := ⟨RX10, "foolingAfter", "(II)I"⟩
abbrev cX10_stolenBy : ByteArray := prog_1_method_81_code
def yX10_stolenBy : MethodName := ⟨RX10, "stolenBy", "(II)I"⟩
abbrev cX10_isRest : ByteArray := prog_1_method_82_code
def yX10_isRest : MethodName := ⟨RX10, "isRest", "(III)Z"⟩
abbrev cX10_hangAll : ByteArray := prog_1_method_83_code
def yX10_hangAll : MethodName := ⟨RX10, "hangAll", "()Z"⟩
abbrev cX10_troubleWith : ByteArray := prog_1_method_84_code
def yX10_troubleWith : MethodName := ⟨RX10, "troubleWith", "(I)I"⟩
abbrev cX10_askedOf : ByteArray := prog_1_method_85_code
def yX10_askedOf : MethodName := ⟨RX10, "askedOf", "(LDoorSchool$Slot;)I"⟩
abbrev cX10_leftAtWorst : ByteArray := prog_1_method_86_code
def yX10_leftAtWorst : MethodName := ⟨RX10, "leftAtWorst", "(LDoorSchool$Slot;I)I"⟩
abbrev cX10_doneInStorm : ByteArray := prog_1_method_87_code
def yX10_doneInStorm : MethodName := ⟨RX10, "doneInStorm", "(II)I"⟩
abbrev cX10_fullSlots : ByteArray := prog_1_method_88_code
def yX10_fullSlots : MethodName := ⟨RX10, "fullSlots", "()I"⟩
def RX11 : String := "DoorSchoolModel"
def TX11 : u_T := fun k => match k with
  | 0 => ("DoorSchoolModel", "thrown", "I", false)
  | 1 => ("DoorSchoolModel", "world", "[I", true)
  | 2 => ("DoorSchoolModel", "images", "[I", true)
  | 3 => ("DoorSchoolModel", "hasImage", "[Z", true)
  | 4 => ("DoorSchoolModel", "tape", "[B", true)
  | 5 => ("DoorSchoolModel", "taped", "I", false)
  | 6 => ("DoorSchoolModel", "five", "[I", true)
  | 7 => ("DoorSchoolModel", "size", "I", false)
  | 8 => ("DoorSchoolModel", "at", "I", false)
  | 9 => ("DoorSchoolModel", "from", "I", false)
  | 10 => ("DoorSchoolModel", "token", "I", false)
  | 11 => ("DoorSchoolModel", "value", "I", false)
  | 12 => ("DoorSchoolModel", "faultKind", "I", false)
  | 13 => ("DoorSchoolModel", "faultPlace", "I", false)
  | 14 => ("DoorSchoolModel", "fresh", "[I", true)
  | 15 => ("DoorSchoolModel", "ruleSigns", "[I", true)
  | 16 => ("DoorSchoolModel", "ruleThere", "[I", true)
  | 17 => ("DoorSchoolModel", "ruleDeeds", "[I", true)
  | 18 => ("DoorSchoolModel", "rulesMany", "I", false)
  | 19 => ("DoorSchoolModel", "learnKnock", "[I", true)
  | 20 => ("DoorSchoolModel", "learnOpen", "[I", true)
  | 21 => ("DoorSchoolModel", "learnMany", "I", false)
  | 22 => ("DoorSchoolModel", "errorsMany", "I", false)
  | 23 => ("DoorSchoolModel", "learntMany", "I", false)
  | 24 => ("DoorSchoolModel", "hungNow", "[I", true)
  | 25 => ("DoorSchoolModel", "hungBest", "[I", true)
  | 26 => ("DoorSchoolModel", "hungLeast", "I", false)
  | 27 => ("DoorSchoolModel", "begin", "[I", true)
  | 28 => ("DoorSchoolModel", "busy", "[I", true)
  | 29 => ("DoorSchoolModel", "fixed", "[I", true)
  | 30 => ("DoorSchoolModel", "order", "[I", true)
  | 31 => ("DoorSchoolModel", "slipped", "I", false)
  | 32 => ("DoorSchoolModel", "many", "[I", true)
  | 33 => ("DoorSchoolModel", "width", "[I", true)
  | 34 => ("DoorSchoolModel", "numbers", "[J", true)
  | _ => ("DoorSchoolModel", "moving", "[J", true)
def tyX11 : Nat → FieldType := fun k => match k with
  | 0 => .int
  | 1 => .array .int
  | 2 => .array .int
  | 3 => .array .boolean
  | 4 => .array .byte
  | 5 => .int
  | 6 => .array .int
  | 7 => .int
  | 8 => .int
  | 9 => .int
  | 10 => .int
  | 11 => .int
  | 12 => .int
  | 13 => .int
  | 14 => .array .int
  | 15 => .array .int
  | 16 => .array .int
  | 17 => .array .int
  | 18 => .int
  | 19 => .array .int
  | 20 => .array .int
  | 21 => .int
  | 22 => .int
  | 23 => .int
  | 24 => .array .int
  | 25 => .array .int
  | 26 => .int
  | 27 => .array .int
  | 28 => .array .int
  | 29 => .array .int
  | 30 => .array .int
  | 31 => .int
  | 32 => .array .int
  | 33 => .array .int
  | 34 => .array .long
  | _ => .array .long
theorem nmX11 : ∀ a, a < 36 → ∀ b, b < 36 → a ≠ b → (TX11 a).2.1 ≠ (TX11 b).2.1 := by decide +kernel
theorem tyX11_ok : ∀ k, k < 36 → parseFieldDescriptor (TX11 k).2.2.1 = some (tyX11 k) := by decide +kernel
abbrev cX11_init : ByteArray := prog_13_method_1_code
def yX11_init : MethodName := ⟨RX11, "<init>", "()V"⟩
abbrev cX11_in : ByteArray := prog_13_method_3_code
def yX11_in : MethodName := ⟨RX11, "in", "(JJJ)Z"⟩
abbrev cX11_bits : ByteArray := prog_13_method_4_code
def yX11_bits : MethodName := ⟨RX11, "bits", "(I)I"⟩
abbrev cX11_bit : ByteArray := prog_13_method_5_code
def yX11_bit : MethodName := ⟨RX11, "bit", "(II)I"⟩
abbrev cX11_image : ByteArray := prog_13_method_6_code
def yX11_image : MethodName := ⟨RX11, "image", "(I)I"⟩
abbrev cX11_back : ByteArray := prog_13_method_7_code
def yX11_back : MethodName := ⟨RX11, "back", "(I)I"⟩
abbrev cX11_isSchool : ByteArray := prog_13_method_8_code
def yX11_isSchool : MethodName := ⟨RX11, "isSchool", "()Z"⟩
abbrev cX11_knocks : ByteArray := prog_13_method_9_code
def yX11_knocks : MethodName := ⟨RX11, "knocks", "()I"⟩
abbrev cX11_allKnocks : ByteArray := prog_13_method_10_code
def yX11_allKnocks : MethodName := ⟨RX11, "allKnocks", "()I"⟩
abbrev cX11_isKnock : ByteArray := prog_13_method_11_code
def yX11_isKnock : MethodName := ⟨RX11, "isKnock", "(J)Z"⟩
abbrev cX11_isDoor : ByteArray := prog_13_method_12_code
def yX11_isDoor : MethodName := ⟨RX11, "isDoor", "(I)Z"⟩
abbrev cX11_isExam : ByteArray := prog_13_method_13_code
def yX11_isExam : MethodName := ⟨RX11, "isExam", "(I)Z"⟩
abbrev cX11_isHouse : ByteArray := prog_13_method_14_code
def yX11_isHouse : MethodName := ⟨RX11, "isHouse", "(I)Z"⟩
abbrev cX11_isWay : ByteArray := prog_13_method_15_code
def yX11_isWay : MethodName := ⟨RX11, "isWay", "(I)Z"⟩
abbrev cX11_areDeeds : ByteArray := prog_13_method_16_code
def yX11_areDeeds : MethodName := ⟨RX11, "areDeeds", "(I)Z"⟩
abbrev cX11_of : ByteArray := prog_13_method_17_code
def yX11_of : MethodName := ⟨RX11, "of", "(II)I"⟩
abbrev cX11_lessonAt : ByteArray := prog_13_method_18_code
def yX11_lessonAt : MethodName := ⟨RX11, "lessonAt", "(II)I"⟩
abbrev cX11_feed : ByteArray := prog_13_method_19_code
def yX11_feed : MethodName := ⟨RX11, "feed", "(IIIII)I"⟩
abbrev cX11_end : ByteArray := prog_13_method_20_code
def yX11_end : MethodName := ⟨RX11, "end", "(I)I"⟩
abbrev cX11_see : ByteArray := prog_13_method_21_code
def yX11_see : MethodName := ⟨RX11, "see", "(I)I"⟩
abbrev cX11_advance : ByteArray := prog_13_method_22_code
def yX11_advance : MethodName := ⟨RX11, "advance", "()V"⟩
abbrev cX11_good : ByteArray := prog_13_method_23_code
def yX11_good : MethodName := ⟨RX11, "good", "()Z"⟩
abbrev cX11_errs : ByteArray := prog_13_method_24_code
def yX11_errs : MethodName := ⟨RX11, "errs", "(I)V"⟩
abbrev cX11_is : ByteArray := prog_13_method_25_code
def yX11_is : MethodName := ⟨RX11, "is", "(Ljava/lang/String;)Z"⟩
abbrev cX11_takes : ByteArray := prog_13_method_26_code
def yX11_takes : MethodName := ⟨RX11, "takes", "(Ljava/lang/String;)Z"⟩
abbrev cX11_needs : ByteArray := prog_13_method_27_code
def yX11_needs : MethodName := ⟨RX11, "needs", "(Ljava/lang/String;)V"⟩
abbrev cX11_number : ByteArray := prog_13_method_28_code
def yX11_number : MethodName := ⟨RX11, "number", "(II)I"⟩
abbrev cX11_told : ByteArray := prog_13_method_29_code
def yX11_told : MethodName := ⟨RX11, "told", "(Ljava/lang/String;II)I"⟩
abbrev cX11_fault : ByteArray := prog_13_method_30_code
def yX11_fault : MethodName := ⟨RX11, "fault", "(I)I"⟩
abbrev cX11_freshKnock : ByteArray := prog_13_method_31_code
def yX11_freshKnock : MethodName := ⟨RX11, "freshKnock", "()I"⟩
abbrev cX11_deed : ByteArray := prog_13_method_32_code
def yX11_deed : MethodName := ⟨RX11, "deed", "()I"⟩
abbrev cX11_isNextIn : ByteArray := prog_13_method_33_code
def yX11_isNextIn : MethodName := ⟨RX11, "isNextIn", "(I)Z"⟩
abbrev cX11_readDoor : ByteArray := prog_13_method_34_code
def yX11_readDoor : MethodName := ⟨RX11, "readDoor", "()V"⟩
abbrev cX11_readLesson : ByteArray := prog_13_method_35_code
def yX11_readLesson : MethodName := ⟨RX11, "readLesson", "()V"⟩
abbrev cX11_isFreshCopied : ByteArray := prog_13_method_36_code
def yX11_isFreshCopied : MethodName := ⟨RX11, "isFreshCopied", "(I)Z"⟩
abbrev cX11_doesFreshCopy : ByteArray := prog_13_method_37_code
def yX11_doesFreshCopy : MethodName := ⟨RX11, "doesFreshCopy", "(I)Z"⟩
abbrev cX11_readTwin : ByteArray := prog_13_method_38_code
def yX11_readTwin : MethodName := ⟨RX11, "readTwin", "()V"⟩
abbrev cX11_readRule : ByteArray := prog_13_method_39_code
def yX11_readRule : MethodName := ⟨RX11, "readRule", "(I)V"⟩
abbrev cX11_readNext : ByteArray := prog_13_method_40_code
def yX11_readNext : MethodName := ⟨RX11, "readNext", "()V"⟩
abbrev cX11_readLine : ByteArray := prog_13_method_41_code
def yX11_readLine : MethodName := ⟨RX11, "readLine", "()V"⟩
abbrev cX11_school : ByteArray := prog_13_method_42_code
def yX11_school : MethodName := ⟨RX11, "school", "()I"⟩
abbrev cX11_deedsOf : ByteArray := prog_13_method_43_code
def yX11_deedsOf : MethodName := ⟨RX11, "deedsOf", "(II)I"⟩
abbrev cX11_layRules : ByteArray := prog_13_method_44_code
def yX11_layRules : MethodName := ⟨RX11, "layRules", "()V"⟩
abbrev cX11_add : ByteArray := prog_13_method_45_code
def yX11_add : MethodName := ⟨RX11, "add", "(II)V"⟩
abbrev cX11_layLessons : ByteArray := prog_13_method_46_code
def yX11_layLessons : MethodName := ⟨RX11, "layLessons", "(I)V"⟩
abbrev cX11_laySet : ByteArray := prog_13_method_47_code
def yX11_laySet : MethodName := ⟨RX11, "laySet", "(II)V"⟩
abbrev cX11_isAsTold : ByteArray := prog_13_method_48_code
def yX11_isAsTold : MethodName := ⟨RX11, "isAsTold", "(I)Z"⟩
abbrev cX11_firstRule : ByteArray := prog_13_method_49_code
def yX11_firstRule : MethodName := ⟨RX11, "firstRule", "()I"⟩
abbrev cX11_latestOf : ByteArray := prog_13_method_50_code
def yX11_latestOf : MethodName := ⟨RX11, "latestOf", "(I)I"⟩
abbrev cX11_nearestTo : ByteArray := prog_13_method_51_code
def yX11_nearestTo : MethodName := ⟨RX11, "nearestTo", "(I)I"⟩
abbrev cX11_byLesson : ByteArray := prog_13_method_52_code
def yX11_byLesson : MethodName := ⟨RX11, "byLesson", "(II)I"⟩
abbrev cX11_learns : ByteArray := prog_13_method_53_code
def yX11_learns : MethodName := ⟨RX11, "learns", "(I)I"⟩
abbrev cX11_real : ByteArray := prog_13_method_54_code
def yX11_real : MethodName := ⟨RX11, "real", "(I)I"⟩
abbrev cX11_deedsOfDoor : ByteArray := prog_13_method_55_code
def yX11_deedsOfDoor : MethodName := ⟨RX11, "deedsOfDoor", "(I)I"⟩
abbrev cX11_ownDeeds : ByteArray := prog_13_method_56_code
def yX11_ownDeeds : MethodName := ⟨RX11, "ownDeeds", "()I"⟩
abbrev cX11_door : ByteArray := prog_13_method_57_code
def yX11_door : MethodName := ⟨RX11, "door", "(II)I"⟩
abbrev cX11_lesson : ByteArray := prog_13_method_58_code
def yX11_lesson : MethodName := ⟨RX11, "lesson", "(III)I"⟩
abbrev cX11_exam : ByteArray := prog_13_method_59_code
def yX11_exam : MethodName := ⟨RX11, "exam", "(II)I"⟩
abbrev cX11_house : ByteArray := prog_13_method_60_code
def yX11_house : MethodName := ⟨RX11, "house", "(II)I"⟩
abbrev cX11_opens : ByteArray := prog_13_method_61_code
def yX11_opens : MethodName := ⟨RX11, "opens", "(II)I"⟩
abbrev cX11_deeds : ByteArray := prog_13_method_62_code
def yX11_deeds : MethodName := ⟨RX11, "deeds", "(I)I"⟩
abbrev cX11_often : ByteArray := prog_13_method_63_code
def yX11_often : MethodName := ⟨RX11, "often", "(I)I"⟩
abbrev cX11_why : ByteArray := prog_13_method_64_code
def yX11_why : MethodName := ⟨RX11, "why", "(II)I"⟩
abbrev cX11_rule : ByteArray := prog_13_method_65_code
def yX11_rule : MethodName := ⟨RX11, "rule", "(II)I"⟩
abbrev cX11_rules : ByteArray := prog_13_method_66_code
def yX11_rules : MethodName := ⟨RX11, "rules", "(I)I"⟩
abbrev cX11_isRule : ByteArray := prog_13_method_67_code
def yX11_isRule : MethodName := ⟨RX11, "isRule", "(II)Z"⟩
abbrev cX11_does : ByteArray := prog_13_method_68_code
def yX11_does : MethodName := ⟨RX11, "does", "(II)I"⟩
abbrev cX11_told_ : ByteArray := prog_13_method_69_code
def yX11_told_ : MethodName := ⟨RX11, "told", "(II)I"⟩
abbrev cX11_isRight : ByteArray := prog_13_method_70_code
def yX11_isRight : MethodName := ⟨RX11, "isRight", "(II)Z"⟩
abbrev cX11_marksBy : ByteArray := prog_13_method_71_code
def yX11_marksBy : MethodName := ⟨RX11, "marksBy", "(I)I"⟩
abbrev cX11_marks : ByteArray := prog_13_method_72_code
def yX11_marks : MethodName := ⟨RX11, "marks", "(I)I"⟩
abbrev cX11_wrong : ByteArray := prog_13_method_73_code
def yX11_wrong : MethodName := ⟨RX11, "wrong", "(I)I"⟩
abbrev cX11_best : ByteArray := prog_13_method_74_code
def yX11_best : MethodName := ⟨RX11, "best", "()I"⟩
abbrev cX11_hard : ByteArray := prog_13_method_75_code
def yX11_hard : MethodName := ⟨RX11, "hard", "()I"⟩
abbrev cX11_teach : ByteArray := prog_13_method_76_code
def yX11_teach : MethodName := ⟨RX11, "teach", "(III)I"⟩
abbrev cX11_unteach : ByteArray := prog_13_method_77_code
def yX11_unteach : MethodName := ⟨RX11, "unteach", "()I"⟩
abbrev cX11_deedsWith : ByteArray := prog_13_method_78_code
def yX11_deedsWith : MethodName := ⟨RX11, "deedsWith", "(III)I"⟩
abbrev cX11_gains : ByteArray := prog_13_method_79_code
def yX11_gains : MethodName := ⟨RX11, "gains", "(III)I"⟩
abbrev cX11_help : ByteArray := prog_13_method_80_code
def yX11_help : MethodName := ⟨RX11, "help", "(I)I"⟩
abbrev cX11_deedsWithout : ByteArray := prog_13_method_81_code
def yX11_deedsWithout : MethodName := ⟨RX11, "deedsWithout", "(II)I"⟩
abbrev cX11_idle : ByteArray := prog_13_method_82_code
def yX11_idle : MethodName := ⟨RX11, "idle", "(I)I"⟩
abbrev cX11_learnsBy : ByteArray := prog_13_method_83_code
def yX11_learnsBy : MethodName := ⟨RX11, "learnsBy", "(III)Z"⟩
abbrev cX11_fewestSet : ByteArray := prog_13_method_84_code
def yX11_fewestSet : MethodName := ⟨RX11, "fewestSet", "(II)I"⟩
abbrev cX11_fewest : ByteArray := prog_13_method_85_code
def yX11_fewest : MethodName := ⟨RX11, "fewest", "(II)I"⟩
abbrev cX11_course : ByteArray := prog_13_method_86_code
def yX11_course : MethodName := ⟨RX11, "course", "(II)I"⟩
abbrev cX11_sets : ByteArray := prog_13_method_87_code
def yX11_sets : MethodName := ⟨RX11, "sets", "(III)I"⟩
abbrev cX11_easiest : ByteArray := prog_13_method_88_code
def yX11_easiest : MethodName := ⟨RX11, "easiest", "(I)I"⟩
abbrev cX11_fooled : ByteArray := prog_13_method_89_code
def yX11_fooled : MethodName := ⟨RX11, "fooled", "(II)I"⟩
abbrev cX11_trickOf : ByteArray := prog_13_method_90_code
def yX11_trickOf : MethodName := ⟨RX11, "trickOf", "(II)I"⟩
abbrev cX11_tries : ByteArray := prog_13_method_91_code
def yX11_tries : MethodName := ⟨RX11, "tries", "(II)I"⟩
abbrev cX11_trick : ByteArray := prog_13_method_92_code
def yX11_trick : MethodName := ⟨RX11, "trick", "(II)I"⟩
abbrev cX11_fooledBy : ByteArray := prog_13_method_93_code
def yX11_fooledBy : MethodName := ⟨RX11, "fooledBy", "(I)I"⟩
abbrev cX11_hardened : ByteArray := prog_13_method_94_code
def yX11_hardened : MethodName := ⟨RX11, "hardened", "(II)I"⟩
abbrev cX11_harden : ByteArray := prog_13_method_95_code
def yX11_harden : MethodName := ⟨RX11, "harden", "(I)I"⟩
abbrev cX11_left : ByteArray := prog_13_method_96_code
def yX11_left : MethodName := ⟨RX11, "left", "(I)I"⟩
abbrev cX11_deedsByWay : ByteArray := prog_13_method_97_code
def yX11_deedsByWay : MethodName := ⟨RX11, "deedsByWay", "(II)I"⟩
abbrev cX11_isStrange : ByteArray := prog_13_method_98_code
def yX11_isStrange : MethodName := ⟨RX11, "isStrange", "(I)Z"⟩
abbrev cX11_game : ByteArray := prog_13_method_99_code
def yX11_game : MethodName := ⟨RX11, "game", "(III)I"⟩
abbrev cX11_isRest : ByteArray := prog_13_method_100_code
def yX11_isRest : MethodName := ⟨RX11, "isRest", "(III)Z"⟩
abbrev cX11_rests : ByteArray := prog_13_method_101_code
def yX11_rests : MethodName := ⟨RX11, "rests", "(I)I"⟩
abbrev cX11_rest : ByteArray := prog_13_method_102_code
def yX11_rest : MethodName := ⟨RX11, "rest", "(I)I"⟩
abbrev cX11_way : ByteArray := prog_13_method_103_code
def yX11_way : MethodName := ⟨RX11, "way", "(II)I"⟩
abbrev cX11_teachAll : ByteArray := prog_13_method_104_code
def yX11_teachAll : MethodName := ⟨RX11, "teachAll", "(II)V"⟩
abbrev cX11_errors : ByteArray := prog_13_method_105_code
def yX11_errors : MethodName := ⟨RX11, "errors", "(II)I"⟩
abbrev cX11_learnt : ByteArray := prog_13_method_106_code
def yX11_learnt : MethodName := ⟨RX11, "learnt", "(II)I"⟩
abbrev cX11_next : ByteArray := prog_13_method_107_code
def yX11_next : MethodName := ⟨RX11, "next", "(II)I"⟩
abbrev cX11_numberAt : ByteArray := prog_13_method_108_code
def yX11_numberAt : MethodName := ⟨RX11, "numberAt", "(II)J"⟩
abbrev cX11_asksSeen : ByteArray := prog_13_method_109_code
def yX11_asksSeen : MethodName := ⟨RX11, "asksSeen", "(IZ)I"⟩
abbrev cX11_doesSo : ByteArray := prog_13_method_110_code
def yX11_doesSo : MethodName := ⟨RX11, "doesSo", "(II)Z"⟩
abbrev cX11_same : ByteArray := prog_13_method_111_code
def yX11_same : MethodName := ⟨RX11, "same", "(I)I"⟩
abbrev cX11_alike : ByteArray := prog_13_method_112_code
def yX11_alike : MethodName := ⟨RX11, "alike", "(I)I"⟩
abbrev cX11_isCopied : ByteArray := prog_13_method_113_code
def yX11_isCopied : MethodName := ⟨RX11, "isCopied", "(I)Z"⟩
abbrev cX11_copy : ByteArray := prog_13_method_114_code
def yX11_copy : MethodName := ⟨RX11, "copy", "(II)I"⟩
abbrev cX11_amissOf : ByteArray := prog_13_method_115_code
def yX11_amissOf : MethodName := ⟨RX11, "amissOf", "(II)I"⟩
abbrev cX11_hangAll : ByteArray := prog_13_method_116_code
def yX11_hangAll : MethodName := ⟨RX11, "hangAll", "()V"⟩
abbrev cX11_hanging : ByteArray := prog_13_method_117_code
def yX11_hanging : MethodName := ⟨RX11, "hanging", "()I"⟩
abbrev cX11_hung : ByteArray := prog_13_method_118_code
def yX11_hung : MethodName := ⟨RX11, "hung", "(I)I"⟩
abbrev cX11_amiss : ByteArray := prog_13_method_119_code
def yX11_amiss : MethodName := ⟨RX11, "amiss", "(II)I"⟩
abbrev cX11_fitsOf : ByteArray := prog_13_method_120_code
def yX11_fitsOf : MethodName := ⟨RX11, "fitsOf", "(I)I"⟩
abbrev cX11_fits : ByteArray := prog_13_method_121_code
def yX11_fits : MethodName := ⟨RX11, "fits", "(I)I"⟩
abbrev cX11_sure : ByteArray := prog_13_method_122_code
def yX11_sure : MethodName := ⟨RX11, "sure", "(II)I"⟩
abbrev cX11_worstOf : ByteArray := prog_13_method_123_code
def yX11_worstOf : MethodName := ⟨RX11, "worstOf", "(II)I"⟩
abbrev cX11_askOf : ByteArray := prog_13_method_124_code
def yX11_askOf : MethodName := ⟨RX11, "askOf", "(I)I"⟩
abbrev cX11_ask : ByteArray := prog_13_method_125_code
def yX11_ask : MethodName := ⟨RX11, "ask", "(I)I"⟩
abbrev cX11_leaves : ByteArray := prog_13_method_126_code
def yX11_leaves : MethodName := ⟨RX11, "leaves", "(I)I"⟩
abbrev cX11_takesOf : ByteArray := prog_13_method_127_code
def yX11_takesOf : MethodName := ⟨RX11, "takesOf", "(I)I"⟩
abbrev cX11_overOf : ByteArray := prog_13_method_128_code
def yX11_overOf : MethodName := ⟨RX11, "overOf", "(I)I"⟩
abbrev cX11_isFree : ByteArray := prog_13_method_129_code
def yX11_isFree : MethodName := ⟨RX11, "isFree", "(III)Z"⟩
abbrev cX11_put : ByteArray := prog_13_method_130_code
def yX11_put : MethodName := ⟨RX11, "put", "(II)V"⟩
abbrev cX11_afterAll : ByteArray := prog_13_method_131_code
def yX11_afterAll : MethodName := ⟨RX11, "afterAll", "(II)I"⟩
abbrev cX11_overBy : ByteArray := prog_13_method_132_code
def yX11_overBy : MethodName := ⟨RX11, "overBy", "(III)I"⟩
abbrev cX11_leastHours : ByteArray := prog_13_method_133_code
def yX11_leastHours : MethodName := ⟨RX11, "leastHours", "(II)I"⟩
abbrev cX11_hours : ByteArray := prog_13_method_134_code
def yX11_hours : MethodName := ⟨RX11, "hours", "()I"⟩
abbrev cX11_mayBegin : ByteArray := prog_13_method_135_code
def yX11_mayBegin : MethodName := ⟨RX11, "mayBegin", "(II)Z"⟩
abbrev cX11_begins : ByteArray := prog_13_method_136_code
def yX11_begins : MethodName := ⟨RX11, "begins", "(I)I"⟩
abbrev cX11_teacher : ByteArray := prog_13_method_137_code
def yX11_teacher : MethodName := ⟨RX11, "teacher", "()I"⟩
abbrev cX11_train : ByteArray := prog_13_method_138_code
def yX11_train : MethodName := ⟨RX11, "train", "(III)I"⟩
abbrev cX11_owns : ByteArray := prog_13_method_139_code
def yX11_owns : MethodName := ⟨RX11, "owns", "(II)I"⟩
abbrev cX11_stormed : ByteArray := prog_13_method_140_code
def yX11_stormed : MethodName := ⟨RX11, "stormed", "(JI)I"⟩
abbrev cX11_isSeed : ByteArray := prog_13_method_141_code
def yX11_isSeed : MethodName := ⟨RX11, "isSeed", "(I)Z"⟩
abbrev cX11_storm : ByteArray := prog_13_method_142_code
def yX11_storm : MethodName := ⟨RX11, "storm", "(III)I"⟩
abbrev cX11_years : ByteArray := prog_13_method_143_code
def yX11_years : MethodName := ⟨RX11, "years", "(IIII)I"⟩
abbrev cX11_count : ByteArray := prog_13_method_144_code
def yX11_count : MethodName := ⟨RX11, "count", "(I)I"⟩
abbrev cX11_isSlot : ByteArray := prog_13_method_145_code
def yX11_isSlot : MethodName := ⟨RX11, "isSlot", "(I)Z"⟩
abbrev cX11_cut : ByteArray := prog_13_method_146_code
def yX11_cut : MethodName := ⟨RX11, "cut", "(JI)J"⟩
abbrev cX11_row : ByteArray := prog_13_method_147_code
def yX11_row : MethodName := ⟨RX11, "row", "(III)I"⟩
abbrev cX11_write : ByteArray := prog_13_method_148_code
def yX11_write : MethodName := ⟨RX11, "write", "(IIJ)I"⟩
abbrev cX11_paste : ByteArray := prog_13_method_149_code
def yX11_paste : MethodName := ⟨RX11, "paste", "(IIIII)I"⟩
def RJ6 : String := "java/lang/Integer"
abbrev cJ6_bitCount_0f7a4 : ByteArray := prog_14_method_49_code
def yJ6_bitCount_0f7a4 : MethodName := ⟨RJ6, "bitCount", "(I)I"⟩
def RJ9 : String := "java/lang/Math"
abbrev cJ9_max_7cf53 : ByteArray := prog_15_method_65_code
def yJ9_max_7cf53 : MethodName := ⟨RJ9, "max", "(II)I"⟩
abbrev cJ9_min_7cf53 : ByteArray := prog_15_method_69_code
def yJ9_min_7cf53 : MethodName := ⟨RJ9, "min", "(II)I"⟩
def RJ0 : String := "java/lang/String"
abbrev cJ0_length_8abf5 : ByteArray := prog_16_method_54_code
def yJ0_length_8abf5 : MethodName := ⟨RJ0, "length", "()I"⟩
abbrev cJ0_charAt_5068e : ByteArray := prog_16_method_56_code
def yJ0_charAt_5068e : MethodName := ⟨RJ0, "charAt", "(I)C"⟩
abbrev cJ0_coder_7d493 : ByteArray := prog_16_method_152_code
def yJ0_coder_7d493 : MethodName := ⟨RJ0, "coder", "()B"⟩
abbrev cJ0_isLatin1_aae02 : ByteArray := prog_16_method_154_code
def yJ0_isLatin1_aae02 : MethodName := ⟨RJ0, "isLatin1", "()Z"⟩
abbrev cJ0_checkIndex_df160 : ByteArray := prog_16_method_155_code
def yJ0_checkIndex_df160 : MethodName := ⟨RJ0, "checkIndex", "(II)V"⟩
def RJ1 : String := "java/lang/StringLatin1"
abbrev cJ1_charAt_3b067 : ByteArray := prog_17_method_2_code
def yJ1_charAt_3b067 : MethodName := ⟨RJ1, "charAt", "([BI)C"⟩
def RJ2 : String := "java/lang/StringUTF16"
abbrev cJ2_getChar_3b067 : ByteArray := prog_18_method_5_code
def yJ2_getChar_3b067 : MethodName := ⟨RJ2, "getChar", "([BI)C"⟩
abbrev cJ2_length_9d52b : ByteArray := prog_18_method_6_code
def yJ2_length_9d52b : MethodName := ⟨RJ2, "length", "([B)I"⟩
abbrev cJ2_charAt_3b067 : ByteArray := prog_18_method_83_code
def yJ2_charAt_3b067 : MethodName := ⟨RJ2, "charAt", "([BI)C"⟩
abbrev cJ2_checkIndex_2214a : ByteArray := prog_18_method_91_code
def yJ2_checkIndex_2214a : MethodName := ⟨RJ2, "checkIndex", "(I[B)V"⟩
def RJ10 : String := "java/lang/System"
def RJ7 : String := "java/util/Arrays"
abbrev cJ7_fill_d0a16 : ByteArray := prog_20_method_101_code
def yJ7_fill_d0a16 : MethodName := ⟨RJ7, "fill", "([JJ)V"⟩
abbrev cJ7_fill_53178 : ByteArray := prog_20_method_103_code
def yJ7_fill_53178 : MethodName := ⟨RJ7, "fill", "([II)V"⟩
def RJ3 : String := "jdk/internal/util/Preconditions"
abbrev cJ3_checkIndex_8e157 : ByteArray := prog_21_method_11_code
def yJ3_checkIndex_8e157 : MethodName := ⟨RJ3, "checkIndex", "(IILjava/util/function/BiFunction;)I"⟩
def RL : String := "DoorSchoolLaw"
abbrev cL_law : ByteArray := code
def yL_law : MethodName := ⟨RL, "law", "([I)Z"⟩
abbrev vwCl : List vw_C := [(RX0, TX0, 4), (RX1, TX1, 6), (RX2, TX2, 2), (RX3, TX3, 3), (RX4, TX4, 16), (RX5, TX5, 7), (RX6, TX6, 5), (RX7, TX7, 4), (RX8, TX8, 2), (RX9, TX9, 5), (RX10, TX10, 11), (RX11, TX11, 36)]
def HOST : String := "DoorSchool"
/-- the types of the rows -/
def TYS (tyc : Nat → ClassId) : List (ClassId × FieldType) := [(tyc 0, .int), (tyc 1, .long), (tyc 2, .byte), (tyc 3, .boolean), (tyc 4, .object RX0), (tyc 5, .object RX4), (tyc 6, .object RX7)]
theorem TYS_get (tyc : Nat → ClassId) {i : Nat} (h : i < 7) : ∃ ty, (TYS tyc)[i]? = some (tyc i, ty) := by
  match i, h with
  | 0, _ => exact ⟨_, rfl⟩
  | 1, _ => exact ⟨_, rfl⟩
  | 2, _ => exact ⟨_, rfl⟩
  | 3, _ => exact ⟨_, rfl⟩
  | 4, _ => exact ⟨_, rfl⟩
  | 5, _ => exact ⟨_, rfl⟩
  | 6, _ => exact ⟨_, rfl⟩
  | n + 7, h => omega
def TYF (ci : Nat) : Nat → FieldType := match ci with
  | 0 => tyX0
  | 1 => tyX1
  | 2 => tyX2
  | 3 => tyX3
  | 4 => tyX4
  | 5 => tyX5
  | 6 => tyX6
  | 7 => tyX7
  | 8 => tyX8
  | 9 => tyX9
  | 10 => tyX10
  | _ => tyX11
/-- a new object -/
def DFL (ci : Nat) : List Value := match ci with
  | 0 => [.null, .int 0, .int 0, .int 0]
  | 1 => [.null, .null, .null, .int 0, .int 0, .int 0]
  | 2 => [.null, .null]
  | 3 => [.null, .null, .int 0]
  | 4 => [.int 0, .int 0, .int 0, .int 0, .null, .null, .int 0, .int 0, .int 0, .null, .null, .int 0, .null, .null, .int 0, .null]
  | 5 => [.null, .int 0, .int 0, .int 0, .int 0, .int 0, .int 0]
  | 6 => [.int 0, .int 0, .null, .null, .null]
  | 7 => [.null, .int 0, .int 0, .int 0]
  | 8 => [.null, .int 0]
  | 9 => [.null, .null, .null, .int 0, .int 0]
  | 10 => [.null, .null, .null, .null, .null, .null, .null, .null, .null, .null, .null]
  | 11 => [.int 0, .null, .null, .null, .null, .int 0, .null, .int 0, .int 0, .int 0, .int 0, .int 0, .int 0, .int 0, .null, .null, .null, .null, .int 0, .null, .null, .int 0, .int 0, .int 0, .null, .null, .int 0, .null, .null, .null, .null, .int 0, .null, .null, .null, .null]
  | _ => []
end
section
/-! THE ABSTRACT MACHINE: cells by numbers in the order in which they are made; the true address is base + number. A cell: kind (0 object, 1 ints, 2 longs, 3 references), class or type, contents. The script's row is the value retAddr. -/
abbrev AC : Type := Nat × Nat × List Value
abbrev AH : Type := List AC
abbrev ALv : Type := List (Nat × Value)
/-- place, then instruction, length, target of its jump -/
abbrev AI : Type := Nat × Instr × Nat × Nat
/-- pool entry, then class, slot, code (0 own, 1 nest mate, 2 own final in init, 3 own final, 4 nest mate's final), place of its word -/
abbrev AF : Type := Nat × Nat × Nat × Nat × Nat × Nat
/-- pool entry, then kind (0 virtual, 1 virtual of a nest mate, 2 static, 3 static of a nest mate, 4 init, 5 init of a nest mate, 8 arraycopy, 9 Object's init), callee, place of its word -/
abbrev AK : Type := Nat × Nat × Nat × Nat × Nat
abbrev AKi : Type := Nat × Int32 × Nat × Nat
abbrev AKl : Type := Nat × Int64 × Nat × Nat
/-- pool entry, then class, place of its word -/
abbrev AKc : Type := Nat × Nat × Nat × Nat
abbrev MR : Type := (MethodName × ByteArray × Nat × Nat × Option FieldType) × List AI × (List AF × List AK × List AKi × List AKl × List AKc) × (Nat × (Nat × Nat) × (Nat × Nat) × (Nat × Nat) × (Nat × Nat))
def my (F : MR) : MethodName := F.1.1
def mcc (F : MR) : ByteArray := F.1.2.1
def mml (F : MR) : Nat := F.1.2.2.1
def mnp (F : MR) : Nat := F.1.2.2.2.1
def mret (F : MR) : Option FieldType := F.1.2.2.2.2
def mcode (F : MR) : List AI := F.2.1
def mfl (F : MR) : List AF := F.2.2.1.1
def mcl (F : MR) : List AK := F.2.2.1.2.1
def mki (F : MR) : List AKi := F.2.2.1.2.2.1
def mkl (F : MR) : List AKl := F.2.2.1.2.2.2.1
def mkc (F : MR) : List AKc := F.2.2.1.2.2.2.2
def mci (F : MR) : Nat := F.2.2.2.1
def mpCode (F : MR) : Nat × Nat := F.2.2.2.2.1
def mpIni (F : MR) : Nat × Nat := F.2.2.2.2.2.1
def mpIns (F : MR) : Nat × Nat := F.2.2.2.2.2.2.1
def mpSel (F : MR) : Nat × Nat := F.2.2.2.2.2.2.2
def fnd {α : Type} (l : List (Nat × α)) (k : Nat) : Option α := match l with
  | [] => none
  | q :: t => if q.1 == k then some q.2 else fnd t k
theorem fnd_mem {α : Type} {l : List (Nat × α)} {k : Nat} {a : α} (h : fnd l k = some a) : (k, a) ∈ l := by
  induction l with
  | nil => cases h
  | cons q t ih =>
    unfold fnd at h
    split at h
    · rename_i hq
      cases h
      have e : q.1 = k := by simpa using hq
      subst e
      exact List.mem_cons_self
    · exact List.mem_cons_of_mem _ (ih h)
def ilen : Instr → Nat
  | .bipush _ | .ldc _ | .iload _ | .lload _ | .aload _ | .istore _ | .lstore _ | .astore _ | .newarray _ => 2
  | .sipush _ | .getfield _ | .putfield _ | .goto _ | .ifCond _ _ | .if_icmp _ _ | .iinc _ _ | .invokevirtual _ | .invokestatic _ | .invokespecial _ | .new _ | .anewarray _ | .ldc_w _ | .ldc2_w _ => 3
  | .tableswitch _ _ _ _ | .lookupswitch _ _ => 0
  | _ => 1
def ioff : Instr → Option Int
  | .goto o | .ifCond _ o | .if_icmp _ o => some o
  | _ => none
/-- 0 reads alone, 1 writes, 2 makes, 3 calls, 4 returns -/
def ikind : Instr → Nat
  | .putfield _ | .iastore | .bastore | .lastore | .aastore => 1
  | .new _ | .newarray _ | .anewarray _ => 2
  | .invokevirtual _ | .invokestatic _ | .invokespecial _ => 3
  | .ireturn | .lreturn | .areturn | .return_ => 4
  | _ => 0
/-! values, cells and worlds as the machine has them -/
def gV (b base : Nat) : Value → Value
  | .ref i => .ref (base + i)
  | .retAddr _ => .ref b
  | v => v
def asI : Value → Int32
  | .int x => x
  | _ => 0
def asL : Value → Int64
  | .long x => x
  | _ => 0
def asR (base : Nat) : Value → Option Nat
  | .ref i => some (base + i)
  | _ => none
def gE (b base : Nat) (tyc : Nat → ClassId) (c : AC) : va_E :=
  if c.1 = 0 then .inr (c.2.1, c.2.2.map (gV b base))
  else if c.1 = 1 then .inl (tyc c.2.1, c.2.2.length, .inl (fun j => asI (c.2.2.getD j .null)))
  else if c.1 = 2 then .inl (tyc c.2.1, c.2.2.length, .inr (.inl (fun j => asL (c.2.2.getD j .null))))
  else .inl (tyc c.2.1, c.2.2.length, .inr (.inr (.inr (.inr (fun j => asR base (c.2.2.getD j .null))))))
def gW (b base : Nat) (tyc : Nat → ClassId) (h : AH) : va_W := h.mapIdx (fun i c => (base + i, gE b base tyc c))
def gL (b base : Nat) (lv : ALv) : List (Nat × Value) := lv.map (fun q => (q.1, gV b base q.2))
theorem gV_cat (b base : Nat) (v : Value) : (gV b base v).category = v.category := by cases v <;> rfl
theorem gW_get (b base : Nat) (tyc : Nat → ClassId) (h : AH) (i : Nat) : (gW b base tyc h)[i]? = (h[i]?).map (fun c => (base + i, gE b base tyc c)) := by
  unfold gW; rw [List.getElem?_mapIdx]
theorem gW_at {b base : Nat} {tyc : Nat → ClassId} {h : AH} {i : Nat} {c : AC} (hc : h[i]? = some c) : (gW b base tyc h)[i]? = some (base + i, gE b base tyc c) := by
  rw [gW_get, hc]; rfl
theorem gW_len (b base : Nat) (tyc : Nat → ClassId) (h : AH) : (gW b base tyc h).length = h.length := by
  unfold gW; simp
theorem gW_set {b base : Nat} {tyc : Nat → ClassId} {h : AH} {i : Nat} {c : AC} : (gW b base tyc h).set i (base + i, gE b base tyc c) = gW b base tyc (h.set i c) := by
  apply List.ext_getElem?
  intro j
  rw [gW_get, List.getElem?_set, List.getElem?_set, gW_get, gW_len]
  by_cases hij : i = j
  · subst hij
    by_cases hi : i < h.length <;> simp [hi]
  · simp [hij]
theorem gW_push (b base : Nat) (tyc : Nat → ClassId) (h : AH) (c : AC) : gW b base tyc (h ++ [c]) = gW b base tyc h ++ [(base + h.length, gE b base tyc c)] := by
  unfold gW; simp [List.mapIdx_append]
theorem gW_D (b base : Nat) (tyc : Nat → ClassId) (h : AH) : va_D (fun q => base ≤ q) (gW b base tyc h) := by
  refine ⟨fun i j p q hi hj hpq => ?_, fun k q hk => ?_⟩
  · rw [gW_get] at hi hj
    obtain ⟨c, -, rfl⟩ := Option.map_eq_some_iff.mp hi
    obtain ⟨d, -, rfl⟩ := Option.map_eq_some_iff.mp hj
    dsimp only at hpq
    omega
  · rw [gW_get] at hk
    obtain ⟨c, -, rfl⟩ := Option.map_eq_some_iff.mp hk
    exact Nat.le_add_right _ _
theorem gE_o {b base : Nat} {tyc : Nat → ClassId} {c : AC} (h : c.1 = 0) : gE b base tyc c = .inr (c.2.1, c.2.2.map (gV b base)) := by simp [gE, h]
theorem gE_i {b base : Nat} {tyc : Nat → ClassId} {c : AC} (h : c.1 = 1) : gE b base tyc c = .inl (tyc c.2.1, c.2.2.length, .inl (fun j => asI (c.2.2.getD j .null))) := by simp [gE, h]
theorem gE_l {b base : Nat} {tyc : Nat → ClassId} {c : AC} (h : c.1 = 2) : gE b base tyc c = .inl (tyc c.2.1, c.2.2.length, .inr (.inl (fun j => asL (c.2.2.getD j .null)))) := by simp [gE, h]
theorem gE_r {b base : Nat} {tyc : Nat → ClassId} {c : AC} (h : c.1 = 3) : gE b base tyc c = .inl (tyc c.2.1, c.2.2.length, .inr (.inr (.inr (.inr (fun j => asR base (c.2.2.getD j .null)))))) := by simp [gE, h]
/-- the world: the cells from base on -/
def Wd (D : va_G) (tyc : Nat → ClassId) (b base : Nat) (h : AH) (H : Heap) : Prop := H.size = base + h.length ∧ va_P D vwCl (gW b base tyc h) H
def slo (h : AH) : Nat := (h.map (fun c => c.2.2.length)).sum
theorem lvA {ls : Array Slot} {nL b base : Nat} {lv : ALv} {i : Nat} {v : Value} (h : lv_has ls nL (gL b base lv)) (hf : fnd lv i = some v) : ls[i]? = some (.val (gV b base v)) :=
  h.2.2 (i, gV b base v) (List.mem_map.mpr ⟨(i, v), fnd_mem hf, rfl⟩)
def lvset1 (lv : ALv) (i : Nat) (v : Value) : ALv := (i, v) :: lv.filter (fun q => !(q.1 == i) && !(q.1 + 1 == i && q.2.category == 2))
def lvset2 (lv : ALv) (i : Nat) (v : Value) : ALv := (i, v) :: lv.filter (fun q => !(q.1 == i) && (!(q.1 == i + 1) && !(q.1 + 1 == i && q.2.category == 2)))
theorem gL_set1 (b base : Nat) (lv : ALv) (i : Nat) (v : Value) : (i, gV b base v) :: (gL b base lv).filter (fun q => !(q.1 == i) && !(q.1 + 1 == i && q.2.category == 2)) = gL b base (lvset1 lv i v) := by
  simp [gL, lvset1, List.filter_map, Function.comp_def, gV_cat]
theorem gL_set2 (b base : Nat) (lv : ALv) (i : Nat) (v : Value) : (i, gV b base v) :: (gL b base lv).filter (fun q => !(q.1 == i) && (!(q.1 == i + 1) && !(q.1 + 1 == i && q.2.category == 2))) = gL b base (lvset2 lv i v) := by
  simp [gL, lvset2, List.filter_map, Function.comp_def, gV_cat]
/-! the stack's shapes -/
def sI {α : Type} (st : List Value) (f : Int32 → List Value → Option α) : Option α := match st with
  | .int x :: r => f x r
  | _ => none
def sII {α : Type} (st : List Value) (f : Int32 → Int32 → List Value → Option α) : Option α := match st with
  | .int y :: .int x :: r => f x y r
  | _ => none
def sL {α : Type} (st : List Value) (f : Int64 → List Value → Option α) : Option α := match st with
  | .long x :: r => f x r
  | _ => none
def sLL {α : Type} (st : List Value) (f : Int64 → Int64 → List Value → Option α) : Option α := match st with
  | .long y :: .long x :: r => f x y r
  | _ => none
def sLI {α : Type} (st : List Value) (f : Int64 → Int32 → List Value → Option α) : Option α := match st with
  | .int y :: .long x :: r => f x y r
  | _ => none
def sR {α : Type} (st : List Value) (f : Nat → List Value → Option α) : Option α := match st with
  | .ref a :: r => f a r
  | _ => none
def sRI {α : Type} (st : List Value) (f : Nat → Int32 → List Value → Option α) : Option α := match st with
  | .int j :: .ref a :: r => f a j r
  | _ => none
theorem sI_inv {α : Type} {st : List Value} {f : Int32 → List Value → Option α} {a : α} (h : sI st f = some a) : ∃ x r, st = .int x :: r ∧ f x r = some a := by
  unfold sI at h; split at h
  · exact ⟨_, _, rfl, h⟩
  · cases h
theorem sII_inv {α : Type} {st : List Value} {f : Int32 → Int32 → List Value → Option α} {a : α} (h : sII st f = some a) : ∃ x y r, st = .int y :: .int x :: r ∧ f x y r = some a := by
  unfold sII at h; split at h
  · exact ⟨_, _, _, rfl, h⟩
  · cases h
theorem sL_inv {α : Type} {st : List Value} {f : Int64 → List Value → Option α} {a : α} (h : sL st f = some a) : ∃ x r, st = .long x :: r ∧ f x r = some a := by
  unfold sL at h; split at h
  · exact ⟨_, _, rfl, h⟩
  · cases h
theorem sLL_inv {α : Type} {st : List Value} {f : Int64 → Int64 → List Value → Option α} {a : α} (h : sLL st f = some a) : ∃ x y r, st = .long y :: .long x :: r ∧ f x y r = some a := by
  unfold sLL at h; split at h
  · exact ⟨_, _, _, rfl, h⟩
  · cases h
theorem sLI_inv {α : Type} {st : List Value} {f : Int64 → Int32 → List Value → Option α} {a : α} (h : sLI st f = some a) : ∃ x y r, st = .int y :: .long x :: r ∧ f x y r = some a := by
  unfold sLI at h; split at h
  · exact ⟨_, _, _, rfl, h⟩
  · cases h
theorem sR_inv {α : Type} {st : List Value} {f : Nat → List Value → Option α} {a : α} (h : sR st f = some a) : ∃ x r, st = .ref x :: r ∧ f x r = some a := by
  unfold sR at h; split at h
  · exact ⟨_, _, rfl, h⟩
  · cases h
theorem sRI_inv {α : Type} {st : List Value} {f : Nat → Int32 → List Value → Option α} {a : α} (h : sRI st f = some a) : ∃ x j r, st = .int j :: .ref x :: r ∧ f x j r = some a := by
  unfold sRI at h; split at h
  · exact ⟨_, _, _, rfl, h⟩
  · cases h
def oB {α β : Type} (o : Option α) (f : α → Option β) : Option β := match o with
  | some a => f a
  | none => none
theorem oB_inv {α β : Type} {o : Option α} {f : α → Option β} {b : β} (h : oB o f = some b) : ∃ a, o = some a ∧ f a = some b := by
  unfold oB at h; split at h
  · exact ⟨_, rfl, h⟩
  · cases h
def oC {α : Type} (b : Bool) (o : Option α) : Option α := match b with
  | true => o
  | false => none
theorem oC_inv {α : Type} {b : Bool} {o : Option α} {a : α} (h : oC b o = some a) : b = true ∧ o = some a := by
  unfold oC at h; split at h
  · exact ⟨rfl, h⟩
  · cases h
def ldI (lv : ALv) (k : Nat) : Option Value := match fnd lv k with
  | some (.int x) => some (.int x)
  | _ => none
def ldL (lv : ALv) (k : Nat) : Option Value := match fnd lv k with
  | some (.long x) => some (.long x)
  | _ => none
def ldA (lv : ALv) (k : Nat) : Option Value := match fnd lv k with
  | some (.ref x) => some (.ref x)
  | some (.retAddr x) => some (.retAddr x)
  | some .null => some .null
  | _ => none
theorem ldI_inv {lv : ALv} {k : Nat} {v : Value} (h : ldI lv k = some v) : ∃ x, v = .int x ∧ fnd lv k = some (.int x) := by
  unfold ldI at h; split at h
  · rename_i e; cases h; exact ⟨_, rfl, e⟩
  · cases h
theorem ldL_inv {lv : ALv} {k : Nat} {v : Value} (h : ldL lv k = some v) : ∃ x, v = .long x ∧ fnd lv k = some (.long x) := by
  unfold ldL at h; split at h
  · rename_i e; cases h; exact ⟨_, rfl, e⟩
  · cases h
theorem ldA_inv {lv : ALv} {k : Nat} {v : Value} (h : ldA lv k = some v) : (v = .null ∨ (∃ x, v = .ref x) ∨ ∃ x, v = .retAddr x) ∧ fnd lv k = some v := by
  unfold ldA at h; split at h
  · rename_i e; cases h; exact ⟨Or.inr (Or.inl ⟨_, rfl⟩), e⟩
  · rename_i e; cases h; exact ⟨Or.inr (Or.inr ⟨_, rfl⟩), e⟩
  · rename_i e; cases h; exact ⟨Or.inl rfl, e⟩
  · cases h
/-- what a field of a type may hold -/
def okFit (ty : FieldType) (v : Value) : Bool := match ty, v with
  | .int, .int _ => true
  | .boolean, .int x => x == 0 || x == 1
  | .object _, .ref _ => true
  | .object _, .null => true
  | .array _, .ref _ => true
  | .array _, .null => true
  | _, _ => false
theorem okFit_spec {ty : FieldType} {v : Value} (b base : Nat) (h : okFit ty v = true) : narrow ty (gV b base v) = gV b base v ∧ fits ty (gV b base v) = true := by
  unfold okFit at h
  split at h
  · exact ⟨rfl, rfl⟩
  · rename_i x
    simp only [Bool.or_eq_true, beq_iff_eq] at h
    rcases h with rfl | rfl
    · exact ⟨(by decide : narrow .boolean (.int 0) = .int 0), (by decide : fits .boolean (.int 0) = true)⟩
    · exact ⟨(by decide : narrow .boolean (.int 1) = .int 1), (by decide : fits .boolean (.int 1) = true)⟩
  · exact ⟨rfl, rfl⟩
  · exact ⟨rfl, rfl⟩
  · exact ⟨rfl, rfl⟩
  · exact ⟨rfl, rfl⟩
  · cases h
def cats (r : List Value) : Nat := (r.map fun v => v.category).sum
theorem cats_g (b base : Nat) (r : List Value) : ((r.map (gV b base)).map fun v => v.category).sum = cats r := by
  unfold cats
  rw [List.map_map]
  congr 1
  exact List.map_congr_left fun v _ => gV_cat b base v
end
section
/-! what the tables' entries say -/
def chunk (i : Nat) : List Cond := match i with
  | 0 => k2_sels lw_privs
  | 1 => tables_1_1
  | 2 => tables_1_2
  | 3 => tables_1_3
  | 4 => tables_1_4
  | 5 => tables_1_5
  | 6 => tables_1_6
  | 7 => tables_1_7
  | 8 => tables_1_8
  | _ => []
theorem chunk_in {i : Nat} {w : Cond} (h : w ∈ chunk i) : w ∈ lw_tbl := by
  have key : ∀ j, w ∈ chunk j → w ∈ lw_tbl := fun j => match j with
    | 0 => fun h => List.mem_append_left _ h
    | 1 => fun h => List.mem_append_right _ (List.mem_append_left _ h)
    | 2 => fun h => List.mem_append_right _ (List.mem_append_right _ (List.mem_append_left _ h))
    | 3 => fun h => List.mem_append_right _ (List.mem_append_right _ (List.mem_append_right _ (List.mem_append_left _ h)))
    | 4 => fun h => List.mem_append_right _ (List.mem_append_right _ (List.mem_append_right _ (List.mem_append_right _ (List.mem_append_left _ h))))
    | 5 => fun h => List.mem_append_right _ (List.mem_append_right _ (List.mem_append_right _ (List.mem_append_right _ (List.mem_append_right _ (List.mem_append_left _ h)))))
    | 6 => fun h => List.mem_append_right _ (List.mem_append_right _ (List.mem_append_right _ (List.mem_append_right _ (List.mem_append_right _ (List.mem_append_right _ (List.mem_append_left _ h))))))
    | 7 => fun h => List.mem_append_right _ (List.mem_append_right _ (List.mem_append_right _ (List.mem_append_right _ (List.mem_append_right _ (List.mem_append_right _ (List.mem_append_right _ (List.mem_append_left _ h)))))))
    | 8 => fun h => List.mem_append_right _ (List.mem_append_right _ (List.mem_append_right _ (List.mem_append_right _ (List.mem_append_right _ (List.mem_append_right _ (List.mem_append_right _ (List.mem_append_right _ h)))))))
    | _ + 9 => fun h => absurd h List.not_mem_nil
  exact key i h
def TBL : List Cond := lw_tbl.filter goodWord
theorem TBL_lw {w : Cond} (h : w ∈ TBL) : w ∈ lw_tbl := (List.mem_filter.mp h).1
theorem TBL_good {w : Cond} (h : w ∈ TBL) : (w.onTables && w.keeps) = true ∨ ∃ ty, w = .arrayClass ty := good_of_word (List.mem_filter.mp h).2
/-- a word, by its place -/
def isW (q : Nat × Nat) (w : Cond) : Bool := decide ((chunk q.1)[q.2]? = some w) && goodWord w
theorem isW_in {q : Nat × Nat} {w : Cond} (h : isW q w = true) : w ∈ TBL := by
  unfold isW at h
  rw [Bool.and_eq_true] at h
  exact List.mem_filter.mpr ⟨chunk_in (List.mem_of_getElem? (of_decide_eq_true h.1)), h.2⟩
def chkI (F : MR) (q : AI) : Bool := decide (decode (mcc F) q.1 = .ok (q.2.1, q.2.2.1)) && (ilen q.2.1 == 0 || ilen q.2.1 == q.2.2.1) && (match ioff q.2.1 with
  | some o => decide ((q.1 : Int) + o = (q.2.2.2 : Int))
  | none => true)
def IOK (F : MR) (q : AI) : Prop := decode (mcc F) q.1 = .ok (q.2.1, q.2.2.1) ∧ (ilen q.2.1 = 0 ∨ ilen q.2.1 = q.2.2.1) ∧ ∀ o, ioff q.2.1 = some o → (q.1 : Int) + o = (q.2.2.2 : Int)
theorem IOK_of {F : MR} {q : AI} (h : chkI F q = true) : IOK F q := by
  unfold chkI at h
  simp only [Bool.and_eq_true, decide_eq_true_eq, Bool.or_eq_true, beq_iff_eq] at h
  refine ⟨h.1.1, h.1.2, fun o ho => ?_⟩
  have h2 := h.2
  rw [ho] at h2
  exact of_decide_eq_true h2
def fldW (own : String) (idx k cd : Nat) (r : vw_C) : Cond := if cd = 1 ∨ cd = 4 then .fieldLinkNest own idx (r.2.1 k).1 (r.2.1 k).2.1 (r.2.1 k).2.2.1 HOST else .fieldLink own idx (r.2.1 k).1 (r.2.1 k).2.1 (r.2.1 k).2.2.1
def chkF (F : MR) (q : AF) : Bool := match vwCl[q.2.1]? with
  | some r => decide (q.2.2.1 < r.2.2) && isW q.2.2.2.2 (fldW (my F).cls q.1 q.2.2.1 q.2.2.2.1 r) && (if q.2.2.2.1 = 0 ∨ q.2.2.2.1 = 1 then !(r.2.1 q.2.2.1).2.2.2 else true) && (if q.2.2.2.1 = 2 then (r.2.1 q.2.2.1).2.2.2 && decide ((r.2.1 q.2.2.1).1 = (my F).cls) && decide ((my F).name = "<init>") else true)
  | none => false
def FLok (F : MR) (q : AF) : Prop := ∃ r : vw_C, vwCl[q.2.1]? = some r ∧ q.2.2.1 < r.2.2 ∧ fldW (my F).cls q.1 q.2.2.1 q.2.2.2.1 r ∈ TBL ∧ (q.2.2.2.1 = 0 ∨ q.2.2.2.1 = 1 → (r.2.1 q.2.2.1).2.2.2 = false) ∧ (q.2.2.2.1 = 2 → (r.2.1 q.2.2.1).2.2.2 = true ∧ (r.2.1 q.2.2.1).1 = (my F).cls ∧ (my F).name = "<init>")
theorem FLok_of {F : MR} {q : AF} (h : chkF F q = true) : FLok F q := by
  unfold chkF at h
  split at h
  · rename_i r hr
    simp only [Bool.and_eq_true, decide_eq_true_eq] at h
    obtain ⟨⟨⟨h1, h2⟩, h3⟩, h4⟩ := h
    refine ⟨r, hr, h1, isW_in h2, fun z => ?_, fun z => ?_⟩
    · rw [if_pos z] at h3
      simpa using h3
    · rw [if_pos z] at h4
      simp only [Bool.and_eq_true, decide_eq_true_eq] at h4
      exact ⟨h4.1.1, h4.1.2, h4.2⟩
  · cases h
/-- a method's own words: its code, its class -/
def chkG (G : MR) : Bool := isW (mpCode G) (.code (my G) (mcc G) (mml G) (mret G)) && isW (mpIni G) (.initialized (my G).cls) && plainName (my G).cls && decide ((my G).cls ≠ "java/lang/invoke/MethodHandle") && decide ((my G).cls ≠ "java/lang/invoke/VarHandle") && decide ((parseMethodDescriptor (my G).desc).map (fun d => d.parameters.length) = some (mnp G))
def GOK (G : MR) : Prop := .code (my G) (mcc G) (mml G) (mret G) ∈ TBL ∧ .initialized (my G).cls ∈ TBL ∧ plainName (my G).cls = true ∧ (my G).cls ≠ "java/lang/invoke/MethodHandle" ∧ (my G).cls ≠ "java/lang/invoke/VarHandle" ∧ (parseMethodDescriptor (my G).desc).map (fun d => d.parameters.length) = some (mnp G)
theorem GOK_of {G : MR} (h : chkG G = true) : GOK G := by
  unfold chkG at h
  simp only [Bool.and_eq_true, decide_eq_true_eq] at h
  exact ⟨isW_in h.1.1.1.1.1, isW_in h.1.1.1.1.2, h.1.1.1.2, h.1.1.2, h.1.2, h.2⟩
/-- a call's words -/
def chkK (MT : Nat → Option MR) (F : MR) (q : AK) : Bool := match q.2.1 with
  | 8 => isW q.2.2.2 (.methodLink (my F).cls q.1 arraycopyName)
  | 9 => isW q.2.2.2 (.methodLink (my F).cls q.1 objectInit)
  | kd => match MT q.2.2.1 with
    | some G => isW q.2.2.2 (if kd = 1 ∨ kd = 3 ∨ kd = 5 then .methodLinkNest (my F).cls q.1 (my G) HOST else .methodLink (my F).cls q.1 (my G)) && (if kd = 0 ∨ kd = 1 then isW (mpIns G) (.instanceMethod (my G)) && isW (mpSel G) (.selects (my G).cls (my G) (my G)) && decide (vwCl[mci G]?.map (fun r => r.1) = some (my G).cls) else if kd = 2 ∨ kd = 3 then isW (mpIns G) (.static (my G)) else isW (mpIns G) (.instanceMethod (my G)) && decide ((my G).name = "<init>") && decide (mret G = none))
    | none => false
def CKok (MT : Nat → Option MR) (F : MR) (q : AK) : Prop :=
  (q.2.1 = 8 → .methodLink (my F).cls q.1 arraycopyName ∈ TBL) ∧ (q.2.1 = 9 → .methodLink (my F).cls q.1 objectInit ∈ TBL) ∧
  (q.2.1 < 8 → ∀ G, MT q.2.2.1 = some G → (if q.2.1 = 1 ∨ q.2.1 = 3 ∨ q.2.1 = 5 then Cond.methodLinkNest (my F).cls q.1 (my G) HOST else .methodLink (my F).cls q.1 (my G)) ∈ TBL ∧ (q.2.1 = 0 ∨ q.2.1 = 1 → .instanceMethod (my G) ∈ TBL ∧ .selects (my G).cls (my G) (my G) ∈ TBL ∧ vwCl[mci G]?.map (fun r => r.1) = some (my G).cls) ∧ (q.2.1 = 2 ∨ q.2.1 = 3 → .static (my G) ∈ TBL) ∧ (q.2.1 = 4 ∨ q.2.1 = 5 → .instanceMethod (my G) ∈ TBL ∧ (my G).name = "<init>" ∧ mret G = none))
theorem CKok_of {MT : Nat → Option MR} {F : MR} {q : AK} (h : chkK MT F q = true) : CKok MT F q := by
  unfold chkK at h
  split at h
  · rename_i e
    exact ⟨fun _ => isW_in h, fun z => by omega, fun z => by omega⟩
  · rename_i e
    exact ⟨fun z => by omega, fun _ => isW_in h, fun z => by omega⟩
  · rename_i n1 n2
    refine ⟨fun z => absurd z n1, fun z => absurd z n2, fun _ G hG => ?_⟩
    rw [hG] at h
    simp only [Bool.and_eq_true] at h
    obtain ⟨h1, h2⟩ := h
    refine ⟨isW_in h1, fun z => ?_, fun z => ?_, fun z => ?_⟩
    · rw [if_pos z] at h2
      simp only [Bool.and_eq_true, decide_eq_true_eq] at h2
      exact ⟨isW_in h2.1.1, isW_in h2.1.2, h2.2⟩
    · rw [if_neg (by omega), if_pos z] at h2
      exact isW_in h2
    · rw [if_neg (by omega), if_neg (by omega)] at h2
      simp only [Bool.and_eq_true, decide_eq_true_eq] at h2
      exact ⟨isW_in h2.1.1, h2.1.2, h2.2⟩
def chkC (F : MR) (q : AKc) : Bool := match vwCl[q.2.1]? with
  | some r => isW q.2.2 (.classLink (my F).cls q.1 r.1)
  | none => false
def KCok (F : MR) (q : AKc) : Prop := ∃ r : vw_C, vwCl[q.2.1]? = some r ∧ .classLink (my F).cls q.1 r.1 ∈ TBL
theorem KCok_of {F : MR} {q : AKc} (h : chkC F q = true) : KCok F q := by
  unfold chkC at h
  split at h
  · rename_i r hr
    exact ⟨r, hr, isW_in h⟩
  · cases h
/-- a method's tables are right -/
def FOK (MT : Nat → Option MR) (F : MR) : Prop := (∀ q ∈ mcode F, IOK F q) ∧ (∀ q ∈ mfl F, FLok F q) ∧ (∀ q ∈ mcl F, CKok MT F q) ∧ (∀ q ∈ mki F, .constant (my F).cls q.1 q.2.1 ∈ TBL) ∧ (∀ q ∈ mkl F, .constantLong (my F).cls q.1 q.2.1 ∈ TBL) ∧ (∀ q ∈ mkc F, KCok F q)
theorem FOK_of {MT : Nat → Option MR} {F : MR} (h1 : (mcode F).all (chkI F) = true) (h2 : ((mfl F).all (chkF F) && (mcl F).all (chkK MT F) && (mki F).all (fun q => isW q.2.2 (.constant (my F).cls q.1 q.2.1)) && (mkl F).all (fun q => isW q.2.2 (.constantLong (my F).cls q.1 q.2.1)) && (mkc F).all (chkC F)) = true) : FOK MT F := by
  simp only [Bool.and_eq_true] at h2
  exact ⟨fun q hq => IOK_of (List.all_eq_true.mp h1 q hq), fun q hq => FLok_of (List.all_eq_true.mp h2.1.1.1.1 q hq), fun q hq => CKok_of (List.all_eq_true.mp h2.1.1.1.2 q hq), fun q hq => isW_in (List.all_eq_true.mp h2.1.1.2 q hq), fun q hq => isW_in (List.all_eq_true.mp h2.1.2 q hq), fun q hq => KCok_of (List.all_eq_true.mp h2.2 q hq)⟩
/-- what a frame of a method knows -/
def Ctx (p : Program) (s : State) (m : MethodId) (args : Array Value) (meth : Method) (c : Code) (F : MR) : Prop :=
  p.tables.exec = Jvm.exec ∧ c.code = mcc F ∧ meth.sig.returnType = mret F ∧ c.maxLocals = mml F ∧ s.vm.findClass (my F).cls = some m.cls ∧ meth.locks = false ∧ (∀ w ∈ TBL, w.before args s = true) ∧ ((my F).name = "<init>" → meth.name = "<init>")
end
section
/-! the classes' words -/
theorem u_ws_in {C : String} {T : u_T} {N : Nat} (pl : List (Nat × Nat)) (h : (List.range N).all (fun k => isW (pl.getD k (0, 0)) (u_lay C T k)) = true) : ∀ w ∈ u_ws C T N, w ∈ TBL := by
  intro w hw
  obtain ⟨k, hk, rfl⟩ := List.mem_map.mp hw
  exact isW_in (List.all_eq_true.mp h k hk)
theorem cls_0 : ∀ w ∈ u_ws RX0 TX0 4, w ∈ TBL := u_ws_in [(1, 223), (1, 225), (1, 227), (1, 229)] (by decide +kernel)
theorem clsi_0 : Cond.instantiable RX0 4 ∈ TBL := isW_in (q := (1, 205)) (by decide +kernel)
theorem clsn_0 : Cond.initialized RX0 ∈ TBL := isW_in (q := (1, 11)) (by decide +kernel)
theorem clsd_0 (b base : Nat) : ∀ j, j < 4 → defaultValue (TYF 0 j) = vp_V ((DFL 0).map (gV b base)) j := fun j hj => match j, hj with
  | 0, _ => rfl
  | 1, _ => rfl
  | 2, _ => rfl
  | 3, _ => rfl
  | k + 4, h => absurd h (by omega)
theorem cls_1 : ∀ w ∈ u_ws RX1 TX1 6, w ∈ TBL := u_ws_in [(1, 138), (1, 140), (1, 142), (1, 144), (1, 146), (1, 148)] (by decide +kernel)
theorem clsi_1 : Cond.instantiable RX1 6 ∈ TBL := isW_in (q := (1, 124)) (by decide +kernel)
theorem clsn_1 : Cond.initialized RX1 ∈ TBL := isW_in (q := (1, 7)) (by decide +kernel)
theorem clsd_1 (b base : Nat) : ∀ j, j < 6 → defaultValue (TYF 1 j) = vp_V ((DFL 1).map (gV b base)) j := fun j hj => match j, hj with
  | 0, _ => rfl
  | 1, _ => rfl
  | 2, _ => rfl
  | 3, _ => rfl
  | 4, _ => rfl
  | 5, _ => rfl
  | k + 6, h => absurd h (by omega)
theorem cls_2 : ∀ w ∈ u_ws RX2 TX2 2, w ∈ TBL := u_ws_in [(1, 118), (1, 120)] (by decide +kernel)
theorem clsi_2 : Cond.instantiable RX2 2 ∈ TBL := isW_in (q := (1, 105)) (by decide +kernel)
theorem clsn_2 : Cond.initialized RX2 ∈ TBL := isW_in (q := (1, 5)) (by decide +kernel)
theorem clsd_2 (b base : Nat) : ∀ j, j < 2 → defaultValue (TYF 2 j) = vp_V ((DFL 2).map (gV b base)) j := fun j hj => match j, hj with
  | 0, _ => rfl
  | 1, _ => rfl
  | k + 2, h => absurd h (by omega)
theorem cls_3 : ∀ w ∈ u_ws RX3 TX3 3, w ∈ TBL := u_ws_in [(1, 198), (1, 200), (1, 202)] (by decide +kernel)
theorem clsi_3 : Cond.instantiable RX3 3 ∈ TBL := isW_in (q := (1, 183)) (by decide +kernel)
theorem clsn_3 : Cond.initialized RX3 ∈ TBL := isW_in (q := (1, 10)) (by decide +kernel)
theorem clsd_3 (b base : Nat) : ∀ j, j < 3 → defaultValue (TYF 3 j) = vp_V ((DFL 3).map (gV b base)) j := fun j hj => match j, hj with
  | 0, _ => rfl
  | 1, _ => rfl
  | 2, _ => rfl
  | k + 3, h => absurd h (by omega)
theorem cls_4 : ∀ w ∈ u_ws RX4 TX4 16, w ∈ TBL := u_ws_in [(2, 39), (2, 41), (2, 43), (2, 45), (2, 47), (2, 49), (2, 51), (2, 53), (2, 55), (2, 57), (2, 59), (2, 61), (2, 63), (2, 65), (2, 67), (2, 69)] (by decide +kernel)
theorem clsi_4 : Cond.instantiable RX4 16 ∈ TBL := isW_in (q := (1, 175)) (by decide +kernel)
theorem clsn_4 : Cond.initialized RX4 ∈ TBL := isW_in (q := (1, 9)) (by decide +kernel)
theorem clsd_4 (b base : Nat) : ∀ j, j < 16 → defaultValue (TYF 4 j) = vp_V ((DFL 4).map (gV b base)) j := fun j hj => match j, hj with
  | 0, _ => rfl
  | 1, _ => rfl
  | 2, _ => rfl
  | 3, _ => rfl
  | 4, _ => rfl
  | 5, _ => rfl
  | 6, _ => rfl
  | 7, _ => rfl
  | 8, _ => rfl
  | 9, _ => rfl
  | 10, _ => rfl
  | 11, _ => rfl
  | 12, _ => rfl
  | 13, _ => rfl
  | 14, _ => rfl
  | 15, _ => rfl
  | k + 16, h => absurd h (by omega)
theorem cls_5 : ∀ w ∈ u_ws RX5 TX5 7, w ∈ TBL := u_ws_in [(1, 61), (1, 63), (1, 65), (1, 67), (1, 69), (1, 71), (1, 73)] (by decide +kernel)
theorem clsi_5 : Cond.instantiable RX5 7 ∈ TBL := isW_in (q := (1, 47)) (by decide +kernel)
theorem clsn_5 : Cond.initialized RX5 ∈ TBL := isW_in (q := (1, 3)) (by decide +kernel)
theorem clsd_5 (b base : Nat) : ∀ j, j < 7 → defaultValue (TYF 5 j) = vp_V ((DFL 5).map (gV b base)) j := fun j hj => match j, hj with
  | 0, _ => rfl
  | 1, _ => rfl
  | 2, _ => rfl
  | 3, _ => rfl
  | 4, _ => rfl
  | 5, _ => rfl
  | 6, _ => rfl
  | k + 7, h => absurd h (by omega)
theorem cls_6 : ∀ w ∈ u_ws RX6 TX6 5, w ∈ TBL := u_ws_in [(1, 92), (1, 94), (1, 96), (1, 98), (1, 100)] (by decide +kernel)
theorem clsi_6 : Cond.instantiable RX6 5 ∈ TBL := isW_in (q := (1, 77)) (by decide +kernel)
theorem clsn_6 : Cond.initialized RX6 ∈ TBL := isW_in (q := (1, 4)) (by decide +kernel)
theorem clsd_6 (b base : Nat) : ∀ j, j < 5 → defaultValue (TYF 6 j) = vp_V ((DFL 6).map (gV b base)) j := fun j hj => match j, hj with
  | 0, _ => rfl
  | 1, _ => rfl
  | 2, _ => rfl
  | 3, _ => rfl
  | 4, _ => rfl
  | k + 5, h => absurd h (by omega)
theorem cls_7 : ∀ w ∈ u_ws RX7 TX7 4, w ∈ TBL := u_ws_in [(2, 88), (2, 90), (2, 92), (2, 94)] (by decide +kernel)
theorem clsi_7 : Cond.instantiable RX7 4 ∈ TBL := isW_in (q := (2, 75)) (by decide +kernel)
theorem clsn_7 : Cond.initialized RX7 ∈ TBL := isW_in (q := (1, 12)) (by decide +kernel)
theorem clsd_7 (b base : Nat) : ∀ j, j < 4 → defaultValue (TYF 7 j) = vp_V ((DFL 7).map (gV b base)) j := fun j hj => match j, hj with
  | 0, _ => rfl
  | 1, _ => rfl
  | 2, _ => rfl
  | 3, _ => rfl
  | k + 4, h => absurd h (by omega)
theorem cls_8 : ∀ w ∈ u_ws RX8 TX8 2, w ∈ TBL := u_ws_in [(1, 40), (1, 42)] (by decide +kernel)
theorem clsi_8 : Cond.instantiable RX8 2 ∈ TBL := isW_in (q := (1, 30)) (by decide +kernel)
theorem clsn_8 : Cond.initialized RX8 ∈ TBL := isW_in (q := (1, 2)) (by decide +kernel)
theorem clsd_8 (b base : Nat) : ∀ j, j < 2 → defaultValue (TYF 8 j) = vp_V ((DFL 8).map (gV b base)) j := fun j hj => match j, hj with
  | 0, _ => rfl
  | 1, _ => rfl
  | k + 2, h => absurd h (by omega)
theorem cls_9 : ∀ w ∈ u_ws RX9 TX9 5, w ∈ TBL := u_ws_in [(1, 163), (1, 165), (1, 167), (1, 169), (1, 171)] (by decide +kernel)
theorem clsi_9 : Cond.instantiable RX9 5 ∈ TBL := isW_in (q := (1, 152)) (by decide +kernel)
theorem clsn_9 : Cond.initialized RX9 ∈ TBL := isW_in (q := (1, 8)) (by decide +kernel)
theorem clsd_9 (b base : Nat) : ∀ j, j < 5 → defaultValue (TYF 9 j) = vp_V ((DFL 9).map (gV b base)) j := fun j hj => match j, hj with
  | 0, _ => rfl
  | 1, _ => rfl
  | 2, _ => rfl
  | 3, _ => rfl
  | 4, _ => rfl
  | k + 5, h => absurd h (by omega)
theorem cls_10 : ∀ w ∈ u_ws RX10 TX10 11, w ∈ TBL := u_ws_in [(2, 110), (2, 112), (2, 114), (2, 116), (2, 118), (2, 120), (2, 122), (2, 124), (2, 126), (2, 128), (2, 130)] (by decide +kernel)
theorem clsi_10 : Cond.instantiable RX10 11 ∈ TBL := isW_in (q := (1, 22)) (by decide +kernel)
theorem clsn_10 : Cond.initialized RX10 ∈ TBL := isW_in (q := (1, 1)) (by decide +kernel)
theorem clsd_10 (b base : Nat) : ∀ j, j < 11 → defaultValue (TYF 10 j) = vp_V ((DFL 10).map (gV b base)) j := fun j hj => match j, hj with
  | 0, _ => rfl
  | 1, _ => rfl
  | 2, _ => rfl
  | 3, _ => rfl
  | 4, _ => rfl
  | 5, _ => rfl
  | 6, _ => rfl
  | 7, _ => rfl
  | 8, _ => rfl
  | 9, _ => rfl
  | 10, _ => rfl
  | k + 11, h => absurd h (by omega)
theorem cls_11 : ∀ w ∈ u_ws RX11 TX11 36, w ∈ TBL := u_ws_in [(5, 225), (5, 227), (5, 229), (5, 231), (5, 233), (5, 235), (5, 237), (5, 239), (6, 1), (6, 3), (6, 5), (6, 7), (6, 9), (6, 11), (6, 13), (6, 15), (6, 17), (6, 19), (6, 21), (6, 23), (6, 25), (6, 27), (6, 29), (6, 31), (6, 33), (6, 35), (6, 37), (6, 39), (6, 41), (6, 43), (6, 45), (6, 47), (6, 49), (6, 51), (6, 53), (6, 55)] (by decide +kernel)
theorem clsi_11 : Cond.instantiable RX11 36 ∈ TBL := isW_in (q := (5, 185)) (by decide +kernel)
theorem clsn_11 : Cond.initialized RX11 ∈ TBL := isW_in (q := (1, 13)) (by decide +kernel)
theorem clsd_11 (b base : Nat) : ∀ j, j < 36 → defaultValue (TYF 11 j) = vp_V ((DFL 11).map (gV b base)) j := fun j hj => match j, hj with
  | 0, _ => rfl
  | 1, _ => rfl
  | 2, _ => rfl
  | 3, _ => rfl
  | 4, _ => rfl
  | 5, _ => rfl
  | 6, _ => rfl
  | 7, _ => rfl
  | 8, _ => rfl
  | 9, _ => rfl
  | 10, _ => rfl
  | 11, _ => rfl
  | 12, _ => rfl
  | 13, _ => rfl
  | 14, _ => rfl
  | 15, _ => rfl
  | 16, _ => rfl
  | 17, _ => rfl
  | 18, _ => rfl
  | 19, _ => rfl
  | 20, _ => rfl
  | 21, _ => rfl
  | 22, _ => rfl
  | 23, _ => rfl
  | 24, _ => rfl
  | 25, _ => rfl
  | 26, _ => rfl
  | 27, _ => rfl
  | 28, _ => rfl
  | 29, _ => rfl
  | 30, _ => rfl
  | 31, _ => rfl
  | 32, _ => rfl
  | 33, _ => rfl
  | 34, _ => rfl
  | 35, _ => rfl
  | k + 36, h => absurd h (by omega)
theorem CLS_in {ci : Nat} {C : String} {T : u_T} {N : Nat} (h : vwCl[ci]? = some (C, T, N)) : ∀ w ∈ u_ws C T N, w ∈ TBL := by
  match ci, h with
  | 0, h => cases (show some (RX0, TX0, 4) = some (C, T, N) from h); exact cls_0
  | 1, h => cases (show some (RX1, TX1, 6) = some (C, T, N) from h); exact cls_1
  | 2, h => cases (show some (RX2, TX2, 2) = some (C, T, N) from h); exact cls_2
  | 3, h => cases (show some (RX3, TX3, 3) = some (C, T, N) from h); exact cls_3
  | 4, h => cases (show some (RX4, TX4, 16) = some (C, T, N) from h); exact cls_4
  | 5, h => cases (show some (RX5, TX5, 7) = some (C, T, N) from h); exact cls_5
  | 6, h => cases (show some (RX6, TX6, 5) = some (C, T, N) from h); exact cls_6
  | 7, h => cases (show some (RX7, TX7, 4) = some (C, T, N) from h); exact cls_7
  | 8, h => cases (show some (RX8, TX8, 2) = some (C, T, N) from h); exact cls_8
  | 9, h => cases (show some (RX9, TX9, 5) = some (C, T, N) from h); exact cls_9
  | 10, h => cases (show some (RX10, TX10, 11) = some (C, T, N) from h); exact cls_10
  | 11, h => cases (show some (RX11, TX11, 36) = some (C, T, N) from h); exact cls_11
  | k + 12, h => exact absurd h (by intro z; cases z)
theorem CLS_ty {ci : Nat} {C : String} {T : u_T} {N : Nat} (h : vwCl[ci]? = some (C, T, N)) : (∀ k, k < N → parseFieldDescriptor (T k).2.2.1 = some (TYF ci k)) ∧ ∀ a, a < N → ∀ b, b < N → a ≠ b → (T a).2.1 ≠ (T b).2.1 := by
  match ci, h with
  | 0, h => cases (show some (RX0, TX0, 4) = some (C, T, N) from h); exact ⟨tyX0_ok, nmX0⟩
  | 1, h => cases (show some (RX1, TX1, 6) = some (C, T, N) from h); exact ⟨tyX1_ok, nmX1⟩
  | 2, h => cases (show some (RX2, TX2, 2) = some (C, T, N) from h); exact ⟨tyX2_ok, nmX2⟩
  | 3, h => cases (show some (RX3, TX3, 3) = some (C, T, N) from h); exact ⟨tyX3_ok, nmX3⟩
  | 4, h => cases (show some (RX4, TX4, 16) = some (C, T, N) from h); exact ⟨tyX4_ok, nmX4⟩
  | 5, h => cases (show some (RX5, TX5, 7) = some (C, T, N) from h); exact ⟨tyX5_ok, nmX5⟩
  | 6, h => cases (show some (RX6, TX6, 5) = some (C, T, N) from h); exact ⟨tyX6_ok, nmX6⟩
  | 7, h => cases (show some (RX7, TX7, 4) = some (C, T, N) from h); exact ⟨tyX7_ok, nmX7⟩
  | 8, h => cases (show some (RX8, TX8, 2) = some (C, T, N) from h); exact ⟨tyX8_ok, nmX8⟩
  | 9, h => cases (show some (RX9, TX9, 5) = some (C, T, N) from h); exact ⟨tyX9_ok, nmX9⟩
  | 10, h => cases (show some (RX10, TX10, 11) = some (C, T, N) from h); exact ⟨tyX10_ok, nmX10⟩
  | 11, h => cases (show some (RX11, TX11, 36) = some (C, T, N) from h); exact ⟨tyX11_ok, nmX11⟩
  | k + 12, h => exact absurd h (by intro z; cases z)
theorem CLS_new {ci : Nat} {C : String} {T : u_T} {N : Nat} (h : vwCl[ci]? = some (C, T, N)) : Cond.instantiable C N ∈ TBL ∧ Cond.initialized C ∈ TBL ∧ (DFL ci).length = N ∧ ∀ (b base j : Nat), j < N → defaultValue (TYF ci j) = vp_V ((DFL ci).map (gV b base)) j := by
  match ci, h with
  | 0, h => cases (show some (RX0, TX0, 4) = some (C, T, N) from h); exact ⟨clsi_0, clsn_0, rfl, clsd_0⟩
  | 1, h => cases (show some (RX1, TX1, 6) = some (C, T, N) from h); exact ⟨clsi_1, clsn_1, rfl, clsd_1⟩
  | 2, h => cases (show some (RX2, TX2, 2) = some (C, T, N) from h); exact ⟨clsi_2, clsn_2, rfl, clsd_2⟩
  | 3, h => cases (show some (RX3, TX3, 3) = some (C, T, N) from h); exact ⟨clsi_3, clsn_3, rfl, clsd_3⟩
  | 4, h => cases (show some (RX4, TX4, 16) = some (C, T, N) from h); exact ⟨clsi_4, clsn_4, rfl, clsd_4⟩
  | 5, h => cases (show some (RX5, TX5, 7) = some (C, T, N) from h); exact ⟨clsi_5, clsn_5, rfl, clsd_5⟩
  | 6, h => cases (show some (RX6, TX6, 5) = some (C, T, N) from h); exact ⟨clsi_6, clsn_6, rfl, clsd_6⟩
  | 7, h => cases (show some (RX7, TX7, 4) = some (C, T, N) from h); exact ⟨clsi_7, clsn_7, rfl, clsd_7⟩
  | 8, h => cases (show some (RX8, TX8, 2) = some (C, T, N) from h); exact ⟨clsi_8, clsn_8, rfl, clsd_8⟩
  | 9, h => cases (show some (RX9, TX9, 5) = some (C, T, N) from h); exact ⟨clsi_9, clsn_9, rfl, clsd_9⟩
  | 10, h => cases (show some (RX10, TX10, 11) = some (C, T, N) from h); exact ⟨clsi_10, clsn_10, rfl, clsd_10⟩
  | 11, h => cases (show some (RX11, TX11, 36) = some (C, T, N) from h); exact ⟨clsi_11, clsn_11, rfl, clsd_11⟩
  | k + 12, h => exact absurd h (by intro z; cases z)
theorem ARR_int : Cond.arrayClass .int ∈ TBL := isW_in (q := (1, 103)) (by decide +kernel)
theorem ARR_long : Cond.arrayClass .long ∈ TBL := isW_in (q := (2, 98)) (by decide +kernel)
theorem ARR_byte : Cond.arrayClass .byte ∈ TBL := isW_in (q := (1, 45)) (by decide +kernel)
theorem ARR_boolean : Cond.arrayClass .boolean ∈ TBL := isW_in (q := (2, 97)) (by decide +kernel)
theorem ACN_native : Cond.native arraycopyName ∈ TBL := isW_in (q := (5, 10)) (by decide +kernel)
theorem ACN_static : Cond.static arraycopyName ∈ TBL := isW_in (q := (5, 9)) (by decide +kernel)
theorem ACN_init : Cond.initialized "java/lang/System" ∈ TBL := isW_in (q := (1, 20)) (by decide +kernel)
theorem OBJ_inst : Cond.instanceMethod objectInit ∈ TBL := isW_in (q := (1, 27)) (by decide +kernel)
theorem OBJ_code : Cond.code objectInit ⟨#[0xb1]⟩ 1 none ∈ TBL := isW_in (q := (1, 28)) (by decide +kernel)
end
section
/-! the steps that read alone -/
abbrev AS : Type := Option (Nat × (Nat → Int32))
def jmp (t : Bool) (a b : Nat) (lv : ALv) (r : List Value) : Option (Nat × ALv × List Value) := match t with
  | true => some (a, lv, r)
  | false => some (b, lv, r)
theorem jmp_inv {t : Bool} {a b : Nat} {lv : ALv} {r : List Value} {x : Nat × ALv × List Value} (h : jmp t a b lv r = some x) : (t = true ∧ x = (a, lv, r)) ∨ (t = false ∧ x = (b, lv, r)) := by
  unfold jmp at h; split at h
  · cases h; exact Or.inl ⟨rfl, rfl⟩
  · cases h; exact Or.inr ⟨rfl, rfl⟩
def sV {α : Type} (st : List Value) (f : Value → List Value → Option α) : Option α := match st with
  | v :: r => f v r
  | _ => none
def sVV {α : Type} (st : List Value) (f : Value → Value → List Value → Option α) : Option α := match st with
  | v :: u :: r => f v u r
  | _ => none
theorem sV_inv {α : Type} {st : List Value} {f : Value → List Value → Option α} {a : α} (h : sV st f = some a) : ∃ v r, st = v :: r ∧ f v r = some a := by
  unfold sV at h; split at h
  · exact ⟨_, _, rfl, h⟩
  · cases h
theorem sVV_inv {α : Type} {st : List Value} {f : Value → Value → List Value → Option α} {a : α} (h : sVV st f = some a) : ∃ v u r, st = v :: u :: r ∧ f v u r = some a := by
  unfold sVV at h; split at h
  · exact ⟨_, _, _, rfl, h⟩
  · cases h
/-- a load out of a row -/
def ldR (scr : AS) (k ty1 ty2 : Nat) (st : List Value) (h : AH) : Option (Value × List Value) := match st with
  | .int j :: .ref a :: r => oB h[a]? (fun c => oC (c.1 == k && (c.2.1 == ty1 || c.2.1 == ty2) && decide (¬ j < 0)) (oB c.2.2[j.toNatClampNeg]? (fun v => some (v, r))))
  | .int j :: .retAddr _ :: r => oB scr (fun q => oC (decide (¬ (j < 0 ∨ q.1 ≤ j.toNatClampNeg))) (some (.int (q.2 j.toNatClampNeg), r)))
  | _ => none
theorem ldR_inv {scr : AS} {k t1 t2 : Nat} {st : List Value} {h : AH} {x : Value × List Value} (hh : ldR scr k t1 t2 st h = some x) :
    (∃ a j c, st = .int j :: .ref a :: x.2 ∧ h[a]? = some c ∧ c.1 = k ∧ (c.2.1 = t1 ∨ c.2.1 = t2) ∧ ¬ j < 0 ∧ c.2.2[j.toNatClampNeg]? = some x.1) ∨ (∃ a j q, st = .int j :: .retAddr a :: x.2 ∧ scr = some q ∧ ¬ (j < 0 ∨ q.1 ≤ j.toNatClampNeg) ∧ x.1 = .int (q.2 j.toNatClampNeg)) := by
  unfold ldR at hh; split at hh
  · rename_i j a r
    obtain ⟨c, hc, h2⟩ := oB_inv hh
    obtain ⟨h3, h4⟩ := oC_inv h2
    obtain ⟨v, hv, h5⟩ := oB_inv h4
    cases h5
    simp only [Bool.and_eq_true, Bool.or_eq_true, beq_iff_eq, decide_eq_true_eq] at h3
    exact Or.inl ⟨a, j, c, rfl, hc, h3.1.1, h3.1.2, h3.2, hv⟩
  · rename_i j a r
    obtain ⟨q, hq, h2⟩ := oB_inv hh
    obtain ⟨h3, h4⟩ := oC_inv h2
    cases h4
    exact Or.inr ⟨a, j, q, rfl, hq, of_decide_eq_true h3, rfl⟩
  · cases hh
def isI : Value → Bool
  | .int _ => true
  | _ => false
def isL : Value → Bool
  | .long _ => true
  | _ => false
def isR : Value → Bool
  | .ref _ => true
  | .null => true
  | _ => false
theorem isI_inv {v : Value} (h : isI v = true) : ∃ x, v = .int x := by cases v <;> first | exact ⟨_, rfl⟩ | cases h
theorem isL_inv {v : Value} (h : isL v = true) : ∃ x, v = .long x := by cases v <;> first | exact ⟨_, rfl⟩ | cases h
theorem isR_inv {v : Value} (h : isR v = true) : v = .null ∨ ∃ x, v = .ref x := by cases v <;> first | exact Or.inr ⟨_, rfl⟩ | exact Or.inl rfl | cases h
def alen (scr : AS) (h : AH) (v : Value) : Option Int32 := match v with
  | .ref a => oB h[a]? (fun c => oC ((c.1 == 1 || c.1 == 2 || c.1 == 3) && decide (c.2.1 < 7)) (some (Int32.ofNat c.2.2.length)))
  | .retAddr _ => oB scr (fun q => some (Int32.ofNat q.1))
  | _ => none
def tsw (pc : Nat) (dflt lo hi : Int) (offs : Array Int) (x : Int32) : Option Nat :=
  if x.toInt < lo ∨ hi < x.toInt then oC (decide (0 ≤ (pc : Int) + dflt)) (some ((pc : Int) + dflt).toNat) else oB offs[(x.toInt - lo).toNat]? (fun o => oC (decide (0 ≤ (pc : Int) + o)) (some ((pc : Int) + o).toNat))

def stpP (F : MR) (scr : AS) (i : Instr) (tgt pc : Nat) (lv : ALv) (st : List Value) (h : AH) : Option (Nat × ALv × List Value) :=
  match i with
  | .iconst n => some (pc + 1, lv, .int (Int32.ofInt n) :: st)
  | .bipush n => some (pc + 2, lv, .int (Int8.ofInt n).toInt32 :: st)
  | .sipush n => some (pc + 3, lv, .int (Int16.ofInt n).toInt32 :: st)
  | .lconst n => some (pc + 1, lv, .long (Int64.ofNat (n : Nat)) :: st)
  | .iload_n k => oB (ldI lv (k : Nat)) (fun v => some (pc + 1, lv, v :: st))
  | .iload k => oB (ldI lv k) (fun v => some (pc + 2, lv, v :: st))
  | .lload_n k => oB (ldL lv (k : Nat)) (fun v => some (pc + 1, lv, v :: st))
  | .lload k => oB (ldL lv k) (fun v => some (pc + 2, lv, v :: st))
  | .aload_n k => oB (ldA lv (k : Nat)) (fun v => some (pc + 1, lv, v :: st))
  | .aload k => oB (ldA lv k) (fun v => some (pc + 2, lv, v :: st))
  | .istore_n k => sI st (fun x r => oC (decide ((k : Nat) < mml F)) (some (pc + 1, lvset1 lv (k : Nat) (.int x), r)))
  | .istore k => sI st (fun x r => oC (decide (k < mml F)) (some (pc + 2, lvset1 lv k (.int x), r)))
  | .lstore_n k => sL st (fun x r => oC (decide ((k : Nat) + 1 < mml F)) (some (pc + 1, lvset2 lv (k : Nat) (.long x), r)))
  | .lstore k => sL st (fun x r => oC (decide (k + 1 < mml F)) (some (pc + 2, lvset2 lv k (.long x), r)))
  | .astore_n k => sR st (fun x r => oC (decide ((k : Nat) < mml F)) (some (pc + 1, lvset1 lv (k : Nat) (.ref x), r)))
  | .astore k => sR st (fun x r => oC (decide (k < mml F)) (some (pc + 2, lvset1 lv k (.ref x), r)))
  | .iinc k n => oB (ldI lv k) (fun v => oC (decide (k < mml F)) (some (pc + 3, lvset1 lv k (.int (asI v + Int32.ofInt n)), st)))
  | .iadd => sII st (fun x y r => some (pc + 1, lv, .int (x + y) :: r))
  | .isub => sII st (fun x y r => some (pc + 1, lv, .int (x - y) :: r))
  | .imul => sII st (fun x y r => some (pc + 1, lv, .int (x * y) :: r))
  | .iand => sII st (fun x y r => some (pc + 1, lv, .int (x &&& y) :: r))
  | .ior => sII st (fun x y r => some (pc + 1, lv, .int (x ||| y) :: r))
  | .ixor => sII st (fun x y r => some (pc + 1, lv, .int (x ^^^ y) :: r))
  | .ishl => sII st (fun x y r => some (pc + 1, lv, .int (x <<< (y &&& 31)) :: r))
  | .ishr => sII st (fun x y r => some (pc + 1, lv, .int (x >>> (y &&& 31)) :: r))
  | .iushr => sII st (fun x y r => some (pc + 1, lv, .int ((x.toUInt32 >>> (y.toUInt32 &&& Int32.toUInt32 31)).toInt32) :: r))
  | .idiv => sII st (fun x y r => oC (decide (¬ y = 0)) (some (pc + 1, lv, .int (x / y) :: r)))
  | .irem => sII st (fun x y r => oC (decide (¬ y = 0)) (some (pc + 1, lv, .int (x - x / y * y) :: r)))
  | .ladd => sLL st (fun x y r => some (pc + 1, lv, .long (x + y) :: r))
  | .lsub => sLL st (fun x y r => some (pc + 1, lv, .long (x - y) :: r))
  | .lmul => sLL st (fun x y r => some (pc + 1, lv, .long (x * y) :: r))
  | .land => sLL st (fun x y r => some (pc + 1, lv, .long (x &&& y) :: r))
  | .lor => sLL st (fun x y r => some (pc + 1, lv, .long (x ||| y) :: r))
  | .lxor => sLL st (fun x y r => some (pc + 1, lv, .long (x ^^^ y) :: r))
  | .ldiv => sLL st (fun x y r => oC (decide (¬ y = 0)) (some (pc + 1, lv, .long (x / y) :: r)))
  | .lrem => sLL st (fun x y r => oC (decide (¬ y = 0)) (some (pc + 1, lv, .long (x - x / y * y) :: r)))
  | .lshl => sLI st (fun x y r => some (pc + 1, lv, .long (x <<< (y.toInt64 &&& 63)) :: r))
  | .lshr => sLI st (fun x y r => some (pc + 1, lv, .long (x >>> (y.toInt64 &&& 63)) :: r))
  | .ineg => sI st (fun x r => some (pc + 1, lv, .int (-x) :: r))
  | .i2l => sI st (fun x r => some (pc + 1, lv, .long x.toInt64 :: r))
  | .l2i => sL st (fun x r => some (pc + 1, lv, .int x.toInt32 :: r))
  | .i2b => sI st (fun x r => some (pc + 1, lv, .int x.toInt8.toInt32 :: r))
  | .lcmp => sLL st (fun x y r => some (pc + 1, lv, .int (lg_cmp x y) :: r))
  | .dup => sV st (fun v r => oC (v.category == 1) (some (pc + 1, lv, v :: v :: r)))
  | .dup2 => sVV st (fun v u r => oC (v.category == 1 && u.category == 1) (some (pc + 1, lv, v :: u :: v :: u :: r)))
  | .pop => sV st (fun v r => oC (v.category == 1) (some (pc + 1, lv, r)))
  | .goto _ => some (tgt, lv, st)
  | .if_icmp .eq _ => sII st (fun x y r => jmp (decide (x = y)) tgt (pc + 3) lv r)
  | .ifCond .eq _ => sI st (fun x r => jmp (decide (x = 0)) tgt (pc + 3) lv r)
  | .if_icmp .ne _ => sII st (fun x y r => jmp (decide (¬ x = y)) tgt (pc + 3) lv r)
  | .ifCond .ne _ => sI st (fun x r => jmp (decide (¬ x = 0)) tgt (pc + 3) lv r)
  | .if_icmp .lt _ => sII st (fun x y r => jmp (decide (x < y)) tgt (pc + 3) lv r)
  | .ifCond .lt _ => sI st (fun x r => jmp (decide (x < 0)) tgt (pc + 3) lv r)
  | .if_icmp .ge _ => sII st (fun x y r => jmp (decide (y ≤ x)) tgt (pc + 3) lv r)
  | .ifCond .ge _ => sI st (fun x r => jmp (decide (0 ≤ x)) tgt (pc + 3) lv r)
  | .if_icmp .gt _ => sII st (fun x y r => jmp (decide (y < x)) tgt (pc + 3) lv r)
  | .ifCond .gt _ => sI st (fun x r => jmp (decide (0 < x)) tgt (pc + 3) lv r)
  | .if_icmp .le _ => sII st (fun x y r => jmp (decide (x ≤ y)) tgt (pc + 3) lv r)
  | .ifCond .le _ => sI st (fun x r => jmp (decide (x ≤ 0)) tgt (pc + 3) lv r)
  | .tableswitch dflt lo hi offs => sI st (fun x r => oB (tsw pc dflt lo hi offs x) (fun t => some (t, lv, r)))
  | .lookupswitch dflt ps => sI st (fun x r => oC ((ps.toList.zip (ps.toList.drop 1)).all (fun (a, next) => a.1 < next.1) && decide (0 ≤ (pc : Int) + Op.lookupswitch.offset ps.toList dflt x.toInt)) (some (((pc : Int) + Op.lookupswitch.offset ps.toList dflt x.toInt).toNat, lv, r)))
  | .ldc k => oB (fnd (mki F) k) (fun q => some (pc + 2, lv, .int q.1 :: st))
  | .ldc_w k => oB (fnd (mki F) k) (fun q => some (pc + 3, lv, .int q.1 :: st))
  | .ldc2_w k => oB (fnd (mkl F) k) (fun q => some (pc + 3, lv, .long q.1 :: st))
  | .getfield k => sR st (fun a r => oB (fnd (mfl F) k) (fun e => oB h[a]? (fun c => oC (c.1 == 0 && c.2.1 == e.1) (oB c.2.2[e.2.1]? (fun v => some (pc + 3, lv, v :: r))))))
  | .iaload => oB (ldR scr 1 0 0 st h) (fun q => oC (isI q.1) (some (pc + 1, lv, q.1 :: q.2)))
  | .baload => oB (ldR none 1 2 3 st h) (fun q => oC (isI q.1) (some (pc + 1, lv, q.1 :: q.2)))
  | .laload => oB (ldR none 2 1 1 st h) (fun q => oC (isL q.1) (some (pc + 1, lv, q.1 :: q.2)))
  | .aaload => sRI st (fun a j r => oB h[a]? (fun c => oC (c.1 == 3 && (c.2.1 == 4 || c.2.1 == 5 || c.2.1 == 6) && decide (¬ j < 0)) (oB c.2.2[j.toNatClampNeg]? (fun v => oC (isR v) (some (pc + 1, lv, v :: r))))))
  | .arraylength => sV st (fun v r => oB (alen scr h v) (fun x => some (pc + 1, lv, .int x :: r)))
  | _ => none
def SC (scr : AS) (b base : Nat) (s : State) : Prop := ∀ q, scr = some q → va_X b q.1 q.2 s s.heap ∧ b < s.heap.size ∧ b < base
set_option maxHeartbeats 4000000 in
set_option maxRecDepth 100000 in
theorem stpP_ok {MT : Nat → Option MR} {p : Program} {l : Launch} {e : Env} {R : Room} {s : State} {m : MethodId} {args : Array Value} {below : List Frame} {meth : Method} {c : Code} {H : Heap} {locs : List Loc} {cells slots : Nat} {Q : State → Prop} {F : MR} {scr : AS} {i : Instr} {len tgt pc pc' : Nat} {lv lv' : ALv} {st st' : List Value} {h : AH} {D : va_G} {tyc : Nat → ClassId} {b base : Nat} {ls : Array Slot}
    (hF : FOK MT F) (C : Ctx p s m args meth c F) (hK : va_K D vwCl (TYS tyc) s) (hW : Wd D tyc b base h H) (hS : va_S (fun q => base ≤ q) s.heap H locs) (hl : lv_has ls (mml F) (gL b base lv)) (hsc : SC scr b base s)
    (hf : fnd (mcode F) pc = some (i, len, tgt)) (hst : stpP F scr i tgt pc lv st h = some (pc', lv', st'))
    (k : ∀ ls', lv_has ls' (mml F) (gL b base lv') → W p l e R s m args below meth c H locs cells slots Q (F0 m pc' ls' (st'.map (gV b base)))) :
    W p l e R s m args below meth c H locs cells slots Q (F0 m pc ls (st.map (gV b base))) := by
  obtain ⟨hx, hb, hr, hml, hown, hlocks, hts, hin0⟩ := C
  obtain ⟨hD, hlen, hoff⟩ := hF.1 _ (fnd_mem hf)
  dsimp only at hD hlen hoff
  have hd : ∀ n, ilen i = n → n ≠ 0 → decode (mcc F) pc = .ok (i, n) := by
    intro n h1 h2
    rcases hlen with h3 | h3
    · omega
    · rw [← h1, h3]; exact hD
  cases i with
  | iconst n =>
    change some (_, _, _) = some _ at hst
    have h2 := hst
    simp only [Option.some.injEq, Prod.mk.injEq] at h2
    obtain ⟨rfl, rfl, rfl⟩ := h2
    exact lv_iconst hx hb (hd 1 rfl (by decide)) rfl (k ls hl)
  | bipush n =>
    change some (_, _, _) = some _ at hst
    have h2 := hst
    simp only [Option.some.injEq, Prod.mk.injEq] at h2
    obtain ⟨rfl, rfl, rfl⟩ := h2
    exact lv_bipush hx hb (hd 2 rfl (by decide)) rfl (k ls hl)
  | sipush n =>
    change some (_, _, _) = some _ at hst
    have h2 := hst
    simp only [Option.some.injEq, Prod.mk.injEq] at h2
    obtain ⟨rfl, rfl, rfl⟩ := h2
    exact lv_sipush hx hb (hd 3 rfl (by decide)) rfl (k ls hl)
  | lconst n =>
    change some (_, _, _) = some _ at hst
    have h2 := hst
    simp only [Option.some.injEq, Prod.mk.injEq] at h2
    obtain ⟨rfl, rfl, rfl⟩ := h2
    exact lv_lconst hx hb (hd 1 rfl (by decide)) rfl (k ls hl)
  | iload_n z =>
    change oB _ _ = some _ at hst
    obtain ⟨v, hv, h2⟩ := oB_inv hst
    obtain ⟨x, rfl, hx2⟩ := ldI_inv hv
    simp only [Option.some.injEq, Prod.mk.injEq] at h2
    obtain ⟨rfl, rfl, rfl⟩ := h2
    exact lv_iload_n hx hb (hd 1 rfl (by decide)) rfl (lvA hl hx2) (k ls hl)
  | iload z =>
    change oB _ _ = some _ at hst
    obtain ⟨v, hv, h2⟩ := oB_inv hst
    obtain ⟨x, rfl, hx2⟩ := ldI_inv hv
    simp only [Option.some.injEq, Prod.mk.injEq] at h2
    obtain ⟨rfl, rfl, rfl⟩ := h2
    exact lv_iload hx hb (hd 2 rfl (by decide)) (lvA hl hx2) (k ls hl)
  | lload_n z =>
    change oB _ _ = some _ at hst
    obtain ⟨v, hv, h2⟩ := oB_inv hst
    obtain ⟨x, rfl, hx2⟩ := ldL_inv hv
    simp only [Option.some.injEq, Prod.mk.injEq] at h2
    obtain ⟨rfl, rfl, rfl⟩ := h2
    exact lv_lload_n hx hb (hd 1 rfl (by decide)) rfl (lvA hl hx2) (k ls hl)
  | lload z =>
    change oB _ _ = some _ at hst
    obtain ⟨v, hv, h2⟩ := oB_inv hst
    obtain ⟨x, rfl, hx2⟩ := ldL_inv hv
    simp only [Option.some.injEq, Prod.mk.injEq] at h2
    obtain ⟨rfl, rfl, rfl⟩ := h2
    exact lv_lload hx hb (hd 2 rfl (by decide)) (lvA hl hx2) (k ls hl)
  | aload_n z =>
    change oB _ _ = some _ at hst
    obtain ⟨v, hv, h2⟩ := oB_inv hst
    obtain ⟨hv3, hx2⟩ := ldA_inv hv
    simp only [Option.some.injEq, Prod.mk.injEq] at h2
    obtain ⟨rfl, rfl, rfl⟩ := h2
    rcases hv3 with rfl | ⟨x, rfl⟩ | ⟨x, rfl⟩
    · exact lv_aload_nN hx hb (hd 1 rfl (by decide)) rfl (lvA hl hx2) (k ls hl)
    · exact lv_aload_n hx hb (hd 1 rfl (by decide)) rfl (lvA hl hx2) (k ls hl)
    · exact lv_aload_n hx hb (hd 1 rfl (by decide)) rfl (lvA hl hx2) (k ls hl)
  | aload z =>
    change oB _ _ = some _ at hst
    obtain ⟨v, hv, h2⟩ := oB_inv hst
    obtain ⟨hv3, hx2⟩ := ldA_inv hv
    simp only [Option.some.injEq, Prod.mk.injEq] at h2
    obtain ⟨rfl, rfl, rfl⟩ := h2
    rcases hv3 with rfl | ⟨x, rfl⟩ | ⟨x, rfl⟩
    · exact lv_aloadN hx hb (hd 2 rfl (by decide)) (lvA hl hx2) (k ls hl)
    · exact lv_aload hx hb (hd 2 rfl (by decide)) (lvA hl hx2) (k ls hl)
    · exact lv_aload hx hb (hd 2 rfl (by decide)) (lvA hl hx2) (k ls hl)
  | istore_n z =>
    change sI _ _ = some _ at hst
    obtain ⟨x, r, rfl, h1⟩ := sI_inv hst
    obtain ⟨h3, h2⟩ := oC_inv h1
    simp only [Option.some.injEq, Prod.mk.injEq] at h2
    obtain ⟨rfl, rfl, rfl⟩ := h2
    exact lv_istore_n hx hb (hd 1 rfl (by decide)) rfl hl (of_decide_eq_true h3) (gL_set1 b base lv _ (.int x)) (fun ls2 hl2 => k ls2 hl2)
  | istore z =>
    change sI _ _ = some _ at hst
    obtain ⟨x, r, rfl, h1⟩ := sI_inv hst
    obtain ⟨h3, h2⟩ := oC_inv h1
    simp only [Option.some.injEq, Prod.mk.injEq] at h2
    obtain ⟨rfl, rfl, rfl⟩ := h2
    exact lv_istore hx hb (hd 2 rfl (by decide)) hl (of_decide_eq_true h3) (gL_set1 b base lv _ (.int x)) (fun ls2 hl2 => k ls2 hl2)
  | lstore_n z =>
    change sL _ _ = some _ at hst
    obtain ⟨x, r, rfl, h1⟩ := sL_inv hst
    obtain ⟨h3, h2⟩ := oC_inv h1
    simp only [Option.some.injEq, Prod.mk.injEq] at h2
    obtain ⟨rfl, rfl, rfl⟩ := h2
    exact lv_lstore_n hx hb (hd 1 rfl (by decide)) rfl hl (of_decide_eq_true h3) (gL_set2 b base lv _ (.long x)) (fun ls2 hl2 => k ls2 hl2)
  | lstore z =>
    change sL _ _ = some _ at hst
    obtain ⟨x, r, rfl, h1⟩ := sL_inv hst
    obtain ⟨h3, h2⟩ := oC_inv h1
    simp only [Option.some.injEq, Prod.mk.injEq] at h2
    obtain ⟨rfl, rfl, rfl⟩ := h2
    exact lv_lstore hx hb (hd 2 rfl (by decide)) hl (of_decide_eq_true h3) (gL_set2 b base lv _ (.long x)) (fun ls2 hl2 => k ls2 hl2)
  | astore_n z =>
    change sR _ _ = some _ at hst
    obtain ⟨x, r, rfl, h1⟩ := sR_inv hst
    obtain ⟨h3, h2⟩ := oC_inv h1
    simp only [Option.some.injEq, Prod.mk.injEq] at h2
    obtain ⟨rfl, rfl, rfl⟩ := h2
    exact lv_astore_n hx hb (hd 1 rfl (by decide)) rfl hl (of_decide_eq_true h3) (gL_set1 b base lv _ (.ref x)) (fun ls2 hl2 => k ls2 hl2)
  | astore z =>
    change sR _ _ = some _ at hst
    obtain ⟨x, r, rfl, h1⟩ := sR_inv hst
    obtain ⟨h3, h2⟩ := oC_inv h1
    simp only [Option.some.injEq, Prod.mk.injEq] at h2
    obtain ⟨rfl, rfl, rfl⟩ := h2
    exact lv_astore hx hb (hd 2 rfl (by decide)) hl (of_decide_eq_true h3) (gL_set1 b base lv _ (.ref x)) (fun ls2 hl2 => k ls2 hl2)
  | iinc z n =>
    change oB _ _ = some _ at hst
    obtain ⟨v, hv, h1⟩ := oB_inv hst
    obtain ⟨x, rfl, hx2⟩ := ldI_inv hv
    obtain ⟨h3, h2⟩ := oC_inv h1
    simp only [Option.some.injEq, Prod.mk.injEq] at h2
    obtain ⟨rfl, rfl, rfl⟩ := h2
    obtain ⟨j, hj⟩ := List.getElem?_of_mem (List.mem_map.mpr ⟨(z, .int x), fnd_mem hx2, rfl⟩ : (z, gV b base (.int x)) ∈ gL b base lv)
    exact lv_iinc hx hb (hd 3 rfl (by decide)) hl hj rfl (of_decide_eq_true h3) (gL_set1 b base lv _ (.int (x + Int32.ofInt n))) (fun ls2 hl2 => k ls2 hl2)
  | iadd =>
    change sII _ _ = some _ at hst
    obtain ⟨x, y, r, rfl, h1⟩ := sII_inv hst
    have h2 := h1
    simp only [Option.some.injEq, Prod.mk.injEq] at h2
    obtain ⟨rfl, rfl, rfl⟩ := h2
    exact lv_iadd hx hb (hd 1 rfl (by decide)) (k ls hl)
  | isub =>
    change sII _ _ = some _ at hst
    obtain ⟨x, y, r, rfl, h1⟩ := sII_inv hst
    have h2 := h1
    simp only [Option.some.injEq, Prod.mk.injEq] at h2
    obtain ⟨rfl, rfl, rfl⟩ := h2
    exact lv_isub hx hb (hd 1 rfl (by decide)) (k ls hl)
  | imul =>
    change sII _ _ = some _ at hst
    obtain ⟨x, y, r, rfl, h1⟩ := sII_inv hst
    have h2 := h1
    simp only [Option.some.injEq, Prod.mk.injEq] at h2
    obtain ⟨rfl, rfl, rfl⟩ := h2
    exact lv_imul hx hb (hd 1 rfl (by decide)) (k ls hl)
  | iand =>
    change sII _ _ = some _ at hst
    obtain ⟨x, y, r, rfl, h1⟩ := sII_inv hst
    have h2 := h1
    simp only [Option.some.injEq, Prod.mk.injEq] at h2
    obtain ⟨rfl, rfl, rfl⟩ := h2
    exact lv_iand hx hb (hd 1 rfl (by decide)) (k ls hl)
  | ior =>
    change sII _ _ = some _ at hst
    obtain ⟨x, y, r, rfl, h1⟩ := sII_inv hst
    have h2 := h1
    simp only [Option.some.injEq, Prod.mk.injEq] at h2
    obtain ⟨rfl, rfl, rfl⟩ := h2
    exact lv_ior hx hb (hd 1 rfl (by decide)) (k ls hl)
  | ixor =>
    change sII _ _ = some _ at hst
    obtain ⟨x, y, r, rfl, h1⟩ := sII_inv hst
    have h2 := h1
    simp only [Option.some.injEq, Prod.mk.injEq] at h2
    obtain ⟨rfl, rfl, rfl⟩ := h2
    exact lv_ixor hx hb (hd 1 rfl (by decide)) (k ls hl)
  | ishl =>
    change sII _ _ = some _ at hst
    obtain ⟨x, y, r, rfl, h1⟩ := sII_inv hst
    have h2 := h1
    simp only [Option.some.injEq, Prod.mk.injEq] at h2
    obtain ⟨rfl, rfl, rfl⟩ := h2
    exact lv_ishl hx hb (hd 1 rfl (by decide)) (k ls hl)
  | ishr =>
    change sII _ _ = some _ at hst
    obtain ⟨x, y, r, rfl, h1⟩ := sII_inv hst
    have h2 := h1
    simp only [Option.some.injEq, Prod.mk.injEq] at h2
    obtain ⟨rfl, rfl, rfl⟩ := h2
    exact lv_ishr hx hb (hd 1 rfl (by decide)) (k ls hl)
  | iushr =>
    change sII _ _ = some _ at hst
    obtain ⟨x, y, r, rfl, h1⟩ := sII_inv hst
    have h2 := h1
    simp only [Option.some.injEq, Prod.mk.injEq] at h2
    obtain ⟨rfl, rfl, rfl⟩ := h2
    exact lv_iushr hx hb (hd 1 rfl (by decide)) rfl (k ls hl)
  | idiv =>
    change sII _ _ = some _ at hst
    obtain ⟨x, y, r, rfl, h1⟩ := sII_inv hst
    obtain ⟨h3, h2⟩ := oC_inv h1
    simp only [Option.some.injEq, Prod.mk.injEq] at h2
    obtain ⟨rfl, rfl, rfl⟩ := h2
    exact lv_idiv hx hb (hd 1 rfl (by decide)) (of_decide_eq_true h3) (k ls hl)
  | irem =>
    change sII _ _ = some _ at hst
    obtain ⟨x, y, r, rfl, h1⟩ := sII_inv hst
    obtain ⟨h3, h2⟩ := oC_inv h1
    simp only [Option.some.injEq, Prod.mk.injEq] at h2
    obtain ⟨rfl, rfl, rfl⟩ := h2
    exact lv_irem hx hb (hd 1 rfl (by decide)) (of_decide_eq_true h3) (k ls hl)
  | ladd =>
    change sLL _ _ = some _ at hst
    obtain ⟨x, y, r, rfl, h1⟩ := sLL_inv hst
    have h2 := h1
    simp only [Option.some.injEq, Prod.mk.injEq] at h2
    obtain ⟨rfl, rfl, rfl⟩ := h2
    exact lv_ladd hx hb (hd 1 rfl (by decide)) (k ls hl)
  | lsub =>
    change sLL _ _ = some _ at hst
    obtain ⟨x, y, r, rfl, h1⟩ := sLL_inv hst
    have h2 := h1
    simp only [Option.some.injEq, Prod.mk.injEq] at h2
    obtain ⟨rfl, rfl, rfl⟩ := h2
    exact lv_lsub hx hb (hd 1 rfl (by decide)) (k ls hl)
  | lmul =>
    change sLL _ _ = some _ at hst
    obtain ⟨x, y, r, rfl, h1⟩ := sLL_inv hst
    have h2 := h1
    simp only [Option.some.injEq, Prod.mk.injEq] at h2
    obtain ⟨rfl, rfl, rfl⟩ := h2
    exact lv_lmul hx hb (hd 1 rfl (by decide)) (k ls hl)
  | land =>
    change sLL _ _ = some _ at hst
    obtain ⟨x, y, r, rfl, h1⟩ := sLL_inv hst
    have h2 := h1
    simp only [Option.some.injEq, Prod.mk.injEq] at h2
    obtain ⟨rfl, rfl, rfl⟩ := h2
    exact lv_land hx hb (hd 1 rfl (by decide)) (k ls hl)
  | lor =>
    change sLL _ _ = some _ at hst
    obtain ⟨x, y, r, rfl, h1⟩ := sLL_inv hst
    have h2 := h1
    simp only [Option.some.injEq, Prod.mk.injEq] at h2
    obtain ⟨rfl, rfl, rfl⟩ := h2
    exact lv_lor hx hb (hd 1 rfl (by decide)) (k ls hl)
  | lxor =>
    change sLL _ _ = some _ at hst
    obtain ⟨x, y, r, rfl, h1⟩ := sLL_inv hst
    have h2 := h1
    simp only [Option.some.injEq, Prod.mk.injEq] at h2
    obtain ⟨rfl, rfl, rfl⟩ := h2
    exact lv_lxor hx hb (hd 1 rfl (by decide)) (k ls hl)
  | ldiv =>
    change sLL _ _ = some _ at hst
    obtain ⟨x, y, r, rfl, h1⟩ := sLL_inv hst
    obtain ⟨h3, h2⟩ := oC_inv h1
    simp only [Option.some.injEq, Prod.mk.injEq] at h2
    obtain ⟨rfl, rfl, rfl⟩ := h2
    exact lv_ldiv hx hb (hd 1 rfl (by decide)) (of_decide_eq_true h3) (k ls hl)
  | lrem =>
    change sLL _ _ = some _ at hst
    obtain ⟨x, y, r, rfl, h1⟩ := sLL_inv hst
    obtain ⟨h3, h2⟩ := oC_inv h1
    simp only [Option.some.injEq, Prod.mk.injEq] at h2
    obtain ⟨rfl, rfl, rfl⟩ := h2
    exact lv_lrem hx hb (hd 1 rfl (by decide)) (of_decide_eq_true h3) (k ls hl)
  | lshl =>
    change sLI _ _ = some _ at hst
    obtain ⟨x, y, r, rfl, h1⟩ := sLI_inv hst
    have h2 := h1
    simp only [Option.some.injEq, Prod.mk.injEq] at h2
    obtain ⟨rfl, rfl, rfl⟩ := h2
    exact lv_lshl hx hb (hd 1 rfl (by decide)) rfl (k ls hl)
  | lshr =>
    change sLI _ _ = some _ at hst
    obtain ⟨x, y, r, rfl, h1⟩ := sLI_inv hst
    have h2 := h1
    simp only [Option.some.injEq, Prod.mk.injEq] at h2
    obtain ⟨rfl, rfl, rfl⟩ := h2
    exact lv_lshr hx hb (hd 1 rfl (by decide)) rfl (k ls hl)
  | ineg =>
    change sI _ _ = some _ at hst
    obtain ⟨x, r, rfl, h2⟩ := sI_inv hst
    simp only [Option.some.injEq, Prod.mk.injEq] at h2
    obtain ⟨rfl, rfl, rfl⟩ := h2
    exact lv_ineg hx hb (hd 1 rfl (by decide)) (k ls hl)
  | i2l =>
    change sI _ _ = some _ at hst
    obtain ⟨x, r, rfl, h2⟩ := sI_inv hst
    simp only [Option.some.injEq, Prod.mk.injEq] at h2
    obtain ⟨rfl, rfl, rfl⟩ := h2
    exact lv_i2l hx hb (hd 1 rfl (by decide)) rfl (k ls hl)
  | l2i =>
    change sL _ _ = some _ at hst
    obtain ⟨x, r, rfl, h2⟩ := sL_inv hst
    simp only [Option.some.injEq, Prod.mk.injEq] at h2
    obtain ⟨rfl, rfl, rfl⟩ := h2
    exact lv_l2i hx hb (hd 1 rfl (by decide)) rfl (k ls hl)
  | i2b =>
    change sI _ _ = some _ at hst
    obtain ⟨x, r, rfl, h2⟩ := sI_inv hst
    simp only [Option.some.injEq, Prod.mk.injEq] at h2
    obtain ⟨rfl, rfl, rfl⟩ := h2
    exact lv_i2b hx hb (hd 1 rfl (by decide)) rfl (k ls hl)
  | lcmp =>
    change sLL _ _ = some _ at hst
    obtain ⟨x, y, r, rfl, h2⟩ := sLL_inv hst
    simp only [Option.some.injEq, Prod.mk.injEq] at h2
    obtain ⟨rfl, rfl, rfl⟩ := h2
    exact W.lcmp hx hb (hd 1 rfl (by decide)) (k ls hl)
  | dup =>
    change sV _ _ = some _ at hst
    obtain ⟨v, r, rfl, h1⟩ := sV_inv hst
    obtain ⟨h3, h2⟩ := oC_inv h1
    simp only [Option.some.injEq, Prod.mk.injEq] at h2
    obtain ⟨rfl, rfl, rfl⟩ := h2
    exact lv_dup hx hb (hd 1 rfl (by decide)) ((gV_cat b base v).trans (eq_of_beq h3)) (k ls hl)
  | dup2 =>
    change sVV _ _ = some _ at hst
    obtain ⟨v, u, r, rfl, h1⟩ := sVV_inv hst
    obtain ⟨h3, h2⟩ := oC_inv h1
    simp only [Option.some.injEq, Prod.mk.injEq] at h2
    obtain ⟨rfl, rfl, rfl⟩ := h2
    rw [Bool.and_eq_true] at h3
    exact lv_dup2_11 hx hb (hd 1 rfl (by decide)) ((gV_cat b base v).trans (eq_of_beq h3.1)) ((gV_cat b base u).trans (eq_of_beq h3.2)) (k ls hl)
  | pop =>
    change sV _ _ = some _ at hst
    obtain ⟨v, r, rfl, h1⟩ := sV_inv hst
    obtain ⟨h3, h2⟩ := oC_inv h1
    simp only [Option.some.injEq, Prod.mk.injEq] at h2
    obtain ⟨rfl, rfl, rfl⟩ := h2
    exact lv_pop hx hb (hd 1 rfl (by decide)) ((gV_cat b base v).trans (eq_of_beq h3)) (k ls hl)
  | goto off =>
    change some (_, _, _) = some _ at hst
    have h2 := hst
    simp only [Option.some.injEq, Prod.mk.injEq] at h2
    obtain ⟨rfl, rfl, rfl⟩ := h2
    exact lv_goto hx hb (hd 3 rfl (by decide)) (hoff _ rfl) (k ls hl)
  | if_icmp cd off =>
    cases cd with
    | eq =>
      change sII _ _ = some _ at hst
      obtain ⟨x, y, r, rfl, h2⟩ := sII_inv hst
      rcases jmp_inv h2 with ⟨ht, hz⟩ | ⟨ht, hz⟩
      · cases hz; exact lv_icmp_eq hx hb (hd 3 rfl (by decide)) (hoff _ rfl) (fun _ => k ls hl) (fun z => absurd (of_decide_eq_true ht) z)
      · cases hz; exact lv_icmp_eq hx hb (hd 3 rfl (by decide)) (hoff _ rfl) (fun z => absurd z (of_decide_eq_false ht)) (fun _ => k ls hl)
    | ne =>
      change sII _ _ = some _ at hst
      obtain ⟨x, y, r, rfl, h2⟩ := sII_inv hst
      rcases jmp_inv h2 with ⟨ht, hz⟩ | ⟨ht, hz⟩
      · cases hz; exact lv_icmp_ne hx hb (hd 3 rfl (by decide)) (hoff _ rfl) (fun _ => k ls hl) (fun z => absurd z (of_decide_eq_true ht))
      · cases hz; exact lv_icmp_ne hx hb (hd 3 rfl (by decide)) (hoff _ rfl) (fun z => absurd z (of_decide_eq_false ht)) (fun _ => k ls hl)
    | lt =>
      change sII _ _ = some _ at hst
      obtain ⟨x, y, r, rfl, h2⟩ := sII_inv hst
      rcases jmp_inv h2 with ⟨ht, hz⟩ | ⟨ht, hz⟩
      · cases hz; exact lv_icmp_lt hx hb (hd 3 rfl (by decide)) (hoff _ rfl) (fun _ => k ls hl) (fun z => absurd (of_decide_eq_true ht) z)
      · cases hz; exact lv_icmp_lt hx hb (hd 3 rfl (by decide)) (hoff _ rfl) (fun z => absurd z (of_decide_eq_false ht)) (fun _ => k ls hl)
    | ge =>
      change sII _ _ = some _ at hst
      obtain ⟨x, y, r, rfl, h2⟩ := sII_inv hst
      rcases jmp_inv h2 with ⟨ht, hz⟩ | ⟨ht, hz⟩
      · cases hz; exact lv_icmp_ge hx hb (hd 3 rfl (by decide)) (hoff _ rfl) (fun _ => k ls hl) (fun z => absurd (of_decide_eq_true ht) z)
      · cases hz; exact lv_icmp_ge hx hb (hd 3 rfl (by decide)) (hoff _ rfl) (fun z => absurd z (of_decide_eq_false ht)) (fun _ => k ls hl)
    | gt =>
      change sII _ _ = some _ at hst
      obtain ⟨x, y, r, rfl, h2⟩ := sII_inv hst
      rcases jmp_inv h2 with ⟨ht, hz⟩ | ⟨ht, hz⟩
      · cases hz; exact lv_icmp_gt hx hb (hd 3 rfl (by decide)) (hoff _ rfl) (fun _ => k ls hl) (fun z => absurd (of_decide_eq_true ht) z)
      · cases hz; exact lv_icmp_gt hx hb (hd 3 rfl (by decide)) (hoff _ rfl) (fun z => absurd z (of_decide_eq_false ht)) (fun _ => k ls hl)
    | le =>
      change sII _ _ = some _ at hst
      obtain ⟨x, y, r, rfl, h2⟩ := sII_inv hst
      rcases jmp_inv h2 with ⟨ht, hz⟩ | ⟨ht, hz⟩
      · cases hz; exact lv_icmp_le hx hb (hd 3 rfl (by decide)) (hoff _ rfl) (fun _ => k ls hl) (fun z => absurd (of_decide_eq_true ht) z)
      · cases hz; exact lv_icmp_le hx hb (hd 3 rfl (by decide)) (hoff _ rfl) (fun z => absurd z (of_decide_eq_false ht)) (fun _ => k ls hl)
  | ifCond cd off =>
    cases cd with
    | eq =>
      change sI _ _ = some _ at hst
      obtain ⟨x, r, rfl, h2⟩ := sI_inv hst
      rcases jmp_inv h2 with ⟨ht, hz⟩ | ⟨ht, hz⟩
      · cases hz; exact lv_if_eq hx hb (hd 3 rfl (by decide)) (hoff _ rfl) (fun _ => k ls hl) (fun z => absurd (of_decide_eq_true ht) z)
      · cases hz; exact lv_if_eq hx hb (hd 3 rfl (by decide)) (hoff _ rfl) (fun z => absurd z (of_decide_eq_false ht)) (fun _ => k ls hl)
    | ne =>
      change sI _ _ = some _ at hst
      obtain ⟨x, r, rfl, h2⟩ := sI_inv hst
      rcases jmp_inv h2 with ⟨ht, hz⟩ | ⟨ht, hz⟩
      · cases hz; exact lv_if_ne hx hb (hd 3 rfl (by decide)) (hoff _ rfl) (fun _ => k ls hl) (fun z => absurd z (of_decide_eq_true ht))
      · cases hz; exact lv_if_ne hx hb (hd 3 rfl (by decide)) (hoff _ rfl) (fun z => absurd z (of_decide_eq_false ht)) (fun _ => k ls hl)
    | lt =>
      change sI _ _ = some _ at hst
      obtain ⟨x, r, rfl, h2⟩ := sI_inv hst
      rcases jmp_inv h2 with ⟨ht, hz⟩ | ⟨ht, hz⟩
      · cases hz; exact lv_if_lt hx hb (hd 3 rfl (by decide)) (hoff _ rfl) (fun _ => k ls hl) (fun z => absurd (of_decide_eq_true ht) z)
      · cases hz; exact lv_if_lt hx hb (hd 3 rfl (by decide)) (hoff _ rfl) (fun z => absurd z (of_decide_eq_false ht)) (fun _ => k ls hl)
    | ge =>
      change sI _ _ = some _ at hst
      obtain ⟨x, r, rfl, h2⟩ := sI_inv hst
      rcases jmp_inv h2 with ⟨ht, hz⟩ | ⟨ht, hz⟩
      · cases hz; exact lv_if_ge hx hb (hd 3 rfl (by decide)) (hoff _ rfl) (fun _ => k ls hl) (fun z => absurd (of_decide_eq_true ht) z)
      · cases hz; exact lv_if_ge hx hb (hd 3 rfl (by decide)) (hoff _ rfl) (fun z => absurd z (of_decide_eq_false ht)) (fun _ => k ls hl)
    | gt =>
      change sI _ _ = some _ at hst
      obtain ⟨x, r, rfl, h2⟩ := sI_inv hst
      rcases jmp_inv h2 with ⟨ht, hz⟩ | ⟨ht, hz⟩
      · cases hz; exact lv_if_gt hx hb (hd 3 rfl (by decide)) (hoff _ rfl) (fun _ => k ls hl) (fun z => absurd (of_decide_eq_true ht) z)
      · cases hz; exact lv_if_gt hx hb (hd 3 rfl (by decide)) (hoff _ rfl) (fun z => absurd z (of_decide_eq_false ht)) (fun _ => k ls hl)
    | le =>
      change sI _ _ = some _ at hst
      obtain ⟨x, r, rfl, h2⟩ := sI_inv hst
      rcases jmp_inv h2 with ⟨ht, hz⟩ | ⟨ht, hz⟩
      · cases hz; exact lv_if_le hx hb (hd 3 rfl (by decide)) (hoff _ rfl) (fun _ => k ls hl) (fun z => absurd (of_decide_eq_true ht) z)
      · cases hz; exact lv_if_le hx hb (hd 3 rfl (by decide)) (hoff _ rfl) (fun z => absurd z (of_decide_eq_false ht)) (fun _ => k ls hl)
  | tableswitch dflt lo hi offs =>
    change sI _ _ = some _ at hst
    obtain ⟨x, r, rfl, h1⟩ := sI_inv hst
    obtain ⟨t, ht, h2⟩ := oB_inv h1
    simp only [Option.some.injEq, Prod.mk.injEq] at h2
    obtain ⟨rfl, rfl, rfl⟩ := h2
    unfold tsw at ht
    split at ht
    · rename_i hz
      obtain ⟨h3, h4⟩ := oC_inv ht
      cases h4
      exact lv_tableOut hx hb hD hz (Int.toNat_of_nonneg (of_decide_eq_true h3)).symm (k ls hl)
    · rename_i hz
      obtain ⟨o, ho, h5⟩ := oB_inv ht
      obtain ⟨h3, h4⟩ := oC_inv h5
      cases h4
      exact lv_tableIn hx hb hD (fun z => hz (Or.inl z)) (fun z => hz (Or.inr z)) ho (Int.toNat_of_nonneg (of_decide_eq_true h3)).symm (k ls hl)
  | lookupswitch dflt ps =>
    change sI _ _ = some _ at hst
    obtain ⟨x, r, rfl, h1⟩ := sI_inv hst
    obtain ⟨h3, h2⟩ := oC_inv h1
    simp only [Option.some.injEq, Prod.mk.injEq] at h2
    obtain ⟨rfl, rfl, rfl⟩ := h2
    rw [Bool.and_eq_true] at h3
    exact lv_lookup hx hb hD h3.1 rfl (Int.toNat_of_nonneg (of_decide_eq_true h3.2)).symm (k ls hl)
  | ldc z =>
    change oB _ _ = some _ at hst
    obtain ⟨q, hq, h2⟩ := oB_inv hst
    simp only [Option.some.injEq, Prod.mk.injEq] at h2
    obtain ⟨rfl, rfl, rfl⟩ := h2
    exact lv_ldc hx hb hown (hts _ (hF.2.2.2.1 _ (fnd_mem hq))) (hd 2 rfl (by decide)) (k ls hl)
  | ldc_w z =>
    change oB _ _ = some _ at hst
    obtain ⟨q, hq, h2⟩ := oB_inv hst
    simp only [Option.some.injEq, Prod.mk.injEq] at h2
    obtain ⟨rfl, rfl, rfl⟩ := h2
    exact lv_ldcw hx hb hown (hts _ (hF.2.2.2.1 _ (fnd_mem hq))) (hd 3 rfl (by decide)) (k ls hl)
  | ldc2_w z =>
    change oB _ _ = some _ at hst
    obtain ⟨q, hq, h2⟩ := oB_inv hst
    simp only [Option.some.injEq, Prod.mk.injEq] at h2
    obtain ⟨rfl, rfl, rfl⟩ := h2
    exact lv_ldc2 hx hb hown (hts _ (hF.2.2.2.2.1 _ (fnd_mem hq))) (hd 3 rfl (by decide)) (k ls hl)
  | getfield z =>
    change sR _ _ = some _ at hst
    obtain ⟨a, r, rfl, h1⟩ := sR_inv hst
    obtain ⟨e0, he0, h4⟩ := oB_inv h1
    obtain ⟨cc, hc, h5⟩ := oB_inv h4
    obtain ⟨h3, h6⟩ := oC_inv h5
    obtain ⟨v, hv, h2⟩ := oB_inv h6
    simp only [Option.some.injEq, Prod.mk.injEq] at h2
    obtain ⟨rfl, rfl, rfl⟩ := h2
    simp only [Bool.and_eq_true, beq_iff_eq] at h3
    obtain ⟨⟨C0, T0, N0⟩, hr0, hk0, hw0, -, -⟩ := hF.2.1 _ (fnd_mem he0)
    dsimp only at hr0 hk0 hw0
    have he := gW_at (b := b) (base := base) (tyc := tyc) hc
    rw [gE_o h3.1, h3.2] at he
    have hv2 : (cc.2.2.map (gV b base))[e0.2.1]? = some (gV b base v) := by rw [List.getElem?_map, hv]; rfl
    unfold fldW at hw0
    split at hw0
    · exact va_getN hx hb hts (CLS_in hr0) hown hK hW.2 a he hr0 e0.2.1 hk0 (hts _ hw0) (fun _ h9 => h9) hv2 (hd 3 rfl (by decide)) (k ls hl)
    · exact va_get hx hb hts (CLS_in hr0) hown hK hW.2 a he hr0 e0.2.1 hk0 (hts _ hw0) (fun _ h9 => h9) hv2 (hd 3 rfl (by decide)) (k ls hl)
  | iaload =>
    change oB _ _ = some _ at hst
    obtain ⟨⟨v, r⟩, hq, h1⟩ := oB_inv hst
    obtain ⟨h3, h2⟩ := oC_inv h1
    simp only [Option.some.injEq, Prod.mk.injEq] at h2
    obtain ⟨rfl, rfl, rfl⟩ := h2
    obtain ⟨x, hxv⟩ := isI_inv h3
    dsimp only at hxv
    subst hxv
    rcases ldR_inv hq with ⟨a, j, cc, hs, hc, hk1, hk2, hj, hv⟩ | ⟨a, j, q, hs, hsq, hj, hv⟩
    · dsimp only at hs hv
      subst hs
      have he := gW_at (b := b) (base := base) (tyc := tyc) hc
      rw [gE_i hk1] at he
      have e9 : asI (cc.2.2.getD j.toNatClampNeg .null) = x := by rw [List.getD_eq_getElem?_getD, hv]; rfl
      have hin : vp_in j cc.2.2.length := by
        have h8 := (List.getElem?_eq_some_iff.mp hv).1
        exact fun z => z.elim hj (fun z => by omega)
      have hk3 : cc.2.1 = 0 := by rcases hk2 with z | z <;> exact z
      rw [hk3] at he
      exact va_iald hx hb hK hW.2 a 0 he rfl hin (hd 1 rfl (by decide)) (W.eq (by show F0 m (pc + 1) ls (.int (asI (cc.2.2.getD j.toNatClampNeg .null)) :: _) = _; rw [e9]; rfl) (k ls hl))
    · dsimp only at hs hv
      subst hs
      cases hv
      obtain ⟨hX, hbl, hbb⟩ := hsc q hsq
      exact va_sld hx hb hX hbl (Nat.not_le.mpr hbb) hS hj (hd 1 rfl (by decide)) (k ls hl)
  | baload =>
    change oB _ _ = some _ at hst
    obtain ⟨⟨v, r⟩, hq, h1⟩ := oB_inv hst
    obtain ⟨h3, h2⟩ := oC_inv h1
    simp only [Option.some.injEq, Prod.mk.injEq] at h2
    obtain ⟨rfl, rfl, rfl⟩ := h2
    obtain ⟨x, hxv⟩ := isI_inv h3
    dsimp only at hxv
    subst hxv
    rcases ldR_inv hq with ⟨a, j, cc, hs, hc, hk1, hk2, hj, hv⟩ | ⟨a, j, q, hs, hsq, hj, hv⟩
    · dsimp only at hs hv
      subst hs
      have he := gW_at (b := b) (base := base) (tyc := tyc) hc
      rw [gE_i hk1] at he
      have e9 : asI (cc.2.2.getD j.toNatClampNeg .null) = x := by rw [List.getD_eq_getElem?_getD, hv]; rfl
      have hin : vp_in j cc.2.2.length := by
        have h8 := (List.getElem?_eq_some_iff.mp hv).1
        exact fun z => z.elim hj (fun z => by omega)
      rcases hk2 with hk3 | hk3
      · rw [hk3] at he
        exact va_bald hx hb hK hW.2 a 2 he rfl hin (hd 1 rfl (by decide)) (W.eq (by show F0 m (pc + 1) ls (.int (asI (cc.2.2.getD j.toNatClampNeg .null)) :: _) = _; rw [e9]; rfl) (k ls hl))
      · rw [hk3] at he
        exact va_zald hx hb hK hW.2 a 3 he rfl hin (hd 1 rfl (by decide)) (W.eq (by show F0 m (pc + 1) ls (.int (asI (cc.2.2.getD j.toNatClampNeg .null)) :: _) = _; rw [e9]; rfl) (k ls hl))
    · cases hsq
  | laload =>
    change oB _ _ = some _ at hst
    obtain ⟨⟨v, r⟩, hq, h1⟩ := oB_inv hst
    obtain ⟨h3, h2⟩ := oC_inv h1
    simp only [Option.some.injEq, Prod.mk.injEq] at h2
    obtain ⟨rfl, rfl, rfl⟩ := h2
    obtain ⟨x, hxv⟩ := isL_inv h3
    dsimp only at hxv
    subst hxv
    rcases ldR_inv hq with ⟨a, j, cc, hs, hc, hk1, hk2, hj, hv⟩ | ⟨a, j, q, hs, hsq, hj, hv⟩
    · dsimp only at hs hv
      subst hs
      have he := gW_at (b := b) (base := base) (tyc := tyc) hc
      rw [gE_l hk1] at he
      have e9 : asL (cc.2.2.getD j.toNatClampNeg .null) = x := by rw [List.getD_eq_getElem?_getD, hv]; rfl
      have hin : vp_in j cc.2.2.length := by
        have h8 := (List.getElem?_eq_some_iff.mp hv).1
        exact fun z => z.elim hj (fun z => by omega)
      have hk3 : cc.2.1 = 1 := by rcases hk2 with z | z <;> exact z
      rw [hk3] at he
      exact va_lald hx hb hK hW.2 a 1 he rfl hin (hd 1 rfl (by decide)) (W.eq (by show F0 m (pc + 1) ls (.long (asL (cc.2.2.getD j.toNatClampNeg .null)) :: _) = _; rw [e9]; rfl) (k ls hl))
    · cases hsq
  | aaload =>
    change sRI _ _ = some _ at hst
    obtain ⟨a, j, r, rfl, h1⟩ := sRI_inv hst
    obtain ⟨cc, hc, h4⟩ := oB_inv h1
    obtain ⟨h3, h5⟩ := oC_inv h4
    obtain ⟨v, hv, h6⟩ := oB_inv h5
    obtain ⟨h7, h2⟩ := oC_inv h6
    simp only [Option.some.injEq, Prod.mk.injEq] at h2
    obtain ⟨rfl, rfl, rfl⟩ := h2
    simp only [Bool.and_eq_true, Bool.or_eq_true, beq_iff_eq, decide_eq_true_eq] at h3
    obtain ⟨⟨hk1, hk2⟩, hj⟩ := h3
    have he := gW_at (b := b) (base := base) (tyc := tyc) hc
    rw [gE_r hk1] at he
    have e9 : va_rf (asR base (cc.2.2.getD j.toNatClampNeg .null)) = gV b base v := by
      rw [List.getD_eq_getElem?_getD, hv]
      rcases isR_inv h7 with rfl | ⟨x, rfl⟩ <;> rfl
    have hin : vp_in j cc.2.2.length := by
      have h8 := (List.getElem?_eq_some_iff.mp hv).1
      exact fun z => z.elim hj (fun z => by omega)
    rcases hk2 with (hk3 | hk3) | hk3
    · rw [hk3] at he
      exact va_aldq hx hb hK hW.2 a 4 he rfl hin (hd 1 rfl (by decide)) (W.eq (by show F0 m (pc + 1) ls (va_rf (asR base (cc.2.2.getD j.toNatClampNeg .null)) :: _) = _; rw [e9]; rfl) (k ls hl))
    · rw [hk3] at he
      exact va_aldq hx hb hK hW.2 a 5 he rfl hin (hd 1 rfl (by decide)) (W.eq (by show F0 m (pc + 1) ls (va_rf (asR base (cc.2.2.getD j.toNatClampNeg .null)) :: _) = _; rw [e9]; rfl) (k ls hl))
    · rw [hk3] at he
      exact va_aldq hx hb hK hW.2 a 6 he rfl hin (hd 1 rfl (by decide)) (W.eq (by show F0 m (pc + 1) ls (va_rf (asR base (cc.2.2.getD j.toNatClampNeg .null)) :: _) = _; rw [e9]; rfl) (k ls hl))
  | arraylength =>
    change sV _ _ = some _ at hst
    obtain ⟨v, r, rfl, h1⟩ := sV_inv hst
    obtain ⟨x, hx1, h2⟩ := oB_inv h1
    simp only [Option.some.injEq, Prod.mk.injEq] at h2
    obtain ⟨rfl, rfl, rfl⟩ := h2
    unfold alen at hx1
    split at hx1
    · rename_i a
      obtain ⟨cc, hc, h4⟩ := oB_inv hx1
      obtain ⟨h3, h5⟩ := oC_inv h4
      cases h5
      simp only [Bool.and_eq_true, Bool.or_eq_true, beq_iff_eq, decide_eq_true_eq] at h3
      obtain ⟨hk1, hk2⟩ := h3
      obtain ⟨ty, hty⟩ := TYS_get tyc hk2
      have he := gW_at (b := b) (base := base) (tyc := tyc) hc
      rcases hk1 with (hk1 | hk1) | hk1
      · rw [gE_i hk1] at he; exact va_alen hx hb hK hW.2 a _ he hty rfl (hd 1 rfl (by decide)) (k ls hl)
      · rw [gE_l hk1] at he; exact va_alen hx hb hK hW.2 a _ he hty rfl (hd 1 rfl (by decide)) (k ls hl)
      · rw [gE_r hk1] at he; exact va_alen hx hb hK hW.2 a _ he hty rfl (hd 1 rfl (by decide)) (k ls hl)
    · obtain ⟨q, hq, h4⟩ := oB_inv hx1
      cases h4
      obtain ⟨hX, hbl, hbb⟩ := hsc q hq
      exact va_slen hx hb hX hbl (Nat.not_le.mpr hbb) hS (hd 1 rfl (by decide)) (k ls hl)
    · cases hx1
  | _ => exact absurd hst (by intro z; cases z)
end
section
/-! the steps that write and make -/
theorem vS_self {A : Nat → Prop} {H0 H : Heap} {locs : List Loc} (h : va_S A H0 H locs) : va_S A H H locs := ⟨Nat.le_refl _, fun _ _ _ => rfl, h.2.2⟩
theorem vS_comp {A : Nat → Prop} {H0 H H1 : Heap} {locs locs1 : List Loc} (h1 : va_S A H0 H locs) (h2 : va_S A H H1 locs1) : va_S A H0 H1 locs1 :=
  ⟨Nat.le_trans h1.1 h2.1, fun q hq hA => (h2.2.1 q (Nat.lt_of_lt_of_le hq h1.1) hA).trans (h1.2.1 q hq hA), h2.2.2⟩
/-- a frame has no more cells than are booked -/
theorem W_sz {p : Program} {l : Launch} {e : Env} {R : Room} {s : State} {m : MethodId} {args : Array Value} {below : List Frame} {meth : Method} {c : Code} {H : Heap} {locs : List Loc} {cells slots : Nat} {Q : State → Prop} {g : JFrame}
    (k : H.size ≤ s.heap.size + cells → W p l e R s m args below meth c H locs cells slots Q g) : W p l e R s m args below meth c H locs cells slots Q g := fun T hT X => k (by
  have h := X.same.2.2.1
  rw [← hT]
  exact h) T hT X
theorem Wd_set {D : va_G} {tyc : Nat → ClassId} {b base : Nat} {h : AH} {H H1 : Heap} {a n : Nat} {c : AC} (hW : Wd D tyc b base h H) (hP : va_P D vwCl ((gW b base tyc h).set a (base + a, gE b base tyc c)) H1) (hle : H.size ≤ H1.size) (hN : base + h.length = n) (hub : H1.size ≤ n) : Wd D tyc b base (h.set a c) H1 := by
  refine ⟨?_, by rw [← gW_set]; exact hP⟩
  have h1 := hW.1
  rw [List.length_set]
  omega
theorem Wd_push {D : va_G} {tyc : Nat → ClassId} {b base : Nat} {h : AH} {H H1 : Heap} {q n : Nat} {c : AC} (hW : Wd D tyc b base h H) (hP : va_P D vwCl (gW b base tyc h ++ [(q, gE b base tyc c)]) H1) (hD : va_D (fun q => base ≤ q) (gW b base tyc h ++ [(q, gE b base tyc c)])) (hN : base + h.length = n) (hub : H1.size ≤ n + 1) : Wd D tyc b base (h ++ [c]) H1 ∧ q = base + h.length := by
  have hk : (gW b base tyc h ++ [(q, gE b base tyc c)])[h.length]? = some (q, gE b base tyc c) := by
    rw [List.getElem?_append_right (by rw [gW_len]; exact Nat.le_refl _), gW_len]; simp
  have hq1 : base ≤ q := hD.2 _ _ hk
  have hq2 : q < H1.size := (hP _ _ hk).lt
  have hq3 : base + h.length ≤ q := by
    rcases Nat.lt_or_ge q (base + h.length) with z | z
    · exfalso
      have hi : q - base < h.length := by omega
      have h2 : (gW b base tyc h ++ [(q, gE b base tyc c)])[q - base]? = some (base + (q - base), gE b base tyc h[q - base]) := by
        rw [List.getElem?_append_left (by rw [gW_len]; exact hi)]
        exact gW_at (List.getElem?_eq_getElem hi)
      have h3 := hD.1 _ _ _ _ h2 hk (by dsimp only; omega)
      omega
    · exact z
  have e : q = base + h.length := by omega
  subst e
  exact ⟨⟨by rw [List.length_append]; simp only [List.length_cons, List.length_nil]; omega, by rw [gW_push]; exact hP⟩, rfl⟩
theorem updI_list {vs : List Value} {j : Nat} (hj : j < vs.length) (x : Int32) : upd (fun k => asI (vs.getD k .null)) j x = fun k => asI ((vs.set j (.int x)).getD k .null) := by
  funext k
  unfold upd
  simp only [List.getD_eq_getElem?_getD, List.getElem?_set]
  by_cases hk : k = j
  · subst hk; simp [hj, asI]
  · rw [if_neg hk, if_neg (fun z => hk z.symm)]
theorem updL_list {vs : List Value} {j : Nat} (hj : j < vs.length) (x : Int64) : vp_updL (fun k => asL (vs.getD k .null)) j x = fun k => asL ((vs.set j (.long x)).getD k .null) := by
  funext k
  unfold vp_updL
  simp only [List.getD_eq_getElem?_getD, List.getElem?_set]
  by_cases hk : k = j
  · subst hk; simp [hj, asL]
  · rw [if_neg hk, if_neg (fun z => hk z.symm)]
theorem updR_list {base : Nat} {vs : List Value} {j : Nat} (hj : j < vs.length) (a : Nat) : va_up (fun k => asR base (vs.getD k .null)) j (some (base + a)) = fun k => asR base ((vs.set j (.ref a)).getD k .null) := by
  funext k
  unfold va_up
  simp only [List.getD_eq_getElem?_getD, List.getElem?_set]
  by_cases hk : k = j
  · subst hk; simp [hj, asR]
  · rw [if_neg hk, if_neg (fun z => hk z.symm)]
def sVR {α : Type} (st : List Value) (f : Value → Nat → List Value → Option α) : Option α := match st with
  | v :: .ref a :: r => f v a r
  | _ => none
def sVIR {α : Type} (st : List Value) (f : Value → Int32 → Nat → List Value → Option α) : Option α := match st with
  | v :: .int j :: .ref a :: r => f v j a r
  | _ => none
theorem sVR_inv {α : Type} {st : List Value} {f : Value → Nat → List Value → Option α} {a : α} (h : sVR st f = some a) : ∃ v x r, st = v :: .ref x :: r ∧ f v x r = some a := by
  unfold sVR at h; split at h
  · exact ⟨_, _, _, rfl, h⟩
  · cases h
theorem sVIR_inv {α : Type} {st : List Value} {f : Value → Int32 → Nat → List Value → Option α} {a : α} (h : sVIR st f = some a) : ∃ v j x r, st = v :: .int j :: .ref x :: r ∧ f v j x r = some a := by
  unfold sVIR at h; split at h
  · exact ⟨_, _, _, _, rfl, h⟩
  · cases h
/-- the type of the rows that hold a class's objects -/
def ciTy (ci : Nat) : Nat := if ci = 0 then 4 else if ci = 4 then 5 else if ci = 7 then 6 else 99
def stpW (F : MR) (i : Instr) (pc : Nat) (st : List Value) (h : AH) : Option (Nat × List Value × AH) :=
  match i with
  | .putfield k => sVR st (fun v a r => oB (fnd (mfl F) k) (fun e => oB h[a]? (fun c => oC (c.1 == 0 && c.2.1 == e.1 && decide (e.2.2.1 < 3) && decide (e.2.1 < c.2.2.length) && okFit (TYF e.1 e.2.1) v) (some (pc + 3, r, h.set a (0, c.2.1, c.2.2.set e.2.1 v))))))
  | .iastore => sVIR st (fun v j a r => oB h[a]? (fun c => oC (isI v && c.1 == 1 && c.2.1 == 0 && decide (¬ j < 0) && decide (j.toNatClampNeg < c.2.2.length)) (some (pc + 1, r, h.set a (1, c.2.1, c.2.2.set j.toNatClampNeg v)))))
  | .bastore => sVIR st (fun v j a r => oB h[a]? (fun c => oC (isI v && c.1 == 1 && (c.2.1 == 2 || c.2.1 == 3) && decide (¬ j < 0) && decide (j.toNatClampNeg < c.2.2.length)) (some (pc + 1, r, h.set a (1, c.2.1, c.2.2.set j.toNatClampNeg (.int (vp_nar (if c.2.1 = 2 then .byte else .boolean) (asI v))))))))
  | .lastore => sVIR st (fun v j a r => oB h[a]? (fun c => oC (isL v && c.1 == 2 && c.2.1 == 1 && decide (¬ j < 0) && decide (j.toNatClampNeg < c.2.2.length)) (some (pc + 1, r, h.set a (2, c.2.1, c.2.2.set j.toNatClampNeg v)))))
  | .aastore => sVIR st (fun v j a r => match v with
    | .ref x => oB h[x]? (fun d => oB h[a]? (fun c => oC (d.1 == 0 && c.1 == 3 && c.2.1 == ciTy d.2.1 && decide (c.2.1 < 7) && decide (¬ j < 0) && decide (j.toNatClampNeg < c.2.2.length)) (some (pc + 1, r, h.set a (3, c.2.1, c.2.2.set j.toNatClampNeg (.ref x))))))
    | _ => none)
  | _ => none

set_option maxHeartbeats 4000000 in
set_option maxRecDepth 100000 in
theorem stpW_ok {MT : Nat → Option MR} {p : Program} {l : Launch} {e : Env} {R : Room} {s : State} {m : MethodId} {args : Array Value} {below : List Frame} {meth : Method} {c : Code} {H : Heap} {locs : List Loc} {cells slots : Nat} {Q : State → Prop} {F : MR} {i : Instr} {len tgt pc pc' : Nat} {st st' : List Value} {h h' : AH} {D : va_G} {tyc : Nat → ClassId} {b base : Nat} {ls : Array Slot}
    (hF : FOK MT F) (C : Ctx p s m args meth c F) (hK : va_K D vwCl (TYS tyc) s) (hW : Wd D tyc b base h H) (hS : va_S (fun q => base ≤ q) s.heap H locs) (hN : base + h.length = s.heap.size + cells)
    (hf : fnd (mcode F) pc = some (i, len, tgt)) (hst : stpW F i pc st h = some (pc', st', h'))
    (k : ∀ H' locs', Wd D tyc b base h' H' → va_S (fun q => base ≤ q) s.heap H' locs' → W p l e R s m args below meth c H' locs' cells slots Q (F0 m pc' ls (st'.map (gV b base)))) :
    W p l e R s m args below meth c H locs cells slots Q (F0 m pc ls (st.map (gV b base))) := by
  obtain ⟨hx, hb, hr, hml, hown, hlocks, hts, hin0⟩ := C
  obtain ⟨hD, hlen, hoff⟩ := hF.1 _ (fnd_mem hf)
  dsimp only at hD hlen hoff
  have hd : ∀ n, ilen i = n → n ≠ 0 → decode (mcc F) pc = .ok (i, n) := by
    intro n h1 h2
    rcases hlen with h3 | h3
    · omega
    · rw [← h1, h3]; exact hD
  cases i with
  | putfield z =>
    change sVR _ _ = some _ at hst
    obtain ⟨v, a, r, rfl, h1⟩ := sVR_inv hst
    obtain ⟨e0, he0, h4⟩ := oB_inv h1
    obtain ⟨cc, hc, h5⟩ := oB_inv h4
    obtain ⟨h3, h2⟩ := oC_inv h5
    simp only [Option.some.injEq, Prod.mk.injEq] at h2
    obtain ⟨rfl, rfl, rfl⟩ := h2
    simp only [Bool.and_eq_true, beq_iff_eq, decide_eq_true_eq] at h3
    obtain ⟨⟨⟨⟨hk1, hk2⟩, hcd⟩, hlt⟩, hfit⟩ := h3
    obtain ⟨⟨C0, T0, N0⟩, hr0, hk0, hw0, hnf, hfn⟩ := hF.2.1 _ (fnd_mem he0)
    dsimp only at hr0 hk0 hw0 hnf hfn
    obtain ⟨hty, hnm⟩ := CLS_ty hr0
    have he := gW_at (b := b) (base := base) (tyc := tyc) hc
    rw [gE_o hk1, hk2] at he
    obtain ⟨hn1, hn2⟩ := okFit_spec b base hfit
    have hlt2 : e0.2.1 < (cc.2.2.map (gV b base)).length := by rw [List.length_map]; exact hlt
    have fin : ∀ (H1 : Heap) (locs1 : List Loc), va_P D vwCl ((gW b base tyc h).set a (base + a, .inr (e0.1, (cc.2.2.map (gV b base)).set e0.2.1 (gV b base v)))) H1 → va_S (fun q => base ≤ q) H H1 locs1 → W p l e R s m args below meth c H1 locs1 cells slots Q (F0 m (pc + 3) ls (r.map (gV b base))) := by
      intro H1 locs1 hP1 hS1
      refine W_sz (fun hub => k H1 locs1 (Wd_set hW ?_ hS1.1 hN hub) (vS_comp hS hS1))
      rw [gE_o rfl]
      dsimp only
      rw [List.map_set, hk2]
      exact hP1
    unfold fldW at hw0
    by_cases hfi : (T0 e0.2.1).2.2.2 = true
    · have hcd2 : e0.2.2.1 = 2 := by
        rcases (show e0.2.2.1 = 0 ∨ e0.2.2.1 = 1 ∨ e0.2.2.1 = 2 by omega) with z | z | z
        · rw [hnf (Or.inl z)] at hfi; cases hfi
        · rw [hnf (Or.inr z)] at hfi; cases hfi
        · exact z
      obtain ⟨g1, g2, g3⟩ := hfn hcd2
      rw [if_neg (by omega)] at hw0
      exact va_putF hx hb hts (CLS_in hr0) (TYF e0.1) hty hnm hown hK hW.2 (gW_D b base tyc h) (vS_self hS) a he hr0 e0.2.1 hk0 (hts _ hw0) (fun _ h9 => h9) g1 (hin0 g3) g2 (hty _ hk0) hn1 hn2 hlt2 (hd 3 rfl (by decide)) (fun H1 locs1 hP1 _ hS1 => fin H1 locs1 hP1 hS1)
    · have hfi2 : (T0 e0.2.1).2.2.2 = false := by simpa using hfi
      split at hw0
      · exact va_putN hx hb hts (CLS_in hr0) (TYF e0.1) hty hnm hown hK hW.2 (gW_D b base tyc h) (vS_self hS) a he hr0 e0.2.1 hk0 (hts _ hw0) (fun _ h9 => h9) hfi2 (hty _ hk0) hn1 hn2 hlt2 (hd 3 rfl (by decide)) (fun H1 locs1 hP1 _ hS1 => fin H1 locs1 hP1 hS1)
      · exact va_put hx hb hts (CLS_in hr0) (TYF e0.1) hty hnm hown hK hW.2 (gW_D b base tyc h) (vS_self hS) a he hr0 e0.2.1 hk0 (hts _ hw0) (fun _ h9 => h9) hfi2 (hty _ hk0) hn1 hn2 hlt2 (hd 3 rfl (by decide)) (fun H1 locs1 hP1 _ hS1 => fin H1 locs1 hP1 hS1)
  | iastore =>
    change sVIR _ _ = some _ at hst
    obtain ⟨v, j, a, r, rfl, h1⟩ := sVIR_inv hst
    obtain ⟨cc, hc, h4⟩ := oB_inv h1
    obtain ⟨h3, h2⟩ := oC_inv h4
    simp only [Option.some.injEq, Prod.mk.injEq] at h2
    obtain ⟨rfl, rfl, rfl⟩ := h2
    simp only [Bool.and_eq_true, Bool.or_eq_true, beq_iff_eq, decide_eq_true_eq] at h3
    obtain ⟨⟨⟨⟨hv, hk1⟩, hk2⟩, hj⟩, hlt⟩ := h3
    obtain ⟨x, rfl⟩ := isI_inv hv
    have he := gW_at (b := b) (base := base) (tyc := tyc) hc
    rw [gE_i hk1] at he
    have hin : vp_in j cc.2.2.length := fun z => z.elim hj (fun z => by omega)
    rw [hk2] at he
    refine va_iast hx hb hK hW.2 (gW_D b base tyc h) (vS_self hS) a 0 he rfl hin (hd 1 rfl (by decide)) (fun H1 locs1 hP1 _ hS1 => W_sz (fun hub => k H1 locs1 (Wd_set hW ?_ hS1.1 hN hub) (vS_comp hS hS1)))
    rw [updI_list hlt] at hP1
    rw [gE_i rfl]
    dsimp only
    rw [hk2, List.length_set]
    exact hP1
  | bastore =>
    change sVIR _ _ = some _ at hst
    obtain ⟨v, j, a, r, rfl, h1⟩ := sVIR_inv hst
    obtain ⟨cc, hc, h4⟩ := oB_inv h1
    obtain ⟨h3, h2⟩ := oC_inv h4
    simp only [Option.some.injEq, Prod.mk.injEq] at h2
    obtain ⟨rfl, rfl, rfl⟩ := h2
    simp only [Bool.and_eq_true, Bool.or_eq_true, beq_iff_eq, decide_eq_true_eq] at h3
    obtain ⟨⟨⟨⟨hv, hk1⟩, hk2⟩, hj⟩, hlt⟩ := h3
    obtain ⟨x, rfl⟩ := isI_inv hv
    have he := gW_at (b := b) (base := base) (tyc := tyc) hc
    rw [gE_i hk1] at he
    have hin : vp_in j cc.2.2.length := fun z => z.elim hj (fun z => by omega)
    rcases hk2 with hk2 | hk2
    · rw [hk2] at he
      refine va_bast hx hb hK hW.2 (gW_D b base tyc h) (vS_self hS) a 2 he rfl hin (hd 1 rfl (by decide)) (fun H1 locs1 hP1 _ hS1 => W_sz (fun hub => k H1 locs1 (Wd_set hW ?_ hS1.1 hN hub) (vS_comp hS hS1)))
      rw [updI_list hlt] at hP1
      rw [gE_i rfl]
      dsimp only
      rw [hk2, List.length_set]
      first | rw [if_pos rfl] | rw [if_neg (by decide)]
      exact hP1
    · rw [hk2] at he
      refine va_zast hx hb hK hW.2 (gW_D b base tyc h) (vS_self hS) a 3 he rfl hin (hd 1 rfl (by decide)) (fun H1 locs1 hP1 _ hS1 => W_sz (fun hub => k H1 locs1 (Wd_set hW ?_ hS1.1 hN hub) (vS_comp hS hS1)))
      rw [updI_list hlt] at hP1
      rw [gE_i rfl]
      dsimp only
      rw [hk2, List.length_set]
      first | rw [if_pos rfl] | rw [if_neg (by decide)]
      exact hP1
  | lastore =>
    change sVIR _ _ = some _ at hst
    obtain ⟨v, j, a, r, rfl, h1⟩ := sVIR_inv hst
    obtain ⟨cc, hc, h4⟩ := oB_inv h1
    obtain ⟨h3, h2⟩ := oC_inv h4
    simp only [Option.some.injEq, Prod.mk.injEq] at h2
    obtain ⟨rfl, rfl, rfl⟩ := h2
    simp only [Bool.and_eq_true, Bool.or_eq_true, beq_iff_eq, decide_eq_true_eq] at h3
    obtain ⟨⟨⟨⟨hv, hk1⟩, hk2⟩, hj⟩, hlt⟩ := h3
    obtain ⟨x, rfl⟩ := isL_inv hv
    have he := gW_at (b := b) (base := base) (tyc := tyc) hc
    rw [gE_l hk1] at he
    have hin : vp_in j cc.2.2.length := fun z => z.elim hj (fun z => by omega)
    rw [hk2] at he
    refine va_last hx hb hK hW.2 (gW_D b base tyc h) (vS_self hS) a 1 he rfl hin (hd 1 rfl (by decide)) (fun H1 locs1 hP1 _ hS1 => W_sz (fun hub => k H1 locs1 (Wd_set hW ?_ hS1.1 hN hub) (vS_comp hS hS1)))
    rw [updL_list hlt] at hP1
    rw [gE_l rfl]
    dsimp only
    rw [hk2, List.length_set]
    exact hP1
  | aastore =>
    change sVIR _ _ = some _ at hst
    obtain ⟨v, j, a, r, rfl, h1⟩ := sVIR_inv hst
    split at h1
    · rename_i x
      obtain ⟨dd, hdd, h1⟩ := oB_inv h1
      obtain ⟨cc, hc, h4⟩ := oB_inv h1
      obtain ⟨h3, h2⟩ := oC_inv h4
      simp only [Option.some.injEq, Prod.mk.injEq] at h2
      obtain ⟨rfl, rfl, rfl⟩ := h2
      simp only [Bool.and_eq_true, Bool.or_eq_true, beq_iff_eq, decide_eq_true_eq] at h3
      obtain ⟨⟨⟨⟨⟨hd1, hk1⟩, hk2⟩, hk7⟩, hj⟩, hlt⟩ := h3
      have he := gW_at (b := b) (base := base) (tyc := tyc) hc
      rw [gE_r hk1] at he
      have hv := gW_at (b := b) (base := base) (tyc := tyc) hdd
      rw [gE_o hd1] at hv
      have hin : vp_in j cc.2.2.length := fun z => z.elim hj (fun z => by omega)
      have fin : ∀ (H1 : Heap) (locs1 : List Loc), va_P D vwCl ((gW b base tyc h).set a (base + a, .inl (tyc cc.2.1, cc.2.2.length, .inr (.inr (.inr (.inr (va_up (fun k => asR base (cc.2.2.getD k .null)) j.toNatClampNeg (some (base + x))))))))) H1 → va_S (fun q => base ≤ q) H H1 locs1 → W p l e R s m args below meth c H1 locs1 cells slots Q (F0 m (pc + 1) ls (r.map (gV b base))) := by
        intro H1 locs1 hP1 hS1
        refine W_sz (fun hub => k H1 locs1 (Wd_set hW ?_ hS1.1 hN hub) (vS_comp hS hS1))
        rw [updR_list hlt] at hP1
        rw [gE_r rfl]
        simpa only [List.length_set] using hP1
      have hty3 : (dd.2.1 = 0 ∧ cc.2.1 = 4) ∨ (dd.2.1 = 4 ∧ cc.2.1 = 5) ∨ (dd.2.1 = 7 ∧ cc.2.1 = 6) := by
        unfold ciTy at hk2
        split at hk2
        · exact Or.inl ⟨by assumption, hk2⟩
        · split at hk2
          · exact Or.inr (Or.inl ⟨by assumption, hk2⟩)
          · split at hk2
            · exact Or.inr (Or.inr ⟨by assumption, hk2⟩)
            · omega
      rcases hty3 with ⟨z1, z2⟩ | ⟨z1, z2⟩ | ⟨z1, z2⟩
      · rw [z2] at he fin
        rw [z1] at hv
        exact va_astq hx hb hK hW.2 (gW_D b base tyc h) (vS_self hS) a 4 x 0 he rfl hv rfl hin (hd 1 rfl (by decide)) (fun H1 locs1 hP1 _ hS1 => fin H1 locs1 hP1 hS1)
      · rw [z2] at he fin
        rw [z1] at hv
        exact va_astq hx hb hK hW.2 (gW_D b base tyc h) (vS_self hS) a 5 x 4 he rfl hv rfl hin (hd 1 rfl (by decide)) (fun H1 locs1 hP1 _ hS1 => fin H1 locs1 hP1 hS1)
      · rw [z2] at he fin
        rw [z1] at hv
        exact va_astq hx hb hK hW.2 (gW_D b base tyc h) (vS_self hS) a 6 x 7 he rfl hv rfl hin (hd 1 rfl (by decide)) (fun H1 locs1 hP1 _ hS1 => fin H1 locs1 hP1 hS1)
    · cases h1
  | _ => exact absurd hst (by intro z; cases z)
/-! cells that come -/
def aty (t : ArrayType) : Option (Nat × Nat × Value) := match t with
  | .int => some (1, 0, .int 0)
  | .long => some (2, 1, .long 0)
  | .byte => some (1, 2, .int 0)
  | .boolean => some (1, 3, .int 0)
  | _ => none
/-- the classes, the rows' types, and that rows of objects may be made -/
def KX (D : va_G) (tyc : Nat → ClassId) (s : State) : Prop := va_K D vwCl (TYS tyc) s ∧ va_AO RX0 s ∧ va_AO RX4 s ∧ va_AO RX7 s
theorem KX_moved {D : va_G} {tyc : Nat → ClassId} {u U : State} (hvm : u.vm.Alike U.vm) (h : KX D tyc u) : KX D tyc U := ⟨va_K.moved hvm h.1, va_AO.moved hvm h.2.1, va_AO.moved hvm h.2.2.1, va_AO.moved hvm h.2.2.2⟩
def stpN (F : MR) (i : Instr) (pc : Nat) (st : List Value) (h : AH) : Option (Nat × List Value × AH) :=
  match i with
  | .new k => oB (fnd (mkc F) k) (fun e => some (pc + 3, .ref h.length :: st, h ++ [(0, e.1, DFL e.1)]))
  | .newarray t => oB (aty t) (fun q => sI st (fun n r => oC (decide (¬ n < 0) && decide (n.toNatClampNeg ≤ 100000)) (some (pc + 2, .ref h.length :: r, h ++ [(q.1, q.2.1, List.replicate n.toNatClampNeg q.2.2)]))))
  | .anewarray k => oB (fnd (mkc F) k) (fun e => sI st (fun n r => oC (decide (¬ n < 0) && decide (n.toNatClampNeg ≤ 100000) && decide (ciTy e.1 < 7)) (some (pc + 3, .ref h.length :: r, h ++ [(3, ciTy e.1, List.replicate n.toNatClampNeg .null)]))))
  | _ => none
theorem slo_push (h : AH) (c : AC) : slo (h ++ [c]) = slo h + c.2.2.length := by unfold slo; simp
theorem rep_I (n : Nat) : (fun j => asI ((List.replicate n (Value.int 0)).getD j .null)) = fun _ => (0 : Int32) := by
  funext j
  rw [List.getD_eq_getElem?_getD, List.getElem?_replicate]
  by_cases h : j < n <;> simp [h, asI]
theorem rep_L (n : Nat) : (fun j => asL ((List.replicate n (Value.long 0)).getD j .null)) = fun _ => (0 : Int64) := by
  funext j
  rw [List.getD_eq_getElem?_getD, List.getElem?_replicate]
  by_cases h : j < n <;> simp [h, asL]
theorem rep_R (base n : Nat) : (fun j => asR base ((List.replicate n Value.null).getD j .null)) = fun _ => (none : Option Nat) := by
  funext j
  rw [List.getD_eq_getElem?_getD, List.getElem?_replicate]
  by_cases h : j < n <;> simp [h, asR]
theorem TY_same {D : va_G} {tyc : Nat → ClassId} {s : State} {cA : ClassId} {ty : FieldType} {i : Nat} (hK : va_K D vwCl (TYS tyc ++ [(cA, ty)]) s) (hi : (TYS tyc)[i]? = some (tyc i, ty)) : cA = tyc i := by
  have hl : i < (TYS tyc).length := (List.getElem?_eq_some_iff.mp hi).1
  have h1 := (hK.2 i (tyc i, ty) (by rw [List.getElem?_append_left hl]; exact hi)).2
  have h2 := (hK.2 (TYS tyc).length (cA, ty) (by rw [List.getElem?_append_right (Nat.le_refl _)]; simp)).2
  unfold va_RA at h1 h2
  cases ty with
  | object C =>
    obtain ⟨_, _, _, _, _, e1⟩ := h1
    obtain ⟨_, _, _, _, _, e2⟩ := h2
    exact Option.some.inj (e2.symm.trans e1)
  | _ => exact Option.some.inj (h2.symm.trans h1)
set_option maxHeartbeats 4000000 in
set_option maxRecDepth 100000 in
theorem stpN_ok {MT : Nat → Option MR} {p : Program} {l : Launch} {e : Env} {R : Room} {s : State} {m : MethodId} {args : Array Value} {below : List Frame} {meth : Method} {c : Code} {H : Heap} {locs : List Loc} {cells slots S0 : Nat} {Q : State → Prop} {F : MR} {i : Instr} {len tgt pc pc' : Nat} {st st' : List Value} {h h' : AH} {D : va_G} {tyc : Nat → ClassId} {b base : Nat} {ls : Array Slot}
    (hF : FOK MT F) (C : Ctx p s m args meth c F) (hKX : KX D tyc s) (hW : Wd D tyc b base h H) (hS : va_S (fun q => base ≤ q) s.heap H locs) (hbs : base ≤ s.heap.size) (hN : base + h.length = s.heap.size + cells) (hM : slo h = S0 + slots) (hRc : base + h'.length ≤ s.heap.size + R.cells) (hRs : slo h' ≤ S0 + R.slots)
    (hf : fnd (mcode F) pc = some (i, len, tgt)) (hst : stpN F i pc st h = some (pc', st', h'))
    (k : ∀ H' locs' cells' slots', Wd D tyc b base h' H' → va_S (fun q => base ≤ q) s.heap H' locs' → base + h'.length = s.heap.size + cells' → slo h' = S0 + slots' → W p l e R s m args below meth c H' locs' cells' slots' Q (F0 m pc' ls (st'.map (gV b base)))) :
    W p l e R s m args below meth c H locs cells slots Q (F0 m pc ls (st.map (gV b base))) := by
  obtain ⟨hx, hb, hr, hml, hown, hlocks, hts, hin0⟩ := C
  obtain ⟨hD, hlen, hoff⟩ := hF.1 _ (fnd_mem hf)
  dsimp only at hD hlen hoff
  have hd : ∀ n, ilen i = n → n ≠ 0 → decode (mcc F) pc = .ok (i, n) := by
    intro n h1 h2
    rcases hlen with h3 | h3
    · omega
    · rw [← h1, h3]; exact hD
  have hK := hKX.1
  have hsz := hW.1
  have hA : ∀ q, H.size ≤ q → (fun q => base ≤ q) q := fun q hq => by dsimp only; omega
  cases i with
  | new z =>
    change oB _ _ = some _ at hst
    obtain ⟨e0, he0, h2⟩ := oB_inv hst
    simp only [Option.some.injEq, Prod.mk.injEq] at h2
    obtain ⟨rfl, rfl, rfl⟩ := h2
    obtain ⟨⟨C0, T0, N0⟩, hr0, hw0⟩ := hF.2.2.2.2.2 _ (fnd_mem he0)
    dsimp only at hr0 hw0
    obtain ⟨hty, hnm⟩ := CLS_ty hr0
    obtain ⟨hi1, hi2, hdl, hdv⟩ := CLS_new hr0
    rw [slo_push] at hRs k
    rw [List.length_append] at hRc k
    dsimp only [List.length_cons, List.length_nil] at hRc hRs k
    refine va_new hx hb hts (CLS_in hr0) (TYF e0.1) hty hown (hts _ hw0) (hts _ hi1) (hts _ hi2) hK hW.2 (gW_D b base tyc h) (vS_self hS) hA hr0 (fs := (DFL e0.1).map (gV b base)) (hdv b base) (by omega) (by omega) (hd 3 rfl (by decide)) (fun q H1 hP1 hD1 hS1 => W_sz (fun hub => ?_))
    have e9 : (Sum.inr (e0.1, (DFL e0.1).map (gV b base)) : va_E) = gE b base tyc (0, e0.1, DFL e0.1) := (gE_o (c := (0, e0.1, DFL e0.1)) rfl).symm
    rw [e9] at hP1 hD1
    obtain ⟨hW1, rfl⟩ := Wd_push hW hP1 hD1 hN hub
    exact k H1 locs (cells + 1) (slots + N0) hW1 (vS_comp hS hS1) (by omega) (by omega)
  | newarray t =>
    change oB _ _ = some _ at hst
    obtain ⟨q0, hq0, h1⟩ := oB_inv hst
    obtain ⟨n, r, rfl, h4⟩ := sI_inv h1
    obtain ⟨h3, h2⟩ := oC_inv h4
    simp only [Option.some.injEq, Prod.mk.injEq] at h2
    obtain ⟨rfl, rfl, rfl⟩ := h2
    simp only [Bool.and_eq_true, decide_eq_true_eq] at h3
    obtain ⟨hn, hn5⟩ := h3
    rw [slo_push] at hRs k
    rw [List.length_append] at hRc k
    dsimp only [List.length_cons, List.length_nil] at hRc hRs k
    rw [List.length_replicate] at hRs k
    cases t with

    | int =>
      cases (show some (1, 0, Value.int 0) = some q0 from hq0)
      have hbytes : n.toNatClampNeg * componentBytes .int ≤ 536870912 := Nat.le_trans (Nat.mul_le_mul hn5 (show componentBytes .int ≤ 8 by decide)) (by decide)
      refine va_newa (atype := .int) (ty := .int) (a0 := (n.toNatClampNeg, .inl (fun _ => 0))) hx hb (hts _ ARR_int) rfl hK hW.2 (gW_D b base tyc h) (vS_self hS) hA (fun cA => rfl) hn rfl hbytes (by omega) (by omega) (hd 2 rfl (by decide)) (fun q cA H1 hK1 hP1 hD1 hS1 => W_sz (fun hub => ?_))
      have e8 := TY_same (i := 0) hK1 rfl
      subst e8
      have e9 : (Sum.inl (tyc 0, n.toNatClampNeg, .inl (fun _ => 0)) : va_E) = gE b base tyc (1, 0, List.replicate n.toNatClampNeg (.int 0)) := by
        rw [gE_i rfl]
        dsimp only
        rw [List.length_replicate, rep_I]
      rw [e9] at hP1 hD1
      obtain ⟨hW1, rfl⟩ := Wd_push hW hP1 hD1 hN hub
      exact k H1 locs (cells + 1) (slots + n.toNatClampNeg) hW1 (vS_comp hS hS1) (by omega) (by omega)
    | long =>
      cases (show some (2, 1, Value.long 0) = some q0 from hq0)
      have hbytes : n.toNatClampNeg * componentBytes .long ≤ 536870912 := Nat.le_trans (Nat.mul_le_mul hn5 (show componentBytes .long ≤ 8 by decide)) (by decide)
      refine va_newa (atype := .long) (ty := .long) (a0 := (n.toNatClampNeg, .inr (.inl (fun _ => 0)))) hx hb (hts _ ARR_long) rfl hK hW.2 (gW_D b base tyc h) (vS_self hS) hA (fun cA => rfl) hn rfl hbytes (by omega) (by omega) (hd 2 rfl (by decide)) (fun q cA H1 hK1 hP1 hD1 hS1 => W_sz (fun hub => ?_))
      have e8 := TY_same (i := 1) hK1 rfl
      subst e8
      have e9 : (Sum.inl (tyc 1, n.toNatClampNeg, .inr (.inl (fun _ => 0))) : va_E) = gE b base tyc (2, 1, List.replicate n.toNatClampNeg (.long 0)) := by
        rw [gE_l rfl]
        dsimp only
        rw [List.length_replicate, rep_L]
      rw [e9] at hP1 hD1
      obtain ⟨hW1, rfl⟩ := Wd_push hW hP1 hD1 hN hub
      exact k H1 locs (cells + 1) (slots + n.toNatClampNeg) hW1 (vS_comp hS hS1) (by omega) (by omega)
    | byte =>
      cases (show some (1, 2, Value.int 0) = some q0 from hq0)
      have hbytes : n.toNatClampNeg * componentBytes .byte ≤ 536870912 := Nat.le_trans (Nat.mul_le_mul hn5 (show componentBytes .byte ≤ 8 by decide)) (by decide)
      refine va_newa (atype := .byte) (ty := .byte) (a0 := (n.toNatClampNeg, .inl (fun _ => 0))) hx hb (hts _ ARR_byte) rfl hK hW.2 (gW_D b base tyc h) (vS_self hS) hA (fun cA => rfl) hn rfl hbytes (by omega) (by omega) (hd 2 rfl (by decide)) (fun q cA H1 hK1 hP1 hD1 hS1 => W_sz (fun hub => ?_))
      have e8 := TY_same (i := 2) hK1 rfl
      subst e8
      have e9 : (Sum.inl (tyc 2, n.toNatClampNeg, .inl (fun _ => 0)) : va_E) = gE b base tyc (1, 2, List.replicate n.toNatClampNeg (.int 0)) := by
        rw [gE_i rfl]
        dsimp only
        rw [List.length_replicate, rep_I]
      rw [e9] at hP1 hD1
      obtain ⟨hW1, rfl⟩ := Wd_push hW hP1 hD1 hN hub
      exact k H1 locs (cells + 1) (slots + n.toNatClampNeg) hW1 (vS_comp hS hS1) (by omega) (by omega)
    | boolean =>
      cases (show some (1, 3, Value.int 0) = some q0 from hq0)
      have hbytes : n.toNatClampNeg * componentBytes .boolean ≤ 536870912 := Nat.le_trans (Nat.mul_le_mul hn5 (show componentBytes .boolean ≤ 8 by decide)) (by decide)
      refine va_newa (atype := .boolean) (ty := .boolean) (a0 := (n.toNatClampNeg, .inl (fun _ => 0))) hx hb (hts _ ARR_boolean) rfl hK hW.2 (gW_D b base tyc h) (vS_self hS) hA (fun cA => rfl) hn rfl hbytes (by omega) (by omega) (hd 2 rfl (by decide)) (fun q cA H1 hK1 hP1 hD1 hS1 => W_sz (fun hub => ?_))
      have e8 := TY_same (i := 3) hK1 rfl
      subst e8
      have e9 : (Sum.inl (tyc 3, n.toNatClampNeg, .inl (fun _ => 0)) : va_E) = gE b base tyc (1, 3, List.replicate n.toNatClampNeg (.int 0)) := by
        rw [gE_i rfl]
        dsimp only
        rw [List.length_replicate, rep_I]
      rw [e9] at hP1 hD1
      obtain ⟨hW1, rfl⟩ := Wd_push hW hP1 hD1 hN hub
      exact k H1 locs (cells + 1) (slots + n.toNatClampNeg) hW1 (vS_comp hS hS1) (by omega) (by omega)
    | _ => exact absurd hq0 (by intro z; cases z)
  | anewarray z =>
    change oB _ _ = some _ at hst
    obtain ⟨e0, he0, h1⟩ := oB_inv hst
    obtain ⟨n, r, rfl, h4⟩ := sI_inv h1
    obtain ⟨h3, h2⟩ := oC_inv h4
    simp only [Option.some.injEq, Prod.mk.injEq] at h2
    obtain ⟨rfl, rfl, rfl⟩ := h2
    simp only [Bool.and_eq_true, decide_eq_true_eq] at h3
    obtain ⟨⟨hn, hn5⟩, hci⟩ := h3
    rw [slo_push] at hRs k
    rw [List.length_append] at hRc k
    dsimp only [List.length_cons, List.length_nil] at hRc hRs k
    rw [List.length_replicate] at hRs k
    obtain ⟨⟨C0, T0, N0⟩, hr0, hw0⟩ := hF.2.2.2.2.2 _ (fnd_mem he0)
    dsimp only at hr0 hw0
    have hty3 : (e0.1 = 0 ∧ ciTy e0.1 = 4) ∨ (e0.1 = 4 ∧ ciTy e0.1 = 5) ∨ (e0.1 = 7 ∧ ciTy e0.1 = 6) := by
      unfold ciTy at hci ⊢
      split
      · exact Or.inl ⟨by assumption, rfl⟩
      · split
        · exact Or.inr (Or.inl ⟨by assumption, rfl⟩)
        · split
          · exact Or.inr (Or.inr ⟨by assumption, rfl⟩)
          · rename_i g1 g2 g3
            rw [if_neg g1, if_neg g2, if_neg g3] at hci
            omega
    rcases hty3 with ⟨z1, z2⟩ | ⟨z1, z2⟩ | ⟨z1, z2⟩
    · rw [z1] at hr0
      cases (show some (RX0, TX0, 4) = some (C0, T0, N0) from hr0)
      refine va_newq hx hb hown (hts _ hw0) hKX.2.1 hK hW.2 (gW_D b base tyc h) (vS_self hS) hA (N' := n.toNatClampNeg) hn rfl (by omega) (by omega) (by omega) (hd 3 rfl (by decide)) (fun q cA H1 hK1 hP1 hD1 hS1 => W_sz (fun hub => ?_))
      have e8 := TY_same (i := 4) hK1 rfl
      subst e8
      have e9 : (Sum.inl (tyc 4, n.toNatClampNeg, .inr (.inr (.inr (.inr (fun _ => none))))) : va_E) = gE b base tyc (3, ciTy e0.1, List.replicate n.toNatClampNeg .null) := by
        rw [gE_r rfl, z2]
        dsimp only
        rw [List.length_replicate, rep_R]
      rw [e9] at hP1 hD1
      obtain ⟨hW1, rfl⟩ := Wd_push hW hP1 hD1 hN hub
      exact k H1 locs (cells + 1) (slots + n.toNatClampNeg) hW1 (vS_comp hS hS1) (by omega) (by omega)
    · rw [z1] at hr0
      cases (show some (RX4, TX4, 16) = some (C0, T0, N0) from hr0)
      refine va_newq hx hb hown (hts _ hw0) hKX.2.2.1 hK hW.2 (gW_D b base tyc h) (vS_self hS) hA (N' := n.toNatClampNeg) hn rfl (by omega) (by omega) (by omega) (hd 3 rfl (by decide)) (fun q cA H1 hK1 hP1 hD1 hS1 => W_sz (fun hub => ?_))
      have e8 := TY_same (i := 5) hK1 rfl
      subst e8
      have e9 : (Sum.inl (tyc 5, n.toNatClampNeg, .inr (.inr (.inr (.inr (fun _ => none))))) : va_E) = gE b base tyc (3, ciTy e0.1, List.replicate n.toNatClampNeg .null) := by
        rw [gE_r rfl, z2]
        dsimp only
        rw [List.length_replicate, rep_R]
      rw [e9] at hP1 hD1
      obtain ⟨hW1, rfl⟩ := Wd_push hW hP1 hD1 hN hub
      exact k H1 locs (cells + 1) (slots + n.toNatClampNeg) hW1 (vS_comp hS hS1) (by omega) (by omega)
    · rw [z1] at hr0
      cases (show some (RX7, TX7, 4) = some (C0, T0, N0) from hr0)
      refine va_newq hx hb hown (hts _ hw0) hKX.2.2.2 hK hW.2 (gW_D b base tyc h) (vS_self hS) hA (N' := n.toNatClampNeg) hn rfl (by omega) (by omega) (by omega) (hd 3 rfl (by decide)) (fun q cA H1 hK1 hP1 hD1 hS1 => W_sz (fun hub => ?_))
      have e8 := TY_same (i := 6) hK1 rfl
      subst e8
      have e9 : (Sum.inl (tyc 6, n.toNatClampNeg, .inr (.inr (.inr (.inr (fun _ => none))))) : va_E) = gE b base tyc (3, ciTy e0.1, List.replicate n.toNatClampNeg .null) := by
        rw [gE_r rfl, z2]
        dsimp only
        rw [List.length_replicate, rep_R]
      rw [e9] at hP1 hD1
      obtain ⟨hW1, rfl⟩ := Wd_push hW hP1 hD1 hN hub
      exact k H1 locs (cells + 1) (slots + n.toNatClampNeg) hW1 (vS_comp hS hS1) (by omega) (by omega)
  | _ => exact absurd hst (by intro z; cases z)
end
section
/-! THE MACHINE -/
def callKd (i : Instr) (kd : Nat) : Bool := match i with
  | .invokevirtual _ => kd == 0 || kd == 1
  | .invokestatic _ => kd == 2 || kd == 3 || kd == 8
  | .invokespecial _ => kd == 4 || kd == 5 || kd == 9
  | _ => false
def callIx (i : Instr) : Nat := match i with
  | .invokevirtual k => k
  | .invokestatic k => k
  | .invokespecial k => k
  | _ => 0
def cpyl (l0 l1 : List Value) (sp dp n : Nat) : List Value := (List.range l1.length).map (fun k => if dp ≤ k ∧ k < dp + n then l0.getD (sp + (k - dp)) .null else l1.getD k .null)
def acopy (st : List Value) (h : AH) : Option (List Value × AH) := match st with
  | .int n :: .int dp :: .ref a1 :: .int sp :: .ref a0 :: r => oB h[a0]? (fun c0 => oB h[a1]? (fun c1 => oC (decide (¬ sp < 0) && decide (¬ dp < 0) && decide (¬ n < 0) && c0.1 == c1.1 && c0.2.1 == c1.2.1 && (c0.1 == 1 && c0.2.1 == 0 || c0.1 == 2 && c0.2.1 == 1) && decide (sp.toNatClampNeg + n.toNatClampNeg ≤ c0.2.2.length) && decide (dp.toNatClampNeg + n.toNatClampNeg ≤ c1.2.2.length)) (some (r, h.set a1 (c1.1, c1.2.1, cpyl c0.2.2 c1.2.2 sp.toNatClampNeg dp.toNatClampNeg n.toNatClampNeg)))))
  | _ => none
def doRet (F : MR) (i : Instr) (st : List Value) (h : AH) : Option (Option Value × AH) := match i with
  | .ireturn => match mret F, st with
    | some .int, [.int x] => some (some (.int x), h)
    | some .boolean, [.int x] => oC (x &&& 1 == x) (some (some (.int x), h))
    | _, _ => none
  | .lreturn => match mret F, st with
    | some .long, [.long x] => some (some (.long x), h)
    | _, _ => none
  | .areturn => match mret F, st with
    | some (.object _), [.ref a] => some (some (.ref a), h)
    | _, _ => none
  | .return_ => match mret F, st with
    | none, [] => some (none, h)
    | _, _ => none
  | _ => none
/-- the receiver of a call is of the callee's class (virtual), or any object (init), or there is none (static) -/
def rcv (kd ci : Nat) (vs : List Value) (h : AH) : Bool := match kd with
  | 2 => true
  | 3 => true
  | 4 => match vs with
    | .ref _ :: _ => true
    | _ => false
  | 5 => match vs with
    | .ref _ :: _ => true
    | _ => false
  | _ => match vs with
    | .ref a :: _ => match h[a]? with
      | some c => c.1 == 0 && c.2.1 == ci
      | none => false
    | _ => false
abbrev AM : Type := Nat → Nat → AS → MR → Nat → ALv → List Value → AH → Option (Option Value × AH)
def nArg (kd : Nat) (G : MR) : Nat := if kd = 2 ∨ kd = 3 then mnp G else mnp G + 1
def amC (MT : Nat → Option MR) (rec : AM) (fr lo : Nat) (scr : AS) (F : MR) (i : Instr) (pc : Nat) (lv : ALv) (st : List Value) (h : AH) (kd id : Nat) : Option (Option Value × AH) := match kd with
  | 8 => oB (acopy st h) (fun q => oC (decide (1 ≤ fr) && decide (cats q.1 + 40 ≤ lo)) (rec fr lo scr F (pc + 3) lv q.1 q.2))
  | 9 => sR st (fun _ r => oC (decide (1 ≤ fr) && decide (cats r + 12 ≤ lo)) (rec fr lo scr F (pc + 3) lv r h))
  | kd => oB (MT id) (fun G => oC (decide (nArg kd G ≤ st.length) && decide (1 ≤ fr) && decide (mml G + 19 ≤ lo) && decide (cats (st.drop (nArg kd G)) ≤ 8) && decide (cats (st.take (nArg kd G)) ≤ mml G) && rcv kd (mci G) (st.take (nArg kd G)).reverse h)
      (oB (rec (fr - 1) (lo - (mml G + 19)) none G 0 (lv_args 0 (st.take (nArg kd G)).reverse) [] h) (fun q => rec fr lo scr F (pc + 3) lv (q.1.toList ++ st.drop (nArg kd G)) q.2)))
def amB (MT : Nat → Option MR) (rec : AM) : AM := fun fr lo scr F pc lv st h =>
  oB (fnd (mcode F) pc) (fun q => match ikind q.1 with
    | 0 => oB (stpP F scr q.1 q.2.2 pc lv st h) (fun x => rec fr lo scr F x.1 x.2.1 x.2.2 h)
    | 1 => oB (stpW F q.1 pc st h) (fun x => rec fr lo scr F x.1 lv x.2.1 x.2.2)
    | 2 => oB (stpN F q.1 pc st h) (fun x => rec fr lo scr F x.1 lv x.2.1 x.2.2)
    | 3 => oB (fnd (mcl F) (callIx q.1)) (fun e => oC (callKd q.1 e.1) (amC MT rec fr lo scr F q.1 pc lv st h e.1 e.2.1))
    | _ => doRet F q.1 st h)
noncomputable def am (MT : Nat → Option MR) (n : Nat) : AM := Nat.rec (motive := fun _ => AM) (fun _ _ _ _ _ _ _ _ => none) (fun _ ih => amB MT ih) n
theorem am_s (MT : Nat → Option MR) (n : Nat) : am MT (n + 1) = amB MT (am MT n) := rfl
/-! cells only come -/
theorem slo_set {h : AH} {a : Nat} {c d : AC} (hc : h[a]? = some c) (hd : d.2.2.length = c.2.2.length) : slo (h.set a d) = slo h := by
  unfold slo
  congr 1
  apply List.ext_getElem?
  intro i
  simp only [List.getElem?_map, List.getElem?_set]
  by_cases hi : a = i
  · subst hi
    obtain ⟨hlt, he⟩ := List.getElem?_eq_some_iff.mp hc
    simp [hlt, hd, he]
  · simp [hi]
theorem stpW_len {F : MR} {i : Instr} {pc pc' : Nat} {st st' : List Value} {h h' : AH} (hst : stpW F i pc st h = some (pc', st', h')) : h'.length = h.length ∧ slo h' = slo h := by
  cases i with
  | putfield z =>
    change sVR _ _ = some _ at hst
    obtain ⟨v, a, r, rfl, h1⟩ := sVR_inv hst
    obtain ⟨e0, he0, h4⟩ := oB_inv h1
    obtain ⟨cc, hc, h5⟩ := oB_inv h4
    obtain ⟨h3, h2⟩ := oC_inv h5
    simp only [Option.some.injEq, Prod.mk.injEq] at h2
    obtain ⟨rfl, rfl, rfl⟩ := h2
    exact ⟨List.length_set, slo_set hc (by simp)⟩
  | iastore =>
    change sVIR _ _ = some _ at hst
    obtain ⟨v, j, a, r, rfl, h1⟩ := sVIR_inv hst
    obtain ⟨cc, hc, h4⟩ := oB_inv h1
    obtain ⟨h3, h2⟩ := oC_inv h4
    simp only [Option.some.injEq, Prod.mk.injEq] at h2
    obtain ⟨rfl, rfl, rfl⟩ := h2
    exact ⟨List.length_set, slo_set hc (by simp)⟩
  | bastore =>
    change sVIR _ _ = some _ at hst
    obtain ⟨v, j, a, r, rfl, h1⟩ := sVIR_inv hst
    obtain ⟨cc, hc, h4⟩ := oB_inv h1
    obtain ⟨h3, h2⟩ := oC_inv h4
    simp only [Option.some.injEq, Prod.mk.injEq] at h2
    obtain ⟨rfl, rfl, rfl⟩ := h2
    exact ⟨List.length_set, slo_set hc (by simp)⟩
  | lastore =>
    change sVIR _ _ = some _ at hst
    obtain ⟨v, j, a, r, rfl, h1⟩ := sVIR_inv hst
    obtain ⟨cc, hc, h4⟩ := oB_inv h1
    obtain ⟨h3, h2⟩ := oC_inv h4
    simp only [Option.some.injEq, Prod.mk.injEq] at h2
    obtain ⟨rfl, rfl, rfl⟩ := h2
    exact ⟨List.length_set, slo_set hc (by simp)⟩
  | aastore =>
    change sVIR _ _ = some _ at hst
    obtain ⟨v, j, a, r, rfl, h1⟩ := sVIR_inv hst
    split at h1
    · obtain ⟨dd, hdd, h1⟩ := oB_inv h1
      obtain ⟨cc, hc, h4⟩ := oB_inv h1
      obtain ⟨h3, h2⟩ := oC_inv h4
      simp only [Option.some.injEq, Prod.mk.injEq] at h2
      obtain ⟨rfl, rfl, rfl⟩ := h2
      exact ⟨List.length_set, slo_set hc (by simp)⟩
    · cases h1
  | _ => exact absurd hst (by intro z; cases z)
theorem stpN_len {F : MR} {i : Instr} {pc pc' : Nat} {st st' : List Value} {h h' : AH} (hst : stpN F i pc st h = some (pc', st', h')) : h.length ≤ h'.length ∧ slo h ≤ slo h' := by
  cases i with
  | new z =>
    change oB _ _ = some _ at hst
    obtain ⟨e0, he0, h2⟩ := oB_inv hst
    simp only [Option.some.injEq, Prod.mk.injEq] at h2
    obtain ⟨rfl, rfl, rfl⟩ := h2
    exact ⟨by simp, by rw [slo_push]; omega⟩
  | newarray t =>
    change oB _ _ = some _ at hst
    obtain ⟨q0, hq0, h1⟩ := oB_inv hst
    obtain ⟨n, r, rfl, h4⟩ := sI_inv h1
    obtain ⟨h3, h2⟩ := oC_inv h4
    simp only [Option.some.injEq, Prod.mk.injEq] at h2
    obtain ⟨rfl, rfl, rfl⟩ := h2
    exact ⟨by simp, by rw [slo_push]; omega⟩
  | anewarray z =>
    change oB _ _ = some _ at hst
    obtain ⟨e0, he0, h1⟩ := oB_inv hst
    obtain ⟨n, r, rfl, h4⟩ := sI_inv h1
    obtain ⟨h3, h2⟩ := oC_inv h4
    simp only [Option.some.injEq, Prod.mk.injEq] at h2
    obtain ⟨rfl, rfl, rfl⟩ := h2
    exact ⟨by simp, by rw [slo_push]; omega⟩
  | _ => exact absurd hst (by intro z; cases z)
theorem acopy_inv {st r : List Value} {h h' : AH} (hst : acopy st h = some (r, h')) : ∃ (n dp sp : Int32) (a0 a1 : Nat) (c0 c1 : AC), st = .int n :: .int dp :: .ref a1 :: .int sp :: .ref a0 :: r ∧ h[a0]? = some c0 ∧ h[a1]? = some c1 ∧ ¬ sp < 0 ∧ ¬ dp < 0 ∧ ¬ n < 0 ∧ c0.1 = c1.1 ∧ c0.2.1 = c1.2.1 ∧ (c0.1 = 1 ∧ c0.2.1 = 0 ∨ c0.1 = 2 ∧ c0.2.1 = 1) ∧ sp.toNatClampNeg + n.toNatClampNeg ≤ c0.2.2.length ∧ dp.toNatClampNeg + n.toNatClampNeg ≤ c1.2.2.length ∧ h' = h.set a1 (c1.1, c1.2.1, cpyl c0.2.2 c1.2.2 sp.toNatClampNeg dp.toNatClampNeg n.toNatClampNeg) := by
  unfold acopy at hst
  split at hst
  · rename_i n dp a1 sp a0 r
    obtain ⟨c0, hc0, h1⟩ := oB_inv hst
    obtain ⟨c1, hc1, h2⟩ := oB_inv h1
    obtain ⟨h3, h4⟩ := oC_inv h2
    simp only [Option.some.injEq, Prod.mk.injEq] at h4
    obtain ⟨rfl, rfl⟩ := h4
    simp only [Bool.and_eq_true, Bool.or_eq_true, beq_iff_eq, decide_eq_true_eq] at h3
    obtain ⟨⟨⟨⟨⟨⟨⟨g1, g2⟩, g3⟩, g4⟩, g5⟩, g6⟩, g7⟩, g8⟩ := h3
    exact ⟨n, dp, sp, a0, a1, c0, c1, rfl, hc0, hc1, g1, g2, g3, g4, g5, g6, g7, g8, rfl⟩
  · cases hst
theorem cpyl_len (l0 l1 : List Value) (sp dp n : Nat) : (cpyl l0 l1 sp dp n).length = l1.length := by unfold cpyl; simp
theorem doRet_h {F : MR} {i : Instr} {st : List Value} {h h' : AH} {v : Option Value} (hst : doRet F i st h = some (v, h')) : h' = h := by
  unfold doRet at hst
  split at hst
  · split at hst
    · cases hst; rfl
    · obtain ⟨-, h2⟩ := oC_inv hst; cases h2; rfl
    · cases hst
  · split at hst
    · cases hst; rfl
    · cases hst
  · split at hst
    · cases hst; rfl
    · cases hst
  · split at hst
    · cases hst; rfl
    · cases hst
  · cases hst
theorem am_len (MT : Nat → Option MR) : ∀ (n fr lo : Nat) (scr : AS) (F : MR) (pc : Nat) (lv : ALv) (st : List Value) (h h' : AH) (v : Option Value), am MT n fr lo scr F pc lv st h = some (v, h') → h.length ≤ h'.length ∧ slo h ≤ slo h' := by
  intro n
  induction n with
  | zero => intro fr lo scr F pc lv st h h' v hh; cases hh
  | succ n ih =>
    intro fr lo scr F pc lv st h h' v hh
    rw [am_s] at hh
    unfold amB at hh
    obtain ⟨q, hq, h1⟩ := oB_inv hh
    split at h1
    · obtain ⟨x, hx, h2⟩ := oB_inv h1
      exact ih _ _ _ _ _ _ _ _ _ _ h2
    · obtain ⟨x, hx, h2⟩ := oB_inv h1
      have z := ih _ _ _ _ _ _ _ _ _ _ h2
      have y := stpW_len (pc' := x.1) (st' := x.2.1) (h' := x.2.2) hx
      omega
    · obtain ⟨x, hx, h2⟩ := oB_inv h1
      have z := ih _ _ _ _ _ _ _ _ _ _ h2
      have y := stpN_len (pc' := x.1) (st' := x.2.1) (h' := x.2.2) hx
      omega
    · obtain ⟨e, he, h2⟩ := oB_inv h1
      obtain ⟨hk, h3⟩ := oC_inv h2
      unfold amC at h3
      split at h3
      · obtain ⟨x, hx, h4⟩ := oB_inv h3
        obtain ⟨-, h5⟩ := oC_inv h4
        obtain ⟨n0, dp, sp, a0, a1, c0, c1, -, -, hc1, -, -, -, -, -, -, -, -, e9⟩ := acopy_inv (r := x.1) (h' := x.2) hx
        have z := ih _ _ _ _ _ _ _ _ _ _ h5
        have y := slo_set hc1 (d := (c1.1, c1.2.1, cpyl c0.2.2 c1.2.2 sp.toNatClampNeg dp.toNatClampNeg n0.toNatClampNeg)) (cpyl_len _ _ _ _ _)
        rw [e9, y, List.length_set] at z
        exact z
      · obtain ⟨a, r, rfl, h4⟩ := sR_inv h3
        obtain ⟨-, h5⟩ := oC_inv h4
        exact ih _ _ _ _ _ _ _ _ _ _ h5
      · obtain ⟨G, hG, h4⟩ := oB_inv h3
        obtain ⟨-, h5⟩ := oC_inv h4
        obtain ⟨x, hx, h6⟩ := oB_inv h5
        have z := ih _ _ _ _ _ _ _ _ _ _ h6
        have y := ih _ _ _ _ _ _ _ _ x.2 x.1 hx
        omega
    · rw [doRet_h h1]
      exact ⟨Nat.le_refl _, Nat.le_refl _⟩
end
section
/-! THE MACHINE IS RIGHT -/
theorem am_call {p : Program} {l : Launch} {e : Env} {R : Room} {s : State} {m : MethodId} {args : Array Value} {below : List Frame} {meth : Method} {c : Code} {H : Heap} {locs : List Loc} {cells slots mc ms : Nat} {Q : State → Prop} {pc : Nat} {ls : Array Slot} {st0 rest : List Value} {Qa : State → Outcome → State → Prop} {free : Addr → Prop}
    (hr : va_Run p l e R s m args below meth c H locs cells slots mc ms (F0 m pc ls st0) rest Qa free)
    (kk : ∀ (v : Option Value) (st₀ t : State) (L : List Loc), st₀.heap = H → Qa st₀ (.returned v) t → (∀ q ∈ L, free q.base) → W p l e R s m args below meth c t.heap (locs ++ L) (cells + mc) (slots + ms) Q (F0 m (pc + 3) ls (v.toList ++ rest))) : W p l e R s m args below meth c H locs cells slots Q (F0 m pc ls st0) := by
  intro T hT X
  obtain ⟨v, st₀, t, T', L, h0, X', hL, e1, e2, hq, st⟩ := hr T hT X
  obtain ⟨t2, a1, b1⟩ := kk v st₀ t L h0 hq hL T' e1 X'
  exact ⟨t2, st t2 a1, b1⟩
theorem goodTBL {ws : List Cond} (h : ∀ w ∈ ws, w ∈ TBL) : GoodIn TBL ws := fun w hw => ⟨h w hw, TBL_good (h w hw)⟩
def wsOf (G : MR) : List Cond := .code (my G) (mcc G) (mml G) (mret G) :: TBL
theorem wsOf_in {G : MR} (hG : GOK G) : ∀ w ∈ wsOf G, w ∈ TBL := fun w hw => (List.mem_cons.mp hw).elim (fun e => e ▸ hG.1) id
theorem gL_args (b base : Nat) (vs : List Value) : ∀ k, gL b base (lv_args k vs) = lv_args k (vs.map (gV b base)) := by
  induction vs with
  | nil => intro k; rfl
  | cons v t ih =>
    intro k
    unfold lv_args
    simp only [gL, List.map_cons, gV_cat]
    congr 1
    exact ih _
theorem sl_len (vs : List Value) : (lg_sl vs).length = cats vs := by
  induction vs with
  | nil => rfl
  | cons v t ih =>
    have e : lg_sl (v :: t) = (if v.category = 2 then [.val v, .second] else [.val v]) ++ lg_sl t := rfl
    have e2 : cats (v :: t) = v.category + cats t := by unfold cats; simp
    rw [e, List.length_append, ih, e2]
    rcases lv_cat v with h | h <;> simp [h]
theorem cats_map (b base : Nat) (vs : List Value) : cats (vs.map (gV b base)) = cats vs := cats_g b base vs
/-- what a call leaves -/
def PQ (D : va_G) (tyc : Nat → ClassId) (b base : Nat) (v : Option Value) (h' : AH) : Array Value → State → Outcome → State → Prop := fun _ st o t => o = .returned (v.map (gV b base)) ∧ Wd D tyc b base h' t.heap ∧ va_F (fun q => base ≤ q) st t
def PP (D : va_G) (tyc : Nat → ClassId) (b base : Nat) (vs : List Value) (h : AH) : Array Value → State → Prop := va_Pc (vs.map (gV b base)) (fun U => Wd D tyc b base h U.heap ∧ KX D tyc U)
def SW (MT : Nat → Option MR) (fr lo : Nat) (scr : AS) (F : MR) (pc : Nat) (lv : ALv) (st : List Value) (h : AH) (v : Option Value) (h' : AH) : Prop :=
  ∀ {p : Program} {l : Launch} {e : Env} {R : Room} {s : State} {m : MethodId} {args : Array Value} {below : List Frame} {meth : Method} {c : Code} {H : Heap} {locs : List Loc} {cells slots S0 : Nat} {Q : State → Prop} {D : va_G} {tyc : Nat → ClassId} {b base : Nat} {ls : Array Slot},
    Ctx p s m args meth c F → KX D tyc s → Wd D tyc b base h H → va_S (fun q => base ≤ q) s.heap H locs → base ≤ s.heap.size → base + h.length = s.heap.size + cells → slo h = S0 + slots → base + h'.length ≤ s.heap.size + R.cells → slo h' ≤ S0 + R.slots → fr ≤ R.frames → lo ≤ R.locals → lv_has ls (mml F) (gL b base lv) → SC scr b base s →
    (∀ (pc' : Nat) (i : Instr) (len tgt : Nat) (st' : List Value) (H' : Heap) (locs' : List Loc) (cells' slots' : Nat) (ls' : Array Slot), fnd (mcode F) pc' = some (i, len, tgt) → doRet F i st' h' = some (v, h') → Wd D tyc b base h' H' → va_S (fun q => base ≤ q) s.heap H' locs' → base + h'.length = s.heap.size + cells' → slo h' = S0 + slots' → W p l e R s m args below meth c H' locs' cells' slots' Q (F0 m pc' ls' (st'.map (gV b base)))) →
    W p l e R s m args below meth c H locs cells slots Q (F0 m pc ls (st.map (gV b base)))
set_option maxHeartbeats 4000000 in
/-- a run of a method is a contract of it -/
theorem met_of {MT : Nat → Option MR} {fr lo : Nat} {G : MR} {vs : List Value} {h h' : AH} {v : Option Value} (hF : FOK MT G) (hG : GOK G) (hlen : h.length ≤ h'.length ∧ slo h ≤ slo h') (hent : cats vs ≤ mml G) (hsw : SW MT fr lo none G 0 (lv_args 0 vs) [] h v h') (l : Launch) (D : va_G) (tyc : Nat → ClassId) (b base : Nat) :
    Met l (my G) (wsOf G) { frames := fr, cells := h'.length - h.length, slots := slo h' - slo h, locals := lo } (PP D tyc b base vs h) (PQ D tyc b base v h') (h'.length - h.length) (slo h' - slo h) (fun q => base ≤ q) := by
  refine Met.ofW (cc := mcc G) (maxL := mml G) (ret := mret G) hG.2.2.1 rfl ?_
  intro p e s m args below meth c s₁ B hml hv
  obtain ⟨rfl, hW, hK⟩ := hv
  have hts0 := atoms_spec (ws := wsOf G) B.pre
  have hts : ∀ w ∈ TBL, w.before (vs.map (gV b base)).toArray s = true := fun w hw => hts0 w (List.mem_cons_of_mem _ hw)
  have C : Ctx p s m (vs.map (gV b base)).toArray meth c G := ⟨B.exec, B.bytes, B.returns, hml, findClass_of_methodNamed B.named, B.notSynchronized, hts, fun z => ((name_of_methodNamed B.named B.method).1).trans z⟩
  have hl := lv_entry (vs.map (gV b base)) (n := mml G) (by rw [sl_len, cats_map]; exact hent)
  rw [lg_entry_eq]
  generalize (lg_sl (vs.map (gV b base)) ++ List.replicate (mml G - (lg_sl (vs.map (gV b base))).length) Slot.unset).toArray = ls at hl ⊢
  rw [← gL_args] at hl
  have hsz := hW.1
  refine hsw (ls := ls) (H := s.heap) (locs := []) (cells := 0) (slots := 0) (S0 := slo h) C hK hW va_S.rf (by omega) (by omega) (by omega) ?_ ?_ (Nat.le_refl _) (Nat.le_refl _) hl (fun q hq => by cases hq) ?_
  · show base + h'.length ≤ s.heap.size + (h'.length - h.length)
    omega
  · show slo h' ≤ slo h + (slo h' - slo h)
    omega
  · intro pc' i len tgt st' H' locs' cells' slots' ls' hf hret hW' hS' hN' hM'
    obtain ⟨hx, hb, hr, hml', hown, hlocks, -, -⟩ := C
    obtain ⟨hD, hlen2, -⟩ := hF.1 _ (fnd_mem hf)
    dsimp only at hD hlen2
    have hd : ∀ n, ilen i = n → n ≠ 0 → decode (mcc G) pc' = .ok (i, n) := by
      intro n h1 h2
      rcases hlen2 with h3 | h3
      · omega
      · rw [← h1, h3]; exact hD
    have e1 : cells' = h'.length - h.length := by omega
    have e2 : slots' = slo h' - slo h := by omega
    subst e1
    subst e2
    have hq : ∀ t : State, t.heap = H' → s.WarmedH t.vm → PQ D tyc b base v h' (vs.map (gV b base)).toArray s (.returned (v.map (gV b base))) t := fun t ht hW9 => ⟨rfl, by rw [ht]; exact hW', hS'.F ht⟩
    unfold doRet at hret
    split at hret
    · split at hret
      · rename_i x hm
        simp only [Option.some.injEq, Prod.mk.injEq] at hret
        obtain ⟨rfl, -⟩ := hret
        exact W.iret (v := x) hx hb (hr.trans hm) hq hS'.2.2 (hd 1 rfl (by decide)) hlocks
      · rename_i x hm
        obtain ⟨h3, h4⟩ := oC_inv hret
        simp only [Option.some.injEq, Prod.mk.injEq] at h4
        obtain ⟨rfl, -⟩ := h4
        exact W.zret (v := x) hx hb (hr.trans hm) (by show Value.int (x &&& 1) = Value.int x; rw [eq_of_beq h3]) hq hS'.2.2 (hd 1 rfl (by decide)) hlocks
      · cases hret
    · split at hret
      · rename_i x hm
        simp only [Option.some.injEq, Prod.mk.injEq] at hret
        obtain ⟨rfl, -⟩ := hret
        exact W.lret (v := x) hx hb (hr.trans hm) hq hS'.2.2 (hd 1 rfl (by decide)) hlocks
      · cases hret
    · split at hret
      · rename_i n a hm
        simp only [Option.some.injEq, Prod.mk.injEq] at hret
        obtain ⟨rfl, -⟩ := hret
        exact W.aret (v := .ref (base + a)) hx hb (hr.trans hm) (Or.inl ⟨_, rfl⟩) (Or.inr ⟨_, rfl⟩) hq hS'.2.2 (hd 1 rfl (by decide)) hlocks
      · cases hret
    · split at hret
      · rename_i hm
        simp only [Option.some.injEq, Prod.mk.injEq] at hret
        obtain ⟨rfl, -⟩ := hret
        exact W.vret hx hb (hr.trans hm) hq hS'.2.2 (hd 1 rfl (by decide)) hlocks
      · cases hret
    · cases hret
theorem cpyI (l0 l1 : List Value) (sp dp n : Nat) (h1 : dp + n ≤ l1.length) : (va_cpy (fun j => asI (l0.getD j .null)) (fun j => asI (l1.getD j .null)) sp dp n) = fun j => asI ((cpyl l0 l1 sp dp n).getD j .null) := by
  funext k
  unfold va_cpy cpyl
  simp only [List.getD_eq_getElem?_getD, List.getElem?_map]
  by_cases hk : k < l1.length
  · rw [List.getElem?_range hk]
    by_cases hz : dp ≤ k ∧ k < dp + n <;> simp [hz]
  · have e1 : (List.range l1.length)[k]? = none := List.getElem?_eq_none (by simp; omega)
    have e2 : l1[k]? = none := List.getElem?_eq_none (by omega)
    rw [e1, e2, if_neg (by omega)]
    rfl
theorem cpyL (l0 l1 : List Value) (sp dp n : Nat) (h1 : dp + n ≤ l1.length) : (va_cpy (fun j => asL (l0.getD j .null)) (fun j => asL (l1.getD j .null)) sp dp n) = fun j => asL ((cpyl l0 l1 sp dp n).getD j .null) := by
  funext k
  unfold va_cpy cpyl
  simp only [List.getD_eq_getElem?_getD, List.getElem?_map]
  by_cases hk : k < l1.length
  · rw [List.getElem?_range hk]
    by_cases hz : dp ≤ k ∧ k < dp + n <;> simp [hz]
  · have e1 : (List.range l1.length)[k]? = none := List.getElem?_eq_none (by simp; omega)
    have e2 : l1[k]? = none := List.getElem?_eq_none (by omega)
    rw [e1, e2, if_neg (by omega)]
    rfl
set_option maxHeartbeats 4000000 in
theorem acopy_ok {p : Program} {l : Launch} {e : Env} {R : Room} {s : State} {m : MethodId} {args : Array Value} {below : List Frame} {meth : Method} {c : Code} {H : Heap} {locs : List Loc} {cells slots idx fr lo : Nat} {Q : State → Prop} {F : MR} {pc : Nat} {st r : List Value} {h h' : AH} {D : va_G} {tyc : Nat → ClassId} {b base : Nat} {ls : Array Slot}
    (C : Ctx p s m args meth c F) (hK : va_K D vwCl (TYS tyc) s) (hW : Wd D tyc b base h H) (hS : va_S (fun q => base ≤ q) s.heap H locs) (hN : base + h.length = s.heap.size + cells) (hls : ls.size = mml F) (hfr : fr ≤ R.frames) (hlo : lo ≤ R.locals) (h1 : 1 ≤ fr) (h2 : cats r + 40 ≤ lo)
    (hlk : .methodLink (my F).cls idx arraycopyName ∈ TBL) (hdg : decode (mcc F) pc = .ok (.invokestatic idx, 3)) (hst : acopy st h = some (r, h'))
    (k : ∀ H' locs', Wd D tyc b base h' H' → va_S (fun q => base ≤ q) s.heap H' locs' → W p l e R s m args below meth c H' locs' cells slots Q (F0 m (pc + 3) ls (r.map (gV b base)))) :
    W p l e R s m args below meth c H locs cells slots Q (F0 m pc ls (st.map (gV b base))) := by
  obtain ⟨hx, hb, hr, hml, hown, hlocks, hts, hin0⟩ := C
  obtain ⟨n, dp, sp, a0, a1, c0, c1, rfl, hc0, hc1, g1, g2, g3, g4, g5, g6, g7, g8, rfl⟩ := acopy_inv hst
  have he0 := gW_at (b := b) (base := base) (tyc := tyc) hc0
  have he1 := gW_at (b := b) (base := base) (tyc := tyc) hc1
  have hloc : ((r.map (gV b base)).map fun v => v.category).sum + (nativeFrameWords "java/lang/System" "arraycopy" 5 + 11) ≤ R.locals := by
    rw [cats_g]
    have : nativeFrameWords "java/lang/System" "arraycopy" 5 ≤ 29 := by decide +kernel
    omega
  rcases g6 with ⟨z1, z2⟩ | ⟨z1, z2⟩
  · rw [gE_i z1, z2] at he0
    rw [gE_i (g4 ▸ z1), ← g5, z2] at he1
    refine va_copyi hx hb (hml.trans hls.symm) hown (hts _ hlk) (hts _ ACN_native) (hts _ ACN_static) (hts _ ACN_init) hK hW.2 (gW_D b base tyc h) (vS_self hS) a0 a1 0 0 he0 he1 rfl rfl rfl g1 g2 g3 g7 g8 (fun _ _ => rfl) (Nat.le_trans h1 hfr) hloc hdg (fun H1 locs1 hP1 _ hS1 => W_sz (fun hub => k H1 locs1 (Wd_set hW ?_ hS1.1 hN hub) (vS_comp hS hS1)))
    rw [cpyI _ _ _ _ _ g8] at hP1
    rw [gE_i (g4 ▸ z1)]
    dsimp only
    rw [cpyl_len, ← g5, z2]
    exact hP1
  · rw [gE_l z1, z2] at he0
    rw [gE_l (g4 ▸ z1), ← g5, z2] at he1
    refine va_copyl hx hb (hml.trans hls.symm) hown (hts _ hlk) (hts _ ACN_native) (hts _ ACN_static) (hts _ ACN_init) hK hW.2 (gW_D b base tyc h) (vS_self hS) a0 a1 1 1 he0 he1 rfl rfl rfl g1 g2 g3 g7 g8 (fun _ _ => rfl) (Nat.le_trans h1 hfr) hloc hdg (fun H1 locs1 hP1 _ hS1 => W_sz (fun hub => k H1 locs1 (Wd_set hW ?_ hS1.1 hN hub) (vS_comp hS hS1)))
    rw [cpyL _ _ _ _ _ g8] at hP1
    rw [gE_l (g4 ▸ z1)]
    dsimp only
    rw [cpyl_len, ← g5, z2]
    exact hP1
set_option maxHeartbeats 8000000 in
/-- THE MACHINE IS RIGHT -/
theorem am_ok {MT : Nat → Option MR} (hMT : ∀ j G, MT j = some G → FOK MT G ∧ GOK G) : ∀ (n fr lo : Nat) (scr : AS) (F : MR) (pc : Nat) (lv : ALv) (st : List Value) (h h' : AH) (v : Option Value), FOK MT F → am MT n fr lo scr F pc lv st h = some (v, h') → SW MT fr lo scr F pc lv st h v h' := by
  intro n
  induction n with
  | zero => intro fr lo scr F pc lv st h h' v hF hh; cases hh
  | succ n ih =>
    intro fr lo scr F pc lv st h h' v hF hh
    rw [am_s] at hh
    unfold amB at hh
    obtain ⟨⟨i, len, tgt⟩, hq, h1⟩ := oB_inv hh
    dsimp only at h1
    intro p l e R s m args below meth c H locs cells slots S0 Q D tyc b base ls C hK hW hS hbs hN hM hRc hRs hfr hlo hl hsc kret
    split at h1
    · obtain ⟨⟨pc', lv', st'⟩, hx, h2⟩ := oB_inv h1
      exact stpP_ok hF C hK.1 hW hS hl hsc hq hx (fun ls' hl' => ih _ _ _ _ _ _ _ _ _ _ hF h2 C hK hW hS hbs hN hM hRc hRs hfr hlo hl' hsc kret)
    · obtain ⟨⟨pc', st', h2'⟩, hx, h2⟩ := oB_inv h1
      have y := stpW_len hx
      exact stpW_ok (ls := ls) hF C hK.1 hW hS hN hq hx (fun H' locs' hW' hS' => ih _ _ _ _ _ _ _ _ _ _ hF h2 C hK hW' hS' hbs (by dsimp only; omega) (by dsimp only; omega) hRc hRs hfr hlo hl hsc kret)
    · obtain ⟨⟨pc', st', h2'⟩, hx, h2⟩ := oB_inv h1
      have y := am_len MT _ _ _ _ _ _ _ _ _ _ _ h2
      dsimp only at y
      exact stpN_ok (ls := ls) hF C hK hW hS hbs hN hM (by omega) (by omega) hq hx (fun H' locs' cells' slots' hW' hS' hN' hM' => ih _ _ _ _ _ _ _ _ _ _ hF h2 C hK hW' hS' hbs hN' hM' hRc hRs hfr hlo hl hsc kret)
    · obtain ⟨e0, he0, h2⟩ := oB_inv h1
      obtain ⟨hkd, h3⟩ := oC_inv h2
      have hck := hF.2.2.1 _ (fnd_mem he0)
      unfold CKok at hck
      dsimp only at hck
      obtain ⟨hD, hlen, -⟩ := hF.1 _ (fnd_mem hq)
      dsimp only at hD hlen
      have hd : ∀ n, ilen i = n → n ≠ 0 → decode (mcc F) pc = .ok (i, n) := by
        intro n h1 h2
        rcases hlen with h3 | h3
        · omega
        · rw [← h1, h3]; exact hD
      unfold amC at h3
      split at h3
      · rename_i hk8
        obtain ⟨⟨r, h2'⟩, hx, h4⟩ := oB_inv h3
        obtain ⟨hb2, h5⟩ := oC_inv h4
        simp only [Bool.and_eq_true, decide_eq_true_eq] at hb2
        have hi : ∃ idx, i = .invokestatic idx := by
          cases i <;> first | exact ⟨_, rfl⟩ | (rw [hk8] at hkd; cases hkd)
        obtain ⟨idx, rfl⟩ := hi
        have hlk := hck.1 hk8
        obtain ⟨n0, dp, sp, a0, a1, c0, c1, -, -, hc1, -, -, -, -, -, -, -, -, e9⟩ := acopy_inv hx
        have y := slo_set hc1 (d := (c1.1, c1.2.1, cpyl c0.2.2 c1.2.2 sp.toNatClampNeg dp.toNatClampNeg n0.toNatClampNeg)) (cpyl_len _ _ _ _ _)
        have y2 : h2'.length = h.length := by rw [e9, List.length_set]
        rw [← e9] at y
        exact acopy_ok (ls := ls) C hK.1 hW hS hN hl.1 hfr hlo hb2.1 hb2.2 hlk (hd 3 rfl (by decide)) hx (fun H' locs' hW' hS' => ih _ _ _ _ _ _ _ _ _ _ hF h5 C hK hW' hS' hbs (by dsimp only; omega) (by dsimp only; omega) hRc hRs hfr hlo hl hsc kret)
      · rename_i hk9
        obtain ⟨a, r, rfl, h4⟩ := sR_inv h3
        obtain ⟨hb2, h5⟩ := oC_inv h4
        simp only [Bool.and_eq_true, decide_eq_true_eq] at hb2
        have hi : ∃ idx, i = .invokespecial idx := by
          cases i <;> first | exact ⟨_, rfl⟩ | (rw [hk9] at hkd; cases hkd)
        obtain ⟨idx, rfl⟩ := hi
        have hlk := hck.2.1 hk9
        obtain ⟨hx, hb, hr, hml, hown, hlocks, hts, hin0⟩ := id C
        refine W.objInit (g := F0 m pc ls (.ref (base + a) :: r.map (gV b base))) hx hb hown (hts _ hlk) (hts _ OBJ_inst) (hts _ OBJ_code) rfl (hl.1.trans hml.symm) rfl (hd 3 rfl (by decide)) (by omega) ?_ ?_
        · have z := lv_room (m := m) (pc := pc) (ls := ls) (rest := .ref (base + a) :: r.map (gV b base)) (st := []) (Nat.zero_le _)
          have z2 : (F0 m pc ls (.ref (base + a) :: r.map (gV b base))).monitorRoom = 0 := rfl
          rw [z2, cats_g]
          omega
        · exact ih _ _ _ _ _ _ _ _ _ _ hF h5 C hK hW hS hbs hN hM hRc hRs hfr hlo hl hsc kret
      · rename_i hn8 hn9
        have hn8' : ¬ e0.1 = 8 := hn8
        have hn9' : ¬ e0.1 = 9 := hn9
        obtain ⟨G, hG, h4⟩ := oB_inv h3
        obtain ⟨hb2, h5⟩ := oC_inv h4
        obtain ⟨⟨v1, h1'⟩, hx, h6⟩ := oB_inv h5
        simp only [Bool.and_eq_true, decide_eq_true_eq] at hb2
        obtain ⟨⟨⟨⟨⟨b1, b2⟩, b3⟩, b4⟩, b5⟩, b6⟩ := hb2
        obtain ⟨hFG, hGG⟩ := hMT _ _ hG
        have hlt8 : e0.1 < 8 := by
          unfold callKd at hkd
          split at hkd
          · simp only [Bool.or_eq_true, beq_iff_eq] at hkd; omega
          · simp only [Bool.or_eq_true, beq_iff_eq] at hkd; omega
          · simp only [Bool.or_eq_true, beq_iff_eq] at hkd; omega
          · cases hkd
        obtain ⟨hw, hwV, hwS, hwI⟩ := hck.2.2 hlt8 G hG
        have y := am_len MT _ _ _ _ _ _ _ _ _ _ _ hx
        have y2 := am_len MT _ _ _ _ _ _ _ _ _ _ _ h6
        dsimp only at y2
        have hent : cats (st.take (nArg e0.1 G)).reverse ≤ mml G := by
          have e9 : cats (st.take (nArg e0.1 G)).reverse = cats (st.take (nArg e0.1 G)) := by
            unfold cats
            rw [List.map_reverse, List.sum_reverse]
          omega
        have hM2 := met_of hFG hGG y hent (ih _ _ _ _ _ _ _ _ _ _ hFG hx) l D tyc b base
        generalize hvs : (st.take (nArg e0.1 G)).reverse = vs at hM2 b6 hent
        generalize hrs : st.drop (nArg e0.1 G) = r at b4 h6
        have hst : st = vs.reverse ++ r := by rw [← hvs, ← hrs, List.reverse_reverse, List.take_append_drop]
        have hvl : vs.length = nArg e0.1 G := by rw [← hvs, List.length_reverse, List.length_take]; omega
        obtain ⟨hx0, hb0, hr0, hml0, hown, hlocks, hts, hin0⟩ := id C
        have hfix : CallFix p m c (mcc F) (mml F) s args TBL (my F).cls := ⟨hx0, hb0, hml0, hown, hts⟩
        have hgd : GoodIn TBL (wsOf G) := goodTBL (wsOf_in hGG)
        have hroom : fr - 1 + 1 ≤ R.frames ∧ 8 + (mml G + 11) + (lo - (mml G + 19)) ≤ R.locals := by omega
        have hdsc : (my G).cls ≠ "java/lang/invoke/MethodHandle" ∧ (my G).cls ≠ "java/lang/invoke/VarHandle" ∧ (parseMethodDescriptor (my G).desc).map (fun d => d.parameters.length) = some (mnp G) := ⟨hGG.2.2.2.1, hGG.2.2.2.2.1, hGG.2.2.2.2.2⟩
        have hblind : FrameBlind (PP D tyc b base vs h) := fun a U g mk q => by
          obtain ⟨q0, q1, q2⟩ := q
          exact ⟨q0, q1, KX_moved (u := U) (U := U.calling g mk a) (Vm.Alike.refl U.vm) q2⟩
        have hpre : ∀ U : State, U.heap = H → s.WarmedH U.vm → PP D tyc b base vs h (vs.map (gV b base)).toArray U := fun U hU hW9 => ⟨rfl, by rw [hU]; exact hW, KX_moved hW9.alike hK⟩
        have hrm : 2 * (F0 m pc ls (st.map (gV b base))).monitorRoom + ((r.map (gV b base)).map fun v => v.category).sum ≤ 8 := lv_room (by rw [cats_g]; exact b4)
        have hcs : cells + (h1'.length - h.length) ≤ R.cells ∧ slots + (slo h1' - slo h) ≤ R.slots := by omega
        have fin : ∀ (hr : va_Run p l e R s m args below meth c H locs cells slots (h1'.length - h.length) (slo h1' - slo h) (F0 m pc ls (st.map (gV b base))) (r.map (gV b base)) (PQ D tyc b base v1 h1' (vs.map (gV b base)).toArray) (fun q => base ≤ q)), W p l e R s m args below meth c H locs cells slots Q (F0 m pc ls (st.map (gV b base))) := by
          intro hr
          refine am_call hr (fun v2 st₀ t L hh0 hQ hL => ?_)
          obtain ⟨e1, hW1, hF1⟩ := hQ
          cases e1
          have e3 : ((v1.map (gV b base)).toList ++ r.map (gV b base)) = (v1.toList ++ r).map (gV b base) := by cases v1 <;> rfl
          rw [e3]
          refine ih _ _ _ _ _ _ _ _ _ _ hF h6 C hK hW1 ⟨?_, fun q hq1 hq2 => ?_, fun q hq1 => ?_⟩ hbs (by dsimp only; omega) (by dsimp only; omega) hRc hRs hfr hlo hl hsc kret
          · have := hF1.1
            rw [hh0] at this
            exact Nat.le_trans hS.1 this
          · have z := hF1.2 q (by rw [hh0]; exact Nat.lt_of_lt_of_le hq1 hS.1) hq2
            rw [hh0] at z
            exact z.trans (hS.2.1 q hq1 hq2)
          · rcases List.mem_append.mp hq1 with z | z
            · exact hS.2.2 q z
            · exact hL q z
        have hcls0 : Cond.initialized (my G).cls ∈ TBL := hGG.2.1
        have wl : ∀ {w : Cond}, w ∈ TBL → w.onTables = true → va_Nw w s := fun hw9 ho => va_Nw.of ho (hts _ hw9)
        unfold callKd at hkd
        split at hkd
        · rename_i idx
          simp only [Bool.or_eq_true, beq_iff_eq] at hkd
          obtain ⟨wi, wse, wcl⟩ := hwV hkd
          have hna : nArg e0.1 G = mnp G + 1 := by unfold nArg; rw [if_neg (by omega)]
          have hrec : ∃ a vt cc, vs = .ref a :: vt ∧ h[a]? = some cc ∧ cc.1 = 0 ∧ cc.2.1 = mci G := by
            unfold rcv at b6
            split at b6 <;> first | omega | skip
            split at b6
            · rename_i a vt
              split at b6
              · rename_i cc hcc
                simp only [Bool.and_eq_true, beq_iff_eq] at b6
                exact ⟨a, vt, cc, rfl, hcc, b6.1, b6.2⟩
              · cases b6
            · cases b6
          obtain ⟨a, vt, cc, rfl, hcc, hcc1, hcc2⟩ := hrec
          obtain ⟨r0, hr9, hr8⟩ := Option.map_eq_some_iff.mp wcl
          have he := gW_at (b := b) (base := base) (tyc := tyc) hcc
          rw [gE_o hcc1, hcc2] at he
          have hrc := va_recv hK.1 hW.2 hr9 he
          rw [hr8] at hrc
          have hstk : st.map (gV b base) = (vt.map (gV b base)).reverse ++ .ref (base + a) :: r.map (gV b base) := by
            rw [hst]
            simp [gV]
          have hvn : (vt.map (gV b base)).length = mnp G := by
            rw [List.length_map]
            rw [hna] at hvl
            simpa using hvl
          rcases hkd with hk0 | hk0
          · rw [if_neg (by omega)] at hw
            exact fin (va_runV (As := vt.map (gV b base)) hfix hM2 ⟨callB_of (mnp G) hts hgd rfl rfl rfl (hts _ hcls0) (hts _ hw) hdsc hroom, hts _ wi, hts _ wse⟩ ⟨hblind, hrc, hpre⟩ rfl hvn hl.1 hstk hrm (hd 3 rfl (by decide)) hcs)
          · rw [if_pos (by omega)] at hw
            exact fin (va_runVN (As := vt.map (gV b base)) hfix hM2 ⟨va_cnB (mnp G) hts hgd rfl rfl rfl (wl hw rfl) (hts _ hcls0) hdsc hroom, hts _ wi, hts _ wse⟩ ⟨hblind, hrc, hpre⟩ rfl hvn hl.1 hstk hrm (hd 3 rfl (by decide)) hcs)
        · rename_i idx
          simp only [Bool.or_eq_true, beq_iff_eq] at hkd
          have hkd2 : e0.1 = 2 ∨ e0.1 = 3 := by omega
          have ws := hwS hkd2
          have hna : nArg e0.1 G = mnp G := by unfold nArg; rw [if_pos hkd2]
          have hstk : st.map (gV b base) = (vs.map (gV b base)).reverse ++ r.map (gV b base) := by
            rw [hst]
            simp
          have hvn : (vs.map (gV b base)).length = mnp G := by rw [List.length_map, hvl, hna]
          rcases hkd2 with hk0 | hk0
          · rw [if_neg (by omega)] at hw
            exact fin (va_runS (As := vs.map (gV b base)) hfix hM2 ⟨callB_of (mnp G) hts hgd rfl rfl rfl (hts _ hcls0) (hts _ hw) hdsc hroom, hts _ ws⟩ ⟨hblind, hpre⟩ rfl hvn hl.1 hstk hrm (hd 3 rfl (by decide)) hcs)
          · rw [if_pos (by omega)] at hw
            exact fin (va_runSN (As := vs.map (gV b base)) hfix hM2 ⟨va_cnB (mnp G) hts hgd rfl rfl rfl (wl hw rfl) (hts _ hcls0) hdsc hroom, hts _ ws, trivial⟩ ⟨hblind, hpre⟩ rfl hvn hl.1 hstk hrm (hd 3 rfl (by decide)) hcs)
        · rename_i idx
          simp only [Bool.or_eq_true, beq_iff_eq] at hkd
          have hkd2 : e0.1 = 4 ∨ e0.1 = 5 := by omega
          obtain ⟨wi, wnm, wrt⟩ := hwI hkd2
          have hna : nArg e0.1 G = mnp G + 1 := by unfold nArg; rw [if_neg (by omega)]
          have hrec : ∃ a vt, vs = .ref a :: vt := by
            unfold rcv at b6
            split at b6 <;> first | omega | skip
            all_goals
              split at b6
              · rename_i a vt
                exact ⟨a, vt, rfl⟩
              · cases b6
          obtain ⟨a, vt, rfl⟩ := hrec
          have hstk : st.map (gV b base) = (vt.map (gV b base)).reverse ++ .ref (base + a) :: r.map (gV b base) := by
            rw [hst]
            simp [gV]
          have hvn : (vt.map (gV b base)).length = mnp G := by
            rw [List.length_map]
            rw [hna] at hvl
            simpa using hvl
          have hwsr : wsOf G = Cond.code (my G) (mcc G) (mml G) none :: TBL := by unfold wsOf; rw [wrt]
          rcases hkd2 with hk0 | hk0
          · rw [if_neg (by omega)] at hw
            exact fin (va_runI (As := vt.map (gV b base)) hfix hM2 (cwI (mnp G) hts hgd hwsr rfl rfl (hts _ hcls0) (hts _ hw) (hts _ wi) wnm hdsc hroom) ⟨hblind, hpre⟩ rfl hvn hl.1 hstk hrm (hd 3 rfl (by decide)) hcs)
          · rw [if_pos (by omega)] at hw
            exact fin (va_runIN (As := vt.map (gV b base)) hfix hM2 ⟨va_cnB (mnp G) hts hgd hwsr rfl rfl (wl hw rfl) (hts _ hcls0) hdsc hroom, wnm, hts _ wi⟩ ⟨hblind, hpre⟩ rfl hvn hl.1 hstk hrm (hd 3 rfl (by decide)) hcs)
        · cases hkd
    · have e9 := doRet_h h1
      subst e9
      exact kret pc i len tgt st H locs cells slots ls hq h1 hW hS hN hM
end
