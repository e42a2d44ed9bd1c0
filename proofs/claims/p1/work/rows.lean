section
-- ===== PART A: goes FIRST, ahead of the names: the tables' words, and 'selects' of the private methods out of them =====
/-- a private method of a class that the tables say can be made, by its rows of tables_1 -/
def lw_okq (q : MethodName × Nat) : Prop := (q.1.cls ≠ "java/lang/invoke/MethodHandle" ∧ q.1.cls ≠ "java/lang/invoke/VarHandle") ∧ Cond.instantiable q.1.cls q.2 ∈ tables_1 ∧ Cond.privateMethod q.1 ∈ tables_1 ∧ Cond.instanceMethod q.1 ∈ tables_1
theorem lw_p0 : lw_okq (⟨"DoorSchool$Tape", "append", "(I)V"⟩, 2) := ⟨⟨by decide +kernel, by decide +kernel⟩, List.mem_of_getElem? (i := 30) (by decide +kernel), List.mem_of_getElem? (i := 378) (by decide +kernel), List.mem_of_getElem? (i := 379) (by decide +kernel)⟩
theorem lw_p1 : lw_okq (⟨"DoorSchool$Reader", "read", "(LDoorSchool$Plan;)V"⟩, 7) := ⟨⟨by decide +kernel, by decide +kernel⟩, List.mem_of_getElem? (i := 47) (by decide +kernel), List.mem_of_getElem? (i := 390) (by decide +kernel), List.mem_of_getElem? (i := 391) (by decide +kernel)⟩
theorem lw_p2 : lw_okq (⟨"DoorSchool$Plan", "clear", "()V"⟩, 16) := ⟨⟨by decide +kernel, by decide +kernel⟩, List.mem_of_getElem? (i := 175) (by decide +kernel), List.mem_of_getElem? (i := 394) (by decide +kernel), List.mem_of_getElem? (i := 395) (by decide +kernel)⟩
theorem lw_p3 : lw_okq (⟨"DoorSchool$Reader", "step", "()V"⟩, 7) := ⟨⟨by decide +kernel, by decide +kernel⟩, List.mem_of_getElem? (i := 47) (by decide +kernel), List.mem_of_getElem? (i := 401) (by decide +kernel), List.mem_of_getElem? (i := 402) (by decide +kernel)⟩
theorem lw_p4 : lw_okq (⟨"DoorSchool$Reader", "kindAt", "(I)I"⟩, 7) := ⟨⟨by decide +kernel, by decide +kernel⟩, List.mem_of_getElem? (i := 47) (by decide +kernel), List.mem_of_getElem? (i := 408) (by decide +kernel), List.mem_of_getElem? (i := 409) (by decide +kernel)⟩
theorem lw_p5 : lw_okq (⟨"DoorSchool$Reader", "readFirst", "(LDoorSchool$Plan;)V"⟩, 7) := ⟨⟨by decide +kernel, by decide +kernel⟩, List.mem_of_getElem? (i := 47) (by decide +kernel), List.mem_of_getElem? (i := 416) (by decide +kernel), List.mem_of_getElem? (i := 417) (by decide +kernel)⟩
theorem lw_p6 : lw_okq (⟨"DoorSchool$Reader", "stands", "(Ljava/lang/String;)Z"⟩, 7) := ⟨⟨by decide +kernel, by decide +kernel⟩, List.mem_of_getElem? (i := 47) (by decide +kernel), List.mem_of_getElem? (i := 421) (by decide +kernel), List.mem_of_getElem? (i := 422) (by decide +kernel)⟩
theorem lw_p7 : lw_okq (⟨"DoorSchool$Reader", "pass", "(Z)V"⟩, 7) := ⟨⟨by decide +kernel, by decide +kernel⟩, List.mem_of_getElem? (i := 47) (by decide +kernel), List.mem_of_getElem? (i := 473) (by decide +kernel), List.mem_of_getElem? (i := 474) (by decide +kernel)⟩
theorem lw_p8 : lw_okq (⟨"DoorSchool$Reader", "blame", "(I)V"⟩, 7) := ⟨⟨by decide +kernel, by decide +kernel⟩, List.mem_of_getElem? (i := 47) (by decide +kernel), List.mem_of_getElem? (i := 477) (by decide +kernel), List.mem_of_getElem? (i := 478) (by decide +kernel)⟩
theorem lw_p9 : lw_okq (⟨"DoorSchool$Reader", "takeNumber", "(II)I"⟩, 7) := ⟨⟨by decide +kernel, by decide +kernel⟩, List.mem_of_getElem? (i := 47) (by decide +kernel), List.mem_of_getElem? (i := 482) (by decide +kernel), List.mem_of_getElem? (i := 483) (by decide +kernel)⟩
theorem lw_p10 : lw_okq (⟨"DoorSchool$Reader", "numberHere", "(II)I"⟩, 7) := ⟨⟨by decide +kernel, by decide +kernel⟩, List.mem_of_getElem? (i := 47) (by decide +kernel), List.mem_of_getElem? (i := 486) (by decide +kernel), List.mem_of_getElem? (i := 487) (by decide +kernel)⟩
theorem lw_p11 : lw_okq (⟨"DoorSchool$Reader", "readDoor", "(LDoorSchool$Plan;)V"⟩, 7) := ⟨⟨by decide +kernel, by decide +kernel⟩, List.mem_of_getElem? (i := 47) (by decide +kernel), List.mem_of_getElem? (i := 492) (by decide +kernel), List.mem_of_getElem? (i := 493) (by decide +kernel)⟩
theorem lw_p12 : lw_okq (⟨"DoorSchool$Reader", "takeWay", "()I"⟩, 7) := ⟨⟨by decide +kernel, by decide +kernel⟩, List.mem_of_getElem? (i := 47) (by decide +kernel), List.mem_of_getElem? (i := 496) (by decide +kernel), List.mem_of_getElem? (i := 497) (by decide +kernel)⟩
theorem lw_p13 : lw_okq (⟨"DoorSchool$Door", "begin", "(II)V"⟩, 4) := ⟨⟨by decide +kernel, by decide +kernel⟩, List.mem_of_getElem? (i := 205) (by decide +kernel), List.mem_of_getElem? (i := 504) (by decide +kernel), List.mem_of_getElem? (i := 505) (by decide +kernel)⟩
theorem lw_p14 : lw_okq (⟨"DoorSchool$Reader", "readLesson", "(LDoorSchool$Plan;)V"⟩, 7) := ⟨⟨by decide +kernel, by decide +kernel⟩, List.mem_of_getElem? (i := 47) (by decide +kernel), List.mem_of_getElem? (i := 509) (by decide +kernel), List.mem_of_getElem? (i := 510) (by decide +kernel)⟩
theorem lw_p15 : lw_okq (⟨"DoorSchool$Reader", "readSaid", "(LDoorSchool$Plan;LDoorSchool$Lessons;)V"⟩, 7) := ⟨⟨by decide +kernel, by decide +kernel⟩, List.mem_of_getElem? (i := 47) (by decide +kernel), List.mem_of_getElem? (i := 513) (by decide +kernel), List.mem_of_getElem? (i := 514) (by decide +kernel)⟩
def lw_privs_1 : List (MethodName × Nat) := [(⟨"DoorSchool$Tape", "append", "(I)V"⟩, 2), (⟨"DoorSchool$Reader", "read", "(LDoorSchool$Plan;)V"⟩, 7), (⟨"DoorSchool$Plan", "clear", "()V"⟩, 16), (⟨"DoorSchool$Reader", "step", "()V"⟩, 7), (⟨"DoorSchool$Reader", "kindAt", "(I)I"⟩, 7), (⟨"DoorSchool$Reader", "readFirst", "(LDoorSchool$Plan;)V"⟩, 7), (⟨"DoorSchool$Reader", "stands", "(Ljava/lang/String;)Z"⟩, 7), (⟨"DoorSchool$Reader", "pass", "(Z)V"⟩, 7), (⟨"DoorSchool$Reader", "blame", "(I)V"⟩, 7), (⟨"DoorSchool$Reader", "takeNumber", "(II)I"⟩, 7), (⟨"DoorSchool$Reader", "numberHere", "(II)I"⟩, 7), (⟨"DoorSchool$Reader", "readDoor", "(LDoorSchool$Plan;)V"⟩, 7), (⟨"DoorSchool$Reader", "takeWay", "()I"⟩, 7), (⟨"DoorSchool$Door", "begin", "(II)V"⟩, 4), (⟨"DoorSchool$Reader", "readLesson", "(LDoorSchool$Plan;)V"⟩, 7), (⟨"DoorSchool$Reader", "readSaid", "(LDoorSchool$Plan;LDoorSchool$Lessons;)V"⟩, 7)]
theorem lw_r1 : ∀ q ∈ lw_privs_1, lw_okq q := List.forall_mem_cons.mpr ⟨lw_p0, List.forall_mem_cons.mpr ⟨lw_p1, List.forall_mem_cons.mpr ⟨lw_p2, List.forall_mem_cons.mpr ⟨lw_p3, List.forall_mem_cons.mpr ⟨lw_p4, List.forall_mem_cons.mpr ⟨lw_p5, List.forall_mem_cons.mpr ⟨lw_p6, List.forall_mem_cons.mpr ⟨lw_p7, List.forall_mem_cons.mpr ⟨lw_p8, List.forall_mem_cons.mpr ⟨lw_p9, List.forall_mem_cons.mpr ⟨lw_p10, List.forall_mem_cons.mpr ⟨lw_p11, List.forall_mem_cons.mpr ⟨lw_p12, List.forall_mem_cons.mpr ⟨lw_p13, List.forall_mem_cons.mpr ⟨lw_p14, List.forall_mem_cons.mpr ⟨lw_p15, fun _ h => absurd h List.not_mem_nil⟩⟩⟩⟩⟩⟩⟩⟩⟩⟩⟩⟩⟩⟩⟩⟩
theorem lw_p16 : lw_okq (⟨"DoorSchool$Plan", "knocks", "()I"⟩, 16) := ⟨⟨by decide +kernel, by decide +kernel⟩, List.mem_of_getElem? (i := 175) (by decide +kernel), List.mem_of_getElem? (i := 517) (by decide +kernel), List.mem_of_getElem? (i := 518) (by decide +kernel)⟩
theorem lw_p17 : lw_okq (⟨"DoorSchool$Lessons", "add", "(II)V"⟩, 3) := ⟨⟨by decide +kernel, by decide +kernel⟩, List.mem_of_getElem? (i := 183) (by decide +kernel), List.mem_of_getElem? (i := 523) (by decide +kernel), List.mem_of_getElem? (i := 524) (by decide +kernel)⟩
theorem lw_p18 : lw_okq (⟨"DoorSchool$Lessons", "putIn", "(III)V"⟩, 3) := ⟨⟨by decide +kernel, by decide +kernel⟩, List.mem_of_getElem? (i := 183) (by decide +kernel), List.mem_of_getElem? (i := 527) (by decide +kernel), List.mem_of_getElem? (i := 528) (by decide +kernel)⟩
theorem lw_p19 : lw_okq (⟨"DoorSchool$Reader", "readExam", "(LDoorSchool$Plan;)V"⟩, 7) := ⟨⟨by decide +kernel, by decide +kernel⟩, List.mem_of_getElem? (i := 47) (by decide +kernel), List.mem_of_getElem? (i := 532) (by decide +kernel), List.mem_of_getElem? (i := 533) (by decide +kernel)⟩
theorem lw_p20 : lw_okq (⟨"DoorSchool$Reader", "readTwin", "(LDoorSchool$Plan;)V"⟩, 7) := ⟨⟨by decide +kernel, by decide +kernel⟩, List.mem_of_getElem? (i := 47) (by decide +kernel), List.mem_of_getElem? (i := 537) (by decide +kernel), List.mem_of_getElem? (i := 538) (by decide +kernel)⟩
theorem lw_p21 : lw_okq (⟨"DoorSchool$Plan", "isCopied", "(I)Z"⟩, 16) := ⟨⟨by decide +kernel, by decide +kernel⟩, List.mem_of_getElem? (i := 175) (by decide +kernel), List.mem_of_getElem? (i := 541) (by decide +kernel), List.mem_of_getElem? (i := 542) (by decide +kernel)⟩
theorem lw_p22 : lw_okq (⟨"DoorSchool$Reader", "readOwner", "(LDoorSchool$Plan;)V"⟩, 7) := ⟨⟨by decide +kernel, by decide +kernel⟩, List.mem_of_getElem? (i := 47) (by decide +kernel), List.mem_of_getElem? (i := 546) (by decide +kernel), List.mem_of_getElem? (i := 547) (by decide +kernel)⟩
theorem lw_p23 : lw_okq (⟨"DoorSchool$Reader", "takePart", "(I)I"⟩, 7) := ⟨⟨by decide +kernel, by decide +kernel⟩, List.mem_of_getElem? (i := 47) (by decide +kernel), List.mem_of_getElem? (i := 550) (by decide +kernel), List.mem_of_getElem? (i := 551) (by decide +kernel)⟩
theorem lw_p24 : lw_okq (⟨"DoorSchool$Reader", "readHouse", "(LDoorSchool$Plan;)V"⟩, 7) := ⟨⟨by decide +kernel, by decide +kernel⟩, List.mem_of_getElem? (i := 47) (by decide +kernel), List.mem_of_getElem? (i := 555) (by decide +kernel), List.mem_of_getElem? (i := 556) (by decide +kernel)⟩
theorem lw_p25 : lw_okq (⟨"DoorSchool$Reader", "readCourse", "(LDoorSchool$Plan;)V"⟩, 7) := ⟨⟨by decide +kernel, by decide +kernel⟩, List.mem_of_getElem? (i := 47) (by decide +kernel), List.mem_of_getElem? (i := 560) (by decide +kernel), List.mem_of_getElem? (i := 561) (by decide +kernel)⟩
theorem lw_p26 : lw_okq (⟨"DoorSchool$Reader", "readAhead", "(LDoorSchool$Plan;)V"⟩, 7) := ⟨⟨by decide +kernel, by decide +kernel⟩, List.mem_of_getElem? (i := 47) (by decide +kernel), List.mem_of_getElem? (i := 566) (by decide +kernel), List.mem_of_getElem? (i := 567) (by decide +kernel)⟩
theorem lw_p27 : lw_okq (⟨"DoorSchool$Rules", "prepare", "(I)V"⟩, 5) := ⟨⟨by decide +kernel, by decide +kernel⟩, List.mem_of_getElem? (i := 77) (by decide +kernel), List.mem_of_getElem? (i := 570) (by decide +kernel), List.mem_of_getElem? (i := 571) (by decide +kernel)⟩
theorem lw_p28 : lw_okq (⟨"DoorSchool$Rules", "addAllOf", "(I)V"⟩, 5) := ⟨⟨by decide +kernel, by decide +kernel⟩, List.mem_of_getElem? (i := 77) (by decide +kernel), List.mem_of_getElem? (i := 575) (by decide +kernel), List.mem_of_getElem? (i := 576) (by decide +kernel)⟩
theorem lw_p29 : lw_okq (⟨"DoorSchool$Rules", "deedsOf", "(II)I"⟩, 5) := ⟨⟨by decide +kernel, by decide +kernel⟩, List.mem_of_getElem? (i := 77) (by decide +kernel), List.mem_of_getElem? (i := 579) (by decide +kernel), List.mem_of_getElem? (i := 580) (by decide +kernel)⟩
theorem lw_p30 : lw_okq (⟨"DoorSchool$Plan", "isDoor", "(I)Z"⟩, 16) := ⟨⟨by decide +kernel, by decide +kernel⟩, List.mem_of_getElem? (i := 175) (by decide +kernel), List.mem_of_getElem? (i := 591) (by decide +kernel), List.mem_of_getElem? (i := 592) (by decide +kernel)⟩
theorem lw_p31 : lw_okq (⟨"DoorSchool$Plan", "exists", "()Z"⟩, 16) := ⟨⟨by decide +kernel, by decide +kernel⟩, List.mem_of_getElem? (i := 175) (by decide +kernel), List.mem_of_getElem? (i := 610) (by decide +kernel), List.mem_of_getElem? (i := 611) (by decide +kernel)⟩
def lw_privs_2 : List (MethodName × Nat) := [(⟨"DoorSchool$Plan", "knocks", "()I"⟩, 16), (⟨"DoorSchool$Lessons", "add", "(II)V"⟩, 3), (⟨"DoorSchool$Lessons", "putIn", "(III)V"⟩, 3), (⟨"DoorSchool$Reader", "readExam", "(LDoorSchool$Plan;)V"⟩, 7), (⟨"DoorSchool$Reader", "readTwin", "(LDoorSchool$Plan;)V"⟩, 7), (⟨"DoorSchool$Plan", "isCopied", "(I)Z"⟩, 16), (⟨"DoorSchool$Reader", "readOwner", "(LDoorSchool$Plan;)V"⟩, 7), (⟨"DoorSchool$Reader", "takePart", "(I)I"⟩, 7), (⟨"DoorSchool$Reader", "readHouse", "(LDoorSchool$Plan;)V"⟩, 7), (⟨"DoorSchool$Reader", "readCourse", "(LDoorSchool$Plan;)V"⟩, 7), (⟨"DoorSchool$Reader", "readAhead", "(LDoorSchool$Plan;)V"⟩, 7), (⟨"DoorSchool$Rules", "prepare", "(I)V"⟩, 5), (⟨"DoorSchool$Rules", "addAllOf", "(I)V"⟩, 5), (⟨"DoorSchool$Rules", "deedsOf", "(II)I"⟩, 5), (⟨"DoorSchool$Plan", "isDoor", "(I)Z"⟩, 16), (⟨"DoorSchool$Plan", "exists", "()Z"⟩, 16)]
theorem lw_r2 : ∀ q ∈ lw_privs_2, lw_okq q := List.forall_mem_cons.mpr ⟨lw_p16, List.forall_mem_cons.mpr ⟨lw_p17, List.forall_mem_cons.mpr ⟨lw_p18, List.forall_mem_cons.mpr ⟨lw_p19, List.forall_mem_cons.mpr ⟨lw_p20, List.forall_mem_cons.mpr ⟨lw_p21, List.forall_mem_cons.mpr ⟨lw_p22, List.forall_mem_cons.mpr ⟨lw_p23, List.forall_mem_cons.mpr ⟨lw_p24, List.forall_mem_cons.mpr ⟨lw_p25, List.forall_mem_cons.mpr ⟨lw_p26, List.forall_mem_cons.mpr ⟨lw_p27, List.forall_mem_cons.mpr ⟨lw_p28, List.forall_mem_cons.mpr ⟨lw_p29, List.forall_mem_cons.mpr ⟨lw_p30, List.forall_mem_cons.mpr ⟨lw_p31, fun _ h => absurd h List.not_mem_nil⟩⟩⟩⟩⟩⟩⟩⟩⟩⟩⟩⟩⟩⟩⟩⟩
theorem lw_p32 : lw_okq (⟨"DoorSchool$Plan", "isHouse", "(I)Z"⟩, 16) := ⟨⟨by decide +kernel, by decide +kernel⟩, List.mem_of_getElem? (i := 175) (by decide +kernel), List.mem_of_getElem? (i := 614) (by decide +kernel), List.mem_of_getElem? (i := 615) (by decide +kernel)⟩
theorem lw_p33 : lw_okq (⟨"DoorSchool$Plan", "isKnock", "(I)Z"⟩, 16) := ⟨⟨by decide +kernel, by decide +kernel⟩, List.mem_of_getElem? (i := 175) (by decide +kernel), List.mem_of_getElem? (i := 624) (by decide +kernel), List.mem_of_getElem? (i := 625) (by decide +kernel)⟩
theorem lw_p34 : lw_okq (⟨"DoorSchool", "doneBy", "(I)I"⟩, 11) := ⟨⟨by decide +kernel, by decide +kernel⟩, List.mem_of_getElem? (i := 22) (by decide +kernel), List.mem_of_getElem? (i := 630) (by decide +kernel), List.mem_of_getElem? (i := 631) (by decide +kernel)⟩
theorem lw_p35 : lw_okq (⟨"DoorSchool$Plan", "modelOf", "(I)LDoorSchool$Door;"⟩, 16) := ⟨⟨by decide +kernel, by decide +kernel⟩, List.mem_of_getElem? (i := 175) (by decide +kernel), List.mem_of_getElem? (i := 634) (by decide +kernel), List.mem_of_getElem? (i := 635) (by decide +kernel)⟩
theorem lw_p36 : lw_okq (⟨"DoorSchool$Learner", "learn", "(ILDoorSchool$Lessons;)I"⟩, 2) := ⟨⟨by decide +kernel, by decide +kernel⟩, List.mem_of_getElem? (i := 105) (by decide +kernel), List.mem_of_getElem? (i := 638) (by decide +kernel), List.mem_of_getElem? (i := 639) (by decide +kernel)⟩
theorem lw_p37 : lw_okq (⟨"DoorSchool$Lessons", "said", "(I)I"⟩, 3) := ⟨⟨by decide +kernel, by decide +kernel⟩, List.mem_of_getElem? (i := 183) (by decide +kernel), List.mem_of_getElem? (i := 642) (by decide +kernel), List.mem_of_getElem? (i := 643) (by decide +kernel)⟩
theorem lw_p38 : lw_okq (⟨"DoorSchool$Rules", "first", "(II)I"⟩, 5) := ⟨⟨by decide +kernel, by decide +kernel⟩, List.mem_of_getElem? (i := 77) (by decide +kernel), List.mem_of_getElem? (i := 646) (by decide +kernel), List.mem_of_getElem? (i := 647) (by decide +kernel)⟩
theorem lw_p39 : lw_okq (⟨"DoorSchool$Lessons", "latestOf", "(I)I"⟩, 3) := ⟨⟨by decide +kernel, by decide +kernel⟩, List.mem_of_getElem? (i := 183) (by decide +kernel), List.mem_of_getElem? (i := 653) (by decide +kernel), List.mem_of_getElem? (i := 654) (by decide +kernel)⟩
theorem lw_p40 : lw_okq (⟨"DoorSchool$Lessons", "nearestTo", "(I)I"⟩, 3) := ⟨⟨by decide +kernel, by decide +kernel⟩, List.mem_of_getElem? (i := 183) (by decide +kernel), List.mem_of_getElem? (i := 657) (by decide +kernel), List.mem_of_getElem? (i := 658) (by decide +kernel)⟩
theorem lw_p41 : lw_okq (⟨"DoorSchool$Rules", "howMany", "(II)I"⟩, 5) := ⟨⟨by decide +kernel, by decide +kernel⟩, List.mem_of_getElem? (i := 77) (by decide +kernel), List.mem_of_getElem? (i := 689) (by decide +kernel), List.mem_of_getElem? (i := 690) (by decide +kernel)⟩
theorem lw_p42 : lw_okq (⟨"DoorSchool$Plan", "isRule", "(II)Z"⟩, 16) := ⟨⟨by decide +kernel, by decide +kernel⟩, List.mem_of_getElem? (i := 175) (by decide +kernel), List.mem_of_getElem? (i := 697) (by decide +kernel), List.mem_of_getElem? (i := 698) (by decide +kernel)⟩
theorem lw_p43 : lw_okq (⟨"DoorSchool$Plan", "isDeeds", "(I)Z"⟩, 16) := ⟨⟨by decide +kernel, by decide +kernel⟩, List.mem_of_getElem? (i := 175) (by decide +kernel), List.mem_of_getElem? (i := 706) (by decide +kernel), List.mem_of_getElem? (i := 707) (by decide +kernel)⟩
theorem lw_p44 : lw_okq (⟨"DoorSchool$Rules", "placeOf", "(I)I"⟩, 5) := ⟨⟨by decide +kernel, by decide +kernel⟩, List.mem_of_getElem? (i := 77) (by decide +kernel), List.mem_of_getElem? (i := 710) (by decide +kernel), List.mem_of_getElem? (i := 711) (by decide +kernel)⟩
theorem lw_p45 : lw_okq (⟨"DoorSchool", "marksFor", "(I)I"⟩, 11) := ⟨⟨by decide +kernel, by decide +kernel⟩, List.mem_of_getElem? (i := 22) (by decide +kernel), List.mem_of_getElem? (i := 718) (by decide +kernel), List.mem_of_getElem? (i := 719) (by decide +kernel)⟩
theorem lw_p46 : lw_okq (⟨"DoorSchool$Lessons", "allAs", "(I)I"⟩, 3) := ⟨⟨by decide +kernel, by decide +kernel⟩, List.mem_of_getElem? (i := 183) (by decide +kernel), List.mem_of_getElem? (i := 722) (by decide +kernel), List.mem_of_getElem? (i := 723) (by decide +kernel)⟩
theorem lw_p47 : lw_okq (⟨"DoorSchool$Lessons", "firstNotAs", "(I)I"⟩, 3) := ⟨⟨by decide +kernel, by decide +kernel⟩, List.mem_of_getElem? (i := 183) (by decide +kernel), List.mem_of_getElem? (i := 731) (by decide +kernel), List.mem_of_getElem? (i := 732) (by decide +kernel)⟩
def lw_privs_3 : List (MethodName × Nat) := [(⟨"DoorSchool$Plan", "isHouse", "(I)Z"⟩, 16), (⟨"DoorSchool$Plan", "isKnock", "(I)Z"⟩, 16), (⟨"DoorSchool", "doneBy", "(I)I"⟩, 11), (⟨"DoorSchool$Plan", "modelOf", "(I)LDoorSchool$Door;"⟩, 16), (⟨"DoorSchool$Learner", "learn", "(ILDoorSchool$Lessons;)I"⟩, 2), (⟨"DoorSchool$Lessons", "said", "(I)I"⟩, 3), (⟨"DoorSchool$Rules", "first", "(II)I"⟩, 5), (⟨"DoorSchool$Lessons", "latestOf", "(I)I"⟩, 3), (⟨"DoorSchool$Lessons", "nearestTo", "(I)I"⟩, 3), (⟨"DoorSchool$Rules", "howMany", "(II)I"⟩, 5), (⟨"DoorSchool$Plan", "isRule", "(II)Z"⟩, 16), (⟨"DoorSchool$Plan", "isDeeds", "(I)Z"⟩, 16), (⟨"DoorSchool$Rules", "placeOf", "(I)I"⟩, 5), (⟨"DoorSchool", "marksFor", "(I)I"⟩, 11), (⟨"DoorSchool$Lessons", "allAs", "(I)I"⟩, 3), (⟨"DoorSchool$Lessons", "firstNotAs", "(I)I"⟩, 3)]
theorem lw_r3 : ∀ q ∈ lw_privs_3, lw_okq q := List.forall_mem_cons.mpr ⟨lw_p32, List.forall_mem_cons.mpr ⟨lw_p33, List.forall_mem_cons.mpr ⟨lw_p34, List.forall_mem_cons.mpr ⟨lw_p35, List.forall_mem_cons.mpr ⟨lw_p36, List.forall_mem_cons.mpr ⟨lw_p37, List.forall_mem_cons.mpr ⟨lw_p38, List.forall_mem_cons.mpr ⟨lw_p39, List.forall_mem_cons.mpr ⟨lw_p40, List.forall_mem_cons.mpr ⟨lw_p41, List.forall_mem_cons.mpr ⟨lw_p42, List.forall_mem_cons.mpr ⟨lw_p43, List.forall_mem_cons.mpr ⟨lw_p44, List.forall_mem_cons.mpr ⟨lw_p45, List.forall_mem_cons.mpr ⟨lw_p46, List.forall_mem_cons.mpr ⟨lw_p47, fun _ h => absurd h List.not_mem_nil⟩⟩⟩⟩⟩⟩⟩⟩⟩⟩⟩⟩⟩⟩⟩⟩
theorem lw_p48 : lw_okq (⟨"DoorSchool", "isLesson", "(III)Z"⟩, 11) := ⟨⟨by decide +kernel, by decide +kernel⟩, List.mem_of_getElem? (i := 22) (by decide +kernel), List.mem_of_getElem? (i := 747) (by decide +kernel), List.mem_of_getElem? (i := 748) (by decide +kernel)⟩
theorem lw_p49 : lw_okq (⟨"DoorSchool$Lessons", "dropLast", "()V"⟩, 3) := ⟨⟨by decide +kernel, by decide +kernel⟩, List.mem_of_getElem? (i := 183) (by decide +kernel), List.mem_of_getElem? (i := 756) (by decide +kernel), List.mem_of_getElem? (i := 757) (by decide +kernel)⟩
theorem lw_p50 : lw_okq (⟨"DoorSchool$Lessons", "takeOut", "(I)V"⟩, 3) := ⟨⟨by decide +kernel, by decide +kernel⟩, List.mem_of_getElem? (i := 183) (by decide +kernel), List.mem_of_getElem? (i := 760) (by decide +kernel), List.mem_of_getElem? (i := 761) (by decide +kernel)⟩
theorem lw_p51 : lw_okq (⟨"DoorSchool", "gainOf", "(III)I"⟩, 11) := ⟨⟨by decide +kernel, by decide +kernel⟩, List.mem_of_getElem? (i := 22) (by decide +kernel), List.mem_of_getElem? (i := 768) (by decide +kernel), List.mem_of_getElem? (i := 769) (by decide +kernel)⟩
theorem lw_p52 : lw_okq (⟨"DoorSchool$Learner", "leastSet", "(II)I"⟩, 2) := ⟨⟨by decide +kernel, by decide +kernel⟩, List.mem_of_getElem? (i := 105) (by decide +kernel), List.mem_of_getElem? (i := 790) (by decide +kernel), List.mem_of_getElem? (i := 791) (by decide +kernel)⟩
theorem lw_p53 : lw_okq (⟨"DoorSchool$Learner", "allKnocks", "()I"⟩, 2) := ⟨⟨by decide +kernel, by decide +kernel⟩, List.mem_of_getElem? (i := 105) (by decide +kernel), List.mem_of_getElem? (i := 794) (by decide +kernel), List.mem_of_getElem? (i := 795) (by decide +kernel)⟩
theorem lw_p54 : lw_okq (⟨"DoorSchool$Learner", "teaches", "(III)Z"⟩, 2) := ⟨⟨by decide +kernel, by decide +kernel⟩, List.mem_of_getElem? (i := 105) (by decide +kernel), List.mem_of_getElem? (i := 798) (by decide +kernel), List.mem_of_getElem? (i := 799) (by decide +kernel)⟩
theorem lw_p55 : lw_okq (⟨"DoorSchool$Learner", "learnSet", "(III)I"⟩, 2) := ⟨⟨by decide +kernel, by decide +kernel⟩, List.mem_of_getElem? (i := 105) (by decide +kernel), List.mem_of_getElem? (i := 802) (by decide +kernel), List.mem_of_getElem? (i := 803) (by decide +kernel)⟩
theorem lw_p56 : lw_okq (⟨"DoorSchool$Learner", "nearestOf", "(II)I"⟩, 2) := ⟨⟨by decide +kernel, by decide +kernel⟩, List.mem_of_getElem? (i := 105) (by decide +kernel), List.mem_of_getElem? (i := 806) (by decide +kernel), List.mem_of_getElem? (i := 807) (by decide +kernel)⟩
theorem lw_p57 : lw_okq (⟨"DoorSchool$Learner", "needed", "(II)I"⟩, 2) := ⟨⟨by decide +kernel, by decide +kernel⟩, List.mem_of_getElem? (i := 105) (by decide +kernel), List.mem_of_getElem? (i := 811) (by decide +kernel), List.mem_of_getElem? (i := 812) (by decide +kernel)⟩
theorem lw_p58 : lw_okq (⟨"DoorSchool$Learner", "setsOf", "(III)I"⟩, 2) := ⟨⟨by decide +kernel, by decide +kernel⟩, List.mem_of_getElem? (i := 105) (by decide +kernel), List.mem_of_getElem? (i := 827) (by decide +kernel), List.mem_of_getElem? (i := 828) (by decide +kernel)⟩
theorem lw_p59 : lw_okq (⟨"DoorSchool", "fooling", "(I)I"⟩, 11) := ⟨⟨by decide +kernel, by decide +kernel⟩, List.mem_of_getElem? (i := 22) (by decide +kernel), List.mem_of_getElem? (i := 839) (by decide +kernel), List.mem_of_getElem? (i := 840) (by decide +kernel)⟩
theorem lw_p60 : lw_okq (⟨"DoorSchool", "ownerDeeds", "()I"⟩, 11) := ⟨⟨by decide +kernel, by decide +kernel⟩, List.mem_of_getElem? (i := 22) (by decide +kernel), List.mem_of_getElem? (i := 843) (by decide +kernel), List.mem_of_getElem? (i := 844) (by decide +kernel)⟩
theorem lw_p61 : lw_okq (⟨"DoorSchool", "foolingAfter", "(II)I"⟩, 11) := ⟨⟨by decide +kernel, by decide +kernel⟩, List.mem_of_getElem? (i := 22) (by decide +kernel), List.mem_of_getElem? (i := 860) (by decide +kernel), List.mem_of_getElem? (i := 861) (by decide +kernel)⟩
theorem lw_p62 : lw_okq (⟨"DoorSchool", "stolenBy", "(II)I"⟩, 11) := ⟨⟨by decide +kernel, by decide +kernel⟩, List.mem_of_getElem? (i := 22) (by decide +kernel), List.mem_of_getElem? (i := 873) (by decide +kernel), List.mem_of_getElem? (i := 874) (by decide +kernel)⟩
theorem lw_p63 : lw_okq (⟨"DoorSchool", "wouldDo", "(II)I"⟩, 11) := ⟨⟨by decide +kernel, by decide +kernel⟩, List.mem_of_getElem? (i := 22) (by decide +kernel), List.mem_of_getElem? (i := 877) (by decide +kernel), List.mem_of_getElem? (i := 878) (by decide +kernel)⟩
def lw_privs_4 : List (MethodName × Nat) := [(⟨"DoorSchool", "isLesson", "(III)Z"⟩, 11), (⟨"DoorSchool$Lessons", "dropLast", "()V"⟩, 3), (⟨"DoorSchool$Lessons", "takeOut", "(I)V"⟩, 3), (⟨"DoorSchool", "gainOf", "(III)I"⟩, 11), (⟨"DoorSchool$Learner", "leastSet", "(II)I"⟩, 2), (⟨"DoorSchool$Learner", "allKnocks", "()I"⟩, 2), (⟨"DoorSchool$Learner", "teaches", "(III)Z"⟩, 2), (⟨"DoorSchool$Learner", "learnSet", "(III)I"⟩, 2), (⟨"DoorSchool$Learner", "nearestOf", "(II)I"⟩, 2), (⟨"DoorSchool$Learner", "needed", "(II)I"⟩, 2), (⟨"DoorSchool$Learner", "setsOf", "(III)I"⟩, 2), (⟨"DoorSchool", "fooling", "(I)I"⟩, 11), (⟨"DoorSchool", "ownerDeeds", "()I"⟩, 11), (⟨"DoorSchool", "foolingAfter", "(II)I"⟩, 11), (⟨"DoorSchool", "stolenBy", "(II)I"⟩, 11), (⟨"DoorSchool", "wouldDo", "(II)I"⟩, 11)]
theorem lw_r4 : ∀ q ∈ lw_privs_4, lw_okq q := List.forall_mem_cons.mpr ⟨lw_p48, List.forall_mem_cons.mpr ⟨lw_p49, List.forall_mem_cons.mpr ⟨lw_p50, List.forall_mem_cons.mpr ⟨lw_p51, List.forall_mem_cons.mpr ⟨lw_p52, List.forall_mem_cons.mpr ⟨lw_p53, List.forall_mem_cons.mpr ⟨lw_p54, List.forall_mem_cons.mpr ⟨lw_p55, List.forall_mem_cons.mpr ⟨lw_p56, List.forall_mem_cons.mpr ⟨lw_p57, List.forall_mem_cons.mpr ⟨lw_p58, List.forall_mem_cons.mpr ⟨lw_p59, List.forall_mem_cons.mpr ⟨lw_p60, List.forall_mem_cons.mpr ⟨lw_p61, List.forall_mem_cons.mpr ⟨lw_p62, List.forall_mem_cons.mpr ⟨lw_p63, fun _ h => absurd h List.not_mem_nil⟩⟩⟩⟩⟩⟩⟩⟩⟩⟩⟩⟩⟩⟩⟩⟩
theorem lw_p64 : lw_okq (⟨"DoorSchool", "isRest", "(III)Z"⟩, 11) := ⟨⟨by decide +kernel, by decide +kernel⟩, List.mem_of_getElem? (i := 22) (by decide +kernel), List.mem_of_getElem? (i := 885) (by decide +kernel), List.mem_of_getElem? (i := 886) (by decide +kernel)⟩
theorem lw_p65 : lw_okq (⟨"DoorSchool$Learner", "errorsBy", "(II)I"⟩, 2) := ⟨⟨by decide +kernel, by decide +kernel⟩, List.mem_of_getElem? (i := 105) (by decide +kernel), List.mem_of_getElem? (i := 901) (by decide +kernel), List.mem_of_getElem? (i := 902) (by decide +kernel)⟩
theorem lw_p66 : lw_okq (⟨"DoorSchool$Learner", "learntWhole", "(II)I"⟩, 2) := ⟨⟨by decide +kernel, by decide +kernel⟩, List.mem_of_getElem? (i := 105) (by decide +kernel), List.mem_of_getElem? (i := 909) (by decide +kernel), List.mem_of_getElem? (i := 910) (by decide +kernel)⟩
theorem lw_p67 : lw_okq (⟨"DoorSchool", "troubleWith", "(I)I"⟩, 11) := ⟨⟨by decide +kernel, by decide +kernel⟩, List.mem_of_getElem? (i := 22) (by decide +kernel), List.mem_of_getElem? (i := 921) (by decide +kernel), List.mem_of_getElem? (i := 922) (by decide +kernel)⟩
theorem lw_p68 : lw_okq (⟨"DoorSchool$Slot", "isPairs", "(I)Z"⟩, 4) := ⟨⟨by decide +kernel, by decide +kernel⟩, List.mem_of_getElem? (i := 315) (by decide +kernel), List.mem_of_getElem? (i := 928) (by decide +kernel), List.mem_of_getElem? (i := 929) (by decide +kernel)⟩
theorem lw_p69 : lw_okq (⟨"DoorSchool$Slot", "said", "(I)I"⟩, 4) := ⟨⟨by decide +kernel, by decide +kernel⟩, List.mem_of_getElem? (i := 315) (by decide +kernel), List.mem_of_getElem? (i := 932) (by decide +kernel), List.mem_of_getElem? (i := 933) (by decide +kernel)⟩
theorem lw_p70 : lw_okq (⟨"DoorSchool", "hangAll", "()Z"⟩, 11) := ⟨⟨by decide +kernel, by decide +kernel⟩, List.mem_of_getElem? (i := 22) (by decide +kernel), List.mem_of_getElem? (i := 950) (by decide +kernel), List.mem_of_getElem? (i := 951) (by decide +kernel)⟩
theorem lw_p71 : lw_okq (⟨"DoorSchool", "houseDeeds", "(I)I"⟩, 11) := ⟨⟨by decide +kernel, by decide +kernel⟩, List.mem_of_getElem? (i := 22) (by decide +kernel), List.mem_of_getElem? (i := 954) (by decide +kernel), List.mem_of_getElem? (i := 955) (by decide +kernel)⟩
theorem lw_p72 : lw_okq (⟨"DoorSchool$Hanging", "search", "(II)V"⟩, 6) := ⟨⟨by decide +kernel, by decide +kernel⟩, List.mem_of_getElem? (i := 124) (by decide +kernel), List.mem_of_getElem? (i := 958) (by decide +kernel), List.mem_of_getElem? (i := 959) (by decide +kernel)⟩
theorem lw_p73 : lw_okq (⟨"DoorSchool$Hanging", "keepIfBetter", "(I)V"⟩, 6) := ⟨⟨by decide +kernel, by decide +kernel⟩, List.mem_of_getElem? (i := 124) (by decide +kernel), List.mem_of_getElem? (i := 965) (by decide +kernel), List.mem_of_getElem? (i := 966) (by decide +kernel)⟩
theorem lw_p74 : lw_okq (⟨"DoorSchool$Rules", "surely", "(IIZ)I"⟩, 5) := ⟨⟨by decide +kernel, by decide +kernel⟩, List.mem_of_getElem? (i := 77) (by decide +kernel), List.mem_of_getElem? (i := 989) (by decide +kernel), List.mem_of_getElem? (i := 990) (by decide +kernel)⟩
theorem lw_p75 : lw_okq (⟨"DoorSchool", "askedOf", "(LDoorSchool$Slot;)I"⟩, 11) := ⟨⟨by decide +kernel, by decide +kernel⟩, List.mem_of_getElem? (i := 22) (by decide +kernel), List.mem_of_getElem? (i := 997) (by decide +kernel), List.mem_of_getElem? (i := 998) (by decide +kernel)⟩
theorem lw_p76 : lw_okq (⟨"DoorSchool", "leftAtWorst", "(LDoorSchool$Slot;I)I"⟩, 11) := ⟨⟨by decide +kernel, by decide +kernel⟩, List.mem_of_getElem? (i := 22) (by decide +kernel), List.mem_of_getElem? (i := 1001) (by decide +kernel), List.mem_of_getElem? (i := 1002) (by decide +kernel)⟩
theorem lw_p77 : lw_okq (⟨"DoorSchool$Timetable", "solve", "(LDoorSchool$Plan;I)I"⟩, 5) := ⟨⟨by decide +kernel, by decide +kernel⟩, List.mem_of_getElem? (i := 152) (by decide +kernel), List.mem_of_getElem? (i := 1017) (by decide +kernel), List.mem_of_getElem? (i := 1018) (by decide +kernel)⟩
theorem lw_p78 : lw_okq (⟨"DoorSchool$Timetable", "keepIfFirst", "(I)V"⟩, 5) := ⟨⟨by decide +kernel, by decide +kernel⟩, List.mem_of_getElem? (i := 152) (by decide +kernel), List.mem_of_getElem? (i := 1025) (by decide +kernel), List.mem_of_getElem? (i := 1026) (by decide +kernel)⟩
theorem lw_p79 : lw_okq (⟨"DoorSchool$Timetable", "isEarlier", "()Z"⟩, 5) := ⟨⟨by decide +kernel, by decide +kernel⟩, List.mem_of_getElem? (i := 152) (by decide +kernel), List.mem_of_getElem? (i := 1029) (by decide +kernel), List.mem_of_getElem? (i := 1030) (by decide +kernel)⟩
def lw_privs_5 : List (MethodName × Nat) := [(⟨"DoorSchool", "isRest", "(III)Z"⟩, 11), (⟨"DoorSchool$Learner", "errorsBy", "(II)I"⟩, 2), (⟨"DoorSchool$Learner", "learntWhole", "(II)I"⟩, 2), (⟨"DoorSchool", "troubleWith", "(I)I"⟩, 11), (⟨"DoorSchool$Slot", "isPairs", "(I)Z"⟩, 4), (⟨"DoorSchool$Slot", "said", "(I)I"⟩, 4), (⟨"DoorSchool", "hangAll", "()Z"⟩, 11), (⟨"DoorSchool", "houseDeeds", "(I)I"⟩, 11), (⟨"DoorSchool$Hanging", "search", "(II)V"⟩, 6), (⟨"DoorSchool$Hanging", "keepIfBetter", "(I)V"⟩, 6), (⟨"DoorSchool$Rules", "surely", "(IIZ)I"⟩, 5), (⟨"DoorSchool", "askedOf", "(LDoorSchool$Slot;)I"⟩, 11), (⟨"DoorSchool", "leftAtWorst", "(LDoorSchool$Slot;I)I"⟩, 11), (⟨"DoorSchool$Timetable", "solve", "(LDoorSchool$Plan;I)I"⟩, 5), (⟨"DoorSchool$Timetable", "keepIfFirst", "(I)V"⟩, 5), (⟨"DoorSchool$Timetable", "isEarlier", "()Z"⟩, 5)]
theorem lw_r5 : ∀ q ∈ lw_privs_5, lw_okq q := List.forall_mem_cons.mpr ⟨lw_p64, List.forall_mem_cons.mpr ⟨lw_p65, List.forall_mem_cons.mpr ⟨lw_p66, List.forall_mem_cons.mpr ⟨lw_p67, List.forall_mem_cons.mpr ⟨lw_p68, List.forall_mem_cons.mpr ⟨lw_p69, List.forall_mem_cons.mpr ⟨lw_p70, List.forall_mem_cons.mpr ⟨lw_p71, List.forall_mem_cons.mpr ⟨lw_p72, List.forall_mem_cons.mpr ⟨lw_p73, List.forall_mem_cons.mpr ⟨lw_p74, List.forall_mem_cons.mpr ⟨lw_p75, List.forall_mem_cons.mpr ⟨lw_p76, List.forall_mem_cons.mpr ⟨lw_p77, List.forall_mem_cons.mpr ⟨lw_p78, List.forall_mem_cons.mpr ⟨lw_p79, fun _ h => absurd h List.not_mem_nil⟩⟩⟩⟩⟩⟩⟩⟩⟩⟩⟩⟩⟩⟩⟩⟩
theorem lw_p80 : lw_okq (⟨"DoorSchool$Timetable", "earliest", "(LDoorSchool$Plan;I)I"⟩, 5) := ⟨⟨by decide +kernel, by decide +kernel⟩, List.mem_of_getElem? (i := 152) (by decide +kernel), List.mem_of_getElem? (i := 1035) (by decide +kernel), List.mem_of_getElem? (i := 1036) (by decide +kernel)⟩
theorem lw_p81 : lw_okq (⟨"DoorSchool$Timetable", "readyAt", "(LDoorSchool$Plan;I)I"⟩, 5) := ⟨⟨by decide +kernel, by decide +kernel⟩, List.mem_of_getElem? (i := 152) (by decide +kernel), List.mem_of_getElem? (i := 1039) (by decide +kernel), List.mem_of_getElem? (i := 1040) (by decide +kernel)⟩
theorem lw_p82 : lw_okq (⟨"DoorSchool$Timetable", "work", "(III)V"⟩, 5) := ⟨⟨by decide +kernel, by decide +kernel⟩, List.mem_of_getElem? (i := 152) (by decide +kernel), List.mem_of_getElem? (i := 1044) (by decide +kernel), List.mem_of_getElem? (i := 1045) (by decide +kernel)⟩
theorem lw_p83 : lw_okq (⟨"DoorSchool", "doneInStorm", "(II)I"⟩, 11) := ⟨⟨by decide +kernel, by decide +kernel⟩, List.mem_of_getElem? (i := 22) (by decide +kernel), List.mem_of_getElem? (i := 1072) (by decide +kernel), List.mem_of_getElem? (i := 1073) (by decide +kernel)⟩
theorem lw_p84 : lw_okq (⟨"DoorSchool", "fullSlots", "()I"⟩, 11) := ⟨⟨by decide +kernel, by decide +kernel⟩, List.mem_of_getElem? (i := 22) (by decide +kernel), List.mem_of_getElem? (i := 1089) (by decide +kernel), List.mem_of_getElem? (i := 1090) (by decide +kernel)⟩
theorem lw_p85 : lw_okq (⟨"DoorSchool$Plan", "takeFrom", "(LDoorSchool$Plan;)V"⟩, 16) := ⟨⟨by decide +kernel, by decide +kernel⟩, List.mem_of_getElem? (i := 175) (by decide +kernel), List.mem_of_getElem? (i := 1097) (by decide +kernel), List.mem_of_getElem? (i := 1098) (by decide +kernel)⟩
theorem lw_p86 : lw_okq (⟨"DoorSchool$Door", "takeFrom", "(LDoorSchool$Door;)V"⟩, 4) := ⟨⟨by decide +kernel, by decide +kernel⟩, List.mem_of_getElem? (i := 205) (by decide +kernel), List.mem_of_getElem? (i := 1101) (by decide +kernel), List.mem_of_getElem? (i := 1102) (by decide +kernel)⟩
theorem lw_p87 : lw_okq (⟨"DoorSchool$Lessons", "takeFrom", "(LDoorSchool$Lessons;)V"⟩, 3) := ⟨⟨by decide +kernel, by decide +kernel⟩, List.mem_of_getElem? (i := 183) (by decide +kernel), List.mem_of_getElem? (i := 1106) (by decide +kernel), List.mem_of_getElem? (i := 1107) (by decide +kernel)⟩
theorem lw_p88 : lw_okq (⟨"DoorSchool$Slot", "begin", "(II)V"⟩, 4) := ⟨⟨by decide +kernel, by decide +kernel⟩, List.mem_of_getElem? (i := 315) (by decide +kernel), List.mem_of_getElem? (i := 1121) (by decide +kernel), List.mem_of_getElem? (i := 1122) (by decide +kernel)⟩
theorem lw_p89 : lw_okq (⟨"DoorSchool$Slot", "put", "(IJ)V"⟩, 4) := ⟨⟨by decide +kernel, by decide +kernel⟩, List.mem_of_getElem? (i := 315) (by decide +kernel), List.mem_of_getElem? (i := 1132) (by decide +kernel), List.mem_of_getElem? (i := 1133) (by decide +kernel)⟩
theorem lw_p90 : lw_okq (⟨"DoorSchool$Slot", "has", "(II)Z"⟩, 4) := ⟨⟨by decide +kernel, by decide +kernel⟩, List.mem_of_getElem? (i := 315) (by decide +kernel), List.mem_of_getElem? (i := 1140) (by decide +kernel), List.mem_of_getElem? (i := 1141) (by decide +kernel)⟩
theorem lw_p91 : lw_okq (⟨"DoorSchoolModel", "advance", "()V"⟩, 36) := ⟨⟨by decide +kernel, by decide +kernel⟩, List.mem_of_getElem? (i := 1145) (by decide +kernel), List.mem_of_getElem? (i := 1287) (by decide +kernel), List.mem_of_getElem? (i := 1288) (by decide +kernel)⟩
theorem lw_p92 : lw_okq (⟨"DoorSchoolModel", "see", "(I)I"⟩, 36) := ⟨⟨by decide +kernel, by decide +kernel⟩, List.mem_of_getElem? (i := 1145) (by decide +kernel), List.mem_of_getElem? (i := 1291) (by decide +kernel), List.mem_of_getElem? (i := 1292) (by decide +kernel)⟩
theorem lw_p93 : lw_okq (⟨"DoorSchoolModel", "good", "()Z"⟩, 36) := ⟨⟨by decide +kernel, by decide +kernel⟩, List.mem_of_getElem? (i := 1145) (by decide +kernel), List.mem_of_getElem? (i := 1301) (by decide +kernel), List.mem_of_getElem? (i := 1302) (by decide +kernel)⟩
theorem lw_p94 : lw_okq (⟨"DoorSchoolModel", "readLine", "()V"⟩, 36) := ⟨⟨by decide +kernel, by decide +kernel⟩, List.mem_of_getElem? (i := 1145) (by decide +kernel), List.mem_of_getElem? (i := 1305) (by decide +kernel), List.mem_of_getElem? (i := 1306) (by decide +kernel)⟩
theorem lw_p95 : lw_okq (⟨"DoorSchoolModel", "needs", "(Ljava/lang/String;)V"⟩, 36) := ⟨⟨by decide +kernel, by decide +kernel⟩, List.mem_of_getElem? (i := 1145) (by decide +kernel), List.mem_of_getElem? (i := 1310) (by decide +kernel), List.mem_of_getElem? (i := 1311) (by decide +kernel)⟩
def lw_privs_6 : List (MethodName × Nat) := [(⟨"DoorSchool$Timetable", "earliest", "(LDoorSchool$Plan;I)I"⟩, 5), (⟨"DoorSchool$Timetable", "readyAt", "(LDoorSchool$Plan;I)I"⟩, 5), (⟨"DoorSchool$Timetable", "work", "(III)V"⟩, 5), (⟨"DoorSchool", "doneInStorm", "(II)I"⟩, 11), (⟨"DoorSchool", "fullSlots", "()I"⟩, 11), (⟨"DoorSchool$Plan", "takeFrom", "(LDoorSchool$Plan;)V"⟩, 16), (⟨"DoorSchool$Door", "takeFrom", "(LDoorSchool$Door;)V"⟩, 4), (⟨"DoorSchool$Lessons", "takeFrom", "(LDoorSchool$Lessons;)V"⟩, 3), (⟨"DoorSchool$Slot", "begin", "(II)V"⟩, 4), (⟨"DoorSchool$Slot", "put", "(IJ)V"⟩, 4), (⟨"DoorSchool$Slot", "has", "(II)Z"⟩, 4), (⟨"DoorSchoolModel", "advance", "()V"⟩, 36), (⟨"DoorSchoolModel", "see", "(I)I"⟩, 36), (⟨"DoorSchoolModel", "good", "()Z"⟩, 36), (⟨"DoorSchoolModel", "readLine", "()V"⟩, 36), (⟨"DoorSchoolModel", "needs", "(Ljava/lang/String;)V"⟩, 36)]
theorem lw_r6 : ∀ q ∈ lw_privs_6, lw_okq q := List.forall_mem_cons.mpr ⟨lw_p80, List.forall_mem_cons.mpr ⟨lw_p81, List.forall_mem_cons.mpr ⟨lw_p82, List.forall_mem_cons.mpr ⟨lw_p83, List.forall_mem_cons.mpr ⟨lw_p84, List.forall_mem_cons.mpr ⟨lw_p85, List.forall_mem_cons.mpr ⟨lw_p86, List.forall_mem_cons.mpr ⟨lw_p87, List.forall_mem_cons.mpr ⟨lw_p88, List.forall_mem_cons.mpr ⟨lw_p89, List.forall_mem_cons.mpr ⟨lw_p90, List.forall_mem_cons.mpr ⟨lw_p91, List.forall_mem_cons.mpr ⟨lw_p92, List.forall_mem_cons.mpr ⟨lw_p93, List.forall_mem_cons.mpr ⟨lw_p94, List.forall_mem_cons.mpr ⟨lw_p95, fun _ h => absurd h List.not_mem_nil⟩⟩⟩⟩⟩⟩⟩⟩⟩⟩⟩⟩⟩⟩⟩⟩
theorem lw_p96 : lw_okq (⟨"DoorSchoolModel", "takes", "(Ljava/lang/String;)Z"⟩, 36) := ⟨⟨by decide +kernel, by decide +kernel⟩, List.mem_of_getElem? (i := 1145) (by decide +kernel), List.mem_of_getElem? (i := 1314) (by decide +kernel), List.mem_of_getElem? (i := 1315) (by decide +kernel)⟩
theorem lw_p97 : lw_okq (⟨"DoorSchoolModel", "is", "(Ljava/lang/String;)Z"⟩, 36) := ⟨⟨by decide +kernel, by decide +kernel⟩, List.mem_of_getElem? (i := 1145) (by decide +kernel), List.mem_of_getElem? (i := 1318) (by decide +kernel), List.mem_of_getElem? (i := 1319) (by decide +kernel)⟩
theorem lw_p98 : lw_okq (⟨"DoorSchoolModel", "errs", "(I)V"⟩, 36) := ⟨⟨by decide +kernel, by decide +kernel⟩, List.mem_of_getElem? (i := 1145) (by decide +kernel), List.mem_of_getElem? (i := 1324) (by decide +kernel), List.mem_of_getElem? (i := 1325) (by decide +kernel)⟩
theorem lw_p99 : lw_okq (⟨"DoorSchoolModel", "told", "(Ljava/lang/String;II)I"⟩, 36) := ⟨⟨by decide +kernel, by decide +kernel⟩, List.mem_of_getElem? (i := 1145) (by decide +kernel), List.mem_of_getElem? (i := 1329) (by decide +kernel), List.mem_of_getElem? (i := 1330) (by decide +kernel)⟩
theorem lw_p100 : lw_okq (⟨"DoorSchoolModel", "number", "(II)I"⟩, 36) := ⟨⟨by decide +kernel, by decide +kernel⟩, List.mem_of_getElem? (i := 1145) (by decide +kernel), List.mem_of_getElem? (i := 1333) (by decide +kernel), List.mem_of_getElem? (i := 1334) (by decide +kernel)⟩
theorem lw_p101 : lw_okq (⟨"DoorSchoolModel", "readNext", "()V"⟩, 36) := ⟨⟨by decide +kernel, by decide +kernel⟩, List.mem_of_getElem? (i := 1145) (by decide +kernel), List.mem_of_getElem? (i := 1338) (by decide +kernel), List.mem_of_getElem? (i := 1339) (by decide +kernel)⟩
theorem lw_p102 : lw_okq (⟨"DoorSchoolModel", "readDoor", "()V"⟩, 36) := ⟨⟨by decide +kernel, by decide +kernel⟩, List.mem_of_getElem? (i := 1145) (by decide +kernel), List.mem_of_getElem? (i := 1350) (by decide +kernel), List.mem_of_getElem? (i := 1351) (by decide +kernel)⟩
theorem lw_p103 : lw_okq (⟨"DoorSchoolModel", "readLesson", "()V"⟩, 36) := ⟨⟨by decide +kernel, by decide +kernel⟩, List.mem_of_getElem? (i := 1145) (by decide +kernel), List.mem_of_getElem? (i := 1358) (by decide +kernel), List.mem_of_getElem? (i := 1359) (by decide +kernel)⟩
theorem lw_p104 : lw_okq (⟨"DoorSchoolModel", "isNextIn", "(I)Z"⟩, 36) := ⟨⟨by decide +kernel, by decide +kernel⟩, List.mem_of_getElem? (i := 1145) (by decide +kernel), List.mem_of_getElem? (i := 1362) (by decide +kernel), List.mem_of_getElem? (i := 1363) (by decide +kernel)⟩
theorem lw_p105 : lw_okq (⟨"DoorSchoolModel", "freshKnock", "()I"⟩, 36) := ⟨⟨by decide +kernel, by decide +kernel⟩, List.mem_of_getElem? (i := 1145) (by decide +kernel), List.mem_of_getElem? (i := 1366) (by decide +kernel), List.mem_of_getElem? (i := 1367) (by decide +kernel)⟩
theorem lw_p106 : lw_okq (⟨"DoorSchoolModel", "deed", "()I"⟩, 36) := ⟨⟨by decide +kernel, by decide +kernel⟩, List.mem_of_getElem? (i := 1145) (by decide +kernel), List.mem_of_getElem? (i := 1370) (by decide +kernel), List.mem_of_getElem? (i := 1371) (by decide +kernel)⟩
theorem lw_p107 : lw_okq (⟨"DoorSchoolModel", "readTwin", "()V"⟩, 36) := ⟨⟨by decide +kernel, by decide +kernel⟩, List.mem_of_getElem? (i := 1145) (by decide +kernel), List.mem_of_getElem? (i := 1379) (by decide +kernel), List.mem_of_getElem? (i := 1380) (by decide +kernel)⟩
theorem lw_p108 : lw_okq (⟨"DoorSchoolModel", "doesFreshCopy", "(I)Z"⟩, 36) := ⟨⟨by decide +kernel, by decide +kernel⟩, List.mem_of_getElem? (i := 1145) (by decide +kernel), List.mem_of_getElem? (i := 1383) (by decide +kernel), List.mem_of_getElem? (i := 1384) (by decide +kernel)⟩
theorem lw_p109 : lw_okq (⟨"DoorSchoolModel", "isFreshCopied", "(I)Z"⟩, 36) := ⟨⟨by decide +kernel, by decide +kernel⟩, List.mem_of_getElem? (i := 1145) (by decide +kernel), List.mem_of_getElem? (i := 1387) (by decide +kernel), List.mem_of_getElem? (i := 1388) (by decide +kernel)⟩
theorem lw_p110 : lw_okq (⟨"DoorSchoolModel", "readRule", "(I)V"⟩, 36) := ⟨⟨by decide +kernel, by decide +kernel⟩, List.mem_of_getElem? (i := 1145) (by decide +kernel), List.mem_of_getElem? (i := 1391) (by decide +kernel), List.mem_of_getElem? (i := 1392) (by decide +kernel)⟩
theorem lw_p111 : lw_okq (⟨"DoorSchoolModel", "isDoor", "(I)Z"⟩, 36) := ⟨⟨by decide +kernel, by decide +kernel⟩, List.mem_of_getElem? (i := 1145) (by decide +kernel), List.mem_of_getElem? (i := 1400) (by decide +kernel), List.mem_of_getElem? (i := 1401) (by decide +kernel)⟩
def lw_privs_7 : List (MethodName × Nat) := [(⟨"DoorSchoolModel", "takes", "(Ljava/lang/String;)Z"⟩, 36), (⟨"DoorSchoolModel", "is", "(Ljava/lang/String;)Z"⟩, 36), (⟨"DoorSchoolModel", "errs", "(I)V"⟩, 36), (⟨"DoorSchoolModel", "told", "(Ljava/lang/String;II)I"⟩, 36), (⟨"DoorSchoolModel", "number", "(II)I"⟩, 36), (⟨"DoorSchoolModel", "readNext", "()V"⟩, 36), (⟨"DoorSchoolModel", "readDoor", "()V"⟩, 36), (⟨"DoorSchoolModel", "readLesson", "()V"⟩, 36), (⟨"DoorSchoolModel", "isNextIn", "(I)Z"⟩, 36), (⟨"DoorSchoolModel", "freshKnock", "()I"⟩, 36), (⟨"DoorSchoolModel", "deed", "()I"⟩, 36), (⟨"DoorSchoolModel", "readTwin", "()V"⟩, 36), (⟨"DoorSchoolModel", "doesFreshCopy", "(I)Z"⟩, 36), (⟨"DoorSchoolModel", "isFreshCopied", "(I)Z"⟩, 36), (⟨"DoorSchoolModel", "readRule", "(I)V"⟩, 36), (⟨"DoorSchoolModel", "isDoor", "(I)Z"⟩, 36)]
theorem lw_r7 : ∀ q ∈ lw_privs_7, lw_okq q := List.forall_mem_cons.mpr ⟨lw_p96, List.forall_mem_cons.mpr ⟨lw_p97, List.forall_mem_cons.mpr ⟨lw_p98, List.forall_mem_cons.mpr ⟨lw_p99, List.forall_mem_cons.mpr ⟨lw_p100, List.forall_mem_cons.mpr ⟨lw_p101, List.forall_mem_cons.mpr ⟨lw_p102, List.forall_mem_cons.mpr ⟨lw_p103, List.forall_mem_cons.mpr ⟨lw_p104, List.forall_mem_cons.mpr ⟨lw_p105, List.forall_mem_cons.mpr ⟨lw_p106, List.forall_mem_cons.mpr ⟨lw_p107, List.forall_mem_cons.mpr ⟨lw_p108, List.forall_mem_cons.mpr ⟨lw_p109, List.forall_mem_cons.mpr ⟨lw_p110, List.forall_mem_cons.mpr ⟨lw_p111, fun _ h => absurd h List.not_mem_nil⟩⟩⟩⟩⟩⟩⟩⟩⟩⟩⟩⟩⟩⟩⟩⟩
theorem lw_p112 : lw_okq (⟨"DoorSchoolModel", "of", "(II)I"⟩, 36) := ⟨⟨by decide +kernel, by decide +kernel⟩, List.mem_of_getElem? (i := 1145) (by decide +kernel), List.mem_of_getElem? (i := 1405) (by decide +kernel), List.mem_of_getElem? (i := 1406) (by decide +kernel)⟩
theorem lw_p113 : lw_okq (⟨"DoorSchoolModel", "isExam", "(I)Z"⟩, 36) := ⟨⟨by decide +kernel, by decide +kernel⟩, List.mem_of_getElem? (i := 1145) (by decide +kernel), List.mem_of_getElem? (i := 1417) (by decide +kernel), List.mem_of_getElem? (i := 1418) (by decide +kernel)⟩
theorem lw_p114 : lw_okq (⟨"DoorSchoolModel", "isSchool", "()Z"⟩, 36) := ⟨⟨by decide +kernel, by decide +kernel⟩, List.mem_of_getElem? (i := 1145) (by decide +kernel), List.mem_of_getElem? (i := 1425) (by decide +kernel), List.mem_of_getElem? (i := 1426) (by decide +kernel)⟩
theorem lw_p115 : lw_okq (⟨"DoorSchoolModel", "isHouse", "(I)Z"⟩, 36) := ⟨⟨by decide +kernel, by decide +kernel⟩, List.mem_of_getElem? (i := 1145) (by decide +kernel), List.mem_of_getElem? (i := 1429) (by decide +kernel), List.mem_of_getElem? (i := 1430) (by decide +kernel)⟩
theorem lw_p116 : lw_okq (⟨"DoorSchoolModel", "deedsOf", "(II)I"⟩, 36) := ⟨⟨by decide +kernel, by decide +kernel⟩, List.mem_of_getElem? (i := 1145) (by decide +kernel), List.mem_of_getElem? (i := 1433) (by decide +kernel), List.mem_of_getElem? (i := 1434) (by decide +kernel)⟩
theorem lw_p117 : lw_okq (⟨"DoorSchoolModel", "knocks", "()I"⟩, 36) := ⟨⟨by decide +kernel, by decide +kernel⟩, List.mem_of_getElem? (i := 1145) (by decide +kernel), List.mem_of_getElem? (i := 1437) (by decide +kernel), List.mem_of_getElem? (i := 1438) (by decide +kernel)⟩
theorem lw_p118 : lw_okq (⟨"DoorSchoolModel", "isKnock", "(J)Z"⟩, 36) := ⟨⟨by decide +kernel, by decide +kernel⟩, List.mem_of_getElem? (i := 1145) (by decide +kernel), List.mem_of_getElem? (i := 1452) (by decide +kernel), List.mem_of_getElem? (i := 1453) (by decide +kernel)⟩
theorem lw_p119 : lw_okq (⟨"DoorSchoolModel", "deedsOfDoor", "(I)I"⟩, 36) := ⟨⟨by decide +kernel, by decide +kernel⟩, List.mem_of_getElem? (i := 1145) (by decide +kernel), List.mem_of_getElem? (i := 1456) (by decide +kernel), List.mem_of_getElem? (i := 1457) (by decide +kernel)⟩
theorem lw_p120 : lw_okq (⟨"DoorSchoolModel", "layRules", "()V"⟩, 36) := ⟨⟨by decide +kernel, by decide +kernel⟩, List.mem_of_getElem? (i := 1145) (by decide +kernel), List.mem_of_getElem? (i := 1460) (by decide +kernel), List.mem_of_getElem? (i := 1461) (by decide +kernel)⟩
theorem lw_p121 : lw_okq (⟨"DoorSchoolModel", "real", "(I)I"⟩, 36) := ⟨⟨by decide +kernel, by decide +kernel⟩, List.mem_of_getElem? (i := 1145) (by decide +kernel), List.mem_of_getElem? (i := 1464) (by decide +kernel), List.mem_of_getElem? (i := 1465) (by decide +kernel)⟩
theorem lw_p122 : lw_okq (⟨"DoorSchoolModel", "layLessons", "(I)V"⟩, 36) := ⟨⟨by decide +kernel, by decide +kernel⟩, List.mem_of_getElem? (i := 1145) (by decide +kernel), List.mem_of_getElem? (i := 1468) (by decide +kernel), List.mem_of_getElem? (i := 1469) (by decide +kernel)⟩
theorem lw_p123 : lw_okq (⟨"DoorSchoolModel", "add", "(II)V"⟩, 36) := ⟨⟨by decide +kernel, by decide +kernel⟩, List.mem_of_getElem? (i := 1145) (by decide +kernel), List.mem_of_getElem? (i := 1472) (by decide +kernel), List.mem_of_getElem? (i := 1473) (by decide +kernel)⟩
theorem lw_p124 : lw_okq (⟨"DoorSchoolModel", "learns", "(I)I"⟩, 36) := ⟨⟨by decide +kernel, by decide +kernel⟩, List.mem_of_getElem? (i := 1145) (by decide +kernel), List.mem_of_getElem? (i := 1476) (by decide +kernel), List.mem_of_getElem? (i := 1477) (by decide +kernel)⟩
theorem lw_p125 : lw_okq (⟨"DoorSchoolModel", "firstRule", "()I"⟩, 36) := ⟨⟨by decide +kernel, by decide +kernel⟩, List.mem_of_getElem? (i := 1145) (by decide +kernel), List.mem_of_getElem? (i := 1480) (by decide +kernel), List.mem_of_getElem? (i := 1481) (by decide +kernel)⟩
theorem lw_p126 : lw_okq (⟨"DoorSchoolModel", "isAsTold", "(I)Z"⟩, 36) := ⟨⟨by decide +kernel, by decide +kernel⟩, List.mem_of_getElem? (i := 1145) (by decide +kernel), List.mem_of_getElem? (i := 1484) (by decide +kernel), List.mem_of_getElem? (i := 1485) (by decide +kernel)⟩
theorem lw_p127 : lw_okq (⟨"DoorSchoolModel", "byLesson", "(II)I"⟩, 36) := ⟨⟨by decide +kernel, by decide +kernel⟩, List.mem_of_getElem? (i := 1145) (by decide +kernel), List.mem_of_getElem? (i := 1491) (by decide +kernel), List.mem_of_getElem? (i := 1492) (by decide +kernel)⟩
def lw_privs_8 : List (MethodName × Nat) := [(⟨"DoorSchoolModel", "of", "(II)I"⟩, 36), (⟨"DoorSchoolModel", "isExam", "(I)Z"⟩, 36), (⟨"DoorSchoolModel", "isSchool", "()Z"⟩, 36), (⟨"DoorSchoolModel", "isHouse", "(I)Z"⟩, 36), (⟨"DoorSchoolModel", "deedsOf", "(II)I"⟩, 36), (⟨"DoorSchoolModel", "knocks", "()I"⟩, 36), (⟨"DoorSchoolModel", "isKnock", "(J)Z"⟩, 36), (⟨"DoorSchoolModel", "deedsOfDoor", "(I)I"⟩, 36), (⟨"DoorSchoolModel", "layRules", "()V"⟩, 36), (⟨"DoorSchoolModel", "real", "(I)I"⟩, 36), (⟨"DoorSchoolModel", "layLessons", "(I)V"⟩, 36), (⟨"DoorSchoolModel", "add", "(II)V"⟩, 36), (⟨"DoorSchoolModel", "learns", "(I)I"⟩, 36), (⟨"DoorSchoolModel", "firstRule", "()I"⟩, 36), (⟨"DoorSchoolModel", "isAsTold", "(I)Z"⟩, 36), (⟨"DoorSchoolModel", "byLesson", "(II)I"⟩, 36)]
theorem lw_r8 : ∀ q ∈ lw_privs_8, lw_okq q := List.forall_mem_cons.mpr ⟨lw_p112, List.forall_mem_cons.mpr ⟨lw_p113, List.forall_mem_cons.mpr ⟨lw_p114, List.forall_mem_cons.mpr ⟨lw_p115, List.forall_mem_cons.mpr ⟨lw_p116, List.forall_mem_cons.mpr ⟨lw_p117, List.forall_mem_cons.mpr ⟨lw_p118, List.forall_mem_cons.mpr ⟨lw_p119, List.forall_mem_cons.mpr ⟨lw_p120, List.forall_mem_cons.mpr ⟨lw_p121, List.forall_mem_cons.mpr ⟨lw_p122, List.forall_mem_cons.mpr ⟨lw_p123, List.forall_mem_cons.mpr ⟨lw_p124, List.forall_mem_cons.mpr ⟨lw_p125, List.forall_mem_cons.mpr ⟨lw_p126, List.forall_mem_cons.mpr ⟨lw_p127, fun _ h => absurd h List.not_mem_nil⟩⟩⟩⟩⟩⟩⟩⟩⟩⟩⟩⟩⟩⟩⟩⟩
theorem lw_p128 : lw_okq (⟨"DoorSchoolModel", "latestOf", "(I)I"⟩, 36) := ⟨⟨by decide +kernel, by decide +kernel⟩, List.mem_of_getElem? (i := 1145) (by decide +kernel), List.mem_of_getElem? (i := 1495) (by decide +kernel), List.mem_of_getElem? (i := 1496) (by decide +kernel)⟩
theorem lw_p129 : lw_okq (⟨"DoorSchoolModel", "nearestTo", "(I)I"⟩, 36) := ⟨⟨by decide +kernel, by decide +kernel⟩, List.mem_of_getElem? (i := 1145) (by decide +kernel), List.mem_of_getElem? (i := 1499) (by decide +kernel), List.mem_of_getElem? (i := 1500) (by decide +kernel)⟩
theorem lw_p130 : lw_okq (⟨"DoorSchoolModel", "isRule", "(II)Z"⟩, 36) := ⟨⟨by decide +kernel, by decide +kernel⟩, List.mem_of_getElem? (i := 1145) (by decide +kernel), List.mem_of_getElem? (i := 1527) (by decide +kernel), List.mem_of_getElem? (i := 1528) (by decide +kernel)⟩
theorem lw_p131 : lw_okq (⟨"DoorSchoolModel", "areDeeds", "(I)Z"⟩, 36) := ⟨⟨by decide +kernel, by decide +kernel⟩, List.mem_of_getElem? (i := 1145) (by decide +kernel), List.mem_of_getElem? (i := 1535) (by decide +kernel), List.mem_of_getElem? (i := 1536) (by decide +kernel)⟩
theorem lw_p132 : lw_okq (⟨"DoorSchoolModel", "allKnocks", "()I"⟩, 36) := ⟨⟨by decide +kernel, by decide +kernel⟩, List.mem_of_getElem? (i := 1145) (by decide +kernel), List.mem_of_getElem? (i := 1539) (by decide +kernel), List.mem_of_getElem? (i := 1540) (by decide +kernel)⟩
theorem lw_p133 : lw_okq (⟨"DoorSchoolModel", "marksBy", "(I)I"⟩, 36) := ⟨⟨by decide +kernel, by decide +kernel⟩, List.mem_of_getElem? (i := 1145) (by decide +kernel), List.mem_of_getElem? (i := 1547) (by decide +kernel), List.mem_of_getElem? (i := 1548) (by decide +kernel)⟩
theorem lw_p134 : lw_okq (⟨"DoorSchoolModel", "isRight", "(II)Z"⟩, 36) := ⟨⟨by decide +kernel, by decide +kernel⟩, List.mem_of_getElem? (i := 1145) (by decide +kernel), List.mem_of_getElem? (i := 1551) (by decide +kernel), List.mem_of_getElem? (i := 1552) (by decide +kernel)⟩
theorem lw_p135 : lw_okq (⟨"DoorSchoolModel", "deedsWith", "(III)I"⟩, 36) := ⟨⟨by decide +kernel, by decide +kernel⟩, List.mem_of_getElem? (i := 1145) (by decide +kernel), List.mem_of_getElem? (i := 1579) (by decide +kernel), List.mem_of_getElem? (i := 1580) (by decide +kernel)⟩
theorem lw_p136 : lw_okq (⟨"DoorSchoolModel", "deedsWithout", "(II)I"⟩, 36) := ⟨⟨by decide +kernel, by decide +kernel⟩, List.mem_of_getElem? (i := 1145) (by decide +kernel), List.mem_of_getElem? (i := 1591) (by decide +kernel), List.mem_of_getElem? (i := 1592) (by decide +kernel)⟩
theorem lw_p137 : lw_okq (⟨"DoorSchoolModel", "fewestSet", "(II)I"⟩, 36) := ⟨⟨by decide +kernel, by decide +kernel⟩, List.mem_of_getElem? (i := 1145) (by decide +kernel), List.mem_of_getElem? (i := 1602) (by decide +kernel), List.mem_of_getElem? (i := 1603) (by decide +kernel)⟩
theorem lw_p138 : lw_okq (⟨"DoorSchoolModel", "learnsBy", "(III)Z"⟩, 36) := ⟨⟨by decide +kernel, by decide +kernel⟩, List.mem_of_getElem? (i := 1145) (by decide +kernel), List.mem_of_getElem? (i := 1606) (by decide +kernel), List.mem_of_getElem? (i := 1607) (by decide +kernel)⟩
theorem lw_p139 : lw_okq (⟨"DoorSchoolModel", "laySet", "(II)V"⟩, 36) := ⟨⟨by decide +kernel, by decide +kernel⟩, List.mem_of_getElem? (i := 1145) (by decide +kernel), List.mem_of_getElem? (i := 1610) (by decide +kernel), List.mem_of_getElem? (i := 1611) (by decide +kernel)⟩
theorem lw_p140 : lw_okq (⟨"DoorSchoolModel", "ownDeeds", "()I"⟩, 36) := ⟨⟨by decide +kernel, by decide +kernel⟩, List.mem_of_getElem? (i := 1145) (by decide +kernel), List.mem_of_getElem? (i := 1632) (by decide +kernel), List.mem_of_getElem? (i := 1633) (by decide +kernel)⟩
theorem lw_p141 : lw_okq (⟨"DoorSchoolModel", "trickOf", "(II)I"⟩, 36) := ⟨⟨by decide +kernel, by decide +kernel⟩, List.mem_of_getElem? (i := 1145) (by decide +kernel), List.mem_of_getElem? (i := 1640) (by decide +kernel), List.mem_of_getElem? (i := 1641) (by decide +kernel)⟩
theorem lw_p142 : lw_okq (⟨"DoorSchoolModel", "fooledBy", "(I)I"⟩, 36) := ⟨⟨by decide +kernel, by decide +kernel⟩, List.mem_of_getElem? (i := 1145) (by decide +kernel), List.mem_of_getElem? (i := 1652) (by decide +kernel), List.mem_of_getElem? (i := 1653) (by decide +kernel)⟩
theorem lw_p143 : lw_okq (⟨"DoorSchoolModel", "hardened", "(II)I"⟩, 36) := ⟨⟨by decide +kernel, by decide +kernel⟩, List.mem_of_getElem? (i := 1145) (by decide +kernel), List.mem_of_getElem? (i := 1656) (by decide +kernel), List.mem_of_getElem? (i := 1657) (by decide +kernel)⟩
def lw_privs_9 : List (MethodName × Nat) := [(⟨"DoorSchoolModel", "latestOf", "(I)I"⟩, 36), (⟨"DoorSchoolModel", "nearestTo", "(I)I"⟩, 36), (⟨"DoorSchoolModel", "isRule", "(II)Z"⟩, 36), (⟨"DoorSchoolModel", "areDeeds", "(I)Z"⟩, 36), (⟨"DoorSchoolModel", "allKnocks", "()I"⟩, 36), (⟨"DoorSchoolModel", "marksBy", "(I)I"⟩, 36), (⟨"DoorSchoolModel", "isRight", "(II)Z"⟩, 36), (⟨"DoorSchoolModel", "deedsWith", "(III)I"⟩, 36), (⟨"DoorSchoolModel", "deedsWithout", "(II)I"⟩, 36), (⟨"DoorSchoolModel", "fewestSet", "(II)I"⟩, 36), (⟨"DoorSchoolModel", "learnsBy", "(III)Z"⟩, 36), (⟨"DoorSchoolModel", "laySet", "(II)V"⟩, 36), (⟨"DoorSchoolModel", "ownDeeds", "()I"⟩, 36), (⟨"DoorSchoolModel", "trickOf", "(II)I"⟩, 36), (⟨"DoorSchoolModel", "fooledBy", "(I)I"⟩, 36), (⟨"DoorSchoolModel", "hardened", "(II)I"⟩, 36)]
theorem lw_r9 : ∀ q ∈ lw_privs_9, lw_okq q := List.forall_mem_cons.mpr ⟨lw_p128, List.forall_mem_cons.mpr ⟨lw_p129, List.forall_mem_cons.mpr ⟨lw_p130, List.forall_mem_cons.mpr ⟨lw_p131, List.forall_mem_cons.mpr ⟨lw_p132, List.forall_mem_cons.mpr ⟨lw_p133, List.forall_mem_cons.mpr ⟨lw_p134, List.forall_mem_cons.mpr ⟨lw_p135, List.forall_mem_cons.mpr ⟨lw_p136, List.forall_mem_cons.mpr ⟨lw_p137, List.forall_mem_cons.mpr ⟨lw_p138, List.forall_mem_cons.mpr ⟨lw_p139, List.forall_mem_cons.mpr ⟨lw_p140, List.forall_mem_cons.mpr ⟨lw_p141, List.forall_mem_cons.mpr ⟨lw_p142, List.forall_mem_cons.mpr ⟨lw_p143, fun _ h => absurd h List.not_mem_nil⟩⟩⟩⟩⟩⟩⟩⟩⟩⟩⟩⟩⟩⟩⟩⟩
theorem lw_p144 : lw_okq (⟨"DoorSchoolModel", "isStrange", "(I)Z"⟩, 36) := ⟨⟨by decide +kernel, by decide +kernel⟩, List.mem_of_getElem? (i := 1145) (by decide +kernel), List.mem_of_getElem? (i := 1669) (by decide +kernel), List.mem_of_getElem? (i := 1670) (by decide +kernel)⟩
theorem lw_p145 : lw_okq (⟨"DoorSchoolModel", "deedsByWay", "(II)I"⟩, 36) := ⟨⟨by decide +kernel, by decide +kernel⟩, List.mem_of_getElem? (i := 1145) (by decide +kernel), List.mem_of_getElem? (i := 1673) (by decide +kernel), List.mem_of_getElem? (i := 1674) (by decide +kernel)⟩
theorem lw_p146 : lw_okq (⟨"DoorSchoolModel", "isRest", "(III)Z"⟩, 36) := ⟨⟨by decide +kernel, by decide +kernel⟩, List.mem_of_getElem? (i := 1145) (by decide +kernel), List.mem_of_getElem? (i := 1681) (by decide +kernel), List.mem_of_getElem? (i := 1682) (by decide +kernel)⟩
theorem lw_p147 : lw_okq (⟨"DoorSchoolModel", "teachAll", "(II)V"⟩, 36) := ⟨⟨by decide +kernel, by decide +kernel⟩, List.mem_of_getElem? (i := 1145) (by decide +kernel), List.mem_of_getElem? (i := 1697) (by decide +kernel), List.mem_of_getElem? (i := 1698) (by decide +kernel)⟩
theorem lw_p148 : lw_okq (⟨"DoorSchoolModel", "asksSeen", "(IZ)I"⟩, 36) := ⟨⟨by decide +kernel, by decide +kernel⟩, List.mem_of_getElem? (i := 1145) (by decide +kernel), List.mem_of_getElem? (i := 1713) (by decide +kernel), List.mem_of_getElem? (i := 1714) (by decide +kernel)⟩
theorem lw_p149 : lw_okq (⟨"DoorSchoolModel", "numberAt", "(II)J"⟩, 36) := ⟨⟨by decide +kernel, by decide +kernel⟩, List.mem_of_getElem? (i := 1145) (by decide +kernel), List.mem_of_getElem? (i := 1720) (by decide +kernel), List.mem_of_getElem? (i := 1721) (by decide +kernel)⟩
theorem lw_p150 : lw_okq (⟨"DoorSchoolModel", "doesSo", "(II)Z"⟩, 36) := ⟨⟨by decide +kernel, by decide +kernel⟩, List.mem_of_getElem? (i := 1145) (by decide +kernel), List.mem_of_getElem? (i := 1724) (by decide +kernel), List.mem_of_getElem? (i := 1725) (by decide +kernel)⟩
theorem lw_p151 : lw_okq (⟨"DoorSchoolModel", "isCopied", "(I)Z"⟩, 36) := ⟨⟨by decide +kernel, by decide +kernel⟩, List.mem_of_getElem? (i := 1145) (by decide +kernel), List.mem_of_getElem? (i := 1736) (by decide +kernel), List.mem_of_getElem? (i := 1737) (by decide +kernel)⟩
theorem lw_p152 : lw_okq (⟨"DoorSchoolModel", "hangAll", "()V"⟩, 36) := ⟨⟨by decide +kernel, by decide +kernel⟩, List.mem_of_getElem? (i := 1145) (by decide +kernel), List.mem_of_getElem? (i := 1744) (by decide +kernel), List.mem_of_getElem? (i := 1745) (by decide +kernel)⟩
theorem lw_p153 : lw_okq (⟨"DoorSchoolModel", "amissOf", "(II)I"⟩, 36) := ⟨⟨by decide +kernel, by decide +kernel⟩, List.mem_of_getElem? (i := 1145) (by decide +kernel), List.mem_of_getElem? (i := 1748) (by decide +kernel), List.mem_of_getElem? (i := 1749) (by decide +kernel)⟩
theorem lw_p154 : lw_okq (⟨"DoorSchoolModel", "fitsOf", "(I)I"⟩, 36) := ⟨⟨by decide +kernel, by decide +kernel⟩, List.mem_of_getElem? (i := 1145) (by decide +kernel), List.mem_of_getElem? (i := 1764) (by decide +kernel), List.mem_of_getElem? (i := 1765) (by decide +kernel)⟩
theorem lw_p155 : lw_okq (⟨"DoorSchoolModel", "askOf", "(I)I"⟩, 36) := ⟨⟨by decide +kernel, by decide +kernel⟩, List.mem_of_getElem? (i := 1145) (by decide +kernel), List.mem_of_getElem? (i := 1776) (by decide +kernel), List.mem_of_getElem? (i := 1777) (by decide +kernel)⟩
theorem lw_p156 : lw_okq (⟨"DoorSchoolModel", "worstOf", "(II)I"⟩, 36) := ⟨⟨by decide +kernel, by decide +kernel⟩, List.mem_of_getElem? (i := 1145) (by decide +kernel), List.mem_of_getElem? (i := 1780) (by decide +kernel), List.mem_of_getElem? (i := 1781) (by decide +kernel)⟩
theorem lw_p157 : lw_okq (⟨"DoorSchoolModel", "leastHours", "(II)I"⟩, 36) := ⟨⟨by decide +kernel, by decide +kernel⟩, List.mem_of_getElem? (i := 1145) (by decide +kernel), List.mem_of_getElem? (i := 1793) (by decide +kernel), List.mem_of_getElem? (i := 1794) (by decide +kernel)⟩
theorem lw_p158 : lw_okq (⟨"DoorSchoolModel", "overBy", "(III)I"⟩, 36) := ⟨⟨by decide +kernel, by decide +kernel⟩, List.mem_of_getElem? (i := 1145) (by decide +kernel), List.mem_of_getElem? (i := 1797) (by decide +kernel), List.mem_of_getElem? (i := 1798) (by decide +kernel)⟩
theorem lw_p159 : lw_okq (⟨"DoorSchoolModel", "put", "(II)V"⟩, 36) := ⟨⟨by decide +kernel, by decide +kernel⟩, List.mem_of_getElem? (i := 1145) (by decide +kernel), List.mem_of_getElem? (i := 1801) (by decide +kernel), List.mem_of_getElem? (i := 1802) (by decide +kernel)⟩
def lw_privs_10 : List (MethodName × Nat) := [(⟨"DoorSchoolModel", "isStrange", "(I)Z"⟩, 36), (⟨"DoorSchoolModel", "deedsByWay", "(II)I"⟩, 36), (⟨"DoorSchoolModel", "isRest", "(III)Z"⟩, 36), (⟨"DoorSchoolModel", "teachAll", "(II)V"⟩, 36), (⟨"DoorSchoolModel", "asksSeen", "(IZ)I"⟩, 36), (⟨"DoorSchoolModel", "numberAt", "(II)J"⟩, 36), (⟨"DoorSchoolModel", "doesSo", "(II)Z"⟩, 36), (⟨"DoorSchoolModel", "isCopied", "(I)Z"⟩, 36), (⟨"DoorSchoolModel", "hangAll", "()V"⟩, 36), (⟨"DoorSchoolModel", "amissOf", "(II)I"⟩, 36), (⟨"DoorSchoolModel", "fitsOf", "(I)I"⟩, 36), (⟨"DoorSchoolModel", "askOf", "(I)I"⟩, 36), (⟨"DoorSchoolModel", "worstOf", "(II)I"⟩, 36), (⟨"DoorSchoolModel", "leastHours", "(II)I"⟩, 36), (⟨"DoorSchoolModel", "overBy", "(III)I"⟩, 36), (⟨"DoorSchoolModel", "put", "(II)V"⟩, 36)]
theorem lw_r10 : ∀ q ∈ lw_privs_10, lw_okq q := List.forall_mem_cons.mpr ⟨lw_p144, List.forall_mem_cons.mpr ⟨lw_p145, List.forall_mem_cons.mpr ⟨lw_p146, List.forall_mem_cons.mpr ⟨lw_p147, List.forall_mem_cons.mpr ⟨lw_p148, List.forall_mem_cons.mpr ⟨lw_p149, List.forall_mem_cons.mpr ⟨lw_p150, List.forall_mem_cons.mpr ⟨lw_p151, List.forall_mem_cons.mpr ⟨lw_p152, List.forall_mem_cons.mpr ⟨lw_p153, List.forall_mem_cons.mpr ⟨lw_p154, List.forall_mem_cons.mpr ⟨lw_p155, List.forall_mem_cons.mpr ⟨lw_p156, List.forall_mem_cons.mpr ⟨lw_p157, List.forall_mem_cons.mpr ⟨lw_p158, List.forall_mem_cons.mpr ⟨lw_p159, fun _ h => absurd h List.not_mem_nil⟩⟩⟩⟩⟩⟩⟩⟩⟩⟩⟩⟩⟩⟩⟩⟩
theorem lw_p160 : lw_okq (⟨"DoorSchoolModel", "takesOf", "(I)I"⟩, 36) := ⟨⟨by decide +kernel, by decide +kernel⟩, List.mem_of_getElem? (i := 1145) (by decide +kernel), List.mem_of_getElem? (i := 1805) (by decide +kernel), List.mem_of_getElem? (i := 1806) (by decide +kernel)⟩
theorem lw_p161 : lw_okq (⟨"DoorSchoolModel", "overOf", "(I)I"⟩, 36) := ⟨⟨by decide +kernel, by decide +kernel⟩, List.mem_of_getElem? (i := 1145) (by decide +kernel), List.mem_of_getElem? (i := 1809) (by decide +kernel), List.mem_of_getElem? (i := 1810) (by decide +kernel)⟩
theorem lw_p162 : lw_okq (⟨"DoorSchoolModel", "afterAll", "(II)I"⟩, 36) := ⟨⟨by decide +kernel, by decide +kernel⟩, List.mem_of_getElem? (i := 1145) (by decide +kernel), List.mem_of_getElem? (i := 1813) (by decide +kernel), List.mem_of_getElem? (i := 1814) (by decide +kernel)⟩
theorem lw_p163 : lw_okq (⟨"DoorSchoolModel", "isFree", "(III)Z"⟩, 36) := ⟨⟨by decide +kernel, by decide +kernel⟩, List.mem_of_getElem? (i := 1145) (by decide +kernel), List.mem_of_getElem? (i := 1817) (by decide +kernel), List.mem_of_getElem? (i := 1818) (by decide +kernel)⟩
theorem lw_p164 : lw_okq (⟨"DoorSchoolModel", "mayBegin", "(II)Z"⟩, 36) := ⟨⟨by decide +kernel, by decide +kernel⟩, List.mem_of_getElem? (i := 1145) (by decide +kernel), List.mem_of_getElem? (i := 1825) (by decide +kernel), List.mem_of_getElem? (i := 1826) (by decide +kernel)⟩
theorem lw_p165 : lw_okq (⟨"DoorSchoolModel", "stormed", "(JI)I"⟩, 36) := ⟨⟨by decide +kernel, by decide +kernel⟩, List.mem_of_getElem? (i := 1145) (by decide +kernel), List.mem_of_getElem? (i := 1850) (by decide +kernel), List.mem_of_getElem? (i := 1851) (by decide +kernel)⟩
def lw_privs_11 : List (MethodName × Nat) := [(⟨"DoorSchoolModel", "takesOf", "(I)I"⟩, 36), (⟨"DoorSchoolModel", "overOf", "(I)I"⟩, 36), (⟨"DoorSchoolModel", "afterAll", "(II)I"⟩, 36), (⟨"DoorSchoolModel", "isFree", "(III)Z"⟩, 36), (⟨"DoorSchoolModel", "mayBegin", "(II)Z"⟩, 36), (⟨"DoorSchoolModel", "stormed", "(JI)I"⟩, 36)]
theorem lw_r11 : ∀ q ∈ lw_privs_11, lw_okq q := List.forall_mem_cons.mpr ⟨lw_p160, List.forall_mem_cons.mpr ⟨lw_p161, List.forall_mem_cons.mpr ⟨lw_p162, List.forall_mem_cons.mpr ⟨lw_p163, List.forall_mem_cons.mpr ⟨lw_p164, List.forall_mem_cons.mpr ⟨lw_p165, fun _ h => absurd h List.not_mem_nil⟩⟩⟩⟩⟩⟩
def lw_privs : List (MethodName × Nat) := lw_privs_1 ++ (lw_privs_2 ++ (lw_privs_3 ++ (lw_privs_4 ++ (lw_privs_5 ++ (lw_privs_6 ++ (lw_privs_7 ++ (lw_privs_8 ++ (lw_privs_9 ++ (lw_privs_10 ++ (lw_privs_11))))))))))
def lw_tbl : List Cond := k2_sels lw_privs ++ tables_1
theorem lw_privs_ok : ∀ q ∈ lw_privs, lw_okq q := by
  show ∀ q ∈ lw_privs_1 ++ (lw_privs_2 ++ (lw_privs_3 ++ (lw_privs_4 ++ (lw_privs_5 ++ (lw_privs_6 ++ (lw_privs_7 ++ (lw_privs_8 ++ (lw_privs_9 ++ (lw_privs_10 ++ (lw_privs_11)))))))))), lw_okq q
  exact List.forall_mem_append.mpr ⟨lw_r1, List.forall_mem_append.mpr ⟨lw_r2, List.forall_mem_append.mpr ⟨lw_r3, List.forall_mem_append.mpr ⟨lw_r4, List.forall_mem_append.mpr ⟨lw_r5, List.forall_mem_append.mpr ⟨lw_r6, List.forall_mem_append.mpr ⟨lw_r7, List.forall_mem_append.mpr ⟨lw_r8, List.forall_mem_append.mpr ⟨lw_r9, List.forall_mem_append.mpr ⟨lw_r10, lw_r11⟩⟩⟩⟩⟩⟩⟩⟩⟩⟩
end
section
def RX0 : String := "DoorSchool$Door"
def TX0 : u_T := fun k => match k with
  | 0 => ("DoorSchool$Door", "lessons", "LDoorSchool$Lessons;", true)
  | 1 => ("DoorSchool$Door", "way", "I", false)
  | 2 => ("DoorSchool$Door", "slips", "I", false)
  | _ => ("DoorSchool$Door", "copies", "I", false)
def tyX0 : Nat → FieldType := fun k => match k with
  | 0 => .object "DoorSchool$Lessons"
  | 1 => .int
  | 2 => .int
  | _ => .int
theorem nmX0 : ∀ a, a < 4 → ∀ b, b < 4 → a ≠ b → (TX0 a).2.1 ≠ (TX0 b).2.1 := by decide +kernel
theorem tyX0_ok : ∀ k, k < 4 → parseFieldDescriptor (TX0 k).2.2.1 = some (tyX0 k) := by decide +kernel
abbrev cX0_init : ByteArray := prog_2_method_1_code
def yX0_init : MethodName := ⟨RX0, "<init>", "()V"⟩
abbrev cX0_begin : ByteArray := prog_2_method_2_code
def yX0_begin : MethodName := ⟨RX0, "begin", "(II)V"⟩
abbrev cX0_takeFrom : ByteArray := prog_2_method_3_code
def yX0_takeFrom : MethodName := ⟨RX0, "takeFrom", "(LDoorSchool$Door;)V"⟩
def RX1 : String := "DoorSchool$Hanging"
def TX1 : u_T := fun k => match k with
  | 0 => ("DoorSchool$Hanging", "amiss", "[I", true)
  | 1 => ("DoorSchool$Hanging", "row", "[I", true)
  | 2 => ("DoorSchool$Hanging", "firstRow", "[I", true)
  | 3 => ("DoorSchool$Hanging", "doorCount", "I", false)
  | 4 => ("DoorSchool$Hanging", "houseCount", "I", false)
  | _ => ("DoorSchool$Hanging", "fewest", "I", false)
def tyX1 : Nat → FieldType := fun k => match k with
  | 0 => .array .int
  | 1 => .array .int
  | 2 => .array .int
  | 3 => .int
  | 4 => .int
  | _ => .int
theorem nmX1 : ∀ a, a < 6 → ∀ b, b < 6 → a ≠ b → (TX1 a).2.1 ≠ (TX1 b).2.1 := by decide +kernel
theorem tyX1_ok : ∀ k, k < 6 → parseFieldDescriptor (TX1 k).2.2.1 = some (tyX1 k) := by decide +kernel
abbrev cX1_init : ByteArray := prog_3_method_1_code
def yX1_init : MethodName := ⟨RX1, "<init>", "()V"⟩
abbrev cX1_search : ByteArray := prog_3_method_2_code
def yX1_search : MethodName := ⟨RX1, "search", "(II)V"⟩
abbrev cX1_hangFrom : ByteArray := prog_3_method_3_code
def yX1_hangFrom : MethodName := ⟨RX1, "hangFrom", "(LDoorSchool$Hanging;III)V"⟩
abbrev cX1_keepIfBetter : ByteArray := prog_3_method_4_code
def yX1_keepIfBetter : MethodName := ⟨RX1, "keepIfBetter", "(I)V"⟩
def RX2 : String := "DoorSchool$Learner"
def TX2 : u_T := fun k => match k with
  | 0 => ("DoorSchool$Learner", "rules", "LDoorSchool$Rules;", true)
  | _ => ("DoorSchool$Learner", "apart", "[I", true)
def tyX2 : Nat → FieldType := fun k => match k with
  | 0 => .object "DoorSchool$Rules"
  | _ => .array .int
theorem nmX2 : ∀ a, a < 2 → ∀ b, b < 2 → a ≠ b → (TX2 a).2.1 ≠ (TX2 b).2.1 := by decide +kernel
theorem tyX2_ok : ∀ k, k < 2 → parseFieldDescriptor (TX2 k).2.2.1 = some (tyX2 k) := by decide +kernel
abbrev cX2_init : ByteArray := prog_4_method_1_code
def yX2_init : MethodName := ⟨RX2, "<init>", "(LDoorSchool$Rules;)V"⟩
abbrev cX2_learn : ByteArray := prog_4_method_2_code
def yX2_learn : MethodName := ⟨RX2, "learn", "(ILDoorSchool$Lessons;)I"⟩
abbrev cX2_learnSet : ByteArray := prog_4_method_3_code
def yX2_learnSet : MethodName := ⟨RX2, "learnSet", "(III)I"⟩
abbrev cX2_nearestOf : ByteArray := prog_4_method_4_code
def yX2_nearestOf : MethodName := ⟨RX2, "nearestOf", "(II)I"⟩
abbrev cX2_teaches : ByteArray := prog_4_method_5_code
def yX2_teaches : MethodName := ⟨RX2, "teaches", "(III)Z"⟩
abbrev cX2_leastSet : ByteArray := prog_4_method_6_code
def yX2_leastSet : MethodName := ⟨RX2, "leastSet", "(II)I"⟩
abbrev cX2_setsOf : ByteArray := prog_4_method_7_code
def yX2_setsOf : MethodName := ⟨RX2, "setsOf", "(III)I"⟩
abbrev cX2_needed : ByteArray := prog_4_method_8_code
def yX2_needed : MethodName := ⟨RX2, "needed", "(II)I"⟩
abbrev cX2_allKnocks : ByteArray := prog_4_method_9_code
def yX2_allKnocks : MethodName := ⟨RX2, "allKnocks", "()I"⟩
abbrev cX2_setBehind : ByteArray := prog_4_method_10_code
def yX2_setBehind : MethodName := ⟨RX2, "setBehind", "(I)I"⟩
abbrev cX2_errorsBy : ByteArray := prog_4_method_11_code
def yX2_errorsBy : MethodName := ⟨RX2, "errorsBy", "(II)I"⟩
abbrev cX2_learntWhole : ByteArray := prog_4_method_12_code
def yX2_learntWhole : MethodName := ⟨RX2, "learntWhole", "(II)I"⟩
def RX3 : String := "DoorSchool$Lessons"
def TX3 : u_T := fun k => match k with
  | 0 => ("DoorSchool$Lessons", "knocks", "[I", true)
  | 1 => ("DoorSchool$Lessons", "opens", "[I", true)
  | _ => ("DoorSchool$Lessons", "size", "I", false)
def tyX3 : Nat → FieldType := fun k => match k with
  | 0 => .array .int
  | 1 => .array .int
  | _ => .int
theorem nmX3 : ∀ a, a < 3 → ∀ b, b < 3 → a ≠ b → (TX3 a).2.1 ≠ (TX3 b).2.1 := by decide +kernel
theorem tyX3_ok : ∀ k, k < 3 → parseFieldDescriptor (TX3 k).2.2.1 = some (tyX3 k) := by decide +kernel
abbrev cX3_init : ByteArray := prog_5_method_1_code
def yX3_init : MethodName := ⟨RX3, "<init>", "()V"⟩
abbrev cX3_add : ByteArray := prog_5_method_2_code
def yX3_add : MethodName := ⟨RX3, "add", "(II)V"⟩
abbrev cX3_dropLast : ByteArray := prog_5_method_3_code
def yX3_dropLast : MethodName := ⟨RX3, "dropLast", "()V"⟩
abbrev cX3_putIn : ByteArray := prog_5_method_4_code
def yX3_putIn : MethodName := ⟨RX3, "putIn", "(III)V"⟩
abbrev cX3_takeOut : ByteArray := prog_5_method_5_code
def yX3_takeOut : MethodName := ⟨RX3, "takeOut", "(I)V"⟩
abbrev cX3_takeFrom : ByteArray := prog_5_method_6_code
def yX3_takeFrom : MethodName := ⟨RX3, "takeFrom", "(LDoorSchool$Lessons;)V"⟩
abbrev cX3_said : ByteArray := prog_5_method_7_code
def yX3_said : MethodName := ⟨RX3, "said", "(I)I"⟩
abbrev cX3_latestOf : ByteArray := prog_5_method_8_code
def yX3_latestOf : MethodName := ⟨RX3, "latestOf", "(I)I"⟩
abbrev cX3_nearestTo : ByteArray := prog_5_method_9_code
def yX3_nearestTo : MethodName := ⟨RX3, "nearestTo", "(I)I"⟩
abbrev cX3_allAs : ByteArray := prog_5_method_10_code
def yX3_allAs : MethodName := ⟨RX3, "allAs", "(I)I"⟩
abbrev cX3_firstNotAs : ByteArray := prog_5_method_11_code
def yX3_firstNotAs : MethodName := ⟨RX3, "firstNotAs", "(I)I"⟩
def RX4 : String := "DoorSchool$Plan"
def TX4 : u_T := fun k => match k with
  | 0 => ("DoorSchool$Plan", "lines", "I", false)
  | 1 => ("DoorSchool$Plan", "signs", "I", false)
  | 2 => ("DoorSchool$Plan", "teachers", "I", false)
  | 3 => ("DoorSchool$Plan", "doorCount", "I", false)
  | 4 => ("DoorSchool$Plan", "doors", "[LDoorSchool$Door;", true)
  | 5 => ("DoorSchool$Plan", "exams", "LDoorSchool$Lessons;", true)
  | 6 => ("DoorSchool$Plan", "ownerSigns", "I", false)
  | 7 => ("DoorSchool$Plan", "ownerThere", "I", false)
  | 8 => ("DoorSchool$Plan", "houseCount", "I", false)
  | 9 => ("DoorSchool$Plan", "houseSigns", "[I", true)
  | 10 => ("DoorSchool$Plan", "houseThere", "[I", true)
  | 11 => ("DoorSchool$Plan", "courseCount", "I", false)
  | 12 => ("DoorSchool$Plan", "takes", "[I", true)
  | 13 => ("DoorSchool$Plan", "ahead", "[I", true)
  | 14 => ("DoorSchool$Plan", "taught", "I", false)
  | _ => ("DoorSchool$Plan", "taughtDoors", "[I", true)
def tyX4 : Nat → FieldType := fun k => match k with
  | 0 => .int
  | 1 => .int
  | 2 => .int
  | 3 => .int
  | 4 => .array (.object "DoorSchool$Door")
  | 5 => .object "DoorSchool$Lessons"
  | 6 => .int
  | 7 => .int
  | 8 => .int
  | 9 => .array .int
  | 10 => .array .int
  | 11 => .int
  | 12 => .array .int
  | 13 => .array .int
  | 14 => .int
  | _ => .array .int
theorem nmX4 : ∀ a, a < 16 → ∀ b, b < 16 → a ≠ b → (TX4 a).2.1 ≠ (TX4 b).2.1 := by decide +kernel
theorem tyX4_ok : ∀ k, k < 16 → parseFieldDescriptor (TX4 k).2.2.1 = some (tyX4 k) := by decide +kernel
abbrev cX4_init : ByteArray := prog_6_method_1_code
def yX4_init : MethodName := ⟨RX4, "<init>", "()V"⟩
abbrev cX4_clear : ByteArray := prog_6_method_2_code
def yX4_clear : MethodName := ⟨RX4, "clear", "()V"⟩
abbrev cX4_takeFrom : ByteArray := prog_6_method_3_code
def yX4_takeFrom : MethodName := ⟨RX4, "takeFrom", "(LDoorSchool$Plan;)V"⟩
abbrev cX4_exists : ByteArray := prog_6_method_4_code
def yX4_exists : MethodName := ⟨RX4, "exists", "()Z"⟩
abbrev cX4_knocks : ByteArray := prog_6_method_5_code
def yX4_knocks : MethodName := ⟨RX4, "knocks", "()I"⟩
abbrev cX4_isDoor : ByteArray := prog_6_method_6_code
def yX4_isDoor : MethodName := ⟨RX4, "isDoor", "(I)Z"⟩
abbrev cX4_isHouse : ByteArray := prog_6_method_7_code
def yX4_isHouse : MethodName := ⟨RX4, "isHouse", "(I)Z"⟩
abbrev cX4_isKnock : ByteArray := prog_6_method_8_code
def yX4_isKnock : MethodName := ⟨RX4, "isKnock", "(I)Z"⟩
abbrev cX4_isRule : ByteArray := prog_6_method_9_code
def yX4_isRule : MethodName := ⟨RX4, "isRule", "(II)Z"⟩
abbrev cX4_isDeeds : ByteArray := prog_6_method_10_code
def yX4_isDeeds : MethodName := ⟨RX4, "isDeeds", "(I)Z"⟩
abbrev cX4_isCopied : ByteArray := prog_6_method_11_code
def yX4_isCopied : MethodName := ⟨RX4, "isCopied", "(I)Z"⟩
abbrev cX4_modelOf : ByteArray := prog_6_method_12_code
def yX4_modelOf : MethodName := ⟨RX4, "modelOf", "(I)LDoorSchool$Door;"⟩
def RX5 : String := "DoorSchool$Reader"
def TX5 : u_T := fun k => match k with
  | 0 => ("DoorSchool$Reader", "tape", "LDoorSchool$Tape;", true)
  | 1 => ("DoorSchool$Reader", "kind", "I", false)
  | 2 => ("DoorSchool$Reader", "start", "I", false)
  | 3 => ("DoorSchool$Reader", "stop", "I", false)
  | 4 => ("DoorSchool$Reader", "value", "I", false)
  | 5 => ("DoorSchool$Reader", "fault", "I", false)
  | _ => ("DoorSchool$Reader", "place", "I", false)
def tyX5 : Nat → FieldType := fun k => match k with
  | 0 => .object "DoorSchool$Tape"
  | 1 => .int
  | 2 => .int
  | 3 => .int
  | 4 => .int
  | 5 => .int
  | _ => .int
theorem nmX5 : ∀ a, a < 7 → ∀ b, b < 7 → a ≠ b → (TX5 a).2.1 ≠ (TX5 b).2.1 := by decide +kernel
theorem tyX5_ok : ∀ k, k < 7 → parseFieldDescriptor (TX5 k).2.2.1 = some (tyX5 k) := by decide +kernel
abbrev cX5_init : ByteArray := prog_7_method_1_code
def yX5_init : MethodName := ⟨RX5, "<init>", "(LDoorSchool$Tape;)V"⟩
abbrev cX5_read : ByteArray := prog_7_method_2_code
def yX5_read : MethodName := ⟨RX5, "read", "(LDoorSchool$Plan;)V"⟩
abbrev cX5_readFirst : ByteArray := prog_7_method_3_code
def yX5_readFirst : MethodName := ⟨RX5, "readFirst", "(LDoorSchool$Plan;)V"⟩
abbrev cX5_readDoor : ByteArray := prog_7_method_4_code
def yX5_readDoor : MethodName := ⟨RX5, "readDoor", "(LDoorSchool$Plan;)V"⟩
abbrev cX5_readLesson : ByteArray := prog_7_method_5_code
def yX5_readLesson : MethodName := ⟨RX5, "readLesson", "(LDoorSchool$Plan;)V"⟩
abbrev cX5_readExam : ByteArray := prog_7_method_6_code
def yX5_readExam : MethodName := ⟨RX5, "readExam", "(LDoorSchool$Plan;)V"⟩
abbrev cX5_readSaid : ByteArray := prog_7_method_7_code
def yX5_readSaid : MethodName := ⟨RX5, "readSaid", "(LDoorSchool$Plan;LDoorSchool$Lessons;)V"⟩
abbrev cX5_readTwin : ByteArray := prog_7_method_8_code
def yX5_readTwin : MethodName := ⟨RX5, "readTwin", "(LDoorSchool$Plan;)V"⟩
abbrev cX5_readOwner : ByteArray := prog_7_method_9_code
def yX5_readOwner : MethodName := ⟨RX5, "readOwner", "(LDoorSchool$Plan;)V"⟩
abbrev cX5_readHouse : ByteArray := prog_7_method_10_code
def yX5_readHouse : MethodName := ⟨RX5, "readHouse", "(LDoorSchool$Plan;)V"⟩
abbrev cX5_readCourse : ByteArray := prog_7_method_11_code
def yX5_readCourse : MethodName := ⟨RX5, "readCourse", "(LDoorSchool$Plan;)V"⟩
abbrev cX5_readAhead : ByteArray := prog_7_method_12_code
def yX5_readAhead : MethodName := ⟨RX5, "readAhead", "(LDoorSchool$Plan;)V"⟩
abbrev cX5_takeWay : ByteArray := prog_7_method_13_code
def yX5_takeWay : MethodName := ⟨RX5, "takeWay", "()I"⟩
abbrev cX5_takePart : ByteArray := prog_7_method_14_code
def yX5_takePart : MethodName := ⟨RX5, "takePart", "(I)I"⟩
abbrev cX5_takeNumber : ByteArray := prog_7_method_15_code
def yX5_takeNumber : MethodName := ⟨RX5, "takeNumber", "(II)I"⟩
abbrev cX5_numberHere : ByteArray := prog_7_method_16_code
def yX5_numberHere : MethodName := ⟨RX5, "numberHere", "(II)I"⟩
abbrev cX5_pass : ByteArray := prog_7_method_17_code
def yX5_pass : MethodName := ⟨RX5, "pass", "(Z)V"⟩
abbrev cX5_blame : ByteArray := prog_7_method_18_code
def yX5_blame : MethodName := ⟨RX5, "blame", "(I)V"⟩
abbrev cX5_stands : ByteArray := prog_7_method_19_code
def yX5_stands : MethodName := ⟨RX5, "stands", "(Ljava/lang/String;)Z"⟩
abbrev cX5_step : ByteArray := prog_7_method_20_code
def yX5_step : MethodName := ⟨RX5, "step", "()V"⟩
abbrev cX5_kindAt : ByteArray := prog_7_method_21_code
def yX5_kindAt : MethodName := ⟨RX5, "kindAt", "(I)I"⟩
abbrev cX5_isBlank : ByteArray := prog_7_method_22_code
def yX5_isBlank : MethodName := ⟨RX5, "isBlank", "(B)Z"⟩
def RX6 : String := "DoorSchool$Rules"
def TX6 : u_T := fun k => match k with
  | 0 => ("DoorSchool$Rules", "knocks", "I", false)
  | 1 => ("DoorSchool$Rules", "size", "I", false)
  | 2 => ("DoorSchool$Rules", "signs", "[I", true)
  | 3 => ("DoorSchool$Rules", "there", "[I", true)
  | _ => ("DoorSchool$Rules", "deeds", "[I", true)
def tyX6 : Nat → FieldType := fun k => match k with
  | 0 => .int
  | 1 => .int
  | 2 => .array .int
  | 3 => .array .int
  | _ => .array .int
theorem nmX6 : ∀ a, a < 5 → ∀ b, b < 5 → a ≠ b → (TX6 a).2.1 ≠ (TX6 b).2.1 := by decide +kernel
theorem tyX6_ok : ∀ k, k < 5 → parseFieldDescriptor (TX6 k).2.2.1 = some (tyX6 k) := by decide +kernel
abbrev cX6_init : ByteArray := prog_8_method_1_code
def yX6_init : MethodName := ⟨RX6, "<init>", "()V"⟩
abbrev cX6_prepare : ByteArray := prog_8_method_2_code
def yX6_prepare : MethodName := ⟨RX6, "prepare", "(I)V"⟩
abbrev cX6_addAllOf : ByteArray := prog_8_method_3_code
def yX6_addAllOf : MethodName := ⟨RX6, "addAllOf", "(I)V"⟩
abbrev cX6_deedsOf : ByteArray := prog_8_method_4_code
def yX6_deedsOf : MethodName := ⟨RX6, "deedsOf", "(II)I"⟩
abbrev cX6_placeOf : ByteArray := prog_8_method_5_code
def yX6_placeOf : MethodName := ⟨RX6, "placeOf", "(I)I"⟩
abbrev cX6_first : ByteArray := prog_8_method_6_code
def yX6_first : MethodName := ⟨RX6, "first", "(II)I"⟩
abbrev cX6_howMany : ByteArray := prog_8_method_7_code
def yX6_howMany : MethodName := ⟨RX6, "howMany", "(II)I"⟩
abbrev cX6_surely : ByteArray := prog_8_method_8_code
def yX6_surely : MethodName := ⟨RX6, "surely", "(IIZ)I"⟩
def RX7 : String := "DoorSchool$Slot"
def TX7 : u_T := fun k => match k with
  | 0 => ("DoorSchool$Slot", "numbers", "[J", true)
  | 1 => ("DoorSchool$Slot", "full", "Z", false)
  | 2 => ("DoorSchool$Slot", "width", "I", false)
  | _ => ("DoorSchool$Slot", "size", "I", false)
def tyX7 : Nat → FieldType := fun k => match k with
  | 0 => .array .long
  | 1 => .boolean
  | 2 => .int
  | _ => .int
theorem nmX7 : ∀ a, a < 4 → ∀ b, b < 4 → a ≠ b → (TX7 a).2.1 ≠ (TX7 b).2.1 := by decide +kernel
theorem tyX7_ok : ∀ k, k < 4 → parseFieldDescriptor (TX7 k).2.2.1 = some (tyX7 k) := by decide +kernel
abbrev cX7_init : ByteArray := prog_9_method_1_code
def yX7_init : MethodName := ⟨RX7, "<init>", "()V"⟩
abbrev cX7_begin : ByteArray := prog_9_method_2_code
def yX7_begin : MethodName := ⟨RX7, "begin", "(II)V"⟩
abbrev cX7_put : ByteArray := prog_9_method_3_code
def yX7_put : MethodName := ⟨RX7, "put", "(IJ)V"⟩
abbrev cX7_has : ByteArray := prog_9_method_4_code
def yX7_has : MethodName := ⟨RX7, "has", "(II)Z"⟩
abbrev cX7_isPairs : ByteArray := prog_9_method_5_code
def yX7_isPairs : MethodName := ⟨RX7, "isPairs", "(I)Z"⟩
abbrev cX7_said : ByteArray := prog_9_method_6_code
def yX7_said : MethodName := ⟨RX7, "said", "(I)I"⟩
def RX8 : String := "DoorSchool$Tape"
def TX8 : u_T := fun k => match k with
  | 0 => ("DoorSchool$Tape", "bytes", "[B", true)
  | _ => ("DoorSchool$Tape", "size", "I", false)
def tyX8 : Nat → FieldType := fun k => match k with
  | 0 => .array .byte
  | _ => .int
theorem nmX8 : ∀ a, a < 2 → ∀ b, b < 2 → a ≠ b → (TX8 a).2.1 ≠ (TX8 b).2.1 := by decide +kernel
theorem tyX8_ok : ∀ k, k < 2 → parseFieldDescriptor (TX8 k).2.2.1 = some (tyX8 k) := by decide +kernel
abbrev cX8_init : ByteArray := prog_10_method_1_code
def yX8_init : MethodName := ⟨RX8, "<init>", "()V"⟩
abbrev cX8_append : ByteArray := prog_10_method_2_code
def yX8_append : MethodName := ⟨RX8, "append", "(I)V"⟩
def RX9 : String := "DoorSchool$Timetable"
def TX9 : u_T := fun k => match k with
  | 0 => ("DoorSchool$Timetable", "busy", "[I", true)
  | 1 => ("DoorSchool$Timetable", "begins", "[I", true)
  | 2 => ("DoorSchool$Timetable", "firstBegins", "[I", true)
  | 3 => ("DoorSchool$Timetable", "teachers", "I", false)
  | _ => ("DoorSchool$Timetable", "soonest", "I", false)
def tyX9 : Nat → FieldType := fun k => match k with
  | 0 => .array .int
  | 1 => .array .int
  | 2 => .array .int
  | 3 => .int
  | _ => .int
theorem nmX9 : ∀ a, a < 5 → ∀ b, b < 5 → a ≠ b → (TX9 a).2.1 ≠ (TX9 b).2.1 := by decide +kernel
theorem tyX9_ok : ∀ k, k < 5 → parseFieldDescriptor (TX9 k).2.2.1 = some (tyX9 k) := by decide +kernel
abbrev cX9_init : ByteArray := prog_11_method_1_code
def yX9_init : MethodName := ⟨RX9, "<init>", "()V"⟩
abbrev cX9_solve : ByteArray := prog_11_method_2_code
def yX9_solve : MethodName := ⟨RX9, "solve", "(LDoorSchool$Plan;I)I"⟩
abbrev cX9_placeFrom : ByteArray := prog_11_method_3_code
def yX9_placeFrom : MethodName := ⟨RX9, "placeFrom", "(LDoorSchool$Timetable;LDoorSchool$Plan;III)V"⟩
abbrev cX9_earliest : ByteArray := prog_11_method_4_code
def yX9_earliest : MethodName := ⟨RX9, "earliest", "(LDoorSchool$Plan;I)I"⟩
abbrev cX9_readyAt : ByteArray := prog_11_method_5_code
def yX9_readyAt : MethodName := ⟨RX9, "readyAt", "(LDoorSchool$Plan;I)I"⟩
abbrev cX9_work : ByteArray := prog_11_method_6_code
def yX9_work : MethodName := ⟨RX9, "work", "(III)V"⟩
abbrev cX9_keepIfFirst : ByteArray := prog_11_method_7_code
def yX9_keepIfFirst : MethodName := ⟨RX9, "keepIfFirst", "(I)V"⟩
abbrev cX9_isEarlier : ByteArray := prog_11_method_8_code
def yX9_isEarlier : MethodName := ⟨RX9, "isEarlier", "()Z"⟩
def RX10 : String := "DoorSchool"
def TX10 : u_T := fun k => match k with
  | 0 => ("DoorSchool", "tape", "LDoorSchool$Tape;", true)
  | 1 => ("DoorSchool", "reader", "LDoorSchool$Reader;", true)
  | 2 => ("DoorSchool", "rules", "LDoorSchool$Rules;", true)
  | 3 => ("DoorSchool", "learner", "LDoorSchool$Learner;", true)
  | 4 => ("DoorSchool", "hanging", "LDoorSchool$Hanging;", true)
  | 5 => ("DoorSchool", "timetable", "LDoorSchool$Timetable;", true)
  | 6 => ("DoorSchool", "slots", "[LDoorSchool$Slot;", true)
  | 7 => ("DoorSchool", "images", "[LDoorSchool$Plan;", true)
  | 8 => ("DoorSchool", "imaged", "[Z", true)
  | 9 => ("DoorSchool", "plan", "LDoorSchool$Plan;", false)
  | _ => ("DoorSchool", "spare", "LDoorSchool$Plan;", false)
def tyX10 : Nat → FieldType := fun k => match k with
  | 0 => .object "DoorSchool$Tape"
  | 1 => .object "DoorSchool$Reader"
  | 2 => .object "DoorSchool$Rules"
  | 3 => .object "DoorSchool$Learner"
  | 4 => .object "DoorSchool$Hanging"
  | 5 => .object "DoorSchool$Timetable"
  | 6 => .array (.object "DoorSchool$Slot")
  | 7 => .array (.object "DoorSchool$Plan")
  | 8 => .array .boolean
  | 9 => .object "DoorSchool$Plan"
  | _ => .object "DoorSchool$Plan"
theorem nmX10 : ∀ a, a < 11 → ∀ b, b < 11 → a ≠ b → (TX10 a).2.1 ≠ (TX10 b).2.1 := by decide +kernel
theorem tyX10_ok : ∀ k, k < 11 → parseFieldDescriptor (TX10 k).2.2.1 = some (tyX10 k) := by decide +kernel
abbrev cX10_init : ByteArray := prog_1_method_1_code
def yX10_init : MethodName := ⟨RX10, "<init>", "()V"⟩
abbrev cX10_feed : ByteArray := prog_1_method_2_code
def yX10_feed : MethodName := ⟨RX10, "feed", "(IIIII)I"⟩
abbrev cX10_end : ByteArray := prog_1_method_3_code
def yX10_end : MethodName := ⟨RX10, "end", "(I)I"⟩
abbrev cX10_school : ByteArray := prog_1_method_4_code
def yX10_school : MethodName := ⟨RX10, "school", "()I"⟩
abbrev cX10_fault : ByteArray := prog_1_method_5_code
def yX10_fault : MethodName := ⟨RX10, "fault", "(I)I"⟩
abbrev cX10_door : ByteArray := prog_1_method_6_code
def yX10_door : MethodName := ⟨RX10, "door", "(II)I"⟩
abbrev cX10_lesson : ByteArray := prog_1_method_7_code
def yX10_lesson : MethodName := ⟨RX10, "lesson", "(III)I"⟩
abbrev cX10_exam : ByteArray := prog_1_method_8_code
def yX10_exam : MethodName := ⟨RX10, "exam", "(II)I"⟩
abbrev cX10_house : ByteArray := prog_1_method_9_code
def yX10_house : MethodName := ⟨RX10, "house", "(II)I"⟩
abbrev cX10_opens : ByteArray := prog_1_method_10_code
def yX10_opens : MethodName := ⟨RX10, "opens", "(II)I"⟩
abbrev cX10_deeds : ByteArray := prog_1_method_11_code
def yX10_deeds : MethodName := ⟨RX10, "deeds", "(I)I"⟩
abbrev cX10_often : ByteArray := prog_1_method_12_code
def yX10_often : MethodName := ⟨RX10, "often", "(I)I"⟩
abbrev cX10_why : ByteArray := prog_1_method_13_code
def yX10_why : MethodName := ⟨RX10, "why", "(II)I"⟩
abbrev cX10_rule : ByteArray := prog_1_method_14_code
def yX10_rule : MethodName := ⟨RX10, "rule", "(II)I"⟩
abbrev cX10_rules : ByteArray := prog_1_method_15_code
def yX10_rules : MethodName := ⟨RX10, "rules", "(I)I"⟩
abbrev cX10_does : ByteArray := prog_1_method_16_code
def yX10_does : MethodName := ⟨RX10, "does", "(II)I"⟩
abbrev cX10_told : ByteArray := prog_1_method_17_code
def yX10_told : MethodName := ⟨RX10, "told", "(II)I"⟩
abbrev cX10_marks : ByteArray := prog_1_method_18_code
def yX10_marks : MethodName := ⟨RX10, "marks", "(I)I"⟩
abbrev cX10_wrong : ByteArray := prog_1_method_19_code
def yX10_wrong : MethodName := ⟨RX10, "wrong", "(I)I"⟩
abbrev cX10_best : ByteArray := prog_1_method_20_code
def yX10_best : MethodName := ⟨RX10, "best", "()I"⟩
abbrev cX10_hard : ByteArray := prog_1_method_21_code
def yX10_hard : MethodName := ⟨RX10, "hard", "()I"⟩
abbrev cX10_teach : ByteArray := prog_1_method_22_code
def yX10_teach : MethodName := ⟨RX10, "teach", "(III)I"⟩
abbrev cX10_unteach : ByteArray := prog_1_method_23_code
def yX10_unteach : MethodName := ⟨RX10, "unteach", "()I"⟩
abbrev cX10_gains : ByteArray := prog_1_method_24_code
def yX10_gains : MethodName := ⟨RX10, "gains", "(III)I"⟩
abbrev cX10_help : ByteArray := prog_1_method_25_code
def yX10_help : MethodName := ⟨RX10, "help", "(I)I"⟩
abbrev cX10_idle : ByteArray := prog_1_method_26_code
def yX10_idle : MethodName := ⟨RX10, "idle", "(I)I"⟩
abbrev cX10_fewest : ByteArray := prog_1_method_27_code
def yX10_fewest : MethodName := ⟨RX10, "fewest", "(II)I"⟩
abbrev cX10_course : ByteArray := prog_1_method_28_code
def yX10_course : MethodName := ⟨RX10, "course", "(II)I"⟩
abbrev cX10_sets : ByteArray := prog_1_method_29_code
def yX10_sets : MethodName := ⟨RX10, "sets", "(III)I"⟩
abbrev cX10_easiest : ByteArray := prog_1_method_30_code
def yX10_easiest : MethodName := ⟨RX10, "easiest", "(I)I"⟩
abbrev cX10_fooled : ByteArray := prog_1_method_31_code
def yX10_fooled : MethodName := ⟨RX10, "fooled", "(II)I"⟩
abbrev cX10_tries : ByteArray := prog_1_method_32_code
def yX10_tries : MethodName := ⟨RX10, "tries", "(II)I"⟩
abbrev cX10_trick : ByteArray := prog_1_method_33_code
def yX10_trick : MethodName := ⟨RX10, "trick", "(II)I"⟩
abbrev cX10_harden : ByteArray := prog_1_method_34_code
def yX10_harden : MethodName := ⟨RX10, "harden", "(I)I"⟩
abbrev cX10_left : ByteArray := prog_1_method_35_code
def yX10_left : MethodName := ⟨RX10, "left", "(I)I"⟩
abbrev cX10_game : ByteArray := prog_1_method_36_code
def yX10_game : MethodName := ⟨RX10, "game", "(III)I"⟩
abbrev cX10_rests : ByteArray := prog_1_method_37_code
def yX10_rests : MethodName := ⟨RX10, "rests", "(I)I"⟩
abbrev cX10_rest : ByteArray := prog_1_method_38_code
def yX10_rest : MethodName := ⟨RX10, "rest", "(I)I"⟩
abbrev cX10_way : ByteArray := prog_1_method_39_code
def yX10_way : MethodName := ⟨RX10, "way", "(II)I"⟩
abbrev cX10_errors : ByteArray := prog_1_method_40_code
def yX10_errors : MethodName := ⟨RX10, "errors", "(II)I"⟩
abbrev cX10_learnt : ByteArray := prog_1_method_41_code
def yX10_learnt : MethodName := ⟨RX10, "learnt", "(II)I"⟩
abbrev cX10_next : ByteArray := prog_1_method_42_code
def yX10_next : MethodName := ⟨RX10, "next", "(II)I"⟩
abbrev cX10_same : ByteArray := prog_1_method_43_code
def yX10_same : MethodName := ⟨RX10, "same", "(I)I"⟩
abbrev cX10_alike : ByteArray := prog_1_method_44_code
def yX10_alike : MethodName := ⟨RX10, "alike", "(I)I"⟩
abbrev cX10_copy : ByteArray := prog_1_method_45_code
def yX10_copy : MethodName := ⟨RX10, "copy", "(II)I"⟩
abbrev cX10_hanging : ByteArray := prog_1_method_46_code
def yX10_hanging : MethodName := ⟨RX10, "hanging", "()I"⟩
abbrev cX10_hung : ByteArray := prog_1_method_47_code
def yX10_hung : MethodName := ⟨RX10, "hung", "(I)I"⟩
abbrev cX10_amiss : ByteArray := prog_1_method_48_code
def yX10_amiss : MethodName := ⟨RX10, "amiss", "(II)I"⟩
abbrev cX10_fits : ByteArray := prog_1_method_49_code
def yX10_fits : MethodName := ⟨RX10, "fits", "(I)I"⟩
abbrev cX10_sure : ByteArray := prog_1_method_50_code
def yX10_sure : MethodName := ⟨RX10, "sure", "(II)I"⟩
abbrev cX10_ask : ByteArray := prog_1_method_51_code
def yX10_ask : MethodName := ⟨RX10, "ask", "(I)I"⟩
abbrev cX10_leaves : ByteArray := prog_1_method_52_code
def yX10_leaves : MethodName := ⟨RX10, "leaves", "(I)I"⟩
abbrev cX10_hours : ByteArray := prog_1_method_53_code
def yX10_hours : MethodName := ⟨RX10, "hours", "()I"⟩
abbrev cX10_begins : ByteArray := prog_1_method_54_code
def yX10_begins : MethodName := ⟨RX10, "begins", "(I)I"⟩
abbrev cX10_teacher : ByteArray := prog_1_method_55_code
def yX10_teacher : MethodName := ⟨RX10, "teacher", "()I"⟩
abbrev cX10_train : ByteArray := prog_1_method_56_code
def yX10_train : MethodName := ⟨RX10, "train", "(III)I"⟩
abbrev cX10_owns : ByteArray := prog_1_method_57_code
def yX10_owns : MethodName := ⟨RX10, "owns", "(II)I"⟩
abbrev cX10_storm : ByteArray := prog_1_method_58_code
def yX10_storm : MethodName := ⟨RX10, "storm", "(III)I"⟩
abbrev cX10_years : ByteArray := prog_1_method_59_code
def yX10_years : MethodName := ⟨RX10, "years", "(IIII)I"⟩
abbrev cX10_count : ByteArray := prog_1_method_60_code
def yX10_count : MethodName := ⟨RX10, "count", "(I)I"⟩
abbrev cX10_image : ByteArray := prog_1_method_61_code
def yX10_image : MethodName := ⟨RX10, "image", "(I)I"⟩
abbrev cX10_back : ByteArray := prog_1_method_62_code
def yX10_back : MethodName := ⟨RX10, "back", "(I)I"⟩
abbrev cX10_row : ByteArray := prog_1_method_63_code
def yX10_row : MethodName := ⟨RX10, "row", "(III)I"⟩
abbrev cX10_write : ByteArray := prog_1_method_64_code
def yX10_write : MethodName := ⟨RX10, "write", "(IIJ)I"⟩
abbrev cX10_paste : ByteArray := prog_1_method_65_code
def yX10_paste : MethodName := ⟨RX10, "paste", "(IIIII)I"⟩
abbrev cX10_isZeroOrOne : ByteArray := prog_1_method_66_code
def yX10_isZeroOrOne : MethodName := ⟨RX10, "isZeroOrOne", "(I)Z"⟩
abbrev cX10_isWay : ByteArray := prog_1_method_67_code
def yX10_isWay : MethodName := ⟨RX10, "isWay", "(I)Z"⟩
abbrev cX10_isSeed : ByteArray := prog_1_method_68_code
def yX10_isSeed : MethodName := ⟨RX10, "isSeed", "(I)Z"⟩
abbrev cX10_isSlot : ByteArray := prog_1_method_69_code
def yX10_isSlot : MethodName := ⟨RX10, "isSlot", "(I)Z"⟩
abbrev cX10_isLesson : ByteArray := prog_1_method_70_code
def yX10_isLesson : MethodName := ⟨RX10, "isLesson", "(III)Z"⟩
abbrev cX10_bit : ByteArray := prog_1_method_71_code
def yX10_bit : MethodName := ⟨RX10, "bit", "(II)I"⟩
abbrev cX10_agree : ByteArray := prog_1_method_72_code
def yX10_agree : MethodName := ⟨RX10, "agree", "(III)Z"⟩
abbrev cX10_doneBy : ByteArray := prog_1_method_73_code
def yX10_doneBy : MethodName := ⟨RX10, "doneBy", "(I)I"⟩
abbrev cX10_wouldDo : ByteArray := prog_1_method_74_code
def yX10_wouldDo : MethodName := ⟨RX10, "wouldDo", "(II)I"⟩
abbrev cX10_ownerDeeds : ByteArray := prog_1_method_75_code
def yX10_ownerDeeds : MethodName := ⟨RX10, "ownerDeeds", "()I"⟩
abbrev cX10_houseDeeds : ByteArray := prog_1_method_76_code
def yX10_houseDeeds : MethodName := ⟨RX10, "houseDeeds", "(I)I"⟩
abbrev cX10_marksFor : ByteArray := prog_1_method_77_code
def yX10_marksFor : MethodName := ⟨RX10, "marksFor", "(I)I"⟩
abbrev cX10_gainOf : ByteArray := prog_1_method_78_code
def yX10_gainOf : MethodName := ⟨RX10, "gainOf", "(III)I"⟩
abbrev cX10_fooling : ByteArray := prog_1_method_79_code
def yX10_fooling : MethodName := ⟨RX10, "fooling", "(I)I"⟩
abbrev cX10_foolingAfter : ByteArray := prog_1_method_80_code
def yX10_foolingAfter : MethodName := ⟨RX10, "foolingAfter", "(II)I"⟩
abbrev cX10_stolenBy : ByteArray := prog_1_method_81_code
def yX10_stolenBy : MethodName := ⟨RX10, "stolenBy", "(II)I"⟩
abbrev cX10_isRest : ByteArray := prog_1_method_82_code
def yX10_isRest : MethodName := ⟨RX10, "isRest", "(III)Z"⟩
abbrev cX10_hangAll : ByteArray := prog_1_method_83_code
def yX10_hangAll : MethodName := ⟨RX10, "hangAll", "()Z"⟩
abbrev cX10_troubleWith : ByteArray := prog_1_method_84_code
def yX10_troubleWith : MethodName := ⟨RX10, "troubleWith", "(I)I"⟩
abbrev cX10_askedOf : ByteArray := prog_1_method_85_code
def yX10_askedOf : MethodName := ⟨RX10, "askedOf", "(LDoorSchool$Slot;)I"⟩
abbrev cX10_leftAtWorst : ByteArray := prog_1_method_86_code
def yX10_leftAtWorst : MethodName := ⟨RX10, "leftAtWorst", "(LDoorSchool$Slot;I)I"⟩
abbrev cX10_doneInStorm : ByteArray := prog_1_method_87_code
def yX10_doneInStorm : MethodName := ⟨RX10, "doneInStorm", "(II)I"⟩
abbrev cX10_fullSlots : ByteArray := prog_1_method_88_code
def yX10_fullSlots : MethodName := ⟨RX10, "fullSlots", "()I"⟩
def RX11 : String := "DoorSchoolModel"
def TX11 : u_T := fun k => match k with
  | 0 => ("DoorSchoolModel", "thrown", "I", false)
  | 1 => ("DoorSchoolModel", "world", "[I", true)
  | 2 => ("DoorSchoolModel", "images", "[I", true)
  | 3 => ("DoorSchoolModel", "hasImage", "[Z", true)
  | 4 => ("DoorSchoolModel", "tape", "[B", true)
  | 5 => ("DoorSchoolModel", "taped", "I", false)
  | 6 => ("DoorSchoolModel", "five", "[I", true)
  | 7 => ("DoorSchoolModel", "size", "I", false)
  | 8 => ("DoorSchoolModel", "at", "I", false)
  | 9 => ("DoorSchoolModel", "from", "I", false)
  | 10 => ("DoorSchoolModel", "token", "I", false)
  | 11 => ("DoorSchoolModel", "value", "I", false)
  | 12 => ("DoorSchoolModel", "faultKind", "I", false)
  | 13 => ("DoorSchoolModel", "faultPlace", "I", false)
  | 14 => ("DoorSchoolModel", "fresh", "[I", true)
  | 15 => ("DoorSchoolModel", "ruleSigns", "[I", true)
  | 16 => ("DoorSchoolModel", "ruleThere", "[I", true)
  | 17 => ("DoorSchoolModel", "ruleDeeds", "[I", true)
  | 18 => ("DoorSchoolModel", "rulesMany", "I", false)
  | 19 => ("DoorSchoolModel", "learnKnock", "[I", true)
  | 20 => ("DoorSchoolModel", "learnOpen", "[I", true)
  | 21 => ("DoorSchoolModel", "learnMany", "I", false)
  | 22 => ("DoorSchoolModel", "errorsMany", "I", false)
  | 23 => ("DoorSchoolModel", "learntMany", "I", false)
  | 24 => ("DoorSchoolModel", "hungNow", "[I", true)
  | 25 => ("DoorSchoolModel", "hungBest", "[I", true)
  | 26 => ("DoorSchoolModel", "hungLeast", "I", false)
  | 27 => ("DoorSchoolModel", "begin", "[I", true)
  | 28 => ("DoorSchoolModel", "busy", "[I", true)
  | 29 => ("DoorSchoolModel", "fixed", "[I", true)
  | 30 => ("DoorSchoolModel", "order", "[I", true)
  | 31 => ("DoorSchoolModel", "slipped", "I", false)
  | 32 => ("DoorSchoolModel", "many", "[I", true)
  | 33 => ("DoorSchoolModel", "width", "[I", true)
  | 34 => ("DoorSchoolModel", "numbers", "[J", true)
  | _ => ("DoorSchoolModel", "moving", "[J", true)
def tyX11 : Nat → FieldType := fun k => match k with
  | 0 => .int
  | 1 => .array .int
  | 2 => .array .int
  | 3 => .array .boolean
  | 4 => .array .byte
  | 5 => .int
  | 6 => .array .int
  | 7 => .int
  | 8 => .int
  | 9 => .int
  | 10 => .int
  | 11 => .int
  | 12 => .int
  | 13 => .int
  | 14 => .array .int
  | 15 => .array .int
  | 16 => .array .int
  | 17 => .array .int
  | 18 => .int
  | 19 => .array .int
  | 20 => .array .int
  | 21 => .int
  | 22 => .int
  | 23 => .int
  | 24 => .array .int
  | 25 => .array .int
  | 26 => .int
  | 27 => .array .int
  | 28 => .array .int
  | 29 => .array .int
  | 30 => .array .int
  | 31 => .int
  | 32 => .array .int
  | 33 => .array .int
  | 34 => .array .long
  | _ => .array .long
theorem nmX11 : ∀ a, a < 36 → ∀ b, b < 36 → a ≠ b → (TX11 a).2.1 ≠ (TX11 b).2.1 := by decide +kernel
theorem tyX11_ok : ∀ k, k < 36 → parseFieldDescriptor (TX11 k).2.2.1 = some (tyX11 k) := by decide +kernel
abbrev cX11_init : ByteArray := prog_13_method_1_code
def yX11_init : MethodName := ⟨RX11, "<init>", "()V"⟩
abbrev cX11_in : ByteArray := prog_13_method_3_code
def yX11_in : MethodName := ⟨RX11, "in", "(JJJ)Z"⟩
abbrev cX11_bits : ByteArray := prog_13_method_4_code
def yX11_bits : MethodName := ⟨RX11, "bits", "(I)I"⟩
abbrev cX11_bit : ByteArray := prog_13_method_5_code
def yX11_bit : MethodName := ⟨RX11, "bit", "(II)I"⟩
abbrev cX11_image : ByteArray := prog_13_method_6_code
def yX11_image : MethodName := ⟨RX11, "image", "(I)I"⟩
abbrev cX11_back : ByteArray := prog_13_method_7_code
def yX11_back : MethodName := ⟨RX11, "back", "(I)I"⟩
abbrev cX11_isSchool : ByteArray := prog_13_method_8_code
def yX11_isSchool : MethodName := ⟨RX11, "isSchool", "()Z"⟩
abbrev cX11_knocks : ByteArray := prog_13_method_9_code
def yX11_knocks : MethodName := ⟨RX11, "knocks", "()I"⟩
abbrev cX11_allKnocks : ByteArray := prog_13_method_10_code
def yX11_allKnocks : MethodName := ⟨RX11, "allKnocks", "()I"⟩
abbrev cX11_isKnock : ByteArray := prog_13_method_11_code
def yX11_isKnock : MethodName := ⟨RX11, "isKnock", "(J)Z"⟩
abbrev cX11_isDoor : ByteArray := prog_13_method_12_code
def yX11_isDoor : MethodName := ⟨RX11, "isDoor", "(I)Z"⟩
abbrev cX11_isExam : ByteArray := prog_13_method_13_code
def yX11_isExam : MethodName := ⟨RX11, "isExam", "(I)Z"⟩
abbrev cX11_isHouse : ByteArray := prog_13_method_14_code
def yX11_isHouse : MethodName := ⟨RX11, "isHouse", "(I)Z"⟩
abbrev cX11_isWay : ByteArray := prog_13_method_15_code
def yX11_isWay : MethodName := ⟨RX11, "isWay", "(I)Z"⟩
abbrev cX11_areDeeds : ByteArray := prog_13_method_16_code
def yX11_areDeeds : MethodName := ⟨RX11, "areDeeds", "(I)Z"⟩
abbrev cX11_of : ByteArray := prog_13_method_17_code
def yX11_of : MethodName := ⟨RX11, "of", "(II)I"⟩
abbrev cX11_lessonAt : ByteArray := prog_13_method_18_code
def yX11_lessonAt : MethodName := ⟨RX11, "lessonAt", "(II)I"⟩
abbrev cX11_feed : ByteArray := prog_13_method_19_code
def yX11_feed : MethodName := ⟨RX11, "feed", "(IIIII)I"⟩
abbrev cX11_end : ByteArray := prog_13_method_20_code
def yX11_end : MethodName := ⟨RX11, "end", "(I)I"⟩
abbrev cX11_see : ByteArray := prog_13_method_21_code
def yX11_see : MethodName := ⟨RX11, "see", "(I)I"⟩
abbrev cX11_advance : ByteArray := prog_13_method_22_code
def yX11_advance : MethodName := ⟨RX11, "advance", "()V"⟩
abbrev cX11_good : ByteArray := prog_13_method_23_code
def yX11_good : MethodName := ⟨RX11, "good", "()Z"⟩
abbrev cX11_errs : ByteArray := prog_13_method_24_code
def yX11_errs : MethodName := ⟨RX11, "errs", "(I)V"⟩
abbrev cX11_is : ByteArray := prog_13_method_25_code
def yX11_is : MethodName := ⟨RX11, "is", "(Ljava/lang/String;)Z"⟩
abbrev cX11_takes : ByteArray := prog_13_method_26_code
def yX11_takes : MethodName := ⟨RX11, "takes", "(Ljava/lang/String;)Z"⟩
abbrev cX11_needs : ByteArray := prog_13_method_27_code
def yX11_needs : MethodName := ⟨RX11, "needs", "(Ljava/lang/String;)V"⟩
abbrev cX11_number : ByteArray := prog_13_method_28_code
def yX11_number : MethodName := ⟨RX11, "number", "(II)I"⟩
abbrev cX11_told : ByteArray := prog_13_method_29_code
def yX11_told : MethodName := ⟨RX11, "told", "(Ljava/lang/String;II)I"⟩
abbrev cX11_fault : ByteArray := prog_13_method_30_code
def yX11_fault : MethodName := ⟨RX11, "fault", "(I)I"⟩
abbrev cX11_freshKnock : ByteArray := prog_13_method_31_code
def yX11_freshKnock : MethodName := ⟨RX11, "freshKnock", "()I"⟩
abbrev cX11_deed : ByteArray := prog_13_method_32_code
def yX11_deed : MethodName := ⟨RX11, "deed", "()I"⟩
abbrev cX11_isNextIn : ByteArray := prog_13_method_33_code
def yX11_isNextIn : MethodName := ⟨RX11, "isNextIn", "(I)Z"⟩
abbrev cX11_readDoor : ByteArray := prog_13_method_34_code
def yX11_readDoor : MethodName := ⟨RX11, "readDoor", "()V"⟩
abbrev cX11_readLesson : ByteArray := prog_13_method_35_code
def yX11_readLesson : MethodName := ⟨RX11, "readLesson", "()V"⟩
abbrev cX11_isFreshCopied : ByteArray := prog_13_method_36_code
def yX11_isFreshCopied : MethodName := ⟨RX11, "isFreshCopied", "(I)Z"⟩
abbrev cX11_doesFreshCopy : ByteArray := prog_13_method_37_code
def yX11_doesFreshCopy : MethodName := ⟨RX11, "doesFreshCopy", "(I)Z"⟩
abbrev cX11_readTwin : ByteArray := prog_13_method_38_code
def yX11_readTwin : MethodName := ⟨RX11, "readTwin", "()V"⟩
abbrev cX11_readRule : ByteArray := prog_13_method_39_code
def yX11_readRule : MethodName := ⟨RX11, "readRule", "(I)V"⟩
abbrev cX11_readNext : ByteArray := prog_13_method_40_code
def yX11_readNext : MethodName := ⟨RX11, "readNext", "()V"⟩
abbrev cX11_readLine : ByteArray := prog_13_method_41_code
def yX11_readLine : MethodName := ⟨RX11, "readLine", "()V"⟩
abbrev cX11_school : ByteArray := prog_13_method_42_code
def yX11_school : MethodName := ⟨RX11, "school", "()I"⟩
abbrev cX11_deedsOf : ByteArray := prog_13_method_43_code
def yX11_deedsOf : MethodName := ⟨RX11, "deedsOf", "(II)I"⟩
abbrev cX11_layRules : ByteArray := prog_13_method_44_code
def yX11_layRules : MethodName := ⟨RX11, "layRules", "()V"⟩
abbrev cX11_add : ByteArray := prog_13_method_45_code
def yX11_add : MethodName := ⟨RX11, "add", "(II)V"⟩
abbrev cX11_layLessons : ByteArray := prog_13_method_46_code
def yX11_layLessons : MethodName := ⟨RX11, "layLessons", "(I)V"⟩
abbrev cX11_laySet : ByteArray := prog_13_method_47_code
def yX11_laySet : MethodName := ⟨RX11, "laySet", "(II)V"⟩
abbrev cX11_isAsTold : ByteArray := prog_13_method_48_code
def yX11_isAsTold : MethodName := ⟨RX11, "isAsTold", "(I)Z"⟩
abbrev cX11_firstRule : ByteArray := prog_13_method_49_code
def yX11_firstRule : MethodName := ⟨RX11, "firstRule", "()I"⟩
abbrev cX11_latestOf : ByteArray := prog_13_method_50_code
def yX11_latestOf : MethodName := ⟨RX11, "latestOf", "(I)I"⟩
abbrev cX11_nearestTo : ByteArray := prog_13_method_51_code
def yX11_nearestTo : MethodName := ⟨RX11, "nearestTo", "(I)I"⟩
abbrev cX11_byLesson : ByteArray := prog_13_method_52_code
def yX11_byLesson : MethodName := ⟨RX11, "byLesson", "(II)I"⟩
abbrev cX11_learns : ByteArray := prog_13_method_53_code
def yX11_learns : MethodName := ⟨RX11, "learns", "(I)I"⟩
abbrev cX11_real : ByteArray := prog_13_method_54_code
def yX11_real : MethodName := ⟨RX11, "real", "(I)I"⟩
abbrev cX11_deedsOfDoor : ByteArray := prog_13_method_55_code
def yX11_deedsOfDoor : MethodName := ⟨RX11, "deedsOfDoor", "(I)I"⟩
abbrev cX11_ownDeeds : ByteArray := prog_13_method_56_code
def yX11_ownDeeds : MethodName := ⟨RX11, "ownDeeds", "()I"⟩
abbrev cX11_door : ByteArray := prog_13_method_57_code
def yX11_door : MethodName := ⟨RX11, "door", "(II)I"⟩
abbrev cX11_lesson : ByteArray := prog_13_method_58_code
def yX11_lesson : MethodName := ⟨RX11, "lesson", "(III)I"⟩
abbrev cX11_exam : ByteArray := prog_13_method_59_code
def yX11_exam : MethodName := ⟨RX11, "exam", "(II)I"⟩
abbrev cX11_house : ByteArray := prog_13_method_60_code
def yX11_house : MethodName := ⟨RX11, "house", "(II)I"⟩
abbrev cX11_opens : ByteArray := prog_13_method_61_code
def yX11_opens : MethodName := ⟨RX11, "opens", "(II)I"⟩
abbrev cX11_deeds : ByteArray := prog_13_method_62_code
def yX11_deeds : MethodName := ⟨RX11, "deeds", "(I)I"⟩
abbrev cX11_often : ByteArray := prog_13_method_63_code
def yX11_often : MethodName := ⟨RX11, "often", "(I)I"⟩
abbrev cX11_why : ByteArray := prog_13_method_64_code
def yX11_why : MethodName := ⟨RX11, "why", "(II)I"⟩
abbrev cX11_rule : ByteArray := prog_13_method_65_code
def yX11_rule : MethodName := ⟨RX11, "rule", "(II)I"⟩
abbrev cX11_rules : ByteArray := prog_13_method_66_code
def yX11_rules : MethodName := ⟨RX11, "rules", "(I)I"⟩
abbrev cX11_isRule : ByteArray := prog_13_method_67_code
def yX11_isRule : MethodName := ⟨RX11, "isRule", "(II)Z"⟩
abbrev cX11_does : ByteArray := prog_13_method_68_code
def yX11_does : MethodName := ⟨RX11, "does", "(II)I"⟩
abbrev cX11_told_ : ByteArray := prog_13_method_69_code
def yX11_told_ : MethodName := ⟨RX11, "told", "(II)I"⟩
abbrev cX11_isRight : ByteArray := prog_13_method_70_code
def yX11_isRight : MethodName := ⟨RX11, "isRight", "(II)Z"⟩
abbrev cX11_marksBy : ByteArray := prog_13_method_71_code
def yX11_marksBy : MethodName := ⟨RX11, "marksBy", "(I)I"⟩
abbrev cX11_marks : ByteArray := prog_13_method_72_code
def yX11_marks : MethodName := ⟨RX11, "marks", "(I)I"⟩
abbrev cX11_wrong : ByteArray := prog_13_method_73_code
def yX11_wrong : MethodName := ⟨RX11, "wrong", "(I)I"⟩
abbrev cX11_best : ByteArray := prog_13_method_74_code
def yX11_best : MethodName := ⟨RX11, "best", "()I"⟩
abbrev cX11_hard : ByteArray := prog_13_method_75_code
def yX11_hard : MethodName := ⟨RX11, "hard", "()I"⟩
abbrev cX11_teach : ByteArray := prog_13_method_76_code
def yX11_teach : MethodName := ⟨RX11, "teach", "(III)I"⟩
abbrev cX11_unteach : ByteArray := prog_13_method_77_code
def yX11_unteach : MethodName := ⟨RX11, "unteach", "()I"⟩
abbrev cX11_deedsWith : ByteArray := prog_13_method_78_code
def yX11_deedsWith : MethodName := ⟨RX11, "deedsWith", "(III)I"⟩
abbrev cX11_gains : ByteArray := prog_13_method_79_code
def yX11_gains : MethodName := ⟨RX11, "gains", "(III)I"⟩
abbrev cX11_help : ByteArray := prog_13_method_80_code
def yX11_help : MethodName := ⟨RX11, "help", "(I)I"⟩
abbrev cX11_deedsWithout : ByteArray := prog_13_method_81_code
def yX11_deedsWithout : MethodName := ⟨RX11, "deedsWithout", "(II)I"⟩
abbrev cX11_idle : ByteArray := prog_13_method_82_code
def yX11_idle : MethodName := ⟨RX11, "idle", "(I)I"⟩
abbrev cX11_learnsBy : ByteArray := prog_13_method_83_code
def yX11_learnsBy : MethodName := ⟨RX11, "learnsBy", "(III)Z"⟩
abbrev cX11_fewestSet : ByteArray := prog_13_method_84_code
def yX11_fewestSet : MethodName := ⟨RX11, "fewestSet", "(II)I"⟩
abbrev cX11_fewest : ByteArray := prog_13_method_85_code
def yX11_fewest : MethodName := ⟨RX11, "fewest", "(II)I"⟩
abbrev cX11_course : ByteArray := prog_13_method_86_code
def yX11_course : MethodName := ⟨RX11, "course", "(II)I"⟩
abbrev cX11_sets : ByteArray := prog_13_method_87_code
def yX11_sets : MethodName := ⟨RX11, "sets", "(III)I"⟩
abbrev cX11_easiest : ByteArray := prog_13_method_88_code
def yX11_easiest : MethodName := ⟨RX11, "easiest", "(I)I"⟩
abbrev cX11_fooled : ByteArray := prog_13_method_89_code
def yX11_fooled : MethodName := ⟨RX11, "fooled", "(II)I"⟩
abbrev cX11_trickOf : ByteArray := prog_13_method_90_code
def yX11_trickOf : MethodName := ⟨RX11, "trickOf", "(II)I"⟩
abbrev cX11_tries : ByteArray := prog_13_method_91_code
def yX11_tries : MethodName := ⟨RX11, "tries", "(II)I"⟩
abbrev cX11_trick : ByteArray := prog_13_method_92_code
def yX11_trick : MethodName := ⟨RX11, "trick", "(II)I"⟩
abbrev cX11_fooledBy : ByteArray := prog_13_method_93_code
def yX11_fooledBy : MethodName := ⟨RX11, "fooledBy", "(I)I"⟩
abbrev cX11_hardened : ByteArray := prog_13_method_94_code
def yX11_hardened : MethodName := ⟨RX11, "hardened", "(II)I"⟩
abbrev cX11_harden : ByteArray := prog_13_method_95_code
def yX11_harden : MethodName := ⟨RX11, "harden", "(I)I"⟩
abbrev cX11_left : ByteArray := prog_13_method_96_code
def yX11_left : MethodName := ⟨RX11, "left", "(I)I"⟩
abbrev cX11_deedsByWay : ByteArray := prog_13_method_97_code
def yX11_deedsByWay : MethodName := ⟨RX11, "deedsByWay", "(II)I"⟩
abbrev cX11_isStrange : ByteArray := prog_13_method_98_code
def yX11_isStrange : MethodName := ⟨RX11, "isStrange", "(I)Z"⟩
abbrev cX11_game : ByteArray := prog_13_method_99_code
def yX11_game : MethodName := ⟨RX11, "game", "(III)I"⟩
abbrev cX11_isRest : ByteArray := prog_13_method_100_code
def yX11_isRest : MethodName := ⟨RX11, "isRest", "(III)Z"⟩
abbrev cX11_rests : ByteArray := prog_13_method_101_code
def yX11_rests : MethodName := ⟨RX11, "rests", "(I)I"⟩
abbrev cX11_rest : ByteArray := prog_13_method_102_code
def yX11_rest : MethodName := ⟨RX11, "rest", "(I)I"⟩
abbrev cX11_way : ByteArray := prog_13_method_103_code
def yX11_way : MethodName := ⟨RX11, "way", "(II)I"⟩
abbrev cX11_teachAll : ByteArray := prog_13_method_104_code
def yX11_teachAll : MethodName := ⟨RX11, "teachAll", "(II)V"⟩
abbrev cX11_errors : ByteArray := prog_13_method_105_code
def yX11_errors : MethodName := ⟨RX11, "errors", "(II)I"⟩
abbrev cX11_learnt : ByteArray := prog_13_method_106_code
def yX11_learnt : MethodName := ⟨RX11, "learnt", "(II)I"⟩
abbrev cX11_next : ByteArray := prog_13_method_107_code
def yX11_next : MethodName := ⟨RX11, "next", "(II)I"⟩
abbrev cX11_numberAt : ByteArray := prog_13_method_108_code
def yX11_numberAt : MethodName := ⟨RX11, "numberAt", "(II)J"⟩
abbrev cX11_asksSeen : ByteArray := prog_13_method_109_code
def yX11_asksSeen : MethodName := ⟨RX11, "asksSeen", "(IZ)I"⟩
abbrev cX11_doesSo : ByteArray := prog_13_method_110_code
def yX11_doesSo : MethodName := ⟨RX11, "doesSo", "(II)Z"⟩
abbrev cX11_same : ByteArray := prog_13_method_111_code
def yX11_same : MethodName := ⟨RX11, "same", "(I)I"⟩
abbrev cX11_alike : ByteArray := prog_13_method_112_code
def yX11_alike : MethodName := ⟨RX11, "alike", "(I)I"⟩
abbrev cX11_isCopied : ByteArray := prog_13_method_113_code
def yX11_isCopied : MethodName := ⟨RX11, "isCopied", "(I)Z"⟩
abbrev cX11_copy : ByteArray := prog_13_method_114_code
def yX11_copy : MethodName := ⟨RX11, "copy", "(II)I"⟩
abbrev cX11_amissOf : ByteArray := prog_13_method_115_code
def yX11_amissOf : MethodName := ⟨RX11, "amissOf", "(II)I"⟩
abbrev cX11_hangAll : ByteArray := prog_13_method_116_code
def yX11_hangAll : MethodName := ⟨RX11, "hangAll", "()V"⟩
abbrev cX11_hanging : ByteArray := prog_13_method_117_code
def yX11_hanging : MethodName := ⟨RX11, "hanging", "()I"⟩
abbrev cX11_hung : ByteArray := prog_13_method_118_code
def yX11_hung : MethodName := ⟨RX11, "hung", "(I)I"⟩
abbrev cX11_amiss : ByteArray := prog_13_method_119_code
def yX11_amiss : MethodName := ⟨RX11, "amiss", "(II)I"⟩
abbrev cX11_fitsOf : ByteArray := prog_13_method_120_code
def yX11_fitsOf : MethodName := ⟨RX11, "fitsOf", "(I)I"⟩
abbrev cX11_fits : ByteArray := prog_13_method_121_code
def yX11_fits : MethodName := ⟨RX11, "fits", "(I)I"⟩
abbrev cX11_sure : ByteArray := prog_13_method_122_code
def yX11_sure : MethodName := ⟨RX11, "sure", "(II)I"⟩
abbrev cX11_worstOf : ByteArray := prog_13_method_123_code
def yX11_worstOf : MethodName := ⟨RX11, "worstOf", "(II)I"⟩
abbrev cX11_askOf : ByteArray := prog_13_method_124_code
def yX11_askOf : MethodName := ⟨RX11, "askOf", "(I)I"⟩
abbrev cX11_ask : ByteArray := prog_13_method_125_code
def yX11_ask : MethodName := ⟨RX11, "ask", "(I)I"⟩
abbrev cX11_leaves : ByteArray := prog_13_method_126_code
def yX11_leaves : MethodName := ⟨RX11, "leaves", "(I)I"⟩
abbrev cX11_takesOf : ByteArray := prog_13_method_127_code
def yX11_takesOf : MethodName := ⟨RX11, "takesOf", "(I)I"⟩
abbrev cX11_overOf : ByteArray := prog_13_method_128_code
def yX11_overOf : MethodName := ⟨RX11, "overOf", "(I)I"⟩
abbrev cX11_isFree : ByteArray := prog_13_method_129_code
def yX11_isFree : MethodName := ⟨RX11, "isFree", "(III)Z"⟩
abbrev cX11_put : ByteArray := prog_13_method_130_code
def yX11_put : MethodName := ⟨RX11, "put", "(II)V"⟩
abbrev cX11_afterAll : ByteArray := prog_13_method_131_code
def yX11_afterAll : MethodName := ⟨RX11, "afterAll", "(II)I"⟩
abbrev cX11_overBy : ByteArray := prog_13_method_132_code
def yX11_overBy : MethodName := ⟨RX11, "overBy", "(III)I"⟩
abbrev cX11_leastHours : ByteArray := prog_13_method_133_code
def yX11_leastHours : MethodName := ⟨RX11, "leastHours", "(II)I"⟩
abbrev cX11_hours : ByteArray := prog_13_method_134_code
def yX11_hours : MethodName := ⟨RX11, "hours", "()I"⟩
abbrev cX11_mayBegin : ByteArray := prog_13_method_135_code
def yX11_mayBegin : MethodName := ⟨RX11, "mayBegin", "(II)Z"⟩
abbrev cX11_begins : ByteArray := prog_13_method_136_code
def yX11_begins : MethodName := ⟨RX11, "begins", "(I)I"⟩
abbrev cX11_teacher : ByteArray := prog_13_method_137_code
def yX11_teacher : MethodName := ⟨RX11, "teacher", "()I"⟩
abbrev cX11_train : ByteArray := prog_13_method_138_code
def yX11_train : MethodName := ⟨RX11, "train", "(III)I"⟩
abbrev cX11_owns : ByteArray := prog_13_method_139_code
def yX11_owns : MethodName := ⟨RX11, "owns", "(II)I"⟩
abbrev cX11_stormed : ByteArray := prog_13_method_140_code
def yX11_stormed : MethodName := ⟨RX11, "stormed", "(JI)I"⟩
abbrev cX11_isSeed : ByteArray := prog_13_method_141_code
def yX11_isSeed : MethodName := ⟨RX11, "isSeed", "(I)Z"⟩
abbrev cX11_storm : ByteArray := prog_13_method_142_code
def yX11_storm : MethodName := ⟨RX11, "storm", "(III)I"⟩
abbrev cX11_years : ByteArray := prog_13_method_143_code
def yX11_years : MethodName := ⟨RX11, "years", "(IIII)I"⟩
abbrev cX11_count : ByteArray := prog_13_method_144_code
def yX11_count : MethodName := ⟨RX11, "count", "(I)I"⟩
abbrev cX11_isSlot : ByteArray := prog_13_method_145_code
def yX11_isSlot : MethodName := ⟨RX11, "isSlot", "(I)Z"⟩
abbrev cX11_cut : ByteArray := prog_13_method_146_code
def yX11_cut : MethodName := ⟨RX11, "cut", "(JI)J"⟩
abbrev cX11_row : ByteArray := prog_13_method_147_code
def yX11_row : MethodName := ⟨RX11, "row", "(III)I"⟩
abbrev cX11_write : ByteArray := prog_13_method_148_code
def yX11_write : MethodName := ⟨RX11, "write", "(IIJ)I"⟩
abbrev cX11_paste : ByteArray := prog_13_method_149_code
def yX11_paste : MethodName := ⟨RX11, "paste", "(IIIII)I"⟩
def RJ6 : String := "java/lang/Integer"
abbrev cJ6_bitCount_0f7a4 : ByteArray := prog_14_method_49_code
def yJ6_bitCount_0f7a4 : MethodName := ⟨RJ6, "bitCount", "(I)I"⟩
def RJ9 : String := "java/lang/Math"
abbrev cJ9_max_7cf53 : ByteArray := prog_15_method_65_code
def yJ9_max_7cf53 : MethodName := ⟨RJ9, "max", "(II)I"⟩
abbrev cJ9_min_7cf53 : ByteArray := prog_15_method_69_code
def yJ9_min_7cf53 : MethodName := ⟨RJ9, "min", "(II)I"⟩
def RJ0 : String := "java/lang/String"
abbrev cJ0_length_8abf5 : ByteArray := prog_16_method_54_code
def yJ0_length_8abf5 : MethodName := ⟨RJ0, "length", "()I"⟩
abbrev cJ0_charAt_5068e : ByteArray := prog_16_method_56_code
def yJ0_charAt_5068e : MethodName := ⟨RJ0, "charAt", "(I)C"⟩
abbrev cJ0_coder_7d493 : ByteArray := prog_16_method_152_code
def yJ0_coder_7d493 : MethodName := ⟨RJ0, "coder", "()B"⟩
abbrev cJ0_isLatin1_aae02 : ByteArray := prog_16_method_154_code
def yJ0_isLatin1_aae02 : MethodName := ⟨RJ0, "isLatin1", "()Z"⟩
abbrev cJ0_checkIndex_df160 : ByteArray := prog_16_method_155_code
def yJ0_checkIndex_df160 : MethodName := ⟨RJ0, "checkIndex", "(II)V"⟩
def RJ1 : String := "java/lang/StringLatin1"
abbrev cJ1_charAt_3b067 : ByteArray := prog_17_method_2_code
def yJ1_charAt_3b067 : MethodName := ⟨RJ1, "charAt", "([BI)C"⟩
def RJ2 : String := "java/lang/StringUTF16"
abbrev cJ2_getChar_3b067 : ByteArray := prog_18_method_5_code
def yJ2_getChar_3b067 : MethodName := ⟨RJ2, "getChar", "([BI)C"⟩
abbrev cJ2_length_9d52b : ByteArray := prog_18_method_6_code
def yJ2_length_9d52b : MethodName := ⟨RJ2, "length", "([B)I"⟩
abbrev cJ2_charAt_3b067 : ByteArray := prog_18_method_83_code
def yJ2_charAt_3b067 : MethodName := ⟨RJ2, "charAt", "([BI)C"⟩
abbrev cJ2_checkIndex_2214a : ByteArray := prog_18_method_91_code
def yJ2_checkIndex_2214a : MethodName := ⟨RJ2, "checkIndex", "(I[B)V"⟩
def RJ10 : String := "java/lang/System"
def RJ7 : String := "java/util/Arrays"
abbrev cJ7_fill_d0a16 : ByteArray := prog_20_method_101_code
def yJ7_fill_d0a16 : MethodName := ⟨RJ7, "fill", "([JJ)V"⟩
abbrev cJ7_fill_53178 : ByteArray := prog_20_method_103_code
def yJ7_fill_53178 : MethodName := ⟨RJ7, "fill", "([II)V"⟩
def RJ3 : String := "jdk/internal/util/Preconditions"
abbrev cJ3_checkIndex_8e157 : ByteArray := prog_21_method_11_code
def yJ3_checkIndex_8e157 : MethodName := ⟨RJ3, "checkIndex", "(IILjava/util/function/BiFunction;)I"⟩
def RL : String := "DoorSchoolLaw"
abbrev cL_law : ByteArray := code
def yL_law : MethodName := ⟨RL, "law", "([I)Z"⟩
abbrev vwCl : List vw_C := [(RX0, TX0, 4), (RX1, TX1, 6), (RX2, TX2, 2), (RX3, TX3, 3), (RX4, TX4, 16), (RX5, TX5, 7), (RX6, TX6, 5), (RX7, TX7, 4), (RX8, TX8, 2), (RX9, TX9, 5), (RX10, TX10, 11), (RX11, TX11, 36)]
def HOST : String := "DoorSchool"
/-- the types of the rows -/
def TYS (tyc : Nat → ClassId) : List (ClassId × FieldType) := [(tyc 0, .int), (tyc 1, .long), (tyc 2, .byte), (tyc 3, .boolean), (tyc 4, .object RX0), (tyc 5, .object RX4), (tyc 6, .object RX7)]
theorem TYS_get (tyc : Nat → ClassId) {i : Nat} (h : i < 7) : ∃ ty, (TYS tyc)[i]? = some (tyc i, ty) := by
  match i, h with
  | 0, _ => exact ⟨_, rfl⟩
  | 1, _ => exact ⟨_, rfl⟩
  | 2, _ => exact ⟨_, rfl⟩
  | 3, _ => exact ⟨_, rfl⟩
  | 4, _ => exact ⟨_, rfl⟩
  | 5, _ => exact ⟨_, rfl⟩
  | 6, _ => exact ⟨_, rfl⟩
  | n + 7, h => omega
def TYF (ci : Nat) : Nat → FieldType := match ci with
  | 0 => tyX0
  | 1 => tyX1
  | 2 => tyX2
  | 3 => tyX3
  | 4 => tyX4
  | 5 => tyX5
  | 6 => tyX6
  | 7 => tyX7
  | 8 => tyX8
  | 9 => tyX9
  | 10 => tyX10
  | _ => tyX11
/-- a new object -/
def DFL (ci : Nat) : List Value := match ci with
  | 0 => [.null, .int 0, .int 0, .int 0]
  | 1 => [.null, .null, .null, .int 0, .int 0, .int 0]
  | 2 => [.null, .null]
  | 3 => [.null, .null, .int 0]
  | 4 => [.int 0, .int 0, .int 0, .int 0, .null, .null, .int 0, .int 0, .int 0, .null, .null, .int 0, .null, .null, .int 0, .null]
  | 5 => [.null, .int 0, .int 0, .int 0, .int 0, .int 0, .int 0]
  | 6 => [.int 0, .int 0, .null, .null, .null]
  | 7 => [.null, .int 0, .int 0, .int 0]
  | 8 => [.null, .int 0]
  | 9 => [.null, .null, .null, .int 0, .int 0]
  | 10 => [.null, .null, .null, .null, .null, .null, .null, .null, .null, .null, .null]
  | 11 => [.int 0, .null, .null, .null, .null, .int 0, .null, .int 0, .int 0, .int 0, .int 0, .int 0, .int 0, .int 0, .null, .null, .null, .null, .int 0, .null, .null, .int 0, .int 0, .int 0, .null, .null, .int 0, .null, .null, .null, .null, .int 0, .null, .null, .null, .null]
  | _ => []
end
section
/-! THE ABSTRACT MACHINE: cells by numbers in the order in which they are made; the true address is base + number. A cell: kind (0 object, 1 ints, 2 longs, 3 references), class or type, contents. The script's row is the value retAddr. -/
abbrev AC : Type := Nat × Nat × List Value
abbrev AH : Type := List AC
abbrev ALv : Type := List (Nat × Value)
/-- place, then instruction, length, target of its jump -/
abbrev AI : Type := Nat × Instr × Nat × Nat
/-- pool entry, then class, slot, code (0 own, 1 nest mate, 2 own final in init, 3 own final, 4 nest mate's final), place of its word -/
abbrev AF : Type := Nat × Nat × Nat × Nat × Nat × Nat
/-- pool entry, then kind (0 virtual, 1 virtual of a nest mate, 2 static, 3 static of a nest mate, 4 init, 5 init of a nest mate, 8 arraycopy, 9 Object's init), callee, place of its word -/
abbrev AK : Type := Nat × Nat × Nat × Nat × Nat
abbrev AKi : Type := Nat × Int32 × Nat × Nat
abbrev AKl : Type := Nat × Int64 × Nat × Nat
/-- pool entry, then class, place of its word -/
abbrev AKc : Type := Nat × Nat × Nat × Nat
abbrev MR : Type := (MethodName × ByteArray × Nat × Nat × Option FieldType) × List AI × (List AF × List AK × List AKi × List AKl × List AKc) × (Nat × (Nat × Nat) × (Nat × Nat) × (Nat × Nat) × (Nat × Nat))
def my (F : MR) : MethodName := F.1.1
def mcc (F : MR) : ByteArray := F.1.2.1
def mml (F : MR) : Nat := F.1.2.2.1
def mnp (F : MR) : Nat := F.1.2.2.2.1
def mret (F : MR) : Option FieldType := F.1.2.2.2.2
def mcode (F : MR) : List AI := F.2.1
def mfl (F : MR) : List AF := F.2.2.1.1
def mcl (F : MR) : List AK := F.2.2.1.2.1
def mki (F : MR) : List AKi := F.2.2.1.2.2.1
def mkl (F : MR) : List AKl := F.2.2.1.2.2.2.1
def mkc (F : MR) : List AKc := F.2.2.1.2.2.2.2
def mci (F : MR) : Nat := F.2.2.2.1
def mpCode (F : MR) : Nat × Nat := F.2.2.2.2.1
def mpIni (F : MR) : Nat × Nat := F.2.2.2.2.2.1
def mpIns (F : MR) : Nat × Nat := F.2.2.2.2.2.2.1
def mpSel (F : MR) : Nat × Nat := F.2.2.2.2.2.2.2
def fnd {α : Type} (l : List (Nat × α)) (k : Nat) : Option α := match l with
  | [] => none
  | q :: t => if q.1 == k then some q.2 else fnd t k
theorem fnd_mem {α : Type} {l : List (Nat × α)} {k : Nat} {a : α} (h : fnd l k = some a) : (k, a) ∈ l := by
  induction l with
  | nil => cases h
  | cons q t ih =>
    unfold fnd at h
    split at h
    · rename_i hq
      cases h
      have e : q.1 = k := by simpa using hq
      subst e
      exact List.mem_cons_self
    · exact List.mem_cons_of_mem _ (ih h)
def ilen : Instr → Nat
  | .bipush _ | .ldc _ | .iload _ | .lload _ | .aload _ | .istore _ | .lstore _ | .astore _ | .newarray _ => 2
  | .sipush _ | .getfield _ | .putfield _ | .goto _ | .ifCond _ _ | .if_icmp _ _ | .iinc _ _ | .invokevirtual _ | .invokestatic _ | .invokespecial _ | .new _ | .anewarray _ | .ldc_w _ | .ldc2_w _ => 3
  | .tableswitch _ _ _ _ | .lookupswitch _ _ => 0
  | _ => 1
def ioff : Instr → Option Int
  | .goto o | .ifCond _ o | .if_icmp _ o => some o
  | _ => none
/-- 0 reads alone, 1 writes, 2 makes, 3 calls, 4 returns -/
def ikind : Instr → Nat
  | .putfield _ | .iastore | .bastore | .lastore | .aastore => 1
  | .new _ | .newarray _ | .anewarray _ => 2
  | .invokevirtual _ | .invokestatic _ | .invokespecial _ => 3
  | .ireturn | .lreturn | .areturn | .return_ => 4
  | _ => 0
/-! values, cells and worlds as the machine has them -/
def gV (b base : Nat) : Value → Value
  | .ref i => .ref (base + i)
  | .retAddr _ => .ref b
  | v => v
def asI : Value → Int32
  | .int x => x
  | _ => 0
def asL : Value → Int64
  | .long x => x
  | _ => 0
def asR (base : Nat) : Value → Option Nat
  | .ref i => some (base + i)
  | _ => none
def gE (b base : Nat) (tyc : Nat → ClassId) (c : AC) : va_E :=
  if c.1 = 0 then .inr (c.2.1, c.2.2.map (gV b base))
  else if c.1 = 1 then .inl (tyc c.2.1, c.2.2.length, .inl (fun j => asI (c.2.2.getD j .null)))
  else if c.1 = 2 then .inl (tyc c.2.1, c.2.2.length, .inr (.inl (fun j => asL (c.2.2.getD j .null))))
  else .inl (tyc c.2.1, c.2.2.length, .inr (.inr (.inr (.inr (fun j => asR base (c.2.2.getD j .null))))))
def gW (b base : Nat) (tyc : Nat → ClassId) (h : AH) : va_W := h.mapIdx (fun i c => (base + i, gE b base tyc c))
def gL (b base : Nat) (lv : ALv) : List (Nat × Value) := lv.map (fun q => (q.1, gV b base q.2))
theorem gV_cat (b base : Nat) (v : Value) : (gV b base v).category = v.category := by cases v <;> rfl
theorem gW_get (b base : Nat) (tyc : Nat → ClassId) (h : AH) (i : Nat) : (gW b base tyc h)[i]? = (h[i]?).map (fun c => (base + i, gE b base tyc c)) := by
  unfold gW; rw [List.getElem?_mapIdx]
theorem gW_at {b base : Nat} {tyc : Nat → ClassId} {h : AH} {i : Nat} {c : AC} (hc : h[i]? = some c) : (gW b base tyc h)[i]? = some (base + i, gE b base tyc c) := by
  rw [gW_get, hc]; rfl
theorem gW_len (b base : Nat) (tyc : Nat → ClassId) (h : AH) : (gW b base tyc h).length = h.length := by
  unfold gW; simp
theorem gW_set {b base : Nat} {tyc : Nat → ClassId} {h : AH} {i : Nat} {c : AC} : (gW b base tyc h).set i (base + i, gE b base tyc c) = gW b base tyc (h.set i c) := by
  apply List.ext_getElem?
  intro j
  rw [gW_get, List.getElem?_set, List.getElem?_set, gW_get, gW_len]
  by_cases hij : i = j
  · subst hij
    by_cases hi : i < h.length <;> simp [hi]
  · simp [hij]
theorem gW_push (b base : Nat) (tyc : Nat → ClassId) (h : AH) (c : AC) : gW b base tyc (h ++ [c]) = gW b base tyc h ++ [(base + h.length, gE b base tyc c)] := by
  unfold gW; simp [List.mapIdx_append]
theorem gW_D (b base : Nat) (tyc : Nat → ClassId) (h : AH) : va_D (fun q => base ≤ q) (gW b base tyc h) := by
  refine ⟨fun i j p q hi hj hpq => ?_, fun k q hk => ?_⟩
  · rw [gW_get] at hi hj
    obtain ⟨c, -, rfl⟩ := Option.map_eq_some_iff.mp hi
    obtain ⟨d, -, rfl⟩ := Option.map_eq_some_iff.mp hj
    dsimp only at hpq
    omega
  · rw [gW_get] at hk
    obtain ⟨c, -, rfl⟩ := Option.map_eq_some_iff.mp hk
    exact Nat.le_add_right _ _
theorem gE_o {b base : Nat} {tyc : Nat → ClassId} {c : AC} (h : c.1 = 0) : gE b base tyc c = .inr (c.2.1, c.2.2.map (gV b base)) := by simp [gE, h]
theorem gE_i {b base : Nat} {tyc : Nat → ClassId} {c : AC} (h : c.1 = 1) : gE b base tyc c = .inl (tyc c.2.1, c.2.2.length, .inl (fun j => asI (c.2.2.getD j .null))) := by simp [gE, h]
theorem gE_l {b base : Nat} {tyc : Nat → ClassId} {c : AC} (h : c.1 = 2) : gE b base tyc c = .inl (tyc c.2.1, c.2.2.length, .inr (.inl (fun j => asL (c.2.2.getD j .null)))) := by simp [gE, h]
theorem gE_r {b base : Nat} {tyc : Nat → ClassId} {c : AC} (h : c.1 = 3) : gE b base tyc c = .inl (tyc c.2.1, c.2.2.length, .inr (.inr (.inr (.inr (fun j => asR base (c.2.2.getD j .null)))))) := by simp [gE, h]
/-- the world: the cells from base on -/
def Wd (D : va_G) (tyc : Nat → ClassId) (b base : Nat) (h : AH) (H : Heap) : Prop := H.size = base + h.length ∧ va_P D vwCl (gW b base tyc h) H
def slo (h : AH) : Nat := (h.map (fun c => c.2.2.length)).sum
theorem lvA {ls : Array Slot} {nL b base : Nat} {lv : ALv} {i : Nat} {v : Value} (h : lv_has ls nL (gL b base lv)) (hf : fnd lv i = some v) : ls[i]? = some (.val (gV b base v)) :=
  h.2.2 (i, gV b base v) (List.mem_map.mpr ⟨(i, v), fnd_mem hf, rfl⟩)
def lvset1 (lv : ALv) (i : Nat) (v : Value) : ALv := (i, v) :: lv.filter (fun q => !(q.1 == i) && !(q.1 + 1 == i && q.2.category == 2))
def lvset2 (lv : ALv) (i : Nat) (v : Value) : ALv := (i, v) :: lv.filter (fun q => !(q.1 == i) && (!(q.1 == i + 1) && !(q.1 + 1 == i && q.2.category == 2)))
theorem gL_set1 (b base : Nat) (lv : ALv) (i : Nat) (v : Value) : (i, gV b base v) :: (gL b base lv).filter (fun q => !(q.1 == i) && !(q.1 + 1 == i && q.2.category == 2)) = gL b base (lvset1 lv i v) := by
  simp [gL, lvset1, List.filter_map, Function.comp_def, gV_cat]
theorem gL_set2 (b base : Nat) (lv : ALv) (i : Nat) (v : Value) : (i, gV b base v) :: (gL b base lv).filter (fun q => !(q.1 == i) && (!(q.1 == i + 1) && !(q.1 + 1 == i && q.2.category == 2))) = gL b base (lvset2 lv i v) := by
  simp [gL, lvset2, List.filter_map, Function.comp_def, gV_cat]
/-! the stack's shapes -/
def sI {α : Type} (st : List Value) (f : Int32 → List Value → Option α) : Option α := match st with
  | .int x :: r => f x r
  | _ => none
def sII {α : Type} (st : List Value) (f : Int32 → Int32 → List Value → Option α) : Option α := match st with
  | .int y :: .int x :: r => f x y r
  | _ => none
def sL {α : Type} (st : List Value) (f : Int64 → List Value → Option α) : Option α := match st with
  | .long x :: r => f x r
  | _ => none
def sLL {α : Type} (st : List Value) (f : Int64 → Int64 → List Value → Option α) : Option α := match st with
  | .long y :: .long x :: r => f x y r
  | _ => none
def sLI {α : Type} (st : List Value) (f : Int64 → Int32 → List Value → Option α) : Option α := match st with
  | .int y :: .long x :: r => f x y r
  | _ => none
def sR {α : Type} (st : List Value) (f : Nat → List Value → Option α) : Option α := match st with
  | .ref a :: r => f a r
  | _ => none
def sRI {α : Type} (st : List Value) (f : Nat → Int32 → List Value → Option α) : Option α := match st with
  | .int j :: .ref a :: r => f a j r
  | _ => none
theorem sI_inv {α : Type} {st : List Value} {f : Int32 → List Value → Option α} {a : α} (h : sI st f = some a) : ∃ x r, st = .int x :: r ∧ f x r = some a := by
  unfold sI at h; split at h
  · exact ⟨_, _, rfl, h⟩
  · cases h
theorem sII_inv {α : Type} {st : List Value} {f : Int32 → Int32 → List Value → Option α} {a : α} (h : sII st f = some a) : ∃ x y r, st = .int y :: .int x :: r ∧ f x y r = some a := by
  unfold sII at h; split at h
  · exact ⟨_, _, _, rfl, h⟩
  · cases h
theorem sL_inv {α : Type} {st : List Value} {f : Int64 → List Value → Option α} {a : α} (h : sL st f = some a) : ∃ x r, st = .long x :: r ∧ f x r = some a := by
  unfold sL at h; split at h
  · exact ⟨_, _, rfl, h⟩
  · cases h
theorem sLL_inv {α : Type} {st : List Value} {f : Int64 → Int64 → List Value → Option α} {a : α} (h : sLL st f = some a) : ∃ x y r, st = .long y :: .long x :: r ∧ f x y r = some a := by
  unfold sLL at h; split at h
  · exact ⟨_, _, _, rfl, h⟩
  · cases h
theorem sLI_inv {α : Type} {st : List Value} {f : Int64 → Int32 → List Value → Option α} {a : α} (h : sLI st f = some a) : ∃ x y r, st = .int y :: .long x :: r ∧ f x y r = some a := by
  unfold sLI at h; split at h
  · exact ⟨_, _, _, rfl, h⟩
  · cases h
theorem sR_inv {α : Type} {st : List Value} {f : Nat → List Value → Option α} {a : α} (h : sR st f = some a) : ∃ x r, st = .ref x :: r ∧ f x r = some a := by
  unfold sR at h; split at h
  · exact ⟨_, _, rfl, h⟩
  · cases h
theorem sRI_inv {α : Type} {st : List Value} {f : Nat → Int32 → List Value → Option α} {a : α} (h : sRI st f = some a) : ∃ x j r, st = .int j :: .ref x :: r ∧ f x j r = some a := by
  unfold sRI at h; split at h
  · exact ⟨_, _, _, rfl, h⟩
  · cases h
def oB {α β : Type} (o : Option α) (f : α → Option β) : Option β := match o with
  | some a => f a
  | none => none
theorem oB_inv {α β : Type} {o : Option α} {f : α → Option β} {b : β} (h : oB o f = some b) : ∃ a, o = some a ∧ f a = some b := by
  unfold oB at h; split at h
  · exact ⟨_, rfl, h⟩
  · cases h
def oC {α : Type} (b : Bool) (o : Option α) : Option α := match b with
  | true => o
  | false => none
theorem oC_inv {α : Type} {b : Bool} {o : Option α} {a : α} (h : oC b o = some a) : b = true ∧ o = some a := by
  unfold oC at h; split at h
  · exact ⟨rfl, h⟩
  · cases h
def ldI (lv : ALv) (k : Nat) : Option Value := match fnd lv k with
  | some (.int x) => some (.int x)
  | _ => none
def ldL (lv : ALv) (k : Nat) : Option Value := match fnd lv k with
  | some (.long x) => some (.long x)
  | _ => none
def ldA (lv : ALv) (k : Nat) : Option Value := match fnd lv k with
  | some (.ref x) => some (.ref x)
  | some (.retAddr x) => some (.retAddr x)
  | some .null => some .null
  | _ => none
theorem ldI_inv {lv : ALv} {k : Nat} {v : Value} (h : ldI lv k = some v) : ∃ x, v = .int x ∧ fnd lv k = some (.int x) := by
  unfold ldI at h; split at h
  · rename_i e; cases h; exact ⟨_, rfl, e⟩
  · cases h
theorem ldL_inv {lv : ALv} {k : Nat} {v : Value} (h : ldL lv k = some v) : ∃ x, v = .long x ∧ fnd lv k = some (.long x) := by
  unfold ldL at h; split at h
  · rename_i e; cases h; exact ⟨_, rfl, e⟩
  · cases h
theorem ldA_inv {lv : ALv} {k : Nat} {v : Value} (h : ldA lv k = some v) : (v = .null ∨ (∃ x, v = .ref x) ∨ ∃ x, v = .retAddr x) ∧ fnd lv k = some v := by
  unfold ldA at h; split at h
  · rename_i e; cases h; exact ⟨Or.inr (Or.inl ⟨_, rfl⟩), e⟩
  · rename_i e; cases h; exact ⟨Or.inr (Or.inr ⟨_, rfl⟩), e⟩
  · rename_i e; cases h; exact ⟨Or.inl rfl, e⟩
  · cases h
/-- what a field of a type may hold -/
def okFit (ty : FieldType) (v : Value) : Bool := match ty, v with
  | .int, .int _ => true
  | .boolean, .int x => x == 0 || x == 1
  | .object _, .ref _ => true
  | .object _, .null => true
  | .array _, .ref _ => true
  | .array _, .null => true
  | _, _ => false
theorem okFit_spec {ty : FieldType} {v : Value} (b base : Nat) (h : okFit ty v = true) : narrow ty (gV b base v) = gV b base v ∧ fits ty (gV b base v) = true := by
  unfold okFit at h
  split at h
  · exact ⟨rfl, rfl⟩
  · rename_i x
    simp only [Bool.or_eq_true, beq_iff_eq] at h
    rcases h with rfl | rfl
    · exact ⟨(by decide : narrow .boolean (.int 0) = .int 0), (by decide : fits .boolean (.int 0) = true)⟩
    · exact ⟨(by decide : narrow .boolean (.int 1) = .int 1), (by decide : fits .boolean (.int 1) = true)⟩
  · exact ⟨rfl, rfl⟩
  · exact ⟨rfl, rfl⟩
  · exact ⟨rfl, rfl⟩
  · exact ⟨rfl, rfl⟩
  · cases h
def cats (r : List Value) : Nat := (r.map fun v => v.category).sum
theorem cats_g (b base : Nat) (r : List Value) : ((r.map (gV b base)).map fun v => v.category).sum = cats r := by
  unfold cats
  rw [List.map_map]
  congr 1
  exact List.map_congr_left fun v _ => gV_cat b base v
end
section
/-! what the tables' entries say -/
def chunk (i : Nat) : List Cond := match i with
  | 0 => k2_sels lw_privs
  | 1 => tables_1_1
  | 2 => tables_1_2
  | 3 => tables_1_3
  | 4 => tables_1_4
  | 5 => tables_1_5
  | 6 => tables_1_6
  | 7 => tables_1_7
  | 8 => tables_1_8
  | _ => []
theorem chunk_in {i : Nat} {w : Cond} (h : w ∈ chunk i) : w ∈ lw_tbl := by
  have key : ∀ j, w ∈ chunk j → w ∈ lw_tbl := fun j => match j with
    | 0 => fun h => List.mem_append_left _ h
    | 1 => fun h => List.mem_append_right _ (List.mem_append_left _ h)
    | 2 => fun h => List.mem_append_right _ (List.mem_append_right _ (List.mem_append_left _ h))
    | 3 => fun h => List.mem_append_right _ (List.mem_append_right _ (List.mem_append_right _ (List.mem_append_left _ h)))
    | 4 => fun h => List.mem_append_right _ (List.mem_append_right _ (List.mem_append_right _ (List.mem_append_right _ (List.mem_append_left _ h))))
    | 5 => fun h => List.mem_append_right _ (List.mem_append_right _ (List.mem_append_right _ (List.mem_append_right _ (List.mem_append_right _ (List.mem_append_left _ h)))))
    | 6 => fun h => List.mem_append_right _ (List.mem_append_right _ (List.mem_append_right _ (List.mem_append_right _ (List.mem_append_right _ (List.mem_append_right _ (List.mem_append_left _ h))))))
    | 7 => fun h => List.mem_append_right _ (List.mem_append_right _ (List.mem_append_right _ (List.mem_append_right _ (List.mem_append_right _ (List.mem_append_right _ (List.mem_append_right _ (List.mem_append_left _ h)))))))
    | 8 => fun h => List.mem_append_right _ (List.mem_append_right _ (List.mem_append_right _ (List.mem_append_right _ (List.mem_append_right _ (List.mem_append_right _ (List.mem_append_right _ (List.mem_append_right _ h)))))))
    | _ + 9 => fun h => absurd h List.not_mem_nil
  exact key i h
def TBL : List Cond := lw_tbl.filter goodWord
theorem TBL_lw {w : Cond} (h : w ∈ TBL) : w ∈ lw_tbl := (List.mem_filter.mp h).1
theorem TBL_good {w : Cond} (h : w ∈ TBL) : (w.onTables && w.keeps) = true ∨ ∃ ty, w = .arrayClass ty := good_of_word (List.mem_filter.mp h).2
/-- a word, by its place -/
def isW (q : Nat × Nat) (w : Cond) : Bool := decide ((chunk q.1)[q.2]? = some w) && goodWord w
theorem isW_in {q : Nat × Nat} {w : Cond} (h : isW q w = true) : w ∈ TBL := by
  unfold isW at h
  rw [Bool.and_eq_true] at h
  exact List.mem_filter.mpr ⟨chunk_in (List.mem_of_getElem? (of_decide_eq_true h.1)), h.2⟩
/-- links to nest mates' members: they ride beside the words that every call keeps -/
def isNest (w : Cond) : Bool := match w with
  | .fieldLinkNest _ _ _ _ _ _ => true
  | .methodLinkNest _ _ _ _ => true
  | _ => false
def NST : List Cond := lw_tbl.filter isNest
theorem NST_on {w : Cond} (h : w ∈ NST) : w.onTables = true := by
  have h2 := (List.mem_filter.mp h).2
  unfold isNest at h2
  split at h2
  · rfl
  · rfl
  · cases h2
theorem NST_warm {w : Cond} {s U : State} (h : w ∈ NST) (hW : s.WarmedH U.vm) (hZ : va_Nw w s) : va_Nw w U := by
  have h2 := (List.mem_filter.mp h).2
  unfold isNest at h2
  split at h2
  · exact va_Nw.warmF hW hZ
  · exact va_Nw.warmM hW hZ
  · cases h2
def InW (w : Cond) : Prop := w ∈ TBL ∨ w ∈ NST
def isK (q : Nat × Nat) (w : Cond) : Bool := decide ((chunk q.1)[q.2]? = some w) && (goodWord w || isNest w)
theorem isK_in {q : Nat × Nat} {w : Cond} (h : isK q w = true) : InW w := by
  unfold isK at h
  rw [Bool.and_eq_true, Bool.or_eq_true] at h
  have hm := chunk_in (List.mem_of_getElem? (of_decide_eq_true h.1))
  exact h.2.elim (fun z => Or.inl (List.mem_filter.mpr ⟨hm, z⟩)) (fun z => Or.inr (List.mem_filter.mpr ⟨hm, z⟩))
def chkI (F : MR) (q : AI) : Bool := decide (decode (mcc F) q.1 = .ok (q.2.1, q.2.2.1)) && (ilen q.2.1 == 0 || ilen q.2.1 == q.2.2.1) && (match ioff q.2.1 with
  | some o => decide ((q.1 : Int) + o = (q.2.2.2 : Int))
  | none => true)
def IOK (F : MR) (q : AI) : Prop := decode (mcc F) q.1 = .ok (q.2.1, q.2.2.1) ∧ (ilen q.2.1 = 0 ∨ ilen q.2.1 = q.2.2.1) ∧ ∀ o, ioff q.2.1 = some o → (q.1 : Int) + o = (q.2.2.2 : Int)
theorem IOK_of {F : MR} {q : AI} (h : chkI F q = true) : IOK F q := by
  unfold chkI at h
  simp only [Bool.and_eq_true, decide_eq_true_eq, Bool.or_eq_true, beq_iff_eq] at h
  refine ⟨h.1.1, h.1.2, fun o ho => ?_⟩
  have h2 := h.2
  rw [ho] at h2
  exact of_decide_eq_true h2
def fldW (own : String) (idx k cd : Nat) (r : vw_C) : Cond := if cd = 1 ∨ cd = 4 then .fieldLinkNest own idx (r.2.1 k).1 (r.2.1 k).2.1 (r.2.1 k).2.2.1 HOST else .fieldLink own idx (r.2.1 k).1 (r.2.1 k).2.1 (r.2.1 k).2.2.1
def chkF (F : MR) (q : AF) : Bool := match vwCl[q.2.1]? with
  | some r => decide (q.2.2.1 < r.2.2) && isK q.2.2.2.2 (fldW (my F).cls q.1 q.2.2.1 q.2.2.2.1 r) && (if q.2.2.2.1 = 0 ∨ q.2.2.2.1 = 1 then !(r.2.1 q.2.2.1).2.2.2 else true) && (if q.2.2.2.1 = 2 then (r.2.1 q.2.2.1).2.2.2 && decide ((r.2.1 q.2.2.1).1 = (my F).cls) && decide ((my F).name = "<init>") else true)
  | none => false
def FLok (F : MR) (q : AF) : Prop := ∃ r : vw_C, vwCl[q.2.1]? = some r ∧ q.2.2.1 < r.2.2 ∧ InW (fldW (my F).cls q.1 q.2.2.1 q.2.2.2.1 r) ∧ (q.2.2.2.1 = 0 ∨ q.2.2.2.1 = 1 → (r.2.1 q.2.2.1).2.2.2 = false) ∧ (q.2.2.2.1 = 2 → (r.2.1 q.2.2.1).2.2.2 = true ∧ (r.2.1 q.2.2.1).1 = (my F).cls ∧ (my F).name = "<init>")
theorem FLok_of {F : MR} {q : AF} (h : chkF F q = true) : FLok F q := by
  unfold chkF at h
  split at h
  · rename_i r hr
    simp only [Bool.and_eq_true, decide_eq_true_eq] at h
    obtain ⟨⟨⟨h1, h2⟩, h3⟩, h4⟩ := h
    refine ⟨r, hr, h1, isK_in h2, fun z => ?_, fun z => ?_⟩
    · rw [if_pos z] at h3
      simpa using h3
    · rw [if_pos z] at h4
      simp only [Bool.and_eq_true, decide_eq_true_eq] at h4
      exact ⟨h4.1.1, h4.1.2, h4.2⟩
  · cases h
/-- a method's own words: its code, its class -/
def chkG (G : MR) : Bool := isW (mpCode G) (.code (my G) (mcc G) (mml G) (mret G)) && isW (mpIni G) (.initialized (my G).cls) && plainName (my G).cls && decide ((my G).cls ≠ "java/lang/invoke/MethodHandle") && decide ((my G).cls ≠ "java/lang/invoke/VarHandle") && decide ((parseMethodDescriptor (my G).desc).map (fun d => d.parameters.length) = some (mnp G))
def GOK (G : MR) : Prop := .code (my G) (mcc G) (mml G) (mret G) ∈ TBL ∧ .initialized (my G).cls ∈ TBL ∧ plainName (my G).cls = true ∧ (my G).cls ≠ "java/lang/invoke/MethodHandle" ∧ (my G).cls ≠ "java/lang/invoke/VarHandle" ∧ (parseMethodDescriptor (my G).desc).map (fun d => d.parameters.length) = some (mnp G)
theorem GOK_of {G : MR} (h : chkG G = true) : GOK G := by
  unfold chkG at h
  simp only [Bool.and_eq_true, decide_eq_true_eq] at h
  exact ⟨isW_in h.1.1.1.1.1, isW_in h.1.1.1.1.2, h.1.1.1.2, h.1.1.2, h.1.2, h.2⟩
/-- a call's words -/
def chkK (MT : Nat → Option MR) (F : MR) (q : AK) : Bool := match q.2.1 with
  | 8 => isW q.2.2.2 (.methodLink (my F).cls q.1 arraycopyName)
  | 9 => isW q.2.2.2 (.methodLink (my F).cls q.1 objectInit)
  | kd => match MT q.2.2.1 with
    | some G => isK q.2.2.2 (if kd = 1 ∨ kd = 3 ∨ kd = 5 then .methodLinkNest (my F).cls q.1 (my G) HOST else .methodLink (my F).cls q.1 (my G)) && (if kd = 0 ∨ kd = 1 then isW (mpIns G) (.instanceMethod (my G)) && isW (mpSel G) (.selects (my G).cls (my G) (my G)) && decide (vwCl[mci G]?.map (fun r => r.1) = some (my G).cls) else if kd = 2 ∨ kd = 3 then isW (mpIns G) (.static (my G)) else isW (mpIns G) (.instanceMethod (my G)) && decide ((my G).name = "<init>") && decide (mret G = none))
    | none => false
def CKok (MT : Nat → Option MR) (F : MR) (q : AK) : Prop :=
  (q.2.1 = 8 → .methodLink (my F).cls q.1 arraycopyName ∈ TBL) ∧ (q.2.1 = 9 → .methodLink (my F).cls q.1 objectInit ∈ TBL) ∧
  (q.2.1 < 8 → ∀ G, MT q.2.2.1 = some G → InW (if q.2.1 = 1 ∨ q.2.1 = 3 ∨ q.2.1 = 5 then Cond.methodLinkNest (my F).cls q.1 (my G) HOST else .methodLink (my F).cls q.1 (my G)) ∧ (q.2.1 = 0 ∨ q.2.1 = 1 → .instanceMethod (my G) ∈ TBL ∧ .selects (my G).cls (my G) (my G) ∈ TBL ∧ vwCl[mci G]?.map (fun r => r.1) = some (my G).cls) ∧ (q.2.1 = 2 ∨ q.2.1 = 3 → .static (my G) ∈ TBL) ∧ (q.2.1 = 4 ∨ q.2.1 = 5 → .instanceMethod (my G) ∈ TBL ∧ (my G).name = "<init>" ∧ mret G = none))
theorem CKok_of {MT : Nat → Option MR} {F : MR} {q : AK} (h : chkK MT F q = true) : CKok MT F q := by
  unfold chkK at h
  split at h
  · rename_i e
    exact ⟨fun _ => isW_in h, fun z => by omega, fun z => by omega⟩
  · rename_i e
    exact ⟨fun z => by omega, fun _ => isW_in h, fun z => by omega⟩
  · rename_i n1 n2
    refine ⟨fun z => absurd z n1, fun z => absurd z n2, fun _ G hG => ?_⟩
    rw [hG] at h
    simp only [Bool.and_eq_true] at h
    obtain ⟨h1, h2⟩ := h
    refine ⟨isK_in h1, fun z => ?_, fun z => ?_, fun z => ?_⟩
    · rw [if_pos z] at h2
      simp only [Bool.and_eq_true, decide_eq_true_eq] at h2
      exact ⟨isW_in h2.1.1, isW_in h2.1.2, h2.2⟩
    · rw [if_neg (by omega), if_pos z] at h2
      exact isW_in h2
    · rw [if_neg (by omega), if_neg (by omega)] at h2
      simp only [Bool.and_eq_true, decide_eq_true_eq] at h2
      exact ⟨isW_in h2.1.1, h2.1.2, h2.2⟩
def chkC (F : MR) (q : AKc) : Bool := match vwCl[q.2.1]? with
  | some r => isW q.2.2 (.classLink (my F).cls q.1 r.1)
  | none => false
def KCok (F : MR) (q : AKc) : Prop := ∃ r : vw_C, vwCl[q.2.1]? = some r ∧ .classLink (my F).cls q.1 r.1 ∈ TBL
theorem KCok_of {F : MR} {q : AKc} (h : chkC F q = true) : KCok F q := by
  unfold chkC at h
  split at h
  · rename_i r hr
    exact ⟨r, hr, isW_in h⟩
  · cases h
/-- a method's tables are right -/
def FOK (MT : Nat → Option MR) (F : MR) : Prop := (∀ q ∈ mcode F, IOK F q) ∧ (∀ q ∈ mfl F, FLok F q) ∧ (∀ q ∈ mcl F, CKok MT F q) ∧ (∀ q ∈ mki F, .constant (my F).cls q.1 q.2.1 ∈ TBL) ∧ (∀ q ∈ mkl F, .constantLong (my F).cls q.1 q.2.1 ∈ TBL) ∧ (∀ q ∈ mkc F, KCok F q)
theorem FOK_of {MT : Nat → Option MR} {F : MR} (h1 : (mcode F).all (chkI F) = true) (h2 : ((mfl F).all (chkF F) && (mcl F).all (chkK MT F) && (mki F).all (fun q => isW q.2.2 (.constant (my F).cls q.1 q.2.1)) && (mkl F).all (fun q => isW q.2.2 (.constantLong (my F).cls q.1 q.2.1)) && (mkc F).all (chkC F)) = true) : FOK MT F := by
  simp only [Bool.and_eq_true] at h2
  exact ⟨fun q hq => IOK_of (List.all_eq_true.mp h1 q hq), fun q hq => FLok_of (List.all_eq_true.mp h2.1.1.1.1 q hq), fun q hq => CKok_of (List.all_eq_true.mp h2.1.1.1.2 q hq), fun q hq => isW_in (List.all_eq_true.mp h2.1.1.2 q hq), fun q hq => isW_in (List.all_eq_true.mp h2.1.2 q hq), fun q hq => KCok_of (List.all_eq_true.mp h2.2 q hq)⟩
/-- what a frame of a method knows -/
def Ctx (p : Program) (s : State) (m : MethodId) (args : Array Value) (meth : Method) (c : Code) (F : MR) : Prop :=
  p.tables.exec = Jvm.exec ∧ c.code = mcc F ∧ meth.sig.returnType = mret F ∧ c.maxLocals = mml F ∧ s.vm.findClass (my F).cls = some m.cls ∧ meth.locks = false ∧ (∀ w ∈ TBL, w.before args s = true) ∧ ((my F).name = "<init>" → meth.name = "<init>") ∧ ∀ w, InW w → w.before args s = true
end
section
/-! the classes' words -/
theorem u_ws_in {C : String} {T : u_T} {N : Nat} (pl : List (Nat × Nat)) (h : (List.range N).all (fun k => isW (pl.getD k (0, 0)) (u_lay C T k)) = true) : ∀ w ∈ u_ws C T N, w ∈ TBL := by
  intro w hw
  obtain ⟨k, hk, rfl⟩ := List.mem_map.mp hw
  exact isW_in (List.all_eq_true.mp h k hk)
theorem cls_0 : ∀ w ∈ u_ws RX0 TX0 4, w ∈ TBL := u_ws_in [(1, 223), (1, 225), (1, 227), (1, 229)] (by decide +kernel)
theorem clsi_0 : Cond.instantiable RX0 4 ∈ TBL := isW_in (q := (1, 205)) (by decide +kernel)
theorem clsn_0 : Cond.initialized RX0 ∈ TBL := isW_in (q := (1, 11)) (by decide +kernel)
theorem clsd_0 (b base : Nat) : ∀ j, j < 4 → defaultValue (TYF 0 j) = vp_V ((DFL 0).map (gV b base)) j := fun j hj => match j, hj with
  | 0, _ => rfl
  | 1, _ => rfl
  | 2, _ => rfl
  | 3, _ => rfl
  | k + 4, h => absurd h (by omega)
theorem cls_1 : ∀ w ∈ u_ws RX1 TX1 6, w ∈ TBL := u_ws_in [(1, 138), (1, 140), (1, 142), (1, 144), (1, 146), (1, 148)] (by decide +kernel)
theorem clsi_1 : Cond.instantiable RX1 6 ∈ TBL := isW_in (q := (1, 124)) (by decide +kernel)
theorem clsn_1 : Cond.initialized RX1 ∈ TBL := isW_in (q := (1, 7)) (by decide +kernel)
theorem clsd_1 (b base : Nat) : ∀ j, j < 6 → defaultValue (TYF 1 j) = vp_V ((DFL 1).map (gV b base)) j := fun j hj => match j, hj with
  | 0, _ => rfl
  | 1, _ => rfl
  | 2, _ => rfl
  | 3, _ => rfl
  | 4, _ => rfl
  | 5, _ => rfl
  | k + 6, h => absurd h (by omega)
theorem cls_2 : ∀ w ∈ u_ws RX2 TX2 2, w ∈ TBL := u_ws_in [(1, 118), (1, 120)] (by decide +kernel)
theorem clsi_2 : Cond.instantiable RX2 2 ∈ TBL := isW_in (q := (1, 105)) (by decide +kernel)
theorem clsn_2 : Cond.initialized RX2 ∈ TBL := isW_in (q := (1, 5)) (by decide +kernel)
theorem clsd_2 (b base : Nat) : ∀ j, j < 2 → defaultValue (TYF 2 j) = vp_V ((DFL 2).map (gV b base)) j := fun j hj => match j, hj with
  | 0, _ => rfl
  | 1, _ => rfl
  | k + 2, h => absurd h (by omega)
theorem cls_3 : ∀ w ∈ u_ws RX3 TX3 3, w ∈ TBL := u_ws_in [(1, 198), (1, 200), (1, 202)] (by decide +kernel)
theorem clsi_3 : Cond.instantiable RX3 3 ∈ TBL := isW_in (q := (1, 183)) (by decide +kernel)
theorem clsn_3 : Cond.initialized RX3 ∈ TBL := isW_in (q := (1, 10)) (by decide +kernel)
theorem clsd_3 (b base : Nat) : ∀ j, j < 3 → defaultValue (TYF 3 j) = vp_V ((DFL 3).map (gV b base)) j := fun j hj => match j, hj with
  | 0, _ => rfl
  | 1, _ => rfl
  | 2, _ => rfl
  | k + 3, h => absurd h (by omega)
theorem cls_4 : ∀ w ∈ u_ws RX4 TX4 16, w ∈ TBL := u_ws_in [(2, 39), (2, 41), (2, 43), (2, 45), (2, 47), (2, 49), (2, 51), (2, 53), (2, 55), (2, 57), (2, 59), (2, 61), (2, 63), (2, 65), (2, 67), (2, 69)] (by decide +kernel)
theorem clsi_4 : Cond.instantiable RX4 16 ∈ TBL := isW_in (q := (1, 175)) (by decide +kernel)
theorem clsn_4 : Cond.initialized RX4 ∈ TBL := isW_in (q := (1, 9)) (by decide +kernel)
theorem clsd_4 (b base : Nat) : ∀ j, j < 16 → defaultValue (TYF 4 j) = vp_V ((DFL 4).map (gV b base)) j := fun j hj => match j, hj with
  | 0, _ => rfl
  | 1, _ => rfl
  | 2, _ => rfl
  | 3, _ => rfl
  | 4, _ => rfl
  | 5, _ => rfl
  | 6, _ => rfl
  | 7, _ => rfl
  | 8, _ => rfl
  | 9, _ => rfl
  | 10, _ => rfl
  | 11, _ => rfl
  | 12, _ => rfl
  | 13, _ => rfl
  | 14, _ => rfl
  | 15, _ => rfl
  | k + 16, h => absurd h (by omega)
theorem cls_5 : ∀ w ∈ u_ws RX5 TX5 7, w ∈ TBL := u_ws_in [(1, 61), (1, 63), (1, 65), (1, 67), (1, 69), (1, 71), (1, 73)] (by decide +kernel)
theorem clsi_5 : Cond.instantiable RX5 7 ∈ TBL := isW_in (q := (1, 47)) (by decide +kernel)
theorem clsn_5 : Cond.initialized RX5 ∈ TBL := isW_in (q := (1, 3)) (by decide +kernel)
theorem clsd_5 (b base : Nat) : ∀ j, j < 7 → defaultValue (TYF 5 j) = vp_V ((DFL 5).map (gV b base)) j := fun j hj => match j, hj with
  | 0, _ => rfl
  | 1, _ => rfl
  | 2, _ => rfl
  | 3, _ => rfl
  | 4, _ => rfl
  | 5, _ => rfl
  | 6, _ => rfl
  | k + 7, h => absurd h (by omega)
theorem cls_6 : ∀ w ∈ u_ws RX6 TX6 5, w ∈ TBL := u_ws_in [(1, 92), (1, 94), (1, 96), (1, 98), (1, 100)] (by decide +kernel)
theorem clsi_6 : Cond.instantiable RX6 5 ∈ TBL := isW_in (q := (1, 77)) (by decide +kernel)
theorem clsn_6 : Cond.initialized RX6 ∈ TBL := isW_in (q := (1, 4)) (by decide +kernel)
theorem clsd_6 (b base : Nat) : ∀ j, j < 5 → defaultValue (TYF 6 j) = vp_V ((DFL 6).map (gV b base)) j := fun j hj => match j, hj with
  | 0, _ => rfl
  | 1, _ => rfl
  | 2, _ => rfl
  | 3, _ => rfl
  | 4, _ => rfl
  | k + 5, h => absurd h (by omega)
theorem cls_7 : ∀ w ∈ u_ws RX7 TX7 4, w ∈ TBL := u_ws_in [(2, 88), (2, 90), (2, 92), (2, 94)] (by decide +kernel)
theorem clsi_7 : Cond.instantiable RX7 4 ∈ TBL := isW_in (q := (2, 75)) (by decide +kernel)
theorem clsn_7 : Cond.initialized RX7 ∈ TBL := isW_in (q := (1, 12)) (by decide +kernel)
theorem clsd_7 (b base : Nat) : ∀ j, j < 4 → defaultValue (TYF 7 j) = vp_V ((DFL 7).map (gV b base)) j := fun j hj => match j, hj with
  | 0, _ => rfl
  | 1, _ => rfl
  | 2, _ => rfl
  | 3, _ => rfl
  | k + 4, h => absurd h (by omega)
theorem cls_8 : ∀ w ∈ u_ws RX8 TX8 2, w ∈ TBL := u_ws_in [(1, 40), (1, 42)] (by decide +kernel)
theorem clsi_8 : Cond.instantiable RX8 2 ∈ TBL := isW_in (q := (1, 30)) (by decide +kernel)
theorem clsn_8 : Cond.initialized RX8 ∈ TBL := isW_in (q := (1, 2)) (by decide +kernel)
theorem clsd_8 (b base : Nat) : ∀ j, j < 2 → defaultValue (TYF 8 j) = vp_V ((DFL 8).map (gV b base)) j := fun j hj => match j, hj with
  | 0, _ => rfl
  | 1, _ => rfl
  | k + 2, h => absurd h (by omega)
theorem cls_9 : ∀ w ∈ u_ws RX9 TX9 5, w ∈ TBL := u_ws_in [(1, 163), (1, 165), (1, 167), (1, 169), (1, 171)] (by decide +kernel)
theorem clsi_9 : Cond.instantiable RX9 5 ∈ TBL := isW_in (q := (1, 152)) (by decide +kernel)
theorem clsn_9 : Cond.initialized RX9 ∈ TBL := isW_in (q := (1, 8)) (by decide +kernel)
theorem clsd_9 (b base : Nat) : ∀ j, j < 5 → defaultValue (TYF 9 j) = vp_V ((DFL 9).map (gV b base)) j := fun j hj => match j, hj with
  | 0, _ => rfl
  | 1, _ => rfl
  | 2, _ => rfl
  | 3, _ => rfl
  | 4, _ => rfl
  | k + 5, h => absurd h (by omega)
theorem cls_10 : ∀ w ∈ u_ws RX10 TX10 11, w ∈ TBL := u_ws_in [(2, 110), (2, 112), (2, 114), (2, 116), (2, 118), (2, 120), (2, 122), (2, 124), (2, 126), (2, 128), (2, 130)] (by decide +kernel)
theorem clsi_10 : Cond.instantiable RX10 11 ∈ TBL := isW_in (q := (1, 22)) (by decide +kernel)
theorem clsn_10 : Cond.initialized RX10 ∈ TBL := isW_in (q := (1, 1)) (by decide +kernel)
theorem clsd_10 (b base : Nat) : ∀ j, j < 11 → defaultValue (TYF 10 j) = vp_V ((DFL 10).map (gV b base)) j := fun j hj => match j, hj with
  | 0, _ => rfl
  | 1, _ => rfl
  | 2, _ => rfl
  | 3, _ => rfl
  | 4, _ => rfl
  | 5, _ => rfl
  | 6, _ => rfl
  | 7, _ => rfl
  | 8, _ => rfl
  | 9, _ => rfl
  | 10, _ => rfl
  | k + 11, h => absurd h (by omega)
theorem cls_11 : ∀ w ∈ u_ws RX11 TX11 36, w ∈ TBL := u_ws_in [(5, 225), (5, 227), (5, 229), (5, 231), (5, 233), (5, 235), (5, 237), (5, 239), (6, 1), (6, 3), (6, 5), (6, 7), (6, 9), (6, 11), (6, 13), (6, 15), (6, 17), (6, 19), (6, 21), (6, 23), (6, 25), (6, 27), (6, 29), (6, 31), (6, 33), (6, 35), (6, 37), (6, 39), (6, 41), (6, 43), (6, 45), (6, 47), (6, 49), (6, 51), (6, 53), (6, 55)] (by decide +kernel)
theorem clsi_11 : Cond.instantiable RX11 36 ∈ TBL := isW_in (q := (5, 185)) (by decide +kernel)
theorem clsn_11 : Cond.initialized RX11 ∈ TBL := isW_in (q := (1, 13)) (by decide +kernel)
theorem clsd_11 (b base : Nat) : ∀ j, j < 36 → defaultValue (TYF 11 j) = vp_V ((DFL 11).map (gV b base)) j := fun j hj => match j, hj with
  | 0, _ => rfl
  | 1, _ => rfl
  | 2, _ => rfl
  | 3, _ => rfl
  | 4, _ => rfl
  | 5, _ => rfl
  | 6, _ => rfl
  | 7, _ => rfl
  | 8, _ => rfl
  | 9, _ => rfl
  | 10, _ => rfl
  | 11, _ => rfl
  | 12, _ => rfl
  | 13, _ => rfl
  | 14, _ => rfl
  | 15, _ => rfl
  | 16, _ => rfl
  | 17, _ => rfl
  | 18, _ => rfl
  | 19, _ => rfl
  | 20, _ => rfl
  | 21, _ => rfl
  | 22, _ => rfl
  | 23, _ => rfl
  | 24, _ => rfl
  | 25, _ => rfl
  | 26, _ => rfl
  | 27, _ => rfl
  | 28, _ => rfl
  | 29, _ => rfl
  | 30, _ => rfl
  | 31, _ => rfl
  | 32, _ => rfl
  | 33, _ => rfl
  | 34, _ => rfl
  | 35, _ => rfl
  | k + 36, h => absurd h (by omega)
theorem CLS_in {ci : Nat} {C : String} {T : u_T} {N : Nat} (h : vwCl[ci]? = some (C, T, N)) : ∀ w ∈ u_ws C T N, w ∈ TBL := by
  match ci, h with
  | 0, h => cases (show some (RX0, TX0, 4) = some (C, T, N) from h); exact cls_0
  | 1, h => cases (show some (RX1, TX1, 6) = some (C, T, N) from h); exact cls_1
  | 2, h => cases (show some (RX2, TX2, 2) = some (C, T, N) from h); exact cls_2
  | 3, h => cases (show some (RX3, TX3, 3) = some (C, T, N) from h); exact cls_3
  | 4, h => cases (show some (RX4, TX4, 16) = some (C, T, N) from h); exact cls_4
  | 5, h => cases (show some (RX5, TX5, 7) = some (C, T, N) from h); exact cls_5
  | 6, h => cases (show some (RX6, TX6, 5) = some (C, T, N) from h); exact cls_6
  | 7, h => cases (show some (RX7, TX7, 4) = some (C, T, N) from h); exact cls_7
  | 8, h => cases (show some (RX8, TX8, 2) = some (C, T, N) from h); exact cls_8
  | 9, h => cases (show some (RX9, TX9, 5) = some (C, T, N) from h); exact cls_9
  | 10, h => cases (show some (RX10, TX10, 11) = some (C, T, N) from h); exact cls_10
  | 11, h => cases (show some (RX11, TX11, 36) = some (C, T, N) from h); exact cls_11
  | k + 12, h => exact absurd h (by intro z; cases z)
theorem CLS_ty {ci : Nat} {C : String} {T : u_T} {N : Nat} (h : vwCl[ci]? = some (C, T, N)) : (∀ k, k < N → parseFieldDescriptor (T k).2.2.1 = some (TYF ci k)) ∧ ∀ a, a < N → ∀ b, b < N → a ≠ b → (T a).2.1 ≠ (T b).2.1 := by
  match ci, h with
  | 0, h => cases (show some (RX0, TX0, 4) = some (C, T, N) from h); exact ⟨tyX0_ok, nmX0⟩
  | 1, h => cases (show some (RX1, TX1, 6) = some (C, T, N) from h); exact ⟨tyX1_ok, nmX1⟩
  | 2, h => cases (show some (RX2, TX2, 2) = some (C, T, N) from h); exact ⟨tyX2_ok, nmX2⟩
  | 3, h => cases (show some (RX3, TX3, 3) = some (C, T, N) from h); exact ⟨tyX3_ok, nmX3⟩
  | 4, h => cases (show some (RX4, TX4, 16) = some (C, T, N) from h); exact ⟨tyX4_ok, nmX4⟩
  | 5, h => cases (show some (RX5, TX5, 7) = some (C, T, N) from h); exact ⟨tyX5_ok, nmX5⟩
  | 6, h => cases (show some (RX6, TX6, 5) = some (C, T, N) from h); exact ⟨tyX6_ok, nmX6⟩
  | 7, h => cases (show some (RX7, TX7, 4) = some (C, T, N) from h); exact ⟨tyX7_ok, nmX7⟩
  | 8, h => cases (show some (RX8, TX8, 2) = some (C, T, N) from h); exact ⟨tyX8_ok, nmX8⟩
  | 9, h => cases (show some (RX9, TX9, 5) = some (C, T, N) from h); exact ⟨tyX9_ok, nmX9⟩
  | 10, h => cases (show some (RX10, TX10, 11) = some (C, T, N) from h); exact ⟨tyX10_ok, nmX10⟩
  | 11, h => cases (show some (RX11, TX11, 36) = some (C, T, N) from h); exact ⟨tyX11_ok, nmX11⟩
  | k + 12, h => exact absurd h (by intro z; cases z)
theorem CLS_new {ci : Nat} {C : String} {T : u_T} {N : Nat} (h : vwCl[ci]? = some (C, T, N)) : Cond.instantiable C N ∈ TBL ∧ Cond.initialized C ∈ TBL ∧ (DFL ci).length = N ∧ ∀ (b base j : Nat), j < N → defaultValue (TYF ci j) = vp_V ((DFL ci).map (gV b base)) j := by
  match ci, h with
  | 0, h => cases (show some (RX0, TX0, 4) = some (C, T, N) from h); exact ⟨clsi_0, clsn_0, rfl, clsd_0⟩
  | 1, h => cases (show some (RX1, TX1, 6) = some (C, T, N) from h); exact ⟨clsi_1, clsn_1, rfl, clsd_1⟩
  | 2, h => cases (show some (RX2, TX2, 2) = some (C, T, N) from h); exact ⟨clsi_2, clsn_2, rfl, clsd_2⟩
  | 3, h => cases (show some (RX3, TX3, 3) = some (C, T, N) from h); exact ⟨clsi_3, clsn_3, rfl, clsd_3⟩
  | 4, h => cases (show some (RX4, TX4, 16) = some (C, T, N) from h); exact ⟨clsi_4, clsn_4, rfl, clsd_4⟩
  | 5, h => cases (show some (RX5, TX5, 7) = some (C, T, N) from h); exact ⟨clsi_5, clsn_5, rfl, clsd_5⟩
  | 6, h => cases (show some (RX6, TX6, 5) = some (C, T, N) from h); exact ⟨clsi_6, clsn_6, rfl, clsd_6⟩
  | 7, h => cases (show some (RX7, TX7, 4) = some (C, T, N) from h); exact ⟨clsi_7, clsn_7, rfl, clsd_7⟩
  | 8, h => cases (show some (RX8, TX8, 2) = some (C, T, N) from h); exact ⟨clsi_8, clsn_8, rfl, clsd_8⟩
  | 9, h => cases (show some (RX9, TX9, 5) = some (C, T, N) from h); exact ⟨clsi_9, clsn_9, rfl, clsd_9⟩
  | 10, h => cases (show some (RX10, TX10, 11) = some (C, T, N) from h); exact ⟨clsi_10, clsn_10, rfl, clsd_10⟩
  | 11, h => cases (show some (RX11, TX11, 36) = some (C, T, N) from h); exact ⟨clsi_11, clsn_11, rfl, clsd_11⟩
  | k + 12, h => exact absurd h (by intro z; cases z)
theorem ARR_int : Cond.arrayClass .int ∈ TBL := isW_in (q := (1, 103)) (by decide +kernel)
theorem ARR_long : Cond.arrayClass .long ∈ TBL := isW_in (q := (2, 98)) (by decide +kernel)
theorem ARR_byte : Cond.arrayClass .byte ∈ TBL := isW_in (q := (1, 45)) (by decide +kernel)
theorem ARR_boolean : Cond.arrayClass .boolean ∈ TBL := isW_in (q := (2, 97)) (by decide +kernel)
theorem ACN_native : Cond.native arraycopyName ∈ TBL := isW_in (q := (5, 10)) (by decide +kernel)
theorem ACN_static : Cond.static arraycopyName ∈ TBL := isW_in (q := (5, 9)) (by decide +kernel)
theorem ACN_init : Cond.initialized "java/lang/System" ∈ TBL := isW_in (q := (1, 20)) (by decide +kernel)
theorem OBJ_inst : Cond.instanceMethod objectInit ∈ TBL := isW_in (q := (1, 27)) (by decide +kernel)
theorem OBJ_code : Cond.code objectInit ⟨#[0xb1]⟩ 1 none ∈ TBL := isW_in (q := (1, 28)) (by decide +kernel)
end
section
/-! the steps that read alone -/
abbrev AS : Type := Option (Nat × (Nat → Int32))
def jmp (t : Bool) (a b : Nat) (lv : ALv) (r : List Value) : Option (Nat × ALv × List Value) := match t with
  | true => some (a, lv, r)
  | false => some (b, lv, r)
theorem jmp_inv {t : Bool} {a b : Nat} {lv : ALv} {r : List Value} {x : Nat × ALv × List Value} (h : jmp t a b lv r = some x) : (t = true ∧ x = (a, lv, r)) ∨ (t = false ∧ x = (b, lv, r)) := by
  unfold jmp at h; split at h
  · cases h; exact Or.inl ⟨rfl, rfl⟩
  · cases h; exact Or.inr ⟨rfl, rfl⟩
def sV {α : Type} (st : List Value) (f : Value → List Value → Option α) : Option α := match st with
  | v :: r => f v r
  | _ => none
def sVV {α : Type} (st : List Value) (f : Value → Value → List Value → Option α) : Option α := match st with
  | v :: u :: r => f v u r
  | _ => none
theorem sV_inv {α : Type} {st : List Value} {f : Value → List Value → Option α} {a : α} (h : sV st f = some a) : ∃ v r, st = v :: r ∧ f v r = some a := by
  unfold sV at h; split at h
  · exact ⟨_, _, rfl, h⟩
  · cases h
theorem sVV_inv {α : Type} {st : List Value} {f : Value → Value → List Value → Option α} {a : α} (h : sVV st f = some a) : ∃ v u r, st = v :: u :: r ∧ f v u r = some a := by
  unfold sVV at h; split at h
  · exact ⟨_, _, _, rfl, h⟩
  · cases h
/-- a load out of a row -/
def ldR (scr : AS) (k ty1 ty2 : Nat) (st : List Value) (h : AH) : Option (Value × List Value) := match st with
  | .int j :: .ref a :: r => oB h[a]? (fun c => oC (c.1 == k && (c.2.1 == ty1 || c.2.1 == ty2) && decide (¬ j < 0)) (oB c.2.2[j.toNatClampNeg]? (fun v => some (v, r))))
  | .int j :: .retAddr _ :: r => oB scr (fun q => oC (decide (¬ (j < 0 ∨ q.1 ≤ j.toNatClampNeg))) (some (.int (q.2 j.toNatClampNeg), r)))
  | _ => none
theorem ldR_inv {scr : AS} {k t1 t2 : Nat} {st : List Value} {h : AH} {x : Value × List Value} (hh : ldR scr k t1 t2 st h = some x) :
    (∃ a j c, st = .int j :: .ref a :: x.2 ∧ h[a]? = some c ∧ c.1 = k ∧ (c.2.1 = t1 ∨ c.2.1 = t2) ∧ ¬ j < 0 ∧ c.2.2[j.toNatClampNeg]? = some x.1) ∨ (∃ a j q, st = .int j :: .retAddr a :: x.2 ∧ scr = some q ∧ ¬ (j < 0 ∨ q.1 ≤ j.toNatClampNeg) ∧ x.1 = .int (q.2 j.toNatClampNeg)) := by
  unfold ldR at hh; split at hh
  · rename_i j a r
    obtain ⟨c, hc, h2⟩ := oB_inv hh
    obtain ⟨h3, h4⟩ := oC_inv h2
    obtain ⟨v, hv, h5⟩ := oB_inv h4
    cases h5
    simp only [Bool.and_eq_true, Bool.or_eq_true, beq_iff_eq, decide_eq_true_eq] at h3
    exact Or.inl ⟨a, j, c, rfl, hc, h3.1.1, h3.1.2, h3.2, hv⟩
  · rename_i j a r
    obtain ⟨q, hq, h2⟩ := oB_inv hh
    obtain ⟨h3, h4⟩ := oC_inv h2
    cases h4
    exact Or.inr ⟨a, j, q, rfl, hq, of_decide_eq_true h3, rfl⟩
  · cases hh
def isI : Value → Bool
  | .int _ => true
  | _ => false
def isL : Value → Bool
  | .long _ => true
  | _ => false
def isR : Value → Bool
  | .ref _ => true
  | .null => true
  | _ => false
theorem isI_inv {v : Value} (h : isI v = true) : ∃ x, v = .int x := by cases v <;> first | exact ⟨_, rfl⟩ | cases h
theorem isL_inv {v : Value} (h : isL v = true) : ∃ x, v = .long x := by cases v <;> first | exact ⟨_, rfl⟩ | cases h
theorem isR_inv {v : Value} (h : isR v = true) : v = .null ∨ ∃ x, v = .ref x := by cases v <;> first | exact Or.inr ⟨_, rfl⟩ | exact Or.inl rfl | cases h
def alen (scr : AS) (h : AH) (v : Value) : Option Int32 := match v with
  | .ref a => oB h[a]? (fun c => oC ((c.1 == 1 || c.1 == 2 || c.1 == 3) && decide (c.2.1 < 7)) (some (Int32.ofNat c.2.2.length)))
  | .retAddr _ => oB scr (fun q => some (Int32.ofNat q.1))
  | _ => none
def tsw (pc : Nat) (dflt lo hi : Int) (offs : Array Int) (x : Int32) : Option Nat :=
  if x.toInt < lo ∨ hi < x.toInt then oC (decide (0 ≤ (pc : Int) + dflt)) (some ((pc : Int) + dflt).toNat) else oB offs[(x.toInt - lo).toNat]? (fun o => oC (decide (0 ≤ (pc : Int) + o)) (some ((pc : Int) + o).toNat))

def stpP (F : MR) (scr : AS) (i : Instr) (tgt pc : Nat) (lv : ALv) (st : List Value) (h : AH) : Option (Nat × ALv × List Value) :=
  match i with
  | .iconst n => some (pc + 1, lv, .int (Int32.ofInt n) :: st)
  | .bipush n => some (pc + 2, lv, .int (Int8.ofInt n).toInt32 :: st)
  | .sipush n => some (pc + 3, lv, .int (Int16.ofInt n).toInt32 :: st)
  | .lconst n => some (pc + 1, lv, .long (Int64.ofNat (n : Nat)) :: st)
  | .iload_n k => oB (ldI lv (k : Nat)) (fun v => some (pc + 1, lv, v :: st))
  | .iload k => oB (ldI lv k) (fun v => some (pc + 2, lv, v :: st))
  | .lload_n k => oB (ldL lv (k : Nat)) (fun v => some (pc + 1, lv, v :: st))
  | .lload k => oB (ldL lv k) (fun v => some (pc + 2, lv, v :: st))
  | .aload_n k => oB (ldA lv (k : Nat)) (fun v => some (pc + 1, lv, v :: st))
  | .aload k => oB (ldA lv k) (fun v => some (pc + 2, lv, v :: st))
  | .istore_n k => sI st (fun x r => oC (decide ((k : Nat) < mml F)) (some (pc + 1, lvset1 lv (k : Nat) (.int x), r)))
  | .istore k => sI st (fun x r => oC (decide (k < mml F)) (some (pc + 2, lvset1 lv k (.int x), r)))
  | .lstore_n k => sL st (fun x r => oC (decide ((k : Nat) + 1 < mml F)) (some (pc + 1, lvset2 lv (k : Nat) (.long x), r)))
  | .lstore k => sL st (fun x r => oC (decide (k + 1 < mml F)) (some (pc + 2, lvset2 lv k (.long x), r)))
  | .astore_n k => sR st (fun x r => oC (decide ((k : Nat) < mml F)) (some (pc + 1, lvset1 lv (k : Nat) (.ref x), r)))
  | .astore k => sR st (fun x r => oC (decide (k < mml F)) (some (pc + 2, lvset1 lv k (.ref x), r)))
  | .iinc k n => oB (ldI lv k) (fun v => oC (decide (k < mml F)) (some (pc + 3, lvset1 lv k (.int (asI v + Int32.ofInt n)), st)))
  | .iadd => sII st (fun x y r => some (pc + 1, lv, .int (x + y) :: r))
  | .isub => sII st (fun x y r => some (pc + 1, lv, .int (x - y) :: r))
  | .imul => sII st (fun x y r => some (pc + 1, lv, .int (x * y) :: r))
  | .iand => sII st (fun x y r => some (pc + 1, lv, .int (x &&& y) :: r))
  | .ior => sII st (fun x y r => some (pc + 1, lv, .int (x ||| y) :: r))
  | .ixor => sII st (fun x y r => some (pc + 1, lv, .int (x ^^^ y) :: r))
  | .ishl => sII st (fun x y r => some (pc + 1, lv, .int (x <<< (y &&& 31)) :: r))
  | .ishr => sII st (fun x y r => some (pc + 1, lv, .int (x >>> (y &&& 31)) :: r))
  | .iushr => sII st (fun x y r => some (pc + 1, lv, .int ((x.toUInt32 >>> (y.toUInt32 &&& Int32.toUInt32 31)).toInt32) :: r))
  | .idiv => sII st (fun x y r => oC (decide (¬ y = 0)) (some (pc + 1, lv, .int (x / y) :: r)))
  | .irem => sII st (fun x y r => oC (decide (¬ y = 0)) (some (pc + 1, lv, .int (x - x / y * y) :: r)))
  | .ladd => sLL st (fun x y r => some (pc + 1, lv, .long (x + y) :: r))
  | .lsub => sLL st (fun x y r => some (pc + 1, lv, .long (x - y) :: r))
  | .lmul => sLL st (fun x y r => some (pc + 1, lv, .long (x * y) :: r))
  | .land => sLL st (fun x y r => some (pc + 1, lv, .long (x &&& y) :: r))
  | .lor => sLL st (fun x y r => some (pc + 1, lv, .long (x ||| y) :: r))
  | .lxor => sLL st (fun x y r => some (pc + 1, lv, .long (x ^^^ y) :: r))
  | .ldiv => sLL st (fun x y r => oC (decide (¬ y = 0)) (some (pc + 1, lv, .long (x / y) :: r)))
  | .lrem => sLL st (fun x y r => oC (decide (¬ y = 0)) (some (pc + 1, lv, .long (x - x / y * y) :: r)))
  | .lshl => sLI st (fun x y r => some (pc + 1, lv, .long (x <<< (y.toInt64 &&& 63)) :: r))
  | .lshr => sLI st (fun x y r => some (pc + 1, lv, .long (x >>> (y.toInt64 &&& 63)) :: r))
  | .ineg => sI st (fun x r => some (pc + 1, lv, .int (-x) :: r))
  | .i2l => sI st (fun x r => some (pc + 1, lv, .long x.toInt64 :: r))
  | .l2i => sL st (fun x r => some (pc + 1, lv, .int x.toInt32 :: r))
  | .i2b => sI st (fun x r => some (pc + 1, lv, .int x.toInt8.toInt32 :: r))
  | .lcmp => sLL st (fun x y r => some (pc + 1, lv, .int (lg_cmp x y) :: r))
  | .dup => sV st (fun v r => oC (v.category == 1) (some (pc + 1, lv, v :: v :: r)))
  | .dup2 => sVV st (fun v u r => oC (v.category == 1 && u.category == 1) (some (pc + 1, lv, v :: u :: v :: u :: r)))
  | .pop => sV st (fun v r => oC (v.category == 1) (some (pc + 1, lv, r)))
  | .goto _ => some (tgt, lv, st)
  | .if_icmp .eq _ => sII st (fun x y r => jmp (decide (x = y)) tgt (pc + 3) lv r)
  | .ifCond .eq _ => sI st (fun x r => jmp (decide (x = 0)) tgt (pc + 3) lv r)
  | .if_icmp .ne _ => sII st (fun x y r => jmp (decide (¬ x = y)) tgt (pc + 3) lv r)
  | .ifCond .ne _ => sI st (fun x r => jmp (decide (¬ x = 0)) tgt (pc + 3) lv r)
  | .if_icmp .lt _ => sII st (fun x y r => jmp (decide (x < y)) tgt (pc + 3) lv r)
  | .ifCond .lt _ => sI st (fun x r => jmp (decide (x < 0)) tgt (pc + 3) lv r)
  | .if_icmp .ge _ => sII st (fun x y r => jmp (decide (y ≤ x)) tgt (pc + 3) lv r)
  | .ifCond .ge _ => sI st (fun x r => jmp (decide (0 ≤ x)) tgt (pc + 3) lv r)
  | .if_icmp .gt _ => sII st (fun x y r => jmp (decide (y < x)) tgt (pc + 3) lv r)
  | .ifCond .gt _ => sI st (fun x r => jmp (decide (0 < x)) tgt (pc + 3) lv r)
  | .if_icmp .le _ => sII st (fun x y r => jmp (decide (x ≤ y)) tgt (pc + 3) lv r)
  | .ifCond .le _ => sI st (fun x r => jmp (decide (x ≤ 0)) tgt (pc + 3) lv r)
  | .tableswitch dflt lo hi offs => sI st (fun x r => oB (tsw pc dflt lo hi offs x) (fun t => some (t, lv, r)))
  | .lookupswitch dflt ps => sI st (fun x r => oC ((ps.toList.zip (ps.toList.drop 1)).all (fun (a, next) => a.1 < next.1) && decide (0 ≤ (pc : Int) + Op.lookupswitch.offset ps.toList dflt x.toInt)) (some (((pc : Int) + Op.lookupswitch.offset ps.toList dflt x.toInt).toNat, lv, r)))
  | .ldc k => oB (fnd (mki F) k) (fun q => some (pc + 2, lv, .int q.1 :: st))
  | .ldc_w k => oB (fnd (mki F) k) (fun q => some (pc + 3, lv, .int q.1 :: st))
  | .ldc2_w k => oB (fnd (mkl F) k) (fun q => some (pc + 3, lv, .long q.1 :: st))
  | .getfield k => sR st (fun a r => oB (fnd (mfl F) k) (fun e => oB h[a]? (fun c => oC (c.1 == 0 && c.2.1 == e.1) (oB c.2.2[e.2.1]? (fun v => some (pc + 3, lv, v :: r))))))
  | .iaload => oB (ldR scr 1 0 0 st h) (fun q => oC (isI q.1) (some (pc + 1, lv, q.1 :: q.2)))
  | .baload => oB (ldR none 1 2 3 st h) (fun q => oC (isI q.1) (some (pc + 1, lv, q.1 :: q.2)))
  | .laload => oB (ldR none 2 1 1 st h) (fun q => oC (isL q.1) (some (pc + 1, lv, q.1 :: q.2)))
  | .aaload => sRI st (fun a j r => oB h[a]? (fun c => oC (c.1 == 3 && (c.2.1 == 4 || c.2.1 == 5 || c.2.1 == 6) && decide (¬ j < 0)) (oB c.2.2[j.toNatClampNeg]? (fun v => oC (isR v) (some (pc + 1, lv, v :: r))))))
  | .arraylength => sV st (fun v r => oB (alen scr h v) (fun x => some (pc + 1, lv, .int x :: r)))
  | _ => none
def SC (scr : AS) (b base : Nat) (s : State) : Prop := ∀ q, scr = some q → va_X b q.1 q.2 s s.heap ∧ b < s.heap.size ∧ b < base
set_option maxHeartbeats 4000000 in
set_option maxRecDepth 100000 in
theorem stpP_ok {MT : Nat → Option MR} {p : Program} {l : Launch} {e : Env} {R : Room} {s : State} {m : MethodId} {args : Array Value} {below : List Frame} {meth : Method} {c : Code} {H : Heap} {locs : List Loc} {cells slots : Nat} {Q : State → Prop} {F : MR} {scr : AS} {i : Instr} {len tgt pc pc' : Nat} {lv lv' : ALv} {st st' : List Value} {h : AH} {D : va_G} {tyc : Nat → ClassId} {b base : Nat} {ls : Array Slot}
    (hF : FOK MT F) (C : Ctx p s m args meth c F) (hK : va_K D vwCl (TYS tyc) s) (hW : Wd D tyc b base h H) (hS : va_S (fun q => base ≤ q) s.heap H locs) (hl : lv_has ls (mml F) (gL b base lv)) (hsc : SC scr b base s)
    (hf : fnd (mcode F) pc = some (i, len, tgt)) (hst : stpP F scr i tgt pc lv st h = some (pc', lv', st'))
    (k : ∀ ls', lv_has ls' (mml F) (gL b base lv') → W p l e R s m args below meth c H locs cells slots Q (F0 m pc' ls' (st'.map (gV b base)))) :
    W p l e R s m args below meth c H locs cells slots Q (F0 m pc ls (st.map (gV b base))) := by
  obtain ⟨hx, hb, hr, hml, hown, hlocks, hts, hin0, hal⟩ := C
  obtain ⟨hD, hlen, hoff⟩ := hF.1 _ (fnd_mem hf)
  dsimp only at hD hlen hoff
  have hd : ∀ n, ilen i = n → n ≠ 0 → decode (mcc F) pc = .ok (i, n) := by
    intro n h1 h2
    rcases hlen with h3 | h3
    · omega
    · rw [← h1, h3]; exact hD
  cases i with
  | iconst n =>
    change some (_, _, _) = some _ at hst
    have h2 := hst
    simp only [Option.some.injEq, Prod.mk.injEq] at h2
    obtain ⟨rfl, rfl, rfl⟩ := h2
    exact lv_iconst hx hb (hd 1 rfl (by decide)) rfl (k ls hl)
  | bipush n =>
    change some (_, _, _) = some _ at hst
    have h2 := hst
    simp only [Option.some.injEq, Prod.mk.injEq] at h2
    obtain ⟨rfl, rfl, rfl⟩ := h2
    exact lv_bipush hx hb (hd 2 rfl (by decide)) rfl (k ls hl)
  | sipush n =>
    change some (_, _, _) = some _ at hst
    have h2 := hst
    simp only [Option.some.injEq, Prod.mk.injEq] at h2
    obtain ⟨rfl, rfl, rfl⟩ := h2
    exact lv_sipush hx hb (hd 3 rfl (by decide)) rfl (k ls hl)
  | lconst n =>
    change some (_, _, _) = some _ at hst
    have h2 := hst
    simp only [Option.some.injEq, Prod.mk.injEq] at h2
    obtain ⟨rfl, rfl, rfl⟩ := h2
    exact lv_lconst hx hb (hd 1 rfl (by decide)) rfl (k ls hl)
  | iload_n z =>
    change oB _ _ = some _ at hst
    obtain ⟨v, hv, h2⟩ := oB_inv hst
    obtain ⟨x, rfl, hx2⟩ := ldI_inv hv
    simp only [Option.some.injEq, Prod.mk.injEq] at h2
    obtain ⟨rfl, rfl, rfl⟩ := h2
    exact lv_iload_n hx hb (hd 1 rfl (by decide)) rfl (lvA hl hx2) (k ls hl)
  | iload z =>
    change oB _ _ = some _ at hst
    obtain ⟨v, hv, h2⟩ := oB_inv hst
    obtain ⟨x, rfl, hx2⟩ := ldI_inv hv
    simp only [Option.some.injEq, Prod.mk.injEq] at h2
    obtain ⟨rfl, rfl, rfl⟩ := h2
    exact lv_iload hx hb (hd 2 rfl (by decide)) (lvA hl hx2) (k ls hl)
  | lload_n z =>
    change oB _ _ = some _ at hst
    obtain ⟨v, hv, h2⟩ := oB_inv hst
    obtain ⟨x, rfl, hx2⟩ := ldL_inv hv
    simp only [Option.some.injEq, Prod.mk.injEq] at h2
    obtain ⟨rfl, rfl, rfl⟩ := h2
    exact lv_lload_n hx hb (hd 1 rfl (by decide)) rfl (lvA hl hx2) (k ls hl)
  | lload z =>
    change oB _ _ = some _ at hst
    obtain ⟨v, hv, h2⟩ := oB_inv hst
    obtain ⟨x, rfl, hx2⟩ := ldL_inv hv
    simp only [Option.some.injEq, Prod.mk.injEq] at h2
    obtain ⟨rfl, rfl, rfl⟩ := h2
    exact lv_lload hx hb (hd 2 rfl (by decide)) (lvA hl hx2) (k ls hl)
  | aload_n z =>
    change oB _ _ = some _ at hst
    obtain ⟨v, hv, h2⟩ := oB_inv hst
    obtain ⟨hv3, hx2⟩ := ldA_inv hv
    simp only [Option.some.injEq, Prod.mk.injEq] at h2
    obtain ⟨rfl, rfl, rfl⟩ := h2
    rcases hv3 with rfl | ⟨x, rfl⟩ | ⟨x, rfl⟩
    · exact lv_aload_nN hx hb (hd 1 rfl (by decide)) rfl (lvA hl hx2) (k ls hl)
    · exact lv_aload_n hx hb (hd 1 rfl (by decide)) rfl (lvA hl hx2) (k ls hl)
    · exact lv_aload_n hx hb (hd 1 rfl (by decide)) rfl (lvA hl hx2) (k ls hl)
  | aload z =>
    change oB _ _ = some _ at hst
    obtain ⟨v, hv, h2⟩ := oB_inv hst
    obtain ⟨hv3, hx2⟩ := ldA_inv hv
    simp only [Option.some.injEq, Prod.mk.injEq] at h2
    obtain ⟨rfl, rfl, rfl⟩ := h2
    rcases hv3 with rfl | ⟨x, rfl⟩ | ⟨x, rfl⟩
    · exact lv_aloadN hx hb (hd 2 rfl (by decide)) (lvA hl hx2) (k ls hl)
    · exact lv_aload hx hb (hd 2 rfl (by decide)) (lvA hl hx2) (k ls hl)
    · exact lv_aload hx hb (hd 2 rfl (by decide)) (lvA hl hx2) (k ls hl)
  | istore_n z =>
    change sI _ _ = some _ at hst
    obtain ⟨x, r, rfl, h1⟩ := sI_inv hst
    obtain ⟨h3, h2⟩ := oC_inv h1
    simp only [Option.some.injEq, Prod.mk.injEq] at h2
    obtain ⟨rfl, rfl, rfl⟩ := h2
    exact lv_istore_n hx hb (hd 1 rfl (by decide)) rfl hl (of_decide_eq_true h3) (gL_set1 b base lv _ (.int x)) (fun ls2 hl2 => k ls2 hl2)
  | istore z =>
    change sI _ _ = some _ at hst
    obtain ⟨x, r, rfl, h1⟩ := sI_inv hst
    obtain ⟨h3, h2⟩ := oC_inv h1
    simp only [Option.some.injEq, Prod.mk.injEq] at h2
    obtain ⟨rfl, rfl, rfl⟩ := h2
    exact lv_istore hx hb (hd 2 rfl (by decide)) hl (of_decide_eq_true h3) (gL_set1 b base lv _ (.int x)) (fun ls2 hl2 => k ls2 hl2)
  | lstore_n z =>
    change sL _ _ = some _ at hst
    obtain ⟨x, r, rfl, h1⟩ := sL_inv hst
    obtain ⟨h3, h2⟩ := oC_inv h1
    simp only [Option.some.injEq, Prod.mk.injEq] at h2
    obtain ⟨rfl, rfl, rfl⟩ := h2
    exact lv_lstore_n hx hb (hd 1 rfl (by decide)) rfl hl (of_decide_eq_true h3) (gL_set2 b base lv _ (.long x)) (fun ls2 hl2 => k ls2 hl2)
  | lstore z =>
    change sL _ _ = some _ at hst
    obtain ⟨x, r, rfl, h1⟩ := sL_inv hst
    obtain ⟨h3, h2⟩ := oC_inv h1
    simp only [Option.some.injEq, Prod.mk.injEq] at h2
    obtain ⟨rfl, rfl, rfl⟩ := h2
    exact lv_lstore hx hb (hd 2 rfl (by decide)) hl (of_decide_eq_true h3) (gL_set2 b base lv _ (.long x)) (fun ls2 hl2 => k ls2 hl2)
  | astore_n z =>
    change sR _ _ = some _ at hst
    obtain ⟨x, r, rfl, h1⟩ := sR_inv hst
    obtain ⟨h3, h2⟩ := oC_inv h1
    simp only [Option.some.injEq, Prod.mk.injEq] at h2
    obtain ⟨rfl, rfl, rfl⟩ := h2
    exact lv_astore_n hx hb (hd 1 rfl (by decide)) rfl hl (of_decide_eq_true h3) (gL_set1 b base lv _ (.ref x)) (fun ls2 hl2 => k ls2 hl2)
  | astore z =>
    change sR _ _ = some _ at hst
    obtain ⟨x, r, rfl, h1⟩ := sR_inv hst
    obtain ⟨h3, h2⟩ := oC_inv h1
    simp only [Option.some.injEq, Prod.mk.injEq] at h2
    obtain ⟨rfl, rfl, rfl⟩ := h2
    exact lv_astore hx hb (hd 2 rfl (by decide)) hl (of_decide_eq_true h3) (gL_set1 b base lv _ (.ref x)) (fun ls2 hl2 => k ls2 hl2)
  | iinc z n =>
    change oB _ _ = some _ at hst
    obtain ⟨v, hv, h1⟩ := oB_inv hst
    obtain ⟨x, rfl, hx2⟩ := ldI_inv hv
    obtain ⟨h3, h2⟩ := oC_inv h1
    simp only [Option.some.injEq, Prod.mk.injEq] at h2
    obtain ⟨rfl, rfl, rfl⟩ := h2
    obtain ⟨j, hj⟩ := List.getElem?_of_mem (List.mem_map.mpr ⟨(z, .int x), fnd_mem hx2, rfl⟩ : (z, gV b base (.int x)) ∈ gL b base lv)
    exact lv_iinc hx hb (hd 3 rfl (by decide)) hl hj rfl (of_decide_eq_true h3) (gL_set1 b base lv _ (.int (x + Int32.ofInt n))) (fun ls2 hl2 => k ls2 hl2)
  | iadd =>
    change sII _ _ = some _ at hst
    obtain ⟨x, y, r, rfl, h1⟩ := sII_inv hst
    have h2 := h1
    simp only [Option.some.injEq, Prod.mk.injEq] at h2
    obtain ⟨rfl, rfl, rfl⟩ := h2
    exact lv_iadd hx hb (hd 1 rfl (by decide)) (k ls hl)
  | isub =>
    change sII _ _ = some _ at hst
    obtain ⟨x, y, r, rfl, h1⟩ := sII_inv hst
    have h2 := h1
    simp only [Option.some.injEq, Prod.mk.injEq] at h2
    obtain ⟨rfl, rfl, rfl⟩ := h2
    exact lv_isub hx hb (hd 1 rfl (by decide)) (k ls hl)
  | imul =>
    change sII _ _ = some _ at hst
    obtain ⟨x, y, r, rfl, h1⟩ := sII_inv hst
    have h2 := h1
    simp only [Option.some.injEq, Prod.mk.injEq] at h2
    obtain ⟨rfl, rfl, rfl⟩ := h2
    exact lv_imul hx hb (hd 1 rfl (by decide)) (k ls hl)
  | iand =>
    change sII _ _ = some _ at hst
    obtain ⟨x, y, r, rfl, h1⟩ := sII_inv hst
    have h2 := h1
    simp only [Option.some.injEq, Prod.mk.injEq] at h2
    obtain ⟨rfl, rfl, rfl⟩ := h2
    exact lv_iand hx hb (hd 1 rfl (by decide)) (k ls hl)
  | ior =>
    change sII _ _ = some _ at hst
    obtain ⟨x, y, r, rfl, h1⟩ := sII_inv hst
    have h2 := h1
    simp only [Option.some.injEq, Prod.mk.injEq] at h2
    obtain ⟨rfl, rfl, rfl⟩ := h2
    exact lv_ior hx hb (hd 1 rfl (by decide)) (k ls hl)
  | ixor =>
    change sII _ _ = some _ at hst
    obtain ⟨x, y, r, rfl, h1⟩ := sII_inv hst
    have h2 := h1
    simp only [Option.some.injEq, Prod.mk.injEq] at h2
    obtain ⟨rfl, rfl, rfl⟩ := h2
    exact lv_ixor hx hb (hd 1 rfl (by decide)) (k ls hl)
  | ishl =>
    change sII _ _ = some _ at hst
    obtain ⟨x, y, r, rfl, h1⟩ := sII_inv hst
    have h2 := h1
    simp only [Option.some.injEq, Prod.mk.injEq] at h2
    obtain ⟨rfl, rfl, rfl⟩ := h2
    exact lv_ishl hx hb (hd 1 rfl (by decide)) (k ls hl)
  | ishr =>
    change sII _ _ = some _ at hst
    obtain ⟨x, y, r, rfl, h1⟩ := sII_inv hst
    have h2 := h1
    simp only [Option.some.injEq, Prod.mk.injEq] at h2
    obtain ⟨rfl, rfl, rfl⟩ := h2
    exact lv_ishr hx hb (hd 1 rfl (by decide)) (k ls hl)
  | iushr =>
    change sII _ _ = some _ at hst
    obtain ⟨x, y, r, rfl, h1⟩ := sII_inv hst
    have h2 := h1
    simp only [Option.some.injEq, Prod.mk.injEq] at h2
    obtain ⟨rfl, rfl, rfl⟩ := h2
    exact lv_iushr hx hb (hd 1 rfl (by decide)) rfl (k ls hl)
  | idiv =>
    change sII _ _ = some _ at hst
    obtain ⟨x, y, r, rfl, h1⟩ := sII_inv hst
    obtain ⟨h3, h2⟩ := oC_inv h1
    simp only [Option.some.injEq, Prod.mk.injEq] at h2
    obtain ⟨rfl, rfl, rfl⟩ := h2
    exact lv_idiv hx hb (hd 1 rfl (by decide)) (of_decide_eq_true h3) (k ls hl)
  | irem =>
    change sII _ _ = some _ at hst
    obtain ⟨x, y, r, rfl, h1⟩ := sII_inv hst
    obtain ⟨h3, h2⟩ := oC_inv h1
    simp only [Option.some.injEq, Prod.mk.injEq] at h2
    obtain ⟨rfl, rfl, rfl⟩ := h2
    exact lv_irem hx hb (hd 1 rfl (by decide)) (of_decide_eq_true h3) (k ls hl)
  | ladd =>
    change sLL _ _ = some _ at hst
    obtain ⟨x, y, r, rfl, h1⟩ := sLL_inv hst
    have h2 := h1
    simp only [Option.some.injEq, Prod.mk.injEq] at h2
    obtain ⟨rfl, rfl, rfl⟩ := h2
    exact lv_ladd hx hb (hd 1 rfl (by decide)) (k ls hl)
  | lsub =>
    change sLL _ _ = some _ at hst
    obtain ⟨x, y, r, rfl, h1⟩ := sLL_inv hst
    have h2 := h1
    simp only [Option.some.injEq, Prod.mk.injEq] at h2
    obtain ⟨rfl, rfl, rfl⟩ := h2
    exact lv_lsub hx hb (hd 1 rfl (by decide)) (k ls hl)
  | lmul =>
    change sLL _ _ = some _ at hst
    obtain ⟨x, y, r, rfl, h1⟩ := sLL_inv hst
    have h2 := h1
    simp only [Option.some.injEq, Prod.mk.injEq] at h2
    obtain ⟨rfl, rfl, rfl⟩ := h2
    exact lv_lmul hx hb (hd 1 rfl (by decide)) (k ls hl)
  | land =>
    change sLL _ _ = some _ at hst
    obtain ⟨x, y, r, rfl, h1⟩ := sLL_inv hst
    have h2 := h1
    simp only [Option.some.injEq, Prod.mk.injEq] at h2
    obtain ⟨rfl, rfl, rfl⟩ := h2
    exact lv_land hx hb (hd 1 rfl (by decide)) (k ls hl)
  | lor =>
    change sLL _ _ = some _ at hst
    obtain ⟨x, y, r, rfl, h1⟩ := sLL_inv hst
    have h2 := h1
    simp only [Option.some.injEq, Prod.mk.injEq] at h2
    obtain ⟨rfl, rfl, rfl⟩ := h2
    exact lv_lor hx hb (hd 1 rfl (by decide)) (k ls hl)
  | lxor =>
    change sLL _ _ = some _ at hst
    obtain ⟨x, y, r, rfl, h1⟩ := sLL_inv hst
    have h2 := h1
    simp only [Option.some.injEq, Prod.mk.injEq] at h2
    obtain ⟨rfl, rfl, rfl⟩ := h2
    exact lv_lxor hx hb (hd 1 rfl (by decide)) (k ls hl)
  | ldiv =>
    change sLL _ _ = some _ at hst
    obtain ⟨x, y, r, rfl, h1⟩ := sLL_inv hst
    obtain ⟨h3, h2⟩ := oC_inv h1
    simp only [Option.some.injEq, Prod.mk.injEq] at h2
    obtain ⟨rfl, rfl, rfl⟩ := h2
    exact lv_ldiv hx hb (hd 1 rfl (by decide)) (of_decide_eq_true h3) (k ls hl)
  | lrem =>
    change sLL _ _ = some _ at hst
    obtain ⟨x, y, r, rfl, h1⟩ := sLL_inv hst
    obtain ⟨h3, h2⟩ := oC_inv h1
    simp only [Option.some.injEq, Prod.mk.injEq] at h2
    obtain ⟨rfl, rfl, rfl⟩ := h2
    exact lv_lrem hx hb (hd 1 rfl (by decide)) (of_decide_eq_true h3) (k ls hl)
  | lshl =>
    change sLI _ _ = some _ at hst
    obtain ⟨x, y, r, rfl, h1⟩ := sLI_inv hst
    have h2 := h1
    simp only [Option.some.injEq, Prod.mk.injEq] at h2
    obtain ⟨rfl, rfl, rfl⟩ := h2
    exact lv_lshl hx hb (hd 1 rfl (by decide)) rfl (k ls hl)
  | lshr =>
    change sLI _ _ = some _ at hst
    obtain ⟨x, y, r, rfl, h1⟩ := sLI_inv hst
    have h2 := h1
    simp only [Option.some.injEq, Prod.mk.injEq] at h2
    obtain ⟨rfl, rfl, rfl⟩ := h2
    exact lv_lshr hx hb (hd 1 rfl (by decide)) rfl (k ls hl)
  | ineg =>
    change sI _ _ = some _ at hst
    obtain ⟨x, r, rfl, h2⟩ := sI_inv hst
    simp only [Option.some.injEq, Prod.mk.injEq] at h2
    obtain ⟨rfl, rfl, rfl⟩ := h2
    exact lv_ineg hx hb (hd 1 rfl (by decide)) (k ls hl)
  | i2l =>
    change sI _ _ = some _ at hst
    obtain ⟨x, r, rfl, h2⟩ := sI_inv hst
    simp only [Option.some.injEq, Prod.mk.injEq] at h2
    obtain ⟨rfl, rfl, rfl⟩ := h2
    exact lv_i2l hx hb (hd 1 rfl (by decide)) rfl (k ls hl)
  | l2i =>
    change sL _ _ = some _ at hst
    obtain ⟨x, r, rfl, h2⟩ := sL_inv hst
    simp only [Option.some.injEq, Prod.mk.injEq] at h2
    obtain ⟨rfl, rfl, rfl⟩ := h2
    exact lv_l2i hx hb (hd 1 rfl (by decide)) rfl (k ls hl)
  | i2b =>
    change sI _ _ = some _ at hst
    obtain ⟨x, r, rfl, h2⟩ := sI_inv hst
    simp only [Option.some.injEq, Prod.mk.injEq] at h2
    obtain ⟨rfl, rfl, rfl⟩ := h2
    exact lv_i2b hx hb (hd 1 rfl (by decide)) rfl (k ls hl)
  | lcmp =>
    change sLL _ _ = some _ at hst
    obtain ⟨x, y, r, rfl, h2⟩ := sLL_inv hst
    simp only [Option.some.injEq, Prod.mk.injEq] at h2
    obtain ⟨rfl, rfl, rfl⟩ := h2
    exact W.lcmp hx hb (hd 1 rfl (by decide)) (k ls hl)
  | dup =>
    change sV _ _ = some _ at hst
    obtain ⟨v, r, rfl, h1⟩ := sV_inv hst
    obtain ⟨h3, h2⟩ := oC_inv h1
    simp only [Option.some.injEq, Prod.mk.injEq] at h2
    obtain ⟨rfl, rfl, rfl⟩ := h2
    exact lv_dup hx hb (hd 1 rfl (by decide)) ((gV_cat b base v).trans (eq_of_beq h3)) (k ls hl)
  | dup2 =>
    change sVV _ _ = some _ at hst
    obtain ⟨v, u, r, rfl, h1⟩ := sVV_inv hst
    obtain ⟨h3, h2⟩ := oC_inv h1
    simp only [Option.some.injEq, Prod.mk.injEq] at h2
    obtain ⟨rfl, rfl, rfl⟩ := h2
    rw [Bool.and_eq_true] at h3
    exact lv_dup2_11 hx hb (hd 1 rfl (by decide)) ((gV_cat b base v).trans (eq_of_beq h3.1)) ((gV_cat b base u).trans (eq_of_beq h3.2)) (k ls hl)
  | pop =>
    change sV _ _ = some _ at hst
    obtain ⟨v, r, rfl, h1⟩ := sV_inv hst
    obtain ⟨h3, h2⟩ := oC_inv h1
    simp only [Option.some.injEq, Prod.mk.injEq] at h2
    obtain ⟨rfl, rfl, rfl⟩ := h2
    exact lv_pop hx hb (hd 1 rfl (by decide)) ((gV_cat b base v).trans (eq_of_beq h3)) (k ls hl)
  | goto off =>
    change some (_, _, _) = some _ at hst
    have h2 := hst
    simp only [Option.some.injEq, Prod.mk.injEq] at h2
    obtain ⟨rfl, rfl, rfl⟩ := h2
    exact lv_goto hx hb (hd 3 rfl (by decide)) (hoff _ rfl) (k ls hl)
  | if_icmp cd off =>
    cases cd with
    | eq =>
      change sII _ _ = some _ at hst
      obtain ⟨x, y, r, rfl, h2⟩ := sII_inv hst
      rcases jmp_inv h2 with ⟨ht, hz⟩ | ⟨ht, hz⟩
      · cases hz; exact lv_icmp_eq hx hb (hd 3 rfl (by decide)) (hoff _ rfl) (fun _ => k ls hl) (fun z => absurd (of_decide_eq_true ht) z)
      · cases hz; exact lv_icmp_eq hx hb (hd 3 rfl (by decide)) (hoff _ rfl) (fun z => absurd z (of_decide_eq_false ht)) (fun _ => k ls hl)
    | ne =>
      change sII _ _ = some _ at hst
      obtain ⟨x, y, r, rfl, h2⟩ := sII_inv hst
      rcases jmp_inv h2 with ⟨ht, hz⟩ | ⟨ht, hz⟩
      · cases hz; exact lv_icmp_ne hx hb (hd 3 rfl (by decide)) (hoff _ rfl) (fun _ => k ls hl) (fun z => absurd z (of_decide_eq_true ht))
      · cases hz; exact lv_icmp_ne hx hb (hd 3 rfl (by decide)) (hoff _ rfl) (fun z => absurd z (of_decide_eq_false ht)) (fun _ => k ls hl)
    | lt =>
      change sII _ _ = some _ at hst
      obtain ⟨x, y, r, rfl, h2⟩ := sII_inv hst
      rcases jmp_inv h2 with ⟨ht, hz⟩ | ⟨ht, hz⟩
      · cases hz; exact lv_icmp_lt hx hb (hd 3 rfl (by decide)) (hoff _ rfl) (fun _ => k ls hl) (fun z => absurd (of_decide_eq_true ht) z)
      · cases hz; exact lv_icmp_lt hx hb (hd 3 rfl (by decide)) (hoff _ rfl) (fun z => absurd z (of_decide_eq_false ht)) (fun _ => k ls hl)
    | ge =>
      change sII _ _ = some _ at hst
      obtain ⟨x, y, r, rfl, h2⟩ := sII_inv hst
      rcases jmp_inv h2 with ⟨ht, hz⟩ | ⟨ht, hz⟩
      · cases hz; exact lv_icmp_ge hx hb (hd 3 rfl (by decide)) (hoff _ rfl) (fun _ => k ls hl) (fun z => absurd (of_decide_eq_true ht) z)
      · cases hz; exact lv_icmp_ge hx hb (hd 3 rfl (by decide)) (hoff _ rfl) (fun z => absurd z (of_decide_eq_false ht)) (fun _ => k ls hl)
    | gt =>
      change sII _ _ = some _ at hst
      obtain ⟨x, y, r, rfl, h2⟩ := sII_inv hst
      rcases jmp_inv h2 with ⟨ht, hz⟩ | ⟨ht, hz⟩
      · cases hz; exact lv_icmp_gt hx hb (hd 3 rfl (by decide)) (hoff _ rfl) (fun _ => k ls hl) (fun z => absurd (of_decide_eq_true ht) z)
      · cases hz; exact lv_icmp_gt hx hb (hd 3 rfl (by decide)) (hoff _ rfl) (fun z => absurd z (of_decide_eq_false ht)) (fun _ => k ls hl)
    | le =>
      change sII _ _ = some _ at hst
      obtain ⟨x, y, r, rfl, h2⟩ := sII_inv hst
      rcases jmp_inv h2 with ⟨ht, hz⟩ | ⟨ht, hz⟩
      · cases hz; exact lv_icmp_le hx hb (hd 3 rfl (by decide)) (hoff _ rfl) (fun _ => k ls hl) (fun z => absurd (of_decide_eq_true ht) z)
      · cases hz; exact lv_icmp_le hx hb (hd 3 rfl (by decide)) (hoff _ rfl) (fun z => absurd z (of_decide_eq_false ht)) (fun _ => k ls hl)
  | ifCond cd off =>
    cases cd with
    | eq =>
      change sI _ _ = some _ at hst
      obtain ⟨x, r, rfl, h2⟩ := sI_inv hst
      rcases jmp_inv h2 with ⟨ht, hz⟩ | ⟨ht, hz⟩
      · cases hz; exact lv_if_eq hx hb (hd 3 rfl (by decide)) (hoff _ rfl) (fun _ => k ls hl) (fun z => absurd (of_decide_eq_true ht) z)
      · cases hz; exact lv_if_eq hx hb (hd 3 rfl (by decide)) (hoff _ rfl) (fun z => absurd z (of_decide_eq_false ht)) (fun _ => k ls hl)
    | ne =>
      change sI _ _ = some _ at hst
      obtain ⟨x, r, rfl, h2⟩ := sI_inv hst
      rcases jmp_inv h2 with ⟨ht, hz⟩ | ⟨ht, hz⟩
      · cases hz; exact lv_if_ne hx hb (hd 3 rfl (by decide)) (hoff _ rfl) (fun _ => k ls hl) (fun z => absurd z (of_decide_eq_true ht))
      · cases hz; exact lv_if_ne hx hb (hd 3 rfl (by decide)) (hoff _ rfl) (fun z => absurd z (of_decide_eq_false ht)) (fun _ => k ls hl)
    | lt =>
      change sI _ _ = some _ at hst
      obtain ⟨x, r, rfl, h2⟩ := sI_inv hst
      rcases jmp_inv h2 with ⟨ht, hz⟩ | ⟨ht, hz⟩
      · cases hz; exact lv_if_lt hx hb (hd 3 rfl (by decide)) (hoff _ rfl) (fun _ => k ls hl) (fun z => absurd (of_decide_eq_true ht) z)
      · cases hz; exact lv_if_lt hx hb (hd 3 rfl (by decide)) (hoff _ rfl) (fun z => absurd z (of_decide_eq_false ht)) (fun _ => k ls hl)
    | ge =>
      change sI _ _ = some _ at hst
      obtain ⟨x, r, rfl, h2⟩ := sI_inv hst
      rcases jmp_inv h2 with ⟨ht, hz⟩ | ⟨ht, hz⟩
      · cases hz; exact lv_if_ge hx hb (hd 3 rfl (by decide)) (hoff _ rfl) (fun _ => k ls hl) (fun z => absurd (of_decide_eq_true ht) z)
      · cases hz; exact lv_if_ge hx hb (hd 3 rfl (by decide)) (hoff _ rfl) (fun z => absurd z (of_decide_eq_false ht)) (fun _ => k ls hl)
    | gt =>
      change sI _ _ = some _ at hst
      obtain ⟨x, r, rfl, h2⟩ := sI_inv hst
      rcases jmp_inv h2 with ⟨ht, hz⟩ | ⟨ht, hz⟩
      · cases hz; exact lv_if_gt hx hb (hd 3 rfl (by decide)) (hoff _ rfl) (fun _ => k ls hl) (fun z => absurd (of_decide_eq_true ht) z)
      · cases hz; exact lv_if_gt hx hb (hd 3 rfl (by decide)) (hoff _ rfl) (fun z => absurd z (of_decide_eq_false ht)) (fun _ => k ls hl)
    | le =>
      change sI _ _ = some _ at hst
      obtain ⟨x, r, rfl, h2⟩ := sI_inv hst
      rcases jmp_inv h2 with ⟨ht, hz⟩ | ⟨ht, hz⟩
      · cases hz; exact lv_if_le hx hb (hd 3 rfl (by decide)) (hoff _ rfl) (fun _ => k ls hl) (fun z => absurd (of_decide_eq_true ht) z)
      · cases hz; exact lv_if_le hx hb (hd 3 rfl (by decide)) (hoff _ rfl) (fun z => absurd z (of_decide_eq_false ht)) (fun _ => k ls hl)
  | tableswitch dflt lo hi offs =>
    change sI _ _ = some _ at hst
    obtain ⟨x, r, rfl, h1⟩ := sI_inv hst
    obtain ⟨t, ht, h2⟩ := oB_inv h1
    simp only [Option.some.injEq, Prod.mk.injEq] at h2
    obtain ⟨rfl, rfl, rfl⟩ := h2
    unfold tsw at ht
    split at ht
    · rename_i hz
      obtain ⟨h3, h4⟩ := oC_inv ht
      cases h4
      exact lv_tableOut hx hb hD hz (Int.toNat_of_nonneg (of_decide_eq_true h3)).symm (k ls hl)
    · rename_i hz
      obtain ⟨o, ho, h5⟩ := oB_inv ht
      obtain ⟨h3, h4⟩ := oC_inv h5
      cases h4
      exact lv_tableIn hx hb hD (fun z => hz (Or.inl z)) (fun z => hz (Or.inr z)) ho (Int.toNat_of_nonneg (of_decide_eq_true h3)).symm (k ls hl)
  | lookupswitch dflt ps =>
    change sI _ _ = some _ at hst
    obtain ⟨x, r, rfl, h1⟩ := sI_inv hst
    obtain ⟨h3, h2⟩ := oC_inv h1
    simp only [Option.some.injEq, Prod.mk.injEq] at h2
    obtain ⟨rfl, rfl, rfl⟩ := h2
    rw [Bool.and_eq_true] at h3
    exact lv_lookup hx hb hD h3.1 rfl (Int.toNat_of_nonneg (of_decide_eq_true h3.2)).symm (k ls hl)
  | ldc z =>
    change oB _ _ = some _ at hst
    obtain ⟨q, hq, h2⟩ := oB_inv hst
    simp only [Option.some.injEq, Prod.mk.injEq] at h2
    obtain ⟨rfl, rfl, rfl⟩ := h2
    exact lv_ldc hx hb hown (hts _ (hF.2.2.2.1 _ (fnd_mem hq))) (hd 2 rfl (by decide)) (k ls hl)
  | ldc_w z =>
    change oB _ _ = some _ at hst
    obtain ⟨q, hq, h2⟩ := oB_inv hst
    simp only [Option.some.injEq, Prod.mk.injEq] at h2
    obtain ⟨rfl, rfl, rfl⟩ := h2
    exact lv_ldcw hx hb hown (hts _ (hF.2.2.2.1 _ (fnd_mem hq))) (hd 3 rfl (by decide)) (k ls hl)
  | ldc2_w z =>
    change oB _ _ = some _ at hst
    obtain ⟨q, hq, h2⟩ := oB_inv hst
    simp only [Option.some.injEq, Prod.mk.injEq] at h2
    obtain ⟨rfl, rfl, rfl⟩ := h2
    exact lv_ldc2 hx hb hown (hts _ (hF.2.2.2.2.1 _ (fnd_mem hq))) (hd 3 rfl (by decide)) (k ls hl)
  | getfield z =>
    change sR _ _ = some _ at hst
    obtain ⟨a, r, rfl, h1⟩ := sR_inv hst
    obtain ⟨e0, he0, h4⟩ := oB_inv h1
    obtain ⟨cc, hc, h5⟩ := oB_inv h4
    obtain ⟨h3, h6⟩ := oC_inv h5
    obtain ⟨v, hv, h2⟩ := oB_inv h6
    simp only [Option.some.injEq, Prod.mk.injEq] at h2
    obtain ⟨rfl, rfl, rfl⟩ := h2
    simp only [Bool.and_eq_true, beq_iff_eq] at h3
    obtain ⟨⟨C0, T0, N0⟩, hr0, hk0, hw0, -, -⟩ := hF.2.1 _ (fnd_mem he0)
    dsimp only at hr0 hk0 hw0
    have he := gW_at (b := b) (base := base) (tyc := tyc) hc
    rw [gE_o h3.1, h3.2] at he
    have hv2 : (cc.2.2.map (gV b base))[e0.2.1]? = some (gV b base v) := by rw [List.getElem?_map, hv]; rfl
    unfold fldW at hw0
    split at hw0
    · exact va_getN hx hb hts (CLS_in hr0) hown hK hW.2 a he hr0 e0.2.1 hk0 (hal _ hw0) (fun _ h9 => h9) hv2 (hd 3 rfl (by decide)) (k ls hl)
    · exact va_get hx hb hts (CLS_in hr0) hown hK hW.2 a he hr0 e0.2.1 hk0 (hal _ hw0) (fun _ h9 => h9) hv2 (hd 3 rfl (by decide)) (k ls hl)
  | iaload =>
    change oB _ _ = some _ at hst
    obtain ⟨⟨v, r⟩, hq, h1⟩ := oB_inv hst
    obtain ⟨h3, h2⟩ := oC_inv h1
    simp only [Option.some.injEq, Prod.mk.injEq] at h2
    obtain ⟨rfl, rfl, rfl⟩ := h2
    obtain ⟨x, hxv⟩ := isI_inv h3
    dsimp only at hxv
    subst hxv
    rcases ldR_inv hq with ⟨a, j, cc, hs, hc, hk1, hk2, hj, hv⟩ | ⟨a, j, q, hs, hsq, hj, hv⟩
    · dsimp only at hs hv
      subst hs
      have he := gW_at (b := b) (base := base) (tyc := tyc) hc
      rw [gE_i hk1] at he
      have e9 : asI (cc.2.2.getD j.toNatClampNeg .null) = x := by rw [List.getD_eq_getElem?_getD, hv]; rfl
      have hin : vp_in j cc.2.2.length := by
        have h8 := (List.getElem?_eq_some_iff.mp hv).1
        exact fun z => z.elim hj (fun z => by omega)
      have hk3 : cc.2.1 = 0 := by rcases hk2 with z | z <;> exact z
      rw [hk3] at he
      exact va_iald hx hb hK hW.2 a 0 he rfl hin (hd 1 rfl (by decide)) (W.eq (by show F0 m (pc + 1) ls (.int (asI (cc.2.2.getD j.toNatClampNeg .null)) :: _) = _; rw [e9]; rfl) (k ls hl))
    · dsimp only at hs hv
      subst hs
      cases hv
      obtain ⟨hX, hbl, hbb⟩ := hsc q hsq
      exact va_sld hx hb hX hbl (Nat.not_le.mpr hbb) hS hj (hd 1 rfl (by decide)) (k ls hl)
  | baload =>
    change oB _ _ = some _ at hst
    obtain ⟨⟨v, r⟩, hq, h1⟩ := oB_inv hst
    obtain ⟨h3, h2⟩ := oC_inv h1
    simp only [Option.some.injEq, Prod.mk.injEq] at h2
    obtain ⟨rfl, rfl, rfl⟩ := h2
    obtain ⟨x, hxv⟩ := isI_inv h3
    dsimp only at hxv
    subst hxv
    rcases ldR_inv hq with ⟨a, j, cc, hs, hc, hk1, hk2, hj, hv⟩ | ⟨a, j, q, hs, hsq, hj, hv⟩
    · dsimp only at hs hv
      subst hs
      have he := gW_at (b := b) (base := base) (tyc := tyc) hc
      rw [gE_i hk1] at he
      have e9 : asI (cc.2.2.getD j.toNatClampNeg .null) = x := by rw [List.getD_eq_getElem?_getD, hv]; rfl
      have hin : vp_in j cc.2.2.length := by
        have h8 := (List.getElem?_eq_some_iff.mp hv).1
        exact fun z => z.elim hj (fun z => by omega)
      rcases hk2 with hk3 | hk3
      · rw [hk3] at he
        exact va_bald hx hb hK hW.2 a 2 he rfl hin (hd 1 rfl (by decide)) (W.eq (by show F0 m (pc + 1) ls (.int (asI (cc.2.2.getD j.toNatClampNeg .null)) :: _) = _; rw [e9]; rfl) (k ls hl))
      · rw [hk3] at he
        exact va_zald hx hb hK hW.2 a 3 he rfl hin (hd 1 rfl (by decide)) (W.eq (by show F0 m (pc + 1) ls (.int (asI (cc.2.2.getD j.toNatClampNeg .null)) :: _) = _; rw [e9]; rfl) (k ls hl))
    · cases hsq
  | laload =>
    change oB _ _ = some _ at hst
    obtain ⟨⟨v, r⟩, hq, h1⟩ := oB_inv hst
    obtain ⟨h3, h2⟩ := oC_inv h1
    simp only [Option.some.injEq, Prod.mk.injEq] at h2
    obtain ⟨rfl, rfl, rfl⟩ := h2
    obtain ⟨x, hxv⟩ := isL_inv h3
    dsimp only at hxv
    subst hxv
    rcases ldR_inv hq with ⟨a, j, cc, hs, hc, hk1, hk2, hj, hv⟩ | ⟨a, j, q, hs, hsq, hj, hv⟩
    · dsimp only at hs hv
      subst hs
      have he := gW_at (b := b) (base := base) (tyc := tyc) hc
      rw [gE_l hk1] at he
      have e9 : asL (cc.2.2.getD j.toNatClampNeg .null) = x := by rw [List.getD_eq_getElem?_getD, hv]; rfl
      have hin : vp_in j cc.2.2.length := by
        have h8 := (List.getElem?_eq_some_iff.mp hv).1
        exact fun z => z.elim hj (fun z => by omega)
      have hk3 : cc.2.1 = 1 := by rcases hk2 with z | z <;> exact z
      rw [hk3] at he
      exact va_lald hx hb hK hW.2 a 1 he rfl hin (hd 1 rfl (by decide)) (W.eq (by show F0 m (pc + 1) ls (.long (asL (cc.2.2.getD j.toNatClampNeg .null)) :: _) = _; rw [e9]; rfl) (k ls hl))
    · cases hsq
  | aaload =>
    change sRI _ _ = some _ at hst
    obtain ⟨a, j, r, rfl, h1⟩ := sRI_inv hst
    obtain ⟨cc, hc, h4⟩ := oB_inv h1
    obtain ⟨h3, h5⟩ := oC_inv h4
    obtain ⟨v, hv, h6⟩ := oB_inv h5
    obtain ⟨h7, h2⟩ := oC_inv h6
    simp only [Option.some.injEq, Prod.mk.injEq] at h2
    obtain ⟨rfl, rfl, rfl⟩ := h2
    simp only [Bool.and_eq_true, Bool.or_eq_true, beq_iff_eq, decide_eq_true_eq] at h3
    obtain ⟨⟨hk1, hk2⟩, hj⟩ := h3
    have he := gW_at (b := b) (base := base) (tyc := tyc) hc
    rw [gE_r hk1] at he
    have e9 : va_rf (asR base (cc.2.2.getD j.toNatClampNeg .null)) = gV b base v := by
      rw [List.getD_eq_getElem?_getD, hv]
      rcases isR_inv h7 with rfl | ⟨x, rfl⟩ <;> rfl
    have hin : vp_in j cc.2.2.length := by
      have h8 := (List.getElem?_eq_some_iff.mp hv).1
      exact fun z => z.elim hj (fun z => by omega)
    rcases hk2 with (hk3 | hk3) | hk3
    · rw [hk3] at he
      exact va_aldq hx hb hK hW.2 a 4 he rfl hin (hd 1 rfl (by decide)) (W.eq (by show F0 m (pc + 1) ls (va_rf (asR base (cc.2.2.getD j.toNatClampNeg .null)) :: _) = _; rw [e9]; rfl) (k ls hl))
    · rw [hk3] at he
      exact va_aldq hx hb hK hW.2 a 5 he rfl hin (hd 1 rfl (by decide)) (W.eq (by show F0 m (pc + 1) ls (va_rf (asR base (cc.2.2.getD j.toNatClampNeg .null)) :: _) = _; rw [e9]; rfl) (k ls hl))
    · rw [hk3] at he
      exact va_aldq hx hb hK hW.2 a 6 he rfl hin (hd 1 rfl (by decide)) (W.eq (by show F0 m (pc + 1) ls (va_rf (asR base (cc.2.2.getD j.toNatClampNeg .null)) :: _) = _; rw [e9]; rfl) (k ls hl))
  | arraylength =>
    change sV _ _ = some _ at hst
    obtain ⟨v, r, rfl, h1⟩ := sV_inv hst
    obtain ⟨x, hx1, h2⟩ := oB_inv h1
    simp only [Option.some.injEq, Prod.mk.injEq] at h2
    obtain ⟨rfl, rfl, rfl⟩ := h2
    unfold alen at hx1
    split at hx1
    · rename_i a
      obtain ⟨cc, hc, h4⟩ := oB_inv hx1
      obtain ⟨h3, h5⟩ := oC_inv h4
      cases h5
      simp only [Bool.and_eq_true, Bool.or_eq_true, beq_iff_eq, decide_eq_true_eq] at h3
      obtain ⟨hk1, hk2⟩ := h3
      obtain ⟨ty, hty⟩ := TYS_get tyc hk2
      have he := gW_at (b := b) (base := base) (tyc := tyc) hc
      rcases hk1 with (hk1 | hk1) | hk1
      · rw [gE_i hk1] at he; exact va_alen hx hb hK hW.2 a _ he hty rfl (hd 1 rfl (by decide)) (k ls hl)
      · rw [gE_l hk1] at he; exact va_alen hx hb hK hW.2 a _ he hty rfl (hd 1 rfl (by decide)) (k ls hl)
      · rw [gE_r hk1] at he; exact va_alen hx hb hK hW.2 a _ he hty rfl (hd 1 rfl (by decide)) (k ls hl)
    · obtain ⟨q, hq, h4⟩ := oB_inv hx1
      cases h4
      obtain ⟨hX, hbl, hbb⟩ := hsc q hq
      exact va_slen hx hb hX hbl (Nat.not_le.mpr hbb) hS (hd 1 rfl (by decide)) (k ls hl)
    · cases hx1
  | _ => exact absurd hst (by intro z; cases z)
end
section
/-! the steps that write and make -/
theorem vS_self {A : Nat → Prop} {H0 H : Heap} {locs : List Loc} (h : va_S A H0 H locs) : va_S A H H locs := ⟨Nat.le_refl _, fun _ _ _ => rfl, h.2.2⟩
theorem vS_comp {A : Nat → Prop} {H0 H H1 : Heap} {locs locs1 : List Loc} (h1 : va_S A H0 H locs) (h2 : va_S A H H1 locs1) : va_S A H0 H1 locs1 :=
  ⟨Nat.le_trans h1.1 h2.1, fun q hq hA => (h2.2.1 q (Nat.lt_of_lt_of_le hq h1.1) hA).trans (h1.2.1 q hq hA), h2.2.2⟩
/-- a frame has no more cells than are booked -/
theorem W_sz {p : Program} {l : Launch} {e : Env} {R : Room} {s : State} {m : MethodId} {args : Array Value} {below : List Frame} {meth : Method} {c : Code} {H : Heap} {locs : List Loc} {cells slots : Nat} {Q : State → Prop} {g : JFrame}
    (k : H.size ≤ s.heap.size + cells → W p l e R s m args below meth c H locs cells slots Q g) : W p l e R s m args below meth c H locs cells slots Q g := fun T hT X => k (by
  have h := X.same.2.2.1
  rw [← hT]
  exact h) T hT X
theorem Wd_set {D : va_G} {tyc : Nat → ClassId} {b base : Nat} {h : AH} {H H1 : Heap} {a n : Nat} {c : AC} (hW : Wd D tyc b base h H) (hP : va_P D vwCl ((gW b base tyc h).set a (base + a, gE b base tyc c)) H1) (hle : H.size ≤ H1.size) (hN : base + h.length = n) (hub : H1.size ≤ n) : Wd D tyc b base (h.set a c) H1 := by
  refine ⟨?_, by rw [← gW_set]; exact hP⟩
  have h1 := hW.1
  rw [List.length_set]
  omega
theorem Wd_push {D : va_G} {tyc : Nat → ClassId} {b base : Nat} {h : AH} {H H1 : Heap} {q n : Nat} {c : AC} (hW : Wd D tyc b base h H) (hP : va_P D vwCl (gW b base tyc h ++ [(q, gE b base tyc c)]) H1) (hD : va_D (fun q => base ≤ q) (gW b base tyc h ++ [(q, gE b base tyc c)])) (hN : base + h.length = n) (hub : H1.size ≤ n + 1) : Wd D tyc b base (h ++ [c]) H1 ∧ q = base + h.length := by
  have hk : (gW b base tyc h ++ [(q, gE b base tyc c)])[h.length]? = some (q, gE b base tyc c) := by
    rw [List.getElem?_append_right (by rw [gW_len]; exact Nat.le_refl _), gW_len]; simp
  have hq1 : base ≤ q := hD.2 _ _ hk
  have hq2 : q < H1.size := (hP _ _ hk).lt
  have hq3 : base + h.length ≤ q := by
    rcases Nat.lt_or_ge q (base + h.length) with z | z
    · exfalso
      have hi : q - base < h.length := by omega
      have h2 : (gW b base tyc h ++ [(q, gE b base tyc c)])[q - base]? = some (base + (q - base), gE b base tyc h[q - base]) := by
        rw [List.getElem?_append_left (by rw [gW_len]; exact hi)]
        exact gW_at (List.getElem?_eq_getElem hi)
      have h3 := hD.1 _ _ _ _ h2 hk (by dsimp only; omega)
      omega
    · exact z
  have e : q = base + h.length := by omega
  subst e
  exact ⟨⟨by rw [List.length_append]; simp only [List.length_cons, List.length_nil]; omega, by rw [gW_push]; exact hP⟩, rfl⟩
theorem updI_list {vs : List Value} {j : Nat} (hj : j < vs.length) (x : Int32) : upd (fun k => asI (vs.getD k .null)) j x = fun k => asI ((vs.set j (.int x)).getD k .null) := by
  funext k
  unfold upd
  simp only [List.getD_eq_getElem?_getD, List.getElem?_set]
  by_cases hk : k = j
  · subst hk; simp [hj, asI]
  · rw [if_neg hk, if_neg (fun z => hk z.symm)]
theorem updL_list {vs : List Value} {j : Nat} (hj : j < vs.length) (x : Int64) : vp_updL (fun k => asL (vs.getD k .null)) j x = fun k => asL ((vs.set j (.long x)).getD k .null) := by
  funext k
  unfold vp_updL
  simp only [List.getD_eq_getElem?_getD, List.getElem?_set]
  by_cases hk : k = j
  · subst hk; simp [hj, asL]
  · rw [if_neg hk, if_neg (fun z => hk z.symm)]
theorem updR_list {base : Nat} {vs : List Value} {j : Nat} (hj : j < vs.length) (a : Nat) : va_up (fun k => asR base (vs.getD k .null)) j (some (base + a)) = fun k => asR base ((vs.set j (.ref a)).getD k .null) := by
  funext k
  unfold va_up
  simp only [List.getD_eq_getElem?_getD, List.getElem?_set]
  by_cases hk : k = j
  · subst hk; simp [hj, asR]
  · rw [if_neg hk, if_neg (fun z => hk z.symm)]
def sVR {α : Type} (st : List Value) (f : Value → Nat → List Value → Option α) : Option α := match st with
  | v :: .ref a :: r => f v a r
  | _ => none
def sVIR {α : Type} (st : List Value) (f : Value → Int32 → Nat → List Value → Option α) : Option α := match st with
  | v :: .int j :: .ref a :: r => f v j a r
  | _ => none
theorem sVR_inv {α : Type} {st : List Value} {f : Value → Nat → List Value → Option α} {a : α} (h : sVR st f = some a) : ∃ v x r, st = v :: .ref x :: r ∧ f v x r = some a := by
  unfold sVR at h; split at h
  · exact ⟨_, _, _, rfl, h⟩
  · cases h
theorem sVIR_inv {α : Type} {st : List Value} {f : Value → Int32 → Nat → List Value → Option α} {a : α} (h : sVIR st f = some a) : ∃ v j x r, st = v :: .int j :: .ref x :: r ∧ f v j x r = some a := by
  unfold sVIR at h; split at h
  · exact ⟨_, _, _, _, rfl, h⟩
  · cases h
/-- the type of the rows that hold a class's objects -/
def ciTy (ci : Nat) : Nat := if ci = 0 then 4 else if ci = 4 then 5 else if ci = 7 then 6 else 99
def stpW (F : MR) (i : Instr) (pc : Nat) (st : List Value) (h : AH) : Option (Nat × List Value × AH) :=
  match i with
  | .putfield k => sVR st (fun v a r => oB (fnd (mfl F) k) (fun e => oB h[a]? (fun c => oC (c.1 == 0 && c.2.1 == e.1 && decide (e.2.2.1 < 3) && decide (e.2.1 < c.2.2.length) && okFit (TYF e.1 e.2.1) v) (some (pc + 3, r, h.set a (0, c.2.1, c.2.2.set e.2.1 v))))))
  | .iastore => sVIR st (fun v j a r => oB h[a]? (fun c => oC (isI v && c.1 == 1 && c.2.1 == 0 && decide (¬ j < 0) && decide (j.toNatClampNeg < c.2.2.length)) (some (pc + 1, r, h.set a (1, c.2.1, c.2.2.set j.toNatClampNeg v)))))
  | .bastore => sVIR st (fun v j a r => oB h[a]? (fun c => oC (isI v && c.1 == 1 && (c.2.1 == 2 || c.2.1 == 3) && decide (¬ j < 0) && decide (j.toNatClampNeg < c.2.2.length)) (some (pc + 1, r, h.set a (1, c.2.1, c.2.2.set j.toNatClampNeg (.int (vp_nar (if c.2.1 = 2 then .byte else .boolean) (asI v))))))))
  | .lastore => sVIR st (fun v j a r => oB h[a]? (fun c => oC (isL v && c.1 == 2 && c.2.1 == 1 && decide (¬ j < 0) && decide (j.toNatClampNeg < c.2.2.length)) (some (pc + 1, r, h.set a (2, c.2.1, c.2.2.set j.toNatClampNeg v)))))
  | .aastore => sVIR st (fun v j a r => match v with
    | .ref x => oB h[x]? (fun d => oB h[a]? (fun c => oC (d.1 == 0 && c.1 == 3 && c.2.1 == ciTy d.2.1 && decide (c.2.1 < 7) && decide (¬ j < 0) && decide (j.toNatClampNeg < c.2.2.length)) (some (pc + 1, r, h.set a (3, c.2.1, c.2.2.set j.toNatClampNeg (.ref x))))))
    | _ => none)
  | _ => none

set_option maxHeartbeats 4000000 in
set_option maxRecDepth 100000 in
theorem stpW_ok {MT : Nat → Option MR} {p : Program} {l : Launch} {e : Env} {R : Room} {s : State} {m : MethodId} {args : Array Value} {below : List Frame} {meth : Method} {c : Code} {H : Heap} {locs : List Loc} {cells slots : Nat} {Q : State → Prop} {F : MR} {i : Instr} {len tgt pc pc' : Nat} {st st' : List Value} {h h' : AH} {D : va_G} {tyc : Nat → ClassId} {b base : Nat} {ls : Array Slot}
    (hF : FOK MT F) (C : Ctx p s m args meth c F) (hK : va_K D vwCl (TYS tyc) s) (hW : Wd D tyc b base h H) (hS : va_S (fun q => base ≤ q) s.heap H locs) (hN : base + h.length = s.heap.size + cells)
    (hf : fnd (mcode F) pc = some (i, len, tgt)) (hst : stpW F i pc st h = some (pc', st', h'))
    (k : ∀ H' locs', Wd D tyc b base h' H' → va_S (fun q => base ≤ q) s.heap H' locs' → W p l e R s m args below meth c H' locs' cells slots Q (F0 m pc' ls (st'.map (gV b base)))) :
    W p l e R s m args below meth c H locs cells slots Q (F0 m pc ls (st.map (gV b base))) := by
  obtain ⟨hx, hb, hr, hml, hown, hlocks, hts, hin0, hal⟩ := C
  obtain ⟨hD, hlen, hoff⟩ := hF.1 _ (fnd_mem hf)
  dsimp only at hD hlen hoff
  have hd : ∀ n, ilen i = n → n ≠ 0 → decode (mcc F) pc = .ok (i, n) := by
    intro n h1 h2
    rcases hlen with h3 | h3
    · omega
    · rw [← h1, h3]; exact hD
  cases i with
  | putfield z =>
    change sVR _ _ = some _ at hst
    obtain ⟨v, a, r, rfl, h1⟩ := sVR_inv hst
    obtain ⟨e0, he0, h4⟩ := oB_inv h1
    obtain ⟨cc, hc, h5⟩ := oB_inv h4
    obtain ⟨h3, h2⟩ := oC_inv h5
    simp only [Option.some.injEq, Prod.mk.injEq] at h2
    obtain ⟨rfl, rfl, rfl⟩ := h2
    simp only [Bool.and_eq_true, beq_iff_eq, decide_eq_true_eq] at h3
    obtain ⟨⟨⟨⟨hk1, hk2⟩, hcd⟩, hlt⟩, hfit⟩ := h3
    obtain ⟨⟨C0, T0, N0⟩, hr0, hk0, hw0, hnf, hfn⟩ := hF.2.1 _ (fnd_mem he0)
    dsimp only at hr0 hk0 hw0 hnf hfn
    obtain ⟨hty, hnm⟩ := CLS_ty hr0
    have he := gW_at (b := b) (base := base) (tyc := tyc) hc
    rw [gE_o hk1, hk2] at he
    obtain ⟨hn1, hn2⟩ := okFit_spec b base hfit
    have hlt2 : e0.2.1 < (cc.2.2.map (gV b base)).length := by rw [List.length_map]; exact hlt
    have fin : ∀ (H1 : Heap) (locs1 : List Loc), va_P D vwCl ((gW b base tyc h).set a (base + a, .inr (e0.1, (cc.2.2.map (gV b base)).set e0.2.1 (gV b base v)))) H1 → va_S (fun q => base ≤ q) H H1 locs1 → W p l e R s m args below meth c H1 locs1 cells slots Q (F0 m (pc + 3) ls (r.map (gV b base))) := by
      intro H1 locs1 hP1 hS1
      refine W_sz (fun hub => k H1 locs1 (Wd_set hW ?_ hS1.1 hN hub) (vS_comp hS hS1))
      rw [gE_o rfl]
      dsimp only
      rw [List.map_set, hk2]
      exact hP1
    unfold fldW at hw0
    by_cases hfi : (T0 e0.2.1).2.2.2 = true
    · have hcd2 : e0.2.2.1 = 2 := by
        rcases (show e0.2.2.1 = 0 ∨ e0.2.2.1 = 1 ∨ e0.2.2.1 = 2 by omega) with z | z | z
        · rw [hnf (Or.inl z)] at hfi; cases hfi
        · rw [hnf (Or.inr z)] at hfi; cases hfi
        · exact z
      obtain ⟨g1, g2, g3⟩ := hfn hcd2
      rw [if_neg (by omega)] at hw0
      exact va_putF hx hb hts (CLS_in hr0) (TYF e0.1) hty hnm hown hK hW.2 (gW_D b base tyc h) (vS_self hS) a he hr0 e0.2.1 hk0 (hal _ hw0) (fun _ h9 => h9) g1 (hin0 g3) g2 (hty _ hk0) hn1 hn2 hlt2 (hd 3 rfl (by decide)) (fun H1 locs1 hP1 _ hS1 => fin H1 locs1 hP1 hS1)
    · have hfi2 : (T0 e0.2.1).2.2.2 = false := by simpa using hfi
      split at hw0
      · exact va_putN hx hb hts (CLS_in hr0) (TYF e0.1) hty hnm hown hK hW.2 (gW_D b base tyc h) (vS_self hS) a he hr0 e0.2.1 hk0 (hal _ hw0) (fun _ h9 => h9) hfi2 (hty _ hk0) hn1 hn2 hlt2 (hd 3 rfl (by decide)) (fun H1 locs1 hP1 _ hS1 => fin H1 locs1 hP1 hS1)
      · exact va_put hx hb hts (CLS_in hr0) (TYF e0.1) hty hnm hown hK hW.2 (gW_D b base tyc h) (vS_self hS) a he hr0 e0.2.1 hk0 (hal _ hw0) (fun _ h9 => h9) hfi2 (hty _ hk0) hn1 hn2 hlt2 (hd 3 rfl (by decide)) (fun H1 locs1 hP1 _ hS1 => fin H1 locs1 hP1 hS1)
  | iastore =>
    change sVIR _ _ = some _ at hst
    obtain ⟨v, j, a, r, rfl, h1⟩ := sVIR_inv hst
    obtain ⟨cc, hc, h4⟩ := oB_inv h1
    obtain ⟨h3, h2⟩ := oC_inv h4
    simp only [Option.some.injEq, Prod.mk.injEq] at h2
    obtain ⟨rfl, rfl, rfl⟩ := h2
    simp only [Bool.and_eq_true, Bool.or_eq_true, beq_iff_eq, decide_eq_true_eq] at h3
    obtain ⟨⟨⟨⟨hv, hk1⟩, hk2⟩, hj⟩, hlt⟩ := h3
    obtain ⟨x, rfl⟩ := isI_inv hv
    have he := gW_at (b := b) (base := base) (tyc := tyc) hc
    rw [gE_i hk1] at he
    have hin : vp_in j cc.2.2.length := fun z => z.elim hj (fun z => by omega)
    rw [hk2] at he
    refine va_iast hx hb hK hW.2 (gW_D b base tyc h) (vS_self hS) a 0 he rfl hin (hd 1 rfl (by decide)) (fun H1 locs1 hP1 _ hS1 => W_sz (fun hub => k H1 locs1 (Wd_set hW ?_ hS1.1 hN hub) (vS_comp hS hS1)))
    rw [updI_list hlt] at hP1
    rw [gE_i rfl]
    dsimp only
    rw [hk2, List.length_set]
    exact hP1
  | bastore =>
    change sVIR _ _ = some _ at hst
    obtain ⟨v, j, a, r, rfl, h1⟩ := sVIR_inv hst
    obtain ⟨cc, hc, h4⟩ := oB_inv h1
    obtain ⟨h3, h2⟩ := oC_inv h4
    simp only [Option.some.injEq, Prod.mk.injEq] at h2
    obtain ⟨rfl, rfl, rfl⟩ := h2
    simp only [Bool.and_eq_true, Bool.or_eq_true, beq_iff_eq, decide_eq_true_eq] at h3
    obtain ⟨⟨⟨⟨hv, hk1⟩, hk2⟩, hj⟩, hlt⟩ := h3
    obtain ⟨x, rfl⟩ := isI_inv hv
    have he := gW_at (b := b) (base := base) (tyc := tyc) hc
    rw [gE_i hk1] at he
    have hin : vp_in j cc.2.2.length := fun z => z.elim hj (fun z => by omega)
    rcases hk2 with hk2 | hk2
    · rw [hk2] at he
      refine va_bast hx hb hK hW.2 (gW_D b base tyc h) (vS_self hS) a 2 he rfl hin (hd 1 rfl (by decide)) (fun H1 locs1 hP1 _ hS1 => W_sz (fun hub => k H1 locs1 (Wd_set hW ?_ hS1.1 hN hub) (vS_comp hS hS1)))
      rw [updI_list hlt] at hP1
      rw [gE_i rfl]
      dsimp only
      rw [hk2, List.length_set]
      first | rw [if_pos rfl] | rw [if_neg (by decide)]
      exact hP1
    · rw [hk2] at he
      refine va_zast hx hb hK hW.2 (gW_D b base tyc h) (vS_self hS) a 3 he rfl hin (hd 1 rfl (by decide)) (fun H1 locs1 hP1 _ hS1 => W_sz (fun hub => k H1 locs1 (Wd_set hW ?_ hS1.1 hN hub) (vS_comp hS hS1)))
      rw [updI_list hlt] at hP1
      rw [gE_i rfl]
      dsimp only
      rw [hk2, List.length_set]
      first | rw [if_pos rfl] | rw [if_neg (by decide)]
      exact hP1
  | lastore =>
    change sVIR _ _ = some _ at hst
    obtain ⟨v, j, a, r, rfl, h1⟩ := sVIR_inv hst
    obtain ⟨cc, hc, h4⟩ := oB_inv h1
    obtain ⟨h3, h2⟩ := oC_inv h4
    simp only [Option.some.injEq, Prod.mk.injEq] at h2
    obtain ⟨rfl, rfl, rfl⟩ := h2
    simp only [Bool.and_eq_true, Bool.or_eq_true, beq_iff_eq, decide_eq_true_eq] at h3
    obtain ⟨⟨⟨⟨hv, hk1⟩, hk2⟩, hj⟩, hlt⟩ := h3
    obtain ⟨x, rfl⟩ := isL_inv hv
    have he := gW_at (b := b) (base := base) (tyc := tyc) hc
    rw [gE_l hk1] at he
    have hin : vp_in j cc.2.2.length := fun z => z.elim hj (fun z => by omega)
    rw [hk2] at he
    refine va_last hx hb hK hW.2 (gW_D b base tyc h) (vS_self hS) a 1 he rfl hin (hd 1 rfl (by decide)) (fun H1 locs1 hP1 _ hS1 => W_sz (fun hub => k H1 locs1 (Wd_set hW ?_ hS1.1 hN hub) (vS_comp hS hS1)))
    rw [updL_list hlt] at hP1
    rw [gE_l rfl]
    dsimp only
    rw [hk2, List.length_set]
    exact hP1
  | aastore =>
    change sVIR _ _ = some _ at hst
    obtain ⟨v, j, a, r, rfl, h1⟩ := sVIR_inv hst
    split at h1
    · rename_i x
      obtain ⟨dd, hdd, h1⟩ := oB_inv h1
      obtain ⟨cc, hc, h4⟩ := oB_inv h1
      obtain ⟨h3, h2⟩ := oC_inv h4
      simp only [Option.some.injEq, Prod.mk.injEq] at h2
      obtain ⟨rfl, rfl, rfl⟩ := h2
      simp only [Bool.and_eq_true, Bool.or_eq_true, beq_iff_eq, decide_eq_true_eq] at h3
      obtain ⟨⟨⟨⟨⟨hd1, hk1⟩, hk2⟩, hk7⟩, hj⟩, hlt⟩ := h3
      have he := gW_at (b := b) (base := base) (tyc := tyc) hc
      rw [gE_r hk1] at he
      have hv := gW_at (b := b) (base := base) (tyc := tyc) hdd
      rw [gE_o hd1] at hv
      have hin : vp_in j cc.2.2.length := fun z => z.elim hj (fun z => by omega)
      have fin : ∀ (H1 : Heap) (locs1 : List Loc), va_P D vwCl ((gW b base tyc h).set a (base + a, .inl (tyc cc.2.1, cc.2.2.length, .inr (.inr (.inr (.inr (va_up (fun k => asR base (cc.2.2.getD k .null)) j.toNatClampNeg (some (base + x))))))))) H1 → va_S (fun q => base ≤ q) H H1 locs1 → W p l e R s m args below meth c H1 locs1 cells slots Q (F0 m (pc + 1) ls (r.map (gV b base))) := by
        intro H1 locs1 hP1 hS1
        refine W_sz (fun hub => k H1 locs1 (Wd_set hW ?_ hS1.1 hN hub) (vS_comp hS hS1))
        rw [updR_list hlt] at hP1
        rw [gE_r rfl]
        simpa only [List.length_set] using hP1
      have hty3 : (dd.2.1 = 0 ∧ cc.2.1 = 4) ∨ (dd.2.1 = 4 ∧ cc.2.1 = 5) ∨ (dd.2.1 = 7 ∧ cc.2.1 = 6) := by
        unfold ciTy at hk2
        split at hk2
        · exact Or.inl ⟨by assumption, hk2⟩
        · split at hk2
          · exact Or.inr (Or.inl ⟨by assumption, hk2⟩)
          · split at hk2
            · exact Or.inr (Or.inr ⟨by assumption, hk2⟩)
            · omega
      rcases hty3 with ⟨z1, z2⟩ | ⟨z1, z2⟩ | ⟨z1, z2⟩
      · rw [z2] at he fin
        rw [z1] at hv
        exact va_astq hx hb hK hW.2 (gW_D b base tyc h) (vS_self hS) a 4 x 0 he rfl hv rfl hin (hd 1 rfl (by decide)) (fun H1 locs1 hP1 _ hS1 => fin H1 locs1 hP1 hS1)
      · rw [z2] at he fin
        rw [z1] at hv
        exact va_astq hx hb hK hW.2 (gW_D b base tyc h) (vS_self hS) a 5 x 4 he rfl hv rfl hin (hd 1 rfl (by decide)) (fun H1 locs1 hP1 _ hS1 => fin H1 locs1 hP1 hS1)
      · rw [z2] at he fin
        rw [z1] at hv
        exact va_astq hx hb hK hW.2 (gW_D b base tyc h) (vS_self hS) a 6 x 7 he rfl hv rfl hin (hd 1 rfl (by decide)) (fun H1 locs1 hP1 _ hS1 => fin H1 locs1 hP1 hS1)
    · cases h1
  | _ => exact absurd hst (by intro z; cases z)
/-! cells that come -/
def aty (t : ArrayType) : Option (Nat × Nat × Value) := match t with
  | .int => some (1, 0, .int 0)
  | .long => some (2, 1, .long 0)
  | .byte => some (1, 2, .int 0)
  | .boolean => some (1, 3, .int 0)
  | _ => none
/-- the classes, the rows' types, and that rows of objects may be made -/
def KX (D : va_G) (tyc : Nat → ClassId) (s : State) : Prop := va_K D vwCl (TYS tyc) s ∧ va_AO RX0 s ∧ va_AO RX4 s ∧ va_AO RX7 s ∧ ∀ w ∈ NST, va_Nw w s
theorem KX_warm {D : va_G} {tyc : Nat → ClassId} {u U : State} (hW : u.WarmedH U.vm) (h : KX D tyc u) : KX D tyc U := ⟨va_K.moved hW.alike h.1, va_AO.moved hW.alike h.2.1, va_AO.moved hW.alike h.2.2.1, va_AO.moved hW.alike h.2.2.2.1, fun w hw => NST_warm hw hW (h.2.2.2.2 w hw)⟩
theorem KX_call {D : va_G} {tyc : Nat → ClassId} {U : State} {g : JFrame} {mk : MethodId} {a : Array Value} (h : KX D tyc U) : KX D tyc (U.calling g mk a) := ⟨va_K.moved (u := U) (U := U.calling g mk a) (Vm.Alike.refl U.vm) h.1, va_AO.moved (u := U) (U := U.calling g mk a) (Vm.Alike.refl U.vm) h.2.1, va_AO.moved (u := U) (U := U.calling g mk a) (Vm.Alike.refl U.vm) h.2.2.1, va_AO.moved (u := U) (U := U.calling g mk a) (Vm.Alike.refl U.vm) h.2.2.2.1, fun w hw => va_Nw.same (NST_on hw) (u := U) (U := U.calling g mk a) rfl (h.2.2.2.2 w hw)⟩
def stpN (F : MR) (i : Instr) (pc : Nat) (st : List Value) (h : AH) : Option (Nat × List Value × AH) :=
  match i with
  | .new k => oB (fnd (mkc F) k) (fun e => some (pc + 3, .ref h.length :: st, h ++ [(0, e.1, DFL e.1)]))
  | .newarray t => oB (aty t) (fun q => sI st (fun n r => oC (decide (¬ n < 0) && decide (n.toNatClampNeg ≤ 100000)) (some (pc + 2, .ref h.length :: r, h ++ [(q.1, q.2.1, List.replicate n.toNatClampNeg q.2.2)]))))
  | .anewarray k => oB (fnd (mkc F) k) (fun e => sI st (fun n r => oC (decide (¬ n < 0) && decide (n.toNatClampNeg ≤ 100000) && decide (ciTy e.1 < 7)) (some (pc + 3, .ref h.length :: r, h ++ [(3, ciTy e.1, List.replicate n.toNatClampNeg .null)]))))
  | _ => none
theorem slo_push (h : AH) (c : AC) : slo (h ++ [c]) = slo h + c.2.2.length := by unfold slo; simp
theorem rep_I (n : Nat) : (fun j => asI ((List.replicate n (Value.int 0)).getD j .null)) = fun _ => (0 : Int32) := by
  funext j
  rw [List.getD_eq_getElem?_getD, List.getElem?_replicate]
  by_cases h : j < n <;> simp [h, asI]
theorem rep_L (n : Nat) : (fun j => asL ((List.replicate n (Value.long 0)).getD j .null)) = fun _ => (0 : Int64) := by
  funext j
  rw [List.getD_eq_getElem?_getD, List.getElem?_replicate]
  by_cases h : j < n <;> simp [h, asL]
theorem rep_R (base n : Nat) : (fun j => asR base ((List.replicate n Value.null).getD j .null)) = fun _ => (none : Option Nat) := by
  funext j
  rw [List.getD_eq_getElem?_getD, List.getElem?_replicate]
  by_cases h : j < n <;> simp [h, asR]
theorem TY_same {D : va_G} {tyc : Nat → ClassId} {s : State} {cA : ClassId} {ty : FieldType} {i : Nat} (hK : va_K D vwCl (TYS tyc ++ [(cA, ty)]) s) (hi : (TYS tyc)[i]? = some (tyc i, ty)) : cA = tyc i := by
  have hl : i < (TYS tyc).length := (List.getElem?_eq_some_iff.mp hi).1
  have h1 := (hK.2 i (tyc i, ty) (by rw [List.getElem?_append_left hl]; exact hi)).2
  have h2 := (hK.2 (TYS tyc).length (cA, ty) (by rw [List.getElem?_append_right (Nat.le_refl _)]; simp)).2
  unfold va_RA at h1 h2
  cases ty with
  | object C =>
    obtain ⟨_, _, _, _, _, e1⟩ := h1
    obtain ⟨_, _, _, _, _, e2⟩ := h2
    exact Option.some.inj (e2.symm.trans e1)
  | _ => exact Option.some.inj (h2.symm.trans h1)
set_option maxHeartbeats 4000000 in
set_option maxRecDepth 100000 in
theorem stpN_ok {MT : Nat → Option MR} {p : Program} {l : Launch} {e : Env} {R : Room} {s : State} {m : MethodId} {args : Array Value} {below : List Frame} {meth : Method} {c : Code} {H : Heap} {locs : List Loc} {cells slots S0 : Nat} {Q : State → Prop} {F : MR} {i : Instr} {len tgt pc pc' : Nat} {st st' : List Value} {h h' : AH} {D : va_G} {tyc : Nat → ClassId} {b base : Nat} {ls : Array Slot}
    (hF : FOK MT F) (C : Ctx p s m args meth c F) (hKX : KX D tyc s) (hW : Wd D tyc b base h H) (hS : va_S (fun q => base ≤ q) s.heap H locs) (hbs : base ≤ s.heap.size) (hN : base + h.length = s.heap.size + cells) (hM : slo h = S0 + slots) (hRc : base + h'.length ≤ s.heap.size + R.cells) (hRs : slo h' ≤ S0 + R.slots)
    (hf : fnd (mcode F) pc = some (i, len, tgt)) (hst : stpN F i pc st h = some (pc', st', h'))
    (k : ∀ H' locs' cells' slots', Wd D tyc b base h' H' → va_S (fun q => base ≤ q) s.heap H' locs' → base + h'.length = s.heap.size + cells' → slo h' = S0 + slots' → W p l e R s m args below meth c H' locs' cells' slots' Q (F0 m pc' ls (st'.map (gV b base)))) :
    W p l e R s m args below meth c H locs cells slots Q (F0 m pc ls (st.map (gV b base))) := by
  obtain ⟨hx, hb, hr, hml, hown, hlocks, hts, hin0, hal⟩ := C
  obtain ⟨hD, hlen, hoff⟩ := hF.1 _ (fnd_mem hf)
  dsimp only at hD hlen hoff
  have hd : ∀ n, ilen i = n → n ≠ 0 → decode (mcc F) pc = .ok (i, n) := by
    intro n h1 h2
    rcases hlen with h3 | h3
    · omega
    · rw [← h1, h3]; exact hD
  have hK := hKX.1
  have hsz := hW.1
  have hA : ∀ q, H.size ≤ q → (fun q => base ≤ q) q := fun q hq => by dsimp only; omega
  cases i with
  | new z =>
    change oB _ _ = some _ at hst
    obtain ⟨e0, he0, h2⟩ := oB_inv hst
    simp only [Option.some.injEq, Prod.mk.injEq] at h2
    obtain ⟨rfl, rfl, rfl⟩ := h2
    obtain ⟨⟨C0, T0, N0⟩, hr0, hw0⟩ := hF.2.2.2.2.2 _ (fnd_mem he0)
    dsimp only at hr0 hw0
    obtain ⟨hty, hnm⟩ := CLS_ty hr0
    obtain ⟨hi1, hi2, hdl, hdv⟩ := CLS_new hr0
    rw [slo_push] at hRs k
    rw [List.length_append] at hRc k
    dsimp only [List.length_cons, List.length_nil] at hRc hRs k
    refine va_new hx hb hts (CLS_in hr0) (TYF e0.1) hty hown (hts _ hw0) (hts _ hi1) (hts _ hi2) hK hW.2 (gW_D b base tyc h) (vS_self hS) hA hr0 (fs := (DFL e0.1).map (gV b base)) (hdv b base) (by omega) (by omega) (hd 3 rfl (by decide)) (fun q H1 hP1 hD1 hS1 => W_sz (fun hub => ?_))
    have e9 : (Sum.inr (e0.1, (DFL e0.1).map (gV b base)) : va_E) = gE b base tyc (0, e0.1, DFL e0.1) := (gE_o (c := (0, e0.1, DFL e0.1)) rfl).symm
    rw [e9] at hP1 hD1
    obtain ⟨hW1, rfl⟩ := Wd_push hW hP1 hD1 hN hub
    exact k H1 locs (cells + 1) (slots + N0) hW1 (vS_comp hS hS1) (by omega) (by omega)
  | newarray t =>
    change oB _ _ = some _ at hst
    obtain ⟨q0, hq0, h1⟩ := oB_inv hst
    obtain ⟨n, r, rfl, h4⟩ := sI_inv h1
    obtain ⟨h3, h2⟩ := oC_inv h4
    simp only [Option.some.injEq, Prod.mk.injEq] at h2
    obtain ⟨rfl, rfl, rfl⟩ := h2
    simp only [Bool.and_eq_true, decide_eq_true_eq] at h3
    obtain ⟨hn, hn5⟩ := h3
    rw [slo_push] at hRs k
    rw [List.length_append] at hRc k
    dsimp only [List.length_cons, List.length_nil] at hRc hRs k
    rw [List.length_replicate] at hRs k
    cases t with

    | int =>
      cases (show some (1, 0, Value.int 0) = some q0 from hq0)
      have hbytes : n.toNatClampNeg * componentBytes .int ≤ 536870912 := Nat.le_trans (Nat.mul_le_mul hn5 (show componentBytes .int ≤ 8 by decide)) (by decide)
      refine va_newa (atype := .int) (ty := .int) (a0 := (n.toNatClampNeg, .inl (fun _ => 0))) hx hb (hts _ ARR_int) rfl hK hW.2 (gW_D b base tyc h) (vS_self hS) hA (fun cA => rfl) hn rfl hbytes (by omega) (by omega) (hd 2 rfl (by decide)) (fun q cA H1 hK1 hP1 hD1 hS1 => W_sz (fun hub => ?_))
      have e8 := TY_same (i := 0) hK1 rfl
      subst e8
      have e9 : (Sum.inl (tyc 0, n.toNatClampNeg, .inl (fun _ => 0)) : va_E) = gE b base tyc (1, 0, List.replicate n.toNatClampNeg (.int 0)) := by
        rw [gE_i rfl]
        dsimp only
        rw [List.length_replicate, rep_I]
      rw [e9] at hP1 hD1
      obtain ⟨hW1, rfl⟩ := Wd_push hW hP1 hD1 hN hub
      exact k H1 locs (cells + 1) (slots + n.toNatClampNeg) hW1 (vS_comp hS hS1) (by omega) (by omega)
    | long =>
      cases (show some (2, 1, Value.long 0) = some q0 from hq0)
      have hbytes : n.toNatClampNeg * componentBytes .long ≤ 536870912 := Nat.le_trans (Nat.mul_le_mul hn5 (show componentBytes .long ≤ 8 by decide)) (by decide)
      refine va_newa (atype := .long) (ty := .long) (a0 := (n.toNatClampNeg, .inr (.inl (fun _ => 0)))) hx hb (hts _ ARR_long) rfl hK hW.2 (gW_D b base tyc h) (vS_self hS) hA (fun cA => rfl) hn rfl hbytes (by omega) (by omega) (hd 2 rfl (by decide)) (fun q cA H1 hK1 hP1 hD1 hS1 => W_sz (fun hub => ?_))
      have e8 := TY_same (i := 1) hK1 rfl
      subst e8
      have e9 : (Sum.inl (tyc 1, n.toNatClampNeg, .inr (.inl (fun _ => 0))) : va_E) = gE b base tyc (2, 1, List.replicate n.toNatClampNeg (.long 0)) := by
        rw [gE_l rfl]
        dsimp only
        rw [List.length_replicate, rep_L]
      rw [e9] at hP1 hD1
      obtain ⟨hW1, rfl⟩ := Wd_push hW hP1 hD1 hN hub
      exact k H1 locs (cells + 1) (slots + n.toNatClampNeg) hW1 (vS_comp hS hS1) (by omega) (by omega)
    | byte =>
      cases (show some (1, 2, Value.int 0) = some q0 from hq0)
      have hbytes : n.toNatClampNeg * componentBytes .byte ≤ 536870912 := Nat.le_trans (Nat.mul_le_mul hn5 (show componentBytes .byte ≤ 8 by decide)) (by decide)
      refine va_newa (atype := .byte) (ty := .byte) (a0 := (n.toNatClampNeg, .inl (fun _ => 0))) hx hb (hts _ ARR_byte) rfl hK hW.2 (gW_D b base tyc h) (vS_self hS) hA (fun cA => rfl) hn rfl hbytes (by omega) (by omega) (hd 2 rfl (by decide)) (fun q cA H1 hK1 hP1 hD1 hS1 => W_sz (fun hub => ?_))
      have e8 := TY_same (i := 2) hK1 rfl
      subst e8
      have e9 : (Sum.inl (tyc 2, n.toNatClampNeg, .inl (fun _ => 0)) : va_E) = gE b base tyc (1, 2, List.replicate n.toNatClampNeg (.int 0)) := by
        rw [gE_i rfl]
        dsimp only
        rw [List.length_replicate, rep_I]
      rw [e9] at hP1 hD1
      obtain ⟨hW1, rfl⟩ := Wd_push hW hP1 hD1 hN hub
      exact k H1 locs (cells + 1) (slots + n.toNatClampNeg) hW1 (vS_comp hS hS1) (by omega) (by omega)
    | boolean =>
      cases (show some (1, 3, Value.int 0) = some q0 from hq0)
      have hbytes : n.toNatClampNeg * componentBytes .boolean ≤ 536870912 := Nat.le_trans (Nat.mul_le_mul hn5 (show componentBytes .boolean ≤ 8 by decide)) (by decide)
      refine va_newa (atype := .boolean) (ty := .boolean) (a0 := (n.toNatClampNeg, .inl (fun _ => 0))) hx hb (hts _ ARR_boolean) rfl hK hW.2 (gW_D b base tyc h) (vS_self hS) hA (fun cA => rfl) hn rfl hbytes (by omega) (by omega) (hd 2 rfl (by decide)) (fun q cA H1 hK1 hP1 hD1 hS1 => W_sz (fun hub => ?_))
      have e8 := TY_same (i := 3) hK1 rfl
      subst e8
      have e9 : (Sum.inl (tyc 3, n.toNatClampNeg, .inl (fun _ => 0)) : va_E) = gE b base tyc (1, 3, List.replicate n.toNatClampNeg (.int 0)) := by
        rw [gE_i rfl]
        dsimp only
        rw [List.length_replicate, rep_I]
      rw [e9] at hP1 hD1
      obtain ⟨hW1, rfl⟩ := Wd_push hW hP1 hD1 hN hub
      exact k H1 locs (cells + 1) (slots + n.toNatClampNeg) hW1 (vS_comp hS hS1) (by omega) (by omega)
    | _ => exact absurd hq0 (by intro z; cases z)
  | anewarray z =>
    change oB _ _ = some _ at hst
    obtain ⟨e0, he0, h1⟩ := oB_inv hst
    obtain ⟨n, r, rfl, h4⟩ := sI_inv h1
    obtain ⟨h3, h2⟩ := oC_inv h4
    simp only [Option.some.injEq, Prod.mk.injEq] at h2
    obtain ⟨rfl, rfl, rfl⟩ := h2
    simp only [Bool.and_eq_true, decide_eq_true_eq] at h3
    obtain ⟨⟨hn, hn5⟩, hci⟩ := h3
    rw [slo_push] at hRs k
    rw [List.length_append] at hRc k
    dsimp only [List.length_cons, List.length_nil] at hRc hRs k
    rw [List.length_replicate] at hRs k
    obtain ⟨⟨C0, T0, N0⟩, hr0, hw0⟩ := hF.2.2.2.2.2 _ (fnd_mem he0)
    dsimp only at hr0 hw0
    have hty3 : (e0.1 = 0 ∧ ciTy e0.1 = 4) ∨ (e0.1 = 4 ∧ ciTy e0.1 = 5) ∨ (e0.1 = 7 ∧ ciTy e0.1 = 6) := by
      unfold ciTy at hci ⊢
      split
      · exact Or.inl ⟨by assumption, rfl⟩
      · split
        · exact Or.inr (Or.inl ⟨by assumption, rfl⟩)
        · split
          · exact Or.inr (Or.inr ⟨by assumption, rfl⟩)
          · rename_i g1 g2 g3
            rw [if_neg g1, if_neg g2, if_neg g3] at hci
            omega
    rcases hty3 with ⟨z1, z2⟩ | ⟨z1, z2⟩ | ⟨z1, z2⟩
    · rw [z1] at hr0
      cases (show some (RX0, TX0, 4) = some (C0, T0, N0) from hr0)
      refine va_newq hx hb hown (hts _ hw0) hKX.2.1 hK hW.2 (gW_D b base tyc h) (vS_self hS) hA (N' := n.toNatClampNeg) hn rfl (by omega) (by omega) (by omega) (hd 3 rfl (by decide)) (fun q cA H1 hK1 hP1 hD1 hS1 => W_sz (fun hub => ?_))
      have e8 := TY_same (i := 4) hK1 rfl
      subst e8
      have e9 : (Sum.inl (tyc 4, n.toNatClampNeg, .inr (.inr (.inr (.inr (fun _ => none))))) : va_E) = gE b base tyc (3, ciTy e0.1, List.replicate n.toNatClampNeg .null) := by
        rw [gE_r rfl, z2]
        dsimp only
        rw [List.length_replicate, rep_R]
      rw [e9] at hP1 hD1
      obtain ⟨hW1, rfl⟩ := Wd_push hW hP1 hD1 hN hub
      exact k H1 locs (cells + 1) (slots + n.toNatClampNeg) hW1 (vS_comp hS hS1) (by omega) (by omega)
    · rw [z1] at hr0
      cases (show some (RX4, TX4, 16) = some (C0, T0, N0) from hr0)
      refine va_newq hx hb hown (hts _ hw0) hKX.2.2.1 hK hW.2 (gW_D b base tyc h) (vS_self hS) hA (N' := n.toNatClampNeg) hn rfl (by omega) (by omega) (by omega) (hd 3 rfl (by decide)) (fun q cA H1 hK1 hP1 hD1 hS1 => W_sz (fun hub => ?_))
      have e8 := TY_same (i := 5) hK1 rfl
      subst e8
      have e9 : (Sum.inl (tyc 5, n.toNatClampNeg, .inr (.inr (.inr (.inr (fun _ => none))))) : va_E) = gE b base tyc (3, ciTy e0.1, List.replicate n.toNatClampNeg .null) := by
        rw [gE_r rfl, z2]
        dsimp only
        rw [List.length_replicate, rep_R]
      rw [e9] at hP1 hD1
      obtain ⟨hW1, rfl⟩ := Wd_push hW hP1 hD1 hN hub
      exact k H1 locs (cells + 1) (slots + n.toNatClampNeg) hW1 (vS_comp hS hS1) (by omega) (by omega)
    · rw [z1] at hr0
      cases (show some (RX7, TX7, 4) = some (C0, T0, N0) from hr0)
      refine va_newq hx hb hown (hts _ hw0) hKX.2.2.2.1 hK hW.2 (gW_D b base tyc h) (vS_self hS) hA (N' := n.toNatClampNeg) hn rfl (by omega) (by omega) (by omega) (hd 3 rfl (by decide)) (fun q cA H1 hK1 hP1 hD1 hS1 => W_sz (fun hub => ?_))
      have e8 := TY_same (i := 6) hK1 rfl
      subst e8
      have e9 : (Sum.inl (tyc 6, n.toNatClampNeg, .inr (.inr (.inr (.inr (fun _ => none))))) : va_E) = gE b base tyc (3, ciTy e0.1, List.replicate n.toNatClampNeg .null) := by
        rw [gE_r rfl, z2]
        dsimp only
        rw [List.length_replicate, rep_R]
      rw [e9] at hP1 hD1
      obtain ⟨hW1, rfl⟩ := Wd_push hW hP1 hD1 hN hub
      exact k H1 locs (cells + 1) (slots + n.toNatClampNeg) hW1 (vS_comp hS hS1) (by omega) (by omega)
  | _ => exact absurd hst (by intro z; cases z)
end
section
/-! THE MACHINE -/
def callKd (i : Instr) (kd : Nat) : Bool := match i with
  | .invokevirtual _ => kd == 0 || kd == 1
  | .invokestatic _ => kd == 2 || kd == 3 || kd == 8
  | .invokespecial _ => kd == 4 || kd == 5 || kd == 9
  | _ => false
def callIx (i : Instr) : Nat := match i with
  | .invokevirtual k => k
  | .invokestatic k => k
  | .invokespecial k => k
  | _ => 0
def cpyl (l0 l1 : List Value) (sp dp n : Nat) : List Value := (List.range l1.length).map (fun k => if dp ≤ k ∧ k < dp + n then l0.getD (sp + (k - dp)) .null else l1.getD k .null)
def acopy (st : List Value) (h : AH) : Option (List Value × AH) := match st with
  | .int n :: .int dp :: .ref a1 :: .int sp :: .ref a0 :: r => oB h[a0]? (fun c0 => oB h[a1]? (fun c1 => oC (decide (¬ sp < 0) && decide (¬ dp < 0) && decide (¬ n < 0) && c0.1 == c1.1 && c0.2.1 == c1.2.1 && (c0.1 == 1 && c0.2.1 == 0 || c0.1 == 2 && c0.2.1 == 1) && decide (sp.toNatClampNeg + n.toNatClampNeg ≤ c0.2.2.length) && decide (dp.toNatClampNeg + n.toNatClampNeg ≤ c1.2.2.length)) (some (r, h.set a1 (c1.1, c1.2.1, cpyl c0.2.2 c1.2.2 sp.toNatClampNeg dp.toNatClampNeg n.toNatClampNeg)))))
  | _ => none
def doRet (F : MR) (i : Instr) (st : List Value) (h : AH) : Option (Option Value × AH) := match i with
  | .ireturn => match mret F, st with
    | some .int, [.int x] => some (some (.int x), h)
    | some .boolean, [.int x] => oC (x &&& 1 == x) (some (some (.int x), h))
    | _, _ => none
  | .lreturn => match mret F, st with
    | some .long, [.long x] => some (some (.long x), h)
    | _, _ => none
  | .areturn => match mret F, st with
    | some (.object _), [.ref a] => some (some (.ref a), h)
    | _, _ => none
  | .return_ => match mret F, st with
    | none, [] => some (none, h)
    | _, _ => none
  | _ => none
/-- the receiver of a call is of the callee's class (virtual), or any object (init), or there is none (static) -/
def rcv (kd ci : Nat) (vs : List Value) (h : AH) : Bool := match kd with
  | 2 => true
  | 3 => true
  | 4 => match vs with
    | .ref _ :: _ => true
    | _ => false
  | 5 => match vs with
    | .ref _ :: _ => true
    | _ => false
  | _ => match vs with
    | .ref a :: _ => match h[a]? with
      | some c => c.1 == 0 && c.2.1 == ci
      | none => false
    | _ => false
abbrev AM : Type := Nat → Nat → AS → MR → Nat → ALv → List Value → AH → Option (Option Value × AH)
def nArg (kd : Nat) (G : MR) : Nat := if kd = 2 ∨ kd = 3 then mnp G else mnp G + 1
def amC (MT : Nat → Option MR) (rec : AM) (fr lo : Nat) (scr : AS) (F : MR) (i : Instr) (pc : Nat) (lv : ALv) (st : List Value) (h : AH) (kd id : Nat) : Option (Option Value × AH) := match kd with
  | 8 => oB (acopy st h) (fun q => oC (decide (1 ≤ fr) && decide (cats q.1 + 40 ≤ lo)) (rec fr lo scr F (pc + 3) lv q.1 q.2))
  | 9 => sR st (fun _ r => oC (decide (1 ≤ fr) && decide (cats r + 12 ≤ lo)) (rec fr lo scr F (pc + 3) lv r h))
  | kd => oB (MT id) (fun G => oC (decide (nArg kd G ≤ st.length) && decide (1 ≤ fr) && decide (mml G + 19 ≤ lo) && decide (cats (st.drop (nArg kd G)) ≤ 8) && decide (cats (st.take (nArg kd G)) ≤ mml G) && rcv kd (mci G) (st.take (nArg kd G)).reverse h)
      (oB (rec (fr - 1) (lo - (mml G + 19)) none G 0 (lv_args 0 (st.take (nArg kd G)).reverse) [] h) (fun q => rec fr lo scr F (pc + 3) lv (q.1.toList ++ st.drop (nArg kd G)) q.2)))
def amB (MT : Nat → Option MR) (rec : AM) : AM := fun fr lo scr F pc lv st h =>
  oB (fnd (mcode F) pc) (fun q => match ikind q.1 with
    | 0 => oB (stpP F scr q.1 q.2.2 pc lv st h) (fun x => rec fr lo scr F x.1 x.2.1 x.2.2 h)
    | 1 => oB (stpW F q.1 pc st h) (fun x => rec fr lo scr F x.1 lv x.2.1 x.2.2)
    | 2 => oB (stpN F q.1 pc st h) (fun x => rec fr lo scr F x.1 lv x.2.1 x.2.2)
    | 3 => oB (fnd (mcl F) (callIx q.1)) (fun e => oC (callKd q.1 e.1) (amC MT rec fr lo scr F q.1 pc lv st h e.1 e.2.1))
    | _ => doRet F q.1 st h)
noncomputable def am (MT : Nat → Option MR) (n : Nat) : AM := Nat.rec (motive := fun _ => AM) (fun _ _ _ _ _ _ _ _ => none) (fun _ ih => amB MT ih) n
theorem am_s (MT : Nat → Option MR) (n : Nat) : am MT (n + 1) = amB MT (am MT n) := rfl
/-! cells only come -/
theorem slo_set {h : AH} {a : Nat} {c d : AC} (hc : h[a]? = some c) (hd : d.2.2.length = c.2.2.length) : slo (h.set a d) = slo h := by
  unfold slo
  congr 1
  apply List.ext_getElem?
  intro i
  simp only [List.getElem?_map, List.getElem?_set]
  by_cases hi : a = i
  · subst hi
    obtain ⟨hlt, he⟩ := List.getElem?_eq_some_iff.mp hc
    simp [hlt, hd, he]
  · simp [hi]
theorem stpW_len {F : MR} {i : Instr} {pc pc' : Nat} {st st' : List Value} {h h' : AH} (hst : stpW F i pc st h = some (pc', st', h')) : h'.length = h.length ∧ slo h' = slo h := by
  cases i with
  | putfield z =>
    change sVR _ _ = some _ at hst
    obtain ⟨v, a, r, rfl, h1⟩ := sVR_inv hst
    obtain ⟨e0, he0, h4⟩ := oB_inv h1
    obtain ⟨cc, hc, h5⟩ := oB_inv h4
    obtain ⟨h3, h2⟩ := oC_inv h5
    simp only [Option.some.injEq, Prod.mk.injEq] at h2
    obtain ⟨rfl, rfl, rfl⟩ := h2
    exact ⟨List.length_set, slo_set hc (by simp)⟩
  | iastore =>
    change sVIR _ _ = some _ at hst
    obtain ⟨v, j, a, r, rfl, h1⟩ := sVIR_inv hst
    obtain ⟨cc, hc, h4⟩ := oB_inv h1
    obtain ⟨h3, h2⟩ := oC_inv h4
    simp only [Option.some.injEq, Prod.mk.injEq] at h2
    obtain ⟨rfl, rfl, rfl⟩ := h2
    exact ⟨List.length_set, slo_set hc (by simp)⟩
  | bastore =>
    change sVIR _ _ = some _ at hst
    obtain ⟨v, j, a, r, rfl, h1⟩ := sVIR_inv hst
    obtain ⟨cc, hc, h4⟩ := oB_inv h1
    obtain ⟨h3, h2⟩ := oC_inv h4
    simp only [Option.some.injEq, Prod.mk.injEq] at h2
    obtain ⟨rfl, rfl, rfl⟩ := h2
    exact ⟨List.length_set, slo_set hc (by simp)⟩
  | lastore =>
    change sVIR _ _ = some _ at hst
    obtain ⟨v, j, a, r, rfl, h1⟩ := sVIR_inv hst
    obtain ⟨cc, hc, h4⟩ := oB_inv h1
    obtain ⟨h3, h2⟩ := oC_inv h4
    simp only [Option.some.injEq, Prod.mk.injEq] at h2
    obtain ⟨rfl, rfl, rfl⟩ := h2
    exact ⟨List.length_set, slo_set hc (by simp)⟩
  | aastore =>
    change sVIR _ _ = some _ at hst
    obtain ⟨v, j, a, r, rfl, h1⟩ := sVIR_inv hst
    split at h1
    · obtain ⟨dd, hdd, h1⟩ := oB_inv h1
      obtain ⟨cc, hc, h4⟩ := oB_inv h1
      obtain ⟨h3, h2⟩ := oC_inv h4
      simp only [Option.some.injEq, Prod.mk.injEq] at h2
      obtain ⟨rfl, rfl, rfl⟩ := h2
      exact ⟨List.length_set, slo_set hc (by simp)⟩
    · cases h1
  | _ => exact absurd hst (by intro z; cases z)
theorem stpN_len {F : MR} {i : Instr} {pc pc' : Nat} {st st' : List Value} {h h' : AH} (hst : stpN F i pc st h = some (pc', st', h')) : h.length ≤ h'.length ∧ slo h ≤ slo h' := by
  cases i with
  | new z =>
    change oB _ _ = some _ at hst
    obtain ⟨e0, he0, h2⟩ := oB_inv hst
    simp only [Option.some.injEq, Prod.mk.injEq] at h2
    obtain ⟨rfl, rfl, rfl⟩ := h2
    exact ⟨by simp, by rw [slo_push]; omega⟩
  | newarray t =>
    change oB _ _ = some _ at hst
    obtain ⟨q0, hq0, h1⟩ := oB_inv hst
    obtain ⟨n, r, rfl, h4⟩ := sI_inv h1
    obtain ⟨h3, h2⟩ := oC_inv h4
    simp only [Option.some.injEq, Prod.mk.injEq] at h2
    obtain ⟨rfl, rfl, rfl⟩ := h2
    exact ⟨by simp, by rw [slo_push]; omega⟩
  | anewarray z =>
    change oB _ _ = some _ at hst
    obtain ⟨e0, he0, h1⟩ := oB_inv hst
    obtain ⟨n, r, rfl, h4⟩ := sI_inv h1
    obtain ⟨h3, h2⟩ := oC_inv h4
    simp only [Option.some.injEq, Prod.mk.injEq] at h2
    obtain ⟨rfl, rfl, rfl⟩ := h2
    exact ⟨by simp, by rw [slo_push]; omega⟩
  | _ => exact absurd hst (by intro z; cases z)
theorem acopy_inv {st r : List Value} {h h' : AH} (hst : acopy st h = some (r, h')) : ∃ (n dp sp : Int32) (a0 a1 : Nat) (c0 c1 : AC), st = .int n :: .int dp :: .ref a1 :: .int sp :: .ref a0 :: r ∧ h[a0]? = some c0 ∧ h[a1]? = some c1 ∧ ¬ sp < 0 ∧ ¬ dp < 0 ∧ ¬ n < 0 ∧ c0.1 = c1.1 ∧ c0.2.1 = c1.2.1 ∧ (c0.1 = 1 ∧ c0.2.1 = 0 ∨ c0.1 = 2 ∧ c0.2.1 = 1) ∧ sp.toNatClampNeg + n.toNatClampNeg ≤ c0.2.2.length ∧ dp.toNatClampNeg + n.toNatClampNeg ≤ c1.2.2.length ∧ h' = h.set a1 (c1.1, c1.2.1, cpyl c0.2.2 c1.2.2 sp.toNatClampNeg dp.toNatClampNeg n.toNatClampNeg) := by
  unfold acopy at hst
  split at hst
  · rename_i n dp a1 sp a0 r
    obtain ⟨c0, hc0, h1⟩ := oB_inv hst
    obtain ⟨c1, hc1, h2⟩ := oB_inv h1
    obtain ⟨h3, h4⟩ := oC_inv h2
    simp only [Option.some.injEq, Prod.mk.injEq] at h4
    obtain ⟨rfl, rfl⟩ := h4
    simp only [Bool.and_eq_true, Bool.or_eq_true, beq_iff_eq, decide_eq_true_eq] at h3
    obtain ⟨⟨⟨⟨⟨⟨⟨g1, g2⟩, g3⟩, g4⟩, g5⟩, g6⟩, g7⟩, g8⟩ := h3
    exact ⟨n, dp, sp, a0, a1, c0, c1, rfl, hc0, hc1, g1, g2, g3, g4, g5, g6, g7, g8, rfl⟩
  · cases hst
theorem cpyl_len (l0 l1 : List Value) (sp dp n : Nat) : (cpyl l0 l1 sp dp n).length = l1.length := by unfold cpyl; simp
theorem doRet_h {F : MR} {i : Instr} {st : List Value} {h h' : AH} {v : Option Value} (hst : doRet F i st h = some (v, h')) : h' = h := by
  unfold doRet at hst
  split at hst
  · split at hst
    · cases hst; rfl
    · obtain ⟨-, h2⟩ := oC_inv hst; cases h2; rfl
    · cases hst
  · split at hst
    · cases hst; rfl
    · cases hst
  · split at hst
    · cases hst; rfl
    · cases hst
  · split at hst
    · cases hst; rfl
    · cases hst
  · cases hst
theorem am_len (MT : Nat → Option MR) : ∀ (n fr lo : Nat) (scr : AS) (F : MR) (pc : Nat) (lv : ALv) (st : List Value) (h h' : AH) (v : Option Value), am MT n fr lo scr F pc lv st h = some (v, h') → h.length ≤ h'.length ∧ slo h ≤ slo h' := by
  intro n
  induction n with
  | zero => intro fr lo scr F pc lv st h h' v hh; cases hh
  | succ n ih =>
    intro fr lo scr F pc lv st h h' v hh
    rw [am_s] at hh
    unfold amB at hh
    obtain ⟨q, hq, h1⟩ := oB_inv hh
    split at h1
    · obtain ⟨x, hx, h2⟩ := oB_inv h1
      exact ih _ _ _ _ _ _ _ _ _ _ h2
    · obtain ⟨x, hx, h2⟩ := oB_inv h1
      have z := ih _ _ _ _ _ _ _ _ _ _ h2
      have y := stpW_len (pc' := x.1) (st' := x.2.1) (h' := x.2.2) hx
      omega
    · obtain ⟨x, hx, h2⟩ := oB_inv h1
      have z := ih _ _ _ _ _ _ _ _ _ _ h2
      have y := stpN_len (pc' := x.1) (st' := x.2.1) (h' := x.2.2) hx
      omega
    · obtain ⟨e, he, h2⟩ := oB_inv h1
      obtain ⟨hk, h3⟩ := oC_inv h2
      unfold amC at h3
      split at h3
      · obtain ⟨x, hx, h4⟩ := oB_inv h3
        obtain ⟨-, h5⟩ := oC_inv h4
        obtain ⟨n0, dp, sp, a0, a1, c0, c1, -, -, hc1, -, -, -, -, -, -, -, -, e9⟩ := acopy_inv (r := x.1) (h' := x.2) hx
        have z := ih _ _ _ _ _ _ _ _ _ _ h5
        have y := slo_set hc1 (d := (c1.1, c1.2.1, cpyl c0.2.2 c1.2.2 sp.toNatClampNeg dp.toNatClampNeg n0.toNatClampNeg)) (cpyl_len _ _ _ _ _)
        rw [e9, y, List.length_set] at z
        exact z
      · obtain ⟨a, r, rfl, h4⟩ := sR_inv h3
        obtain ⟨-, h5⟩ := oC_inv h4
        exact ih _ _ _ _ _ _ _ _ _ _ h5
      · obtain ⟨G, hG, h4⟩ := oB_inv h3
        obtain ⟨-, h5⟩ := oC_inv h4
        obtain ⟨x, hx, h6⟩ := oB_inv h5
        have z := ih _ _ _ _ _ _ _ _ _ _ h6
        have y := ih _ _ _ _ _ _ _ _ x.2 x.1 hx
        omega
    · rw [doRet_h h1]
      exact ⟨Nat.le_refl _, Nat.le_refl _⟩
end
section
/-! THE MACHINE IS RIGHT -/
theorem am_call {p : Program} {l : Launch} {e : Env} {R : Room} {s : State} {m : MethodId} {args : Array Value} {below : List Frame} {meth : Method} {c : Code} {H : Heap} {locs : List Loc} {cells slots mc ms : Nat} {Q : State → Prop} {pc : Nat} {ls : Array Slot} {st0 rest : List Value} {Qa : State → Outcome → State → Prop} {free : Addr → Prop}
    (hr : va_Run p l e R s m args below meth c H locs cells slots mc ms (F0 m pc ls st0) rest Qa free)
    (kk : ∀ (v : Option Value) (st₀ t : State) (L : List Loc), st₀.heap = H → Qa st₀ (.returned v) t → (∀ q ∈ L, free q.base) → W p l e R s m args below meth c t.heap (locs ++ L) (cells + mc) (slots + ms) Q (F0 m (pc + 3) ls (v.toList ++ rest))) : W p l e R s m args below meth c H locs cells slots Q (F0 m pc ls st0) := by
  intro T hT X
  obtain ⟨v, st₀, t, T', L, h0, X', hL, e1, e2, hq, st⟩ := hr T hT X
  obtain ⟨t2, a1, b1⟩ := kk v st₀ t L h0 hq hL T' e1 X'
  exact ⟨t2, st t2 a1, b1⟩
theorem goodTBL {ws : List Cond} (h : ∀ w ∈ ws, w ∈ TBL) : GoodIn TBL ws := fun w hw => ⟨h w hw, TBL_good (h w hw)⟩
def wsOf (G : MR) : List Cond := .code (my G) (mcc G) (mml G) (mret G) :: TBL
theorem wsOf_in {G : MR} (hG : GOK G) : ∀ w ∈ wsOf G, w ∈ TBL := fun w hw => (List.mem_cons.mp hw).elim (fun e => e ▸ hG.1) id
theorem gL_args (b base : Nat) (vs : List Value) : ∀ k, gL b base (lv_args k vs) = lv_args k (vs.map (gV b base)) := by
  induction vs with
  | nil => intro k; rfl
  | cons v t ih =>
    intro k
    unfold lv_args
    simp only [gL, List.map_cons, gV_cat]
    congr 1
    exact ih _
theorem sl_len (vs : List Value) : (lg_sl vs).length = cats vs := by
  induction vs with
  | nil => rfl
  | cons v t ih =>
    have e : lg_sl (v :: t) = (if v.category = 2 then [.val v, .second] else [.val v]) ++ lg_sl t := rfl
    have e2 : cats (v :: t) = v.category + cats t := by unfold cats; simp
    rw [e, List.length_append, ih, e2]
    rcases lv_cat v with h | h <;> simp [h]
theorem cats_map (b base : Nat) (vs : List Value) : cats (vs.map (gV b base)) = cats vs := cats_g b base vs
/-- what a call leaves -/
def PQ (D : va_G) (tyc : Nat → ClassId) (b base : Nat) (v : Option Value) (h' : AH) : Array Value → State → Outcome → State → Prop := fun _ st o t => o = .returned (v.map (gV b base)) ∧ Wd D tyc b base h' t.heap ∧ va_F (fun q => base ≤ q) st t
def PP (D : va_G) (tyc : Nat → ClassId) (b base : Nat) (vs : List Value) (h : AH) : Array Value → State → Prop := va_Pc (vs.map (gV b base)) (fun U => Wd D tyc b base h U.heap ∧ KX D tyc U)
def SW (MT : Nat → Option MR) (fr lo : Nat) (scr : AS) (F : MR) (pc : Nat) (lv : ALv) (st : List Value) (h : AH) (v : Option Value) (h' : AH) : Prop :=
  ∀ {p : Program} {l : Launch} {e : Env} {R : Room} {s : State} {m : MethodId} {args : Array Value} {below : List Frame} {meth : Method} {c : Code} {H : Heap} {locs : List Loc} {cells slots S0 : Nat} {Q : State → Prop} {D : va_G} {tyc : Nat → ClassId} {b base : Nat} {ls : Array Slot},
    Ctx p s m args meth c F → KX D tyc s → Wd D tyc b base h H → va_S (fun q => base ≤ q) s.heap H locs → base ≤ s.heap.size → base + h.length = s.heap.size + cells → slo h = S0 + slots → base + h'.length ≤ s.heap.size + R.cells → slo h' ≤ S0 + R.slots → fr ≤ R.frames → lo ≤ R.locals → lv_has ls (mml F) (gL b base lv) → SC scr b base s →
    (∀ (pc' : Nat) (i : Instr) (len tgt : Nat) (st' : List Value) (H' : Heap) (locs' : List Loc) (cells' slots' : Nat) (ls' : Array Slot), fnd (mcode F) pc' = some (i, len, tgt) → doRet F i st' h' = some (v, h') → Wd D tyc b base h' H' → va_S (fun q => base ≤ q) s.heap H' locs' → base + h'.length = s.heap.size + cells' → slo h' = S0 + slots' → W p l e R s m args below meth c H' locs' cells' slots' Q (F0 m pc' ls' (st'.map (gV b base)))) →
    W p l e R s m args below meth c H locs cells slots Q (F0 m pc ls (st.map (gV b base)))
set_option maxHeartbeats 4000000 in
/-- a run of a method is a contract of it -/
theorem met_of {MT : Nat → Option MR} {fr lo : Nat} {G : MR} {vs : List Value} {h h' : AH} {v : Option Value} (hF : FOK MT G) (hG : GOK G) (hlen : h.length ≤ h'.length ∧ slo h ≤ slo h') (hent : cats vs ≤ mml G) (hsw : SW MT fr lo none G 0 (lv_args 0 vs) [] h v h') (l : Launch) (D : va_G) (tyc : Nat → ClassId) (b base : Nat) :
    Met l (my G) (wsOf G) { frames := fr, cells := h'.length - h.length, slots := slo h' - slo h, locals := lo } (PP D tyc b base vs h) (PQ D tyc b base v h') (h'.length - h.length) (slo h' - slo h) (fun q => base ≤ q) := by
  refine Met.ofW (cc := mcc G) (maxL := mml G) (ret := mret G) hG.2.2.1 rfl ?_
  intro p e s m args below meth c s₁ B hml hv
  obtain ⟨rfl, hW, hK⟩ := hv
  have hts0 := atoms_spec (ws := wsOf G) B.pre
  have hts : ∀ w ∈ TBL, w.before (vs.map (gV b base)).toArray s = true := fun w hw => hts0 w (List.mem_cons_of_mem _ hw)
  have C : Ctx p s m (vs.map (gV b base)).toArray meth c G := ⟨B.exec, B.bytes, B.returns, hml, findClass_of_methodNamed B.named, B.notSynchronized, hts, fun z => ((name_of_methodNamed B.named B.method).1).trans z, fun w hw => hw.elim (hts w) (fun h9 => va_Nw.use (NST_on h9) (hK.2.2.2.2 w h9))⟩
  have hl := lv_entry (vs.map (gV b base)) (n := mml G) (by rw [sl_len, cats_map]; exact hent)
  rw [lg_entry_eq]
  generalize (lg_sl (vs.map (gV b base)) ++ List.replicate (mml G - (lg_sl (vs.map (gV b base))).length) Slot.unset).toArray = ls at hl ⊢
  rw [← gL_args] at hl
  have hsz := hW.1
  refine hsw (ls := ls) (H := s.heap) (locs := []) (cells := 0) (slots := 0) (S0 := slo h) C hK hW va_S.rf (by omega) (by omega) (by omega) ?_ ?_ (Nat.le_refl _) (Nat.le_refl _) hl (fun q hq => by cases hq) ?_
  · show base + h'.length ≤ s.heap.size + (h'.length - h.length)
    omega
  · show slo h' ≤ slo h + (slo h' - slo h)
    omega
  · intro pc' i len tgt st' H' locs' cells' slots' ls' hf hret hW' hS' hN' hM'
    obtain ⟨hx, hb, hr, hml', hown, hlocks, -, -, -⟩ := C
    obtain ⟨hD, hlen2, -⟩ := hF.1 _ (fnd_mem hf)
    dsimp only at hD hlen2
    have hd : ∀ n, ilen i = n → n ≠ 0 → decode (mcc G) pc' = .ok (i, n) := by
      intro n h1 h2
      rcases hlen2 with h3 | h3
      · omega
      · rw [← h1, h3]; exact hD
    have e1 : cells' = h'.length - h.length := by omega
    have e2 : slots' = slo h' - slo h := by omega
    subst e1
    subst e2
    have hq : ∀ t : State, t.heap = H' → s.WarmedH t.vm → PQ D tyc b base v h' (vs.map (gV b base)).toArray s (.returned (v.map (gV b base))) t := fun t ht hW9 => ⟨rfl, by rw [ht]; exact hW', hS'.F ht⟩
    unfold doRet at hret
    split at hret
    · split at hret
      · rename_i x hm
        simp only [Option.some.injEq, Prod.mk.injEq] at hret
        obtain ⟨rfl, -⟩ := hret
        exact W.iret (v := x) hx hb (hr.trans hm) hq hS'.2.2 (hd 1 rfl (by decide)) hlocks
      · rename_i x hm
        obtain ⟨h3, h4⟩ := oC_inv hret
        simp only [Option.some.injEq, Prod.mk.injEq] at h4
        obtain ⟨rfl, -⟩ := h4
        exact W.zret (v := x) hx hb (hr.trans hm) (by show Value.int (x &&& 1) = Value.int x; rw [eq_of_beq h3]) hq hS'.2.2 (hd 1 rfl (by decide)) hlocks
      · cases hret
    · split at hret
      · rename_i x hm
        simp only [Option.some.injEq, Prod.mk.injEq] at hret
        obtain ⟨rfl, -⟩ := hret
        exact W.lret (v := x) hx hb (hr.trans hm) hq hS'.2.2 (hd 1 rfl (by decide)) hlocks
      · cases hret
    · split at hret
      · rename_i n a hm
        simp only [Option.some.injEq, Prod.mk.injEq] at hret
        obtain ⟨rfl, -⟩ := hret
        exact W.aret (v := .ref (base + a)) hx hb (hr.trans hm) (Or.inl ⟨_, rfl⟩) (Or.inr ⟨_, rfl⟩) hq hS'.2.2 (hd 1 rfl (by decide)) hlocks
      · cases hret
    · split at hret
      · rename_i hm
        simp only [Option.some.injEq, Prod.mk.injEq] at hret
        obtain ⟨rfl, -⟩ := hret
        exact W.vret hx hb (hr.trans hm) hq hS'.2.2 (hd 1 rfl (by decide)) hlocks
      · cases hret
    · cases hret
theorem cpyI (l0 l1 : List Value) (sp dp n : Nat) (h1 : dp + n ≤ l1.length) : (va_cpy (fun j => asI (l0.getD j .null)) (fun j => asI (l1.getD j .null)) sp dp n) = fun j => asI ((cpyl l0 l1 sp dp n).getD j .null) := by
  funext k
  unfold va_cpy cpyl
  simp only [List.getD_eq_getElem?_getD, List.getElem?_map]
  by_cases hk : k < l1.length
  · rw [List.getElem?_range hk]
    by_cases hz : dp ≤ k ∧ k < dp + n <;> simp [hz]
  · have e1 : (List.range l1.length)[k]? = none := List.getElem?_eq_none (by simp; omega)
    have e2 : l1[k]? = none := List.getElem?_eq_none (by omega)
    rw [e1, e2, if_neg (by omega)]
    rfl
theorem cpyL (l0 l1 : List Value) (sp dp n : Nat) (h1 : dp + n ≤ l1.length) : (va_cpy (fun j => asL (l0.getD j .null)) (fun j => asL (l1.getD j .null)) sp dp n) = fun j => asL ((cpyl l0 l1 sp dp n).getD j .null) := by
  funext k
  unfold va_cpy cpyl
  simp only [List.getD_eq_getElem?_getD, List.getElem?_map]
  by_cases hk : k < l1.length
  · rw [List.getElem?_range hk]
    by_cases hz : dp ≤ k ∧ k < dp + n <;> simp [hz]
  · have e1 : (List.range l1.length)[k]? = none := List.getElem?_eq_none (by simp; omega)
    have e2 : l1[k]? = none := List.getElem?_eq_none (by omega)
    rw [e1, e2, if_neg (by omega)]
    rfl
set_option maxHeartbeats 4000000 in
theorem acopy_ok {p : Program} {l : Launch} {e : Env} {R : Room} {s : State} {m : MethodId} {args : Array Value} {below : List Frame} {meth : Method} {c : Code} {H : Heap} {locs : List Loc} {cells slots idx fr lo : Nat} {Q : State → Prop} {F : MR} {pc : Nat} {st r : List Value} {h h' : AH} {D : va_G} {tyc : Nat → ClassId} {b base : Nat} {ls : Array Slot}
    (C : Ctx p s m args meth c F) (hK : va_K D vwCl (TYS tyc) s) (hW : Wd D tyc b base h H) (hS : va_S (fun q => base ≤ q) s.heap H locs) (hN : base + h.length = s.heap.size + cells) (hls : ls.size = mml F) (hfr : fr ≤ R.frames) (hlo : lo ≤ R.locals) (h1 : 1 ≤ fr) (h2 : cats r + 40 ≤ lo)
    (hlk : .methodLink (my F).cls idx arraycopyName ∈ TBL) (hdg : decode (mcc F) pc = .ok (.invokestatic idx, 3)) (hst : acopy st h = some (r, h'))
    (k : ∀ H' locs', Wd D tyc b base h' H' → va_S (fun q => base ≤ q) s.heap H' locs' → W p l e R s m args below meth c H' locs' cells slots Q (F0 m (pc + 3) ls (r.map (gV b base)))) :
    W p l e R s m args below meth c H locs cells slots Q (F0 m pc ls (st.map (gV b base))) := by
  obtain ⟨hx, hb, hr, hml, hown, hlocks, hts, hin0, hal⟩ := C
  obtain ⟨n, dp, sp, a0, a1, c0, c1, rfl, hc0, hc1, g1, g2, g3, g4, g5, g6, g7, g8, rfl⟩ := acopy_inv hst
  have he0 := gW_at (b := b) (base := base) (tyc := tyc) hc0
  have he1 := gW_at (b := b) (base := base) (tyc := tyc) hc1
  have hloc : ((r.map (gV b base)).map fun v => v.category).sum + (nativeFrameWords "java/lang/System" "arraycopy" 5 + 11) ≤ R.locals := by
    rw [cats_g]
    have : nativeFrameWords "java/lang/System" "arraycopy" 5 ≤ 29 := by decide +kernel
    omega
  rcases g6 with ⟨z1, z2⟩ | ⟨z1, z2⟩
  · rw [gE_i z1, z2] at he0
    rw [gE_i (g4 ▸ z1), ← g5, z2] at he1
    refine va_copyi hx hb (hml.trans hls.symm) hown (hts _ hlk) (hts _ ACN_native) (hts _ ACN_static) (hts _ ACN_init) hK hW.2 (gW_D b base tyc h) (vS_self hS) a0 a1 0 0 he0 he1 rfl rfl rfl g1 g2 g3 g7 g8 (fun _ _ => rfl) (Nat.le_trans h1 hfr) hloc hdg (fun H1 locs1 hP1 _ hS1 => W_sz (fun hub => k H1 locs1 (Wd_set hW ?_ hS1.1 hN hub) (vS_comp hS hS1)))
    rw [cpyI _ _ _ _ _ g8] at hP1
    rw [gE_i (g4 ▸ z1)]
    dsimp only
    rw [cpyl_len, ← g5, z2]
    exact hP1
  · rw [gE_l z1, z2] at he0
    rw [gE_l (g4 ▸ z1), ← g5, z2] at he1
    refine va_copyl hx hb (hml.trans hls.symm) hown (hts _ hlk) (hts _ ACN_native) (hts _ ACN_static) (hts _ ACN_init) hK hW.2 (gW_D b base tyc h) (vS_self hS) a0 a1 1 1 he0 he1 rfl rfl rfl g1 g2 g3 g7 g8 (fun _ _ => rfl) (Nat.le_trans h1 hfr) hloc hdg (fun H1 locs1 hP1 _ hS1 => W_sz (fun hub => k H1 locs1 (Wd_set hW ?_ hS1.1 hN hub) (vS_comp hS hS1)))
    rw [cpyL _ _ _ _ _ g8] at hP1
    rw [gE_l (g4 ▸ z1)]
    dsimp only
    rw [cpyl_len, ← g5, z2]
    exact hP1
set_option maxHeartbeats 8000000 in
/-- THE MACHINE IS RIGHT -/
theorem am_ok {MT : Nat → Option MR} (hMT : ∀ j G, MT j = some G → FOK MT G ∧ GOK G) : ∀ (n fr lo : Nat) (scr : AS) (F : MR) (pc : Nat) (lv : ALv) (st : List Value) (h h' : AH) (v : Option Value), FOK MT F → am MT n fr lo scr F pc lv st h = some (v, h') → SW MT fr lo scr F pc lv st h v h' := by
  intro n
  induction n with
  | zero => intro fr lo scr F pc lv st h h' v hF hh; cases hh
  | succ n ih =>
    intro fr lo scr F pc lv st h h' v hF hh
    rw [am_s] at hh
    unfold amB at hh
    obtain ⟨⟨i, len, tgt⟩, hq, h1⟩ := oB_inv hh
    dsimp only at h1
    intro p l e R s m args below meth c H locs cells slots S0 Q D tyc b base ls C hK hW hS hbs hN hM hRc hRs hfr hlo hl hsc kret
    split at h1
    · obtain ⟨⟨pc', lv', st'⟩, hx, h2⟩ := oB_inv h1
      exact stpP_ok hF C hK.1 hW hS hl hsc hq hx (fun ls' hl' => ih _ _ _ _ _ _ _ _ _ _ hF h2 C hK hW hS hbs hN hM hRc hRs hfr hlo hl' hsc kret)
    · obtain ⟨⟨pc', st', h2'⟩, hx, h2⟩ := oB_inv h1
      have y := stpW_len hx
      exact stpW_ok (ls := ls) hF C hK.1 hW hS hN hq hx (fun H' locs' hW' hS' => ih _ _ _ _ _ _ _ _ _ _ hF h2 C hK hW' hS' hbs (by dsimp only; omega) (by dsimp only; omega) hRc hRs hfr hlo hl hsc kret)
    · obtain ⟨⟨pc', st', h2'⟩, hx, h2⟩ := oB_inv h1
      have y := am_len MT _ _ _ _ _ _ _ _ _ _ _ h2
      dsimp only at y
      exact stpN_ok (ls := ls) hF C hK hW hS hbs hN hM (by omega) (by omega) hq hx (fun H' locs' cells' slots' hW' hS' hN' hM' => ih _ _ _ _ _ _ _ _ _ _ hF h2 C hK hW' hS' hbs hN' hM' hRc hRs hfr hlo hl hsc kret)
    · obtain ⟨e0, he0, h2⟩ := oB_inv h1
      obtain ⟨hkd, h3⟩ := oC_inv h2
      have hck := hF.2.2.1 _ (fnd_mem he0)
      unfold CKok at hck
      dsimp only at hck
      obtain ⟨hD, hlen, -⟩ := hF.1 _ (fnd_mem hq)
      dsimp only at hD hlen
      have hd : ∀ n, ilen i = n → n ≠ 0 → decode (mcc F) pc = .ok (i, n) := by
        intro n h1 h2
        rcases hlen with h3 | h3
        · omega
        · rw [← h1, h3]; exact hD
      unfold amC at h3
      split at h3
      · rename_i hk8
        obtain ⟨⟨r, h2'⟩, hx, h4⟩ := oB_inv h3
        obtain ⟨hb2, h5⟩ := oC_inv h4
        simp only [Bool.and_eq_true, decide_eq_true_eq] at hb2
        have hi : ∃ idx, i = .invokestatic idx := by
          cases i <;> first | exact ⟨_, rfl⟩ | (rw [hk8] at hkd; cases hkd)
        obtain ⟨idx, rfl⟩ := hi
        have hlk := hck.1 hk8
        obtain ⟨n0, dp, sp, a0, a1, c0, c1, -, -, hc1, -, -, -, -, -, -, -, -, e9⟩ := acopy_inv hx
        have y := slo_set hc1 (d := (c1.1, c1.2.1, cpyl c0.2.2 c1.2.2 sp.toNatClampNeg dp.toNatClampNeg n0.toNatClampNeg)) (cpyl_len _ _ _ _ _)
        have y2 : h2'.length = h.length := by rw [e9, List.length_set]
        rw [← e9] at y
        exact acopy_ok (ls := ls) C hK.1 hW hS hN hl.1 hfr hlo hb2.1 hb2.2 hlk (hd 3 rfl (by decide)) hx (fun H' locs' hW' hS' => ih _ _ _ _ _ _ _ _ _ _ hF h5 C hK hW' hS' hbs (by dsimp only; omega) (by dsimp only; omega) hRc hRs hfr hlo hl hsc kret)
      · rename_i hk9
        obtain ⟨a, r, rfl, h4⟩ := sR_inv h3
        obtain ⟨hb2, h5⟩ := oC_inv h4
        simp only [Bool.and_eq_true, decide_eq_true_eq] at hb2
        have hi : ∃ idx, i = .invokespecial idx := by
          cases i <;> first | exact ⟨_, rfl⟩ | (rw [hk9] at hkd; cases hkd)
        obtain ⟨idx, rfl⟩ := hi
        have hlk := hck.2.1 hk9
        obtain ⟨hx, hb, hr, hml, hown, hlocks, hts, hin0, hal⟩ := id C
        refine W.objInit (g := F0 m pc ls (.ref (base + a) :: r.map (gV b base))) hx hb hown (hts _ hlk) (hts _ OBJ_inst) (hts _ OBJ_code) rfl (hl.1.trans hml.symm) rfl (hd 3 rfl (by decide)) (by omega) ?_ ?_
        · have z := lv_room (m := m) (pc := pc) (ls := ls) (rest := .ref (base + a) :: r.map (gV b base)) (st := []) (Nat.zero_le _)
          have z2 : (F0 m pc ls (.ref (base + a) :: r.map (gV b base))).monitorRoom = 0 := rfl
          rw [z2, cats_g]
          omega
        · exact ih _ _ _ _ _ _ _ _ _ _ hF h5 C hK hW hS hbs hN hM hRc hRs hfr hlo hl hsc kret
      · rename_i hn8 hn9
        have hn8' : ¬ e0.1 = 8 := hn8
        have hn9' : ¬ e0.1 = 9 := hn9
        obtain ⟨G, hG, h4⟩ := oB_inv h3
        obtain ⟨hb2, h5⟩ := oC_inv h4
        obtain ⟨⟨v1, h1'⟩, hx, h6⟩ := oB_inv h5
        simp only [Bool.and_eq_true, decide_eq_true_eq] at hb2
        obtain ⟨⟨⟨⟨⟨b1, b2⟩, b3⟩, b4⟩, b5⟩, b6⟩ := hb2
        obtain ⟨hFG, hGG⟩ := hMT _ _ hG
        have hlt8 : e0.1 < 8 := by
          unfold callKd at hkd
          split at hkd
          · simp only [Bool.or_eq_true, beq_iff_eq] at hkd; omega
          · simp only [Bool.or_eq_true, beq_iff_eq] at hkd; omega
          · simp only [Bool.or_eq_true, beq_iff_eq] at hkd; omega
          · cases hkd
        obtain ⟨hw, hwV, hwS, hwI⟩ := hck.2.2 hlt8 G hG
        have y := am_len MT _ _ _ _ _ _ _ _ _ _ _ hx
        have y2 := am_len MT _ _ _ _ _ _ _ _ _ _ _ h6
        dsimp only at y2
        have hent : cats (st.take (nArg e0.1 G)).reverse ≤ mml G := by
          have e9 : cats (st.take (nArg e0.1 G)).reverse = cats (st.take (nArg e0.1 G)) := by
            unfold cats
            rw [List.map_reverse, List.sum_reverse]
          omega
        have hM2 := met_of hFG hGG y hent (ih _ _ _ _ _ _ _ _ _ _ hFG hx) l D tyc b base
        generalize hvs : (st.take (nArg e0.1 G)).reverse = vs at hM2 b6 hent
        generalize hrs : st.drop (nArg e0.1 G) = r at b4 h6
        have hst : st = vs.reverse ++ r := by rw [← hvs, ← hrs, List.reverse_reverse, List.take_append_drop]
        have hvl : vs.length = nArg e0.1 G := by rw [← hvs, List.length_reverse, List.length_take]; omega
        obtain ⟨hx0, hb0, hr0, hml0, hown, hlocks, hts, hin0, hal⟩ := id C
        have hfix : CallFix p m c (mcc F) (mml F) s args TBL (my F).cls := ⟨hx0, hb0, hml0, hown, hts⟩
        have hgd : GoodIn TBL (wsOf G) := goodTBL (wsOf_in hGG)
        have hroom : fr - 1 + 1 ≤ R.frames ∧ 8 + (mml G + 11) + (lo - (mml G + 19)) ≤ R.locals := by omega
        have hdsc : (my G).cls ≠ "java/lang/invoke/MethodHandle" ∧ (my G).cls ≠ "java/lang/invoke/VarHandle" ∧ (parseMethodDescriptor (my G).desc).map (fun d => d.parameters.length) = some (mnp G) := ⟨hGG.2.2.2.1, hGG.2.2.2.2.1, hGG.2.2.2.2.2⟩
        have hblind : FrameBlind (PP D tyc b base vs h) := fun a U g mk q => by
          obtain ⟨q0, q1, q2⟩ := q
          exact ⟨q0, q1, KX_call q2⟩
        have hpre : ∀ U : State, U.heap = H → s.WarmedH U.vm → PP D tyc b base vs h (vs.map (gV b base)).toArray U := fun U hU hW9 => ⟨rfl, by rw [hU]; exact hW, KX_warm hW9 hK⟩
        have hrm : 2 * (F0 m pc ls (st.map (gV b base))).monitorRoom + ((r.map (gV b base)).map fun v => v.category).sum ≤ 8 := lv_room (by rw [cats_g]; exact b4)
        have hcs : cells + (h1'.length - h.length) ≤ R.cells ∧ slots + (slo h1' - slo h) ≤ R.slots := by omega
        have fin : ∀ (hr : va_Run p l e R s m args below meth c H locs cells slots (h1'.length - h.length) (slo h1' - slo h) (F0 m pc ls (st.map (gV b base))) (r.map (gV b base)) (PQ D tyc b base v1 h1' (vs.map (gV b base)).toArray) (fun q => base ≤ q)), W p l e R s m args below meth c H locs cells slots Q (F0 m pc ls (st.map (gV b base))) := by
          intro hr
          refine am_call hr (fun v2 st₀ t L hh0 hQ hL => ?_)
          obtain ⟨e1, hW1, hF1⟩ := hQ
          cases e1
          have e3 : ((v1.map (gV b base)).toList ++ r.map (gV b base)) = (v1.toList ++ r).map (gV b base) := by cases v1 <;> rfl
          rw [e3]
          refine ih _ _ _ _ _ _ _ _ _ _ hF h6 C hK hW1 ⟨?_, fun q hq1 hq2 => ?_, fun q hq1 => ?_⟩ hbs (by dsimp only; omega) (by dsimp only; omega) hRc hRs hfr hlo hl hsc kret
          · have := hF1.1
            rw [hh0] at this
            exact Nat.le_trans hS.1 this
          · have z := hF1.2 q (by rw [hh0]; exact Nat.lt_of_lt_of_le hq1 hS.1) hq2
            rw [hh0] at z
            exact z.trans (hS.2.1 q hq1 hq2)
          · rcases List.mem_append.mp hq1 with z | z
            · exact hS.2.2 q z
            · exact hL q z
        have hcls0 : Cond.initialized (my G).cls ∈ TBL := hGG.2.1
        have wl : ∀ {w : Cond}, InW w → w.onTables = true → va_Nw w s := fun hw9 ho => va_Nw.of ho (hal _ hw9)
        unfold callKd at hkd
        split at hkd
        · rename_i idx
          simp only [Bool.or_eq_true, beq_iff_eq] at hkd
          obtain ⟨wi, wse, wcl⟩ := hwV hkd
          have hna : nArg e0.1 G = mnp G + 1 := by unfold nArg; rw [if_neg (by omega)]
          have hrec : ∃ a vt cc, vs = .ref a :: vt ∧ h[a]? = some cc ∧ cc.1 = 0 ∧ cc.2.1 = mci G := by
            unfold rcv at b6
            split at b6 <;> first | omega | skip
            split at b6
            · rename_i a vt
              split at b6
              · rename_i cc hcc
                simp only [Bool.and_eq_true, beq_iff_eq] at b6
                exact ⟨a, vt, cc, rfl, hcc, b6.1, b6.2⟩
              · cases b6
            · cases b6
          obtain ⟨a, vt, cc, rfl, hcc, hcc1, hcc2⟩ := hrec
          obtain ⟨r0, hr9, hr8⟩ := Option.map_eq_some_iff.mp wcl
          have he := gW_at (b := b) (base := base) (tyc := tyc) hcc
          rw [gE_o hcc1, hcc2] at he
          have hrc := va_recv hK.1 hW.2 hr9 he
          rw [hr8] at hrc
          have hstk : st.map (gV b base) = (vt.map (gV b base)).reverse ++ .ref (base + a) :: r.map (gV b base) := by
            rw [hst]
            simp [gV]
          have hvn : (vt.map (gV b base)).length = mnp G := by
            rw [List.length_map]
            rw [hna] at hvl
            simpa using hvl
          rcases hkd with hk0 | hk0
          · rw [if_neg (by omega)] at hw
            exact fin (va_runV (As := vt.map (gV b base)) hfix hM2 ⟨callB_of (mnp G) hts hgd rfl rfl rfl (hts _ hcls0) (hal _ hw) hdsc hroom, hts _ wi, hts _ wse⟩ ⟨hblind, hrc, hpre⟩ rfl hvn hl.1 hstk hrm (hd 3 rfl (by decide)) hcs)
          · rw [if_pos (by omega)] at hw
            exact fin (va_runVN (As := vt.map (gV b base)) hfix hM2 ⟨va_cnB (mnp G) hts hgd rfl rfl rfl (wl hw rfl) (hts _ hcls0) hdsc hroom, hts _ wi, hts _ wse⟩ ⟨hblind, hrc, hpre⟩ rfl hvn hl.1 hstk hrm (hd 3 rfl (by decide)) hcs)
        · rename_i idx
          simp only [Bool.or_eq_true, beq_iff_eq] at hkd
          have hkd2 : e0.1 = 2 ∨ e0.1 = 3 := by omega
          have ws := hwS hkd2
          have hna : nArg e0.1 G = mnp G := by unfold nArg; rw [if_pos hkd2]
          have hstk : st.map (gV b base) = (vs.map (gV b base)).reverse ++ r.map (gV b base) := by
            rw [hst]
            simp
          have hvn : (vs.map (gV b base)).length = mnp G := by rw [List.length_map, hvl, hna]
          rcases hkd2 with hk0 | hk0
          · rw [if_neg (by omega)] at hw
            exact fin (va_runS (As := vs.map (gV b base)) hfix hM2 ⟨callB_of (mnp G) hts hgd rfl rfl rfl (hts _ hcls0) (hal _ hw) hdsc hroom, hts _ ws⟩ ⟨hblind, hpre⟩ rfl hvn hl.1 hstk hrm (hd 3 rfl (by decide)) hcs)
          · rw [if_pos (by omega)] at hw
            exact fin (va_runSN (As := vs.map (gV b base)) hfix hM2 ⟨va_cnB (mnp G) hts hgd rfl rfl rfl (wl hw rfl) (hts _ hcls0) hdsc hroom, hts _ ws, trivial⟩ ⟨hblind, hpre⟩ rfl hvn hl.1 hstk hrm (hd 3 rfl (by decide)) hcs)
        · rename_i idx
          simp only [Bool.or_eq_true, beq_iff_eq] at hkd
          have hkd2 : e0.1 = 4 ∨ e0.1 = 5 := by omega
          obtain ⟨wi, wnm, wrt⟩ := hwI hkd2
          have hna : nArg e0.1 G = mnp G + 1 := by unfold nArg; rw [if_neg (by omega)]
          have hrec : ∃ a vt, vs = .ref a :: vt := by
            unfold rcv at b6
            split at b6 <;> first | omega | skip
            all_goals
              split at b6
              · rename_i a vt
                exact ⟨a, vt, rfl⟩
              · cases b6
          obtain ⟨a, vt, rfl⟩ := hrec
          have hstk : st.map (gV b base) = (vt.map (gV b base)).reverse ++ .ref (base + a) :: r.map (gV b base) := by
            rw [hst]
            simp [gV]
          have hvn : (vt.map (gV b base)).length = mnp G := by
            rw [List.length_map]
            rw [hna] at hvl
            simpa using hvl
          have hwsr : wsOf G = Cond.code (my G) (mcc G) (mml G) none :: TBL := by unfold wsOf; rw [wrt]
          rcases hkd2 with hk0 | hk0
          · rw [if_neg (by omega)] at hw
            exact fin (va_runI (As := vt.map (gV b base)) hfix hM2 (cwI (mnp G) hts hgd hwsr rfl rfl (hts _ hcls0) (hal _ hw) (hts _ wi) wnm hdsc hroom) ⟨hblind, hpre⟩ rfl hvn hl.1 hstk hrm (hd 3 rfl (by decide)) hcs)
          · rw [if_pos (by omega)] at hw
            exact fin (va_runIN (As := vt.map (gV b base)) hfix hM2 ⟨va_cnB (mnp G) hts hgd hwsr rfl rfl (wl hw rfl) (hts _ hcls0) hdsc hroom, wnm, hts _ wi⟩ ⟨hblind, hpre⟩ rfl hvn hl.1 hstk hrm (hd 3 rfl (by decide)) hcs)
        · cases hkd
    · have e9 := doRet_h h1
      subst e9
      exact kret pc i len tgt st H locs cells slots ls hq h1 hW hS hN hM
end
section
-- java/lang/Integer.bitCount(I)I
noncomputable def mr_0 : MR := ((yJ6_bitCount_0f7a4, cJ6_bitCount_0f7a4, 1, 1, (some .int)), [(0, .iload_n 0, 1, 0), (1, .iload_n 0, 1, 0), (2, .iconst 1, 1, 0), (3, .iushr, 1, 0), (4, .ldc_w 265, 3, 0), (7, .iand, 1, 0), (8, .isub, 1, 0), (9, .istore_n 0, 1, 0), (10, .iload_n 0, 1, 0), (11, .ldc_w 266, 3, 0), (14, .iand, 1, 0), (15, .iload_n 0, 1, 0), (16, .iconst 2, 1, 0), (17, .iushr, 1, 0), (18, .ldc_w 266, 3, 0), (21, .iand, 1, 0), (22, .iadd, 1, 0), (23, .istore_n 0, 1, 0), (24, .iload_n 0, 1, 0), (25, .iload_n 0, 1, 0), (26, .iconst 4, 1, 0), (27, .iushr, 1, 0), (28, .iadd, 1, 0), (29, .ldc_w 267, 3, 0), (32, .iand, 1, 0), (33, .istore_n 0, 1, 0), (34, .iload_n 0, 1, 0), (35, .iload_n 0, 1, 0), (36, .bipush 8, 2, 0), (38, .iushr, 1, 0), (39, .iadd, 1, 0), (40, .istore_n 0, 1, 0), (41, .iload_n 0, 1, 0), (42, .iload_n 0, 1, 0), (43, .bipush 16, 2, 0), (45, .iushr, 1, 0), (46, .iadd, 1, 0), (47, .istore_n 0, 1, 0), (48, .iload_n 0, 1, 0), (49, .bipush 63, 2, 0), (51, .iand, 1, 0), (52, .ireturn, 1, 0)], ([], [], [(265, 1431655765, 1, 113), (266, 858993459, 1, 114), (267, 252645135, 1, 115)], [], []), (99, (1, 112), (1, 6), (1, 111), (0, 0)))
-- java/util/Arrays.fill([II)V
noncomputable def mr_1 : MR := ((yJ7_fill_53178, cJ7_fill_53178, 4, 2, none), [(0, .iconst 0, 1, 0), (1, .istore_n 2, 1, 0), (2, .aload_n 0, 1, 0), (3, .arraylength, 1, 0), (4, .istore_n 3, 1, 0), (5, .iload_n 2, 1, 0), (6, .iload_n 3, 1, 0), (7, .if_icmp .ge 13, 3, 20), (10, .aload_n 0, 1, 0), (11, .iload_n 2, 1, 0), (12, .iload_n 1, 1, 0), (13, .iastore, 1, 0), (14, .iinc 2 1, 3, 0), (17, .goto (-12), 3, 5), (20, .return_, 1, 0)], ([], [], [], [], []), (99, (2, 159), (1, 14), (2, 158), (0, 0)))
-- java/util/Arrays.fill([JJ)V
noncomputable def mr_2 : MR := ((yJ7_fill_d0a16, cJ7_fill_d0a16, 5, 2, none), [(0, .iconst 0, 1, 0), (1, .istore_n 3, 1, 0), (2, .aload_n 0, 1, 0), (3, .arraylength, 1, 0), (4, .istore 4, 2, 0), (6, .iload_n 3, 1, 0), (7, .iload 4, 2, 0), (9, .if_icmp .ge 13, 3, 22), (12, .aload_n 0, 1, 0), (13, .iload_n 3, 1, 0), (14, .lload_n 1, 1, 0), (15, .lastore, 1, 0), (16, .iinc 3 1, 3, 0), (19, .goto (-13), 3, 6), (22, .return_, 1, 0)], ([], [], [], [], []), (99, (5, 166), (1, 14), (5, 165), (0, 0)))
-- DoorSchool$Door.begin(II)V
noncomputable def mr_3 : MR := ((yX0_begin, cX0_begin, 3, 2, none), [(0, .aload_n 0, 1, 0), (1, .iload_n 1, 1, 0), (2, .putfield 22, 3, 0), (5, .aload_n 0, 1, 0), (6, .iload_n 2, 1, 0), (7, .putfield 25, 3, 0), (10, .aload_n 0, 1, 0), (11, .iconst (-1), 1, 0), (12, .putfield 18, 3, 0), (15, .aload_n 0, 1, 0), (16, .getfield 12, 3, 0), (19, .iconst 0, 1, 0), (20, .putfield 28, 3, 0), (23, .return_, 1, 0)], ([(22, 0, 1, 0, 1, 215), (25, 0, 2, 0, 1, 217), (18, 0, 3, 0, 1, 219), (12, 0, 0, 3, 1, 212), (28, 3, 2, 1, 1, 194)], [], [], [], []), (0, (3, 26), (1, 11), (3, 25), (0, 13)))
-- DoorSchool$Door.<init>()V
noncomputable def mr_4 : MR := ((yX0_init, cX0_init, 1, 0, none), [(0, .aload_n 0, 1, 0), (1, .invokespecial 3, 3, 0), (4, .aload_n 0, 1, 0), (5, .new 9, 3, 0), (8, .dup, 1, 0), (9, .invokespecial 11, 3, 0), (12, .putfield 12, 3, 0), (15, .aload_n 0, 1, 0), (16, .iconst (-1), 1, 0), (17, .putfield 18, 3, 0), (20, .return_, 1, 0)], ([(12, 0, 0, 2, 1, 212), (18, 0, 3, 0, 1, 219)], [(3, 9, 0, 1, 209), (11, 5, 26, 1, 211)], [], [], [(9, 3, 1, 210)]), (0, (1, 208), (1, 11), (1, 207), (0, 0)))
-- DoorSchool$Door.takeFrom(LDoorSchool$Door;)V
noncomputable def mr_5 : MR := ((yX0_takeFrom, cX0_takeFrom, 2, 1, none), [(0, .aload_n 0, 1, 0), (1, .aload_n 1, 1, 0), (2, .getfield 22, 3, 0), (5, .aload_n 1, 1, 0), (6, .getfield 25, 3, 0), (9, .invokevirtual 31, 3, 0), (12, .aload_n 0, 1, 0), (13, .aload_n 1, 1, 0), (14, .getfield 18, 3, 0), (17, .putfield 18, 3, 0), (20, .aload_n 0, 1, 0), (21, .getfield 12, 3, 0), (24, .aload_n 1, 1, 0), (25, .getfield 12, 3, 0), (28, .invokevirtual 35, 3, 0), (31, .return_, 1, 0)], ([(22, 0, 1, 0, 1, 215), (25, 0, 2, 0, 1, 217), (18, 0, 3, 0, 1, 219), (12, 0, 0, 3, 1, 212)], [(31, 0, 3, 5, 144), (35, 1, 31, 5, 145)], [], [], []), (0, (5, 143), (1, 11), (5, 142), (0, 86)))
-- DoorSchool$Hanging.hangFrom(LDoorSchool$Hanging;III)V
noncomputable def mr_6 : MR := ((yX1_hangFrom, cX1_hangFrom, 5, 4, none), [(0, .iload_n 1, 1, 0), (1, .aload_n 0, 1, 0), (2, .getfield 25, 3, 0), (5, .if_icmp .ge 8, 3, 13), (8, .iload_n 1, 1, 0), (9, .iconst 4, 1, 0), (10, .if_icmp .lt 9, 3, 19), (13, .aload_n 0, 1, 0), (14, .iload_n 3, 1, 0), (15, .invokevirtual 35, 3, 0), (18, .return_, 1, 0), (19, .iconst 0, 1, 0), (20, .istore 4, 2, 0), (22, .iload 4, 2, 0), (24, .aload_n 0, 1, 0), (25, .getfield 21, 3, 0), (28, .if_icmp .ge 52, 3, 80), (31, .iload_n 2, 1, 0), (32, .iload 4, 2, 0), (34, .invokestatic 39, 3, 0), (37, .ifCond .ne 37, 3, 74), (40, .aload_n 0, 1, 0), (41, .getfield 15, 3, 0), (44, .iload_n 1, 1, 0), (45, .iload 4, 2, 0), (47, .iastore, 1, 0), (48, .aload_n 0, 1, 0), (49, .iload_n 1, 1, 0), (50, .iconst 1, 1, 0), (51, .iadd, 1, 0), (52, .iload_n 2, 1, 0), (53, .iconst 1, 1, 0), (54, .iload 4, 2, 0), (56, .ishl, 1, 0), (57, .ior, 1, 0), (58, .iload_n 3, 1, 0), (59, .aload_n 0, 1, 0), (60, .getfield 9, 3, 0), (63, .iload_n 1, 1, 0), (64, .iconst 4, 1, 0), (65, .imul, 1, 0), (66, .iload 4, 2, 0), (68, .iadd, 1, 0), (69, .iaload, 1, 0), (70, .iadd, 1, 0), (71, .invokestatic 31, 3, 0), (74, .iinc 4 1, 3, 0), (77, .goto (-55), 3, 22), (80, .return_, 1, 0)], ([(25, 1, 4, 0, 1, 135), (21, 1, 3, 0, 1, 134), (15, 1, 1, 3, 1, 131), (9, 1, 0, 3, 1, 129)], [(35, 0, 8, 5, 4), (39, 3, 99, 5, 11), (31, 2, 6, 5, 1)], [], [], []), (1, (5, 3), (1, 7), (5, 2), (0, 0)))
-- DoorSchool$Hanging.<init>()V
noncomputable def mr_7 : MR := ((yX1_init, cX1_init, 1, 0, none), [(0, .aload_n 0, 1, 0), (1, .invokespecial 3, 3, 0), (4, .aload_n 0, 1, 0), (5, .bipush 16, 2, 0), (7, .newarray .int, 2, 0), (9, .putfield 9, 3, 0), (12, .aload_n 0, 1, 0), (13, .iconst 4, 1, 0), (14, .newarray .int, 2, 0), (16, .putfield 15, 3, 0), (19, .aload_n 0, 1, 0), (20, .iconst 4, 1, 0), (21, .newarray .int, 2, 0), (23, .putfield 18, 3, 0), (26, .return_, 1, 0)], ([(9, 1, 0, 2, 1, 129), (15, 1, 1, 2, 1, 131), (18, 1, 2, 2, 1, 132)], [(3, 9, 0, 1, 128)], [], [], []), (1, (1, 127), (1, 7), (1, 126), (0, 0)))
-- DoorSchool$Hanging.keepIfBetter(I)V
noncomputable def mr_8 : MR := ((yX1_keepIfBetter, cX1_keepIfBetter, 2, 1, none), [(0, .iload_n 1, 1, 0), (1, .aload_n 0, 1, 0), (2, .getfield 28, 3, 0), (5, .if_icmp .ge 22, 3, 27), (8, .aload_n 0, 1, 0), (9, .iload_n 1, 1, 0), (10, .putfield 28, 3, 0), (13, .aload_n 0, 1, 0), (14, .getfield 15, 3, 0), (17, .iconst 0, 1, 0), (18, .aload_n 0, 1, 0), (19, .getfield 18, 3, 0), (22, .iconst 0, 1, 0), (23, .iconst 4, 1, 0), (24, .invokestatic 43, 3, 0), (27, .return_, 1, 0)], ([(28, 1, 5, 0, 1, 136), (15, 1, 1, 3, 1, 131), (18, 1, 2, 3, 1, 132)], [(43, 8, 0, 5, 8)], [], [], []), (1, (5, 7), (1, 7), (5, 6), (0, 73)))
-- DoorSchool$Hanging.search(II)V
noncomputable def mr_9 : MR := ((yX1_search, cX1_search, 3, 2, none), [(0, .aload_n 0, 1, 0), (1, .iload_n 1, 1, 0), (2, .putfield 21, 3, 0), (5, .aload_n 0, 1, 0), (6, .iload_n 2, 1, 0), (7, .putfield 25, 3, 0), (10, .aload_n 0, 1, 0), (11, .bipush 65, 2, 0), (13, .putfield 28, 3, 0), (16, .aload_n 0, 1, 0), (17, .iconst 0, 1, 0), (18, .iconst 0, 1, 0), (19, .iconst 0, 1, 0), (20, .invokestatic 31, 3, 0), (23, .return_, 1, 0)], ([(21, 1, 3, 0, 1, 134), (25, 1, 4, 0, 1, 135), (28, 1, 5, 0, 1, 136)], [(31, 2, 6, 5, 1)], [], [], []), (1, (5, 0), (1, 7), (4, 239), (0, 72)))
-- DoorSchool$Learner.allKnocks()I
noncomputable def mr_10 : MR := ((yX2_allKnocks, cX2_allKnocks, 1, 0, (some .int)), [(0, .iconst 1, 1, 0), (1, .aload_n 0, 1, 0), (2, .getfield 15, 3, 0), (5, .getfield 39, 3, 0), (8, .ishl, 1, 0), (9, .iconst 1, 1, 0), (10, .isub, 1, 0), (11, .ireturn, 1, 0)], ([(15, 2, 0, 3, 1, 116), (39, 6, 0, 1, 1, 83)], [], [], [], []), (2, (4, 76), (1, 5), (4, 75), (0, 53)))
-- DoorSchool$Learner.errorsBy(II)I
noncomputable def mr_11 : MR := ((yX2_errorsBy, cX2_errorsBy, 5, 2, (some .int)), [(0, .iconst 0, 1, 0), (1, .istore_n 3, 1, 0), (2, .iconst 0, 1, 0), (3, .istore 4, 2, 0), (5, .iload 4, 2, 0), (7, .aload_n 0, 1, 0), (8, .getfield 15, 3, 0), (11, .getfield 77, 3, 0), (14, .if_icmp .ge 42, 3, 56), (17, .iload_n 3, 1, 0), (18, .aload_n 0, 1, 0), (19, .iload_n 1, 1, 0), (20, .iload_n 2, 1, 0), (21, .aload_n 0, 1, 0), (22, .getfield 15, 3, 0), (25, .getfield 36, 3, 0), (28, .iload 4, 2, 0), (30, .iaload, 1, 0), (31, .invokevirtual 55, 3, 0), (34, .aload_n 0, 1, 0), (35, .getfield 15, 3, 0), (38, .getfield 36, 3, 0), (41, .iload 4, 2, 0), (43, .iaload, 1, 0), (44, .ixor, 1, 0), (45, .invokestatic 19, 3, 0), (48, .iadd, 1, 0), (49, .istore_n 3, 1, 0), (50, .iinc 4 1, 3, 0), (53, .goto (-48), 3, 5), (56, .iload_n 3, 1, 0), (57, .ireturn, 1, 0)], ([(15, 2, 0, 3, 1, 116), (77, 6, 1, 1, 1, 85), (36, 6, 4, 4, 1, 91)], [(55, 0, 14, 4, 81), (19, 2, 0, 1, 110)], [], [], []), (2, (4, 183), (1, 5), (4, 182), (0, 65)))
-- DoorSchool$Learner.<init>(LDoorSchool$Rules;)V
noncomputable def mr_12 : MR := ((yX2_init, cX2_init, 4, 1, none), [(0, .aload_n 0, 1, 0), (1, .invokespecial 3, 3, 0), (4, .aload_n 0, 1, 0), (5, .bipush 80, 2, 0), (7, .newarray .int, 2, 0), (9, .putfield 11, 3, 0), (12, .aload_n 0, 1, 0), (13, .aload_n 1, 1, 0), (14, .putfield 15, 3, 0), (17, .iconst 0, 1, 0), (18, .istore_n 2, 1, 0), (19, .iload_n 2, 1, 0), (20, .bipush 16, 2, 0), (22, .if_icmp .ge 44, 3, 66), (25, .iconst 0, 1, 0), (26, .istore_n 3, 1, 0), (27, .iload_n 3, 1, 0), (28, .bipush 16, 2, 0), (30, .if_icmp .ge 30, 3, 60), (33, .aload_n 0, 1, 0), (34, .getfield 11, 3, 0), (37, .iload_n 2, 1, 0), (38, .iconst 5, 1, 0), (39, .imul, 1, 0), (40, .iload_n 2, 1, 0), (41, .iload_n 3, 1, 0), (42, .ixor, 1, 0), (43, .invokestatic 19, 3, 0), (46, .iadd, 1, 0), (47, .dup2, 1, 0), (48, .iaload, 1, 0), (49, .iconst 1, 1, 0), (50, .iload_n 3, 1, 0), (51, .ishl, 1, 0), (52, .ior, 1, 0), (53, .iastore, 1, 0), (54, .iinc 3 1, 3, 0), (57, .goto (-30), 3, 27), (60, .iinc 2 1, 3, 0), (63, .goto (-44), 3, 19), (66, .return_, 1, 0)], ([(11, 2, 1, 2, 1, 117), (15, 2, 0, 2, 1, 116)], [(3, 9, 0, 1, 109), (19, 2, 0, 1, 110)], [], [], []), (2, (1, 108), (1, 5), (1, 107), (0, 0)))
-- DoorSchool$Learner.learn(ILDoorSchool$Lessons;)I
noncomputable def mr_13 : MR := ((yX2_learn, cX2_learn, 6, 2, (some .int)), [(0, .iload_n 1, 1, 0), (1, .iconst 1, 1, 0), (2, .if_icmp .ne 40, 3, 42), (5, .aload_n 0, 1, 0), (6, .getfield 15, 3, 0), (9, .aload_n 2, 1, 0), (10, .iconst 1, 1, 0), (11, .invokevirtual 25, 3, 0), (14, .aload_n 2, 1, 0), (15, .iconst 0, 1, 0), (16, .invokevirtual 25, 3, 0), (19, .invokevirtual 30, 3, 0), (22, .istore_n 3, 1, 0), (23, .iload_n 3, 1, 0), (24, .iconst (-1), 1, 0), (25, .if_icmp .ne 7, 3, 32), (28, .iconst 0, 1, 0), (29, .goto 12, 3, 41), (32, .aload_n 0, 1, 0), (33, .getfield 15, 3, 0), (36, .getfield 36, 3, 0), (39, .iload_n 3, 1, 0), (40, .iaload, 1, 0), (41, .ireturn, 1, 0), (42, .iconst 0, 1, 0), (43, .istore_n 3, 1, 0), (44, .iconst 0, 1, 0), (45, .istore 4, 2, 0), (47, .iload 4, 2, 0), (49, .aload_n 0, 1, 0), (50, .getfield 15, 3, 0), (53, .getfield 39, 3, 0), (56, .if_icmp .ge 54, 3, 110), (59, .iload_n 1, 1, 0), (60, .ifCond .ne 12, 3, 72), (63, .aload_n 2, 1, 0), (64, .iload 4, 2, 0), (66, .invokevirtual 43, 3, 0), (69, .goto 9, 3, 78), (72, .aload_n 2, 1, 0), (73, .iload 4, 2, 0), (75, .invokevirtual 46, 3, 0), (78, .istore 5, 2, 0), (80, .iload 5, 2, 0), (82, .iconst (-1), 1, 0), (83, .if_icmp .eq 21, 3, 104), (86, .aload_n 2, 1, 0), (87, .getfield 49, 3, 0), (90, .iload 5, 2, 0), (92, .iaload, 1, 0), (93, .iconst 1, 1, 0), (94, .if_icmp .ne 10, 3, 104), (97, .iload_n 3, 1, 0), (98, .iconst 1, 1, 0), (99, .iload 4, 2, 0), (101, .ishl, 1, 0), (102, .ior, 1, 0), (103, .istore_n 3, 1, 0), (104, .iinc 4 1, 3, 0), (107, .goto (-60), 3, 47), (110, .iload_n 3, 1, 0), (111, .ireturn, 1, 0)], ([(15, 2, 0, 3, 1, 116), (36, 6, 4, 4, 1, 91), (39, 6, 0, 1, 1, 83), (49, 3, 1, 4, 1, 191)], [(25, 1, 30, 3, 161), (30, 1, 69, 3, 165), (43, 1, 27, 3, 172), (46, 1, 28, 3, 176)], [], [], []), (2, (3, 160), (1, 5), (3, 159), (0, 36)))
-- DoorSchool$Learner.learnSet(III)I
noncomputable def mr_14 : MR := ((yX2_learnSet, cX2_learnSet, 6, 3, (some .int)), [(0, .iload_n 1, 1, 0), (1, .ifCond .ne 7, 3, 8), (4, .iload_n 2, 1, 0), (5, .iload_n 3, 1, 0), (6, .iand, 1, 0), (7, .ireturn, 1, 0), (8, .iload_n 1, 1, 0), (9, .iconst 1, 1, 0), (10, .if_icmp .ne 41, 3, 51), (13, .aload_n 0, 1, 0), (14, .getfield 15, 3, 0), (17, .iload_n 2, 1, 0), (18, .iload_n 3, 1, 0), (19, .iand, 1, 0), (20, .iload_n 2, 1, 0), (21, .iload_n 3, 1, 0), (22, .iconst (-1), 1, 0), (23, .ixor, 1, 0), (24, .iand, 1, 0), (25, .invokevirtual 30, 3, 0), (28, .istore 4, 2, 0), (30, .iload 4, 2, 0), (32, .iconst (-1), 1, 0), (33, .if_icmp .ne 7, 3, 40), (36, .iconst 0, 1, 0), (37, .goto 13, 3, 50), (40, .aload_n 0, 1, 0), (41, .getfield 15, 3, 0), (44, .getfield 36, 3, 0), (47, .iload 4, 2, 0), (49, .iaload, 1, 0), (50, .ireturn, 1, 0), (51, .iconst 0, 1, 0), (52, .istore 4, 2, 0), (54, .iconst 0, 1, 0), (55, .istore 5, 2, 0), (57, .iload 5, 2, 0), (59, .aload_n 0, 1, 0), (60, .getfield 15, 3, 0), (63, .getfield 39, 3, 0), (66, .if_icmp .ge 30, 3, 96), (69, .aload_n 0, 1, 0), (70, .iload_n 2, 1, 0), (71, .iload 5, 2, 0), (73, .invokevirtual 52, 3, 0), (76, .iload_n 3, 1, 0), (77, .iand, 1, 0), (78, .ifCond .eq 12, 3, 90), (81, .iload 4, 2, 0), (83, .iconst 1, 1, 0), (84, .iload 5, 2, 0), (86, .ishl, 1, 0), (87, .ior, 1, 0), (88, .istore 4, 2, 0), (90, .iinc 5 1, 3, 0), (93, .goto (-36), 3, 57), (96, .iload 4, 2, 0), (98, .ireturn, 1, 0)], ([(15, 2, 0, 3, 1, 116), (36, 6, 4, 4, 1, 91), (39, 6, 0, 1, 1, 83)], [(30, 1, 69, 3, 165), (52, 0, 17, 4, 85)], [], [], []), (2, (4, 84), (1, 5), (4, 83), (0, 55)))
-- DoorSchool$Learner.learntWhole(II)I
noncomputable def mr_15 : MR := ((yX2_learntWhole, cX2_learntWhole, 5, 2, (some .int)), [(0, .iconst 0, 1, 0), (1, .istore_n 3, 1, 0), (2, .iconst 0, 1, 0), (3, .istore 4, 2, 0), (5, .iload 4, 2, 0), (7, .aload_n 0, 1, 0), (8, .getfield 15, 3, 0), (11, .getfield 77, 3, 0), (14, .if_icmp .ge 41, 3, 55), (17, .aload_n 0, 1, 0), (18, .iload_n 1, 1, 0), (19, .iload_n 2, 1, 0), (20, .aload_n 0, 1, 0), (21, .getfield 15, 3, 0), (24, .getfield 36, 3, 0), (27, .iload 4, 2, 0), (29, .iaload, 1, 0), (30, .invokevirtual 55, 3, 0), (33, .aload_n 0, 1, 0), (34, .getfield 15, 3, 0), (37, .getfield 36, 3, 0), (40, .iload 4, 2, 0), (42, .iaload, 1, 0), (43, .if_icmp .ne 6, 3, 49), (46, .iinc 3 1, 3, 0), (49, .iinc 4 1, 3, 0), (52, .goto (-47), 3, 5), (55, .iload_n 3, 1, 0), (56, .ireturn, 1, 0)], ([(15, 2, 0, 3, 1, 116), (77, 6, 1, 1, 1, 85), (36, 6, 4, 4, 1, 91)], [(55, 0, 14, 4, 81)], [], [], []), (2, (4, 191), (1, 5), (4, 190), (0, 66)))
-- DoorSchool$Learner.leastSet(II)I
noncomputable def mr_16 : MR := ((yX2_leastSet, cX2_leastSet, 7, 2, (some .int)), [(0, .aload_n 0, 1, 0), (1, .iload_n 1, 1, 0), (2, .aload_n 0, 1, 0), (3, .invokevirtual 62, 3, 0), (6, .iload_n 2, 1, 0), (7, .invokevirtual 66, 3, 0), (10, .ifCond .ne 5, 3, 15), (13, .iconst (-1), 1, 0), (14, .ireturn, 1, 0), (15, .aload_n 0, 1, 0), (16, .iload_n 1, 1, 0), (17, .iload_n 2, 1, 0), (18, .invokevirtual 70, 3, 0), (21, .istore_n 3, 1, 0), (22, .iload_n 3, 1, 0), (23, .invokestatic 19, 3, 0), (26, .istore 4, 2, 0), (28, .iload 4, 2, 0), (30, .aload_n 0, 1, 0), (31, .getfield 15, 3, 0), (34, .getfield 39, 3, 0), (37, .if_icmp .gt 74, 3, 111), (40, .iconst 1, 1, 0), (41, .iload 4, 2, 0), (43, .ishl, 1, 0), (44, .iconst 1, 1, 0), (45, .isub, 1, 0), (46, .istore 5, 2, 0), (48, .iconst 0, 1, 0), (49, .istore 6, 2, 0), (51, .iload 6, 2, 0), (53, .aload_n 0, 1, 0), (54, .invokevirtual 62, 3, 0), (57, .if_icmp .gt 48, 3, 105), (60, .iload 5, 2, 0), (62, .aload_n 0, 1, 0), (63, .invokevirtual 62, 3, 0), (66, .if_icmp .gt 39, 3, 105), (69, .iload_n 3, 1, 0), (70, .iload 5, 2, 0), (72, .iconst (-1), 1, 0), (73, .ixor, 1, 0), (74, .iand, 1, 0), (75, .ifCond .ne 17, 3, 92), (78, .aload_n 0, 1, 0), (79, .iload_n 1, 1, 0), (80, .iload 5, 2, 0), (82, .iload_n 2, 1, 0), (83, .invokevirtual 66, 3, 0), (86, .ifCond .eq 6, 3, 92), (89, .iload 5, 2, 0), (91, .ireturn, 1, 0), (92, .iload 5, 2, 0), (94, .invokestatic 73, 3, 0), (97, .istore 5, 2, 0), (99, .iinc 6 1, 3, 0), (102, .goto (-51), 3, 51), (105, .iinc 4 1, 3, 0), (108, .goto (-80), 3, 28), (111, .iconst (-1), 1, 0), (112, .ireturn, 1, 0)], ([(15, 2, 0, 3, 1, 116), (39, 6, 0, 1, 1, 83)], [(62, 0, 10, 4, 73), (66, 0, 21, 4, 77), (70, 0, 18, 4, 90), (19, 2, 0, 1, 110), (73, 2, 19, 4, 94)], [], [], []), (2, (4, 72), (1, 5), (4, 71), (0, 52)))
-- DoorSchool$Learner.nearestOf(II)I
noncomputable def mr_17 : MR := ((yX2_nearestOf, cX2_nearestOf, 5, 2, (some .int)), [(0, .iconst 0, 1, 0), (1, .istore_n 3, 1, 0), (2, .iload_n 3, 1, 0), (3, .iconst 5, 1, 0), (4, .if_icmp .ge 35, 3, 39), (7, .iload_n 1, 1, 0), (8, .aload_n 0, 1, 0), (9, .getfield 11, 3, 0), (12, .iload_n 2, 1, 0), (13, .iconst 5, 1, 0), (14, .imul, 1, 0), (15, .iload_n 3, 1, 0), (16, .iadd, 1, 0), (17, .iaload, 1, 0), (18, .iand, 1, 0), (19, .istore 4, 2, 0), (21, .iload 4, 2, 0), (23, .ifCond .eq 10, 3, 33), (26, .iload 4, 2, 0), (28, .iload 4, 2, 0), (30, .ineg, 1, 0), (31, .iand, 1, 0), (32, .ireturn, 1, 0), (33, .iinc 3 1, 3, 0), (36, .goto (-34), 3, 2), (39, .iconst 0, 1, 0), (40, .ireturn, 1, 0)], ([(11, 2, 1, 3, 1, 117)], [], [], [], []), (2, (4, 88), (1, 5), (4, 87), (0, 56)))
-- DoorSchool$Learner.needed(II)I
noncomputable def mr_18 : MR := ((yX2_needed, cX2_needed, 5, 2, (some .int)), [(0, .iconst 0, 1, 0), (1, .istore_n 3, 1, 0), (2, .iconst 0, 1, 0), (3, .istore 4, 2, 0), (5, .iload_n 1, 1, 0), (6, .iconst 2, 1, 0), (7, .if_icmp .eq 48, 3, 55), (10, .iload 4, 2, 0), (12, .aload_n 0, 1, 0), (13, .getfield 15, 3, 0), (16, .getfield 39, 3, 0), (19, .if_icmp .ge 36, 3, 55), (22, .aload_n 0, 1, 0), (23, .iload_n 1, 1, 0), (24, .aload_n 0, 1, 0), (25, .invokevirtual 62, 3, 0), (28, .iconst 1, 1, 0), (29, .iload 4, 2, 0), (31, .ishl, 1, 0), (32, .iconst (-1), 1, 0), (33, .ixor, 1, 0), (34, .iand, 1, 0), (35, .iload_n 2, 1, 0), (36, .invokevirtual 66, 3, 0), (39, .ifCond .ne 10, 3, 49), (42, .iload_n 3, 1, 0), (43, .iconst 1, 1, 0), (44, .iload 4, 2, 0), (46, .ishl, 1, 0), (47, .ior, 1, 0), (48, .istore_n 3, 1, 0), (49, .iinc 4 1, 3, 0), (52, .goto (-47), 3, 5), (55, .iload_n 3, 1, 0), (56, .ireturn, 1, 0)], ([(15, 2, 0, 3, 1, 116), (39, 6, 0, 1, 1, 83)], [(62, 0, 10, 4, 73), (66, 0, 21, 4, 77)], [], [], []), (2, (4, 93), (1, 5), (4, 92), (0, 57)))
-- DoorSchool$Learner.setBehind(I)I
noncomputable def mr_19 : MR := ((yX2_setBehind, cX2_setBehind, 2, 1, (some .int)), [(0, .iload_n 0, 1, 0), (1, .ifCond .ne 6, 3, 7), (4, .ldc 76, 2, 0), (6, .ireturn, 1, 0), (7, .iload_n 0, 1, 0), (8, .iload_n 0, 1, 0), (9, .iload_n 0, 1, 0), (10, .ineg, 1, 0), (11, .iand, 1, 0), (12, .iadd, 1, 0), (13, .istore_n 1, 1, 0), (14, .iload_n 1, 1, 0), (15, .iconst 1, 1, 0), (16, .iload_n 0, 1, 0), (17, .iload_n 1, 1, 0), (18, .ixor, 1, 0), (19, .invokestatic 19, 3, 0), (22, .iconst 2, 1, 0), (23, .isub, 1, 0), (24, .ishl, 1, 0), (25, .iconst 1, 1, 0), (26, .isub, 1, 0), (27, .ior, 1, 0), (28, .ireturn, 1, 0)], ([], [(19, 2, 0, 1, 110)], [(76, 65536, 4, 97)], [], []), (2, (4, 96), (1, 5), (4, 95), (0, 0)))
-- DoorSchool$Learner.setsOf(III)I
noncomputable def mr_20 : MR := ((yX2_setsOf, cX2_setsOf, 8, 3, (some .int)), [(0, .aload_n 0, 1, 0), (1, .iload_n 1, 1, 0), (2, .aload_n 0, 1, 0), (3, .invokevirtual 62, 3, 0), (6, .iload_n 2, 1, 0), (7, .invokevirtual 66, 3, 0), (10, .ifCond .ne 5, 3, 15), (13, .iconst 0, 1, 0), (14, .ireturn, 1, 0), (15, .aload_n 0, 1, 0), (16, .iload_n 1, 1, 0), (17, .iload_n 2, 1, 0), (18, .invokevirtual 70, 3, 0), (21, .istore 4, 2, 0), (23, .iconst 0, 1, 0), (24, .istore 5, 2, 0), (26, .iconst 1, 1, 0), (27, .iload_n 3, 1, 0), (28, .ishl, 1, 0), (29, .iconst 1, 1, 0), (30, .isub, 1, 0), (31, .istore 6, 2, 0), (33, .iconst 0, 1, 0), (34, .istore 7, 2, 0), (36, .iload 7, 2, 0), (38, .aload_n 0, 1, 0), (39, .invokevirtual 62, 3, 0), (42, .if_icmp .gt 49, 3, 91), (45, .iload 6, 2, 0), (47, .aload_n 0, 1, 0), (48, .invokevirtual 62, 3, 0), (51, .if_icmp .gt 40, 3, 91), (54, .iload 4, 2, 0), (56, .iload 6, 2, 0), (58, .iconst (-1), 1, 0), (59, .ixor, 1, 0), (60, .iand, 1, 0), (61, .ifCond .ne 17, 3, 78), (64, .aload_n 0, 1, 0), (65, .iload_n 1, 1, 0), (66, .iload 6, 2, 0), (68, .iload_n 2, 1, 0), (69, .invokevirtual 66, 3, 0), (72, .ifCond .eq 6, 3, 78), (75, .iinc 5 1, 3, 0), (78, .iload 6, 2, 0), (80, .invokestatic 73, 3, 0), (83, .istore 6, 2, 0), (85, .iinc 7 1, 3, 0), (88, .goto (-52), 3, 36), (91, .iload 5, 2, 0), (93, .ireturn, 1, 0)], ([], [(62, 0, 10, 4, 73), (66, 0, 21, 4, 77), (70, 0, 18, 4, 90), (73, 2, 19, 4, 94)], [], [], []), (2, (4, 109), (1, 5), (4, 108), (0, 58)))
-- DoorSchool$Learner.teaches(III)Z
noncomputable def mr_21 : MR := ((yX2_teaches, cX2_teaches, 5, 3, (some .boolean)), [(0, .iload_n 1, 1, 0), (1, .iconst 2, 1, 0), (2, .if_icmp .eq 20, 3, 22), (5, .aload_n 0, 1, 0), (6, .iload_n 1, 1, 0), (7, .iload_n 2, 1, 0), (8, .iload_n 3, 1, 0), (9, .invokevirtual 55, 3, 0), (12, .iload_n 3, 1, 0), (13, .if_icmp .ne 7, 3, 20), (16, .iconst 1, 1, 0), (17, .goto 4, 3, 21), (20, .iconst 0, 1, 0), (21, .ireturn, 1, 0), (22, .iconst 0, 1, 0), (23, .istore 4, 2, 0), (25, .iload 4, 2, 0), (27, .aload_n 0, 1, 0), (28, .getfield 15, 3, 0), (31, .getfield 39, 3, 0), (34, .if_icmp .ge 46, 3, 80), (37, .aload_n 0, 1, 0), (38, .iload_n 2, 1, 0), (39, .iload 4, 2, 0), (41, .invokevirtual 52, 3, 0), (44, .iload_n 3, 1, 0), (45, .iand, 1, 0), (46, .ifCond .eq 7, 3, 53), (49, .iconst 1, 1, 0), (50, .goto 4, 3, 54), (53, .iconst 0, 1, 0), (54, .iload_n 3, 1, 0), (55, .iload 4, 2, 0), (57, .invokestatic 59, 3, 0), (60, .iconst 1, 1, 0), (61, .if_icmp .ne 7, 3, 68), (64, .iconst 1, 1, 0), (65, .goto 4, 3, 69), (68, .iconst 0, 1, 0), (69, .if_icmp .eq 5, 3, 74), (72, .iconst 0, 1, 0), (73, .ireturn, 1, 0), (74, .iinc 4 1, 3, 0), (77, .goto (-52), 3, 25), (80, .iconst 1, 1, 0), (81, .ireturn, 1, 0)], ([(15, 2, 0, 3, 1, 116), (39, 6, 0, 1, 1, 83)], [(55, 0, 14, 4, 81), (52, 0, 17, 4, 85), (59, 3, 99, 4, 89)], [], [], []), (2, (4, 80), (1, 5), (4, 79), (0, 54)))
-- DoorSchool$Lessons.add(II)V
noncomputable def mr_22 : MR := ((yX3_add, cX3_add, 3, 2, none), [(0, .aload_n 0, 1, 0), (1, .aload_n 0, 1, 0), (2, .getfield 18, 3, 0), (5, .iload_n 1, 1, 0), (6, .iload_n 2, 1, 0), (7, .invokevirtual 22, 3, 0), (10, .return_, 1, 0)], ([(18, 3, 2, 0, 1, 193)], [(22, 0, 29, 3, 46)], [], [], []), (3, (3, 45), (1, 10), (3, 44), (0, 17)))
-- DoorSchool$Lessons.allAs(I)I
noncomputable def mr_23 : MR := ((yX3_allAs, cX3_allAs, 4, 1, (some .int)), [(0, .iconst 0, 1, 0), (1, .istore_n 2, 1, 0), (2, .iconst 0, 1, 0), (3, .istore_n 3, 1, 0), (4, .iload_n 3, 1, 0), (5, .aload_n 0, 1, 0), (6, .getfield 18, 3, 0), (9, .if_icmp .ge 34, 3, 43), (12, .iload_n 1, 1, 0), (13, .aload_n 0, 1, 0), (14, .getfield 11, 3, 0), (17, .iload_n 3, 1, 0), (18, .iaload, 1, 0), (19, .invokestatic 42, 3, 0), (22, .aload_n 0, 1, 0), (23, .getfield 15, 3, 0), (26, .iload_n 3, 1, 0), (27, .iaload, 1, 0), (28, .if_icmp .ne 9, 3, 37), (31, .iload_n 2, 1, 0), (32, .iconst 1, 1, 0), (33, .iload_n 3, 1, 0), (34, .ishl, 1, 0), (35, .ior, 1, 0), (36, .istore_n 2, 1, 0), (37, .iinc 3 1, 3, 0), (40, .goto (-36), 3, 4), (43, .iload_n 2, 1, 0), (44, .ireturn, 1, 0)], ([(18, 3, 2, 0, 1, 193), (11, 3, 0, 3, 1, 188), (15, 3, 1, 3, 1, 190)], [(42, 3, 99, 4, 5)], [], [], []), (3, (4, 4), (1, 10), (4, 3), (0, 46)))
-- DoorSchool$Lessons.dropLast()V
noncomputable def mr_24 : MR := ((yX3_dropLast, cX3_dropLast, 1, 0, none), [(0, .aload_n 0, 1, 0), (1, .aload_n 0, 1, 0), (2, .getfield 18, 3, 0), (5, .iconst 1, 1, 0), (6, .isub, 1, 0), (7, .invokevirtual 26, 3, 0), (10, .return_, 1, 0)], ([(18, 3, 2, 0, 1, 193)], [(26, 0, 32, 4, 39)], [], [], []), (3, (4, 38), (1, 10), (4, 37), (0, 49)))
-- DoorSchool$Lessons.firstNotAs(I)I
noncomputable def mr_25 : MR := ((yX3_firstNotAs, cX3_firstNotAs, 3, 1, (some .int)), [(0, .iconst 0, 1, 0), (1, .istore_n 2, 1, 0), (2, .iload_n 2, 1, 0), (3, .aload_n 0, 1, 0), (4, .getfield 18, 3, 0), (7, .if_icmp .ge 30, 3, 37), (10, .iload_n 1, 1, 0), (11, .aload_n 0, 1, 0), (12, .getfield 11, 3, 0), (15, .iload_n 2, 1, 0), (16, .iaload, 1, 0), (17, .invokestatic 42, 3, 0), (20, .aload_n 0, 1, 0), (21, .getfield 15, 3, 0), (24, .iload_n 2, 1, 0), (25, .iaload, 1, 0), (26, .if_icmp .eq 5, 3, 31), (29, .iload_n 2, 1, 0), (30, .ireturn, 1, 0), (31, .iinc 2 1, 3, 0), (34, .goto (-32), 3, 2), (37, .iconst (-1), 1, 0), (38, .ireturn, 1, 0)], ([(18, 3, 2, 0, 1, 193), (11, 3, 0, 3, 1, 188), (15, 3, 1, 3, 1, 190)], [(42, 3, 99, 4, 5)], [], [], []), (3, (4, 13), (1, 10), (4, 12), (0, 47)))
-- DoorSchool$Lessons.<init>()V
noncomputable def mr_26 : MR := ((yX3_init, cX3_init, 1, 0, none), [(0, .aload_n 0, 1, 0), (1, .invokespecial 3, 3, 0), (4, .aload_n 0, 1, 0), (5, .bipush 13, 2, 0), (7, .newarray .int, 2, 0), (9, .putfield 11, 3, 0), (12, .aload_n 0, 1, 0), (13, .bipush 13, 2, 0), (15, .newarray .int, 2, 0), (17, .putfield 15, 3, 0), (20, .return_, 1, 0)], ([(11, 3, 0, 2, 1, 188), (15, 3, 1, 2, 1, 190)], [(3, 9, 0, 1, 187)], [], [], []), (3, (1, 186), (1, 10), (1, 185), (0, 0)))
-- DoorSchool$Lessons.latestOf(I)I
noncomputable def mr_27 : MR := ((yX3_latestOf, cX3_latestOf, 3, 1, (some .int)), [(0, .aload_n 0, 1, 0), (1, .getfield 18, 3, 0), (4, .iconst 1, 1, 0), (5, .isub, 1, 0), (6, .istore_n 2, 1, 0), (7, .iload_n 2, 1, 0), (8, .ifCond .lt 21, 3, 29), (11, .aload_n 0, 1, 0), (12, .getfield 11, 3, 0), (15, .iload_n 2, 1, 0), (16, .iaload, 1, 0), (17, .iload_n 1, 1, 0), (18, .if_icmp .ne 5, 3, 23), (21, .iload_n 2, 1, 0), (22, .ireturn, 1, 0), (23, .iinc 2 (-1), 3, 0), (26, .goto (-19), 3, 7), (29, .iconst (-1), 1, 0), (30, .ireturn, 1, 0)], ([(18, 3, 2, 0, 1, 193), (11, 3, 0, 3, 1, 188)], [], [], [], []), (3, (3, 175), (1, 10), (3, 174), (0, 39)))
-- DoorSchool$Lessons.nearestTo(I)I
noncomputable def mr_28 : MR := ((yX3_nearestTo, cX3_nearestTo, 6, 1, (some .int)), [(0, .iconst (-1), 1, 0), (1, .istore_n 2, 1, 0), (2, .iconst 5, 1, 0), (3, .istore_n 3, 1, 0), (4, .iconst 0, 1, 0), (5, .istore 4, 2, 0), (7, .iload 4, 2, 0), (9, .aload_n 0, 1, 0), (10, .getfield 18, 3, 0), (13, .if_icmp .ge 35, 3, 48), (16, .aload_n 0, 1, 0), (17, .getfield 11, 3, 0), (20, .iload 4, 2, 0), (22, .iaload, 1, 0), (23, .iload_n 1, 1, 0), (24, .ixor, 1, 0), (25, .invokestatic 36, 3, 0), (28, .istore 5, 2, 0), (30, .iload 5, 2, 0), (32, .iload_n 3, 1, 0), (33, .if_icmp .ge 9, 3, 42), (36, .iload 5, 2, 0), (38, .istore_n 3, 1, 0), (39, .iload 4, 2, 0), (41, .istore_n 2, 1, 0), (42, .iinc 4 1, 3, 0), (45, .goto (-38), 3, 7), (48, .iload_n 2, 1, 0), (49, .ireturn, 1, 0)], ([(18, 3, 2, 0, 1, 193), (11, 3, 0, 3, 1, 188)], [(36, 2, 0, 3, 180)], [], [], []), (3, (3, 179), (1, 10), (3, 178), (0, 40)))
-- DoorSchool$Lessons.putIn(III)V
noncomputable def mr_29 : MR := ((yX3_putIn, cX3_putIn, 5, 3, none), [(0, .iload_n 1, 1, 0), (1, .ifCond .lt 20, 3, 21), (4, .iload_n 1, 1, 0), (5, .aload_n 0, 1, 0), (6, .getfield 18, 3, 0), (9, .if_icmp .gt 12, 3, 21), (12, .aload_n 0, 1, 0), (13, .getfield 18, 3, 0), (16, .bipush 13, 2, 0), (18, .if_icmp .lt 4, 3, 22), (21, .return_, 1, 0), (22, .aload_n 0, 1, 0), (23, .getfield 18, 3, 0), (26, .istore 4, 2, 0), (28, .iload 4, 2, 0), (30, .iload_n 1, 1, 0), (31, .if_icmp .le 41, 3, 72), (34, .aload_n 0, 1, 0), (35, .getfield 11, 3, 0), (38, .iload 4, 2, 0), (40, .aload_n 0, 1, 0), (41, .getfield 11, 3, 0), (44, .iload 4, 2, 0), (46, .iconst 1, 1, 0), (47, .isub, 1, 0), (48, .iaload, 1, 0), (49, .iastore, 1, 0), (50, .aload_n 0, 1, 0), (51, .getfield 15, 3, 0), (54, .iload 4, 2, 0), (56, .aload_n 0, 1, 0), (57, .getfield 15, 3, 0), (60, .iload 4, 2, 0), (62, .iconst 1, 1, 0), (63, .isub, 1, 0), (64, .iaload, 1, 0), (65, .iastore, 1, 0), (66, .iinc 4 (-1), 3, 0), (69, .goto (-41), 3, 28), (72, .aload_n 0, 1, 0), (73, .getfield 11, 3, 0), (76, .iload_n 1, 1, 0), (77, .iload_n 2, 1, 0), (78, .iastore, 1, 0), (79, .aload_n 0, 1, 0), (80, .getfield 15, 3, 0), (83, .iload_n 1, 1, 0), (84, .iload_n 3, 1, 0), (85, .iastore, 1, 0), (86, .aload_n 0, 1, 0), (87, .dup, 1, 0), (88, .getfield 18, 3, 0), (91, .iconst 1, 1, 0), (92, .iadd, 1, 0), (93, .putfield 18, 3, 0), (96, .return_, 1, 0)], ([(18, 3, 2, 0, 1, 193), (11, 3, 0, 3, 1, 188), (15, 3, 1, 3, 1, 190)], [], [], [], []), (3, (3, 49), (1, 10), (3, 48), (0, 18)))
-- DoorSchool$Lessons.said(I)I
noncomputable def mr_30 : MR := ((yX3_said, cX3_said, 4, 1, (some .int)), [(0, .iconst 0, 1, 0), (1, .istore_n 2, 1, 0), (2, .iconst 0, 1, 0), (3, .istore_n 3, 1, 0), (4, .iload_n 3, 1, 0), (5, .aload_n 0, 1, 0), (6, .getfield 18, 3, 0), (9, .if_icmp .ge 30, 3, 39), (12, .aload_n 0, 1, 0), (13, .getfield 15, 3, 0), (16, .iload_n 3, 1, 0), (17, .iaload, 1, 0), (18, .iload_n 1, 1, 0), (19, .if_icmp .ne 14, 3, 33), (22, .iload_n 2, 1, 0), (23, .iconst 1, 1, 0), (24, .aload_n 0, 1, 0), (25, .getfield 11, 3, 0), (28, .iload_n 3, 1, 0), (29, .iaload, 1, 0), (30, .ishl, 1, 0), (31, .ior, 1, 0), (32, .istore_n 2, 1, 0), (33, .iinc 3 1, 3, 0), (36, .goto (-32), 3, 4), (39, .iload_n 2, 1, 0), (40, .ireturn, 1, 0)], ([(18, 3, 2, 0, 1, 193), (15, 3, 1, 3, 1, 190), (11, 3, 0, 3, 1, 188)], [], [], [], []), (3, (3, 164), (1, 10), (3, 163), (0, 37)))
-- DoorSchool$Lessons.takeFrom(LDoorSchool$Lessons;)V
noncomputable def mr_31 : MR := ((yX3_takeFrom, cX3_takeFrom, 2, 1, none), [(0, .aload_n 0, 1, 0), (1, .aload_n 1, 1, 0), (2, .getfield 18, 3, 0), (5, .putfield 18, 3, 0), (8, .aload_n 1, 1, 0), (9, .getfield 11, 3, 0), (12, .iconst 0, 1, 0), (13, .aload_n 0, 1, 0), (14, .getfield 11, 3, 0), (17, .iconst 0, 1, 0), (18, .bipush 13, 2, 0), (20, .invokestatic 30, 3, 0), (23, .aload_n 1, 1, 0), (24, .getfield 15, 3, 0), (27, .iconst 0, 1, 0), (28, .aload_n 0, 1, 0), (29, .getfield 15, 3, 0), (32, .iconst 0, 1, 0), (33, .bipush 13, 2, 0), (35, .invokestatic 30, 3, 0), (38, .return_, 1, 0)], ([(18, 3, 2, 0, 1, 193), (11, 3, 0, 3, 1, 188), (15, 3, 1, 3, 1, 190)], [(30, 8, 0, 5, 149)], [], [], []), (3, (5, 148), (1, 10), (5, 147), (0, 87)))
-- DoorSchool$Lessons.takeOut(I)V
noncomputable def mr_32 : MR := ((yX3_takeOut, cX3_takeOut, 3, 1, none), [(0, .iload_n 1, 1, 0), (1, .ifCond .lt 11, 3, 12), (4, .iload_n 1, 1, 0), (5, .aload_n 0, 1, 0), (6, .getfield 18, 3, 0), (9, .if_icmp .lt 4, 3, 13), (12, .return_, 1, 0), (13, .iload_n 1, 1, 0), (14, .istore_n 2, 1, 0), (15, .iload_n 2, 1, 0), (16, .iconst 1, 1, 0), (17, .iadd, 1, 0), (18, .aload_n 0, 1, 0), (19, .getfield 18, 3, 0), (22, .if_icmp .ge 37, 3, 59), (25, .aload_n 0, 1, 0), (26, .getfield 11, 3, 0), (29, .iload_n 2, 1, 0), (30, .aload_n 0, 1, 0), (31, .getfield 11, 3, 0), (34, .iload_n 2, 1, 0), (35, .iconst 1, 1, 0), (36, .iadd, 1, 0), (37, .iaload, 1, 0), (38, .iastore, 1, 0), (39, .aload_n 0, 1, 0), (40, .getfield 15, 3, 0), (43, .iload_n 2, 1, 0), (44, .aload_n 0, 1, 0), (45, .getfield 15, 3, 0), (48, .iload_n 2, 1, 0), (49, .iconst 1, 1, 0), (50, .iadd, 1, 0), (51, .iaload, 1, 0), (52, .iastore, 1, 0), (53, .iinc 2 1, 3, 0), (56, .goto (-41), 3, 15), (59, .aload_n 0, 1, 0), (60, .dup, 1, 0), (61, .getfield 18, 3, 0), (64, .iconst 1, 1, 0), (65, .isub, 1, 0), (66, .putfield 18, 3, 0), (69, .return_, 1, 0)], ([(18, 3, 2, 0, 1, 193), (11, 3, 0, 3, 1, 188), (15, 3, 1, 3, 1, 190)], [], [], [], []), (3, (4, 42), (1, 10), (4, 41), (0, 50)))
-- DoorSchool$Plan.clear()V
noncomputable def mr_33 : MR := ((yX4_clear, cX4_clear, 1, 0, none), [(0, .aload_n 0, 1, 0), (1, .iconst 0, 1, 0), (2, .putfield 41, 3, 0), (5, .aload_n 0, 1, 0), (6, .iconst 0, 1, 0), (7, .putfield 45, 3, 0), (10, .aload_n 0, 1, 0), (11, .iconst 0, 1, 0), (12, .putfield 48, 3, 0), (15, .aload_n 0, 1, 0), (16, .iconst 0, 1, 0), (17, .putfield 51, 3, 0), (20, .aload_n 0, 1, 0), (21, .getfield 20, 3, 0), (24, .iconst 0, 1, 0), (25, .putfield 54, 3, 0), (28, .aload_n 0, 1, 0), (29, .iconst 0, 1, 0), (30, .putfield 57, 3, 0), (33, .aload_n 0, 1, 0), (34, .iconst 0, 1, 0), (35, .putfield 60, 3, 0), (38, .aload_n 0, 1, 0), (39, .iconst 0, 1, 0), (40, .putfield 63, 3, 0), (43, .aload_n 0, 1, 0), (44, .iconst 0, 1, 0), (45, .putfield 66, 3, 0), (48, .aload_n 0, 1, 0), (49, .getfield 34, 3, 0), (52, .iconst 0, 1, 0), (53, .invokestatic 69, 3, 0), (56, .aload_n 0, 1, 0), (57, .iconst 0, 1, 0), (58, .putfield 75, 3, 0), (61, .return_, 1, 0)], ([(41, 4, 0, 0, 1, 232), (45, 4, 1, 0, 1, 235), (48, 4, 2, 0, 1, 238), (51, 4, 3, 0, 2, 1), (20, 4, 5, 3, 2, 7), (54, 3, 2, 1, 1, 195), (57, 4, 6, 0, 2, 10), (60, 4, 7, 0, 2, 13), (63, 4, 8, 0, 2, 16), (66, 4, 11, 0, 2, 25), (34, 4, 13, 3, 2, 32), (75, 4, 14, 0, 2, 35)], [(69, 2, 1, 2, 157)], [], [], []), (4, (2, 156), (1, 9), (2, 155), (0, 2)))
-- DoorSchool$Plan.exists()Z
noncomputable def mr_34 : MR := ((yX4_exists, cX4_exists, 1, 0, (some .boolean)), [(0, .aload_n 0, 1, 0), (1, .getfield 41, 3, 0), (4, .ifCond .le 7, 3, 11), (7, .iconst 1, 1, 0), (8, .goto 4, 3, 12), (11, .iconst 0, 1, 0), (12, .ireturn, 1, 0)], ([(41, 4, 0, 0, 1, 232)], [], [], [], []), (4, (3, 132), (1, 9), (3, 131), (0, 31)))
-- DoorSchool$Plan.<init>()V
noncomputable def mr_35 : MR := ((yX4_init, cX4_init, 2, 0, none), [(0, .aload_n 0, 1, 0), (1, .invokespecial 3, 3, 0), (4, .aload_n 0, 1, 0), (5, .iconst 4, 1, 0), (6, .anewarray 9, 3, 0), (9, .putfield 11, 3, 0), (12, .aload_n 0, 1, 0), (13, .new 17, 3, 0), (16, .dup, 1, 0), (17, .invokespecial 19, 3, 0), (20, .putfield 20, 3, 0), (23, .aload_n 0, 1, 0), (24, .iconst 4, 1, 0), (25, .newarray .int, 2, 0), (27, .putfield 24, 3, 0), (30, .aload_n 0, 1, 0), (31, .iconst 4, 1, 0), (32, .newarray .int, 2, 0), (34, .putfield 28, 3, 0), (37, .aload_n 0, 1, 0), (38, .bipush 6, 2, 0), (40, .newarray .int, 2, 0), (42, .putfield 31, 3, 0), (45, .aload_n 0, 1, 0), (46, .bipush 6, 2, 0), (48, .newarray .int, 2, 0), (50, .putfield 34, 3, 0), (53, .aload_n 0, 1, 0), (54, .bipush 60, 2, 0), (56, .newarray .int, 2, 0), (58, .putfield 37, 3, 0), (61, .iconst 0, 1, 0), (62, .istore_n 1, 1, 0), (63, .iload_n 1, 1, 0), (64, .iconst 4, 1, 0), (65, .if_icmp .ge 22, 3, 87), (68, .aload_n 0, 1, 0), (69, .getfield 11, 3, 0), (72, .iload_n 1, 1, 0), (73, .new 9, 3, 0), (76, .dup, 1, 0), (77, .invokespecial 40, 3, 0), (80, .aastore, 1, 0), (81, .iinc 1 1, 3, 0), (84, .goto (-21), 3, 63), (87, .return_, 1, 0)], ([(11, 4, 4, 2, 2, 4), (20, 4, 5, 2, 2, 7), (24, 4, 9, 2, 2, 19), (28, 4, 10, 2, 2, 22), (31, 4, 12, 2, 2, 29), (34, 4, 13, 2, 2, 32), (37, 4, 15, 2, 2, 37)], [(3, 9, 0, 1, 179), (19, 5, 26, 1, 184), (40, 5, 4, 1, 206)], [], [], [(9, 0, 1, 180), (17, 3, 1, 182)]), (4, (1, 178), (1, 9), (1, 177), (0, 0)))
-- DoorSchool$Plan.isCopied(I)Z
noncomputable def mr_36 : MR := ((yX4_isCopied, cX4_isCopied, 3, 1, (some .boolean)), [(0, .iconst 0, 1, 0), (1, .istore_n 2, 1, 0), (2, .iload_n 2, 1, 0), (3, .aload_n 0, 1, 0), (4, .getfield 51, 3, 0), (7, .if_icmp .ge 24, 3, 31), (10, .aload_n 0, 1, 0), (11, .getfield 11, 3, 0), (14, .iload_n 2, 1, 0), (15, .aaload, 1, 0), (16, .getfield 103, 3, 0), (19, .iload_n 1, 1, 0), (20, .if_icmp .ne 5, 3, 25), (23, .iconst 1, 1, 0), (24, .ireturn, 1, 0), (25, .iinc 2 1, 3, 0), (28, .goto (-26), 3, 2), (31, .iconst 0, 1, 0), (32, .ireturn, 1, 0)], ([(51, 4, 3, 0, 2, 1), (11, 4, 4, 3, 2, 4), (103, 0, 3, 1, 1, 222)], [], [], [], []), (4, (3, 63), (1, 9), (3, 62), (0, 21)))
-- DoorSchool$Plan.isDeeds(I)Z
noncomputable def mr_37 : MR := ((yX4_isDeeds, cX4_isDeeds, 2, 1, (some .boolean)), [(0, .aload_n 0, 1, 0), (1, .invokevirtual 91, 3, 0), (4, .ifCond .eq 21, 3, 25), (7, .iload_n 1, 1, 0), (8, .ifCond .lt 17, 3, 25), (11, .iload_n 1, 1, 0), (12, .iconst 1, 1, 0), (13, .aload_n 0, 1, 0), (14, .invokevirtual 95, 3, 0), (17, .ishl, 1, 0), (18, .if_icmp .ge 7, 3, 25), (21, .iconst 1, 1, 0), (22, .goto 4, 3, 26), (25, .iconst 0, 1, 0), (26, .ireturn, 1, 0)], ([], [(91, 0, 34, 3, 147), (95, 0, 42, 3, 148)], [], [], []), (4, (3, 228), (1, 9), (3, 227), (0, 43)))
-- DoorSchool$Plan.isDoor(I)Z
noncomputable def mr_38 : MR := ((yX4_isDoor, cX4_isDoor, 2, 1, (some .boolean)), [(0, .iload_n 1, 1, 0), (1, .ifCond .lt 15, 3, 16), (4, .iload_n 1, 1, 0), (5, .aload_n 0, 1, 0), (6, .getfield 51, 3, 0), (9, .if_icmp .ge 7, 3, 16), (12, .iconst 1, 1, 0), (13, .goto 4, 3, 17), (16, .iconst 0, 1, 0), (17, .ireturn, 1, 0)], ([(51, 4, 3, 0, 2, 1)], [], [], [], []), (4, (3, 113), (1, 9), (3, 112), (0, 30)))
-- DoorSchool$Plan.isHouse(I)Z
noncomputable def mr_39 : MR := ((yX4_isHouse, cX4_isHouse, 2, 1, (some .boolean)), [(0, .iload_n 1, 1, 0), (1, .ifCond .lt 15, 3, 16), (4, .iload_n 1, 1, 0), (5, .aload_n 0, 1, 0), (6, .getfield 63, 3, 0), (9, .if_icmp .ge 7, 3, 16), (12, .iconst 1, 1, 0), (13, .goto 4, 3, 17), (16, .iconst 0, 1, 0), (17, .ireturn, 1, 0)], ([(63, 4, 8, 0, 2, 16)], [], [], [], []), (4, (3, 136), (1, 9), (3, 135), (0, 32)))
-- DoorSchool$Plan.isKnock(I)Z
noncomputable def mr_40 : MR := ((yX4_isKnock, cX4_isKnock, 2, 1, (some .boolean)), [(0, .aload_n 0, 1, 0), (1, .invokevirtual 91, 3, 0), (4, .ifCond .eq 19, 3, 23), (7, .iload_n 1, 1, 0), (8, .ifCond .lt 15, 3, 23), (11, .iload_n 1, 1, 0), (12, .aload_n 0, 1, 0), (13, .invokevirtual 95, 3, 0), (16, .if_icmp .ge 7, 3, 23), (19, .iconst 1, 1, 0), (20, .goto 4, 3, 24), (23, .iconst 0, 1, 0), (24, .ireturn, 1, 0)], ([], [(91, 0, 34, 3, 147), (95, 0, 42, 3, 148)], [], [], []), (4, (3, 146), (1, 9), (3, 145), (0, 33)))
-- DoorSchool$Plan.isRule(II)Z
noncomputable def mr_41 : MR := ((yX4_isRule, cX4_isRule, 3, 2, (some .boolean)), [(0, .aload_n 0, 1, 0), (1, .iload_n 1, 1, 0), (2, .invokevirtual 99, 3, 0), (5, .ifCond .eq 15, 3, 20), (8, .iload_n 2, 1, 0), (9, .iload_n 1, 1, 0), (10, .iconst (-1), 1, 0), (11, .ixor, 1, 0), (12, .iand, 1, 0), (13, .ifCond .ne 7, 3, 20), (16, .iconst 1, 1, 0), (17, .goto 4, 3, 21), (20, .iconst 0, 1, 0), (21, .ireturn, 1, 0)], ([], [(99, 0, 40, 3, 220)], [], [], []), (4, (3, 219), (1, 9), (3, 218), (0, 42)))
-- DoorSchool$Plan.knocks()I
noncomputable def mr_42 : MR := ((yX4_knocks, cX4_knocks, 1, 0, (some .int)), [(0, .iconst 1, 1, 0), (1, .aload_n 0, 1, 0), (2, .getfield 45, 3, 0), (5, .ishl, 1, 0), (6, .ireturn, 1, 0)], ([(45, 4, 1, 0, 1, 235)], [], [], [], []), (4, (3, 39), (1, 9), (3, 38), (0, 16)))
-- DoorSchool$Plan.modelOf(I)LDoorSchool$Door;
noncomputable def mr_43 : MR := ((yX4_modelOf, cX4_modelOf, 3, 1, (some (.object "DoorSchool$Door"))), [(0, .aload_n 0, 1, 0), (1, .getfield 11, 3, 0), (4, .iload_n 1, 1, 0), (5, .aaload, 1, 0), (6, .getfield 103, 3, 0), (9, .istore_n 2, 1, 0), (10, .iload_n 2, 1, 0), (11, .iconst (-1), 1, 0), (12, .if_icmp .ne 12, 3, 24), (15, .aload_n 0, 1, 0), (16, .getfield 11, 3, 0), (19, .iload_n 1, 1, 0), (20, .aaload, 1, 0), (21, .goto 9, 3, 30), (24, .aload_n 0, 1, 0), (25, .getfield 11, 3, 0), (28, .iload_n 2, 1, 0), (29, .aaload, 1, 0), (30, .areturn, 1, 0)], ([(11, 4, 4, 3, 2, 4), (103, 0, 3, 1, 1, 222)], [], [], [], []), (4, (3, 156), (1, 9), (3, 155), (0, 35)))
-- DoorSchool$Plan.takeFrom(LDoorSchool$Plan;)V
noncomputable def mr_44 : MR := ((yX4_takeFrom, cX4_takeFrom, 3, 1, none), [(0, .aload_n 0, 1, 0), (1, .aload_n 1, 1, 0), (2, .getfield 41, 3, 0), (5, .putfield 41, 3, 0), (8, .aload_n 0, 1, 0), (9, .aload_n 1, 1, 0), (10, .getfield 45, 3, 0), (13, .putfield 45, 3, 0), (16, .aload_n 0, 1, 0), (17, .aload_n 1, 1, 0), (18, .getfield 48, 3, 0), (21, .putfield 48, 3, 0), (24, .aload_n 0, 1, 0), (25, .aload_n 1, 1, 0), (26, .getfield 51, 3, 0), (29, .putfield 51, 3, 0), (32, .iconst 0, 1, 0), (33, .istore_n 2, 1, 0), (34, .iload_n 2, 1, 0), (35, .iconst 4, 1, 0), (36, .if_icmp .ge 24, 3, 60), (39, .aload_n 0, 1, 0), (40, .getfield 11, 3, 0), (43, .iload_n 2, 1, 0), (44, .aaload, 1, 0), (45, .aload_n 1, 1, 0), (46, .getfield 11, 3, 0), (49, .iload_n 2, 1, 0), (50, .aaload, 1, 0), (51, .invokevirtual 78, 3, 0), (54, .iinc 2 1, 3, 0), (57, .goto (-23), 3, 34), (60, .aload_n 0, 1, 0), (61, .getfield 20, 3, 0), (64, .aload_n 1, 1, 0), (65, .getfield 20, 3, 0), (68, .invokevirtual 82, 3, 0), (71, .aload_n 0, 1, 0), (72, .aload_n 1, 1, 0), (73, .getfield 57, 3, 0), (76, .putfield 57, 3, 0), (79, .aload_n 0, 1, 0), (80, .aload_n 1, 1, 0), (81, .getfield 60, 3, 0), (84, .putfield 60, 3, 0), (87, .aload_n 0, 1, 0), (88, .aload_n 1, 1, 0), (89, .getfield 63, 3, 0), (92, .putfield 63, 3, 0), (95, .aload_n 1, 1, 0), (96, .getfield 24, 3, 0), (99, .iconst 0, 1, 0), (100, .aload_n 0, 1, 0), (101, .getfield 24, 3, 0), (104, .iconst 0, 1, 0), (105, .iconst 4, 1, 0), (106, .invokestatic 85, 3, 0), (109, .aload_n 1, 1, 0), (110, .getfield 28, 3, 0), (113, .iconst 0, 1, 0), (114, .aload_n 0, 1, 0), (115, .getfield 28, 3, 0), (118, .iconst 0, 1, 0), (119, .iconst 4, 1, 0), (120, .invokestatic 85, 3, 0), (123, .aload_n 0, 1, 0), (124, .aload_n 1, 1, 0), (125, .getfield 66, 3, 0), (128, .putfield 66, 3, 0), (131, .aload_n 1, 1, 0), (132, .getfield 31, 3, 0), (135, .iconst 0, 1, 0), (136, .aload_n 0, 1, 0), (137, .getfield 31, 3, 0), (140, .iconst 0, 1, 0), (141, .bipush 6, 2, 0), (143, .invokestatic 85, 3, 0), (146, .aload_n 1, 1, 0), (147, .getfield 34, 3, 0), (150, .iconst 0, 1, 0), (151, .aload_n 0, 1, 0), (152, .getfield 34, 3, 0), (155, .iconst 0, 1, 0), (156, .bipush 6, 2, 0), (158, .invokestatic 85, 3, 0), (161, .aload_n 0, 1, 0), (162, .aload_n 1, 1, 0), (163, .getfield 75, 3, 0), (166, .putfield 75, 3, 0), (169, .aload_n 1, 1, 0), (170, .getfield 37, 3, 0), (173, .iconst 0, 1, 0), (174, .aload_n 0, 1, 0), (175, .getfield 37, 3, 0), (178, .iconst 0, 1, 0), (179, .bipush 60, 2, 0), (181, .invokestatic 85, 3, 0), (184, .return_, 1, 0)], ([(41, 4, 0, 0, 1, 232), (45, 4, 1, 0, 1, 235), (48, 4, 2, 0, 1, 238), (51, 4, 3, 0, 2, 1), (11, 4, 4, 3, 2, 4), (20, 4, 5, 3, 2, 7), (57, 4, 6, 0, 2, 10), (60, 4, 7, 0, 2, 13), (63, 4, 8, 0, 2, 16), (24, 4, 9, 3, 2, 19), (28, 4, 10, 3, 2, 22), (66, 4, 11, 0, 2, 25), (31, 4, 12, 3, 2, 29), (34, 4, 13, 3, 2, 32), (75, 4, 14, 0, 2, 35), (37, 4, 15, 3, 2, 37)], [(78, 1, 5, 5, 140), (82, 1, 31, 5, 150), (85, 8, 0, 5, 151)], [], [], []), (4, (5, 139), (1, 9), (5, 138), (0, 85)))
-- DoorSchool$Reader.blame(I)V
noncomputable def mr_45 : MR := ((yX5_blame, cX5_blame, 2, 1, none), [(0, .aload_n 0, 1, 0), (1, .getfield 19, 3, 0), (4, .ifCond .ne 16, 3, 20), (7, .aload_n 0, 1, 0), (8, .iload_n 1, 1, 0), (9, .putfield 19, 3, 0), (12, .aload_n 0, 1, 0), (13, .aload_n 0, 1, 0), (14, .getfield 202, 3, 0), (17, .putfield 9, 3, 0), (20, .return_, 1, 0)], ([(19, 5, 5, 0, 1, 57), (202, 5, 2, 0, 1, 54), (9, 5, 6, 0, 1, 59)], [], [], [], []), (5, (2, 239), (1, 3), (2, 238), (0, 8)))
-- DoorSchool$Reader.<init>(LDoorSchool$Tape;)V
noncomputable def mr_46 : MR := ((yX5_init, cX5_init, 2, 1, none), [(0, .aload_n 0, 1, 0), (1, .invokespecial 3, 3, 0), (4, .aload_n 0, 1, 0), (5, .iconst (-1), 1, 0), (6, .putfield 9, 3, 0), (9, .aload_n 0, 1, 0), (10, .aload_n 1, 1, 0), (11, .putfield 15, 3, 0), (14, .return_, 1, 0)], ([(9, 5, 6, 0, 1, 59), (15, 5, 0, 2, 1, 52)], [(3, 9, 0, 1, 51)], [], [], []), (5, (1, 50), (1, 3), (1, 49), (0, 0)))
-- DoorSchool$Reader.isBlank(B)Z
noncomputable def mr_47 : MR := ((yX5_isBlank, cX5_isBlank, 1, 1, (some .boolean)), [(0, .iload_n 0, 1, 0), (1, .bipush 32, 2, 0), (3, .if_icmp .eq 9, 3, 12), (6, .iload_n 0, 1, 0), (7, .bipush 10, 2, 0), (9, .if_icmp .ne 7, 3, 16), (12, .iconst 1, 1, 0), (13, .goto 4, 3, 17), (16, .iconst 0, 1, 0), (17, .ireturn, 1, 0)], ([], [], [], [], []), (5, (2, 166), (1, 3), (2, 165), (0, 0)))
-- DoorSchool$Reader.kindAt(I)I
noncomputable def mr_48 : MR := ((yX5_kindAt, cX5_kindAt, 3, 1, (some .int)), [(0, .iload_n 1, 1, 0), (1, .aload_n 0, 1, 0), (2, .getfield 15, 3, 0), (5, .getfield 220, 3, 0), (8, .if_icmp .lt 5, 3, 13), (11, .iconst 0, 1, 0), (12, .ireturn, 1, 0), (13, .aload_n 0, 1, 0), (14, .getfield 15, 3, 0), (17, .getfield 210, 3, 0), (20, .iload_n 1, 1, 0), (21, .baload, 1, 0), (22, .istore_n 2, 1, 0), (23, .iload_n 2, 1, 0), (24, .bipush 97, 2, 0), (26, .if_icmp .lt 11, 3, 37), (29, .iload_n 2, 1, 0), (30, .bipush 122, 2, 0), (32, .if_icmp .gt 5, 3, 37), (35, .iconst 1, 1, 0), (36, .ireturn, 1, 0), (37, .iload_n 2, 1, 0), (38, .bipush 48, 2, 0), (40, .if_icmp .lt 11, 3, 51), (43, .iload_n 2, 1, 0), (44, .bipush 57, 2, 0), (46, .if_icmp .gt 5, 3, 51), (49, .iconst 2, 1, 0), (50, .ireturn, 1, 0), (51, .iload_n 2, 1, 0), (52, .bipush 59, 2, 0), (54, .if_icmp .ne 7, 3, 61), (57, .iconst 3, 1, 0), (58, .goto 4, 3, 62), (61, .iconst 4, 1, 0), (62, .ireturn, 1, 0)], ([(15, 5, 0, 3, 1, 52), (220, 8, 1, 1, 1, 39), (210, 8, 0, 4, 1, 36)], [], [], [], []), (5, (2, 170), (1, 3), (2, 169), (0, 4)))
-- DoorSchool$Reader.numberHere(II)I
noncomputable def mr_49 : MR := ((yX5_numberHere, cX5_numberHere, 3, 2, (some .int)), [(0, .aload_n 0, 1, 0), (1, .getfield 33, 3, 0), (4, .iconst 2, 1, 0), (5, .if_icmp .eq 11, 3, 16), (8, .aload_n 0, 1, 0), (9, .iconst 1, 1, 0), (10, .invokevirtual 84, 3, 0), (13, .goto 24, 3, 37), (16, .aload_n 0, 1, 0), (17, .getfield 199, 3, 0), (20, .iload_n 1, 1, 0), (21, .if_icmp .lt 11, 3, 32), (24, .aload_n 0, 1, 0), (25, .getfield 199, 3, 0), (28, .iload_n 2, 1, 0), (29, .if_icmp .le 8, 3, 37), (32, .aload_n 0, 1, 0), (33, .iconst 2, 1, 0), (34, .invokevirtual 84, 3, 0), (37, .aload_n 0, 1, 0), (38, .getfield 19, 3, 0), (41, .ifCond .ne 10, 3, 51), (44, .aload_n 0, 1, 0), (45, .getfield 199, 3, 0), (48, .goto 4, 3, 52), (51, .iconst (-1), 1, 0), (52, .ireturn, 1, 0)], ([(33, 5, 1, 0, 1, 53), (199, 5, 4, 0, 1, 56), (19, 5, 5, 0, 1, 57)], [(84, 0, 45, 2, 236)], [], [], []), (5, (3, 8), (1, 3), (3, 7), (0, 10)))
-- DoorSchool$Reader.pass(Z)V
noncomputable def mr_50 : MR := ((yX5_pass, cX5_pass, 2, 1, none), [(0, .iload_n 1, 1, 0), (1, .ifCond .ne 8, 3, 9), (4, .aload_n 0, 1, 0), (5, .iconst 1, 1, 0), (6, .invokevirtual 84, 3, 0), (9, .aload_n 0, 1, 0), (10, .getfield 19, 3, 0), (13, .ifCond .ne 7, 3, 20), (16, .aload_n 0, 1, 0), (17, .invokevirtual 30, 3, 0), (20, .return_, 1, 0)], ([(19, 5, 5, 0, 1, 57)], [(84, 0, 45, 2, 236), (30, 0, 63, 2, 160)], [], [], []), (5, (2, 235), (1, 3), (2, 234), (0, 7)))
-- DoorSchool$Reader.read(LDoorSchool$Plan;)V
noncomputable def mr_51 : MR := ((yX5_read, cX5_read, 3, 1, none), [(0, .aload_n 0, 1, 0), (1, .iconst 0, 1, 0), (2, .putfield 19, 3, 0), (5, .aload_n 0, 1, 0), (6, .iconst (-1), 1, 0), (7, .putfield 9, 3, 0), (10, .aload_n 0, 1, 0), (11, .iconst 0, 1, 0), (12, .putfield 22, 3, 0), (15, .aload_n 1, 1, 0), (16, .invokevirtual 25, 3, 0), (19, .aload_n 0, 1, 0), (20, .invokevirtual 30, 3, 0), (23, .iconst 0, 1, 0), (24, .istore_n 2, 1, 0), (25, .iload_n 2, 1, 0), (26, .sipush 1600, 3, 0), (29, .if_icmp .gt 203, 3, 232), (32, .aload_n 0, 1, 0), (33, .getfield 33, 3, 0), (36, .ifCond .eq 196, 3, 232), (39, .aload_n 0, 1, 0), (40, .getfield 19, 3, 0), (43, .ifCond .ne 189, 3, 232), (46, .iload_n 2, 1, 0), (47, .ifCond .ne 11, 3, 58), (50, .aload_n 0, 1, 0), (51, .aload_n 1, 1, 0), (52, .invokevirtual 36, 3, 0), (55, .goto 144, 3, 199), (58, .aload_n 0, 1, 0), (59, .ldc 40, 2, 0), (61, .invokevirtual 42, 3, 0), (64, .ifCond .eq 11, 3, 75), (67, .aload_n 0, 1, 0), (68, .aload_n 1, 1, 0), (69, .invokevirtual 46, 3, 0), (72, .goto 127, 3, 199), (75, .aload_n 0, 1, 0), (76, .ldc 49, 2, 0), (78, .invokevirtual 42, 3, 0), (81, .ifCond .eq 11, 3, 92), (84, .aload_n 0, 1, 0), (85, .aload_n 1, 1, 0), (86, .invokevirtual 51, 3, 0), (89, .goto 110, 3, 199), (92, .aload_n 0, 1, 0), (93, .ldc 54, 2, 0), (95, .invokevirtual 42, 3, 0), (98, .ifCond .eq 11, 3, 109), (101, .aload_n 0, 1, 0), (102, .aload_n 1, 1, 0), (103, .invokevirtual 56, 3, 0), (106, .goto 93, 3, 199), (109, .aload_n 0, 1, 0), (110, .ldc 59, 2, 0), (112, .invokevirtual 42, 3, 0), (115, .ifCond .eq 11, 3, 126), (118, .aload_n 0, 1, 0), (119, .aload_n 1, 1, 0), (120, .invokevirtual 61, 3, 0), (123, .goto 76, 3, 199), (126, .aload_n 0, 1, 0), (127, .ldc 64, 2, 0), (129, .invokevirtual 42, 3, 0), (132, .ifCond .eq 11, 3, 143), (135, .aload_n 0, 1, 0), (136, .aload_n 1, 1, 0), (137, .invokevirtual 66, 3, 0), (140, .goto 59, 3, 199), (143, .aload_n 0, 1, 0), (144, .ldc 69, 2, 0), (146, .invokevirtual 42, 3, 0), (149, .ifCond .eq 11, 3, 160), (152, .aload_n 0, 1, 0), (153, .aload_n 1, 1, 0), (154, .invokevirtual 71, 3, 0), (157, .goto 42, 3, 199), (160, .aload_n 0, 1, 0), (161, .ldc 74, 2, 0), (163, .invokevirtual 42, 3, 0), (166, .ifCond .eq 11, 3, 177), (169, .aload_n 0, 1, 0), (170, .aload_n 1, 1, 0), (171, .invokevirtual 76, 3, 0), (174, .goto 25, 3, 199), (177, .aload_n 0, 1, 0), (178, .ldc 79, 2, 0), (180, .invokevirtual 42, 3, 0), (183, .ifCond .eq 11, 3, 194), (186, .aload_n 0, 1, 0), (187, .aload_n 1, 1, 0), (188, .invokevirtual 81, 3, 0), (191, .goto 8, 3, 199), (194, .aload_n 0, 1, 0), (195, .iconst 1, 1, 0), (196, .invokevirtual 84, 3, 0), (199, .aload_n 0, 1, 0), (200, .aload_n 0, 1, 0), (201, .getfield 33, 3, 0), (204, .iconst 3, 1, 0), (205, .if_icmp .ne 7, 3, 212), (208, .iconst 1, 1, 0), (209, .goto 4, 3, 213), (212, .iconst 0, 1, 0), (213, .invokevirtual 88, 3, 0), (216, .aload_n 1, 1, 0), (217, .dup, 1, 0), (218, .getfield 92, 3, 0), (221, .iconst 1, 1, 0), (222, .iadd, 1, 0), (223, .putfield 92, 3, 0), (226, .iinc 2 1, 3, 0), (229, .goto (-204), 3, 25), (232, .return_, 1, 0)], ([(19, 5, 5, 0, 1, 57), (9, 5, 6, 0, 1, 59), (22, 5, 3, 0, 1, 55), (33, 5, 1, 0, 1, 53), (92, 4, 0, 1, 1, 233)], [(25, 1, 33, 2, 153), (30, 0, 63, 2, 160), (36, 0, 56, 2, 175), (42, 0, 62, 2, 180), (46, 0, 54, 3, 11), (51, 0, 58, 3, 28), (56, 0, 55, 3, 51), (61, 0, 61, 3, 56), (66, 0, 59, 3, 65), (71, 0, 57, 3, 74), (76, 0, 53, 3, 79), (81, 0, 52, 3, 85), (84, 0, 45, 2, 236), (88, 0, 50, 2, 232)], [], [], []), (5, (2, 152), (1, 3), (2, 151), (0, 1)))
-- DoorSchool$Reader.readAhead(LDoorSchool$Plan;)V
noncomputable def mr_52 : MR := ((yX5_readAhead, cX5_readAhead, 4, 1, none), [(0, .aload_n 0, 1, 0), (1, .invokevirtual 30, 3, 0), (4, .aload_n 0, 1, 0), (5, .iconst 0, 1, 0), (6, .aload_n 1, 1, 0), (7, .getfield 184, 3, 0), (10, .iconst 1, 1, 0), (11, .isub, 1, 0), (12, .invokevirtual 99, 3, 0), (15, .istore_n 2, 1, 0), (16, .aload_n 0, 1, 0), (17, .iload_n 2, 1, 0), (18, .iconst 1, 1, 0), (19, .iadd, 1, 0), (20, .aload_n 1, 1, 0), (21, .getfield 184, 3, 0), (24, .iconst 1, 1, 0), (25, .isub, 1, 0), (26, .invokevirtual 99, 3, 0), (29, .istore_n 3, 1, 0), (30, .aload_n 0, 1, 0), (31, .getfield 19, 3, 0), (34, .ifCond .ne 15, 3, 49), (37, .aload_n 1, 1, 0), (38, .getfield 191, 3, 0), (41, .iload_n 3, 1, 0), (42, .dup2, 1, 0), (43, .iaload, 1, 0), (44, .iconst 1, 1, 0), (45, .iload_n 2, 1, 0), (46, .ishl, 1, 0), (47, .ior, 1, 0), (48, .iastore, 1, 0), (49, .return_, 1, 0)], ([(184, 4, 11, 1, 2, 27), (19, 5, 5, 0, 1, 57), (191, 4, 13, 4, 2, 34)], [(30, 0, 63, 2, 160), (99, 0, 64, 3, 1)], [], [], []), (5, (3, 88), (1, 3), (3, 87), (0, 26)))
-- DoorSchool$Reader.readCourse(LDoorSchool$Plan;)V
noncomputable def mr_53 : MR := ((yX5_readCourse, cX5_readCourse, 3, 1, none), [(0, .aload_n 1, 1, 0), (1, .getfield 184, 3, 0), (4, .bipush 6, 2, 0), (6, .if_icmp .lt 9, 3, 15), (9, .aload_n 0, 1, 0), (10, .iconst 3, 1, 0), (11, .invokevirtual 84, 3, 0), (14, .return_, 1, 0), (15, .aload_n 0, 1, 0), (16, .invokevirtual 30, 3, 0), (19, .aload_n 0, 1, 0), (20, .aload_n 0, 1, 0), (21, .ldc 187, 2, 0), (23, .invokevirtual 42, 3, 0), (26, .invokevirtual 88, 3, 0), (29, .aload_n 0, 1, 0), (30, .iconst 1, 1, 0), (31, .bipush 9, 2, 0), (33, .invokevirtual 99, 3, 0), (36, .istore_n 2, 1, 0), (37, .aload_n 0, 1, 0), (38, .getfield 19, 3, 0), (41, .ifCond .ne 23, 3, 64), (44, .aload_n 1, 1, 0), (45, .getfield 189, 3, 0), (48, .aload_n 1, 1, 0), (49, .getfield 184, 3, 0), (52, .iload_n 2, 1, 0), (53, .iastore, 1, 0), (54, .aload_n 1, 1, 0), (55, .dup, 1, 0), (56, .getfield 184, 3, 0), (59, .iconst 1, 1, 0), (60, .iadd, 1, 0), (61, .putfield 184, 3, 0), (64, .return_, 1, 0)], ([(184, 4, 11, 1, 2, 27), (19, 5, 5, 0, 1, 57), (189, 4, 12, 4, 2, 31)], [(84, 0, 45, 2, 236), (30, 0, 63, 2, 160), (42, 0, 62, 2, 180), (88, 0, 50, 2, 232), (99, 0, 64, 3, 1)], [], [], []), (5, (3, 82), (1, 3), (3, 81), (0, 25)))
-- DoorSchool$Reader.readDoor(LDoorSchool$Plan;)V
noncomputable def mr_54 : MR := ((yX5_readDoor, cX5_readDoor, 4, 1, none), [(0, .aload_n 1, 1, 0), (1, .getfield 109, 3, 0), (4, .iconst 4, 1, 0), (5, .if_icmp .lt 9, 3, 14), (8, .aload_n 0, 1, 0), (9, .iconst 3, 1, 0), (10, .invokevirtual 84, 3, 0), (13, .return_, 1, 0), (14, .aload_n 0, 1, 0), (15, .invokevirtual 30, 3, 0), (18, .aload_n 0, 1, 0), (19, .invokevirtual 112, 3, 0), (22, .istore_n 2, 1, 0), (23, .aload_n 0, 1, 0), (24, .aload_n 0, 1, 0), (25, .ldc 116, 2, 0), (27, .invokevirtual 42, 3, 0), (30, .invokevirtual 88, 3, 0), (33, .aload_n 0, 1, 0), (34, .iconst 0, 1, 0), (35, .bipush 50, 2, 0), (37, .invokevirtual 99, 3, 0), (40, .istore_n 3, 1, 0), (41, .aload_n 0, 1, 0), (42, .getfield 19, 3, 0), (45, .ifCond .ne 27, 3, 72), (48, .aload_n 1, 1, 0), (49, .getfield 118, 3, 0), (52, .aload_n 1, 1, 0), (53, .getfield 109, 3, 0), (56, .aaload, 1, 0), (57, .iload_n 2, 1, 0), (58, .iload_n 3, 1, 0), (59, .invokevirtual 122, 3, 0), (62, .aload_n 1, 1, 0), (63, .dup, 1, 0), (64, .getfield 109, 3, 0), (67, .iconst 1, 1, 0), (68, .iadd, 1, 0), (69, .putfield 109, 3, 0), (72, .return_, 1, 0)], ([(109, 4, 3, 1, 2, 2), (19, 5, 5, 0, 1, 57), (118, 4, 4, 4, 2, 5)], [(84, 0, 45, 2, 236), (30, 0, 63, 2, 160), (112, 0, 66, 3, 15), (42, 0, 62, 2, 180), (88, 0, 50, 2, 232), (99, 0, 64, 3, 1), (122, 1, 3, 3, 23)], [], [], []), (5, (3, 14), (1, 3), (3, 13), (0, 11)))
-- DoorSchool$Reader.readExam(LDoorSchool$Plan;)V
noncomputable def mr_55 : MR := ((yX5_readExam, cX5_readExam, 2, 1, none), [(0, .aload_n 1, 1, 0), (1, .getfield 144, 3, 0), (4, .getfield 135, 3, 0), (7, .bipush 12, 2, 0), (9, .if_icmp .lt 9, 3, 18), (12, .aload_n 0, 1, 0), (13, .iconst 3, 1, 0), (14, .invokevirtual 84, 3, 0), (17, .return_, 1, 0), (18, .aload_n 0, 1, 0), (19, .invokevirtual 30, 3, 0), (22, .aload_n 0, 1, 0), (23, .aload_n 1, 1, 0), (24, .aload_n 1, 1, 0), (25, .getfield 144, 3, 0), (28, .invokevirtual 140, 3, 0), (31, .return_, 1, 0)], ([(144, 4, 5, 4, 2, 8), (135, 3, 2, 1, 1, 196)], [(84, 0, 45, 2, 236), (30, 0, 63, 2, 160), (140, 0, 60, 3, 32)], [], [], []), (5, (3, 54), (1, 3), (3, 53), (0, 19)))
-- DoorSchool$Reader.readFirst(LDoorSchool$Plan;)V
noncomputable def mr_56 : MR := ((yX5_readFirst, cX5_readFirst, 2, 1, none), [(0, .aload_n 0, 1, 0), (1, .aload_n 0, 1, 0), (2, .ldc 95, 2, 0), (4, .invokevirtual 42, 3, 0), (7, .invokevirtual 88, 3, 0), (10, .aload_n 0, 1, 0), (11, .aload_n 0, 1, 0), (12, .ldc 97, 2, 0), (14, .invokevirtual 42, 3, 0), (17, .invokevirtual 88, 3, 0), (20, .aload_n 1, 1, 0), (21, .aload_n 0, 1, 0), (22, .iconst 2, 1, 0), (23, .iconst 4, 1, 0), (24, .invokevirtual 99, 3, 0), (27, .putfield 103, 3, 0), (30, .aload_n 0, 1, 0), (31, .aload_n 0, 1, 0), (32, .ldc 105, 2, 0), (34, .invokevirtual 42, 3, 0), (37, .invokevirtual 88, 3, 0), (40, .aload_n 1, 1, 0), (41, .aload_n 0, 1, 0), (42, .iconst 1, 1, 0), (43, .iconst 3, 1, 0), (44, .invokevirtual 99, 3, 0), (47, .putfield 107, 3, 0), (50, .return_, 1, 0)], ([(103, 4, 1, 1, 1, 236), (107, 4, 2, 1, 1, 239)], [(42, 0, 62, 2, 180), (88, 0, 50, 2, 232), (99, 0, 64, 3, 1)], [], [], []), (5, (2, 178), (1, 3), (2, 177), (0, 5)))
-- DoorSchool$Reader.readHouse(LDoorSchool$Plan;)V
noncomputable def mr_57 : MR := ((yX5_readHouse, cX5_readHouse, 4, 1, none), [(0, .aload_n 1, 1, 0), (1, .getfield 174, 3, 0), (4, .iconst 4, 1, 0), (5, .if_icmp .lt 9, 3, 14), (8, .aload_n 0, 1, 0), (9, .iconst 3, 1, 0), (10, .invokevirtual 84, 3, 0), (13, .return_, 1, 0), (14, .aload_n 0, 1, 0), (15, .invokevirtual 30, 3, 0), (18, .aload_n 0, 1, 0), (19, .iconst 0, 1, 0), (20, .aload_n 1, 1, 0), (21, .invokevirtual 147, 3, 0), (24, .iconst 1, 1, 0), (25, .isub, 1, 0), (26, .invokevirtual 99, 3, 0), (29, .istore_n 2, 1, 0), (30, .aload_n 0, 1, 0), (31, .iload_n 2, 1, 0), (32, .invokevirtual 164, 3, 0), (35, .istore_n 3, 1, 0), (36, .aload_n 0, 1, 0), (37, .getfield 19, 3, 0), (40, .ifCond .ne 33, 3, 73), (43, .aload_n 1, 1, 0), (44, .getfield 177, 3, 0), (47, .aload_n 1, 1, 0), (48, .getfield 174, 3, 0), (51, .iload_n 2, 1, 0), (52, .iastore, 1, 0), (53, .aload_n 1, 1, 0), (54, .getfield 181, 3, 0), (57, .aload_n 1, 1, 0), (58, .getfield 174, 3, 0), (61, .iload_n 3, 1, 0), (62, .iastore, 1, 0), (63, .aload_n 1, 1, 0), (64, .dup, 1, 0), (65, .getfield 174, 3, 0), (68, .iconst 1, 1, 0), (69, .iadd, 1, 0), (70, .putfield 174, 3, 0), (73, .return_, 1, 0)], ([(174, 4, 8, 1, 2, 17), (19, 5, 5, 0, 1, 57), (177, 4, 9, 4, 2, 21), (181, 4, 10, 4, 2, 24)], [(84, 0, 45, 2, 236), (30, 0, 63, 2, 160), (147, 1, 42, 3, 36), (99, 0, 64, 3, 1), (164, 0, 65, 3, 69)], [], [], []), (5, (3, 77), (1, 3), (3, 76), (0, 24)))
-- DoorSchool$Reader.readLesson(LDoorSchool$Plan;)V
noncomputable def mr_58 : MR := ((yX5_readLesson, cX5_readLesson, 4, 1, none), [(0, .aload_n 0, 1, 0), (1, .invokevirtual 30, 3, 0), (4, .aload_n 0, 1, 0), (5, .iconst 0, 1, 0), (6, .aload_n 1, 1, 0), (7, .getfield 109, 3, 0), (10, .iconst 1, 1, 0), (11, .isub, 1, 0), (12, .invokevirtual 128, 3, 0), (15, .istore_n 2, 1, 0), (16, .aload_n 0, 1, 0), (17, .getfield 19, 3, 0), (20, .ifCond .eq 4, 3, 24), (23, .return_, 1, 0), (24, .aload_n 1, 1, 0), (25, .getfield 118, 3, 0), (28, .iload_n 2, 1, 0), (29, .aaload, 1, 0), (30, .getfield 131, 3, 0), (33, .astore_n 3, 1, 0), (34, .aload_n 3, 1, 0), (35, .getfield 135, 3, 0), (38, .bipush 12, 2, 0), (40, .if_icmp .lt 9, 3, 49), (43, .aload_n 0, 1, 0), (44, .iconst 3, 1, 0), (45, .invokevirtual 84, 3, 0), (48, .return_, 1, 0), (49, .aload_n 0, 1, 0), (50, .invokevirtual 30, 3, 0), (53, .aload_n 0, 1, 0), (54, .aload_n 1, 1, 0), (55, .aload_n 3, 1, 0), (56, .invokevirtual 140, 3, 0), (59, .return_, 1, 0)], ([(109, 4, 3, 1, 2, 2), (19, 5, 5, 0, 1, 57), (118, 4, 4, 4, 2, 5), (131, 0, 0, 4, 1, 213), (135, 3, 2, 1, 1, 196)], [(30, 0, 63, 2, 160), (128, 0, 49, 3, 5), (84, 0, 45, 2, 236), (140, 0, 60, 3, 32)], [], [], []), (5, (3, 31), (1, 3), (3, 30), (0, 14)))
-- DoorSchool$Reader.readOwner(LDoorSchool$Plan;)V
noncomputable def mr_59 : MR := ((yX5_readOwner, cX5_readOwner, 4, 1, none), [(0, .aload_n 0, 1, 0), (1, .invokevirtual 30, 3, 0), (4, .aload_n 0, 1, 0), (5, .iconst 0, 1, 0), (6, .aload_n 1, 1, 0), (7, .invokevirtual 147, 3, 0), (10, .iconst 1, 1, 0), (11, .isub, 1, 0), (12, .invokevirtual 99, 3, 0), (15, .istore_n 2, 1, 0), (16, .aload_n 0, 1, 0), (17, .iload_n 2, 1, 0), (18, .invokevirtual 164, 3, 0), (21, .istore_n 3, 1, 0), (22, .aload_n 0, 1, 0), (23, .getfield 19, 3, 0), (26, .ifCond .ne 13, 3, 39), (29, .aload_n 1, 1, 0), (30, .iload_n 2, 1, 0), (31, .putfield 168, 3, 0), (34, .aload_n 1, 1, 0), (35, .iload_n 3, 1, 0), (36, .putfield 171, 3, 0), (39, .return_, 1, 0)], ([(19, 5, 5, 0, 1, 57), (168, 4, 6, 1, 2, 11), (171, 4, 7, 1, 2, 14)], [(30, 0, 63, 2, 160), (147, 1, 42, 3, 36), (99, 0, 64, 3, 1), (164, 0, 65, 3, 69)], [], [], []), (5, (3, 68), (1, 3), (3, 67), (0, 22)))
-- DoorSchool$Reader.readSaid(LDoorSchool$Plan;LDoorSchool$Lessons;)V
noncomputable def mr_60 : MR := ((yX5_readSaid, cX5_readSaid, 5, 2, none), [(0, .aload_n 0, 1, 0), (1, .iconst 0, 1, 0), (2, .aload_n 1, 1, 0), (3, .invokevirtual 147, 3, 0), (6, .iconst 1, 1, 0), (7, .isub, 1, 0), (8, .invokevirtual 99, 3, 0), (11, .istore_n 3, 1, 0), (12, .aload_n 0, 1, 0), (13, .ldc 150, 2, 0), (15, .invokevirtual 42, 3, 0), (18, .ifCond .eq 7, 3, 25), (21, .iconst 1, 1, 0), (22, .goto 4, 3, 26), (25, .iconst 0, 1, 0), (26, .istore 4, 2, 0), (28, .aload_n 0, 1, 0), (29, .iload 4, 2, 0), (31, .iconst 1, 1, 0), (32, .if_icmp .eq 12, 3, 44), (35, .aload_n 0, 1, 0), (36, .ldc 152, 2, 0), (38, .invokevirtual 42, 3, 0), (41, .ifCond .eq 7, 3, 48), (44, .iconst 1, 1, 0), (45, .goto 4, 3, 49), (48, .iconst 0, 1, 0), (49, .invokevirtual 88, 3, 0), (52, .aload_n 0, 1, 0), (53, .getfield 19, 3, 0), (56, .ifCond .ne 10, 3, 66), (59, .aload_n 2, 1, 0), (60, .iload_n 3, 1, 0), (61, .iload 4, 2, 0), (63, .invokevirtual 154, 3, 0), (66, .return_, 1, 0)], ([(19, 5, 5, 0, 1, 57)], [(147, 1, 42, 3, 36), (99, 0, 64, 3, 1), (42, 0, 62, 2, 180), (88, 0, 50, 2, 232), (154, 1, 22, 3, 42)], [], [], []), (5, (3, 35), (1, 3), (3, 34), (0, 15)))
-- DoorSchool$Reader.readTwin(LDoorSchool$Plan;)V
noncomputable def mr_61 : MR := ((yX5_readTwin, cX5_readTwin, 4, 1, none), [(0, .aload_n 0, 1, 0), (1, .invokevirtual 30, 3, 0), (4, .aload_n 0, 1, 0), (5, .iconst 0, 1, 0), (6, .aload_n 1, 1, 0), (7, .getfield 109, 3, 0), (10, .iconst 1, 1, 0), (11, .isub, 1, 0), (12, .invokevirtual 128, 3, 0), (15, .istore_n 2, 1, 0), (16, .aload_n 0, 1, 0), (17, .getfield 19, 3, 0), (20, .ifCond .ne 29, 3, 49), (23, .aload_n 1, 1, 0), (24, .getfield 118, 3, 0), (27, .iload_n 2, 1, 0), (28, .aaload, 1, 0), (29, .getfield 157, 3, 0), (32, .iconst (-1), 1, 0), (33, .if_icmp .ne 11, 3, 44), (36, .aload_n 1, 1, 0), (37, .iload_n 2, 1, 0), (38, .invokevirtual 160, 3, 0), (41, .ifCond .eq 8, 3, 49), (44, .aload_n 0, 1, 0), (45, .iconst 2, 1, 0), (46, .invokevirtual 84, 3, 0), (49, .aload_n 0, 1, 0), (50, .getfield 19, 3, 0), (53, .ifCond .eq 4, 3, 57), (56, .return_, 1, 0), (57, .aload_n 0, 1, 0), (58, .invokevirtual 30, 3, 0), (61, .aload_n 0, 1, 0), (62, .iconst 0, 1, 0), (63, .aload_n 1, 1, 0), (64, .getfield 109, 3, 0), (67, .iconst 1, 1, 0), (68, .isub, 1, 0), (69, .invokevirtual 128, 3, 0), (72, .istore_n 3, 1, 0), (73, .aload_n 0, 1, 0), (74, .getfield 19, 3, 0), (77, .ifCond .ne 26, 3, 103), (80, .iload_n 3, 1, 0), (81, .iload_n 2, 1, 0), (82, .if_icmp .eq 16, 3, 98), (85, .aload_n 1, 1, 0), (86, .getfield 118, 3, 0), (89, .iload_n 3, 1, 0), (90, .aaload, 1, 0), (91, .getfield 157, 3, 0), (94, .iconst (-1), 1, 0), (95, .if_icmp .eq 8, 3, 103), (98, .aload_n 0, 1, 0), (99, .iconst 2, 1, 0), (100, .invokevirtual 84, 3, 0), (103, .aload_n 0, 1, 0), (104, .getfield 19, 3, 0), (107, .ifCond .ne 17, 3, 124), (110, .aload_n 1, 1, 0), (111, .getfield 118, 3, 0), (114, .iload_n 2, 1, 0), (115, .aaload, 1, 0), (116, .iload_n 3, 1, 0), (117, .putfield 157, 3, 0), (120, .aload_n 0, 1, 0), (121, .invokevirtual 30, 3, 0), (124, .return_, 1, 0)], ([(109, 4, 3, 1, 2, 2), (19, 5, 5, 0, 1, 57), (118, 4, 4, 4, 2, 5), (157, 0, 3, 1, 1, 221)], [(30, 0, 63, 2, 160), (128, 0, 49, 3, 5), (160, 1, 36, 3, 60), (84, 0, 45, 2, 236)], [], [], []), (5, (3, 59), (1, 3), (3, 58), (0, 20)))
-- DoorSchool$Reader.stands(Ljava/lang/String;)Z
noncomputable def mr_62 : MR := ((yX5_stands, cX5_stands, 3, 1, (some .boolean)), [(0, .aload_n 0, 1, 0), (1, .getfield 33, 3, 0), (4, .iconst 1, 1, 0), (5, .if_icmp .ne 19, 3, 24), (8, .aload_n 0, 1, 0), (9, .getfield 22, 3, 0), (12, .aload_n 0, 1, 0), (13, .getfield 202, 3, 0), (16, .isub, 1, 0), (17, .aload_n 1, 1, 0), (18, .invokevirtual 205, 3, 0), (21, .if_icmp .eq 5, 3, 26), (24, .iconst 0, 1, 0), (25, .ireturn, 1, 0), (26, .iconst 0, 1, 0), (27, .istore_n 2, 1, 0), (28, .iload_n 2, 1, 0), (29, .aload_n 1, 1, 0), (30, .invokevirtual 205, 3, 0), (33, .if_icmp .ge 33, 3, 66), (36, .aload_n 0, 1, 0), (37, .getfield 15, 3, 0), (40, .getfield 210, 3, 0), (43, .aload_n 0, 1, 0), (44, .getfield 202, 3, 0), (47, .iload_n 2, 1, 0), (48, .iadd, 1, 0), (49, .baload, 1, 0), (50, .aload_n 1, 1, 0), (51, .iload_n 2, 1, 0), (52, .invokevirtual 216, 3, 0), (55, .if_icmp .eq 5, 3, 60), (58, .iconst 0, 1, 0), (59, .ireturn, 1, 0), (60, .iinc 2 1, 3, 0), (63, .goto (-35), 3, 28), (66, .iconst 1, 1, 0), (67, .ireturn, 1, 0)], ([(33, 5, 1, 0, 1, 53), (22, 5, 3, 0, 1, 55), (202, 5, 2, 0, 1, 54), (15, 5, 0, 3, 1, 52), (210, 8, 0, 4, 1, 36)], [], [], [], []), (5, (2, 183), (1, 3), (2, 182), (0, 6)))
-- DoorSchool$Reader.step()V
noncomputable def mr_63 : MR := ((yX5_step, cX5_step, 1, 0, none), [(0, .aload_n 0, 1, 0), (1, .aload_n 0, 1, 0), (2, .getfield 22, 3, 0), (5, .putfield 202, 3, 0), (8, .aload_n 0, 1, 0), (9, .getfield 202, 3, 0), (12, .aload_n 0, 1, 0), (13, .getfield 15, 3, 0), (16, .getfield 220, 3, 0), (19, .if_icmp .ge 34, 3, 53), (22, .aload_n 0, 1, 0), (23, .getfield 15, 3, 0), (26, .getfield 210, 3, 0), (29, .aload_n 0, 1, 0), (30, .getfield 202, 3, 0), (33, .baload, 1, 0), (34, .invokestatic 221, 3, 0), (37, .ifCond .eq 16, 3, 53), (40, .aload_n 0, 1, 0), (41, .dup, 1, 0), (42, .getfield 202, 3, 0), (45, .iconst 1, 1, 0), (46, .iadd, 1, 0), (47, .putfield 202, 3, 0), (50, .goto (-42), 3, 8), (53, .aload_n 0, 1, 0), (54, .aload_n 0, 1, 0), (55, .aload_n 0, 1, 0), (56, .getfield 202, 3, 0), (59, .invokevirtual 225, 3, 0), (62, .putfield 33, 3, 0), (65, .aload_n 0, 1, 0), (66, .iconst 0, 1, 0), (67, .putfield 199, 3, 0), (70, .aload_n 0, 1, 0), (71, .aload_n 0, 1, 0), (72, .getfield 202, 3, 0), (75, .putfield 22, 3, 0), (78, .aload_n 0, 1, 0), (79, .getfield 33, 3, 0), (82, .iconst 3, 1, 0), (83, .if_icmp .eq 11, 3, 94), (86, .aload_n 0, 1, 0), (87, .getfield 33, 3, 0), (90, .iconst 4, 1, 0), (91, .if_icmp .ne 13, 3, 104), (94, .aload_n 0, 1, 0), (95, .dup, 1, 0), (96, .getfield 22, 3, 0), (99, .iconst 1, 1, 0), (100, .iadd, 1, 0), (101, .putfield 22, 3, 0), (104, .aload_n 0, 1, 0), (105, .getfield 33, 3, 0), (108, .iconst 1, 1, 0), (109, .if_icmp .eq 11, 3, 120), (112, .aload_n 0, 1, 0), (113, .getfield 33, 3, 0), (116, .iconst 2, 1, 0), (117, .if_icmp .ne 85, 3, 202), (120, .aload_n 0, 1, 0), (121, .getfield 22, 3, 0), (124, .aload_n 0, 1, 0), (125, .getfield 15, 3, 0), (128, .getfield 220, 3, 0), (131, .if_icmp .ge 71, 3, 202), (134, .aload_n 0, 1, 0), (135, .aload_n 0, 1, 0), (136, .getfield 22, 3, 0), (139, .invokevirtual 225, 3, 0), (142, .aload_n 0, 1, 0), (143, .getfield 33, 3, 0), (146, .if_icmp .ne 56, 3, 202), (149, .aload_n 0, 1, 0), (150, .getfield 33, 3, 0), (153, .iconst 2, 1, 0), (154, .if_icmp .ne 35, 3, 189), (157, .aload_n 0, 1, 0), (158, .bipush 10, 2, 0), (160, .aload_n 0, 1, 0), (161, .getfield 199, 3, 0), (164, .imul, 1, 0), (165, .aload_n 0, 1, 0), (166, .getfield 15, 3, 0), (169, .getfield 210, 3, 0), (172, .aload_n 0, 1, 0), (173, .getfield 22, 3, 0), (176, .baload, 1, 0), (177, .iadd, 1, 0), (178, .bipush 48, 2, 0), (180, .isub, 1, 0), (181, .ldc 228, 2, 0), (183, .invokestatic 229, 3, 0), (186, .putfield 199, 3, 0), (189, .aload_n 0, 1, 0), (190, .dup, 1, 0), (191, .getfield 22, 3, 0), (194, .iconst 1, 1, 0), (195, .iadd, 1, 0), (196, .putfield 22, 3, 0), (199, .goto (-95), 3, 104), (202, .return_, 1, 0)], ([(22, 5, 3, 0, 1, 55), (202, 5, 2, 0, 1, 54), (15, 5, 0, 3, 1, 52), (220, 8, 1, 1, 1, 39), (210, 8, 0, 4, 1, 36), (33, 5, 1, 0, 1, 53), (199, 5, 4, 0, 1, 56)], [(221, 2, 47, 2, 164), (225, 0, 48, 2, 167)], [(228, 1000000, 2, 171)], [], []), (5, (2, 163), (1, 3), (2, 162), (0, 3)))
-- DoorSchool$Reader.takeNumber(II)I
noncomputable def mr_64 : MR := ((yX5_takeNumber, cX5_takeNumber, 4, 2, (some .int)), [(0, .aload_n 0, 1, 0), (1, .iload_n 1, 1, 0), (2, .iload_n 2, 1, 0), (3, .invokevirtual 128, 3, 0), (6, .istore_n 3, 1, 0), (7, .aload_n 0, 1, 0), (8, .getfield 19, 3, 0), (11, .ifCond .ne 7, 3, 18), (14, .aload_n 0, 1, 0), (15, .invokevirtual 30, 3, 0), (18, .iload_n 3, 1, 0), (19, .ireturn, 1, 0)], ([(19, 5, 5, 0, 1, 57)], [(128, 0, 49, 3, 5), (30, 0, 63, 2, 160)], [], [], []), (5, (3, 4), (1, 3), (3, 3), (0, 9)))
-- DoorSchool$Reader.takePart(I)I
noncomputable def mr_65 : MR := ((yX5_takePart, cX5_takePart, 3, 1, (some .int)), [(0, .aload_n 0, 1, 0), (1, .iconst 0, 1, 0), (2, .bipush 15, 2, 0), (4, .invokevirtual 128, 3, 0), (7, .istore_n 2, 1, 0), (8, .aload_n 0, 1, 0), (9, .getfield 19, 3, 0), (12, .ifCond .ne 16, 3, 28), (15, .iload_n 2, 1, 0), (16, .iload_n 1, 1, 0), (17, .iconst (-1), 1, 0), (18, .ixor, 1, 0), (19, .iand, 1, 0), (20, .ifCond .eq 8, 3, 28), (23, .aload_n 0, 1, 0), (24, .iconst 2, 1, 0), (25, .invokevirtual 84, 3, 0), (28, .aload_n 0, 1, 0), (29, .getfield 19, 3, 0), (32, .ifCond .ne 7, 3, 39), (35, .aload_n 0, 1, 0), (36, .invokevirtual 30, 3, 0), (39, .iload_n 2, 1, 0), (40, .ireturn, 1, 0)], ([(19, 5, 5, 0, 1, 57)], [(128, 0, 49, 3, 5), (84, 0, 45, 2, 236), (30, 0, 63, 2, 160)], [], [], []), (5, (3, 72), (1, 3), (3, 71), (0, 23)))
-- DoorSchool$Reader.takeWay()I
noncomputable def mr_66 : MR := ((yX5_takeWay, cX5_takeWay, 2, 0, (some .int)), [(0, .iconst (-1), 1, 0), (1, .istore_n 1, 1, 0), (2, .aload_n 0, 1, 0), (3, .ldc 193, 2, 0), (5, .invokevirtual 42, 3, 0), (8, .ifCond .eq 8, 3, 16), (11, .iconst 0, 1, 0), (12, .istore_n 1, 1, 0), (13, .goto 28, 3, 41), (16, .aload_n 0, 1, 0), (17, .ldc 195, 2, 0), (19, .invokevirtual 42, 3, 0), (22, .ifCond .eq 8, 3, 30), (25, .iconst 1, 1, 0), (26, .istore_n 1, 1, 0), (27, .goto 14, 3, 41), (30, .aload_n 0, 1, 0), (31, .ldc 197, 2, 0), (33, .invokevirtual 42, 3, 0), (36, .ifCond .eq 5, 3, 41), (39, .iconst 2, 1, 0), (40, .istore_n 1, 1, 0), (41, .aload_n 0, 1, 0), (42, .iload_n 1, 1, 0), (43, .iconst (-1), 1, 0), (44, .if_icmp .eq 7, 3, 51), (47, .iconst 1, 1, 0), (48, .goto 4, 3, 52), (51, .iconst 0, 1, 0), (52, .invokevirtual 88, 3, 0), (55, .iload_n 1, 1, 0), (56, .ireturn, 1, 0)], ([], [(42, 0, 62, 2, 180), (88, 0, 50, 2, 232)], [], [], []), (5, (3, 18), (1, 3), (3, 17), (0, 12)))
-- DoorSchool$Rules.addAllOf(I)V
noncomputable def mr_67 : MR := ((yX6_addAllOf, cX6_addAllOf, 3, 1, none), [(0, .iconst 0, 1, 0), (1, .istore_n 2, 1, 0), (2, .iload_n 2, 1, 0), (3, .iload_n 1, 1, 0), (4, .if_icmp .gt 71, 3, 75), (7, .aload_n 0, 1, 0), (8, .getfield 25, 3, 0), (11, .bipush 81, 2, 0), (13, .if_icmp .ge 62, 3, 75), (16, .iload_n 2, 1, 0), (17, .iload_n 1, 1, 0), (18, .iconst (-1), 1, 0), (19, .ixor, 1, 0), (20, .iand, 1, 0), (21, .ifCond .ne 48, 3, 69), (24, .aload_n 0, 1, 0), (25, .getfield 9, 3, 0), (28, .aload_n 0, 1, 0), (29, .getfield 25, 3, 0), (32, .iload_n 1, 1, 0), (33, .iastore, 1, 0), (34, .aload_n 0, 1, 0), (35, .getfield 15, 3, 0), (38, .aload_n 0, 1, 0), (39, .getfield 25, 3, 0), (42, .iload_n 2, 1, 0), (43, .iastore, 1, 0), (44, .aload_n 0, 1, 0), (45, .getfield 18, 3, 0), (48, .aload_n 0, 1, 0), (49, .getfield 25, 3, 0), (52, .aload_n 0, 1, 0), (53, .iload_n 1, 1, 0), (54, .iload_n 2, 1, 0), (55, .invokevirtual 38, 3, 0), (58, .iastore, 1, 0), (59, .aload_n 0, 1, 0), (60, .dup, 1, 0), (61, .getfield 25, 3, 0), (64, .iconst 1, 1, 0), (65, .iadd, 1, 0), (66, .putfield 25, 3, 0), (69, .iinc 2 1, 3, 0), (72, .goto (-70), 3, 2), (75, .return_, 1, 0)], ([(25, 6, 1, 0, 1, 84), (9, 6, 2, 3, 1, 86), (15, 6, 3, 3, 1, 88), (18, 6, 4, 3, 1, 90)], [(38, 0, 68, 3, 98)], [], [], []), (6, (3, 97), (1, 4), (3, 96), (0, 28)))
-- DoorSchool$Rules.deedsOf(II)I
noncomputable def mr_68 : MR := ((yX6_deedsOf, cX6_deedsOf, 5, 2, (some .int)), [(0, .iconst 0, 1, 0), (1, .istore_n 3, 1, 0), (2, .iconst 0, 1, 0), (3, .istore 4, 2, 0), (5, .iload 4, 2, 0), (7, .aload_n 0, 1, 0), (8, .getfield 21, 3, 0), (11, .if_icmp .ge 24, 3, 35), (14, .iload 4, 2, 0), (16, .iload_n 1, 1, 0), (17, .iand, 1, 0), (18, .iload_n 2, 1, 0), (19, .if_icmp .ne 10, 3, 29), (22, .iload_n 3, 1, 0), (23, .iconst 1, 1, 0), (24, .iload 4, 2, 0), (26, .ishl, 1, 0), (27, .ior, 1, 0), (28, .istore_n 3, 1, 0), (29, .iinc 4 1, 3, 0), (32, .goto (-27), 3, 5), (35, .iload_n 3, 1, 0), (36, .ireturn, 1, 0)], ([(21, 6, 0, 0, 1, 82)], [], [], [], []), (6, (3, 101), (1, 4), (3, 100), (0, 29)))
-- DoorSchool$Rules.first(II)I
noncomputable def mr_69 : MR := ((yX6_first, cX6_first, 4, 2, (some .int)), [(0, .iconst 0, 1, 0), (1, .istore_n 3, 1, 0), (2, .iload_n 3, 1, 0), (3, .aload_n 0, 1, 0), (4, .getfield 25, 3, 0), (7, .if_icmp .ge 25, 3, 32), (10, .aload_n 0, 1, 0), (11, .getfield 18, 3, 0), (14, .iload_n 3, 1, 0), (15, .iaload, 1, 0), (16, .iload_n 1, 1, 0), (17, .iload_n 2, 1, 0), (18, .invokestatic 42, 3, 0), (21, .ifCond .eq 5, 3, 26), (24, .iload_n 3, 1, 0), (25, .ireturn, 1, 0), (26, .iinc 3 1, 3, 0), (29, .goto (-27), 3, 2), (32, .iconst (-1), 1, 0), (33, .ireturn, 1, 0)], ([(25, 6, 1, 0, 1, 84), (18, 6, 4, 3, 1, 90)], [(42, 3, 91, 3, 169)], [], [], []), (6, (3, 168), (1, 4), (3, 167), (0, 38)))
-- DoorSchool$Rules.howMany(II)I
noncomputable def mr_70 : MR := ((yX6_howMany, cX6_howMany, 5, 2, (some .int)), [(0, .iconst 0, 1, 0), (1, .istore_n 3, 1, 0), (2, .iconst 0, 1, 0), (3, .istore 4, 2, 0), (5, .iload 4, 2, 0), (7, .aload_n 0, 1, 0), (8, .getfield 25, 3, 0), (11, .if_icmp .ge 27, 3, 38), (14, .aload_n 0, 1, 0), (15, .getfield 18, 3, 0), (18, .iload 4, 2, 0), (20, .iaload, 1, 0), (21, .iload_n 1, 1, 0), (22, .iload_n 2, 1, 0), (23, .invokestatic 42, 3, 0), (26, .ifCond .eq 6, 3, 32), (29, .iinc 3 1, 3, 0), (32, .iinc 4 1, 3, 0), (35, .goto (-30), 3, 5), (38, .iload_n 3, 1, 0), (39, .ireturn, 1, 0)], ([(25, 6, 1, 0, 1, 84), (18, 6, 4, 3, 1, 90)], [(42, 3, 91, 3, 169)], [], [], []), (6, (3, 211), (1, 4), (3, 210), (0, 41)))
-- DoorSchool$Rules.<init>()V
noncomputable def mr_71 : MR := ((yX6_init, cX6_init, 1, 0, none), [(0, .aload_n 0, 1, 0), (1, .invokespecial 3, 3, 0), (4, .aload_n 0, 1, 0), (5, .bipush 81, 2, 0), (7, .newarray .int, 2, 0), (9, .putfield 9, 3, 0), (12, .aload_n 0, 1, 0), (13, .bipush 81, 2, 0), (15, .newarray .int, 2, 0), (17, .putfield 15, 3, 0), (20, .aload_n 0, 1, 0), (21, .bipush 81, 2, 0), (23, .newarray .int, 2, 0), (25, .putfield 18, 3, 0), (28, .return_, 1, 0)], ([(9, 6, 2, 2, 1, 86), (15, 6, 3, 2, 1, 88), (18, 6, 4, 2, 1, 90)], [(3, 9, 0, 1, 81)], [], [], []), (6, (1, 80), (1, 4), (1, 79), (0, 0)))
-- DoorSchool$Rules.placeOf(I)I
noncomputable def mr_72 : MR := ((yX6_placeOf, cX6_placeOf, 3, 1, (some .int)), [(0, .iconst 0, 1, 0), (1, .istore_n 2, 1, 0), (2, .iload_n 2, 1, 0), (3, .aload_n 0, 1, 0), (4, .getfield 25, 3, 0), (7, .if_icmp .ge 21, 3, 28), (10, .aload_n 0, 1, 0), (11, .getfield 18, 3, 0), (14, .iload_n 2, 1, 0), (15, .iaload, 1, 0), (16, .iload_n 1, 1, 0), (17, .if_icmp .ne 5, 3, 22), (20, .iload_n 2, 1, 0), (21, .ireturn, 1, 0), (22, .iinc 2 1, 3, 0), (25, .goto (-23), 3, 2), (28, .iconst (-1), 1, 0), (29, .ireturn, 1, 0)], ([(25, 6, 1, 0, 1, 84), (18, 6, 4, 3, 1, 90)], [], [], [], []), (6, (3, 232), (1, 4), (3, 231), (0, 44)))
-- DoorSchool$Rules.prepare(I)V
noncomputable def mr_73 : MR := ((yX6_prepare, cX6_prepare, 4, 1, none), [(0, .aload_n 0, 1, 0), (1, .iconst 1, 1, 0), (2, .iload_n 1, 1, 0), (3, .ishl, 1, 0), (4, .putfield 21, 3, 0), (7, .aload_n 0, 1, 0), (8, .iconst 0, 1, 0), (9, .putfield 25, 3, 0), (12, .iconst 0, 1, 0), (13, .istore_n 2, 1, 0), (14, .iload_n 2, 1, 0), (15, .iload_n 1, 1, 0), (16, .if_icmp .gt 38, 3, 54), (19, .iconst 0, 1, 0), (20, .istore_n 3, 1, 0), (21, .iload_n 3, 1, 0), (22, .aload_n 0, 1, 0), (23, .getfield 21, 3, 0), (26, .if_icmp .ge 22, 3, 48), (29, .iload_n 3, 1, 0), (30, .invokestatic 28, 3, 0), (33, .iload_n 2, 1, 0), (34, .if_icmp .ne 8, 3, 42), (37, .aload_n 0, 1, 0), (38, .iload_n 3, 1, 0), (39, .invokevirtual 34, 3, 0), (42, .iinc 3 1, 3, 0), (45, .goto (-24), 3, 21), (48, .iinc 2 1, 3, 0), (51, .goto (-37), 3, 14), (54, .return_, 1, 0)], ([(21, 6, 0, 0, 1, 82), (25, 6, 1, 0, 1, 84)], [(28, 2, 0, 3, 93), (34, 0, 67, 3, 94)], [], [], []), (6, (3, 92), (1, 4), (3, 91), (0, 27)))
-- DoorSchool$Rules.surely(IIZ)I
noncomputable def mr_74 : MR := ((yX6_surely, cX6_surely, 6, 3, (some .int)), [(0, .iconst 1, 1, 0), (1, .aload_n 0, 1, 0), (2, .getfield 21, 3, 0), (5, .ishl, 1, 0), (6, .iconst 1, 1, 0), (7, .isub, 1, 0), (8, .istore 4, 2, 0), (10, .iconst 0, 1, 0), (11, .istore 5, 2, 0), (13, .iload 5, 2, 0), (15, .aload_n 0, 1, 0), (16, .getfield 25, 3, 0), (19, .if_icmp .ge 52, 3, 71), (22, .aload_n 0, 1, 0), (23, .getfield 18, 3, 0), (26, .iload 5, 2, 0), (28, .iaload, 1, 0), (29, .iload_n 1, 1, 0), (30, .iload_n 2, 1, 0), (31, .invokestatic 42, 3, 0), (34, .ifCond .eq 31, 3, 65), (37, .iload 4, 2, 0), (39, .iload_n 3, 1, 0), (40, .ifCond .eq 13, 3, 53), (43, .aload_n 0, 1, 0), (44, .getfield 18, 3, 0), (47, .iload 5, 2, 0), (49, .iaload, 1, 0), (50, .goto 12, 3, 62), (53, .aload_n 0, 1, 0), (54, .getfield 18, 3, 0), (57, .iload 5, 2, 0), (59, .iaload, 1, 0), (60, .iconst (-1), 1, 0), (61, .ixor, 1, 0), (62, .iand, 1, 0), (63, .istore 4, 2, 0), (65, .iinc 5 1, 3, 0), (68, .goto (-55), 3, 13), (71, .iload 4, 2, 0), (73, .ireturn, 1, 0)], ([(21, 6, 0, 0, 1, 82), (25, 6, 1, 0, 1, 84), (18, 6, 4, 3, 1, 90)], [(42, 3, 91, 3, 169)], [], [], []), (6, (5, 31), (1, 4), (5, 30), (0, 74)))
-- DoorSchool$Slot.begin(II)V
noncomputable def mr_75 : MR := ((yX7_begin, cX7_begin, 3, 2, none), [(0, .aload_n 0, 1, 0), (1, .iconst 1, 1, 0), (2, .putfield 15, 3, 0), (5, .aload_n 0, 1, 0), (6, .iload_n 1, 1, 0), (7, .putfield 19, 3, 0), (10, .aload_n 0, 1, 0), (11, .iload_n 2, 1, 0), (12, .putfield 23, 3, 0), (15, .aload_n 0, 1, 0), (16, .getfield 9, 3, 0), (19, .lconst 0, 1, 0), (20, .invokestatic 26, 3, 0), (23, .return_, 1, 0)], ([(15, 7, 1, 0, 2, 82), (19, 7, 2, 0, 2, 84), (23, 7, 3, 0, 2, 86), (9, 7, 0, 3, 2, 80)], [(26, 2, 2, 5, 164)], [], [], []), (7, (5, 163), (1, 12), (5, 162), (0, 88)))
-- DoorSchool$Slot.has(II)Z
noncomputable def mr_76 : MR := ((yX7_has, cX7_has, 3, 2, (some .boolean)), [(0, .iload_n 2, 1, 0), (1, .ifCond .lt 21, 3, 22), (4, .iload_n 1, 1, 0), (5, .ifCond .lt 17, 3, 22), (8, .iload_n 1, 1, 0), (9, .aload_n 0, 1, 0), (10, .getfield 23, 3, 0), (13, .iload_n 2, 1, 0), (14, .isub, 1, 0), (15, .if_icmp .gt 7, 3, 22), (18, .iconst 1, 1, 0), (19, .goto 4, 3, 23), (22, .iconst 0, 1, 0), (23, .ireturn, 1, 0)], ([(23, 7, 3, 0, 2, 86)], [], [], [], []), (7, (5, 182), (1, 12), (5, 181), (0, 90)))
-- DoorSchool$Slot.<init>()V
noncomputable def mr_77 : MR := ((yX7_init, cX7_init, 1, 0, none), [(0, .aload_n 0, 1, 0), (1, .invokespecial 3, 3, 0), (4, .aload_n 0, 1, 0), (5, .bipush 60, 2, 0), (7, .newarray .long, 2, 0), (9, .putfield 9, 3, 0), (12, .return_, 1, 0)], ([(9, 7, 0, 2, 2, 80)], [(3, 9, 0, 2, 79)], [], [], []), (7, (2, 78), (1, 12), (2, 77), (0, 0)))
-- DoorSchool$Slot.isPairs(I)Z
noncomputable def mr_78 : MR := ((yX7_isPairs, cX7_isPairs, 7, 1, (some .boolean)), [(0, .iconst 0, 1, 0), (1, .istore_n 2, 1, 0), (2, .iload_n 2, 1, 0), (3, .iconst 1, 1, 0), (4, .iadd, 1, 0), (5, .aload_n 0, 1, 0), (6, .getfield 23, 3, 0), (9, .if_icmp .ge 55, 3, 64), (12, .aload_n 0, 1, 0), (13, .getfield 9, 3, 0), (16, .iload_n 2, 1, 0), (17, .laload, 1, 0), (18, .lstore_n 3, 1, 0), (19, .aload_n 0, 1, 0), (20, .getfield 9, 3, 0), (23, .iload_n 2, 1, 0), (24, .iconst 1, 1, 0), (25, .iadd, 1, 0), (26, .laload, 1, 0), (27, .lstore 5, 2, 0), (29, .lload_n 3, 1, 0), (30, .lconst 0, 1, 0), (31, .lcmp, 1, 0), (32, .ifCond .lt 24, 3, 56), (35, .lload_n 3, 1, 0), (36, .iload_n 1, 1, 0), (37, .i2l, 1, 0), (38, .lcmp, 1, 0), (39, .ifCond .ge 17, 3, 56), (42, .lload 5, 2, 0), (44, .lconst 0, 1, 0), (45, .lcmp, 1, 0), (46, .ifCond .lt 10, 3, 56), (49, .lload 5, 2, 0), (51, .lconst 1, 1, 0), (52, .lcmp, 1, 0), (53, .ifCond .le 5, 3, 58), (56, .iconst 0, 1, 0), (57, .ireturn, 1, 0), (58, .iinc 2 2, 3, 0), (61, .goto (-59), 3, 2), (64, .aload_n 0, 1, 0), (65, .getfield 23, 3, 0), (68, .iconst 2, 1, 0), (69, .irem, 1, 0), (70, .ifCond .ne 7, 3, 77), (73, .iconst 1, 1, 0), (74, .goto 4, 3, 78), (77, .iconst 0, 1, 0), (78, .ireturn, 1, 0)], ([(23, 7, 3, 0, 2, 86), (9, 7, 0, 3, 2, 80)], [], [], [], []), (7, (4, 210), (1, 12), (4, 209), (0, 68)))
-- DoorSchool$Slot.put(IJ)V
noncomputable def mr_79 : MR := ((yX7_put, cX7_put, 5, 2, none), [(0, .bipush 64, 2, 0), (2, .bipush 8, 2, 0), (4, .aload_n 0, 1, 0), (5, .getfield 19, 3, 0), (8, .ishl, 1, 0), (9, .isub, 1, 0), (10, .istore 4, 2, 0), (12, .aload_n 0, 1, 0), (13, .getfield 9, 3, 0), (16, .iload_n 1, 1, 0), (17, .lload_n 2, 1, 0), (18, .iload 4, 2, 0), (20, .lshl, 1, 0), (21, .iload 4, 2, 0), (23, .lshr, 1, 0), (24, .lastore, 1, 0), (25, .return_, 1, 0)], ([(19, 7, 2, 0, 2, 84), (9, 7, 0, 3, 2, 80)], [], [], [], []), (7, (5, 174), (1, 12), (5, 173), (0, 89)))
-- DoorSchool$Slot.said(I)I
noncomputable def mr_80 : MR := ((yX7_said, cX7_said, 4, 1, (some .int)), [(0, .iconst 0, 1, 0), (1, .istore_n 2, 1, 0), (2, .iconst 0, 1, 0), (3, .istore_n 3, 1, 0), (4, .iload_n 3, 1, 0), (5, .iconst 1, 1, 0), (6, .iadd, 1, 0), (7, .aload_n 0, 1, 0), (8, .getfield 23, 3, 0), (11, .if_icmp .ge 35, 3, 46), (14, .aload_n 0, 1, 0), (15, .getfield 9, 3, 0), (18, .iload_n 3, 1, 0), (19, .iconst 1, 1, 0), (20, .iadd, 1, 0), (21, .laload, 1, 0), (22, .iload_n 1, 1, 0), (23, .i2l, 1, 0), (24, .lcmp, 1, 0), (25, .ifCond .ne 15, 3, 40), (28, .iload_n 2, 1, 0), (29, .iconst 1, 1, 0), (30, .aload_n 0, 1, 0), (31, .getfield 9, 3, 0), (34, .iload_n 3, 1, 0), (35, .laload, 1, 0), (36, .l2i, 1, 0), (37, .ishl, 1, 0), (38, .ior, 1, 0), (39, .istore_n 2, 1, 0), (40, .iinc 3 2, 3, 0), (43, .goto (-39), 3, 4), (46, .iload_n 2, 1, 0), (47, .ireturn, 1, 0)], ([(23, 7, 3, 0, 2, 86), (9, 7, 0, 3, 2, 80)], [], [], [], []), (7, (4, 214), (1, 12), (4, 213), (0, 69)))
-- DoorSchool$Tape.append(I)V
noncomputable def mr_81 : MR := ((yX8_append, cX8_append, 3, 1, none), [(0, .bipush 24, 2, 0), (2, .istore_n 2, 1, 0), (3, .iload_n 2, 1, 0), (4, .ifCond .lt 44, 3, 48), (7, .aload_n 0, 1, 0), (8, .getfield 15, 3, 0), (11, .aload_n 0, 1, 0), (12, .getfield 9, 3, 0), (15, .arraylength, 1, 0), (16, .if_icmp .ge 32, 3, 48), (19, .aload_n 0, 1, 0), (20, .getfield 9, 3, 0), (23, .aload_n 0, 1, 0), (24, .getfield 15, 3, 0), (27, .iload_n 1, 1, 0), (28, .iload_n 2, 1, 0), (29, .iushr, 1, 0), (30, .i2b, 1, 0), (31, .bastore, 1, 0), (32, .aload_n 0, 1, 0), (33, .dup, 1, 0), (34, .getfield 15, 3, 0), (37, .iconst 1, 1, 0), (38, .iadd, 1, 0), (39, .putfield 15, 3, 0), (42, .iinc 2 (-8), 3, 0), (45, .goto (-42), 3, 3), (48, .return_, 1, 0)], ([(15, 8, 1, 0, 1, 38), (9, 8, 0, 3, 1, 35)], [], [], [], []), (8, (2, 140), (1, 2), (2, 139), (0, 0)))
-- DoorSchool$Tape.<init>()V
noncomputable def mr_82 : MR := ((yX8_init, cX8_init, 1, 0, none), [(0, .aload_n 0, 1, 0), (1, .invokespecial 3, 3, 0), (4, .aload_n 0, 1, 0), (5, .sipush 1600, 3, 0), (8, .newarray .byte, 2, 0), (10, .putfield 9, 3, 0), (13, .return_, 1, 0)], ([(9, 8, 0, 2, 1, 35)], [(3, 9, 0, 1, 34)], [], [], []), (8, (1, 33), (1, 2), (1, 32), (0, 0)))
-- DoorSchool$Timetable.earliest(LDoorSchool$Plan;I)I
noncomputable def mr_83 : MR := ((yX9_earliest, cX9_earliest, 5, 2, (some .int)), [(0, .iconst 0, 1, 0), (1, .istore_n 3, 1, 0), (2, .aload_n 0, 1, 0), (3, .aload_n 1, 1, 0), (4, .iload_n 2, 1, 0), (5, .invokevirtual 70, 3, 0), (8, .istore 4, 2, 0), (10, .iload 4, 2, 0), (12, .bipush 54, 2, 0), (14, .if_icmp .ge 48, 3, 62), (17, .aload_n 0, 1, 0), (18, .getfield 11, 3, 0), (21, .iload 4, 2, 0), (23, .iaload, 1, 0), (24, .aload_n 0, 1, 0), (25, .getfield 21, 3, 0), (28, .if_icmp .ge 9, 3, 37), (31, .iload_n 3, 1, 0), (32, .iconst 1, 1, 0), (33, .iadd, 1, 0), (34, .goto 4, 3, 38), (37, .iconst 0, 1, 0), (38, .istore_n 3, 1, 0), (39, .iload_n 3, 1, 0), (40, .aload_n 1, 1, 0), (41, .getfield 58, 3, 0), (44, .iload_n 2, 1, 0), (45, .iaload, 1, 0), (46, .if_icmp .ne 10, 3, 56), (49, .iload 4, 2, 0), (51, .iconst 1, 1, 0), (52, .iadd, 1, 0), (53, .iload_n 3, 1, 0), (54, .isub, 1, 0), (55, .ireturn, 1, 0), (56, .iinc 4 1, 3, 0), (59, .goto (-49), 3, 10), (62, .bipush 54, 2, 0), (64, .ireturn, 1, 0)], ([(11, 9, 0, 3, 1, 157), (21, 9, 3, 0, 1, 161), (58, 4, 12, 4, 2, 30)], [(70, 0, 88, 5, 78)], [], [], []), (9, (5, 77), (1, 8), (5, 76), (0, 80)))
-- DoorSchool$Timetable.<init>()V
noncomputable def mr_84 : MR := ((yX9_init, cX9_init, 1, 0, none), [(0, .aload_n 0, 1, 0), (1, .invokespecial 3, 3, 0), (4, .aload_n 0, 1, 0), (5, .bipush 54, 2, 0), (7, .newarray .int, 2, 0), (9, .putfield 11, 3, 0), (12, .aload_n 0, 1, 0), (13, .bipush 6, 2, 0), (15, .newarray .int, 2, 0), (17, .putfield 15, 3, 0), (20, .aload_n 0, 1, 0), (21, .bipush 6, 2, 0), (23, .newarray .int, 2, 0), (25, .putfield 18, 3, 0), (28, .return_, 1, 0)], ([(11, 9, 0, 2, 1, 157), (15, 9, 1, 2, 1, 158), (18, 9, 2, 2, 1, 159)], [(3, 9, 0, 1, 156)], [], [], []), (9, (1, 155), (1, 8), (1, 154), (0, 0)))
-- DoorSchool$Timetable.isEarlier()Z
noncomputable def mr_85 : MR := ((yX9_isEarlier, cX9_isEarlier, 2, 0, (some .boolean)), [(0, .iconst 0, 1, 0), (1, .istore_n 1, 1, 0), (2, .iload_n 1, 1, 0), (3, .bipush 6, 2, 0), (5, .if_icmp .ge 45, 3, 50), (8, .aload_n 0, 1, 0), (9, .getfield 15, 3, 0), (12, .iload_n 1, 1, 0), (13, .iaload, 1, 0), (14, .aload_n 0, 1, 0), (15, .getfield 18, 3, 0), (18, .iload_n 1, 1, 0), (19, .iaload, 1, 0), (20, .if_icmp .eq 24, 3, 44), (23, .aload_n 0, 1, 0), (24, .getfield 15, 3, 0), (27, .iload_n 1, 1, 0), (28, .iaload, 1, 0), (29, .aload_n 0, 1, 0), (30, .getfield 18, 3, 0), (33, .iload_n 1, 1, 0), (34, .iaload, 1, 0), (35, .if_icmp .ge 7, 3, 42), (38, .iconst 1, 1, 0), (39, .goto 4, 3, 43), (42, .iconst 0, 1, 0), (43, .ireturn, 1, 0), (44, .iinc 1 1, 3, 0), (47, .goto (-45), 3, 2), (50, .iconst 0, 1, 0), (51, .ireturn, 1, 0)], ([(15, 9, 1, 3, 1, 158), (18, 9, 2, 3, 1, 159)], [], [], [], []), (9, (5, 71), (1, 8), (5, 70), (0, 79)))
-- DoorSchool$Timetable.keepIfFirst(I)V
noncomputable def mr_86 : MR := ((yX9_keepIfFirst, cX9_keepIfFirst, 2, 1, none), [(0, .iload_n 1, 1, 0), (1, .aload_n 0, 1, 0), (2, .getfield 25, 3, 0), (5, .if_icmp .gt 18, 3, 23), (8, .iload_n 1, 1, 0), (9, .aload_n 0, 1, 0), (10, .getfield 25, 3, 0), (13, .if_icmp .ne 11, 3, 24), (16, .aload_n 0, 1, 0), (17, .invokevirtual 73, 3, 0), (20, .ifCond .ne 4, 3, 24), (23, .return_, 1, 0), (24, .aload_n 0, 1, 0), (25, .iload_n 1, 1, 0), (26, .putfield 25, 3, 0), (29, .aload_n 0, 1, 0), (30, .getfield 15, 3, 0), (33, .iconst 0, 1, 0), (34, .aload_n 0, 1, 0), (35, .getfield 18, 3, 0), (38, .iconst 0, 1, 0), (39, .bipush 6, 2, 0), (41, .invokestatic 77, 3, 0), (44, .return_, 1, 0)], ([(25, 9, 4, 0, 1, 162), (15, 9, 1, 3, 1, 158), (18, 9, 2, 3, 1, 159)], [(73, 0, 85, 5, 68), (77, 8, 0, 5, 72)], [], [], []), (9, (5, 67), (1, 8), (5, 66), (0, 78)))
-- DoorSchool$Timetable.placeFrom(LDoorSchool$Timetable;LDoorSchool$Plan;III)V
noncomputable def mr_87 : MR := ((yX9_placeFrom, cX9_placeFrom, 8, 5, none), [(0, .iload_n 2, 1, 0), (1, .aload_n 1, 1, 0), (2, .getfield 38, 3, 0), (5, .if_icmp .ge 9, 3, 14), (8, .iload_n 2, 1, 0), (9, .bipush 6, 2, 0), (11, .if_icmp .lt 10, 3, 21), (14, .aload_n 0, 1, 0), (15, .iload 4, 2, 0), (17, .invokevirtual 43, 3, 0), (20, .return_, 1, 0), (21, .iconst 0, 1, 0), (22, .istore 5, 2, 0), (24, .iload 5, 2, 0), (26, .aload_n 1, 1, 0), (27, .getfield 38, 3, 0), (30, .if_icmp .ge 117, 3, 147), (33, .iload_n 3, 1, 0), (34, .iload 5, 2, 0), (36, .invokestatic 47, 3, 0), (39, .ifCond .ne 102, 3, 141), (42, .aload_n 1, 1, 0), (43, .getfield 51, 3, 0), (46, .iload 5, 2, 0), (48, .iaload, 1, 0), (49, .iload_n 3, 1, 0), (50, .iconst (-1), 1, 0), (51, .ixor, 1, 0), (52, .iand, 1, 0), (53, .ifCond .ne 88, 3, 141), (56, .aload_n 0, 1, 0), (57, .aload_n 1, 1, 0), (58, .iload 5, 2, 0), (60, .invokevirtual 54, 3, 0), (63, .istore 6, 2, 0), (65, .iload 6, 2, 0), (67, .aload_n 1, 1, 0), (68, .getfield 58, 3, 0), (71, .iload 5, 2, 0), (73, .iaload, 1, 0), (74, .iadd, 1, 0), (75, .istore 7, 2, 0), (77, .iload 7, 2, 0), (79, .aload_n 0, 1, 0), (80, .getfield 25, 3, 0), (83, .if_icmp .gt 58, 3, 141), (86, .iload 7, 2, 0), (88, .bipush 54, 2, 0), (90, .if_icmp .gt 51, 3, 141), (93, .aload_n 0, 1, 0), (94, .getfield 15, 3, 0), (97, .iload 5, 2, 0), (99, .iload 6, 2, 0), (101, .iastore, 1, 0), (102, .aload_n 0, 1, 0), (103, .iload 6, 2, 0), (105, .iload 7, 2, 0), (107, .iconst 1, 1, 0), (108, .invokevirtual 61, 3, 0), (111, .aload_n 0, 1, 0), (112, .aload_n 1, 1, 0), (113, .iload_n 2, 1, 0), (114, .iconst 1, 1, 0), (115, .iadd, 1, 0), (116, .iload_n 3, 1, 0), (117, .iconst 1, 1, 0), (118, .iload 5, 2, 0), (120, .ishl, 1, 0), (121, .ior, 1, 0), (122, .iload 4, 2, 0), (124, .iload 7, 2, 0), (126, .invokestatic 65, 3, 0), (129, .invokestatic 34, 3, 0), (132, .aload_n 0, 1, 0), (133, .iload 6, 2, 0), (135, .iload 7, 2, 0), (137, .iconst (-1), 1, 0), (138, .invokevirtual 61, 3, 0), (141, .iinc 5 1, 3, 0), (144, .goto (-120), 3, 24), (147, .return_, 1, 0)], ([(38, 4, 11, 1, 2, 26), (51, 4, 13, 4, 2, 33), (58, 4, 12, 4, 2, 30), (25, 9, 4, 0, 1, 162), (15, 9, 1, 3, 1, 158)], [(43, 0, 86, 5, 64), (47, 3, 99, 5, 73), (54, 0, 83, 5, 74), (61, 0, 90, 5, 83), (34, 2, 87, 5, 61)], [], [], []), (9, (5, 63), (1, 8), (5, 62), (0, 0)))
-- DoorSchool$Timetable.readyAt(LDoorSchool$Plan;I)I
noncomputable def mr_88 : MR := ((yX9_readyAt, cX9_readyAt, 5, 2, (some .int)), [(0, .iconst 0, 1, 0), (1, .istore_n 3, 1, 0), (2, .iconst 0, 1, 0), (3, .istore 4, 2, 0), (5, .iload 4, 2, 0), (7, .iload_n 2, 1, 0), (8, .if_icmp .ge 44, 3, 52), (11, .aload_n 1, 1, 0), (12, .getfield 51, 3, 0), (15, .iload_n 2, 1, 0), (16, .iaload, 1, 0), (17, .iload 4, 2, 0), (19, .invokestatic 47, 3, 0), (22, .iconst 1, 1, 0), (23, .if_icmp .ne 23, 3, 46), (26, .iload_n 3, 1, 0), (27, .aload_n 0, 1, 0), (28, .getfield 15, 3, 0), (31, .iload 4, 2, 0), (33, .iaload, 1, 0), (34, .aload_n 1, 1, 0), (35, .getfield 58, 3, 0), (38, .iload 4, 2, 0), (40, .iaload, 1, 0), (41, .iadd, 1, 0), (42, .invokestatic 65, 3, 0), (45, .istore_n 3, 1, 0), (46, .iinc 4 1, 3, 0), (49, .goto (-44), 3, 5), (52, .iload_n 3, 1, 0), (53, .ireturn, 1, 0)], ([(51, 4, 13, 4, 2, 33), (15, 9, 1, 3, 1, 158), (58, 4, 12, 4, 2, 30)], [(47, 3, 99, 5, 73)], [], [], []), (9, (5, 81), (1, 8), (5, 80), (0, 81)))
-- DoorSchool$Timetable.solve(LDoorSchool$Plan;I)I
noncomputable def mr_89 : MR := ((yX9_solve, cX9_solve, 3, 2, (some .int)), [(0, .aload_n 0, 1, 0), (1, .iload_n 2, 1, 0), (2, .putfield 21, 3, 0), (5, .aload_n 0, 1, 0), (6, .bipush 55, 2, 0), (8, .putfield 25, 3, 0), (11, .aload_n 0, 1, 0), (12, .getfield 15, 3, 0), (15, .iconst 0, 1, 0), (16, .invokestatic 28, 3, 0), (19, .aload_n 0, 1, 0), (20, .aload_n 1, 1, 0), (21, .iconst 0, 1, 0), (22, .iconst 0, 1, 0), (23, .iconst 0, 1, 0), (24, .invokestatic 34, 3, 0), (27, .aload_n 0, 1, 0), (28, .getfield 25, 3, 0), (31, .ireturn, 1, 0)], ([(21, 9, 3, 0, 1, 161), (25, 9, 4, 0, 1, 162), (15, 9, 1, 3, 1, 158)], [(28, 2, 1, 5, 60), (34, 2, 87, 5, 61)], [], [], []), (9, (5, 59), (1, 8), (5, 58), (0, 77)))
-- DoorSchool$Timetable.work(III)V
noncomputable def mr_90 : MR := ((yX9_work, cX9_work, 5, 3, none), [(0, .iload_n 1, 1, 0), (1, .istore 4, 2, 0), (3, .iload 4, 2, 0), (5, .iload_n 2, 1, 0), (6, .if_icmp .ge 27, 3, 33), (9, .iload 4, 2, 0), (11, .bipush 54, 2, 0), (13, .if_icmp .ge 20, 3, 33), (16, .aload_n 0, 1, 0), (17, .getfield 11, 3, 0), (20, .iload 4, 2, 0), (22, .dup2, 1, 0), (23, .iaload, 1, 0), (24, .iload_n 3, 1, 0), (25, .iadd, 1, 0), (26, .iastore, 1, 0), (27, .iinc 4 1, 3, 0), (30, .goto (-27), 3, 3), (33, .return_, 1, 0)], ([(11, 9, 0, 3, 1, 157)], [], [], [], []), (9, (5, 86), (1, 8), (5, 85), (0, 82)))
-- DoorSchool.agree(III)Z
noncomputable def mr_91 : MR := ((yX10_agree, cX10_agree, 3, 3, (some .boolean)), [(0, .iload_n 1, 1, 0), (1, .iload_n 0, 1, 0), (2, .iconst (-1), 1, 0), (3, .ixor, 1, 0), (4, .iand, 1, 0), (5, .ifCond .ne 13, 3, 18), (8, .iload_n 2, 1, 0), (9, .iload_n 0, 1, 0), (10, .iand, 1, 0), (11, .ifCond .ne 7, 3, 18), (14, .iconst 1, 1, 0), (15, .goto 4, 3, 19), (18, .iconst 0, 1, 0), (19, .ireturn, 1, 0)], ([], [], [], [], []), (10, (3, 171), (1, 1), (3, 170), (0, 0)))
-- DoorSchool.alike(I)I
noncomputable def mr_92 : MR := ((yX10_alike, cX10_alike, 4, 1, (some .int)), [(0, .aload_n 0, 1, 0), (1, .getfield 58, 3, 0), (4, .iload_n 1, 1, 0), (5, .invokevirtual 107, 3, 0), (8, .ifCond .ne 6, 3, 14), (11, .bipush (-2), 2, 0), (13, .ireturn, 1, 0), (14, .iconst 0, 1, 0), (15, .istore_n 2, 1, 0), (16, .iconst 0, 1, 0), (17, .istore_n 3, 1, 0), (18, .iload_n 3, 1, 0), (19, .aload_n 0, 1, 0), (20, .getfield 58, 3, 0), (23, .getfield 224, 3, 0), (26, .if_icmp .ge 33, 3, 59), (29, .iload_n 3, 1, 0), (30, .iload_n 1, 1, 0), (31, .if_icmp .eq 22, 3, 53), (34, .aload_n 0, 1, 0), (35, .iload_n 3, 1, 0), (36, .invokevirtual 178, 3, 0), (39, .aload_n 0, 1, 0), (40, .iload_n 1, 1, 0), (41, .invokevirtual 178, 3, 0), (44, .if_icmp .ne 9, 3, 53), (47, .iload_n 2, 1, 0), (48, .iconst 1, 1, 0), (49, .iload_n 3, 1, 0), (50, .ishl, 1, 0), (51, .ior, 1, 0), (52, .istore_n 2, 1, 0), (53, .iinc 3 1, 3, 0), (56, .goto (-38), 3, 18), (59, .iload_n 2, 1, 0), (60, .ireturn, 1, 0)], ([(58, 10, 9, 0, 2, 108), (224, 4, 3, 1, 2, 3)], [(107, 1, 38, 3, 110), (178, 0, 105, 3, 149)], [], [], []), (10, (4, 219), (1, 1), (4, 217), (4, 218)))
-- DoorSchool.amiss(II)I
noncomputable def mr_93 : MR := ((yX10_amiss, cX10_amiss, 3, 2, (some .int)), [(0, .aload_n 0, 1, 0), (1, .getfield 58, 3, 0), (4, .iload_n 1, 1, 0), (5, .invokevirtual 107, 3, 0), (8, .ifCond .eq 14, 3, 22), (11, .aload_n 0, 1, 0), (12, .getfield 58, 3, 0), (15, .iload_n 2, 1, 0), (16, .invokevirtual 150, 3, 0), (19, .ifCond .ne 6, 3, 25), (22, .bipush (-2), 2, 0), (24, .ireturn, 1, 0), (25, .aload_n 0, 1, 0), (26, .iload_n 1, 1, 0), (27, .invokevirtual 178, 3, 0), (30, .aload_n 0, 1, 0), (31, .iload_n 2, 1, 0), (32, .invokevirtual 319, 3, 0), (35, .ixor, 1, 0), (36, .invokestatic 169, 3, 0), (39, .ireturn, 1, 0)], ([(58, 10, 9, 0, 2, 108)], [(107, 1, 38, 3, 110), (150, 1, 39, 3, 133), (178, 0, 105, 3, 149), (319, 0, 130, 4, 233), (169, 2, 0, 3, 138)], [], [], []), (10, (5, 19), (1, 1), (5, 17), (5, 18)))
-- DoorSchool.ask(I)I
noncomputable def mr_94 : MR := ((yX10_ask, cX10_ask, 3, 1, (some .int)), [(0, .aload_n 0, 1, 0), (1, .iload_n 1, 1, 0), (2, .invokevirtual 300, 3, 0), (5, .istore_n 2, 1, 0), (6, .iload_n 2, 1, 0), (7, .ifCond .eq 7, 3, 14), (10, .iload_n 2, 1, 0), (11, .goto 13, 3, 24), (14, .aload_n 0, 1, 0), (15, .aload_n 0, 1, 0), (16, .getfield 75, 3, 0), (19, .iload_n 1, 1, 0), (20, .aaload, 1, 0), (21, .invokevirtual 326, 3, 0), (24, .ireturn, 1, 0)], ([(75, 10, 6, 3, 2, 105)], [(300, 0, 171, 4, 200), (326, 0, 95, 5, 36)], [], [], []), (10, (5, 35), (1, 1), (5, 33), (5, 34)))
-- DoorSchool.askedOf(LDoorSchool$Slot;)I
noncomputable def mr_95 : MR := ((yX10_askedOf, cX10_askedOf, 6, 1, (some .int)), [(0, .iconst (-1), 1, 0), (1, .istore_n 2, 1, 0), (2, .aload_n 0, 1, 0), (3, .getfield 28, 3, 0), (6, .aload_n 1, 1, 0), (7, .iconst 1, 1, 0), (8, .invokevirtual 303, 3, 0), (11, .aload_n 1, 1, 0), (12, .iconst 0, 1, 0), (13, .invokevirtual 303, 3, 0), (16, .invokevirtual 205, 3, 0), (19, .istore_n 3, 1, 0), (20, .iconst 0, 1, 0), (21, .istore 4, 2, 0), (23, .iload 4, 2, 0), (25, .aload_n 0, 1, 0), (26, .getfield 58, 3, 0), (29, .invokevirtual 251, 3, 0), (32, .if_icmp .ge 30, 3, 62), (35, .aload_n 0, 1, 0), (36, .aload_n 1, 1, 0), (37, .iload 4, 2, 0), (39, .invokevirtual 333, 3, 0), (42, .istore 5, 2, 0), (44, .iload 5, 2, 0), (46, .iload_n 3, 1, 0), (47, .if_icmp .ge 9, 3, 56), (50, .iload 5, 2, 0), (52, .istore_n 3, 1, 0), (53, .iload 4, 2, 0), (55, .istore_n 2, 1, 0), (56, .iinc 4 1, 3, 0), (59, .goto (-36), 3, 23), (62, .iload_n 2, 1, 0), (63, .ireturn, 1, 0)], ([(28, 10, 2, 3, 2, 101), (58, 10, 9, 0, 2, 108)], [(303, 1, 80, 4, 211), (205, 1, 70, 3, 208), (251, 1, 42, 4, 55), (333, 0, 144, 5, 40)], [], [], []), (10, (5, 39), (1, 1), (5, 38), (0, 75)))
-- DoorSchool.back(I)I
noncomputable def mr_96 : MR := ((yX10_back, cX10_back, 2, 1, (some .int)), [(0, .iload_n 1, 1, 0), (1, .ifCond .lt 8, 3, 9), (4, .iload_n 1, 1, 0), (5, .iconst 3, 1, 0), (6, .if_icmp .lt 6, 3, 12), (9, .bipush (-2), 2, 0), (11, .ireturn, 1, 0), (12, .aload_n 0, 1, 0), (13, .getfield 69, 3, 0), (16, .iload_n 1, 1, 0), (17, .baload, 1, 0), (18, .ifCond .ne 6, 3, 24), (21, .bipush (-6), 2, 0), (23, .ireturn, 1, 0), (24, .aload_n 0, 1, 0), (25, .getfield 58, 3, 0), (28, .aload_n 0, 1, 0), (29, .getfield 65, 3, 0), (32, .iload_n 1, 1, 0), (33, .aaload, 1, 0), (34, .invokevirtual 362, 3, 0), (37, .aload_n 0, 1, 0), (38, .getfield 28, 3, 0), (41, .aload_n 0, 1, 0), (42, .getfield 58, 3, 0), (45, .getfield 95, 3, 0), (48, .invokevirtual 98, 3, 0), (51, .iconst 0, 1, 0), (52, .ireturn, 1, 0)], ([(69, 10, 8, 3, 2, 107), (58, 10, 9, 0, 2, 108), (65, 10, 7, 3, 2, 106), (28, 10, 2, 3, 2, 101), (95, 4, 1, 1, 1, 237)], [(362, 1, 44, 5, 136), (98, 1, 73, 3, 89)], [], [], []), (10, (5, 155), (1, 1), (5, 153), (5, 154)))
-- DoorSchool.begins(I)I
noncomputable def mr_97 : MR := ((yX10_begins, cX10_begins, 2, 1, (some .int)), [(0, .iload_n 1, 1, 0), (1, .ifCond .lt 14, 3, 15), (4, .iload_n 1, 1, 0), (5, .aload_n 0, 1, 0), (6, .getfield 58, 3, 0), (9, .getfield 344, 3, 0), (12, .if_icmp .lt 6, 3, 18), (15, .bipush (-2), 2, 0), (17, .ireturn, 1, 0), (18, .aload_n 0, 1, 0), (19, .getfield 51, 3, 0), (22, .aload_n 0, 1, 0), (23, .getfield 58, 3, 0), (26, .aload_n 0, 1, 0), (27, .getfield 58, 3, 0), (30, .getfield 337, 3, 0), (33, .invokevirtual 340, 3, 0), (36, .pop, 1, 0), (37, .aload_n 0, 1, 0), (38, .getfield 51, 3, 0), (41, .getfield 347, 3, 0), (44, .iload_n 1, 1, 0), (45, .iaload, 1, 0), (46, .ireturn, 1, 0)], ([(58, 10, 9, 0, 2, 108), (344, 4, 11, 1, 2, 28), (51, 10, 5, 3, 2, 104), (337, 4, 2, 1, 2, 0), (347, 9, 2, 4, 1, 160)], [(340, 1, 89, 5, 56)], [], [], []), (10, (5, 90), (1, 1), (5, 88), (5, 89)))
-- DoorSchool.best()I
noncomputable def mr_98 : MR := ((yX10_best, cX10_best, 5, 0, (some .int)), [(0, .aload_n 0, 1, 0), (1, .getfield 58, 3, 0), (4, .invokevirtual 146, 3, 0), (7, .ifCond .ne 6, 3, 13), (10, .bipush (-2), 2, 0), (12, .ireturn, 1, 0), (13, .iconst (-1), 1, 0), (14, .istore_n 1, 1, 0), (15, .iconst (-1), 1, 0), (16, .istore_n 2, 1, 0), (17, .iconst 0, 1, 0), (18, .istore_n 3, 1, 0), (19, .iload_n 3, 1, 0), (20, .aload_n 0, 1, 0), (21, .getfield 58, 3, 0), (24, .getfield 224, 3, 0), (27, .if_icmp .ge 31, 3, 58), (30, .aload_n 0, 1, 0), (31, .aload_n 0, 1, 0), (32, .iload_n 3, 1, 0), (33, .invokevirtual 178, 3, 0), (36, .invokevirtual 218, 3, 0), (39, .istore 4, 2, 0), (41, .iload 4, 2, 0), (43, .iload_n 2, 1, 0), (44, .if_icmp .le 8, 3, 52), (47, .iload 4, 2, 0), (49, .istore_n 2, 1, 0), (50, .iload_n 3, 1, 0), (51, .istore_n 1, 1, 0), (52, .iinc 3 1, 3, 0), (55, .goto (-36), 3, 19), (58, .iload_n 1, 1, 0), (59, .ireturn, 1, 0)], ([(58, 10, 9, 0, 2, 108), (224, 4, 3, 1, 2, 3)], [(146, 1, 34, 3, 129), (178, 0, 105, 3, 149), (218, 0, 147, 3, 237)], [], [], []), (10, (4, 17), (1, 1), (4, 15), (4, 16)))
-- DoorSchool.bit(II)I
noncomputable def mr_99 : MR := ((yX10_bit, cX10_bit, 2, 2, (some .int)), [(0, .iload_n 0, 1, 0), (1, .iload_n 1, 1, 0), (2, .ishr, 1, 0), (3, .iconst 1, 1, 0), (4, .iand, 1, 0), (5, .ireturn, 1, 0)], ([], [], [], [], []), (10, (3, 183), (1, 1), (3, 182), (0, 0)))
-- DoorSchool.copy(II)I
noncomputable def mr_100 : MR := ((yX10_copy, cX10_copy, 4, 2, (some .int)), [(0, .aload_n 0, 1, 0), (1, .getfield 58, 3, 0), (4, .iload_n 1, 1, 0), (5, .invokevirtual 107, 3, 0), (8, .ifCond .eq 24, 3, 32), (11, .iload_n 2, 1, 0), (12, .iload_n 1, 1, 0), (13, .if_icmp .eq 19, 3, 32), (16, .iload_n 2, 1, 0), (17, .iconst (-1), 1, 0), (18, .if_icmp .eq 17, 3, 35), (21, .aload_n 0, 1, 0), (22, .getfield 58, 3, 0), (25, .iload_n 2, 1, 0), (26, .invokevirtual 107, 3, 0), (29, .ifCond .ne 6, 3, 35), (32, .bipush (-2), 2, 0), (34, .ireturn, 1, 0), (35, .aload_n 0, 1, 0), (36, .getfield 58, 3, 0), (39, .iload_n 1, 1, 0), (40, .invokevirtual 307, 3, 0), (43, .ifCond .ne 24, 3, 67), (46, .iload_n 2, 1, 0), (47, .iconst (-1), 1, 0), (48, .if_icmp .eq 22, 3, 70), (51, .aload_n 0, 1, 0), (52, .getfield 58, 3, 0), (55, .getfield 111, 3, 0), (58, .iload_n 2, 1, 0), (59, .aaload, 1, 0), (60, .getfield 130, 3, 0), (63, .iconst (-1), 1, 0), (64, .if_icmp .eq 6, 3, 70), (67, .bipush (-5), 2, 0), (69, .ireturn, 1, 0), (70, .aload_n 0, 1, 0), (71, .getfield 58, 3, 0), (74, .getfield 111, 3, 0), (77, .iload_n 1, 1, 0), (78, .aaload, 1, 0), (79, .getfield 130, 3, 0), (82, .istore_n 3, 1, 0), (83, .aload_n 0, 1, 0), (84, .getfield 58, 3, 0), (87, .getfield 111, 3, 0), (90, .iload_n 1, 1, 0), (91, .aaload, 1, 0), (92, .iload_n 2, 1, 0), (93, .putfield 130, 3, 0), (96, .iload_n 3, 1, 0), (97, .ireturn, 1, 0)], ([(58, 10, 9, 0, 2, 108), (111, 4, 4, 4, 2, 6), (130, 0, 3, 1, 1, 220)], [(107, 1, 38, 3, 110), (307, 1, 36, 4, 224)], [], [], []), (10, (4, 223), (1, 1), (4, 221), (4, 222)))
-- DoorSchool.count(I)I
noncomputable def mr_101 : MR := ((yX10_count, cX10_count, 2, 1, (some .int)), [(0, .iload_n 1, 1, 0), (1, .tableswitch 135 0 9 #[55, 63, 71, 79, 90, 98, 106, 114, 122, 130], 55, 0), (56, .aload_n 0, 1, 0), (57, .getfield 58, 3, 0), (60, .getfield 95, 3, 0), (63, .ireturn, 1, 0), (64, .aload_n 0, 1, 0), (65, .getfield 58, 3, 0), (68, .getfield 337, 3, 0), (71, .ireturn, 1, 0), (72, .aload_n 0, 1, 0), (73, .getfield 58, 3, 0), (76, .getfield 224, 3, 0), (79, .ireturn, 1, 0), (80, .aload_n 0, 1, 0), (81, .getfield 58, 3, 0), (84, .getfield 143, 3, 0), (87, .getfield 127, 3, 0), (90, .ireturn, 1, 0), (91, .aload_n 0, 1, 0), (92, .getfield 58, 3, 0), (95, .getfield 356, 3, 0), (98, .ireturn, 1, 0), (99, .aload_n 0, 1, 0), (100, .getfield 58, 3, 0), (103, .getfield 344, 3, 0), (106, .ireturn, 1, 0), (107, .aload_n 0, 1, 0), (108, .getfield 58, 3, 0), (111, .getfield 234, 3, 0), (114, .ireturn, 1, 0), (115, .aload_n 0, 1, 0), (116, .getfield 58, 3, 0), (119, .getfield 101, 3, 0), (122, .ireturn, 1, 0), (123, .aload_n 0, 1, 0), (124, .getfield 10, 3, 0), (127, .getfield 80, 3, 0), (130, .ireturn, 1, 0), (131, .aload_n 0, 1, 0), (132, .invokevirtual 359, 3, 0), (135, .ireturn, 1, 0), (136, .iconst (-1), 1, 0), (137, .ireturn, 1, 0)], ([(58, 10, 9, 0, 2, 108), (95, 4, 1, 1, 1, 237), (337, 4, 2, 1, 2, 0), (224, 4, 3, 1, 2, 3), (143, 4, 5, 4, 2, 9), (127, 3, 2, 1, 1, 197), (356, 4, 8, 1, 2, 18), (344, 4, 11, 1, 2, 28), (234, 4, 14, 1, 2, 36), (101, 4, 0, 1, 1, 234), (10, 10, 0, 3, 2, 99), (80, 8, 1, 1, 1, 37)], [(359, 0, 119, 5, 128)], [], [], []), (10, (5, 127), (1, 1), (5, 125), (5, 126)))
-- DoorSchool.course(II)I
noncomputable def mr_102 : MR := ((yX10_course, cX10_course, 3, 2, (some .int)), [(0, .iload_n 1, 1, 0), (1, .invokestatic 261, 3, 0), (4, .ifCond .eq 26, 3, 30), (7, .aload_n 0, 1, 0), (8, .getfield 58, 3, 0), (11, .iload_n 2, 1, 0), (12, .invokevirtual 212, 3, 0), (15, .ifCond .eq 15, 3, 30), (18, .aload_n 0, 1, 0), (19, .getfield 37, 3, 0), (22, .iload_n 1, 1, 0), (23, .iload_n 2, 1, 0), (24, .invokevirtual 264, 3, 0), (27, .goto 5, 3, 32), (30, .bipush (-2), 2, 0), (32, .ireturn, 1, 0)], ([(58, 10, 9, 0, 2, 108), (37, 10, 3, 3, 2, 102)], [(261, 2, 139, 4, 66), (212, 1, 37, 3, 225), (264, 1, 16, 4, 69)], [], [], []), (10, (4, 101), (1, 1), (4, 99), (4, 100)))
-- DoorSchool.deeds(I)I
noncomputable def mr_103 : MR := ((yX10_deeds, cX10_deeds, 2, 1, (some .int)), [(0, .aload_n 0, 1, 0), (1, .getfield 58, 3, 0), (4, .iload_n 1, 1, 0), (5, .invokevirtual 107, 3, 0), (8, .ifCond .eq 11, 3, 19), (11, .aload_n 0, 1, 0), (12, .iload_n 1, 1, 0), (13, .invokevirtual 178, 3, 0), (16, .goto 5, 3, 21), (19, .bipush (-2), 2, 0), (21, .ireturn, 1, 0)], ([(58, 10, 9, 0, 2, 108)], [(107, 1, 38, 3, 110), (178, 0, 105, 3, 149)], [], [], []), (10, (3, 187), (1, 1), (3, 185), (3, 186)))
-- DoorSchool.does(II)I
noncomputable def mr_104 : MR := ((yX10_does, cX10_does, 3, 2, (some .int)), [(0, .aload_n 0, 1, 0), (1, .getfield 58, 3, 0), (4, .iload_n 1, 1, 0), (5, .iload_n 2, 1, 0), (6, .invokevirtual 208, 3, 0), (9, .ifCond .eq 15, 3, 24), (12, .aload_n 0, 1, 0), (13, .getfield 28, 3, 0), (16, .iload_n 1, 1, 0), (17, .iload_n 2, 1, 0), (18, .invokevirtual 165, 3, 0), (21, .goto 5, 3, 26), (24, .bipush (-2), 2, 0), (26, .ireturn, 1, 0)], ([(58, 10, 9, 0, 2, 108), (28, 10, 2, 3, 2, 101)], [(208, 1, 41, 3, 216), (165, 1, 68, 3, 137)], [], [], []), (10, (3, 215), (1, 1), (3, 213), (3, 214)))
-- DoorSchool.doneBy(I)I
noncomputable def mr_105 : MR := ((yX10_doneBy, cX10_doneBy, 3, 1, (some .int)), [(0, .aload_n 0, 1, 0), (1, .getfield 58, 3, 0), (4, .iload_n 1, 1, 0), (5, .invokevirtual 184, 3, 0), (8, .astore_n 2, 1, 0), (9, .aload_n 0, 1, 0), (10, .getfield 37, 3, 0), (13, .aload_n 2, 1, 0), (14, .getfield 115, 3, 0), (17, .aload_n 2, 1, 0), (18, .getfield 123, 3, 0), (21, .invokevirtual 397, 3, 0), (24, .ireturn, 1, 0)], ([(58, 10, 9, 0, 2, 108), (37, 10, 3, 3, 2, 102), (115, 0, 1, 1, 1, 216), (123, 0, 0, 4, 1, 214)], [(184, 1, 43, 3, 153), (397, 1, 13, 3, 157)], [], [], []), (10, (3, 152), (1, 1), (3, 151), (0, 34)))
-- DoorSchool.doneInStorm(II)I
noncomputable def mr_106 : MR := ((yX10_doneInStorm, cX10_doneInStorm, 7, 2, (some .int)), [(0, .iload_n 1, 1, 0), (1, .i2l, 1, 0), (2, .lstore_n 3, 1, 0), (3, .aload_n 0, 1, 0), (4, .iload_n 2, 1, 0), (5, .invokevirtual 178, 3, 0), (8, .istore 5, 2, 0), (10, .iconst 0, 1, 0), (11, .istore 6, 2, 0), (13, .iload 6, 2, 0), (15, .aload_n 0, 1, 0), (16, .getfield 58, 3, 0), (19, .invokevirtual 251, 3, 0), (22, .if_icmp .ge 58, 3, 80), (25, .ldc2_w 415, 3, 0), (28, .lload_n 3, 1, 0), (29, .lmul, 1, 0), (30, .ldc2_w 417, 3, 0), (33, .ladd, 1, 0), (34, .ldc2_w 419, 3, 0), (37, .lrem, 1, 0), (38, .lstore_n 3, 1, 0), (39, .lload_n 3, 1, 0), (40, .ldc2_w 421, 3, 0), (43, .ldiv, 1, 0), (44, .ldc2_w 423, 3, 0), (47, .lrem, 1, 0), (48, .aload_n 0, 1, 0), (49, .getfield 58, 3, 0), (52, .getfield 111, 3, 0), (55, .iload_n 2, 1, 0), (56, .aaload, 1, 0), (57, .getfield 120, 3, 0), (60, .i2l, 1, 0), (61, .lcmp, 1, 0), (62, .ifCond .ge 12, 3, 74), (65, .iload 5, 2, 0), (67, .iconst 1, 1, 0), (68, .iload 6, 2, 0), (70, .ishl, 1, 0), (71, .ixor, 1, 0), (72, .istore 5, 2, 0), (74, .iinc 6 1, 3, 0), (77, .goto (-64), 3, 13), (80, .iload 5, 2, 0), (82, .ireturn, 1, 0)], ([(58, 10, 9, 0, 2, 108), (111, 4, 4, 4, 2, 6), (120, 0, 2, 1, 1, 218)], [(178, 0, 105, 3, 149), (251, 1, 42, 4, 55)], [], [(415, 1103515245, 5, 115), (417, 12345, 5, 116), (419, 2147483648, 5, 117), (421, 65536, 5, 118), (423, 100, 5, 119)], []), (10, (5, 114), (1, 1), (5, 113), (0, 83)))
-- DoorSchool.door(II)I
noncomputable def mr_107 : MR := ((yX10_door, cX10_door, 4, 2, (some .int)), [(0, .aload_n 0, 1, 0), (1, .getfield 58, 3, 0), (4, .iload_n 1, 1, 0), (5, .invokevirtual 107, 3, 0), (8, .ifCond .ne 6, 3, 14), (11, .bipush (-2), 2, 0), (13, .ireturn, 1, 0), (14, .aload_n 0, 1, 0), (15, .getfield 58, 3, 0), (18, .getfield 111, 3, 0), (21, .iload_n 1, 1, 0), (22, .aaload, 1, 0), (23, .astore_n 3, 1, 0), (24, .iload_n 2, 1, 0), (25, .tableswitch 54 0 3 #[31, 36, 41, 49], 31, 0), (56, .aload_n 3, 1, 0), (57, .getfield 115, 3, 0), (60, .ireturn, 1, 0), (61, .aload_n 3, 1, 0), (62, .getfield 120, 3, 0), (65, .ireturn, 1, 0), (66, .aload_n 3, 1, 0), (67, .getfield 123, 3, 0), (70, .getfield 127, 3, 0), (73, .ireturn, 1, 0), (74, .aload_n 3, 1, 0), (75, .getfield 130, 3, 0), (78, .ireturn, 1, 0), (79, .bipush (-2), 2, 0), (81, .ireturn, 1, 0)], ([(58, 10, 9, 0, 2, 108), (111, 4, 4, 4, 2, 6), (115, 0, 1, 1, 1, 216), (120, 0, 2, 1, 1, 218), (123, 0, 0, 4, 1, 214), (127, 3, 2, 1, 1, 197), (130, 0, 3, 1, 1, 220)], [(107, 1, 38, 3, 110)], [], [], []), (10, (3, 109), (1, 1), (3, 107), (3, 108)))
-- DoorSchool.easiest(I)I
noncomputable def mr_108 : MR := ((yX10_easiest, cX10_easiest, 6, 1, (some .int)), [(0, .aload_n 0, 1, 0), (1, .getfield 58, 3, 0), (4, .iload_n 1, 1, 0), (5, .invokevirtual 212, 3, 0), (8, .ifCond .ne 6, 3, 14), (11, .bipush (-2), 2, 0), (13, .ireturn, 1, 0), (14, .iconst (-1), 1, 0), (15, .istore_n 2, 1, 0), (16, .bipush 17, 2, 0), (18, .istore_n 3, 1, 0), (19, .iconst 0, 1, 0), (20, .istore 4, 2, 0), (22, .iload 4, 2, 0), (24, .iconst 3, 1, 0), (25, .if_icmp .ge 45, 3, 70), (28, .aload_n 0, 1, 0), (29, .getfield 37, 3, 0), (32, .iload 4, 2, 0), (34, .iload_n 1, 1, 0), (35, .invokevirtual 264, 3, 0), (38, .istore 5, 2, 0), (40, .iload 5, 2, 0), (42, .iconst (-1), 1, 0), (43, .if_icmp .eq 21, 3, 64), (46, .iload 5, 2, 0), (48, .invokestatic 169, 3, 0), (51, .iload_n 3, 1, 0), (52, .if_icmp .ge 12, 3, 64), (55, .iload 5, 2, 0), (57, .invokestatic 169, 3, 0), (60, .istore_n 3, 1, 0), (61, .iload 4, 2, 0), (63, .istore_n 2, 1, 0), (64, .iinc 4 1, 3, 0), (67, .goto (-45), 3, 22), (70, .iload_n 2, 1, 0), (71, .ireturn, 1, 0)], ([(58, 10, 9, 0, 2, 108), (37, 10, 3, 3, 2, 102)], [(212, 1, 37, 3, 225), (264, 1, 16, 4, 69), (169, 2, 0, 3, 138)], [], [], []), (10, (4, 113), (1, 1), (4, 111), (4, 112)))
-- DoorSchool.end(I)I
noncomputable def mr_109 : MR := ((yX10_end, cX10_end, 2, 1, (some .int)), [(0, .iload_n 1, 1, 0), (1, .ifCond .lt 14, 3, 15), (4, .iload_n 1, 1, 0), (5, .aload_n 0, 1, 0), (6, .getfield 10, 3, 0), (9, .getfield 80, 3, 0), (12, .if_icmp .le 5, 3, 17), (15, .iconst (-1), 1, 0), (16, .ireturn, 1, 0), (17, .aload_n 0, 1, 0), (18, .getfield 10, 3, 0), (21, .iload_n 1, 1, 0), (22, .putfield 80, 3, 0), (25, .iload_n 1, 1, 0), (26, .ireturn, 1, 0)], ([(10, 10, 0, 3, 2, 99), (80, 8, 1, 1, 1, 37)], [], [], [], []), (10, (2, 144), (1, 1), (2, 142), (2, 143)))
-- DoorSchool.errors(II)I
noncomputable def mr_110 : MR := ((yX10_errors, cX10_errors, 3, 2, (some .int)), [(0, .iload_n 1, 1, 0), (1, .invokestatic 261, 3, 0), (4, .ifCond .eq 26, 3, 30), (7, .aload_n 0, 1, 0), (8, .getfield 58, 3, 0), (11, .iload_n 2, 1, 0), (12, .invokevirtual 212, 3, 0), (15, .ifCond .eq 15, 3, 30), (18, .aload_n 0, 1, 0), (19, .getfield 37, 3, 0), (22, .iload_n 1, 1, 0), (23, .iload_n 2, 1, 0), (24, .invokevirtual 294, 3, 0), (27, .goto 5, 3, 32), (30, .bipush (-2), 2, 0), (32, .ireturn, 1, 0)], ([(58, 10, 9, 0, 2, 108), (37, 10, 3, 3, 2, 102)], [(261, 2, 139, 4, 66), (212, 1, 37, 3, 225), (294, 1, 11, 4, 180)], [], [], []), (10, (4, 179), (1, 1), (4, 177), (4, 178)))
-- DoorSchool.exam(II)I
noncomputable def mr_111 : MR := ((yX10_exam, cX10_exam, 3, 2, (some .int)), [(0, .iload_n 1, 1, 0), (1, .ifCond .lt 24, 3, 25), (4, .iload_n 1, 1, 0), (5, .aload_n 0, 1, 0), (6, .getfield 58, 3, 0), (9, .getfield 143, 3, 0), (12, .getfield 127, 3, 0), (15, .if_icmp .ge 10, 3, 25), (18, .iload_n 2, 1, 0), (19, .invokestatic 133, 3, 0), (22, .ifCond .ne 6, 3, 28), (25, .bipush (-2), 2, 0), (27, .ireturn, 1, 0), (28, .iload_n 2, 1, 0), (29, .ifCond .ne 18, 3, 47), (32, .aload_n 0, 1, 0), (33, .getfield 58, 3, 0), (36, .getfield 143, 3, 0), (39, .getfield 136, 3, 0), (42, .iload_n 1, 1, 0), (43, .iaload, 1, 0), (44, .goto 15, 3, 59), (47, .aload_n 0, 1, 0), (48, .getfield 58, 3, 0), (51, .getfield 143, 3, 0), (54, .getfield 140, 3, 0), (57, .iload_n 1, 1, 0), (58, .iaload, 1, 0), (59, .ireturn, 1, 0)], ([(58, 10, 9, 0, 2, 108), (143, 4, 5, 4, 2, 9), (127, 3, 2, 1, 1, 197), (136, 3, 0, 4, 1, 189), (140, 3, 1, 4, 1, 192)], [(133, 2, 140, 3, 118)], [], [], []), (10, (3, 124), (1, 1), (3, 122), (3, 123)))
-- DoorSchool.fault(I)I
noncomputable def mr_112 : MR := ((yX10_fault, cX10_fault, 2, 1, (some .int)), [(0, .iload_n 1, 1, 0), (1, .ifCond .ne 11, 3, 12), (4, .aload_n 0, 1, 0), (5, .getfield 21, 3, 0), (8, .getfield 92, 3, 0), (11, .ireturn, 1, 0), (12, .iload_n 1, 1, 0), (13, .iconst 1, 1, 0), (14, .if_icmp .ne 13, 3, 27), (17, .aload_n 0, 1, 0), (18, .getfield 21, 3, 0), (21, .getfield 104, 3, 0), (24, .goto 4, 3, 28), (27, .iconst (-1), 1, 0), (28, .ireturn, 1, 0)], ([(21, 10, 1, 3, 2, 100), (92, 5, 5, 1, 1, 58), (104, 5, 6, 1, 1, 60)], [], [], [], []), (10, (3, 105), (1, 1), (3, 103), (3, 104)))
-- DoorSchool.feed(IIIII)I
noncomputable def mr_113 : MR := ((yX10_feed, cX10_feed, 6, 5, (some .int)), [(0, .aload_n 0, 1, 0), (1, .getfield 10, 3, 0), (4, .getfield 80, 3, 0), (7, .bipush 20, 2, 0), (9, .iadd, 1, 0), (10, .sipush 1600, 3, 0), (13, .if_icmp .le 5, 3, 18), (16, .iconst (-1), 1, 0), (17, .ireturn, 1, 0), (18, .aload_n 0, 1, 0), (19, .getfield 10, 3, 0), (22, .iload_n 1, 1, 0), (23, .invokevirtual 84, 3, 0), (26, .aload_n 0, 1, 0), (27, .getfield 10, 3, 0), (30, .iload_n 2, 1, 0), (31, .invokevirtual 84, 3, 0), (34, .aload_n 0, 1, 0), (35, .getfield 10, 3, 0), (38, .iload_n 3, 1, 0), (39, .invokevirtual 84, 3, 0), (42, .aload_n 0, 1, 0), (43, .getfield 10, 3, 0), (46, .iload 4, 2, 0), (48, .invokevirtual 84, 3, 0), (51, .aload_n 0, 1, 0), (52, .getfield 10, 3, 0), (55, .iload 5, 2, 0), (57, .invokevirtual 84, 3, 0), (60, .aload_n 0, 1, 0), (61, .getfield 10, 3, 0), (64, .getfield 80, 3, 0), (67, .ireturn, 1, 0)], ([(10, 10, 0, 3, 2, 99), (80, 8, 1, 1, 1, 37)], [(84, 1, 81, 2, 137)], [], [], []), (10, (2, 136), (1, 1), (2, 134), (2, 135)))
-- DoorSchool.fewest(II)I
noncomputable def mr_114 : MR := ((yX10_fewest, cX10_fewest, 4, 2, (some .int)), [(0, .iload_n 1, 1, 0), (1, .invokestatic 261, 3, 0), (4, .ifCond .eq 14, 3, 18), (7, .aload_n 0, 1, 0), (8, .getfield 58, 3, 0), (11, .iload_n 2, 1, 0), (12, .invokevirtual 212, 3, 0), (15, .ifCond .ne 6, 3, 21), (18, .bipush (-2), 2, 0), (20, .ireturn, 1, 0), (21, .aload_n 0, 1, 0), (22, .getfield 37, 3, 0), (25, .iload_n 1, 1, 0), (26, .iload_n 2, 1, 0), (27, .invokevirtual 264, 3, 0), (30, .istore_n 3, 1, 0), (31, .iload_n 3, 1, 0), (32, .iconst (-1), 1, 0), (33, .if_icmp .ne 7, 3, 40), (36, .iconst (-1), 1, 0), (37, .goto 7, 3, 44), (40, .iload_n 3, 1, 0), (41, .invokestatic 169, 3, 0), (44, .ireturn, 1, 0)], ([(58, 10, 9, 0, 2, 108), (37, 10, 3, 3, 2, 102)], [(261, 2, 139, 4, 66), (212, 1, 37, 3, 225), (264, 1, 16, 4, 69), (169, 2, 0, 3, 138)], [], [], []), (10, (4, 65), (1, 1), (4, 63), (4, 64)))
-- DoorSchool.fits(I)I
noncomputable def mr_115 : MR := ((yX10_fits, cX10_fits, 3, 1, (some .int)), [(0, .aload_n 0, 1, 0), (1, .iload_n 1, 1, 0), (2, .invokevirtual 300, 3, 0), (5, .istore_n 2, 1, 0), (6, .iload_n 2, 1, 0), (7, .ifCond .eq 7, 3, 14), (10, .iload_n 2, 1, 0), (11, .goto 30, 3, 41), (14, .aload_n 0, 1, 0), (15, .getfield 28, 3, 0), (18, .aload_n 0, 1, 0), (19, .getfield 75, 3, 0), (22, .iload_n 1, 1, 0), (23, .aaload, 1, 0), (24, .iconst 1, 1, 0), (25, .invokevirtual 303, 3, 0), (28, .aload_n 0, 1, 0), (29, .getfield 75, 3, 0), (32, .iload_n 1, 1, 0), (33, .aaload, 1, 0), (34, .iconst 0, 1, 0), (35, .invokevirtual 303, 3, 0), (38, .invokevirtual 205, 3, 0), (41, .ireturn, 1, 0)], ([(28, 10, 2, 3, 2, 101), (75, 10, 6, 3, 2, 105)], [(300, 0, 171, 4, 200), (303, 1, 80, 4, 211), (205, 1, 70, 3, 208)], [], [], []), (10, (5, 23), (1, 1), (5, 21), (5, 22)))
-- DoorSchool.fooled(II)I
noncomputable def mr_116 : MR := ((yX10_fooled, cX10_fooled, 3, 2, (some .int)), [(0, .aload_n 0, 1, 0), (1, .getfield 58, 3, 0), (4, .iload_n 1, 1, 0), (5, .invokevirtual 107, 3, 0), (8, .ifCond .eq 10, 3, 18), (11, .iload_n 2, 1, 0), (12, .invokestatic 133, 3, 0), (15, .ifCond .ne 6, 3, 21), (18, .bipush (-2), 2, 0), (20, .ireturn, 1, 0), (21, .iload_n 2, 1, 0), (22, .ifCond .ne 11, 3, 33), (25, .aload_n 0, 1, 0), (26, .iload_n 1, 1, 0), (27, .invokevirtual 270, 3, 0), (30, .goto 15, 3, 45), (33, .aload_n 0, 1, 0), (34, .invokevirtual 273, 3, 0), (37, .aload_n 0, 1, 0), (38, .iload_n 1, 1, 0), (39, .invokevirtual 178, 3, 0), (42, .iconst (-1), 1, 0), (43, .ixor, 1, 0), (44, .iand, 1, 0), (45, .ireturn, 1, 0)], ([(58, 10, 9, 0, 2, 108)], [(107, 1, 38, 3, 110), (133, 2, 140, 3, 118), (270, 0, 117, 4, 118), (273, 0, 151, 4, 122), (178, 0, 105, 3, 149)], [], [], []), (10, (4, 117), (1, 1), (4, 115), (4, 116)))
-- DoorSchool.fooling(I)I
noncomputable def mr_117 : MR := ((yX10_fooling, cX10_fooling, 2, 1, (some .int)), [(0, .aload_n 0, 1, 0), (1, .iload_n 1, 1, 0), (2, .invokevirtual 178, 3, 0), (5, .aload_n 0, 1, 0), (6, .invokevirtual 273, 3, 0), (9, .iconst (-1), 1, 0), (10, .ixor, 1, 0), (11, .iand, 1, 0), (12, .ireturn, 1, 0)], ([], [(178, 0, 105, 3, 149), (273, 0, 151, 4, 122)], [], [], []), (10, (4, 121), (1, 1), (4, 120), (0, 59)))
-- DoorSchool.foolingAfter(II)I
noncomputable def mr_118 : MR := ((yX10_foolingAfter, cX10_foolingAfter, 5, 2, (some .int)), [(0, .aload_n 0, 1, 0), (1, .getfield 58, 3, 0), (4, .getfield 111, 3, 0), (7, .iload_n 1, 1, 0), (8, .aaload, 1, 0), (9, .getfield 123, 3, 0), (12, .astore_n 3, 1, 0), (13, .aload_n 3, 1, 0), (14, .iload_n 2, 1, 0), (15, .aload_n 0, 1, 0), (16, .invokevirtual 273, 3, 0), (19, .iload_n 2, 1, 0), (20, .invokestatic 181, 3, 0), (23, .invokevirtual 237, 3, 0), (26, .aload_n 0, 1, 0), (27, .iload_n 1, 1, 0), (28, .invokevirtual 178, 3, 0), (31, .istore 4, 2, 0), (33, .aload_n 3, 1, 0), (34, .invokevirtual 244, 3, 0), (37, .iload 4, 2, 0), (39, .aload_n 0, 1, 0), (40, .invokevirtual 273, 3, 0), (43, .iconst (-1), 1, 0), (44, .ixor, 1, 0), (45, .iand, 1, 0), (46, .invokestatic 169, 3, 0), (49, .ireturn, 1, 0)], ([(58, 10, 9, 0, 2, 108), (111, 4, 4, 4, 2, 6), (123, 0, 0, 4, 1, 214)], [(273, 0, 151, 4, 122), (181, 2, 99, 3, 181), (237, 1, 22, 4, 30), (178, 0, 105, 3, 149), (244, 1, 24, 4, 35), (169, 2, 0, 3, 138)], [], [], []), (10, (4, 142), (1, 1), (4, 141), (0, 61)))
-- DoorSchool.fullSlots()I
noncomputable def mr_119 : MR := ((yX10_fullSlots, cX10_fullSlots, 3, 0, (some .int)), [(0, .iconst 0, 1, 0), (1, .istore_n 1, 1, 0), (2, .iconst 0, 1, 0), (3, .istore_n 2, 1, 0), (4, .iload_n 2, 1, 0), (5, .iconst 4, 1, 0), (6, .if_icmp .ge 24, 3, 30), (9, .aload_n 0, 1, 0), (10, .getfield 75, 3, 0), (13, .iload_n 2, 1, 0), (14, .aaload, 1, 0), (15, .getfield 371, 3, 0), (18, .ifCond .eq 6, 3, 24), (21, .iinc 1 1, 3, 0), (24, .iinc 2 1, 3, 0), (27, .goto (-23), 3, 4), (30, .iload_n 1, 1, 0), (31, .ireturn, 1, 0)], ([(75, 10, 6, 3, 2, 105), (371, 7, 1, 1, 2, 83)], [], [], [], []), (10, (5, 131), (1, 1), (5, 130), (0, 84)))
-- DoorSchool.gainOf(III)I
noncomputable def mr_120 : MR := ((yX10_gainOf, cX10_gainOf, 7, 3, (some .int)), [(0, .aload_n 0, 1, 0), (1, .getfield 58, 3, 0), (4, .getfield 111, 3, 0), (7, .iload_n 1, 1, 0), (8, .aaload, 1, 0), (9, .getfield 123, 3, 0), (12, .astore 4, 2, 0), (14, .aload_n 0, 1, 0), (15, .aload_n 0, 1, 0), (16, .iload_n 1, 1, 0), (17, .invokevirtual 178, 3, 0), (20, .invokevirtual 218, 3, 0), (23, .istore 5, 2, 0), (25, .aload 4, 2, 0), (27, .iload_n 2, 1, 0), (28, .iload_n 3, 1, 0), (29, .invokevirtual 237, 3, 0), (32, .aload_n 0, 1, 0), (33, .aload_n 0, 1, 0), (34, .iload_n 1, 1, 0), (35, .invokevirtual 178, 3, 0), (38, .invokevirtual 218, 3, 0), (41, .istore 6, 2, 0), (43, .aload 4, 2, 0), (45, .invokevirtual 244, 3, 0), (48, .iload 6, 2, 0), (50, .iload 5, 2, 0), (52, .isub, 1, 0), (53, .ireturn, 1, 0)], ([(58, 10, 9, 0, 2, 108), (111, 4, 4, 4, 2, 6), (123, 0, 0, 4, 1, 214)], [(178, 0, 105, 3, 149), (218, 0, 147, 3, 237), (237, 1, 22, 4, 30), (244, 1, 24, 4, 35)], [], [], []), (10, (4, 50), (1, 1), (4, 49), (0, 51)))
-- DoorSchool.gains(III)I
noncomputable def mr_121 : MR := ((yX10_gains, cX10_gains, 4, 3, (some .int)), [(0, .aload_n 0, 1, 0), (1, .iload_n 1, 1, 0), (2, .iload_n 2, 1, 0), (3, .iload_n 3, 1, 0), (4, .invokevirtual 230, 3, 0), (7, .ifCond .eq 13, 3, 20), (10, .aload_n 0, 1, 0), (11, .iload_n 1, 1, 0), (12, .iload_n 2, 1, 0), (13, .iload_n 3, 1, 0), (14, .invokevirtual 247, 3, 0), (17, .goto 6, 3, 23), (20, .sipush (-1000), 3, 0), (23, .ireturn, 1, 0)], ([], [(230, 0, 135, 4, 26), (247, 0, 120, 4, 47)], [], [], []), (10, (4, 46), (1, 1), (4, 44), (4, 45)))
-- DoorSchool.game(III)I
noncomputable def mr_122 : MR := ((yX10_game, cX10_game, 4, 3, (some .int)), [(0, .aload_n 0, 1, 0), (1, .getfield 58, 3, 0), (4, .iload_n 1, 1, 0), (5, .invokevirtual 107, 3, 0), (8, .ifCond .eq 21, 3, 29), (11, .iload_n 2, 1, 0), (12, .invokestatic 261, 3, 0), (15, .ifCond .eq 14, 3, 29), (18, .aload_n 0, 1, 0), (19, .getfield 58, 3, 0), (22, .iload_n 3, 1, 0), (23, .invokevirtual 175, 3, 0), (26, .ifCond .ne 6, 3, 32), (29, .bipush (-2), 2, 0), (31, .ireturn, 1, 0), (32, .aload_n 0, 1, 0), (33, .invokevirtual 273, 3, 0), (36, .iload_n 3, 1, 0), (37, .invokestatic 181, 3, 0), (40, .iconst 1, 1, 0), (41, .if_icmp .ne 6, 3, 47), (44, .bipush (-2), 2, 0), (46, .ireturn, 1, 0), (47, .aload_n 0, 1, 0), (48, .iload_n 1, 1, 0), (49, .iload_n 2, 1, 0), (50, .invokevirtual 285, 3, 0), (53, .iload_n 3, 1, 0), (54, .invokestatic 181, 3, 0), (57, .ireturn, 1, 0)], ([(58, 10, 9, 0, 2, 108)], [(107, 1, 38, 3, 110), (261, 2, 139, 4, 66), (175, 1, 40, 3, 143), (273, 0, 151, 4, 122), (181, 2, 99, 3, 181), (285, 0, 162, 4, 152)], [], [], []), (10, (4, 151), (1, 1), (4, 149), (4, 150)))
-- DoorSchool.hangAll()Z
noncomputable def mr_123 : MR := ((yX10_hangAll, cX10_hangAll, 4, 0, (some .boolean)), [(0, .aload_n 0, 1, 0), (1, .getfield 58, 3, 0), (4, .getfield 224, 3, 0), (7, .aload_n 0, 1, 0), (8, .getfield 58, 3, 0), (11, .getfield 356, 3, 0), (14, .if_icmp .ge 5, 3, 19), (17, .iconst 0, 1, 0), (18, .ireturn, 1, 0), (19, .iconst 0, 1, 0), (20, .istore_n 1, 1, 0), (21, .iload_n 1, 1, 0), (22, .aload_n 0, 1, 0), (23, .getfield 58, 3, 0), (26, .getfield 224, 3, 0), (29, .if_icmp .ge 57, 3, 86), (32, .aload_n 0, 1, 0), (33, .iload_n 1, 1, 0), (34, .invokevirtual 178, 3, 0), (37, .istore_n 2, 1, 0), (38, .iconst 0, 1, 0), (39, .istore_n 3, 1, 0), (40, .iload_n 3, 1, 0), (41, .aload_n 0, 1, 0), (42, .getfield 58, 3, 0), (45, .getfield 356, 3, 0), (48, .if_icmp .ge 32, 3, 80), (51, .aload_n 0, 1, 0), (52, .getfield 44, 3, 0), (55, .getfield 401, 3, 0), (58, .iload_n 3, 1, 0), (59, .iconst 4, 1, 0), (60, .imul, 1, 0), (61, .iload_n 1, 1, 0), (62, .iadd, 1, 0), (63, .iload_n 2, 1, 0), (64, .aload_n 0, 1, 0), (65, .iload_n 3, 1, 0), (66, .invokevirtual 319, 3, 0), (69, .ixor, 1, 0), (70, .invokestatic 169, 3, 0), (73, .iastore, 1, 0), (74, .iinc 3 1, 3, 0), (77, .goto (-37), 3, 40), (80, .iinc 1 1, 3, 0), (83, .goto (-62), 3, 21), (86, .aload_n 0, 1, 0), (87, .getfield 44, 3, 0), (90, .aload_n 0, 1, 0), (91, .getfield 58, 3, 0), (94, .getfield 224, 3, 0), (97, .aload_n 0, 1, 0), (98, .getfield 58, 3, 0), (101, .getfield 356, 3, 0), (104, .invokevirtual 404, 3, 0), (107, .iconst 1, 1, 0), (108, .ireturn, 1, 0)], ([(58, 10, 9, 0, 2, 108), (224, 4, 3, 1, 2, 3), (356, 4, 8, 1, 2, 18), (44, 10, 4, 3, 2, 103), (401, 1, 0, 4, 1, 130)], [(178, 0, 105, 3, 149), (319, 0, 130, 4, 233), (169, 2, 0, 3, 138), (404, 1, 9, 4, 237)], [], [], []), (10, (4, 232), (1, 1), (4, 231), (0, 70)))
-- DoorSchool.hanging()I
noncomputable def mr_124 : MR := ((yX10_hanging, cX10_hanging, 1, 0, (some .int)), [(0, .aload_n 0, 1, 0), (1, .getfield 58, 3, 0), (4, .invokevirtual 146, 3, 0), (7, .ifCond .ne 6, 3, 13), (10, .bipush (-2), 2, 0), (12, .ireturn, 1, 0), (13, .aload_n 0, 1, 0), (14, .invokevirtual 310, 3, 0), (17, .ifCond .eq 13, 3, 30), (20, .aload_n 0, 1, 0), (21, .getfield 44, 3, 0), (24, .getfield 313, 3, 0), (27, .goto 4, 3, 31), (30, .iconst (-1), 1, 0), (31, .ireturn, 1, 0)], ([(58, 10, 9, 0, 2, 108), (44, 10, 4, 3, 2, 103), (313, 1, 5, 1, 1, 137)], [(146, 1, 34, 3, 129), (310, 0, 123, 4, 229)], [], [], []), (10, (4, 228), (1, 1), (4, 226), (4, 227)))
-- DoorSchool.hard()I
noncomputable def mr_125 : MR := ((yX10_hard, cX10_hard, 3, 0, (some .int)), [(0, .aload_n 0, 1, 0), (1, .getfield 58, 3, 0), (4, .invokevirtual 146, 3, 0), (7, .ifCond .ne 6, 3, 13), (10, .bipush (-2), 2, 0), (12, .ireturn, 1, 0), (13, .iconst 1, 1, 0), (14, .aload_n 0, 1, 0), (15, .getfield 58, 3, 0), (18, .getfield 143, 3, 0), (21, .getfield 127, 3, 0), (24, .ishl, 1, 0), (25, .iconst 1, 1, 0), (26, .isub, 1, 0), (27, .istore_n 1, 1, 0), (28, .iconst 0, 1, 0), (29, .istore_n 2, 1, 0), (30, .iload_n 2, 1, 0), (31, .aload_n 0, 1, 0), (32, .getfield 58, 3, 0), (35, .getfield 224, 3, 0), (38, .if_icmp .ge 29, 3, 67), (41, .iload_n 1, 1, 0), (42, .aload_n 0, 1, 0), (43, .getfield 58, 3, 0), (46, .getfield 143, 3, 0), (49, .aload_n 0, 1, 0), (50, .iload_n 2, 1, 0), (51, .invokevirtual 178, 3, 0), (54, .invokevirtual 227, 3, 0), (57, .iconst (-1), 1, 0), (58, .ixor, 1, 0), (59, .iand, 1, 0), (60, .istore_n 1, 1, 0), (61, .iinc 2 1, 3, 0), (64, .goto (-34), 3, 30), (67, .iload_n 1, 1, 0), (68, .ireturn, 1, 0)], ([(58, 10, 9, 0, 2, 108), (143, 4, 5, 4, 2, 9), (127, 3, 2, 1, 1, 197), (224, 4, 3, 1, 2, 3)], [(146, 1, 34, 3, 129), (178, 0, 105, 3, 149), (227, 1, 23, 4, 1)], [], [], []), (10, (4, 21), (1, 1), (4, 19), (4, 20)))
-- DoorSchool.harden(I)I
noncomputable def mr_126 : MR := ((yX10_harden, cX10_harden, 6, 1, (some .int)), [(0, .aload_n 0, 1, 0), (1, .getfield 58, 3, 0), (4, .iload_n 1, 1, 0), (5, .invokevirtual 107, 3, 0), (8, .ifCond .ne 6, 3, 14), (11, .bipush (-2), 2, 0), (13, .ireturn, 1, 0), (14, .iconst (-1), 1, 0), (15, .istore_n 2, 1, 0), (16, .aload_n 0, 1, 0), (17, .iload_n 1, 1, 0), (18, .invokevirtual 270, 3, 0), (21, .invokestatic 169, 3, 0), (24, .istore_n 3, 1, 0), (25, .iconst 0, 1, 0), (26, .istore 4, 2, 0), (28, .iload 4, 2, 0), (30, .aload_n 0, 1, 0), (31, .getfield 58, 3, 0), (34, .invokevirtual 251, 3, 0), (37, .if_icmp .ge 30, 3, 67), (40, .aload_n 0, 1, 0), (41, .iload_n 1, 1, 0), (42, .iload 4, 2, 0), (44, .invokevirtual 279, 3, 0), (47, .istore 5, 2, 0), (49, .iload 5, 2, 0), (51, .iload_n 3, 1, 0), (52, .if_icmp .ge 9, 3, 61), (55, .iload 5, 2, 0), (57, .istore_n 3, 1, 0), (58, .iload 4, 2, 0), (60, .istore_n 2, 1, 0), (61, .iinc 4 1, 3, 0), (64, .goto (-36), 3, 28), (67, .iload_n 2, 1, 0), (68, .ireturn, 1, 0)], ([(58, 10, 9, 0, 2, 108)], [(107, 1, 38, 3, 110), (270, 0, 117, 4, 118), (169, 2, 0, 3, 138), (251, 1, 42, 4, 55), (279, 0, 118, 4, 139)], [], [], []), (10, (4, 138), (1, 1), (4, 136), (4, 137)))
-- DoorSchool.help(I)I
noncomputable def mr_127 : MR := ((yX10_help, cX10_help, 6, 1, (some .int)), [(0, .aload_n 0, 1, 0), (1, .getfield 58, 3, 0), (4, .iload_n 1, 1, 0), (5, .invokevirtual 107, 3, 0), (8, .ifCond .ne 6, 3, 14), (11, .bipush (-2), 2, 0), (13, .ireturn, 1, 0), (14, .iconst (-1), 1, 0), (15, .istore_n 2, 1, 0), (16, .iconst 0, 1, 0), (17, .istore_n 3, 1, 0), (18, .iconst 0, 1, 0), (19, .istore 4, 2, 0), (21, .iload 4, 2, 0), (23, .iconst 2, 1, 0), (24, .aload_n 0, 1, 0), (25, .getfield 58, 3, 0), (28, .invokevirtual 251, 3, 0), (31, .imul, 1, 0), (32, .if_icmp .ge 36, 3, 68), (35, .aload_n 0, 1, 0), (36, .iload_n 1, 1, 0), (37, .iload 4, 2, 0), (39, .iconst 2, 1, 0), (40, .idiv, 1, 0), (41, .iload 4, 2, 0), (43, .iconst 2, 1, 0), (44, .irem, 1, 0), (45, .invokevirtual 247, 3, 0), (48, .istore 5, 2, 0), (50, .iload 5, 2, 0), (52, .iload_n 3, 1, 0), (53, .if_icmp .le 9, 3, 62), (56, .iload 5, 2, 0), (58, .istore_n 3, 1, 0), (59, .iload 4, 2, 0), (61, .istore_n 2, 1, 0), (62, .iinc 4 1, 3, 0), (65, .goto (-44), 3, 21), (68, .iload_n 2, 1, 0), (69, .ireturn, 1, 0)], ([(58, 10, 9, 0, 2, 108)], [(107, 1, 38, 3, 110), (251, 1, 42, 4, 55), (247, 0, 120, 4, 47)], [], [], []), (10, (4, 54), (1, 1), (4, 52), (4, 53)))
-- DoorSchool.hours()I
noncomputable def mr_128 : MR := ((yX10_hours, cX10_hours, 1, 0, (some .int)), [(0, .aload_n 0, 1, 0), (1, .getfield 58, 3, 0), (4, .invokevirtual 146, 3, 0), (7, .ifCond .eq 24, 3, 31), (10, .aload_n 0, 1, 0), (11, .getfield 51, 3, 0), (14, .aload_n 0, 1, 0), (15, .getfield 58, 3, 0), (18, .aload_n 0, 1, 0), (19, .getfield 58, 3, 0), (22, .getfield 337, 3, 0), (25, .invokevirtual 340, 3, 0), (28, .goto 5, 3, 33), (31, .bipush (-2), 2, 0), (33, .ireturn, 1, 0)], ([(58, 10, 9, 0, 2, 108), (51, 10, 5, 3, 2, 104), (337, 4, 2, 1, 2, 0)], [(146, 1, 34, 3, 129), (340, 1, 89, 5, 56)], [], [], []), (10, (5, 55), (1, 1), (5, 53), (5, 54)))
-- DoorSchool.house(II)I
noncomputable def mr_129 : MR := ((yX10_house, cX10_house, 5, 2, (some .int)), [(0, .aload_n 0, 1, 0), (1, .getfield 58, 3, 0), (4, .invokevirtual 146, 3, 0), (7, .ifCond .eq 19, 3, 26), (10, .iload_n 1, 1, 0), (11, .iconst (-1), 1, 0), (12, .if_icmp .eq 17, 3, 29), (15, .aload_n 0, 1, 0), (16, .getfield 58, 3, 0), (19, .iload_n 1, 1, 0), (20, .invokevirtual 150, 3, 0), (23, .ifCond .ne 6, 3, 29), (26, .bipush (-2), 2, 0), (28, .ireturn, 1, 0), (29, .iload_n 1, 1, 0), (30, .iconst (-1), 1, 0), (31, .if_icmp .ne 13, 3, 44), (34, .aload_n 0, 1, 0), (35, .getfield 58, 3, 0), (38, .getfield 153, 3, 0), (41, .goto 12, 3, 53), (44, .aload_n 0, 1, 0), (45, .getfield 58, 3, 0), (48, .getfield 156, 3, 0), (51, .iload_n 1, 1, 0), (52, .iaload, 1, 0), (53, .istore_n 3, 1, 0), (54, .iload_n 1, 1, 0), (55, .iconst (-1), 1, 0), (56, .if_icmp .ne 13, 3, 69), (59, .aload_n 0, 1, 0), (60, .getfield 58, 3, 0), (63, .getfield 159, 3, 0), (66, .goto 12, 3, 78), (69, .aload_n 0, 1, 0), (70, .getfield 58, 3, 0), (73, .getfield 162, 3, 0), (76, .iload_n 1, 1, 0), (77, .iaload, 1, 0), (78, .istore 4, 2, 0), (80, .iload_n 2, 1, 0), (81, .tableswitch 46 0 2 #[27, 29, 32], 27, 0), (108, .iload_n 3, 1, 0), (109, .ireturn, 1, 0), (110, .iload 4, 2, 0), (112, .ireturn, 1, 0), (113, .aload_n 0, 1, 0), (114, .getfield 28, 3, 0), (117, .iload_n 3, 1, 0), (118, .iload 4, 2, 0), (120, .invokevirtual 165, 3, 0), (123, .invokestatic 169, 3, 0), (126, .ireturn, 1, 0), (127, .bipush (-2), 2, 0), (129, .ireturn, 1, 0)], ([(58, 10, 9, 0, 2, 108), (153, 4, 6, 1, 2, 12), (156, 4, 9, 4, 2, 20), (159, 4, 7, 1, 2, 15), (162, 4, 10, 4, 2, 23), (28, 10, 2, 3, 2, 101)], [(146, 1, 34, 3, 129), (150, 1, 39, 3, 133), (165, 1, 68, 3, 137), (169, 2, 0, 3, 138)], [], [], []), (10, (3, 128), (1, 1), (3, 126), (3, 127)))
-- DoorSchool.houseDeeds(I)I
noncomputable def mr_130 : MR := ((yX10_houseDeeds, cX10_houseDeeds, 2, 1, (some .int)), [(0, .aload_n 0, 1, 0), (1, .getfield 28, 3, 0), (4, .aload_n 0, 1, 0), (5, .getfield 58, 3, 0), (8, .getfield 156, 3, 0), (11, .iload_n 1, 1, 0), (12, .iaload, 1, 0), (13, .aload_n 0, 1, 0), (14, .getfield 58, 3, 0), (17, .getfield 162, 3, 0), (20, .iload_n 1, 1, 0), (21, .iaload, 1, 0), (22, .invokevirtual 165, 3, 0), (25, .ireturn, 1, 0)], ([(28, 10, 2, 3, 2, 101), (58, 10, 9, 0, 2, 108), (156, 4, 9, 4, 2, 20), (162, 4, 10, 4, 2, 23)], [(165, 1, 68, 3, 137)], [], [], []), (10, (4, 236), (1, 1), (4, 235), (0, 71)))
-- DoorSchool.hung(I)I
noncomputable def mr_131 : MR := ((yX10_hung, cX10_hung, 2, 1, (some .int)), [(0, .aload_n 0, 1, 0), (1, .getfield 58, 3, 0), (4, .iload_n 1, 1, 0), (5, .invokevirtual 150, 3, 0), (8, .ifCond .ne 6, 3, 14), (11, .bipush (-2), 2, 0), (13, .ireturn, 1, 0), (14, .aload_n 0, 1, 0), (15, .invokevirtual 310, 3, 0), (18, .ifCond .eq 15, 3, 33), (21, .aload_n 0, 1, 0), (22, .getfield 44, 3, 0), (25, .getfield 316, 3, 0), (28, .iload_n 1, 1, 0), (29, .iaload, 1, 0), (30, .goto 4, 3, 34), (33, .iconst (-1), 1, 0), (34, .ireturn, 1, 0)], ([(58, 10, 9, 0, 2, 108), (44, 10, 4, 3, 2, 103), (316, 1, 2, 4, 1, 133)], [(150, 1, 39, 3, 133), (310, 0, 123, 4, 229)], [], [], []), (10, (5, 15), (1, 1), (5, 13), (5, 14)))
-- DoorSchool.idle(I)I
noncomputable def mr_132 : MR := ((yX10_idle, cX10_idle, 9, 1, (some .int)), [(0, .aload_n 0, 1, 0), (1, .getfield 58, 3, 0), (4, .iload_n 1, 1, 0), (5, .invokevirtual 107, 3, 0), (8, .ifCond .ne 6, 3, 14), (11, .bipush (-2), 2, 0), (13, .ireturn, 1, 0), (14, .aload_n 0, 1, 0), (15, .getfield 58, 3, 0), (18, .getfield 111, 3, 0), (21, .iload_n 1, 1, 0), (22, .aaload, 1, 0), (23, .getfield 123, 3, 0), (26, .astore_n 2, 1, 0), (27, .aload_n 0, 1, 0), (28, .iload_n 1, 1, 0), (29, .invokevirtual 178, 3, 0), (32, .istore_n 3, 1, 0), (33, .aload_n 2, 1, 0), (34, .getfield 127, 3, 0), (37, .istore 4, 2, 0), (39, .iconst 0, 1, 0), (40, .istore 5, 2, 0), (42, .iconst 0, 1, 0), (43, .istore 6, 2, 0), (45, .iload 6, 2, 0), (47, .iload 4, 2, 0), (49, .if_icmp .ge 61, 3, 110), (52, .aload_n 2, 1, 0), (53, .getfield 136, 3, 0), (56, .iload 6, 2, 0), (58, .iaload, 1, 0), (59, .istore 7, 2, 0), (61, .aload_n 2, 1, 0), (62, .getfield 140, 3, 0), (65, .iload 6, 2, 0), (67, .iaload, 1, 0), (68, .istore 8, 2, 0), (70, .aload_n 2, 1, 0), (71, .iload 6, 2, 0), (73, .invokevirtual 254, 3, 0), (76, .aload_n 0, 1, 0), (77, .iload_n 1, 1, 0), (78, .invokevirtual 178, 3, 0), (81, .iload_n 3, 1, 0), (82, .if_icmp .ne 12, 3, 94), (85, .iload 5, 2, 0), (87, .iconst 1, 1, 0), (88, .iload 6, 2, 0), (90, .ishl, 1, 0), (91, .ior, 1, 0), (92, .istore 5, 2, 0), (94, .aload_n 2, 1, 0), (95, .iload 6, 2, 0), (97, .iload 7, 2, 0), (99, .iload 8, 2, 0), (101, .invokevirtual 257, 3, 0), (104, .iinc 6 1, 3, 0), (107, .goto (-62), 3, 45), (110, .iload 5, 2, 0), (112, .ireturn, 1, 0)], ([(58, 10, 9, 0, 2, 108), (111, 4, 4, 4, 2, 6), (123, 0, 0, 4, 1, 214), (127, 3, 2, 1, 1, 197), (136, 3, 0, 4, 1, 189), (140, 3, 1, 4, 1, 192)], [(107, 1, 38, 3, 110), (178, 0, 105, 3, 149), (254, 1, 32, 4, 60), (257, 1, 29, 4, 61)], [], [], []), (10, (4, 59), (1, 1), (4, 57), (4, 58)))
-- DoorSchool.image(I)I
noncomputable def mr_133 : MR := ((yX10_image, cX10_image, 2, 1, (some .int)), [(0, .iload_n 1, 1, 0), (1, .ifCond .lt 8, 3, 9), (4, .iload_n 1, 1, 0), (5, .iconst 3, 1, 0), (6, .if_icmp .lt 6, 3, 12), (9, .bipush (-2), 2, 0), (11, .ireturn, 1, 0), (12, .aload_n 0, 1, 0), (13, .getfield 65, 3, 0), (16, .iload_n 1, 1, 0), (17, .aaload, 1, 0), (18, .aload_n 0, 1, 0), (19, .getfield 58, 3, 0), (22, .invokevirtual 362, 3, 0), (25, .aload_n 0, 1, 0), (26, .getfield 69, 3, 0), (29, .iload_n 1, 1, 0), (30, .iconst 1, 1, 0), (31, .bastore, 1, 0), (32, .iconst 0, 1, 0), (33, .ireturn, 1, 0)], ([(65, 10, 7, 3, 2, 106), (58, 10, 9, 0, 2, 108), (69, 10, 8, 3, 2, 107)], [(362, 1, 44, 5, 136)], [], [], []), (10, (5, 135), (1, 1), (5, 133), (5, 134)))
-- DoorSchool.<init>()V
noncomputable def mr_134 : MR := ((yX10_init, cX10_init, 2, 0, none), [(0, .aload_n 0, 1, 0), (1, .invokespecial 1, 3, 0), (4, .aload_n 0, 1, 0), (5, .new 7, 3, 0), (8, .dup, 1, 0), (9, .invokespecial 9, 3, 0), (12, .putfield 10, 3, 0), (15, .aload_n 0, 1, 0), (16, .new 16, 3, 0), (19, .dup, 1, 0), (20, .aload_n 0, 1, 0), (21, .getfield 10, 3, 0), (24, .invokespecial 18, 3, 0), (27, .putfield 21, 3, 0), (30, .aload_n 0, 1, 0), (31, .new 25, 3, 0), (34, .dup, 1, 0), (35, .invokespecial 27, 3, 0), (38, .putfield 28, 3, 0), (41, .aload_n 0, 1, 0), (42, .new 32, 3, 0), (45, .dup, 1, 0), (46, .aload_n 0, 1, 0), (47, .getfield 28, 3, 0), (50, .invokespecial 34, 3, 0), (53, .putfield 37, 3, 0), (56, .aload_n 0, 1, 0), (57, .new 41, 3, 0), (60, .dup, 1, 0), (61, .invokespecial 43, 3, 0), (64, .putfield 44, 3, 0), (67, .aload_n 0, 1, 0), (68, .new 48, 3, 0), (71, .dup, 1, 0), (72, .invokespecial 50, 3, 0), (75, .putfield 51, 3, 0), (78, .aload_n 0, 1, 0), (79, .new 55, 3, 0), (82, .dup, 1, 0), (83, .invokespecial 57, 3, 0), (86, .putfield 58, 3, 0), (89, .aload_n 0, 1, 0), (90, .new 55, 3, 0), (93, .dup, 1, 0), (94, .invokespecial 57, 3, 0), (97, .putfield 62, 3, 0), (100, .aload_n 0, 1, 0), (101, .iconst 3, 1, 0), (102, .anewarray 55, 3, 0), (105, .putfield 65, 3, 0), (108, .aload_n 0, 1, 0), (109, .iconst 3, 1, 0), (110, .newarray .boolean, 2, 0), (112, .putfield 69, 3, 0), (115, .iconst 0, 1, 0), (116, .istore_n 1, 1, 0), (117, .iload_n 1, 1, 0), (118, .iconst 3, 1, 0), (119, .if_icmp .ge 22, 3, 141), (122, .aload_n 0, 1, 0), (123, .getfield 65, 3, 0), (126, .iload_n 1, 1, 0), (127, .new 55, 3, 0), (130, .dup, 1, 0), (131, .invokespecial 57, 3, 0), (134, .aastore, 1, 0), (135, .iinc 1 1, 3, 0), (138, .goto (-21), 3, 117), (141, .aload_n 0, 1, 0), (142, .iconst 4, 1, 0), (143, .anewarray 73, 3, 0), (146, .putfield 75, 3, 0), (149, .iconst 0, 1, 0), (150, .istore_n 1, 1, 0), (151, .iload_n 1, 1, 0), (152, .iconst 4, 1, 0), (153, .if_icmp .ge 22, 3, 175), (156, .aload_n 0, 1, 0), (157, .getfield 75, 3, 0), (160, .iload_n 1, 1, 0), (161, .new 73, 3, 0), (164, .dup, 1, 0), (165, .invokespecial 79, 3, 0), (168, .aastore, 1, 0), (169, .iinc 1 1, 3, 0), (172, .goto (-21), 3, 151), (175, .return_, 1, 0)], ([(10, 10, 0, 2, 2, 99), (21, 10, 1, 2, 2, 100), (28, 10, 2, 2, 2, 101), (37, 10, 3, 2, 2, 102), (44, 10, 4, 2, 2, 103), (51, 10, 5, 2, 2, 104), (58, 10, 9, 0, 2, 108), (62, 10, 10, 0, 2, 109), (65, 10, 7, 2, 2, 106), (69, 10, 8, 2, 2, 107), (75, 10, 6, 2, 2, 105)], [(1, 9, 0, 1, 26), (9, 5, 82, 1, 31), (18, 5, 46, 1, 48), (27, 5, 71, 1, 78), (34, 5, 12, 1, 106), (43, 5, 7, 1, 125), (50, 5, 84, 1, 153), (57, 5, 35, 1, 176), (79, 5, 77, 2, 76)], [], [], [(7, 8, 1, 29), (16, 5, 1, 46), (25, 6, 1, 76), (32, 2, 1, 104), (41, 1, 1, 123), (48, 9, 1, 151), (55, 4, 1, 174), (73, 7, 2, 73)]), (10, (1, 25), (1, 1), (1, 24), (0, 0)))
-- DoorSchool.isLesson(III)Z
noncomputable def mr_135 : MR := ((yX10_isLesson, cX10_isLesson, 4, 3, (some .boolean)), [(0, .aload_n 0, 1, 0), (1, .getfield 58, 3, 0), (4, .iload_n 1, 1, 0), (5, .invokevirtual 107, 3, 0), (8, .ifCond .eq 25, 3, 33), (11, .aload_n 0, 1, 0), (12, .getfield 58, 3, 0), (15, .iload_n 2, 1, 0), (16, .invokevirtual 175, 3, 0), (19, .ifCond .eq 14, 3, 33), (22, .iload_n 3, 1, 0), (23, .invokestatic 133, 3, 0), (26, .ifCond .eq 7, 3, 33), (29, .iconst 1, 1, 0), (30, .goto 4, 3, 34), (33, .iconst 0, 1, 0), (34, .ireturn, 1, 0)], ([(58, 10, 9, 0, 2, 108)], [(107, 1, 38, 3, 110), (175, 1, 40, 3, 143), (133, 2, 140, 3, 118)], [], [], []), (10, (4, 29), (1, 1), (4, 28), (0, 48)))
-- DoorSchool.isRest(III)Z
noncomputable def mr_136 : MR := ((yX10_isRest, cX10_isRest, 5, 3, (some .boolean)), [(0, .aload_n 0, 1, 0), (1, .invokevirtual 273, 3, 0), (4, .iload_n 3, 1, 0), (5, .invokestatic 181, 3, 0), (8, .iconst 1, 1, 0), (9, .if_icmp .ne 5, 3, 14), (12, .iconst 0, 1, 0), (13, .ireturn, 1, 0), (14, .aload_n 0, 1, 0), (15, .iload_n 1, 1, 0), (16, .iload_n 2, 1, 0), (17, .invokevirtual 285, 3, 0), (20, .iload_n 3, 1, 0), (21, .invokestatic 181, 3, 0), (24, .ifCond .ne 18, 3, 42), (27, .aload_n 0, 1, 0), (28, .iload_n 1, 1, 0), (29, .iload_n 2, 1, 0), (30, .invokevirtual 285, 3, 0), (33, .ifCond .ne 7, 3, 40), (36, .iconst 1, 1, 0), (37, .goto 4, 3, 41), (40, .iconst 0, 1, 0), (41, .ireturn, 1, 0), (42, .iconst 0, 1, 0), (43, .istore 4, 2, 0), (45, .iload 4, 2, 0), (47, .iconst 3, 1, 0), (48, .if_icmp .ge 25, 3, 73), (51, .aload_n 0, 1, 0), (52, .iload_n 1, 1, 0), (53, .iload 4, 2, 0), (55, .invokevirtual 285, 3, 0), (58, .iload_n 3, 1, 0), (59, .invokestatic 181, 3, 0), (62, .ifCond .ne 5, 3, 67), (65, .iconst 0, 1, 0), (66, .ireturn, 1, 0), (67, .iinc 4 1, 3, 0), (70, .goto (-25), 3, 45), (73, .iconst 1, 1, 0), (74, .ireturn, 1, 0)], ([], [(273, 0, 151, 4, 122), (181, 2, 99, 3, 181), (285, 0, 162, 4, 152)], [], [], []), (10, (4, 167), (1, 1), (4, 166), (0, 64)))
-- DoorSchool.isSeed(I)Z
noncomputable def mr_137 : MR := ((yX10_isSeed, cX10_isSeed, 1, 1, (some .boolean)), [(0, .iload_n 0, 1, 0), (1, .ifCond .lt 14, 3, 15), (4, .iload_n 0, 1, 0), (5, .ldc_w 396, 3, 0), (8, .if_icmp .gt 7, 3, 15), (11, .iconst 1, 1, 0), (12, .goto 4, 3, 16), (15, .iconst 0, 1, 0), (16, .ireturn, 1, 0)], ([], [], [(396, 2000000000, 5, 110)], [], []), (10, (5, 109), (1, 1), (5, 108), (0, 0)))
-- DoorSchool.isSlot(I)Z
noncomputable def mr_138 : MR := ((yX10_isSlot, cX10_isSlot, 1, 1, (some .boolean)), [(0, .iload_n 0, 1, 0), (1, .ifCond .lt 12, 3, 13), (4, .iload_n 0, 1, 0), (5, .iconst 4, 1, 0), (6, .if_icmp .ge 7, 3, 13), (9, .iconst 1, 1, 0), (10, .goto 4, 3, 14), (13, .iconst 0, 1, 0), (14, .ireturn, 1, 0)], ([], [], [], [], []), (10, (4, 206), (1, 1), (4, 205), (0, 0)))
-- DoorSchool.isWay(I)Z
noncomputable def mr_139 : MR := ((yX10_isWay, cX10_isWay, 1, 1, (some .boolean)), [(0, .iload_n 0, 1, 0), (1, .ifCond .lt 12, 3, 13), (4, .iload_n 0, 1, 0), (5, .iconst 3, 1, 0), (6, .if_icmp .ge 7, 3, 13), (9, .iconst 1, 1, 0), (10, .goto 4, 3, 14), (13, .iconst 0, 1, 0), (14, .ireturn, 1, 0)], ([], [], [], [], []), (10, (4, 68), (1, 1), (4, 67), (0, 0)))
-- DoorSchool.isZeroOrOne(I)Z
noncomputable def mr_140 : MR := ((yX10_isZeroOrOne, cX10_isZeroOrOne, 1, 1, (some .boolean)), [(0, .iload_n 0, 1, 0), (1, .ifCond .eq 8, 3, 9), (4, .iload_n 0, 1, 0), (5, .iconst 1, 1, 0), (6, .if_icmp .ne 7, 3, 13), (9, .iconst 1, 1, 0), (10, .goto 4, 3, 14), (13, .iconst 0, 1, 0), (14, .ireturn, 1, 0)], ([], [], [], [], []), (10, (3, 120), (1, 1), (3, 119), (0, 0)))
-- DoorSchool.learnt(II)I
noncomputable def mr_141 : MR := ((yX10_learnt, cX10_learnt, 3, 2, (some .int)), [(0, .iload_n 1, 1, 0), (1, .invokestatic 261, 3, 0), (4, .ifCond .eq 26, 3, 30), (7, .aload_n 0, 1, 0), (8, .getfield 58, 3, 0), (11, .iload_n 2, 1, 0), (12, .invokevirtual 212, 3, 0), (15, .ifCond .eq 15, 3, 30), (18, .aload_n 0, 1, 0), (19, .getfield 37, 3, 0), (22, .iload_n 1, 1, 0), (23, .iload_n 2, 1, 0), (24, .invokevirtual 297, 3, 0), (27, .goto 5, 3, 32), (30, .bipush (-2), 2, 0), (32, .ireturn, 1, 0)], ([(58, 10, 9, 0, 2, 108), (37, 10, 3, 3, 2, 102)], [(261, 2, 139, 4, 66), (212, 1, 37, 3, 225), (297, 1, 15, 4, 188)], [], [], []), (10, (4, 187), (1, 1), (4, 185), (4, 186)))
-- DoorSchool.leaves(I)I
noncomputable def mr_142 : MR := ((yX10_leaves, cX10_leaves, 4, 1, (some .int)), [(0, .aload_n 0, 1, 0), (1, .iload_n 1, 1, 0), (2, .invokevirtual 300, 3, 0), (5, .istore_n 2, 1, 0), (6, .iload_n 2, 1, 0), (7, .ifCond .eq 5, 3, 12), (10, .iload_n 2, 1, 0), (11, .ireturn, 1, 0), (12, .aload_n 0, 1, 0), (13, .aload_n 0, 1, 0), (14, .getfield 75, 3, 0), (17, .iload_n 1, 1, 0), (18, .aaload, 1, 0), (19, .invokevirtual 326, 3, 0), (22, .istore_n 3, 1, 0), (23, .iload_n 3, 1, 0), (24, .iconst (-1), 1, 0), (25, .if_icmp .ne 11, 3, 36), (28, .aload_n 0, 1, 0), (29, .iload_n 1, 1, 0), (30, .invokevirtual 330, 3, 0), (33, .goto 14, 3, 47), (36, .aload_n 0, 1, 0), (37, .aload_n 0, 1, 0), (38, .getfield 75, 3, 0), (41, .iload_n 1, 1, 0), (42, .aaload, 1, 0), (43, .iload_n 3, 1, 0), (44, .invokevirtual 333, 3, 0), (47, .ireturn, 1, 0)], ([(75, 10, 6, 3, 2, 105)], [(300, 0, 171, 4, 200), (326, 0, 95, 5, 36), (330, 0, 115, 5, 51), (333, 0, 144, 5, 40)], [], [], []), (10, (5, 50), (1, 1), (5, 48), (5, 49)))
-- DoorSchool.left(I)I
noncomputable def mr_143 : MR := ((yX10_left, cX10_left, 3, 1, (some .int)), [(0, .aload_n 0, 1, 0), (1, .iload_n 1, 1, 0), (2, .invokevirtual 282, 3, 0), (5, .istore_n 2, 1, 0), (6, .iload_n 2, 1, 0), (7, .bipush (-2), 2, 0), (9, .if_icmp .ne 6, 3, 15), (12, .bipush (-2), 2, 0), (14, .ireturn, 1, 0), (15, .iload_n 2, 1, 0), (16, .iconst (-1), 1, 0), (17, .if_icmp .ne 14, 3, 31), (20, .aload_n 0, 1, 0), (21, .iload_n 1, 1, 0), (22, .invokevirtual 270, 3, 0), (25, .invokestatic 169, 3, 0), (28, .goto 9, 3, 37), (31, .aload_n 0, 1, 0), (32, .iload_n 1, 1, 0), (33, .iload_n 2, 1, 0), (34, .invokevirtual 279, 3, 0), (37, .ireturn, 1, 0)], ([], [(282, 0, 126, 4, 147), (270, 0, 117, 4, 118), (169, 2, 0, 3, 138), (279, 0, 118, 4, 139)], [], [], []), (10, (4, 146), (1, 1), (4, 144), (4, 145)))
-- DoorSchool.leftAtWorst(LDoorSchool$Slot;I)I
noncomputable def mr_144 : MR := ((yX10_leftAtWorst, cX10_leftAtWorst, 6, 2, (some .int)), [(0, .aload_n 1, 1, 0), (1, .iconst 1, 1, 0), (2, .invokevirtual 303, 3, 0), (5, .istore_n 3, 1, 0), (6, .aload_n 1, 1, 0), (7, .iconst 0, 1, 0), (8, .invokevirtual 303, 3, 0), (11, .istore 4, 2, 0), (13, .iconst 1, 1, 0), (14, .iload_n 2, 1, 0), (15, .ishl, 1, 0), (16, .istore 5, 2, 0), (18, .aload_n 0, 1, 0), (19, .getfield 28, 3, 0), (22, .iload_n 3, 1, 0), (23, .iload 5, 2, 0), (25, .ior, 1, 0), (26, .iload 4, 2, 0), (28, .invokevirtual 205, 3, 0), (31, .aload_n 0, 1, 0), (32, .getfield 28, 3, 0), (35, .iload_n 3, 1, 0), (36, .iload 4, 2, 0), (38, .iload 5, 2, 0), (40, .ior, 1, 0), (41, .invokevirtual 205, 3, 0), (44, .invokestatic 410, 3, 0), (47, .ireturn, 1, 0)], ([(28, 10, 2, 3, 2, 101)], [(303, 1, 80, 4, 211), (205, 1, 70, 3, 208)], [], [], []), (10, (5, 43), (1, 1), (5, 42), (0, 76)))
-- DoorSchool.lesson(III)I
noncomputable def mr_145 : MR := ((yX10_lesson, cX10_lesson, 5, 3, (some .int)), [(0, .aload_n 0, 1, 0), (1, .getfield 58, 3, 0), (4, .iload_n 1, 1, 0), (5, .invokevirtual 107, 3, 0), (8, .ifCond .eq 10, 3, 18), (11, .iload_n 3, 1, 0), (12, .invokestatic 133, 3, 0), (15, .ifCond .ne 6, 3, 21), (18, .bipush (-2), 2, 0), (20, .ireturn, 1, 0), (21, .aload_n 0, 1, 0), (22, .getfield 58, 3, 0), (25, .getfield 111, 3, 0), (28, .iload_n 1, 1, 0), (29, .aaload, 1, 0), (30, .getfield 123, 3, 0), (33, .astore 4, 2, 0), (35, .iload_n 2, 1, 0), (36, .ifCond .lt 12, 3, 48), (39, .iload_n 2, 1, 0), (40, .aload 4, 2, 0), (42, .getfield 127, 3, 0), (45, .if_icmp .lt 5, 3, 50), (48, .iconst (-1), 1, 0), (49, .ireturn, 1, 0), (50, .iload_n 3, 1, 0), (51, .ifCond .ne 13, 3, 64), (54, .aload 4, 2, 0), (56, .getfield 136, 3, 0), (59, .iload_n 2, 1, 0), (60, .iaload, 1, 0), (61, .goto 10, 3, 71), (64, .aload 4, 2, 0), (66, .getfield 140, 3, 0), (69, .iload_n 2, 1, 0), (70, .iaload, 1, 0), (71, .ireturn, 1, 0)], ([(58, 10, 9, 0, 2, 108), (111, 4, 4, 4, 2, 6), (123, 0, 0, 4, 1, 214), (127, 3, 2, 1, 1, 197), (136, 3, 0, 4, 1, 189), (140, 3, 1, 4, 1, 192)], [(107, 1, 38, 3, 110), (133, 2, 140, 3, 118)], [], [], []), (10, (3, 117), (1, 1), (3, 115), (3, 116)))
-- DoorSchool.marks(I)I
noncomputable def mr_146 : MR := ((yX10_marks, cX10_marks, 2, 1, (some .int)), [(0, .aload_n 0, 1, 0), (1, .getfield 58, 3, 0), (4, .iload_n 1, 1, 0), (5, .invokevirtual 107, 3, 0), (8, .ifCond .eq 15, 3, 23), (11, .aload_n 0, 1, 0), (12, .aload_n 0, 1, 0), (13, .iload_n 1, 1, 0), (14, .invokevirtual 178, 3, 0), (17, .invokevirtual 218, 3, 0), (20, .goto 5, 3, 25), (23, .bipush (-2), 2, 0), (25, .ireturn, 1, 0)], ([(58, 10, 9, 0, 2, 108)], [(107, 1, 38, 3, 110), (178, 0, 105, 3, 149), (218, 0, 147, 3, 237)], [], [], []), (10, (3, 236), (1, 1), (3, 234), (3, 235)))
-- DoorSchool.marksFor(I)I
noncomputable def mr_147 : MR := ((yX10_marksFor, cX10_marksFor, 2, 1, (some .int)), [(0, .aload_n 0, 1, 0), (1, .getfield 58, 3, 0), (4, .getfield 143, 3, 0), (7, .iload_n 1, 1, 0), (8, .invokevirtual 227, 3, 0), (11, .invokestatic 169, 3, 0), (14, .ireturn, 1, 0)], ([(58, 10, 9, 0, 2, 108), (143, 4, 5, 4, 2, 9)], [(227, 1, 23, 4, 1), (169, 2, 0, 3, 138)], [], [], []), (10, (4, 0), (1, 1), (3, 239), (0, 45)))
-- DoorSchool.next(II)I
noncomputable def mr_148 : MR := ((yX10_next, cX10_next, 7, 2, (some .int)), [(0, .iload_n 1, 1, 0), (1, .invokestatic 261, 3, 0), (4, .ifCond .eq 14, 3, 18), (7, .aload_n 0, 1, 0), (8, .getfield 58, 3, 0), (11, .iload_n 2, 1, 0), (12, .invokevirtual 212, 3, 0), (15, .ifCond .ne 6, 3, 21), (18, .bipush (-2), 2, 0), (20, .ireturn, 1, 0), (21, .iconst (-1), 1, 0), (22, .istore_n 3, 1, 0), (23, .sipush 1297, 3, 0), (26, .istore 4, 2, 0), (28, .iconst 0, 1, 0), (29, .istore 5, 2, 0), (31, .iload 5, 2, 0), (33, .aload_n 0, 1, 0), (34, .getfield 58, 3, 0), (37, .invokevirtual 251, 3, 0), (40, .if_icmp .ge 48, 3, 88), (43, .iload_n 2, 1, 0), (44, .iload 5, 2, 0), (46, .invokestatic 181, 3, 0), (49, .ifCond .ne 33, 3, 82), (52, .aload_n 0, 1, 0), (53, .getfield 37, 3, 0), (56, .iload_n 1, 1, 0), (57, .iload_n 2, 1, 0), (58, .iconst 1, 1, 0), (59, .iload 5, 2, 0), (61, .ishl, 1, 0), (62, .ior, 1, 0), (63, .invokevirtual 294, 3, 0), (66, .istore 6, 2, 0), (68, .iload 6, 2, 0), (70, .iload 4, 2, 0), (72, .if_icmp .ge 10, 3, 82), (75, .iload 6, 2, 0), (77, .istore 4, 2, 0), (79, .iload 5, 2, 0), (81, .istore_n 3, 1, 0), (82, .iinc 5 1, 3, 0), (85, .goto (-54), 3, 31), (88, .iload_n 3, 1, 0), (89, .ireturn, 1, 0)], ([(58, 10, 9, 0, 2, 108), (37, 10, 3, 3, 2, 102)], [(261, 2, 139, 4, 66), (212, 1, 37, 3, 225), (251, 1, 42, 4, 55), (181, 2, 99, 3, 181), (294, 1, 11, 4, 180)], [], [], []), (10, (4, 195), (1, 1), (4, 193), (4, 194)))
-- DoorSchool.often(I)I
noncomputable def mr_149 : MR := ((yX10_often, cX10_often, 2, 1, (some .int)), [(0, .aload_n 0, 1, 0), (1, .getfield 58, 3, 0), (4, .iload_n 1, 1, 0), (5, .invokevirtual 107, 3, 0), (8, .ifCond .eq 14, 3, 22), (11, .aload_n 0, 1, 0), (12, .iload_n 1, 1, 0), (13, .invokevirtual 178, 3, 0), (16, .invokestatic 169, 3, 0), (19, .goto 5, 3, 24), (22, .bipush (-2), 2, 0), (24, .ireturn, 1, 0)], ([(58, 10, 9, 0, 2, 108)], [(107, 1, 38, 3, 110), (178, 0, 105, 3, 149), (169, 2, 0, 3, 138)], [], [], []), (10, (3, 191), (1, 1), (3, 189), (3, 190)))
-- DoorSchool.opens(II)I
noncomputable def mr_150 : MR := ((yX10_opens, cX10_opens, 3, 2, (some .int)), [(0, .aload_n 0, 1, 0), (1, .getfield 58, 3, 0), (4, .iload_n 1, 1, 0), (5, .invokevirtual 107, 3, 0), (8, .ifCond .eq 14, 3, 22), (11, .aload_n 0, 1, 0), (12, .getfield 58, 3, 0), (15, .iload_n 2, 1, 0), (16, .invokevirtual 175, 3, 0), (19, .ifCond .ne 6, 3, 25), (22, .bipush (-2), 2, 0), (24, .ireturn, 1, 0), (25, .aload_n 0, 1, 0), (26, .iload_n 1, 1, 0), (27, .invokevirtual 178, 3, 0), (30, .iload_n 2, 1, 0), (31, .invokestatic 181, 3, 0), (34, .ireturn, 1, 0)], ([(58, 10, 9, 0, 2, 108)], [(107, 1, 38, 3, 110), (175, 1, 40, 3, 143), (178, 0, 105, 3, 149), (181, 2, 99, 3, 181)], [], [], []), (10, (3, 142), (1, 1), (3, 140), (3, 141)))
-- DoorSchool.ownerDeeds()I
noncomputable def mr_151 : MR := ((yX10_ownerDeeds, cX10_ownerDeeds, 1, 0, (some .int)), [(0, .aload_n 0, 1, 0), (1, .getfield 28, 3, 0), (4, .aload_n 0, 1, 0), (5, .getfield 58, 3, 0), (8, .getfield 153, 3, 0), (11, .aload_n 0, 1, 0), (12, .getfield 58, 3, 0), (15, .getfield 159, 3, 0), (18, .invokevirtual 165, 3, 0), (21, .ireturn, 1, 0)], ([(28, 10, 2, 3, 2, 101), (58, 10, 9, 0, 2, 108), (153, 4, 6, 1, 2, 12), (159, 4, 7, 1, 2, 15)], [(165, 1, 68, 3, 137)], [], [], []), (10, (4, 125), (1, 1), (4, 124), (0, 60)))
-- DoorSchool.owns(II)I
noncomputable def mr_152 : MR := ((yX10_owns, cX10_owns, 4, 2, (some .int)), [(0, .aload_n 0, 1, 0), (1, .getfield 58, 3, 0), (4, .iload_n 1, 1, 0), (5, .iload_n 2, 1, 0), (6, .invokevirtual 208, 3, 0), (9, .ifCond .ne 6, 3, 15), (12, .bipush (-2), 2, 0), (14, .ireturn, 1, 0), (15, .aload_n 0, 1, 0), (16, .invokevirtual 273, 3, 0), (19, .istore_n 3, 1, 0), (20, .aload_n 0, 1, 0), (21, .getfield 58, 3, 0), (24, .iload_n 1, 1, 0), (25, .putfield 153, 3, 0), (28, .aload_n 0, 1, 0), (29, .getfield 58, 3, 0), (32, .iload_n 2, 1, 0), (33, .putfield 159, 3, 0), (36, .iload_n 3, 1, 0), (37, .ireturn, 1, 0)], ([(58, 10, 9, 0, 2, 108), (153, 4, 6, 1, 2, 12), (159, 4, 7, 1, 2, 15)], [(208, 1, 41, 3, 216), (273, 0, 151, 4, 122)], [], [], []), (10, (5, 102), (1, 1), (5, 100), (5, 101)))
-- DoorSchool.paste(IIIII)I
noncomputable def mr_153 : MR := ((yX10_paste, cX10_paste, 8, 5, (some .int)), [(0, .iload_n 1, 1, 0), (1, .invokestatic 365, 3, 0), (4, .ifCond .eq 10, 3, 14), (7, .iload_n 3, 1, 0), (8, .invokestatic 365, 3, 0), (11, .ifCond .ne 6, 3, 17), (14, .bipush (-2), 2, 0), (16, .ireturn, 1, 0), (17, .aload_n 0, 1, 0), (18, .getfield 75, 3, 0), (21, .iload_n 1, 1, 0), (22, .aaload, 1, 0), (23, .astore 6, 2, 0), (25, .aload_n 0, 1, 0), (26, .getfield 75, 3, 0), (29, .iload_n 3, 1, 0), (30, .aaload, 1, 0), (31, .astore 7, 2, 0), (33, .aload 6, 2, 0), (35, .getfield 371, 3, 0), (38, .ifCond .eq 11, 3, 49), (41, .aload 7, 2, 0), (43, .getfield 371, 3, 0), (46, .ifCond .ne 6, 3, 52), (49, .bipush (-6), 2, 0), (51, .ireturn, 1, 0), (52, .aload 6, 2, 0), (54, .getfield 380, 3, 0), (57, .aload 7, 2, 0), (59, .getfield 380, 3, 0), (62, .if_icmp .eq 6, 3, 68), (65, .bipush (-8), 2, 0), (67, .ireturn, 1, 0), (68, .aload 6, 2, 0), (70, .iload_n 2, 1, 0), (71, .iload 5, 2, 0), (73, .invokevirtual 383, 3, 0), (76, .ifCond .eq 15, 3, 91), (79, .aload 7, 2, 0), (81, .iload 4, 2, 0), (83, .iload 5, 2, 0), (85, .invokevirtual 383, 3, 0), (88, .ifCond .ne 6, 3, 94), (91, .bipush (-7), 2, 0), (93, .ireturn, 1, 0), (94, .aload 6, 2, 0), (96, .getfield 386, 3, 0), (99, .iload_n 2, 1, 0), (100, .aload 7, 2, 0), (102, .getfield 386, 3, 0), (105, .iload 4, 2, 0), (107, .iload 5, 2, 0), (109, .invokestatic 390, 3, 0), (112, .iconst 0, 1, 0), (113, .ireturn, 1, 0)], ([(75, 10, 6, 3, 2, 105), (371, 7, 1, 1, 2, 83), (380, 7, 2, 1, 2, 85), (386, 7, 0, 4, 2, 81)], [(365, 2, 138, 4, 204), (383, 1, 76, 5, 179), (390, 8, 0, 5, 183)], [], [], []), (10, (5, 178), (1, 1), (5, 176), (5, 177)))
-- DoorSchool.rest(I)I
noncomputable def mr_154 : MR := ((yX10_rest, cX10_rest, 4, 1, (some .int)), [(0, .aload_n 0, 1, 0), (1, .getfield 58, 3, 0), (4, .iload_n 1, 1, 0), (5, .invokevirtual 107, 3, 0), (8, .ifCond .ne 6, 3, 14), (11, .bipush (-2), 2, 0), (13, .ireturn, 1, 0), (14, .iconst 0, 1, 0), (15, .istore_n 2, 1, 0), (16, .iload_n 2, 1, 0), (17, .iconst 3, 1, 0), (18, .if_icmp .ge 45, 3, 63), (21, .iconst 0, 1, 0), (22, .istore_n 3, 1, 0), (23, .iload_n 3, 1, 0), (24, .aload_n 0, 1, 0), (25, .getfield 58, 3, 0), (28, .invokevirtual 251, 3, 0), (31, .if_icmp .ge 26, 3, 57), (34, .aload_n 0, 1, 0), (35, .iload_n 1, 1, 0), (36, .iload_n 2, 1, 0), (37, .iload_n 3, 1, 0), (38, .invokevirtual 288, 3, 0), (41, .ifCond .eq 10, 3, 51), (44, .bipush 100, 2, 0), (46, .iload_n 2, 1, 0), (47, .imul, 1, 0), (48, .iload_n 3, 1, 0), (49, .iadd, 1, 0), (50, .ireturn, 1, 0), (51, .iinc 3 1, 3, 0), (54, .goto (-31), 3, 23), (57, .iinc 2 1, 3, 0), (60, .goto (-44), 3, 16), (63, .iconst (-1), 1, 0), (64, .ireturn, 1, 0)], ([(58, 10, 9, 0, 2, 108)], [(107, 1, 38, 3, 110), (251, 1, 42, 4, 55), (288, 0, 136, 4, 164)], [], [], []), (10, (4, 171), (1, 1), (4, 169), (4, 170)))
-- DoorSchool.rests(I)I
noncomputable def mr_155 : MR := ((yX10_rests, cX10_rests, 5, 1, (some .int)), [(0, .aload_n 0, 1, 0), (1, .getfield 58, 3, 0), (4, .iload_n 1, 1, 0), (5, .invokevirtual 107, 3, 0), (8, .ifCond .ne 6, 3, 14), (11, .bipush (-2), 2, 0), (13, .ireturn, 1, 0), (14, .iconst 0, 1, 0), (15, .istore_n 2, 1, 0), (16, .iconst 0, 1, 0), (17, .istore_n 3, 1, 0), (18, .iload_n 3, 1, 0), (19, .iconst 3, 1, 0), (20, .if_icmp .ge 44, 3, 64), (23, .iconst 0, 1, 0), (24, .istore 4, 2, 0), (26, .iload 4, 2, 0), (28, .aload_n 0, 1, 0), (29, .getfield 58, 3, 0), (32, .invokevirtual 251, 3, 0), (35, .if_icmp .ge 23, 3, 58), (38, .aload_n 0, 1, 0), (39, .iload_n 1, 1, 0), (40, .iload_n 3, 1, 0), (41, .iload 4, 2, 0), (43, .invokevirtual 288, 3, 0), (46, .ifCond .eq 6, 3, 52), (49, .iinc 2 1, 3, 0), (52, .iinc 4 1, 3, 0), (55, .goto (-29), 3, 26), (58, .iinc 3 1, 3, 0), (61, .goto (-43), 3, 18), (64, .iload_n 2, 1, 0), (65, .ireturn, 1, 0)], ([(58, 10, 9, 0, 2, 108)], [(107, 1, 38, 3, 110), (251, 1, 42, 4, 55), (288, 0, 136, 4, 164)], [], [], []), (10, (4, 163), (1, 1), (4, 161), (4, 162)))
-- DoorSchool.row(III)I
noncomputable def mr_156 : MR := ((yX10_row, cX10_row, 4, 3, (some .int)), [(0, .iload_n 1, 1, 0), (1, .invokestatic 365, 3, 0), (4, .ifCond .eq 18, 3, 22), (7, .iload_n 2, 1, 0), (8, .ifCond .lt 14, 3, 22), (11, .iload_n 2, 1, 0), (12, .iconst 4, 1, 0), (13, .if_icmp .ge 9, 3, 22), (16, .iload_n 3, 1, 0), (17, .bipush 60, 2, 0), (19, .if_icmp .le 6, 3, 25), (22, .bipush (-2), 2, 0), (24, .ireturn, 1, 0), (25, .iload_n 3, 1, 0), (26, .ifCond .ge 6, 3, 32), (29, .bipush (-3), 2, 0), (31, .ireturn, 1, 0), (32, .aload_n 0, 1, 0), (33, .getfield 75, 3, 0), (36, .iload_n 1, 1, 0), (37, .aaload, 1, 0), (38, .iload_n 2, 1, 0), (39, .iload_n 3, 1, 0), (40, .invokevirtual 368, 3, 0), (43, .iconst 0, 1, 0), (44, .ireturn, 1, 0)], ([(75, 10, 6, 3, 2, 105)], [(365, 2, 138, 4, 204), (368, 1, 75, 5, 160)], [], [], []), (10, (5, 159), (1, 1), (5, 157), (5, 158)))
-- DoorSchool.rule(II)I
noncomputable def mr_157 : MR := ((yX10_rule, cX10_rule, 5, 2, (some .int)), [(0, .aload_n 0, 1, 0), (1, .getfield 58, 3, 0), (4, .iload_n 1, 1, 0), (5, .invokevirtual 107, 3, 0), (8, .ifCond .eq 12, 3, 20), (11, .iload_n 2, 1, 0), (12, .ifCond .lt 8, 3, 20), (15, .iload_n 2, 1, 0), (16, .iconst 2, 1, 0), (17, .if_icmp .le 6, 3, 23), (20, .bipush (-2), 2, 0), (22, .ireturn, 1, 0), (23, .aload_n 0, 1, 0), (24, .getfield 58, 3, 0), (27, .getfield 111, 3, 0), (30, .iload_n 1, 1, 0), (31, .aaload, 1, 0), (32, .getfield 123, 3, 0), (35, .astore_n 3, 1, 0), (36, .aload_n 0, 1, 0), (37, .getfield 28, 3, 0), (40, .aload_n 3, 1, 0), (41, .iconst 1, 1, 0), (42, .invokevirtual 194, 3, 0), (45, .aload_n 3, 1, 0), (46, .iconst 0, 1, 0), (47, .invokevirtual 194, 3, 0), (50, .invokevirtual 197, 3, 0), (53, .istore 4, 2, 0), (55, .iload 4, 2, 0), (57, .iconst (-1), 1, 0), (58, .if_icmp .eq 8, 3, 66), (61, .iload_n 2, 1, 0), (62, .iconst 2, 1, 0), (63, .if_icmp .ne 6, 3, 69), (66, .iload 4, 2, 0), (68, .ireturn, 1, 0), (69, .iload_n 2, 1, 0), (70, .ifCond .ne 16, 3, 86), (73, .aload_n 0, 1, 0), (74, .getfield 28, 3, 0), (77, .getfield 200, 3, 0), (80, .iload 4, 2, 0), (82, .iaload, 1, 0), (83, .goto 13, 3, 96), (86, .aload_n 0, 1, 0), (87, .getfield 28, 3, 0), (90, .getfield 202, 3, 0), (93, .iload 4, 2, 0), (95, .iaload, 1, 0), (96, .ireturn, 1, 0)], ([(58, 10, 9, 0, 2, 108), (111, 4, 4, 4, 2, 6), (123, 0, 0, 4, 1, 214), (28, 10, 2, 3, 2, 101), (200, 6, 2, 4, 1, 87), (202, 6, 3, 4, 1, 89)], [(107, 1, 38, 3, 110), (194, 1, 30, 3, 202), (197, 1, 69, 3, 203)], [], [], []), (10, (3, 201), (1, 1), (3, 199), (3, 200)))
-- DoorSchool.rules(I)I
noncomputable def mr_158 : MR := ((yX10_rules, cX10_rules, 3, 1, (some .int)), [(0, .aload_n 0, 1, 0), (1, .getfield 58, 3, 0), (4, .iload_n 1, 1, 0), (5, .invokevirtual 107, 3, 0), (8, .ifCond .ne 6, 3, 14), (11, .bipush (-2), 2, 0), (13, .ireturn, 1, 0), (14, .aload_n 0, 1, 0), (15, .getfield 58, 3, 0), (18, .getfield 111, 3, 0), (21, .iload_n 1, 1, 0), (22, .aaload, 1, 0), (23, .getfield 123, 3, 0), (26, .astore_n 2, 1, 0), (27, .aload_n 0, 1, 0), (28, .getfield 28, 3, 0), (31, .aload_n 2, 1, 0), (32, .iconst 1, 1, 0), (33, .invokevirtual 194, 3, 0), (36, .aload_n 2, 1, 0), (37, .iconst 0, 1, 0), (38, .invokevirtual 194, 3, 0), (41, .invokevirtual 205, 3, 0), (44, .ireturn, 1, 0)], ([(58, 10, 9, 0, 2, 108), (111, 4, 4, 4, 2, 6), (123, 0, 0, 4, 1, 214), (28, 10, 2, 3, 2, 101)], [(107, 1, 38, 3, 110), (194, 1, 30, 3, 202), (205, 1, 70, 3, 208)], [], [], []), (10, (3, 207), (1, 1), (3, 205), (3, 206)))
-- DoorSchool.same(I)I
noncomputable def mr_159 : MR := ((yX10_same, cX10_same, 7, 1, (some .int)), [(0, .aload_n 0, 1, 0), (1, .iload_n 1, 1, 0), (2, .invokevirtual 300, 3, 0), (5, .istore_n 2, 1, 0), (6, .iload_n 2, 1, 0), (7, .ifCond .eq 5, 3, 12), (10, .iload_n 2, 1, 0), (11, .ireturn, 1, 0), (12, .aload_n 0, 1, 0), (13, .getfield 75, 3, 0), (16, .iload_n 1, 1, 0), (17, .aaload, 1, 0), (18, .iconst 1, 1, 0), (19, .invokevirtual 303, 3, 0), (22, .istore_n 3, 1, 0), (23, .aload_n 0, 1, 0), (24, .getfield 75, 3, 0), (27, .iload_n 1, 1, 0), (28, .aaload, 1, 0), (29, .iconst 0, 1, 0), (30, .invokevirtual 303, 3, 0), (33, .istore 4, 2, 0), (35, .iconst 0, 1, 0), (36, .istore 5, 2, 0), (38, .iconst 0, 1, 0), (39, .istore 6, 2, 0), (41, .iload 6, 2, 0), (43, .aload_n 0, 1, 0), (44, .getfield 58, 3, 0), (47, .getfield 224, 3, 0), (50, .if_icmp .ge 33, 3, 83), (53, .aload_n 0, 1, 0), (54, .iload 6, 2, 0), (56, .invokevirtual 178, 3, 0), (59, .iload_n 3, 1, 0), (60, .iload 4, 2, 0), (62, .invokestatic 304, 3, 0), (65, .ifCond .eq 12, 3, 77), (68, .iload 5, 2, 0), (70, .iconst 1, 1, 0), (71, .iload 6, 2, 0), (73, .ishl, 1, 0), (74, .ior, 1, 0), (75, .istore 5, 2, 0), (77, .iinc 6 1, 3, 0), (80, .goto (-39), 3, 41), (83, .iload 5, 2, 0), (85, .ireturn, 1, 0)], ([(75, 10, 6, 3, 2, 105), (58, 10, 9, 0, 2, 108), (224, 4, 3, 1, 2, 3)], [(300, 0, 171, 4, 200), (303, 1, 80, 4, 211), (178, 0, 105, 3, 149), (304, 2, 91, 4, 215)], [], [], []), (10, (4, 199), (1, 1), (4, 197), (4, 198)))
-- DoorSchool.school()I
noncomputable def mr_160 : MR := ((yX10_school, cX10_school, 2, 0, (some .int)), [(0, .aload_n 0, 1, 0), (1, .getfield 21, 3, 0), (4, .aload_n 0, 1, 0), (5, .getfield 62, 3, 0), (8, .invokevirtual 88, 3, 0), (11, .aload_n 0, 1, 0), (12, .getfield 10, 3, 0), (15, .iconst 0, 1, 0), (16, .putfield 80, 3, 0), (19, .aload_n 0, 1, 0), (20, .getfield 21, 3, 0), (23, .getfield 92, 3, 0), (26, .ifCond .eq 6, 3, 32), (29, .bipush (-4), 2, 0), (31, .ireturn, 1, 0), (32, .aload_n 0, 1, 0), (33, .getfield 58, 3, 0), (36, .astore_n 1, 1, 0), (37, .aload_n 0, 1, 0), (38, .aload_n 0, 1, 0), (39, .getfield 62, 3, 0), (42, .putfield 58, 3, 0), (45, .aload_n 0, 1, 0), (46, .aload_n 1, 1, 0), (47, .putfield 62, 3, 0), (50, .aload_n 0, 1, 0), (51, .getfield 28, 3, 0), (54, .aload_n 0, 1, 0), (55, .getfield 58, 3, 0), (58, .getfield 95, 3, 0), (61, .invokevirtual 98, 3, 0), (64, .aload_n 0, 1, 0), (65, .getfield 58, 3, 0), (68, .getfield 101, 3, 0), (71, .ireturn, 1, 0)], ([(21, 10, 1, 3, 2, 100), (62, 10, 10, 0, 2, 109), (10, 10, 0, 3, 2, 99), (80, 8, 1, 1, 1, 37), (92, 5, 5, 1, 1, 58), (58, 10, 9, 0, 2, 108), (28, 10, 2, 3, 2, 101), (95, 4, 1, 1, 1, 237), (101, 4, 0, 1, 1, 234)], [(88, 1, 51, 2, 149), (98, 1, 73, 3, 89)], [], [], []), (10, (2, 148), (1, 1), (2, 146), (2, 147)))
-- DoorSchool.sets(III)I
noncomputable def mr_161 : MR := ((yX10_sets, cX10_sets, 4, 3, (some .int)), [(0, .iload_n 1, 1, 0), (1, .invokestatic 261, 3, 0), (4, .ifCond .eq 24, 3, 28), (7, .aload_n 0, 1, 0), (8, .getfield 58, 3, 0), (11, .iload_n 2, 1, 0), (12, .invokevirtual 212, 3, 0), (15, .ifCond .eq 13, 3, 28), (18, .iload_n 3, 1, 0), (19, .ifCond .lt 9, 3, 28), (22, .iload_n 3, 1, 0), (23, .bipush 16, 2, 0), (25, .if_icmp .le 6, 3, 31), (28, .bipush (-2), 2, 0), (30, .ireturn, 1, 0), (31, .aload_n 0, 1, 0), (32, .getfield 37, 3, 0), (35, .iload_n 1, 1, 0), (36, .iload_n 2, 1, 0), (37, .iload_n 3, 1, 0), (38, .invokevirtual 267, 3, 0), (41, .ireturn, 1, 0)], ([(58, 10, 9, 0, 2, 108), (37, 10, 3, 3, 2, 102)], [(261, 2, 139, 4, 66), (212, 1, 37, 3, 225), (267, 1, 20, 4, 106)], [], [], []), (10, (4, 105), (1, 1), (4, 103), (4, 104)))
-- DoorSchool.stolenBy(II)I
noncomputable def mr_162 : MR := ((yX10_stolenBy, cX10_stolenBy, 3, 2, (some .int)), [(0, .aload_n 0, 1, 0), (1, .iload_n 1, 1, 0), (2, .iload_n 2, 1, 0), (3, .invokevirtual 291, 3, 0), (6, .aload_n 0, 1, 0), (7, .invokevirtual 273, 3, 0), (10, .iconst (-1), 1, 0), (11, .ixor, 1, 0), (12, .iand, 1, 0), (13, .ireturn, 1, 0)], ([], [(291, 0, 175, 4, 156), (273, 0, 151, 4, 122)], [], [], []), (10, (4, 155), (1, 1), (4, 154), (0, 62)))
-- DoorSchool.storm(III)I
noncomputable def mr_163 : MR := ((yX10_storm, cX10_storm, 5, 3, (some .int)), [(0, .iload_n 1, 1, 0), (1, .invokestatic 350, 3, 0), (4, .ifCond .eq 14, 3, 18), (7, .aload_n 0, 1, 0), (8, .getfield 58, 3, 0), (11, .iload_n 2, 1, 0), (12, .invokevirtual 107, 3, 0), (15, .ifCond .ne 6, 3, 21), (18, .bipush (-2), 2, 0), (20, .ireturn, 1, 0), (21, .aload_n 0, 1, 0), (22, .iload_n 1, 1, 0), (23, .iload_n 2, 1, 0), (24, .invokevirtual 353, 3, 0), (27, .istore 4, 2, 0), (29, .iload_n 3, 1, 0), (30, .tableswitch 48 0 2 #[26, 29, 36], 26, 0), (56, .iload 4, 2, 0), (58, .ireturn, 1, 0), (59, .aload_n 0, 1, 0), (60, .iload 4, 2, 0), (62, .invokevirtual 218, 3, 0), (65, .ireturn, 1, 0), (66, .iload 4, 2, 0), (68, .aload_n 0, 1, 0), (69, .iload_n 2, 1, 0), (70, .invokevirtual 178, 3, 0), (73, .ixor, 1, 0), (74, .invokestatic 169, 3, 0), (77, .ireturn, 1, 0), (78, .bipush (-2), 2, 0), (80, .ireturn, 1, 0)], ([(58, 10, 9, 0, 2, 108)], [(350, 2, 137, 5, 107), (107, 1, 38, 3, 110), (353, 0, 106, 5, 111), (218, 0, 147, 3, 237), (178, 0, 105, 3, 149), (169, 2, 0, 3, 138)], [], [], []), (10, (5, 106), (1, 1), (5, 104), (5, 105)))
-- DoorSchool.sure(II)I
noncomputable def mr_164 : MR := ((yX10_sure, cX10_sure, 4, 2, (some .int)), [(0, .iload_n 2, 1, 0), (1, .invokestatic 133, 3, 0), (4, .ifCond .eq 11, 3, 15), (7, .aload_n 0, 1, 0), (8, .iload_n 1, 1, 0), (9, .invokevirtual 300, 3, 0), (12, .goto 5, 3, 17), (15, .bipush (-2), 2, 0), (17, .istore_n 3, 1, 0), (18, .iload_n 3, 1, 0), (19, .ifCond .eq 5, 3, 24), (22, .iload_n 3, 1, 0), (23, .ireturn, 1, 0), (24, .aload_n 0, 1, 0), (25, .getfield 28, 3, 0), (28, .aload_n 0, 1, 0), (29, .getfield 75, 3, 0), (32, .iload_n 1, 1, 0), (33, .aaload, 1, 0), (34, .iconst 1, 1, 0), (35, .invokevirtual 303, 3, 0), (38, .aload_n 0, 1, 0), (39, .getfield 75, 3, 0), (42, .iload_n 1, 1, 0), (43, .aaload, 1, 0), (44, .iconst 0, 1, 0), (45, .invokevirtual 303, 3, 0), (48, .iload_n 2, 1, 0), (49, .ifCond .ne 7, 3, 56), (52, .iconst 1, 1, 0), (53, .goto 4, 3, 57), (56, .iconst 0, 1, 0), (57, .invokevirtual 322, 3, 0), (60, .ireturn, 1, 0)], ([(28, 10, 2, 3, 2, 101), (75, 10, 6, 3, 2, 105)], [(133, 2, 140, 3, 118), (300, 0, 171, 4, 200), (303, 1, 80, 4, 211), (322, 1, 74, 5, 28)], [], [], []), (10, (5, 27), (1, 1), (5, 25), (5, 26)))
-- DoorSchool.teach(III)I
noncomputable def mr_165 : MR := ((yX10_teach, cX10_teach, 5, 3, (some .int)), [(0, .aload_n 0, 1, 0), (1, .iload_n 1, 1, 0), (2, .iload_n 2, 1, 0), (3, .iload_n 3, 1, 0), (4, .invokevirtual 230, 3, 0), (7, .ifCond .ne 6, 3, 13), (10, .bipush (-2), 2, 0), (12, .ireturn, 1, 0), (13, .aload_n 0, 1, 0), (14, .getfield 58, 3, 0), (17, .getfield 111, 3, 0), (20, .iload_n 1, 1, 0), (21, .aaload, 1, 0), (22, .getfield 123, 3, 0), (25, .astore 4, 2, 0), (27, .aload 4, 2, 0), (29, .getfield 127, 3, 0), (32, .bipush 12, 2, 0), (34, .if_icmp .lt 6, 3, 40), (37, .bipush (-3), 2, 0), (39, .ireturn, 1, 0), (40, .aload_n 0, 1, 0), (41, .getfield 58, 3, 0), (44, .getfield 234, 3, 0), (47, .bipush 60, 2, 0), (49, .if_icmp .lt 6, 3, 55), (52, .bipush (-5), 2, 0), (54, .ireturn, 1, 0), (55, .aload 4, 2, 0), (57, .iload_n 2, 1, 0), (58, .iload_n 3, 1, 0), (59, .invokevirtual 237, 3, 0), (62, .aload_n 0, 1, 0), (63, .getfield 58, 3, 0), (66, .getfield 241, 3, 0), (69, .aload_n 0, 1, 0), (70, .getfield 58, 3, 0), (73, .getfield 234, 3, 0), (76, .iload_n 1, 1, 0), (77, .iastore, 1, 0), (78, .aload_n 0, 1, 0), (79, .getfield 58, 3, 0), (82, .dup, 1, 0), (83, .getfield 234, 3, 0), (86, .iconst 1, 1, 0), (87, .iadd, 1, 0), (88, .putfield 234, 3, 0), (91, .aload 4, 2, 0), (93, .getfield 127, 3, 0), (96, .ireturn, 1, 0)], ([(58, 10, 9, 0, 2, 108), (111, 4, 4, 4, 2, 6), (123, 0, 0, 4, 1, 214), (127, 3, 2, 1, 1, 197), (234, 4, 14, 1, 2, 36), (241, 4, 15, 4, 2, 38)], [(230, 0, 135, 4, 26), (237, 1, 22, 4, 30)], [], [], []), (10, (4, 25), (1, 1), (4, 23), (4, 24)))
-- DoorSchool.teacher()I
noncomputable def mr_166 : MR := ((yX10_teacher, cX10_teacher, 1, 0, (some .int)), [(0, .aload_n 0, 1, 0), (1, .getfield 58, 3, 0), (4, .invokevirtual 146, 3, 0), (7, .ifCond .ne 6, 3, 13), (10, .bipush (-2), 2, 0), (12, .ireturn, 1, 0), (13, .aload_n 0, 1, 0), (14, .getfield 51, 3, 0), (17, .aload_n 0, 1, 0), (18, .getfield 58, 3, 0), (21, .aload_n 0, 1, 0), (22, .getfield 58, 3, 0), (25, .getfield 337, 3, 0), (28, .invokevirtual 340, 3, 0), (31, .aload_n 0, 1, 0), (32, .getfield 51, 3, 0), (35, .aload_n 0, 1, 0), (36, .getfield 58, 3, 0), (39, .aload_n 0, 1, 0), (40, .getfield 58, 3, 0), (43, .getfield 337, 3, 0), (46, .iconst 1, 1, 0), (47, .iadd, 1, 0), (48, .invokevirtual 340, 3, 0), (51, .isub, 1, 0), (52, .ireturn, 1, 0)], ([(58, 10, 9, 0, 2, 108), (51, 10, 5, 3, 2, 104), (337, 4, 2, 1, 2, 0)], [(146, 1, 34, 3, 129), (340, 1, 89, 5, 56)], [], [], []), (10, (5, 94), (1, 1), (5, 92), (5, 93)))
-- DoorSchool.told(II)I
noncomputable def mr_167 : MR := ((yX10_told, cX10_told, 4, 2, (some .int)), [(0, .aload_n 0, 1, 0), (1, .getfield 58, 3, 0), (4, .iload_n 1, 1, 0), (5, .invokevirtual 212, 3, 0), (8, .ifCond .eq 10, 3, 18), (11, .iload_n 2, 1, 0), (12, .invokestatic 133, 3, 0), (15, .ifCond .ne 6, 3, 21), (18, .bipush (-2), 2, 0), (20, .ireturn, 1, 0), (21, .aload_n 0, 1, 0), (22, .getfield 28, 3, 0), (25, .iload_n 1, 1, 0), (26, .invokevirtual 215, 3, 0), (29, .istore_n 3, 1, 0), (30, .iload_n 3, 1, 0), (31, .iconst (-1), 1, 0), (32, .if_icmp .ne 5, 3, 37), (35, .iconst (-1), 1, 0), (36, .ireturn, 1, 0), (37, .iload_n 2, 1, 0), (38, .ifCond .ne 15, 3, 53), (41, .aload_n 0, 1, 0), (42, .getfield 28, 3, 0), (45, .getfield 200, 3, 0), (48, .iload_n 3, 1, 0), (49, .iaload, 1, 0), (50, .goto 12, 3, 62), (53, .aload_n 0, 1, 0), (54, .getfield 28, 3, 0), (57, .getfield 202, 3, 0), (60, .iload_n 3, 1, 0), (61, .iaload, 1, 0), (62, .ireturn, 1, 0)], ([(58, 10, 9, 0, 2, 108), (28, 10, 2, 3, 2, 101), (200, 6, 2, 4, 1, 87), (202, 6, 3, 4, 1, 89)], [(212, 1, 37, 3, 225), (133, 2, 140, 3, 118), (215, 1, 72, 3, 229)], [], [], []), (10, (3, 224), (1, 1), (3, 222), (3, 223)))
-- DoorSchool.train(III)I
noncomputable def mr_168 : MR := ((yX10_train, cX10_train, 6, 3, (some .int)), [(0, .aload_n 0, 1, 0), (1, .getfield 58, 3, 0), (4, .iload_n 1, 1, 0), (5, .invokevirtual 107, 3, 0), (8, .ifCond .eq 10, 3, 18), (11, .iload_n 2, 1, 0), (12, .invokestatic 133, 3, 0), (15, .ifCond .ne 6, 3, 21), (18, .bipush (-2), 2, 0), (20, .ireturn, 1, 0), (21, .aload_n 0, 1, 0), (22, .getfield 58, 3, 0), (25, .getfield 111, 3, 0), (28, .iload_n 1, 1, 0), (29, .aaload, 1, 0), (30, .astore 4, 2, 0), (32, .iload_n 2, 1, 0), (33, .ifCond .ne 29, 3, 62), (36, .iload_n 3, 1, 0), (37, .invokestatic 261, 3, 0), (40, .ifCond .ne 6, 3, 46), (43, .bipush (-2), 2, 0), (45, .ireturn, 1, 0), (46, .aload 4, 2, 0), (48, .getfield 115, 3, 0), (51, .istore 5, 2, 0), (53, .aload 4, 2, 0), (55, .iload_n 3, 1, 0), (56, .putfield 115, 3, 0), (59, .iload 5, 2, 0), (61, .ireturn, 1, 0), (62, .iload_n 3, 1, 0), (63, .ifCond .lt 9, 3, 72), (66, .iload_n 3, 1, 0), (67, .bipush 50, 2, 0), (69, .if_icmp .le 6, 3, 75), (72, .bipush (-2), 2, 0), (74, .ireturn, 1, 0), (75, .aload 4, 2, 0), (77, .getfield 120, 3, 0), (80, .istore 5, 2, 0), (82, .aload 4, 2, 0), (84, .iload_n 3, 1, 0), (85, .putfield 120, 3, 0), (88, .iload 5, 2, 0), (90, .ireturn, 1, 0)], ([(58, 10, 9, 0, 2, 108), (111, 4, 4, 4, 2, 6), (115, 0, 1, 1, 1, 216), (120, 0, 2, 1, 1, 218)], [(107, 1, 38, 3, 110), (133, 2, 140, 3, 118), (261, 2, 139, 4, 66)], [], [], []), (10, (5, 98), (1, 1), (5, 96), (5, 97)))
-- DoorSchool.trick(II)I
noncomputable def mr_169 : MR := ((yX10_trick, cX10_trick, 8, 2, (some .int)), [(0, .aload_n 0, 1, 0), (1, .getfield 58, 3, 0), (4, .iload_n 1, 1, 0), (5, .invokevirtual 107, 3, 0), (8, .ifCond .eq 14, 3, 22), (11, .aload_n 0, 1, 0), (12, .getfield 58, 3, 0), (15, .iload_n 2, 1, 0), (16, .invokevirtual 175, 3, 0), (19, .ifCond .ne 6, 3, 25), (22, .bipush (-2), 2, 0), (24, .ireturn, 1, 0), (25, .aload_n 0, 1, 0), (26, .iload_n 1, 1, 0), (27, .invokevirtual 178, 3, 0), (30, .istore_n 3, 1, 0), (31, .iconst (-1), 1, 0), (32, .istore 4, 2, 0), (34, .iconst 5, 1, 0), (35, .istore 5, 2, 0), (37, .iconst 0, 1, 0), (38, .istore 6, 2, 0), (40, .iload 6, 2, 0), (42, .aload_n 0, 1, 0), (43, .getfield 58, 3, 0), (46, .invokevirtual 251, 3, 0), (49, .if_icmp .ge 43, 3, 92), (52, .iload 6, 2, 0), (54, .iload_n 2, 1, 0), (55, .ixor, 1, 0), (56, .invokestatic 169, 3, 0), (59, .istore 7, 2, 0), (61, .iload_n 3, 1, 0), (62, .iload 6, 2, 0), (64, .invokestatic 181, 3, 0), (67, .iconst 1, 1, 0), (68, .if_icmp .ne 18, 3, 86), (71, .iload 7, 2, 0), (73, .iload 5, 2, 0), (75, .if_icmp .ge 11, 3, 86), (78, .iload 7, 2, 0), (80, .istore 5, 2, 0), (82, .iload 6, 2, 0), (84, .istore 4, 2, 0), (86, .iinc 6 1, 3, 0), (89, .goto (-49), 3, 40), (92, .iload 4, 2, 0), (94, .ireturn, 1, 0)], ([(58, 10, 9, 0, 2, 108)], [(107, 1, 38, 3, 110), (175, 1, 40, 3, 143), (178, 0, 105, 3, 149), (251, 1, 42, 4, 55), (169, 2, 0, 3, 138), (181, 2, 99, 3, 181)], [], [], []), (10, (4, 133), (1, 1), (4, 131), (4, 132)))
-- DoorSchool.tries(II)I
noncomputable def mr_170 : MR := ((yX10_tries, cX10_tries, 4, 2, (some .int)), [(0, .aload_n 0, 1, 0), (1, .iload_n 1, 1, 0), (2, .iload_n 2, 1, 0), (3, .invokevirtual 276, 3, 0), (6, .istore_n 3, 1, 0), (7, .iload_n 3, 1, 0), (8, .ifCond .ge 7, 3, 15), (11, .iload_n 3, 1, 0), (12, .goto 9, 3, 21), (15, .iload_n 3, 1, 0), (16, .iload_n 2, 1, 0), (17, .ixor, 1, 0), (18, .invokestatic 169, 3, 0), (21, .ireturn, 1, 0)], ([], [(276, 0, 169, 4, 130), (169, 2, 0, 3, 138)], [], [], []), (10, (4, 129), (1, 1), (4, 127), (4, 128)))
-- DoorSchool.troubleWith(I)I
noncomputable def mr_171 : MR := ((yX10_troubleWith, cX10_troubleWith, 2, 1, (some .int)), [(0, .iload_n 1, 1, 0), (1, .invokestatic 365, 3, 0), (4, .ifCond .eq 13, 3, 17), (7, .aload_n 0, 1, 0), (8, .getfield 58, 3, 0), (11, .invokevirtual 146, 3, 0), (14, .ifCond .ne 6, 3, 20), (17, .bipush (-2), 2, 0), (19, .ireturn, 1, 0), (20, .aload_n 0, 1, 0), (21, .getfield 75, 3, 0), (24, .iload_n 1, 1, 0), (25, .aaload, 1, 0), (26, .getfield 371, 3, 0), (29, .ifCond .ne 6, 3, 35), (32, .bipush (-6), 2, 0), (34, .ireturn, 1, 0), (35, .aload_n 0, 1, 0), (36, .getfield 75, 3, 0), (39, .iload_n 1, 1, 0), (40, .aaload, 1, 0), (41, .aload_n 0, 1, 0), (42, .getfield 58, 3, 0), (45, .invokevirtual 251, 3, 0), (48, .invokevirtual 407, 3, 0), (51, .ifCond .eq 7, 3, 58), (54, .iconst 0, 1, 0), (55, .goto 5, 3, 60), (58, .bipush (-2), 2, 0), (60, .ireturn, 1, 0)], ([(58, 10, 9, 0, 2, 108), (75, 10, 6, 3, 2, 105), (371, 7, 1, 1, 2, 83)], [(365, 2, 138, 4, 204), (146, 1, 34, 3, 129), (251, 1, 42, 4, 55), (407, 1, 78, 4, 207)], [], [], []), (10, (4, 203), (1, 1), (4, 202), (0, 67)))
-- DoorSchool.unteach()I
noncomputable def mr_172 : MR := ((yX10_unteach, cX10_unteach, 2, 0, (some .int)), [(0, .aload_n 0, 1, 0), (1, .getfield 58, 3, 0), (4, .invokevirtual 146, 3, 0), (7, .ifCond .ne 6, 3, 13), (10, .bipush (-2), 2, 0), (12, .ireturn, 1, 0), (13, .aload_n 0, 1, 0), (14, .getfield 58, 3, 0), (17, .getfield 234, 3, 0), (20, .ifCond .gt 6, 3, 26), (23, .bipush (-5), 2, 0), (25, .ireturn, 1, 0), (26, .aload_n 0, 1, 0), (27, .getfield 58, 3, 0), (30, .dup, 1, 0), (31, .getfield 234, 3, 0), (34, .iconst 1, 1, 0), (35, .isub, 1, 0), (36, .putfield 234, 3, 0), (39, .aload_n 0, 1, 0), (40, .getfield 58, 3, 0), (43, .getfield 241, 3, 0), (46, .aload_n 0, 1, 0), (47, .getfield 58, 3, 0), (50, .getfield 234, 3, 0), (53, .iaload, 1, 0), (54, .istore_n 1, 1, 0), (55, .aload_n 0, 1, 0), (56, .getfield 58, 3, 0), (59, .getfield 111, 3, 0), (62, .iload_n 1, 1, 0), (63, .aaload, 1, 0), (64, .getfield 123, 3, 0), (67, .invokevirtual 244, 3, 0), (70, .iload_n 1, 1, 0), (71, .ireturn, 1, 0)], ([(58, 10, 9, 0, 2, 108), (234, 4, 14, 1, 2, 36), (241, 4, 15, 4, 2, 38), (111, 4, 4, 4, 2, 6), (123, 0, 0, 4, 1, 214)], [(146, 1, 34, 3, 129), (244, 1, 24, 4, 35)], [], [], []), (10, (4, 34), (1, 1), (4, 32), (4, 33)))
-- DoorSchool.way(II)I
noncomputable def mr_173 : MR := ((yX10_way, cX10_way, 7, 2, (some .int)), [(0, .aload_n 0, 1, 0), (1, .getfield 58, 3, 0), (4, .iload_n 1, 1, 0), (5, .invokevirtual 107, 3, 0), (8, .ifCond .eq 10, 3, 18), (11, .iload_n 2, 1, 0), (12, .invokestatic 133, 3, 0), (15, .ifCond .ne 6, 3, 21), (18, .bipush (-2), 2, 0), (20, .ireturn, 1, 0), (21, .iconst (-1), 1, 0), (22, .istore_n 3, 1, 0), (23, .bipush 17, 2, 0), (25, .istore 4, 2, 0), (27, .iconst 0, 1, 0), (28, .istore 5, 2, 0), (30, .iload 5, 2, 0), (32, .iconst 3, 1, 0), (33, .if_icmp .ge 40, 3, 73), (36, .aload_n 0, 1, 0), (37, .iload_n 1, 1, 0), (38, .iload 5, 2, 0), (40, .invokevirtual 291, 3, 0), (43, .aload_n 0, 1, 0), (44, .invokevirtual 273, 3, 0), (47, .ixor, 1, 0), (48, .invokestatic 169, 3, 0), (51, .istore 6, 2, 0), (53, .iload 6, 2, 0), (55, .iload 4, 2, 0), (57, .if_icmp .ge 10, 3, 67), (60, .iload 6, 2, 0), (62, .istore 4, 2, 0), (64, .iload 5, 2, 0), (66, .istore_n 3, 1, 0), (67, .iinc 5 1, 3, 0), (70, .goto (-40), 3, 30), (73, .iload_n 2, 1, 0), (74, .ifCond .ne 7, 3, 81), (77, .iload_n 3, 1, 0), (78, .goto 5, 3, 83), (81, .iload 4, 2, 0), (83, .ireturn, 1, 0)], ([(58, 10, 9, 0, 2, 108)], [(107, 1, 38, 3, 110), (133, 2, 140, 3, 118), (291, 0, 175, 4, 156), (273, 0, 151, 4, 122), (169, 2, 0, 3, 138)], [], [], []), (10, (4, 175), (1, 1), (4, 173), (4, 174)))
-- DoorSchool.why(II)I
noncomputable def mr_174 : MR := ((yX10_why, cX10_why, 4, 2, (some .int)), [(0, .aload_n 0, 1, 0), (1, .getfield 58, 3, 0), (4, .iload_n 1, 1, 0), (5, .invokevirtual 107, 3, 0), (8, .ifCond .eq 14, 3, 22), (11, .aload_n 0, 1, 0), (12, .getfield 58, 3, 0), (15, .iload_n 2, 1, 0), (16, .invokevirtual 175, 3, 0), (19, .ifCond .ne 6, 3, 25), (22, .bipush (-2), 2, 0), (24, .ireturn, 1, 0), (25, .aload_n 0, 1, 0), (26, .getfield 58, 3, 0), (29, .iload_n 1, 1, 0), (30, .invokevirtual 184, 3, 0), (33, .astore_n 3, 1, 0), (34, .aload_n 3, 1, 0), (35, .getfield 115, 3, 0), (38, .lookupswitch 44 #[(0, 26), (2, 35)], 26, 0), (64, .aload_n 3, 1, 0), (65, .getfield 123, 3, 0), (68, .iload_n 2, 1, 0), (69, .invokevirtual 188, 3, 0), (72, .ireturn, 1, 0), (73, .aload_n 3, 1, 0), (74, .getfield 123, 3, 0), (77, .iload_n 2, 1, 0), (78, .invokevirtual 191, 3, 0), (81, .ireturn, 1, 0), (82, .iconst (-1), 1, 0), (83, .ireturn, 1, 0)], ([(58, 10, 9, 0, 2, 108), (115, 0, 1, 1, 1, 216), (123, 0, 0, 4, 1, 214)], [(107, 1, 38, 3, 110), (175, 1, 40, 3, 143), (184, 1, 43, 3, 153), (188, 1, 27, 3, 196), (191, 1, 28, 3, 197)], [], [], []), (10, (3, 195), (1, 1), (3, 193), (3, 194)))
-- DoorSchool.wouldDo(II)I
noncomputable def mr_175 : MR := ((yX10_wouldDo, cX10_wouldDo, 3, 2, (some .int)), [(0, .aload_n 0, 1, 0), (1, .getfield 37, 3, 0), (4, .iload_n 2, 1, 0), (5, .aload_n 0, 1, 0), (6, .getfield 58, 3, 0), (9, .getfield 111, 3, 0), (12, .iload_n 1, 1, 0), (13, .aaload, 1, 0), (14, .getfield 123, 3, 0), (17, .invokevirtual 397, 3, 0), (20, .ireturn, 1, 0)], ([(37, 10, 3, 3, 2, 102), (58, 10, 9, 0, 2, 108), (111, 4, 4, 4, 2, 6), (123, 0, 0, 4, 1, 214)], [(397, 1, 13, 3, 157)], [], [], []), (10, (4, 159), (1, 1), (4, 158), (0, 63)))
-- DoorSchool.write(IIJ)I
noncomputable def mr_176 : MR := ((yX10_write, cX10_write, 6, 3, (some .int)), [(0, .iload_n 1, 1, 0), (1, .invokestatic 365, 3, 0), (4, .ifCond .ne 6, 3, 10), (7, .bipush (-2), 2, 0), (9, .ireturn, 1, 0), (10, .aload_n 0, 1, 0), (11, .getfield 75, 3, 0), (14, .iload_n 1, 1, 0), (15, .aaload, 1, 0), (16, .astore 5, 2, 0), (18, .aload 5, 2, 0), (20, .getfield 371, 3, 0), (23, .ifCond .ne 6, 3, 29), (26, .bipush (-6), 2, 0), (28, .ireturn, 1, 0), (29, .iload_n 2, 1, 0), (30, .ifCond .lt 12, 3, 42), (33, .iload_n 2, 1, 0), (34, .aload 5, 2, 0), (36, .getfield 375, 3, 0), (39, .if_icmp .lt 6, 3, 45), (42, .bipush (-7), 2, 0), (44, .ireturn, 1, 0), (45, .aload 5, 2, 0), (47, .iload_n 2, 1, 0), (48, .lload_n 3, 1, 0), (49, .invokevirtual 376, 3, 0), (52, .iconst 0, 1, 0), (53, .ireturn, 1, 0)], ([(75, 10, 6, 3, 2, 105), (371, 7, 1, 1, 2, 83), (375, 7, 3, 1, 2, 87)], [(365, 2, 138, 4, 204), (376, 1, 79, 5, 171)], [], [], []), (10, (5, 170), (1, 1), (5, 168), (5, 169)))
-- DoorSchool.wrong(I)I
noncomputable def mr_177 : MR := ((yX10_wrong, cX10_wrong, 2, 1, (some .int)), [(0, .aload_n 0, 1, 0), (1, .getfield 58, 3, 0), (4, .iload_n 1, 1, 0), (5, .invokevirtual 107, 3, 0), (8, .ifCond .eq 21, 3, 29), (11, .aload_n 0, 1, 0), (12, .getfield 58, 3, 0), (15, .getfield 143, 3, 0), (18, .aload_n 0, 1, 0), (19, .iload_n 1, 1, 0), (20, .invokevirtual 178, 3, 0), (23, .invokevirtual 221, 3, 0), (26, .goto 5, 3, 31), (29, .bipush (-2), 2, 0), (31, .ireturn, 1, 0)], ([(58, 10, 9, 0, 2, 108), (143, 4, 5, 4, 2, 9)], [(107, 1, 38, 3, 110), (178, 0, 105, 3, 149), (221, 1, 25, 4, 10)], [], [], []), (10, (4, 9), (1, 1), (4, 7), (4, 8)))
-- DoorSchool.years(IIII)I
noncomputable def mr_178 : MR := ((yX10_years, cX10_years, 7, 4, (some .int)), [(0, .iload_n 1, 1, 0), (1, .invokestatic 350, 3, 0), (4, .ifCond .eq 25, 3, 29), (7, .iload_n 2, 1, 0), (8, .iconst 1, 1, 0), (9, .if_icmp .lt 20, 3, 29), (12, .iload_n 2, 1, 0), (13, .bipush 20, 2, 0), (15, .if_icmp .gt 14, 3, 29), (18, .aload_n 0, 1, 0), (19, .getfield 58, 3, 0), (22, .iload_n 3, 1, 0), (23, .invokevirtual 107, 3, 0), (26, .ifCond .ne 6, 3, 32), (29, .bipush (-2), 2, 0), (31, .ireturn, 1, 0), (32, .iconst 0, 1, 0), (33, .istore 5, 2, 0), (35, .iconst 0, 1, 0), (36, .istore 6, 2, 0), (38, .iload 6, 2, 0), (40, .iload_n 2, 1, 0), (41, .if_icmp .ge 30, 3, 71), (44, .aload_n 0, 1, 0), (45, .aload_n 0, 1, 0), (46, .iload_n 1, 1, 0), (47, .iload 6, 2, 0), (49, .iadd, 1, 0), (50, .iload_n 3, 1, 0), (51, .invokevirtual 353, 3, 0), (54, .invokevirtual 218, 3, 0), (57, .iload 4, 2, 0), (59, .if_icmp .lt 6, 3, 65), (62, .iinc 5 1, 3, 0), (65, .iinc 6 1, 3, 0), (68, .goto (-30), 3, 38), (71, .iload 5, 2, 0), (73, .ireturn, 1, 0)], ([(58, 10, 9, 0, 2, 108)], [(350, 2, 137, 5, 107), (107, 1, 38, 3, 110), (353, 0, 106, 5, 111), (218, 0, 147, 3, 237)], [], [], []), (10, (5, 123), (1, 1), (5, 121), (5, 122)))
-- DoorSchoolModel.add(II)V
noncomputable def mr_179 : MR := ((yX11_add, cX11_add, 3, 2, none), [(0, .aload_n 0, 1, 0), (1, .getfield 43, 3, 0), (4, .aload_n 0, 1, 0), (5, .getfield 262, 3, 0), (8, .iload_n 1, 1, 0), (9, .iastore, 1, 0), (10, .aload_n 0, 1, 0), (11, .getfield 46, 3, 0), (14, .aload_n 0, 1, 0), (15, .getfield 262, 3, 0), (18, .iload_n 2, 1, 0), (19, .iastore, 1, 0), (20, .aload_n 0, 1, 0), (21, .dup, 1, 0), (22, .getfield 262, 3, 0), (25, .iconst 1, 1, 0), (26, .iadd, 1, 0), (27, .putfield 262, 3, 0), (30, .return_, 1, 0)], ([(43, 11, 19, 3, 5, 208), (262, 11, 21, 0, 5, 210), (46, 11, 20, 3, 5, 209)], [], [], [], []), (11, (7, 34), (1, 13), (7, 33), (0, 123)))
-- DoorSchoolModel.advance()V
noncomputable def mr_180 : MR := ((yX11_advance, cX11_advance, 2, 0, none), [(0, .aload_n 0, 1, 0), (1, .aload_n 0, 1, 0), (2, .getfield 110, 3, 0), (5, .invokevirtual 113, 3, 0), (8, .bipush 32, 2, 0), (10, .if_icmp .eq 16, 3, 26), (13, .aload_n 0, 1, 0), (14, .aload_n 0, 1, 0), (15, .getfield 110, 3, 0), (18, .invokevirtual 113, 3, 0), (21, .bipush 10, 2, 0), (23, .if_icmp .ne 16, 3, 39), (26, .aload_n 0, 1, 0), (27, .dup, 1, 0), (28, .getfield 110, 3, 0), (31, .iconst 1, 1, 0), (32, .iadd, 1, 0), (33, .putfield 110, 3, 0), (36, .goto (-36), 3, 0), (39, .aload_n 0, 1, 0), (40, .aload_n 0, 1, 0), (41, .getfield 110, 3, 0), (44, .putfield 117, 3, 0), (47, .aload_n 0, 1, 0), (48, .aload_n 0, 1, 0), (49, .getfield 110, 3, 0), (52, .invokevirtual 113, 3, 0), (55, .istore_n 1, 1, 0), (56, .iload_n 1, 1, 0), (57, .iconst (-1), 1, 0), (58, .if_icmp .ne 11, 3, 69), (61, .aload_n 0, 1, 0), (62, .iconst 0, 1, 0), (63, .putfield 120, 3, 0), (66, .goto 173, 3, 239), (69, .iload_n 1, 1, 0), (70, .i2l, 1, 0), (71, .ldc2_w 123, 3, 0), (74, .ldc2_w 125, 3, 0), (77, .invokestatic 89, 3, 0), (80, .ifCond .eq 45, 3, 125), (83, .aload_n 0, 1, 0), (84, .aload_n 0, 1, 0), (85, .getfield 110, 3, 0), (88, .invokevirtual 113, 3, 0), (91, .i2l, 1, 0), (92, .ldc2_w 123, 3, 0), (95, .ldc2_w 125, 3, 0), (98, .invokestatic 89, 3, 0), (101, .ifCond .eq 16, 3, 117), (104, .aload_n 0, 1, 0), (105, .dup, 1, 0), (106, .getfield 110, 3, 0), (109, .iconst 1, 1, 0), (110, .iadd, 1, 0), (111, .putfield 110, 3, 0), (114, .goto (-31), 3, 83), (117, .aload_n 0, 1, 0), (118, .iconst 1, 1, 0), (119, .putfield 120, 3, 0), (122, .goto 117, 3, 239), (125, .iload_n 1, 1, 0), (126, .i2l, 1, 0), (127, .ldc2_w 127, 3, 0), (130, .ldc2_w 129, 3, 0), (133, .invokestatic 89, 3, 0), (136, .ifCond .eq 78, 3, 214), (139, .aload_n 0, 1, 0), (140, .iconst 0, 1, 0), (141, .putfield 131, 3, 0), (144, .aload_n 0, 1, 0), (145, .aload_n 0, 1, 0), (146, .getfield 110, 3, 0), (149, .invokevirtual 113, 3, 0), (152, .i2l, 1, 0), (153, .ldc2_w 127, 3, 0), (156, .ldc2_w 129, 3, 0), (159, .invokestatic 89, 3, 0), (162, .ifCond .eq 44, 3, 206), (165, .aload_n 0, 1, 0), (166, .ldc 134, 2, 0), (168, .bipush 10, 2, 0), (170, .aload_n 0, 1, 0), (171, .getfield 131, 3, 0), (174, .imul, 1, 0), (175, .aload_n 0, 1, 0), (176, .aload_n 0, 1, 0), (177, .getfield 110, 3, 0), (180, .invokevirtual 113, 3, 0), (183, .iadd, 1, 0), (184, .bipush 48, 2, 0), (186, .isub, 1, 0), (187, .invokestatic 135, 3, 0), (190, .putfield 131, 3, 0), (193, .aload_n 0, 1, 0), (194, .dup, 1, 0), (195, .getfield 110, 3, 0), (198, .iconst 1, 1, 0), (199, .iadd, 1, 0), (200, .putfield 110, 3, 0), (203, .goto (-59), 3, 144), (206, .aload_n 0, 1, 0), (207, .iconst 2, 1, 0), (208, .putfield 120, 3, 0), (211, .goto 28, 3, 239), (214, .aload_n 0, 1, 0), (215, .iload_n 1, 1, 0), (216, .bipush 59, 2, 0), (218, .if_icmp .ne 7, 3, 225), (221, .iconst 3, 1, 0), (222, .goto 4, 3, 226), (225, .iconst 4, 1, 0), (226, .putfield 120, 3, 0), (229, .aload_n 0, 1, 0), (230, .dup, 1, 0), (231, .getfield 110, 3, 0), (234, .iconst 1, 1, 0), (235, .iadd, 1, 0), (236, .putfield 110, 3, 0), (239, .return_, 1, 0)], ([(110, 11, 8, 0, 5, 197), (117, 11, 9, 0, 5, 198), (120, 11, 10, 0, 5, 199), (131, 11, 11, 0, 5, 200)], [(113, 0, 304, 6, 90), (89, 2, 240, 6, 63)], [(134, 99999, 6, 98)], [(123, 97, 6, 94), (125, 122, 6, 95), (127, 48, 6, 96), (129, 57, 6, 97)], []), (11, (6, 89), (1, 13), (6, 88), (0, 91)))
-- DoorSchoolModel.afterAll(II)I
noncomputable def mr_181 : MR := ((yX11_afterAll, cX11_afterAll, 5, 2, (some .int)), [(0, .iconst 0, 1, 0), (1, .istore_n 3, 1, 0), (2, .iconst 0, 1, 0), (3, .istore 4, 2, 0), (5, .iload 4, 2, 0), (7, .iload_n 1, 1, 0), (8, .if_icmp .ge 56, 3, 64), (11, .aload_n 0, 1, 0), (12, .getfield 9, 3, 0), (15, .sipush 154, 3, 0), (18, .iconst 2, 1, 0), (19, .iload_n 1, 1, 0), (20, .imul, 1, 0), (21, .iadd, 1, 0), (22, .iconst 1, 1, 0), (23, .iadd, 1, 0), (24, .iaload, 1, 0), (25, .iload 4, 2, 0), (27, .invokestatic 272, 3, 0), (30, .ifCond .ne 6, 3, 36), (33, .goto 25, 3, 58), (36, .iload_n 2, 1, 0), (37, .iload 4, 2, 0), (39, .invokestatic 272, 3, 0), (42, .ifCond .ne 5, 3, 47), (45, .iconst (-1), 1, 0), (46, .ireturn, 1, 0), (47, .iload_n 3, 1, 0), (48, .aload_n 0, 1, 0), (49, .iload 4, 2, 0), (51, .invokevirtual 430, 3, 0), (54, .invokestatic 418, 3, 0), (57, .istore_n 3, 1, 0), (58, .iinc 4 1, 3, 0), (61, .goto (-56), 3, 5), (64, .iload_n 3, 1, 0), (65, .ireturn, 1, 0)], ([(9, 11, 1, 3, 5, 190)], [(272, 2, 193, 7, 47), (430, 0, 285, 8, 128)], [], [], []), (11, (8, 135), (1, 13), (8, 134), (0, 162)))
-- DoorSchoolModel.alike(I)I
noncomputable def mr_182 : MR := ((yX11_alike, cX11_alike, 5, 1, (some .int)), [(0, .aload_n 0, 1, 0), (1, .iload_n 1, 1, 0), (2, .invokevirtual 302, 3, 0), (5, .ifCond .ne 6, 3, 11), (8, .bipush (-2), 2, 0), (10, .ireturn, 1, 0), (11, .aload_n 0, 1, 0), (12, .iload_n 1, 1, 0), (13, .invokevirtual 317, 3, 0), (16, .istore_n 2, 1, 0), (17, .iconst 0, 1, 0), (18, .istore_n 3, 1, 0), (19, .iconst 0, 1, 0), (20, .istore 4, 2, 0), (22, .iload 4, 2, 0), (24, .aload_n 0, 1, 0), (25, .getfield 9, 3, 0), (28, .iconst 2, 1, 0), (29, .iaload, 1, 0), (30, .if_icmp .ge 36, 3, 66), (33, .iload_n 3, 1, 0), (34, .iload 4, 2, 0), (36, .iload_n 1, 1, 0), (37, .if_icmp .eq 20, 3, 57), (40, .aload_n 0, 1, 0), (41, .iload 4, 2, 0), (43, .invokevirtual 317, 3, 0), (46, .iload_n 2, 1, 0), (47, .if_icmp .ne 10, 3, 57), (50, .iconst 1, 1, 0), (51, .iload 4, 2, 0), (53, .ishl, 1, 0), (54, .goto 4, 3, 58), (57, .iconst 0, 1, 0), (58, .ior, 1, 0), (59, .istore_n 3, 1, 0), (60, .iinc 4 1, 3, 0), (63, .goto (-41), 3, 22), (66, .iload_n 3, 1, 0), (67, .ireturn, 1, 0)], ([(9, 11, 1, 3, 5, 190)], [(302, 0, 245, 6, 199), (317, 0, 204, 7, 15)], [], [], []), (11, (8, 50), (1, 13), (8, 48), (8, 49)))
-- DoorSchoolModel.allKnocks()I
noncomputable def mr_183 : MR := ((yX11_allKnocks, cX11_allKnocks, 1, 0, (some .int)), [(0, .iconst 1, 1, 0), (1, .aload_n 0, 1, 0), (2, .invokevirtual 97, 3, 0), (5, .ishl, 1, 0), (6, .iconst 1, 1, 0), (7, .isub, 1, 0), (8, .ireturn, 1, 0)], ([], [(97, 0, 260, 6, 236)], [], [], []), (11, (7, 101), (1, 13), (7, 100), (0, 132)))
-- DoorSchoolModel.amiss(II)I
noncomputable def mr_184 : MR := ((yX11_amiss, cX11_amiss, 3, 2, (some .int)), [(0, .aload_n 0, 1, 0), (1, .iload_n 1, 1, 0), (2, .invokevirtual 302, 3, 0), (5, .ifCond .eq 20, 3, 25), (8, .aload_n 0, 1, 0), (9, .iload_n 2, 1, 0), (10, .invokevirtual 310, 3, 0), (13, .ifCond .eq 12, 3, 25), (16, .aload_n 0, 1, 0), (17, .iload_n 1, 1, 0), (18, .iload_n 2, 1, 0), (19, .invokevirtual 409, 3, 0), (22, .goto 5, 3, 27), (25, .bipush (-2), 2, 0), (27, .ireturn, 1, 0)], ([], [(302, 0, 245, 6, 199), (310, 0, 249, 6, 228), (409, 0, 185, 8, 67)], [], [], []), (11, (8, 78), (1, 13), (8, 76), (8, 77)))
-- DoorSchoolModel.amissOf(II)I
noncomputable def mr_185 : MR := ((yX11_amissOf, cX11_amissOf, 3, 2, (some .int)), [(0, .aload_n 0, 1, 0), (1, .iload_n 1, 1, 0), (2, .invokevirtual 317, 3, 0), (5, .aload_n 0, 1, 0), (6, .aload_n 0, 1, 0), (7, .getfield 9, 3, 0), (10, .sipush 146, 3, 0), (13, .iconst 2, 1, 0), (14, .iload_n 2, 1, 0), (15, .imul, 1, 0), (16, .iadd, 1, 0), (17, .iaload, 1, 0), (18, .aload_n 0, 1, 0), (19, .getfield 9, 3, 0), (22, .sipush 146, 3, 0), (25, .iconst 2, 1, 0), (26, .iload_n 2, 1, 0), (27, .imul, 1, 0), (28, .iadd, 1, 0), (29, .iconst 1, 1, 0), (30, .iadd, 1, 0), (31, .iaload, 1, 0), (32, .invokevirtual 259, 3, 0), (35, .ixor, 1, 0), (36, .invokestatic 256, 3, 0), (39, .ireturn, 1, 0)], ([(9, 11, 1, 3, 5, 190)], [(317, 0, 204, 7, 15), (259, 0, 203, 6, 232), (256, 2, 194, 7, 0)], [], [], []), (11, (8, 70), (1, 13), (8, 69), (0, 153)))
-- DoorSchoolModel.areDeeds(I)Z
noncomputable def mr_186 : MR := ((yX11_areDeeds, cX11_areDeeds, 2, 1, (some .boolean)), [(0, .aload_n 0, 1, 0), (1, .invokevirtual 93, 3, 0), (4, .ifCond .eq 21, 3, 25), (7, .iload_n 1, 1, 0), (8, .i2l, 1, 0), (9, .lconst 0, 1, 0), (10, .aload_n 0, 1, 0), (11, .invokevirtual 101, 3, 0), (14, .i2l, 1, 0), (15, .invokestatic 89, 3, 0), (18, .ifCond .eq 7, 3, 25), (21, .iconst 1, 1, 0), (22, .goto 4, 3, 26), (25, .iconst 0, 1, 0), (26, .ireturn, 1, 0)], ([], [(93, 0, 255, 6, 224), (101, 0, 183, 7, 98), (89, 2, 240, 6, 63)], [], [], []), (11, (7, 97), (1, 13), (7, 96), (0, 131)))
-- DoorSchoolModel.ask(I)I
noncomputable def mr_187 : MR := ((yX11_ask, cX11_ask, 3, 1, (some .int)), [(0, .aload_n 0, 1, 0), (1, .iload_n 1, 1, 0), (2, .iconst 1, 1, 0), (3, .invokevirtual 396, 3, 0), (6, .istore_n 2, 1, 0), (7, .iload_n 2, 1, 0), (8, .ifCond .ge 7, 3, 15), (11, .iload_n 2, 1, 0), (12, .goto 8, 3, 20), (15, .aload_n 0, 1, 0), (16, .iload_n 1, 1, 0), (17, .invokevirtual 424, 3, 0), (20, .ireturn, 1, 0)], ([], [(396, 0, 189, 8, 32), (424, 0, 188, 8, 95)], [], [], []), (11, (8, 94), (1, 13), (8, 92), (8, 93)))
-- DoorSchoolModel.askOf(I)I
noncomputable def mr_188 : MR := ((yX11_askOf, cX11_askOf, 6, 1, (some .int)), [(0, .aload_n 0, 1, 0), (1, .iload_n 1, 1, 0), (2, .invokevirtual 415, 3, 0), (5, .istore_n 2, 1, 0), (6, .iconst (-1), 1, 0), (7, .istore_n 3, 1, 0), (8, .iconst 0, 1, 0), (9, .istore 4, 2, 0), (11, .iload 4, 2, 0), (13, .aload_n 0, 1, 0), (14, .invokevirtual 97, 3, 0), (17, .if_icmp .ge 33, 3, 50), (20, .aload_n 0, 1, 0), (21, .iload_n 1, 1, 0), (22, .iload 4, 2, 0), (24, .invokevirtual 421, 3, 0), (27, .istore 5, 2, 0), (29, .iload 5, 2, 0), (31, .iload_n 2, 1, 0), (32, .if_icmp .lt 6, 3, 38), (35, .goto 9, 3, 44), (38, .iload 5, 2, 0), (40, .istore_n 2, 1, 0), (41, .iload 4, 2, 0), (43, .istore_n 3, 1, 0), (44, .iinc 4 1, 3, 0), (47, .goto (-36), 3, 11), (50, .iload_n 3, 1, 0), (51, .ireturn, 1, 0)], ([], [(415, 0, 222, 8, 83), (97, 0, 260, 6, 236), (421, 0, 323, 8, 99)], [], [], []), (11, (8, 98), (1, 13), (8, 97), (0, 155)))
-- DoorSchoolModel.asksSeen(IZ)I
noncomputable def mr_189 : MR := ((yX11_asksSeen, cX11_asksSeen, 4, 2, (some .int)), [(0, .iload_n 1, 1, 0), (1, .invokestatic 389, 3, 0), (4, .ifCond .eq 14, 3, 18), (7, .aload_n 0, 1, 0), (8, .invokevirtual 93, 3, 0), (11, .ifCond .eq 7, 3, 18), (14, .iload_n 2, 1, 0), (15, .ifCond .ne 6, 3, 21), (18, .bipush (-2), 2, 0), (20, .ireturn, 1, 0), (21, .aload_n 0, 1, 0), (22, .getfield 67, 3, 0), (25, .iload_n 1, 1, 0), (26, .iaload, 1, 0), (27, .iconst (-1), 1, 0), (28, .if_icmp .ne 6, 3, 34), (31, .bipush (-6), 2, 0), (33, .ireturn, 1, 0), (34, .aload_n 0, 1, 0), (35, .getfield 67, 3, 0), (38, .iload_n 1, 1, 0), (39, .iaload, 1, 0), (40, .iconst 2, 1, 0), (41, .irem, 1, 0), (42, .ifCond .eq 6, 3, 48), (45, .bipush (-2), 2, 0), (47, .ireturn, 1, 0), (48, .iconst 0, 1, 0), (49, .istore_n 3, 1, 0), (50, .iload_n 3, 1, 0), (51, .aload_n 0, 1, 0), (52, .getfield 67, 3, 0), (55, .iload_n 1, 1, 0), (56, .iaload, 1, 0), (57, .if_icmp .ge 41, 3, 98), (60, .aload_n 0, 1, 0), (61, .aload_n 0, 1, 0), (62, .iload_n 1, 1, 0), (63, .iload_n 3, 1, 0), (64, .invokevirtual 392, 3, 0), (67, .invokevirtual 313, 3, 0), (70, .ifCond .eq 19, 3, 89), (73, .aload_n 0, 1, 0), (74, .iload_n 1, 1, 0), (75, .iload_n 3, 1, 0), (76, .iconst 1, 1, 0), (77, .iadd, 1, 0), (78, .invokevirtual 392, 3, 0), (81, .lconst 0, 1, 0), (82, .lconst 1, 1, 0), (83, .invokestatic 89, 3, 0), (86, .ifCond .ne 6, 3, 92), (89, .bipush (-2), 2, 0), (91, .ireturn, 1, 0), (92, .iinc 3 2, 3, 0), (95, .goto (-45), 3, 50), (98, .iconst 0, 1, 0), (99, .ireturn, 1, 0)], ([(67, 11, 32, 3, 5, 221)], [(389, 2, 257, 8, 36), (93, 0, 255, 6, 224), (392, 0, 280, 8, 39), (313, 0, 250, 7, 11), (89, 2, 240, 6, 63)], [], [], []), (11, (8, 35), (1, 13), (8, 34), (0, 148)))
-- DoorSchoolModel.back(I)I
noncomputable def mr_190 : MR := ((yX11_back, cX11_back, 3, 1, (some .int)), [(0, .iload_n 1, 1, 0), (1, .i2l, 1, 0), (2, .lconst 0, 1, 0), (3, .ldc2_w 87, 3, 0), (6, .invokestatic 89, 3, 0), (9, .ifCond .ne 6, 3, 15), (12, .bipush (-2), 2, 0), (14, .ireturn, 1, 0), (15, .aload_n 0, 1, 0), (16, .getfield 16, 3, 0), (19, .iload_n 1, 1, 0), (20, .baload, 1, 0), (21, .ifCond .ne 6, 3, 27), (24, .bipush (-6), 2, 0), (26, .ireturn, 1, 0), (27, .iconst 0, 1, 0), (28, .istore_n 2, 1, 0), (29, .iload_n 2, 1, 0), (30, .sipush 226, 3, 0), (33, .if_icmp .ge 27, 3, 60), (36, .aload_n 0, 1, 0), (37, .getfield 9, 3, 0), (40, .iload_n 2, 1, 0), (41, .aload_n 0, 1, 0), (42, .getfield 13, 3, 0), (45, .sipush 226, 3, 0), (48, .iload_n 1, 1, 0), (49, .imul, 1, 0), (50, .iload_n 2, 1, 0), (51, .iadd, 1, 0), (52, .iaload, 1, 0), (53, .iastore, 1, 0), (54, .iinc 2 1, 3, 0), (57, .goto (-28), 3, 29), (60, .iconst 0, 1, 0), (61, .ireturn, 1, 0)], ([(16, 11, 3, 3, 5, 192), (9, 11, 1, 3, 5, 190), (13, 11, 2, 3, 5, 191)], [(89, 2, 240, 6, 63)], [], [(87, 2, 6, 62)], []), (11, (6, 69), (1, 13), (6, 67), (6, 68)))
-- DoorSchoolModel.begins(I)I
noncomputable def mr_191 : MR := ((yX11_begins, cX11_begins, 4, 1, (some .int)), [(0, .iload_n 1, 1, 0), (1, .i2l, 1, 0), (2, .lconst 0, 1, 0), (3, .aload_n 0, 1, 0), (4, .getfield 9, 3, 0), (7, .iconst 5, 1, 0), (8, .iaload, 1, 0), (9, .iconst 1, 1, 0), (10, .isub, 1, 0), (11, .i2l, 1, 0), (12, .invokestatic 89, 3, 0), (15, .ifCond .ne 6, 3, 21), (18, .bipush (-2), 2, 0), (20, .ireturn, 1, 0), (21, .aload_n 0, 1, 0), (22, .iconst 0, 1, 0), (23, .aload_n 0, 1, 0), (24, .getfield 9, 3, 0), (27, .iconst 1, 1, 0), (28, .iaload, 1, 0), (29, .invokevirtual 445, 3, 0), (32, .istore_n 2, 1, 0), (33, .iconst 0, 1, 0), (34, .istore_n 3, 1, 0), (35, .iload_n 3, 1, 0), (36, .iload_n 1, 1, 0), (37, .if_icmp .gt 60, 3, 97), (40, .aload_n 0, 1, 0), (41, .getfield 61, 3, 0), (44, .iload_n 3, 1, 0), (45, .iconst 0, 1, 0), (46, .iastore, 1, 0), (47, .aload_n 0, 1, 0), (48, .iload_n 3, 1, 0), (49, .aload_n 0, 1, 0), (50, .getfield 61, 3, 0), (53, .iload_n 3, 1, 0), (54, .iaload, 1, 0), (55, .invokevirtual 448, 3, 0), (58, .ifCond .eq 20, 3, 78), (61, .aload_n 0, 1, 0), (62, .iload_n 3, 1, 0), (63, .iconst 1, 1, 0), (64, .iadd, 1, 0), (65, .aload_n 0, 1, 0), (66, .getfield 9, 3, 0), (69, .iconst 1, 1, 0), (70, .iaload, 1, 0), (71, .invokevirtual 445, 3, 0), (74, .iload_n 2, 1, 0), (75, .if_icmp .le 16, 3, 91), (78, .aload_n 0, 1, 0), (79, .getfield 61, 3, 0), (82, .iload_n 3, 1, 0), (83, .dup2, 1, 0), (84, .iaload, 1, 0), (85, .iconst 1, 1, 0), (86, .iadd, 1, 0), (87, .iastore, 1, 0), (88, .goto (-41), 3, 47), (91, .iinc 3 1, 3, 0), (94, .goto (-59), 3, 35), (97, .aload_n 0, 1, 0), (98, .getfield 61, 3, 0), (101, .iload_n 1, 1, 0), (102, .iaload, 1, 0), (103, .ireturn, 1, 0)], ([(9, 11, 1, 3, 5, 190), (61, 11, 29, 3, 5, 218)], [(89, 2, 240, 6, 63), (445, 0, 268, 8, 112), (448, 0, 275, 8, 144)], [], [], []), (11, (8, 143), (1, 13), (8, 141), (8, 142)))
-- DoorSchoolModel.best()I
noncomputable def mr_192 : MR := ((yX11_best, cX11_best, 3, 0, (some .int)), [(0, .aload_n 0, 1, 0), (1, .invokevirtual 93, 3, 0), (4, .ifCond .ne 6, 3, 10), (7, .bipush (-2), 2, 0), (9, .ireturn, 1, 0), (10, .iconst (-1), 1, 0), (11, .istore_n 1, 1, 0), (12, .iconst 0, 1, 0), (13, .istore_n 2, 1, 0), (14, .iload_n 2, 1, 0), (15, .aload_n 0, 1, 0), (16, .getfield 9, 3, 0), (19, .iconst 2, 1, 0), (20, .iaload, 1, 0), (21, .if_icmp .ge 37, 3, 58), (24, .iload_n 1, 1, 0), (25, .iconst (-1), 1, 0), (26, .if_icmp .eq 24, 3, 50), (29, .aload_n 0, 1, 0), (30, .aload_n 0, 1, 0), (31, .iload_n 2, 1, 0), (32, .invokevirtual 317, 3, 0), (35, .invokevirtual 330, 3, 0), (38, .aload_n 0, 1, 0), (39, .aload_n 0, 1, 0), (40, .iload_n 1, 1, 0), (41, .invokevirtual 317, 3, 0), (44, .invokevirtual 330, 3, 0), (47, .if_icmp .le 5, 3, 52), (50, .iload_n 2, 1, 0), (51, .istore_n 1, 1, 0), (52, .iinc 2 1, 3, 0), (55, .goto (-41), 3, 14), (58, .iload_n 1, 1, 0), (59, .ireturn, 1, 0)], ([(9, 11, 1, 3, 5, 190)], [(93, 0, 255, 6, 224), (317, 0, 204, 7, 15), (330, 0, 274, 7, 106)], [], [], []), (11, (7, 121), (1, 13), (7, 119), (7, 120)))
-- DoorSchoolModel.bit(II)I
noncomputable def mr_193 : MR := ((yX11_bit, cX11_bit, 2, 2, (some .int)), [(0, .iload_n 0, 1, 0), (1, .iload_n 1, 1, 0), (2, .ishr, 1, 0), (3, .iconst 1, 1, 0), (4, .iand, 1, 0), (5, .ireturn, 1, 0)], ([], [], [], [], []), (11, (7, 49), (1, 13), (7, 48), (0, 0)))
-- DoorSchoolModel.bits(I)I
noncomputable def mr_194 : MR := ((yX11_bits, cX11_bits, 3, 1, (some .int)), [(0, .iload_n 0, 1, 0), (1, .iload_n 0, 1, 0), (2, .iconst 1, 1, 0), (3, .iushr, 1, 0), (4, .ldc 83, 2, 0), (6, .iand, 1, 0), (7, .isub, 1, 0), (8, .istore_n 1, 1, 0), (9, .iload_n 1, 1, 0), (10, .ldc 84, 2, 0), (12, .iand, 1, 0), (13, .iload_n 1, 1, 0), (14, .iconst 2, 1, 0), (15, .iushr, 1, 0), (16, .ldc 84, 2, 0), (18, .iand, 1, 0), (19, .iadd, 1, 0), (20, .istore_n 2, 1, 0), (21, .iload_n 2, 1, 0), (22, .iload_n 2, 1, 0), (23, .iconst 4, 1, 0), (24, .iushr, 1, 0), (25, .iadd, 1, 0), (26, .ldc 85, 2, 0), (28, .iand, 1, 0), (29, .ldc 86, 2, 0), (31, .imul, 1, 0), (32, .bipush 24, 2, 0), (34, .iushr, 1, 0), (35, .ireturn, 1, 0)], ([], [], [(83, 1431655765, 7, 3), (84, 858993459, 7, 4), (85, 252645135, 7, 5), (86, 16843009, 7, 6)], [], []), (11, (7, 2), (1, 13), (7, 1), (0, 0)))
-- DoorSchoolModel.byLesson(II)I
noncomputable def mr_195 : MR := ((yX11_byLesson, cX11_byLesson, 3, 2, (some .int)), [(0, .iload_n 1, 1, 0), (1, .ifCond .ne 11, 3, 12), (4, .aload_n 0, 1, 0), (5, .iload_n 2, 1, 0), (6, .invokevirtual 278, 3, 0), (9, .goto 17, 3, 26), (12, .iload_n 1, 1, 0), (13, .iconst 2, 1, 0), (14, .if_icmp .ne 11, 3, 25), (17, .aload_n 0, 1, 0), (18, .iload_n 2, 1, 0), (19, .invokevirtual 281, 3, 0), (22, .goto 4, 3, 26), (25, .iconst (-1), 1, 0), (26, .ireturn, 1, 0)], ([], [(278, 0, 261, 7, 54), (281, 0, 276, 7, 58)], [], [], []), (11, (7, 53), (1, 13), (7, 52), (0, 127)))
-- DoorSchoolModel.copy(II)I
noncomputable def mr_196 : MR := ((yX11_copy, cX11_copy, 4, 2, (some .int)), [(0, .aload_n 0, 1, 0), (1, .iload_n 1, 1, 0), (2, .invokevirtual 302, 3, 0), (5, .ifCond .eq 21, 3, 26), (8, .iload_n 2, 1, 0), (9, .iconst (-1), 1, 0), (10, .if_icmp .eq 11, 3, 21), (13, .aload_n 0, 1, 0), (14, .iload_n 2, 1, 0), (15, .invokevirtual 302, 3, 0), (18, .ifCond .eq 8, 3, 26), (21, .iload_n 1, 1, 0), (22, .iload_n 2, 1, 0), (23, .if_icmp .ne 6, 3, 29), (26, .bipush (-2), 2, 0), (28, .ireturn, 1, 0), (29, .iload_n 2, 1, 0), (30, .iconst (-1), 1, 0), (31, .if_icmp .eq 24, 3, 55), (34, .aload_n 0, 1, 0), (35, .iload_n 2, 1, 0), (36, .iconst 3, 1, 0), (37, .invokevirtual 265, 3, 0), (40, .iconst (-1), 1, 0), (41, .if_icmp .ne 11, 3, 52), (44, .aload_n 0, 1, 0), (45, .iload_n 1, 1, 0), (46, .invokevirtual 403, 3, 0), (49, .ifCond .eq 6, 3, 55), (52, .bipush (-5), 2, 0), (54, .ireturn, 1, 0), (55, .aload_n 0, 1, 0), (56, .iload_n 1, 1, 0), (57, .iconst 3, 1, 0), (58, .invokevirtual 265, 3, 0), (61, .istore_n 3, 1, 0), (62, .aload_n 0, 1, 0), (63, .getfield 9, 3, 0), (66, .bipush 10, 2, 0), (68, .iconst 4, 1, 0), (69, .iload_n 1, 1, 0), (70, .imul, 1, 0), (71, .iadd, 1, 0), (72, .iconst 3, 1, 0), (73, .iadd, 1, 0), (74, .iload_n 2, 1, 0), (75, .iastore, 1, 0), (76, .iload_n 3, 1, 0), (77, .ireturn, 1, 0)], ([(9, 11, 1, 3, 5, 190)], [(302, 0, 245, 6, 199), (265, 0, 281, 6, 204), (403, 0, 244, 8, 55)], [], [], []), (11, (8, 54), (1, 13), (8, 52), (8, 53)))
-- DoorSchoolModel.count(I)I
noncomputable def mr_197 : MR := ((yX11_count, cX11_count, 4, 1, (some .int)), [(0, .iconst 0, 1, 0), (1, .istore_n 2, 1, 0), (2, .iload_n 1, 1, 0), (3, .tableswitch 149 0 9 #[53, 60, 67, 74, 81, 88, 95, 103, 111, 116], 53, 0), (56, .aload_n 0, 1, 0), (57, .getfield 9, 3, 0), (60, .iconst 0, 1, 0), (61, .iaload, 1, 0), (62, .ireturn, 1, 0), (63, .aload_n 0, 1, 0), (64, .getfield 9, 3, 0), (67, .iconst 1, 1, 0), (68, .iaload, 1, 0), (69, .ireturn, 1, 0), (70, .aload_n 0, 1, 0), (71, .getfield 9, 3, 0), (74, .iconst 2, 1, 0), (75, .iaload, 1, 0), (76, .ireturn, 1, 0), (77, .aload_n 0, 1, 0), (78, .getfield 9, 3, 0), (81, .iconst 3, 1, 0), (82, .iaload, 1, 0), (83, .ireturn, 1, 0), (84, .aload_n 0, 1, 0), (85, .getfield 9, 3, 0), (88, .iconst 4, 1, 0), (89, .iaload, 1, 0), (90, .ireturn, 1, 0), (91, .aload_n 0, 1, 0), (92, .getfield 9, 3, 0), (95, .iconst 5, 1, 0), (96, .iaload, 1, 0), (97, .ireturn, 1, 0), (98, .aload_n 0, 1, 0), (99, .getfield 9, 3, 0), (102, .bipush 6, 2, 0), (104, .iaload, 1, 0), (105, .ireturn, 1, 0), (106, .aload_n 0, 1, 0), (107, .getfield 9, 3, 0), (110, .bipush 7, 2, 0), (112, .iaload, 1, 0), (113, .ireturn, 1, 0), (114, .aload_n 0, 1, 0), (115, .getfield 104, 3, 0), (118, .ireturn, 1, 0), (119, .iconst 0, 1, 0), (120, .istore_n 3, 1, 0), (121, .iload_n 3, 1, 0), (122, .iconst 4, 1, 0), (123, .if_icmp .ge 27, 3, 150), (126, .iload_n 2, 1, 0), (127, .aload_n 0, 1, 0), (128, .getfield 67, 3, 0), (131, .iload_n 3, 1, 0), (132, .iaload, 1, 0), (133, .iconst (-1), 1, 0), (134, .if_icmp .ne 7, 3, 141), (137, .iconst 0, 1, 0), (138, .goto 4, 3, 142), (141, .iconst 1, 1, 0), (142, .iadd, 1, 0), (143, .istore_n 2, 1, 0), (144, .iinc 3 1, 3, 0), (147, .goto (-26), 3, 121), (150, .iload_n 2, 1, 0), (151, .ireturn, 1, 0), (152, .iconst (-1), 1, 0), (153, .ireturn, 1, 0)], ([(9, 11, 1, 3, 5, 190), (104, 11, 5, 0, 5, 194), (67, 11, 32, 3, 5, 221)], [], [], [], []), (11, (8, 186), (1, 13), (8, 184), (8, 185)))
-- DoorSchoolModel.course(II)I
noncomputable def mr_198 : MR := ((yX11_course, cX11_course, 3, 2, (some .int)), [(0, .iload_n 1, 1, 0), (1, .invokestatic 347, 3, 0), (4, .ifCond .eq 20, 3, 24), (7, .aload_n 0, 1, 0), (8, .iload_n 2, 1, 0), (9, .invokevirtual 324, 3, 0), (12, .ifCond .eq 12, 3, 24), (15, .aload_n 0, 1, 0), (16, .iload_n 1, 1, 0), (17, .iload_n 2, 1, 0), (18, .invokevirtual 350, 3, 0), (21, .goto 5, 3, 26), (24, .bipush (-2), 2, 0), (26, .ireturn, 1, 0)], ([], [(347, 2, 259, 7, 158), (324, 0, 186, 7, 94), (350, 0, 219, 7, 161)], [], [], []), (11, (7, 176), (1, 13), (7, 174), (7, 175)))
-- DoorSchoolModel.cut(JI)J
noncomputable def mr_199 : MR := ((yX11_cut, cX11_cut, 4, 2, (some .long)), [(0, .bipush 64, 2, 0), (2, .bipush 8, 2, 0), (4, .iload_n 2, 1, 0), (5, .ishl, 1, 0), (6, .isub, 1, 0), (7, .istore_n 3, 1, 0), (8, .lload_n 0, 1, 0), (9, .iload_n 3, 1, 0), (10, .lshl, 1, 0), (11, .iload_n 3, 1, 0), (12, .lshr, 1, 0), (13, .lreturn, 1, 0)], ([], [], [], [], []), (11, (8, 197), (1, 13), (8, 196), (0, 0)))
-- DoorSchoolModel.deed()I
noncomputable def mr_200 : MR := ((yX11_deed, cX11_deed, 1, 0, (some .int)), [(0, .aload_n 0, 1, 0), (1, .ldc 177, 2, 0), (3, .invokevirtual 163, 3, 0), (6, .ifCond .eq 5, 3, 11), (9, .iconst 1, 1, 0), (10, .ireturn, 1, 0), (11, .aload_n 0, 1, 0), (12, .ldc 179, 2, 0), (14, .invokevirtual 170, 3, 0), (17, .iconst 0, 1, 0), (18, .ireturn, 1, 0)], ([], [(163, 0, 309, 6, 113), (170, 0, 277, 6, 109)], [], [], []), (11, (6, 172), (1, 13), (6, 171), (0, 106)))
-- DoorSchoolModel.deeds(I)I
noncomputable def mr_201 : MR := ((yX11_deeds, cX11_deeds, 2, 1, (some .int)), [(0, .aload_n 0, 1, 0), (1, .iload_n 1, 1, 0), (2, .invokevirtual 302, 3, 0), (5, .ifCond .eq 11, 3, 16), (8, .aload_n 0, 1, 0), (9, .iload_n 1, 1, 0), (10, .invokevirtual 317, 3, 0), (13, .goto 5, 3, 18), (16, .bipush (-2), 2, 0), (18, .ireturn, 1, 0)], ([], [(302, 0, 245, 6, 199), (317, 0, 204, 7, 15)], [], [], []), (11, (7, 65), (1, 13), (7, 63), (7, 64)))
-- DoorSchoolModel.deedsByWay(II)I
noncomputable def mr_202 : MR := ((yX11_deedsByWay, cX11_deedsByWay, 3, 2, (some .int)), [(0, .aload_n 0, 1, 0), (1, .invokevirtual 290, 3, 0), (4, .aload_n 0, 1, 0), (5, .iload_n 1, 1, 0), (6, .invokevirtual 296, 3, 0), (9, .aload_n 0, 1, 0), (10, .iload_n 2, 1, 0), (11, .invokevirtual 299, 3, 0), (14, .ireturn, 1, 0)], ([], [(290, 0, 263, 7, 19), (296, 0, 262, 7, 27), (299, 0, 265, 7, 35)], [], [], []), (11, (7, 235), (1, 13), (7, 234), (0, 145)))
-- DoorSchoolModel.deedsOf(II)I
noncomputable def mr_203 : MR := ((yX11_deedsOf, cX11_deedsOf, 5, 2, (some .int)), [(0, .iconst 0, 1, 0), (1, .istore_n 3, 1, 0), (2, .iconst 0, 1, 0), (3, .istore 4, 2, 0), (5, .iload 4, 2, 0), (7, .aload_n 0, 1, 0), (8, .invokevirtual 97, 3, 0), (11, .if_icmp .ge 28, 3, 39), (14, .iload_n 3, 1, 0), (15, .iload 4, 2, 0), (17, .iload_n 1, 1, 0), (18, .iand, 1, 0), (19, .iload_n 2, 1, 0), (20, .if_icmp .ne 10, 3, 30), (23, .iconst 1, 1, 0), (24, .iload 4, 2, 0), (26, .ishl, 1, 0), (27, .goto 4, 3, 31), (30, .iconst 0, 1, 0), (31, .ior, 1, 0), (32, .istore_n 3, 1, 0), (33, .iinc 4 1, 3, 0), (36, .goto (-31), 3, 5), (39, .iload_n 3, 1, 0), (40, .ireturn, 1, 0)], ([], [(97, 0, 260, 6, 236)], [], [], []), (11, (6, 235), (1, 13), (6, 234), (0, 116)))
-- DoorSchoolModel.deedsOfDoor(I)I
noncomputable def mr_204 : MR := ((yX11_deedsOfDoor, cX11_deedsOfDoor, 2, 1, (some .int)), [(0, .aload_n 0, 1, 0), (1, .invokevirtual 290, 3, 0), (4, .aload_n 0, 1, 0), (5, .aload_n 0, 1, 0), (6, .iload_n 1, 1, 0), (7, .invokevirtual 293, 3, 0), (10, .invokevirtual 296, 3, 0), (13, .aload_n 0, 1, 0), (14, .aload_n 0, 1, 0), (15, .aload_n 0, 1, 0), (16, .iload_n 1, 1, 0), (17, .invokevirtual 293, 3, 0), (20, .iconst 0, 1, 0), (21, .invokevirtual 265, 3, 0), (24, .invokevirtual 299, 3, 0), (27, .ireturn, 1, 0)], ([], [(290, 0, 263, 7, 19), (293, 0, 296, 7, 23), (296, 0, 262, 7, 27), (265, 0, 281, 6, 204), (299, 0, 265, 7, 35)], [], [], []), (11, (7, 18), (1, 13), (7, 17), (0, 119)))
-- DoorSchoolModel.deedsWith(III)I
noncomputable def mr_205 : MR := ((yX11_deedsWith, cX11_deedsWith, 5, 3, (some .int)), [(0, .aload_n 0, 1, 0), (1, .iload_n 1, 1, 0), (2, .invokevirtual 317, 3, 0), (5, .istore 4, 2, 0), (7, .aload_n 0, 1, 0), (8, .iload_n 1, 1, 0), (9, .invokevirtual 293, 3, 0), (12, .iload_n 1, 1, 0), (13, .if_icmp .eq 6, 3, 19), (16, .iload 4, 2, 0), (18, .ireturn, 1, 0), (19, .aload_n 0, 1, 0), (20, .iload_n 2, 1, 0), (21, .iload_n 3, 1, 0), (22, .invokevirtual 268, 3, 0), (25, .aload_n 0, 1, 0), (26, .aload_n 0, 1, 0), (27, .iload_n 1, 1, 0), (28, .iconst 0, 1, 0), (29, .invokevirtual 265, 3, 0), (32, .invokevirtual 299, 3, 0), (35, .ireturn, 1, 0)], ([], [(317, 0, 204, 7, 15), (293, 0, 296, 7, 23), (268, 0, 179, 7, 31), (265, 0, 281, 6, 204), (299, 0, 265, 7, 35)], [], [], []), (11, (7, 141), (1, 13), (7, 140), (0, 135)))
-- DoorSchoolModel.deedsWithout(II)I
noncomputable def mr_206 : MR := ((yX11_deedsWithout, cX11_deedsWithout, 4, 2, (some .int)), [(0, .aload_n 0, 1, 0), (1, .invokevirtual 290, 3, 0), (4, .aload_n 0, 1, 0), (5, .iconst 0, 1, 0), (6, .putfield 262, 3, 0), (9, .iconst 0, 1, 0), (10, .istore_n 3, 1, 0), (11, .iload_n 3, 1, 0), (12, .aload_n 0, 1, 0), (13, .iload_n 1, 1, 0), (14, .iconst 2, 1, 0), (15, .invokevirtual 265, 3, 0), (18, .if_icmp .ge 40, 3, 58), (21, .iload_n 3, 1, 0), (22, .iload_n 2, 1, 0), (23, .if_icmp .eq 29, 3, 52), (26, .aload_n 0, 1, 0), (27, .aload_n 0, 1, 0), (28, .getfield 9, 3, 0), (31, .iload_n 1, 1, 0), (32, .iload_n 3, 1, 0), (33, .invokestatic 203, 3, 0), (36, .iaload, 1, 0), (37, .aload_n 0, 1, 0), (38, .getfield 9, 3, 0), (41, .iload_n 1, 1, 0), (42, .iload_n 3, 1, 0), (43, .invokestatic 203, 3, 0), (46, .iconst 1, 1, 0), (47, .iadd, 1, 0), (48, .iaload, 1, 0), (49, .invokevirtual 268, 3, 0), (52, .iinc 3 1, 3, 0), (55, .goto (-44), 3, 11), (58, .aload_n 0, 1, 0), (59, .aload_n 0, 1, 0), (60, .iload_n 1, 1, 0), (61, .iconst 0, 1, 0), (62, .invokevirtual 265, 3, 0), (65, .invokevirtual 299, 3, 0), (68, .ireturn, 1, 0)], ([(262, 11, 21, 0, 5, 210), (9, 11, 1, 3, 5, 190)], [(290, 0, 263, 7, 19), (265, 0, 281, 6, 204), (203, 2, 272, 6, 175), (268, 0, 179, 7, 31), (299, 0, 265, 7, 35)], [], [], []), (11, (7, 153), (1, 13), (7, 152), (0, 136)))
-- DoorSchoolModel.does(II)I
noncomputable def mr_207 : MR := ((yX11_does, cX11_does, 3, 2, (some .int)), [(0, .aload_n 0, 1, 0), (1, .iload_n 1, 1, 0), (2, .iload_n 2, 1, 0), (3, .invokevirtual 320, 3, 0), (6, .ifCond .eq 12, 3, 18), (9, .aload_n 0, 1, 0), (10, .iload_n 1, 1, 0), (11, .iload_n 2, 1, 0), (12, .invokevirtual 259, 3, 0), (15, .goto 5, 3, 20), (18, .bipush (-2), 2, 0), (20, .ireturn, 1, 0)], ([], [(320, 0, 254, 7, 86), (259, 0, 203, 6, 232)], [], [], []), (11, (7, 85), (1, 13), (7, 83), (7, 84)))
-- DoorSchoolModel.doesFreshCopy(I)Z
noncomputable def mr_208 : MR := ((yX11_doesFreshCopy, cX11_doesFreshCopy, 2, 1, (some .boolean)), [(0, .aload_n 0, 1, 0), (1, .getfield 31, 3, 0), (4, .bipush 10, 2, 0), (6, .iconst 4, 1, 0), (7, .iload_n 1, 1, 0), (8, .imul, 1, 0), (9, .iadd, 1, 0), (10, .iconst 3, 1, 0), (11, .iadd, 1, 0), (12, .iaload, 1, 0), (13, .iconst (-1), 1, 0), (14, .if_icmp .eq 7, 3, 21), (17, .iconst 1, 1, 0), (18, .goto 4, 3, 22), (21, .iconst 0, 1, 0), (22, .ireturn, 1, 0)], ([(31, 11, 14, 3, 5, 203)], [], [], [], []), (11, (6, 185), (1, 13), (6, 184), (0, 108)))
-- DoorSchoolModel.doesSo(II)Z
noncomputable def mr_209 : MR := ((yX11_doesSo, cX11_doesSo, 4, 2, (some .boolean)), [(0, .iconst 0, 1, 0), (1, .istore_n 3, 1, 0), (2, .iload_n 3, 1, 0), (3, .aload_n 0, 1, 0), (4, .getfield 67, 3, 0), (7, .iload_n 1, 1, 0), (8, .iaload, 1, 0), (9, .if_icmp .ge 35, 3, 44), (12, .iload_n 2, 1, 0), (13, .aload_n 0, 1, 0), (14, .iload_n 1, 1, 0), (15, .iload_n 3, 1, 0), (16, .invokevirtual 392, 3, 0), (19, .l2i, 1, 0), (20, .invokestatic 272, 3, 0), (23, .i2l, 1, 0), (24, .aload_n 0, 1, 0), (25, .iload_n 1, 1, 0), (26, .iload_n 3, 1, 0), (27, .iconst 1, 1, 0), (28, .iadd, 1, 0), (29, .invokevirtual 392, 3, 0), (32, .lcmp, 1, 0), (33, .ifCond .eq 5, 3, 38), (36, .iconst 0, 1, 0), (37, .ireturn, 1, 0), (38, .iinc 3 2, 3, 0), (41, .goto (-39), 3, 2), (44, .iconst 1, 1, 0), (45, .ireturn, 1, 0)], ([(67, 11, 32, 3, 5, 221)], [(392, 0, 280, 8, 39), (272, 2, 193, 7, 47)], [], [], []), (11, (8, 46), (1, 13), (8, 45), (0, 150)))
-- DoorSchoolModel.door(II)I
noncomputable def mr_210 : MR := ((yX11_door, cX11_door, 3, 2, (some .int)), [(0, .aload_n 0, 1, 0), (1, .iload_n 1, 1, 0), (2, .invokevirtual 302, 3, 0), (5, .ifCond .eq 24, 3, 29), (8, .iload_n 2, 1, 0), (9, .i2l, 1, 0), (10, .lconst 0, 1, 0), (11, .ldc2_w 305, 3, 0), (14, .invokestatic 89, 3, 0), (17, .ifCond .eq 12, 3, 29), (20, .aload_n 0, 1, 0), (21, .iload_n 1, 1, 0), (22, .iload_n 2, 1, 0), (23, .invokevirtual 265, 3, 0), (26, .goto 5, 3, 31), (29, .bipush (-2), 2, 0), (31, .ireturn, 1, 0)], ([], [(302, 0, 245, 6, 199), (89, 2, 240, 6, 63), (265, 0, 281, 6, 204)], [], [(305, 3, 6, 203)], []), (11, (6, 198), (1, 13), (6, 196), (6, 197)))
-- DoorSchoolModel.easiest(I)I
noncomputable def mr_211 : MR := ((yX11_easiest, cX11_easiest, 6, 1, (some .int)), [(0, .aload_n 0, 1, 0), (1, .iload_n 1, 1, 0), (2, .invokevirtual 324, 3, 0), (5, .ifCond .ne 6, 3, 11), (8, .bipush (-2), 2, 0), (10, .ireturn, 1, 0), (11, .iconst (-1), 1, 0), (12, .istore_n 2, 1, 0), (13, .ldc_w 355, 3, 0), (16, .istore_n 3, 1, 0), (17, .iconst 0, 1, 0), (18, .istore 4, 2, 0), (20, .iload 4, 2, 0), (22, .iconst 3, 1, 0), (23, .if_icmp .ge 45, 3, 68), (26, .aload_n 0, 1, 0), (27, .iload 4, 2, 0), (29, .iload_n 1, 1, 0), (30, .invokevirtual 350, 3, 0), (33, .istore 5, 2, 0), (35, .iload 5, 2, 0), (37, .iconst (-1), 1, 0), (38, .if_icmp .eq 24, 3, 62), (41, .iload 5, 2, 0), (43, .invokestatic 256, 3, 0), (46, .iload_n 3, 1, 0), (47, .if_icmp .lt 6, 3, 53), (50, .goto 12, 3, 62), (53, .iload 5, 2, 0), (55, .invokestatic 256, 3, 0), (58, .istore_n 3, 1, 0), (59, .iload 4, 2, 0), (61, .istore_n 2, 1, 0), (62, .iinc 4 1, 3, 0), (65, .goto (-45), 3, 20), (68, .iload_n 2, 1, 0), (69, .ireturn, 1, 0)], ([], [(324, 0, 186, 7, 94), (350, 0, 219, 7, 161), (256, 2, 194, 7, 0)], [(355, 1000000, 7, 186)], [], []), (11, (7, 185), (1, 13), (7, 183), (7, 184)))
-- DoorSchoolModel.end(I)I
noncomputable def mr_212 : MR := ((yX11_end, cX11_end, 2, 1, (some .int)), [(0, .iload_n 1, 1, 0), (1, .i2l, 1, 0), (2, .lconst 0, 1, 0), (3, .aload_n 0, 1, 0), (4, .getfield 104, 3, 0), (7, .i2l, 1, 0), (8, .invokestatic 89, 3, 0), (11, .ifCond .ne 5, 3, 16), (14, .iconst (-1), 1, 0), (15, .ireturn, 1, 0), (16, .aload_n 0, 1, 0), (17, .iload_n 1, 1, 0), (18, .putfield 104, 3, 0), (21, .iload_n 1, 1, 0), (22, .ireturn, 1, 0)], ([(104, 11, 5, 0, 5, 194)], [(89, 2, 240, 6, 63)], [], [], []), (11, (6, 77), (1, 13), (6, 75), (6, 76)))
-- DoorSchoolModel.errors(II)I
noncomputable def mr_213 : MR := ((yX11_errors, cX11_errors, 3, 2, (some .int)), [(0, .iload_n 1, 1, 0), (1, .invokestatic 347, 3, 0), (4, .ifCond .eq 11, 3, 15), (7, .aload_n 0, 1, 0), (8, .iload_n 2, 1, 0), (9, .invokevirtual 324, 3, 0), (12, .ifCond .ne 6, 3, 18), (15, .bipush (-2), 2, 0), (17, .ireturn, 1, 0), (18, .aload_n 0, 1, 0), (19, .iload_n 1, 1, 0), (20, .iload_n 2, 1, 0), (21, .invokevirtual 386, 3, 0), (24, .aload_n 0, 1, 0), (25, .getfield 380, 3, 0), (28, .ireturn, 1, 0)], ([(380, 11, 22, 0, 5, 211)], [(347, 2, 259, 7, 158), (324, 0, 186, 7, 94), (386, 0, 312, 8, 16)], [], [], []), (11, (8, 15), (1, 13), (8, 13), (8, 14)))
-- DoorSchoolModel.errs(I)V
noncomputable def mr_214 : MR := ((yX11_errs, cX11_errs, 2, 1, none), [(0, .aload_n 0, 1, 0), (1, .invokevirtual 144, 3, 0), (4, .ifCond .ne 4, 3, 8), (7, .return_, 1, 0), (8, .aload_n 0, 1, 0), (9, .iload_n 1, 1, 0), (10, .putfield 141, 3, 0), (13, .aload_n 0, 1, 0), (14, .aload_n 0, 1, 0), (15, .getfield 117, 3, 0), (18, .putfield 27, 3, 0), (21, .return_, 1, 0)], ([(141, 11, 12, 0, 5, 201), (117, 11, 9, 0, 5, 198), (27, 11, 13, 0, 5, 202)], [(144, 0, 228, 6, 100)], [], [], []), (11, (6, 126), (1, 13), (6, 125), (0, 98)))
-- DoorSchoolModel.exam(II)I
noncomputable def mr_215 : MR := ((yX11_exam, cX11_exam, 3, 2, (some .int)), [(0, .aload_n 0, 1, 0), (1, .iload_n 1, 1, 0), (2, .invokevirtual 307, 3, 0), (5, .ifCond .eq 29, 3, 34), (8, .iload_n 2, 1, 0), (9, .i2l, 1, 0), (10, .lconst 0, 1, 0), (11, .lconst 1, 1, 0), (12, .invokestatic 89, 3, 0), (15, .ifCond .eq 19, 3, 34), (18, .aload_n 0, 1, 0), (19, .getfield 9, 3, 0), (22, .bipush 122, 2, 0), (24, .iconst 2, 1, 0), (25, .iload_n 1, 1, 0), (26, .imul, 1, 0), (27, .iadd, 1, 0), (28, .iload_n 2, 1, 0), (29, .iadd, 1, 0), (30, .iaload, 1, 0), (31, .goto 5, 3, 36), (34, .bipush (-2), 2, 0), (36, .ireturn, 1, 0)], ([(9, 11, 1, 3, 5, 190)], [(307, 0, 246, 6, 216), (89, 2, 240, 6, 63)], [], [], []), (11, (6, 215), (1, 13), (6, 213), (6, 214)))
-- DoorSchoolModel.fault(I)I
noncomputable def mr_216 : MR := ((yX11_fault, cX11_fault, 2, 1, (some .int)), [(0, .iload_n 1, 1, 0), (1, .ifCond .ne 10, 3, 11), (4, .aload_n 0, 1, 0), (5, .getfield 141, 3, 0), (8, .goto 16, 3, 24), (11, .iload_n 1, 1, 0), (12, .iconst 1, 1, 0), (13, .if_icmp .ne 10, 3, 23), (16, .aload_n 0, 1, 0), (17, .getfield 27, 3, 0), (20, .goto 4, 3, 24), (23, .iconst (-1), 1, 0), (24, .ireturn, 1, 0)], ([(141, 11, 12, 0, 5, 201), (27, 11, 13, 0, 5, 202)], [], [], [], []), (11, (6, 81), (1, 13), (6, 79), (6, 80)))
-- DoorSchoolModel.feed(IIIII)I
noncomputable def mr_217 : MR := ((yX11_feed, cX11_feed, 7, 5, (some .int)), [(0, .aload_n 0, 1, 0), (1, .getfield 104, 3, 0), (4, .bipush 20, 2, 0), (6, .iadd, 1, 0), (7, .sipush 1600, 3, 0), (10, .if_icmp .le 5, 3, 15), (13, .iconst (-1), 1, 0), (14, .ireturn, 1, 0), (15, .aload_n 0, 1, 0), (16, .getfield 24, 3, 0), (19, .iconst 0, 1, 0), (20, .iload_n 1, 1, 0), (21, .iastore, 1, 0), (22, .aload_n 0, 1, 0), (23, .getfield 24, 3, 0), (26, .iconst 1, 1, 0), (27, .iload_n 2, 1, 0), (28, .iastore, 1, 0), (29, .aload_n 0, 1, 0), (30, .getfield 24, 3, 0), (33, .iconst 2, 1, 0), (34, .iload_n 3, 1, 0), (35, .iastore, 1, 0), (36, .aload_n 0, 1, 0), (37, .getfield 24, 3, 0), (40, .iconst 3, 1, 0), (41, .iload 4, 2, 0), (43, .iastore, 1, 0), (44, .aload_n 0, 1, 0), (45, .getfield 24, 3, 0), (48, .iconst 4, 1, 0), (49, .iload 5, 2, 0), (51, .iastore, 1, 0), (52, .iconst 0, 1, 0), (53, .istore 6, 2, 0), (55, .iload 6, 2, 0), (57, .bipush 20, 2, 0), (59, .if_icmp .ge 42, 3, 101), (62, .aload_n 0, 1, 0), (63, .getfield 20, 3, 0), (66, .aload_n 0, 1, 0), (67, .getfield 104, 3, 0), (70, .iload 6, 2, 0), (72, .iadd, 1, 0), (73, .aload_n 0, 1, 0), (74, .getfield 24, 3, 0), (77, .iload 6, 2, 0), (79, .iconst 4, 1, 0), (80, .idiv, 1, 0), (81, .iaload, 1, 0), (82, .bipush 24, 2, 0), (84, .bipush 8, 2, 0), (86, .iload 6, 2, 0), (88, .iconst 4, 1, 0), (89, .irem, 1, 0), (90, .imul, 1, 0), (91, .isub, 1, 0), (92, .ishr, 1, 0), (93, .i2b, 1, 0), (94, .bastore, 1, 0), (95, .iinc 6 1, 3, 0), (98, .goto (-43), 3, 55), (101, .aload_n 0, 1, 0), (102, .dup, 1, 0), (103, .getfield 104, 3, 0), (106, .bipush 20, 2, 0), (108, .iadd, 1, 0), (109, .putfield 104, 3, 0), (112, .aload_n 0, 1, 0), (113, .getfield 104, 3, 0), (116, .ireturn, 1, 0)], ([(104, 11, 5, 0, 5, 194), (24, 11, 6, 3, 5, 195), (20, 11, 4, 3, 5, 193)], [], [], [], []), (11, (6, 73), (1, 13), (6, 71), (6, 72)))
-- DoorSchoolModel.fewest(II)I
noncomputable def mr_218 : MR := ((yX11_fewest, cX11_fewest, 4, 2, (some .int)), [(0, .iload_n 1, 1, 0), (1, .invokestatic 347, 3, 0), (4, .ifCond .eq 11, 3, 15), (7, .aload_n 0, 1, 0), (8, .iload_n 2, 1, 0), (9, .invokevirtual 324, 3, 0), (12, .ifCond .ne 6, 3, 18), (15, .bipush (-2), 2, 0), (17, .ireturn, 1, 0), (18, .aload_n 0, 1, 0), (19, .iload_n 1, 1, 0), (20, .iload_n 2, 1, 0), (21, .invokevirtual 350, 3, 0), (24, .istore_n 3, 1, 0), (25, .iload_n 3, 1, 0), (26, .iconst (-1), 1, 0), (27, .if_icmp .ne 7, 3, 34), (30, .iconst (-1), 1, 0), (31, .goto 7, 3, 38), (34, .iload_n 3, 1, 0), (35, .invokestatic 256, 3, 0), (38, .ireturn, 1, 0)], ([], [(347, 2, 259, 7, 158), (324, 0, 186, 7, 94), (350, 0, 219, 7, 161), (256, 2, 194, 7, 0)], [], [], []), (11, (7, 157), (1, 13), (7, 155), (7, 156)))
-- DoorSchoolModel.fewestSet(II)I
noncomputable def mr_219 : MR := ((yX11_fewestSet, cX11_fewestSet, 5, 2, (some .int)), [(0, .aload_n 0, 1, 0), (1, .invokevirtual 290, 3, 0), (4, .iconst (-1), 1, 0), (5, .istore_n 3, 1, 0), (6, .iconst 0, 1, 0), (7, .istore 4, 2, 0), (9, .iload 4, 2, 0), (11, .aload_n 0, 1, 0), (12, .invokevirtual 101, 3, 0), (15, .if_icmp .gt 40, 3, 55), (18, .iload_n 3, 1, 0), (19, .iconst (-1), 1, 0), (20, .if_icmp .eq 15, 3, 35), (23, .iload 4, 2, 0), (25, .invokestatic 256, 3, 0), (28, .iload_n 3, 1, 0), (29, .invokestatic 256, 3, 0), (32, .if_icmp .ge 17, 3, 49), (35, .aload_n 0, 1, 0), (36, .iload_n 1, 1, 0), (37, .iload 4, 2, 0), (39, .iload_n 2, 1, 0), (40, .invokevirtual 343, 3, 0), (43, .ifCond .eq 6, 3, 49), (46, .iload 4, 2, 0), (48, .istore_n 3, 1, 0), (49, .iinc 4 1, 3, 0), (52, .goto (-43), 3, 9), (55, .iload_n 3, 1, 0), (56, .ireturn, 1, 0)], ([], [(290, 0, 263, 7, 19), (101, 0, 183, 7, 98), (256, 2, 194, 7, 0), (343, 0, 266, 7, 165)], [], [], []), (11, (7, 164), (1, 13), (7, 163), (0, 137)))
-- DoorSchoolModel.firstRule()I
noncomputable def mr_220 : MR := ((yX11_firstRule, cX11_firstRule, 2, 0, (some .int)), [(0, .iconst 0, 1, 0), (1, .istore_n 1, 1, 0), (2, .iload_n 1, 1, 0), (3, .aload_n 0, 1, 0), (4, .getfield 253, 3, 0), (7, .if_icmp .ge 24, 3, 31), (10, .aload_n 0, 1, 0), (11, .aload_n 0, 1, 0), (12, .getfield 40, 3, 0), (15, .iload_n 1, 1, 0), (16, .iaload, 1, 0), (17, .invokevirtual 275, 3, 0), (20, .ifCond .eq 5, 3, 25), (23, .iload_n 1, 1, 0), (24, .ireturn, 1, 0), (25, .iinc 1 1, 3, 0), (28, .goto (-26), 3, 2), (31, .iconst (-1), 1, 0), (32, .ireturn, 1, 0)], ([(253, 11, 18, 0, 5, 207), (40, 11, 17, 3, 5, 206)], [(275, 0, 243, 7, 43)], [], [], []), (11, (7, 42), (1, 13), (7, 41), (0, 125)))
-- DoorSchoolModel.fits(I)I
noncomputable def mr_221 : MR := ((yX11_fits, cX11_fits, 3, 1, (some .int)), [(0, .aload_n 0, 1, 0), (1, .iload_n 1, 1, 0), (2, .iconst 1, 1, 0), (3, .invokevirtual 396, 3, 0), (6, .istore_n 2, 1, 0), (7, .iload_n 2, 1, 0), (8, .ifCond .ge 7, 3, 15), (11, .iload_n 2, 1, 0), (12, .goto 8, 3, 20), (15, .aload_n 0, 1, 0), (16, .iload_n 1, 1, 0), (17, .invokevirtual 415, 3, 0), (20, .ireturn, 1, 0)], ([], [(396, 0, 189, 8, 32), (415, 0, 222, 8, 83)], [], [], []), (11, (8, 82), (1, 13), (8, 80), (8, 81)))
-- DoorSchoolModel.fitsOf(I)I
noncomputable def mr_222 : MR := ((yX11_fitsOf, cX11_fitsOf, 4, 1, (some .int)), [(0, .aload_n 0, 1, 0), (1, .invokevirtual 290, 3, 0), (4, .iconst 0, 1, 0), (5, .istore_n 2, 1, 0), (6, .iconst 0, 1, 0), (7, .istore_n 3, 1, 0), (8, .iload_n 3, 1, 0), (9, .aload_n 0, 1, 0), (10, .getfield 253, 3, 0), (13, .if_icmp .ge 31, 3, 44), (16, .iload_n 2, 1, 0), (17, .aload_n 0, 1, 0), (18, .iload_n 1, 1, 0), (19, .aload_n 0, 1, 0), (20, .getfield 40, 3, 0), (23, .iload_n 3, 1, 0), (24, .iaload, 1, 0), (25, .invokevirtual 400, 3, 0), (28, .ifCond .eq 7, 3, 35), (31, .iconst 1, 1, 0), (32, .goto 4, 3, 36), (35, .iconst 0, 1, 0), (36, .iadd, 1, 0), (37, .istore_n 2, 1, 0), (38, .iinc 3 1, 3, 0), (41, .goto (-33), 3, 8), (44, .iload_n 2, 1, 0), (45, .ireturn, 1, 0)], ([(253, 11, 18, 0, 5, 207), (40, 11, 17, 3, 5, 206)], [(290, 0, 263, 7, 19), (400, 0, 209, 8, 43)], [], [], []), (11, (8, 86), (1, 13), (8, 85), (0, 154)))
-- DoorSchoolModel.fooled(II)I
noncomputable def mr_223 : MR := ((yX11_fooled, cX11_fooled, 4, 2, (some .int)), [(0, .aload_n 0, 1, 0), (1, .iload_n 1, 1, 0), (2, .invokevirtual 302, 3, 0), (5, .ifCond .eq 13, 3, 18), (8, .iload_n 2, 1, 0), (9, .i2l, 1, 0), (10, .lconst 0, 1, 0), (11, .lconst 1, 1, 0), (12, .invokestatic 89, 3, 0), (15, .ifCond .ne 6, 3, 21), (18, .bipush (-2), 2, 0), (20, .ireturn, 1, 0), (21, .aload_n 0, 1, 0), (22, .iload_n 1, 1, 0), (23, .invokevirtual 317, 3, 0), (26, .istore_n 3, 1, 0), (27, .iload_n 2, 1, 0), (28, .ifCond .ne 14, 3, 42), (31, .iload_n 3, 1, 0), (32, .aload_n 0, 1, 0), (33, .invokevirtual 356, 3, 0), (36, .iconst (-1), 1, 0), (37, .ixor, 1, 0), (38, .iand, 1, 0), (39, .goto 11, 3, 50), (42, .aload_n 0, 1, 0), (43, .invokevirtual 356, 3, 0), (46, .iload_n 3, 1, 0), (47, .iconst (-1), 1, 0), (48, .ixor, 1, 0), (49, .iand, 1, 0), (50, .ireturn, 1, 0)], ([], [(302, 0, 245, 6, 199), (89, 2, 240, 6, 63), (317, 0, 204, 7, 15), (356, 0, 286, 7, 191)], [], [], []), (11, (7, 190), (1, 13), (7, 188), (7, 189)))
-- DoorSchoolModel.fooledBy(I)I
noncomputable def mr_224 : MR := ((yX11_fooledBy, cX11_fooledBy, 2, 1, (some .int)), [(0, .iload_n 1, 1, 0), (1, .aload_n 0, 1, 0), (2, .invokevirtual 356, 3, 0), (5, .iconst (-1), 1, 0), (6, .ixor, 1, 0), (7, .iand, 1, 0), (8, .invokestatic 256, 3, 0), (11, .ireturn, 1, 0)], ([], [(356, 0, 286, 7, 191), (256, 2, 194, 7, 0)], [], [], []), (11, (7, 214), (1, 13), (7, 213), (0, 142)))
-- DoorSchoolModel.freshKnock()I
noncomputable def mr_225 : MR := ((yX11_freshKnock, cX11_freshKnock, 1, 0, (some .int)), [(0, .aload_n 0, 1, 0), (1, .iconst 0, 1, 0), (2, .iconst 1, 1, 0), (3, .aload_n 0, 1, 0), (4, .getfield 31, 3, 0), (7, .iconst 0, 1, 0), (8, .iaload, 1, 0), (9, .ishl, 1, 0), (10, .iconst 1, 1, 0), (11, .isub, 1, 0), (12, .invokevirtual 174, 3, 0), (15, .ireturn, 1, 0)], ([(31, 11, 14, 3, 5, 203)], [(174, 0, 279, 6, 132)], [], [], []), (11, (6, 168), (1, 13), (6, 167), (0, 105)))
-- DoorSchoolModel.gains(III)I
noncomputable def mr_226 : MR := ((yX11_gains, cX11_gains, 4, 3, (some .int)), [(0, .aload_n 0, 1, 0), (1, .iload_n 1, 1, 0), (2, .invokevirtual 302, 3, 0), (5, .ifCond .eq 22, 3, 27), (8, .aload_n 0, 1, 0), (9, .iload_n 2, 1, 0), (10, .i2l, 1, 0), (11, .invokevirtual 313, 3, 0), (14, .ifCond .eq 13, 3, 27), (17, .iload_n 3, 1, 0), (18, .i2l, 1, 0), (19, .lconst 0, 1, 0), (20, .lconst 1, 1, 0), (21, .invokestatic 89, 3, 0), (24, .ifCond .ne 7, 3, 31), (27, .sipush (-1000), 3, 0), (30, .ireturn, 1, 0), (31, .aload_n 0, 1, 0), (32, .aload_n 0, 1, 0), (33, .iload_n 1, 1, 0), (34, .iload_n 2, 1, 0), (35, .iload_n 3, 1, 0), (36, .invokevirtual 333, 3, 0), (39, .invokevirtual 330, 3, 0), (42, .aload_n 0, 1, 0), (43, .aload_n 0, 1, 0), (44, .iload_n 1, 1, 0), (45, .invokevirtual 317, 3, 0), (48, .invokevirtual 330, 3, 0), (51, .isub, 1, 0), (52, .ireturn, 1, 0)], ([], [(302, 0, 245, 6, 199), (313, 0, 250, 7, 11), (89, 2, 240, 6, 63), (333, 0, 205, 7, 138), (330, 0, 274, 7, 106), (317, 0, 204, 7, 15)], [], [], []), (11, (7, 137), (1, 13), (7, 135), (7, 136)))
-- DoorSchoolModel.game(III)I
noncomputable def mr_227 : MR := ((yX11_game, cX11_game, 4, 3, (some .int)), [(0, .aload_n 0, 1, 0), (1, .iload_n 1, 1, 0), (2, .invokevirtual 302, 3, 0), (5, .ifCond .eq 31, 3, 36), (8, .iload_n 2, 1, 0), (9, .invokestatic 347, 3, 0), (12, .ifCond .eq 24, 3, 36), (15, .aload_n 0, 1, 0), (16, .iload_n 3, 1, 0), (17, .invokevirtual 371, 3, 0), (20, .ifCond .eq 16, 3, 36), (23, .aload_n 0, 1, 0), (24, .iload_n 1, 1, 0), (25, .iload_n 2, 1, 0), (26, .invokevirtual 374, 3, 0), (29, .iload_n 3, 1, 0), (30, .invokestatic 272, 3, 0), (33, .goto 5, 3, 38), (36, .bipush (-2), 2, 0), (38, .ireturn, 1, 0)], ([], [(302, 0, 245, 6, 199), (347, 2, 259, 7, 158), (371, 0, 258, 7, 228), (374, 0, 202, 7, 232), (272, 2, 193, 7, 47)], [], [], []), (11, (7, 227), (1, 13), (7, 225), (7, 226)))
-- DoorSchoolModel.good()Z
noncomputable def mr_228 : MR := ((yX11_good, cX11_good, 1, 0, (some .boolean)), [(0, .aload_n 0, 1, 0), (1, .getfield 141, 3, 0), (4, .ifCond .ne 7, 3, 11), (7, .iconst 1, 1, 0), (8, .goto 4, 3, 12), (11, .iconst 0, 1, 0), (12, .ireturn, 1, 0)], ([(141, 11, 12, 0, 5, 201)], [], [], [], []), (11, (6, 103), (1, 13), (6, 102), (0, 93)))
-- DoorSchoolModel.hangAll()V
noncomputable def mr_229 : MR := ((yX11_hangAll, cX11_hangAll, 7, 0, none), [(0, .aload_n 0, 1, 0), (1, .iconst (-1), 1, 0), (2, .putfield 406, 3, 0), (5, .aload_n 0, 1, 0), (6, .getfield 9, 3, 0), (9, .iconst 2, 1, 0), (10, .iaload, 1, 0), (11, .aload_n 0, 1, 0), (12, .getfield 9, 3, 0), (15, .iconst 4, 1, 0), (16, .iaload, 1, 0), (17, .if_icmp .ge 4, 3, 21), (20, .return_, 1, 0), (21, .iconst 1, 1, 0), (22, .istore_n 1, 1, 0), (23, .iconst 0, 1, 0), (24, .istore_n 2, 1, 0), (25, .iload_n 2, 1, 0), (26, .aload_n 0, 1, 0), (27, .getfield 9, 3, 0), (30, .iconst 4, 1, 0), (31, .iaload, 1, 0), (32, .if_icmp .ge 18, 3, 50), (35, .iload_n 1, 1, 0), (36, .aload_n 0, 1, 0), (37, .getfield 9, 3, 0), (40, .iconst 2, 1, 0), (41, .iaload, 1, 0), (42, .imul, 1, 0), (43, .istore_n 1, 1, 0), (44, .iinc 2 1, 3, 0), (47, .goto (-22), 3, 25), (50, .iconst 0, 1, 0), (51, .istore_n 2, 1, 0), (52, .iload_n 2, 1, 0), (53, .iload_n 1, 1, 0), (54, .if_icmp .ge 186, 3, 240), (57, .iload_n 2, 1, 0), (58, .istore_n 3, 1, 0), (59, .iconst 0, 1, 0), (60, .istore 4, 2, 0), (62, .iconst 0, 1, 0), (63, .istore 5, 2, 0), (65, .aload_n 0, 1, 0), (66, .getfield 9, 3, 0), (69, .iconst 4, 1, 0), (70, .iaload, 1, 0), (71, .iconst 1, 1, 0), (72, .isub, 1, 0), (73, .istore 6, 2, 0), (75, .iload 6, 2, 0), (77, .ifCond .lt 47, 3, 124), (80, .aload_n 0, 1, 0), (81, .getfield 49, 3, 0), (84, .iload 6, 2, 0), (86, .iload_n 3, 1, 0), (87, .aload_n 0, 1, 0), (88, .getfield 9, 3, 0), (91, .iconst 2, 1, 0), (92, .iaload, 1, 0), (93, .irem, 1, 0), (94, .iastore, 1, 0), (95, .iload_n 3, 1, 0), (96, .aload_n 0, 1, 0), (97, .getfield 9, 3, 0), (100, .iconst 2, 1, 0), (101, .iaload, 1, 0), (102, .idiv, 1, 0), (103, .istore_n 3, 1, 0), (104, .iload 4, 2, 0), (106, .iconst 1, 1, 0), (107, .aload_n 0, 1, 0), (108, .getfield 49, 3, 0), (111, .iload 6, 2, 0), (113, .iaload, 1, 0), (114, .ishl, 1, 0), (115, .ior, 1, 0), (116, .istore 4, 2, 0), (118, .iinc 6 (-1), 3, 0), (121, .goto (-46), 3, 75), (124, .iload 4, 2, 0), (126, .invokestatic 256, 3, 0), (129, .aload_n 0, 1, 0), (130, .getfield 9, 3, 0), (133, .iconst 4, 1, 0), (134, .iaload, 1, 0), (135, .if_icmp .eq 6, 3, 141), (138, .goto 96, 3, 234), (141, .iconst 0, 1, 0), (142, .istore 6, 2, 0), (144, .iload 6, 2, 0), (146, .aload_n 0, 1, 0), (147, .getfield 9, 3, 0), (150, .iconst 4, 1, 0), (151, .iaload, 1, 0), (152, .if_icmp .ge 27, 3, 179), (155, .iload 5, 2, 0), (157, .aload_n 0, 1, 0), (158, .aload_n 0, 1, 0), (159, .getfield 49, 3, 0), (162, .iload 6, 2, 0), (164, .iaload, 1, 0), (165, .iload 6, 2, 0), (167, .invokevirtual 409, 3, 0), (170, .iadd, 1, 0), (171, .istore 5, 2, 0), (173, .iinc 6 1, 3, 0), (176, .goto (-32), 3, 144), (179, .aload_n 0, 1, 0), (180, .getfield 406, 3, 0), (183, .iconst (-1), 1, 0), (184, .if_icmp .eq 15, 3, 199), (187, .iload 5, 2, 0), (189, .aload_n 0, 1, 0), (190, .getfield 406, 3, 0), (193, .if_icmp .lt 6, 3, 199), (196, .goto 38, 3, 234), (199, .aload_n 0, 1, 0), (200, .iload 5, 2, 0), (202, .putfield 406, 3, 0), (205, .iconst 0, 1, 0), (206, .istore 6, 2, 0), (208, .iload 6, 2, 0), (210, .iconst 4, 1, 0), (211, .if_icmp .ge 23, 3, 234), (214, .aload_n 0, 1, 0), (215, .getfield 52, 3, 0), (218, .iload 6, 2, 0), (220, .aload_n 0, 1, 0), (221, .getfield 49, 3, 0), (224, .iload 6, 2, 0), (226, .iaload, 1, 0), (227, .iastore, 1, 0), (228, .iinc 6 1, 3, 0), (231, .goto (-23), 3, 208), (234, .iinc 2 1, 3, 0), (237, .goto (-185), 3, 52), (240, .return_, 1, 0)], ([(406, 11, 26, 0, 5, 215), (9, 11, 1, 3, 5, 190), (49, 11, 24, 3, 5, 213), (52, 11, 25, 3, 5, 214)], [(256, 2, 194, 7, 0), (409, 0, 185, 8, 67)], [], [], []), (11, (8, 66), (1, 13), (8, 65), (0, 152)))
-- DoorSchoolModel.hanging()I
noncomputable def mr_230 : MR := ((yX11_hanging, cX11_hanging, 1, 0, (some .int)), [(0, .aload_n 0, 1, 0), (1, .invokevirtual 93, 3, 0), (4, .ifCond .ne 6, 3, 10), (7, .bipush (-2), 2, 0), (9, .ireturn, 1, 0), (10, .aload_n 0, 1, 0), (11, .invokevirtual 412, 3, 0), (14, .aload_n 0, 1, 0), (15, .getfield 406, 3, 0), (18, .ireturn, 1, 0)], ([(406, 11, 26, 0, 5, 215)], [(93, 0, 255, 6, 224), (412, 0, 229, 8, 63)], [], [], []), (11, (8, 62), (1, 13), (8, 60), (8, 61)))
-- DoorSchoolModel.hard()I
noncomputable def mr_231 : MR := ((yX11_hard, cX11_hard, 5, 0, (some .int)), [(0, .aload_n 0, 1, 0), (1, .invokevirtual 93, 3, 0), (4, .ifCond .ne 6, 3, 10), (7, .bipush (-2), 2, 0), (9, .ireturn, 1, 0), (10, .iconst 1, 1, 0), (11, .aload_n 0, 1, 0), (12, .getfield 9, 3, 0), (15, .iconst 3, 1, 0), (16, .iaload, 1, 0), (17, .ishl, 1, 0), (18, .iconst 1, 1, 0), (19, .isub, 1, 0), (20, .istore_n 1, 1, 0), (21, .iconst 0, 1, 0), (22, .istore_n 2, 1, 0), (23, .iload_n 2, 1, 0), (24, .aload_n 0, 1, 0), (25, .getfield 9, 3, 0), (28, .iconst 2, 1, 0), (29, .iaload, 1, 0), (30, .if_icmp .ge 54, 3, 84), (33, .aload_n 0, 1, 0), (34, .iload_n 2, 1, 0), (35, .invokevirtual 317, 3, 0), (38, .istore_n 3, 1, 0), (39, .iconst 0, 1, 0), (40, .istore 4, 2, 0), (42, .iload 4, 2, 0), (44, .aload_n 0, 1, 0), (45, .getfield 9, 3, 0), (48, .iconst 3, 1, 0), (49, .iaload, 1, 0), (50, .if_icmp .ge 28, 3, 78), (53, .aload_n 0, 1, 0), (54, .iload_n 3, 1, 0), (55, .iload 4, 2, 0), (57, .invokevirtual 327, 3, 0), (60, .ifCond .eq 12, 3, 72), (63, .iload_n 1, 1, 0), (64, .iconst 1, 1, 0), (65, .iload 4, 2, 0), (67, .ishl, 1, 0), (68, .iconst (-1), 1, 0), (69, .ixor, 1, 0), (70, .iand, 1, 0), (71, .istore_n 1, 1, 0), (72, .iinc 4 1, 3, 0), (75, .goto (-33), 3, 42), (78, .iinc 2 1, 3, 0), (81, .goto (-58), 3, 23), (84, .iload_n 1, 1, 0), (85, .ireturn, 1, 0)], ([(9, 11, 1, 3, 5, 190)], [(93, 0, 255, 6, 224), (317, 0, 204, 7, 15), (327, 0, 253, 7, 110)], [], [], []), (11, (7, 125), (1, 13), (7, 123), (7, 124)))
-- DoorSchoolModel.harden(I)I
noncomputable def mr_232 : MR := ((yX11_harden, cX11_harden, 6, 1, (some .int)), [(0, .aload_n 0, 1, 0), (1, .iload_n 1, 1, 0), (2, .invokevirtual 302, 3, 0), (5, .ifCond .ne 6, 3, 11), (8, .bipush (-2), 2, 0), (10, .ireturn, 1, 0), (11, .aload_n 0, 1, 0), (12, .aload_n 0, 1, 0), (13, .iload_n 1, 1, 0), (14, .invokevirtual 317, 3, 0), (17, .invokevirtual 362, 3, 0), (20, .istore_n 2, 1, 0), (21, .iconst (-1), 1, 0), (22, .istore_n 3, 1, 0), (23, .iconst 0, 1, 0), (24, .istore 4, 2, 0), (26, .iload 4, 2, 0), (28, .aload_n 0, 1, 0), (29, .invokevirtual 97, 3, 0), (32, .if_icmp .ge 33, 3, 65), (35, .aload_n 0, 1, 0), (36, .iload_n 1, 1, 0), (37, .iload 4, 2, 0), (39, .invokevirtual 365, 3, 0), (42, .istore 5, 2, 0), (44, .iload 5, 2, 0), (46, .iload_n 2, 1, 0), (47, .if_icmp .lt 6, 3, 53), (50, .goto 9, 3, 59), (53, .iload 5, 2, 0), (55, .istore_n 2, 1, 0), (56, .iload 4, 2, 0), (58, .istore_n 3, 1, 0), (59, .iinc 4 1, 3, 0), (62, .goto (-36), 3, 26), (65, .iload_n 3, 1, 0), (66, .ireturn, 1, 0)], ([], [(302, 0, 245, 6, 199), (317, 0, 204, 7, 15), (362, 0, 224, 7, 211), (97, 0, 260, 6, 236), (365, 0, 233, 7, 215)], [], [], []), (11, (7, 210), (1, 13), (7, 208), (7, 209)))
-- DoorSchoolModel.hardened(II)I
noncomputable def mr_233 : MR := ((yX11_hardened, cX11_hardened, 3, 2, (some .int)), [(0, .aload_n 0, 1, 0), (1, .aload_n 0, 1, 0), (2, .iload_n 1, 1, 0), (3, .iload_n 2, 1, 0), (4, .aload_n 0, 1, 0), (5, .invokevirtual 356, 3, 0), (8, .iload_n 2, 1, 0), (9, .invokestatic 272, 3, 0), (12, .invokevirtual 333, 3, 0), (15, .invokevirtual 362, 3, 0), (18, .ireturn, 1, 0)], ([], [(356, 0, 286, 7, 191), (272, 2, 193, 7, 47), (333, 0, 205, 7, 138), (362, 0, 224, 7, 211)], [], [], []), (11, (7, 218), (1, 13), (7, 217), (0, 143)))
-- DoorSchoolModel.help(I)I
noncomputable def mr_234 : MR := ((yX11_help, cX11_help, 6, 1, (some .int)), [(0, .aload_n 0, 1, 0), (1, .iload_n 1, 1, 0), (2, .invokevirtual 302, 3, 0), (5, .ifCond .ne 6, 3, 11), (8, .bipush (-2), 2, 0), (10, .ireturn, 1, 0), (11, .aload_n 0, 1, 0), (12, .aload_n 0, 1, 0), (13, .iload_n 1, 1, 0), (14, .invokevirtual 317, 3, 0), (17, .invokevirtual 330, 3, 0), (20, .istore_n 2, 1, 0), (21, .iconst (-1), 1, 0), (22, .istore_n 3, 1, 0), (23, .iconst 0, 1, 0), (24, .istore 4, 2, 0), (26, .iload 4, 2, 0), (28, .iconst 2, 1, 0), (29, .aload_n 0, 1, 0), (30, .invokevirtual 97, 3, 0), (33, .imul, 1, 0), (34, .if_icmp .ge 43, 3, 77), (37, .aload_n 0, 1, 0), (38, .aload_n 0, 1, 0), (39, .iload_n 1, 1, 0), (40, .iload 4, 2, 0), (42, .iconst 2, 1, 0), (43, .idiv, 1, 0), (44, .iload 4, 2, 0), (46, .iconst 2, 1, 0), (47, .irem, 1, 0), (48, .invokevirtual 333, 3, 0), (51, .invokevirtual 330, 3, 0), (54, .istore 5, 2, 0), (56, .iload 5, 2, 0), (58, .iload_n 2, 1, 0), (59, .if_icmp .gt 6, 3, 65), (62, .goto 9, 3, 71), (65, .iload 5, 2, 0), (67, .istore_n 2, 1, 0), (68, .iload 4, 2, 0), (70, .istore_n 3, 1, 0), (71, .iinc 4 1, 3, 0), (74, .goto (-48), 3, 26), (77, .iload_n 3, 1, 0), (78, .ireturn, 1, 0)], ([], [(302, 0, 245, 6, 199), (317, 0, 204, 7, 15), (330, 0, 274, 7, 106), (97, 0, 260, 6, 236), (333, 0, 205, 7, 138)], [], [], []), (11, (7, 145), (1, 13), (7, 143), (7, 144)))
-- DoorSchoolModel.hours()I
noncomputable def mr_235 : MR := ((yX11_hours, cX11_hours, 1, 0, (some .int)), [(0, .aload_n 0, 1, 0), (1, .invokevirtual 93, 3, 0), (4, .ifCond .eq 17, 3, 21), (7, .aload_n 0, 1, 0), (8, .iconst 0, 1, 0), (9, .aload_n 0, 1, 0), (10, .getfield 9, 3, 0), (13, .iconst 1, 1, 0), (14, .iaload, 1, 0), (15, .invokevirtual 445, 3, 0), (18, .goto 5, 3, 23), (21, .bipush (-2), 2, 0), (23, .ireturn, 1, 0)], ([(9, 11, 1, 3, 5, 190)], [(93, 0, 255, 6, 224), (445, 0, 268, 8, 112)], [], [], []), (11, (8, 111), (1, 13), (8, 109), (8, 110)))
-- DoorSchoolModel.house(II)I
noncomputable def mr_236 : MR := ((yX11_house, cX11_house, 4, 2, (some .int)), [(0, .aload_n 0, 1, 0), (1, .invokevirtual 93, 3, 0), (4, .ifCond .eq 28, 3, 32), (7, .iload_n 1, 1, 0), (8, .iconst (-1), 1, 0), (9, .if_icmp .eq 11, 3, 20), (12, .aload_n 0, 1, 0), (13, .iload_n 1, 1, 0), (14, .invokevirtual 310, 3, 0), (17, .ifCond .eq 15, 3, 32), (20, .iload_n 2, 1, 0), (21, .i2l, 1, 0), (22, .lconst 0, 1, 0), (23, .ldc2_w 87, 3, 0), (26, .invokestatic 89, 3, 0), (29, .ifCond .ne 6, 3, 35), (32, .bipush (-2), 2, 0), (34, .ireturn, 1, 0), (35, .iload_n 1, 1, 0), (36, .iconst (-1), 1, 0), (37, .if_icmp .ne 8, 3, 45), (40, .bipush 8, 2, 0), (42, .goto 10, 3, 52), (45, .sipush 146, 3, 0), (48, .iconst 2, 1, 0), (49, .iload_n 1, 1, 0), (50, .imul, 1, 0), (51, .iadd, 1, 0), (52, .istore_n 3, 1, 0), (53, .iload_n 2, 1, 0), (54, .iconst 2, 1, 0), (55, .if_icmp .ge 14, 3, 69), (58, .aload_n 0, 1, 0), (59, .getfield 9, 3, 0), (62, .iload_n 3, 1, 0), (63, .iload_n 2, 1, 0), (64, .iadd, 1, 0), (65, .iaload, 1, 0), (66, .goto 24, 3, 90), (69, .aload_n 0, 1, 0), (70, .aload_n 0, 1, 0), (71, .getfield 9, 3, 0), (74, .iload_n 3, 1, 0), (75, .iaload, 1, 0), (76, .aload_n 0, 1, 0), (77, .getfield 9, 3, 0), (80, .iload_n 3, 1, 0), (81, .iconst 1, 1, 0), (82, .iadd, 1, 0), (83, .iaload, 1, 0), (84, .invokevirtual 259, 3, 0), (87, .invokestatic 256, 3, 0), (90, .ireturn, 1, 0)], ([(9, 11, 1, 3, 5, 190)], [(93, 0, 255, 6, 224), (310, 0, 249, 6, 228), (89, 2, 240, 6, 63), (259, 0, 203, 6, 232), (256, 2, 194, 7, 0)], [], [(87, 2, 6, 62)], []), (11, (6, 223), (1, 13), (6, 221), (6, 222)))
-- DoorSchoolModel.hung(I)I
noncomputable def mr_237 : MR := ((yX11_hung, cX11_hung, 2, 1, (some .int)), [(0, .aload_n 0, 1, 0), (1, .iload_n 1, 1, 0), (2, .invokevirtual 310, 3, 0), (5, .ifCond .ne 6, 3, 11), (8, .bipush (-2), 2, 0), (10, .ireturn, 1, 0), (11, .aload_n 0, 1, 0), (12, .invokevirtual 412, 3, 0), (15, .aload_n 0, 1, 0), (16, .getfield 406, 3, 0), (19, .iconst (-1), 1, 0), (20, .if_icmp .ne 7, 3, 27), (23, .iconst (-1), 1, 0), (24, .goto 9, 3, 33), (27, .aload_n 0, 1, 0), (28, .getfield 52, 3, 0), (31, .iload_n 1, 1, 0), (32, .iaload, 1, 0), (33, .ireturn, 1, 0)], ([(406, 11, 26, 0, 5, 215), (52, 11, 25, 3, 5, 214)], [(310, 0, 249, 6, 228), (412, 0, 229, 8, 63)], [], [], []), (11, (8, 74), (1, 13), (8, 72), (8, 73)))
-- DoorSchoolModel.idle(I)I
noncomputable def mr_238 : MR := ((yX11_idle, cX11_idle, 5, 1, (some .int)), [(0, .aload_n 0, 1, 0), (1, .iload_n 1, 1, 0), (2, .invokevirtual 302, 3, 0), (5, .ifCond .ne 6, 3, 11), (8, .bipush (-2), 2, 0), (10, .ireturn, 1, 0), (11, .aload_n 0, 1, 0), (12, .iload_n 1, 1, 0), (13, .invokevirtual 317, 3, 0), (16, .istore_n 2, 1, 0), (17, .iconst 0, 1, 0), (18, .istore_n 3, 1, 0), (19, .iconst 0, 1, 0), (20, .istore 4, 2, 0), (22, .iload 4, 2, 0), (24, .aload_n 0, 1, 0), (25, .iload_n 1, 1, 0), (26, .iconst 2, 1, 0), (27, .invokevirtual 265, 3, 0), (30, .if_icmp .ge 40, 3, 70), (33, .iload_n 3, 1, 0), (34, .aload_n 0, 1, 0), (35, .iload_n 1, 1, 0), (36, .invokevirtual 293, 3, 0), (39, .iload_n 1, 1, 0), (40, .if_icmp .ne 14, 3, 54), (43, .aload_n 0, 1, 0), (44, .iload_n 1, 1, 0), (45, .iload 4, 2, 0), (47, .invokevirtual 337, 3, 0), (50, .iload_n 2, 1, 0), (51, .if_icmp .ne 10, 3, 61), (54, .iconst 1, 1, 0), (55, .iload 4, 2, 0), (57, .ishl, 1, 0), (58, .goto 4, 3, 62), (61, .iconst 0, 1, 0), (62, .ior, 1, 0), (63, .istore_n 3, 1, 0), (64, .iinc 4 1, 3, 0), (67, .goto (-45), 3, 22), (70, .iload_n 3, 1, 0), (71, .ireturn, 1, 0)], ([], [(302, 0, 245, 6, 199), (317, 0, 204, 7, 15), (265, 0, 281, 6, 204), (293, 0, 296, 7, 23), (337, 0, 206, 7, 150)], [], [], []), (11, (7, 149), (1, 13), (7, 147), (7, 148)))
-- DoorSchoolModel.image(I)I
noncomputable def mr_239 : MR := ((yX11_image, cX11_image, 3, 1, (some .int)), [(0, .iload_n 1, 1, 0), (1, .i2l, 1, 0), (2, .lconst 0, 1, 0), (3, .ldc2_w 87, 3, 0), (6, .invokestatic 89, 3, 0), (9, .ifCond .ne 6, 3, 15), (12, .bipush (-2), 2, 0), (14, .ireturn, 1, 0), (15, .iconst 0, 1, 0), (16, .istore_n 2, 1, 0), (17, .iload_n 2, 1, 0), (18, .sipush 226, 3, 0), (21, .if_icmp .ge 27, 3, 48), (24, .aload_n 0, 1, 0), (25, .getfield 13, 3, 0), (28, .sipush 226, 3, 0), (31, .iload_n 1, 1, 0), (32, .imul, 1, 0), (33, .iload_n 2, 1, 0), (34, .iadd, 1, 0), (35, .aload_n 0, 1, 0), (36, .getfield 9, 3, 0), (39, .iload_n 2, 1, 0), (40, .iaload, 1, 0), (41, .iastore, 1, 0), (42, .iinc 2 1, 3, 0), (45, .goto (-28), 3, 17), (48, .aload_n 0, 1, 0), (49, .getfield 16, 3, 0), (52, .iload_n 1, 1, 0), (53, .iconst 1, 1, 0), (54, .bastore, 1, 0), (55, .iconst 0, 1, 0), (56, .ireturn, 1, 0)], ([(13, 11, 2, 3, 5, 191), (9, 11, 1, 3, 5, 190), (16, 11, 3, 3, 5, 192)], [(89, 2, 240, 6, 63)], [], [(87, 2, 6, 62)], []), (11, (6, 61), (1, 13), (6, 59), (6, 60)))
-- DoorSchoolModel.in(JJJ)Z
noncomputable def mr_240 : MR := ((yX11_in, cX11_in, 6, 3, (some .boolean)), [(0, .lload_n 0, 1, 0), (1, .lload_n 2, 1, 0), (2, .lcmp, 1, 0), (3, .ifCond .lt 14, 3, 17), (6, .lload_n 0, 1, 0), (7, .lload 4, 2, 0), (9, .lcmp, 1, 0), (10, .ifCond .gt 7, 3, 17), (13, .iconst 1, 1, 0), (14, .goto 4, 3, 18), (17, .iconst 0, 1, 0), (18, .ireturn, 1, 0)], ([], [], [], [], []), (11, (6, 65), (1, 13), (6, 64), (0, 0)))
-- DoorSchoolModel.<init>()V
noncomputable def mr_241 : MR := ((yX11_init, cX11_init, 1, 0, none), [(0, .aload_n 0, 1, 0), (1, .invokespecial 3, 3, 0), (4, .aload_n 0, 1, 0), (5, .sipush 226, 3, 0), (8, .newarray .int, 2, 0), (10, .putfield 9, 3, 0), (13, .aload_n 0, 1, 0), (14, .sipush 678, 3, 0), (17, .newarray .int, 2, 0), (19, .putfield 13, 3, 0), (22, .aload_n 0, 1, 0), (23, .iconst 3, 1, 0), (24, .newarray .boolean, 2, 0), (26, .putfield 16, 3, 0), (29, .aload_n 0, 1, 0), (30, .sipush 1600, 3, 0), (33, .newarray .byte, 2, 0), (35, .putfield 20, 3, 0), (38, .aload_n 0, 1, 0), (39, .iconst 5, 1, 0), (40, .newarray .int, 2, 0), (42, .putfield 24, 3, 0), (45, .aload_n 0, 1, 0), (46, .iconst (-1), 1, 0), (47, .putfield 27, 3, 0), (50, .aload_n 0, 1, 0), (51, .sipush 226, 3, 0), (54, .newarray .int, 2, 0), (56, .putfield 31, 3, 0), (59, .aload_n 0, 1, 0), (60, .bipush 81, 2, 0), (62, .newarray .int, 2, 0), (64, .putfield 34, 3, 0), (67, .aload_n 0, 1, 0), (68, .bipush 81, 2, 0), (70, .newarray .int, 2, 0), (72, .putfield 37, 3, 0), (75, .aload_n 0, 1, 0), (76, .bipush 81, 2, 0), (78, .newarray .int, 2, 0), (80, .putfield 40, 3, 0), (83, .aload_n 0, 1, 0), (84, .bipush 17, 2, 0), (86, .newarray .int, 2, 0), (88, .putfield 43, 3, 0), (91, .aload_n 0, 1, 0), (92, .bipush 17, 2, 0), (94, .newarray .int, 2, 0), (96, .putfield 46, 3, 0), (99, .aload_n 0, 1, 0), (100, .iconst 4, 1, 0), (101, .newarray .int, 2, 0), (103, .putfield 49, 3, 0), (106, .aload_n 0, 1, 0), (107, .iconst 4, 1, 0), (108, .newarray .int, 2, 0), (110, .putfield 52, 3, 0), (113, .aload_n 0, 1, 0), (114, .bipush 6, 2, 0), (116, .newarray .int, 2, 0), (118, .putfield 55, 3, 0), (121, .aload_n 0, 1, 0), (122, .bipush 120, 2, 0), (124, .newarray .int, 2, 0), (126, .putfield 58, 3, 0), (129, .aload_n 0, 1, 0), (130, .bipush 6, 2, 0), (132, .newarray .int, 2, 0), (134, .putfield 61, 3, 0), (137, .aload_n 0, 1, 0), (138, .bipush 6, 2, 0), (140, .newarray .int, 2, 0), (142, .putfield 64, 3, 0), (145, .aload_n 0, 1, 0), (146, .iconst 4, 1, 0), (147, .newarray .int, 2, 0), (149, .dup, 1, 0), (150, .iconst 0, 1, 0), (151, .iconst (-1), 1, 0), (152, .iastore, 1, 0), (153, .dup, 1, 0), (154, .iconst 1, 1, 0), (155, .iconst (-1), 1, 0), (156, .iastore, 1, 0), (157, .dup, 1, 0), (158, .iconst 2, 1, 0), (159, .iconst (-1), 1, 0), (160, .iastore, 1, 0), (161, .dup, 1, 0), (162, .iconst 3, 1, 0), (163, .iconst (-1), 1, 0), (164, .iastore, 1, 0), (165, .putfield 67, 3, 0), (168, .aload_n 0, 1, 0), (169, .iconst 4, 1, 0), (170, .newarray .int, 2, 0), (172, .putfield 70, 3, 0), (175, .aload_n 0, 1, 0), (176, .sipush 240, 3, 0), (179, .newarray .long, 2, 0), (181, .putfield 73, 3, 0), (184, .aload_n 0, 1, 0), (185, .bipush 60, 2, 0), (187, .newarray .long, 2, 0), (189, .putfield 77, 3, 0), (192, .return_, 1, 0)], ([(9, 11, 1, 2, 5, 190), (13, 11, 2, 2, 5, 191), (16, 11, 3, 2, 5, 192), (20, 11, 4, 2, 5, 193), (24, 11, 6, 2, 5, 195), (27, 11, 13, 0, 5, 202), (31, 11, 14, 2, 5, 203), (34, 11, 15, 2, 5, 204), (37, 11, 16, 2, 5, 205), (40, 11, 17, 2, 5, 206), (43, 11, 19, 2, 5, 208), (46, 11, 20, 2, 5, 209), (49, 11, 24, 2, 5, 213), (52, 11, 25, 2, 5, 214), (55, 11, 27, 2, 5, 216), (58, 11, 28, 2, 5, 217), (61, 11, 29, 2, 5, 218), (64, 11, 30, 2, 5, 219), (67, 11, 32, 2, 5, 221), (70, 11, 33, 2, 5, 222), (73, 11, 34, 2, 5, 223), (77, 11, 35, 2, 5, 224)], [(3, 9, 0, 5, 189)], [], [], []), (11, (5, 188), (1, 13), (5, 187), (0, 0)))
-- DoorSchoolModel.is(Ljava/lang/String;)Z
noncomputable def mr_242 : MR := ((yX11_is, cX11_is, 4, 1, (some .boolean)), [(0, .aload_n 0, 1, 0), (1, .invokevirtual 144, 3, 0), (4, .ifCond .eq 31, 3, 35), (7, .aload_n 0, 1, 0), (8, .getfield 120, 3, 0), (11, .iconst 1, 1, 0), (12, .if_icmp .ne 23, 3, 35), (15, .aload_n 0, 1, 0), (16, .getfield 110, 3, 0), (19, .aload_n 0, 1, 0), (20, .getfield 117, 3, 0), (23, .isub, 1, 0), (24, .aload_n 1, 1, 0), (25, .invokevirtual 147, 3, 0), (28, .if_icmp .ne 7, 3, 35), (31, .iconst 1, 1, 0), (32, .goto 4, 3, 36), (35, .iconst 0, 1, 0), (36, .istore_n 2, 1, 0), (37, .iconst 0, 1, 0), (38, .istore_n 3, 1, 0), (39, .iload_n 3, 1, 0), (40, .aload_n 1, 1, 0), (41, .invokevirtual 147, 3, 0), (44, .if_icmp .ge 38, 3, 82), (47, .iload_n 2, 1, 0), (48, .ifCond .eq 34, 3, 82), (51, .aload_n 0, 1, 0), (52, .getfield 20, 3, 0), (55, .aload_n 0, 1, 0), (56, .getfield 117, 3, 0), (59, .iload_n 3, 1, 0), (60, .iadd, 1, 0), (61, .baload, 1, 0), (62, .aload_n 1, 1, 0), (63, .iload_n 3, 1, 0), (64, .invokevirtual 152, 3, 0), (67, .if_icmp .ne 7, 3, 74), (70, .iconst 1, 1, 0), (71, .goto 4, 3, 75), (74, .iconst 0, 1, 0), (75, .istore_n 2, 1, 0), (76, .iinc 3 1, 3, 0), (79, .goto (-40), 3, 39), (82, .iload_n 2, 1, 0), (83, .ireturn, 1, 0)], ([(120, 11, 10, 0, 5, 199), (110, 11, 8, 0, 5, 197), (117, 11, 9, 0, 5, 198), (20, 11, 4, 3, 5, 193)], [(144, 0, 228, 6, 100)], [], [], []), (11, (6, 120), (1, 13), (6, 119), (0, 97)))
-- DoorSchoolModel.isAsTold(I)Z
noncomputable def mr_243 : MR := ((yX11_isAsTold, cX11_isAsTold, 3, 1, (some .boolean)), [(0, .iconst 0, 1, 0), (1, .istore_n 2, 1, 0), (2, .iload_n 2, 1, 0), (3, .aload_n 0, 1, 0), (4, .getfield 262, 3, 0), (7, .if_icmp .ge 30, 3, 37), (10, .iload_n 1, 1, 0), (11, .aload_n 0, 1, 0), (12, .getfield 43, 3, 0), (15, .iload_n 2, 1, 0), (16, .iaload, 1, 0), (17, .invokestatic 272, 3, 0), (20, .aload_n 0, 1, 0), (21, .getfield 46, 3, 0), (24, .iload_n 2, 1, 0), (25, .iaload, 1, 0), (26, .if_icmp .eq 5, 3, 31), (29, .iconst 0, 1, 0), (30, .ireturn, 1, 0), (31, .iinc 2 1, 3, 0), (34, .goto (-32), 3, 2), (37, .iconst 1, 1, 0), (38, .ireturn, 1, 0)], ([(262, 11, 21, 0, 5, 210), (43, 11, 19, 3, 5, 208), (46, 11, 20, 3, 5, 209)], [(272, 2, 193, 7, 47)], [], [], []), (11, (7, 46), (1, 13), (7, 45), (0, 126)))
-- DoorSchoolModel.isCopied(I)Z
noncomputable def mr_244 : MR := ((yX11_isCopied, cX11_isCopied, 3, 1, (some .boolean)), [(0, .iconst 0, 1, 0), (1, .istore_n 2, 1, 0), (2, .iload_n 2, 1, 0), (3, .aload_n 0, 1, 0), (4, .getfield 9, 3, 0), (7, .iconst 2, 1, 0), (8, .iaload, 1, 0), (9, .if_icmp .ge 21, 3, 30), (12, .aload_n 0, 1, 0), (13, .iload_n 2, 1, 0), (14, .iconst 3, 1, 0), (15, .invokevirtual 265, 3, 0), (18, .iload_n 1, 1, 0), (19, .if_icmp .ne 5, 3, 24), (22, .iconst 1, 1, 0), (23, .ireturn, 1, 0), (24, .iinc 2 1, 3, 0), (27, .goto (-25), 3, 2), (30, .iconst 0, 1, 0), (31, .ireturn, 1, 0)], ([(9, 11, 1, 3, 5, 190)], [(265, 0, 281, 6, 204)], [], [], []), (11, (8, 58), (1, 13), (8, 57), (0, 151)))
-- DoorSchoolModel.isDoor(I)Z
noncomputable def mr_245 : MR := ((yX11_isDoor, cX11_isDoor, 2, 1, (some .boolean)), [(0, .iload_n 1, 1, 0), (1, .i2l, 1, 0), (2, .lconst 0, 1, 0), (3, .aload_n 0, 1, 0), (4, .getfield 9, 3, 0), (7, .iconst 2, 1, 0), (8, .iaload, 1, 0), (9, .iconst 1, 1, 0), (10, .isub, 1, 0), (11, .i2l, 1, 0), (12, .invokestatic 89, 3, 0), (15, .ireturn, 1, 0)], ([(9, 11, 1, 3, 5, 190)], [(89, 2, 240, 6, 63)], [], [], []), (11, (6, 202), (1, 13), (6, 201), (0, 111)))
-- DoorSchoolModel.isExam(I)Z
noncomputable def mr_246 : MR := ((yX11_isExam, cX11_isExam, 2, 1, (some .boolean)), [(0, .iload_n 1, 1, 0), (1, .i2l, 1, 0), (2, .lconst 0, 1, 0), (3, .aload_n 0, 1, 0), (4, .getfield 9, 3, 0), (7, .iconst 3, 1, 0), (8, .iaload, 1, 0), (9, .iconst 1, 1, 0), (10, .isub, 1, 0), (11, .i2l, 1, 0), (12, .invokestatic 89, 3, 0), (15, .ireturn, 1, 0)], ([(9, 11, 1, 3, 5, 190)], [(89, 2, 240, 6, 63)], [], [], []), (11, (6, 219), (1, 13), (6, 218), (0, 113)))
-- DoorSchoolModel.isFree(III)Z
noncomputable def mr_247 : MR := ((yX11_isFree, cX11_isFree, 5, 3, (some .boolean)), [(0, .iload_n 1, 1, 0), (1, .istore 4, 2, 0), (3, .iload 4, 2, 0), (5, .iload_n 1, 1, 0), (6, .aload_n 0, 1, 0), (7, .iload_n 2, 1, 0), (8, .invokevirtual 427, 3, 0), (11, .iadd, 1, 0), (12, .if_icmp .ge 22, 3, 34), (15, .aload_n 0, 1, 0), (16, .getfield 58, 3, 0), (19, .iload 4, 2, 0), (21, .iaload, 1, 0), (22, .iload_n 3, 1, 0), (23, .if_icmp .lt 5, 3, 28), (26, .iconst 0, 1, 0), (27, .ireturn, 1, 0), (28, .iinc 4 1, 3, 0), (31, .goto (-28), 3, 3), (34, .iconst 1, 1, 0), (35, .ireturn, 1, 0)], ([(58, 11, 28, 3, 5, 217)], [(427, 0, 310, 8, 124)], [], [], []), (11, (8, 139), (1, 13), (8, 138), (0, 163)))
-- DoorSchoolModel.isFreshCopied(I)Z
noncomputable def mr_248 : MR := ((yX11_isFreshCopied, cX11_isFreshCopied, 3, 1, (some .boolean)), [(0, .iconst 0, 1, 0), (1, .istore_n 2, 1, 0), (2, .iload_n 2, 1, 0), (3, .aload_n 0, 1, 0), (4, .getfield 31, 3, 0), (7, .iconst 2, 1, 0), (8, .iaload, 1, 0), (9, .if_icmp .ge 28, 3, 37), (12, .aload_n 0, 1, 0), (13, .getfield 31, 3, 0), (16, .bipush 10, 2, 0), (18, .iconst 4, 1, 0), (19, .iload_n 2, 1, 0), (20, .imul, 1, 0), (21, .iadd, 1, 0), (22, .iconst 3, 1, 0), (23, .iadd, 1, 0), (24, .iaload, 1, 0), (25, .iload_n 1, 1, 0), (26, .if_icmp .ne 5, 3, 31), (29, .iconst 1, 1, 0), (30, .ireturn, 1, 0), (31, .iinc 2 1, 3, 0), (34, .goto (-32), 3, 2), (37, .iconst 0, 1, 0), (38, .ireturn, 1, 0)], ([(31, 11, 14, 3, 5, 203)], [], [], [], []), (11, (6, 189), (1, 13), (6, 188), (0, 109)))
-- DoorSchoolModel.isHouse(I)Z
noncomputable def mr_249 : MR := ((yX11_isHouse, cX11_isHouse, 2, 1, (some .boolean)), [(0, .iload_n 1, 1, 0), (1, .i2l, 1, 0), (2, .lconst 0, 1, 0), (3, .aload_n 0, 1, 0), (4, .getfield 9, 3, 0), (7, .iconst 4, 1, 0), (8, .iaload, 1, 0), (9, .iconst 1, 1, 0), (10, .isub, 1, 0), (11, .i2l, 1, 0), (12, .invokestatic 89, 3, 0), (15, .ireturn, 1, 0)], ([(9, 11, 1, 3, 5, 190)], [(89, 2, 240, 6, 63)], [], [], []), (11, (6, 231), (1, 13), (6, 230), (0, 115)))
-- DoorSchoolModel.isKnock(J)Z
noncomputable def mr_250 : MR := ((yX11_isKnock, cX11_isKnock, 3, 1, (some .boolean)), [(0, .lload_n 1, 1, 0), (1, .lconst 0, 1, 0), (2, .aload_n 0, 1, 0), (3, .invokevirtual 97, 3, 0), (6, .iconst 1, 1, 0), (7, .isub, 1, 0), (8, .i2l, 1, 0), (9, .invokestatic 89, 3, 0), (12, .ireturn, 1, 0)], ([], [(97, 0, 260, 6, 236), (89, 2, 240, 6, 63)], [], [], []), (11, (7, 14), (1, 13), (7, 13), (0, 118)))
-- DoorSchoolModel.isNextIn(I)Z
noncomputable def mr_251 : MR := ((yX11_isNextIn, cX11_isNextIn, 2, 1, (some .boolean)), [(0, .aload_n 0, 1, 0), (1, .invokevirtual 144, 3, 0), (4, .ifCond .eq 23, 3, 27), (7, .aload_n 0, 1, 0), (8, .getfield 120, 3, 0), (11, .iconst 2, 1, 0), (12, .if_icmp .ne 15, 3, 27), (15, .aload_n 0, 1, 0), (16, .getfield 131, 3, 0), (19, .iload_n 1, 1, 0), (20, .if_icmp .ge 7, 3, 27), (23, .iconst 1, 1, 0), (24, .goto 4, 3, 28), (27, .iconst 0, 1, 0), (28, .ireturn, 1, 0)], ([(120, 11, 10, 0, 5, 199), (131, 11, 11, 0, 5, 200)], [(144, 0, 228, 6, 100)], [], [], []), (11, (6, 164), (1, 13), (6, 163), (0, 104)))
-- DoorSchoolModel.isRest(III)Z
noncomputable def mr_252 : MR := ((yX11_isRest, cX11_isRest, 6, 3, (some .boolean)), [(0, .aload_n 0, 1, 0), (1, .iload_n 1, 1, 0), (2, .iload_n 2, 1, 0), (3, .invokevirtual 374, 3, 0), (6, .iload_n 3, 1, 0), (7, .invokestatic 272, 3, 0), (10, .istore 4, 2, 0), (12, .iconst 0, 1, 0), (13, .istore 5, 2, 0), (15, .iload 5, 2, 0), (17, .aload_n 0, 1, 0), (18, .invokevirtual 97, 3, 0), (21, .if_icmp .ge 36, 3, 57), (24, .aload_n 0, 1, 0), (25, .iload 5, 2, 0), (27, .invokevirtual 371, 3, 0), (30, .ifCond .eq 21, 3, 51), (33, .aload_n 0, 1, 0), (34, .iload_n 1, 1, 0), (35, .iload_n 2, 1, 0), (36, .invokevirtual 374, 3, 0), (39, .iload 5, 2, 0), (41, .invokestatic 272, 3, 0), (44, .iload 4, 2, 0), (46, .if_icmp .le 5, 3, 51), (49, .iconst 0, 1, 0), (50, .ireturn, 1, 0), (51, .iinc 5 1, 3, 0), (54, .goto (-39), 3, 15), (57, .iconst 0, 1, 0), (58, .istore 5, 2, 0), (60, .iload 5, 2, 0), (62, .iconst 3, 1, 0), (63, .if_icmp .ge 27, 3, 90), (66, .aload_n 0, 1, 0), (67, .iload_n 1, 1, 0), (68, .iload 5, 2, 0), (70, .invokevirtual 374, 3, 0), (73, .iload_n 3, 1, 0), (74, .invokestatic 272, 3, 0), (77, .iload 4, 2, 0), (79, .if_icmp .ge 5, 3, 84), (82, .iconst 0, 1, 0), (83, .ireturn, 1, 0), (84, .iinc 5 1, 3, 0), (87, .goto (-27), 3, 60), (90, .iconst 1, 1, 0), (91, .ireturn, 1, 0)], ([], [(374, 0, 202, 7, 232), (272, 2, 193, 7, 47), (97, 0, 260, 6, 236), (371, 0, 258, 7, 228)], [], [], []), (11, (8, 3), (1, 13), (8, 2), (0, 146)))
-- DoorSchoolModel.isRight(II)Z
noncomputable def mr_253 : MR := ((yX11_isRight, cX11_isRight, 3, 2, (some .boolean)), [(0, .iload_n 1, 1, 0), (1, .aload_n 0, 1, 0), (2, .getfield 9, 3, 0), (5, .bipush 122, 2, 0), (7, .iconst 2, 1, 0), (8, .iload_n 2, 1, 0), (9, .imul, 1, 0), (10, .iadd, 1, 0), (11, .iaload, 1, 0), (12, .invokestatic 272, 3, 0), (15, .aload_n 0, 1, 0), (16, .getfield 9, 3, 0), (19, .bipush 122, 2, 0), (21, .iconst 2, 1, 0), (22, .iload_n 2, 1, 0), (23, .imul, 1, 0), (24, .iadd, 1, 0), (25, .iconst 1, 1, 0), (26, .iadd, 1, 0), (27, .iaload, 1, 0), (28, .if_icmp .ne 7, 3, 35), (31, .iconst 1, 1, 0), (32, .goto 4, 3, 36), (35, .iconst 0, 1, 0), (36, .ireturn, 1, 0)], ([(9, 11, 1, 3, 5, 190)], [(272, 2, 193, 7, 47)], [], [], []), (11, (7, 113), (1, 13), (7, 112), (0, 134)))
-- DoorSchoolModel.isRule(II)Z
noncomputable def mr_254 : MR := ((yX11_isRule, cX11_isRule, 3, 2, (some .boolean)), [(0, .aload_n 0, 1, 0), (1, .iload_n 1, 1, 0), (2, .i2l, 1, 0), (3, .invokevirtual 313, 3, 0), (6, .ifCond .eq 24, 3, 30), (9, .aload_n 0, 1, 0), (10, .iload_n 2, 1, 0), (11, .i2l, 1, 0), (12, .invokevirtual 313, 3, 0), (15, .ifCond .eq 15, 3, 30), (18, .iload_n 2, 1, 0), (19, .iload_n 1, 1, 0), (20, .iconst (-1), 1, 0), (21, .ixor, 1, 0), (22, .iand, 1, 0), (23, .ifCond .ne 7, 3, 30), (26, .iconst 1, 1, 0), (27, .goto 4, 3, 31), (30, .iconst 0, 1, 0), (31, .ireturn, 1, 0)], ([], [(313, 0, 250, 7, 11)], [], [], []), (11, (7, 89), (1, 13), (7, 88), (0, 130)))
-- DoorSchoolModel.isSchool()Z
noncomputable def mr_255 : MR := ((yX11_isSchool, cX11_isSchool, 1, 0, (some .boolean)), [(0, .aload_n 0, 1, 0), (1, .getfield 9, 3, 0), (4, .bipush 7, 2, 0), (6, .iaload, 1, 0), (7, .ifCond .le 7, 3, 14), (10, .iconst 1, 1, 0), (11, .goto 4, 3, 15), (14, .iconst 0, 1, 0), (15, .ireturn, 1, 0)], ([(9, 11, 1, 3, 5, 190)], [], [], [], []), (11, (6, 227), (1, 13), (6, 226), (0, 114)))
-- DoorSchoolModel.isSeed(I)Z
noncomputable def mr_256 : MR := ((yX11_isSeed, cX11_isSeed, 1, 1, (some .boolean)), [(0, .iload_n 0, 1, 0), (1, .i2l, 1, 0), (2, .lconst 0, 1, 0), (3, .ldc2_w 466, 3, 0), (6, .invokestatic 89, 3, 0), (9, .ireturn, 1, 0)], ([], [(89, 2, 240, 6, 63)], [], [(466, 2000000000, 8, 168)], []), (11, (8, 167), (1, 13), (8, 166), (0, 0)))
-- DoorSchoolModel.isSlot(I)Z
noncomputable def mr_257 : MR := ((yX11_isSlot, cX11_isSlot, 1, 1, (some .boolean)), [(0, .iload_n 0, 1, 0), (1, .i2l, 1, 0), (2, .lconst 0, 1, 0), (3, .ldc2_w 305, 3, 0), (6, .invokestatic 89, 3, 0), (9, .ireturn, 1, 0)], ([], [(89, 2, 240, 6, 63)], [], [(305, 3, 6, 203)], []), (11, (8, 38), (1, 13), (8, 37), (0, 0)))
-- DoorSchoolModel.isStrange(I)Z
noncomputable def mr_258 : MR := ((yX11_isStrange, cX11_isStrange, 2, 1, (some .boolean)), [(0, .aload_n 0, 1, 0), (1, .iload_n 1, 1, 0), (2, .i2l, 1, 0), (3, .invokevirtual 313, 3, 0), (6, .ifCond .eq 18, 3, 24), (9, .aload_n 0, 1, 0), (10, .invokevirtual 356, 3, 0), (13, .iload_n 1, 1, 0), (14, .invokestatic 272, 3, 0), (17, .ifCond .ne 7, 3, 24), (20, .iconst 1, 1, 0), (21, .goto 4, 3, 25), (24, .iconst 0, 1, 0), (25, .ireturn, 1, 0)], ([], [(313, 0, 250, 7, 11), (356, 0, 286, 7, 191), (272, 2, 193, 7, 47)], [], [], []), (11, (7, 231), (1, 13), (7, 230), (0, 144)))
-- DoorSchoolModel.isWay(I)Z
noncomputable def mr_259 : MR := ((yX11_isWay, cX11_isWay, 1, 1, (some .boolean)), [(0, .iload_n 0, 1, 0), (1, .i2l, 1, 0), (2, .lconst 0, 1, 0), (3, .ldc2_w 87, 3, 0), (6, .invokestatic 89, 3, 0), (9, .ireturn, 1, 0)], ([], [(89, 2, 240, 6, 63)], [], [(87, 2, 6, 62)], []), (11, (7, 160), (1, 13), (7, 159), (0, 0)))
-- DoorSchoolModel.knocks()I
noncomputable def mr_260 : MR := ((yX11_knocks, cX11_knocks, 1, 0, (some .int)), [(0, .aload_n 0, 1, 0), (1, .invokevirtual 93, 3, 0), (4, .ifCond .eq 14, 3, 18), (7, .iconst 1, 1, 0), (8, .aload_n 0, 1, 0), (9, .getfield 9, 3, 0), (12, .iconst 0, 1, 0), (13, .iaload, 1, 0), (14, .ishl, 1, 0), (15, .goto 4, 3, 19), (18, .iconst 0, 1, 0), (19, .ireturn, 1, 0)], ([(9, 11, 1, 3, 5, 190)], [(93, 0, 255, 6, 224)], [], [], []), (11, (6, 239), (1, 13), (6, 238), (0, 117)))
-- DoorSchoolModel.latestOf(I)I
noncomputable def mr_261 : MR := ((yX11_latestOf, cX11_latestOf, 3, 1, (some .int)), [(0, .aload_n 0, 1, 0), (1, .getfield 262, 3, 0), (4, .iconst 1, 1, 0), (5, .isub, 1, 0), (6, .istore_n 2, 1, 0), (7, .iload_n 2, 1, 0), (8, .ifCond .lt 21, 3, 29), (11, .aload_n 0, 1, 0), (12, .getfield 43, 3, 0), (15, .iload_n 2, 1, 0), (16, .iaload, 1, 0), (17, .iload_n 1, 1, 0), (18, .if_icmp .ne 5, 3, 23), (21, .iload_n 2, 1, 0), (22, .ireturn, 1, 0), (23, .iinc 2 (-1), 3, 0), (26, .goto (-19), 3, 7), (29, .iconst (-1), 1, 0), (30, .ireturn, 1, 0)], ([(262, 11, 21, 0, 5, 210), (43, 11, 19, 3, 5, 208)], [], [], [], []), (11, (7, 57), (1, 13), (7, 56), (0, 128)))
-- DoorSchoolModel.layLessons(I)V
noncomputable def mr_262 : MR := ((yX11_layLessons, cX11_layLessons, 3, 1, none), [(0, .aload_n 0, 1, 0), (1, .iconst 0, 1, 0), (2, .putfield 262, 3, 0), (5, .iconst 0, 1, 0), (6, .istore_n 2, 1, 0), (7, .iload_n 2, 1, 0), (8, .aload_n 0, 1, 0), (9, .iload_n 1, 1, 0), (10, .iconst 2, 1, 0), (11, .invokevirtual 265, 3, 0), (14, .if_icmp .ge 35, 3, 49), (17, .aload_n 0, 1, 0), (18, .aload_n 0, 1, 0), (19, .getfield 9, 3, 0), (22, .iload_n 1, 1, 0), (23, .iload_n 2, 1, 0), (24, .invokestatic 203, 3, 0), (27, .iaload, 1, 0), (28, .aload_n 0, 1, 0), (29, .getfield 9, 3, 0), (32, .iload_n 1, 1, 0), (33, .iload_n 2, 1, 0), (34, .invokestatic 203, 3, 0), (37, .iconst 1, 1, 0), (38, .iadd, 1, 0), (39, .iaload, 1, 0), (40, .invokevirtual 268, 3, 0), (43, .iinc 2 1, 3, 0), (46, .goto (-39), 3, 7), (49, .return_, 1, 0)], ([(262, 11, 21, 0, 5, 210), (9, 11, 1, 3, 5, 190)], [(265, 0, 281, 6, 204), (203, 2, 272, 6, 175), (268, 0, 179, 7, 31)], [], [], []), (11, (7, 30), (1, 13), (7, 29), (0, 122)))
-- DoorSchoolModel.layRules()V
noncomputable def mr_263 : MR := ((yX11_layRules, cX11_layRules, 4, 0, none), [(0, .aload_n 0, 1, 0), (1, .iconst 0, 1, 0), (2, .putfield 253, 3, 0), (5, .iconst 0, 1, 0), (6, .istore_n 1, 1, 0), (7, .iload_n 1, 1, 0), (8, .aload_n 0, 1, 0), (9, .getfield 9, 3, 0), (12, .iconst 0, 1, 0), (13, .iaload, 1, 0), (14, .if_icmp .gt 105, 3, 119), (17, .iconst 0, 1, 0), (18, .istore_n 2, 1, 0), (19, .iload_n 2, 1, 0), (20, .aload_n 0, 1, 0), (21, .invokevirtual 97, 3, 0), (24, .if_icmp .ge 89, 3, 113), (27, .iload_n 2, 1, 0), (28, .invokestatic 256, 3, 0), (31, .iload_n 1, 1, 0), (32, .if_icmp .eq 6, 3, 38), (35, .goto 72, 3, 107), (38, .iconst 0, 1, 0), (39, .istore_n 3, 1, 0), (40, .iload_n 3, 1, 0), (41, .iload_n 2, 1, 0), (42, .if_icmp .gt 65, 3, 107), (45, .iload_n 3, 1, 0), (46, .iload_n 2, 1, 0), (47, .iconst (-1), 1, 0), (48, .ixor, 1, 0), (49, .iand, 1, 0), (50, .ifCond .eq 6, 3, 56), (53, .goto 48, 3, 101), (56, .aload_n 0, 1, 0), (57, .getfield 34, 3, 0), (60, .aload_n 0, 1, 0), (61, .getfield 253, 3, 0), (64, .iload_n 2, 1, 0), (65, .iastore, 1, 0), (66, .aload_n 0, 1, 0), (67, .getfield 37, 3, 0), (70, .aload_n 0, 1, 0), (71, .getfield 253, 3, 0), (74, .iload_n 3, 1, 0), (75, .iastore, 1, 0), (76, .aload_n 0, 1, 0), (77, .getfield 40, 3, 0), (80, .aload_n 0, 1, 0), (81, .getfield 253, 3, 0), (84, .aload_n 0, 1, 0), (85, .iload_n 2, 1, 0), (86, .iload_n 3, 1, 0), (87, .invokevirtual 259, 3, 0), (90, .iastore, 1, 0), (91, .aload_n 0, 1, 0), (92, .dup, 1, 0), (93, .getfield 253, 3, 0), (96, .iconst 1, 1, 0), (97, .iadd, 1, 0), (98, .putfield 253, 3, 0), (101, .iinc 3 1, 3, 0), (104, .goto (-64), 3, 40), (107, .iinc 2 1, 3, 0), (110, .goto (-91), 3, 19), (113, .iinc 1 1, 3, 0), (116, .goto (-109), 3, 7), (119, .return_, 1, 0)], ([(253, 11, 18, 0, 5, 207), (9, 11, 1, 3, 5, 190), (34, 11, 15, 3, 5, 204), (37, 11, 16, 3, 5, 205), (40, 11, 17, 3, 5, 206)], [(97, 0, 260, 6, 236), (256, 2, 194, 7, 0), (259, 0, 203, 6, 232)], [], [], []), (11, (7, 22), (1, 13), (7, 21), (0, 120)))
-- DoorSchoolModel.laySet(II)V
noncomputable def mr_264 : MR := ((yX11_laySet, cX11_laySet, 4, 2, none), [(0, .aload_n 0, 1, 0), (1, .iconst 0, 1, 0), (2, .putfield 262, 3, 0), (5, .iconst 0, 1, 0), (6, .istore_n 3, 1, 0), (7, .iload_n 3, 1, 0), (8, .aload_n 0, 1, 0), (9, .invokevirtual 97, 3, 0), (12, .if_icmp .ge 28, 3, 40), (15, .iload_n 1, 1, 0), (16, .iload_n 3, 1, 0), (17, .invokestatic 272, 3, 0), (20, .iconst 1, 1, 0), (21, .if_icmp .ne 13, 3, 34), (24, .aload_n 0, 1, 0), (25, .iload_n 3, 1, 0), (26, .iload_n 2, 1, 0), (27, .iload_n 3, 1, 0), (28, .invokestatic 272, 3, 0), (31, .invokevirtual 268, 3, 0), (34, .iinc 3 1, 3, 0), (37, .goto (-30), 3, 7), (40, .return_, 1, 0)], ([(262, 11, 21, 0, 5, 210)], [(97, 0, 260, 6, 236), (272, 2, 193, 7, 47), (268, 0, 179, 7, 31)], [], [], []), (11, (7, 172), (1, 13), (7, 171), (0, 139)))
-- DoorSchoolModel.learns(I)I
noncomputable def mr_265 : MR := ((yX11_learns, cX11_learns, 5, 1, (some .int)), [(0, .iload_n 1, 1, 0), (1, .iconst 1, 1, 0), (2, .if_icmp .ne 24, 3, 26), (5, .aload_n 0, 1, 0), (6, .invokevirtual 284, 3, 0), (9, .istore_n 2, 1, 0), (10, .iload_n 2, 1, 0), (11, .iconst (-1), 1, 0), (12, .if_icmp .ne 7, 3, 19), (15, .iconst 0, 1, 0), (16, .goto 9, 3, 25), (19, .aload_n 0, 1, 0), (20, .getfield 40, 3, 0), (23, .iload_n 2, 1, 0), (24, .iaload, 1, 0), (25, .ireturn, 1, 0), (26, .iconst 0, 1, 0), (27, .istore_n 2, 1, 0), (28, .iconst 0, 1, 0), (29, .istore_n 3, 1, 0), (30, .iload_n 3, 1, 0), (31, .aload_n 0, 1, 0), (32, .invokevirtual 97, 3, 0), (35, .if_icmp .ge 44, 3, 79), (38, .aload_n 0, 1, 0), (39, .iload_n 1, 1, 0), (40, .iload_n 3, 1, 0), (41, .invokevirtual 287, 3, 0), (44, .istore 4, 2, 0), (46, .iload_n 2, 1, 0), (47, .iload 4, 2, 0), (49, .iconst (-1), 1, 0), (50, .if_icmp .eq 20, 3, 70), (53, .aload_n 0, 1, 0), (54, .getfield 46, 3, 0), (57, .iload 4, 2, 0), (59, .iaload, 1, 0), (60, .iconst 1, 1, 0), (61, .if_icmp .ne 9, 3, 70), (64, .iconst 1, 1, 0), (65, .iload_n 3, 1, 0), (66, .ishl, 1, 0), (67, .goto 4, 3, 71), (70, .iconst 0, 1, 0), (71, .ior, 1, 0), (72, .istore_n 2, 1, 0), (73, .iinc 3 1, 3, 0), (76, .goto (-46), 3, 30), (79, .iload_n 2, 1, 0), (80, .ireturn, 1, 0)], ([(40, 11, 17, 3, 5, 206), (46, 11, 20, 3, 5, 209)], [(284, 0, 220, 7, 39), (97, 0, 260, 6, 236), (287, 0, 195, 7, 50)], [], [], []), (11, (7, 38), (1, 13), (7, 37), (0, 124)))
-- DoorSchoolModel.learnsBy(III)Z
noncomputable def mr_266 : MR := ((yX11_learnsBy, cX11_learnsBy, 5, 3, (some .boolean)), [(0, .iload_n 1, 1, 0), (1, .ifCond .ne 17, 3, 18), (4, .iload_n 3, 1, 0), (5, .iload_n 2, 1, 0), (6, .iconst (-1), 1, 0), (7, .ixor, 1, 0), (8, .iand, 1, 0), (9, .ifCond .ne 7, 3, 16), (12, .iconst 1, 1, 0), (13, .goto 4, 3, 17), (16, .iconst 0, 1, 0), (17, .ireturn, 1, 0), (18, .iload_n 1, 1, 0), (19, .iconst 1, 1, 0), (20, .if_icmp .ne 62, 3, 82), (23, .iconst 0, 1, 0), (24, .istore 4, 2, 0), (26, .iload 4, 2, 0), (28, .aload_n 0, 1, 0), (29, .getfield 253, 3, 0), (32, .if_icmp .ge 40, 3, 72), (35, .aload_n 0, 1, 0), (36, .getfield 40, 3, 0), (39, .iload 4, 2, 0), (41, .iaload, 1, 0), (42, .iload_n 3, 1, 0), (43, .ixor, 1, 0), (44, .iload_n 2, 1, 0), (45, .iand, 1, 0), (46, .ifCond .ne 20, 3, 66), (49, .aload_n 0, 1, 0), (50, .getfield 40, 3, 0), (53, .iload 4, 2, 0), (55, .iaload, 1, 0), (56, .iload_n 3, 1, 0), (57, .if_icmp .ne 7, 3, 64), (60, .iconst 1, 1, 0), (61, .goto 4, 3, 65), (64, .iconst 0, 1, 0), (65, .ireturn, 1, 0), (66, .iinc 4 1, 3, 0), (69, .goto (-43), 3, 26), (72, .iload_n 3, 1, 0), (73, .ifCond .ne 7, 3, 80), (76, .iconst 1, 1, 0), (77, .goto 4, 3, 81), (80, .iconst 0, 1, 0), (81, .ireturn, 1, 0), (82, .aload_n 0, 1, 0), (83, .iload_n 2, 1, 0), (84, .iload_n 3, 1, 0), (85, .invokevirtual 340, 3, 0), (88, .aload_n 0, 1, 0), (89, .iconst 2, 1, 0), (90, .invokevirtual 299, 3, 0), (93, .iload_n 3, 1, 0), (94, .if_icmp .ne 7, 3, 101), (97, .iconst 1, 1, 0), (98, .goto 4, 3, 102), (101, .iconst 0, 1, 0), (102, .ireturn, 1, 0)], ([(253, 11, 18, 0, 5, 207), (40, 11, 17, 3, 5, 206)], [(340, 0, 264, 7, 169), (299, 0, 265, 7, 35)], [], [], []), (11, (7, 168), (1, 13), (7, 167), (0, 138)))
-- DoorSchoolModel.learnt(II)I
noncomputable def mr_267 : MR := ((yX11_learnt, cX11_learnt, 3, 2, (some .int)), [(0, .iload_n 1, 1, 0), (1, .invokestatic 347, 3, 0), (4, .ifCond .eq 11, 3, 15), (7, .aload_n 0, 1, 0), (8, .iload_n 2, 1, 0), (9, .invokevirtual 324, 3, 0), (12, .ifCond .ne 6, 3, 18), (15, .bipush (-2), 2, 0), (17, .ireturn, 1, 0), (18, .aload_n 0, 1, 0), (19, .iload_n 1, 1, 0), (20, .iload_n 2, 1, 0), (21, .invokevirtual 386, 3, 0), (24, .aload_n 0, 1, 0), (25, .getfield 383, 3, 0), (28, .ireturn, 1, 0)], ([(383, 11, 23, 0, 5, 212)], [(347, 2, 259, 7, 158), (324, 0, 186, 7, 94), (386, 0, 312, 8, 16)], [], [], []), (11, (8, 23), (1, 13), (8, 21), (8, 22)))
-- DoorSchoolModel.leastHours(II)I
noncomputable def mr_268 : MR := ((yX11_leastHours, cX11_leastHours, 6, 2, (some .int)), [(0, .iconst 1, 1, 0), (1, .istore_n 3, 1, 0), (2, .iconst 2, 1, 0), (3, .istore 4, 2, 0), (5, .iload 4, 2, 0), (7, .aload_n 0, 1, 0), (8, .getfield 9, 3, 0), (11, .iconst 5, 1, 0), (12, .iaload, 1, 0), (13, .iload_n 1, 1, 0), (14, .isub, 1, 0), (15, .if_icmp .gt 14, 3, 29), (18, .iload_n 3, 1, 0), (19, .iload 4, 2, 0), (21, .imul, 1, 0), (22, .istore_n 3, 1, 0), (23, .iinc 4 1, 3, 0), (26, .goto (-21), 3, 5), (29, .ldc_w 355, 3, 0), (32, .istore 4, 2, 0), (34, .iconst 0, 1, 0), (35, .istore 5, 2, 0), (37, .iload 5, 2, 0), (39, .iload_n 3, 1, 0), (40, .if_icmp .ge 24, 3, 64), (43, .iload 4, 2, 0), (45, .aload_n 0, 1, 0), (46, .iload_n 1, 1, 0), (47, .iload 5, 2, 0), (49, .iload_n 2, 1, 0), (50, .invokevirtual 442, 3, 0), (53, .invokestatic 135, 3, 0), (56, .istore 4, 2, 0), (58, .iinc 5 1, 3, 0), (61, .goto (-24), 3, 37), (64, .iload 4, 2, 0), (66, .ireturn, 1, 0)], ([(9, 11, 1, 3, 5, 190)], [(442, 0, 284, 8, 116)], [(355, 1000000, 7, 186)], [], []), (11, (8, 115), (1, 13), (8, 114), (0, 157)))
-- DoorSchoolModel.leaves(I)I
noncomputable def mr_269 : MR := ((yX11_leaves, cX11_leaves, 4, 1, (some .int)), [(0, .aload_n 0, 1, 0), (1, .iload_n 1, 1, 0), (2, .iconst 1, 1, 0), (3, .invokevirtual 396, 3, 0), (6, .istore_n 2, 1, 0), (7, .iload_n 2, 1, 0), (8, .ifCond .ge 5, 3, 13), (11, .iload_n 2, 1, 0), (12, .ireturn, 1, 0), (13, .aload_n 0, 1, 0), (14, .iload_n 1, 1, 0), (15, .invokevirtual 424, 3, 0), (18, .istore_n 3, 1, 0), (19, .iload_n 3, 1, 0), (20, .iconst (-1), 1, 0), (21, .if_icmp .ne 11, 3, 32), (24, .aload_n 0, 1, 0), (25, .iload_n 1, 1, 0), (26, .invokevirtual 415, 3, 0), (29, .goto 9, 3, 38), (32, .aload_n 0, 1, 0), (33, .iload_n 1, 1, 0), (34, .iload_n 3, 1, 0), (35, .invokevirtual 421, 3, 0), (38, .ireturn, 1, 0)], ([], [(396, 0, 189, 8, 32), (424, 0, 188, 8, 95), (415, 0, 222, 8, 83), (421, 0, 323, 8, 99)], [], [], []), (11, (8, 107), (1, 13), (8, 105), (8, 106)))
-- DoorSchoolModel.left(I)I
noncomputable def mr_270 : MR := ((yX11_left, cX11_left, 3, 1, (some .int)), [(0, .aload_n 0, 1, 0), (1, .iload_n 1, 1, 0), (2, .invokevirtual 302, 3, 0), (5, .ifCond .ne 6, 3, 11), (8, .bipush (-2), 2, 0), (10, .ireturn, 1, 0), (11, .aload_n 0, 1, 0), (12, .iload_n 1, 1, 0), (13, .invokevirtual 368, 3, 0), (16, .istore_n 2, 1, 0), (17, .iload_n 2, 1, 0), (18, .iconst (-1), 1, 0), (19, .if_icmp .ne 15, 3, 34), (22, .aload_n 0, 1, 0), (23, .aload_n 0, 1, 0), (24, .iload_n 1, 1, 0), (25, .invokevirtual 317, 3, 0), (28, .invokevirtual 362, 3, 0), (31, .goto 9, 3, 40), (34, .aload_n 0, 1, 0), (35, .iload_n 1, 1, 0), (36, .iload_n 2, 1, 0), (37, .invokevirtual 365, 3, 0), (40, .ireturn, 1, 0)], ([], [(302, 0, 245, 6, 199), (368, 0, 232, 7, 223), (317, 0, 204, 7, 15), (362, 0, 224, 7, 211), (365, 0, 233, 7, 215)], [], [], []), (11, (7, 222), (1, 13), (7, 220), (7, 221)))
-- DoorSchoolModel.lesson(III)I
noncomputable def mr_271 : MR := ((yX11_lesson, cX11_lesson, 4, 3, (some .int)), [(0, .aload_n 0, 1, 0), (1, .iload_n 1, 1, 0), (2, .invokevirtual 302, 3, 0), (5, .ifCond .eq 13, 3, 18), (8, .iload_n 3, 1, 0), (9, .i2l, 1, 0), (10, .lconst 0, 1, 0), (11, .lconst 1, 1, 0), (12, .invokestatic 89, 3, 0), (15, .ifCond .ne 6, 3, 21), (18, .bipush (-2), 2, 0), (20, .ireturn, 1, 0), (21, .iload_n 2, 1, 0), (22, .i2l, 1, 0), (23, .lconst 0, 1, 0), (24, .aload_n 0, 1, 0), (25, .iload_n 1, 1, 0), (26, .iconst 2, 1, 0), (27, .invokevirtual 265, 3, 0), (30, .iconst 1, 1, 0), (31, .isub, 1, 0), (32, .i2l, 1, 0), (33, .invokestatic 89, 3, 0), (36, .ifCond .eq 18, 3, 54), (39, .aload_n 0, 1, 0), (40, .getfield 9, 3, 0), (43, .iload_n 1, 1, 0), (44, .iload_n 2, 1, 0), (45, .invokestatic 203, 3, 0), (48, .iload_n 3, 1, 0), (49, .iadd, 1, 0), (50, .iaload, 1, 0), (51, .goto 4, 3, 55), (54, .iconst (-1), 1, 0), (55, .ireturn, 1, 0)], ([(9, 11, 1, 3, 5, 190)], [(302, 0, 245, 6, 199), (89, 2, 240, 6, 63), (265, 0, 281, 6, 204), (203, 2, 272, 6, 175)], [], [], []), (11, (6, 211), (1, 13), (6, 209), (6, 210)))
-- DoorSchoolModel.lessonAt(II)I
noncomputable def mr_272 : MR := ((yX11_lessonAt, cX11_lessonAt, 2, 2, (some .int)), [(0, .bipush 26, 2, 0), (2, .iconst 2, 1, 0), (3, .bipush 12, 2, 0), (5, .iload_n 0, 1, 0), (6, .imul, 1, 0), (7, .iload_n 1, 1, 0), (8, .iadd, 1, 0), (9, .imul, 1, 0), (10, .iadd, 1, 0), (11, .ireturn, 1, 0)], ([], [], [], [], []), (11, (6, 177), (1, 13), (6, 176), (0, 0)))
-- DoorSchoolModel.marks(I)I
noncomputable def mr_273 : MR := ((yX11_marks, cX11_marks, 2, 1, (some .int)), [(0, .aload_n 0, 1, 0), (1, .iload_n 1, 1, 0), (2, .invokevirtual 302, 3, 0), (5, .ifCond .eq 15, 3, 20), (8, .aload_n 0, 1, 0), (9, .aload_n 0, 1, 0), (10, .iload_n 1, 1, 0), (11, .invokevirtual 317, 3, 0), (14, .invokevirtual 330, 3, 0), (17, .goto 5, 3, 22), (20, .bipush (-2), 2, 0), (22, .ireturn, 1, 0)], ([], [(302, 0, 245, 6, 199), (317, 0, 204, 7, 15), (330, 0, 274, 7, 106)], [], [], []), (11, (7, 105), (1, 13), (7, 103), (7, 104)))
-- DoorSchoolModel.marksBy(I)I
noncomputable def mr_274 : MR := ((yX11_marksBy, cX11_marksBy, 4, 1, (some .int)), [(0, .iconst 0, 1, 0), (1, .istore_n 2, 1, 0), (2, .iconst 0, 1, 0), (3, .istore_n 3, 1, 0), (4, .iload_n 3, 1, 0), (5, .aload_n 0, 1, 0), (6, .getfield 9, 3, 0), (9, .iconst 3, 1, 0), (10, .iaload, 1, 0), (11, .if_icmp .ge 26, 3, 37), (14, .iload_n 2, 1, 0), (15, .aload_n 0, 1, 0), (16, .iload_n 1, 1, 0), (17, .iload_n 3, 1, 0), (18, .invokevirtual 327, 3, 0), (21, .ifCond .eq 7, 3, 28), (24, .iconst 1, 1, 0), (25, .goto 4, 3, 29), (28, .iconst 0, 1, 0), (29, .iadd, 1, 0), (30, .istore_n 2, 1, 0), (31, .iinc 3 1, 3, 0), (34, .goto (-30), 3, 4), (37, .iload_n 2, 1, 0), (38, .ireturn, 1, 0)], ([(9, 11, 1, 3, 5, 190)], [(327, 0, 253, 7, 110)], [], [], []), (11, (7, 109), (1, 13), (7, 108), (0, 133)))
-- DoorSchoolModel.mayBegin(II)Z
noncomputable def mr_275 : MR := ((yX11_mayBegin, cX11_mayBegin, 4, 2, (some .boolean)), [(0, .iconst 0, 1, 0), (1, .istore_n 3, 1, 0), (2, .iload_n 3, 1, 0), (3, .aload_n 0, 1, 0), (4, .getfield 58, 3, 0), (7, .arraylength, 1, 0), (8, .if_icmp .ge 16, 3, 24), (11, .aload_n 0, 1, 0), (12, .getfield 58, 3, 0), (15, .iload_n 3, 1, 0), (16, .iconst 0, 1, 0), (17, .iastore, 1, 0), (18, .iinc 3 1, 3, 0), (21, .goto (-19), 3, 2), (24, .iconst 0, 1, 0), (25, .istore_n 3, 1, 0), (26, .iload_n 3, 1, 0), (27, .iload_n 1, 1, 0), (28, .if_icmp .ge 20, 3, 48), (31, .aload_n 0, 1, 0), (32, .iload_n 3, 1, 0), (33, .aload_n 0, 1, 0), (34, .getfield 61, 3, 0), (37, .iload_n 3, 1, 0), (38, .iaload, 1, 0), (39, .invokevirtual 433, 3, 0), (42, .iinc 3 1, 3, 0), (45, .goto (-19), 3, 26), (48, .iload_n 2, 1, 0), (49, .aload_n 0, 1, 0), (50, .iload_n 1, 1, 0), (51, .iconst 1, 1, 0), (52, .iload_n 1, 1, 0), (53, .ishl, 1, 0), (54, .iconst 1, 1, 0), (55, .isub, 1, 0), (56, .invokevirtual 436, 3, 0), (59, .if_icmp .lt 22, 3, 81), (62, .aload_n 0, 1, 0), (63, .iload_n 2, 1, 0), (64, .iload_n 1, 1, 0), (65, .aload_n 0, 1, 0), (66, .getfield 9, 3, 0), (69, .iconst 1, 1, 0), (70, .iaload, 1, 0), (71, .invokevirtual 439, 3, 0), (74, .ifCond .eq 7, 3, 81), (77, .iconst 1, 1, 0), (78, .goto 4, 3, 82), (81, .iconst 0, 1, 0), (82, .ireturn, 1, 0)], ([(58, 11, 28, 3, 5, 217), (61, 11, 29, 3, 5, 218), (9, 11, 1, 3, 5, 190)], [(433, 0, 289, 8, 120), (436, 0, 181, 8, 132), (439, 0, 247, 8, 136)], [], [], []), (11, (8, 147), (1, 13), (8, 146), (0, 164)))
-- DoorSchoolModel.nearestTo(I)I
noncomputable def mr_276 : MR := ((yX11_nearestTo, cX11_nearestTo, 4, 1, (some .int)), [(0, .iconst (-1), 1, 0), (1, .istore_n 2, 1, 0), (2, .iconst 0, 1, 0), (3, .istore_n 3, 1, 0), (4, .iload_n 3, 1, 0), (5, .aload_n 0, 1, 0), (6, .getfield 262, 3, 0), (9, .if_icmp .ge 41, 3, 50), (12, .iload_n 2, 1, 0), (13, .iconst (-1), 1, 0), (14, .if_icmp .eq 28, 3, 42), (17, .aload_n 0, 1, 0), (18, .getfield 43, 3, 0), (21, .iload_n 3, 1, 0), (22, .iaload, 1, 0), (23, .iload_n 1, 1, 0), (24, .ixor, 1, 0), (25, .invokestatic 256, 3, 0), (28, .aload_n 0, 1, 0), (29, .getfield 43, 3, 0), (32, .iload_n 2, 1, 0), (33, .iaload, 1, 0), (34, .iload_n 1, 1, 0), (35, .ixor, 1, 0), (36, .invokestatic 256, 3, 0), (39, .if_icmp .ge 5, 3, 44), (42, .iload_n 3, 1, 0), (43, .istore_n 2, 1, 0), (44, .iinc 3 1, 3, 0), (47, .goto (-43), 3, 4), (50, .iload_n 2, 1, 0), (51, .ireturn, 1, 0)], ([(262, 11, 21, 0, 5, 210), (43, 11, 19, 3, 5, 208)], [(256, 2, 194, 7, 0)], [], [], []), (11, (7, 61), (1, 13), (7, 60), (0, 129)))
-- DoorSchoolModel.needs(Ljava/lang/String;)V
noncomputable def mr_277 : MR := ((yX11_needs, cX11_needs, 2, 1, none), [(0, .aload_n 0, 1, 0), (1, .aload_n 1, 1, 0), (2, .invokevirtual 163, 3, 0), (5, .ifCond .ne 8, 3, 13), (8, .aload_n 0, 1, 0), (9, .iconst 1, 1, 0), (10, .invokevirtual 166, 3, 0), (13, .return_, 1, 0)], ([], [(163, 0, 309, 6, 113), (166, 0, 214, 6, 123)], [], [], []), (11, (6, 112), (1, 13), (6, 111), (0, 95)))
-- DoorSchoolModel.next(II)I
noncomputable def mr_278 : MR := ((yX11_next, cX11_next, 6, 2, (some .int)), [(0, .iload_n 1, 1, 0), (1, .invokestatic 347, 3, 0), (4, .ifCond .eq 11, 3, 15), (7, .aload_n 0, 1, 0), (8, .iload_n 2, 1, 0), (9, .invokevirtual 324, 3, 0), (12, .ifCond .ne 6, 3, 18), (15, .bipush (-2), 2, 0), (17, .ireturn, 1, 0), (18, .iconst (-1), 1, 0), (19, .istore_n 3, 1, 0), (20, .ldc_w 355, 3, 0), (23, .istore 4, 2, 0), (25, .iconst 0, 1, 0), (26, .istore 5, 2, 0), (28, .iload 5, 2, 0), (30, .aload_n 0, 1, 0), (31, .invokevirtual 97, 3, 0), (34, .if_icmp .ge 54, 3, 88), (37, .iload_n 2, 1, 0), (38, .iload 5, 2, 0), (40, .invokestatic 272, 3, 0), (43, .iconst 1, 1, 0), (44, .if_icmp .ne 6, 3, 50), (47, .goto 35, 3, 82), (50, .aload_n 0, 1, 0), (51, .iload_n 1, 1, 0), (52, .iload_n 2, 1, 0), (53, .iconst 1, 1, 0), (54, .iload 5, 2, 0), (56, .ishl, 1, 0), (57, .ior, 1, 0), (58, .invokevirtual 386, 3, 0), (61, .aload_n 0, 1, 0), (62, .getfield 380, 3, 0), (65, .iload 4, 2, 0), (67, .if_icmp .lt 6, 3, 73), (70, .goto 12, 3, 82), (73, .aload_n 0, 1, 0), (74, .getfield 380, 3, 0), (77, .istore 4, 2, 0), (79, .iload 5, 2, 0), (81, .istore_n 3, 1, 0), (82, .iinc 5 1, 3, 0), (85, .goto (-57), 3, 28), (88, .iload_n 3, 1, 0), (89, .ireturn, 1, 0)], ([(380, 11, 22, 0, 5, 211)], [(347, 2, 259, 7, 158), (324, 0, 186, 7, 94), (97, 0, 260, 6, 236), (272, 2, 193, 7, 47), (386, 0, 312, 8, 16)], [(355, 1000000, 7, 186)], [], []), (11, (8, 27), (1, 13), (8, 25), (8, 26)))
-- DoorSchoolModel.number(II)I
noncomputable def mr_279 : MR := ((yX11_number, cX11_number, 4, 2, (some .int)), [(0, .aload_n 0, 1, 0), (1, .invokevirtual 144, 3, 0), (4, .ifCond .eq 16, 3, 20), (7, .aload_n 0, 1, 0), (8, .getfield 120, 3, 0), (11, .iconst 2, 1, 0), (12, .if_icmp .eq 8, 3, 20), (15, .aload_n 0, 1, 0), (16, .iconst 1, 1, 0), (17, .invokevirtual 166, 3, 0), (20, .aload_n 0, 1, 0), (21, .invokevirtual 144, 3, 0), (24, .ifCond .eq 23, 3, 47), (27, .aload_n 0, 1, 0), (28, .getfield 131, 3, 0), (31, .i2l, 1, 0), (32, .iload_n 1, 1, 0), (33, .i2l, 1, 0), (34, .iload_n 2, 1, 0), (35, .i2l, 1, 0), (36, .invokestatic 89, 3, 0), (39, .ifCond .ne 8, 3, 47), (42, .aload_n 0, 1, 0), (43, .iconst 2, 1, 0), (44, .invokevirtual 166, 3, 0), (47, .aload_n 0, 1, 0), (48, .invokevirtual 144, 3, 0), (51, .ifCond .ne 5, 3, 56), (54, .iconst 0, 1, 0), (55, .ireturn, 1, 0), (56, .aload_n 0, 1, 0), (57, .getfield 131, 3, 0), (60, .istore_n 3, 1, 0), (61, .aload_n 0, 1, 0), (62, .invokevirtual 160, 3, 0), (65, .iload_n 3, 1, 0), (66, .ireturn, 1, 0)], ([(120, 11, 10, 0, 5, 199), (131, 11, 11, 0, 5, 200)], [(144, 0, 228, 6, 100), (166, 0, 214, 6, 123), (89, 2, 240, 6, 63), (160, 0, 180, 6, 86)], [], [], []), (11, (6, 135), (1, 13), (6, 134), (0, 100)))
-- DoorSchoolModel.numberAt(II)J
noncomputable def mr_280 : MR := ((yX11_numberAt, cX11_numberAt, 3, 2, (some .long)), [(0, .aload_n 0, 1, 0), (1, .getfield 73, 3, 0), (4, .bipush 60, 2, 0), (6, .iload_n 1, 1, 0), (7, .imul, 1, 0), (8, .iload_n 2, 1, 0), (9, .iadd, 1, 0), (10, .laload, 1, 0), (11, .lreturn, 1, 0)], ([(73, 11, 34, 3, 5, 223)], [], [], [], []), (11, (8, 42), (1, 13), (8, 41), (0, 149)))
-- DoorSchoolModel.of(II)I
noncomputable def mr_281 : MR := ((yX11_of, cX11_of, 3, 2, (some .int)), [(0, .aload_n 0, 1, 0), (1, .getfield 9, 3, 0), (4, .bipush 10, 2, 0), (6, .iconst 4, 1, 0), (7, .iload_n 1, 1, 0), (8, .imul, 1, 0), (9, .iadd, 1, 0), (10, .iload_n 2, 1, 0), (11, .iadd, 1, 0), (12, .iaload, 1, 0), (13, .ireturn, 1, 0)], ([(9, 11, 1, 3, 5, 190)], [], [], [], []), (11, (6, 207), (1, 13), (6, 206), (0, 112)))
-- DoorSchoolModel.often(I)I
noncomputable def mr_282 : MR := ((yX11_often, cX11_often, 2, 1, (some .int)), [(0, .aload_n 0, 1, 0), (1, .iload_n 1, 1, 0), (2, .invokevirtual 302, 3, 0), (5, .ifCond .eq 14, 3, 19), (8, .aload_n 0, 1, 0), (9, .iload_n 1, 1, 0), (10, .invokevirtual 317, 3, 0), (13, .invokestatic 256, 3, 0), (16, .goto 5, 3, 21), (19, .bipush (-2), 2, 0), (21, .ireturn, 1, 0)], ([], [(302, 0, 245, 6, 199), (317, 0, 204, 7, 15), (256, 2, 194, 7, 0)], [], [], []), (11, (7, 69), (1, 13), (7, 67), (7, 68)))
-- DoorSchoolModel.opens(II)I
noncomputable def mr_283 : MR := ((yX11_opens, cX11_opens, 3, 2, (some .int)), [(0, .aload_n 0, 1, 0), (1, .iload_n 1, 1, 0), (2, .invokevirtual 302, 3, 0), (5, .ifCond .eq 24, 3, 29), (8, .aload_n 0, 1, 0), (9, .iload_n 2, 1, 0), (10, .i2l, 1, 0), (11, .invokevirtual 313, 3, 0), (14, .ifCond .eq 15, 3, 29), (17, .aload_n 0, 1, 0), (18, .iload_n 1, 1, 0), (19, .invokevirtual 317, 3, 0), (22, .iload_n 2, 1, 0), (23, .invokestatic 272, 3, 0), (26, .goto 5, 3, 31), (29, .bipush (-2), 2, 0), (31, .ireturn, 1, 0)], ([], [(302, 0, 245, 6, 199), (313, 0, 250, 7, 11), (317, 0, 204, 7, 15), (272, 2, 193, 7, 47)], [], [], []), (11, (7, 10), (1, 13), (7, 8), (7, 9)))
-- DoorSchoolModel.overBy(III)I
noncomputable def mr_284 : MR := ((yX11_overBy, cX11_overBy, 12, 3, (some .int)), [(0, .iconst 0, 1, 0), (1, .istore 4, 2, 0), (3, .iload 4, 2, 0), (5, .aload_n 0, 1, 0), (6, .getfield 58, 3, 0), (9, .arraylength, 1, 0), (10, .if_icmp .ge 17, 3, 27), (13, .aload_n 0, 1, 0), (14, .getfield 58, 3, 0), (17, .iload 4, 2, 0), (19, .iconst 0, 1, 0), (20, .iastore, 1, 0), (21, .iinc 4 1, 3, 0), (24, .goto (-21), 3, 3), (27, .iconst 0, 1, 0), (28, .istore 4, 2, 0), (30, .iconst 0, 1, 0), (31, .istore 5, 2, 0), (33, .iconst 0, 1, 0), (34, .istore 6, 2, 0), (36, .iload 6, 2, 0), (38, .iload_n 1, 1, 0), (39, .if_icmp .ge 44, 3, 83), (42, .aload_n 0, 1, 0), (43, .iload 6, 2, 0), (45, .aload_n 0, 1, 0), (46, .getfield 61, 3, 0), (49, .iload 6, 2, 0), (51, .iaload, 1, 0), (52, .invokevirtual 433, 3, 0), (55, .iload 4, 2, 0), (57, .iconst 1, 1, 0), (58, .iload 6, 2, 0), (60, .ishl, 1, 0), (61, .ior, 1, 0), (62, .istore 4, 2, 0), (64, .iload 5, 2, 0), (66, .aload_n 0, 1, 0), (67, .iload 6, 2, 0), (69, .invokevirtual 430, 3, 0), (72, .invokestatic 418, 3, 0), (75, .istore 5, 2, 0), (77, .iinc 6 1, 3, 0), (80, .goto (-44), 3, 36), (83, .iload_n 2, 1, 0), (84, .istore 6, 2, 0), (86, .iconst 1, 1, 0), (87, .aload_n 0, 1, 0), (88, .getfield 9, 3, 0), (91, .iconst 5, 1, 0), (92, .iaload, 1, 0), (93, .ishl, 1, 0), (94, .iconst 1, 1, 0), (95, .isub, 1, 0), (96, .iload 4, 2, 0), (98, .iconst (-1), 1, 0), (99, .ixor, 1, 0), (100, .iand, 1, 0), (101, .istore 7, 2, 0), (103, .aload_n 0, 1, 0), (104, .getfield 9, 3, 0), (107, .iconst 5, 1, 0), (108, .iaload, 1, 0), (109, .iload_n 1, 1, 0), (110, .isub, 1, 0), (111, .istore 8, 2, 0), (113, .iload 8, 2, 0), (115, .ifCond .le 138, 3, 253), (118, .iload 6, 2, 0), (120, .iload 8, 2, 0), (122, .irem, 1, 0), (123, .istore 9, 2, 0), (125, .iload 6, 2, 0), (127, .iload 8, 2, 0), (129, .idiv, 1, 0), (130, .istore 6, 2, 0), (132, .iload_n 1, 1, 0), (133, .istore 10, 2, 0), (135, .iload 7, 2, 0), (137, .iload 10, 2, 0), (139, .invokestatic 272, 3, 0), (142, .ifCond .eq 8, 3, 150), (145, .iload 9, 2, 0), (147, .ifCond .le 21, 3, 168), (150, .iload 9, 2, 0), (152, .iload 7, 2, 0), (154, .iload 10, 2, 0), (156, .invokestatic 272, 3, 0), (159, .isub, 1, 0), (160, .istore 9, 2, 0), (162, .iinc 10 1, 3, 0), (165, .goto (-30), 3, 135), (168, .iload 7, 2, 0), (170, .iconst 1, 1, 0), (171, .iload 10, 2, 0), (173, .ishl, 1, 0), (174, .iconst (-1), 1, 0), (175, .ixor, 1, 0), (176, .iand, 1, 0), (177, .istore 7, 2, 0), (179, .aload_n 0, 1, 0), (180, .iload 10, 2, 0), (182, .iload 4, 2, 0), (184, .invokevirtual 436, 3, 0), (187, .istore 11, 2, 0), (189, .iload 11, 2, 0), (191, .iconst (-1), 1, 0), (192, .if_icmp .ne 7, 3, 199), (195, .ldc_w 355, 3, 0), (198, .ireturn, 1, 0), (199, .aload_n 0, 1, 0), (200, .iload 11, 2, 0), (202, .iload 10, 2, 0), (204, .iload_n 3, 1, 0), (205, .invokevirtual 439, 3, 0), (208, .ifCond .ne 9, 3, 217), (211, .iinc 11 1, 3, 0), (214, .goto (-15), 3, 199), (217, .aload_n 0, 1, 0), (218, .iload 10, 2, 0), (220, .iload 11, 2, 0), (222, .invokevirtual 433, 3, 0), (225, .iload 4, 2, 0), (227, .iconst 1, 1, 0), (228, .iload 10, 2, 0), (230, .ishl, 1, 0), (231, .ior, 1, 0), (232, .istore 4, 2, 0), (234, .iload 5, 2, 0), (236, .aload_n 0, 1, 0), (237, .iload 10, 2, 0), (239, .invokevirtual 430, 3, 0), (242, .invokestatic 418, 3, 0), (245, .istore 5, 2, 0), (247, .iinc 8 (-1), 3, 0), (250, .goto (-137), 3, 113), (253, .iload 5, 2, 0), (255, .ireturn, 1, 0)], ([(58, 11, 28, 3, 5, 217), (61, 11, 29, 3, 5, 218), (9, 11, 1, 3, 5, 190)], [(433, 0, 289, 8, 120), (430, 0, 285, 8, 128), (272, 2, 193, 7, 47), (436, 0, 181, 8, 132), (439, 0, 247, 8, 136)], [(355, 1000000, 7, 186)], [], []), (11, (8, 119), (1, 13), (8, 118), (0, 158)))
-- DoorSchoolModel.overOf(I)I
noncomputable def mr_285 : MR := ((yX11_overOf, cX11_overOf, 2, 1, (some .int)), [(0, .aload_n 0, 1, 0), (1, .getfield 55, 3, 0), (4, .iload_n 1, 1, 0), (5, .iaload, 1, 0), (6, .aload_n 0, 1, 0), (7, .iload_n 1, 1, 0), (8, .invokevirtual 427, 3, 0), (11, .iadd, 1, 0), (12, .ireturn, 1, 0)], ([(55, 11, 27, 3, 5, 216)], [(427, 0, 310, 8, 124)], [], [], []), (11, (8, 131), (1, 13), (8, 130), (0, 161)))
-- DoorSchoolModel.ownDeeds()I
noncomputable def mr_286 : MR := ((yX11_ownDeeds, cX11_ownDeeds, 1, 0, (some .int)), [(0, .aload_n 0, 1, 0), (1, .aload_n 0, 1, 0), (2, .getfield 9, 3, 0), (5, .bipush 8, 2, 0), (7, .iaload, 1, 0), (8, .aload_n 0, 1, 0), (9, .getfield 9, 3, 0), (12, .bipush 9, 2, 0), (14, .iaload, 1, 0), (15, .invokevirtual 259, 3, 0), (18, .ireturn, 1, 0)], ([(9, 11, 1, 3, 5, 190)], [(259, 0, 203, 6, 232)], [], [], []), (11, (7, 194), (1, 13), (7, 193), (0, 140)))
-- DoorSchoolModel.owns(II)I
noncomputable def mr_287 : MR := ((yX11_owns, cX11_owns, 4, 2, (some .int)), [(0, .aload_n 0, 1, 0), (1, .iload_n 1, 1, 0), (2, .iload_n 2, 1, 0), (3, .invokevirtual 320, 3, 0), (6, .ifCond .ne 6, 3, 12), (9, .bipush (-2), 2, 0), (11, .ireturn, 1, 0), (12, .aload_n 0, 1, 0), (13, .invokevirtual 356, 3, 0), (16, .istore_n 3, 1, 0), (17, .aload_n 0, 1, 0), (18, .getfield 9, 3, 0), (21, .bipush 8, 2, 0), (23, .iload_n 1, 1, 0), (24, .iastore, 1, 0), (25, .aload_n 0, 1, 0), (26, .getfield 9, 3, 0), (29, .bipush 9, 2, 0), (31, .iload_n 2, 1, 0), (32, .iastore, 1, 0), (33, .iload_n 3, 1, 0), (34, .ireturn, 1, 0)], ([(9, 11, 1, 3, 5, 190)], [(320, 0, 254, 7, 86), (356, 0, 286, 7, 191)], [], [], []), (11, (8, 160), (1, 13), (8, 158), (8, 159)))
-- DoorSchoolModel.paste(IIIII)I
noncomputable def mr_288 : MR := ((yX11_paste, cX11_paste, 7, 5, (some .int)), [(0, .iload_n 1, 1, 0), (1, .invokestatic 389, 3, 0), (4, .ifCond .eq 10, 3, 14), (7, .iload_n 3, 1, 0), (8, .invokestatic 389, 3, 0), (11, .ifCond .ne 6, 3, 17), (14, .bipush (-2), 2, 0), (16, .ireturn, 1, 0), (17, .aload_n 0, 1, 0), (18, .getfield 67, 3, 0), (21, .iload_n 1, 1, 0), (22, .iaload, 1, 0), (23, .iconst (-1), 1, 0), (24, .if_icmp .eq 13, 3, 37), (27, .aload_n 0, 1, 0), (28, .getfield 67, 3, 0), (31, .iload_n 3, 1, 0), (32, .iaload, 1, 0), (33, .iconst (-1), 1, 0), (34, .if_icmp .ne 6, 3, 40), (37, .bipush (-6), 2, 0), (39, .ireturn, 1, 0), (40, .aload_n 0, 1, 0), (41, .getfield 70, 3, 0), (44, .iload_n 1, 1, 0), (45, .iaload, 1, 0), (46, .aload_n 0, 1, 0), (47, .getfield 70, 3, 0), (50, .iload_n 3, 1, 0), (51, .iaload, 1, 0), (52, .if_icmp .eq 6, 3, 58), (55, .bipush (-8), 2, 0), (57, .ireturn, 1, 0), (58, .iload_n 2, 1, 0), (59, .ifCond .lt 48, 3, 107), (62, .iload 4, 2, 0), (64, .ifCond .lt 43, 3, 107), (67, .iload 5, 2, 0), (69, .ifCond .lt 38, 3, 107), (72, .iload_n 2, 1, 0), (73, .i2l, 1, 0), (74, .iload 5, 2, 0), (76, .i2l, 1, 0), (77, .ladd, 1, 0), (78, .aload_n 0, 1, 0), (79, .getfield 67, 3, 0), (82, .iload_n 1, 1, 0), (83, .iaload, 1, 0), (84, .i2l, 1, 0), (85, .lcmp, 1, 0), (86, .ifCond .gt 21, 3, 107), (89, .iload 4, 2, 0), (91, .i2l, 1, 0), (92, .iload 5, 2, 0), (94, .i2l, 1, 0), (95, .ladd, 1, 0), (96, .aload_n 0, 1, 0), (97, .getfield 67, 3, 0), (100, .iload_n 3, 1, 0), (101, .iaload, 1, 0), (102, .i2l, 1, 0), (103, .lcmp, 1, 0), (104, .ifCond .le 6, 3, 110), (107, .bipush (-7), 2, 0), (109, .ireturn, 1, 0), (110, .iconst 0, 1, 0), (111, .istore 6, 2, 0), (113, .iload 6, 2, 0), (115, .iload 5, 2, 0), (117, .if_icmp .ge 30, 3, 147), (120, .aload_n 0, 1, 0), (121, .getfield 77, 3, 0), (124, .iload 6, 2, 0), (126, .aload_n 0, 1, 0), (127, .getfield 73, 3, 0), (130, .bipush 60, 2, 0), (132, .iload_n 1, 1, 0), (133, .imul, 1, 0), (134, .iload_n 2, 1, 0), (135, .iadd, 1, 0), (136, .iload 6, 2, 0), (138, .iadd, 1, 0), (139, .laload, 1, 0), (140, .lastore, 1, 0), (141, .iinc 6 1, 3, 0), (144, .goto (-31), 3, 113), (147, .iconst 0, 1, 0), (148, .istore 6, 2, 0), (150, .iload 6, 2, 0), (152, .iload 5, 2, 0), (154, .if_icmp .ge 31, 3, 185), (157, .aload_n 0, 1, 0), (158, .getfield 73, 3, 0), (161, .bipush 60, 2, 0), (163, .iload_n 3, 1, 0), (164, .imul, 1, 0), (165, .iload 4, 2, 0), (167, .iadd, 1, 0), (168, .iload 6, 2, 0), (170, .iadd, 1, 0), (171, .aload_n 0, 1, 0), (172, .getfield 77, 3, 0), (175, .iload 6, 2, 0), (177, .laload, 1, 0), (178, .lastore, 1, 0), (179, .iinc 6 1, 3, 0), (182, .goto (-32), 3, 150), (185, .iconst 0, 1, 0), (186, .ireturn, 1, 0)], ([(67, 11, 32, 3, 5, 221), (70, 11, 33, 3, 5, 222), (77, 11, 35, 3, 5, 224), (73, 11, 34, 3, 5, 223)], [(389, 2, 257, 8, 36)], [], [], []), (11, (8, 201), (1, 13), (8, 199), (8, 200)))
-- DoorSchoolModel.put(II)V
noncomputable def mr_289 : MR := ((yX11_put, cX11_put, 4, 2, none), [(0, .aload_n 0, 1, 0), (1, .getfield 55, 3, 0), (4, .iload_n 1, 1, 0), (5, .iload_n 2, 1, 0), (6, .iastore, 1, 0), (7, .iload_n 2, 1, 0), (8, .istore_n 3, 1, 0), (9, .iload_n 3, 1, 0), (10, .iload_n 2, 1, 0), (11, .aload_n 0, 1, 0), (12, .iload_n 1, 1, 0), (13, .invokevirtual 427, 3, 0), (16, .iadd, 1, 0), (17, .if_icmp .ge 19, 3, 36), (20, .aload_n 0, 1, 0), (21, .getfield 58, 3, 0), (24, .iload_n 3, 1, 0), (25, .dup2, 1, 0), (26, .iaload, 1, 0), (27, .iconst 1, 1, 0), (28, .iadd, 1, 0), (29, .iastore, 1, 0), (30, .iinc 3 1, 3, 0), (33, .goto (-24), 3, 9), (36, .return_, 1, 0)], ([(55, 11, 27, 3, 5, 216), (58, 11, 28, 3, 5, 217)], [(427, 0, 310, 8, 124)], [], [], []), (11, (8, 123), (1, 13), (8, 122), (0, 159)))
-- DoorSchoolModel.readDoor()V
noncomputable def mr_290 : MR := ((yX11_readDoor, cX11_readDoor, 2, 0, none), [(0, .bipush 10, 2, 0), (2, .iconst 4, 1, 0), (3, .aload_n 0, 1, 0), (4, .getfield 31, 3, 0), (7, .iconst 2, 1, 0), (8, .iaload, 1, 0), (9, .imul, 1, 0), (10, .iadd, 1, 0), (11, .istore_n 1, 1, 0), (12, .aload_n 0, 1, 0), (13, .ldc 181, 2, 0), (15, .invokevirtual 163, 3, 0), (18, .ifCond .eq 15, 3, 33), (21, .aload_n 0, 1, 0), (22, .getfield 31, 3, 0), (25, .iload_n 1, 1, 0), (26, .iconst 0, 1, 0), (27, .iadd, 1, 0), (28, .iconst 0, 1, 0), (29, .iastore, 1, 0), (30, .goto 39, 3, 69), (33, .aload_n 0, 1, 0), (34, .ldc 183, 2, 0), (36, .invokevirtual 163, 3, 0), (39, .ifCond .eq 15, 3, 54), (42, .aload_n 0, 1, 0), (43, .getfield 31, 3, 0), (46, .iload_n 1, 1, 0), (47, .iconst 0, 1, 0), (48, .iadd, 1, 0), (49, .iconst 1, 1, 0), (50, .iastore, 1, 0), (51, .goto 18, 3, 69), (54, .aload_n 0, 1, 0), (55, .ldc 185, 2, 0), (57, .invokevirtual 170, 3, 0), (60, .aload_n 0, 1, 0), (61, .getfield 31, 3, 0), (64, .iload_n 1, 1, 0), (65, .iconst 0, 1, 0), (66, .iadd, 1, 0), (67, .iconst 2, 1, 0), (68, .iastore, 1, 0), (69, .aload_n 0, 1, 0), (70, .getfield 31, 3, 0), (73, .iload_n 1, 1, 0), (74, .iconst 1, 1, 0), (75, .iadd, 1, 0), (76, .aload_n 0, 1, 0), (77, .ldc 187, 2, 0), (79, .iconst 0, 1, 0), (80, .bipush 50, 2, 0), (82, .invokevirtual 189, 3, 0), (85, .iastore, 1, 0), (86, .aload_n 0, 1, 0), (87, .getfield 31, 3, 0), (90, .iload_n 1, 1, 0), (91, .iconst 2, 1, 0), (92, .iadd, 1, 0), (93, .iconst 0, 1, 0), (94, .iastore, 1, 0), (95, .aload_n 0, 1, 0), (96, .getfield 31, 3, 0), (99, .iload_n 1, 1, 0), (100, .iconst 3, 1, 0), (101, .iadd, 1, 0), (102, .iconst (-1), 1, 0), (103, .iastore, 1, 0), (104, .aload_n 0, 1, 0), (105, .getfield 31, 3, 0), (108, .iconst 2, 1, 0), (109, .dup2, 1, 0), (110, .iaload, 1, 0), (111, .iconst 1, 1, 0), (112, .iadd, 1, 0), (113, .iastore, 1, 0), (114, .return_, 1, 0)], ([(31, 11, 14, 3, 5, 203)], [(163, 0, 309, 6, 113), (170, 0, 277, 6, 109), (189, 0, 314, 6, 128)], [], [], []), (11, (6, 152), (1, 13), (6, 151), (0, 102)))
-- DoorSchoolModel.readLesson()V
noncomputable def mr_291 : MR := ((yX11_readLesson, cX11_readLesson, 5, 0, none), [(0, .aload_n 0, 1, 0), (1, .aload_n 0, 1, 0), (2, .getfield 31, 3, 0), (5, .iconst 2, 1, 0), (6, .iaload, 1, 0), (7, .invokevirtual 193, 3, 0), (10, .ifCond .eq 29, 3, 39), (13, .aload_n 0, 1, 0), (14, .getfield 31, 3, 0), (17, .bipush 10, 2, 0), (19, .iconst 4, 1, 0), (20, .aload_n 0, 1, 0), (21, .getfield 131, 3, 0), (24, .imul, 1, 0), (25, .iadd, 1, 0), (26, .iconst 2, 1, 0), (27, .iadd, 1, 0), (28, .iaload, 1, 0), (29, .bipush 12, 2, 0), (31, .if_icmp .ne 8, 3, 39), (34, .aload_n 0, 1, 0), (35, .iconst 3, 1, 0), (36, .invokevirtual 166, 3, 0), (39, .aload_n 0, 1, 0), (40, .iconst 0, 1, 0), (41, .aload_n 0, 1, 0), (42, .getfield 31, 3, 0), (45, .iconst 2, 1, 0), (46, .iaload, 1, 0), (47, .iconst 1, 1, 0), (48, .isub, 1, 0), (49, .invokevirtual 174, 3, 0), (52, .istore_n 1, 1, 0), (53, .aload_n 0, 1, 0), (54, .invokevirtual 197, 3, 0), (57, .istore_n 2, 1, 0), (58, .aload_n 0, 1, 0), (59, .invokevirtual 200, 3, 0), (62, .istore_n 3, 1, 0), (63, .aload_n 0, 1, 0), (64, .invokevirtual 144, 3, 0), (67, .ifCond .ne 4, 3, 71), (70, .return_, 1, 0), (71, .iload_n 1, 1, 0), (72, .aload_n 0, 1, 0), (73, .getfield 31, 3, 0), (76, .bipush 10, 2, 0), (78, .iconst 4, 1, 0), (79, .iload_n 1, 1, 0), (80, .imul, 1, 0), (81, .iadd, 1, 0), (82, .iconst 2, 1, 0), (83, .iadd, 1, 0), (84, .iaload, 1, 0), (85, .invokestatic 203, 3, 0), (88, .istore 4, 2, 0), (90, .aload_n 0, 1, 0), (91, .getfield 31, 3, 0), (94, .iload 4, 2, 0), (96, .iload_n 2, 1, 0), (97, .iastore, 1, 0), (98, .aload_n 0, 1, 0), (99, .getfield 31, 3, 0), (102, .iload 4, 2, 0), (104, .iconst 1, 1, 0), (105, .iadd, 1, 0), (106, .iload_n 3, 1, 0), (107, .iastore, 1, 0), (108, .aload_n 0, 1, 0), (109, .getfield 31, 3, 0), (112, .bipush 10, 2, 0), (114, .iconst 4, 1, 0), (115, .iload_n 1, 1, 0), (116, .imul, 1, 0), (117, .iadd, 1, 0), (118, .iconst 2, 1, 0), (119, .iadd, 1, 0), (120, .dup2, 1, 0), (121, .iaload, 1, 0), (122, .iconst 1, 1, 0), (123, .iadd, 1, 0), (124, .iastore, 1, 0), (125, .return_, 1, 0)], ([(31, 11, 14, 3, 5, 203), (131, 11, 11, 0, 5, 200)], [(193, 0, 251, 6, 161), (166, 0, 214, 6, 123), (174, 0, 279, 6, 132), (197, 0, 225, 6, 165), (200, 0, 200, 6, 169), (144, 0, 228, 6, 100), (203, 2, 272, 6, 175)], [], [], []), (11, (6, 160), (1, 13), (6, 159), (0, 103)))
-- DoorSchoolModel.readLine()V
noncomputable def mr_292 : MR := ((yX11_readLine, cX11_readLine, 1, 0, none), [(0, .aload_n 0, 1, 0), (1, .getfield 31, 3, 0), (4, .bipush 7, 2, 0), (6, .iaload, 1, 0), (7, .ifCond .ne 40, 3, 47), (10, .aload_n 0, 1, 0), (11, .ldc 241, 2, 0), (13, .invokevirtual 170, 3, 0), (16, .aload_n 0, 1, 0), (17, .getfield 31, 3, 0), (20, .iconst 0, 1, 0), (21, .aload_n 0, 1, 0), (22, .ldc 243, 2, 0), (24, .iconst 2, 1, 0), (25, .iconst 4, 1, 0), (26, .invokevirtual 189, 3, 0), (29, .iastore, 1, 0), (30, .aload_n 0, 1, 0), (31, .getfield 31, 3, 0), (34, .iconst 1, 1, 0), (35, .aload_n 0, 1, 0), (36, .ldc 245, 2, 0), (38, .iconst 1, 1, 0), (39, .iconst 3, 1, 0), (40, .invokevirtual 189, 3, 0), (43, .iastore, 1, 0), (44, .goto 7, 3, 51), (47, .aload_n 0, 1, 0), (48, .invokevirtual 247, 3, 0), (51, .aload_n 0, 1, 0), (52, .invokevirtual 144, 3, 0), (55, .ifCond .eq 16, 3, 71), (58, .aload_n 0, 1, 0), (59, .getfield 120, 3, 0), (62, .iconst 3, 1, 0), (63, .if_icmp .eq 8, 3, 71), (66, .aload_n 0, 1, 0), (67, .iconst 1, 1, 0), (68, .invokevirtual 166, 3, 0), (71, .aload_n 0, 1, 0), (72, .invokevirtual 144, 3, 0), (75, .ifCond .eq 7, 3, 82), (78, .aload_n 0, 1, 0), (79, .invokevirtual 160, 3, 0), (82, .aload_n 0, 1, 0), (83, .getfield 31, 3, 0), (86, .bipush 7, 2, 0), (88, .dup2, 1, 0), (89, .iaload, 1, 0), (90, .iconst 1, 1, 0), (91, .iadd, 1, 0), (92, .iastore, 1, 0), (93, .return_, 1, 0)], ([(31, 11, 14, 3, 5, 203), (120, 11, 10, 0, 5, 199)], [(170, 0, 277, 6, 109), (189, 0, 314, 6, 128), (247, 0, 293, 6, 137), (144, 0, 228, 6, 100), (166, 0, 214, 6, 123), (160, 0, 180, 6, 86)], [], [], []), (11, (6, 107), (1, 13), (6, 106), (0, 94)))
-- DoorSchoolModel.readNext()V
noncomputable def mr_293 : MR := ((yX11_readNext, cX11_readNext, 4, 0, none), [(0, .aload_n 0, 1, 0), (1, .ldc 212, 2, 0), (3, .invokevirtual 156, 3, 0), (6, .ifCond .ne 66, 3, 72), (9, .aload_n 0, 1, 0), (10, .ldc 214, 2, 0), (12, .invokevirtual 156, 3, 0), (15, .ifCond .ne 57, 3, 72), (18, .aload_n 0, 1, 0), (19, .ldc 216, 2, 0), (21, .invokevirtual 156, 3, 0), (24, .ifCond .ne 48, 3, 72), (27, .aload_n 0, 1, 0), (28, .ldc 218, 2, 0), (30, .invokevirtual 156, 3, 0), (33, .ifCond .ne 39, 3, 72), (36, .aload_n 0, 1, 0), (37, .ldc 220, 2, 0), (39, .invokevirtual 156, 3, 0), (42, .ifCond .ne 30, 3, 72), (45, .aload_n 0, 1, 0), (46, .ldc 222, 2, 0), (48, .invokevirtual 156, 3, 0), (51, .ifCond .ne 21, 3, 72), (54, .aload_n 0, 1, 0), (55, .ldc 224, 2, 0), (57, .invokevirtual 156, 3, 0), (60, .ifCond .ne 12, 3, 72), (63, .aload_n 0, 1, 0), (64, .ldc 226, 2, 0), (66, .invokevirtual 156, 3, 0), (69, .ifCond .eq 7, 3, 76), (72, .iconst 1, 1, 0), (73, .goto 4, 3, 77), (76, .iconst 0, 1, 0), (77, .istore_n 1, 1, 0), (78, .iload_n 1, 1, 0), (79, .ifCond .ne 8, 3, 87), (82, .aload_n 0, 1, 0), (83, .iconst 1, 1, 0), (84, .invokevirtual 166, 3, 0), (87, .aload_n 0, 1, 0), (88, .ldc 212, 2, 0), (90, .invokevirtual 156, 3, 0), (93, .ifCond .eq 13, 3, 106), (96, .aload_n 0, 1, 0), (97, .getfield 31, 3, 0), (100, .iconst 2, 1, 0), (101, .iaload, 1, 0), (102, .iconst 4, 1, 0), (103, .if_icmp .eq 62, 3, 165), (106, .aload_n 0, 1, 0), (107, .ldc 216, 2, 0), (109, .invokevirtual 156, 3, 0), (112, .ifCond .eq 14, 3, 126), (115, .aload_n 0, 1, 0), (116, .getfield 31, 3, 0), (119, .iconst 3, 1, 0), (120, .iaload, 1, 0), (121, .bipush 12, 2, 0), (123, .if_icmp .eq 42, 3, 165), (126, .aload_n 0, 1, 0), (127, .ldc 222, 2, 0), (129, .invokevirtual 156, 3, 0), (132, .ifCond .eq 13, 3, 145), (135, .aload_n 0, 1, 0), (136, .getfield 31, 3, 0), (139, .iconst 4, 1, 0), (140, .iaload, 1, 0), (141, .iconst 4, 1, 0), (142, .if_icmp .eq 23, 3, 165), (145, .aload_n 0, 1, 0), (146, .ldc 224, 2, 0), (148, .invokevirtual 156, 3, 0), (151, .ifCond .eq 19, 3, 170), (154, .aload_n 0, 1, 0), (155, .getfield 31, 3, 0), (158, .iconst 5, 1, 0), (159, .iaload, 1, 0), (160, .bipush 6, 2, 0), (162, .if_icmp .ne 8, 3, 170), (165, .aload_n 0, 1, 0), (166, .iconst 3, 1, 0), (167, .invokevirtual 166, 3, 0), (170, .aload_n 0, 1, 0), (171, .invokevirtual 144, 3, 0), (174, .ifCond .ne 4, 3, 178), (177, .return_, 1, 0), (178, .aload_n 0, 1, 0), (179, .ldc 212, 2, 0), (181, .invokevirtual 163, 3, 0), (184, .ifCond .eq 10, 3, 194), (187, .aload_n 0, 1, 0), (188, .invokevirtual 228, 3, 0), (191, .goto 256, 3, 447), (194, .aload_n 0, 1, 0), (195, .ldc 214, 2, 0), (197, .invokevirtual 163, 3, 0), (200, .ifCond .eq 10, 3, 210), (203, .aload_n 0, 1, 0), (204, .invokevirtual 231, 3, 0), (207, .goto 240, 3, 447), (210, .aload_n 0, 1, 0), (211, .ldc 216, 2, 0), (213, .invokevirtual 163, 3, 0), (216, .ifCond .eq 50, 3, 266), (219, .bipush 122, 2, 0), (221, .iconst 2, 1, 0), (222, .aload_n 0, 1, 0), (223, .getfield 31, 3, 0), (226, .iconst 3, 1, 0), (227, .iaload, 1, 0), (228, .imul, 1, 0), (229, .iadd, 1, 0), (230, .istore_n 2, 1, 0), (231, .aload_n 0, 1, 0), (232, .getfield 31, 3, 0), (235, .iload_n 2, 1, 0), (236, .aload_n 0, 1, 0), (237, .invokevirtual 197, 3, 0), (240, .iastore, 1, 0), (241, .aload_n 0, 1, 0), (242, .getfield 31, 3, 0), (245, .iload_n 2, 1, 0), (246, .iconst 1, 1, 0), (247, .iadd, 1, 0), (248, .aload_n 0, 1, 0), (249, .invokevirtual 200, 3, 0), (252, .iastore, 1, 0), (253, .aload_n 0, 1, 0), (254, .getfield 31, 3, 0), (257, .iconst 3, 1, 0), (258, .dup2, 1, 0), (259, .iaload, 1, 0), (260, .iconst 1, 1, 0), (261, .iadd, 1, 0), (262, .iastore, 1, 0), (263, .goto 184, 3, 447), (266, .aload_n 0, 1, 0), (267, .ldc 218, 2, 0), (269, .invokevirtual 163, 3, 0), (272, .ifCond .eq 10, 3, 282), (275, .aload_n 0, 1, 0), (276, .invokevirtual 234, 3, 0), (279, .goto 168, 3, 447), (282, .aload_n 0, 1, 0), (283, .ldc 220, 2, 0), (285, .invokevirtual 163, 3, 0), (288, .ifCond .eq 12, 3, 300), (291, .aload_n 0, 1, 0), (292, .bipush 8, 2, 0), (294, .invokevirtual 237, 3, 0), (297, .goto 150, 3, 447), (300, .aload_n 0, 1, 0), (301, .ldc 222, 2, 0), (303, .invokevirtual 163, 3, 0), (306, .ifCond .eq 32, 3, 338), (309, .aload_n 0, 1, 0), (310, .sipush 146, 3, 0), (313, .iconst 2, 1, 0), (314, .aload_n 0, 1, 0), (315, .getfield 31, 3, 0), (318, .iconst 4, 1, 0), (319, .iaload, 1, 0), (320, .imul, 1, 0), (321, .iadd, 1, 0), (322, .invokevirtual 237, 3, 0), (325, .aload_n 0, 1, 0), (326, .getfield 31, 3, 0), (329, .iconst 4, 1, 0), (330, .dup2, 1, 0), (331, .iaload, 1, 0), (332, .iconst 1, 1, 0), (333, .iadd, 1, 0), (334, .iastore, 1, 0), (335, .goto 112, 3, 447), (338, .aload_n 0, 1, 0), (339, .ldc 224, 2, 0), (341, .invokevirtual 163, 3, 0), (344, .ifCond .eq 42, 3, 386), (347, .aload_n 0, 1, 0), (348, .getfield 31, 3, 0), (351, .sipush 154, 3, 0), (354, .iconst 2, 1, 0), (355, .aload_n 0, 1, 0), (356, .getfield 31, 3, 0), (359, .iconst 5, 1, 0), (360, .iaload, 1, 0), (361, .imul, 1, 0), (362, .iadd, 1, 0), (363, .aload_n 0, 1, 0), (364, .ldc 240, 2, 0), (366, .iconst 1, 1, 0), (367, .bipush 9, 2, 0), (369, .invokevirtual 189, 3, 0), (372, .iastore, 1, 0), (373, .aload_n 0, 1, 0), (374, .getfield 31, 3, 0), (377, .iconst 5, 1, 0), (378, .dup2, 1, 0), (379, .iaload, 1, 0), (380, .iconst 1, 1, 0), (381, .iadd, 1, 0), (382, .iastore, 1, 0), (383, .goto 64, 3, 447), (386, .aload_n 0, 1, 0), (387, .invokevirtual 160, 3, 0), (390, .aload_n 0, 1, 0), (391, .iconst 0, 1, 0), (392, .aload_n 0, 1, 0), (393, .getfield 31, 3, 0), (396, .iconst 5, 1, 0), (397, .iaload, 1, 0), (398, .iconst 1, 1, 0), (399, .isub, 1, 0), (400, .invokevirtual 174, 3, 0), (403, .istore_n 2, 1, 0), (404, .aload_n 0, 1, 0), (405, .iload_n 2, 1, 0), (406, .iconst 1, 1, 0), (407, .iadd, 1, 0), (408, .aload_n 0, 1, 0), (409, .getfield 31, 3, 0), (412, .iconst 5, 1, 0), (413, .iaload, 1, 0), (414, .iconst 1, 1, 0), (415, .isub, 1, 0), (416, .invokevirtual 174, 3, 0), (419, .istore_n 3, 1, 0), (420, .aload_n 0, 1, 0), (421, .invokevirtual 144, 3, 0), (424, .ifCond .eq 23, 3, 447), (427, .aload_n 0, 1, 0), (428, .getfield 31, 3, 0), (431, .sipush 154, 3, 0), (434, .iconst 2, 1, 0), (435, .iload_n 3, 1, 0), (436, .imul, 1, 0), (437, .iadd, 1, 0), (438, .iconst 1, 1, 0), (439, .iadd, 1, 0), (440, .dup2, 1, 0), (441, .iaload, 1, 0), (442, .iconst 1, 1, 0), (443, .iload_n 2, 1, 0), (444, .ishl, 1, 0), (445, .ior, 1, 0), (446, .iastore, 1, 0), (447, .return_, 1, 0)], ([(31, 11, 14, 3, 5, 203)], [(156, 0, 242, 6, 117), (166, 0, 214, 6, 123), (144, 0, 228, 6, 100), (163, 0, 309, 6, 113), (228, 0, 290, 6, 149), (231, 0, 291, 6, 157), (197, 0, 225, 6, 165), (200, 0, 200, 6, 169), (234, 0, 295, 6, 178), (237, 0, 294, 6, 190), (189, 0, 314, 6, 128), (160, 0, 180, 6, 86), (174, 0, 279, 6, 132)], [], [], []), (11, (6, 140), (1, 13), (6, 139), (0, 101)))
-- DoorSchoolModel.readRule(I)V
noncomputable def mr_294 : MR := ((yX11_readRule, cX11_readRule, 4, 1, none), [(0, .aload_n 0, 1, 0), (1, .invokevirtual 197, 3, 0), (4, .istore_n 2, 1, 0), (5, .aload_n 0, 1, 0), (6, .invokevirtual 144, 3, 0), (9, .ifCond .eq 27, 3, 36), (12, .aload_n 0, 1, 0), (13, .getfield 120, 3, 0), (16, .iconst 2, 1, 0), (17, .if_icmp .ne 19, 3, 36), (20, .aload_n 0, 1, 0), (21, .getfield 131, 3, 0), (24, .iload_n 2, 1, 0), (25, .iconst (-1), 1, 0), (26, .ixor, 1, 0), (27, .iand, 1, 0), (28, .ifCond .eq 8, 3, 36), (31, .aload_n 0, 1, 0), (32, .iconst 2, 1, 0), (33, .invokevirtual 166, 3, 0), (36, .aload_n 0, 1, 0), (37, .invokevirtual 197, 3, 0), (40, .istore_n 3, 1, 0), (41, .aload_n 0, 1, 0), (42, .invokevirtual 144, 3, 0), (45, .ifCond .ne 4, 3, 49), (48, .return_, 1, 0), (49, .aload_n 0, 1, 0), (50, .getfield 31, 3, 0), (53, .iload_n 1, 1, 0), (54, .iload_n 2, 1, 0), (55, .iastore, 1, 0), (56, .aload_n 0, 1, 0), (57, .getfield 31, 3, 0), (60, .iload_n 1, 1, 0), (61, .iconst 1, 1, 0), (62, .iadd, 1, 0), (63, .iload_n 3, 1, 0), (64, .iastore, 1, 0), (65, .return_, 1, 0)], ([(120, 11, 10, 0, 5, 199), (131, 11, 11, 0, 5, 200), (31, 11, 14, 3, 5, 203)], [(197, 0, 225, 6, 165), (144, 0, 228, 6, 100), (166, 0, 214, 6, 123)], [], [], []), (11, (6, 193), (1, 13), (6, 192), (0, 110)))
-- DoorSchoolModel.readTwin()V
noncomputable def mr_295 : MR := ((yX11_readTwin, cX11_readTwin, 3, 0, none), [(0, .aload_n 0, 1, 0), (1, .aload_n 0, 1, 0), (2, .getfield 31, 3, 0), (5, .iconst 2, 1, 0), (6, .iaload, 1, 0), (7, .invokevirtual 193, 3, 0), (10, .ifCond .eq 30, 3, 40), (13, .aload_n 0, 1, 0), (14, .aload_n 0, 1, 0), (15, .getfield 131, 3, 0), (18, .invokevirtual 206, 3, 0), (21, .ifCond .ne 14, 3, 35), (24, .aload_n 0, 1, 0), (25, .aload_n 0, 1, 0), (26, .getfield 131, 3, 0), (29, .invokevirtual 209, 3, 0), (32, .ifCond .eq 8, 3, 40), (35, .aload_n 0, 1, 0), (36, .iconst 2, 1, 0), (37, .invokevirtual 166, 3, 0), (40, .aload_n 0, 1, 0), (41, .iconst 0, 1, 0), (42, .aload_n 0, 1, 0), (43, .getfield 31, 3, 0), (46, .iconst 2, 1, 0), (47, .iaload, 1, 0), (48, .iconst 1, 1, 0), (49, .isub, 1, 0), (50, .invokevirtual 174, 3, 0), (53, .istore_n 1, 1, 0), (54, .aload_n 0, 1, 0), (55, .aload_n 0, 1, 0), (56, .getfield 31, 3, 0), (59, .iconst 2, 1, 0), (60, .iaload, 1, 0), (61, .invokevirtual 193, 3, 0), (64, .ifCond .eq 27, 3, 91), (67, .aload_n 0, 1, 0), (68, .getfield 131, 3, 0), (71, .iload_n 1, 1, 0), (72, .if_icmp .eq 14, 3, 86), (75, .aload_n 0, 1, 0), (76, .aload_n 0, 1, 0), (77, .getfield 131, 3, 0), (80, .invokevirtual 206, 3, 0), (83, .ifCond .eq 8, 3, 91), (86, .aload_n 0, 1, 0), (87, .iconst 2, 1, 0), (88, .invokevirtual 166, 3, 0), (91, .aload_n 0, 1, 0), (92, .iconst 0, 1, 0), (93, .aload_n 0, 1, 0), (94, .getfield 31, 3, 0), (97, .iconst 2, 1, 0), (98, .iaload, 1, 0), (99, .iconst 1, 1, 0), (100, .isub, 1, 0), (101, .invokevirtual 174, 3, 0), (104, .istore_n 2, 1, 0), (105, .aload_n 0, 1, 0), (106, .invokevirtual 144, 3, 0), (109, .ifCond .eq 17, 3, 126), (112, .aload_n 0, 1, 0), (113, .getfield 31, 3, 0), (116, .bipush 10, 2, 0), (118, .iconst 4, 1, 0), (119, .iload_n 1, 1, 0), (120, .imul, 1, 0), (121, .iadd, 1, 0), (122, .iconst 3, 1, 0), (123, .iadd, 1, 0), (124, .iload_n 2, 1, 0), (125, .iastore, 1, 0), (126, .return_, 1, 0)], ([(31, 11, 14, 3, 5, 203), (131, 11, 11, 0, 5, 200)], [(193, 0, 251, 6, 161), (206, 0, 208, 6, 182), (209, 0, 248, 6, 186), (166, 0, 214, 6, 123), (174, 0, 279, 6, 132), (144, 0, 228, 6, 100)], [], [], []), (11, (6, 181), (1, 13), (6, 180), (0, 107)))
-- DoorSchoolModel.real(I)I
noncomputable def mr_296 : MR := ((yX11_real, cX11_real, 2, 1, (some .int)), [(0, .aload_n 0, 1, 0), (1, .iload_n 1, 1, 0), (2, .iconst 3, 1, 0), (3, .invokevirtual 265, 3, 0), (6, .iconst (-1), 1, 0), (7, .if_icmp .ne 7, 3, 14), (10, .iload_n 1, 1, 0), (11, .goto 9, 3, 20), (14, .aload_n 0, 1, 0), (15, .iload_n 1, 1, 0), (16, .iconst 3, 1, 0), (17, .invokevirtual 265, 3, 0), (20, .ireturn, 1, 0)], ([], [(265, 0, 281, 6, 204)], [], [], []), (11, (7, 26), (1, 13), (7, 25), (0, 121)))
-- DoorSchoolModel.rest(I)I
noncomputable def mr_297 : MR := ((yX11_rest, cX11_rest, 4, 1, (some .int)), [(0, .aload_n 0, 1, 0), (1, .iload_n 1, 1, 0), (2, .invokevirtual 302, 3, 0), (5, .ifCond .ne 6, 3, 11), (8, .bipush (-2), 2, 0), (10, .ireturn, 1, 0), (11, .iconst 0, 1, 0), (12, .istore_n 2, 1, 0), (13, .iload_n 2, 1, 0), (14, .iconst 3, 1, 0), (15, .if_icmp .ge 50, 3, 65), (18, .iconst 0, 1, 0), (19, .istore_n 3, 1, 0), (20, .iload_n 3, 1, 0), (21, .aload_n 0, 1, 0), (22, .invokevirtual 97, 3, 0), (25, .if_icmp .ge 34, 3, 59), (28, .aload_n 0, 1, 0), (29, .iload_n 3, 1, 0), (30, .invokevirtual 371, 3, 0), (33, .ifCond .eq 20, 3, 53), (36, .aload_n 0, 1, 0), (37, .iload_n 1, 1, 0), (38, .iload_n 2, 1, 0), (39, .iload_n 3, 1, 0), (40, .invokevirtual 377, 3, 0), (43, .ifCond .eq 10, 3, 53), (46, .bipush 100, 2, 0), (48, .iload_n 2, 1, 0), (49, .imul, 1, 0), (50, .iload_n 3, 1, 0), (51, .iadd, 1, 0), (52, .ireturn, 1, 0), (53, .iinc 3 1, 3, 0), (56, .goto (-36), 3, 20), (59, .iinc 2 1, 3, 0), (62, .goto (-49), 3, 13), (65, .iconst (-1), 1, 0), (66, .ireturn, 1, 0)], ([], [(302, 0, 245, 6, 199), (97, 0, 260, 6, 236), (371, 0, 258, 7, 228), (377, 0, 252, 8, 0)], [], [], []), (11, (8, 7), (1, 13), (8, 5), (8, 6)))
-- DoorSchoolModel.rests(I)I
noncomputable def mr_298 : MR := ((yX11_rests, cX11_rests, 5, 1, (some .int)), [(0, .aload_n 0, 1, 0), (1, .iload_n 1, 1, 0), (2, .invokevirtual 302, 3, 0), (5, .ifCond .ne 6, 3, 11), (8, .bipush (-2), 2, 0), (10, .ireturn, 1, 0), (11, .iconst 0, 1, 0), (12, .istore_n 2, 1, 0), (13, .iconst 0, 1, 0), (14, .istore_n 3, 1, 0), (15, .iload_n 3, 1, 0), (16, .iconst 3, 1, 0), (17, .if_icmp .ge 55, 3, 72), (20, .iconst 0, 1, 0), (21, .istore 4, 2, 0), (23, .iload 4, 2, 0), (25, .aload_n 0, 1, 0), (26, .invokevirtual 97, 3, 0), (29, .if_icmp .ge 37, 3, 66), (32, .iload_n 2, 1, 0), (33, .aload_n 0, 1, 0), (34, .iload 4, 2, 0), (36, .invokevirtual 371, 3, 0), (39, .ifCond .eq 18, 3, 57), (42, .aload_n 0, 1, 0), (43, .iload_n 1, 1, 0), (44, .iload_n 3, 1, 0), (45, .iload 4, 2, 0), (47, .invokevirtual 377, 3, 0), (50, .ifCond .eq 7, 3, 57), (53, .iconst 1, 1, 0), (54, .goto 4, 3, 58), (57, .iconst 0, 1, 0), (58, .iadd, 1, 0), (59, .istore_n 2, 1, 0), (60, .iinc 4 1, 3, 0), (63, .goto (-40), 3, 23), (66, .iinc 3 1, 3, 0), (69, .goto (-54), 3, 15), (72, .iload_n 2, 1, 0), (73, .ireturn, 1, 0)], ([], [(302, 0, 245, 6, 199), (97, 0, 260, 6, 236), (371, 0, 258, 7, 228), (377, 0, 252, 8, 0)], [], [], []), (11, (7, 239), (1, 13), (7, 237), (7, 238)))
-- DoorSchoolModel.row(III)I
noncomputable def mr_299 : MR := ((yX11_row, cX11_row, 5, 3, (some .int)), [(0, .iload_n 1, 1, 0), (1, .invokestatic 389, 3, 0), (4, .ifCond .eq 21, 3, 25), (7, .iload_n 2, 1, 0), (8, .i2l, 1, 0), (9, .lconst 0, 1, 0), (10, .ldc2_w 305, 3, 0), (13, .invokestatic 89, 3, 0), (16, .ifCond .eq 9, 3, 25), (19, .iload_n 3, 1, 0), (20, .bipush 60, 2, 0), (22, .if_icmp .le 6, 3, 28), (25, .bipush (-2), 2, 0), (27, .ireturn, 1, 0), (28, .iload_n 3, 1, 0), (29, .ifCond .ge 6, 3, 35), (32, .bipush (-3), 2, 0), (34, .ireturn, 1, 0), (35, .aload_n 0, 1, 0), (36, .getfield 67, 3, 0), (39, .iload_n 1, 1, 0), (40, .iload_n 3, 1, 0), (41, .iastore, 1, 0), (42, .aload_n 0, 1, 0), (43, .getfield 70, 3, 0), (46, .iload_n 1, 1, 0), (47, .iload_n 2, 1, 0), (48, .iastore, 1, 0), (49, .iconst 0, 1, 0), (50, .istore 4, 2, 0), (52, .iload 4, 2, 0), (54, .bipush 60, 2, 0), (56, .if_icmp .ge 22, 3, 78), (59, .aload_n 0, 1, 0), (60, .getfield 73, 3, 0), (63, .bipush 60, 2, 0), (65, .iload_n 1, 1, 0), (66, .imul, 1, 0), (67, .iload 4, 2, 0), (69, .iadd, 1, 0), (70, .lconst 0, 1, 0), (71, .lastore, 1, 0), (72, .iinc 4 1, 3, 0), (75, .goto (-23), 3, 52), (78, .iconst 0, 1, 0), (79, .ireturn, 1, 0)], ([(67, 11, 32, 3, 5, 221), (70, 11, 33, 3, 5, 222), (73, 11, 34, 3, 5, 223)], [(389, 2, 257, 8, 36), (89, 2, 240, 6, 63)], [], [(305, 3, 6, 203)], []), (11, (8, 190), (1, 13), (8, 188), (8, 189)))
-- DoorSchoolModel.rule(II)I
noncomputable def mr_300 : MR := ((yX11_rule, cX11_rule, 4, 2, (some .int)), [(0, .aload_n 0, 1, 0), (1, .iload_n 1, 1, 0), (2, .invokevirtual 302, 3, 0), (5, .ifCond .eq 15, 3, 20), (8, .iload_n 2, 1, 0), (9, .i2l, 1, 0), (10, .lconst 0, 1, 0), (11, .ldc2_w 87, 3, 0), (14, .invokestatic 89, 3, 0), (17, .ifCond .ne 6, 3, 23), (20, .bipush (-2), 2, 0), (22, .ireturn, 1, 0), (23, .aload_n 0, 1, 0), (24, .invokevirtual 290, 3, 0), (27, .aload_n 0, 1, 0), (28, .iload_n 1, 1, 0), (29, .invokevirtual 296, 3, 0), (32, .aload_n 0, 1, 0), (33, .invokevirtual 284, 3, 0), (36, .istore_n 3, 1, 0), (37, .iload_n 3, 1, 0), (38, .iconst (-1), 1, 0), (39, .if_icmp .eq 8, 3, 47), (42, .iload_n 2, 1, 0), (43, .iconst 2, 1, 0), (44, .if_icmp .ne 7, 3, 51), (47, .iload_n 3, 1, 0), (48, .goto 22, 3, 70), (51, .iload_n 2, 1, 0), (52, .ifCond .ne 12, 3, 64), (55, .aload_n 0, 1, 0), (56, .getfield 34, 3, 0), (59, .iload_n 3, 1, 0), (60, .iaload, 1, 0), (61, .goto 9, 3, 70), (64, .aload_n 0, 1, 0), (65, .getfield 37, 3, 0), (68, .iload_n 3, 1, 0), (69, .iaload, 1, 0), (70, .ireturn, 1, 0)], ([(34, 11, 15, 3, 5, 204), (37, 11, 16, 3, 5, 205)], [(302, 0, 245, 6, 199), (89, 2, 240, 6, 63), (290, 0, 263, 7, 19), (296, 0, 262, 7, 27), (284, 0, 220, 7, 39)], [], [(87, 2, 6, 62)], []), (11, (7, 77), (1, 13), (7, 75), (7, 76)))
-- DoorSchoolModel.rules(I)I
noncomputable def mr_301 : MR := ((yX11_rules, cX11_rules, 4, 1, (some .int)), [(0, .aload_n 0, 1, 0), (1, .iload_n 1, 1, 0), (2, .invokevirtual 302, 3, 0), (5, .ifCond .ne 6, 3, 11), (8, .bipush (-2), 2, 0), (10, .ireturn, 1, 0), (11, .aload_n 0, 1, 0), (12, .invokevirtual 290, 3, 0), (15, .aload_n 0, 1, 0), (16, .iload_n 1, 1, 0), (17, .invokevirtual 296, 3, 0), (20, .iconst 0, 1, 0), (21, .istore_n 2, 1, 0), (22, .iconst 0, 1, 0), (23, .istore_n 3, 1, 0), (24, .iload_n 3, 1, 0), (25, .aload_n 0, 1, 0), (26, .getfield 253, 3, 0), (29, .if_icmp .ge 30, 3, 59), (32, .iload_n 2, 1, 0), (33, .aload_n 0, 1, 0), (34, .aload_n 0, 1, 0), (35, .getfield 40, 3, 0), (38, .iload_n 3, 1, 0), (39, .iaload, 1, 0), (40, .invokevirtual 275, 3, 0), (43, .ifCond .eq 7, 3, 50), (46, .iconst 1, 1, 0), (47, .goto 4, 3, 51), (50, .iconst 0, 1, 0), (51, .iadd, 1, 0), (52, .istore_n 2, 1, 0), (53, .iinc 3 1, 3, 0), (56, .goto (-32), 3, 24), (59, .iload_n 2, 1, 0), (60, .ireturn, 1, 0)], ([(253, 11, 18, 0, 5, 207), (40, 11, 17, 3, 5, 206)], [(302, 0, 245, 6, 199), (290, 0, 263, 7, 19), (296, 0, 262, 7, 27), (275, 0, 243, 7, 43)], [], [], []), (11, (7, 81), (1, 13), (7, 79), (7, 80)))
-- DoorSchoolModel.same(I)I
noncomputable def mr_302 : MR := ((yX11_same, cX11_same, 5, 1, (some .int)), [(0, .aload_n 0, 1, 0), (1, .iload_n 1, 1, 0), (2, .iconst 1, 1, 0), (3, .invokevirtual 396, 3, 0), (6, .istore_n 2, 1, 0), (7, .iload_n 2, 1, 0), (8, .ifCond .ge 5, 3, 13), (11, .iload_n 2, 1, 0), (12, .ireturn, 1, 0), (13, .iconst 0, 1, 0), (14, .istore_n 3, 1, 0), (15, .iconst 0, 1, 0), (16, .istore 4, 2, 0), (18, .iload 4, 2, 0), (20, .aload_n 0, 1, 0), (21, .getfield 9, 3, 0), (24, .iconst 2, 1, 0), (25, .iaload, 1, 0), (26, .if_icmp .ge 34, 3, 60), (29, .iload_n 3, 1, 0), (30, .aload_n 0, 1, 0), (31, .iload_n 1, 1, 0), (32, .aload_n 0, 1, 0), (33, .iload 4, 2, 0), (35, .invokevirtual 317, 3, 0), (38, .invokevirtual 400, 3, 0), (41, .ifCond .eq 10, 3, 51), (44, .iconst 1, 1, 0), (45, .iload 4, 2, 0), (47, .ishl, 1, 0), (48, .goto 4, 3, 52), (51, .iconst 0, 1, 0), (52, .ior, 1, 0), (53, .istore_n 3, 1, 0), (54, .iinc 4 1, 3, 0), (57, .goto (-39), 3, 18), (60, .iload_n 3, 1, 0), (61, .ireturn, 1, 0)], ([(9, 11, 1, 3, 5, 190)], [(396, 0, 189, 8, 32), (317, 0, 204, 7, 15), (400, 0, 209, 8, 43)], [], [], []), (11, (8, 31), (1, 13), (8, 29), (8, 30)))
-- DoorSchoolModel.school()I
noncomputable def mr_303 : MR := ((yX11_school, cX11_school, 2, 0, (some .int)), [(0, .aload_n 0, 1, 0), (1, .aload_n 0, 1, 0), (2, .getfield 104, 3, 0), (5, .putfield 107, 3, 0), (8, .aload_n 0, 1, 0), (9, .iconst 0, 1, 0), (10, .putfield 104, 3, 0), (13, .aload_n 0, 1, 0), (14, .iconst 0, 1, 0), (15, .putfield 110, 3, 0), (18, .aload_n 0, 1, 0), (19, .iconst 0, 1, 0), (20, .putfield 141, 3, 0), (23, .aload_n 0, 1, 0), (24, .iconst (-1), 1, 0), (25, .putfield 27, 3, 0), (28, .iconst 0, 1, 0), (29, .istore_n 1, 1, 0), (30, .iload_n 1, 1, 0), (31, .sipush 226, 3, 0), (34, .if_icmp .ge 16, 3, 50), (37, .aload_n 0, 1, 0), (38, .getfield 31, 3, 0), (41, .iload_n 1, 1, 0), (42, .iconst 0, 1, 0), (43, .iastore, 1, 0), (44, .iinc 1 1, 3, 0), (47, .goto (-17), 3, 30), (50, .aload_n 0, 1, 0), (51, .invokevirtual 160, 3, 0), (54, .aload_n 0, 1, 0), (55, .invokevirtual 144, 3, 0), (58, .ifCond .eq 17, 3, 75), (61, .aload_n 0, 1, 0), (62, .getfield 120, 3, 0), (65, .ifCond .eq 10, 3, 75), (68, .aload_n 0, 1, 0), (69, .invokevirtual 250, 3, 0), (72, .goto (-18), 3, 54), (75, .aload_n 0, 1, 0), (76, .invokevirtual 144, 3, 0), (79, .ifCond .ne 6, 3, 85), (82, .bipush (-4), 2, 0), (84, .ireturn, 1, 0), (85, .iconst 0, 1, 0), (86, .istore_n 1, 1, 0), (87, .iload_n 1, 1, 0), (88, .sipush 226, 3, 0), (91, .if_icmp .ge 21, 3, 112), (94, .aload_n 0, 1, 0), (95, .getfield 9, 3, 0), (98, .iload_n 1, 1, 0), (99, .aload_n 0, 1, 0), (100, .getfield 31, 3, 0), (103, .iload_n 1, 1, 0), (104, .iaload, 1, 0), (105, .iastore, 1, 0), (106, .iinc 1 1, 3, 0), (109, .goto (-22), 3, 87), (112, .aload_n 0, 1, 0), (113, .getfield 9, 3, 0), (116, .bipush 7, 2, 0), (118, .iaload, 1, 0), (119, .ireturn, 1, 0)], ([(104, 11, 5, 0, 5, 194), (107, 11, 7, 0, 5, 196), (110, 11, 8, 0, 5, 197), (141, 11, 12, 0, 5, 201), (27, 11, 13, 0, 5, 202), (31, 11, 14, 3, 5, 203), (120, 11, 10, 0, 5, 199), (9, 11, 1, 3, 5, 190)], [(160, 0, 180, 6, 86), (144, 0, 228, 6, 100), (250, 0, 292, 6, 104)], [], [], []), (11, (6, 85), (1, 13), (6, 83), (6, 84)))
-- DoorSchoolModel.see(I)I
noncomputable def mr_304 : MR := ((yX11_see, cX11_see, 2, 1, (some .int)), [(0, .iload_n 1, 1, 0), (1, .aload_n 0, 1, 0), (2, .getfield 107, 3, 0), (5, .if_icmp .ge 16, 3, 21), (8, .aload_n 0, 1, 0), (9, .getfield 20, 3, 0), (12, .iload_n 1, 1, 0), (13, .baload, 1, 0), (14, .sipush 255, 3, 0), (17, .iand, 1, 0), (18, .goto 4, 3, 22), (21, .iconst (-1), 1, 0), (22, .ireturn, 1, 0)], ([(107, 11, 7, 0, 5, 196), (20, 11, 4, 3, 5, 193)], [], [], [], []), (11, (6, 93), (1, 13), (6, 92), (0, 92)))
-- DoorSchoolModel.sets(III)I
noncomputable def mr_305 : MR := ((yX11_sets, cX11_sets, 6, 3, (some .int)), [(0, .iload_n 1, 1, 0), (1, .invokestatic 347, 3, 0), (4, .ifCond .eq 23, 3, 27), (7, .aload_n 0, 1, 0), (8, .iload_n 2, 1, 0), (9, .invokevirtual 324, 3, 0), (12, .ifCond .eq 15, 3, 27), (15, .iload_n 3, 1, 0), (16, .i2l, 1, 0), (17, .lconst 0, 1, 0), (18, .ldc2_w 353, 3, 0), (21, .invokestatic 89, 3, 0), (24, .ifCond .ne 6, 3, 30), (27, .bipush (-2), 2, 0), (29, .ireturn, 1, 0), (30, .aload_n 0, 1, 0), (31, .invokevirtual 290, 3, 0), (34, .iconst 0, 1, 0), (35, .istore 4, 2, 0), (37, .iconst 0, 1, 0), (38, .istore 5, 2, 0), (40, .iload 5, 2, 0), (42, .aload_n 0, 1, 0), (43, .invokevirtual 101, 3, 0), (46, .if_icmp .gt 39, 3, 85), (49, .iload 4, 2, 0), (51, .iload 5, 2, 0), (53, .invokestatic 256, 3, 0), (56, .iload_n 3, 1, 0), (57, .if_icmp .ne 18, 3, 75), (60, .aload_n 0, 1, 0), (61, .iload_n 1, 1, 0), (62, .iload 5, 2, 0), (64, .iload_n 2, 1, 0), (65, .invokevirtual 343, 3, 0), (68, .ifCond .eq 7, 3, 75), (71, .iconst 1, 1, 0), (72, .goto 4, 3, 76), (75, .iconst 0, 1, 0), (76, .iadd, 1, 0), (77, .istore 4, 2, 0), (79, .iinc 5 1, 3, 0), (82, .goto (-42), 3, 40), (85, .iload 4, 2, 0), (87, .ireturn, 1, 0)], ([], [(347, 2, 259, 7, 158), (324, 0, 186, 7, 94), (89, 2, 240, 6, 63), (290, 0, 263, 7, 19), (101, 0, 183, 7, 98), (256, 2, 194, 7, 0), (343, 0, 266, 7, 165)], [], [(353, 16, 7, 181)], []), (11, (7, 180), (1, 13), (7, 178), (7, 179)))
-- DoorSchoolModel.storm(III)I
noncomputable def mr_306 : MR := ((yX11_storm, cX11_storm, 5, 3, (some .int)), [(0, .iload_n 1, 1, 0), (1, .invokestatic 468, 3, 0), (4, .ifCond .eq 23, 3, 27), (7, .aload_n 0, 1, 0), (8, .iload_n 2, 1, 0), (9, .invokevirtual 302, 3, 0), (12, .ifCond .eq 15, 3, 27), (15, .iload_n 3, 1, 0), (16, .i2l, 1, 0), (17, .lconst 0, 1, 0), (18, .ldc2_w 87, 3, 0), (21, .invokestatic 89, 3, 0), (24, .ifCond .ne 6, 3, 30), (27, .bipush (-2), 2, 0), (29, .ireturn, 1, 0), (30, .aload_n 0, 1, 0), (31, .iload_n 1, 1, 0), (32, .i2l, 1, 0), (33, .iload_n 2, 1, 0), (34, .invokevirtual 471, 3, 0), (37, .istore 4, 2, 0), (39, .iload_n 3, 1, 0), (40, .ifCond .ne 8, 3, 48), (43, .iload 4, 2, 0), (45, .goto 21, 3, 66), (48, .iload_n 3, 1, 0), (49, .iconst 1, 1, 0), (50, .if_icmp .ne 12, 3, 62), (53, .aload_n 0, 1, 0), (54, .iload 4, 2, 0), (56, .invokevirtual 330, 3, 0), (59, .goto 7, 3, 66), (62, .aload_n 0, 1, 0), (63, .getfield 453, 3, 0), (66, .ireturn, 1, 0)], ([(453, 11, 31, 0, 5, 220)], [(468, 2, 256, 8, 165), (302, 0, 245, 6, 199), (89, 2, 240, 6, 63), (471, 0, 307, 8, 169), (330, 0, 274, 7, 106)], [], [(87, 2, 6, 62)], []), (11, (8, 164), (1, 13), (8, 162), (8, 163)))
-- DoorSchoolModel.stormed(JI)I
noncomputable def mr_307 : MR := ((yX11_stormed, cX11_stormed, 8, 2, (some .int)), [(0, .lload_n 1, 1, 0), (1, .lstore 4, 2, 0), (3, .aload_n 0, 1, 0), (4, .iconst 0, 1, 0), (5, .putfield 453, 3, 0), (8, .aload_n 0, 1, 0), (9, .iload_n 3, 1, 0), (10, .invokevirtual 317, 3, 0), (13, .istore 6, 2, 0), (15, .iconst 0, 1, 0), (16, .istore 7, 2, 0), (18, .iload 7, 2, 0), (20, .aload_n 0, 1, 0), (21, .invokevirtual 97, 3, 0), (24, .if_icmp .ge 68, 3, 92), (27, .ldc2_w 456, 3, 0), (30, .lload 4, 2, 0), (32, .lmul, 1, 0), (33, .ldc2_w 458, 3, 0), (36, .ladd, 1, 0), (37, .ldc2_w 460, 3, 0), (40, .lrem, 1, 0), (41, .lstore 4, 2, 0), (43, .lload 4, 2, 0), (45, .ldc2_w 462, 3, 0), (48, .ldiv, 1, 0), (49, .ldc2_w 464, 3, 0), (52, .lrem, 1, 0), (53, .aload_n 0, 1, 0), (54, .iload_n 3, 1, 0), (55, .iconst 1, 1, 0), (56, .invokevirtual 265, 3, 0), (59, .i2l, 1, 0), (60, .lcmp, 1, 0), (61, .ifCond .lt 6, 3, 67), (64, .goto 22, 3, 86), (67, .iload 6, 2, 0), (69, .iconst 1, 1, 0), (70, .iload 7, 2, 0), (72, .ishl, 1, 0), (73, .ixor, 1, 0), (74, .istore 6, 2, 0), (76, .aload_n 0, 1, 0), (77, .dup, 1, 0), (78, .getfield 453, 3, 0), (81, .iconst 1, 1, 0), (82, .iadd, 1, 0), (83, .putfield 453, 3, 0), (86, .iinc 7 1, 3, 0), (89, .goto (-71), 3, 18), (92, .iload 6, 2, 0), (94, .ireturn, 1, 0)], ([(453, 11, 31, 0, 5, 220)], [(317, 0, 204, 7, 15), (97, 0, 260, 6, 236), (265, 0, 281, 6, 204)], [], [(456, 1103515245, 8, 173), (458, 12345, 8, 174), (460, 2147483648, 8, 175), (462, 65536, 8, 176), (464, 100, 8, 177)], []), (11, (8, 172), (1, 13), (8, 171), (0, 165)))
-- DoorSchoolModel.sure(II)I
noncomputable def mr_308 : MR := ((yX11_sure, cX11_sure, 6, 2, (some .int)), [(0, .aload_n 0, 1, 0), (1, .iload_n 1, 1, 0), (2, .iload_n 2, 1, 0), (3, .i2l, 1, 0), (4, .lconst 0, 1, 0), (5, .lconst 1, 1, 0), (6, .invokestatic 89, 3, 0), (9, .invokevirtual 396, 3, 0), (12, .istore_n 3, 1, 0), (13, .iload_n 3, 1, 0), (14, .ifCond .ge 5, 3, 19), (17, .iload_n 3, 1, 0), (18, .ireturn, 1, 0), (19, .aload_n 0, 1, 0), (20, .invokevirtual 290, 3, 0), (23, .aload_n 0, 1, 0), (24, .invokevirtual 101, 3, 0), (27, .istore 4, 2, 0), (29, .iconst 0, 1, 0), (30, .istore 5, 2, 0), (32, .iload 5, 2, 0), (34, .aload_n 0, 1, 0), (35, .getfield 253, 3, 0), (38, .if_icmp .ge 52, 3, 90), (41, .aload_n 0, 1, 0), (42, .iload_n 1, 1, 0), (43, .aload_n 0, 1, 0), (44, .getfield 40, 3, 0), (47, .iload 5, 2, 0), (49, .iaload, 1, 0), (50, .invokevirtual 400, 3, 0), (53, .ifCond .eq 31, 3, 84), (56, .iload 4, 2, 0), (58, .iload_n 2, 1, 0), (59, .ifCond .ne 13, 3, 72), (62, .aload_n 0, 1, 0), (63, .getfield 40, 3, 0), (66, .iload 5, 2, 0), (68, .iaload, 1, 0), (69, .goto 12, 3, 81), (72, .aload_n 0, 1, 0), (73, .getfield 40, 3, 0), (76, .iload 5, 2, 0), (78, .iaload, 1, 0), (79, .iconst (-1), 1, 0), (80, .ixor, 1, 0), (81, .iand, 1, 0), (82, .istore 4, 2, 0), (84, .iinc 5 1, 3, 0), (87, .goto (-55), 3, 32), (90, .iload 4, 2, 0), (92, .ireturn, 1, 0)], ([(253, 11, 18, 0, 5, 207), (40, 11, 17, 3, 5, 206)], [(89, 2, 240, 6, 63), (396, 0, 189, 8, 32), (290, 0, 263, 7, 19), (101, 0, 183, 7, 98), (400, 0, 209, 8, 43)], [], [], []), (11, (8, 90), (1, 13), (8, 88), (8, 89)))
-- DoorSchoolModel.takes(Ljava/lang/String;)Z
noncomputable def mr_309 : MR := ((yX11_takes, cX11_takes, 3, 1, (some .boolean)), [(0, .aload_n 0, 1, 0), (1, .aload_n 1, 1, 0), (2, .invokevirtual 156, 3, 0), (5, .istore_n 2, 1, 0), (6, .iload_n 2, 1, 0), (7, .ifCond .eq 7, 3, 14), (10, .aload_n 0, 1, 0), (11, .invokevirtual 160, 3, 0), (14, .iload_n 2, 1, 0), (15, .ireturn, 1, 0)], ([], [(156, 0, 242, 6, 117), (160, 0, 180, 6, 86)], [], [], []), (11, (6, 116), (1, 13), (6, 115), (0, 96)))
-- DoorSchoolModel.takesOf(I)I
noncomputable def mr_310 : MR := ((yX11_takesOf, cX11_takesOf, 2, 1, (some .int)), [(0, .aload_n 0, 1, 0), (1, .getfield 9, 3, 0), (4, .sipush 154, 3, 0), (7, .iconst 2, 1, 0), (8, .iload_n 1, 1, 0), (9, .imul, 1, 0), (10, .iadd, 1, 0), (11, .iaload, 1, 0), (12, .ireturn, 1, 0)], ([(9, 11, 1, 3, 5, 190)], [], [], [], []), (11, (8, 127), (1, 13), (8, 126), (0, 160)))
-- DoorSchoolModel.teach(III)I
noncomputable def mr_311 : MR := ((yX11_teach, cX11_teach, 5, 3, (some .int)), [(0, .aload_n 0, 1, 0), (1, .iload_n 1, 1, 0), (2, .invokevirtual 302, 3, 0), (5, .ifCond .eq 22, 3, 27), (8, .aload_n 0, 1, 0), (9, .iload_n 2, 1, 0), (10, .i2l, 1, 0), (11, .invokevirtual 313, 3, 0), (14, .ifCond .eq 13, 3, 27), (17, .iload_n 3, 1, 0), (18, .i2l, 1, 0), (19, .lconst 0, 1, 0), (20, .lconst 1, 1, 0), (21, .invokestatic 89, 3, 0), (24, .ifCond .ne 6, 3, 30), (27, .bipush (-2), 2, 0), (29, .ireturn, 1, 0), (30, .aload_n 0, 1, 0), (31, .iload_n 1, 1, 0), (32, .iconst 2, 1, 0), (33, .invokevirtual 265, 3, 0), (36, .bipush 12, 2, 0), (38, .if_icmp .ne 6, 3, 44), (41, .bipush (-3), 2, 0), (43, .ireturn, 1, 0), (44, .aload_n 0, 1, 0), (45, .getfield 9, 3, 0), (48, .bipush 6, 2, 0), (50, .iaload, 1, 0), (51, .bipush 60, 2, 0), (53, .if_icmp .ne 6, 3, 59), (56, .bipush (-5), 2, 0), (58, .ireturn, 1, 0), (59, .iload_n 1, 1, 0), (60, .aload_n 0, 1, 0), (61, .iload_n 1, 1, 0), (62, .iconst 2, 1, 0), (63, .invokevirtual 265, 3, 0), (66, .invokestatic 203, 3, 0), (69, .istore 4, 2, 0), (71, .aload_n 0, 1, 0), (72, .getfield 9, 3, 0), (75, .iload 4, 2, 0), (77, .iload_n 2, 1, 0), (78, .iastore, 1, 0), (79, .aload_n 0, 1, 0), (80, .getfield 9, 3, 0), (83, .iload 4, 2, 0), (85, .iconst 1, 1, 0), (86, .iadd, 1, 0), (87, .iload_n 3, 1, 0), (88, .iastore, 1, 0), (89, .aload_n 0, 1, 0), (90, .getfield 9, 3, 0), (93, .bipush 10, 2, 0), (95, .iconst 4, 1, 0), (96, .iload_n 1, 1, 0), (97, .imul, 1, 0), (98, .iadd, 1, 0), (99, .iconst 2, 1, 0), (100, .iadd, 1, 0), (101, .dup2, 1, 0), (102, .iaload, 1, 0), (103, .iconst 1, 1, 0), (104, .iadd, 1, 0), (105, .iastore, 1, 0), (106, .aload_n 0, 1, 0), (107, .getfield 9, 3, 0), (110, .sipush 166, 3, 0), (113, .aload_n 0, 1, 0), (114, .getfield 9, 3, 0), (117, .bipush 6, 2, 0), (119, .iaload, 1, 0), (120, .iadd, 1, 0), (121, .iload_n 1, 1, 0), (122, .iastore, 1, 0), (123, .aload_n 0, 1, 0), (124, .getfield 9, 3, 0), (127, .bipush 6, 2, 0), (129, .dup2, 1, 0), (130, .iaload, 1, 0), (131, .iconst 1, 1, 0), (132, .iadd, 1, 0), (133, .iastore, 1, 0), (134, .aload_n 0, 1, 0), (135, .iload_n 1, 1, 0), (136, .iconst 2, 1, 0), (137, .invokevirtual 265, 3, 0), (140, .ireturn, 1, 0)], ([(9, 11, 1, 3, 5, 190)], [(302, 0, 245, 6, 199), (313, 0, 250, 7, 11), (89, 2, 240, 6, 63), (265, 0, 281, 6, 204), (203, 2, 272, 6, 175)], [], [], []), (11, (7, 129), (1, 13), (7, 127), (7, 128)))
-- DoorSchoolModel.teachAll(II)V
noncomputable def mr_312 : MR := ((yX11_teachAll, cX11_teachAll, 5, 2, none), [(0, .aload_n 0, 1, 0), (1, .invokevirtual 290, 3, 0), (4, .aload_n 0, 1, 0), (5, .iconst 0, 1, 0), (6, .putfield 380, 3, 0), (9, .aload_n 0, 1, 0), (10, .iconst 0, 1, 0), (11, .putfield 383, 3, 0), (14, .iconst 0, 1, 0), (15, .istore_n 3, 1, 0), (16, .iload_n 3, 1, 0), (17, .aload_n 0, 1, 0), (18, .getfield 253, 3, 0), (21, .if_icmp .ge 67, 3, 88), (24, .aload_n 0, 1, 0), (25, .iload_n 2, 1, 0), (26, .aload_n 0, 1, 0), (27, .getfield 40, 3, 0), (30, .iload_n 3, 1, 0), (31, .iaload, 1, 0), (32, .invokevirtual 340, 3, 0), (35, .aload_n 0, 1, 0), (36, .iload_n 1, 1, 0), (37, .invokevirtual 299, 3, 0), (40, .aload_n 0, 1, 0), (41, .getfield 40, 3, 0), (44, .iload_n 3, 1, 0), (45, .iaload, 1, 0), (46, .ixor, 1, 0), (47, .invokestatic 256, 3, 0), (50, .istore 4, 2, 0), (52, .aload_n 0, 1, 0), (53, .dup, 1, 0), (54, .getfield 380, 3, 0), (57, .iload 4, 2, 0), (59, .iadd, 1, 0), (60, .putfield 380, 3, 0), (63, .aload_n 0, 1, 0), (64, .dup, 1, 0), (65, .getfield 383, 3, 0), (68, .iload 4, 2, 0), (70, .ifCond .ne 7, 3, 77), (73, .iconst 1, 1, 0), (74, .goto 4, 3, 78), (77, .iconst 0, 1, 0), (78, .iadd, 1, 0), (79, .putfield 383, 3, 0), (82, .iinc 3 1, 3, 0), (85, .goto (-69), 3, 16), (88, .return_, 1, 0)], ([(380, 11, 22, 0, 5, 211), (383, 11, 23, 0, 5, 212), (253, 11, 18, 0, 5, 207), (40, 11, 17, 3, 5, 206)], [(290, 0, 263, 7, 19), (340, 0, 264, 7, 169), (299, 0, 265, 7, 35), (256, 2, 194, 7, 0)], [], [], []), (11, (8, 19), (1, 13), (8, 18), (0, 147)))
-- DoorSchoolModel.teacher()I
noncomputable def mr_313 : MR := ((yX11_teacher, cX11_teacher, 1, 0, (some .int)), [(0, .aload_n 0, 1, 0), (1, .invokevirtual 93, 3, 0), (4, .ifCond .eq 31, 3, 35), (7, .aload_n 0, 1, 0), (8, .iconst 0, 1, 0), (9, .aload_n 0, 1, 0), (10, .getfield 9, 3, 0), (13, .iconst 1, 1, 0), (14, .iaload, 1, 0), (15, .invokevirtual 445, 3, 0), (18, .aload_n 0, 1, 0), (19, .iconst 0, 1, 0), (20, .aload_n 0, 1, 0), (21, .getfield 9, 3, 0), (24, .iconst 1, 1, 0), (25, .iaload, 1, 0), (26, .iconst 1, 1, 0), (27, .iadd, 1, 0), (28, .invokevirtual 445, 3, 0), (31, .isub, 1, 0), (32, .goto 5, 3, 37), (35, .bipush (-2), 2, 0), (37, .ireturn, 1, 0)], ([(9, 11, 1, 3, 5, 190)], [(93, 0, 255, 6, 224), (445, 0, 268, 8, 112)], [], [], []), (11, (8, 151), (1, 13), (8, 149), (8, 150)))
-- DoorSchoolModel.told(Ljava/lang/String;II)I
noncomputable def mr_314 : MR := ((yX11_told, cX11_told, 4, 3, (some .int)), [(0, .aload_n 0, 1, 0), (1, .aload_n 1, 1, 0), (2, .invokevirtual 170, 3, 0), (5, .aload_n 0, 1, 0), (6, .iload_n 2, 1, 0), (7, .iload_n 3, 1, 0), (8, .invokevirtual 174, 3, 0), (11, .ireturn, 1, 0)], ([], [(170, 0, 277, 6, 109), (174, 0, 279, 6, 132)], [], [], []), (11, (6, 131), (1, 13), (6, 130), (0, 99)))
-- DoorSchoolModel.told(II)I
noncomputable def mr_315 : MR := ((yX11_told_, cX11_told_, 4, 2, (some .int)), [(0, .aload_n 0, 1, 0), (1, .iload_n 1, 1, 0), (2, .invokevirtual 324, 3, 0), (5, .ifCond .eq 13, 3, 18), (8, .iload_n 2, 1, 0), (9, .i2l, 1, 0), (10, .lconst 0, 1, 0), (11, .lconst 1, 1, 0), (12, .invokestatic 89, 3, 0), (15, .ifCond .ne 6, 3, 21), (18, .bipush (-2), 2, 0), (20, .ireturn, 1, 0), (21, .aload_n 0, 1, 0), (22, .invokevirtual 290, 3, 0), (25, .iconst 0, 1, 0), (26, .istore_n 3, 1, 0), (27, .iload_n 3, 1, 0), (28, .aload_n 0, 1, 0), (29, .getfield 253, 3, 0), (32, .if_icmp .ge 39, 3, 71), (35, .aload_n 0, 1, 0), (36, .getfield 40, 3, 0), (39, .iload_n 3, 1, 0), (40, .iaload, 1, 0), (41, .iload_n 1, 1, 0), (42, .if_icmp .ne 23, 3, 65), (45, .iload_n 2, 1, 0), (46, .ifCond .ne 12, 3, 58), (49, .aload_n 0, 1, 0), (50, .getfield 34, 3, 0), (53, .iload_n 3, 1, 0), (54, .iaload, 1, 0), (55, .goto 9, 3, 64), (58, .aload_n 0, 1, 0), (59, .getfield 37, 3, 0), (62, .iload_n 3, 1, 0), (63, .iaload, 1, 0), (64, .ireturn, 1, 0), (65, .iinc 3 1, 3, 0), (68, .goto (-41), 3, 27), (71, .iconst (-1), 1, 0), (72, .ireturn, 1, 0)], ([(253, 11, 18, 0, 5, 207), (40, 11, 17, 3, 5, 206), (34, 11, 15, 3, 5, 204), (37, 11, 16, 3, 5, 205)], [(324, 0, 186, 7, 94), (89, 2, 240, 6, 63), (290, 0, 263, 7, 19)], [], [], []), (11, (7, 93), (1, 13), (7, 91), (7, 92)))
-- DoorSchoolModel.train(III)I
noncomputable def mr_316 : MR := ((yX11_train, cX11_train, 5, 3, (some .int)), [(0, .aload_n 0, 1, 0), (1, .iload_n 1, 1, 0), (2, .invokevirtual 302, 3, 0), (5, .ifCond .eq 35, 3, 40), (8, .iload_n 2, 1, 0), (9, .i2l, 1, 0), (10, .lconst 0, 1, 0), (11, .lconst 1, 1, 0), (12, .invokestatic 89, 3, 0), (15, .ifCond .eq 25, 3, 40), (18, .iload_n 3, 1, 0), (19, .i2l, 1, 0), (20, .lconst 0, 1, 0), (21, .iload_n 2, 1, 0), (22, .ifCond .ne 9, 3, 31), (25, .ldc2_w 87, 3, 0), (28, .goto 6, 3, 34), (31, .ldc2_w 451, 3, 0), (34, .invokestatic 89, 3, 0), (37, .ifCond .ne 6, 3, 43), (40, .bipush (-2), 2, 0), (42, .ireturn, 1, 0), (43, .aload_n 0, 1, 0), (44, .iload_n 1, 1, 0), (45, .iload_n 2, 1, 0), (46, .invokevirtual 265, 3, 0), (49, .istore 4, 2, 0), (51, .aload_n 0, 1, 0), (52, .getfield 9, 3, 0), (55, .bipush 10, 2, 0), (57, .iconst 4, 1, 0), (58, .iload_n 1, 1, 0), (59, .imul, 1, 0), (60, .iadd, 1, 0), (61, .iload_n 2, 1, 0), (62, .iadd, 1, 0), (63, .iload_n 3, 1, 0), (64, .iastore, 1, 0), (65, .iload 4, 2, 0), (67, .ireturn, 1, 0)], ([(9, 11, 1, 3, 5, 190)], [(302, 0, 245, 6, 199), (89, 2, 240, 6, 63), (265, 0, 281, 6, 204)], [], [(87, 2, 6, 62), (451, 50, 8, 156)], []), (11, (8, 155), (1, 13), (8, 153), (8, 154)))
-- DoorSchoolModel.trick(II)I
noncomputable def mr_317 : MR := ((yX11_trick, cX11_trick, 3, 2, (some .int)), [(0, .aload_n 0, 1, 0), (1, .iload_n 1, 1, 0), (2, .invokevirtual 302, 3, 0), (5, .ifCond .eq 21, 3, 26), (8, .aload_n 0, 1, 0), (9, .iload_n 2, 1, 0), (10, .i2l, 1, 0), (11, .invokevirtual 313, 3, 0), (14, .ifCond .eq 12, 3, 26), (17, .aload_n 0, 1, 0), (18, .iload_n 1, 1, 0), (19, .iload_n 2, 1, 0), (20, .invokevirtual 359, 3, 0), (23, .goto 5, 3, 28), (26, .bipush (-2), 2, 0), (28, .ireturn, 1, 0)], ([], [(302, 0, 245, 6, 199), (313, 0, 250, 7, 11), (359, 0, 318, 7, 199)], [], [], []), (11, (7, 206), (1, 13), (7, 204), (7, 205)))
-- DoorSchoolModel.trickOf(II)I
noncomputable def mr_318 : MR := ((yX11_trickOf, cX11_trickOf, 6, 2, (some .int)), [(0, .aload_n 0, 1, 0), (1, .iload_n 1, 1, 0), (2, .invokevirtual 317, 3, 0), (5, .istore_n 3, 1, 0), (6, .iconst (-1), 1, 0), (7, .istore 4, 2, 0), (9, .iconst 0, 1, 0), (10, .istore 5, 2, 0), (12, .iload 5, 2, 0), (14, .aload_n 0, 1, 0), (15, .invokevirtual 97, 3, 0), (18, .if_icmp .ge 46, 3, 64), (21, .iload_n 3, 1, 0), (22, .iload 5, 2, 0), (24, .invokestatic 272, 3, 0), (27, .iconst 1, 1, 0), (28, .if_icmp .ne 30, 3, 58), (31, .iload 4, 2, 0), (33, .iconst (-1), 1, 0), (34, .if_icmp .eq 20, 3, 54), (37, .iload 5, 2, 0), (39, .iload_n 2, 1, 0), (40, .ixor, 1, 0), (41, .invokestatic 256, 3, 0), (44, .iload 4, 2, 0), (46, .iload_n 2, 1, 0), (47, .ixor, 1, 0), (48, .invokestatic 256, 3, 0), (51, .if_icmp .ge 7, 3, 58), (54, .iload 5, 2, 0), (56, .istore 4, 2, 0), (58, .iinc 5 1, 3, 0), (61, .goto (-49), 3, 12), (64, .iload 4, 2, 0), (66, .ireturn, 1, 0)], ([], [(317, 0, 204, 7, 15), (97, 0, 260, 6, 236), (272, 2, 193, 7, 47), (256, 2, 194, 7, 0)], [], [], []), (11, (7, 202), (1, 13), (7, 201), (0, 141)))
-- DoorSchoolModel.tries(II)I
noncomputable def mr_319 : MR := ((yX11_tries, cX11_tries, 4, 2, (some .int)), [(0, .aload_n 0, 1, 0), (1, .iload_n 1, 1, 0), (2, .invokevirtual 302, 3, 0), (5, .ifCond .eq 12, 3, 17), (8, .aload_n 0, 1, 0), (9, .iload_n 2, 1, 0), (10, .i2l, 1, 0), (11, .invokevirtual 313, 3, 0), (14, .ifCond .ne 6, 3, 20), (17, .bipush (-2), 2, 0), (19, .ireturn, 1, 0), (20, .aload_n 0, 1, 0), (21, .iload_n 1, 1, 0), (22, .iload_n 2, 1, 0), (23, .invokevirtual 359, 3, 0), (26, .istore_n 3, 1, 0), (27, .iload_n 3, 1, 0), (28, .iconst (-1), 1, 0), (29, .if_icmp .ne 7, 3, 36), (32, .iconst (-1), 1, 0), (33, .goto 9, 3, 42), (36, .iload_n 3, 1, 0), (37, .iload_n 2, 1, 0), (38, .ixor, 1, 0), (39, .invokestatic 256, 3, 0), (42, .ireturn, 1, 0)], ([], [(302, 0, 245, 6, 199), (313, 0, 250, 7, 11), (359, 0, 318, 7, 199), (256, 2, 194, 7, 0)], [], [], []), (11, (7, 198), (1, 13), (7, 196), (7, 197)))
-- DoorSchoolModel.unteach()I
noncomputable def mr_320 : MR := ((yX11_unteach, cX11_unteach, 2, 0, (some .int)), [(0, .aload_n 0, 1, 0), (1, .invokevirtual 93, 3, 0), (4, .ifCond .ne 6, 3, 10), (7, .bipush (-2), 2, 0), (9, .ireturn, 1, 0), (10, .aload_n 0, 1, 0), (11, .getfield 9, 3, 0), (14, .bipush 6, 2, 0), (16, .iaload, 1, 0), (17, .ifCond .ne 6, 3, 23), (20, .bipush (-5), 2, 0), (22, .ireturn, 1, 0), (23, .aload_n 0, 1, 0), (24, .getfield 9, 3, 0), (27, .bipush 6, 2, 0), (29, .dup2, 1, 0), (30, .iaload, 1, 0), (31, .iconst 1, 1, 0), (32, .isub, 1, 0), (33, .iastore, 1, 0), (34, .aload_n 0, 1, 0), (35, .getfield 9, 3, 0), (38, .sipush 166, 3, 0), (41, .aload_n 0, 1, 0), (42, .getfield 9, 3, 0), (45, .bipush 6, 2, 0), (47, .iaload, 1, 0), (48, .iadd, 1, 0), (49, .iaload, 1, 0), (50, .istore_n 1, 1, 0), (51, .aload_n 0, 1, 0), (52, .getfield 9, 3, 0), (55, .bipush 10, 2, 0), (57, .iconst 4, 1, 0), (58, .iload_n 1, 1, 0), (59, .imul, 1, 0), (60, .iadd, 1, 0), (61, .iconst 2, 1, 0), (62, .iadd, 1, 0), (63, .dup2, 1, 0), (64, .iaload, 1, 0), (65, .iconst 1, 1, 0), (66, .isub, 1, 0), (67, .iastore, 1, 0), (68, .iload_n 1, 1, 0), (69, .ireturn, 1, 0)], ([(9, 11, 1, 3, 5, 190)], [(93, 0, 255, 6, 224)], [], [], []), (11, (7, 133), (1, 13), (7, 131), (7, 132)))
-- DoorSchoolModel.way(II)I
noncomputable def mr_321 : MR := ((yX11_way, cX11_way, 7, 2, (some .int)), [(0, .aload_n 0, 1, 0), (1, .iload_n 1, 1, 0), (2, .invokevirtual 302, 3, 0), (5, .ifCond .eq 13, 3, 18), (8, .iload_n 2, 1, 0), (9, .i2l, 1, 0), (10, .lconst 0, 1, 0), (11, .lconst 1, 1, 0), (12, .invokestatic 89, 3, 0), (15, .ifCond .ne 6, 3, 21), (18, .bipush (-2), 2, 0), (20, .ireturn, 1, 0), (21, .iconst 0, 1, 0), (22, .istore_n 3, 1, 0), (23, .ldc_w 355, 3, 0), (26, .istore 4, 2, 0), (28, .iconst 0, 1, 0), (29, .istore 5, 2, 0), (31, .iload 5, 2, 0), (33, .iconst 3, 1, 0), (34, .if_icmp .ge 43, 3, 77), (37, .aload_n 0, 1, 0), (38, .iload_n 1, 1, 0), (39, .iload 5, 2, 0), (41, .invokevirtual 374, 3, 0), (44, .aload_n 0, 1, 0), (45, .invokevirtual 356, 3, 0), (48, .ixor, 1, 0), (49, .invokestatic 256, 3, 0), (52, .istore 6, 2, 0), (54, .iload 6, 2, 0), (56, .iload 4, 2, 0), (58, .if_icmp .lt 6, 3, 64), (61, .goto 10, 3, 71), (64, .iload 6, 2, 0), (66, .istore 4, 2, 0), (68, .iload 5, 2, 0), (70, .istore_n 3, 1, 0), (71, .iinc 5 1, 3, 0), (74, .goto (-43), 3, 31), (77, .iload_n 2, 1, 0), (78, .ifCond .ne 7, 3, 85), (81, .iload_n 3, 1, 0), (82, .goto 5, 3, 87), (85, .iload 4, 2, 0), (87, .ireturn, 1, 0)], ([], [(302, 0, 245, 6, 199), (89, 2, 240, 6, 63), (374, 0, 202, 7, 232), (356, 0, 286, 7, 191), (256, 2, 194, 7, 0)], [(355, 1000000, 7, 186)], [], []), (11, (8, 11), (1, 13), (8, 9), (8, 10)))
-- DoorSchoolModel.why(II)I
noncomputable def mr_322 : MR := ((yX11_why, cX11_why, 3, 2, (some .int)), [(0, .aload_n 0, 1, 0), (1, .iload_n 1, 1, 0), (2, .invokevirtual 302, 3, 0), (5, .ifCond .eq 12, 3, 17), (8, .aload_n 0, 1, 0), (9, .iload_n 2, 1, 0), (10, .i2l, 1, 0), (11, .invokevirtual 313, 3, 0), (14, .ifCond .ne 6, 3, 20), (17, .bipush (-2), 2, 0), (19, .ireturn, 1, 0), (20, .aload_n 0, 1, 0), (21, .aload_n 0, 1, 0), (22, .iload_n 1, 1, 0), (23, .invokevirtual 293, 3, 0), (26, .invokevirtual 296, 3, 0), (29, .aload_n 0, 1, 0), (30, .aload_n 0, 1, 0), (31, .aload_n 0, 1, 0), (32, .iload_n 1, 1, 0), (33, .invokevirtual 293, 3, 0), (36, .iconst 0, 1, 0), (37, .invokevirtual 265, 3, 0), (40, .iload_n 2, 1, 0), (41, .invokevirtual 287, 3, 0), (44, .ireturn, 1, 0)], ([], [(302, 0, 245, 6, 199), (313, 0, 250, 7, 11), (293, 0, 296, 7, 23), (296, 0, 262, 7, 27), (265, 0, 281, 6, 204), (287, 0, 195, 7, 50)], [], [], []), (11, (7, 73), (1, 13), (7, 71), (7, 72)))
-- DoorSchoolModel.worstOf(II)I
noncomputable def mr_323 : MR := ((yX11_worstOf, cX11_worstOf, 6, 2, (some .int)), [(0, .iconst 0, 1, 0), (1, .istore_n 3, 1, 0), (2, .iconst 0, 1, 0), (3, .istore 4, 2, 0), (5, .iconst 0, 1, 0), (6, .istore 5, 2, 0), (8, .iload 5, 2, 0), (10, .aload_n 0, 1, 0), (11, .getfield 253, 3, 0), (14, .if_icmp .ge 59, 3, 73), (17, .aload_n 0, 1, 0), (18, .iload_n 1, 1, 0), (19, .aload_n 0, 1, 0), (20, .getfield 40, 3, 0), (23, .iload 5, 2, 0), (25, .iaload, 1, 0), (26, .invokevirtual 400, 3, 0), (29, .ifCond .ne 6, 3, 35), (32, .goto 35, 3, 67), (35, .iload_n 3, 1, 0), (36, .aload_n 0, 1, 0), (37, .getfield 40, 3, 0), (40, .iload 5, 2, 0), (42, .iaload, 1, 0), (43, .iload_n 2, 1, 0), (44, .invokestatic 272, 3, 0), (47, .iadd, 1, 0), (48, .istore_n 3, 1, 0), (49, .iload 4, 2, 0), (51, .iconst 1, 1, 0), (52, .aload_n 0, 1, 0), (53, .getfield 40, 3, 0), (56, .iload 5, 2, 0), (58, .iaload, 1, 0), (59, .iload_n 2, 1, 0), (60, .invokestatic 272, 3, 0), (63, .isub, 1, 0), (64, .iadd, 1, 0), (65, .istore 4, 2, 0), (67, .iinc 5 1, 3, 0), (70, .goto (-62), 3, 8), (73, .iload_n 3, 1, 0), (74, .iload 4, 2, 0), (76, .invokestatic 418, 3, 0), (79, .ireturn, 1, 0)], ([(253, 11, 18, 0, 5, 207), (40, 11, 17, 3, 5, 206)], [(400, 0, 209, 8, 43), (272, 2, 193, 7, 47)], [], [], []), (11, (8, 102), (1, 13), (8, 101), (0, 156)))
-- DoorSchoolModel.write(IIJ)I
noncomputable def mr_324 : MR := ((yX11_write, cX11_write, 5, 3, (some .int)), [(0, .iload_n 1, 1, 0), (1, .invokestatic 389, 3, 0), (4, .ifCond .ne 6, 3, 10), (7, .bipush (-2), 2, 0), (9, .ireturn, 1, 0), (10, .aload_n 0, 1, 0), (11, .getfield 67, 3, 0), (14, .iload_n 1, 1, 0), (15, .iaload, 1, 0), (16, .iconst (-1), 1, 0), (17, .if_icmp .ne 6, 3, 23), (20, .bipush (-6), 2, 0), (22, .ireturn, 1, 0), (23, .iload_n 2, 1, 0), (24, .i2l, 1, 0), (25, .lconst 0, 1, 0), (26, .aload_n 0, 1, 0), (27, .getfield 67, 3, 0), (30, .iload_n 1, 1, 0), (31, .iaload, 1, 0), (32, .iconst 1, 1, 0), (33, .isub, 1, 0), (34, .i2l, 1, 0), (35, .invokestatic 89, 3, 0), (38, .ifCond .ne 6, 3, 44), (41, .bipush (-7), 2, 0), (43, .ireturn, 1, 0), (44, .aload_n 0, 1, 0), (45, .getfield 73, 3, 0), (48, .bipush 60, 2, 0), (50, .iload_n 1, 1, 0), (51, .imul, 1, 0), (52, .iload_n 2, 1, 0), (53, .iadd, 1, 0), (54, .lload_n 3, 1, 0), (55, .aload_n 0, 1, 0), (56, .getfield 70, 3, 0), (59, .iload_n 1, 1, 0), (60, .iaload, 1, 0), (61, .invokestatic 477, 3, 0), (64, .lastore, 1, 0), (65, .iconst 0, 1, 0), (66, .ireturn, 1, 0)], ([(67, 11, 32, 3, 5, 221), (73, 11, 34, 3, 5, 223), (70, 11, 33, 3, 5, 222)], [(389, 2, 257, 8, 36), (89, 2, 240, 6, 63), (477, 2, 199, 8, 195)], [], [], []), (11, (8, 194), (1, 13), (8, 192), (8, 193)))
-- DoorSchoolModel.wrong(I)I
noncomputable def mr_325 : MR := ((yX11_wrong, cX11_wrong, 4, 1, (some .int)), [(0, .aload_n 0, 1, 0), (1, .iload_n 1, 1, 0), (2, .invokevirtual 302, 3, 0), (5, .ifCond .ne 6, 3, 11), (8, .bipush (-2), 2, 0), (10, .ireturn, 1, 0), (11, .aload_n 0, 1, 0), (12, .iload_n 1, 1, 0), (13, .invokevirtual 317, 3, 0), (16, .istore_n 2, 1, 0), (17, .iconst 0, 1, 0), (18, .istore_n 3, 1, 0), (19, .iload_n 3, 1, 0), (20, .aload_n 0, 1, 0), (21, .getfield 9, 3, 0), (24, .iconst 3, 1, 0), (25, .iaload, 1, 0), (26, .if_icmp .ge 20, 3, 46), (29, .aload_n 0, 1, 0), (30, .iload_n 2, 1, 0), (31, .iload_n 3, 1, 0), (32, .invokevirtual 327, 3, 0), (35, .ifCond .ne 5, 3, 40), (38, .iload_n 3, 1, 0), (39, .ireturn, 1, 0), (40, .iinc 3 1, 3, 0), (43, .goto (-24), 3, 19), (46, .iconst (-1), 1, 0), (47, .ireturn, 1, 0)], ([(9, 11, 1, 3, 5, 190)], [(302, 0, 245, 6, 199), (317, 0, 204, 7, 15), (327, 0, 253, 7, 110)], [], [], []), (11, (7, 117), (1, 13), (7, 115), (7, 116)))
-- DoorSchoolModel.years(IIII)I
noncomputable def mr_326 : MR := ((yX11_years, cX11_years, 7, 4, (some .int)), [(0, .iload_n 1, 1, 0), (1, .invokestatic 468, 3, 0), (4, .ifCond .eq 23, 3, 27), (7, .iload_n 2, 1, 0), (8, .i2l, 1, 0), (9, .lconst 1, 1, 0), (10, .ldc2_w 475, 3, 0), (13, .invokestatic 89, 3, 0), (16, .ifCond .eq 11, 3, 27), (19, .aload_n 0, 1, 0), (20, .iload_n 3, 1, 0), (21, .invokevirtual 302, 3, 0), (24, .ifCond .ne 6, 3, 30), (27, .bipush (-2), 2, 0), (29, .ireturn, 1, 0), (30, .iconst 0, 1, 0), (31, .istore 5, 2, 0), (33, .iconst 0, 1, 0), (34, .istore 6, 2, 0), (36, .iload 6, 2, 0), (38, .iload_n 2, 1, 0), (39, .if_icmp .ge 39, 3, 78), (42, .iload 5, 2, 0), (44, .aload_n 0, 1, 0), (45, .aload_n 0, 1, 0), (46, .iload_n 1, 1, 0), (47, .i2l, 1, 0), (48, .iload 6, 2, 0), (50, .i2l, 1, 0), (51, .ladd, 1, 0), (52, .iload_n 3, 1, 0), (53, .invokevirtual 471, 3, 0), (56, .invokevirtual 330, 3, 0), (59, .iload 4, 2, 0), (61, .if_icmp .lt 7, 3, 68), (64, .iconst 1, 1, 0), (65, .goto 4, 3, 69), (68, .iconst 0, 1, 0), (69, .iadd, 1, 0), (70, .istore 5, 2, 0), (72, .iinc 6 1, 3, 0), (75, .goto (-39), 3, 36), (78, .iload 5, 2, 0), (80, .ireturn, 1, 0)], ([], [(468, 2, 256, 8, 165), (89, 2, 240, 6, 63), (302, 0, 245, 6, 199), (471, 0, 307, 8, 169), (330, 0, 274, 7, 106)], [], [(475, 20, 8, 182)], []), (11, (8, 181), (1, 13), (8, 179), (8, 180)))
noncomputable def lawc_0 : List AI := [(0, .new 7, 3, 0), (3, .dup, 1, 0), (4, .invokespecial 9, 3, 0), (7, .astore_n 1, 1, 0), (8, .new 10, 3, 0), (11, .dup, 1, 0), (12, .invokespecial 12, 3, 0), (15, .astore_n 2, 1, 0), (16, .iconst 0, 1, 0), (17, .istore_n 3, 1, 0), (18, .iload_n 3, 1, 0), (19, .aload_n 0, 1, 0), (20, .arraylength, 1, 0), (21, .bipush 6, 2, 0), (23, .isub, 1, 0), (24, .if_icmp .gt 2218, 3, 2242), (27, .aload_n 0, 1, 0), (28, .iload_n 3, 1, 0), (29, .iaload, 1, 0), (30, .bipush 63, 2, 0), (32, .iand, 1, 0), (33, .tableswitch 2203 0 63 #[271, 334, 357, 370, 393, 426, 469, 502, 535, 568, 591, 614, 647, 680, 703, 736, 769, 792, 815, 828, 841, 884, 897, 940, 963, 986, 1019, 1052, 1095, 1118, 1151, 1184, 1217, 1240, 1263, 1306, 1329, 1352, 1385, 1418, 1451, 1484, 1507, 1530, 1563, 1576, 1599, 1632, 1655, 1688, 1711, 1734, 1747, 1770, 1783, 1826, 1859, 1902, 1955, 1978, 2001, 2024, 2067, 2140], 271, 0), (304, .aload_n 1, 1, 0), (305, .aload_n 0, 1, 0), (306, .iload_n 3, 1, 0), (307, .iconst 1, 1, 0), (308, .iadd, 1, 0), (309, .iaload, 1, 0), (310, .aload_n 0, 1, 0), (311, .iload_n 3, 1, 0), (312, .iconst 2, 1, 0), (313, .iadd, 1, 0), (314, .iaload, 1, 0), (315, .aload_n 0, 1, 0), (316, .iload_n 3, 1, 0), (317, .iconst 3, 1, 0), (318, .iadd, 1, 0), (319, .iaload, 1, 0), (320, .aload_n 0, 1, 0), (321, .iload_n 3, 1, 0)]
noncomputable def lawc_1 : List AI := [(322, .iconst 4, 1, 0), (323, .iadd, 1, 0), (324, .iaload, 1, 0), (325, .aload_n 0, 1, 0), (326, .iload_n 3, 1, 0), (327, .iconst 5, 1, 0), (328, .iadd, 1, 0), (329, .iaload, 1, 0), (330, .invokevirtual 13, 3, 0), (333, .aload_n 2, 1, 0), (334, .aload_n 0, 1, 0), (335, .iload_n 3, 1, 0), (336, .iconst 1, 1, 0), (337, .iadd, 1, 0), (338, .iaload, 1, 0), (339, .aload_n 0, 1, 0), (340, .iload_n 3, 1, 0), (341, .iconst 2, 1, 0), (342, .iadd, 1, 0), (343, .iaload, 1, 0), (344, .aload_n 0, 1, 0), (345, .iload_n 3, 1, 0), (346, .iconst 3, 1, 0), (347, .iadd, 1, 0), (348, .iaload, 1, 0), (349, .aload_n 0, 1, 0), (350, .iload_n 3, 1, 0), (351, .iconst 4, 1, 0), (352, .iadd, 1, 0), (353, .iaload, 1, 0), (354, .aload_n 0, 1, 0), (355, .iload_n 3, 1, 0), (356, .iconst 5, 1, 0), (357, .iadd, 1, 0), (358, .iaload, 1, 0), (359, .invokevirtual 17, 3, 0), (362, .if_icmp .eq 1874, 3, 2236), (365, .iconst 0, 1, 0), (366, .ireturn, 1, 0), (367, .aload_n 1, 1, 0)]
noncomputable def lawc_2 : List AI := [(368, .aload_n 0, 1, 0), (369, .iload_n 3, 1, 0), (370, .iconst 1, 1, 0), (371, .iadd, 1, 0), (372, .iaload, 1, 0), (373, .invokevirtual 18, 3, 0), (376, .aload_n 2, 1, 0), (377, .aload_n 0, 1, 0), (378, .iload_n 3, 1, 0), (379, .iconst 1, 1, 0), (380, .iadd, 1, 0), (381, .iaload, 1, 0), (382, .invokevirtual 22, 3, 0), (385, .if_icmp .eq 1851, 3, 2236), (388, .iconst 0, 1, 0), (389, .ireturn, 1, 0), (390, .aload_n 1, 1, 0), (391, .invokevirtual 23, 3, 0), (394, .aload_n 2, 1, 0), (395, .invokevirtual 27, 3, 0), (398, .if_icmp .eq 1838, 3, 2236), (401, .iconst 0, 1, 0), (402, .ireturn, 1, 0), (403, .aload_n 1, 1, 0), (404, .aload_n 0, 1, 0), (405, .iload_n 3, 1, 0), (406, .iconst 1, 1, 0), (407, .iadd, 1, 0), (408, .iaload, 1, 0), (409, .invokevirtual 28, 3, 0), (412, .aload_n 2, 1, 0), (413, .aload_n 0, 1, 0), (414, .iload_n 3, 1, 0), (415, .iconst 1, 1, 0), (416, .iadd, 1, 0), (417, .iaload, 1, 0), (418, .invokevirtual 31, 3, 0), (421, .if_icmp .eq 1815, 3, 2236), (424, .iconst 0, 1, 0), (425, .ireturn, 1, 0)]
noncomputable def lawc_3 : List AI := [(426, .aload_n 1, 1, 0), (427, .aload_n 0, 1, 0), (428, .iload_n 3, 1, 0), (429, .iconst 1, 1, 0), (430, .iadd, 1, 0), (431, .iaload, 1, 0), (432, .aload_n 0, 1, 0), (433, .iload_n 3, 1, 0), (434, .iconst 2, 1, 0), (435, .iadd, 1, 0), (436, .iaload, 1, 0), (437, .invokevirtual 32, 3, 0), (440, .aload_n 2, 1, 0), (441, .aload_n 0, 1, 0), (442, .iload_n 3, 1, 0), (443, .iconst 1, 1, 0), (444, .iadd, 1, 0), (445, .iaload, 1, 0), (446, .aload_n 0, 1, 0), (447, .iload_n 3, 1, 0), (448, .iconst 2, 1, 0), (449, .iadd, 1, 0), (450, .iaload, 1, 0), (451, .invokevirtual 36, 3, 0), (454, .if_icmp .eq 1782, 3, 2236), (457, .iconst 0, 1, 0), (458, .ireturn, 1, 0), (459, .aload_n 1, 1, 0), (460, .aload_n 0, 1, 0), (461, .iload_n 3, 1, 0), (462, .iconst 1, 1, 0), (463, .iadd, 1, 0), (464, .iaload, 1, 0), (465, .aload_n 0, 1, 0), (466, .iload_n 3, 1, 0), (467, .iconst 2, 1, 0), (468, .iadd, 1, 0), (469, .iaload, 1, 0), (470, .aload_n 0, 1, 0), (471, .iload_n 3, 1, 0)]
noncomputable def lawc_4 : List AI := [(472, .iconst 3, 1, 0), (473, .iadd, 1, 0), (474, .iaload, 1, 0), (475, .invokevirtual 37, 3, 0), (478, .aload_n 2, 1, 0), (479, .aload_n 0, 1, 0), (480, .iload_n 3, 1, 0), (481, .iconst 1, 1, 0), (482, .iadd, 1, 0), (483, .iaload, 1, 0), (484, .aload_n 0, 1, 0), (485, .iload_n 3, 1, 0), (486, .iconst 2, 1, 0), (487, .iadd, 1, 0), (488, .iaload, 1, 0), (489, .aload_n 0, 1, 0), (490, .iload_n 3, 1, 0), (491, .iconst 3, 1, 0), (492, .iadd, 1, 0), (493, .iaload, 1, 0), (494, .invokevirtual 41, 3, 0), (497, .if_icmp .eq 1739, 3, 2236), (500, .iconst 0, 1, 0), (501, .ireturn, 1, 0), (502, .aload_n 1, 1, 0), (503, .aload_n 0, 1, 0), (504, .iload_n 3, 1, 0), (505, .iconst 1, 1, 0), (506, .iadd, 1, 0), (507, .iaload, 1, 0), (508, .aload_n 0, 1, 0), (509, .iload_n 3, 1, 0), (510, .iconst 2, 1, 0), (511, .iadd, 1, 0), (512, .iaload, 1, 0), (513, .invokevirtual 42, 3, 0), (516, .aload_n 2, 1, 0), (517, .aload_n 0, 1, 0), (518, .iload_n 3, 1, 0), (519, .iconst 1, 1, 0)]
noncomputable def lawc_5 : List AI := [(520, .iadd, 1, 0), (521, .iaload, 1, 0), (522, .aload_n 0, 1, 0), (523, .iload_n 3, 1, 0), (524, .iconst 2, 1, 0), (525, .iadd, 1, 0), (526, .iaload, 1, 0), (527, .invokevirtual 45, 3, 0), (530, .if_icmp .eq 1706, 3, 2236), (533, .iconst 0, 1, 0), (534, .ireturn, 1, 0), (535, .aload_n 1, 1, 0), (536, .aload_n 0, 1, 0), (537, .iload_n 3, 1, 0), (538, .iconst 1, 1, 0), (539, .iadd, 1, 0), (540, .iaload, 1, 0), (541, .aload_n 0, 1, 0), (542, .iload_n 3, 1, 0), (543, .iconst 2, 1, 0), (544, .iadd, 1, 0), (545, .iaload, 1, 0), (546, .invokevirtual 46, 3, 0), (549, .aload_n 2, 1, 0), (550, .aload_n 0, 1, 0), (551, .iload_n 3, 1, 0), (552, .iconst 1, 1, 0), (553, .iadd, 1, 0), (554, .iaload, 1, 0), (555, .aload_n 0, 1, 0), (556, .iload_n 3, 1, 0), (557, .iconst 2, 1, 0), (558, .iadd, 1, 0), (559, .iaload, 1, 0), (560, .invokevirtual 49, 3, 0), (563, .if_icmp .eq 1673, 3, 2236), (566, .iconst 0, 1, 0), (567, .ireturn, 1, 0), (568, .aload_n 1, 1, 0), (569, .aload_n 0, 1, 0)]
noncomputable def lawc_6 : List AI := [(570, .iload_n 3, 1, 0), (571, .iconst 1, 1, 0), (572, .iadd, 1, 0), (573, .iaload, 1, 0), (574, .aload_n 0, 1, 0), (575, .iload_n 3, 1, 0), (576, .iconst 2, 1, 0), (577, .iadd, 1, 0), (578, .iaload, 1, 0), (579, .invokevirtual 50, 3, 0), (582, .aload_n 2, 1, 0), (583, .aload_n 0, 1, 0), (584, .iload_n 3, 1, 0), (585, .iconst 1, 1, 0), (586, .iadd, 1, 0), (587, .iaload, 1, 0), (588, .aload_n 0, 1, 0), (589, .iload_n 3, 1, 0), (590, .iconst 2, 1, 0), (591, .iadd, 1, 0), (592, .iaload, 1, 0), (593, .invokevirtual 53, 3, 0), (596, .if_icmp .eq 1640, 3, 2236), (599, .iconst 0, 1, 0), (600, .ireturn, 1, 0), (601, .aload_n 1, 1, 0), (602, .aload_n 0, 1, 0), (603, .iload_n 3, 1, 0), (604, .iconst 1, 1, 0), (605, .iadd, 1, 0), (606, .iaload, 1, 0), (607, .invokevirtual 54, 3, 0), (610, .aload_n 2, 1, 0), (611, .aload_n 0, 1, 0), (612, .iload_n 3, 1, 0), (613, .iconst 1, 1, 0), (614, .iadd, 1, 0), (615, .iaload, 1, 0), (616, .invokevirtual 57, 3, 0), (619, .if_icmp .eq 1617, 3, 2236)]
noncomputable def lawc_7 : List AI := [(622, .iconst 0, 1, 0), (623, .ireturn, 1, 0), (624, .aload_n 1, 1, 0), (625, .aload_n 0, 1, 0), (626, .iload_n 3, 1, 0), (627, .iconst 1, 1, 0), (628, .iadd, 1, 0), (629, .iaload, 1, 0), (630, .invokevirtual 58, 3, 0), (633, .aload_n 2, 1, 0), (634, .aload_n 0, 1, 0), (635, .iload_n 3, 1, 0), (636, .iconst 1, 1, 0), (637, .iadd, 1, 0), (638, .iaload, 1, 0), (639, .invokevirtual 61, 3, 0), (642, .if_icmp .eq 1594, 3, 2236), (645, .iconst 0, 1, 0), (646, .ireturn, 1, 0), (647, .aload_n 1, 1, 0), (648, .aload_n 0, 1, 0), (649, .iload_n 3, 1, 0), (650, .iconst 1, 1, 0), (651, .iadd, 1, 0), (652, .iaload, 1, 0), (653, .aload_n 0, 1, 0), (654, .iload_n 3, 1, 0), (655, .iconst 2, 1, 0), (656, .iadd, 1, 0), (657, .iaload, 1, 0), (658, .invokevirtual 62, 3, 0), (661, .aload_n 2, 1, 0), (662, .aload_n 0, 1, 0), (663, .iload_n 3, 1, 0), (664, .iconst 1, 1, 0), (665, .iadd, 1, 0), (666, .iaload, 1, 0), (667, .aload_n 0, 1, 0), (668, .iload_n 3, 1, 0), (669, .iconst 2, 1, 0)]
noncomputable def lawc_8 : List AI := [(670, .iadd, 1, 0), (671, .iaload, 1, 0), (672, .invokevirtual 65, 3, 0), (675, .if_icmp .eq 1561, 3, 2236), (678, .iconst 0, 1, 0), (679, .ireturn, 1, 0), (680, .aload_n 1, 1, 0), (681, .aload_n 0, 1, 0), (682, .iload_n 3, 1, 0), (683, .iconst 1, 1, 0), (684, .iadd, 1, 0), (685, .iaload, 1, 0), (686, .aload_n 0, 1, 0), (687, .iload_n 3, 1, 0), (688, .iconst 2, 1, 0), (689, .iadd, 1, 0), (690, .iaload, 1, 0), (691, .invokevirtual 66, 3, 0), (694, .aload_n 2, 1, 0), (695, .aload_n 0, 1, 0), (696, .iload_n 3, 1, 0), (697, .iconst 1, 1, 0), (698, .iadd, 1, 0), (699, .iaload, 1, 0), (700, .aload_n 0, 1, 0), (701, .iload_n 3, 1, 0), (702, .iconst 2, 1, 0), (703, .iadd, 1, 0), (704, .iaload, 1, 0), (705, .invokevirtual 69, 3, 0), (708, .if_icmp .eq 1528, 3, 2236), (711, .iconst 0, 1, 0), (712, .ireturn, 1, 0), (713, .aload_n 1, 1, 0), (714, .aload_n 0, 1, 0), (715, .iload_n 3, 1, 0), (716, .iconst 1, 1, 0), (717, .iadd, 1, 0), (718, .iaload, 1, 0), (719, .invokevirtual 70, 3, 0)]
noncomputable def lawc_9 : List AI := [(722, .aload_n 2, 1, 0), (723, .aload_n 0, 1, 0), (724, .iload_n 3, 1, 0), (725, .iconst 1, 1, 0), (726, .iadd, 1, 0), (727, .iaload, 1, 0), (728, .invokevirtual 73, 3, 0), (731, .if_icmp .eq 1505, 3, 2236), (734, .iconst 0, 1, 0), (735, .ireturn, 1, 0), (736, .aload_n 1, 1, 0), (737, .aload_n 0, 1, 0), (738, .iload_n 3, 1, 0), (739, .iconst 1, 1, 0), (740, .iadd, 1, 0), (741, .iaload, 1, 0), (742, .aload_n 0, 1, 0), (743, .iload_n 3, 1, 0), (744, .iconst 2, 1, 0), (745, .iadd, 1, 0), (746, .iaload, 1, 0), (747, .invokevirtual 74, 3, 0), (750, .aload_n 2, 1, 0), (751, .aload_n 0, 1, 0), (752, .iload_n 3, 1, 0), (753, .iconst 1, 1, 0), (754, .iadd, 1, 0), (755, .iaload, 1, 0), (756, .aload_n 0, 1, 0), (757, .iload_n 3, 1, 0), (758, .iconst 2, 1, 0), (759, .iadd, 1, 0), (760, .iaload, 1, 0), (761, .invokevirtual 77, 3, 0), (764, .if_icmp .eq 1472, 3, 2236), (767, .iconst 0, 1, 0), (768, .ireturn, 1, 0), (769, .aload_n 1, 1, 0), (770, .aload_n 0, 1, 0), (771, .iload_n 3, 1, 0)]
noncomputable def lawc_10 : List AI := [(772, .iconst 1, 1, 0), (773, .iadd, 1, 0), (774, .iaload, 1, 0), (775, .aload_n 0, 1, 0), (776, .iload_n 3, 1, 0), (777, .iconst 2, 1, 0), (778, .iadd, 1, 0), (779, .iaload, 1, 0), (780, .invokevirtual 78, 3, 0), (783, .aload_n 2, 1, 0), (784, .aload_n 0, 1, 0), (785, .iload_n 3, 1, 0), (786, .iconst 1, 1, 0), (787, .iadd, 1, 0), (788, .iaload, 1, 0), (789, .aload_n 0, 1, 0), (790, .iload_n 3, 1, 0), (791, .iconst 2, 1, 0), (792, .iadd, 1, 0), (793, .iaload, 1, 0), (794, .invokevirtual 81, 3, 0), (797, .if_icmp .eq 1439, 3, 2236), (800, .iconst 0, 1, 0), (801, .ireturn, 1, 0), (802, .aload_n 1, 1, 0), (803, .aload_n 0, 1, 0), (804, .iload_n 3, 1, 0), (805, .iconst 1, 1, 0), (806, .iadd, 1, 0), (807, .iaload, 1, 0), (808, .invokevirtual 82, 3, 0), (811, .aload_n 2, 1, 0), (812, .aload_n 0, 1, 0), (813, .iload_n 3, 1, 0), (814, .iconst 1, 1, 0), (815, .iadd, 1, 0), (816, .iaload, 1, 0), (817, .invokevirtual 85, 3, 0), (820, .if_icmp .eq 1416, 3, 2236), (823, .iconst 0, 1, 0)]
noncomputable def lawc_11 : List AI := [(824, .ireturn, 1, 0), (825, .aload_n 1, 1, 0), (826, .aload_n 0, 1, 0), (827, .iload_n 3, 1, 0), (828, .iconst 1, 1, 0), (829, .iadd, 1, 0), (830, .iaload, 1, 0), (831, .invokevirtual 86, 3, 0), (834, .aload_n 2, 1, 0), (835, .aload_n 0, 1, 0), (836, .iload_n 3, 1, 0), (837, .iconst 1, 1, 0), (838, .iadd, 1, 0), (839, .iaload, 1, 0), (840, .invokevirtual 89, 3, 0), (843, .if_icmp .eq 1393, 3, 2236), (846, .iconst 0, 1, 0), (847, .ireturn, 1, 0), (848, .aload_n 1, 1, 0), (849, .invokevirtual 90, 3, 0), (852, .aload_n 2, 1, 0), (853, .invokevirtual 93, 3, 0), (856, .if_icmp .eq 1380, 3, 2236), (859, .iconst 0, 1, 0), (860, .ireturn, 1, 0), (861, .aload_n 1, 1, 0), (862, .invokevirtual 94, 3, 0), (865, .aload_n 2, 1, 0), (866, .invokevirtual 97, 3, 0), (869, .if_icmp .eq 1367, 3, 2236), (872, .iconst 0, 1, 0), (873, .ireturn, 1, 0), (874, .aload_n 1, 1, 0), (875, .aload_n 0, 1, 0), (876, .iload_n 3, 1, 0), (877, .iconst 1, 1, 0), (878, .iadd, 1, 0), (879, .iaload, 1, 0), (880, .aload_n 0, 1, 0), (881, .iload_n 3, 1, 0)]
noncomputable def lawc_12 : List AI := [(882, .iconst 2, 1, 0), (883, .iadd, 1, 0), (884, .iaload, 1, 0), (885, .aload_n 0, 1, 0), (886, .iload_n 3, 1, 0), (887, .iconst 3, 1, 0), (888, .iadd, 1, 0), (889, .iaload, 1, 0), (890, .invokevirtual 98, 3, 0), (893, .aload_n 2, 1, 0), (894, .aload_n 0, 1, 0), (895, .iload_n 3, 1, 0), (896, .iconst 1, 1, 0), (897, .iadd, 1, 0), (898, .iaload, 1, 0), (899, .aload_n 0, 1, 0), (900, .iload_n 3, 1, 0), (901, .iconst 2, 1, 0), (902, .iadd, 1, 0), (903, .iaload, 1, 0), (904, .aload_n 0, 1, 0), (905, .iload_n 3, 1, 0), (906, .iconst 3, 1, 0), (907, .iadd, 1, 0), (908, .iaload, 1, 0), (909, .invokevirtual 101, 3, 0), (912, .if_icmp .eq 1324, 3, 2236), (915, .iconst 0, 1, 0), (916, .ireturn, 1, 0), (917, .aload_n 1, 1, 0), (918, .invokevirtual 102, 3, 0), (921, .aload_n 2, 1, 0), (922, .invokevirtual 105, 3, 0), (925, .if_icmp .eq 1311, 3, 2236), (928, .iconst 0, 1, 0), (929, .ireturn, 1, 0), (930, .aload_n 1, 1, 0), (931, .aload_n 0, 1, 0), (932, .iload_n 3, 1, 0), (933, .iconst 1, 1, 0)]
noncomputable def lawc_13 : List AI := [(934, .iadd, 1, 0), (935, .iaload, 1, 0), (936, .aload_n 0, 1, 0), (937, .iload_n 3, 1, 0), (938, .iconst 2, 1, 0), (939, .iadd, 1, 0), (940, .iaload, 1, 0), (941, .aload_n 0, 1, 0), (942, .iload_n 3, 1, 0), (943, .iconst 3, 1, 0), (944, .iadd, 1, 0), (945, .iaload, 1, 0), (946, .invokevirtual 106, 3, 0), (949, .aload_n 2, 1, 0), (950, .aload_n 0, 1, 0), (951, .iload_n 3, 1, 0), (952, .iconst 1, 1, 0), (953, .iadd, 1, 0), (954, .iaload, 1, 0), (955, .aload_n 0, 1, 0), (956, .iload_n 3, 1, 0), (957, .iconst 2, 1, 0), (958, .iadd, 1, 0), (959, .iaload, 1, 0), (960, .aload_n 0, 1, 0), (961, .iload_n 3, 1, 0), (962, .iconst 3, 1, 0), (963, .iadd, 1, 0), (964, .iaload, 1, 0), (965, .invokevirtual 109, 3, 0), (968, .if_icmp .eq 1268, 3, 2236), (971, .iconst 0, 1, 0), (972, .ireturn, 1, 0), (973, .aload_n 1, 1, 0), (974, .aload_n 0, 1, 0), (975, .iload_n 3, 1, 0), (976, .iconst 1, 1, 0), (977, .iadd, 1, 0), (978, .iaload, 1, 0), (979, .invokevirtual 110, 3, 0)]
noncomputable def lawc_14 : List AI := [(982, .aload_n 2, 1, 0), (983, .aload_n 0, 1, 0), (984, .iload_n 3, 1, 0), (985, .iconst 1, 1, 0), (986, .iadd, 1, 0), (987, .iaload, 1, 0), (988, .invokevirtual 113, 3, 0), (991, .if_icmp .eq 1245, 3, 2236), (994, .iconst 0, 1, 0), (995, .ireturn, 1, 0), (996, .aload_n 1, 1, 0), (997, .aload_n 0, 1, 0), (998, .iload_n 3, 1, 0), (999, .iconst 1, 1, 0), (1000, .iadd, 1, 0), (1001, .iaload, 1, 0), (1002, .invokevirtual 114, 3, 0), (1005, .aload_n 2, 1, 0), (1006, .aload_n 0, 1, 0), (1007, .iload_n 3, 1, 0), (1008, .iconst 1, 1, 0), (1009, .iadd, 1, 0), (1010, .iaload, 1, 0), (1011, .invokevirtual 117, 3, 0), (1014, .if_icmp .eq 1222, 3, 2236), (1017, .iconst 0, 1, 0), (1018, .ireturn, 1, 0), (1019, .aload_n 1, 1, 0), (1020, .aload_n 0, 1, 0), (1021, .iload_n 3, 1, 0), (1022, .iconst 1, 1, 0), (1023, .iadd, 1, 0), (1024, .iaload, 1, 0), (1025, .aload_n 0, 1, 0), (1026, .iload_n 3, 1, 0), (1027, .iconst 2, 1, 0), (1028, .iadd, 1, 0), (1029, .iaload, 1, 0), (1030, .invokevirtual 118, 3, 0), (1033, .aload_n 2, 1, 0)]
noncomputable def lawc_15 : List AI := [(1034, .aload_n 0, 1, 0), (1035, .iload_n 3, 1, 0), (1036, .iconst 1, 1, 0), (1037, .iadd, 1, 0), (1038, .iaload, 1, 0), (1039, .aload_n 0, 1, 0), (1040, .iload_n 3, 1, 0), (1041, .iconst 2, 1, 0), (1042, .iadd, 1, 0), (1043, .iaload, 1, 0), (1044, .invokevirtual 121, 3, 0), (1047, .if_icmp .eq 1189, 3, 2236), (1050, .iconst 0, 1, 0), (1051, .ireturn, 1, 0), (1052, .aload_n 1, 1, 0), (1053, .aload_n 0, 1, 0), (1054, .iload_n 3, 1, 0), (1055, .iconst 1, 1, 0), (1056, .iadd, 1, 0), (1057, .iaload, 1, 0), (1058, .aload_n 0, 1, 0), (1059, .iload_n 3, 1, 0), (1060, .iconst 2, 1, 0), (1061, .iadd, 1, 0), (1062, .iaload, 1, 0), (1063, .invokevirtual 122, 3, 0), (1066, .aload_n 2, 1, 0), (1067, .aload_n 0, 1, 0), (1068, .iload_n 3, 1, 0), (1069, .iconst 1, 1, 0), (1070, .iadd, 1, 0), (1071, .iaload, 1, 0), (1072, .aload_n 0, 1, 0), (1073, .iload_n 3, 1, 0), (1074, .iconst 2, 1, 0), (1075, .iadd, 1, 0), (1076, .iaload, 1, 0), (1077, .invokevirtual 125, 3, 0), (1080, .if_icmp .eq 1156, 3, 2236), (1083, .iconst 0, 1, 0)]
noncomputable def lawc_16 : List AI := [(1084, .ireturn, 1, 0), (1085, .aload_n 1, 1, 0), (1086, .aload_n 0, 1, 0), (1087, .iload_n 3, 1, 0), (1088, .iconst 1, 1, 0), (1089, .iadd, 1, 0), (1090, .iaload, 1, 0), (1091, .aload_n 0, 1, 0), (1092, .iload_n 3, 1, 0), (1093, .iconst 2, 1, 0), (1094, .iadd, 1, 0), (1095, .iaload, 1, 0), (1096, .aload_n 0, 1, 0), (1097, .iload_n 3, 1, 0), (1098, .iconst 3, 1, 0), (1099, .iadd, 1, 0), (1100, .iaload, 1, 0), (1101, .invokevirtual 126, 3, 0), (1104, .aload_n 2, 1, 0), (1105, .aload_n 0, 1, 0), (1106, .iload_n 3, 1, 0), (1107, .iconst 1, 1, 0), (1108, .iadd, 1, 0), (1109, .iaload, 1, 0), (1110, .aload_n 0, 1, 0), (1111, .iload_n 3, 1, 0), (1112, .iconst 2, 1, 0), (1113, .iadd, 1, 0), (1114, .iaload, 1, 0), (1115, .aload_n 0, 1, 0), (1116, .iload_n 3, 1, 0), (1117, .iconst 3, 1, 0), (1118, .iadd, 1, 0), (1119, .iaload, 1, 0), (1120, .invokevirtual 129, 3, 0), (1123, .if_icmp .eq 1113, 3, 2236), (1126, .iconst 0, 1, 0), (1127, .ireturn, 1, 0), (1128, .aload_n 1, 1, 0), (1129, .aload_n 0, 1, 0)]
noncomputable def lawc_17 : List AI := [(1130, .iload_n 3, 1, 0), (1131, .iconst 1, 1, 0), (1132, .iadd, 1, 0), (1133, .iaload, 1, 0), (1134, .invokevirtual 130, 3, 0), (1137, .aload_n 2, 1, 0), (1138, .aload_n 0, 1, 0), (1139, .iload_n 3, 1, 0), (1140, .iconst 1, 1, 0), (1141, .iadd, 1, 0), (1142, .iaload, 1, 0), (1143, .invokevirtual 133, 3, 0), (1146, .if_icmp .eq 1090, 3, 2236), (1149, .iconst 0, 1, 0), (1150, .ireturn, 1, 0), (1151, .aload_n 1, 1, 0), (1152, .aload_n 0, 1, 0), (1153, .iload_n 3, 1, 0), (1154, .iconst 1, 1, 0), (1155, .iadd, 1, 0), (1156, .iaload, 1, 0), (1157, .aload_n 0, 1, 0), (1158, .iload_n 3, 1, 0), (1159, .iconst 2, 1, 0), (1160, .iadd, 1, 0), (1161, .iaload, 1, 0), (1162, .invokevirtual 134, 3, 0), (1165, .aload_n 2, 1, 0), (1166, .aload_n 0, 1, 0), (1167, .iload_n 3, 1, 0), (1168, .iconst 1, 1, 0), (1169, .iadd, 1, 0), (1170, .iaload, 1, 0), (1171, .aload_n 0, 1, 0), (1172, .iload_n 3, 1, 0), (1173, .iconst 2, 1, 0), (1174, .iadd, 1, 0), (1175, .iaload, 1, 0), (1176, .invokevirtual 137, 3, 0), (1179, .if_icmp .eq 1057, 3, 2236)]
noncomputable def lawc_18 : List AI := [(1182, .iconst 0, 1, 0), (1183, .ireturn, 1, 0), (1184, .aload_n 1, 1, 0), (1185, .aload_n 0, 1, 0), (1186, .iload_n 3, 1, 0), (1187, .iconst 1, 1, 0), (1188, .iadd, 1, 0), (1189, .iaload, 1, 0), (1190, .aload_n 0, 1, 0), (1191, .iload_n 3, 1, 0), (1192, .iconst 2, 1, 0), (1193, .iadd, 1, 0), (1194, .iaload, 1, 0), (1195, .invokevirtual 138, 3, 0), (1198, .aload_n 2, 1, 0), (1199, .aload_n 0, 1, 0), (1200, .iload_n 3, 1, 0), (1201, .iconst 1, 1, 0), (1202, .iadd, 1, 0), (1203, .iaload, 1, 0), (1204, .aload_n 0, 1, 0), (1205, .iload_n 3, 1, 0), (1206, .iconst 2, 1, 0), (1207, .iadd, 1, 0), (1208, .iaload, 1, 0), (1209, .invokevirtual 141, 3, 0), (1212, .if_icmp .eq 1024, 3, 2236), (1215, .iconst 0, 1, 0), (1216, .ireturn, 1, 0), (1217, .aload_n 1, 1, 0), (1218, .aload_n 0, 1, 0), (1219, .iload_n 3, 1, 0), (1220, .iconst 1, 1, 0), (1221, .iadd, 1, 0), (1222, .iaload, 1, 0), (1223, .aload_n 0, 1, 0), (1224, .iload_n 3, 1, 0), (1225, .iconst 2, 1, 0), (1226, .iadd, 1, 0), (1227, .iaload, 1, 0)]
noncomputable def lawc_19 : List AI := [(1228, .invokevirtual 142, 3, 0), (1231, .aload_n 2, 1, 0), (1232, .aload_n 0, 1, 0), (1233, .iload_n 3, 1, 0), (1234, .iconst 1, 1, 0), (1235, .iadd, 1, 0), (1236, .iaload, 1, 0), (1237, .aload_n 0, 1, 0), (1238, .iload_n 3, 1, 0), (1239, .iconst 2, 1, 0), (1240, .iadd, 1, 0), (1241, .iaload, 1, 0), (1242, .invokevirtual 145, 3, 0), (1245, .if_icmp .eq 991, 3, 2236), (1248, .iconst 0, 1, 0), (1249, .ireturn, 1, 0), (1250, .aload_n 1, 1, 0), (1251, .aload_n 0, 1, 0), (1252, .iload_n 3, 1, 0), (1253, .iconst 1, 1, 0), (1254, .iadd, 1, 0), (1255, .iaload, 1, 0), (1256, .invokevirtual 146, 3, 0), (1259, .aload_n 2, 1, 0), (1260, .aload_n 0, 1, 0), (1261, .iload_n 3, 1, 0), (1262, .iconst 1, 1, 0), (1263, .iadd, 1, 0), (1264, .iaload, 1, 0), (1265, .invokevirtual 149, 3, 0), (1268, .if_icmp .eq 968, 3, 2236), (1271, .iconst 0, 1, 0), (1272, .ireturn, 1, 0), (1273, .aload_n 1, 1, 0), (1274, .aload_n 0, 1, 0), (1275, .iload_n 3, 1, 0), (1276, .iconst 1, 1, 0), (1277, .iadd, 1, 0), (1278, .iaload, 1, 0), (1279, .invokevirtual 150, 3, 0)]
noncomputable def lawc_20 : List AI := [(1282, .aload_n 2, 1, 0), (1283, .aload_n 0, 1, 0), (1284, .iload_n 3, 1, 0), (1285, .iconst 1, 1, 0), (1286, .iadd, 1, 0), (1287, .iaload, 1, 0), (1288, .invokevirtual 153, 3, 0), (1291, .if_icmp .eq 945, 3, 2236), (1294, .iconst 0, 1, 0), (1295, .ireturn, 1, 0), (1296, .aload_n 1, 1, 0), (1297, .aload_n 0, 1, 0), (1298, .iload_n 3, 1, 0), (1299, .iconst 1, 1, 0), (1300, .iadd, 1, 0), (1301, .iaload, 1, 0), (1302, .aload_n 0, 1, 0), (1303, .iload_n 3, 1, 0), (1304, .iconst 2, 1, 0), (1305, .iadd, 1, 0), (1306, .iaload, 1, 0), (1307, .aload_n 0, 1, 0), (1308, .iload_n 3, 1, 0), (1309, .iconst 3, 1, 0), (1310, .iadd, 1, 0), (1311, .iaload, 1, 0), (1312, .invokevirtual 154, 3, 0), (1315, .aload_n 2, 1, 0), (1316, .aload_n 0, 1, 0), (1317, .iload_n 3, 1, 0), (1318, .iconst 1, 1, 0), (1319, .iadd, 1, 0), (1320, .iaload, 1, 0), (1321, .aload_n 0, 1, 0), (1322, .iload_n 3, 1, 0), (1323, .iconst 2, 1, 0), (1324, .iadd, 1, 0), (1325, .iaload, 1, 0), (1326, .aload_n 0, 1, 0), (1327, .iload_n 3, 1, 0)]
noncomputable def lawc_21 : List AI := [(1328, .iconst 3, 1, 0), (1329, .iadd, 1, 0), (1330, .iaload, 1, 0), (1331, .invokevirtual 157, 3, 0), (1334, .if_icmp .eq 902, 3, 2236), (1337, .iconst 0, 1, 0), (1338, .ireturn, 1, 0), (1339, .aload_n 1, 1, 0), (1340, .aload_n 0, 1, 0), (1341, .iload_n 3, 1, 0), (1342, .iconst 1, 1, 0), (1343, .iadd, 1, 0), (1344, .iaload, 1, 0), (1345, .invokevirtual 158, 3, 0), (1348, .aload_n 2, 1, 0), (1349, .aload_n 0, 1, 0), (1350, .iload_n 3, 1, 0), (1351, .iconst 1, 1, 0), (1352, .iadd, 1, 0), (1353, .iaload, 1, 0), (1354, .invokevirtual 161, 3, 0), (1357, .if_icmp .eq 879, 3, 2236), (1360, .iconst 0, 1, 0), (1361, .ireturn, 1, 0), (1362, .aload_n 1, 1, 0), (1363, .aload_n 0, 1, 0), (1364, .iload_n 3, 1, 0), (1365, .iconst 1, 1, 0), (1366, .iadd, 1, 0), (1367, .iaload, 1, 0), (1368, .invokevirtual 162, 3, 0), (1371, .aload_n 2, 1, 0), (1372, .aload_n 0, 1, 0), (1373, .iload_n 3, 1, 0), (1374, .iconst 1, 1, 0), (1375, .iadd, 1, 0), (1376, .iaload, 1, 0), (1377, .invokevirtual 165, 3, 0), (1380, .if_icmp .eq 856, 3, 2236), (1383, .iconst 0, 1, 0)]
noncomputable def lawc_22 : List AI := [(1384, .ireturn, 1, 0), (1385, .aload_n 1, 1, 0), (1386, .aload_n 0, 1, 0), (1387, .iload_n 3, 1, 0), (1388, .iconst 1, 1, 0), (1389, .iadd, 1, 0), (1390, .iaload, 1, 0), (1391, .aload_n 0, 1, 0), (1392, .iload_n 3, 1, 0), (1393, .iconst 2, 1, 0), (1394, .iadd, 1, 0), (1395, .iaload, 1, 0), (1396, .invokevirtual 166, 3, 0), (1399, .aload_n 2, 1, 0), (1400, .aload_n 0, 1, 0), (1401, .iload_n 3, 1, 0), (1402, .iconst 1, 1, 0), (1403, .iadd, 1, 0), (1404, .iaload, 1, 0), (1405, .aload_n 0, 1, 0), (1406, .iload_n 3, 1, 0), (1407, .iconst 2, 1, 0), (1408, .iadd, 1, 0), (1409, .iaload, 1, 0), (1410, .invokevirtual 169, 3, 0), (1413, .if_icmp .eq 823, 3, 2236), (1416, .iconst 0, 1, 0), (1417, .ireturn, 1, 0), (1418, .aload_n 1, 1, 0), (1419, .aload_n 0, 1, 0), (1420, .iload_n 3, 1, 0), (1421, .iconst 1, 1, 0), (1422, .iadd, 1, 0), (1423, .iaload, 1, 0), (1424, .aload_n 0, 1, 0), (1425, .iload_n 3, 1, 0), (1426, .iconst 2, 1, 0), (1427, .iadd, 1, 0), (1428, .iaload, 1, 0), (1429, .invokevirtual 170, 3, 0)]
noncomputable def lawc_23 : List AI := [(1432, .aload_n 2, 1, 0), (1433, .aload_n 0, 1, 0), (1434, .iload_n 3, 1, 0), (1435, .iconst 1, 1, 0), (1436, .iadd, 1, 0), (1437, .iaload, 1, 0), (1438, .aload_n 0, 1, 0), (1439, .iload_n 3, 1, 0), (1440, .iconst 2, 1, 0), (1441, .iadd, 1, 0), (1442, .iaload, 1, 0), (1443, .invokevirtual 173, 3, 0), (1446, .if_icmp .eq 790, 3, 2236), (1449, .iconst 0, 1, 0), (1450, .ireturn, 1, 0), (1451, .aload_n 1, 1, 0), (1452, .aload_n 0, 1, 0), (1453, .iload_n 3, 1, 0), (1454, .iconst 1, 1, 0), (1455, .iadd, 1, 0), (1456, .iaload, 1, 0), (1457, .aload_n 0, 1, 0), (1458, .iload_n 3, 1, 0), (1459, .iconst 2, 1, 0), (1460, .iadd, 1, 0), (1461, .iaload, 1, 0), (1462, .invokevirtual 174, 3, 0), (1465, .aload_n 2, 1, 0), (1466, .aload_n 0, 1, 0), (1467, .iload_n 3, 1, 0), (1468, .iconst 1, 1, 0), (1469, .iadd, 1, 0), (1470, .iaload, 1, 0), (1471, .aload_n 0, 1, 0), (1472, .iload_n 3, 1, 0), (1473, .iconst 2, 1, 0), (1474, .iadd, 1, 0), (1475, .iaload, 1, 0), (1476, .invokevirtual 177, 3, 0), (1479, .if_icmp .eq 757, 3, 2236)]
noncomputable def lawc_24 : List AI := [(1482, .iconst 0, 1, 0), (1483, .ireturn, 1, 0), (1484, .aload_n 1, 1, 0), (1485, .aload_n 0, 1, 0), (1486, .iload_n 3, 1, 0), (1487, .iconst 1, 1, 0), (1488, .iadd, 1, 0), (1489, .iaload, 1, 0), (1490, .aload_n 0, 1, 0), (1491, .iload_n 3, 1, 0), (1492, .iconst 2, 1, 0), (1493, .iadd, 1, 0), (1494, .iaload, 1, 0), (1495, .invokevirtual 178, 3, 0), (1498, .aload_n 2, 1, 0), (1499, .aload_n 0, 1, 0), (1500, .iload_n 3, 1, 0), (1501, .iconst 1, 1, 0), (1502, .iadd, 1, 0), (1503, .iaload, 1, 0), (1504, .aload_n 0, 1, 0), (1505, .iload_n 3, 1, 0), (1506, .iconst 2, 1, 0), (1507, .iadd, 1, 0), (1508, .iaload, 1, 0), (1509, .invokevirtual 181, 3, 0), (1512, .if_icmp .eq 724, 3, 2236), (1515, .iconst 0, 1, 0), (1516, .ireturn, 1, 0), (1517, .aload_n 1, 1, 0), (1518, .aload_n 0, 1, 0), (1519, .iload_n 3, 1, 0), (1520, .iconst 1, 1, 0), (1521, .iadd, 1, 0), (1522, .iaload, 1, 0), (1523, .invokevirtual 182, 3, 0), (1526, .aload_n 2, 1, 0), (1527, .aload_n 0, 1, 0), (1528, .iload_n 3, 1, 0), (1529, .iconst 1, 1, 0)]
noncomputable def lawc_25 : List AI := [(1530, .iadd, 1, 0), (1531, .iaload, 1, 0), (1532, .invokevirtual 185, 3, 0), (1535, .if_icmp .eq 701, 3, 2236), (1538, .iconst 0, 1, 0), (1539, .ireturn, 1, 0), (1540, .aload_n 1, 1, 0), (1541, .aload_n 0, 1, 0), (1542, .iload_n 3, 1, 0), (1543, .iconst 1, 1, 0), (1544, .iadd, 1, 0), (1545, .iaload, 1, 0), (1546, .invokevirtual 186, 3, 0), (1549, .aload_n 2, 1, 0), (1550, .aload_n 0, 1, 0), (1551, .iload_n 3, 1, 0), (1552, .iconst 1, 1, 0), (1553, .iadd, 1, 0), (1554, .iaload, 1, 0), (1555, .invokevirtual 189, 3, 0), (1558, .if_icmp .eq 678, 3, 2236), (1561, .iconst 0, 1, 0), (1562, .ireturn, 1, 0), (1563, .aload_n 1, 1, 0), (1564, .aload_n 0, 1, 0), (1565, .iload_n 3, 1, 0), (1566, .iconst 1, 1, 0), (1567, .iadd, 1, 0), (1568, .iaload, 1, 0), (1569, .aload_n 0, 1, 0), (1570, .iload_n 3, 1, 0), (1571, .iconst 2, 1, 0), (1572, .iadd, 1, 0), (1573, .iaload, 1, 0), (1574, .invokevirtual 190, 3, 0), (1577, .aload_n 2, 1, 0), (1578, .aload_n 0, 1, 0), (1579, .iload_n 3, 1, 0), (1580, .iconst 1, 1, 0), (1581, .iadd, 1, 0)]
noncomputable def lawc_26 : List AI := [(1582, .iaload, 1, 0), (1583, .aload_n 0, 1, 0), (1584, .iload_n 3, 1, 0), (1585, .iconst 2, 1, 0), (1586, .iadd, 1, 0), (1587, .iaload, 1, 0), (1588, .invokevirtual 193, 3, 0), (1591, .if_icmp .eq 645, 3, 2236), (1594, .iconst 0, 1, 0), (1595, .ireturn, 1, 0), (1596, .aload_n 1, 1, 0), (1597, .invokevirtual 194, 3, 0), (1600, .aload_n 2, 1, 0), (1601, .invokevirtual 197, 3, 0), (1604, .if_icmp .eq 632, 3, 2236), (1607, .iconst 0, 1, 0), (1608, .ireturn, 1, 0), (1609, .aload_n 1, 1, 0), (1610, .aload_n 0, 1, 0), (1611, .iload_n 3, 1, 0), (1612, .iconst 1, 1, 0), (1613, .iadd, 1, 0), (1614, .iaload, 1, 0), (1615, .invokevirtual 198, 3, 0), (1618, .aload_n 2, 1, 0), (1619, .aload_n 0, 1, 0), (1620, .iload_n 3, 1, 0), (1621, .iconst 1, 1, 0), (1622, .iadd, 1, 0), (1623, .iaload, 1, 0), (1624, .invokevirtual 201, 3, 0), (1627, .if_icmp .eq 609, 3, 2236), (1630, .iconst 0, 1, 0), (1631, .ireturn, 1, 0), (1632, .aload_n 1, 1, 0), (1633, .aload_n 0, 1, 0), (1634, .iload_n 3, 1, 0), (1635, .iconst 1, 1, 0), (1636, .iadd, 1, 0), (1637, .iaload, 1, 0)]
noncomputable def lawc_27 : List AI := [(1638, .aload_n 0, 1, 0), (1639, .iload_n 3, 1, 0), (1640, .iconst 2, 1, 0), (1641, .iadd, 1, 0), (1642, .iaload, 1, 0), (1643, .invokevirtual 202, 3, 0), (1646, .aload_n 2, 1, 0), (1647, .aload_n 0, 1, 0), (1648, .iload_n 3, 1, 0), (1649, .iconst 1, 1, 0), (1650, .iadd, 1, 0), (1651, .iaload, 1, 0), (1652, .aload_n 0, 1, 0), (1653, .iload_n 3, 1, 0), (1654, .iconst 2, 1, 0), (1655, .iadd, 1, 0), (1656, .iaload, 1, 0), (1657, .invokevirtual 205, 3, 0), (1660, .if_icmp .eq 576, 3, 2236), (1663, .iconst 0, 1, 0), (1664, .ireturn, 1, 0), (1665, .aload_n 1, 1, 0), (1666, .aload_n 0, 1, 0), (1667, .iload_n 3, 1, 0), (1668, .iconst 1, 1, 0), (1669, .iadd, 1, 0), (1670, .iaload, 1, 0), (1671, .invokevirtual 206, 3, 0), (1674, .aload_n 2, 1, 0), (1675, .aload_n 0, 1, 0), (1676, .iload_n 3, 1, 0), (1677, .iconst 1, 1, 0), (1678, .iadd, 1, 0), (1679, .iaload, 1, 0), (1680, .invokevirtual 209, 3, 0), (1683, .if_icmp .eq 553, 3, 2236), (1686, .iconst 0, 1, 0), (1687, .ireturn, 1, 0), (1688, .aload_n 1, 1, 0), (1689, .aload_n 0, 1, 0)]
noncomputable def lawc_28 : List AI := [(1690, .iload_n 3, 1, 0), (1691, .iconst 1, 1, 0), (1692, .iadd, 1, 0), (1693, .iaload, 1, 0), (1694, .aload_n 0, 1, 0), (1695, .iload_n 3, 1, 0), (1696, .iconst 2, 1, 0), (1697, .iadd, 1, 0), (1698, .iaload, 1, 0), (1699, .invokevirtual 210, 3, 0), (1702, .aload_n 2, 1, 0), (1703, .aload_n 0, 1, 0), (1704, .iload_n 3, 1, 0), (1705, .iconst 1, 1, 0), (1706, .iadd, 1, 0), (1707, .iaload, 1, 0), (1708, .aload_n 0, 1, 0), (1709, .iload_n 3, 1, 0), (1710, .iconst 2, 1, 0), (1711, .iadd, 1, 0), (1712, .iaload, 1, 0), (1713, .invokevirtual 213, 3, 0), (1716, .if_icmp .eq 520, 3, 2236), (1719, .iconst 0, 1, 0), (1720, .ireturn, 1, 0), (1721, .aload_n 1, 1, 0), (1722, .aload_n 0, 1, 0), (1723, .iload_n 3, 1, 0), (1724, .iconst 1, 1, 0), (1725, .iadd, 1, 0), (1726, .iaload, 1, 0), (1727, .invokevirtual 214, 3, 0), (1730, .aload_n 2, 1, 0), (1731, .aload_n 0, 1, 0), (1732, .iload_n 3, 1, 0), (1733, .iconst 1, 1, 0), (1734, .iadd, 1, 0), (1735, .iaload, 1, 0), (1736, .invokevirtual 217, 3, 0), (1739, .if_icmp .eq 497, 3, 2236)]
noncomputable def lawc_29 : List AI := [(1742, .iconst 0, 1, 0), (1743, .ireturn, 1, 0), (1744, .aload_n 1, 1, 0), (1745, .aload_n 0, 1, 0), (1746, .iload_n 3, 1, 0), (1747, .iconst 1, 1, 0), (1748, .iadd, 1, 0), (1749, .iaload, 1, 0), (1750, .invokevirtual 218, 3, 0), (1753, .aload_n 2, 1, 0), (1754, .aload_n 0, 1, 0), (1755, .iload_n 3, 1, 0), (1756, .iconst 1, 1, 0), (1757, .iadd, 1, 0), (1758, .iaload, 1, 0), (1759, .invokevirtual 221, 3, 0), (1762, .if_icmp .eq 474, 3, 2236), (1765, .iconst 0, 1, 0), (1766, .ireturn, 1, 0), (1767, .aload_n 1, 1, 0), (1768, .invokevirtual 222, 3, 0), (1771, .aload_n 2, 1, 0), (1772, .invokevirtual 225, 3, 0), (1775, .if_icmp .eq 461, 3, 2236), (1778, .iconst 0, 1, 0), (1779, .ireturn, 1, 0), (1780, .aload_n 1, 1, 0), (1781, .aload_n 0, 1, 0), (1782, .iload_n 3, 1, 0), (1783, .iconst 1, 1, 0), (1784, .iadd, 1, 0), (1785, .iaload, 1, 0), (1786, .invokevirtual 226, 3, 0), (1789, .aload_n 2, 1, 0), (1790, .aload_n 0, 1, 0), (1791, .iload_n 3, 1, 0), (1792, .iconst 1, 1, 0), (1793, .iadd, 1, 0), (1794, .iaload, 1, 0), (1795, .invokevirtual 229, 3, 0)]
noncomputable def lawc_30 : List AI := [(1798, .if_icmp .eq 438, 3, 2236), (1801, .iconst 0, 1, 0), (1802, .ireturn, 1, 0), (1803, .aload_n 1, 1, 0), (1804, .invokevirtual 230, 3, 0), (1807, .aload_n 2, 1, 0), (1808, .invokevirtual 233, 3, 0), (1811, .if_icmp .eq 425, 3, 2236), (1814, .iconst 0, 1, 0), (1815, .ireturn, 1, 0), (1816, .aload_n 1, 1, 0), (1817, .aload_n 0, 1, 0), (1818, .iload_n 3, 1, 0), (1819, .iconst 1, 1, 0), (1820, .iadd, 1, 0), (1821, .iaload, 1, 0), (1822, .aload_n 0, 1, 0), (1823, .iload_n 3, 1, 0), (1824, .iconst 2, 1, 0), (1825, .iadd, 1, 0), (1826, .iaload, 1, 0), (1827, .aload_n 0, 1, 0), (1828, .iload_n 3, 1, 0), (1829, .iconst 3, 1, 0), (1830, .iadd, 1, 0), (1831, .iaload, 1, 0), (1832, .invokevirtual 234, 3, 0), (1835, .aload_n 2, 1, 0), (1836, .aload_n 0, 1, 0), (1837, .iload_n 3, 1, 0), (1838, .iconst 1, 1, 0), (1839, .iadd, 1, 0), (1840, .iaload, 1, 0), (1841, .aload_n 0, 1, 0), (1842, .iload_n 3, 1, 0), (1843, .iconst 2, 1, 0), (1844, .iadd, 1, 0), (1845, .iaload, 1, 0), (1846, .aload_n 0, 1, 0), (1847, .iload_n 3, 1, 0)]
noncomputable def lawc_31 : List AI := [(1848, .iconst 3, 1, 0), (1849, .iadd, 1, 0), (1850, .iaload, 1, 0), (1851, .invokevirtual 237, 3, 0), (1854, .if_icmp .eq 382, 3, 2236), (1857, .iconst 0, 1, 0), (1858, .ireturn, 1, 0), (1859, .aload_n 1, 1, 0), (1860, .aload_n 0, 1, 0), (1861, .iload_n 3, 1, 0), (1862, .iconst 1, 1, 0), (1863, .iadd, 1, 0), (1864, .iaload, 1, 0), (1865, .aload_n 0, 1, 0), (1866, .iload_n 3, 1, 0), (1867, .iconst 2, 1, 0), (1868, .iadd, 1, 0), (1869, .iaload, 1, 0), (1870, .invokevirtual 238, 3, 0), (1873, .aload_n 2, 1, 0), (1874, .aload_n 0, 1, 0), (1875, .iload_n 3, 1, 0), (1876, .iconst 1, 1, 0), (1877, .iadd, 1, 0), (1878, .iaload, 1, 0), (1879, .aload_n 0, 1, 0), (1880, .iload_n 3, 1, 0), (1881, .iconst 2, 1, 0), (1882, .iadd, 1, 0), (1883, .iaload, 1, 0), (1884, .invokevirtual 241, 3, 0), (1887, .if_icmp .eq 349, 3, 2236), (1890, .iconst 0, 1, 0), (1891, .ireturn, 1, 0), (1892, .aload_n 1, 1, 0), (1893, .aload_n 0, 1, 0), (1894, .iload_n 3, 1, 0), (1895, .iconst 1, 1, 0), (1896, .iadd, 1, 0), (1897, .iaload, 1, 0)]
noncomputable def lawc_32 : List AI := [(1898, .aload_n 0, 1, 0), (1899, .iload_n 3, 1, 0), (1900, .iconst 2, 1, 0), (1901, .iadd, 1, 0), (1902, .iaload, 1, 0), (1903, .aload_n 0, 1, 0), (1904, .iload_n 3, 1, 0), (1905, .iconst 3, 1, 0), (1906, .iadd, 1, 0), (1907, .iaload, 1, 0), (1908, .invokevirtual 242, 3, 0), (1911, .aload_n 2, 1, 0), (1912, .aload_n 0, 1, 0), (1913, .iload_n 3, 1, 0), (1914, .iconst 1, 1, 0), (1915, .iadd, 1, 0), (1916, .iaload, 1, 0), (1917, .aload_n 0, 1, 0), (1918, .iload_n 3, 1, 0), (1919, .iconst 2, 1, 0), (1920, .iadd, 1, 0), (1921, .iaload, 1, 0), (1922, .aload_n 0, 1, 0), (1923, .iload_n 3, 1, 0), (1924, .iconst 3, 1, 0), (1925, .iadd, 1, 0), (1926, .iaload, 1, 0), (1927, .invokevirtual 245, 3, 0), (1930, .if_icmp .eq 306, 3, 2236), (1933, .iconst 0, 1, 0), (1934, .ireturn, 1, 0), (1935, .aload_n 1, 1, 0), (1936, .aload_n 0, 1, 0), (1937, .iload_n 3, 1, 0), (1938, .iconst 1, 1, 0), (1939, .iadd, 1, 0), (1940, .iaload, 1, 0), (1941, .aload_n 0, 1, 0), (1942, .iload_n 3, 1, 0), (1943, .iconst 2, 1, 0)]
noncomputable def lawc_33 : List AI := [(1944, .iadd, 1, 0), (1945, .iaload, 1, 0), (1946, .aload_n 0, 1, 0), (1947, .iload_n 3, 1, 0), (1948, .iconst 3, 1, 0), (1949, .iadd, 1, 0), (1950, .iaload, 1, 0), (1951, .aload_n 0, 1, 0), (1952, .iload_n 3, 1, 0), (1953, .iconst 4, 1, 0), (1954, .iadd, 1, 0), (1955, .iaload, 1, 0), (1956, .invokevirtual 246, 3, 0), (1959, .aload_n 2, 1, 0), (1960, .aload_n 0, 1, 0), (1961, .iload_n 3, 1, 0), (1962, .iconst 1, 1, 0), (1963, .iadd, 1, 0), (1964, .iaload, 1, 0), (1965, .aload_n 0, 1, 0), (1966, .iload_n 3, 1, 0), (1967, .iconst 2, 1, 0), (1968, .iadd, 1, 0), (1969, .iaload, 1, 0), (1970, .aload_n 0, 1, 0), (1971, .iload_n 3, 1, 0), (1972, .iconst 3, 1, 0), (1973, .iadd, 1, 0), (1974, .iaload, 1, 0), (1975, .aload_n 0, 1, 0), (1976, .iload_n 3, 1, 0), (1977, .iconst 4, 1, 0), (1978, .iadd, 1, 0), (1979, .iaload, 1, 0), (1980, .invokevirtual 250, 3, 0), (1983, .if_icmp .eq 253, 3, 2236), (1986, .iconst 0, 1, 0), (1987, .ireturn, 1, 0), (1988, .aload_n 1, 1, 0), (1989, .aload_n 0, 1, 0)]
noncomputable def lawc_34 : List AI := [(1990, .iload_n 3, 1, 0), (1991, .iconst 1, 1, 0), (1992, .iadd, 1, 0), (1993, .iaload, 1, 0), (1994, .invokevirtual 251, 3, 0), (1997, .aload_n 2, 1, 0), (1998, .aload_n 0, 1, 0), (1999, .iload_n 3, 1, 0), (2000, .iconst 1, 1, 0), (2001, .iadd, 1, 0), (2002, .iaload, 1, 0), (2003, .invokevirtual 254, 3, 0), (2006, .if_icmp .eq 230, 3, 2236), (2009, .iconst 0, 1, 0), (2010, .ireturn, 1, 0), (2011, .aload_n 1, 1, 0), (2012, .aload_n 0, 1, 0), (2013, .iload_n 3, 1, 0), (2014, .iconst 1, 1, 0), (2015, .iadd, 1, 0), (2016, .iaload, 1, 0), (2017, .invokevirtual 255, 3, 0), (2020, .aload_n 2, 1, 0), (2021, .aload_n 0, 1, 0), (2022, .iload_n 3, 1, 0), (2023, .iconst 1, 1, 0), (2024, .iadd, 1, 0), (2025, .iaload, 1, 0), (2026, .invokevirtual 258, 3, 0), (2029, .if_icmp .eq 207, 3, 2236), (2032, .iconst 0, 1, 0), (2033, .ireturn, 1, 0), (2034, .aload_n 1, 1, 0), (2035, .aload_n 0, 1, 0), (2036, .iload_n 3, 1, 0), (2037, .iconst 1, 1, 0), (2038, .iadd, 1, 0), (2039, .iaload, 1, 0), (2040, .invokevirtual 259, 3, 0), (2043, .aload_n 2, 1, 0)]
noncomputable def lawc_35 : List AI := [(2044, .aload_n 0, 1, 0), (2045, .iload_n 3, 1, 0), (2046, .iconst 1, 1, 0), (2047, .iadd, 1, 0), (2048, .iaload, 1, 0), (2049, .invokevirtual 262, 3, 0), (2052, .if_icmp .eq 184, 3, 2236), (2055, .iconst 0, 1, 0), (2056, .ireturn, 1, 0), (2057, .aload_n 1, 1, 0), (2058, .aload_n 0, 1, 0), (2059, .iload_n 3, 1, 0), (2060, .iconst 1, 1, 0), (2061, .iadd, 1, 0), (2062, .iaload, 1, 0), (2063, .aload_n 0, 1, 0), (2064, .iload_n 3, 1, 0), (2065, .iconst 2, 1, 0), (2066, .iadd, 1, 0), (2067, .iaload, 1, 0), (2068, .aload_n 0, 1, 0), (2069, .iload_n 3, 1, 0), (2070, .iconst 3, 1, 0), (2071, .iadd, 1, 0), (2072, .iaload, 1, 0), (2073, .invokevirtual 263, 3, 0), (2076, .aload_n 2, 1, 0), (2077, .aload_n 0, 1, 0), (2078, .iload_n 3, 1, 0), (2079, .iconst 1, 1, 0), (2080, .iadd, 1, 0), (2081, .iaload, 1, 0), (2082, .aload_n 0, 1, 0), (2083, .iload_n 3, 1, 0), (2084, .iconst 2, 1, 0), (2085, .iadd, 1, 0), (2086, .iaload, 1, 0), (2087, .aload_n 0, 1, 0), (2088, .iload_n 3, 1, 0), (2089, .iconst 3, 1, 0)]
noncomputable def lawc_36 : List AI := [(2090, .iadd, 1, 0), (2091, .iaload, 1, 0), (2092, .invokevirtual 266, 3, 0), (2095, .if_icmp .eq 141, 3, 2236), (2098, .iconst 0, 1, 0), (2099, .ireturn, 1, 0), (2100, .aload_n 1, 1, 0), (2101, .aload_n 0, 1, 0), (2102, .iload_n 3, 1, 0), (2103, .iconst 1, 1, 0), (2104, .iadd, 1, 0), (2105, .iaload, 1, 0), (2106, .aload_n 0, 1, 0), (2107, .iload_n 3, 1, 0), (2108, .iconst 2, 1, 0), (2109, .iadd, 1, 0), (2110, .iaload, 1, 0), (2111, .aload_n 0, 1, 0), (2112, .iload_n 3, 1, 0), (2113, .iconst 3, 1, 0), (2114, .iadd, 1, 0), (2115, .iaload, 1, 0), (2116, .i2l, 1, 0), (2117, .bipush 32, 2, 0), (2119, .lshl, 1, 0), (2120, .aload_n 0, 1, 0), (2121, .iload_n 3, 1, 0), (2122, .iconst 4, 1, 0), (2123, .iadd, 1, 0), (2124, .iaload, 1, 0), (2125, .i2l, 1, 0), (2126, .ldc2_w 267, 3, 0), (2129, .land, 1, 0), (2130, .lor, 1, 0), (2131, .invokevirtual 269, 3, 0), (2134, .aload_n 2, 1, 0), (2135, .aload_n 0, 1, 0), (2136, .iload_n 3, 1, 0), (2137, .iconst 1, 1, 0), (2138, .iadd, 1, 0)]
noncomputable def lawc_37 : List AI := [(2139, .iaload, 1, 0), (2140, .aload_n 0, 1, 0), (2141, .iload_n 3, 1, 0), (2142, .iconst 2, 1, 0), (2143, .iadd, 1, 0), (2144, .iaload, 1, 0), (2145, .aload_n 0, 1, 0), (2146, .iload_n 3, 1, 0), (2147, .iconst 3, 1, 0), (2148, .iadd, 1, 0), (2149, .iaload, 1, 0), (2150, .i2l, 1, 0), (2151, .bipush 32, 2, 0), (2153, .lshl, 1, 0), (2154, .aload_n 0, 1, 0), (2155, .iload_n 3, 1, 0), (2156, .iconst 4, 1, 0), (2157, .iadd, 1, 0), (2158, .iaload, 1, 0), (2159, .i2l, 1, 0), (2160, .ldc2_w 267, 3, 0), (2163, .land, 1, 0), (2164, .lor, 1, 0), (2165, .invokevirtual 273, 3, 0), (2168, .if_icmp .eq 68, 3, 2236), (2171, .iconst 0, 1, 0), (2172, .ireturn, 1, 0), (2173, .aload_n 1, 1, 0), (2174, .aload_n 0, 1, 0), (2175, .iload_n 3, 1, 0), (2176, .iconst 1, 1, 0), (2177, .iadd, 1, 0), (2178, .iaload, 1, 0), (2179, .aload_n 0, 1, 0), (2180, .iload_n 3, 1, 0), (2181, .iconst 2, 1, 0), (2182, .iadd, 1, 0), (2183, .iaload, 1, 0), (2184, .aload_n 0, 1, 0), (2185, .iload_n 3, 1, 0)]
noncomputable def lawc_38 : List AI := [(2186, .iconst 3, 1, 0), (2187, .iadd, 1, 0), (2188, .iaload, 1, 0), (2189, .aload_n 0, 1, 0), (2190, .iload_n 3, 1, 0), (2191, .iconst 4, 1, 0), (2192, .iadd, 1, 0), (2193, .iaload, 1, 0), (2194, .aload_n 0, 1, 0), (2195, .iload_n 3, 1, 0), (2196, .iconst 5, 1, 0), (2197, .iadd, 1, 0), (2198, .iaload, 1, 0), (2199, .invokevirtual 274, 3, 0), (2202, .aload_n 2, 1, 0), (2203, .aload_n 0, 1, 0), (2204, .iload_n 3, 1, 0), (2205, .iconst 1, 1, 0), (2206, .iadd, 1, 0), (2207, .iaload, 1, 0), (2208, .aload_n 0, 1, 0), (2209, .iload_n 3, 1, 0), (2210, .iconst 2, 1, 0), (2211, .iadd, 1, 0), (2212, .iaload, 1, 0), (2213, .aload_n 0, 1, 0), (2214, .iload_n 3, 1, 0), (2215, .iconst 3, 1, 0), (2216, .iadd, 1, 0), (2217, .iaload, 1, 0), (2218, .aload_n 0, 1, 0), (2219, .iload_n 3, 1, 0), (2220, .iconst 4, 1, 0), (2221, .iadd, 1, 0), (2222, .iaload, 1, 0), (2223, .aload_n 0, 1, 0), (2224, .iload_n 3, 1, 0), (2225, .iconst 5, 1, 0), (2226, .iadd, 1, 0), (2227, .iaload, 1, 0)]
noncomputable def lawc_39 : List AI := [(2228, .invokevirtual 277, 3, 0), (2231, .if_icmp .eq 5, 3, 2236), (2234, .iconst 0, 1, 0), (2235, .ireturn, 1, 0), (2236, .iinc 3 6, 3, 0), (2239, .goto (-2221), 3, 18), (2242, .iconst 1, 1, 0), (2243, .ireturn, 1, 0)]
-- DoorSchoolLaw.law([I)Z
noncomputable def mr_327 : MR := ((yL_law, cL_law, 4, 1, (some .boolean)), lawc_0 ++ (lawc_1 ++ (lawc_2 ++ (lawc_3 ++ (lawc_4 ++ (lawc_5 ++ (lawc_6 ++ (lawc_7 ++ (lawc_8 ++ (lawc_9 ++ (lawc_10 ++ (lawc_11 ++ (lawc_12 ++ (lawc_13 ++ (lawc_14 ++ (lawc_15 ++ (lawc_16 ++ (lawc_17 ++ (lawc_18 ++ (lawc_19 ++ (lawc_20 ++ (lawc_21 ++ (lawc_22 ++ (lawc_23 ++ (lawc_24 ++ (lawc_25 ++ (lawc_26 ++ (lawc_27 ++ (lawc_28 ++ (lawc_29 ++ (lawc_30 ++ (lawc_31 ++ (lawc_32 ++ (lawc_33 ++ (lawc_34 ++ (lawc_35 ++ (lawc_36 ++ (lawc_37 ++ (lawc_38 ++ (lawc_39))))))))))))))))))))))))))))))))))))))), ([], [(9, 4, 134, 1, 23), (12, 4, 241, 5, 186), (13, 0, 113, 2, 133), (17, 0, 217, 6, 70), (18, 0, 109, 2, 141), (22, 0, 212, 6, 74), (23, 0, 160, 2, 145), (27, 0, 303, 6, 82), (28, 0, 112, 3, 102), (31, 0, 216, 6, 78), (32, 0, 107, 3, 106), (36, 0, 210, 6, 195), (37, 0, 145, 3, 114), (41, 0, 271, 6, 208), (42, 0, 111, 3, 121), (45, 0, 215, 6, 212), (46, 0, 129, 3, 125), (49, 0, 236, 6, 220), (50, 0, 150, 3, 139), (53, 0, 283, 7, 7), (54, 0, 103, 3, 184), (57, 0, 201, 7, 62), (58, 0, 149, 3, 188), (61, 0, 282, 7, 66), (62, 0, 174, 3, 192), (65, 0, 322, 7, 70), (66, 0, 157, 3, 198), (69, 0, 300, 7, 74), (70, 0, 158, 3, 204), (73, 0, 301, 7, 78), (74, 0, 104, 3, 212), (77, 0, 207, 7, 82), (78, 0, 167, 3, 221), (81, 0, 315, 7, 90), (82, 0, 146, 3, 233), (85, 0, 273, 7, 102), (86, 0, 177, 4, 6), (89, 0, 325, 7, 114), (90, 0, 98, 4, 14), (93, 0, 192, 7, 118), (94, 0, 125, 4, 18), (97, 0, 231, 7, 122), (98, 0, 165, 4, 22), (101, 0, 311, 7, 126), (102, 0, 172, 4, 31), (105, 0, 320, 7, 130), (106, 0, 121, 4, 43), (109, 0, 226, 7, 134), (110, 0, 127, 4, 51), (113, 0, 234, 7, 142), (114, 0, 132, 4, 56), (117, 0, 238, 7, 146), (118, 0, 114, 4, 62), (121, 0, 218, 7, 154), (122, 0, 102, 4, 98), (125, 0, 198, 7, 173), (126, 0, 161, 4, 102), (129, 0, 305, 7, 177), (130, 0, 108, 4, 110), (133, 0, 211, 7, 182), (134, 0, 116, 4, 114), (137, 0, 223, 7, 187), (138, 0, 170, 4, 126), (141, 0, 319, 7, 195), (142, 0, 169, 4, 134), (145, 0, 317, 7, 203), (146, 0, 126, 4, 135), (149, 0, 232, 7, 207), (150, 0, 143, 4, 143), (153, 0, 270, 7, 219), (154, 0, 122, 4, 148), (157, 0, 227, 7, 224), (158, 0, 155, 4, 160), (161, 0, 298, 7, 236), (162, 0, 154, 4, 168), (165, 0, 297, 8, 4), (166, 0, 173, 4, 172), (169, 0, 321, 8, 8), (170, 0, 110, 4, 176), (173, 0, 213, 8, 12), (174, 0, 141, 4, 184), (177, 0, 267, 8, 20), (178, 0, 148, 4, 192), (181, 0, 278, 8, 24), (182, 0, 159, 4, 196), (185, 0, 302, 8, 28), (186, 0, 92, 4, 216), (189, 0, 182, 8, 47), (190, 0, 100, 4, 220), (193, 0, 196, 8, 51), (194, 0, 124, 4, 225), (197, 0, 230, 8, 59), (198, 0, 131, 5, 12), (201, 0, 237, 8, 71), (202, 0, 93, 5, 16), (205, 0, 184, 8, 75), (206, 0, 115, 5, 20), (209, 0, 221, 8, 79), (210, 0, 164, 5, 24), (213, 0, 308, 8, 87), (214, 0, 94, 5, 32), (217, 0, 187, 8, 91), (218, 0, 142, 5, 47), (221, 0, 269, 8, 104), (222, 0, 128, 5, 52), (225, 0, 235, 8, 108), (226, 0, 97, 5, 87), (229, 0, 191, 8, 140), (230, 0, 166, 5, 91), (233, 0, 313, 8, 148), (234, 0, 168, 5, 95), (237, 0, 316, 8, 152), (238, 0, 152, 5, 99), (241, 0, 287, 8, 157), (242, 0, 163, 5, 103), (245, 0, 306, 8, 161), (246, 0, 178, 5, 120), (250, 0, 326, 8, 178), (251, 0, 101, 5, 124), (254, 0, 197, 8, 183), (255, 0, 133, 5, 132), (258, 0, 239, 6, 58), (259, 0, 96, 5, 152), (262, 0, 190, 6, 66), (263, 0, 156, 5, 156), (266, 0, 299, 8, 187), (269, 0, 176, 5, 167), (273, 0, 324, 8, 191), (274, 0, 153, 5, 175), (277, 0, 288, 8, 198)], [], [(267, 4294967295, 8, 202)], [(7, 10, 1, 21), (10, 11, 5, 184)]), (99, (0, 0), (1, 0), (0, 0), (0, 0)))
noncomputable def MTL : List MR := [mr_0, mr_1, mr_2, mr_3, mr_4, mr_5, mr_6, mr_7, mr_8, mr_9, mr_10, mr_11, mr_12, mr_13, mr_14, mr_15, mr_16, mr_17, mr_18, mr_19, mr_20, mr_21, mr_22, mr_23, mr_24, mr_25, mr_26, mr_27, mr_28, mr_29, mr_30, mr_31, mr_32, mr_33, mr_34, mr_35, mr_36, mr_37, mr_38, mr_39, mr_40, mr_41, mr_42, mr_43, mr_44, mr_45, mr_46, mr_47, mr_48, mr_49, mr_50, mr_51, mr_52, mr_53, mr_54, mr_55, mr_56, mr_57, mr_58, mr_59, mr_60, mr_61, mr_62, mr_63, mr_64, mr_65, mr_66, mr_67, mr_68, mr_69, mr_70, mr_71, mr_72, mr_73, mr_74, mr_75, mr_76, mr_77, mr_78, mr_79, mr_80, mr_81, mr_82, mr_83, mr_84, mr_85, mr_86, mr_87, mr_88, mr_89, mr_90, mr_91, mr_92, mr_93, mr_94, mr_95, mr_96, mr_97, mr_98, mr_99, mr_100, mr_101, mr_102, mr_103, mr_104, mr_105, mr_106, mr_107, mr_108, mr_109, mr_110, mr_111, mr_112, mr_113, mr_114, mr_115, mr_116, mr_117, mr_118, mr_119, mr_120, mr_121, mr_122, mr_123, mr_124, mr_125, mr_126, mr_127, mr_128, mr_129, mr_130, mr_131, mr_132, mr_133, mr_134, mr_135, mr_136, mr_137, mr_138, mr_139, mr_140, mr_141, mr_142, mr_143, mr_144, mr_145, mr_146, mr_147, mr_148, mr_149, mr_150, mr_151, mr_152, mr_153, mr_154, mr_155, mr_156, mr_157, mr_158, mr_159, mr_160, mr_161, mr_162, mr_163, mr_164, mr_165, mr_166, mr_167, mr_168, mr_169, mr_170, mr_171, mr_172, mr_173, mr_174, mr_175, mr_176, mr_177, mr_178, mr_179, mr_180, mr_181, mr_182, mr_183, mr_184, mr_185, mr_186, mr_187, mr_188, mr_189, mr_190, mr_191, mr_192, mr_193, mr_194, mr_195, mr_196, mr_197, mr_198, mr_199, mr_200, mr_201, mr_202, mr_203, mr_204, mr_205, mr_206, mr_207, mr_208, mr_209, mr_210, mr_211, mr_212, mr_213, mr_214, mr_215, mr_216, mr_217, mr_218, mr_219, mr_220, mr_221, mr_222, mr_223, mr_224, mr_225, mr_226, mr_227, mr_228, mr_229, mr_230, mr_231, mr_232, mr_233, mr_234, mr_235, mr_236, mr_237, mr_238, mr_239, mr_240, mr_241, mr_242, mr_243, mr_244, mr_245, mr_246, mr_247, mr_248, mr_249, mr_250, mr_251, mr_252, mr_253, mr_254, mr_255, mr_256, mr_257, mr_258, mr_259, mr_260, mr_261, mr_262, mr_263, mr_264, mr_265, mr_266, mr_267, mr_268, mr_269, mr_270, mr_271, mr_272, mr_273, mr_274, mr_275, mr_276, mr_277, mr_278, mr_279, mr_280, mr_281, mr_282, mr_283, mr_284, mr_285, mr_286, mr_287, mr_288, mr_289, mr_290, mr_291, mr_292, mr_293, mr_294, mr_295, mr_296, mr_297, mr_298, mr_299, mr_300, mr_301, mr_302, mr_303, mr_304, mr_305, mr_306, mr_307, mr_308, mr_309, mr_310, mr_311, mr_312, mr_313, mr_314, mr_315, mr_316, mr_317, mr_318, mr_319, mr_320, mr_321, mr_322, mr_323, mr_324, mr_325, mr_326]
noncomputable def MT (j : Nat) : Option MR := MTL[j]?
end
section
/-! RUNS: some fuel is enough -/
theorem oB_mk {α β : Type} {o : Option α} {f : α → Option β} {a : α} {b : β} (h : o = some a) (h2 : f a = some b) : oB o f = some b := by subst h; exact h2
theorem oC_mk {α : Type} {b : Bool} {o : Option α} {a : α} (h : b = true) (h2 : o = some a) : oC b o = some a := by subst h; exact h2
theorem amC_mono {MT : Nat → Option MR} {r1 r2 : AM} (hr : ∀ fr lo scr F pc lv st h x, r1 fr lo scr F pc lv st h = some x → r2 fr lo scr F pc lv st h = some x) {fr lo : Nat} {scr : AS} {F : MR} {i : Instr} {pc : Nat} {lv : ALv} {st : List Value} {h : AH} {kd id : Nat} {x : Option Value × AH} (hx : amC MT r1 fr lo scr F i pc lv st h kd id = some x) : amC MT r2 fr lo scr F i pc lv st h kd id = some x := by
  unfold amC at hx ⊢
  split at hx
  · obtain ⟨q, hq, h2⟩ := oB_inv hx
    obtain ⟨h3, h4⟩ := oC_inv h2
    exact oB_mk hq (oC_mk h3 (hr _ _ _ _ _ _ _ _ _ h4))
  · unfold sR at hx ⊢
    split at hx
    · obtain ⟨h3, h4⟩ := oC_inv hx
      exact oC_mk h3 (hr _ _ _ _ _ _ _ _ _ h4)
    · cases hx
  · obtain ⟨G, hG, h2⟩ := oB_inv hx
    obtain ⟨h3, h4⟩ := oC_inv h2
    obtain ⟨q, hq, h5⟩ := oB_inv h4
    exact oB_mk hG (oC_mk h3 (oB_mk (hr _ _ _ _ _ _ _ _ _ hq) (hr _ _ _ _ _ _ _ _ _ h5)))
theorem amB_mono {MT : Nat → Option MR} {r1 r2 : AM} (hr : ∀ fr lo scr F pc lv st h x, r1 fr lo scr F pc lv st h = some x → r2 fr lo scr F pc lv st h = some x) {fr lo : Nat} {scr : AS} {F : MR} {pc : Nat} {lv : ALv} {st : List Value} {h : AH} {x : Option Value × AH} (hx : amB MT r1 fr lo scr F pc lv st h = some x) : amB MT r2 fr lo scr F pc lv st h = some x := by
  unfold amB at hx ⊢
  obtain ⟨q, hq, h1⟩ := oB_inv hx
  refine oB_mk hq ?_
  split at h1
  · obtain ⟨y, hy, h2⟩ := oB_inv h1
    exact oB_mk hy (hr _ _ _ _ _ _ _ _ _ h2)
  · obtain ⟨y, hy, h2⟩ := oB_inv h1
    exact oB_mk hy (hr _ _ _ _ _ _ _ _ _ h2)
  · obtain ⟨y, hy, h2⟩ := oB_inv h1
    exact oB_mk hy (hr _ _ _ _ _ _ _ _ _ h2)
  · obtain ⟨y, hy, h2⟩ := oB_inv h1
    obtain ⟨h3, h4⟩ := oC_inv h2
    exact oB_mk hy (oC_mk h3 (amC_mono hr h4))
  · exact h1
theorem am_mono (MT : Nat → Option MR) : ∀ (n k fr lo : Nat) (scr : AS) (F : MR) (pc : Nat) (lv : ALv) (st : List Value) (h : AH) (x : Option Value × AH), am MT n fr lo scr F pc lv st h = some x → am MT (n + k) fr lo scr F pc lv st h = some x := by
  intro n
  induction n with
  | zero => intro k fr lo scr F pc lv st h x hx; cases hx
  | succ n ih =>
    intro k fr lo scr F pc lv st h x hx
    rw [show n + 1 + k = (n + k) + 1 by omega, am_s]
    rw [am_s] at hx
    exact amB_mono (fun fr lo scr F pc lv st h x z => ih k fr lo scr F pc lv st h x z) hx
def Go (MT : Nat → Option MR) (fr lo : Nat) (scr : AS) (F : MR) (pc : Nat) (lv : ALv) (st : List Value) (h : AH) (x : Option Value × AH) : Prop := ∃ n, am MT n fr lo scr F pc lv st h = some x
/-- some reading steps -/
def pst (F : MR) (scr : AS) (h : AH) : Nat → Nat → ALv → List Value → Option (Nat × ALv × List Value)
  | 0, pc, lv, st => some (pc, lv, st)
  | n + 1, pc, lv, st => oB (fnd (mcode F) pc) (fun q => oC (ikind q.1 == 0) (oB (stpP F scr q.1 q.2.2 pc lv st h) (fun x => pst F scr h n x.1 x.2.1 x.2.2)))
section GO
variable {MT : Nat → Option MR} {fr lo : Nat} {scr : AS} {F : MR} {pc pc' len tgt : Nat} {i : Instr} {lv lv' : ALv} {st st' : List Value} {h h' : AH} {x : Option Value × AH}
theorem Go_Ps (n : Nat) (hs : pst F scr h n pc lv st = some (pc', lv', st')) (g : Go MT fr lo scr F pc' lv' st' h x) : Go MT fr lo scr F pc lv st h x := by
  induction n generalizing pc lv st with
  | zero => cases hs; exact g
  | succ n ih =>
    unfold pst at hs
    obtain ⟨q, hq, h1⟩ := oB_inv hs
    obtain ⟨h2, h3⟩ := oC_inv h1
    obtain ⟨y, hy, h4⟩ := oB_inv h3
    obtain ⟨k, hk⟩ := ih h4
    refine ⟨k + 1, ?_⟩
    rw [am_s]
    unfold amB
    refine oB_mk hq ?_
    rw [eq_of_beq h2]
    exact oB_mk hy hk
theorem Go_br {t : Bool} {a b : Nat} {r : List Value} (hf : fnd (mcode F) pc = some (i, len, tgt)) (hk : ikind i = 0) (hs : stpP F scr i tgt pc lv st h = jmp t a b lv' r) (g1 : t = true → Go MT fr lo scr F a lv' r h x) (g2 : t = false → Go MT fr lo scr F b lv' r h x) : Go MT fr lo scr F pc lv st h x := by
  cases t with
  | true => exact Go_Ps 1 (oB_mk hf (oC_mk (by rw [hk]; rfl) (oB_mk hs rfl))) (g1 rfl)
  | false => exact Go_Ps 1 (oB_mk hf (oC_mk (by rw [hk]; rfl) (oB_mk hs rfl))) (g2 rfl)
theorem Go_W (hf : fnd (mcode F) pc = some (i, len, tgt)) (hk : ikind i = 1) (hs : stpW F i pc st h = some (pc', st', h')) (g : Go MT fr lo scr F pc' lv st' h' x) : Go MT fr lo scr F pc lv st h x := by
  obtain ⟨k, hk2⟩ := g
  refine ⟨k + 1, ?_⟩
  rw [am_s]
  unfold amB
  refine oB_mk hf ?_
  dsimp only
  rw [hk]
  exact oB_mk hs hk2
theorem Go_N (hf : fnd (mcode F) pc = some (i, len, tgt)) (hk : ikind i = 2) (hs : stpN F i pc st h = some (pc', st', h')) (g : Go MT fr lo scr F pc' lv st' h' x) : Go MT fr lo scr F pc lv st h x := by
  obtain ⟨k, hk2⟩ := g
  refine ⟨k + 1, ?_⟩
  rw [am_s]
  unfold amB
  refine oB_mk hf ?_
  dsimp only
  rw [hk]
  exact oB_mk hs hk2
theorem Go_ret (hf : fnd (mcode F) pc = some (i, len, tgt)) (hk : ikind i = 4) (hs : doRet F i st h = some x) : Go MT fr lo scr F pc lv st h x := by
  refine ⟨1, ?_⟩
  rw [am_s]
  unfold amB
  refine oB_mk hf ?_
  dsimp only
  rw [hk]
  exact hs
theorem Go_copy {idx pos : Nat × Nat} {st2 : List Value} {e : Nat × Nat × Nat × Nat} (hf : fnd (mcode F) pc = some (i, len, tgt)) (hk : ikind i = 3) (he : fnd (mcl F) (callIx i) = some e) (hkd : callKd i e.1 = true) (h8 : e.1 = 8) (hc : acopy st h = some (st2, h')) (hb : (decide (1 ≤ fr) && decide (cats st2 + 40 ≤ lo)) = true) (g : Go MT fr lo scr F (pc + 3) lv st2 h' x) : Go MT fr lo scr F pc lv st h x := by
  obtain ⟨k, hk2⟩ := g
  refine ⟨k + 1, ?_⟩
  rw [am_s]
  unfold amB
  refine oB_mk hf ?_
  dsimp only
  rw [hk]
  refine oB_mk he (oC_mk hkd ?_)
  rw [h8]
  exact oB_mk hc (oC_mk hb hk2)
/-- a call: the callee's run, then the rest -/
theorem Go_call {kd id : Nat} {pos : Nat × Nat} {G : MR} {v1 : Option Value} {h1 : AH} {vs r : List Value} (hf : fnd (mcode F) pc = some (i, len, tgt)) (hk : ikind i = 3) (he : fnd (mcl F) (callIx i) = some (kd, id, pos)) (hkd : callKd i kd = true) (hlt : kd < 8) (hG : MT id = some G)
    (hvs : (st.take (nArg kd G)).reverse = vs) (hr : st.drop (nArg kd G) = r)
    (hb : (decide (nArg kd G ≤ st.length) && decide (1 ≤ fr) && decide (mml G + 19 ≤ lo) && decide (cats r ≤ 8) && decide (cats (st.take (nArg kd G)) ≤ mml G) && rcv kd (mci G) vs h) = true)
    (gc : Go MT (fr - 1) (lo - (mml G + 19)) none G 0 (lv_args 0 vs) [] h (v1, h1)) (g : Go MT fr lo scr F (pc + 3) lv (v1.toList ++ r) h1 x) : Go MT fr lo scr F pc lv st h x := by
  obtain ⟨k, hk2⟩ := g
  obtain ⟨n, hn⟩ := gc
  refine ⟨(n + k) + 1, ?_⟩
  rw [am_s]
  unfold amB
  refine oB_mk hf ?_
  dsimp only
  rw [hk]
  refine oB_mk he (oC_mk hkd ?_)
  dsimp only
  unfold amC
  split
  · omega
  · omega
  · subst hvs
    subst hr
    refine oB_mk hG (oC_mk hb (oB_mk (am_mono MT n k _ _ _ _ _ _ _ _ _ hn) ?_))
    dsimp only
    rw [Nat.add_comm n k]
    exact am_mono MT k n _ _ _ _ _ _ _ _ _ hk2
end GO
/-- a closed run -/
theorem Go_of {MT : Nat → Option MR} {fr lo : Nat} {scr : AS} {F : MR} {pc : Nat} {lv : ALv} {st : List Value} {h : AH} {x : Option Value × AH} (n : Nat) (hx : am MT n fr lo scr F pc lv st h = some x) : Go MT fr lo scr F pc lv st h x := ⟨n, hx⟩
/-- one step of a frame, a call in one -/
def stp1 (MT : Nat → Option MR) (rec : AM) (fr lo : Nat) (scr : AS) (F : MR) (s : Nat × ALv × List Value × AH) : Option (Nat × ALv × List Value × AH) :=
  oB (fnd (mcode F) s.1) (fun q => match ikind q.1 with
    | 0 => oB (stpP F scr q.1 q.2.2 s.1 s.2.1 s.2.2.1 s.2.2.2) (fun x => some (x.1, x.2.1, x.2.2, s.2.2.2))
    | 1 => oB (stpW F q.1 s.1 s.2.2.1 s.2.2.2) (fun x => some (x.1, s.2.1, x.2.1, x.2.2))
    | 2 => oB (stpN F q.1 s.1 s.2.2.1 s.2.2.2) (fun x => some (x.1, s.2.1, x.2.1, x.2.2))
    | 3 => oB (fnd (mcl F) (callIx q.1)) (fun e => oC (callKd q.1 e.1) (match e.1 with
      | 8 => oB (acopy s.2.2.1 s.2.2.2) (fun q => oC (decide (1 ≤ fr) && decide (cats q.1 + 40 ≤ lo)) (some (s.1 + 3, s.2.1, q.1, q.2)))
      | 9 => sR s.2.2.1 (fun _ r => oC (decide (1 ≤ fr) && decide (cats r + 12 ≤ lo)) (some (s.1 + 3, s.2.1, r, s.2.2.2)))
      | kd => oB (MT e.2.1) (fun G => oC (decide (nArg kd G ≤ s.2.2.1.length) && decide (1 ≤ fr) && decide (mml G + 19 ≤ lo) && decide (cats (s.2.2.1.drop (nArg kd G)) ≤ 8) && decide (cats (s.2.2.1.take (nArg kd G)) ≤ mml G) && rcv kd (mci G) (s.2.2.1.take (nArg kd G)).reverse s.2.2.2)
        (oB (rec (fr - 1) (lo - (mml G + 19)) none G 0 (lv_args 0 (s.2.2.1.take (nArg kd G)).reverse) [] s.2.2.2) (fun q => some (s.1 + 3, s.2.1, q.1.toList ++ s.2.2.1.drop (nArg kd G), q.2))))))
    | _ => none)
noncomputable def seg (MT : Nat → Option MR) (fuel fr lo : Nat) (scr : AS) (F : MR) (n : Nat) : (Nat × ALv × List Value × AH) → Option (Nat × ALv × List Value × AH) := Nat.rec (motive := fun _ => (Nat × ALv × List Value × AH) → Option (Nat × ALv × List Value × AH)) (fun s => some s) (fun _ ih s => oB (stp1 MT (am MT fuel) fr lo scr F s) ih) n
theorem Go_1 {MT : Nat → Option MR} {fuel fr lo : Nat} {scr : AS} {F : MR} {s s' : Nat × ALv × List Value × AH} {x : Option Value × AH} (h1 : stp1 MT (am MT fuel) fr lo scr F s = some s') (g : Go MT fr lo scr F s'.1 s'.2.1 s'.2.2.1 s'.2.2.2 x) : Go MT fr lo scr F s.1 s.2.1 s.2.2.1 s.2.2.2 x := by
  obtain ⟨k, hk⟩ := g
  refine ⟨(fuel + k) + 1, ?_⟩
  rw [am_s]
  unfold amB
  unfold stp1 at h1
  obtain ⟨q, hq, h2⟩ := oB_inv h1
  refine oB_mk hq ?_
  have hk2 : am MT (fuel + k) fr lo scr F s'.1 s'.2.1 s'.2.2.1 s'.2.2.2 = some x := by
    rw [Nat.add_comm]
    exact am_mono MT k fuel _ _ _ _ _ _ _ _ _ hk
  split at h2
  · obtain ⟨y, hy, h3⟩ := oB_inv h2
    cases h3
    rw [show ikind q.1 = 0 by assumption]
    refine oB_mk hy ?_
    exact hk2
  · obtain ⟨y, hy, h3⟩ := oB_inv h2
    cases h3
    rw [show ikind q.1 = 1 by assumption]
    refine oB_mk hy ?_
    exact hk2
  · obtain ⟨y, hy, h3⟩ := oB_inv h2
    cases h3
    rw [show ikind q.1 = 2 by assumption]
    refine oB_mk hy ?_
    exact hk2
  · obtain ⟨y, hy, h3⟩ := oB_inv h2
    obtain ⟨h4, h5⟩ := oC_inv h3
    rw [show ikind q.1 = 3 by assumption]
    refine oB_mk hy ?_
    refine oC_mk h4 ?_
    unfold amC
    split at h5
    · rename_i e8
      obtain ⟨z, hz, h6⟩ := oB_inv h5
      obtain ⟨h7, h8⟩ := oC_inv h6
      cases h8
      rw [e8]
      refine oB_mk hz ?_
      exact oC_mk h7 hk2
    · rename_i e9
      obtain ⟨a, r, hz, h6⟩ := sR_inv h5
      obtain ⟨h7, h8⟩ := oC_inv h6
      cases h8
      rw [e9, hz]
      exact oC_mk h7 hk2
    · rename_i n8 n9
      obtain ⟨G, hG, h6⟩ := oB_inv h5
      obtain ⟨h7, h8⟩ := oC_inv h6
      obtain ⟨z, hz, h9⟩ := oB_inv h8
      cases h9
      split
      · exact absurd (by assumption) n8
      · exact absurd (by assumption) n9
      · refine oB_mk hG ?_
        refine oC_mk h7 ?_
        refine oB_mk (am_mono MT fuel k _ _ _ _ _ _ _ _ _ hz) ?_
        exact hk2
  · cases h2
theorem Go_seg {MT : Nat → Option MR} {fuel fr lo : Nat} {scr : AS} {F : MR} (n : Nat) {pc pc' : Nat} {lv lv' : ALv} {st st' : List Value} {h h' : AH} {x : Option Value × AH} (hs : seg MT fuel fr lo scr F n (pc, lv, st, h) = some (pc', lv', st', h')) (g : Go MT fr lo scr F pc' lv' st' h' x) : Go MT fr lo scr F pc lv st h x := by
  have key : ∀ (n : Nat) (s s' : Nat × ALv × List Value × AH), seg MT fuel fr lo scr F n s = some s' → Go MT fr lo scr F s'.1 s'.2.1 s'.2.2.1 s'.2.2.2 x → Go MT fr lo scr F s.1 s.2.1 s.2.2.1 s.2.2.2 x := by
    intro n
    induction n with
    | zero => intro s s' h1 g1; cases h1; exact g1
    | succ n ih =>
      intro s s' h1 g1
      have h2 : oB (stp1 MT (am MT fuel) fr lo scr F s) (seg MT fuel fr lo scr F n) = some s' := h1
      obtain ⟨y, hy, h3⟩ := oB_inv h2
      exact Go_1 hy (ih y s' h3 g1)
  exact key n (pc, lv, st, h) (pc', lv', st', h') hs g
def eqS (a : Option (Nat × ALv × List Value × AH)) (b : Nat × ALv × List Value × AH) : Bool := match a with
  | some a => decide (a.1 = b.1) && decide (a.2.1 = b.2.1) && decide (a.2.2.1 = b.2.2.1) && decide (a.2.2.2 = b.2.2.2)
  | none => false
theorem eqS_ok {a : Option (Nat × ALv × List Value × AH)} {b : Nat × ALv × List Value × AH} (h : eqS a b = true) : a = some b := by
  unfold eqS at h
  split at h
  · rename_i a
    simp only [Bool.and_eq_true, decide_eq_true_eq] at h
    obtain ⟨⟨⟨h1, h2⟩, h3⟩, h4⟩ := h
    obtain ⟨a1, a2, a3, a4⟩ := a
    obtain ⟨b1, b2, b3, b4⟩ := b
    dsimp only at h1 h2 h3 h4
    subst h1; subst h2; subst h3; subst h4
    rfl
  · cases h
end
section
/-! a new object of the class, and of the reference -/
def hx0 : AH := [(0, 10, [.ref 1, .ref 3, .ref 4, .null, .null, .null, .null, .null, .null, .null, .null]),
  (0, 8, [.ref 2, .int 0]),
  (1, 2, List.replicate 1600 (.int 0)),
  (0, 5, [.ref 1, .int 0, .int 0, .int 0, .int 0, .int 0, .int (-1)]),
  (0, 6, [.int 0, .int 0, .ref 5, .ref 6, .ref 7]),
  (1, 0, List.replicate 81 (.int 0)),
  (1, 0, List.replicate 81 (.int 0)),
  (1, 0, List.replicate 81 (.int 0)),
  (0, 2, [.null, .null])]
def hx1 : AH := [(0, 10, [.ref 1, .ref 3, .ref 4, .null, .null, .null, .null, .null, .null, .null, .null]),
  (0, 8, [.ref 2, .int 0]),
  (1, 2, List.replicate 1600 (.int 0)),
  (0, 5, [.ref 1, .int 0, .int 0, .int 0, .int 0, .int 0, .int (-1)]),
  (0, 6, [.int 0, .int 0, .ref 5, .ref 6, .ref 7]),
  (1, 0, List.replicate 81 (.int 0)),
  (1, 0, List.replicate 81 (.int 0)),
  (1, 0, List.replicate 81 (.int 0)),
  (0, 2, [.ref 4, .ref 9]),
  (1, 0, List.replicate 80 (.int 0))]
theorem sl_0 : seg MT 200 99 4977 none mr_12 11 (0, [(0, .ref 8), (1, .ref 4)], [], hx0) = some (19, [(2, .int 0), (0, .ref 8), (1, .ref 4)], [], hx1) := eqS_ok (by decide +kernel)
def hx2 : AH := [(0, 10, [.ref 1, .ref 3, .ref 4, .null, .null, .null, .null, .null, .null, .null, .null]),
  (0, 8, [.ref 2, .int 0]),
  (1, 2, List.replicate 1600 (.int 0)),
  (0, 5, [.ref 1, .int 0, .int 0, .int 0, .int 0, .int 0, .int (-1)]),
  (0, 6, [.int 0, .int 0, .ref 5, .ref 6, .ref 7]),
  (1, 0, List.replicate 81 (.int 0)),
  (1, 0, List.replicate 81 (.int 0)),
  (1, 0, List.replicate 81 (.int 0)),
  (0, 2, [.ref 4, .ref 9]),
  (1, 0, [.int 1, .int 278, .int 5736, .int 26752, .int 32768, .int 0, .int 0, .int 0, .int 0, .int 0, .int 0, .int 0, .int 0, .int 0, .int 0, .int 0, .int 0, .int 0, .int 0, .int 0, .int 0, .int 0, .int 0, .int 0, .int 0, .int 0, .int 0, .int 0, .int 0, .int 0, .int 0, .int 0, .int 0, .int 0, .int 0, .int 0, .int 0, .int 0, .int 0, .int 0, .int 0, .int 0, .int 0, .int 0, .int 0, .int 0, .int 0, .int 0, .int 0, .int 0, .int 0, .int 0, .int 0, .int 0, .int 0, .int 0, .int 0, .int 0, .int 0, .int 0, .int 0, .int 0, .int 0, .int 0, .int 0, .int 0, .int 0, .int 0, .int 0, .int 0, .int 0, .int 0, .int 0, .int 0, .int 0, .int 0, .int 0, .int 0, .int 0, .int 0])]
theorem sl_1 : seg MT 200 99 4977 none mr_12 362 (19, [(2, .int 0), (0, .ref 8), (1, .ref 4)], [], hx1) = some (19, [(2, .int 1), (3, .int 16), (0, .ref 8), (1, .ref 4)], [], hx2) := eqS_ok (by decide +kernel)
def hx3 : AH := [(0, 10, [.ref 1, .ref 3, .ref 4, .null, .null, .null, .null, .null, .null, .null, .null]),
  (0, 8, [.ref 2, .int 0]),
  (1, 2, List.replicate 1600 (.int 0)),
  (0, 5, [.ref 1, .int 0, .int 0, .int 0, .int 0, .int 0, .int (-1)]),
  (0, 6, [.int 0, .int 0, .ref 5, .ref 6, .ref 7]),
  (1, 0, List.replicate 81 (.int 0)),
  (1, 0, List.replicate 81 (.int 0)),
  (1, 0, List.replicate 81 (.int 0)),
  (0, 2, [.ref 4, .ref 9]),
  (1, 0, [.int 1, .int 278, .int 5736, .int 26752, .int 32768, .int 2, .int 553, .int 10644, .int 37952, .int 16384, .int 0, .int 0, .int 0, .int 0, .int 0, .int 0, .int 0, .int 0, .int 0, .int 0, .int 0, .int 0, .int 0, .int 0, .int 0, .int 0, .int 0, .int 0, .int 0, .int 0, .int 0, .int 0, .int 0, .int 0, .int 0, .int 0, .int 0, .int 0, .int 0, .int 0, .int 0, .int 0, .int 0, .int 0, .int 0, .int 0, .int 0, .int 0, .int 0, .int 0, .int 0, .int 0, .int 0, .int 0, .int 0, .int 0, .int 0, .int 0, .int 0, .int 0, .int 0, .int 0, .int 0, .int 0, .int 0, .int 0, .int 0, .int 0, .int 0, .int 0, .int 0, .int 0, .int 0, .int 0, .int 0, .int 0, .int 0, .int 0, .int 0, .int 0])]
theorem sl_2 : seg MT 200 99 4977 none mr_12 362 (19, [(2, .int 1), (3, .int 16), (0, .ref 8), (1, .ref 4)], [], hx2) = some (19, [(2, .int 2), (3, .int 16), (0, .ref 8), (1, .ref 4)], [], hx3) := eqS_ok (by decide +kernel)
def hx4 : AH := [(0, 10, [.ref 1, .ref 3, .ref 4, .null, .null, .null, .null, .null, .null, .null, .null]),
  (0, 8, [.ref 2, .int 0]),
  (1, 2, List.replicate 1600 (.int 0)),
  (0, 5, [.ref 1, .int 0, .int 0, .int 0, .int 0, .int 0, .int (-1)]),
  (0, 6, [.int 0, .int 0, .ref 5, .ref 6, .ref 7]),
  (1, 0, List.replicate 81 (.int 0)),
  (1, 0, List.replicate 81 (.int 0)),
  (1, 0, List.replicate 81 (.int 0)),
  (0, 2, [.ref 4, .ref 9]),
  (1, 0, [.int 1, .int 278, .int 5736, .int 26752, .int 32768, .int 2, .int 553, .int 10644, .int 37952, .int 16384, .int 4, .int 1097, .int 18834, .int 37408, .int 8192, .int 0, .int 0, .int 0, .int 0, .int 0, .int 0, .int 0, .int 0, .int 0, .int 0, .int 0, .int 0, .int 0, .int 0, .int 0, .int 0, .int 0, .int 0, .int 0, .int 0, .int 0, .int 0, .int 0, .int 0, .int 0, .int 0, .int 0, .int 0, .int 0, .int 0, .int 0, .int 0, .int 0, .int 0, .int 0, .int 0, .int 0, .int 0, .int 0, .int 0, .int 0, .int 0, .int 0, .int 0, .int 0, .int 0, .int 0, .int 0, .int 0, .int 0, .int 0, .int 0, .int 0, .int 0, .int 0, .int 0, .int 0, .int 0, .int 0, .int 0, .int 0, .int 0, .int 0, .int 0, .int 0])]
theorem sl_3 : seg MT 200 99 4977 none mr_12 362 (19, [(2, .int 2), (3, .int 16), (0, .ref 8), (1, .ref 4)], [], hx3) = some (19, [(2, .int 3), (3, .int 16), (0, .ref 8), (1, .ref 4)], [], hx4) := eqS_ok (by decide +kernel)
def hx5 : AH := [(0, 10, [.ref 1, .ref 3, .ref 4, .null, .null, .null, .null, .null, .null, .null, .null]),
  (0, 8, [.ref 2, .int 0]),
  (1, 2, List.replicate 1600 (.int 0)),
  (0, 5, [.ref 1, .int 0, .int 0, .int 0, .int 0, .int 0, .int (-1)]),
  (0, 6, [.int 0, .int 0, .ref 5, .ref 6, .ref 7]),
  (1, 0, List.replicate 81 (.int 0)),
  (1, 0, List.replicate 81 (.int 0)),
  (1, 0, List.replicate 81 (.int 0)),
  (0, 2, [.ref 4, .ref 9]),
  (1, 0, [.int 1, .int 278, .int 5736, .int 26752, .int 32768, .int 2, .int 553, .int 10644, .int 37952, .int 16384, .int 4, .int 1097, .int 18834, .int 37408, .int 8192, .int 8, .int 2182, .int 34401, .int 24848, .int 4096, .int 0, .int 0, .int 0, .int 0, .int 0, .int 0, .int 0, .int 0, .int 0, .int 0, .int 0, .int 0, .int 0, .int 0, .int 0, .int 0, .int 0, .int 0, .int 0, .int 0, .int 0, .int 0, .int 0, .int 0, .int 0, .int 0, .int 0, .int 0, .int 0, .int 0, .int 0, .int 0, .int 0, .int 0, .int 0, .int 0, .int 0, .int 0, .int 0, .int 0, .int 0, .int 0, .int 0, .int 0, .int 0, .int 0, .int 0, .int 0, .int 0, .int 0, .int 0, .int 0, .int 0, .int 0, .int 0, .int 0, .int 0, .int 0, .int 0, .int 0])]
theorem sl_4 : seg MT 200 99 4977 none mr_12 362 (19, [(2, .int 3), (3, .int 16), (0, .ref 8), (1, .ref 4)], [], hx4) = some (19, [(2, .int 4), (3, .int 16), (0, .ref 8), (1, .ref 4)], [], hx5) := eqS_ok (by decide +kernel)
def hx6 : AH := [(0, 10, [.ref 1, .ref 3, .ref 4, .null, .null, .null, .null, .null, .null, .null, .null]),
  (0, 8, [.ref 2, .int 0]),
  (1, 2, List.replicate 1600 (.int 0)),
  (0, 5, [.ref 1, .int 0, .int 0, .int 0, .int 0, .int 0, .int (-1)]),
  (0, 6, [.int 0, .int 0, .ref 5, .ref 6, .ref 7]),
  (1, 0, List.replicate 81 (.int 0)),
  (1, 0, List.replicate 81 (.int 0)),
  (1, 0, List.replicate 81 (.int 0)),
  (0, 2, [.ref 4, .ref 9]),
  (1, 0, [.int 1, .int 278, .int 5736, .int 26752, .int 32768, .int 2, .int 553, .int 10644, .int 37952, .int 16384, .int 4, .int 1097, .int 18834, .int 37408, .int 8192, .int 8, .int 2182, .int 34401, .int 24848, .int 4096, .int 16, .int 4193, .int 24966, .int 34312, .int 2048, .int 0, .int 0, .int 0, .int 0, .int 0, .int 0, .int 0, .int 0, .int 0, .int 0, .int 0, .int 0, .int 0, .int 0, .int 0, .int 0, .int 0, .int 0, .int 0, .int 0, .int 0, .int 0, .int 0, .int 0, .int 0, .int 0, .int 0, .int 0, .int 0, .int 0, .int 0, .int 0, .int 0, .int 0, .int 0, .int 0, .int 0, .int 0, .int 0, .int 0, .int 0, .int 0, .int 0, .int 0, .int 0, .int 0, .int 0, .int 0, .int 0, .int 0, .int 0, .int 0, .int 0, .int 0, .int 0])]
theorem sl_5 : seg MT 200 99 4977 none mr_12 362 (19, [(2, .int 4), (3, .int 16), (0, .ref 8), (1, .ref 4)], [], hx5) = some (19, [(2, .int 5), (3, .int 16), (0, .ref 8), (1, .ref 4)], [], hx6) := eqS_ok (by decide +kernel)
def hx7 : AH := [(0, 10, [.ref 1, .ref 3, .ref 4, .null, .null, .null, .null, .null, .null, .null, .null]),
  (0, 8, [.ref 2, .int 0]),
  (1, 2, List.replicate 1600 (.int 0)),
  (0, 5, [.ref 1, .int 0, .int 0, .int 0, .int 0, .int 0, .int (-1)]),
  (0, 6, [.int 0, .int 0, .ref 5, .ref 6, .ref 7]),
  (1, 0, List.replicate 81 (.int 0)),
  (1, 0, List.replicate 81 (.int 0)),
  (1, 0, List.replicate 81 (.int 0)),
  (0, 2, [.ref 4, .ref 9]),
  (1, 0, [.int 1, .int 278, .int 5736, .int 26752, .int 32768, .int 2, .int 553, .int 10644, .int 37952, .int 16384, .int 4, .int 1097, .int 18834, .int 37408, .int 8192, .int 8, .int 2182, .int 34401, .int 24848, .int 4096, .int 16, .int 4193, .int 24966, .int 34312, .int 2048, .int 32, .int 8338, .int 37449, .int 18692, .int 1024, .int 0, .int 0, .int 0, .int 0, .int 0, .int 0, .int 0, .int 0, .int 0, .int 0, .int 0, .int 0, .int 0, .int 0, .int 0, .int 0, .int 0, .int 0, .int 0, .int 0, .int 0, .int 0, .int 0, .int 0, .int 0, .int 0, .int 0, .int 0, .int 0, .int 0, .int 0, .int 0, .int 0, .int 0, .int 0, .int 0, .int 0, .int 0, .int 0, .int 0, .int 0, .int 0, .int 0, .int 0, .int 0, .int 0, .int 0, .int 0, .int 0, .int 0])]
theorem sl_6 : seg MT 200 99 4977 none mr_12 362 (19, [(2, .int 5), (3, .int 16), (0, .ref 8), (1, .ref 4)], [], hx6) = some (19, [(2, .int 6), (3, .int 16), (0, .ref 8), (1, .ref 4)], [], hx7) := eqS_ok (by decide +kernel)
def hx8 : AH := [(0, 10, [.ref 1, .ref 3, .ref 4, .null, .null, .null, .null, .null, .null, .null, .null]),
  (0, 8, [.ref 2, .int 0]),
  (1, 2, List.replicate 1600 (.int 0)),
  (0, 5, [.ref 1, .int 0, .int 0, .int 0, .int 0, .int 0, .int (-1)]),
  (0, 6, [.int 0, .int 0, .ref 5, .ref 6, .ref 7]),
  (1, 0, List.replicate 81 (.int 0)),
  (1, 0, List.replicate 81 (.int 0)),
  (1, 0, List.replicate 81 (.int 0)),
  (0, 2, [.ref 4, .ref 9]),
  (1, 0, [.int 1, .int 278, .int 5736, .int 26752, .int 32768, .int 2, .int 553, .int 10644, .int 37952, .int 16384, .int 4, .int 1097, .int 18834, .int 37408, .int 8192, .int 8, .int 2182, .int 34401, .int 24848, .int 4096, .int 16, .int 4193, .int 24966, .int 34312, .int 2048, .int 32, .int 8338, .int 37449, .int 18692, .int 1024, .int 64, .int 16532, .int 37929, .int 10498, .int 512, .int 0, .int 0, .int 0, .int 0, .int 0, .int 0, .int 0, .int 0, .int 0, .int 0, .int 0, .int 0, .int 0, .int 0, .int 0, .int 0, .int 0, .int 0, .int 0, .int 0, .int 0, .int 0, .int 0, .int 0, .int 0, .int 0, .int 0, .int 0, .int 0, .int 0, .int 0, .int 0, .int 0, .int 0, .int 0, .int 0, .int 0, .int 0, .int 0, .int 0, .int 0, .int 0, .int 0, .int 0, .int 0])]
theorem sl_7 : seg MT 200 99 4977 none mr_12 362 (19, [(2, .int 6), (3, .int 16), (0, .ref 8), (1, .ref 4)], [], hx7) = some (19, [(2, .int 7), (3, .int 16), (0, .ref 8), (1, .ref 4)], [], hx8) := eqS_ok (by decide +kernel)
def hx9 : AH := [(0, 10, [.ref 1, .ref 3, .ref 4, .null, .null, .null, .null, .null, .null, .null, .null]),
  (0, 8, [.ref 2, .int 0]),
  (1, 2, List.replicate 1600 (.int 0)),
  (0, 5, [.ref 1, .int 0, .int 0, .int 0, .int 0, .int 0, .int (-1)]),
  (0, 6, [.int 0, .int 0, .ref 5, .ref 6, .ref 7]),
  (1, 0, List.replicate 81 (.int 0)),
  (1, 0, List.replicate 81 (.int 0)),
  (1, 0, List.replicate 81 (.int 0)),
  (0, 2, [.ref 4, .ref 9]),
  (1, 0, [.int 1, .int 278, .int 5736, .int 26752, .int 32768, .int 2, .int 553, .int 10644, .int 37952, .int 16384, .int 4, .int 1097, .int 18834, .int 37408, .int 8192, .int 8, .int 2182, .int 34401, .int 24848, .int 4096, .int 16, .int 4193, .int 24966, .int 34312, .int 2048, .int 32, .int 8338, .int 37449, .int 18692, .int 1024, .int 64, .int 16532, .int 37929, .int 10498, .int 512, .int 128, .int 32872, .int 26646, .int 5633, .int 256, .int 0, .int 0, .int 0, .int 0, .int 0, .int 0, .int 0, .int 0, .int 0, .int 0, .int 0, .int 0, .int 0, .int 0, .int 0, .int 0, .int 0, .int 0, .int 0, .int 0, .int 0, .int 0, .int 0, .int 0, .int 0, .int 0, .int 0, .int 0, .int 0, .int 0, .int 0, .int 0, .int 0, .int 0, .int 0, .int 0, .int 0, .int 0, .int 0, .int 0])]
theorem sl_8 : seg MT 200 99 4977 none mr_12 362 (19, [(2, .int 7), (3, .int 16), (0, .ref 8), (1, .ref 4)], [], hx8) = some (19, [(2, .int 8), (3, .int 16), (0, .ref 8), (1, .ref 4)], [], hx9) := eqS_ok (by decide +kernel)
def hx10 : AH := [(0, 10, [.ref 1, .ref 3, .ref 4, .null, .null, .null, .null, .null, .null, .null, .null]),
  (0, 8, [.ref 2, .int 0]),
  (1, 2, List.replicate 1600 (.int 0)),
  (0, 5, [.ref 1, .int 0, .int 0, .int 0, .int 0, .int 0, .int (-1)]),
  (0, 6, [.int 0, .int 0, .ref 5, .ref 6, .ref 7]),
  (1, 0, List.replicate 81 (.int 0)),
  (1, 0, List.replicate 81 (.int 0)),
  (1, 0, List.replicate 81 (.int 0)),
  (0, 2, [.ref 4, .ref 9]),
  (1, 0, [.int 1, .int 278, .int 5736, .int 26752, .int 32768, .int 2, .int 553, .int 10644, .int 37952, .int 16384, .int 4, .int 1097, .int 18834, .int 37408, .int 8192, .int 8, .int 2182, .int 34401, .int 24848, .int 4096, .int 16, .int 4193, .int 24966, .int 34312, .int 2048, .int 32, .int 8338, .int 37449, .int 18692, .int 1024, .int 64, .int 16532, .int 37929, .int 10498, .int 512, .int 128, .int 32872, .int 26646, .int 5633, .int 256, .int 256, .int 5633, .int 26646, .int 32872, .int 128, .int 0, .int 0, .int 0, .int 0, .int 0, .int 0, .int 0, .int 0, .int 0, .int 0, .int 0, .int 0, .int 0, .int 0, .int 0, .int 0, .int 0, .int 0, .int 0, .int 0, .int 0, .int 0, .int 0, .int 0, .int 0, .int 0, .int 0, .int 0, .int 0, .int 0, .int 0, .int 0, .int 0, .int 0, .int 0])]
theorem sl_9 : seg MT 200 99 4977 none mr_12 362 (19, [(2, .int 8), (3, .int 16), (0, .ref 8), (1, .ref 4)], [], hx9) = some (19, [(2, .int 9), (3, .int 16), (0, .ref 8), (1, .ref 4)], [], hx10) := eqS_ok (by decide +kernel)
def hx11 : AH := [(0, 10, [.ref 1, .ref 3, .ref 4, .null, .null, .null, .null, .null, .null, .null, .null]),
  (0, 8, [.ref 2, .int 0]),
  (1, 2, List.replicate 1600 (.int 0)),
  (0, 5, [.ref 1, .int 0, .int 0, .int 0, .int 0, .int 0, .int (-1)]),
  (0, 6, [.int 0, .int 0, .ref 5, .ref 6, .ref 7]),
  (1, 0, List.replicate 81 (.int 0)),
  (1, 0, List.replicate 81 (.int 0)),
  (1, 0, List.replicate 81 (.int 0)),
  (0, 2, [.ref 4, .ref 9]),
  (1, 0, [.int 1, .int 278, .int 5736, .int 26752, .int 32768, .int 2, .int 553, .int 10644, .int 37952, .int 16384, .int 4, .int 1097, .int 18834, .int 37408, .int 8192, .int 8, .int 2182, .int 34401, .int 24848, .int 4096, .int 16, .int 4193, .int 24966, .int 34312, .int 2048, .int 32, .int 8338, .int 37449, .int 18692, .int 1024, .int 64, .int 16532, .int 37929, .int 10498, .int 512, .int 128, .int 32872, .int 26646, .int 5633, .int 256, .int 256, .int 5633, .int 26646, .int 32872, .int 128, .int 512, .int 10498, .int 37929, .int 16532, .int 64, .int 0, .int 0, .int 0, .int 0, .int 0, .int 0, .int 0, .int 0, .int 0, .int 0, .int 0, .int 0, .int 0, .int 0, .int 0, .int 0, .int 0, .int 0, .int 0, .int 0, .int 0, .int 0, .int 0, .int 0, .int 0, .int 0, .int 0, .int 0, .int 0, .int 0])]
theorem sl_10 : seg MT 200 99 4977 none mr_12 362 (19, [(2, .int 9), (3, .int 16), (0, .ref 8), (1, .ref 4)], [], hx10) = some (19, [(2, .int 10), (3, .int 16), (0, .ref 8), (1, .ref 4)], [], hx11) := eqS_ok (by decide +kernel)
def hx12 : AH := [(0, 10, [.ref 1, .ref 3, .ref 4, .null, .null, .null, .null, .null, .null, .null, .null]),
  (0, 8, [.ref 2, .int 0]),
  (1, 2, List.replicate 1600 (.int 0)),
  (0, 5, [.ref 1, .int 0, .int 0, .int 0, .int 0, .int 0, .int (-1)]),
  (0, 6, [.int 0, .int 0, .ref 5, .ref 6, .ref 7]),
  (1, 0, List.replicate 81 (.int 0)),
  (1, 0, List.replicate 81 (.int 0)),
  (1, 0, List.replicate 81 (.int 0)),
  (0, 2, [.ref 4, .ref 9]),
  (1, 0, [.int 1, .int 278, .int 5736, .int 26752, .int 32768, .int 2, .int 553, .int 10644, .int 37952, .int 16384, .int 4, .int 1097, .int 18834, .int 37408, .int 8192, .int 8, .int 2182, .int 34401, .int 24848, .int 4096, .int 16, .int 4193, .int 24966, .int 34312, .int 2048, .int 32, .int 8338, .int 37449, .int 18692, .int 1024, .int 64, .int 16532, .int 37929, .int 10498, .int 512, .int 128, .int 32872, .int 26646, .int 5633, .int 256, .int 256, .int 5633, .int 26646, .int 32872, .int 128, .int 512, .int 10498, .int 37929, .int 16532, .int 64, .int 1024, .int 18692, .int 37449, .int 8338, .int 32, .int 0, .int 0, .int 0, .int 0, .int 0, .int 0, .int 0, .int 0, .int 0, .int 0, .int 0, .int 0, .int 0, .int 0, .int 0, .int 0, .int 0, .int 0, .int 0, .int 0, .int 0, .int 0, .int 0, .int 0, .int 0])]
theorem sl_11 : seg MT 200 99 4977 none mr_12 362 (19, [(2, .int 10), (3, .int 16), (0, .ref 8), (1, .ref 4)], [], hx11) = some (19, [(2, .int 11), (3, .int 16), (0, .ref 8), (1, .ref 4)], [], hx12) := eqS_ok (by decide +kernel)
def hx13 : AH := [(0, 10, [.ref 1, .ref 3, .ref 4, .null, .null, .null, .null, .null, .null, .null, .null]),
  (0, 8, [.ref 2, .int 0]),
  (1, 2, List.replicate 1600 (.int 0)),
  (0, 5, [.ref 1, .int 0, .int 0, .int 0, .int 0, .int 0, .int (-1)]),
  (0, 6, [.int 0, .int 0, .ref 5, .ref 6, .ref 7]),
  (1, 0, List.replicate 81 (.int 0)),
  (1, 0, List.replicate 81 (.int 0)),
  (1, 0, List.replicate 81 (.int 0)),
  (0, 2, [.ref 4, .ref 9]),
  (1, 0, [.int 1, .int 278, .int 5736, .int 26752, .int 32768, .int 2, .int 553, .int 10644, .int 37952, .int 16384, .int 4, .int 1097, .int 18834, .int 37408, .int 8192, .int 8, .int 2182, .int 34401, .int 24848, .int 4096, .int 16, .int 4193, .int 24966, .int 34312, .int 2048, .int 32, .int 8338, .int 37449, .int 18692, .int 1024, .int 64, .int 16532, .int 37929, .int 10498, .int 512, .int 128, .int 32872, .int 26646, .int 5633, .int 256, .int 256, .int 5633, .int 26646, .int 32872, .int 128, .int 512, .int 10498, .int 37929, .int 16532, .int 64, .int 1024, .int 18692, .int 37449, .int 8338, .int 32, .int 2048, .int 34312, .int 24966, .int 4193, .int 16, .int 0, .int 0, .int 0, .int 0, .int 0, .int 0, .int 0, .int 0, .int 0, .int 0, .int 0, .int 0, .int 0, .int 0, .int 0, .int 0, .int 0, .int 0, .int 0, .int 0])]
theorem sl_12 : seg MT 200 99 4977 none mr_12 362 (19, [(2, .int 11), (3, .int 16), (0, .ref 8), (1, .ref 4)], [], hx12) = some (19, [(2, .int 12), (3, .int 16), (0, .ref 8), (1, .ref 4)], [], hx13) := eqS_ok (by decide +kernel)
def hx14 : AH := [(0, 10, [.ref 1, .ref 3, .ref 4, .null, .null, .null, .null, .null, .null, .null, .null]),
  (0, 8, [.ref 2, .int 0]),
  (1, 2, List.replicate 1600 (.int 0)),
  (0, 5, [.ref 1, .int 0, .int 0, .int 0, .int 0, .int 0, .int (-1)]),
  (0, 6, [.int 0, .int 0, .ref 5, .ref 6, .ref 7]),
  (1, 0, List.replicate 81 (.int 0)),
  (1, 0, List.replicate 81 (.int 0)),
  (1, 0, List.replicate 81 (.int 0)),
  (0, 2, [.ref 4, .ref 9]),
  (1, 0, [.int 1, .int 278, .int 5736, .int 26752, .int 32768, .int 2, .int 553, .int 10644, .int 37952, .int 16384, .int 4, .int 1097, .int 18834, .int 37408, .int 8192, .int 8, .int 2182, .int 34401, .int 24848, .int 4096, .int 16, .int 4193, .int 24966, .int 34312, .int 2048, .int 32, .int 8338, .int 37449, .int 18692, .int 1024, .int 64, .int 16532, .int 37929, .int 10498, .int 512, .int 128, .int 32872, .int 26646, .int 5633, .int 256, .int 256, .int 5633, .int 26646, .int 32872, .int 128, .int 512, .int 10498, .int 37929, .int 16532, .int 64, .int 1024, .int 18692, .int 37449, .int 8338, .int 32, .int 2048, .int 34312, .int 24966, .int 4193, .int 16, .int 4096, .int 24848, .int 34401, .int 2182, .int 8, .int 0, .int 0, .int 0, .int 0, .int 0, .int 0, .int 0, .int 0, .int 0, .int 0, .int 0, .int 0, .int 0, .int 0, .int 0])]
theorem sl_13 : seg MT 200 99 4977 none mr_12 362 (19, [(2, .int 12), (3, .int 16), (0, .ref 8), (1, .ref 4)], [], hx13) = some (19, [(2, .int 13), (3, .int 16), (0, .ref 8), (1, .ref 4)], [], hx14) := eqS_ok (by decide +kernel)
def hx15 : AH := [(0, 10, [.ref 1, .ref 3, .ref 4, .null, .null, .null, .null, .null, .null, .null, .null]),
  (0, 8, [.ref 2, .int 0]),
  (1, 2, List.replicate 1600 (.int 0)),
  (0, 5, [.ref 1, .int 0, .int 0, .int 0, .int 0, .int 0, .int (-1)]),
  (0, 6, [.int 0, .int 0, .ref 5, .ref 6, .ref 7]),
  (1, 0, List.replicate 81 (.int 0)),
  (1, 0, List.replicate 81 (.int 0)),
  (1, 0, List.replicate 81 (.int 0)),
  (0, 2, [.ref 4, .ref 9]),
  (1, 0, [.int 1, .int 278, .int 5736, .int 26752, .int 32768, .int 2, .int 553, .int 10644, .int 37952, .int 16384, .int 4, .int 1097, .int 18834, .int 37408, .int 8192, .int 8, .int 2182, .int 34401, .int 24848, .int 4096, .int 16, .int 4193, .int 24966, .int 34312, .int 2048, .int 32, .int 8338, .int 37449, .int 18692, .int 1024, .int 64, .int 16532, .int 37929, .int 10498, .int 512, .int 128, .int 32872, .int 26646, .int 5633, .int 256, .int 256, .int 5633, .int 26646, .int 32872, .int 128, .int 512, .int 10498, .int 37929, .int 16532, .int 64, .int 1024, .int 18692, .int 37449, .int 8338, .int 32, .int 2048, .int 34312, .int 24966, .int 4193, .int 16, .int 4096, .int 24848, .int 34401, .int 2182, .int 8, .int 8192, .int 37408, .int 18834, .int 1097, .int 4, .int 0, .int 0, .int 0, .int 0, .int 0, .int 0, .int 0, .int 0, .int 0, .int 0])]
theorem sl_14 : seg MT 200 99 4977 none mr_12 362 (19, [(2, .int 13), (3, .int 16), (0, .ref 8), (1, .ref 4)], [], hx14) = some (19, [(2, .int 14), (3, .int 16), (0, .ref 8), (1, .ref 4)], [], hx15) := eqS_ok (by decide +kernel)
def hx16 : AH := [(0, 10, [.ref 1, .ref 3, .ref 4, .null, .null, .null, .null, .null, .null, .null, .null]),
  (0, 8, [.ref 2, .int 0]),
  (1, 2, List.replicate 1600 (.int 0)),
  (0, 5, [.ref 1, .int 0, .int 0, .int 0, .int 0, .int 0, .int (-1)]),
  (0, 6, [.int 0, .int 0, .ref 5, .ref 6, .ref 7]),
  (1, 0, List.replicate 81 (.int 0)),
  (1, 0, List.replicate 81 (.int 0)),
  (1, 0, List.replicate 81 (.int 0)),
  (0, 2, [.ref 4, .ref 9]),
  (1, 0, [.int 1, .int 278, .int 5736, .int 26752, .int 32768, .int 2, .int 553, .int 10644, .int 37952, .int 16384, .int 4, .int 1097, .int 18834, .int 37408, .int 8192, .int 8, .int 2182, .int 34401, .int 24848, .int 4096, .int 16, .int 4193, .int 24966, .int 34312, .int 2048, .int 32, .int 8338, .int 37449, .int 18692, .int 1024, .int 64, .int 16532, .int 37929, .int 10498, .int 512, .int 128, .int 32872, .int 26646, .int 5633, .int 256, .int 256, .int 5633, .int 26646, .int 32872, .int 128, .int 512, .int 10498, .int 37929, .int 16532, .int 64, .int 1024, .int 18692, .int 37449, .int 8338, .int 32, .int 2048, .int 34312, .int 24966, .int 4193, .int 16, .int 4096, .int 24848, .int 34401, .int 2182, .int 8, .int 8192, .int 37408, .int 18834, .int 1097, .int 4, .int 16384, .int 37952, .int 10644, .int 553, .int 2, .int 0, .int 0, .int 0, .int 0, .int 0])]
theorem sl_15 : seg MT 200 99 4977 none mr_12 362 (19, [(2, .int 14), (3, .int 16), (0, .ref 8), (1, .ref 4)], [], hx15) = some (19, [(2, .int 15), (3, .int 16), (0, .ref 8), (1, .ref 4)], [], hx16) := eqS_ok (by decide +kernel)
def hx17 : AH := [(0, 10, [.ref 1, .ref 3, .ref 4, .null, .null, .null, .null, .null, .null, .null, .null]),
  (0, 8, [.ref 2, .int 0]),
  (1, 2, List.replicate 1600 (.int 0)),
  (0, 5, [.ref 1, .int 0, .int 0, .int 0, .int 0, .int 0, .int (-1)]),
  (0, 6, [.int 0, .int 0, .ref 5, .ref 6, .ref 7]),
  (1, 0, List.replicate 81 (.int 0)),
  (1, 0, List.replicate 81 (.int 0)),
  (1, 0, List.replicate 81 (.int 0)),
  (0, 2, [.ref 4, .ref 9]),
  (1, 0, [.int 1, .int 278, .int 5736, .int 26752, .int 32768, .int 2, .int 553, .int 10644, .int 37952, .int 16384, .int 4, .int 1097, .int 18834, .int 37408, .int 8192, .int 8, .int 2182, .int 34401, .int 24848, .int 4096, .int 16, .int 4193, .int 24966, .int 34312, .int 2048, .int 32, .int 8338, .int 37449, .int 18692, .int 1024, .int 64, .int 16532, .int 37929, .int 10498, .int 512, .int 128, .int 32872, .int 26646, .int 5633, .int 256, .int 256, .int 5633, .int 26646, .int 32872, .int 128, .int 512, .int 10498, .int 37929, .int 16532, .int 64, .int 1024, .int 18692, .int 37449, .int 8338, .int 32, .int 2048, .int 34312, .int 24966, .int 4193, .int 16, .int 4096, .int 24848, .int 34401, .int 2182, .int 8, .int 8192, .int 37408, .int 18834, .int 1097, .int 4, .int 16384, .int 37952, .int 10644, .int 553, .int 2, .int 32768, .int 26752, .int 5736, .int 278, .int 1])]
theorem sl_16 : seg MT 200 99 4977 none mr_12 362 (19, [(2, .int 15), (3, .int 16), (0, .ref 8), (1, .ref 4)], [], hx16) = some (19, [(2, .int 16), (3, .int 16), (0, .ref 8), (1, .ref 4)], [], hx17) := eqS_ok (by decide +kernel)
theorem sl_17 : seg MT 200 99 4977 none mr_12 3 (19, [(2, .int 16), (3, .int 16), (0, .ref 8), (1, .ref 4)], [], hx17) = some (66, [(2, .int 16), (3, .int 16), (0, .ref 8), (1, .ref 4)], [], hx17) := eqS_ok (by decide +kernel)
theorem run_L : Go MT 99 4977 none mr_12 0 [(0, .ref 8), (1, .ref 4)] [] hx0 (none, hx17) := Go_seg 11 sl_0 (Go_seg 362 sl_1 (Go_seg 362 sl_2 (Go_seg 362 sl_3 (Go_seg 362 sl_4 (Go_seg 362 sl_5 (Go_seg 362 sl_6 (Go_seg 362 sl_7 (Go_seg 362 sl_8 (Go_seg 362 sl_9 (Go_seg 362 sl_10 (Go_seg 362 sl_11 (Go_seg 362 sl_12 (Go_seg 362 sl_13 (Go_seg 362 sl_14 (Go_seg 362 sl_15 (Go_seg 362 sl_16 (Go_seg 3 sl_17 (Go_of 1 (by decide +kernel)))))))))))))))))))
def hx18 : AH := [(0, 10, List.replicate 11 (.null))]
theorem sx_0 : seg MT 2000 100 5000 none mr_134 24 (0, [(0, .ref 0)], [], hx18) = some (50, [(0, .ref 0)], [.ref 4, .ref 8, .ref 8, .ref 0], hx0) := eqS_ok (by decide +kernel)
def hx19 : AH := [(0, 10, [.ref 1, .ref 3, .ref 4, .ref 8, .ref 10, .ref 14, .null, .ref 70, .ref 71, .ref 18, .ref 44]),
  (0, 8, [.ref 2, .int 0]),
  (1, 2, List.replicate 1600 (.int 0)),
  (0, 5, [.ref 1, .int 0, .int 0, .int 0, .int 0, .int 0, .int (-1)]),
  (0, 6, [.int 0, .int 0, .ref 5, .ref 6, .ref 7]),
  (1, 0, List.replicate 81 (.int 0)),
  (1, 0, List.replicate 81 (.int 0)),
  (1, 0, List.replicate 81 (.int 0)),
  (0, 2, [.ref 4, .ref 9]),
  (1, 0, [.int 1, .int 278, .int 5736, .int 26752, .int 32768, .int 2, .int 553, .int 10644, .int 37952, .int 16384, .int 4, .int 1097, .int 18834, .int 37408, .int 8192, .int 8, .int 2182, .int 34401, .int 24848, .int 4096, .int 16, .int 4193, .int 24966, .int 34312, .int 2048, .int 32, .int 8338, .int 37449, .int 18692, .int 1024, .int 64, .int 16532, .int 37929, .int 10498, .int 512, .int 128, .int 32872, .int 26646, .int 5633, .int 256, .int 256, .int 5633, .int 26646, .int 32872, .int 128, .int 512, .int 10498, .int 37929, .int 16532, .int 64, .int 1024, .int 18692, .int 37449, .int 8338, .int 32, .int 2048, .int 34312, .int 24966, .int 4193, .int 16, .int 4096, .int 24848, .int 34401, .int 2182, .int 8, .int 8192, .int 37408, .int 18834, .int 1097, .int 4, .int 16384, .int 37952, .int 10644, .int 553, .int 2, .int 32768, .int 26752, .int 5736, .int 278, .int 1]),
  (0, 1, [.ref 11, .ref 12, .ref 13, .int 0, .int 0, .int 0]),
  (1, 0, List.replicate 16 (.int 0)),
  (1, 0, [.int 0, .int 0, .int 0, .int 0]),
  (1, 0, [.int 0, .int 0, .int 0, .int 0]),
  (0, 9, [.ref 15, .ref 16, .ref 17, .int 0, .int 0]),
  (1, 0, List.replicate 54 (.int 0)),
  (1, 0, [.int 0, .int 0, .int 0, .int 0, .int 0, .int 0]),
  (1, 0, [.int 0, .int 0, .int 0, .int 0, .int 0, .int 0]),
  (0, 4, [.int 0, .int 0, .int 0, .int 0, .ref 19, .ref 20, .int 0, .int 0, .int 0, .ref 23, .ref 24, .int 0, .ref 25, .ref 26, .int 0, .ref 27]),
  (3, 4, [.ref 28, .ref 32, .ref 36, .ref 40]),
  (0, 3, [.ref 21, .ref 22, .int 0]),
  (1, 0, List.replicate 13 (.int 0)),
  (1, 0, List.replicate 13 (.int 0)),
  (1, 0, [.int 0, .int 0, .int 0, .int 0]),
  (1, 0, [.int 0, .int 0, .int 0, .int 0]),
  (1, 0, [.int 0, .int 0, .int 0, .int 0, .int 0, .int 0]),
  (1, 0, [.int 0, .int 0, .int 0, .int 0, .int 0, .int 0]),
  (1, 0, List.replicate 60 (.int 0)),
  (0, 0, [.ref 29, .int 0, .int 0, .int (-1)]),
  (0, 3, [.ref 30, .ref 31, .int 0]),
  (1, 0, List.replicate 13 (.int 0)),
  (1, 0, List.replicate 13 (.int 0)),
  (0, 0, [.ref 33, .int 0, .int 0, .int (-1)]),
  (0, 3, [.ref 34, .ref 35, .int 0]),
  (1, 0, List.replicate 13 (.int 0)),
  (1, 0, List.replicate 13 (.int 0)),
  (0, 0, [.ref 37, .int 0, .int 0, .int (-1)]),
  (0, 3, [.ref 38, .ref 39, .int 0]),
  (1, 0, List.replicate 13 (.int 0)),
  (1, 0, List.replicate 13 (.int 0)),
  (0, 0, [.ref 41, .int 0, .int 0, .int (-1)]),
  (0, 3, [.ref 42, .ref 43, .int 0]),
  (1, 0, List.replicate 13 (.int 0)),
  (1, 0, List.replicate 13 (.int 0)),
  (0, 4, [.int 0, .int 0, .int 0, .int 0, .ref 45, .ref 46, .int 0, .int 0, .int 0, .ref 49, .ref 50, .int 0, .ref 51, .ref 52, .int 0, .ref 53]),
  (3, 4, [.ref 54, .ref 58, .ref 62, .ref 66]),
  (0, 3, [.ref 47, .ref 48, .int 0]),
  (1, 0, List.replicate 13 (.int 0)),
  (1, 0, List.replicate 13 (.int 0)),
  (1, 0, [.int 0, .int 0, .int 0, .int 0]),
  (1, 0, [.int 0, .int 0, .int 0, .int 0]),
  (1, 0, [.int 0, .int 0, .int 0, .int 0, .int 0, .int 0]),
  (1, 0, [.int 0, .int 0, .int 0, .int 0, .int 0, .int 0]),
  (1, 0, List.replicate 60 (.int 0)),
  (0, 0, [.ref 55, .int 0, .int 0, .int (-1)]),
  (0, 3, [.ref 56, .ref 57, .int 0]),
  (1, 0, List.replicate 13 (.int 0)),
  (1, 0, List.replicate 13 (.int 0)),
  (0, 0, [.ref 59, .int 0, .int 0, .int (-1)]),
  (0, 3, [.ref 60, .ref 61, .int 0]),
  (1, 0, List.replicate 13 (.int 0)),
  (1, 0, List.replicate 13 (.int 0)),
  (0, 0, [.ref 63, .int 0, .int 0, .int (-1)]),
  (0, 3, [.ref 64, .ref 65, .int 0]),
  (1, 0, List.replicate 13 (.int 0)),
  (1, 0, List.replicate 13 (.int 0)),
  (0, 0, [.ref 67, .int 0, .int 0, .int (-1)]),
  (0, 3, [.ref 68, .ref 69, .int 0]),
  (1, 0, List.replicate 13 (.int 0)),
  (1, 0, List.replicate 13 (.int 0)),
  (3, 5, [.ref 72, .ref 98, .null]),
  (1, 3, [.int 0, .int 0, .int 0]),
  (0, 4, [.int 0, .int 0, .int 0, .int 0, .ref 73, .ref 74, .int 0, .int 0, .int 0, .ref 77, .ref 78, .int 0, .ref 79, .ref 80, .int 0, .ref 81]),
  (3, 4, [.ref 82, .ref 86, .ref 90, .ref 94]),
  (0, 3, [.ref 75, .ref 76, .int 0]),
  (1, 0, List.replicate 13 (.int 0)),
  (1, 0, List.replicate 13 (.int 0)),
  (1, 0, [.int 0, .int 0, .int 0, .int 0]),
  (1, 0, [.int 0, .int 0, .int 0, .int 0]),
  (1, 0, [.int 0, .int 0, .int 0, .int 0, .int 0, .int 0]),
  (1, 0, [.int 0, .int 0, .int 0, .int 0, .int 0, .int 0]),
  (1, 0, List.replicate 60 (.int 0)),
  (0, 0, [.ref 83, .int 0, .int 0, .int (-1)]),
  (0, 3, [.ref 84, .ref 85, .int 0]),
  (1, 0, List.replicate 13 (.int 0)),
  (1, 0, List.replicate 13 (.int 0)),
  (0, 0, [.ref 87, .int 0, .int 0, .int (-1)]),
  (0, 3, [.ref 88, .ref 89, .int 0]),
  (1, 0, List.replicate 13 (.int 0)),
  (1, 0, List.replicate 13 (.int 0)),
  (0, 0, [.ref 91, .int 0, .int 0, .int (-1)]),
  (0, 3, [.ref 92, .ref 93, .int 0]),
  (1, 0, List.replicate 13 (.int 0)),
  (1, 0, List.replicate 13 (.int 0)),
  (0, 0, [.ref 95, .int 0, .int 0, .int (-1)]),
  (0, 3, [.ref 96, .ref 97, .int 0]),
  (1, 0, List.replicate 13 (.int 0)),
  (1, 0, List.replicate 13 (.int 0)),
  (0, 4, [.int 0, .int 0, .int 0, .int 0, .ref 99, .ref 100, .int 0, .int 0, .int 0, .ref 103, .ref 104, .int 0, .ref 105, .ref 106, .int 0, .ref 107]),
  (3, 4, [.ref 108, .ref 112, .ref 116, .ref 120]),
  (0, 3, [.ref 101, .ref 102, .int 0]),
  (1, 0, List.replicate 13 (.int 0)),
  (1, 0, List.replicate 13 (.int 0)),
  (1, 0, [.int 0, .int 0, .int 0, .int 0]),
  (1, 0, [.int 0, .int 0, .int 0, .int 0]),
  (1, 0, [.int 0, .int 0, .int 0, .int 0, .int 0, .int 0]),
  (1, 0, [.int 0, .int 0, .int 0, .int 0, .int 0, .int 0]),
  (1, 0, List.replicate 60 (.int 0)),
  (0, 0, [.ref 109, .int 0, .int 0, .int (-1)]),
  (0, 3, [.ref 110, .ref 111, .int 0]),
  (1, 0, List.replicate 13 (.int 0)),
  (1, 0, List.replicate 13 (.int 0)),
  (0, 0, [.ref 113, .int 0, .int 0, .int (-1)]),
  (0, 3, [.ref 114, .ref 115, .int 0]),
  (1, 0, List.replicate 13 (.int 0)),
  (1, 0, List.replicate 13 (.int 0)),
  (0, 0, [.ref 117, .int 0, .int 0, .int (-1)]),
  (0, 3, [.ref 118, .ref 119, .int 0]),
  (1, 0, List.replicate 13 (.int 0)),
  (1, 0, List.replicate 13 (.int 0)),
  (0, 0, [.ref 121, .int 0, .int 0, .int (-1)]),
  (0, 3, [.ref 122, .ref 123, .int 0]),
  (1, 0, List.replicate 13 (.int 0)),
  (1, 0, List.replicate 13 (.int 0))]
theorem sx_2 : seg MT 2000 100 5000 none mr_134 60 (53, [(0, .ref 0)], [.ref 8, .ref 0], hx17) = some (126, [(1, .int 2), (0, .ref 0)], [.ref 70], hx19) := eqS_ok (by decide +kernel)
def hx20 : AH := [(0, 10, [.ref 1, .ref 3, .ref 4, .ref 8, .ref 10, .ref 14, .ref 150, .ref 70, .ref 71, .ref 18, .ref 44]),
  (0, 8, [.ref 2, .int 0]),
  (1, 2, List.replicate 1600 (.int 0)),
  (0, 5, [.ref 1, .int 0, .int 0, .int 0, .int 0, .int 0, .int (-1)]),
  (0, 6, [.int 0, .int 0, .ref 5, .ref 6, .ref 7]),
  (1, 0, List.replicate 81 (.int 0)),
  (1, 0, List.replicate 81 (.int 0)),
  (1, 0, List.replicate 81 (.int 0)),
  (0, 2, [.ref 4, .ref 9]),
  (1, 0, [.int 1, .int 278, .int 5736, .int 26752, .int 32768, .int 2, .int 553, .int 10644, .int 37952, .int 16384, .int 4, .int 1097, .int 18834, .int 37408, .int 8192, .int 8, .int 2182, .int 34401, .int 24848, .int 4096, .int 16, .int 4193, .int 24966, .int 34312, .int 2048, .int 32, .int 8338, .int 37449, .int 18692, .int 1024, .int 64, .int 16532, .int 37929, .int 10498, .int 512, .int 128, .int 32872, .int 26646, .int 5633, .int 256, .int 256, .int 5633, .int 26646, .int 32872, .int 128, .int 512, .int 10498, .int 37929, .int 16532, .int 64, .int 1024, .int 18692, .int 37449, .int 8338, .int 32, .int 2048, .int 34312, .int 24966, .int 4193, .int 16, .int 4096, .int 24848, .int 34401, .int 2182, .int 8, .int 8192, .int 37408, .int 18834, .int 1097, .int 4, .int 16384, .int 37952, .int 10644, .int 553, .int 2, .int 32768, .int 26752, .int 5736, .int 278, .int 1]),
  (0, 1, [.ref 11, .ref 12, .ref 13, .int 0, .int 0, .int 0]),
  (1, 0, List.replicate 16 (.int 0)),
  (1, 0, [.int 0, .int 0, .int 0, .int 0]),
  (1, 0, [.int 0, .int 0, .int 0, .int 0]),
  (0, 9, [.ref 15, .ref 16, .ref 17, .int 0, .int 0]),
  (1, 0, List.replicate 54 (.int 0)),
  (1, 0, [.int 0, .int 0, .int 0, .int 0, .int 0, .int 0]),
  (1, 0, [.int 0, .int 0, .int 0, .int 0, .int 0, .int 0]),
  (0, 4, [.int 0, .int 0, .int 0, .int 0, .ref 19, .ref 20, .int 0, .int 0, .int 0, .ref 23, .ref 24, .int 0, .ref 25, .ref 26, .int 0, .ref 27]),
  (3, 4, [.ref 28, .ref 32, .ref 36, .ref 40]),
  (0, 3, [.ref 21, .ref 22, .int 0]),
  (1, 0, List.replicate 13 (.int 0)),
  (1, 0, List.replicate 13 (.int 0)),
  (1, 0, [.int 0, .int 0, .int 0, .int 0]),
  (1, 0, [.int 0, .int 0, .int 0, .int 0]),
  (1, 0, [.int 0, .int 0, .int 0, .int 0, .int 0, .int 0]),
  (1, 0, [.int 0, .int 0, .int 0, .int 0, .int 0, .int 0]),
  (1, 0, List.replicate 60 (.int 0)),
  (0, 0, [.ref 29, .int 0, .int 0, .int (-1)]),
  (0, 3, [.ref 30, .ref 31, .int 0]),
  (1, 0, List.replicate 13 (.int 0)),
  (1, 0, List.replicate 13 (.int 0)),
  (0, 0, [.ref 33, .int 0, .int 0, .int (-1)]),
  (0, 3, [.ref 34, .ref 35, .int 0]),
  (1, 0, List.replicate 13 (.int 0)),
  (1, 0, List.replicate 13 (.int 0)),
  (0, 0, [.ref 37, .int 0, .int 0, .int (-1)]),
  (0, 3, [.ref 38, .ref 39, .int 0]),
  (1, 0, List.replicate 13 (.int 0)),
  (1, 0, List.replicate 13 (.int 0)),
  (0, 0, [.ref 41, .int 0, .int 0, .int (-1)]),
  (0, 3, [.ref 42, .ref 43, .int 0]),
  (1, 0, List.replicate 13 (.int 0)),
  (1, 0, List.replicate 13 (.int 0)),
  (0, 4, [.int 0, .int 0, .int 0, .int 0, .ref 45, .ref 46, .int 0, .int 0, .int 0, .ref 49, .ref 50, .int 0, .ref 51, .ref 52, .int 0, .ref 53]),
  (3, 4, [.ref 54, .ref 58, .ref 62, .ref 66]),
  (0, 3, [.ref 47, .ref 48, .int 0]),
  (1, 0, List.replicate 13 (.int 0)),
  (1, 0, List.replicate 13 (.int 0)),
  (1, 0, [.int 0, .int 0, .int 0, .int 0]),
  (1, 0, [.int 0, .int 0, .int 0, .int 0]),
  (1, 0, [.int 0, .int 0, .int 0, .int 0, .int 0, .int 0]),
  (1, 0, [.int 0, .int 0, .int 0, .int 0, .int 0, .int 0]),
  (1, 0, List.replicate 60 (.int 0)),
  (0, 0, [.ref 55, .int 0, .int 0, .int (-1)]),
  (0, 3, [.ref 56, .ref 57, .int 0]),
  (1, 0, List.replicate 13 (.int 0)),
  (1, 0, List.replicate 13 (.int 0)),
  (0, 0, [.ref 59, .int 0, .int 0, .int (-1)]),
  (0, 3, [.ref 60, .ref 61, .int 0]),
  (1, 0, List.replicate 13 (.int 0)),
  (1, 0, List.replicate 13 (.int 0)),
  (0, 0, [.ref 63, .int 0, .int 0, .int (-1)]),
  (0, 3, [.ref 64, .ref 65, .int 0]),
  (1, 0, List.replicate 13 (.int 0)),
  (1, 0, List.replicate 13 (.int 0)),
  (0, 0, [.ref 67, .int 0, .int 0, .int (-1)]),
  (0, 3, [.ref 68, .ref 69, .int 0]),
  (1, 0, List.replicate 13 (.int 0)),
  (1, 0, List.replicate 13 (.int 0)),
  (3, 5, [.ref 72, .ref 98, .ref 124]),
  (1, 3, [.int 0, .int 0, .int 0]),
  (0, 4, [.int 0, .int 0, .int 0, .int 0, .ref 73, .ref 74, .int 0, .int 0, .int 0, .ref 77, .ref 78, .int 0, .ref 79, .ref 80, .int 0, .ref 81]),
  (3, 4, [.ref 82, .ref 86, .ref 90, .ref 94]),
  (0, 3, [.ref 75, .ref 76, .int 0]),
  (1, 0, List.replicate 13 (.int 0)),
  (1, 0, List.replicate 13 (.int 0)),
  (1, 0, [.int 0, .int 0, .int 0, .int 0]),
  (1, 0, [.int 0, .int 0, .int 0, .int 0]),
  (1, 0, [.int 0, .int 0, .int 0, .int 0, .int 0, .int 0]),
  (1, 0, [.int 0, .int 0, .int 0, .int 0, .int 0, .int 0]),
  (1, 0, List.replicate 60 (.int 0)),
  (0, 0, [.ref 83, .int 0, .int 0, .int (-1)]),
  (0, 3, [.ref 84, .ref 85, .int 0]),
  (1, 0, List.replicate 13 (.int 0)),
  (1, 0, List.replicate 13 (.int 0)),
  (0, 0, [.ref 87, .int 0, .int 0, .int (-1)]),
  (0, 3, [.ref 88, .ref 89, .int 0]),
  (1, 0, List.replicate 13 (.int 0)),
  (1, 0, List.replicate 13 (.int 0)),
  (0, 0, [.ref 91, .int 0, .int 0, .int (-1)]),
  (0, 3, [.ref 92, .ref 93, .int 0]),
  (1, 0, List.replicate 13 (.int 0)),
  (1, 0, List.replicate 13 (.int 0)),
  (0, 0, [.ref 95, .int 0, .int 0, .int (-1)]),
  (0, 3, [.ref 96, .ref 97, .int 0]),
  (1, 0, List.replicate 13 (.int 0)),
  (1, 0, List.replicate 13 (.int 0)),
  (0, 4, [.int 0, .int 0, .int 0, .int 0, .ref 99, .ref 100, .int 0, .int 0, .int 0, .ref 103, .ref 104, .int 0, .ref 105, .ref 106, .int 0, .ref 107]),
  (3, 4, [.ref 108, .ref 112, .ref 116, .ref 120]),
  (0, 3, [.ref 101, .ref 102, .int 0]),
  (1, 0, List.replicate 13 (.int 0)),
  (1, 0, List.replicate 13 (.int 0)),
  (1, 0, [.int 0, .int 0, .int 0, .int 0]),
  (1, 0, [.int 0, .int 0, .int 0, .int 0]),
  (1, 0, [.int 0, .int 0, .int 0, .int 0, .int 0, .int 0]),
  (1, 0, [.int 0, .int 0, .int 0, .int 0, .int 0, .int 0]),
  (1, 0, List.replicate 60 (.int 0)),
  (0, 0, [.ref 109, .int 0, .int 0, .int (-1)]),
  (0, 3, [.ref 110, .ref 111, .int 0]),
  (1, 0, List.replicate 13 (.int 0)),
  (1, 0, List.replicate 13 (.int 0)),
  (0, 0, [.ref 113, .int 0, .int 0, .int (-1)]),
  (0, 3, [.ref 114, .ref 115, .int 0]),
  (1, 0, List.replicate 13 (.int 0)),
  (1, 0, List.replicate 13 (.int 0)),
  (0, 0, [.ref 117, .int 0, .int 0, .int (-1)]),
  (0, 3, [.ref 118, .ref 119, .int 0]),
  (1, 0, List.replicate 13 (.int 0)),
  (1, 0, List.replicate 13 (.int 0)),
  (0, 0, [.ref 121, .int 0, .int 0, .int (-1)]),
  (0, 3, [.ref 122, .ref 123, .int 0]),
  (1, 0, List.replicate 13 (.int 0)),
  (1, 0, List.replicate 13 (.int 0)),
  (0, 4, [.int 0, .int 0, .int 0, .int 0, .ref 125, .ref 126, .int 0, .int 0, .int 0, .ref 129, .ref 130, .int 0, .ref 131, .ref 132, .int 0, .ref 133]),
  (3, 4, [.ref 134, .ref 138, .ref 142, .ref 146]),
  (0, 3, [.ref 127, .ref 128, .int 0]),
  (1, 0, List.replicate 13 (.int 0)),
  (1, 0, List.replicate 13 (.int 0)),
  (1, 0, [.int 0, .int 0, .int 0, .int 0]),
  (1, 0, [.int 0, .int 0, .int 0, .int 0]),
  (1, 0, [.int 0, .int 0, .int 0, .int 0, .int 0, .int 0]),
  (1, 0, [.int 0, .int 0, .int 0, .int 0, .int 0, .int 0]),
  (1, 0, List.replicate 60 (.int 0)),
  (0, 0, [.ref 135, .int 0, .int 0, .int (-1)]),
  (0, 3, [.ref 136, .ref 137, .int 0]),
  (1, 0, List.replicate 13 (.int 0)),
  (1, 0, List.replicate 13 (.int 0)),
  (0, 0, [.ref 139, .int 0, .int 0, .int (-1)]),
  (0, 3, [.ref 140, .ref 141, .int 0]),
  (1, 0, List.replicate 13 (.int 0)),
  (1, 0, List.replicate 13 (.int 0)),
  (0, 0, [.ref 143, .int 0, .int 0, .int (-1)]),
  (0, 3, [.ref 144, .ref 145, .int 0]),
  (1, 0, List.replicate 13 (.int 0)),
  (1, 0, List.replicate 13 (.int 0)),
  (0, 0, [.ref 147, .int 0, .int 0, .int (-1)]),
  (0, 3, [.ref 148, .ref 149, .int 0]),
  (1, 0, List.replicate 13 (.int 0)),
  (1, 0, List.replicate 13 (.int 0)),
  (3, 6, [.ref 151, .ref 153, .ref 155, .null]),
  (0, 7, [.ref 152, .int 0, .int 0, .int 0]),
  (2, 1, List.replicate 60 (.long 0)),
  (0, 7, [.ref 154, .int 0, .int 0, .int 0]),
  (2, 1, List.replicate 60 (.long 0)),
  (0, 7, [.ref 156, .int 0, .int 0, .int 0]),
  (2, 1, List.replicate 60 (.long 0)),
  (0, 7, [.null, .int 0, .int 0, .int 0])]
theorem sx_3 : seg MT 2000 100 5000 none mr_134 60 (126, [(1, .int 2), (0, .ref 0)], [.ref 70], hx19) = some (165, [(1, .int 3), (0, .ref 0)], [.ref 157, .ref 157, .int 3, .ref 150], hx20) := eqS_ok (by decide +kernel)
def hx21 : AH := [(0, 10, [.ref 1, .ref 3, .ref 4, .ref 8, .ref 10, .ref 14, .ref 150, .ref 70, .ref 71, .ref 18, .ref 44]),
  (0, 8, [.ref 2, .int 0]),
  (1, 2, List.replicate 1600 (.int 0)),
  (0, 5, [.ref 1, .int 0, .int 0, .int 0, .int 0, .int 0, .int (-1)]),
  (0, 6, [.int 0, .int 0, .ref 5, .ref 6, .ref 7]),
  (1, 0, List.replicate 81 (.int 0)),
  (1, 0, List.replicate 81 (.int 0)),
  (1, 0, List.replicate 81 (.int 0)),
  (0, 2, [.ref 4, .ref 9]),
  (1, 0, [.int 1, .int 278, .int 5736, .int 26752, .int 32768, .int 2, .int 553, .int 10644, .int 37952, .int 16384, .int 4, .int 1097, .int 18834, .int 37408, .int 8192, .int 8, .int 2182, .int 34401, .int 24848, .int 4096, .int 16, .int 4193, .int 24966, .int 34312, .int 2048, .int 32, .int 8338, .int 37449, .int 18692, .int 1024, .int 64, .int 16532, .int 37929, .int 10498, .int 512, .int 128, .int 32872, .int 26646, .int 5633, .int 256, .int 256, .int 5633, .int 26646, .int 32872, .int 128, .int 512, .int 10498, .int 37929, .int 16532, .int 64, .int 1024, .int 18692, .int 37449, .int 8338, .int 32, .int 2048, .int 34312, .int 24966, .int 4193, .int 16, .int 4096, .int 24848, .int 34401, .int 2182, .int 8, .int 8192, .int 37408, .int 18834, .int 1097, .int 4, .int 16384, .int 37952, .int 10644, .int 553, .int 2, .int 32768, .int 26752, .int 5736, .int 278, .int 1]),
  (0, 1, [.ref 11, .ref 12, .ref 13, .int 0, .int 0, .int 0]),
  (1, 0, List.replicate 16 (.int 0)),
  (1, 0, [.int 0, .int 0, .int 0, .int 0]),
  (1, 0, [.int 0, .int 0, .int 0, .int 0]),
  (0, 9, [.ref 15, .ref 16, .ref 17, .int 0, .int 0]),
  (1, 0, List.replicate 54 (.int 0)),
  (1, 0, [.int 0, .int 0, .int 0, .int 0, .int 0, .int 0]),
  (1, 0, [.int 0, .int 0, .int 0, .int 0, .int 0, .int 0]),
  (0, 4, [.int 0, .int 0, .int 0, .int 0, .ref 19, .ref 20, .int 0, .int 0, .int 0, .ref 23, .ref 24, .int 0, .ref 25, .ref 26, .int 0, .ref 27]),
  (3, 4, [.ref 28, .ref 32, .ref 36, .ref 40]),
  (0, 3, [.ref 21, .ref 22, .int 0]),
  (1, 0, List.replicate 13 (.int 0)),
  (1, 0, List.replicate 13 (.int 0)),
  (1, 0, [.int 0, .int 0, .int 0, .int 0]),
  (1, 0, [.int 0, .int 0, .int 0, .int 0]),
  (1, 0, [.int 0, .int 0, .int 0, .int 0, .int 0, .int 0]),
  (1, 0, [.int 0, .int 0, .int 0, .int 0, .int 0, .int 0]),
  (1, 0, List.replicate 60 (.int 0)),
  (0, 0, [.ref 29, .int 0, .int 0, .int (-1)]),
  (0, 3, [.ref 30, .ref 31, .int 0]),
  (1, 0, List.replicate 13 (.int 0)),
  (1, 0, List.replicate 13 (.int 0)),
  (0, 0, [.ref 33, .int 0, .int 0, .int (-1)]),
  (0, 3, [.ref 34, .ref 35, .int 0]),
  (1, 0, List.replicate 13 (.int 0)),
  (1, 0, List.replicate 13 (.int 0)),
  (0, 0, [.ref 37, .int 0, .int 0, .int (-1)]),
  (0, 3, [.ref 38, .ref 39, .int 0]),
  (1, 0, List.replicate 13 (.int 0)),
  (1, 0, List.replicate 13 (.int 0)),
  (0, 0, [.ref 41, .int 0, .int 0, .int (-1)]),
  (0, 3, [.ref 42, .ref 43, .int 0]),
  (1, 0, List.replicate 13 (.int 0)),
  (1, 0, List.replicate 13 (.int 0)),
  (0, 4, [.int 0, .int 0, .int 0, .int 0, .ref 45, .ref 46, .int 0, .int 0, .int 0, .ref 49, .ref 50, .int 0, .ref 51, .ref 52, .int 0, .ref 53]),
  (3, 4, [.ref 54, .ref 58, .ref 62, .ref 66]),
  (0, 3, [.ref 47, .ref 48, .int 0]),
  (1, 0, List.replicate 13 (.int 0)),
  (1, 0, List.replicate 13 (.int 0)),
  (1, 0, [.int 0, .int 0, .int 0, .int 0]),
  (1, 0, [.int 0, .int 0, .int 0, .int 0]),
  (1, 0, [.int 0, .int 0, .int 0, .int 0, .int 0, .int 0]),
  (1, 0, [.int 0, .int 0, .int 0, .int 0, .int 0, .int 0]),
  (1, 0, List.replicate 60 (.int 0)),
  (0, 0, [.ref 55, .int 0, .int 0, .int (-1)]),
  (0, 3, [.ref 56, .ref 57, .int 0]),
  (1, 0, List.replicate 13 (.int 0)),
  (1, 0, List.replicate 13 (.int 0)),
  (0, 0, [.ref 59, .int 0, .int 0, .int (-1)]),
  (0, 3, [.ref 60, .ref 61, .int 0]),
  (1, 0, List.replicate 13 (.int 0)),
  (1, 0, List.replicate 13 (.int 0)),
  (0, 0, [.ref 63, .int 0, .int 0, .int (-1)]),
  (0, 3, [.ref 64, .ref 65, .int 0]),
  (1, 0, List.replicate 13 (.int 0)),
  (1, 0, List.replicate 13 (.int 0)),
  (0, 0, [.ref 67, .int 0, .int 0, .int (-1)]),
  (0, 3, [.ref 68, .ref 69, .int 0]),
  (1, 0, List.replicate 13 (.int 0)),
  (1, 0, List.replicate 13 (.int 0)),
  (3, 5, [.ref 72, .ref 98, .ref 124]),
  (1, 3, [.int 0, .int 0, .int 0]),
  (0, 4, [.int 0, .int 0, .int 0, .int 0, .ref 73, .ref 74, .int 0, .int 0, .int 0, .ref 77, .ref 78, .int 0, .ref 79, .ref 80, .int 0, .ref 81]),
  (3, 4, [.ref 82, .ref 86, .ref 90, .ref 94]),
  (0, 3, [.ref 75, .ref 76, .int 0]),
  (1, 0, List.replicate 13 (.int 0)),
  (1, 0, List.replicate 13 (.int 0)),
  (1, 0, [.int 0, .int 0, .int 0, .int 0]),
  (1, 0, [.int 0, .int 0, .int 0, .int 0]),
  (1, 0, [.int 0, .int 0, .int 0, .int 0, .int 0, .int 0]),
  (1, 0, [.int 0, .int 0, .int 0, .int 0, .int 0, .int 0]),
  (1, 0, List.replicate 60 (.int 0)),
  (0, 0, [.ref 83, .int 0, .int 0, .int (-1)]),
  (0, 3, [.ref 84, .ref 85, .int 0]),
  (1, 0, List.replicate 13 (.int 0)),
  (1, 0, List.replicate 13 (.int 0)),
  (0, 0, [.ref 87, .int 0, .int 0, .int (-1)]),
  (0, 3, [.ref 88, .ref 89, .int 0]),
  (1, 0, List.replicate 13 (.int 0)),
  (1, 0, List.replicate 13 (.int 0)),
  (0, 0, [.ref 91, .int 0, .int 0, .int (-1)]),
  (0, 3, [.ref 92, .ref 93, .int 0]),
  (1, 0, List.replicate 13 (.int 0)),
  (1, 0, List.replicate 13 (.int 0)),
  (0, 0, [.ref 95, .int 0, .int 0, .int (-1)]),
  (0, 3, [.ref 96, .ref 97, .int 0]),
  (1, 0, List.replicate 13 (.int 0)),
  (1, 0, List.replicate 13 (.int 0)),
  (0, 4, [.int 0, .int 0, .int 0, .int 0, .ref 99, .ref 100, .int 0, .int 0, .int 0, .ref 103, .ref 104, .int 0, .ref 105, .ref 106, .int 0, .ref 107]),
  (3, 4, [.ref 108, .ref 112, .ref 116, .ref 120]),
  (0, 3, [.ref 101, .ref 102, .int 0]),
  (1, 0, List.replicate 13 (.int 0)),
  (1, 0, List.replicate 13 (.int 0)),
  (1, 0, [.int 0, .int 0, .int 0, .int 0]),
  (1, 0, [.int 0, .int 0, .int 0, .int 0]),
  (1, 0, [.int 0, .int 0, .int 0, .int 0, .int 0, .int 0]),
  (1, 0, [.int 0, .int 0, .int 0, .int 0, .int 0, .int 0]),
  (1, 0, List.replicate 60 (.int 0)),
  (0, 0, [.ref 109, .int 0, .int 0, .int (-1)]),
  (0, 3, [.ref 110, .ref 111, .int 0]),
  (1, 0, List.replicate 13 (.int 0)),
  (1, 0, List.replicate 13 (.int 0)),
  (0, 0, [.ref 113, .int 0, .int 0, .int (-1)]),
  (0, 3, [.ref 114, .ref 115, .int 0]),
  (1, 0, List.replicate 13 (.int 0)),
  (1, 0, List.replicate 13 (.int 0)),
  (0, 0, [.ref 117, .int 0, .int 0, .int (-1)]),
  (0, 3, [.ref 118, .ref 119, .int 0]),
  (1, 0, List.replicate 13 (.int 0)),
  (1, 0, List.replicate 13 (.int 0)),
  (0, 0, [.ref 121, .int 0, .int 0, .int (-1)]),
  (0, 3, [.ref 122, .ref 123, .int 0]),
  (1, 0, List.replicate 13 (.int 0)),
  (1, 0, List.replicate 13 (.int 0)),
  (0, 4, [.int 0, .int 0, .int 0, .int 0, .ref 125, .ref 126, .int 0, .int 0, .int 0, .ref 129, .ref 130, .int 0, .ref 131, .ref 132, .int 0, .ref 133]),
  (3, 4, [.ref 134, .ref 138, .ref 142, .ref 146]),
  (0, 3, [.ref 127, .ref 128, .int 0]),
  (1, 0, List.replicate 13 (.int 0)),
  (1, 0, List.replicate 13 (.int 0)),
  (1, 0, [.int 0, .int 0, .int 0, .int 0]),
  (1, 0, [.int 0, .int 0, .int 0, .int 0]),
  (1, 0, [.int 0, .int 0, .int 0, .int 0, .int 0, .int 0]),
  (1, 0, [.int 0, .int 0, .int 0, .int 0, .int 0, .int 0]),
  (1, 0, List.replicate 60 (.int 0)),
  (0, 0, [.ref 135, .int 0, .int 0, .int (-1)]),
  (0, 3, [.ref 136, .ref 137, .int 0]),
  (1, 0, List.replicate 13 (.int 0)),
  (1, 0, List.replicate 13 (.int 0)),
  (0, 0, [.ref 139, .int 0, .int 0, .int (-1)]),
  (0, 3, [.ref 140, .ref 141, .int 0]),
  (1, 0, List.replicate 13 (.int 0)),
  (1, 0, List.replicate 13 (.int 0)),
  (0, 0, [.ref 143, .int 0, .int 0, .int (-1)]),
  (0, 3, [.ref 144, .ref 145, .int 0]),
  (1, 0, List.replicate 13 (.int 0)),
  (1, 0, List.replicate 13 (.int 0)),
  (0, 0, [.ref 147, .int 0, .int 0, .int (-1)]),
  (0, 3, [.ref 148, .ref 149, .int 0]),
  (1, 0, List.replicate 13 (.int 0)),
  (1, 0, List.replicate 13 (.int 0)),
  (3, 6, [.ref 151, .ref 153, .ref 155, .ref 157]),
  (0, 7, [.ref 152, .int 0, .int 0, .int 0]),
  (2, 1, List.replicate 60 (.long 0)),
  (0, 7, [.ref 154, .int 0, .int 0, .int 0]),
  (2, 1, List.replicate 60 (.long 0)),
  (0, 7, [.ref 156, .int 0, .int 0, .int 0]),
  (2, 1, List.replicate 60 (.long 0)),
  (0, 7, [.ref 158, .int 0, .int 0, .int 0]),
  (2, 1, List.replicate 60 (.long 0))]
theorem sx_4 : seg MT 2000 100 5000 none mr_134 7 (165, [(1, .int 3), (0, .ref 0)], [.ref 157, .ref 157, .int 3, .ref 150], hx20) = some (175, [(1, .int 4), (0, .ref 0)], [], hx21) := eqS_ok (by decide +kernel)
abbrev hX : AH := hx21
theorem run_X : Go MT 100 5000 none mr_134 0 [(0, .ref 0)] [] [(0, 10, DFL 10)] (none, hX) := by
  refine Go_seg 24 sx_0 ?_
  refine Go_call (v1 := none) (h1 := hx17) (i := .invokespecial 34) (len := 3) (tgt := 0) (kd := 5) (id := 12) (pos := (1, 106)) (G := mr_12) (vs := [.ref 8, .ref 4]) (r := [.ref 8, .ref 0]) (by decide +kernel) rfl (by decide +kernel) rfl (by decide) rfl (by decide +kernel) (by decide +kernel) (by decide +kernel) run_L ?_
  refine Go_seg 60 sx_2 ?_
  refine Go_seg 60 sx_3 ?_
  refine Go_seg 7 sx_4 ?_
  exact Go_of 1 (by decide +kernel)
def hM : AH := [(0, 11, [.int 0, .ref 160, .ref 161, .ref 162, .ref 163, .int 0, .ref 164, .int 0, .int 0, .int 0, .int 0, .int 0, .int 0, .int (-1), .ref 165, .ref 166, .ref 167, .ref 168, .int 0, .ref 169, .ref 170, .int 0, .int 0, .int 0, .ref 171, .ref 172, .int 0, .ref 173, .ref 174, .ref 175, .ref 176, .int 0, .ref 177, .ref 178, .ref 179, .ref 180]),
  (1, 0, List.replicate 226 (.int 0)),
  (1, 0, List.replicate 678 (.int 0)),
  (1, 3, [.int 0, .int 0, .int 0]),
  (1, 2, List.replicate 1600 (.int 0)),
  (1, 0, [.int 0, .int 0, .int 0, .int 0, .int 0]),
  (1, 0, List.replicate 226 (.int 0)),
  (1, 0, List.replicate 81 (.int 0)),
  (1, 0, List.replicate 81 (.int 0)),
  (1, 0, List.replicate 81 (.int 0)),
  (1, 0, List.replicate 17 (.int 0)),
  (1, 0, List.replicate 17 (.int 0)),
  (1, 0, [.int 0, .int 0, .int 0, .int 0]),
  (1, 0, [.int 0, .int 0, .int 0, .int 0]),
  (1, 0, [.int 0, .int 0, .int 0, .int 0, .int 0, .int 0]),
  (1, 0, List.replicate 120 (.int 0)),
  (1, 0, [.int 0, .int 0, .int 0, .int 0, .int 0, .int 0]),
  (1, 0, [.int 0, .int 0, .int 0, .int 0, .int 0, .int 0]),
  (1, 0, [.int (-1), .int (-1), .int (-1), .int (-1)]),
  (1, 0, [.int 0, .int 0, .int 0, .int 0]),
  (2, 1, List.replicate 240 (.long 0)),
  (2, 1, List.replicate 60 (.long 0))]
def h0 : AH := hX ++ hM
theorem run_M : Go MT 100 5000 none mr_241 0 [(0, .ref 159)] [] (hX ++ [(0, 11, DFL 11)]) (none, h0) := Go_of 200 (by decide +kernel)
end
