/-! 00.blk -/
section
/-! the tables' words in blocks -/
theorem tI_1 {w : Cond} (h : w ∈ tables_1_1) : w ∈ tables_1 := (List.mem_append_left _ h)
theorem tI_2 {w : Cond} (h : w ∈ tables_1_2) : w ∈ tables_1 := (List.mem_append_right _ (List.mem_append_left _ h))
theorem tI_3 {w : Cond} (h : w ∈ tables_1_3) : w ∈ tables_1 := (List.mem_append_right _ (List.mem_append_right _ (List.mem_append_left _ h)))
theorem tI_4 {w : Cond} (h : w ∈ tables_1_4) : w ∈ tables_1 := (List.mem_append_right _ (List.mem_append_right _ (List.mem_append_right _ (List.mem_append_left _ h))))
theorem tI_5 {w : Cond} (h : w ∈ tables_1_5) : w ∈ tables_1 := (List.mem_append_right _ (List.mem_append_right _ (List.mem_append_right _ (List.mem_append_right _ (List.mem_append_left _ h)))))
theorem tI_6 {w : Cond} (h : w ∈ tables_1_6) : w ∈ tables_1 := (List.mem_append_right _ (List.mem_append_right _ (List.mem_append_right _ (List.mem_append_right _ (List.mem_append_right _ (List.mem_append_left _ h))))))
theorem tI_7 {w : Cond} (h : w ∈ tables_1_7) : w ∈ tables_1 := (List.mem_append_right _ (List.mem_append_right _ (List.mem_append_right _ (List.mem_append_right _ (List.mem_append_right _ (List.mem_append_right _ (List.mem_append_left _ h)))))))
theorem tI_8 {w : Cond} (h : w ∈ tables_1_8) : w ∈ tables_1 := (List.mem_append_right _ (List.mem_append_right _ (List.mem_append_right _ (List.mem_append_right _ (List.mem_append_right _ (List.mem_append_right _ (List.mem_append_right _ h)))))))
def bk_1_0 : List Cond := [(Jvm.Cond.initialized "DoorSchoolLaw"), (Jvm.Cond.initialized "DoorSchool"), (Jvm.Cond.initialized "DoorSchool$Tape"), (Jvm.Cond.initialized "DoorSchool$Reader"), (Jvm.Cond.initialized "DoorSchool$Rules"), (Jvm.Cond.initialized "DoorSchool$Learner"), (Jvm.Cond.initialized "java/lang/Integer"), (Jvm.Cond.initialized "DoorSchool$Hanging"), (Jvm.Cond.initialized "DoorSchool$Timetable"), (Jvm.Cond.initialized "DoorSchool$Plan"), (Jvm.Cond.initialized "DoorSchool$Lessons"), (Jvm.Cond.initialized "DoorSchool$Door"), (Jvm.Cond.initialized "DoorSchool$Slot"), (Jvm.Cond.initialized "DoorSchoolModel"), (Jvm.Cond.initialized "java/util/Arrays"), (Jvm.Cond.initialized "java/lang/Math")]
def bk_1_1 : List Cond := [(Jvm.Cond.initialized "java/lang/String"), (Jvm.Cond.initialized "java/lang/StringLatin1"), (Jvm.Cond.initialized "jdk/internal/util/Preconditions"), (Jvm.Cond.initialized "java/lang/StringUTF16"), (Jvm.Cond.initialized "java/lang/System"), (Jvm.Cond.classLink "DoorSchoolLaw" (7 : Nat) "DoorSchool"), (Jvm.Cond.instantiable "DoorSchool" (11 : Nat)), (Jvm.Cond.methodLink "DoorSchoolLaw" (9 : Nat) ({ cls := "DoorSchool", name := "<init>", desc := "()V" } : Jvm.MethodName)), (Jvm.Cond.instanceMethod ({ cls := "DoorSchool", name := "<init>", desc := "()V" } : Jvm.MethodName)), (Jvm.Cond.code ({ cls := "DoorSchool", name := "<init>", desc := "()V" } : Jvm.MethodName) prog_1_method_1_code (2 : Nat) (Option.none : Option Jvm.ClassFile.FieldType)), (Jvm.Cond.methodLink "DoorSchool" (1 : Nat) ({ cls := "java/lang/Object", name := "<init>", desc := "()V" } : Jvm.MethodName)), (Jvm.Cond.instanceMethod ({ cls := "java/lang/Object", name := "<init>", desc := "()V" } : Jvm.MethodName)), (Jvm.Cond.code ({ cls := "java/lang/Object", name := "<init>", desc := "()V" } : Jvm.MethodName) object_method_1_code (1 : Nat) (Option.none : Option Jvm.ClassFile.FieldType)), (Jvm.Cond.classLink "DoorSchool" (7 : Nat) "DoorSchool$Tape"), (Jvm.Cond.instantiable "DoorSchool$Tape" (2 : Nat)), (Jvm.Cond.methodLinkNest "DoorSchool" (9 : Nat) ({ cls := "DoorSchool$Tape", name := "<init>", desc := "()V" } : Jvm.MethodName) "DoorSchool")]
def bk_1_2 : List Cond := [(Jvm.Cond.instanceMethod ({ cls := "DoorSchool$Tape", name := "<init>", desc := "()V" } : Jvm.MethodName)), (Jvm.Cond.code ({ cls := "DoorSchool$Tape", name := "<init>", desc := "()V" } : Jvm.MethodName) prog_10_method_1_code (1 : Nat) (Option.none : Option Jvm.ClassFile.FieldType)), (Jvm.Cond.methodLink "DoorSchool$Tape" (3 : Nat) ({ cls := "java/lang/Object", name := "<init>", desc := "()V" } : Jvm.MethodName)), (Jvm.Cond.fieldLink "DoorSchool$Tape" (9 : Nat) "DoorSchool$Tape" "bytes" "[B"), (Jvm.Cond.fieldLinkNest "DoorSchool$Reader" (210 : Nat) "DoorSchool$Tape" "bytes" "[B" "DoorSchool"), (Jvm.Cond.fieldLinkNest "DoorSchool" (80 : Nat) "DoorSchool$Tape" "size" "I" "DoorSchool"), (Jvm.Cond.fieldLink "DoorSchool$Tape" (15 : Nat) "DoorSchool$Tape" "size" "I"), (Jvm.Cond.fieldLinkNest "DoorSchool$Reader" (220 : Nat) "DoorSchool$Tape" "size" "I" "DoorSchool"), (Jvm.Cond.laysFinal "DoorSchool$Tape" "DoorSchool$Tape" "bytes" "[B"), (Jvm.Cond.soleField "DoorSchool$Tape" "bytes"), (Jvm.Cond.lays "DoorSchool$Tape" "DoorSchool$Tape" "size" "I"), (Jvm.Cond.soleField "DoorSchool$Tape" "size"), (Jvm.Cond.superclass "DoorSchool$Tape" "java/lang/Object"), (Jvm.Cond.arrayClass Jvm.ClassFile.FieldType.byte), (Jvm.Cond.classLink "DoorSchool" (16 : Nat) "DoorSchool$Reader"), (Jvm.Cond.instantiable "DoorSchool$Reader" (7 : Nat))]
def bk_1_3 : List Cond := [(Jvm.Cond.methodLinkNest "DoorSchool" (18 : Nat) ({ cls := "DoorSchool$Reader", name := "<init>", desc := "(LDoorSchool$Tape;)V" } : Jvm.MethodName) "DoorSchool"), (Jvm.Cond.instanceMethod ({ cls := "DoorSchool$Reader", name := "<init>", desc := "(LDoorSchool$Tape;)V" } : Jvm.MethodName)), (Jvm.Cond.code ({ cls := "DoorSchool$Reader", name := "<init>", desc := "(LDoorSchool$Tape;)V" } : Jvm.MethodName) prog_7_method_1_code (2 : Nat) (Option.none : Option Jvm.ClassFile.FieldType)), (Jvm.Cond.methodLink "DoorSchool$Reader" (3 : Nat) ({ cls := "java/lang/Object", name := "<init>", desc := "()V" } : Jvm.MethodName)), (Jvm.Cond.fieldLink "DoorSchool$Reader" (15 : Nat) "DoorSchool$Reader" "tape" "LDoorSchool$Tape;"), (Jvm.Cond.fieldLink "DoorSchool$Reader" (33 : Nat) "DoorSchool$Reader" "kind" "I"), (Jvm.Cond.fieldLink "DoorSchool$Reader" (202 : Nat) "DoorSchool$Reader" "start" "I"), (Jvm.Cond.fieldLink "DoorSchool$Reader" (22 : Nat) "DoorSchool$Reader" "stop" "I"), (Jvm.Cond.fieldLink "DoorSchool$Reader" (199 : Nat) "DoorSchool$Reader" "value" "I"), (Jvm.Cond.fieldLink "DoorSchool$Reader" (19 : Nat) "DoorSchool$Reader" "fault" "I"), (Jvm.Cond.fieldLinkNest "DoorSchool" (92 : Nat) "DoorSchool$Reader" "fault" "I" "DoorSchool"), (Jvm.Cond.fieldLink "DoorSchool$Reader" (9 : Nat) "DoorSchool$Reader" "place" "I"), (Jvm.Cond.fieldLinkNest "DoorSchool" (104 : Nat) "DoorSchool$Reader" "place" "I" "DoorSchool"), (Jvm.Cond.laysFinal "DoorSchool$Reader" "DoorSchool$Reader" "tape" "LDoorSchool$Tape;"), (Jvm.Cond.soleField "DoorSchool$Reader" "tape"), (Jvm.Cond.lays "DoorSchool$Reader" "DoorSchool$Reader" "kind" "I")]
def bk_1_4 : List Cond := [(Jvm.Cond.soleField "DoorSchool$Reader" "kind"), (Jvm.Cond.lays "DoorSchool$Reader" "DoorSchool$Reader" "start" "I"), (Jvm.Cond.soleField "DoorSchool$Reader" "start"), (Jvm.Cond.lays "DoorSchool$Reader" "DoorSchool$Reader" "stop" "I"), (Jvm.Cond.soleField "DoorSchool$Reader" "stop"), (Jvm.Cond.lays "DoorSchool$Reader" "DoorSchool$Reader" "value" "I"), (Jvm.Cond.soleField "DoorSchool$Reader" "value"), (Jvm.Cond.lays "DoorSchool$Reader" "DoorSchool$Reader" "fault" "I"), (Jvm.Cond.soleField "DoorSchool$Reader" "fault"), (Jvm.Cond.lays "DoorSchool$Reader" "DoorSchool$Reader" "place" "I"), (Jvm.Cond.soleField "DoorSchool$Reader" "place"), (Jvm.Cond.superclass "DoorSchool$Reader" "java/lang/Object"), (Jvm.Cond.classLink "DoorSchool" (25 : Nat) "DoorSchool$Rules"), (Jvm.Cond.instantiable "DoorSchool$Rules" (5 : Nat)), (Jvm.Cond.methodLinkNest "DoorSchool" (27 : Nat) ({ cls := "DoorSchool$Rules", name := "<init>", desc := "()V" } : Jvm.MethodName) "DoorSchool"), (Jvm.Cond.instanceMethod ({ cls := "DoorSchool$Rules", name := "<init>", desc := "()V" } : Jvm.MethodName))]
def bk_1_5 : List Cond := [(Jvm.Cond.code ({ cls := "DoorSchool$Rules", name := "<init>", desc := "()V" } : Jvm.MethodName) prog_8_method_1_code (1 : Nat) (Option.none : Option Jvm.ClassFile.FieldType)), (Jvm.Cond.methodLink "DoorSchool$Rules" (3 : Nat) ({ cls := "java/lang/Object", name := "<init>", desc := "()V" } : Jvm.MethodName)), (Jvm.Cond.fieldLink "DoorSchool$Rules" (21 : Nat) "DoorSchool$Rules" "knocks" "I"), (Jvm.Cond.fieldLinkNest "DoorSchool$Learner" (39 : Nat) "DoorSchool$Rules" "knocks" "I" "DoorSchool"), (Jvm.Cond.fieldLink "DoorSchool$Rules" (25 : Nat) "DoorSchool$Rules" "size" "I"), (Jvm.Cond.fieldLinkNest "DoorSchool$Learner" (77 : Nat) "DoorSchool$Rules" "size" "I" "DoorSchool"), (Jvm.Cond.fieldLink "DoorSchool$Rules" (9 : Nat) "DoorSchool$Rules" "signs" "[I"), (Jvm.Cond.fieldLinkNest "DoorSchool" (200 : Nat) "DoorSchool$Rules" "signs" "[I" "DoorSchool"), (Jvm.Cond.fieldLink "DoorSchool$Rules" (15 : Nat) "DoorSchool$Rules" "there" "[I"), (Jvm.Cond.fieldLinkNest "DoorSchool" (202 : Nat) "DoorSchool$Rules" "there" "[I" "DoorSchool"), (Jvm.Cond.fieldLink "DoorSchool$Rules" (18 : Nat) "DoorSchool$Rules" "deeds" "[I"), (Jvm.Cond.fieldLinkNest "DoorSchool$Learner" (36 : Nat) "DoorSchool$Rules" "deeds" "[I" "DoorSchool"), (Jvm.Cond.lays "DoorSchool$Rules" "DoorSchool$Rules" "knocks" "I"), (Jvm.Cond.soleField "DoorSchool$Rules" "knocks"), (Jvm.Cond.lays "DoorSchool$Rules" "DoorSchool$Rules" "size" "I"), (Jvm.Cond.soleField "DoorSchool$Rules" "size")]
def bk_1_6 : List Cond := [(Jvm.Cond.laysFinal "DoorSchool$Rules" "DoorSchool$Rules" "signs" "[I"), (Jvm.Cond.soleField "DoorSchool$Rules" "signs"), (Jvm.Cond.laysFinal "DoorSchool$Rules" "DoorSchool$Rules" "there" "[I"), (Jvm.Cond.soleField "DoorSchool$Rules" "there"), (Jvm.Cond.laysFinal "DoorSchool$Rules" "DoorSchool$Rules" "deeds" "[I"), (Jvm.Cond.soleField "DoorSchool$Rules" "deeds"), (Jvm.Cond.superclass "DoorSchool$Rules" "java/lang/Object"), (Jvm.Cond.arrayClass Jvm.ClassFile.FieldType.int), (Jvm.Cond.classLink "DoorSchool" (32 : Nat) "DoorSchool$Learner"), (Jvm.Cond.instantiable "DoorSchool$Learner" (2 : Nat)), (Jvm.Cond.methodLinkNest "DoorSchool" (34 : Nat) ({ cls := "DoorSchool$Learner", name := "<init>", desc := "(LDoorSchool$Rules;)V" } : Jvm.MethodName) "DoorSchool"), (Jvm.Cond.instanceMethod ({ cls := "DoorSchool$Learner", name := "<init>", desc := "(LDoorSchool$Rules;)V" } : Jvm.MethodName)), (Jvm.Cond.code ({ cls := "DoorSchool$Learner", name := "<init>", desc := "(LDoorSchool$Rules;)V" } : Jvm.MethodName) prog_4_method_1_code (4 : Nat) (Option.none : Option Jvm.ClassFile.FieldType)), (Jvm.Cond.methodLink "DoorSchool$Learner" (3 : Nat) ({ cls := "java/lang/Object", name := "<init>", desc := "()V" } : Jvm.MethodName)), (Jvm.Cond.methodLink "DoorSchool$Learner" (19 : Nat) ({ cls := "java/lang/Integer", name := "bitCount", desc := "(I)I" } : Jvm.MethodName)), (Jvm.Cond.static ({ cls := "java/lang/Integer", name := "bitCount", desc := "(I)I" } : Jvm.MethodName))]
def bk_1_7 : List Cond := [(Jvm.Cond.code ({ cls := "java/lang/Integer", name := "bitCount", desc := "(I)I" } : Jvm.MethodName) prog_14_method_49_code (1 : Nat) (Option.some Jvm.ClassFile.FieldType.int)), (Jvm.Cond.constant "java/lang/Integer" (265 : Nat) (1431655765 : Int32)), (Jvm.Cond.constant "java/lang/Integer" (266 : Nat) (858993459 : Int32)), (Jvm.Cond.constant "java/lang/Integer" (267 : Nat) (252645135 : Int32)), (Jvm.Cond.fieldLink "DoorSchool$Learner" (15 : Nat) "DoorSchool$Learner" "rules" "LDoorSchool$Rules;"), (Jvm.Cond.fieldLink "DoorSchool$Learner" (11 : Nat) "DoorSchool$Learner" "apart" "[I"), (Jvm.Cond.laysFinal "DoorSchool$Learner" "DoorSchool$Learner" "rules" "LDoorSchool$Rules;"), (Jvm.Cond.soleField "DoorSchool$Learner" "rules"), (Jvm.Cond.laysFinal "DoorSchool$Learner" "DoorSchool$Learner" "apart" "[I"), (Jvm.Cond.soleField "DoorSchool$Learner" "apart"), (Jvm.Cond.superclass "DoorSchool$Learner" "java/lang/Object"), (Jvm.Cond.classLink "DoorSchool" (41 : Nat) "DoorSchool$Hanging"), (Jvm.Cond.instantiable "DoorSchool$Hanging" (6 : Nat)), (Jvm.Cond.methodLinkNest "DoorSchool" (43 : Nat) ({ cls := "DoorSchool$Hanging", name := "<init>", desc := "()V" } : Jvm.MethodName) "DoorSchool"), (Jvm.Cond.instanceMethod ({ cls := "DoorSchool$Hanging", name := "<init>", desc := "()V" } : Jvm.MethodName)), (Jvm.Cond.code ({ cls := "DoorSchool$Hanging", name := "<init>", desc := "()V" } : Jvm.MethodName) prog_3_method_1_code (1 : Nat) (Option.none : Option Jvm.ClassFile.FieldType))]
def bk_1_8 : List Cond := [(Jvm.Cond.methodLink "DoorSchool$Hanging" (3 : Nat) ({ cls := "java/lang/Object", name := "<init>", desc := "()V" } : Jvm.MethodName)), (Jvm.Cond.fieldLink "DoorSchool$Hanging" (9 : Nat) "DoorSchool$Hanging" "amiss" "[I"), (Jvm.Cond.fieldLinkNest "DoorSchool" (401 : Nat) "DoorSchool$Hanging" "amiss" "[I" "DoorSchool"), (Jvm.Cond.fieldLink "DoorSchool$Hanging" (15 : Nat) "DoorSchool$Hanging" "row" "[I"), (Jvm.Cond.fieldLink "DoorSchool$Hanging" (18 : Nat) "DoorSchool$Hanging" "firstRow" "[I"), (Jvm.Cond.fieldLinkNest "DoorSchool" (316 : Nat) "DoorSchool$Hanging" "firstRow" "[I" "DoorSchool"), (Jvm.Cond.fieldLink "DoorSchool$Hanging" (21 : Nat) "DoorSchool$Hanging" "doorCount" "I"), (Jvm.Cond.fieldLink "DoorSchool$Hanging" (25 : Nat) "DoorSchool$Hanging" "houseCount" "I"), (Jvm.Cond.fieldLink "DoorSchool$Hanging" (28 : Nat) "DoorSchool$Hanging" "fewest" "I"), (Jvm.Cond.fieldLinkNest "DoorSchool" (313 : Nat) "DoorSchool$Hanging" "fewest" "I" "DoorSchool"), (Jvm.Cond.laysFinal "DoorSchool$Hanging" "DoorSchool$Hanging" "amiss" "[I"), (Jvm.Cond.soleField "DoorSchool$Hanging" "amiss"), (Jvm.Cond.laysFinal "DoorSchool$Hanging" "DoorSchool$Hanging" "row" "[I"), (Jvm.Cond.soleField "DoorSchool$Hanging" "row"), (Jvm.Cond.laysFinal "DoorSchool$Hanging" "DoorSchool$Hanging" "firstRow" "[I"), (Jvm.Cond.soleField "DoorSchool$Hanging" "firstRow")]
def bk_1_9 : List Cond := [(Jvm.Cond.lays "DoorSchool$Hanging" "DoorSchool$Hanging" "doorCount" "I"), (Jvm.Cond.soleField "DoorSchool$Hanging" "doorCount"), (Jvm.Cond.lays "DoorSchool$Hanging" "DoorSchool$Hanging" "houseCount" "I"), (Jvm.Cond.soleField "DoorSchool$Hanging" "houseCount"), (Jvm.Cond.lays "DoorSchool$Hanging" "DoorSchool$Hanging" "fewest" "I"), (Jvm.Cond.soleField "DoorSchool$Hanging" "fewest"), (Jvm.Cond.superclass "DoorSchool$Hanging" "java/lang/Object"), (Jvm.Cond.classLink "DoorSchool" (48 : Nat) "DoorSchool$Timetable"), (Jvm.Cond.instantiable "DoorSchool$Timetable" (5 : Nat)), (Jvm.Cond.methodLinkNest "DoorSchool" (50 : Nat) ({ cls := "DoorSchool$Timetable", name := "<init>", desc := "()V" } : Jvm.MethodName) "DoorSchool"), (Jvm.Cond.instanceMethod ({ cls := "DoorSchool$Timetable", name := "<init>", desc := "()V" } : Jvm.MethodName)), (Jvm.Cond.code ({ cls := "DoorSchool$Timetable", name := "<init>", desc := "()V" } : Jvm.MethodName) prog_11_method_1_code (1 : Nat) (Option.none : Option Jvm.ClassFile.FieldType)), (Jvm.Cond.methodLink "DoorSchool$Timetable" (3 : Nat) ({ cls := "java/lang/Object", name := "<init>", desc := "()V" } : Jvm.MethodName)), (Jvm.Cond.fieldLink "DoorSchool$Timetable" (11 : Nat) "DoorSchool$Timetable" "busy" "[I"), (Jvm.Cond.fieldLink "DoorSchool$Timetable" (15 : Nat) "DoorSchool$Timetable" "begins" "[I"), (Jvm.Cond.fieldLink "DoorSchool$Timetable" (18 : Nat) "DoorSchool$Timetable" "firstBegins" "[I")]
def bk_1_10 : List Cond := [(Jvm.Cond.fieldLinkNest "DoorSchool" (347 : Nat) "DoorSchool$Timetable" "firstBegins" "[I" "DoorSchool"), (Jvm.Cond.fieldLink "DoorSchool$Timetable" (21 : Nat) "DoorSchool$Timetable" "teachers" "I"), (Jvm.Cond.fieldLink "DoorSchool$Timetable" (25 : Nat) "DoorSchool$Timetable" "soonest" "I"), (Jvm.Cond.laysFinal "DoorSchool$Timetable" "DoorSchool$Timetable" "busy" "[I"), (Jvm.Cond.soleField "DoorSchool$Timetable" "busy"), (Jvm.Cond.laysFinal "DoorSchool$Timetable" "DoorSchool$Timetable" "begins" "[I"), (Jvm.Cond.soleField "DoorSchool$Timetable" "begins"), (Jvm.Cond.laysFinal "DoorSchool$Timetable" "DoorSchool$Timetable" "firstBegins" "[I"), (Jvm.Cond.soleField "DoorSchool$Timetable" "firstBegins"), (Jvm.Cond.lays "DoorSchool$Timetable" "DoorSchool$Timetable" "teachers" "I"), (Jvm.Cond.soleField "DoorSchool$Timetable" "teachers"), (Jvm.Cond.lays "DoorSchool$Timetable" "DoorSchool$Timetable" "soonest" "I"), (Jvm.Cond.soleField "DoorSchool$Timetable" "soonest"), (Jvm.Cond.superclass "DoorSchool$Timetable" "java/lang/Object"), (Jvm.Cond.classLink "DoorSchool" (55 : Nat) "DoorSchool$Plan"), (Jvm.Cond.instantiable "DoorSchool$Plan" (16 : Nat))]
def bk_1_11 : List Cond := [(Jvm.Cond.methodLinkNest "DoorSchool" (57 : Nat) ({ cls := "DoorSchool$Plan", name := "<init>", desc := "()V" } : Jvm.MethodName) "DoorSchool"), (Jvm.Cond.instanceMethod ({ cls := "DoorSchool$Plan", name := "<init>", desc := "()V" } : Jvm.MethodName)), (Jvm.Cond.code ({ cls := "DoorSchool$Plan", name := "<init>", desc := "()V" } : Jvm.MethodName) prog_6_method_1_code (2 : Nat) (Option.none : Option Jvm.ClassFile.FieldType)), (Jvm.Cond.methodLink "DoorSchool$Plan" (3 : Nat) ({ cls := "java/lang/Object", name := "<init>", desc := "()V" } : Jvm.MethodName)), (Jvm.Cond.classLink "DoorSchool$Plan" (9 : Nat) "DoorSchool$Door"), (Jvm.Cond.arrayOver (Jvm.ClassFile.FieldType.object "DoorSchool$Door")), (Jvm.Cond.classLink "DoorSchool$Plan" (17 : Nat) "DoorSchool$Lessons"), (Jvm.Cond.instantiable "DoorSchool$Lessons" (3 : Nat)), (Jvm.Cond.methodLinkNest "DoorSchool$Plan" (19 : Nat) ({ cls := "DoorSchool$Lessons", name := "<init>", desc := "()V" } : Jvm.MethodName) "DoorSchool"), (Jvm.Cond.instanceMethod ({ cls := "DoorSchool$Lessons", name := "<init>", desc := "()V" } : Jvm.MethodName)), (Jvm.Cond.code ({ cls := "DoorSchool$Lessons", name := "<init>", desc := "()V" } : Jvm.MethodName) prog_5_method_1_code (1 : Nat) (Option.none : Option Jvm.ClassFile.FieldType)), (Jvm.Cond.methodLink "DoorSchool$Lessons" (3 : Nat) ({ cls := "java/lang/Object", name := "<init>", desc := "()V" } : Jvm.MethodName)), (Jvm.Cond.fieldLink "DoorSchool$Lessons" (11 : Nat) "DoorSchool$Lessons" "knocks" "[I"), (Jvm.Cond.fieldLinkNest "DoorSchool" (136 : Nat) "DoorSchool$Lessons" "knocks" "[I" "DoorSchool"), (Jvm.Cond.fieldLink "DoorSchool$Lessons" (15 : Nat) "DoorSchool$Lessons" "opens" "[I"), (Jvm.Cond.fieldLinkNest "DoorSchool$Learner" (49 : Nat) "DoorSchool$Lessons" "opens" "[I" "DoorSchool")]
def bk_1_12 : List Cond := [(Jvm.Cond.fieldLinkNest "DoorSchool" (140 : Nat) "DoorSchool$Lessons" "opens" "[I" "DoorSchool"), (Jvm.Cond.fieldLink "DoorSchool$Lessons" (18 : Nat) "DoorSchool$Lessons" "size" "I"), (Jvm.Cond.fieldLinkNest "DoorSchool$Door" (28 : Nat) "DoorSchool$Lessons" "size" "I" "DoorSchool"), (Jvm.Cond.fieldLinkNest "DoorSchool$Plan" (54 : Nat) "DoorSchool$Lessons" "size" "I" "DoorSchool"), (Jvm.Cond.fieldLinkNest "DoorSchool$Reader" (135 : Nat) "DoorSchool$Lessons" "size" "I" "DoorSchool"), (Jvm.Cond.fieldLinkNest "DoorSchool" (127 : Nat) "DoorSchool$Lessons" "size" "I" "DoorSchool"), (Jvm.Cond.laysFinal "DoorSchool$Lessons" "DoorSchool$Lessons" "knocks" "[I"), (Jvm.Cond.soleField "DoorSchool$Lessons" "knocks"), (Jvm.Cond.laysFinal "DoorSchool$Lessons" "DoorSchool$Lessons" "opens" "[I"), (Jvm.Cond.soleField "DoorSchool$Lessons" "opens"), (Jvm.Cond.lays "DoorSchool$Lessons" "DoorSchool$Lessons" "size" "I"), (Jvm.Cond.soleField "DoorSchool$Lessons" "size"), (Jvm.Cond.superclass "DoorSchool$Lessons" "java/lang/Object"), (Jvm.Cond.instantiable "DoorSchool$Door" (4 : Nat)), (Jvm.Cond.methodLinkNest "DoorSchool$Plan" (40 : Nat) ({ cls := "DoorSchool$Door", name := "<init>", desc := "()V" } : Jvm.MethodName) "DoorSchool"), (Jvm.Cond.instanceMethod ({ cls := "DoorSchool$Door", name := "<init>", desc := "()V" } : Jvm.MethodName))]
def bk_1_13 : List Cond := [(Jvm.Cond.code ({ cls := "DoorSchool$Door", name := "<init>", desc := "()V" } : Jvm.MethodName) prog_2_method_1_code (1 : Nat) (Option.none : Option Jvm.ClassFile.FieldType)), (Jvm.Cond.methodLink "DoorSchool$Door" (3 : Nat) ({ cls := "java/lang/Object", name := "<init>", desc := "()V" } : Jvm.MethodName)), (Jvm.Cond.classLink "DoorSchool$Door" (9 : Nat) "DoorSchool$Lessons"), (Jvm.Cond.methodLinkNest "DoorSchool$Door" (11 : Nat) ({ cls := "DoorSchool$Lessons", name := "<init>", desc := "()V" } : Jvm.MethodName) "DoorSchool"), (Jvm.Cond.fieldLink "DoorSchool$Door" (12 : Nat) "DoorSchool$Door" "lessons" "LDoorSchool$Lessons;"), (Jvm.Cond.fieldLinkNest "DoorSchool$Reader" (131 : Nat) "DoorSchool$Door" "lessons" "LDoorSchool$Lessons;" "DoorSchool"), (Jvm.Cond.fieldLinkNest "DoorSchool" (123 : Nat) "DoorSchool$Door" "lessons" "LDoorSchool$Lessons;" "DoorSchool"), (Jvm.Cond.fieldLink "DoorSchool$Door" (22 : Nat) "DoorSchool$Door" "way" "I"), (Jvm.Cond.fieldLinkNest "DoorSchool" (115 : Nat) "DoorSchool$Door" "way" "I" "DoorSchool"), (Jvm.Cond.fieldLink "DoorSchool$Door" (25 : Nat) "DoorSchool$Door" "slips" "I"), (Jvm.Cond.fieldLinkNest "DoorSchool" (120 : Nat) "DoorSchool$Door" "slips" "I" "DoorSchool"), (Jvm.Cond.fieldLink "DoorSchool$Door" (18 : Nat) "DoorSchool$Door" "copies" "I"), (Jvm.Cond.fieldLinkNest "DoorSchool" (130 : Nat) "DoorSchool$Door" "copies" "I" "DoorSchool"), (Jvm.Cond.fieldLinkNest "DoorSchool$Reader" (157 : Nat) "DoorSchool$Door" "copies" "I" "DoorSchool"), (Jvm.Cond.fieldLinkNest "DoorSchool$Plan" (103 : Nat) "DoorSchool$Door" "copies" "I" "DoorSchool"), (Jvm.Cond.laysFinal "DoorSchool$Door" "DoorSchool$Door" "lessons" "LDoorSchool$Lessons;")]
def bk_1_14 : List Cond := [(Jvm.Cond.soleField "DoorSchool$Door" "lessons"), (Jvm.Cond.lays "DoorSchool$Door" "DoorSchool$Door" "way" "I"), (Jvm.Cond.soleField "DoorSchool$Door" "way"), (Jvm.Cond.lays "DoorSchool$Door" "DoorSchool$Door" "slips" "I"), (Jvm.Cond.soleField "DoorSchool$Door" "slips"), (Jvm.Cond.lays "DoorSchool$Door" "DoorSchool$Door" "copies" "I"), (Jvm.Cond.soleField "DoorSchool$Door" "copies"), (Jvm.Cond.superclass "DoorSchool$Door" "java/lang/Object"), (Jvm.Cond.fieldLink "DoorSchool$Plan" (41 : Nat) "DoorSchool$Plan" "lines" "I"), (Jvm.Cond.fieldLinkNest "DoorSchool$Reader" (92 : Nat) "DoorSchool$Plan" "lines" "I" "DoorSchool"), (Jvm.Cond.fieldLinkNest "DoorSchool" (101 : Nat) "DoorSchool$Plan" "lines" "I" "DoorSchool"), (Jvm.Cond.fieldLink "DoorSchool$Plan" (45 : Nat) "DoorSchool$Plan" "signs" "I"), (Jvm.Cond.fieldLinkNest "DoorSchool$Reader" (103 : Nat) "DoorSchool$Plan" "signs" "I" "DoorSchool"), (Jvm.Cond.fieldLinkNest "DoorSchool" (95 : Nat) "DoorSchool$Plan" "signs" "I" "DoorSchool"), (Jvm.Cond.fieldLink "DoorSchool$Plan" (48 : Nat) "DoorSchool$Plan" "teachers" "I"), (Jvm.Cond.fieldLinkNest "DoorSchool$Reader" (107 : Nat) "DoorSchool$Plan" "teachers" "I" "DoorSchool")]
set_option maxRecDepth 20000 in
theorem ct_1 : tables_1_1 = bk_1_0 ++ (bk_1_1 ++ (bk_1_2 ++ (bk_1_3 ++ (bk_1_4 ++ (bk_1_5 ++ (bk_1_6 ++ (bk_1_7 ++ (bk_1_8 ++ (bk_1_9 ++ (bk_1_10 ++ (bk_1_11 ++ (bk_1_12 ++ (bk_1_13 ++ (bk_1_14)))))))))))))) := rfl
theorem bt_1_0 {w : Cond} (h : w ∈ bk_1_0) : w ∈ tables_1_1 := by rw [ct_1]; exact (List.mem_append_left _ h)
theorem bt_1_1 {w : Cond} (h : w ∈ bk_1_1) : w ∈ tables_1_1 := by rw [ct_1]; exact (List.mem_append_right _ (List.mem_append_left _ h))
theorem bt_1_2 {w : Cond} (h : w ∈ bk_1_2) : w ∈ tables_1_1 := by rw [ct_1]; exact (List.mem_append_right _ (List.mem_append_right _ (List.mem_append_left _ h)))
theorem bt_1_3 {w : Cond} (h : w ∈ bk_1_3) : w ∈ tables_1_1 := by rw [ct_1]; exact (List.mem_append_right _ (List.mem_append_right _ (List.mem_append_right _ (List.mem_append_left _ h))))
theorem bt_1_4 {w : Cond} (h : w ∈ bk_1_4) : w ∈ tables_1_1 := by rw [ct_1]; exact (List.mem_append_right _ (List.mem_append_right _ (List.mem_append_right _ (List.mem_append_right _ (List.mem_append_left _ h)))))
theorem bt_1_5 {w : Cond} (h : w ∈ bk_1_5) : w ∈ tables_1_1 := by rw [ct_1]; exact (List.mem_append_right _ (List.mem_append_right _ (List.mem_append_right _ (List.mem_append_right _ (List.mem_append_right _ (List.mem_append_left _ h))))))
theorem bt_1_6 {w : Cond} (h : w ∈ bk_1_6) : w ∈ tables_1_1 := by rw [ct_1]; exact (List.mem_append_right _ (List.mem_append_right _ (List.mem_append_right _ (List.mem_append_right _ (List.mem_append_right _ (List.mem_append_right _ (List.mem_append_left _ h)))))))
theorem bt_1_7 {w : Cond} (h : w ∈ bk_1_7) : w ∈ tables_1_1 := by rw [ct_1]; exact (List.mem_append_right _ (List.mem_append_right _ (List.mem_append_right _ (List.mem_append_right _ (List.mem_append_right _ (List.mem_append_right _ (List.mem_append_right _ (List.mem_append_left _ h))))))))
theorem bt_1_8 {w : Cond} (h : w ∈ bk_1_8) : w ∈ tables_1_1 := by rw [ct_1]; exact (List.mem_append_right _ (List.mem_append_right _ (List.mem_append_right _ (List.mem_append_right _ (List.mem_append_right _ (List.mem_append_right _ (List.mem_append_right _ (List.mem_append_right _ (List.mem_append_left _ h)))))))))
theorem bt_1_9 {w : Cond} (h : w ∈ bk_1_9) : w ∈ tables_1_1 := by rw [ct_1]; exact (List.mem_append_right _ (List.mem_append_right _ (List.mem_append_right _ (List.mem_append_right _ (List.mem_append_right _ (List.mem_append_right _ (List.mem_append_right _ (List.mem_append_right _ (List.mem_append_right _ (List.mem_append_left _ h))))))))))
theorem bt_1_10 {w : Cond} (h : w ∈ bk_1_10) : w ∈ tables_1_1 := by rw [ct_1]; exact (List.mem_append_right _ (List.mem_append_right _ (List.mem_append_right _ (List.mem_append_right _ (List.mem_append_right _ (List.mem_append_right _ (List.mem_append_right _ (List.mem_append_right _ (List.mem_append_right _ (List.mem_append_right _ (List.mem_append_left _ h)))))))))))
theorem bt_1_11 {w : Cond} (h : w ∈ bk_1_11) : w ∈ tables_1_1 := by rw [ct_1]; exact (List.mem_append_right _ (List.mem_append_right _ (List.mem_append_right _ (List.mem_append_right _ (List.mem_append_right _ (List.mem_append_right _ (List.mem_append_right _ (List.mem_append_right _ (List.mem_append_right _ (List.mem_append_right _ (List.mem_append_right _ (List.mem_append_left _ h))))))))))))
theorem bt_1_12 {w : Cond} (h : w ∈ bk_1_12) : w ∈ tables_1_1 := by rw [ct_1]; exact (List.mem_append_right _ (List.mem_append_right _ (List.mem_append_right _ (List.mem_append_right _ (List.mem_append_right _ (List.mem_append_right _ (List.mem_append_right _ (List.mem_append_right _ (List.mem_append_right _ (List.mem_append_right _ (List.mem_append_right _ (List.mem_append_right _ (List.mem_append_left _ h)))))))))))))
theorem bt_1_13 {w : Cond} (h : w ∈ bk_1_13) : w ∈ tables_1_1 := by rw [ct_1]; exact (List.mem_append_right _ (List.mem_append_right _ (List.mem_append_right _ (List.mem_append_right _ (List.mem_append_right _ (List.mem_append_right _ (List.mem_append_right _ (List.mem_append_right _ (List.mem_append_right _ (List.mem_append_right _ (List.mem_append_right _ (List.mem_append_right _ (List.mem_append_right _ (List.mem_append_left _ h))))))))))))))
theorem bt_1_14 {w : Cond} (h : w ∈ bk_1_14) : w ∈ tables_1_1 := by rw [ct_1]; exact (List.mem_append_right _ (List.mem_append_right _ (List.mem_append_right _ (List.mem_append_right _ (List.mem_append_right _ (List.mem_append_right _ (List.mem_append_right _ (List.mem_append_right _ (List.mem_append_right _ (List.mem_append_right _ (List.mem_append_right _ (List.mem_append_right _ (List.mem_append_right _ (List.mem_append_right _ h))))))))))))))
def bk_2_0 : List Cond := [(Jvm.Cond.fieldLinkNest "DoorSchool" (337 : Nat) "DoorSchool$Plan" "teachers" "I" "DoorSchool"), (Jvm.Cond.fieldLink "DoorSchool$Plan" (51 : Nat) "DoorSchool$Plan" "doorCount" "I"), (Jvm.Cond.fieldLinkNest "DoorSchool$Reader" (109 : Nat) "DoorSchool$Plan" "doorCount" "I" "DoorSchool"), (Jvm.Cond.fieldLinkNest "DoorSchool" (224 : Nat) "DoorSchool$Plan" "doorCount" "I" "DoorSchool"), (Jvm.Cond.fieldLink "DoorSchool$Plan" (11 : Nat) "DoorSchool$Plan" "doors" "[LDoorSchool$Door;"), (Jvm.Cond.fieldLinkNest "DoorSchool$Reader" (118 : Nat) "DoorSchool$Plan" "doors" "[LDoorSchool$Door;" "DoorSchool"), (Jvm.Cond.fieldLinkNest "DoorSchool" (111 : Nat) "DoorSchool$Plan" "doors" "[LDoorSchool$Door;" "DoorSchool"), (Jvm.Cond.fieldLink "DoorSchool$Plan" (20 : Nat) "DoorSchool$Plan" "exams" "LDoorSchool$Lessons;"), (Jvm.Cond.fieldLinkNest "DoorSchool$Reader" (144 : Nat) "DoorSchool$Plan" "exams" "LDoorSchool$Lessons;" "DoorSchool"), (Jvm.Cond.fieldLinkNest "DoorSchool" (143 : Nat) "DoorSchool$Plan" "exams" "LDoorSchool$Lessons;" "DoorSchool"), (Jvm.Cond.fieldLink "DoorSchool$Plan" (57 : Nat) "DoorSchool$Plan" "ownerSigns" "I"), (Jvm.Cond.fieldLinkNest "DoorSchool$Reader" (168 : Nat) "DoorSchool$Plan" "ownerSigns" "I" "DoorSchool"), (Jvm.Cond.fieldLinkNest "DoorSchool" (153 : Nat) "DoorSchool$Plan" "ownerSigns" "I" "DoorSchool"), (Jvm.Cond.fieldLink "DoorSchool$Plan" (60 : Nat) "DoorSchool$Plan" "ownerThere" "I"), (Jvm.Cond.fieldLinkNest "DoorSchool$Reader" (171 : Nat) "DoorSchool$Plan" "ownerThere" "I" "DoorSchool"), (Jvm.Cond.fieldLinkNest "DoorSchool" (159 : Nat) "DoorSchool$Plan" "ownerThere" "I" "DoorSchool")]
def bk_2_1 : List Cond := [(Jvm.Cond.fieldLink "DoorSchool$Plan" (63 : Nat) "DoorSchool$Plan" "houseCount" "I"), (Jvm.Cond.fieldLinkNest "DoorSchool$Reader" (174 : Nat) "DoorSchool$Plan" "houseCount" "I" "DoorSchool"), (Jvm.Cond.fieldLinkNest "DoorSchool" (356 : Nat) "DoorSchool$Plan" "houseCount" "I" "DoorSchool"), (Jvm.Cond.fieldLink "DoorSchool$Plan" (24 : Nat) "DoorSchool$Plan" "houseSigns" "[I"), (Jvm.Cond.fieldLinkNest "DoorSchool" (156 : Nat) "DoorSchool$Plan" "houseSigns" "[I" "DoorSchool"), (Jvm.Cond.fieldLinkNest "DoorSchool$Reader" (177 : Nat) "DoorSchool$Plan" "houseSigns" "[I" "DoorSchool"), (Jvm.Cond.fieldLink "DoorSchool$Plan" (28 : Nat) "DoorSchool$Plan" "houseThere" "[I"), (Jvm.Cond.fieldLinkNest "DoorSchool" (162 : Nat) "DoorSchool$Plan" "houseThere" "[I" "DoorSchool"), (Jvm.Cond.fieldLinkNest "DoorSchool$Reader" (181 : Nat) "DoorSchool$Plan" "houseThere" "[I" "DoorSchool"), (Jvm.Cond.fieldLink "DoorSchool$Plan" (66 : Nat) "DoorSchool$Plan" "courseCount" "I"), (Jvm.Cond.fieldLinkNest "DoorSchool$Timetable" (38 : Nat) "DoorSchool$Plan" "courseCount" "I" "DoorSchool"), (Jvm.Cond.fieldLinkNest "DoorSchool$Reader" (184 : Nat) "DoorSchool$Plan" "courseCount" "I" "DoorSchool"), (Jvm.Cond.fieldLinkNest "DoorSchool" (344 : Nat) "DoorSchool$Plan" "courseCount" "I" "DoorSchool"), (Jvm.Cond.fieldLink "DoorSchool$Plan" (31 : Nat) "DoorSchool$Plan" "takes" "[I"), (Jvm.Cond.fieldLinkNest "DoorSchool$Timetable" (58 : Nat) "DoorSchool$Plan" "takes" "[I" "DoorSchool"), (Jvm.Cond.fieldLinkNest "DoorSchool$Reader" (189 : Nat) "DoorSchool$Plan" "takes" "[I" "DoorSchool")]
def bk_2_2 : List Cond := [(Jvm.Cond.fieldLink "DoorSchool$Plan" (34 : Nat) "DoorSchool$Plan" "ahead" "[I"), (Jvm.Cond.fieldLinkNest "DoorSchool$Timetable" (51 : Nat) "DoorSchool$Plan" "ahead" "[I" "DoorSchool"), (Jvm.Cond.fieldLinkNest "DoorSchool$Reader" (191 : Nat) "DoorSchool$Plan" "ahead" "[I" "DoorSchool"), (Jvm.Cond.fieldLink "DoorSchool$Plan" (75 : Nat) "DoorSchool$Plan" "taught" "I"), (Jvm.Cond.fieldLinkNest "DoorSchool" (234 : Nat) "DoorSchool$Plan" "taught" "I" "DoorSchool"), (Jvm.Cond.fieldLink "DoorSchool$Plan" (37 : Nat) "DoorSchool$Plan" "taughtDoors" "[I"), (Jvm.Cond.fieldLinkNest "DoorSchool" (241 : Nat) "DoorSchool$Plan" "taughtDoors" "[I" "DoorSchool"), (Jvm.Cond.lays "DoorSchool$Plan" "DoorSchool$Plan" "lines" "I"), (Jvm.Cond.soleField "DoorSchool$Plan" "lines"), (Jvm.Cond.lays "DoorSchool$Plan" "DoorSchool$Plan" "signs" "I"), (Jvm.Cond.soleField "DoorSchool$Plan" "signs"), (Jvm.Cond.lays "DoorSchool$Plan" "DoorSchool$Plan" "teachers" "I"), (Jvm.Cond.soleField "DoorSchool$Plan" "teachers"), (Jvm.Cond.lays "DoorSchool$Plan" "DoorSchool$Plan" "doorCount" "I"), (Jvm.Cond.soleField "DoorSchool$Plan" "doorCount"), (Jvm.Cond.laysFinal "DoorSchool$Plan" "DoorSchool$Plan" "doors" "[LDoorSchool$Door;")]
def bk_2_3 : List Cond := [(Jvm.Cond.soleField "DoorSchool$Plan" "doors"), (Jvm.Cond.laysFinal "DoorSchool$Plan" "DoorSchool$Plan" "exams" "LDoorSchool$Lessons;"), (Jvm.Cond.soleField "DoorSchool$Plan" "exams"), (Jvm.Cond.lays "DoorSchool$Plan" "DoorSchool$Plan" "ownerSigns" "I"), (Jvm.Cond.soleField "DoorSchool$Plan" "ownerSigns"), (Jvm.Cond.lays "DoorSchool$Plan" "DoorSchool$Plan" "ownerThere" "I"), (Jvm.Cond.soleField "DoorSchool$Plan" "ownerThere"), (Jvm.Cond.lays "DoorSchool$Plan" "DoorSchool$Plan" "houseCount" "I"), (Jvm.Cond.soleField "DoorSchool$Plan" "houseCount"), (Jvm.Cond.laysFinal "DoorSchool$Plan" "DoorSchool$Plan" "houseSigns" "[I"), (Jvm.Cond.soleField "DoorSchool$Plan" "houseSigns"), (Jvm.Cond.laysFinal "DoorSchool$Plan" "DoorSchool$Plan" "houseThere" "[I"), (Jvm.Cond.soleField "DoorSchool$Plan" "houseThere"), (Jvm.Cond.lays "DoorSchool$Plan" "DoorSchool$Plan" "courseCount" "I"), (Jvm.Cond.soleField "DoorSchool$Plan" "courseCount"), (Jvm.Cond.laysFinal "DoorSchool$Plan" "DoorSchool$Plan" "takes" "[I")]
def bk_2_4 : List Cond := [(Jvm.Cond.soleField "DoorSchool$Plan" "takes"), (Jvm.Cond.laysFinal "DoorSchool$Plan" "DoorSchool$Plan" "ahead" "[I"), (Jvm.Cond.soleField "DoorSchool$Plan" "ahead"), (Jvm.Cond.lays "DoorSchool$Plan" "DoorSchool$Plan" "taught" "I"), (Jvm.Cond.soleField "DoorSchool$Plan" "taught"), (Jvm.Cond.laysFinal "DoorSchool$Plan" "DoorSchool$Plan" "taughtDoors" "[I"), (Jvm.Cond.soleField "DoorSchool$Plan" "taughtDoors"), (Jvm.Cond.superclass "DoorSchool$Plan" "java/lang/Object"), (Jvm.Cond.arrayOver (Jvm.ClassFile.FieldType.object "DoorSchool$Plan")), (Jvm.Cond.classLink "DoorSchool" (73 : Nat) "DoorSchool$Slot"), (Jvm.Cond.arrayOver (Jvm.ClassFile.FieldType.object "DoorSchool$Slot")), (Jvm.Cond.instantiable "DoorSchool$Slot" (4 : Nat)), (Jvm.Cond.methodLinkNest "DoorSchool" (79 : Nat) ({ cls := "DoorSchool$Slot", name := "<init>", desc := "()V" } : Jvm.MethodName) "DoorSchool"), (Jvm.Cond.instanceMethod ({ cls := "DoorSchool$Slot", name := "<init>", desc := "()V" } : Jvm.MethodName)), (Jvm.Cond.code ({ cls := "DoorSchool$Slot", name := "<init>", desc := "()V" } : Jvm.MethodName) prog_9_method_1_code (1 : Nat) (Option.none : Option Jvm.ClassFile.FieldType)), (Jvm.Cond.methodLink "DoorSchool$Slot" (3 : Nat) ({ cls := "java/lang/Object", name := "<init>", desc := "()V" } : Jvm.MethodName))]
def bk_2_5 : List Cond := [(Jvm.Cond.fieldLink "DoorSchool$Slot" (9 : Nat) "DoorSchool$Slot" "numbers" "[J"), (Jvm.Cond.fieldLinkNest "DoorSchool" (386 : Nat) "DoorSchool$Slot" "numbers" "[J" "DoorSchool"), (Jvm.Cond.fieldLink "DoorSchool$Slot" (15 : Nat) "DoorSchool$Slot" "full" "Z"), (Jvm.Cond.fieldLinkNest "DoorSchool" (371 : Nat) "DoorSchool$Slot" "full" "Z" "DoorSchool"), (Jvm.Cond.fieldLink "DoorSchool$Slot" (19 : Nat) "DoorSchool$Slot" "width" "I"), (Jvm.Cond.fieldLinkNest "DoorSchool" (380 : Nat) "DoorSchool$Slot" "width" "I" "DoorSchool"), (Jvm.Cond.fieldLink "DoorSchool$Slot" (23 : Nat) "DoorSchool$Slot" "size" "I"), (Jvm.Cond.fieldLinkNest "DoorSchool" (375 : Nat) "DoorSchool$Slot" "size" "I" "DoorSchool"), (Jvm.Cond.laysFinal "DoorSchool$Slot" "DoorSchool$Slot" "numbers" "[J"), (Jvm.Cond.soleField "DoorSchool$Slot" "numbers"), (Jvm.Cond.lays "DoorSchool$Slot" "DoorSchool$Slot" "full" "Z"), (Jvm.Cond.soleField "DoorSchool$Slot" "full"), (Jvm.Cond.lays "DoorSchool$Slot" "DoorSchool$Slot" "width" "I"), (Jvm.Cond.soleField "DoorSchool$Slot" "width"), (Jvm.Cond.lays "DoorSchool$Slot" "DoorSchool$Slot" "size" "I"), (Jvm.Cond.soleField "DoorSchool$Slot" "size")]
def bk_2_6 : List Cond := [(Jvm.Cond.superclass "DoorSchool$Slot" "java/lang/Object"), (Jvm.Cond.arrayClass Jvm.ClassFile.FieldType.boolean), (Jvm.Cond.arrayClass Jvm.ClassFile.FieldType.long), (Jvm.Cond.fieldLink "DoorSchool" (10 : Nat) "DoorSchool" "tape" "LDoorSchool$Tape;"), (Jvm.Cond.fieldLink "DoorSchool" (21 : Nat) "DoorSchool" "reader" "LDoorSchool$Reader;"), (Jvm.Cond.fieldLink "DoorSchool" (28 : Nat) "DoorSchool" "rules" "LDoorSchool$Rules;"), (Jvm.Cond.fieldLink "DoorSchool" (37 : Nat) "DoorSchool" "learner" "LDoorSchool$Learner;"), (Jvm.Cond.fieldLink "DoorSchool" (44 : Nat) "DoorSchool" "hanging" "LDoorSchool$Hanging;"), (Jvm.Cond.fieldLink "DoorSchool" (51 : Nat) "DoorSchool" "timetable" "LDoorSchool$Timetable;"), (Jvm.Cond.fieldLink "DoorSchool" (75 : Nat) "DoorSchool" "slots" "[LDoorSchool$Slot;"), (Jvm.Cond.fieldLink "DoorSchool" (65 : Nat) "DoorSchool" "images" "[LDoorSchool$Plan;"), (Jvm.Cond.fieldLink "DoorSchool" (69 : Nat) "DoorSchool" "imaged" "[Z"), (Jvm.Cond.fieldLink "DoorSchool" (58 : Nat) "DoorSchool" "plan" "LDoorSchool$Plan;"), (Jvm.Cond.fieldLink "DoorSchool" (62 : Nat) "DoorSchool" "spare" "LDoorSchool$Plan;"), (Jvm.Cond.laysFinal "DoorSchool" "DoorSchool" "tape" "LDoorSchool$Tape;"), (Jvm.Cond.soleField "DoorSchool" "tape")]
def bk_2_7 : List Cond := [(Jvm.Cond.laysFinal "DoorSchool" "DoorSchool" "reader" "LDoorSchool$Reader;"), (Jvm.Cond.soleField "DoorSchool" "reader"), (Jvm.Cond.laysFinal "DoorSchool" "DoorSchool" "rules" "LDoorSchool$Rules;"), (Jvm.Cond.soleField "DoorSchool" "rules"), (Jvm.Cond.laysFinal "DoorSchool" "DoorSchool" "learner" "LDoorSchool$Learner;"), (Jvm.Cond.soleField "DoorSchool" "learner"), (Jvm.Cond.laysFinal "DoorSchool" "DoorSchool" "hanging" "LDoorSchool$Hanging;"), (Jvm.Cond.soleField "DoorSchool" "hanging"), (Jvm.Cond.laysFinal "DoorSchool" "DoorSchool" "timetable" "LDoorSchool$Timetable;"), (Jvm.Cond.soleField "DoorSchool" "timetable"), (Jvm.Cond.laysFinal "DoorSchool" "DoorSchool" "slots" "[LDoorSchool$Slot;"), (Jvm.Cond.soleField "DoorSchool" "slots"), (Jvm.Cond.laysFinal "DoorSchool" "DoorSchool" "images" "[LDoorSchool$Plan;"), (Jvm.Cond.soleField "DoorSchool" "images"), (Jvm.Cond.laysFinal "DoorSchool" "DoorSchool" "imaged" "[Z"), (Jvm.Cond.soleField "DoorSchool" "imaged")]
def bk_2_8 : List Cond := [(Jvm.Cond.lays "DoorSchool" "DoorSchool" "plan" "LDoorSchool$Plan;"), (Jvm.Cond.soleField "DoorSchool" "plan"), (Jvm.Cond.lays "DoorSchool" "DoorSchool" "spare" "LDoorSchool$Plan;"), (Jvm.Cond.soleField "DoorSchool" "spare"), (Jvm.Cond.superclass "DoorSchool" "java/lang/Object"), (Jvm.Cond.methodLink "DoorSchoolLaw" (13 : Nat) ({ cls := "DoorSchool", name := "feed", desc := "(IIIII)I" } : Jvm.MethodName)), (Jvm.Cond.instanceMethod ({ cls := "DoorSchool", name := "feed", desc := "(IIIII)I" } : Jvm.MethodName)), (Jvm.Cond.selects "DoorSchool" ({ cls := "DoorSchool", name := "feed", desc := "(IIIII)I" } : Jvm.MethodName) ({ cls := "DoorSchool", name := "feed", desc := "(IIIII)I" } : Jvm.MethodName)), (Jvm.Cond.code ({ cls := "DoorSchool", name := "feed", desc := "(IIIII)I" } : Jvm.MethodName) prog_1_method_2_code (6 : Nat) (Option.some Jvm.ClassFile.FieldType.int)), (Jvm.Cond.methodLinkNest "DoorSchool" (84 : Nat) ({ cls := "DoorSchool$Tape", name := "append", desc := "(I)V" } : Jvm.MethodName) "DoorSchool"), (Jvm.Cond.privateMethod ({ cls := "DoorSchool$Tape", name := "append", desc := "(I)V" } : Jvm.MethodName)), (Jvm.Cond.instanceMethod ({ cls := "DoorSchool$Tape", name := "append", desc := "(I)V" } : Jvm.MethodName)), (Jvm.Cond.code ({ cls := "DoorSchool$Tape", name := "append", desc := "(I)V" } : Jvm.MethodName) prog_10_method_2_code (3 : Nat) (Option.none : Option Jvm.ClassFile.FieldType)), (Jvm.Cond.methodLink "DoorSchoolLaw" (18 : Nat) ({ cls := "DoorSchool", name := "end", desc := "(I)I" } : Jvm.MethodName)), (Jvm.Cond.instanceMethod ({ cls := "DoorSchool", name := "end", desc := "(I)I" } : Jvm.MethodName)), (Jvm.Cond.selects "DoorSchool" ({ cls := "DoorSchool", name := "end", desc := "(I)I" } : Jvm.MethodName) ({ cls := "DoorSchool", name := "end", desc := "(I)I" } : Jvm.MethodName))]
def bk_2_9 : List Cond := [(Jvm.Cond.code ({ cls := "DoorSchool", name := "end", desc := "(I)I" } : Jvm.MethodName) prog_1_method_3_code (2 : Nat) (Option.some Jvm.ClassFile.FieldType.int)), (Jvm.Cond.methodLink "DoorSchoolLaw" (23 : Nat) ({ cls := "DoorSchool", name := "school", desc := "()I" } : Jvm.MethodName)), (Jvm.Cond.instanceMethod ({ cls := "DoorSchool", name := "school", desc := "()I" } : Jvm.MethodName)), (Jvm.Cond.selects "DoorSchool" ({ cls := "DoorSchool", name := "school", desc := "()I" } : Jvm.MethodName) ({ cls := "DoorSchool", name := "school", desc := "()I" } : Jvm.MethodName)), (Jvm.Cond.code ({ cls := "DoorSchool", name := "school", desc := "()I" } : Jvm.MethodName) prog_1_method_4_code (2 : Nat) (Option.some Jvm.ClassFile.FieldType.int)), (Jvm.Cond.methodLinkNest "DoorSchool" (88 : Nat) ({ cls := "DoorSchool$Reader", name := "read", desc := "(LDoorSchool$Plan;)V" } : Jvm.MethodName) "DoorSchool"), (Jvm.Cond.privateMethod ({ cls := "DoorSchool$Reader", name := "read", desc := "(LDoorSchool$Plan;)V" } : Jvm.MethodName)), (Jvm.Cond.instanceMethod ({ cls := "DoorSchool$Reader", name := "read", desc := "(LDoorSchool$Plan;)V" } : Jvm.MethodName)), (Jvm.Cond.code ({ cls := "DoorSchool$Reader", name := "read", desc := "(LDoorSchool$Plan;)V" } : Jvm.MethodName) prog_7_method_2_code (3 : Nat) (Option.none : Option Jvm.ClassFile.FieldType)), (Jvm.Cond.methodLinkNest "DoorSchool$Reader" (25 : Nat) ({ cls := "DoorSchool$Plan", name := "clear", desc := "()V" } : Jvm.MethodName) "DoorSchool"), (Jvm.Cond.privateMethod ({ cls := "DoorSchool$Plan", name := "clear", desc := "()V" } : Jvm.MethodName)), (Jvm.Cond.instanceMethod ({ cls := "DoorSchool$Plan", name := "clear", desc := "()V" } : Jvm.MethodName)), (Jvm.Cond.code ({ cls := "DoorSchool$Plan", name := "clear", desc := "()V" } : Jvm.MethodName) prog_6_method_2_code (1 : Nat) (Option.none : Option Jvm.ClassFile.FieldType)), (Jvm.Cond.methodLink "DoorSchool$Plan" (69 : Nat) ({ cls := "java/util/Arrays", name := "fill", desc := "([II)V" } : Jvm.MethodName)), (Jvm.Cond.static ({ cls := "java/util/Arrays", name := "fill", desc := "([II)V" } : Jvm.MethodName)), (Jvm.Cond.code ({ cls := "java/util/Arrays", name := "fill", desc := "([II)V" } : Jvm.MethodName) prog_20_method_103_code (4 : Nat) (Option.none : Option Jvm.ClassFile.FieldType))]
def bk_2_10 : List Cond := [(Jvm.Cond.methodLink "DoorSchool$Reader" (30 : Nat) ({ cls := "DoorSchool$Reader", name := "step", desc := "()V" } : Jvm.MethodName)), (Jvm.Cond.privateMethod ({ cls := "DoorSchool$Reader", name := "step", desc := "()V" } : Jvm.MethodName)), (Jvm.Cond.instanceMethod ({ cls := "DoorSchool$Reader", name := "step", desc := "()V" } : Jvm.MethodName)), (Jvm.Cond.code ({ cls := "DoorSchool$Reader", name := "step", desc := "()V" } : Jvm.MethodName) prog_7_method_20_code (1 : Nat) (Option.none : Option Jvm.ClassFile.FieldType)), (Jvm.Cond.methodLink "DoorSchool$Reader" (221 : Nat) ({ cls := "DoorSchool$Reader", name := "isBlank", desc := "(B)Z" } : Jvm.MethodName)), (Jvm.Cond.static ({ cls := "DoorSchool$Reader", name := "isBlank", desc := "(B)Z" } : Jvm.MethodName)), (Jvm.Cond.code ({ cls := "DoorSchool$Reader", name := "isBlank", desc := "(B)Z" } : Jvm.MethodName) prog_7_method_22_code (1 : Nat) (Option.some Jvm.ClassFile.FieldType.boolean)), (Jvm.Cond.methodLink "DoorSchool$Reader" (225 : Nat) ({ cls := "DoorSchool$Reader", name := "kindAt", desc := "(I)I" } : Jvm.MethodName)), (Jvm.Cond.privateMethod ({ cls := "DoorSchool$Reader", name := "kindAt", desc := "(I)I" } : Jvm.MethodName)), (Jvm.Cond.instanceMethod ({ cls := "DoorSchool$Reader", name := "kindAt", desc := "(I)I" } : Jvm.MethodName)), (Jvm.Cond.code ({ cls := "DoorSchool$Reader", name := "kindAt", desc := "(I)I" } : Jvm.MethodName) prog_7_method_21_code (3 : Nat) (Option.some Jvm.ClassFile.FieldType.int)), (Jvm.Cond.constant "DoorSchool$Reader" (228 : Nat) (1000000 : Int32)), (Jvm.Cond.methodLink "DoorSchool$Reader" (229 : Nat) ({ cls := "java/lang/Math", name := "min", desc := "(II)I" } : Jvm.MethodName)), (Jvm.Cond.static ({ cls := "java/lang/Math", name := "min", desc := "(II)I" } : Jvm.MethodName)), (Jvm.Cond.code ({ cls := "java/lang/Math", name := "min", desc := "(II)I" } : Jvm.MethodName) prog_15_method_69_code (2 : Nat) (Option.some Jvm.ClassFile.FieldType.int)), (Jvm.Cond.methodLink "DoorSchool$Reader" (36 : Nat) ({ cls := "DoorSchool$Reader", name := "readFirst", desc := "(LDoorSchool$Plan;)V" } : Jvm.MethodName))]
def bk_2_11 : List Cond := [(Jvm.Cond.privateMethod ({ cls := "DoorSchool$Reader", name := "readFirst", desc := "(LDoorSchool$Plan;)V" } : Jvm.MethodName)), (Jvm.Cond.instanceMethod ({ cls := "DoorSchool$Reader", name := "readFirst", desc := "(LDoorSchool$Plan;)V" } : Jvm.MethodName)), (Jvm.Cond.code ({ cls := "DoorSchool$Reader", name := "readFirst", desc := "(LDoorSchool$Plan;)V" } : Jvm.MethodName) prog_7_method_3_code (2 : Nat) (Option.none : Option Jvm.ClassFile.FieldType)), (Jvm.Cond.stringRef "DoorSchool$Reader" (95 : Nat) "school"), (Jvm.Cond.methodLink "DoorSchool$Reader" (42 : Nat) ({ cls := "DoorSchool$Reader", name := "stands", desc := "(Ljava/lang/String;)Z" } : Jvm.MethodName)), (Jvm.Cond.privateMethod ({ cls := "DoorSchool$Reader", name := "stands", desc := "(Ljava/lang/String;)Z" } : Jvm.MethodName)), (Jvm.Cond.instanceMethod ({ cls := "DoorSchool$Reader", name := "stands", desc := "(Ljava/lang/String;)Z" } : Jvm.MethodName)), (Jvm.Cond.code ({ cls := "DoorSchool$Reader", name := "stands", desc := "(Ljava/lang/String;)Z" } : Jvm.MethodName) prog_7_method_19_code (3 : Nat) (Option.some Jvm.ClassFile.FieldType.boolean)), (Jvm.Cond.methodLink "DoorSchool$Reader" (205 : Nat) ({ cls := "java/lang/String", name := "length", desc := "()I" } : Jvm.MethodName)), (Jvm.Cond.instanceMethod ({ cls := "java/lang/String", name := "length", desc := "()I" } : Jvm.MethodName)), (Jvm.Cond.selects "java/lang/String" ({ cls := "java/lang/String", name := "length", desc := "()I" } : Jvm.MethodName) ({ cls := "java/lang/String", name := "length", desc := "()I" } : Jvm.MethodName)), (Jvm.Cond.code ({ cls := "java/lang/String", name := "length", desc := "()I" } : Jvm.MethodName) prog_16_method_54_code (1 : Nat) (Option.some Jvm.ClassFile.FieldType.int)), (Jvm.Cond.methodLink "java/lang/String" (335 : Nat) ({ cls := "java/lang/String", name := "coder", desc := "()B" } : Jvm.MethodName)), (Jvm.Cond.instanceMethod ({ cls := "java/lang/String", name := "coder", desc := "()B" } : Jvm.MethodName)), (Jvm.Cond.selects "java/lang/String" ({ cls := "java/lang/String", name := "coder", desc := "()B" } : Jvm.MethodName) ({ cls := "java/lang/String", name := "coder", desc := "()B" } : Jvm.MethodName)), (Jvm.Cond.code ({ cls := "java/lang/String", name := "coder", desc := "()B" } : Jvm.MethodName) prog_16_method_152_code (1 : Nat) (Option.some Jvm.ClassFile.FieldType.byte))]
def bk_2_12 : List Cond := [(Jvm.Cond.fieldLink "java/lang/String" (38 : Nat) "java/lang/String" "COMPACT_STRINGS" "Z"), (Jvm.Cond.laysStatic "java/lang/String" "COMPACT_STRINGS" "Z"), (Jvm.Cond.methodLink "DoorSchool$Reader" (216 : Nat) ({ cls := "java/lang/String", name := "charAt", desc := "(I)C" } : Jvm.MethodName)), (Jvm.Cond.instanceMethod ({ cls := "java/lang/String", name := "charAt", desc := "(I)C" } : Jvm.MethodName)), (Jvm.Cond.selects "java/lang/String" ({ cls := "java/lang/String", name := "charAt", desc := "(I)C" } : Jvm.MethodName) ({ cls := "java/lang/String", name := "charAt", desc := "(I)C" } : Jvm.MethodName)), (Jvm.Cond.code ({ cls := "java/lang/String", name := "charAt", desc := "(I)C" } : Jvm.MethodName) prog_16_method_56_code (2 : Nat) (Option.some Jvm.ClassFile.FieldType.char)), (Jvm.Cond.methodLink "java/lang/String" (492 : Nat) ({ cls := "java/lang/String", name := "isLatin1", desc := "()Z" } : Jvm.MethodName)), (Jvm.Cond.instanceMethod ({ cls := "java/lang/String", name := "isLatin1", desc := "()Z" } : Jvm.MethodName)), (Jvm.Cond.selects "java/lang/String" ({ cls := "java/lang/String", name := "isLatin1", desc := "()Z" } : Jvm.MethodName) ({ cls := "java/lang/String", name := "isLatin1", desc := "()Z" } : Jvm.MethodName)), (Jvm.Cond.code ({ cls := "java/lang/String", name := "isLatin1", desc := "()Z" } : Jvm.MethodName) prog_16_method_154_code (1 : Nat) (Option.some Jvm.ClassFile.FieldType.boolean)), (Jvm.Cond.methodLink "java/lang/String" (495 : Nat) ({ cls := "java/lang/StringLatin1", name := "charAt", desc := "([BI)C" } : Jvm.MethodName)), (Jvm.Cond.static ({ cls := "java/lang/StringLatin1", name := "charAt", desc := "([BI)C" } : Jvm.MethodName)), (Jvm.Cond.code ({ cls := "java/lang/StringLatin1", name := "charAt", desc := "([BI)C" } : Jvm.MethodName) prog_17_method_2_code (2 : Nat) (Option.some Jvm.ClassFile.FieldType.char)), (Jvm.Cond.methodLink "java/lang/StringLatin1" (9 : Nat) ({ cls := "java/lang/String", name := "checkIndex", desc := "(II)V" } : Jvm.MethodName)), (Jvm.Cond.static ({ cls := "java/lang/String", name := "checkIndex", desc := "(II)V" } : Jvm.MethodName)), (Jvm.Cond.code ({ cls := "java/lang/String", name := "checkIndex", desc := "(II)V" } : Jvm.MethodName) prog_16_method_155_code (2 : Nat) (Option.none : Option Jvm.ClassFile.FieldType))]
def bk_2_13 : List Cond := [(Jvm.Cond.fieldLink "java/lang/String" (1053 : Nat) "jdk/internal/util/Preconditions" "SIOOBE_FORMATTER" "Ljava/util/function/BiFunction;"), (Jvm.Cond.laysStatic "jdk/internal/util/Preconditions" "SIOOBE_FORMATTER" "Ljava/util/function/BiFunction;"), (Jvm.Cond.methodLink "java/lang/String" (1059 : Nat) ({ cls := "jdk/internal/util/Preconditions", name := "checkIndex", desc := "(IILjava/util/function/BiFunction;)I" } : Jvm.MethodName)), (Jvm.Cond.static ({ cls := "jdk/internal/util/Preconditions", name := "checkIndex", desc := "(IILjava/util/function/BiFunction;)I" } : Jvm.MethodName)), (Jvm.Cond.code ({ cls := "jdk/internal/util/Preconditions", name := "checkIndex", desc := "(IILjava/util/function/BiFunction;)I" } : Jvm.MethodName) prog_21_method_11_code (3 : Nat) (Option.some Jvm.ClassFile.FieldType.int)), (Jvm.Cond.methodLink "java/lang/String" (498 : Nat) ({ cls := "java/lang/StringUTF16", name := "charAt", desc := "([BI)C" } : Jvm.MethodName)), (Jvm.Cond.static ({ cls := "java/lang/StringUTF16", name := "charAt", desc := "([BI)C" } : Jvm.MethodName)), (Jvm.Cond.code ({ cls := "java/lang/StringUTF16", name := "charAt", desc := "([BI)C" } : Jvm.MethodName) prog_18_method_83_code (2 : Nat) (Option.some Jvm.ClassFile.FieldType.char)), (Jvm.Cond.methodLink "java/lang/StringUTF16" (67 : Nat) ({ cls := "java/lang/StringUTF16", name := "checkIndex", desc := "(I[B)V" } : Jvm.MethodName)), (Jvm.Cond.static ({ cls := "java/lang/StringUTF16", name := "checkIndex", desc := "(I[B)V" } : Jvm.MethodName)), (Jvm.Cond.code ({ cls := "java/lang/StringUTF16", name := "checkIndex", desc := "(I[B)V" } : Jvm.MethodName) prog_18_method_91_code (2 : Nat) (Option.none : Option Jvm.ClassFile.FieldType)), (Jvm.Cond.methodLink "java/lang/StringUTF16" (48 : Nat) ({ cls := "java/lang/StringUTF16", name := "length", desc := "([B)I" } : Jvm.MethodName)), (Jvm.Cond.static ({ cls := "java/lang/StringUTF16", name := "length", desc := "([B)I" } : Jvm.MethodName)), (Jvm.Cond.code ({ cls := "java/lang/StringUTF16", name := "length", desc := "([B)I" } : Jvm.MethodName) prog_18_method_6_code (1 : Nat) (Option.some Jvm.ClassFile.FieldType.int)), (Jvm.Cond.methodLink "java/lang/StringUTF16" (414 : Nat) ({ cls := "java/lang/String", name := "checkIndex", desc := "(II)V" } : Jvm.MethodName)), (Jvm.Cond.methodLink "java/lang/StringUTF16" (71 : Nat) ({ cls := "java/lang/StringUTF16", name := "getChar", desc := "([BI)C" } : Jvm.MethodName))]
def bk_2_14 : List Cond := [(Jvm.Cond.static ({ cls := "java/lang/StringUTF16", name := "getChar", desc := "([BI)C" } : Jvm.MethodName)), (Jvm.Cond.code ({ cls := "java/lang/StringUTF16", name := "getChar", desc := "([BI)C" } : Jvm.MethodName) prog_18_method_5_code (2 : Nat) (Option.some Jvm.ClassFile.FieldType.char)), (Jvm.Cond.fieldLink "java/lang/StringUTF16" (44 : Nat) "java/lang/StringUTF16" "$assertionsDisabled" "Z"), (Jvm.Cond.laysStatic "java/lang/StringUTF16" "$assertionsDisabled" "Z"), (Jvm.Cond.fieldLink "java/lang/StringUTF16" (59 : Nat) "java/lang/StringUTF16" "HI_BYTE_SHIFT" "I"), (Jvm.Cond.laysStatic "java/lang/StringUTF16" "HI_BYTE_SHIFT" "I"), (Jvm.Cond.fieldLink "java/lang/StringUTF16" (63 : Nat) "java/lang/StringUTF16" "LO_BYTE_SHIFT" "I"), (Jvm.Cond.laysStatic "java/lang/StringUTF16" "LO_BYTE_SHIFT" "I"), (Jvm.Cond.methodLink "DoorSchool$Reader" (88 : Nat) ({ cls := "DoorSchool$Reader", name := "pass", desc := "(Z)V" } : Jvm.MethodName)), (Jvm.Cond.privateMethod ({ cls := "DoorSchool$Reader", name := "pass", desc := "(Z)V" } : Jvm.MethodName)), (Jvm.Cond.instanceMethod ({ cls := "DoorSchool$Reader", name := "pass", desc := "(Z)V" } : Jvm.MethodName)), (Jvm.Cond.code ({ cls := "DoorSchool$Reader", name := "pass", desc := "(Z)V" } : Jvm.MethodName) prog_7_method_17_code (2 : Nat) (Option.none : Option Jvm.ClassFile.FieldType)), (Jvm.Cond.methodLink "DoorSchool$Reader" (84 : Nat) ({ cls := "DoorSchool$Reader", name := "blame", desc := "(I)V" } : Jvm.MethodName)), (Jvm.Cond.privateMethod ({ cls := "DoorSchool$Reader", name := "blame", desc := "(I)V" } : Jvm.MethodName)), (Jvm.Cond.instanceMethod ({ cls := "DoorSchool$Reader", name := "blame", desc := "(I)V" } : Jvm.MethodName)), (Jvm.Cond.code ({ cls := "DoorSchool$Reader", name := "blame", desc := "(I)V" } : Jvm.MethodName) prog_7_method_18_code (2 : Nat) (Option.none : Option Jvm.ClassFile.FieldType))]
set_option maxRecDepth 20000 in
theorem ct_2 : tables_1_2 = bk_2_0 ++ (bk_2_1 ++ (bk_2_2 ++ (bk_2_3 ++ (bk_2_4 ++ (bk_2_5 ++ (bk_2_6 ++ (bk_2_7 ++ (bk_2_8 ++ (bk_2_9 ++ (bk_2_10 ++ (bk_2_11 ++ (bk_2_12 ++ (bk_2_13 ++ (bk_2_14)))))))))))))) := rfl
theorem bt_2_0 {w : Cond} (h : w ∈ bk_2_0) : w ∈ tables_1_2 := by rw [ct_2]; exact (List.mem_append_left _ h)
theorem bt_2_1 {w : Cond} (h : w ∈ bk_2_1) : w ∈ tables_1_2 := by rw [ct_2]; exact (List.mem_append_right _ (List.mem_append_left _ h))
theorem bt_2_2 {w : Cond} (h : w ∈ bk_2_2) : w ∈ tables_1_2 := by rw [ct_2]; exact (List.mem_append_right _ (List.mem_append_right _ (List.mem_append_left _ h)))
theorem bt_2_4 {w : Cond} (h : w ∈ bk_2_4) : w ∈ tables_1_2 := by rw [ct_2]; exact (List.mem_append_right _ (List.mem_append_right _ (List.mem_append_right _ (List.mem_append_right _ (List.mem_append_left _ h)))))
theorem bt_2_5 {w : Cond} (h : w ∈ bk_2_5) : w ∈ tables_1_2 := by rw [ct_2]; exact (List.mem_append_right _ (List.mem_append_right _ (List.mem_append_right _ (List.mem_append_right _ (List.mem_append_right _ (List.mem_append_left _ h))))))
theorem bt_2_6 {w : Cond} (h : w ∈ bk_2_6) : w ∈ tables_1_2 := by rw [ct_2]; exact (List.mem_append_right _ (List.mem_append_right _ (List.mem_append_right _ (List.mem_append_right _ (List.mem_append_right _ (List.mem_append_right _ (List.mem_append_left _ h)))))))
theorem bt_2_8 {w : Cond} (h : w ∈ bk_2_8) : w ∈ tables_1_2 := by rw [ct_2]; exact (List.mem_append_right _ (List.mem_append_right _ (List.mem_append_right _ (List.mem_append_right _ (List.mem_append_right _ (List.mem_append_right _ (List.mem_append_right _ (List.mem_append_right _ (List.mem_append_left _ h)))))))))
theorem bt_2_9 {w : Cond} (h : w ∈ bk_2_9) : w ∈ tables_1_2 := by rw [ct_2]; exact (List.mem_append_right _ (List.mem_append_right _ (List.mem_append_right _ (List.mem_append_right _ (List.mem_append_right _ (List.mem_append_right _ (List.mem_append_right _ (List.mem_append_right _ (List.mem_append_right _ (List.mem_append_left _ h))))))))))
theorem bt_2_10 {w : Cond} (h : w ∈ bk_2_10) : w ∈ tables_1_2 := by rw [ct_2]; exact (List.mem_append_right _ (List.mem_append_right _ (List.mem_append_right _ (List.mem_append_right _ (List.mem_append_right _ (List.mem_append_right _ (List.mem_append_right _ (List.mem_append_right _ (List.mem_append_right _ (List.mem_append_right _ (List.mem_append_left _ h)))))))))))
theorem bt_2_11 {w : Cond} (h : w ∈ bk_2_11) : w ∈ tables_1_2 := by rw [ct_2]; exact (List.mem_append_right _ (List.mem_append_right _ (List.mem_append_right _ (List.mem_append_right _ (List.mem_append_right _ (List.mem_append_right _ (List.mem_append_right _ (List.mem_append_right _ (List.mem_append_right _ (List.mem_append_right _ (List.mem_append_right _ (List.mem_append_left _ h))))))))))))
theorem bt_2_12 {w : Cond} (h : w ∈ bk_2_12) : w ∈ tables_1_2 := by rw [ct_2]; exact (List.mem_append_right _ (List.mem_append_right _ (List.mem_append_right _ (List.mem_append_right _ (List.mem_append_right _ (List.mem_append_right _ (List.mem_append_right _ (List.mem_append_right _ (List.mem_append_right _ (List.mem_append_right _ (List.mem_append_right _ (List.mem_append_right _ (List.mem_append_left _ h)))))))))))))
theorem bt_2_13 {w : Cond} (h : w ∈ bk_2_13) : w ∈ tables_1_2 := by rw [ct_2]; exact (List.mem_append_right _ (List.mem_append_right _ (List.mem_append_right _ (List.mem_append_right _ (List.mem_append_right _ (List.mem_append_right _ (List.mem_append_right _ (List.mem_append_right _ (List.mem_append_right _ (List.mem_append_right _ (List.mem_append_right _ (List.mem_append_right _ (List.mem_append_right _ (List.mem_append_left _ h))))))))))))))
theorem bt_2_14 {w : Cond} (h : w ∈ bk_2_14) : w ∈ tables_1_2 := by rw [ct_2]; exact (List.mem_append_right _ (List.mem_append_right _ (List.mem_append_right _ (List.mem_append_right _ (List.mem_append_right _ (List.mem_append_right _ (List.mem_append_right _ (List.mem_append_right _ (List.mem_append_right _ (List.mem_append_right _ (List.mem_append_right _ (List.mem_append_right _ (List.mem_append_right _ (List.mem_append_right _ h))))))))))))))
def bk_3_0 : List Cond := [(Jvm.Cond.stringRef "DoorSchool$Reader" (97 : Nat) "signs"), (Jvm.Cond.methodLink "DoorSchool$Reader" (99 : Nat) ({ cls := "DoorSchool$Reader", name := "takeNumber", desc := "(II)I" } : Jvm.MethodName)), (Jvm.Cond.privateMethod ({ cls := "DoorSchool$Reader", name := "takeNumber", desc := "(II)I" } : Jvm.MethodName)), (Jvm.Cond.instanceMethod ({ cls := "DoorSchool$Reader", name := "takeNumber", desc := "(II)I" } : Jvm.MethodName)), (Jvm.Cond.code ({ cls := "DoorSchool$Reader", name := "takeNumber", desc := "(II)I" } : Jvm.MethodName) prog_7_method_15_code (4 : Nat) (Option.some Jvm.ClassFile.FieldType.int)), (Jvm.Cond.methodLink "DoorSchool$Reader" (128 : Nat) ({ cls := "DoorSchool$Reader", name := "numberHere", desc := "(II)I" } : Jvm.MethodName)), (Jvm.Cond.privateMethod ({ cls := "DoorSchool$Reader", name := "numberHere", desc := "(II)I" } : Jvm.MethodName)), (Jvm.Cond.instanceMethod ({ cls := "DoorSchool$Reader", name := "numberHere", desc := "(II)I" } : Jvm.MethodName)), (Jvm.Cond.code ({ cls := "DoorSchool$Reader", name := "numberHere", desc := "(II)I" } : Jvm.MethodName) prog_7_method_16_code (3 : Nat) (Option.some Jvm.ClassFile.FieldType.int)), (Jvm.Cond.stringRef "DoorSchool$Reader" (105 : Nat) "teachers"), (Jvm.Cond.stringRef "DoorSchool$Reader" (40 : Nat) "door"), (Jvm.Cond.methodLink "DoorSchool$Reader" (46 : Nat) ({ cls := "DoorSchool$Reader", name := "readDoor", desc := "(LDoorSchool$Plan;)V" } : Jvm.MethodName)), (Jvm.Cond.privateMethod ({ cls := "DoorSchool$Reader", name := "readDoor", desc := "(LDoorSchool$Plan;)V" } : Jvm.MethodName)), (Jvm.Cond.instanceMethod ({ cls := "DoorSchool$Reader", name := "readDoor", desc := "(LDoorSchool$Plan;)V" } : Jvm.MethodName)), (Jvm.Cond.code ({ cls := "DoorSchool$Reader", name := "readDoor", desc := "(LDoorSchool$Plan;)V" } : Jvm.MethodName) prog_7_method_4_code (4 : Nat) (Option.none : Option Jvm.ClassFile.FieldType)), (Jvm.Cond.methodLink "DoorSchool$Reader" (112 : Nat) ({ cls := "DoorSchool$Reader", name := "takeWay", desc := "()I" } : Jvm.MethodName))]
def bk_3_1 : List Cond := [(Jvm.Cond.privateMethod ({ cls := "DoorSchool$Reader", name := "takeWay", desc := "()I" } : Jvm.MethodName)), (Jvm.Cond.instanceMethod ({ cls := "DoorSchool$Reader", name := "takeWay", desc := "()I" } : Jvm.MethodName)), (Jvm.Cond.code ({ cls := "DoorSchool$Reader", name := "takeWay", desc := "()I" } : Jvm.MethodName) prog_7_method_13_code (2 : Nat) (Option.some Jvm.ClassFile.FieldType.int)), (Jvm.Cond.stringRef "DoorSchool$Reader" (193 : Nat) "heart"), (Jvm.Cond.stringRef "DoorSchool$Reader" (195 : Nat) "shortest"), (Jvm.Cond.stringRef "DoorSchool$Reader" (197 : Nat) "nearest"), (Jvm.Cond.stringRef "DoorSchool$Reader" (116 : Nat) "slips"), (Jvm.Cond.methodLinkNest "DoorSchool$Reader" (122 : Nat) ({ cls := "DoorSchool$Door", name := "begin", desc := "(II)V" } : Jvm.MethodName) "DoorSchool"), (Jvm.Cond.privateMethod ({ cls := "DoorSchool$Door", name := "begin", desc := "(II)V" } : Jvm.MethodName)), (Jvm.Cond.instanceMethod ({ cls := "DoorSchool$Door", name := "begin", desc := "(II)V" } : Jvm.MethodName)), (Jvm.Cond.code ({ cls := "DoorSchool$Door", name := "begin", desc := "(II)V" } : Jvm.MethodName) prog_2_method_2_code (3 : Nat) (Option.none : Option Jvm.ClassFile.FieldType)), (Jvm.Cond.stringRef "DoorSchool$Reader" (49 : Nat) "lesson"), (Jvm.Cond.methodLink "DoorSchool$Reader" (51 : Nat) ({ cls := "DoorSchool$Reader", name := "readLesson", desc := "(LDoorSchool$Plan;)V" } : Jvm.MethodName)), (Jvm.Cond.privateMethod ({ cls := "DoorSchool$Reader", name := "readLesson", desc := "(LDoorSchool$Plan;)V" } : Jvm.MethodName)), (Jvm.Cond.instanceMethod ({ cls := "DoorSchool$Reader", name := "readLesson", desc := "(LDoorSchool$Plan;)V" } : Jvm.MethodName)), (Jvm.Cond.code ({ cls := "DoorSchool$Reader", name := "readLesson", desc := "(LDoorSchool$Plan;)V" } : Jvm.MethodName) prog_7_method_5_code (4 : Nat) (Option.none : Option Jvm.ClassFile.FieldType))]
def bk_3_2 : List Cond := [(Jvm.Cond.methodLink "DoorSchool$Reader" (140 : Nat) ({ cls := "DoorSchool$Reader", name := "readSaid", desc := "(LDoorSchool$Plan;LDoorSchool$Lessons;)V" } : Jvm.MethodName)), (Jvm.Cond.privateMethod ({ cls := "DoorSchool$Reader", name := "readSaid", desc := "(LDoorSchool$Plan;LDoorSchool$Lessons;)V" } : Jvm.MethodName)), (Jvm.Cond.instanceMethod ({ cls := "DoorSchool$Reader", name := "readSaid", desc := "(LDoorSchool$Plan;LDoorSchool$Lessons;)V" } : Jvm.MethodName)), (Jvm.Cond.code ({ cls := "DoorSchool$Reader", name := "readSaid", desc := "(LDoorSchool$Plan;LDoorSchool$Lessons;)V" } : Jvm.MethodName) prog_7_method_7_code (5 : Nat) (Option.none : Option Jvm.ClassFile.FieldType)), (Jvm.Cond.methodLinkNest "DoorSchool$Reader" (147 : Nat) ({ cls := "DoorSchool$Plan", name := "knocks", desc := "()I" } : Jvm.MethodName) "DoorSchool"), (Jvm.Cond.privateMethod ({ cls := "DoorSchool$Plan", name := "knocks", desc := "()I" } : Jvm.MethodName)), (Jvm.Cond.instanceMethod ({ cls := "DoorSchool$Plan", name := "knocks", desc := "()I" } : Jvm.MethodName)), (Jvm.Cond.code ({ cls := "DoorSchool$Plan", name := "knocks", desc := "()I" } : Jvm.MethodName) prog_6_method_5_code (1 : Nat) (Option.some Jvm.ClassFile.FieldType.int)), (Jvm.Cond.stringRef "DoorSchool$Reader" (150 : Nat) "open"), (Jvm.Cond.stringRef "DoorSchool$Reader" (152 : Nat) "shut"), (Jvm.Cond.methodLinkNest "DoorSchool$Reader" (154 : Nat) ({ cls := "DoorSchool$Lessons", name := "add", desc := "(II)V" } : Jvm.MethodName) "DoorSchool"), (Jvm.Cond.privateMethod ({ cls := "DoorSchool$Lessons", name := "add", desc := "(II)V" } : Jvm.MethodName)), (Jvm.Cond.instanceMethod ({ cls := "DoorSchool$Lessons", name := "add", desc := "(II)V" } : Jvm.MethodName)), (Jvm.Cond.code ({ cls := "DoorSchool$Lessons", name := "add", desc := "(II)V" } : Jvm.MethodName) prog_5_method_2_code (3 : Nat) (Option.none : Option Jvm.ClassFile.FieldType)), (Jvm.Cond.methodLink "DoorSchool$Lessons" (22 : Nat) ({ cls := "DoorSchool$Lessons", name := "putIn", desc := "(III)V" } : Jvm.MethodName)), (Jvm.Cond.privateMethod ({ cls := "DoorSchool$Lessons", name := "putIn", desc := "(III)V" } : Jvm.MethodName))]
def bk_3_3 : List Cond := [(Jvm.Cond.instanceMethod ({ cls := "DoorSchool$Lessons", name := "putIn", desc := "(III)V" } : Jvm.MethodName)), (Jvm.Cond.code ({ cls := "DoorSchool$Lessons", name := "putIn", desc := "(III)V" } : Jvm.MethodName) prog_5_method_4_code (5 : Nat) (Option.none : Option Jvm.ClassFile.FieldType)), (Jvm.Cond.stringRef "DoorSchool$Reader" (54 : Nat) "exam"), (Jvm.Cond.methodLink "DoorSchool$Reader" (56 : Nat) ({ cls := "DoorSchool$Reader", name := "readExam", desc := "(LDoorSchool$Plan;)V" } : Jvm.MethodName)), (Jvm.Cond.privateMethod ({ cls := "DoorSchool$Reader", name := "readExam", desc := "(LDoorSchool$Plan;)V" } : Jvm.MethodName)), (Jvm.Cond.instanceMethod ({ cls := "DoorSchool$Reader", name := "readExam", desc := "(LDoorSchool$Plan;)V" } : Jvm.MethodName)), (Jvm.Cond.code ({ cls := "DoorSchool$Reader", name := "readExam", desc := "(LDoorSchool$Plan;)V" } : Jvm.MethodName) prog_7_method_6_code (2 : Nat) (Option.none : Option Jvm.ClassFile.FieldType)), (Jvm.Cond.stringRef "DoorSchool$Reader" (59 : Nat) "twin"), (Jvm.Cond.methodLink "DoorSchool$Reader" (61 : Nat) ({ cls := "DoorSchool$Reader", name := "readTwin", desc := "(LDoorSchool$Plan;)V" } : Jvm.MethodName)), (Jvm.Cond.privateMethod ({ cls := "DoorSchool$Reader", name := "readTwin", desc := "(LDoorSchool$Plan;)V" } : Jvm.MethodName)), (Jvm.Cond.instanceMethod ({ cls := "DoorSchool$Reader", name := "readTwin", desc := "(LDoorSchool$Plan;)V" } : Jvm.MethodName)), (Jvm.Cond.code ({ cls := "DoorSchool$Reader", name := "readTwin", desc := "(LDoorSchool$Plan;)V" } : Jvm.MethodName) prog_7_method_8_code (4 : Nat) (Option.none : Option Jvm.ClassFile.FieldType)), (Jvm.Cond.methodLinkNest "DoorSchool$Reader" (160 : Nat) ({ cls := "DoorSchool$Plan", name := "isCopied", desc := "(I)Z" } : Jvm.MethodName) "DoorSchool"), (Jvm.Cond.privateMethod ({ cls := "DoorSchool$Plan", name := "isCopied", desc := "(I)Z" } : Jvm.MethodName)), (Jvm.Cond.instanceMethod ({ cls := "DoorSchool$Plan", name := "isCopied", desc := "(I)Z" } : Jvm.MethodName)), (Jvm.Cond.code ({ cls := "DoorSchool$Plan", name := "isCopied", desc := "(I)Z" } : Jvm.MethodName) prog_6_method_11_code (3 : Nat) (Option.some Jvm.ClassFile.FieldType.boolean))]
def bk_3_4 : List Cond := [(Jvm.Cond.stringRef "DoorSchool$Reader" (64 : Nat) "owner"), (Jvm.Cond.methodLink "DoorSchool$Reader" (66 : Nat) ({ cls := "DoorSchool$Reader", name := "readOwner", desc := "(LDoorSchool$Plan;)V" } : Jvm.MethodName)), (Jvm.Cond.privateMethod ({ cls := "DoorSchool$Reader", name := "readOwner", desc := "(LDoorSchool$Plan;)V" } : Jvm.MethodName)), (Jvm.Cond.instanceMethod ({ cls := "DoorSchool$Reader", name := "readOwner", desc := "(LDoorSchool$Plan;)V" } : Jvm.MethodName)), (Jvm.Cond.code ({ cls := "DoorSchool$Reader", name := "readOwner", desc := "(LDoorSchool$Plan;)V" } : Jvm.MethodName) prog_7_method_9_code (4 : Nat) (Option.none : Option Jvm.ClassFile.FieldType)), (Jvm.Cond.methodLink "DoorSchool$Reader" (164 : Nat) ({ cls := "DoorSchool$Reader", name := "takePart", desc := "(I)I" } : Jvm.MethodName)), (Jvm.Cond.privateMethod ({ cls := "DoorSchool$Reader", name := "takePart", desc := "(I)I" } : Jvm.MethodName)), (Jvm.Cond.instanceMethod ({ cls := "DoorSchool$Reader", name := "takePart", desc := "(I)I" } : Jvm.MethodName)), (Jvm.Cond.code ({ cls := "DoorSchool$Reader", name := "takePart", desc := "(I)I" } : Jvm.MethodName) prog_7_method_14_code (3 : Nat) (Option.some Jvm.ClassFile.FieldType.int)), (Jvm.Cond.stringRef "DoorSchool$Reader" (69 : Nat) "house"), (Jvm.Cond.methodLink "DoorSchool$Reader" (71 : Nat) ({ cls := "DoorSchool$Reader", name := "readHouse", desc := "(LDoorSchool$Plan;)V" } : Jvm.MethodName)), (Jvm.Cond.privateMethod ({ cls := "DoorSchool$Reader", name := "readHouse", desc := "(LDoorSchool$Plan;)V" } : Jvm.MethodName)), (Jvm.Cond.instanceMethod ({ cls := "DoorSchool$Reader", name := "readHouse", desc := "(LDoorSchool$Plan;)V" } : Jvm.MethodName)), (Jvm.Cond.code ({ cls := "DoorSchool$Reader", name := "readHouse", desc := "(LDoorSchool$Plan;)V" } : Jvm.MethodName) prog_7_method_10_code (4 : Nat) (Option.none : Option Jvm.ClassFile.FieldType)), (Jvm.Cond.stringRef "DoorSchool$Reader" (74 : Nat) "course"), (Jvm.Cond.methodLink "DoorSchool$Reader" (76 : Nat) ({ cls := "DoorSchool$Reader", name := "readCourse", desc := "(LDoorSchool$Plan;)V" } : Jvm.MethodName))]
def bk_3_5 : List Cond := [(Jvm.Cond.privateMethod ({ cls := "DoorSchool$Reader", name := "readCourse", desc := "(LDoorSchool$Plan;)V" } : Jvm.MethodName)), (Jvm.Cond.instanceMethod ({ cls := "DoorSchool$Reader", name := "readCourse", desc := "(LDoorSchool$Plan;)V" } : Jvm.MethodName)), (Jvm.Cond.code ({ cls := "DoorSchool$Reader", name := "readCourse", desc := "(LDoorSchool$Plan;)V" } : Jvm.MethodName) prog_7_method_11_code (3 : Nat) (Option.none : Option Jvm.ClassFile.FieldType)), (Jvm.Cond.stringRef "DoorSchool$Reader" (187 : Nat) "takes"), (Jvm.Cond.stringRef "DoorSchool$Reader" (79 : Nat) "ahead"), (Jvm.Cond.methodLink "DoorSchool$Reader" (81 : Nat) ({ cls := "DoorSchool$Reader", name := "readAhead", desc := "(LDoorSchool$Plan;)V" } : Jvm.MethodName)), (Jvm.Cond.privateMethod ({ cls := "DoorSchool$Reader", name := "readAhead", desc := "(LDoorSchool$Plan;)V" } : Jvm.MethodName)), (Jvm.Cond.instanceMethod ({ cls := "DoorSchool$Reader", name := "readAhead", desc := "(LDoorSchool$Plan;)V" } : Jvm.MethodName)), (Jvm.Cond.code ({ cls := "DoorSchool$Reader", name := "readAhead", desc := "(LDoorSchool$Plan;)V" } : Jvm.MethodName) prog_7_method_12_code (4 : Nat) (Option.none : Option Jvm.ClassFile.FieldType)), (Jvm.Cond.methodLinkNest "DoorSchool" (98 : Nat) ({ cls := "DoorSchool$Rules", name := "prepare", desc := "(I)V" } : Jvm.MethodName) "DoorSchool"), (Jvm.Cond.privateMethod ({ cls := "DoorSchool$Rules", name := "prepare", desc := "(I)V" } : Jvm.MethodName)), (Jvm.Cond.instanceMethod ({ cls := "DoorSchool$Rules", name := "prepare", desc := "(I)V" } : Jvm.MethodName)), (Jvm.Cond.code ({ cls := "DoorSchool$Rules", name := "prepare", desc := "(I)V" } : Jvm.MethodName) prog_8_method_2_code (4 : Nat) (Option.none : Option Jvm.ClassFile.FieldType)), (Jvm.Cond.methodLink "DoorSchool$Rules" (28 : Nat) ({ cls := "java/lang/Integer", name := "bitCount", desc := "(I)I" } : Jvm.MethodName)), (Jvm.Cond.methodLink "DoorSchool$Rules" (34 : Nat) ({ cls := "DoorSchool$Rules", name := "addAllOf", desc := "(I)V" } : Jvm.MethodName)), (Jvm.Cond.privateMethod ({ cls := "DoorSchool$Rules", name := "addAllOf", desc := "(I)V" } : Jvm.MethodName))]
def bk_3_6 : List Cond := [(Jvm.Cond.instanceMethod ({ cls := "DoorSchool$Rules", name := "addAllOf", desc := "(I)V" } : Jvm.MethodName)), (Jvm.Cond.code ({ cls := "DoorSchool$Rules", name := "addAllOf", desc := "(I)V" } : Jvm.MethodName) prog_8_method_3_code (3 : Nat) (Option.none : Option Jvm.ClassFile.FieldType)), (Jvm.Cond.methodLink "DoorSchool$Rules" (38 : Nat) ({ cls := "DoorSchool$Rules", name := "deedsOf", desc := "(II)I" } : Jvm.MethodName)), (Jvm.Cond.privateMethod ({ cls := "DoorSchool$Rules", name := "deedsOf", desc := "(II)I" } : Jvm.MethodName)), (Jvm.Cond.instanceMethod ({ cls := "DoorSchool$Rules", name := "deedsOf", desc := "(II)I" } : Jvm.MethodName)), (Jvm.Cond.code ({ cls := "DoorSchool$Rules", name := "deedsOf", desc := "(II)I" } : Jvm.MethodName) prog_8_method_4_code (5 : Nat) (Option.some Jvm.ClassFile.FieldType.int)), (Jvm.Cond.methodLink "DoorSchoolLaw" (28 : Nat) ({ cls := "DoorSchool", name := "fault", desc := "(I)I" } : Jvm.MethodName)), (Jvm.Cond.instanceMethod ({ cls := "DoorSchool", name := "fault", desc := "(I)I" } : Jvm.MethodName)), (Jvm.Cond.selects "DoorSchool" ({ cls := "DoorSchool", name := "fault", desc := "(I)I" } : Jvm.MethodName) ({ cls := "DoorSchool", name := "fault", desc := "(I)I" } : Jvm.MethodName)), (Jvm.Cond.code ({ cls := "DoorSchool", name := "fault", desc := "(I)I" } : Jvm.MethodName) prog_1_method_5_code (2 : Nat) (Option.some Jvm.ClassFile.FieldType.int)), (Jvm.Cond.methodLink "DoorSchoolLaw" (32 : Nat) ({ cls := "DoorSchool", name := "door", desc := "(II)I" } : Jvm.MethodName)), (Jvm.Cond.instanceMethod ({ cls := "DoorSchool", name := "door", desc := "(II)I" } : Jvm.MethodName)), (Jvm.Cond.selects "DoorSchool" ({ cls := "DoorSchool", name := "door", desc := "(II)I" } : Jvm.MethodName) ({ cls := "DoorSchool", name := "door", desc := "(II)I" } : Jvm.MethodName)), (Jvm.Cond.code ({ cls := "DoorSchool", name := "door", desc := "(II)I" } : Jvm.MethodName) prog_1_method_6_code (4 : Nat) (Option.some Jvm.ClassFile.FieldType.int)), (Jvm.Cond.methodLinkNest "DoorSchool" (107 : Nat) ({ cls := "DoorSchool$Plan", name := "isDoor", desc := "(I)Z" } : Jvm.MethodName) "DoorSchool"), (Jvm.Cond.privateMethod ({ cls := "DoorSchool$Plan", name := "isDoor", desc := "(I)Z" } : Jvm.MethodName))]
def bk_3_7 : List Cond := [(Jvm.Cond.instanceMethod ({ cls := "DoorSchool$Plan", name := "isDoor", desc := "(I)Z" } : Jvm.MethodName)), (Jvm.Cond.code ({ cls := "DoorSchool$Plan", name := "isDoor", desc := "(I)Z" } : Jvm.MethodName) prog_6_method_6_code (2 : Nat) (Option.some Jvm.ClassFile.FieldType.boolean)), (Jvm.Cond.methodLink "DoorSchoolLaw" (37 : Nat) ({ cls := "DoorSchool", name := "lesson", desc := "(III)I" } : Jvm.MethodName)), (Jvm.Cond.instanceMethod ({ cls := "DoorSchool", name := "lesson", desc := "(III)I" } : Jvm.MethodName)), (Jvm.Cond.selects "DoorSchool" ({ cls := "DoorSchool", name := "lesson", desc := "(III)I" } : Jvm.MethodName) ({ cls := "DoorSchool", name := "lesson", desc := "(III)I" } : Jvm.MethodName)), (Jvm.Cond.code ({ cls := "DoorSchool", name := "lesson", desc := "(III)I" } : Jvm.MethodName) prog_1_method_7_code (5 : Nat) (Option.some Jvm.ClassFile.FieldType.int)), (Jvm.Cond.methodLink "DoorSchool" (133 : Nat) ({ cls := "DoorSchool", name := "isZeroOrOne", desc := "(I)Z" } : Jvm.MethodName)), (Jvm.Cond.static ({ cls := "DoorSchool", name := "isZeroOrOne", desc := "(I)Z" } : Jvm.MethodName)), (Jvm.Cond.code ({ cls := "DoorSchool", name := "isZeroOrOne", desc := "(I)Z" } : Jvm.MethodName) prog_1_method_66_code (1 : Nat) (Option.some Jvm.ClassFile.FieldType.boolean)), (Jvm.Cond.methodLink "DoorSchoolLaw" (42 : Nat) ({ cls := "DoorSchool", name := "exam", desc := "(II)I" } : Jvm.MethodName)), (Jvm.Cond.instanceMethod ({ cls := "DoorSchool", name := "exam", desc := "(II)I" } : Jvm.MethodName)), (Jvm.Cond.selects "DoorSchool" ({ cls := "DoorSchool", name := "exam", desc := "(II)I" } : Jvm.MethodName) ({ cls := "DoorSchool", name := "exam", desc := "(II)I" } : Jvm.MethodName)), (Jvm.Cond.code ({ cls := "DoorSchool", name := "exam", desc := "(II)I" } : Jvm.MethodName) prog_1_method_8_code (3 : Nat) (Option.some Jvm.ClassFile.FieldType.int)), (Jvm.Cond.methodLink "DoorSchoolLaw" (46 : Nat) ({ cls := "DoorSchool", name := "house", desc := "(II)I" } : Jvm.MethodName)), (Jvm.Cond.instanceMethod ({ cls := "DoorSchool", name := "house", desc := "(II)I" } : Jvm.MethodName)), (Jvm.Cond.selects "DoorSchool" ({ cls := "DoorSchool", name := "house", desc := "(II)I" } : Jvm.MethodName) ({ cls := "DoorSchool", name := "house", desc := "(II)I" } : Jvm.MethodName))]
def bk_3_8 : List Cond := [(Jvm.Cond.code ({ cls := "DoorSchool", name := "house", desc := "(II)I" } : Jvm.MethodName) prog_1_method_9_code (5 : Nat) (Option.some Jvm.ClassFile.FieldType.int)), (Jvm.Cond.methodLinkNest "DoorSchool" (146 : Nat) ({ cls := "DoorSchool$Plan", name := "exists", desc := "()Z" } : Jvm.MethodName) "DoorSchool"), (Jvm.Cond.privateMethod ({ cls := "DoorSchool$Plan", name := "exists", desc := "()Z" } : Jvm.MethodName)), (Jvm.Cond.instanceMethod ({ cls := "DoorSchool$Plan", name := "exists", desc := "()Z" } : Jvm.MethodName)), (Jvm.Cond.code ({ cls := "DoorSchool$Plan", name := "exists", desc := "()Z" } : Jvm.MethodName) prog_6_method_4_code (1 : Nat) (Option.some Jvm.ClassFile.FieldType.boolean)), (Jvm.Cond.methodLinkNest "DoorSchool" (150 : Nat) ({ cls := "DoorSchool$Plan", name := "isHouse", desc := "(I)Z" } : Jvm.MethodName) "DoorSchool"), (Jvm.Cond.privateMethod ({ cls := "DoorSchool$Plan", name := "isHouse", desc := "(I)Z" } : Jvm.MethodName)), (Jvm.Cond.instanceMethod ({ cls := "DoorSchool$Plan", name := "isHouse", desc := "(I)Z" } : Jvm.MethodName)), (Jvm.Cond.code ({ cls := "DoorSchool$Plan", name := "isHouse", desc := "(I)Z" } : Jvm.MethodName) prog_6_method_7_code (2 : Nat) (Option.some Jvm.ClassFile.FieldType.boolean)), (Jvm.Cond.methodLinkNest "DoorSchool" (165 : Nat) ({ cls := "DoorSchool$Rules", name := "deedsOf", desc := "(II)I" } : Jvm.MethodName) "DoorSchool"), (Jvm.Cond.methodLink "DoorSchool" (169 : Nat) ({ cls := "java/lang/Integer", name := "bitCount", desc := "(I)I" } : Jvm.MethodName)), (Jvm.Cond.methodLink "DoorSchoolLaw" (50 : Nat) ({ cls := "DoorSchool", name := "opens", desc := "(II)I" } : Jvm.MethodName)), (Jvm.Cond.instanceMethod ({ cls := "DoorSchool", name := "opens", desc := "(II)I" } : Jvm.MethodName)), (Jvm.Cond.selects "DoorSchool" ({ cls := "DoorSchool", name := "opens", desc := "(II)I" } : Jvm.MethodName) ({ cls := "DoorSchool", name := "opens", desc := "(II)I" } : Jvm.MethodName)), (Jvm.Cond.code ({ cls := "DoorSchool", name := "opens", desc := "(II)I" } : Jvm.MethodName) prog_1_method_10_code (3 : Nat) (Option.some Jvm.ClassFile.FieldType.int)), (Jvm.Cond.methodLinkNest "DoorSchool" (175 : Nat) ({ cls := "DoorSchool$Plan", name := "isKnock", desc := "(I)Z" } : Jvm.MethodName) "DoorSchool")]
def bk_3_9 : List Cond := [(Jvm.Cond.privateMethod ({ cls := "DoorSchool$Plan", name := "isKnock", desc := "(I)Z" } : Jvm.MethodName)), (Jvm.Cond.instanceMethod ({ cls := "DoorSchool$Plan", name := "isKnock", desc := "(I)Z" } : Jvm.MethodName)), (Jvm.Cond.code ({ cls := "DoorSchool$Plan", name := "isKnock", desc := "(I)Z" } : Jvm.MethodName) prog_6_method_8_code (2 : Nat) (Option.some Jvm.ClassFile.FieldType.boolean)), (Jvm.Cond.methodLink "DoorSchool$Plan" (91 : Nat) ({ cls := "DoorSchool$Plan", name := "exists", desc := "()Z" } : Jvm.MethodName)), (Jvm.Cond.methodLink "DoorSchool$Plan" (95 : Nat) ({ cls := "DoorSchool$Plan", name := "knocks", desc := "()I" } : Jvm.MethodName)), (Jvm.Cond.methodLink "DoorSchool" (178 : Nat) ({ cls := "DoorSchool", name := "doneBy", desc := "(I)I" } : Jvm.MethodName)), (Jvm.Cond.privateMethod ({ cls := "DoorSchool", name := "doneBy", desc := "(I)I" } : Jvm.MethodName)), (Jvm.Cond.instanceMethod ({ cls := "DoorSchool", name := "doneBy", desc := "(I)I" } : Jvm.MethodName)), (Jvm.Cond.code ({ cls := "DoorSchool", name := "doneBy", desc := "(I)I" } : Jvm.MethodName) prog_1_method_73_code (3 : Nat) (Option.some Jvm.ClassFile.FieldType.int)), (Jvm.Cond.methodLinkNest "DoorSchool" (184 : Nat) ({ cls := "DoorSchool$Plan", name := "modelOf", desc := "(I)LDoorSchool$Door;" } : Jvm.MethodName) "DoorSchool"), (Jvm.Cond.privateMethod ({ cls := "DoorSchool$Plan", name := "modelOf", desc := "(I)LDoorSchool$Door;" } : Jvm.MethodName)), (Jvm.Cond.instanceMethod ({ cls := "DoorSchool$Plan", name := "modelOf", desc := "(I)LDoorSchool$Door;" } : Jvm.MethodName)), (Jvm.Cond.code ({ cls := "DoorSchool$Plan", name := "modelOf", desc := "(I)LDoorSchool$Door;" } : Jvm.MethodName) prog_6_method_12_code (3 : Nat) (Option.some (Jvm.ClassFile.FieldType.object "DoorSchool$Door"))), (Jvm.Cond.methodLinkNest "DoorSchool" (397 : Nat) ({ cls := "DoorSchool$Learner", name := "learn", desc := "(ILDoorSchool$Lessons;)I" } : Jvm.MethodName) "DoorSchool"), (Jvm.Cond.privateMethod ({ cls := "DoorSchool$Learner", name := "learn", desc := "(ILDoorSchool$Lessons;)I" } : Jvm.MethodName)), (Jvm.Cond.instanceMethod ({ cls := "DoorSchool$Learner", name := "learn", desc := "(ILDoorSchool$Lessons;)I" } : Jvm.MethodName))]
def bk_3_10 : List Cond := [(Jvm.Cond.code ({ cls := "DoorSchool$Learner", name := "learn", desc := "(ILDoorSchool$Lessons;)I" } : Jvm.MethodName) prog_4_method_2_code (6 : Nat) (Option.some Jvm.ClassFile.FieldType.int)), (Jvm.Cond.methodLinkNest "DoorSchool$Learner" (25 : Nat) ({ cls := "DoorSchool$Lessons", name := "said", desc := "(I)I" } : Jvm.MethodName) "DoorSchool"), (Jvm.Cond.privateMethod ({ cls := "DoorSchool$Lessons", name := "said", desc := "(I)I" } : Jvm.MethodName)), (Jvm.Cond.instanceMethod ({ cls := "DoorSchool$Lessons", name := "said", desc := "(I)I" } : Jvm.MethodName)), (Jvm.Cond.code ({ cls := "DoorSchool$Lessons", name := "said", desc := "(I)I" } : Jvm.MethodName) prog_5_method_7_code (4 : Nat) (Option.some Jvm.ClassFile.FieldType.int)), (Jvm.Cond.methodLinkNest "DoorSchool$Learner" (30 : Nat) ({ cls := "DoorSchool$Rules", name := "first", desc := "(II)I" } : Jvm.MethodName) "DoorSchool"), (Jvm.Cond.privateMethod ({ cls := "DoorSchool$Rules", name := "first", desc := "(II)I" } : Jvm.MethodName)), (Jvm.Cond.instanceMethod ({ cls := "DoorSchool$Rules", name := "first", desc := "(II)I" } : Jvm.MethodName)), (Jvm.Cond.code ({ cls := "DoorSchool$Rules", name := "first", desc := "(II)I" } : Jvm.MethodName) prog_8_method_6_code (4 : Nat) (Option.some Jvm.ClassFile.FieldType.int)), (Jvm.Cond.methodLinkNest "DoorSchool$Rules" (42 : Nat) ({ cls := "DoorSchool", name := "agree", desc := "(III)Z" } : Jvm.MethodName) "DoorSchool"), (Jvm.Cond.static ({ cls := "DoorSchool", name := "agree", desc := "(III)Z" } : Jvm.MethodName)), (Jvm.Cond.code ({ cls := "DoorSchool", name := "agree", desc := "(III)Z" } : Jvm.MethodName) prog_1_method_72_code (3 : Nat) (Option.some Jvm.ClassFile.FieldType.boolean)), (Jvm.Cond.methodLinkNest "DoorSchool$Learner" (43 : Nat) ({ cls := "DoorSchool$Lessons", name := "latestOf", desc := "(I)I" } : Jvm.MethodName) "DoorSchool"), (Jvm.Cond.privateMethod ({ cls := "DoorSchool$Lessons", name := "latestOf", desc := "(I)I" } : Jvm.MethodName)), (Jvm.Cond.instanceMethod ({ cls := "DoorSchool$Lessons", name := "latestOf", desc := "(I)I" } : Jvm.MethodName)), (Jvm.Cond.code ({ cls := "DoorSchool$Lessons", name := "latestOf", desc := "(I)I" } : Jvm.MethodName) prog_5_method_8_code (3 : Nat) (Option.some Jvm.ClassFile.FieldType.int))]
def bk_3_11 : List Cond := [(Jvm.Cond.methodLinkNest "DoorSchool$Learner" (46 : Nat) ({ cls := "DoorSchool$Lessons", name := "nearestTo", desc := "(I)I" } : Jvm.MethodName) "DoorSchool"), (Jvm.Cond.privateMethod ({ cls := "DoorSchool$Lessons", name := "nearestTo", desc := "(I)I" } : Jvm.MethodName)), (Jvm.Cond.instanceMethod ({ cls := "DoorSchool$Lessons", name := "nearestTo", desc := "(I)I" } : Jvm.MethodName)), (Jvm.Cond.code ({ cls := "DoorSchool$Lessons", name := "nearestTo", desc := "(I)I" } : Jvm.MethodName) prog_5_method_9_code (6 : Nat) (Option.some Jvm.ClassFile.FieldType.int)), (Jvm.Cond.methodLink "DoorSchool$Lessons" (36 : Nat) ({ cls := "java/lang/Integer", name := "bitCount", desc := "(I)I" } : Jvm.MethodName)), (Jvm.Cond.methodLink "DoorSchool" (181 : Nat) ({ cls := "DoorSchool", name := "bit", desc := "(II)I" } : Jvm.MethodName)), (Jvm.Cond.static ({ cls := "DoorSchool", name := "bit", desc := "(II)I" } : Jvm.MethodName)), (Jvm.Cond.code ({ cls := "DoorSchool", name := "bit", desc := "(II)I" } : Jvm.MethodName) prog_1_method_71_code (2 : Nat) (Option.some Jvm.ClassFile.FieldType.int)), (Jvm.Cond.methodLink "DoorSchoolLaw" (54 : Nat) ({ cls := "DoorSchool", name := "deeds", desc := "(I)I" } : Jvm.MethodName)), (Jvm.Cond.instanceMethod ({ cls := "DoorSchool", name := "deeds", desc := "(I)I" } : Jvm.MethodName)), (Jvm.Cond.selects "DoorSchool" ({ cls := "DoorSchool", name := "deeds", desc := "(I)I" } : Jvm.MethodName) ({ cls := "DoorSchool", name := "deeds", desc := "(I)I" } : Jvm.MethodName)), (Jvm.Cond.code ({ cls := "DoorSchool", name := "deeds", desc := "(I)I" } : Jvm.MethodName) prog_1_method_11_code (2 : Nat) (Option.some Jvm.ClassFile.FieldType.int)), (Jvm.Cond.methodLink "DoorSchoolLaw" (58 : Nat) ({ cls := "DoorSchool", name := "often", desc := "(I)I" } : Jvm.MethodName)), (Jvm.Cond.instanceMethod ({ cls := "DoorSchool", name := "often", desc := "(I)I" } : Jvm.MethodName)), (Jvm.Cond.selects "DoorSchool" ({ cls := "DoorSchool", name := "often", desc := "(I)I" } : Jvm.MethodName) ({ cls := "DoorSchool", name := "often", desc := "(I)I" } : Jvm.MethodName)), (Jvm.Cond.code ({ cls := "DoorSchool", name := "often", desc := "(I)I" } : Jvm.MethodName) prog_1_method_12_code (2 : Nat) (Option.some Jvm.ClassFile.FieldType.int))]
def bk_3_12 : List Cond := [(Jvm.Cond.methodLink "DoorSchoolLaw" (62 : Nat) ({ cls := "DoorSchool", name := "why", desc := "(II)I" } : Jvm.MethodName)), (Jvm.Cond.instanceMethod ({ cls := "DoorSchool", name := "why", desc := "(II)I" } : Jvm.MethodName)), (Jvm.Cond.selects "DoorSchool" ({ cls := "DoorSchool", name := "why", desc := "(II)I" } : Jvm.MethodName) ({ cls := "DoorSchool", name := "why", desc := "(II)I" } : Jvm.MethodName)), (Jvm.Cond.code ({ cls := "DoorSchool", name := "why", desc := "(II)I" } : Jvm.MethodName) prog_1_method_13_code (4 : Nat) (Option.some Jvm.ClassFile.FieldType.int)), (Jvm.Cond.methodLinkNest "DoorSchool" (188 : Nat) ({ cls := "DoorSchool$Lessons", name := "latestOf", desc := "(I)I" } : Jvm.MethodName) "DoorSchool"), (Jvm.Cond.methodLinkNest "DoorSchool" (191 : Nat) ({ cls := "DoorSchool$Lessons", name := "nearestTo", desc := "(I)I" } : Jvm.MethodName) "DoorSchool"), (Jvm.Cond.methodLink "DoorSchoolLaw" (66 : Nat) ({ cls := "DoorSchool", name := "rule", desc := "(II)I" } : Jvm.MethodName)), (Jvm.Cond.instanceMethod ({ cls := "DoorSchool", name := "rule", desc := "(II)I" } : Jvm.MethodName)), (Jvm.Cond.selects "DoorSchool" ({ cls := "DoorSchool", name := "rule", desc := "(II)I" } : Jvm.MethodName) ({ cls := "DoorSchool", name := "rule", desc := "(II)I" } : Jvm.MethodName)), (Jvm.Cond.code ({ cls := "DoorSchool", name := "rule", desc := "(II)I" } : Jvm.MethodName) prog_1_method_14_code (5 : Nat) (Option.some Jvm.ClassFile.FieldType.int)), (Jvm.Cond.methodLinkNest "DoorSchool" (194 : Nat) ({ cls := "DoorSchool$Lessons", name := "said", desc := "(I)I" } : Jvm.MethodName) "DoorSchool"), (Jvm.Cond.methodLinkNest "DoorSchool" (197 : Nat) ({ cls := "DoorSchool$Rules", name := "first", desc := "(II)I" } : Jvm.MethodName) "DoorSchool"), (Jvm.Cond.methodLink "DoorSchoolLaw" (70 : Nat) ({ cls := "DoorSchool", name := "rules", desc := "(I)I" } : Jvm.MethodName)), (Jvm.Cond.instanceMethod ({ cls := "DoorSchool", name := "rules", desc := "(I)I" } : Jvm.MethodName)), (Jvm.Cond.selects "DoorSchool" ({ cls := "DoorSchool", name := "rules", desc := "(I)I" } : Jvm.MethodName) ({ cls := "DoorSchool", name := "rules", desc := "(I)I" } : Jvm.MethodName)), (Jvm.Cond.code ({ cls := "DoorSchool", name := "rules", desc := "(I)I" } : Jvm.MethodName) prog_1_method_15_code (3 : Nat) (Option.some Jvm.ClassFile.FieldType.int))]
def bk_3_13 : List Cond := [(Jvm.Cond.methodLinkNest "DoorSchool" (205 : Nat) ({ cls := "DoorSchool$Rules", name := "howMany", desc := "(II)I" } : Jvm.MethodName) "DoorSchool"), (Jvm.Cond.privateMethod ({ cls := "DoorSchool$Rules", name := "howMany", desc := "(II)I" } : Jvm.MethodName)), (Jvm.Cond.instanceMethod ({ cls := "DoorSchool$Rules", name := "howMany", desc := "(II)I" } : Jvm.MethodName)), (Jvm.Cond.code ({ cls := "DoorSchool$Rules", name := "howMany", desc := "(II)I" } : Jvm.MethodName) prog_8_method_7_code (5 : Nat) (Option.some Jvm.ClassFile.FieldType.int)), (Jvm.Cond.methodLink "DoorSchoolLaw" (74 : Nat) ({ cls := "DoorSchool", name := "does", desc := "(II)I" } : Jvm.MethodName)), (Jvm.Cond.instanceMethod ({ cls := "DoorSchool", name := "does", desc := "(II)I" } : Jvm.MethodName)), (Jvm.Cond.selects "DoorSchool" ({ cls := "DoorSchool", name := "does", desc := "(II)I" } : Jvm.MethodName) ({ cls := "DoorSchool", name := "does", desc := "(II)I" } : Jvm.MethodName)), (Jvm.Cond.code ({ cls := "DoorSchool", name := "does", desc := "(II)I" } : Jvm.MethodName) prog_1_method_16_code (3 : Nat) (Option.some Jvm.ClassFile.FieldType.int)), (Jvm.Cond.methodLinkNest "DoorSchool" (208 : Nat) ({ cls := "DoorSchool$Plan", name := "isRule", desc := "(II)Z" } : Jvm.MethodName) "DoorSchool"), (Jvm.Cond.privateMethod ({ cls := "DoorSchool$Plan", name := "isRule", desc := "(II)Z" } : Jvm.MethodName)), (Jvm.Cond.instanceMethod ({ cls := "DoorSchool$Plan", name := "isRule", desc := "(II)Z" } : Jvm.MethodName)), (Jvm.Cond.code ({ cls := "DoorSchool$Plan", name := "isRule", desc := "(II)Z" } : Jvm.MethodName) prog_6_method_9_code (3 : Nat) (Option.some Jvm.ClassFile.FieldType.boolean)), (Jvm.Cond.methodLink "DoorSchool$Plan" (99 : Nat) ({ cls := "DoorSchool$Plan", name := "isKnock", desc := "(I)Z" } : Jvm.MethodName)), (Jvm.Cond.methodLink "DoorSchoolLaw" (78 : Nat) ({ cls := "DoorSchool", name := "told", desc := "(II)I" } : Jvm.MethodName)), (Jvm.Cond.instanceMethod ({ cls := "DoorSchool", name := "told", desc := "(II)I" } : Jvm.MethodName)), (Jvm.Cond.selects "DoorSchool" ({ cls := "DoorSchool", name := "told", desc := "(II)I" } : Jvm.MethodName) ({ cls := "DoorSchool", name := "told", desc := "(II)I" } : Jvm.MethodName))]
def bk_3_14 : List Cond := [(Jvm.Cond.code ({ cls := "DoorSchool", name := "told", desc := "(II)I" } : Jvm.MethodName) prog_1_method_17_code (4 : Nat) (Option.some Jvm.ClassFile.FieldType.int)), (Jvm.Cond.methodLinkNest "DoorSchool" (212 : Nat) ({ cls := "DoorSchool$Plan", name := "isDeeds", desc := "(I)Z" } : Jvm.MethodName) "DoorSchool"), (Jvm.Cond.privateMethod ({ cls := "DoorSchool$Plan", name := "isDeeds", desc := "(I)Z" } : Jvm.MethodName)), (Jvm.Cond.instanceMethod ({ cls := "DoorSchool$Plan", name := "isDeeds", desc := "(I)Z" } : Jvm.MethodName)), (Jvm.Cond.code ({ cls := "DoorSchool$Plan", name := "isDeeds", desc := "(I)Z" } : Jvm.MethodName) prog_6_method_10_code (2 : Nat) (Option.some Jvm.ClassFile.FieldType.boolean)), (Jvm.Cond.methodLinkNest "DoorSchool" (215 : Nat) ({ cls := "DoorSchool$Rules", name := "placeOf", desc := "(I)I" } : Jvm.MethodName) "DoorSchool"), (Jvm.Cond.privateMethod ({ cls := "DoorSchool$Rules", name := "placeOf", desc := "(I)I" } : Jvm.MethodName)), (Jvm.Cond.instanceMethod ({ cls := "DoorSchool$Rules", name := "placeOf", desc := "(I)I" } : Jvm.MethodName)), (Jvm.Cond.code ({ cls := "DoorSchool$Rules", name := "placeOf", desc := "(I)I" } : Jvm.MethodName) prog_8_method_5_code (3 : Nat) (Option.some Jvm.ClassFile.FieldType.int)), (Jvm.Cond.methodLink "DoorSchoolLaw" (82 : Nat) ({ cls := "DoorSchool", name := "marks", desc := "(I)I" } : Jvm.MethodName)), (Jvm.Cond.instanceMethod ({ cls := "DoorSchool", name := "marks", desc := "(I)I" } : Jvm.MethodName)), (Jvm.Cond.selects "DoorSchool" ({ cls := "DoorSchool", name := "marks", desc := "(I)I" } : Jvm.MethodName) ({ cls := "DoorSchool", name := "marks", desc := "(I)I" } : Jvm.MethodName)), (Jvm.Cond.code ({ cls := "DoorSchool", name := "marks", desc := "(I)I" } : Jvm.MethodName) prog_1_method_18_code (2 : Nat) (Option.some Jvm.ClassFile.FieldType.int)), (Jvm.Cond.methodLink "DoorSchool" (218 : Nat) ({ cls := "DoorSchool", name := "marksFor", desc := "(I)I" } : Jvm.MethodName)), (Jvm.Cond.privateMethod ({ cls := "DoorSchool", name := "marksFor", desc := "(I)I" } : Jvm.MethodName)), (Jvm.Cond.instanceMethod ({ cls := "DoorSchool", name := "marksFor", desc := "(I)I" } : Jvm.MethodName))]
set_option maxRecDepth 20000 in
theorem ct_3 : tables_1_3 = bk_3_0 ++ (bk_3_1 ++ (bk_3_2 ++ (bk_3_3 ++ (bk_3_4 ++ (bk_3_5 ++ (bk_3_6 ++ (bk_3_7 ++ (bk_3_8 ++ (bk_3_9 ++ (bk_3_10 ++ (bk_3_11 ++ (bk_3_12 ++ (bk_3_13 ++ (bk_3_14)))))))))))))) := rfl
theorem bt_3_0 {w : Cond} (h : w ∈ bk_3_0) : w ∈ tables_1_3 := by rw [ct_3]; exact (List.mem_append_left _ h)
theorem bt_3_1 {w : Cond} (h : w ∈ bk_3_1) : w ∈ tables_1_3 := by rw [ct_3]; exact (List.mem_append_right _ (List.mem_append_left _ h))
theorem bt_3_2 {w : Cond} (h : w ∈ bk_3_2) : w ∈ tables_1_3 := by rw [ct_3]; exact (List.mem_append_right _ (List.mem_append_right _ (List.mem_append_left _ h)))
theorem bt_3_3 {w : Cond} (h : w ∈ bk_3_3) : w ∈ tables_1_3 := by rw [ct_3]; exact (List.mem_append_right _ (List.mem_append_right _ (List.mem_append_right _ (List.mem_append_left _ h))))
theorem bt_3_4 {w : Cond} (h : w ∈ bk_3_4) : w ∈ tables_1_3 := by rw [ct_3]; exact (List.mem_append_right _ (List.mem_append_right _ (List.mem_append_right _ (List.mem_append_right _ (List.mem_append_left _ h)))))
theorem bt_3_5 {w : Cond} (h : w ∈ bk_3_5) : w ∈ tables_1_3 := by rw [ct_3]; exact (List.mem_append_right _ (List.mem_append_right _ (List.mem_append_right _ (List.mem_append_right _ (List.mem_append_right _ (List.mem_append_left _ h))))))
theorem bt_3_6 {w : Cond} (h : w ∈ bk_3_6) : w ∈ tables_1_3 := by rw [ct_3]; exact (List.mem_append_right _ (List.mem_append_right _ (List.mem_append_right _ (List.mem_append_right _ (List.mem_append_right _ (List.mem_append_right _ (List.mem_append_left _ h)))))))
theorem bt_3_7 {w : Cond} (h : w ∈ bk_3_7) : w ∈ tables_1_3 := by rw [ct_3]; exact (List.mem_append_right _ (List.mem_append_right _ (List.mem_append_right _ (List.mem_append_right _ (List.mem_append_right _ (List.mem_append_right _ (List.mem_append_right _ (List.mem_append_left _ h))))))))
theorem bt_3_8 {w : Cond} (h : w ∈ bk_3_8) : w ∈ tables_1_3 := by rw [ct_3]; exact (List.mem_append_right _ (List.mem_append_right _ (List.mem_append_right _ (List.mem_append_right _ (List.mem_append_right _ (List.mem_append_right _ (List.mem_append_right _ (List.mem_append_right _ (List.mem_append_left _ h)))))))))
theorem bt_3_9 {w : Cond} (h : w ∈ bk_3_9) : w ∈ tables_1_3 := by rw [ct_3]; exact (List.mem_append_right _ (List.mem_append_right _ (List.mem_append_right _ (List.mem_append_right _ (List.mem_append_right _ (List.mem_append_right _ (List.mem_append_right _ (List.mem_append_right _ (List.mem_append_right _ (List.mem_append_left _ h))))))))))
theorem bt_3_10 {w : Cond} (h : w ∈ bk_3_10) : w ∈ tables_1_3 := by rw [ct_3]; exact (List.mem_append_right _ (List.mem_append_right _ (List.mem_append_right _ (List.mem_append_right _ (List.mem_append_right _ (List.mem_append_right _ (List.mem_append_right _ (List.mem_append_right _ (List.mem_append_right _ (List.mem_append_right _ (List.mem_append_left _ h)))))))))))
theorem bt_3_11 {w : Cond} (h : w ∈ bk_3_11) : w ∈ tables_1_3 := by rw [ct_3]; exact (List.mem_append_right _ (List.mem_append_right _ (List.mem_append_right _ (List.mem_append_right _ (List.mem_append_right _ (List.mem_append_right _ (List.mem_append_right _ (List.mem_append_right _ (List.mem_append_right _ (List.mem_append_right _ (List.mem_append_right _ (List.mem_append_left _ h))))))))))))
theorem bt_3_12 {w : Cond} (h : w ∈ bk_3_12) : w ∈ tables_1_3 := by rw [ct_3]; exact (List.mem_append_right _ (List.mem_append_right _ (List.mem_append_right _ (List.mem_append_right _ (List.mem_append_right _ (List.mem_append_right _ (List.mem_append_right _ (List.mem_append_right _ (List.mem_append_right _ (List.mem_append_right _ (List.mem_append_right _ (List.mem_append_right _ (List.mem_append_left _ h)))))))))))))
theorem bt_3_13 {w : Cond} (h : w ∈ bk_3_13) : w ∈ tables_1_3 := by rw [ct_3]; exact (List.mem_append_right _ (List.mem_append_right _ (List.mem_append_right _ (List.mem_append_right _ (List.mem_append_right _ (List.mem_append_right _ (List.mem_append_right _ (List.mem_append_right _ (List.mem_append_right _ (List.mem_append_right _ (List.mem_append_right _ (List.mem_append_right _ (List.mem_append_right _ (List.mem_append_left _ h))))))))))))))
theorem bt_3_14 {w : Cond} (h : w ∈ bk_3_14) : w ∈ tables_1_3 := by rw [ct_3]; exact (List.mem_append_right _ (List.mem_append_right _ (List.mem_append_right _ (List.mem_append_right _ (List.mem_append_right _ (List.mem_append_right _ (List.mem_append_right _ (List.mem_append_right _ (List.mem_append_right _ (List.mem_append_right _ (List.mem_append_right _ (List.mem_append_right _ (List.mem_append_right _ (List.mem_append_right _ h))))))))))))))
def bk_4_0 : List Cond := [(Jvm.Cond.code ({ cls := "DoorSchool", name := "marksFor", desc := "(I)I" } : Jvm.MethodName) prog_1_method_77_code (2 : Nat) (Option.some Jvm.ClassFile.FieldType.int)), (Jvm.Cond.methodLinkNest "DoorSchool" (227 : Nat) ({ cls := "DoorSchool$Lessons", name := "allAs", desc := "(I)I" } : Jvm.MethodName) "DoorSchool"), (Jvm.Cond.privateMethod ({ cls := "DoorSchool$Lessons", name := "allAs", desc := "(I)I" } : Jvm.MethodName)), (Jvm.Cond.instanceMethod ({ cls := "DoorSchool$Lessons", name := "allAs", desc := "(I)I" } : Jvm.MethodName)), (Jvm.Cond.code ({ cls := "DoorSchool$Lessons", name := "allAs", desc := "(I)I" } : Jvm.MethodName) prog_5_method_10_code (4 : Nat) (Option.some Jvm.ClassFile.FieldType.int)), (Jvm.Cond.methodLinkNest "DoorSchool$Lessons" (42 : Nat) ({ cls := "DoorSchool", name := "bit", desc := "(II)I" } : Jvm.MethodName) "DoorSchool"), (Jvm.Cond.methodLink "DoorSchoolLaw" (86 : Nat) ({ cls := "DoorSchool", name := "wrong", desc := "(I)I" } : Jvm.MethodName)), (Jvm.Cond.instanceMethod ({ cls := "DoorSchool", name := "wrong", desc := "(I)I" } : Jvm.MethodName)), (Jvm.Cond.selects "DoorSchool" ({ cls := "DoorSchool", name := "wrong", desc := "(I)I" } : Jvm.MethodName) ({ cls := "DoorSchool", name := "wrong", desc := "(I)I" } : Jvm.MethodName)), (Jvm.Cond.code ({ cls := "DoorSchool", name := "wrong", desc := "(I)I" } : Jvm.MethodName) prog_1_method_19_code (2 : Nat) (Option.some Jvm.ClassFile.FieldType.int)), (Jvm.Cond.methodLinkNest "DoorSchool" (221 : Nat) ({ cls := "DoorSchool$Lessons", name := "firstNotAs", desc := "(I)I" } : Jvm.MethodName) "DoorSchool"), (Jvm.Cond.privateMethod ({ cls := "DoorSchool$Lessons", name := "firstNotAs", desc := "(I)I" } : Jvm.MethodName)), (Jvm.Cond.instanceMethod ({ cls := "DoorSchool$Lessons", name := "firstNotAs", desc := "(I)I" } : Jvm.MethodName)), (Jvm.Cond.code ({ cls := "DoorSchool$Lessons", name := "firstNotAs", desc := "(I)I" } : Jvm.MethodName) prog_5_method_11_code (3 : Nat) (Option.some Jvm.ClassFile.FieldType.int)), (Jvm.Cond.methodLink "DoorSchoolLaw" (90 : Nat) ({ cls := "DoorSchool", name := "best", desc := "()I" } : Jvm.MethodName)), (Jvm.Cond.instanceMethod ({ cls := "DoorSchool", name := "best", desc := "()I" } : Jvm.MethodName))]
def bk_4_1 : List Cond := [(Jvm.Cond.selects "DoorSchool" ({ cls := "DoorSchool", name := "best", desc := "()I" } : Jvm.MethodName) ({ cls := "DoorSchool", name := "best", desc := "()I" } : Jvm.MethodName)), (Jvm.Cond.code ({ cls := "DoorSchool", name := "best", desc := "()I" } : Jvm.MethodName) prog_1_method_20_code (5 : Nat) (Option.some Jvm.ClassFile.FieldType.int)), (Jvm.Cond.methodLink "DoorSchoolLaw" (94 : Nat) ({ cls := "DoorSchool", name := "hard", desc := "()I" } : Jvm.MethodName)), (Jvm.Cond.instanceMethod ({ cls := "DoorSchool", name := "hard", desc := "()I" } : Jvm.MethodName)), (Jvm.Cond.selects "DoorSchool" ({ cls := "DoorSchool", name := "hard", desc := "()I" } : Jvm.MethodName) ({ cls := "DoorSchool", name := "hard", desc := "()I" } : Jvm.MethodName)), (Jvm.Cond.code ({ cls := "DoorSchool", name := "hard", desc := "()I" } : Jvm.MethodName) prog_1_method_21_code (3 : Nat) (Option.some Jvm.ClassFile.FieldType.int)), (Jvm.Cond.methodLink "DoorSchoolLaw" (98 : Nat) ({ cls := "DoorSchool", name := "teach", desc := "(III)I" } : Jvm.MethodName)), (Jvm.Cond.instanceMethod ({ cls := "DoorSchool", name := "teach", desc := "(III)I" } : Jvm.MethodName)), (Jvm.Cond.selects "DoorSchool" ({ cls := "DoorSchool", name := "teach", desc := "(III)I" } : Jvm.MethodName) ({ cls := "DoorSchool", name := "teach", desc := "(III)I" } : Jvm.MethodName)), (Jvm.Cond.code ({ cls := "DoorSchool", name := "teach", desc := "(III)I" } : Jvm.MethodName) prog_1_method_22_code (5 : Nat) (Option.some Jvm.ClassFile.FieldType.int)), (Jvm.Cond.methodLink "DoorSchool" (230 : Nat) ({ cls := "DoorSchool", name := "isLesson", desc := "(III)Z" } : Jvm.MethodName)), (Jvm.Cond.privateMethod ({ cls := "DoorSchool", name := "isLesson", desc := "(III)Z" } : Jvm.MethodName)), (Jvm.Cond.instanceMethod ({ cls := "DoorSchool", name := "isLesson", desc := "(III)Z" } : Jvm.MethodName)), (Jvm.Cond.code ({ cls := "DoorSchool", name := "isLesson", desc := "(III)Z" } : Jvm.MethodName) prog_1_method_70_code (4 : Nat) (Option.some Jvm.ClassFile.FieldType.boolean)), (Jvm.Cond.methodLinkNest "DoorSchool" (237 : Nat) ({ cls := "DoorSchool$Lessons", name := "add", desc := "(II)V" } : Jvm.MethodName) "DoorSchool"), (Jvm.Cond.methodLink "DoorSchoolLaw" (102 : Nat) ({ cls := "DoorSchool", name := "unteach", desc := "()I" } : Jvm.MethodName))]
def bk_4_2 : List Cond := [(Jvm.Cond.instanceMethod ({ cls := "DoorSchool", name := "unteach", desc := "()I" } : Jvm.MethodName)), (Jvm.Cond.selects "DoorSchool" ({ cls := "DoorSchool", name := "unteach", desc := "()I" } : Jvm.MethodName) ({ cls := "DoorSchool", name := "unteach", desc := "()I" } : Jvm.MethodName)), (Jvm.Cond.code ({ cls := "DoorSchool", name := "unteach", desc := "()I" } : Jvm.MethodName) prog_1_method_23_code (2 : Nat) (Option.some Jvm.ClassFile.FieldType.int)), (Jvm.Cond.methodLinkNest "DoorSchool" (244 : Nat) ({ cls := "DoorSchool$Lessons", name := "dropLast", desc := "()V" } : Jvm.MethodName) "DoorSchool"), (Jvm.Cond.privateMethod ({ cls := "DoorSchool$Lessons", name := "dropLast", desc := "()V" } : Jvm.MethodName)), (Jvm.Cond.instanceMethod ({ cls := "DoorSchool$Lessons", name := "dropLast", desc := "()V" } : Jvm.MethodName)), (Jvm.Cond.code ({ cls := "DoorSchool$Lessons", name := "dropLast", desc := "()V" } : Jvm.MethodName) prog_5_method_3_code (1 : Nat) (Option.none : Option Jvm.ClassFile.FieldType)), (Jvm.Cond.methodLink "DoorSchool$Lessons" (26 : Nat) ({ cls := "DoorSchool$Lessons", name := "takeOut", desc := "(I)V" } : Jvm.MethodName)), (Jvm.Cond.privateMethod ({ cls := "DoorSchool$Lessons", name := "takeOut", desc := "(I)V" } : Jvm.MethodName)), (Jvm.Cond.instanceMethod ({ cls := "DoorSchool$Lessons", name := "takeOut", desc := "(I)V" } : Jvm.MethodName)), (Jvm.Cond.code ({ cls := "DoorSchool$Lessons", name := "takeOut", desc := "(I)V" } : Jvm.MethodName) prog_5_method_5_code (3 : Nat) (Option.none : Option Jvm.ClassFile.FieldType)), (Jvm.Cond.methodLink "DoorSchoolLaw" (106 : Nat) ({ cls := "DoorSchool", name := "gains", desc := "(III)I" } : Jvm.MethodName)), (Jvm.Cond.instanceMethod ({ cls := "DoorSchool", name := "gains", desc := "(III)I" } : Jvm.MethodName)), (Jvm.Cond.selects "DoorSchool" ({ cls := "DoorSchool", name := "gains", desc := "(III)I" } : Jvm.MethodName) ({ cls := "DoorSchool", name := "gains", desc := "(III)I" } : Jvm.MethodName)), (Jvm.Cond.code ({ cls := "DoorSchool", name := "gains", desc := "(III)I" } : Jvm.MethodName) prog_1_method_24_code (4 : Nat) (Option.some Jvm.ClassFile.FieldType.int)), (Jvm.Cond.methodLink "DoorSchool" (247 : Nat) ({ cls := "DoorSchool", name := "gainOf", desc := "(III)I" } : Jvm.MethodName))]
def bk_4_3 : List Cond := [(Jvm.Cond.privateMethod ({ cls := "DoorSchool", name := "gainOf", desc := "(III)I" } : Jvm.MethodName)), (Jvm.Cond.instanceMethod ({ cls := "DoorSchool", name := "gainOf", desc := "(III)I" } : Jvm.MethodName)), (Jvm.Cond.code ({ cls := "DoorSchool", name := "gainOf", desc := "(III)I" } : Jvm.MethodName) prog_1_method_78_code (7 : Nat) (Option.some Jvm.ClassFile.FieldType.int)), (Jvm.Cond.methodLink "DoorSchoolLaw" (110 : Nat) ({ cls := "DoorSchool", name := "help", desc := "(I)I" } : Jvm.MethodName)), (Jvm.Cond.instanceMethod ({ cls := "DoorSchool", name := "help", desc := "(I)I" } : Jvm.MethodName)), (Jvm.Cond.selects "DoorSchool" ({ cls := "DoorSchool", name := "help", desc := "(I)I" } : Jvm.MethodName) ({ cls := "DoorSchool", name := "help", desc := "(I)I" } : Jvm.MethodName)), (Jvm.Cond.code ({ cls := "DoorSchool", name := "help", desc := "(I)I" } : Jvm.MethodName) prog_1_method_25_code (6 : Nat) (Option.some Jvm.ClassFile.FieldType.int)), (Jvm.Cond.methodLinkNest "DoorSchool" (251 : Nat) ({ cls := "DoorSchool$Plan", name := "knocks", desc := "()I" } : Jvm.MethodName) "DoorSchool"), (Jvm.Cond.methodLink "DoorSchoolLaw" (114 : Nat) ({ cls := "DoorSchool", name := "idle", desc := "(I)I" } : Jvm.MethodName)), (Jvm.Cond.instanceMethod ({ cls := "DoorSchool", name := "idle", desc := "(I)I" } : Jvm.MethodName)), (Jvm.Cond.selects "DoorSchool" ({ cls := "DoorSchool", name := "idle", desc := "(I)I" } : Jvm.MethodName) ({ cls := "DoorSchool", name := "idle", desc := "(I)I" } : Jvm.MethodName)), (Jvm.Cond.code ({ cls := "DoorSchool", name := "idle", desc := "(I)I" } : Jvm.MethodName) prog_1_method_26_code (9 : Nat) (Option.some Jvm.ClassFile.FieldType.int)), (Jvm.Cond.methodLinkNest "DoorSchool" (254 : Nat) ({ cls := "DoorSchool$Lessons", name := "takeOut", desc := "(I)V" } : Jvm.MethodName) "DoorSchool"), (Jvm.Cond.methodLinkNest "DoorSchool" (257 : Nat) ({ cls := "DoorSchool$Lessons", name := "putIn", desc := "(III)V" } : Jvm.MethodName) "DoorSchool"), (Jvm.Cond.methodLink "DoorSchoolLaw" (118 : Nat) ({ cls := "DoorSchool", name := "fewest", desc := "(II)I" } : Jvm.MethodName)), (Jvm.Cond.instanceMethod ({ cls := "DoorSchool", name := "fewest", desc := "(II)I" } : Jvm.MethodName))]
def bk_4_4 : List Cond := [(Jvm.Cond.selects "DoorSchool" ({ cls := "DoorSchool", name := "fewest", desc := "(II)I" } : Jvm.MethodName) ({ cls := "DoorSchool", name := "fewest", desc := "(II)I" } : Jvm.MethodName)), (Jvm.Cond.code ({ cls := "DoorSchool", name := "fewest", desc := "(II)I" } : Jvm.MethodName) prog_1_method_27_code (4 : Nat) (Option.some Jvm.ClassFile.FieldType.int)), (Jvm.Cond.methodLink "DoorSchool" (261 : Nat) ({ cls := "DoorSchool", name := "isWay", desc := "(I)Z" } : Jvm.MethodName)), (Jvm.Cond.static ({ cls := "DoorSchool", name := "isWay", desc := "(I)Z" } : Jvm.MethodName)), (Jvm.Cond.code ({ cls := "DoorSchool", name := "isWay", desc := "(I)Z" } : Jvm.MethodName) prog_1_method_67_code (1 : Nat) (Option.some Jvm.ClassFile.FieldType.boolean)), (Jvm.Cond.methodLinkNest "DoorSchool" (264 : Nat) ({ cls := "DoorSchool$Learner", name := "leastSet", desc := "(II)I" } : Jvm.MethodName) "DoorSchool"), (Jvm.Cond.privateMethod ({ cls := "DoorSchool$Learner", name := "leastSet", desc := "(II)I" } : Jvm.MethodName)), (Jvm.Cond.instanceMethod ({ cls := "DoorSchool$Learner", name := "leastSet", desc := "(II)I" } : Jvm.MethodName)), (Jvm.Cond.code ({ cls := "DoorSchool$Learner", name := "leastSet", desc := "(II)I" } : Jvm.MethodName) prog_4_method_6_code (7 : Nat) (Option.some Jvm.ClassFile.FieldType.int)), (Jvm.Cond.methodLink "DoorSchool$Learner" (62 : Nat) ({ cls := "DoorSchool$Learner", name := "allKnocks", desc := "()I" } : Jvm.MethodName)), (Jvm.Cond.privateMethod ({ cls := "DoorSchool$Learner", name := "allKnocks", desc := "()I" } : Jvm.MethodName)), (Jvm.Cond.instanceMethod ({ cls := "DoorSchool$Learner", name := "allKnocks", desc := "()I" } : Jvm.MethodName)), (Jvm.Cond.code ({ cls := "DoorSchool$Learner", name := "allKnocks", desc := "()I" } : Jvm.MethodName) prog_4_method_9_code (1 : Nat) (Option.some Jvm.ClassFile.FieldType.int)), (Jvm.Cond.methodLink "DoorSchool$Learner" (66 : Nat) ({ cls := "DoorSchool$Learner", name := "teaches", desc := "(III)Z" } : Jvm.MethodName)), (Jvm.Cond.privateMethod ({ cls := "DoorSchool$Learner", name := "teaches", desc := "(III)Z" } : Jvm.MethodName)), (Jvm.Cond.instanceMethod ({ cls := "DoorSchool$Learner", name := "teaches", desc := "(III)Z" } : Jvm.MethodName))]
def bk_4_5 : List Cond := [(Jvm.Cond.code ({ cls := "DoorSchool$Learner", name := "teaches", desc := "(III)Z" } : Jvm.MethodName) prog_4_method_5_code (5 : Nat) (Option.some Jvm.ClassFile.FieldType.boolean)), (Jvm.Cond.methodLink "DoorSchool$Learner" (55 : Nat) ({ cls := "DoorSchool$Learner", name := "learnSet", desc := "(III)I" } : Jvm.MethodName)), (Jvm.Cond.privateMethod ({ cls := "DoorSchool$Learner", name := "learnSet", desc := "(III)I" } : Jvm.MethodName)), (Jvm.Cond.instanceMethod ({ cls := "DoorSchool$Learner", name := "learnSet", desc := "(III)I" } : Jvm.MethodName)), (Jvm.Cond.code ({ cls := "DoorSchool$Learner", name := "learnSet", desc := "(III)I" } : Jvm.MethodName) prog_4_method_3_code (6 : Nat) (Option.some Jvm.ClassFile.FieldType.int)), (Jvm.Cond.methodLink "DoorSchool$Learner" (52 : Nat) ({ cls := "DoorSchool$Learner", name := "nearestOf", desc := "(II)I" } : Jvm.MethodName)), (Jvm.Cond.privateMethod ({ cls := "DoorSchool$Learner", name := "nearestOf", desc := "(II)I" } : Jvm.MethodName)), (Jvm.Cond.instanceMethod ({ cls := "DoorSchool$Learner", name := "nearestOf", desc := "(II)I" } : Jvm.MethodName)), (Jvm.Cond.code ({ cls := "DoorSchool$Learner", name := "nearestOf", desc := "(II)I" } : Jvm.MethodName) prog_4_method_4_code (5 : Nat) (Option.some Jvm.ClassFile.FieldType.int)), (Jvm.Cond.methodLinkNest "DoorSchool$Learner" (59 : Nat) ({ cls := "DoorSchool", name := "bit", desc := "(II)I" } : Jvm.MethodName) "DoorSchool"), (Jvm.Cond.methodLink "DoorSchool$Learner" (70 : Nat) ({ cls := "DoorSchool$Learner", name := "needed", desc := "(II)I" } : Jvm.MethodName)), (Jvm.Cond.privateMethod ({ cls := "DoorSchool$Learner", name := "needed", desc := "(II)I" } : Jvm.MethodName)), (Jvm.Cond.instanceMethod ({ cls := "DoorSchool$Learner", name := "needed", desc := "(II)I" } : Jvm.MethodName)), (Jvm.Cond.code ({ cls := "DoorSchool$Learner", name := "needed", desc := "(II)I" } : Jvm.MethodName) prog_4_method_8_code (5 : Nat) (Option.some Jvm.ClassFile.FieldType.int)), (Jvm.Cond.methodLink "DoorSchool$Learner" (73 : Nat) ({ cls := "DoorSchool$Learner", name := "setBehind", desc := "(I)I" } : Jvm.MethodName)), (Jvm.Cond.static ({ cls := "DoorSchool$Learner", name := "setBehind", desc := "(I)I" } : Jvm.MethodName))]
def bk_4_6 : List Cond := [(Jvm.Cond.code ({ cls := "DoorSchool$Learner", name := "setBehind", desc := "(I)I" } : Jvm.MethodName) prog_4_method_10_code (2 : Nat) (Option.some Jvm.ClassFile.FieldType.int)), (Jvm.Cond.constant "DoorSchool$Learner" (76 : Nat) (65536 : Int32)), (Jvm.Cond.methodLink "DoorSchoolLaw" (122 : Nat) ({ cls := "DoorSchool", name := "course", desc := "(II)I" } : Jvm.MethodName)), (Jvm.Cond.instanceMethod ({ cls := "DoorSchool", name := "course", desc := "(II)I" } : Jvm.MethodName)), (Jvm.Cond.selects "DoorSchool" ({ cls := "DoorSchool", name := "course", desc := "(II)I" } : Jvm.MethodName) ({ cls := "DoorSchool", name := "course", desc := "(II)I" } : Jvm.MethodName)), (Jvm.Cond.code ({ cls := "DoorSchool", name := "course", desc := "(II)I" } : Jvm.MethodName) prog_1_method_28_code (3 : Nat) (Option.some Jvm.ClassFile.FieldType.int)), (Jvm.Cond.methodLink "DoorSchoolLaw" (126 : Nat) ({ cls := "DoorSchool", name := "sets", desc := "(III)I" } : Jvm.MethodName)), (Jvm.Cond.instanceMethod ({ cls := "DoorSchool", name := "sets", desc := "(III)I" } : Jvm.MethodName)), (Jvm.Cond.selects "DoorSchool" ({ cls := "DoorSchool", name := "sets", desc := "(III)I" } : Jvm.MethodName) ({ cls := "DoorSchool", name := "sets", desc := "(III)I" } : Jvm.MethodName)), (Jvm.Cond.code ({ cls := "DoorSchool", name := "sets", desc := "(III)I" } : Jvm.MethodName) prog_1_method_29_code (4 : Nat) (Option.some Jvm.ClassFile.FieldType.int)), (Jvm.Cond.methodLinkNest "DoorSchool" (267 : Nat) ({ cls := "DoorSchool$Learner", name := "setsOf", desc := "(III)I" } : Jvm.MethodName) "DoorSchool"), (Jvm.Cond.privateMethod ({ cls := "DoorSchool$Learner", name := "setsOf", desc := "(III)I" } : Jvm.MethodName)), (Jvm.Cond.instanceMethod ({ cls := "DoorSchool$Learner", name := "setsOf", desc := "(III)I" } : Jvm.MethodName)), (Jvm.Cond.code ({ cls := "DoorSchool$Learner", name := "setsOf", desc := "(III)I" } : Jvm.MethodName) prog_4_method_7_code (8 : Nat) (Option.some Jvm.ClassFile.FieldType.int)), (Jvm.Cond.methodLink "DoorSchoolLaw" (130 : Nat) ({ cls := "DoorSchool", name := "easiest", desc := "(I)I" } : Jvm.MethodName)), (Jvm.Cond.instanceMethod ({ cls := "DoorSchool", name := "easiest", desc := "(I)I" } : Jvm.MethodName))]
def bk_4_7 : List Cond := [(Jvm.Cond.selects "DoorSchool" ({ cls := "DoorSchool", name := "easiest", desc := "(I)I" } : Jvm.MethodName) ({ cls := "DoorSchool", name := "easiest", desc := "(I)I" } : Jvm.MethodName)), (Jvm.Cond.code ({ cls := "DoorSchool", name := "easiest", desc := "(I)I" } : Jvm.MethodName) prog_1_method_30_code (6 : Nat) (Option.some Jvm.ClassFile.FieldType.int)), (Jvm.Cond.methodLink "DoorSchoolLaw" (134 : Nat) ({ cls := "DoorSchool", name := "fooled", desc := "(II)I" } : Jvm.MethodName)), (Jvm.Cond.instanceMethod ({ cls := "DoorSchool", name := "fooled", desc := "(II)I" } : Jvm.MethodName)), (Jvm.Cond.selects "DoorSchool" ({ cls := "DoorSchool", name := "fooled", desc := "(II)I" } : Jvm.MethodName) ({ cls := "DoorSchool", name := "fooled", desc := "(II)I" } : Jvm.MethodName)), (Jvm.Cond.code ({ cls := "DoorSchool", name := "fooled", desc := "(II)I" } : Jvm.MethodName) prog_1_method_31_code (3 : Nat) (Option.some Jvm.ClassFile.FieldType.int)), (Jvm.Cond.methodLink "DoorSchool" (270 : Nat) ({ cls := "DoorSchool", name := "fooling", desc := "(I)I" } : Jvm.MethodName)), (Jvm.Cond.privateMethod ({ cls := "DoorSchool", name := "fooling", desc := "(I)I" } : Jvm.MethodName)), (Jvm.Cond.instanceMethod ({ cls := "DoorSchool", name := "fooling", desc := "(I)I" } : Jvm.MethodName)), (Jvm.Cond.code ({ cls := "DoorSchool", name := "fooling", desc := "(I)I" } : Jvm.MethodName) prog_1_method_79_code (2 : Nat) (Option.some Jvm.ClassFile.FieldType.int)), (Jvm.Cond.methodLink "DoorSchool" (273 : Nat) ({ cls := "DoorSchool", name := "ownerDeeds", desc := "()I" } : Jvm.MethodName)), (Jvm.Cond.privateMethod ({ cls := "DoorSchool", name := "ownerDeeds", desc := "()I" } : Jvm.MethodName)), (Jvm.Cond.instanceMethod ({ cls := "DoorSchool", name := "ownerDeeds", desc := "()I" } : Jvm.MethodName)), (Jvm.Cond.code ({ cls := "DoorSchool", name := "ownerDeeds", desc := "()I" } : Jvm.MethodName) prog_1_method_75_code (1 : Nat) (Option.some Jvm.ClassFile.FieldType.int)), (Jvm.Cond.methodLink "DoorSchoolLaw" (138 : Nat) ({ cls := "DoorSchool", name := "tries", desc := "(II)I" } : Jvm.MethodName)), (Jvm.Cond.instanceMethod ({ cls := "DoorSchool", name := "tries", desc := "(II)I" } : Jvm.MethodName))]
def bk_4_8 : List Cond := [(Jvm.Cond.selects "DoorSchool" ({ cls := "DoorSchool", name := "tries", desc := "(II)I" } : Jvm.MethodName) ({ cls := "DoorSchool", name := "tries", desc := "(II)I" } : Jvm.MethodName)), (Jvm.Cond.code ({ cls := "DoorSchool", name := "tries", desc := "(II)I" } : Jvm.MethodName) prog_1_method_32_code (4 : Nat) (Option.some Jvm.ClassFile.FieldType.int)), (Jvm.Cond.methodLink "DoorSchool" (276 : Nat) ({ cls := "DoorSchool", name := "trick", desc := "(II)I" } : Jvm.MethodName)), (Jvm.Cond.instanceMethod ({ cls := "DoorSchool", name := "trick", desc := "(II)I" } : Jvm.MethodName)), (Jvm.Cond.selects "DoorSchool" ({ cls := "DoorSchool", name := "trick", desc := "(II)I" } : Jvm.MethodName) ({ cls := "DoorSchool", name := "trick", desc := "(II)I" } : Jvm.MethodName)), (Jvm.Cond.code ({ cls := "DoorSchool", name := "trick", desc := "(II)I" } : Jvm.MethodName) prog_1_method_33_code (8 : Nat) (Option.some Jvm.ClassFile.FieldType.int)), (Jvm.Cond.methodLink "DoorSchoolLaw" (142 : Nat) ({ cls := "DoorSchool", name := "trick", desc := "(II)I" } : Jvm.MethodName)), (Jvm.Cond.methodLink "DoorSchoolLaw" (146 : Nat) ({ cls := "DoorSchool", name := "harden", desc := "(I)I" } : Jvm.MethodName)), (Jvm.Cond.instanceMethod ({ cls := "DoorSchool", name := "harden", desc := "(I)I" } : Jvm.MethodName)), (Jvm.Cond.selects "DoorSchool" ({ cls := "DoorSchool", name := "harden", desc := "(I)I" } : Jvm.MethodName) ({ cls := "DoorSchool", name := "harden", desc := "(I)I" } : Jvm.MethodName)), (Jvm.Cond.code ({ cls := "DoorSchool", name := "harden", desc := "(I)I" } : Jvm.MethodName) prog_1_method_34_code (6 : Nat) (Option.some Jvm.ClassFile.FieldType.int)), (Jvm.Cond.methodLink "DoorSchool" (279 : Nat) ({ cls := "DoorSchool", name := "foolingAfter", desc := "(II)I" } : Jvm.MethodName)), (Jvm.Cond.privateMethod ({ cls := "DoorSchool", name := "foolingAfter", desc := "(II)I" } : Jvm.MethodName)), (Jvm.Cond.instanceMethod ({ cls := "DoorSchool", name := "foolingAfter", desc := "(II)I" } : Jvm.MethodName)), (Jvm.Cond.code ({ cls := "DoorSchool", name := "foolingAfter", desc := "(II)I" } : Jvm.MethodName) prog_1_method_80_code (5 : Nat) (Option.some Jvm.ClassFile.FieldType.int)), (Jvm.Cond.methodLink "DoorSchoolLaw" (150 : Nat) ({ cls := "DoorSchool", name := "left", desc := "(I)I" } : Jvm.MethodName))]
def bk_4_9 : List Cond := [(Jvm.Cond.instanceMethod ({ cls := "DoorSchool", name := "left", desc := "(I)I" } : Jvm.MethodName)), (Jvm.Cond.selects "DoorSchool" ({ cls := "DoorSchool", name := "left", desc := "(I)I" } : Jvm.MethodName) ({ cls := "DoorSchool", name := "left", desc := "(I)I" } : Jvm.MethodName)), (Jvm.Cond.code ({ cls := "DoorSchool", name := "left", desc := "(I)I" } : Jvm.MethodName) prog_1_method_35_code (3 : Nat) (Option.some Jvm.ClassFile.FieldType.int)), (Jvm.Cond.methodLink "DoorSchool" (282 : Nat) ({ cls := "DoorSchool", name := "harden", desc := "(I)I" } : Jvm.MethodName)), (Jvm.Cond.methodLink "DoorSchoolLaw" (154 : Nat) ({ cls := "DoorSchool", name := "game", desc := "(III)I" } : Jvm.MethodName)), (Jvm.Cond.instanceMethod ({ cls := "DoorSchool", name := "game", desc := "(III)I" } : Jvm.MethodName)), (Jvm.Cond.selects "DoorSchool" ({ cls := "DoorSchool", name := "game", desc := "(III)I" } : Jvm.MethodName) ({ cls := "DoorSchool", name := "game", desc := "(III)I" } : Jvm.MethodName)), (Jvm.Cond.code ({ cls := "DoorSchool", name := "game", desc := "(III)I" } : Jvm.MethodName) prog_1_method_36_code (4 : Nat) (Option.some Jvm.ClassFile.FieldType.int)), (Jvm.Cond.methodLink "DoorSchool" (285 : Nat) ({ cls := "DoorSchool", name := "stolenBy", desc := "(II)I" } : Jvm.MethodName)), (Jvm.Cond.privateMethod ({ cls := "DoorSchool", name := "stolenBy", desc := "(II)I" } : Jvm.MethodName)), (Jvm.Cond.instanceMethod ({ cls := "DoorSchool", name := "stolenBy", desc := "(II)I" } : Jvm.MethodName)), (Jvm.Cond.code ({ cls := "DoorSchool", name := "stolenBy", desc := "(II)I" } : Jvm.MethodName) prog_1_method_81_code (3 : Nat) (Option.some Jvm.ClassFile.FieldType.int)), (Jvm.Cond.methodLink "DoorSchool" (291 : Nat) ({ cls := "DoorSchool", name := "wouldDo", desc := "(II)I" } : Jvm.MethodName)), (Jvm.Cond.privateMethod ({ cls := "DoorSchool", name := "wouldDo", desc := "(II)I" } : Jvm.MethodName)), (Jvm.Cond.instanceMethod ({ cls := "DoorSchool", name := "wouldDo", desc := "(II)I" } : Jvm.MethodName)), (Jvm.Cond.code ({ cls := "DoorSchool", name := "wouldDo", desc := "(II)I" } : Jvm.MethodName) prog_1_method_74_code (3 : Nat) (Option.some Jvm.ClassFile.FieldType.int))]
def bk_4_10 : List Cond := [(Jvm.Cond.methodLink "DoorSchoolLaw" (158 : Nat) ({ cls := "DoorSchool", name := "rests", desc := "(I)I" } : Jvm.MethodName)), (Jvm.Cond.instanceMethod ({ cls := "DoorSchool", name := "rests", desc := "(I)I" } : Jvm.MethodName)), (Jvm.Cond.selects "DoorSchool" ({ cls := "DoorSchool", name := "rests", desc := "(I)I" } : Jvm.MethodName) ({ cls := "DoorSchool", name := "rests", desc := "(I)I" } : Jvm.MethodName)), (Jvm.Cond.code ({ cls := "DoorSchool", name := "rests", desc := "(I)I" } : Jvm.MethodName) prog_1_method_37_code (5 : Nat) (Option.some Jvm.ClassFile.FieldType.int)), (Jvm.Cond.methodLink "DoorSchool" (288 : Nat) ({ cls := "DoorSchool", name := "isRest", desc := "(III)Z" } : Jvm.MethodName)), (Jvm.Cond.privateMethod ({ cls := "DoorSchool", name := "isRest", desc := "(III)Z" } : Jvm.MethodName)), (Jvm.Cond.instanceMethod ({ cls := "DoorSchool", name := "isRest", desc := "(III)Z" } : Jvm.MethodName)), (Jvm.Cond.code ({ cls := "DoorSchool", name := "isRest", desc := "(III)Z" } : Jvm.MethodName) prog_1_method_82_code (5 : Nat) (Option.some Jvm.ClassFile.FieldType.boolean)), (Jvm.Cond.methodLink "DoorSchoolLaw" (162 : Nat) ({ cls := "DoorSchool", name := "rest", desc := "(I)I" } : Jvm.MethodName)), (Jvm.Cond.instanceMethod ({ cls := "DoorSchool", name := "rest", desc := "(I)I" } : Jvm.MethodName)), (Jvm.Cond.selects "DoorSchool" ({ cls := "DoorSchool", name := "rest", desc := "(I)I" } : Jvm.MethodName) ({ cls := "DoorSchool", name := "rest", desc := "(I)I" } : Jvm.MethodName)), (Jvm.Cond.code ({ cls := "DoorSchool", name := "rest", desc := "(I)I" } : Jvm.MethodName) prog_1_method_38_code (4 : Nat) (Option.some Jvm.ClassFile.FieldType.int)), (Jvm.Cond.methodLink "DoorSchoolLaw" (166 : Nat) ({ cls := "DoorSchool", name := "way", desc := "(II)I" } : Jvm.MethodName)), (Jvm.Cond.instanceMethod ({ cls := "DoorSchool", name := "way", desc := "(II)I" } : Jvm.MethodName)), (Jvm.Cond.selects "DoorSchool" ({ cls := "DoorSchool", name := "way", desc := "(II)I" } : Jvm.MethodName) ({ cls := "DoorSchool", name := "way", desc := "(II)I" } : Jvm.MethodName)), (Jvm.Cond.code ({ cls := "DoorSchool", name := "way", desc := "(II)I" } : Jvm.MethodName) prog_1_method_39_code (7 : Nat) (Option.some Jvm.ClassFile.FieldType.int))]
def bk_4_11 : List Cond := [(Jvm.Cond.methodLink "DoorSchoolLaw" (170 : Nat) ({ cls := "DoorSchool", name := "errors", desc := "(II)I" } : Jvm.MethodName)), (Jvm.Cond.instanceMethod ({ cls := "DoorSchool", name := "errors", desc := "(II)I" } : Jvm.MethodName)), (Jvm.Cond.selects "DoorSchool" ({ cls := "DoorSchool", name := "errors", desc := "(II)I" } : Jvm.MethodName) ({ cls := "DoorSchool", name := "errors", desc := "(II)I" } : Jvm.MethodName)), (Jvm.Cond.code ({ cls := "DoorSchool", name := "errors", desc := "(II)I" } : Jvm.MethodName) prog_1_method_40_code (3 : Nat) (Option.some Jvm.ClassFile.FieldType.int)), (Jvm.Cond.methodLinkNest "DoorSchool" (294 : Nat) ({ cls := "DoorSchool$Learner", name := "errorsBy", desc := "(II)I" } : Jvm.MethodName) "DoorSchool"), (Jvm.Cond.privateMethod ({ cls := "DoorSchool$Learner", name := "errorsBy", desc := "(II)I" } : Jvm.MethodName)), (Jvm.Cond.instanceMethod ({ cls := "DoorSchool$Learner", name := "errorsBy", desc := "(II)I" } : Jvm.MethodName)), (Jvm.Cond.code ({ cls := "DoorSchool$Learner", name := "errorsBy", desc := "(II)I" } : Jvm.MethodName) prog_4_method_11_code (5 : Nat) (Option.some Jvm.ClassFile.FieldType.int)), (Jvm.Cond.methodLink "DoorSchoolLaw" (174 : Nat) ({ cls := "DoorSchool", name := "learnt", desc := "(II)I" } : Jvm.MethodName)), (Jvm.Cond.instanceMethod ({ cls := "DoorSchool", name := "learnt", desc := "(II)I" } : Jvm.MethodName)), (Jvm.Cond.selects "DoorSchool" ({ cls := "DoorSchool", name := "learnt", desc := "(II)I" } : Jvm.MethodName) ({ cls := "DoorSchool", name := "learnt", desc := "(II)I" } : Jvm.MethodName)), (Jvm.Cond.code ({ cls := "DoorSchool", name := "learnt", desc := "(II)I" } : Jvm.MethodName) prog_1_method_41_code (3 : Nat) (Option.some Jvm.ClassFile.FieldType.int)), (Jvm.Cond.methodLinkNest "DoorSchool" (297 : Nat) ({ cls := "DoorSchool$Learner", name := "learntWhole", desc := "(II)I" } : Jvm.MethodName) "DoorSchool"), (Jvm.Cond.privateMethod ({ cls := "DoorSchool$Learner", name := "learntWhole", desc := "(II)I" } : Jvm.MethodName)), (Jvm.Cond.instanceMethod ({ cls := "DoorSchool$Learner", name := "learntWhole", desc := "(II)I" } : Jvm.MethodName)), (Jvm.Cond.code ({ cls := "DoorSchool$Learner", name := "learntWhole", desc := "(II)I" } : Jvm.MethodName) prog_4_method_12_code (5 : Nat) (Option.some Jvm.ClassFile.FieldType.int))]
def bk_4_12 : List Cond := [(Jvm.Cond.methodLink "DoorSchoolLaw" (178 : Nat) ({ cls := "DoorSchool", name := "next", desc := "(II)I" } : Jvm.MethodName)), (Jvm.Cond.instanceMethod ({ cls := "DoorSchool", name := "next", desc := "(II)I" } : Jvm.MethodName)), (Jvm.Cond.selects "DoorSchool" ({ cls := "DoorSchool", name := "next", desc := "(II)I" } : Jvm.MethodName) ({ cls := "DoorSchool", name := "next", desc := "(II)I" } : Jvm.MethodName)), (Jvm.Cond.code ({ cls := "DoorSchool", name := "next", desc := "(II)I" } : Jvm.MethodName) prog_1_method_42_code (7 : Nat) (Option.some Jvm.ClassFile.FieldType.int)), (Jvm.Cond.methodLink "DoorSchoolLaw" (182 : Nat) ({ cls := "DoorSchool", name := "same", desc := "(I)I" } : Jvm.MethodName)), (Jvm.Cond.instanceMethod ({ cls := "DoorSchool", name := "same", desc := "(I)I" } : Jvm.MethodName)), (Jvm.Cond.selects "DoorSchool" ({ cls := "DoorSchool", name := "same", desc := "(I)I" } : Jvm.MethodName) ({ cls := "DoorSchool", name := "same", desc := "(I)I" } : Jvm.MethodName)), (Jvm.Cond.code ({ cls := "DoorSchool", name := "same", desc := "(I)I" } : Jvm.MethodName) prog_1_method_43_code (7 : Nat) (Option.some Jvm.ClassFile.FieldType.int)), (Jvm.Cond.methodLink "DoorSchool" (300 : Nat) ({ cls := "DoorSchool", name := "troubleWith", desc := "(I)I" } : Jvm.MethodName)), (Jvm.Cond.privateMethod ({ cls := "DoorSchool", name := "troubleWith", desc := "(I)I" } : Jvm.MethodName)), (Jvm.Cond.instanceMethod ({ cls := "DoorSchool", name := "troubleWith", desc := "(I)I" } : Jvm.MethodName)), (Jvm.Cond.code ({ cls := "DoorSchool", name := "troubleWith", desc := "(I)I" } : Jvm.MethodName) prog_1_method_84_code (2 : Nat) (Option.some Jvm.ClassFile.FieldType.int)), (Jvm.Cond.methodLink "DoorSchool" (365 : Nat) ({ cls := "DoorSchool", name := "isSlot", desc := "(I)Z" } : Jvm.MethodName)), (Jvm.Cond.static ({ cls := "DoorSchool", name := "isSlot", desc := "(I)Z" } : Jvm.MethodName)), (Jvm.Cond.code ({ cls := "DoorSchool", name := "isSlot", desc := "(I)Z" } : Jvm.MethodName) prog_1_method_69_code (1 : Nat) (Option.some Jvm.ClassFile.FieldType.boolean)), (Jvm.Cond.methodLinkNest "DoorSchool" (407 : Nat) ({ cls := "DoorSchool$Slot", name := "isPairs", desc := "(I)Z" } : Jvm.MethodName) "DoorSchool")]
def bk_4_13 : List Cond := [(Jvm.Cond.privateMethod ({ cls := "DoorSchool$Slot", name := "isPairs", desc := "(I)Z" } : Jvm.MethodName)), (Jvm.Cond.instanceMethod ({ cls := "DoorSchool$Slot", name := "isPairs", desc := "(I)Z" } : Jvm.MethodName)), (Jvm.Cond.code ({ cls := "DoorSchool$Slot", name := "isPairs", desc := "(I)Z" } : Jvm.MethodName) prog_9_method_5_code (7 : Nat) (Option.some Jvm.ClassFile.FieldType.boolean)), (Jvm.Cond.methodLinkNest "DoorSchool" (303 : Nat) ({ cls := "DoorSchool$Slot", name := "said", desc := "(I)I" } : Jvm.MethodName) "DoorSchool"), (Jvm.Cond.privateMethod ({ cls := "DoorSchool$Slot", name := "said", desc := "(I)I" } : Jvm.MethodName)), (Jvm.Cond.instanceMethod ({ cls := "DoorSchool$Slot", name := "said", desc := "(I)I" } : Jvm.MethodName)), (Jvm.Cond.code ({ cls := "DoorSchool$Slot", name := "said", desc := "(I)I" } : Jvm.MethodName) prog_9_method_6_code (4 : Nat) (Option.some Jvm.ClassFile.FieldType.int)), (Jvm.Cond.methodLink "DoorSchool" (304 : Nat) ({ cls := "DoorSchool", name := "agree", desc := "(III)Z" } : Jvm.MethodName)), (Jvm.Cond.methodLink "DoorSchoolLaw" (186 : Nat) ({ cls := "DoorSchool", name := "alike", desc := "(I)I" } : Jvm.MethodName)), (Jvm.Cond.instanceMethod ({ cls := "DoorSchool", name := "alike", desc := "(I)I" } : Jvm.MethodName)), (Jvm.Cond.selects "DoorSchool" ({ cls := "DoorSchool", name := "alike", desc := "(I)I" } : Jvm.MethodName) ({ cls := "DoorSchool", name := "alike", desc := "(I)I" } : Jvm.MethodName)), (Jvm.Cond.code ({ cls := "DoorSchool", name := "alike", desc := "(I)I" } : Jvm.MethodName) prog_1_method_44_code (4 : Nat) (Option.some Jvm.ClassFile.FieldType.int)), (Jvm.Cond.methodLink "DoorSchoolLaw" (190 : Nat) ({ cls := "DoorSchool", name := "copy", desc := "(II)I" } : Jvm.MethodName)), (Jvm.Cond.instanceMethod ({ cls := "DoorSchool", name := "copy", desc := "(II)I" } : Jvm.MethodName)), (Jvm.Cond.selects "DoorSchool" ({ cls := "DoorSchool", name := "copy", desc := "(II)I" } : Jvm.MethodName) ({ cls := "DoorSchool", name := "copy", desc := "(II)I" } : Jvm.MethodName)), (Jvm.Cond.code ({ cls := "DoorSchool", name := "copy", desc := "(II)I" } : Jvm.MethodName) prog_1_method_45_code (4 : Nat) (Option.some Jvm.ClassFile.FieldType.int))]
def bk_4_14 : List Cond := [(Jvm.Cond.methodLinkNest "DoorSchool" (307 : Nat) ({ cls := "DoorSchool$Plan", name := "isCopied", desc := "(I)Z" } : Jvm.MethodName) "DoorSchool"), (Jvm.Cond.methodLink "DoorSchoolLaw" (194 : Nat) ({ cls := "DoorSchool", name := "hanging", desc := "()I" } : Jvm.MethodName)), (Jvm.Cond.instanceMethod ({ cls := "DoorSchool", name := "hanging", desc := "()I" } : Jvm.MethodName)), (Jvm.Cond.selects "DoorSchool" ({ cls := "DoorSchool", name := "hanging", desc := "()I" } : Jvm.MethodName) ({ cls := "DoorSchool", name := "hanging", desc := "()I" } : Jvm.MethodName)), (Jvm.Cond.code ({ cls := "DoorSchool", name := "hanging", desc := "()I" } : Jvm.MethodName) prog_1_method_46_code (1 : Nat) (Option.some Jvm.ClassFile.FieldType.int)), (Jvm.Cond.methodLink "DoorSchool" (310 : Nat) ({ cls := "DoorSchool", name := "hangAll", desc := "()Z" } : Jvm.MethodName)), (Jvm.Cond.privateMethod ({ cls := "DoorSchool", name := "hangAll", desc := "()Z" } : Jvm.MethodName)), (Jvm.Cond.instanceMethod ({ cls := "DoorSchool", name := "hangAll", desc := "()Z" } : Jvm.MethodName)), (Jvm.Cond.code ({ cls := "DoorSchool", name := "hangAll", desc := "()Z" } : Jvm.MethodName) prog_1_method_83_code (4 : Nat) (Option.some Jvm.ClassFile.FieldType.boolean)), (Jvm.Cond.methodLink "DoorSchool" (319 : Nat) ({ cls := "DoorSchool", name := "houseDeeds", desc := "(I)I" } : Jvm.MethodName)), (Jvm.Cond.privateMethod ({ cls := "DoorSchool", name := "houseDeeds", desc := "(I)I" } : Jvm.MethodName)), (Jvm.Cond.instanceMethod ({ cls := "DoorSchool", name := "houseDeeds", desc := "(I)I" } : Jvm.MethodName)), (Jvm.Cond.code ({ cls := "DoorSchool", name := "houseDeeds", desc := "(I)I" } : Jvm.MethodName) prog_1_method_76_code (2 : Nat) (Option.some Jvm.ClassFile.FieldType.int)), (Jvm.Cond.methodLinkNest "DoorSchool" (404 : Nat) ({ cls := "DoorSchool$Hanging", name := "search", desc := "(II)V" } : Jvm.MethodName) "DoorSchool"), (Jvm.Cond.privateMethod ({ cls := "DoorSchool$Hanging", name := "search", desc := "(II)V" } : Jvm.MethodName)), (Jvm.Cond.instanceMethod ({ cls := "DoorSchool$Hanging", name := "search", desc := "(II)V" } : Jvm.MethodName))]
set_option maxRecDepth 20000 in
theorem ct_4 : tables_1_4 = bk_4_0 ++ (bk_4_1 ++ (bk_4_2 ++ (bk_4_3 ++ (bk_4_4 ++ (bk_4_5 ++ (bk_4_6 ++ (bk_4_7 ++ (bk_4_8 ++ (bk_4_9 ++ (bk_4_10 ++ (bk_4_11 ++ (bk_4_12 ++ (bk_4_13 ++ (bk_4_14)))))))))))))) := rfl
theorem bt_4_0 {w : Cond} (h : w ∈ bk_4_0) : w ∈ tables_1_4 := by rw [ct_4]; exact (List.mem_append_left _ h)
theorem bt_4_1 {w : Cond} (h : w ∈ bk_4_1) : w ∈ tables_1_4 := by rw [ct_4]; exact (List.mem_append_right _ (List.mem_append_left _ h))
theorem bt_4_2 {w : Cond} (h : w ∈ bk_4_2) : w ∈ tables_1_4 := by rw [ct_4]; exact (List.mem_append_right _ (List.mem_append_right _ (List.mem_append_left _ h)))
theorem bt_4_3 {w : Cond} (h : w ∈ bk_4_3) : w ∈ tables_1_4 := by rw [ct_4]; exact (List.mem_append_right _ (List.mem_append_right _ (List.mem_append_right _ (List.mem_append_left _ h))))
theorem bt_4_4 {w : Cond} (h : w ∈ bk_4_4) : w ∈ tables_1_4 := by rw [ct_4]; exact (List.mem_append_right _ (List.mem_append_right _ (List.mem_append_right _ (List.mem_append_right _ (List.mem_append_left _ h)))))
theorem bt_4_5 {w : Cond} (h : w ∈ bk_4_5) : w ∈ tables_1_4 := by rw [ct_4]; exact (List.mem_append_right _ (List.mem_append_right _ (List.mem_append_right _ (List.mem_append_right _ (List.mem_append_right _ (List.mem_append_left _ h))))))
theorem bt_4_6 {w : Cond} (h : w ∈ bk_4_6) : w ∈ tables_1_4 := by rw [ct_4]; exact (List.mem_append_right _ (List.mem_append_right _ (List.mem_append_right _ (List.mem_append_right _ (List.mem_append_right _ (List.mem_append_right _ (List.mem_append_left _ h)))))))
theorem bt_4_7 {w : Cond} (h : w ∈ bk_4_7) : w ∈ tables_1_4 := by rw [ct_4]; exact (List.mem_append_right _ (List.mem_append_right _ (List.mem_append_right _ (List.mem_append_right _ (List.mem_append_right _ (List.mem_append_right _ (List.mem_append_right _ (List.mem_append_left _ h))))))))
theorem bt_4_8 {w : Cond} (h : w ∈ bk_4_8) : w ∈ tables_1_4 := by rw [ct_4]; exact (List.mem_append_right _ (List.mem_append_right _ (List.mem_append_right _ (List.mem_append_right _ (List.mem_append_right _ (List.mem_append_right _ (List.mem_append_right _ (List.mem_append_right _ (List.mem_append_left _ h)))))))))
theorem bt_4_9 {w : Cond} (h : w ∈ bk_4_9) : w ∈ tables_1_4 := by rw [ct_4]; exact (List.mem_append_right _ (List.mem_append_right _ (List.mem_append_right _ (List.mem_append_right _ (List.mem_append_right _ (List.mem_append_right _ (List.mem_append_right _ (List.mem_append_right _ (List.mem_append_right _ (List.mem_append_left _ h))))))))))
theorem bt_4_10 {w : Cond} (h : w ∈ bk_4_10) : w ∈ tables_1_4 := by rw [ct_4]; exact (List.mem_append_right _ (List.mem_append_right _ (List.mem_append_right _ (List.mem_append_right _ (List.mem_append_right _ (List.mem_append_right _ (List.mem_append_right _ (List.mem_append_right _ (List.mem_append_right _ (List.mem_append_right _ (List.mem_append_left _ h)))))))))))
theorem bt_4_11 {w : Cond} (h : w ∈ bk_4_11) : w ∈ tables_1_4 := by rw [ct_4]; exact (List.mem_append_right _ (List.mem_append_right _ (List.mem_append_right _ (List.mem_append_right _ (List.mem_append_right _ (List.mem_append_right _ (List.mem_append_right _ (List.mem_append_right _ (List.mem_append_right _ (List.mem_append_right _ (List.mem_append_right _ (List.mem_append_left _ h))))))))))))
theorem bt_4_12 {w : Cond} (h : w ∈ bk_4_12) : w ∈ tables_1_4 := by rw [ct_4]; exact (List.mem_append_right _ (List.mem_append_right _ (List.mem_append_right _ (List.mem_append_right _ (List.mem_append_right _ (List.mem_append_right _ (List.mem_append_right _ (List.mem_append_right _ (List.mem_append_right _ (List.mem_append_right _ (List.mem_append_right _ (List.mem_append_right _ (List.mem_append_left _ h)))))))))))))
theorem bt_4_13 {w : Cond} (h : w ∈ bk_4_13) : w ∈ tables_1_4 := by rw [ct_4]; exact (List.mem_append_right _ (List.mem_append_right _ (List.mem_append_right _ (List.mem_append_right _ (List.mem_append_right _ (List.mem_append_right _ (List.mem_append_right _ (List.mem_append_right _ (List.mem_append_right _ (List.mem_append_right _ (List.mem_append_right _ (List.mem_append_right _ (List.mem_append_right _ (List.mem_append_left _ h))))))))))))))
theorem bt_4_14 {w : Cond} (h : w ∈ bk_4_14) : w ∈ tables_1_4 := by rw [ct_4]; exact (List.mem_append_right _ (List.mem_append_right _ (List.mem_append_right _ (List.mem_append_right _ (List.mem_append_right _ (List.mem_append_right _ (List.mem_append_right _ (List.mem_append_right _ (List.mem_append_right _ (List.mem_append_right _ (List.mem_append_right _ (List.mem_append_right _ (List.mem_append_right _ (List.mem_append_right _ h))))))))))))))
def bk_5_0 : List Cond := [(Jvm.Cond.code ({ cls := "DoorSchool$Hanging", name := "search", desc := "(II)V" } : Jvm.MethodName) prog_3_method_2_code (3 : Nat) (Option.none : Option Jvm.ClassFile.FieldType)), (Jvm.Cond.methodLink "DoorSchool$Hanging" (31 : Nat) ({ cls := "DoorSchool$Hanging", name := "hangFrom", desc := "(LDoorSchool$Hanging;III)V" } : Jvm.MethodName)), (Jvm.Cond.static ({ cls := "DoorSchool$Hanging", name := "hangFrom", desc := "(LDoorSchool$Hanging;III)V" } : Jvm.MethodName)), (Jvm.Cond.code ({ cls := "DoorSchool$Hanging", name := "hangFrom", desc := "(LDoorSchool$Hanging;III)V" } : Jvm.MethodName) prog_3_method_3_code (5 : Nat) (Option.none : Option Jvm.ClassFile.FieldType)), (Jvm.Cond.methodLink "DoorSchool$Hanging" (35 : Nat) ({ cls := "DoorSchool$Hanging", name := "keepIfBetter", desc := "(I)V" } : Jvm.MethodName)), (Jvm.Cond.privateMethod ({ cls := "DoorSchool$Hanging", name := "keepIfBetter", desc := "(I)V" } : Jvm.MethodName)), (Jvm.Cond.instanceMethod ({ cls := "DoorSchool$Hanging", name := "keepIfBetter", desc := "(I)V" } : Jvm.MethodName)), (Jvm.Cond.code ({ cls := "DoorSchool$Hanging", name := "keepIfBetter", desc := "(I)V" } : Jvm.MethodName) prog_3_method_4_code (2 : Nat) (Option.none : Option Jvm.ClassFile.FieldType)), (Jvm.Cond.methodLink "DoorSchool$Hanging" (43 : Nat) ({ cls := "java/lang/System", name := "arraycopy", desc := "(Ljava/lang/Object;ILjava/lang/Object;II)V" } : Jvm.MethodName)), (Jvm.Cond.static ({ cls := "java/lang/System", name := "arraycopy", desc := "(Ljava/lang/Object;ILjava/lang/Object;II)V" } : Jvm.MethodName)), (Jvm.Cond.native ({ cls := "java/lang/System", name := "arraycopy", desc := "(Ljava/lang/Object;ILjava/lang/Object;II)V" } : Jvm.MethodName)), (Jvm.Cond.methodLinkNest "DoorSchool$Hanging" (39 : Nat) ({ cls := "DoorSchool", name := "bit", desc := "(II)I" } : Jvm.MethodName) "DoorSchool"), (Jvm.Cond.methodLink "DoorSchoolLaw" (198 : Nat) ({ cls := "DoorSchool", name := "hung", desc := "(I)I" } : Jvm.MethodName)), (Jvm.Cond.instanceMethod ({ cls := "DoorSchool", name := "hung", desc := "(I)I" } : Jvm.MethodName)), (Jvm.Cond.selects "DoorSchool" ({ cls := "DoorSchool", name := "hung", desc := "(I)I" } : Jvm.MethodName) ({ cls := "DoorSchool", name := "hung", desc := "(I)I" } : Jvm.MethodName)), (Jvm.Cond.code ({ cls := "DoorSchool", name := "hung", desc := "(I)I" } : Jvm.MethodName) prog_1_method_47_code (2 : Nat) (Option.some Jvm.ClassFile.FieldType.int))]
def bk_5_1 : List Cond := [(Jvm.Cond.methodLink "DoorSchoolLaw" (202 : Nat) ({ cls := "DoorSchool", name := "amiss", desc := "(II)I" } : Jvm.MethodName)), (Jvm.Cond.instanceMethod ({ cls := "DoorSchool", name := "amiss", desc := "(II)I" } : Jvm.MethodName)), (Jvm.Cond.selects "DoorSchool" ({ cls := "DoorSchool", name := "amiss", desc := "(II)I" } : Jvm.MethodName) ({ cls := "DoorSchool", name := "amiss", desc := "(II)I" } : Jvm.MethodName)), (Jvm.Cond.code ({ cls := "DoorSchool", name := "amiss", desc := "(II)I" } : Jvm.MethodName) prog_1_method_48_code (3 : Nat) (Option.some Jvm.ClassFile.FieldType.int)), (Jvm.Cond.methodLink "DoorSchoolLaw" (206 : Nat) ({ cls := "DoorSchool", name := "fits", desc := "(I)I" } : Jvm.MethodName)), (Jvm.Cond.instanceMethod ({ cls := "DoorSchool", name := "fits", desc := "(I)I" } : Jvm.MethodName)), (Jvm.Cond.selects "DoorSchool" ({ cls := "DoorSchool", name := "fits", desc := "(I)I" } : Jvm.MethodName) ({ cls := "DoorSchool", name := "fits", desc := "(I)I" } : Jvm.MethodName)), (Jvm.Cond.code ({ cls := "DoorSchool", name := "fits", desc := "(I)I" } : Jvm.MethodName) prog_1_method_49_code (3 : Nat) (Option.some Jvm.ClassFile.FieldType.int)), (Jvm.Cond.methodLink "DoorSchoolLaw" (210 : Nat) ({ cls := "DoorSchool", name := "sure", desc := "(II)I" } : Jvm.MethodName)), (Jvm.Cond.instanceMethod ({ cls := "DoorSchool", name := "sure", desc := "(II)I" } : Jvm.MethodName)), (Jvm.Cond.selects "DoorSchool" ({ cls := "DoorSchool", name := "sure", desc := "(II)I" } : Jvm.MethodName) ({ cls := "DoorSchool", name := "sure", desc := "(II)I" } : Jvm.MethodName)), (Jvm.Cond.code ({ cls := "DoorSchool", name := "sure", desc := "(II)I" } : Jvm.MethodName) prog_1_method_50_code (4 : Nat) (Option.some Jvm.ClassFile.FieldType.int)), (Jvm.Cond.methodLinkNest "DoorSchool" (322 : Nat) ({ cls := "DoorSchool$Rules", name := "surely", desc := "(IIZ)I" } : Jvm.MethodName) "DoorSchool"), (Jvm.Cond.privateMethod ({ cls := "DoorSchool$Rules", name := "surely", desc := "(IIZ)I" } : Jvm.MethodName)), (Jvm.Cond.instanceMethod ({ cls := "DoorSchool$Rules", name := "surely", desc := "(IIZ)I" } : Jvm.MethodName)), (Jvm.Cond.code ({ cls := "DoorSchool$Rules", name := "surely", desc := "(IIZ)I" } : Jvm.MethodName) prog_8_method_8_code (6 : Nat) (Option.some Jvm.ClassFile.FieldType.int))]
def bk_5_2 : List Cond := [(Jvm.Cond.methodLink "DoorSchoolLaw" (214 : Nat) ({ cls := "DoorSchool", name := "ask", desc := "(I)I" } : Jvm.MethodName)), (Jvm.Cond.instanceMethod ({ cls := "DoorSchool", name := "ask", desc := "(I)I" } : Jvm.MethodName)), (Jvm.Cond.selects "DoorSchool" ({ cls := "DoorSchool", name := "ask", desc := "(I)I" } : Jvm.MethodName) ({ cls := "DoorSchool", name := "ask", desc := "(I)I" } : Jvm.MethodName)), (Jvm.Cond.code ({ cls := "DoorSchool", name := "ask", desc := "(I)I" } : Jvm.MethodName) prog_1_method_51_code (3 : Nat) (Option.some Jvm.ClassFile.FieldType.int)), (Jvm.Cond.methodLink "DoorSchool" (326 : Nat) ({ cls := "DoorSchool", name := "askedOf", desc := "(LDoorSchool$Slot;)I" } : Jvm.MethodName)), (Jvm.Cond.privateMethod ({ cls := "DoorSchool", name := "askedOf", desc := "(LDoorSchool$Slot;)I" } : Jvm.MethodName)), (Jvm.Cond.instanceMethod ({ cls := "DoorSchool", name := "askedOf", desc := "(LDoorSchool$Slot;)I" } : Jvm.MethodName)), (Jvm.Cond.code ({ cls := "DoorSchool", name := "askedOf", desc := "(LDoorSchool$Slot;)I" } : Jvm.MethodName) prog_1_method_85_code (6 : Nat) (Option.some Jvm.ClassFile.FieldType.int)), (Jvm.Cond.methodLink "DoorSchool" (333 : Nat) ({ cls := "DoorSchool", name := "leftAtWorst", desc := "(LDoorSchool$Slot;I)I" } : Jvm.MethodName)), (Jvm.Cond.privateMethod ({ cls := "DoorSchool", name := "leftAtWorst", desc := "(LDoorSchool$Slot;I)I" } : Jvm.MethodName)), (Jvm.Cond.instanceMethod ({ cls := "DoorSchool", name := "leftAtWorst", desc := "(LDoorSchool$Slot;I)I" } : Jvm.MethodName)), (Jvm.Cond.code ({ cls := "DoorSchool", name := "leftAtWorst", desc := "(LDoorSchool$Slot;I)I" } : Jvm.MethodName) prog_1_method_86_code (6 : Nat) (Option.some Jvm.ClassFile.FieldType.int)), (Jvm.Cond.methodLink "DoorSchool" (410 : Nat) ({ cls := "java/lang/Math", name := "max", desc := "(II)I" } : Jvm.MethodName)), (Jvm.Cond.static ({ cls := "java/lang/Math", name := "max", desc := "(II)I" } : Jvm.MethodName)), (Jvm.Cond.code ({ cls := "java/lang/Math", name := "max", desc := "(II)I" } : Jvm.MethodName) prog_15_method_65_code (2 : Nat) (Option.some Jvm.ClassFile.FieldType.int)), (Jvm.Cond.methodLink "DoorSchoolLaw" (218 : Nat) ({ cls := "DoorSchool", name := "leaves", desc := "(I)I" } : Jvm.MethodName))]
def bk_5_3 : List Cond := [(Jvm.Cond.instanceMethod ({ cls := "DoorSchool", name := "leaves", desc := "(I)I" } : Jvm.MethodName)), (Jvm.Cond.selects "DoorSchool" ({ cls := "DoorSchool", name := "leaves", desc := "(I)I" } : Jvm.MethodName) ({ cls := "DoorSchool", name := "leaves", desc := "(I)I" } : Jvm.MethodName)), (Jvm.Cond.code ({ cls := "DoorSchool", name := "leaves", desc := "(I)I" } : Jvm.MethodName) prog_1_method_52_code (4 : Nat) (Option.some Jvm.ClassFile.FieldType.int)), (Jvm.Cond.methodLink "DoorSchool" (330 : Nat) ({ cls := "DoorSchool", name := "fits", desc := "(I)I" } : Jvm.MethodName)), (Jvm.Cond.methodLink "DoorSchoolLaw" (222 : Nat) ({ cls := "DoorSchool", name := "hours", desc := "()I" } : Jvm.MethodName)), (Jvm.Cond.instanceMethod ({ cls := "DoorSchool", name := "hours", desc := "()I" } : Jvm.MethodName)), (Jvm.Cond.selects "DoorSchool" ({ cls := "DoorSchool", name := "hours", desc := "()I" } : Jvm.MethodName) ({ cls := "DoorSchool", name := "hours", desc := "()I" } : Jvm.MethodName)), (Jvm.Cond.code ({ cls := "DoorSchool", name := "hours", desc := "()I" } : Jvm.MethodName) prog_1_method_53_code (1 : Nat) (Option.some Jvm.ClassFile.FieldType.int)), (Jvm.Cond.methodLinkNest "DoorSchool" (340 : Nat) ({ cls := "DoorSchool$Timetable", name := "solve", desc := "(LDoorSchool$Plan;I)I" } : Jvm.MethodName) "DoorSchool"), (Jvm.Cond.privateMethod ({ cls := "DoorSchool$Timetable", name := "solve", desc := "(LDoorSchool$Plan;I)I" } : Jvm.MethodName)), (Jvm.Cond.instanceMethod ({ cls := "DoorSchool$Timetable", name := "solve", desc := "(LDoorSchool$Plan;I)I" } : Jvm.MethodName)), (Jvm.Cond.code ({ cls := "DoorSchool$Timetable", name := "solve", desc := "(LDoorSchool$Plan;I)I" } : Jvm.MethodName) prog_11_method_2_code (3 : Nat) (Option.some Jvm.ClassFile.FieldType.int)), (Jvm.Cond.methodLink "DoorSchool$Timetable" (28 : Nat) ({ cls := "java/util/Arrays", name := "fill", desc := "([II)V" } : Jvm.MethodName)), (Jvm.Cond.methodLink "DoorSchool$Timetable" (34 : Nat) ({ cls := "DoorSchool$Timetable", name := "placeFrom", desc := "(LDoorSchool$Timetable;LDoorSchool$Plan;III)V" } : Jvm.MethodName)), (Jvm.Cond.static ({ cls := "DoorSchool$Timetable", name := "placeFrom", desc := "(LDoorSchool$Timetable;LDoorSchool$Plan;III)V" } : Jvm.MethodName)), (Jvm.Cond.code ({ cls := "DoorSchool$Timetable", name := "placeFrom", desc := "(LDoorSchool$Timetable;LDoorSchool$Plan;III)V" } : Jvm.MethodName) prog_11_method_3_code (8 : Nat) (Option.none : Option Jvm.ClassFile.FieldType))]
def bk_5_4 : List Cond := [(Jvm.Cond.methodLink "DoorSchool$Timetable" (43 : Nat) ({ cls := "DoorSchool$Timetable", name := "keepIfFirst", desc := "(I)V" } : Jvm.MethodName)), (Jvm.Cond.privateMethod ({ cls := "DoorSchool$Timetable", name := "keepIfFirst", desc := "(I)V" } : Jvm.MethodName)), (Jvm.Cond.instanceMethod ({ cls := "DoorSchool$Timetable", name := "keepIfFirst", desc := "(I)V" } : Jvm.MethodName)), (Jvm.Cond.code ({ cls := "DoorSchool$Timetable", name := "keepIfFirst", desc := "(I)V" } : Jvm.MethodName) prog_11_method_7_code (2 : Nat) (Option.none : Option Jvm.ClassFile.FieldType)), (Jvm.Cond.methodLink "DoorSchool$Timetable" (73 : Nat) ({ cls := "DoorSchool$Timetable", name := "isEarlier", desc := "()Z" } : Jvm.MethodName)), (Jvm.Cond.privateMethod ({ cls := "DoorSchool$Timetable", name := "isEarlier", desc := "()Z" } : Jvm.MethodName)), (Jvm.Cond.instanceMethod ({ cls := "DoorSchool$Timetable", name := "isEarlier", desc := "()Z" } : Jvm.MethodName)), (Jvm.Cond.code ({ cls := "DoorSchool$Timetable", name := "isEarlier", desc := "()Z" } : Jvm.MethodName) prog_11_method_8_code (2 : Nat) (Option.some Jvm.ClassFile.FieldType.boolean)), (Jvm.Cond.methodLink "DoorSchool$Timetable" (77 : Nat) ({ cls := "java/lang/System", name := "arraycopy", desc := "(Ljava/lang/Object;ILjava/lang/Object;II)V" } : Jvm.MethodName)), (Jvm.Cond.methodLinkNest "DoorSchool$Timetable" (47 : Nat) ({ cls := "DoorSchool", name := "bit", desc := "(II)I" } : Jvm.MethodName) "DoorSchool"), (Jvm.Cond.methodLink "DoorSchool$Timetable" (54 : Nat) ({ cls := "DoorSchool$Timetable", name := "earliest", desc := "(LDoorSchool$Plan;I)I" } : Jvm.MethodName)), (Jvm.Cond.privateMethod ({ cls := "DoorSchool$Timetable", name := "earliest", desc := "(LDoorSchool$Plan;I)I" } : Jvm.MethodName)), (Jvm.Cond.instanceMethod ({ cls := "DoorSchool$Timetable", name := "earliest", desc := "(LDoorSchool$Plan;I)I" } : Jvm.MethodName)), (Jvm.Cond.code ({ cls := "DoorSchool$Timetable", name := "earliest", desc := "(LDoorSchool$Plan;I)I" } : Jvm.MethodName) prog_11_method_4_code (5 : Nat) (Option.some Jvm.ClassFile.FieldType.int)), (Jvm.Cond.methodLink "DoorSchool$Timetable" (70 : Nat) ({ cls := "DoorSchool$Timetable", name := "readyAt", desc := "(LDoorSchool$Plan;I)I" } : Jvm.MethodName)), (Jvm.Cond.privateMethod ({ cls := "DoorSchool$Timetable", name := "readyAt", desc := "(LDoorSchool$Plan;I)I" } : Jvm.MethodName))]
def bk_5_5 : List Cond := [(Jvm.Cond.instanceMethod ({ cls := "DoorSchool$Timetable", name := "readyAt", desc := "(LDoorSchool$Plan;I)I" } : Jvm.MethodName)), (Jvm.Cond.code ({ cls := "DoorSchool$Timetable", name := "readyAt", desc := "(LDoorSchool$Plan;I)I" } : Jvm.MethodName) prog_11_method_5_code (5 : Nat) (Option.some Jvm.ClassFile.FieldType.int)), (Jvm.Cond.methodLink "DoorSchool$Timetable" (65 : Nat) ({ cls := "java/lang/Math", name := "max", desc := "(II)I" } : Jvm.MethodName)), (Jvm.Cond.methodLink "DoorSchool$Timetable" (61 : Nat) ({ cls := "DoorSchool$Timetable", name := "work", desc := "(III)V" } : Jvm.MethodName)), (Jvm.Cond.privateMethod ({ cls := "DoorSchool$Timetable", name := "work", desc := "(III)V" } : Jvm.MethodName)), (Jvm.Cond.instanceMethod ({ cls := "DoorSchool$Timetable", name := "work", desc := "(III)V" } : Jvm.MethodName)), (Jvm.Cond.code ({ cls := "DoorSchool$Timetable", name := "work", desc := "(III)V" } : Jvm.MethodName) prog_11_method_6_code (5 : Nat) (Option.none : Option Jvm.ClassFile.FieldType)), (Jvm.Cond.methodLink "DoorSchoolLaw" (226 : Nat) ({ cls := "DoorSchool", name := "begins", desc := "(I)I" } : Jvm.MethodName)), (Jvm.Cond.instanceMethod ({ cls := "DoorSchool", name := "begins", desc := "(I)I" } : Jvm.MethodName)), (Jvm.Cond.selects "DoorSchool" ({ cls := "DoorSchool", name := "begins", desc := "(I)I" } : Jvm.MethodName) ({ cls := "DoorSchool", name := "begins", desc := "(I)I" } : Jvm.MethodName)), (Jvm.Cond.code ({ cls := "DoorSchool", name := "begins", desc := "(I)I" } : Jvm.MethodName) prog_1_method_54_code (2 : Nat) (Option.some Jvm.ClassFile.FieldType.int)), (Jvm.Cond.methodLink "DoorSchoolLaw" (230 : Nat) ({ cls := "DoorSchool", name := "teacher", desc := "()I" } : Jvm.MethodName)), (Jvm.Cond.instanceMethod ({ cls := "DoorSchool", name := "teacher", desc := "()I" } : Jvm.MethodName)), (Jvm.Cond.selects "DoorSchool" ({ cls := "DoorSchool", name := "teacher", desc := "()I" } : Jvm.MethodName) ({ cls := "DoorSchool", name := "teacher", desc := "()I" } : Jvm.MethodName)), (Jvm.Cond.code ({ cls := "DoorSchool", name := "teacher", desc := "()I" } : Jvm.MethodName) prog_1_method_55_code (1 : Nat) (Option.some Jvm.ClassFile.FieldType.int)), (Jvm.Cond.methodLink "DoorSchoolLaw" (234 : Nat) ({ cls := "DoorSchool", name := "train", desc := "(III)I" } : Jvm.MethodName))]
def bk_5_6 : List Cond := [(Jvm.Cond.instanceMethod ({ cls := "DoorSchool", name := "train", desc := "(III)I" } : Jvm.MethodName)), (Jvm.Cond.selects "DoorSchool" ({ cls := "DoorSchool", name := "train", desc := "(III)I" } : Jvm.MethodName) ({ cls := "DoorSchool", name := "train", desc := "(III)I" } : Jvm.MethodName)), (Jvm.Cond.code ({ cls := "DoorSchool", name := "train", desc := "(III)I" } : Jvm.MethodName) prog_1_method_56_code (6 : Nat) (Option.some Jvm.ClassFile.FieldType.int)), (Jvm.Cond.methodLink "DoorSchoolLaw" (238 : Nat) ({ cls := "DoorSchool", name := "owns", desc := "(II)I" } : Jvm.MethodName)), (Jvm.Cond.instanceMethod ({ cls := "DoorSchool", name := "owns", desc := "(II)I" } : Jvm.MethodName)), (Jvm.Cond.selects "DoorSchool" ({ cls := "DoorSchool", name := "owns", desc := "(II)I" } : Jvm.MethodName) ({ cls := "DoorSchool", name := "owns", desc := "(II)I" } : Jvm.MethodName)), (Jvm.Cond.code ({ cls := "DoorSchool", name := "owns", desc := "(II)I" } : Jvm.MethodName) prog_1_method_57_code (4 : Nat) (Option.some Jvm.ClassFile.FieldType.int)), (Jvm.Cond.methodLink "DoorSchoolLaw" (242 : Nat) ({ cls := "DoorSchool", name := "storm", desc := "(III)I" } : Jvm.MethodName)), (Jvm.Cond.instanceMethod ({ cls := "DoorSchool", name := "storm", desc := "(III)I" } : Jvm.MethodName)), (Jvm.Cond.selects "DoorSchool" ({ cls := "DoorSchool", name := "storm", desc := "(III)I" } : Jvm.MethodName) ({ cls := "DoorSchool", name := "storm", desc := "(III)I" } : Jvm.MethodName)), (Jvm.Cond.code ({ cls := "DoorSchool", name := "storm", desc := "(III)I" } : Jvm.MethodName) prog_1_method_58_code (5 : Nat) (Option.some Jvm.ClassFile.FieldType.int)), (Jvm.Cond.methodLink "DoorSchool" (350 : Nat) ({ cls := "DoorSchool", name := "isSeed", desc := "(I)Z" } : Jvm.MethodName)), (Jvm.Cond.static ({ cls := "DoorSchool", name := "isSeed", desc := "(I)Z" } : Jvm.MethodName)), (Jvm.Cond.code ({ cls := "DoorSchool", name := "isSeed", desc := "(I)Z" } : Jvm.MethodName) prog_1_method_68_code (1 : Nat) (Option.some Jvm.ClassFile.FieldType.boolean)), (Jvm.Cond.constant "DoorSchool" (396 : Nat) (2000000000 : Int32)), (Jvm.Cond.methodLink "DoorSchool" (353 : Nat) ({ cls := "DoorSchool", name := "doneInStorm", desc := "(II)I" } : Jvm.MethodName))]
def bk_5_7 : List Cond := [(Jvm.Cond.privateMethod ({ cls := "DoorSchool", name := "doneInStorm", desc := "(II)I" } : Jvm.MethodName)), (Jvm.Cond.instanceMethod ({ cls := "DoorSchool", name := "doneInStorm", desc := "(II)I" } : Jvm.MethodName)), (Jvm.Cond.code ({ cls := "DoorSchool", name := "doneInStorm", desc := "(II)I" } : Jvm.MethodName) prog_1_method_87_code (7 : Nat) (Option.some Jvm.ClassFile.FieldType.int)), (Jvm.Cond.constantLong "DoorSchool" (415 : Nat) (1103515245 : Int64)), (Jvm.Cond.constantLong "DoorSchool" (417 : Nat) (12345 : Int64)), (Jvm.Cond.constantLong "DoorSchool" (419 : Nat) (2147483648 : Int64)), (Jvm.Cond.constantLong "DoorSchool" (421 : Nat) (65536 : Int64)), (Jvm.Cond.constantLong "DoorSchool" (423 : Nat) (100 : Int64)), (Jvm.Cond.methodLink "DoorSchoolLaw" (246 : Nat) ({ cls := "DoorSchool", name := "years", desc := "(IIII)I" } : Jvm.MethodName)), (Jvm.Cond.instanceMethod ({ cls := "DoorSchool", name := "years", desc := "(IIII)I" } : Jvm.MethodName)), (Jvm.Cond.selects "DoorSchool" ({ cls := "DoorSchool", name := "years", desc := "(IIII)I" } : Jvm.MethodName) ({ cls := "DoorSchool", name := "years", desc := "(IIII)I" } : Jvm.MethodName)), (Jvm.Cond.code ({ cls := "DoorSchool", name := "years", desc := "(IIII)I" } : Jvm.MethodName) prog_1_method_59_code (7 : Nat) (Option.some Jvm.ClassFile.FieldType.int)), (Jvm.Cond.methodLink "DoorSchoolLaw" (251 : Nat) ({ cls := "DoorSchool", name := "count", desc := "(I)I" } : Jvm.MethodName)), (Jvm.Cond.instanceMethod ({ cls := "DoorSchool", name := "count", desc := "(I)I" } : Jvm.MethodName)), (Jvm.Cond.selects "DoorSchool" ({ cls := "DoorSchool", name := "count", desc := "(I)I" } : Jvm.MethodName) ({ cls := "DoorSchool", name := "count", desc := "(I)I" } : Jvm.MethodName)), (Jvm.Cond.code ({ cls := "DoorSchool", name := "count", desc := "(I)I" } : Jvm.MethodName) prog_1_method_60_code (2 : Nat) (Option.some Jvm.ClassFile.FieldType.int))]
def bk_5_8 : List Cond := [(Jvm.Cond.methodLink "DoorSchool" (359 : Nat) ({ cls := "DoorSchool", name := "fullSlots", desc := "()I" } : Jvm.MethodName)), (Jvm.Cond.privateMethod ({ cls := "DoorSchool", name := "fullSlots", desc := "()I" } : Jvm.MethodName)), (Jvm.Cond.instanceMethod ({ cls := "DoorSchool", name := "fullSlots", desc := "()I" } : Jvm.MethodName)), (Jvm.Cond.code ({ cls := "DoorSchool", name := "fullSlots", desc := "()I" } : Jvm.MethodName) prog_1_method_88_code (3 : Nat) (Option.some Jvm.ClassFile.FieldType.int)), (Jvm.Cond.methodLink "DoorSchoolLaw" (255 : Nat) ({ cls := "DoorSchool", name := "image", desc := "(I)I" } : Jvm.MethodName)), (Jvm.Cond.instanceMethod ({ cls := "DoorSchool", name := "image", desc := "(I)I" } : Jvm.MethodName)), (Jvm.Cond.selects "DoorSchool" ({ cls := "DoorSchool", name := "image", desc := "(I)I" } : Jvm.MethodName) ({ cls := "DoorSchool", name := "image", desc := "(I)I" } : Jvm.MethodName)), (Jvm.Cond.code ({ cls := "DoorSchool", name := "image", desc := "(I)I" } : Jvm.MethodName) prog_1_method_61_code (2 : Nat) (Option.some Jvm.ClassFile.FieldType.int)), (Jvm.Cond.methodLinkNest "DoorSchool" (362 : Nat) ({ cls := "DoorSchool$Plan", name := "takeFrom", desc := "(LDoorSchool$Plan;)V" } : Jvm.MethodName) "DoorSchool"), (Jvm.Cond.privateMethod ({ cls := "DoorSchool$Plan", name := "takeFrom", desc := "(LDoorSchool$Plan;)V" } : Jvm.MethodName)), (Jvm.Cond.instanceMethod ({ cls := "DoorSchool$Plan", name := "takeFrom", desc := "(LDoorSchool$Plan;)V" } : Jvm.MethodName)), (Jvm.Cond.code ({ cls := "DoorSchool$Plan", name := "takeFrom", desc := "(LDoorSchool$Plan;)V" } : Jvm.MethodName) prog_6_method_3_code (3 : Nat) (Option.none : Option Jvm.ClassFile.FieldType)), (Jvm.Cond.methodLinkNest "DoorSchool$Plan" (78 : Nat) ({ cls := "DoorSchool$Door", name := "takeFrom", desc := "(LDoorSchool$Door;)V" } : Jvm.MethodName) "DoorSchool"), (Jvm.Cond.privateMethod ({ cls := "DoorSchool$Door", name := "takeFrom", desc := "(LDoorSchool$Door;)V" } : Jvm.MethodName)), (Jvm.Cond.instanceMethod ({ cls := "DoorSchool$Door", name := "takeFrom", desc := "(LDoorSchool$Door;)V" } : Jvm.MethodName)), (Jvm.Cond.code ({ cls := "DoorSchool$Door", name := "takeFrom", desc := "(LDoorSchool$Door;)V" } : Jvm.MethodName) prog_2_method_3_code (2 : Nat) (Option.none : Option Jvm.ClassFile.FieldType))]
def bk_5_9 : List Cond := [(Jvm.Cond.methodLink "DoorSchool$Door" (31 : Nat) ({ cls := "DoorSchool$Door", name := "begin", desc := "(II)V" } : Jvm.MethodName)), (Jvm.Cond.methodLinkNest "DoorSchool$Door" (35 : Nat) ({ cls := "DoorSchool$Lessons", name := "takeFrom", desc := "(LDoorSchool$Lessons;)V" } : Jvm.MethodName) "DoorSchool"), (Jvm.Cond.privateMethod ({ cls := "DoorSchool$Lessons", name := "takeFrom", desc := "(LDoorSchool$Lessons;)V" } : Jvm.MethodName)), (Jvm.Cond.instanceMethod ({ cls := "DoorSchool$Lessons", name := "takeFrom", desc := "(LDoorSchool$Lessons;)V" } : Jvm.MethodName)), (Jvm.Cond.code ({ cls := "DoorSchool$Lessons", name := "takeFrom", desc := "(LDoorSchool$Lessons;)V" } : Jvm.MethodName) prog_5_method_6_code (2 : Nat) (Option.none : Option Jvm.ClassFile.FieldType)), (Jvm.Cond.methodLink "DoorSchool$Lessons" (30 : Nat) ({ cls := "java/lang/System", name := "arraycopy", desc := "(Ljava/lang/Object;ILjava/lang/Object;II)V" } : Jvm.MethodName)), (Jvm.Cond.methodLinkNest "DoorSchool$Plan" (82 : Nat) ({ cls := "DoorSchool$Lessons", name := "takeFrom", desc := "(LDoorSchool$Lessons;)V" } : Jvm.MethodName) "DoorSchool"), (Jvm.Cond.methodLink "DoorSchool$Plan" (85 : Nat) ({ cls := "java/lang/System", name := "arraycopy", desc := "(Ljava/lang/Object;ILjava/lang/Object;II)V" } : Jvm.MethodName)), (Jvm.Cond.methodLink "DoorSchoolLaw" (259 : Nat) ({ cls := "DoorSchool", name := "back", desc := "(I)I" } : Jvm.MethodName)), (Jvm.Cond.instanceMethod ({ cls := "DoorSchool", name := "back", desc := "(I)I" } : Jvm.MethodName)), (Jvm.Cond.selects "DoorSchool" ({ cls := "DoorSchool", name := "back", desc := "(I)I" } : Jvm.MethodName) ({ cls := "DoorSchool", name := "back", desc := "(I)I" } : Jvm.MethodName)), (Jvm.Cond.code ({ cls := "DoorSchool", name := "back", desc := "(I)I" } : Jvm.MethodName) prog_1_method_62_code (2 : Nat) (Option.some Jvm.ClassFile.FieldType.int)), (Jvm.Cond.methodLink "DoorSchoolLaw" (263 : Nat) ({ cls := "DoorSchool", name := "row", desc := "(III)I" } : Jvm.MethodName)), (Jvm.Cond.instanceMethod ({ cls := "DoorSchool", name := "row", desc := "(III)I" } : Jvm.MethodName)), (Jvm.Cond.selects "DoorSchool" ({ cls := "DoorSchool", name := "row", desc := "(III)I" } : Jvm.MethodName) ({ cls := "DoorSchool", name := "row", desc := "(III)I" } : Jvm.MethodName)), (Jvm.Cond.code ({ cls := "DoorSchool", name := "row", desc := "(III)I" } : Jvm.MethodName) prog_1_method_63_code (4 : Nat) (Option.some Jvm.ClassFile.FieldType.int))]
def bk_5_10 : List Cond := [(Jvm.Cond.methodLinkNest "DoorSchool" (368 : Nat) ({ cls := "DoorSchool$Slot", name := "begin", desc := "(II)V" } : Jvm.MethodName) "DoorSchool"), (Jvm.Cond.privateMethod ({ cls := "DoorSchool$Slot", name := "begin", desc := "(II)V" } : Jvm.MethodName)), (Jvm.Cond.instanceMethod ({ cls := "DoorSchool$Slot", name := "begin", desc := "(II)V" } : Jvm.MethodName)), (Jvm.Cond.code ({ cls := "DoorSchool$Slot", name := "begin", desc := "(II)V" } : Jvm.MethodName) prog_9_method_2_code (3 : Nat) (Option.none : Option Jvm.ClassFile.FieldType)), (Jvm.Cond.methodLink "DoorSchool$Slot" (26 : Nat) ({ cls := "java/util/Arrays", name := "fill", desc := "([JJ)V" } : Jvm.MethodName)), (Jvm.Cond.static ({ cls := "java/util/Arrays", name := "fill", desc := "([JJ)V" } : Jvm.MethodName)), (Jvm.Cond.code ({ cls := "java/util/Arrays", name := "fill", desc := "([JJ)V" } : Jvm.MethodName) prog_20_method_101_code (5 : Nat) (Option.none : Option Jvm.ClassFile.FieldType)), (Jvm.Cond.methodLink "DoorSchoolLaw" (269 : Nat) ({ cls := "DoorSchool", name := "write", desc := "(IIJ)I" } : Jvm.MethodName)), (Jvm.Cond.instanceMethod ({ cls := "DoorSchool", name := "write", desc := "(IIJ)I" } : Jvm.MethodName)), (Jvm.Cond.selects "DoorSchool" ({ cls := "DoorSchool", name := "write", desc := "(IIJ)I" } : Jvm.MethodName) ({ cls := "DoorSchool", name := "write", desc := "(IIJ)I" } : Jvm.MethodName)), (Jvm.Cond.code ({ cls := "DoorSchool", name := "write", desc := "(IIJ)I" } : Jvm.MethodName) prog_1_method_64_code (6 : Nat) (Option.some Jvm.ClassFile.FieldType.int)), (Jvm.Cond.methodLinkNest "DoorSchool" (376 : Nat) ({ cls := "DoorSchool$Slot", name := "put", desc := "(IJ)V" } : Jvm.MethodName) "DoorSchool"), (Jvm.Cond.privateMethod ({ cls := "DoorSchool$Slot", name := "put", desc := "(IJ)V" } : Jvm.MethodName)), (Jvm.Cond.instanceMethod ({ cls := "DoorSchool$Slot", name := "put", desc := "(IJ)V" } : Jvm.MethodName)), (Jvm.Cond.code ({ cls := "DoorSchool$Slot", name := "put", desc := "(IJ)V" } : Jvm.MethodName) prog_9_method_3_code (5 : Nat) (Option.none : Option Jvm.ClassFile.FieldType)), (Jvm.Cond.methodLink "DoorSchoolLaw" (274 : Nat) ({ cls := "DoorSchool", name := "paste", desc := "(IIIII)I" } : Jvm.MethodName))]
def bk_5_11 : List Cond := [(Jvm.Cond.instanceMethod ({ cls := "DoorSchool", name := "paste", desc := "(IIIII)I" } : Jvm.MethodName)), (Jvm.Cond.selects "DoorSchool" ({ cls := "DoorSchool", name := "paste", desc := "(IIIII)I" } : Jvm.MethodName) ({ cls := "DoorSchool", name := "paste", desc := "(IIIII)I" } : Jvm.MethodName)), (Jvm.Cond.code ({ cls := "DoorSchool", name := "paste", desc := "(IIIII)I" } : Jvm.MethodName) prog_1_method_65_code (8 : Nat) (Option.some Jvm.ClassFile.FieldType.int)), (Jvm.Cond.methodLinkNest "DoorSchool" (383 : Nat) ({ cls := "DoorSchool$Slot", name := "has", desc := "(II)Z" } : Jvm.MethodName) "DoorSchool"), (Jvm.Cond.privateMethod ({ cls := "DoorSchool$Slot", name := "has", desc := "(II)Z" } : Jvm.MethodName)), (Jvm.Cond.instanceMethod ({ cls := "DoorSchool$Slot", name := "has", desc := "(II)Z" } : Jvm.MethodName)), (Jvm.Cond.code ({ cls := "DoorSchool$Slot", name := "has", desc := "(II)Z" } : Jvm.MethodName) prog_9_method_4_code (3 : Nat) (Option.some Jvm.ClassFile.FieldType.boolean)), (Jvm.Cond.methodLink "DoorSchool" (390 : Nat) ({ cls := "java/lang/System", name := "arraycopy", desc := "(Ljava/lang/Object;ILjava/lang/Object;II)V" } : Jvm.MethodName)), (Jvm.Cond.classLink "DoorSchoolLaw" (10 : Nat) "DoorSchoolModel"), (Jvm.Cond.instantiable "DoorSchoolModel" (36 : Nat)), (Jvm.Cond.methodLink "DoorSchoolLaw" (12 : Nat) ({ cls := "DoorSchoolModel", name := "<init>", desc := "()V" } : Jvm.MethodName)), (Jvm.Cond.instanceMethod ({ cls := "DoorSchoolModel", name := "<init>", desc := "()V" } : Jvm.MethodName)), (Jvm.Cond.code ({ cls := "DoorSchoolModel", name := "<init>", desc := "()V" } : Jvm.MethodName) prog_13_method_1_code (1 : Nat) (Option.none : Option Jvm.ClassFile.FieldType)), (Jvm.Cond.methodLink "DoorSchoolModel" (3 : Nat) ({ cls := "java/lang/Object", name := "<init>", desc := "()V" } : Jvm.MethodName)), (Jvm.Cond.fieldLink "DoorSchoolModel" (9 : Nat) "DoorSchoolModel" "world" "[I"), (Jvm.Cond.fieldLink "DoorSchoolModel" (13 : Nat) "DoorSchoolModel" "images" "[I")]
def bk_5_12 : List Cond := [(Jvm.Cond.fieldLink "DoorSchoolModel" (16 : Nat) "DoorSchoolModel" "hasImage" "[Z"), (Jvm.Cond.fieldLink "DoorSchoolModel" (20 : Nat) "DoorSchoolModel" "tape" "[B"), (Jvm.Cond.fieldLink "DoorSchoolModel" (104 : Nat) "DoorSchoolModel" "taped" "I"), (Jvm.Cond.fieldLink "DoorSchoolModel" (24 : Nat) "DoorSchoolModel" "five" "[I"), (Jvm.Cond.fieldLink "DoorSchoolModel" (107 : Nat) "DoorSchoolModel" "size" "I"), (Jvm.Cond.fieldLink "DoorSchoolModel" (110 : Nat) "DoorSchoolModel" "at" "I"), (Jvm.Cond.fieldLink "DoorSchoolModel" (117 : Nat) "DoorSchoolModel" "from" "I"), (Jvm.Cond.fieldLink "DoorSchoolModel" (120 : Nat) "DoorSchoolModel" "token" "I"), (Jvm.Cond.fieldLink "DoorSchoolModel" (131 : Nat) "DoorSchoolModel" "value" "I"), (Jvm.Cond.fieldLink "DoorSchoolModel" (141 : Nat) "DoorSchoolModel" "faultKind" "I"), (Jvm.Cond.fieldLink "DoorSchoolModel" (27 : Nat) "DoorSchoolModel" "faultPlace" "I"), (Jvm.Cond.fieldLink "DoorSchoolModel" (31 : Nat) "DoorSchoolModel" "fresh" "[I"), (Jvm.Cond.fieldLink "DoorSchoolModel" (34 : Nat) "DoorSchoolModel" "ruleSigns" "[I"), (Jvm.Cond.fieldLink "DoorSchoolModel" (37 : Nat) "DoorSchoolModel" "ruleThere" "[I"), (Jvm.Cond.fieldLink "DoorSchoolModel" (40 : Nat) "DoorSchoolModel" "ruleDeeds" "[I"), (Jvm.Cond.fieldLink "DoorSchoolModel" (253 : Nat) "DoorSchoolModel" "rulesMany" "I")]
def bk_5_13 : List Cond := [(Jvm.Cond.fieldLink "DoorSchoolModel" (43 : Nat) "DoorSchoolModel" "learnKnock" "[I"), (Jvm.Cond.fieldLink "DoorSchoolModel" (46 : Nat) "DoorSchoolModel" "learnOpen" "[I"), (Jvm.Cond.fieldLink "DoorSchoolModel" (262 : Nat) "DoorSchoolModel" "learnMany" "I"), (Jvm.Cond.fieldLink "DoorSchoolModel" (380 : Nat) "DoorSchoolModel" "errorsMany" "I"), (Jvm.Cond.fieldLink "DoorSchoolModel" (383 : Nat) "DoorSchoolModel" "learntMany" "I"), (Jvm.Cond.fieldLink "DoorSchoolModel" (49 : Nat) "DoorSchoolModel" "hungNow" "[I"), (Jvm.Cond.fieldLink "DoorSchoolModel" (52 : Nat) "DoorSchoolModel" "hungBest" "[I"), (Jvm.Cond.fieldLink "DoorSchoolModel" (406 : Nat) "DoorSchoolModel" "hungLeast" "I"), (Jvm.Cond.fieldLink "DoorSchoolModel" (55 : Nat) "DoorSchoolModel" "begin" "[I"), (Jvm.Cond.fieldLink "DoorSchoolModel" (58 : Nat) "DoorSchoolModel" "busy" "[I"), (Jvm.Cond.fieldLink "DoorSchoolModel" (61 : Nat) "DoorSchoolModel" "fixed" "[I"), (Jvm.Cond.fieldLink "DoorSchoolModel" (64 : Nat) "DoorSchoolModel" "order" "[I"), (Jvm.Cond.fieldLink "DoorSchoolModel" (453 : Nat) "DoorSchoolModel" "slipped" "I"), (Jvm.Cond.fieldLink "DoorSchoolModel" (67 : Nat) "DoorSchoolModel" "many" "[I"), (Jvm.Cond.fieldLink "DoorSchoolModel" (70 : Nat) "DoorSchoolModel" "width" "[I"), (Jvm.Cond.fieldLink "DoorSchoolModel" (73 : Nat) "DoorSchoolModel" "numbers" "[J")]
def bk_5_14 : List Cond := [(Jvm.Cond.fieldLink "DoorSchoolModel" (77 : Nat) "DoorSchoolModel" "moving" "[J"), (Jvm.Cond.lays "DoorSchoolModel" "DoorSchoolModel" "thrown" "I"), (Jvm.Cond.soleField "DoorSchoolModel" "thrown"), (Jvm.Cond.laysFinal "DoorSchoolModel" "DoorSchoolModel" "world" "[I"), (Jvm.Cond.soleField "DoorSchoolModel" "world"), (Jvm.Cond.laysFinal "DoorSchoolModel" "DoorSchoolModel" "images" "[I"), (Jvm.Cond.soleField "DoorSchoolModel" "images"), (Jvm.Cond.laysFinal "DoorSchoolModel" "DoorSchoolModel" "hasImage" "[Z"), (Jvm.Cond.soleField "DoorSchoolModel" "hasImage"), (Jvm.Cond.laysFinal "DoorSchoolModel" "DoorSchoolModel" "tape" "[B"), (Jvm.Cond.soleField "DoorSchoolModel" "tape"), (Jvm.Cond.lays "DoorSchoolModel" "DoorSchoolModel" "taped" "I"), (Jvm.Cond.soleField "DoorSchoolModel" "taped"), (Jvm.Cond.laysFinal "DoorSchoolModel" "DoorSchoolModel" "five" "[I"), (Jvm.Cond.soleField "DoorSchoolModel" "five"), (Jvm.Cond.lays "DoorSchoolModel" "DoorSchoolModel" "size" "I")]
set_option maxRecDepth 20000 in
theorem ct_5 : tables_1_5 = bk_5_0 ++ (bk_5_1 ++ (bk_5_2 ++ (bk_5_3 ++ (bk_5_4 ++ (bk_5_5 ++ (bk_5_6 ++ (bk_5_7 ++ (bk_5_8 ++ (bk_5_9 ++ (bk_5_10 ++ (bk_5_11 ++ (bk_5_12 ++ (bk_5_13 ++ (bk_5_14)))))))))))))) := rfl
theorem bt_5_0 {w : Cond} (h : w ∈ bk_5_0) : w ∈ tables_1_5 := by rw [ct_5]; exact (List.mem_append_left _ h)
theorem bt_5_1 {w : Cond} (h : w ∈ bk_5_1) : w ∈ tables_1_5 := by rw [ct_5]; exact (List.mem_append_right _ (List.mem_append_left _ h))
theorem bt_5_2 {w : Cond} (h : w ∈ bk_5_2) : w ∈ tables_1_5 := by rw [ct_5]; exact (List.mem_append_right _ (List.mem_append_right _ (List.mem_append_left _ h)))
theorem bt_5_3 {w : Cond} (h : w ∈ bk_5_3) : w ∈ tables_1_5 := by rw [ct_5]; exact (List.mem_append_right _ (List.mem_append_right _ (List.mem_append_right _ (List.mem_append_left _ h))))
theorem bt_5_4 {w : Cond} (h : w ∈ bk_5_4) : w ∈ tables_1_5 := by rw [ct_5]; exact (List.mem_append_right _ (List.mem_append_right _ (List.mem_append_right _ (List.mem_append_right _ (List.mem_append_left _ h)))))
theorem bt_5_5 {w : Cond} (h : w ∈ bk_5_5) : w ∈ tables_1_5 := by rw [ct_5]; exact (List.mem_append_right _ (List.mem_append_right _ (List.mem_append_right _ (List.mem_append_right _ (List.mem_append_right _ (List.mem_append_left _ h))))))
theorem bt_5_6 {w : Cond} (h : w ∈ bk_5_6) : w ∈ tables_1_5 := by rw [ct_5]; exact (List.mem_append_right _ (List.mem_append_right _ (List.mem_append_right _ (List.mem_append_right _ (List.mem_append_right _ (List.mem_append_right _ (List.mem_append_left _ h)))))))
theorem bt_5_7 {w : Cond} (h : w ∈ bk_5_7) : w ∈ tables_1_5 := by rw [ct_5]; exact (List.mem_append_right _ (List.mem_append_right _ (List.mem_append_right _ (List.mem_append_right _ (List.mem_append_right _ (List.mem_append_right _ (List.mem_append_right _ (List.mem_append_left _ h))))))))
theorem bt_5_8 {w : Cond} (h : w ∈ bk_5_8) : w ∈ tables_1_5 := by rw [ct_5]; exact (List.mem_append_right _ (List.mem_append_right _ (List.mem_append_right _ (List.mem_append_right _ (List.mem_append_right _ (List.mem_append_right _ (List.mem_append_right _ (List.mem_append_right _ (List.mem_append_left _ h)))))))))
theorem bt_5_9 {w : Cond} (h : w ∈ bk_5_9) : w ∈ tables_1_5 := by rw [ct_5]; exact (List.mem_append_right _ (List.mem_append_right _ (List.mem_append_right _ (List.mem_append_right _ (List.mem_append_right _ (List.mem_append_right _ (List.mem_append_right _ (List.mem_append_right _ (List.mem_append_right _ (List.mem_append_left _ h))))))))))
theorem bt_5_10 {w : Cond} (h : w ∈ bk_5_10) : w ∈ tables_1_5 := by rw [ct_5]; exact (List.mem_append_right _ (List.mem_append_right _ (List.mem_append_right _ (List.mem_append_right _ (List.mem_append_right _ (List.mem_append_right _ (List.mem_append_right _ (List.mem_append_right _ (List.mem_append_right _ (List.mem_append_right _ (List.mem_append_left _ h)))))))))))
theorem bt_5_11 {w : Cond} (h : w ∈ bk_5_11) : w ∈ tables_1_5 := by rw [ct_5]; exact (List.mem_append_right _ (List.mem_append_right _ (List.mem_append_right _ (List.mem_append_right _ (List.mem_append_right _ (List.mem_append_right _ (List.mem_append_right _ (List.mem_append_right _ (List.mem_append_right _ (List.mem_append_right _ (List.mem_append_right _ (List.mem_append_left _ h))))))))))))
theorem bt_5_12 {w : Cond} (h : w ∈ bk_5_12) : w ∈ tables_1_5 := by rw [ct_5]; exact (List.mem_append_right _ (List.mem_append_right _ (List.mem_append_right _ (List.mem_append_right _ (List.mem_append_right _ (List.mem_append_right _ (List.mem_append_right _ (List.mem_append_right _ (List.mem_append_right _ (List.mem_append_right _ (List.mem_append_right _ (List.mem_append_right _ (List.mem_append_left _ h)))))))))))))
theorem bt_5_13 {w : Cond} (h : w ∈ bk_5_13) : w ∈ tables_1_5 := by rw [ct_5]; exact (List.mem_append_right _ (List.mem_append_right _ (List.mem_append_right _ (List.mem_append_right _ (List.mem_append_right _ (List.mem_append_right _ (List.mem_append_right _ (List.mem_append_right _ (List.mem_append_right _ (List.mem_append_right _ (List.mem_append_right _ (List.mem_append_right _ (List.mem_append_right _ (List.mem_append_left _ h))))))))))))))
theorem bt_5_14 {w : Cond} (h : w ∈ bk_5_14) : w ∈ tables_1_5 := by rw [ct_5]; exact (List.mem_append_right _ (List.mem_append_right _ (List.mem_append_right _ (List.mem_append_right _ (List.mem_append_right _ (List.mem_append_right _ (List.mem_append_right _ (List.mem_append_right _ (List.mem_append_right _ (List.mem_append_right _ (List.mem_append_right _ (List.mem_append_right _ (List.mem_append_right _ (List.mem_append_right _ h))))))))))))))
def bk_6_0 : List Cond := [(Jvm.Cond.soleField "DoorSchoolModel" "size"), (Jvm.Cond.lays "DoorSchoolModel" "DoorSchoolModel" "at" "I"), (Jvm.Cond.soleField "DoorSchoolModel" "at"), (Jvm.Cond.lays "DoorSchoolModel" "DoorSchoolModel" "from" "I"), (Jvm.Cond.soleField "DoorSchoolModel" "from"), (Jvm.Cond.lays "DoorSchoolModel" "DoorSchoolModel" "token" "I"), (Jvm.Cond.soleField "DoorSchoolModel" "token"), (Jvm.Cond.lays "DoorSchoolModel" "DoorSchoolModel" "value" "I"), (Jvm.Cond.soleField "DoorSchoolModel" "value"), (Jvm.Cond.lays "DoorSchoolModel" "DoorSchoolModel" "faultKind" "I"), (Jvm.Cond.soleField "DoorSchoolModel" "faultKind"), (Jvm.Cond.lays "DoorSchoolModel" "DoorSchoolModel" "faultPlace" "I"), (Jvm.Cond.soleField "DoorSchoolModel" "faultPlace"), (Jvm.Cond.laysFinal "DoorSchoolModel" "DoorSchoolModel" "fresh" "[I"), (Jvm.Cond.soleField "DoorSchoolModel" "fresh"), (Jvm.Cond.laysFinal "DoorSchoolModel" "DoorSchoolModel" "ruleSigns" "[I")]
def bk_6_1 : List Cond := [(Jvm.Cond.soleField "DoorSchoolModel" "ruleSigns"), (Jvm.Cond.laysFinal "DoorSchoolModel" "DoorSchoolModel" "ruleThere" "[I"), (Jvm.Cond.soleField "DoorSchoolModel" "ruleThere"), (Jvm.Cond.laysFinal "DoorSchoolModel" "DoorSchoolModel" "ruleDeeds" "[I"), (Jvm.Cond.soleField "DoorSchoolModel" "ruleDeeds"), (Jvm.Cond.lays "DoorSchoolModel" "DoorSchoolModel" "rulesMany" "I"), (Jvm.Cond.soleField "DoorSchoolModel" "rulesMany"), (Jvm.Cond.laysFinal "DoorSchoolModel" "DoorSchoolModel" "learnKnock" "[I"), (Jvm.Cond.soleField "DoorSchoolModel" "learnKnock"), (Jvm.Cond.laysFinal "DoorSchoolModel" "DoorSchoolModel" "learnOpen" "[I"), (Jvm.Cond.soleField "DoorSchoolModel" "learnOpen"), (Jvm.Cond.lays "DoorSchoolModel" "DoorSchoolModel" "learnMany" "I"), (Jvm.Cond.soleField "DoorSchoolModel" "learnMany"), (Jvm.Cond.lays "DoorSchoolModel" "DoorSchoolModel" "errorsMany" "I"), (Jvm.Cond.soleField "DoorSchoolModel" "errorsMany"), (Jvm.Cond.lays "DoorSchoolModel" "DoorSchoolModel" "learntMany" "I")]
def bk_6_2 : List Cond := [(Jvm.Cond.soleField "DoorSchoolModel" "learntMany"), (Jvm.Cond.laysFinal "DoorSchoolModel" "DoorSchoolModel" "hungNow" "[I"), (Jvm.Cond.soleField "DoorSchoolModel" "hungNow"), (Jvm.Cond.laysFinal "DoorSchoolModel" "DoorSchoolModel" "hungBest" "[I"), (Jvm.Cond.soleField "DoorSchoolModel" "hungBest"), (Jvm.Cond.lays "DoorSchoolModel" "DoorSchoolModel" "hungLeast" "I"), (Jvm.Cond.soleField "DoorSchoolModel" "hungLeast"), (Jvm.Cond.laysFinal "DoorSchoolModel" "DoorSchoolModel" "begin" "[I"), (Jvm.Cond.soleField "DoorSchoolModel" "begin"), (Jvm.Cond.laysFinal "DoorSchoolModel" "DoorSchoolModel" "busy" "[I"), (Jvm.Cond.soleField "DoorSchoolModel" "busy"), (Jvm.Cond.laysFinal "DoorSchoolModel" "DoorSchoolModel" "fixed" "[I"), (Jvm.Cond.soleField "DoorSchoolModel" "fixed"), (Jvm.Cond.laysFinal "DoorSchoolModel" "DoorSchoolModel" "order" "[I"), (Jvm.Cond.soleField "DoorSchoolModel" "order"), (Jvm.Cond.lays "DoorSchoolModel" "DoorSchoolModel" "slipped" "I")]
def bk_6_3 : List Cond := [(Jvm.Cond.soleField "DoorSchoolModel" "slipped"), (Jvm.Cond.laysFinal "DoorSchoolModel" "DoorSchoolModel" "many" "[I"), (Jvm.Cond.soleField "DoorSchoolModel" "many"), (Jvm.Cond.laysFinal "DoorSchoolModel" "DoorSchoolModel" "width" "[I"), (Jvm.Cond.soleField "DoorSchoolModel" "width"), (Jvm.Cond.laysFinal "DoorSchoolModel" "DoorSchoolModel" "numbers" "[J"), (Jvm.Cond.soleField "DoorSchoolModel" "numbers"), (Jvm.Cond.laysFinal "DoorSchoolModel" "DoorSchoolModel" "moving" "[J"), (Jvm.Cond.soleField "DoorSchoolModel" "moving"), (Jvm.Cond.superclass "DoorSchoolModel" "java/lang/Object"), (Jvm.Cond.methodLink "DoorSchoolLaw" (258 : Nat) ({ cls := "DoorSchoolModel", name := "image", desc := "(I)I" } : Jvm.MethodName)), (Jvm.Cond.instanceMethod ({ cls := "DoorSchoolModel", name := "image", desc := "(I)I" } : Jvm.MethodName)), (Jvm.Cond.selects "DoorSchoolModel" ({ cls := "DoorSchoolModel", name := "image", desc := "(I)I" } : Jvm.MethodName) ({ cls := "DoorSchoolModel", name := "image", desc := "(I)I" } : Jvm.MethodName)), (Jvm.Cond.code ({ cls := "DoorSchoolModel", name := "image", desc := "(I)I" } : Jvm.MethodName) prog_13_method_6_code (3 : Nat) (Option.some Jvm.ClassFile.FieldType.int)), (Jvm.Cond.constantLong "DoorSchoolModel" (87 : Nat) (2 : Int64)), (Jvm.Cond.methodLink "DoorSchoolModel" (89 : Nat) ({ cls := "DoorSchoolModel", name := "in", desc := "(JJJ)Z" } : Jvm.MethodName))]
def bk_6_4 : List Cond := [(Jvm.Cond.static ({ cls := "DoorSchoolModel", name := "in", desc := "(JJJ)Z" } : Jvm.MethodName)), (Jvm.Cond.code ({ cls := "DoorSchoolModel", name := "in", desc := "(JJJ)Z" } : Jvm.MethodName) prog_13_method_3_code (6 : Nat) (Option.some Jvm.ClassFile.FieldType.boolean)), (Jvm.Cond.methodLink "DoorSchoolLaw" (262 : Nat) ({ cls := "DoorSchoolModel", name := "back", desc := "(I)I" } : Jvm.MethodName)), (Jvm.Cond.instanceMethod ({ cls := "DoorSchoolModel", name := "back", desc := "(I)I" } : Jvm.MethodName)), (Jvm.Cond.selects "DoorSchoolModel" ({ cls := "DoorSchoolModel", name := "back", desc := "(I)I" } : Jvm.MethodName) ({ cls := "DoorSchoolModel", name := "back", desc := "(I)I" } : Jvm.MethodName)), (Jvm.Cond.code ({ cls := "DoorSchoolModel", name := "back", desc := "(I)I" } : Jvm.MethodName) prog_13_method_7_code (3 : Nat) (Option.some Jvm.ClassFile.FieldType.int)), (Jvm.Cond.methodLink "DoorSchoolLaw" (17 : Nat) ({ cls := "DoorSchoolModel", name := "feed", desc := "(IIIII)I" } : Jvm.MethodName)), (Jvm.Cond.instanceMethod ({ cls := "DoorSchoolModel", name := "feed", desc := "(IIIII)I" } : Jvm.MethodName)), (Jvm.Cond.selects "DoorSchoolModel" ({ cls := "DoorSchoolModel", name := "feed", desc := "(IIIII)I" } : Jvm.MethodName) ({ cls := "DoorSchoolModel", name := "feed", desc := "(IIIII)I" } : Jvm.MethodName)), (Jvm.Cond.code ({ cls := "DoorSchoolModel", name := "feed", desc := "(IIIII)I" } : Jvm.MethodName) prog_13_method_19_code (7 : Nat) (Option.some Jvm.ClassFile.FieldType.int)), (Jvm.Cond.methodLink "DoorSchoolLaw" (22 : Nat) ({ cls := "DoorSchoolModel", name := "end", desc := "(I)I" } : Jvm.MethodName)), (Jvm.Cond.instanceMethod ({ cls := "DoorSchoolModel", name := "end", desc := "(I)I" } : Jvm.MethodName)), (Jvm.Cond.selects "DoorSchoolModel" ({ cls := "DoorSchoolModel", name := "end", desc := "(I)I" } : Jvm.MethodName) ({ cls := "DoorSchoolModel", name := "end", desc := "(I)I" } : Jvm.MethodName)), (Jvm.Cond.code ({ cls := "DoorSchoolModel", name := "end", desc := "(I)I" } : Jvm.MethodName) prog_13_method_20_code (2 : Nat) (Option.some Jvm.ClassFile.FieldType.int)), (Jvm.Cond.methodLink "DoorSchoolLaw" (31 : Nat) ({ cls := "DoorSchoolModel", name := "fault", desc := "(I)I" } : Jvm.MethodName)), (Jvm.Cond.instanceMethod ({ cls := "DoorSchoolModel", name := "fault", desc := "(I)I" } : Jvm.MethodName))]
def bk_6_5 : List Cond := [(Jvm.Cond.selects "DoorSchoolModel" ({ cls := "DoorSchoolModel", name := "fault", desc := "(I)I" } : Jvm.MethodName) ({ cls := "DoorSchoolModel", name := "fault", desc := "(I)I" } : Jvm.MethodName)), (Jvm.Cond.code ({ cls := "DoorSchoolModel", name := "fault", desc := "(I)I" } : Jvm.MethodName) prog_13_method_30_code (2 : Nat) (Option.some Jvm.ClassFile.FieldType.int)), (Jvm.Cond.methodLink "DoorSchoolLaw" (27 : Nat) ({ cls := "DoorSchoolModel", name := "school", desc := "()I" } : Jvm.MethodName)), (Jvm.Cond.instanceMethod ({ cls := "DoorSchoolModel", name := "school", desc := "()I" } : Jvm.MethodName)), (Jvm.Cond.selects "DoorSchoolModel" ({ cls := "DoorSchoolModel", name := "school", desc := "()I" } : Jvm.MethodName) ({ cls := "DoorSchoolModel", name := "school", desc := "()I" } : Jvm.MethodName)), (Jvm.Cond.code ({ cls := "DoorSchoolModel", name := "school", desc := "()I" } : Jvm.MethodName) prog_13_method_42_code (2 : Nat) (Option.some Jvm.ClassFile.FieldType.int)), (Jvm.Cond.methodLink "DoorSchoolModel" (160 : Nat) ({ cls := "DoorSchoolModel", name := "advance", desc := "()V" } : Jvm.MethodName)), (Jvm.Cond.privateMethod ({ cls := "DoorSchoolModel", name := "advance", desc := "()V" } : Jvm.MethodName)), (Jvm.Cond.instanceMethod ({ cls := "DoorSchoolModel", name := "advance", desc := "()V" } : Jvm.MethodName)), (Jvm.Cond.code ({ cls := "DoorSchoolModel", name := "advance", desc := "()V" } : Jvm.MethodName) prog_13_method_22_code (2 : Nat) (Option.none : Option Jvm.ClassFile.FieldType)), (Jvm.Cond.methodLink "DoorSchoolModel" (113 : Nat) ({ cls := "DoorSchoolModel", name := "see", desc := "(I)I" } : Jvm.MethodName)), (Jvm.Cond.privateMethod ({ cls := "DoorSchoolModel", name := "see", desc := "(I)I" } : Jvm.MethodName)), (Jvm.Cond.instanceMethod ({ cls := "DoorSchoolModel", name := "see", desc := "(I)I" } : Jvm.MethodName)), (Jvm.Cond.code ({ cls := "DoorSchoolModel", name := "see", desc := "(I)I" } : Jvm.MethodName) prog_13_method_21_code (2 : Nat) (Option.some Jvm.ClassFile.FieldType.int)), (Jvm.Cond.constantLong "DoorSchoolModel" (123 : Nat) (97 : Int64)), (Jvm.Cond.constantLong "DoorSchoolModel" (125 : Nat) (122 : Int64))]
def bk_6_6 : List Cond := [(Jvm.Cond.constantLong "DoorSchoolModel" (127 : Nat) (48 : Int64)), (Jvm.Cond.constantLong "DoorSchoolModel" (129 : Nat) (57 : Int64)), (Jvm.Cond.constant "DoorSchoolModel" (134 : Nat) (99999 : Int32)), (Jvm.Cond.methodLink "DoorSchoolModel" (135 : Nat) ({ cls := "java/lang/Math", name := "min", desc := "(II)I" } : Jvm.MethodName)), (Jvm.Cond.methodLink "DoorSchoolModel" (144 : Nat) ({ cls := "DoorSchoolModel", name := "good", desc := "()Z" } : Jvm.MethodName)), (Jvm.Cond.privateMethod ({ cls := "DoorSchoolModel", name := "good", desc := "()Z" } : Jvm.MethodName)), (Jvm.Cond.instanceMethod ({ cls := "DoorSchoolModel", name := "good", desc := "()Z" } : Jvm.MethodName)), (Jvm.Cond.code ({ cls := "DoorSchoolModel", name := "good", desc := "()Z" } : Jvm.MethodName) prog_13_method_23_code (1 : Nat) (Option.some Jvm.ClassFile.FieldType.boolean)), (Jvm.Cond.methodLink "DoorSchoolModel" (250 : Nat) ({ cls := "DoorSchoolModel", name := "readLine", desc := "()V" } : Jvm.MethodName)), (Jvm.Cond.privateMethod ({ cls := "DoorSchoolModel", name := "readLine", desc := "()V" } : Jvm.MethodName)), (Jvm.Cond.instanceMethod ({ cls := "DoorSchoolModel", name := "readLine", desc := "()V" } : Jvm.MethodName)), (Jvm.Cond.code ({ cls := "DoorSchoolModel", name := "readLine", desc := "()V" } : Jvm.MethodName) prog_13_method_41_code (1 : Nat) (Option.none : Option Jvm.ClassFile.FieldType)), (Jvm.Cond.stringRef "DoorSchoolModel" (241 : Nat) "school"), (Jvm.Cond.methodLink "DoorSchoolModel" (170 : Nat) ({ cls := "DoorSchoolModel", name := "needs", desc := "(Ljava/lang/String;)V" } : Jvm.MethodName)), (Jvm.Cond.privateMethod ({ cls := "DoorSchoolModel", name := "needs", desc := "(Ljava/lang/String;)V" } : Jvm.MethodName)), (Jvm.Cond.instanceMethod ({ cls := "DoorSchoolModel", name := "needs", desc := "(Ljava/lang/String;)V" } : Jvm.MethodName))]
def bk_6_7 : List Cond := [(Jvm.Cond.code ({ cls := "DoorSchoolModel", name := "needs", desc := "(Ljava/lang/String;)V" } : Jvm.MethodName) prog_13_method_27_code (2 : Nat) (Option.none : Option Jvm.ClassFile.FieldType)), (Jvm.Cond.methodLink "DoorSchoolModel" (163 : Nat) ({ cls := "DoorSchoolModel", name := "takes", desc := "(Ljava/lang/String;)Z" } : Jvm.MethodName)), (Jvm.Cond.privateMethod ({ cls := "DoorSchoolModel", name := "takes", desc := "(Ljava/lang/String;)Z" } : Jvm.MethodName)), (Jvm.Cond.instanceMethod ({ cls := "DoorSchoolModel", name := "takes", desc := "(Ljava/lang/String;)Z" } : Jvm.MethodName)), (Jvm.Cond.code ({ cls := "DoorSchoolModel", name := "takes", desc := "(Ljava/lang/String;)Z" } : Jvm.MethodName) prog_13_method_26_code (3 : Nat) (Option.some Jvm.ClassFile.FieldType.boolean)), (Jvm.Cond.methodLink "DoorSchoolModel" (156 : Nat) ({ cls := "DoorSchoolModel", name := "is", desc := "(Ljava/lang/String;)Z" } : Jvm.MethodName)), (Jvm.Cond.privateMethod ({ cls := "DoorSchoolModel", name := "is", desc := "(Ljava/lang/String;)Z" } : Jvm.MethodName)), (Jvm.Cond.instanceMethod ({ cls := "DoorSchoolModel", name := "is", desc := "(Ljava/lang/String;)Z" } : Jvm.MethodName)), (Jvm.Cond.code ({ cls := "DoorSchoolModel", name := "is", desc := "(Ljava/lang/String;)Z" } : Jvm.MethodName) prog_13_method_25_code (4 : Nat) (Option.some Jvm.ClassFile.FieldType.boolean)), (Jvm.Cond.methodLink "DoorSchoolModel" (147 : Nat) ({ cls := "java/lang/String", name := "length", desc := "()I" } : Jvm.MethodName)), (Jvm.Cond.methodLink "DoorSchoolModel" (152 : Nat) ({ cls := "java/lang/String", name := "charAt", desc := "(I)C" } : Jvm.MethodName)), (Jvm.Cond.methodLink "DoorSchoolModel" (166 : Nat) ({ cls := "DoorSchoolModel", name := "errs", desc := "(I)V" } : Jvm.MethodName)), (Jvm.Cond.privateMethod ({ cls := "DoorSchoolModel", name := "errs", desc := "(I)V" } : Jvm.MethodName)), (Jvm.Cond.instanceMethod ({ cls := "DoorSchoolModel", name := "errs", desc := "(I)V" } : Jvm.MethodName)), (Jvm.Cond.code ({ cls := "DoorSchoolModel", name := "errs", desc := "(I)V" } : Jvm.MethodName) prog_13_method_24_code (2 : Nat) (Option.none : Option Jvm.ClassFile.FieldType)), (Jvm.Cond.stringRef "DoorSchoolModel" (243 : Nat) "signs")]
def bk_6_8 : List Cond := [(Jvm.Cond.methodLink "DoorSchoolModel" (189 : Nat) ({ cls := "DoorSchoolModel", name := "told", desc := "(Ljava/lang/String;II)I" } : Jvm.MethodName)), (Jvm.Cond.privateMethod ({ cls := "DoorSchoolModel", name := "told", desc := "(Ljava/lang/String;II)I" } : Jvm.MethodName)), (Jvm.Cond.instanceMethod ({ cls := "DoorSchoolModel", name := "told", desc := "(Ljava/lang/String;II)I" } : Jvm.MethodName)), (Jvm.Cond.code ({ cls := "DoorSchoolModel", name := "told", desc := "(Ljava/lang/String;II)I" } : Jvm.MethodName) prog_13_method_29_code (4 : Nat) (Option.some Jvm.ClassFile.FieldType.int)), (Jvm.Cond.methodLink "DoorSchoolModel" (174 : Nat) ({ cls := "DoorSchoolModel", name := "number", desc := "(II)I" } : Jvm.MethodName)), (Jvm.Cond.privateMethod ({ cls := "DoorSchoolModel", name := "number", desc := "(II)I" } : Jvm.MethodName)), (Jvm.Cond.instanceMethod ({ cls := "DoorSchoolModel", name := "number", desc := "(II)I" } : Jvm.MethodName)), (Jvm.Cond.code ({ cls := "DoorSchoolModel", name := "number", desc := "(II)I" } : Jvm.MethodName) prog_13_method_28_code (4 : Nat) (Option.some Jvm.ClassFile.FieldType.int)), (Jvm.Cond.stringRef "DoorSchoolModel" (245 : Nat) "teachers"), (Jvm.Cond.methodLink "DoorSchoolModel" (247 : Nat) ({ cls := "DoorSchoolModel", name := "readNext", desc := "()V" } : Jvm.MethodName)), (Jvm.Cond.privateMethod ({ cls := "DoorSchoolModel", name := "readNext", desc := "()V" } : Jvm.MethodName)), (Jvm.Cond.instanceMethod ({ cls := "DoorSchoolModel", name := "readNext", desc := "()V" } : Jvm.MethodName)), (Jvm.Cond.code ({ cls := "DoorSchoolModel", name := "readNext", desc := "()V" } : Jvm.MethodName) prog_13_method_40_code (4 : Nat) (Option.none : Option Jvm.ClassFile.FieldType)), (Jvm.Cond.stringRef "DoorSchoolModel" (212 : Nat) "door"), (Jvm.Cond.stringRef "DoorSchoolModel" (214 : Nat) "lesson"), (Jvm.Cond.stringRef "DoorSchoolModel" (216 : Nat) "exam")]
def bk_6_9 : List Cond := [(Jvm.Cond.stringRef "DoorSchoolModel" (218 : Nat) "twin"), (Jvm.Cond.stringRef "DoorSchoolModel" (220 : Nat) "owner"), (Jvm.Cond.stringRef "DoorSchoolModel" (222 : Nat) "house"), (Jvm.Cond.stringRef "DoorSchoolModel" (224 : Nat) "course"), (Jvm.Cond.stringRef "DoorSchoolModel" (226 : Nat) "ahead"), (Jvm.Cond.methodLink "DoorSchoolModel" (228 : Nat) ({ cls := "DoorSchoolModel", name := "readDoor", desc := "()V" } : Jvm.MethodName)), (Jvm.Cond.privateMethod ({ cls := "DoorSchoolModel", name := "readDoor", desc := "()V" } : Jvm.MethodName)), (Jvm.Cond.instanceMethod ({ cls := "DoorSchoolModel", name := "readDoor", desc := "()V" } : Jvm.MethodName)), (Jvm.Cond.code ({ cls := "DoorSchoolModel", name := "readDoor", desc := "()V" } : Jvm.MethodName) prog_13_method_34_code (2 : Nat) (Option.none : Option Jvm.ClassFile.FieldType)), (Jvm.Cond.stringRef "DoorSchoolModel" (181 : Nat) "heart"), (Jvm.Cond.stringRef "DoorSchoolModel" (183 : Nat) "shortest"), (Jvm.Cond.stringRef "DoorSchoolModel" (185 : Nat) "nearest"), (Jvm.Cond.stringRef "DoorSchoolModel" (187 : Nat) "slips"), (Jvm.Cond.methodLink "DoorSchoolModel" (231 : Nat) ({ cls := "DoorSchoolModel", name := "readLesson", desc := "()V" } : Jvm.MethodName)), (Jvm.Cond.privateMethod ({ cls := "DoorSchoolModel", name := "readLesson", desc := "()V" } : Jvm.MethodName)), (Jvm.Cond.instanceMethod ({ cls := "DoorSchoolModel", name := "readLesson", desc := "()V" } : Jvm.MethodName))]
def bk_6_10 : List Cond := [(Jvm.Cond.code ({ cls := "DoorSchoolModel", name := "readLesson", desc := "()V" } : Jvm.MethodName) prog_13_method_35_code (5 : Nat) (Option.none : Option Jvm.ClassFile.FieldType)), (Jvm.Cond.methodLink "DoorSchoolModel" (193 : Nat) ({ cls := "DoorSchoolModel", name := "isNextIn", desc := "(I)Z" } : Jvm.MethodName)), (Jvm.Cond.privateMethod ({ cls := "DoorSchoolModel", name := "isNextIn", desc := "(I)Z" } : Jvm.MethodName)), (Jvm.Cond.instanceMethod ({ cls := "DoorSchoolModel", name := "isNextIn", desc := "(I)Z" } : Jvm.MethodName)), (Jvm.Cond.code ({ cls := "DoorSchoolModel", name := "isNextIn", desc := "(I)Z" } : Jvm.MethodName) prog_13_method_33_code (2 : Nat) (Option.some Jvm.ClassFile.FieldType.boolean)), (Jvm.Cond.methodLink "DoorSchoolModel" (197 : Nat) ({ cls := "DoorSchoolModel", name := "freshKnock", desc := "()I" } : Jvm.MethodName)), (Jvm.Cond.privateMethod ({ cls := "DoorSchoolModel", name := "freshKnock", desc := "()I" } : Jvm.MethodName)), (Jvm.Cond.instanceMethod ({ cls := "DoorSchoolModel", name := "freshKnock", desc := "()I" } : Jvm.MethodName)), (Jvm.Cond.code ({ cls := "DoorSchoolModel", name := "freshKnock", desc := "()I" } : Jvm.MethodName) prog_13_method_31_code (1 : Nat) (Option.some Jvm.ClassFile.FieldType.int)), (Jvm.Cond.methodLink "DoorSchoolModel" (200 : Nat) ({ cls := "DoorSchoolModel", name := "deed", desc := "()I" } : Jvm.MethodName)), (Jvm.Cond.privateMethod ({ cls := "DoorSchoolModel", name := "deed", desc := "()I" } : Jvm.MethodName)), (Jvm.Cond.instanceMethod ({ cls := "DoorSchoolModel", name := "deed", desc := "()I" } : Jvm.MethodName)), (Jvm.Cond.code ({ cls := "DoorSchoolModel", name := "deed", desc := "()I" } : Jvm.MethodName) prog_13_method_32_code (1 : Nat) (Option.some Jvm.ClassFile.FieldType.int)), (Jvm.Cond.stringRef "DoorSchoolModel" (177 : Nat) "open"), (Jvm.Cond.stringRef "DoorSchoolModel" (179 : Nat) "shut"), (Jvm.Cond.methodLink "DoorSchoolModel" (203 : Nat) ({ cls := "DoorSchoolModel", name := "lessonAt", desc := "(II)I" } : Jvm.MethodName))]
def bk_6_11 : List Cond := [(Jvm.Cond.static ({ cls := "DoorSchoolModel", name := "lessonAt", desc := "(II)I" } : Jvm.MethodName)), (Jvm.Cond.code ({ cls := "DoorSchoolModel", name := "lessonAt", desc := "(II)I" } : Jvm.MethodName) prog_13_method_18_code (2 : Nat) (Option.some Jvm.ClassFile.FieldType.int)), (Jvm.Cond.methodLink "DoorSchoolModel" (234 : Nat) ({ cls := "DoorSchoolModel", name := "readTwin", desc := "()V" } : Jvm.MethodName)), (Jvm.Cond.privateMethod ({ cls := "DoorSchoolModel", name := "readTwin", desc := "()V" } : Jvm.MethodName)), (Jvm.Cond.instanceMethod ({ cls := "DoorSchoolModel", name := "readTwin", desc := "()V" } : Jvm.MethodName)), (Jvm.Cond.code ({ cls := "DoorSchoolModel", name := "readTwin", desc := "()V" } : Jvm.MethodName) prog_13_method_38_code (3 : Nat) (Option.none : Option Jvm.ClassFile.FieldType)), (Jvm.Cond.methodLink "DoorSchoolModel" (206 : Nat) ({ cls := "DoorSchoolModel", name := "doesFreshCopy", desc := "(I)Z" } : Jvm.MethodName)), (Jvm.Cond.privateMethod ({ cls := "DoorSchoolModel", name := "doesFreshCopy", desc := "(I)Z" } : Jvm.MethodName)), (Jvm.Cond.instanceMethod ({ cls := "DoorSchoolModel", name := "doesFreshCopy", desc := "(I)Z" } : Jvm.MethodName)), (Jvm.Cond.code ({ cls := "DoorSchoolModel", name := "doesFreshCopy", desc := "(I)Z" } : Jvm.MethodName) prog_13_method_37_code (2 : Nat) (Option.some Jvm.ClassFile.FieldType.boolean)), (Jvm.Cond.methodLink "DoorSchoolModel" (209 : Nat) ({ cls := "DoorSchoolModel", name := "isFreshCopied", desc := "(I)Z" } : Jvm.MethodName)), (Jvm.Cond.privateMethod ({ cls := "DoorSchoolModel", name := "isFreshCopied", desc := "(I)Z" } : Jvm.MethodName)), (Jvm.Cond.instanceMethod ({ cls := "DoorSchoolModel", name := "isFreshCopied", desc := "(I)Z" } : Jvm.MethodName)), (Jvm.Cond.code ({ cls := "DoorSchoolModel", name := "isFreshCopied", desc := "(I)Z" } : Jvm.MethodName) prog_13_method_36_code (3 : Nat) (Option.some Jvm.ClassFile.FieldType.boolean)), (Jvm.Cond.methodLink "DoorSchoolModel" (237 : Nat) ({ cls := "DoorSchoolModel", name := "readRule", desc := "(I)V" } : Jvm.MethodName)), (Jvm.Cond.privateMethod ({ cls := "DoorSchoolModel", name := "readRule", desc := "(I)V" } : Jvm.MethodName))]
def bk_6_12 : List Cond := [(Jvm.Cond.instanceMethod ({ cls := "DoorSchoolModel", name := "readRule", desc := "(I)V" } : Jvm.MethodName)), (Jvm.Cond.code ({ cls := "DoorSchoolModel", name := "readRule", desc := "(I)V" } : Jvm.MethodName) prog_13_method_39_code (4 : Nat) (Option.none : Option Jvm.ClassFile.FieldType)), (Jvm.Cond.stringRef "DoorSchoolModel" (240 : Nat) "takes"), (Jvm.Cond.methodLink "DoorSchoolLaw" (36 : Nat) ({ cls := "DoorSchoolModel", name := "door", desc := "(II)I" } : Jvm.MethodName)), (Jvm.Cond.instanceMethod ({ cls := "DoorSchoolModel", name := "door", desc := "(II)I" } : Jvm.MethodName)), (Jvm.Cond.selects "DoorSchoolModel" ({ cls := "DoorSchoolModel", name := "door", desc := "(II)I" } : Jvm.MethodName) ({ cls := "DoorSchoolModel", name := "door", desc := "(II)I" } : Jvm.MethodName)), (Jvm.Cond.code ({ cls := "DoorSchoolModel", name := "door", desc := "(II)I" } : Jvm.MethodName) prog_13_method_57_code (3 : Nat) (Option.some Jvm.ClassFile.FieldType.int)), (Jvm.Cond.methodLink "DoorSchoolModel" (302 : Nat) ({ cls := "DoorSchoolModel", name := "isDoor", desc := "(I)Z" } : Jvm.MethodName)), (Jvm.Cond.privateMethod ({ cls := "DoorSchoolModel", name := "isDoor", desc := "(I)Z" } : Jvm.MethodName)), (Jvm.Cond.instanceMethod ({ cls := "DoorSchoolModel", name := "isDoor", desc := "(I)Z" } : Jvm.MethodName)), (Jvm.Cond.code ({ cls := "DoorSchoolModel", name := "isDoor", desc := "(I)Z" } : Jvm.MethodName) prog_13_method_12_code (2 : Nat) (Option.some Jvm.ClassFile.FieldType.boolean)), (Jvm.Cond.constantLong "DoorSchoolModel" (305 : Nat) (3 : Int64)), (Jvm.Cond.methodLink "DoorSchoolModel" (265 : Nat) ({ cls := "DoorSchoolModel", name := "of", desc := "(II)I" } : Jvm.MethodName)), (Jvm.Cond.privateMethod ({ cls := "DoorSchoolModel", name := "of", desc := "(II)I" } : Jvm.MethodName)), (Jvm.Cond.instanceMethod ({ cls := "DoorSchoolModel", name := "of", desc := "(II)I" } : Jvm.MethodName)), (Jvm.Cond.code ({ cls := "DoorSchoolModel", name := "of", desc := "(II)I" } : Jvm.MethodName) prog_13_method_17_code (3 : Nat) (Option.some Jvm.ClassFile.FieldType.int))]
def bk_6_13 : List Cond := [(Jvm.Cond.methodLink "DoorSchoolLaw" (41 : Nat) ({ cls := "DoorSchoolModel", name := "lesson", desc := "(III)I" } : Jvm.MethodName)), (Jvm.Cond.instanceMethod ({ cls := "DoorSchoolModel", name := "lesson", desc := "(III)I" } : Jvm.MethodName)), (Jvm.Cond.selects "DoorSchoolModel" ({ cls := "DoorSchoolModel", name := "lesson", desc := "(III)I" } : Jvm.MethodName) ({ cls := "DoorSchoolModel", name := "lesson", desc := "(III)I" } : Jvm.MethodName)), (Jvm.Cond.code ({ cls := "DoorSchoolModel", name := "lesson", desc := "(III)I" } : Jvm.MethodName) prog_13_method_58_code (4 : Nat) (Option.some Jvm.ClassFile.FieldType.int)), (Jvm.Cond.methodLink "DoorSchoolLaw" (45 : Nat) ({ cls := "DoorSchoolModel", name := "exam", desc := "(II)I" } : Jvm.MethodName)), (Jvm.Cond.instanceMethod ({ cls := "DoorSchoolModel", name := "exam", desc := "(II)I" } : Jvm.MethodName)), (Jvm.Cond.selects "DoorSchoolModel" ({ cls := "DoorSchoolModel", name := "exam", desc := "(II)I" } : Jvm.MethodName) ({ cls := "DoorSchoolModel", name := "exam", desc := "(II)I" } : Jvm.MethodName)), (Jvm.Cond.code ({ cls := "DoorSchoolModel", name := "exam", desc := "(II)I" } : Jvm.MethodName) prog_13_method_59_code (3 : Nat) (Option.some Jvm.ClassFile.FieldType.int)), (Jvm.Cond.methodLink "DoorSchoolModel" (307 : Nat) ({ cls := "DoorSchoolModel", name := "isExam", desc := "(I)Z" } : Jvm.MethodName)), (Jvm.Cond.privateMethod ({ cls := "DoorSchoolModel", name := "isExam", desc := "(I)Z" } : Jvm.MethodName)), (Jvm.Cond.instanceMethod ({ cls := "DoorSchoolModel", name := "isExam", desc := "(I)Z" } : Jvm.MethodName)), (Jvm.Cond.code ({ cls := "DoorSchoolModel", name := "isExam", desc := "(I)Z" } : Jvm.MethodName) prog_13_method_13_code (2 : Nat) (Option.some Jvm.ClassFile.FieldType.boolean)), (Jvm.Cond.methodLink "DoorSchoolLaw" (49 : Nat) ({ cls := "DoorSchoolModel", name := "house", desc := "(II)I" } : Jvm.MethodName)), (Jvm.Cond.instanceMethod ({ cls := "DoorSchoolModel", name := "house", desc := "(II)I" } : Jvm.MethodName)), (Jvm.Cond.selects "DoorSchoolModel" ({ cls := "DoorSchoolModel", name := "house", desc := "(II)I" } : Jvm.MethodName) ({ cls := "DoorSchoolModel", name := "house", desc := "(II)I" } : Jvm.MethodName)), (Jvm.Cond.code ({ cls := "DoorSchoolModel", name := "house", desc := "(II)I" } : Jvm.MethodName) prog_13_method_60_code (4 : Nat) (Option.some Jvm.ClassFile.FieldType.int))]
def bk_6_14 : List Cond := [(Jvm.Cond.methodLink "DoorSchoolModel" (93 : Nat) ({ cls := "DoorSchoolModel", name := "isSchool", desc := "()Z" } : Jvm.MethodName)), (Jvm.Cond.privateMethod ({ cls := "DoorSchoolModel", name := "isSchool", desc := "()Z" } : Jvm.MethodName)), (Jvm.Cond.instanceMethod ({ cls := "DoorSchoolModel", name := "isSchool", desc := "()Z" } : Jvm.MethodName)), (Jvm.Cond.code ({ cls := "DoorSchoolModel", name := "isSchool", desc := "()Z" } : Jvm.MethodName) prog_13_method_8_code (1 : Nat) (Option.some Jvm.ClassFile.FieldType.boolean)), (Jvm.Cond.methodLink "DoorSchoolModel" (310 : Nat) ({ cls := "DoorSchoolModel", name := "isHouse", desc := "(I)Z" } : Jvm.MethodName)), (Jvm.Cond.privateMethod ({ cls := "DoorSchoolModel", name := "isHouse", desc := "(I)Z" } : Jvm.MethodName)), (Jvm.Cond.instanceMethod ({ cls := "DoorSchoolModel", name := "isHouse", desc := "(I)Z" } : Jvm.MethodName)), (Jvm.Cond.code ({ cls := "DoorSchoolModel", name := "isHouse", desc := "(I)Z" } : Jvm.MethodName) prog_13_method_14_code (2 : Nat) (Option.some Jvm.ClassFile.FieldType.boolean)), (Jvm.Cond.methodLink "DoorSchoolModel" (259 : Nat) ({ cls := "DoorSchoolModel", name := "deedsOf", desc := "(II)I" } : Jvm.MethodName)), (Jvm.Cond.privateMethod ({ cls := "DoorSchoolModel", name := "deedsOf", desc := "(II)I" } : Jvm.MethodName)), (Jvm.Cond.instanceMethod ({ cls := "DoorSchoolModel", name := "deedsOf", desc := "(II)I" } : Jvm.MethodName)), (Jvm.Cond.code ({ cls := "DoorSchoolModel", name := "deedsOf", desc := "(II)I" } : Jvm.MethodName) prog_13_method_43_code (5 : Nat) (Option.some Jvm.ClassFile.FieldType.int)), (Jvm.Cond.methodLink "DoorSchoolModel" (97 : Nat) ({ cls := "DoorSchoolModel", name := "knocks", desc := "()I" } : Jvm.MethodName)), (Jvm.Cond.privateMethod ({ cls := "DoorSchoolModel", name := "knocks", desc := "()I" } : Jvm.MethodName)), (Jvm.Cond.instanceMethod ({ cls := "DoorSchoolModel", name := "knocks", desc := "()I" } : Jvm.MethodName)), (Jvm.Cond.code ({ cls := "DoorSchoolModel", name := "knocks", desc := "()I" } : Jvm.MethodName) prog_13_method_9_code (1 : Nat) (Option.some Jvm.ClassFile.FieldType.int))]
set_option maxRecDepth 20000 in
theorem ct_6 : tables_1_6 = bk_6_0 ++ (bk_6_1 ++ (bk_6_2 ++ (bk_6_3 ++ (bk_6_4 ++ (bk_6_5 ++ (bk_6_6 ++ (bk_6_7 ++ (bk_6_8 ++ (bk_6_9 ++ (bk_6_10 ++ (bk_6_11 ++ (bk_6_12 ++ (bk_6_13 ++ (bk_6_14)))))))))))))) := rfl
theorem bt_6_3 {w : Cond} (h : w ∈ bk_6_3) : w ∈ tables_1_6 := by rw [ct_6]; exact (List.mem_append_right _ (List.mem_append_right _ (List.mem_append_right _ (List.mem_append_left _ h))))
theorem bt_6_4 {w : Cond} (h : w ∈ bk_6_4) : w ∈ tables_1_6 := by rw [ct_6]; exact (List.mem_append_right _ (List.mem_append_right _ (List.mem_append_right _ (List.mem_append_right _ (List.mem_append_left _ h)))))
theorem bt_6_5 {w : Cond} (h : w ∈ bk_6_5) : w ∈ tables_1_6 := by rw [ct_6]; exact (List.mem_append_right _ (List.mem_append_right _ (List.mem_append_right _ (List.mem_append_right _ (List.mem_append_right _ (List.mem_append_left _ h))))))
theorem bt_6_6 {w : Cond} (h : w ∈ bk_6_6) : w ∈ tables_1_6 := by rw [ct_6]; exact (List.mem_append_right _ (List.mem_append_right _ (List.mem_append_right _ (List.mem_append_right _ (List.mem_append_right _ (List.mem_append_right _ (List.mem_append_left _ h)))))))
theorem bt_6_7 {w : Cond} (h : w ∈ bk_6_7) : w ∈ tables_1_6 := by rw [ct_6]; exact (List.mem_append_right _ (List.mem_append_right _ (List.mem_append_right _ (List.mem_append_right _ (List.mem_append_right _ (List.mem_append_right _ (List.mem_append_right _ (List.mem_append_left _ h))))))))
theorem bt_6_8 {w : Cond} (h : w ∈ bk_6_8) : w ∈ tables_1_6 := by rw [ct_6]; exact (List.mem_append_right _ (List.mem_append_right _ (List.mem_append_right _ (List.mem_append_right _ (List.mem_append_right _ (List.mem_append_right _ (List.mem_append_right _ (List.mem_append_right _ (List.mem_append_left _ h)))))))))
theorem bt_6_9 {w : Cond} (h : w ∈ bk_6_9) : w ∈ tables_1_6 := by rw [ct_6]; exact (List.mem_append_right _ (List.mem_append_right _ (List.mem_append_right _ (List.mem_append_right _ (List.mem_append_right _ (List.mem_append_right _ (List.mem_append_right _ (List.mem_append_right _ (List.mem_append_right _ (List.mem_append_left _ h))))))))))
theorem bt_6_10 {w : Cond} (h : w ∈ bk_6_10) : w ∈ tables_1_6 := by rw [ct_6]; exact (List.mem_append_right _ (List.mem_append_right _ (List.mem_append_right _ (List.mem_append_right _ (List.mem_append_right _ (List.mem_append_right _ (List.mem_append_right _ (List.mem_append_right _ (List.mem_append_right _ (List.mem_append_right _ (List.mem_append_left _ h)))))))))))
theorem bt_6_11 {w : Cond} (h : w ∈ bk_6_11) : w ∈ tables_1_6 := by rw [ct_6]; exact (List.mem_append_right _ (List.mem_append_right _ (List.mem_append_right _ (List.mem_append_right _ (List.mem_append_right _ (List.mem_append_right _ (List.mem_append_right _ (List.mem_append_right _ (List.mem_append_right _ (List.mem_append_right _ (List.mem_append_right _ (List.mem_append_left _ h))))))))))))
theorem bt_6_12 {w : Cond} (h : w ∈ bk_6_12) : w ∈ tables_1_6 := by rw [ct_6]; exact (List.mem_append_right _ (List.mem_append_right _ (List.mem_append_right _ (List.mem_append_right _ (List.mem_append_right _ (List.mem_append_right _ (List.mem_append_right _ (List.mem_append_right _ (List.mem_append_right _ (List.mem_append_right _ (List.mem_append_right _ (List.mem_append_right _ (List.mem_append_left _ h)))))))))))))
theorem bt_6_13 {w : Cond} (h : w ∈ bk_6_13) : w ∈ tables_1_6 := by rw [ct_6]; exact (List.mem_append_right _ (List.mem_append_right _ (List.mem_append_right _ (List.mem_append_right _ (List.mem_append_right _ (List.mem_append_right _ (List.mem_append_right _ (List.mem_append_right _ (List.mem_append_right _ (List.mem_append_right _ (List.mem_append_right _ (List.mem_append_right _ (List.mem_append_right _ (List.mem_append_left _ h))))))))))))))
theorem bt_6_14 {w : Cond} (h : w ∈ bk_6_14) : w ∈ tables_1_6 := by rw [ct_6]; exact (List.mem_append_right _ (List.mem_append_right _ (List.mem_append_right _ (List.mem_append_right _ (List.mem_append_right _ (List.mem_append_right _ (List.mem_append_right _ (List.mem_append_right _ (List.mem_append_right _ (List.mem_append_right _ (List.mem_append_right _ (List.mem_append_right _ (List.mem_append_right _ (List.mem_append_right _ h))))))))))))))
def bk_7_0 : List Cond := [(Jvm.Cond.methodLink "DoorSchoolModel" (256 : Nat) ({ cls := "DoorSchoolModel", name := "bits", desc := "(I)I" } : Jvm.MethodName)), (Jvm.Cond.static ({ cls := "DoorSchoolModel", name := "bits", desc := "(I)I" } : Jvm.MethodName)), (Jvm.Cond.code ({ cls := "DoorSchoolModel", name := "bits", desc := "(I)I" } : Jvm.MethodName) prog_13_method_4_code (3 : Nat) (Option.some Jvm.ClassFile.FieldType.int)), (Jvm.Cond.constant "DoorSchoolModel" (83 : Nat) (1431655765 : Int32)), (Jvm.Cond.constant "DoorSchoolModel" (84 : Nat) (858993459 : Int32)), (Jvm.Cond.constant "DoorSchoolModel" (85 : Nat) (252645135 : Int32)), (Jvm.Cond.constant "DoorSchoolModel" (86 : Nat) (16843009 : Int32)), (Jvm.Cond.methodLink "DoorSchoolLaw" (53 : Nat) ({ cls := "DoorSchoolModel", name := "opens", desc := "(II)I" } : Jvm.MethodName)), (Jvm.Cond.instanceMethod ({ cls := "DoorSchoolModel", name := "opens", desc := "(II)I" } : Jvm.MethodName)), (Jvm.Cond.selects "DoorSchoolModel" ({ cls := "DoorSchoolModel", name := "opens", desc := "(II)I" } : Jvm.MethodName) ({ cls := "DoorSchoolModel", name := "opens", desc := "(II)I" } : Jvm.MethodName)), (Jvm.Cond.code ({ cls := "DoorSchoolModel", name := "opens", desc := "(II)I" } : Jvm.MethodName) prog_13_method_61_code (3 : Nat) (Option.some Jvm.ClassFile.FieldType.int)), (Jvm.Cond.methodLink "DoorSchoolModel" (313 : Nat) ({ cls := "DoorSchoolModel", name := "isKnock", desc := "(J)Z" } : Jvm.MethodName)), (Jvm.Cond.privateMethod ({ cls := "DoorSchoolModel", name := "isKnock", desc := "(J)Z" } : Jvm.MethodName)), (Jvm.Cond.instanceMethod ({ cls := "DoorSchoolModel", name := "isKnock", desc := "(J)Z" } : Jvm.MethodName)), (Jvm.Cond.code ({ cls := "DoorSchoolModel", name := "isKnock", desc := "(J)Z" } : Jvm.MethodName) prog_13_method_11_code (3 : Nat) (Option.some Jvm.ClassFile.FieldType.boolean)), (Jvm.Cond.methodLink "DoorSchoolModel" (317 : Nat) ({ cls := "DoorSchoolModel", name := "deedsOfDoor", desc := "(I)I" } : Jvm.MethodName))]
def bk_7_1 : List Cond := [(Jvm.Cond.privateMethod ({ cls := "DoorSchoolModel", name := "deedsOfDoor", desc := "(I)I" } : Jvm.MethodName)), (Jvm.Cond.instanceMethod ({ cls := "DoorSchoolModel", name := "deedsOfDoor", desc := "(I)I" } : Jvm.MethodName)), (Jvm.Cond.code ({ cls := "DoorSchoolModel", name := "deedsOfDoor", desc := "(I)I" } : Jvm.MethodName) prog_13_method_55_code (2 : Nat) (Option.some Jvm.ClassFile.FieldType.int)), (Jvm.Cond.methodLink "DoorSchoolModel" (290 : Nat) ({ cls := "DoorSchoolModel", name := "layRules", desc := "()V" } : Jvm.MethodName)), (Jvm.Cond.privateMethod ({ cls := "DoorSchoolModel", name := "layRules", desc := "()V" } : Jvm.MethodName)), (Jvm.Cond.instanceMethod ({ cls := "DoorSchoolModel", name := "layRules", desc := "()V" } : Jvm.MethodName)), (Jvm.Cond.code ({ cls := "DoorSchoolModel", name := "layRules", desc := "()V" } : Jvm.MethodName) prog_13_method_44_code (4 : Nat) (Option.none : Option Jvm.ClassFile.FieldType)), (Jvm.Cond.methodLink "DoorSchoolModel" (293 : Nat) ({ cls := "DoorSchoolModel", name := "real", desc := "(I)I" } : Jvm.MethodName)), (Jvm.Cond.privateMethod ({ cls := "DoorSchoolModel", name := "real", desc := "(I)I" } : Jvm.MethodName)), (Jvm.Cond.instanceMethod ({ cls := "DoorSchoolModel", name := "real", desc := "(I)I" } : Jvm.MethodName)), (Jvm.Cond.code ({ cls := "DoorSchoolModel", name := "real", desc := "(I)I" } : Jvm.MethodName) prog_13_method_54_code (2 : Nat) (Option.some Jvm.ClassFile.FieldType.int)), (Jvm.Cond.methodLink "DoorSchoolModel" (296 : Nat) ({ cls := "DoorSchoolModel", name := "layLessons", desc := "(I)V" } : Jvm.MethodName)), (Jvm.Cond.privateMethod ({ cls := "DoorSchoolModel", name := "layLessons", desc := "(I)V" } : Jvm.MethodName)), (Jvm.Cond.instanceMethod ({ cls := "DoorSchoolModel", name := "layLessons", desc := "(I)V" } : Jvm.MethodName)), (Jvm.Cond.code ({ cls := "DoorSchoolModel", name := "layLessons", desc := "(I)V" } : Jvm.MethodName) prog_13_method_46_code (3 : Nat) (Option.none : Option Jvm.ClassFile.FieldType)), (Jvm.Cond.methodLink "DoorSchoolModel" (268 : Nat) ({ cls := "DoorSchoolModel", name := "add", desc := "(II)V" } : Jvm.MethodName))]
def bk_7_2 : List Cond := [(Jvm.Cond.privateMethod ({ cls := "DoorSchoolModel", name := "add", desc := "(II)V" } : Jvm.MethodName)), (Jvm.Cond.instanceMethod ({ cls := "DoorSchoolModel", name := "add", desc := "(II)V" } : Jvm.MethodName)), (Jvm.Cond.code ({ cls := "DoorSchoolModel", name := "add", desc := "(II)V" } : Jvm.MethodName) prog_13_method_45_code (3 : Nat) (Option.none : Option Jvm.ClassFile.FieldType)), (Jvm.Cond.methodLink "DoorSchoolModel" (299 : Nat) ({ cls := "DoorSchoolModel", name := "learns", desc := "(I)I" } : Jvm.MethodName)), (Jvm.Cond.privateMethod ({ cls := "DoorSchoolModel", name := "learns", desc := "(I)I" } : Jvm.MethodName)), (Jvm.Cond.instanceMethod ({ cls := "DoorSchoolModel", name := "learns", desc := "(I)I" } : Jvm.MethodName)), (Jvm.Cond.code ({ cls := "DoorSchoolModel", name := "learns", desc := "(I)I" } : Jvm.MethodName) prog_13_method_53_code (5 : Nat) (Option.some Jvm.ClassFile.FieldType.int)), (Jvm.Cond.methodLink "DoorSchoolModel" (284 : Nat) ({ cls := "DoorSchoolModel", name := "firstRule", desc := "()I" } : Jvm.MethodName)), (Jvm.Cond.privateMethod ({ cls := "DoorSchoolModel", name := "firstRule", desc := "()I" } : Jvm.MethodName)), (Jvm.Cond.instanceMethod ({ cls := "DoorSchoolModel", name := "firstRule", desc := "()I" } : Jvm.MethodName)), (Jvm.Cond.code ({ cls := "DoorSchoolModel", name := "firstRule", desc := "()I" } : Jvm.MethodName) prog_13_method_49_code (2 : Nat) (Option.some Jvm.ClassFile.FieldType.int)), (Jvm.Cond.methodLink "DoorSchoolModel" (275 : Nat) ({ cls := "DoorSchoolModel", name := "isAsTold", desc := "(I)Z" } : Jvm.MethodName)), (Jvm.Cond.privateMethod ({ cls := "DoorSchoolModel", name := "isAsTold", desc := "(I)Z" } : Jvm.MethodName)), (Jvm.Cond.instanceMethod ({ cls := "DoorSchoolModel", name := "isAsTold", desc := "(I)Z" } : Jvm.MethodName)), (Jvm.Cond.code ({ cls := "DoorSchoolModel", name := "isAsTold", desc := "(I)Z" } : Jvm.MethodName) prog_13_method_48_code (3 : Nat) (Option.some Jvm.ClassFile.FieldType.boolean)), (Jvm.Cond.methodLink "DoorSchoolModel" (272 : Nat) ({ cls := "DoorSchoolModel", name := "bit", desc := "(II)I" } : Jvm.MethodName))]
def bk_7_3 : List Cond := [(Jvm.Cond.static ({ cls := "DoorSchoolModel", name := "bit", desc := "(II)I" } : Jvm.MethodName)), (Jvm.Cond.code ({ cls := "DoorSchoolModel", name := "bit", desc := "(II)I" } : Jvm.MethodName) prog_13_method_5_code (2 : Nat) (Option.some Jvm.ClassFile.FieldType.int)), (Jvm.Cond.methodLink "DoorSchoolModel" (287 : Nat) ({ cls := "DoorSchoolModel", name := "byLesson", desc := "(II)I" } : Jvm.MethodName)), (Jvm.Cond.privateMethod ({ cls := "DoorSchoolModel", name := "byLesson", desc := "(II)I" } : Jvm.MethodName)), (Jvm.Cond.instanceMethod ({ cls := "DoorSchoolModel", name := "byLesson", desc := "(II)I" } : Jvm.MethodName)), (Jvm.Cond.code ({ cls := "DoorSchoolModel", name := "byLesson", desc := "(II)I" } : Jvm.MethodName) prog_13_method_52_code (3 : Nat) (Option.some Jvm.ClassFile.FieldType.int)), (Jvm.Cond.methodLink "DoorSchoolModel" (278 : Nat) ({ cls := "DoorSchoolModel", name := "latestOf", desc := "(I)I" } : Jvm.MethodName)), (Jvm.Cond.privateMethod ({ cls := "DoorSchoolModel", name := "latestOf", desc := "(I)I" } : Jvm.MethodName)), (Jvm.Cond.instanceMethod ({ cls := "DoorSchoolModel", name := "latestOf", desc := "(I)I" } : Jvm.MethodName)), (Jvm.Cond.code ({ cls := "DoorSchoolModel", name := "latestOf", desc := "(I)I" } : Jvm.MethodName) prog_13_method_50_code (3 : Nat) (Option.some Jvm.ClassFile.FieldType.int)), (Jvm.Cond.methodLink "DoorSchoolModel" (281 : Nat) ({ cls := "DoorSchoolModel", name := "nearestTo", desc := "(I)I" } : Jvm.MethodName)), (Jvm.Cond.privateMethod ({ cls := "DoorSchoolModel", name := "nearestTo", desc := "(I)I" } : Jvm.MethodName)), (Jvm.Cond.instanceMethod ({ cls := "DoorSchoolModel", name := "nearestTo", desc := "(I)I" } : Jvm.MethodName)), (Jvm.Cond.code ({ cls := "DoorSchoolModel", name := "nearestTo", desc := "(I)I" } : Jvm.MethodName) prog_13_method_51_code (4 : Nat) (Option.some Jvm.ClassFile.FieldType.int)), (Jvm.Cond.methodLink "DoorSchoolLaw" (57 : Nat) ({ cls := "DoorSchoolModel", name := "deeds", desc := "(I)I" } : Jvm.MethodName)), (Jvm.Cond.instanceMethod ({ cls := "DoorSchoolModel", name := "deeds", desc := "(I)I" } : Jvm.MethodName))]
def bk_7_4 : List Cond := [(Jvm.Cond.selects "DoorSchoolModel" ({ cls := "DoorSchoolModel", name := "deeds", desc := "(I)I" } : Jvm.MethodName) ({ cls := "DoorSchoolModel", name := "deeds", desc := "(I)I" } : Jvm.MethodName)), (Jvm.Cond.code ({ cls := "DoorSchoolModel", name := "deeds", desc := "(I)I" } : Jvm.MethodName) prog_13_method_62_code (2 : Nat) (Option.some Jvm.ClassFile.FieldType.int)), (Jvm.Cond.methodLink "DoorSchoolLaw" (61 : Nat) ({ cls := "DoorSchoolModel", name := "often", desc := "(I)I" } : Jvm.MethodName)), (Jvm.Cond.instanceMethod ({ cls := "DoorSchoolModel", name := "often", desc := "(I)I" } : Jvm.MethodName)), (Jvm.Cond.selects "DoorSchoolModel" ({ cls := "DoorSchoolModel", name := "often", desc := "(I)I" } : Jvm.MethodName) ({ cls := "DoorSchoolModel", name := "often", desc := "(I)I" } : Jvm.MethodName)), (Jvm.Cond.code ({ cls := "DoorSchoolModel", name := "often", desc := "(I)I" } : Jvm.MethodName) prog_13_method_63_code (2 : Nat) (Option.some Jvm.ClassFile.FieldType.int)), (Jvm.Cond.methodLink "DoorSchoolLaw" (65 : Nat) ({ cls := "DoorSchoolModel", name := "why", desc := "(II)I" } : Jvm.MethodName)), (Jvm.Cond.instanceMethod ({ cls := "DoorSchoolModel", name := "why", desc := "(II)I" } : Jvm.MethodName)), (Jvm.Cond.selects "DoorSchoolModel" ({ cls := "DoorSchoolModel", name := "why", desc := "(II)I" } : Jvm.MethodName) ({ cls := "DoorSchoolModel", name := "why", desc := "(II)I" } : Jvm.MethodName)), (Jvm.Cond.code ({ cls := "DoorSchoolModel", name := "why", desc := "(II)I" } : Jvm.MethodName) prog_13_method_64_code (3 : Nat) (Option.some Jvm.ClassFile.FieldType.int)), (Jvm.Cond.methodLink "DoorSchoolLaw" (69 : Nat) ({ cls := "DoorSchoolModel", name := "rule", desc := "(II)I" } : Jvm.MethodName)), (Jvm.Cond.instanceMethod ({ cls := "DoorSchoolModel", name := "rule", desc := "(II)I" } : Jvm.MethodName)), (Jvm.Cond.selects "DoorSchoolModel" ({ cls := "DoorSchoolModel", name := "rule", desc := "(II)I" } : Jvm.MethodName) ({ cls := "DoorSchoolModel", name := "rule", desc := "(II)I" } : Jvm.MethodName)), (Jvm.Cond.code ({ cls := "DoorSchoolModel", name := "rule", desc := "(II)I" } : Jvm.MethodName) prog_13_method_65_code (4 : Nat) (Option.some Jvm.ClassFile.FieldType.int)), (Jvm.Cond.methodLink "DoorSchoolLaw" (73 : Nat) ({ cls := "DoorSchoolModel", name := "rules", desc := "(I)I" } : Jvm.MethodName)), (Jvm.Cond.instanceMethod ({ cls := "DoorSchoolModel", name := "rules", desc := "(I)I" } : Jvm.MethodName))]
def bk_7_5 : List Cond := [(Jvm.Cond.selects "DoorSchoolModel" ({ cls := "DoorSchoolModel", name := "rules", desc := "(I)I" } : Jvm.MethodName) ({ cls := "DoorSchoolModel", name := "rules", desc := "(I)I" } : Jvm.MethodName)), (Jvm.Cond.code ({ cls := "DoorSchoolModel", name := "rules", desc := "(I)I" } : Jvm.MethodName) prog_13_method_66_code (4 : Nat) (Option.some Jvm.ClassFile.FieldType.int)), (Jvm.Cond.methodLink "DoorSchoolLaw" (77 : Nat) ({ cls := "DoorSchoolModel", name := "does", desc := "(II)I" } : Jvm.MethodName)), (Jvm.Cond.instanceMethod ({ cls := "DoorSchoolModel", name := "does", desc := "(II)I" } : Jvm.MethodName)), (Jvm.Cond.selects "DoorSchoolModel" ({ cls := "DoorSchoolModel", name := "does", desc := "(II)I" } : Jvm.MethodName) ({ cls := "DoorSchoolModel", name := "does", desc := "(II)I" } : Jvm.MethodName)), (Jvm.Cond.code ({ cls := "DoorSchoolModel", name := "does", desc := "(II)I" } : Jvm.MethodName) prog_13_method_68_code (3 : Nat) (Option.some Jvm.ClassFile.FieldType.int)), (Jvm.Cond.methodLink "DoorSchoolModel" (320 : Nat) ({ cls := "DoorSchoolModel", name := "isRule", desc := "(II)Z" } : Jvm.MethodName)), (Jvm.Cond.privateMethod ({ cls := "DoorSchoolModel", name := "isRule", desc := "(II)Z" } : Jvm.MethodName)), (Jvm.Cond.instanceMethod ({ cls := "DoorSchoolModel", name := "isRule", desc := "(II)Z" } : Jvm.MethodName)), (Jvm.Cond.code ({ cls := "DoorSchoolModel", name := "isRule", desc := "(II)Z" } : Jvm.MethodName) prog_13_method_67_code (3 : Nat) (Option.some Jvm.ClassFile.FieldType.boolean)), (Jvm.Cond.methodLink "DoorSchoolLaw" (81 : Nat) ({ cls := "DoorSchoolModel", name := "told", desc := "(II)I" } : Jvm.MethodName)), (Jvm.Cond.instanceMethod ({ cls := "DoorSchoolModel", name := "told", desc := "(II)I" } : Jvm.MethodName)), (Jvm.Cond.selects "DoorSchoolModel" ({ cls := "DoorSchoolModel", name := "told", desc := "(II)I" } : Jvm.MethodName) ({ cls := "DoorSchoolModel", name := "told", desc := "(II)I" } : Jvm.MethodName)), (Jvm.Cond.code ({ cls := "DoorSchoolModel", name := "told", desc := "(II)I" } : Jvm.MethodName) prog_13_method_69_code (4 : Nat) (Option.some Jvm.ClassFile.FieldType.int)), (Jvm.Cond.methodLink "DoorSchoolModel" (324 : Nat) ({ cls := "DoorSchoolModel", name := "areDeeds", desc := "(I)Z" } : Jvm.MethodName)), (Jvm.Cond.privateMethod ({ cls := "DoorSchoolModel", name := "areDeeds", desc := "(I)Z" } : Jvm.MethodName))]
def bk_7_6 : List Cond := [(Jvm.Cond.instanceMethod ({ cls := "DoorSchoolModel", name := "areDeeds", desc := "(I)Z" } : Jvm.MethodName)), (Jvm.Cond.code ({ cls := "DoorSchoolModel", name := "areDeeds", desc := "(I)Z" } : Jvm.MethodName) prog_13_method_16_code (2 : Nat) (Option.some Jvm.ClassFile.FieldType.boolean)), (Jvm.Cond.methodLink "DoorSchoolModel" (101 : Nat) ({ cls := "DoorSchoolModel", name := "allKnocks", desc := "()I" } : Jvm.MethodName)), (Jvm.Cond.privateMethod ({ cls := "DoorSchoolModel", name := "allKnocks", desc := "()I" } : Jvm.MethodName)), (Jvm.Cond.instanceMethod ({ cls := "DoorSchoolModel", name := "allKnocks", desc := "()I" } : Jvm.MethodName)), (Jvm.Cond.code ({ cls := "DoorSchoolModel", name := "allKnocks", desc := "()I" } : Jvm.MethodName) prog_13_method_10_code (1 : Nat) (Option.some Jvm.ClassFile.FieldType.int)), (Jvm.Cond.methodLink "DoorSchoolLaw" (85 : Nat) ({ cls := "DoorSchoolModel", name := "marks", desc := "(I)I" } : Jvm.MethodName)), (Jvm.Cond.instanceMethod ({ cls := "DoorSchoolModel", name := "marks", desc := "(I)I" } : Jvm.MethodName)), (Jvm.Cond.selects "DoorSchoolModel" ({ cls := "DoorSchoolModel", name := "marks", desc := "(I)I" } : Jvm.MethodName) ({ cls := "DoorSchoolModel", name := "marks", desc := "(I)I" } : Jvm.MethodName)), (Jvm.Cond.code ({ cls := "DoorSchoolModel", name := "marks", desc := "(I)I" } : Jvm.MethodName) prog_13_method_72_code (2 : Nat) (Option.some Jvm.ClassFile.FieldType.int)), (Jvm.Cond.methodLink "DoorSchoolModel" (330 : Nat) ({ cls := "DoorSchoolModel", name := "marksBy", desc := "(I)I" } : Jvm.MethodName)), (Jvm.Cond.privateMethod ({ cls := "DoorSchoolModel", name := "marksBy", desc := "(I)I" } : Jvm.MethodName)), (Jvm.Cond.instanceMethod ({ cls := "DoorSchoolModel", name := "marksBy", desc := "(I)I" } : Jvm.MethodName)), (Jvm.Cond.code ({ cls := "DoorSchoolModel", name := "marksBy", desc := "(I)I" } : Jvm.MethodName) prog_13_method_71_code (4 : Nat) (Option.some Jvm.ClassFile.FieldType.int)), (Jvm.Cond.methodLink "DoorSchoolModel" (327 : Nat) ({ cls := "DoorSchoolModel", name := "isRight", desc := "(II)Z" } : Jvm.MethodName)), (Jvm.Cond.privateMethod ({ cls := "DoorSchoolModel", name := "isRight", desc := "(II)Z" } : Jvm.MethodName))]
def bk_7_7 : List Cond := [(Jvm.Cond.instanceMethod ({ cls := "DoorSchoolModel", name := "isRight", desc := "(II)Z" } : Jvm.MethodName)), (Jvm.Cond.code ({ cls := "DoorSchoolModel", name := "isRight", desc := "(II)Z" } : Jvm.MethodName) prog_13_method_70_code (3 : Nat) (Option.some Jvm.ClassFile.FieldType.boolean)), (Jvm.Cond.methodLink "DoorSchoolLaw" (89 : Nat) ({ cls := "DoorSchoolModel", name := "wrong", desc := "(I)I" } : Jvm.MethodName)), (Jvm.Cond.instanceMethod ({ cls := "DoorSchoolModel", name := "wrong", desc := "(I)I" } : Jvm.MethodName)), (Jvm.Cond.selects "DoorSchoolModel" ({ cls := "DoorSchoolModel", name := "wrong", desc := "(I)I" } : Jvm.MethodName) ({ cls := "DoorSchoolModel", name := "wrong", desc := "(I)I" } : Jvm.MethodName)), (Jvm.Cond.code ({ cls := "DoorSchoolModel", name := "wrong", desc := "(I)I" } : Jvm.MethodName) prog_13_method_73_code (4 : Nat) (Option.some Jvm.ClassFile.FieldType.int)), (Jvm.Cond.methodLink "DoorSchoolLaw" (93 : Nat) ({ cls := "DoorSchoolModel", name := "best", desc := "()I" } : Jvm.MethodName)), (Jvm.Cond.instanceMethod ({ cls := "DoorSchoolModel", name := "best", desc := "()I" } : Jvm.MethodName)), (Jvm.Cond.selects "DoorSchoolModel" ({ cls := "DoorSchoolModel", name := "best", desc := "()I" } : Jvm.MethodName) ({ cls := "DoorSchoolModel", name := "best", desc := "()I" } : Jvm.MethodName)), (Jvm.Cond.code ({ cls := "DoorSchoolModel", name := "best", desc := "()I" } : Jvm.MethodName) prog_13_method_74_code (3 : Nat) (Option.some Jvm.ClassFile.FieldType.int)), (Jvm.Cond.methodLink "DoorSchoolLaw" (97 : Nat) ({ cls := "DoorSchoolModel", name := "hard", desc := "()I" } : Jvm.MethodName)), (Jvm.Cond.instanceMethod ({ cls := "DoorSchoolModel", name := "hard", desc := "()I" } : Jvm.MethodName)), (Jvm.Cond.selects "DoorSchoolModel" ({ cls := "DoorSchoolModel", name := "hard", desc := "()I" } : Jvm.MethodName) ({ cls := "DoorSchoolModel", name := "hard", desc := "()I" } : Jvm.MethodName)), (Jvm.Cond.code ({ cls := "DoorSchoolModel", name := "hard", desc := "()I" } : Jvm.MethodName) prog_13_method_75_code (5 : Nat) (Option.some Jvm.ClassFile.FieldType.int)), (Jvm.Cond.methodLink "DoorSchoolLaw" (101 : Nat) ({ cls := "DoorSchoolModel", name := "teach", desc := "(III)I" } : Jvm.MethodName)), (Jvm.Cond.instanceMethod ({ cls := "DoorSchoolModel", name := "teach", desc := "(III)I" } : Jvm.MethodName))]
def bk_7_8 : List Cond := [(Jvm.Cond.selects "DoorSchoolModel" ({ cls := "DoorSchoolModel", name := "teach", desc := "(III)I" } : Jvm.MethodName) ({ cls := "DoorSchoolModel", name := "teach", desc := "(III)I" } : Jvm.MethodName)), (Jvm.Cond.code ({ cls := "DoorSchoolModel", name := "teach", desc := "(III)I" } : Jvm.MethodName) prog_13_method_76_code (5 : Nat) (Option.some Jvm.ClassFile.FieldType.int)), (Jvm.Cond.methodLink "DoorSchoolLaw" (105 : Nat) ({ cls := "DoorSchoolModel", name := "unteach", desc := "()I" } : Jvm.MethodName)), (Jvm.Cond.instanceMethod ({ cls := "DoorSchoolModel", name := "unteach", desc := "()I" } : Jvm.MethodName)), (Jvm.Cond.selects "DoorSchoolModel" ({ cls := "DoorSchoolModel", name := "unteach", desc := "()I" } : Jvm.MethodName) ({ cls := "DoorSchoolModel", name := "unteach", desc := "()I" } : Jvm.MethodName)), (Jvm.Cond.code ({ cls := "DoorSchoolModel", name := "unteach", desc := "()I" } : Jvm.MethodName) prog_13_method_77_code (2 : Nat) (Option.some Jvm.ClassFile.FieldType.int)), (Jvm.Cond.methodLink "DoorSchoolLaw" (109 : Nat) ({ cls := "DoorSchoolModel", name := "gains", desc := "(III)I" } : Jvm.MethodName)), (Jvm.Cond.instanceMethod ({ cls := "DoorSchoolModel", name := "gains", desc := "(III)I" } : Jvm.MethodName)), (Jvm.Cond.selects "DoorSchoolModel" ({ cls := "DoorSchoolModel", name := "gains", desc := "(III)I" } : Jvm.MethodName) ({ cls := "DoorSchoolModel", name := "gains", desc := "(III)I" } : Jvm.MethodName)), (Jvm.Cond.code ({ cls := "DoorSchoolModel", name := "gains", desc := "(III)I" } : Jvm.MethodName) prog_13_method_79_code (4 : Nat) (Option.some Jvm.ClassFile.FieldType.int)), (Jvm.Cond.methodLink "DoorSchoolModel" (333 : Nat) ({ cls := "DoorSchoolModel", name := "deedsWith", desc := "(III)I" } : Jvm.MethodName)), (Jvm.Cond.privateMethod ({ cls := "DoorSchoolModel", name := "deedsWith", desc := "(III)I" } : Jvm.MethodName)), (Jvm.Cond.instanceMethod ({ cls := "DoorSchoolModel", name := "deedsWith", desc := "(III)I" } : Jvm.MethodName)), (Jvm.Cond.code ({ cls := "DoorSchoolModel", name := "deedsWith", desc := "(III)I" } : Jvm.MethodName) prog_13_method_78_code (5 : Nat) (Option.some Jvm.ClassFile.FieldType.int)), (Jvm.Cond.methodLink "DoorSchoolLaw" (113 : Nat) ({ cls := "DoorSchoolModel", name := "help", desc := "(I)I" } : Jvm.MethodName)), (Jvm.Cond.instanceMethod ({ cls := "DoorSchoolModel", name := "help", desc := "(I)I" } : Jvm.MethodName))]
def bk_7_9 : List Cond := [(Jvm.Cond.selects "DoorSchoolModel" ({ cls := "DoorSchoolModel", name := "help", desc := "(I)I" } : Jvm.MethodName) ({ cls := "DoorSchoolModel", name := "help", desc := "(I)I" } : Jvm.MethodName)), (Jvm.Cond.code ({ cls := "DoorSchoolModel", name := "help", desc := "(I)I" } : Jvm.MethodName) prog_13_method_80_code (6 : Nat) (Option.some Jvm.ClassFile.FieldType.int)), (Jvm.Cond.methodLink "DoorSchoolLaw" (117 : Nat) ({ cls := "DoorSchoolModel", name := "idle", desc := "(I)I" } : Jvm.MethodName)), (Jvm.Cond.instanceMethod ({ cls := "DoorSchoolModel", name := "idle", desc := "(I)I" } : Jvm.MethodName)), (Jvm.Cond.selects "DoorSchoolModel" ({ cls := "DoorSchoolModel", name := "idle", desc := "(I)I" } : Jvm.MethodName) ({ cls := "DoorSchoolModel", name := "idle", desc := "(I)I" } : Jvm.MethodName)), (Jvm.Cond.code ({ cls := "DoorSchoolModel", name := "idle", desc := "(I)I" } : Jvm.MethodName) prog_13_method_82_code (5 : Nat) (Option.some Jvm.ClassFile.FieldType.int)), (Jvm.Cond.methodLink "DoorSchoolModel" (337 : Nat) ({ cls := "DoorSchoolModel", name := "deedsWithout", desc := "(II)I" } : Jvm.MethodName)), (Jvm.Cond.privateMethod ({ cls := "DoorSchoolModel", name := "deedsWithout", desc := "(II)I" } : Jvm.MethodName)), (Jvm.Cond.instanceMethod ({ cls := "DoorSchoolModel", name := "deedsWithout", desc := "(II)I" } : Jvm.MethodName)), (Jvm.Cond.code ({ cls := "DoorSchoolModel", name := "deedsWithout", desc := "(II)I" } : Jvm.MethodName) prog_13_method_81_code (4 : Nat) (Option.some Jvm.ClassFile.FieldType.int)), (Jvm.Cond.methodLink "DoorSchoolLaw" (121 : Nat) ({ cls := "DoorSchoolModel", name := "fewest", desc := "(II)I" } : Jvm.MethodName)), (Jvm.Cond.instanceMethod ({ cls := "DoorSchoolModel", name := "fewest", desc := "(II)I" } : Jvm.MethodName)), (Jvm.Cond.selects "DoorSchoolModel" ({ cls := "DoorSchoolModel", name := "fewest", desc := "(II)I" } : Jvm.MethodName) ({ cls := "DoorSchoolModel", name := "fewest", desc := "(II)I" } : Jvm.MethodName)), (Jvm.Cond.code ({ cls := "DoorSchoolModel", name := "fewest", desc := "(II)I" } : Jvm.MethodName) prog_13_method_85_code (4 : Nat) (Option.some Jvm.ClassFile.FieldType.int)), (Jvm.Cond.methodLink "DoorSchoolModel" (347 : Nat) ({ cls := "DoorSchoolModel", name := "isWay", desc := "(I)Z" } : Jvm.MethodName)), (Jvm.Cond.static ({ cls := "DoorSchoolModel", name := "isWay", desc := "(I)Z" } : Jvm.MethodName))]
def bk_7_10 : List Cond := [(Jvm.Cond.code ({ cls := "DoorSchoolModel", name := "isWay", desc := "(I)Z" } : Jvm.MethodName) prog_13_method_15_code (1 : Nat) (Option.some Jvm.ClassFile.FieldType.boolean)), (Jvm.Cond.methodLink "DoorSchoolModel" (350 : Nat) ({ cls := "DoorSchoolModel", name := "fewestSet", desc := "(II)I" } : Jvm.MethodName)), (Jvm.Cond.privateMethod ({ cls := "DoorSchoolModel", name := "fewestSet", desc := "(II)I" } : Jvm.MethodName)), (Jvm.Cond.instanceMethod ({ cls := "DoorSchoolModel", name := "fewestSet", desc := "(II)I" } : Jvm.MethodName)), (Jvm.Cond.code ({ cls := "DoorSchoolModel", name := "fewestSet", desc := "(II)I" } : Jvm.MethodName) prog_13_method_84_code (5 : Nat) (Option.some Jvm.ClassFile.FieldType.int)), (Jvm.Cond.methodLink "DoorSchoolModel" (343 : Nat) ({ cls := "DoorSchoolModel", name := "learnsBy", desc := "(III)Z" } : Jvm.MethodName)), (Jvm.Cond.privateMethod ({ cls := "DoorSchoolModel", name := "learnsBy", desc := "(III)Z" } : Jvm.MethodName)), (Jvm.Cond.instanceMethod ({ cls := "DoorSchoolModel", name := "learnsBy", desc := "(III)Z" } : Jvm.MethodName)), (Jvm.Cond.code ({ cls := "DoorSchoolModel", name := "learnsBy", desc := "(III)Z" } : Jvm.MethodName) prog_13_method_83_code (5 : Nat) (Option.some Jvm.ClassFile.FieldType.boolean)), (Jvm.Cond.methodLink "DoorSchoolModel" (340 : Nat) ({ cls := "DoorSchoolModel", name := "laySet", desc := "(II)V" } : Jvm.MethodName)), (Jvm.Cond.privateMethod ({ cls := "DoorSchoolModel", name := "laySet", desc := "(II)V" } : Jvm.MethodName)), (Jvm.Cond.instanceMethod ({ cls := "DoorSchoolModel", name := "laySet", desc := "(II)V" } : Jvm.MethodName)), (Jvm.Cond.code ({ cls := "DoorSchoolModel", name := "laySet", desc := "(II)V" } : Jvm.MethodName) prog_13_method_47_code (4 : Nat) (Option.none : Option Jvm.ClassFile.FieldType)), (Jvm.Cond.methodLink "DoorSchoolLaw" (125 : Nat) ({ cls := "DoorSchoolModel", name := "course", desc := "(II)I" } : Jvm.MethodName)), (Jvm.Cond.instanceMethod ({ cls := "DoorSchoolModel", name := "course", desc := "(II)I" } : Jvm.MethodName)), (Jvm.Cond.selects "DoorSchoolModel" ({ cls := "DoorSchoolModel", name := "course", desc := "(II)I" } : Jvm.MethodName) ({ cls := "DoorSchoolModel", name := "course", desc := "(II)I" } : Jvm.MethodName))]
def bk_7_11 : List Cond := [(Jvm.Cond.code ({ cls := "DoorSchoolModel", name := "course", desc := "(II)I" } : Jvm.MethodName) prog_13_method_86_code (3 : Nat) (Option.some Jvm.ClassFile.FieldType.int)), (Jvm.Cond.methodLink "DoorSchoolLaw" (129 : Nat) ({ cls := "DoorSchoolModel", name := "sets", desc := "(III)I" } : Jvm.MethodName)), (Jvm.Cond.instanceMethod ({ cls := "DoorSchoolModel", name := "sets", desc := "(III)I" } : Jvm.MethodName)), (Jvm.Cond.selects "DoorSchoolModel" ({ cls := "DoorSchoolModel", name := "sets", desc := "(III)I" } : Jvm.MethodName) ({ cls := "DoorSchoolModel", name := "sets", desc := "(III)I" } : Jvm.MethodName)), (Jvm.Cond.code ({ cls := "DoorSchoolModel", name := "sets", desc := "(III)I" } : Jvm.MethodName) prog_13_method_87_code (6 : Nat) (Option.some Jvm.ClassFile.FieldType.int)), (Jvm.Cond.constantLong "DoorSchoolModel" (353 : Nat) (16 : Int64)), (Jvm.Cond.methodLink "DoorSchoolLaw" (133 : Nat) ({ cls := "DoorSchoolModel", name := "easiest", desc := "(I)I" } : Jvm.MethodName)), (Jvm.Cond.instanceMethod ({ cls := "DoorSchoolModel", name := "easiest", desc := "(I)I" } : Jvm.MethodName)), (Jvm.Cond.selects "DoorSchoolModel" ({ cls := "DoorSchoolModel", name := "easiest", desc := "(I)I" } : Jvm.MethodName) ({ cls := "DoorSchoolModel", name := "easiest", desc := "(I)I" } : Jvm.MethodName)), (Jvm.Cond.code ({ cls := "DoorSchoolModel", name := "easiest", desc := "(I)I" } : Jvm.MethodName) prog_13_method_88_code (6 : Nat) (Option.some Jvm.ClassFile.FieldType.int)), (Jvm.Cond.constant "DoorSchoolModel" (355 : Nat) (1000000 : Int32)), (Jvm.Cond.methodLink "DoorSchoolLaw" (137 : Nat) ({ cls := "DoorSchoolModel", name := "fooled", desc := "(II)I" } : Jvm.MethodName)), (Jvm.Cond.instanceMethod ({ cls := "DoorSchoolModel", name := "fooled", desc := "(II)I" } : Jvm.MethodName)), (Jvm.Cond.selects "DoorSchoolModel" ({ cls := "DoorSchoolModel", name := "fooled", desc := "(II)I" } : Jvm.MethodName) ({ cls := "DoorSchoolModel", name := "fooled", desc := "(II)I" } : Jvm.MethodName)), (Jvm.Cond.code ({ cls := "DoorSchoolModel", name := "fooled", desc := "(II)I" } : Jvm.MethodName) prog_13_method_89_code (4 : Nat) (Option.some Jvm.ClassFile.FieldType.int)), (Jvm.Cond.methodLink "DoorSchoolModel" (356 : Nat) ({ cls := "DoorSchoolModel", name := "ownDeeds", desc := "()I" } : Jvm.MethodName))]
def bk_7_12 : List Cond := [(Jvm.Cond.privateMethod ({ cls := "DoorSchoolModel", name := "ownDeeds", desc := "()I" } : Jvm.MethodName)), (Jvm.Cond.instanceMethod ({ cls := "DoorSchoolModel", name := "ownDeeds", desc := "()I" } : Jvm.MethodName)), (Jvm.Cond.code ({ cls := "DoorSchoolModel", name := "ownDeeds", desc := "()I" } : Jvm.MethodName) prog_13_method_56_code (1 : Nat) (Option.some Jvm.ClassFile.FieldType.int)), (Jvm.Cond.methodLink "DoorSchoolLaw" (141 : Nat) ({ cls := "DoorSchoolModel", name := "tries", desc := "(II)I" } : Jvm.MethodName)), (Jvm.Cond.instanceMethod ({ cls := "DoorSchoolModel", name := "tries", desc := "(II)I" } : Jvm.MethodName)), (Jvm.Cond.selects "DoorSchoolModel" ({ cls := "DoorSchoolModel", name := "tries", desc := "(II)I" } : Jvm.MethodName) ({ cls := "DoorSchoolModel", name := "tries", desc := "(II)I" } : Jvm.MethodName)), (Jvm.Cond.code ({ cls := "DoorSchoolModel", name := "tries", desc := "(II)I" } : Jvm.MethodName) prog_13_method_91_code (4 : Nat) (Option.some Jvm.ClassFile.FieldType.int)), (Jvm.Cond.methodLink "DoorSchoolModel" (359 : Nat) ({ cls := "DoorSchoolModel", name := "trickOf", desc := "(II)I" } : Jvm.MethodName)), (Jvm.Cond.privateMethod ({ cls := "DoorSchoolModel", name := "trickOf", desc := "(II)I" } : Jvm.MethodName)), (Jvm.Cond.instanceMethod ({ cls := "DoorSchoolModel", name := "trickOf", desc := "(II)I" } : Jvm.MethodName)), (Jvm.Cond.code ({ cls := "DoorSchoolModel", name := "trickOf", desc := "(II)I" } : Jvm.MethodName) prog_13_method_90_code (6 : Nat) (Option.some Jvm.ClassFile.FieldType.int)), (Jvm.Cond.methodLink "DoorSchoolLaw" (145 : Nat) ({ cls := "DoorSchoolModel", name := "trick", desc := "(II)I" } : Jvm.MethodName)), (Jvm.Cond.instanceMethod ({ cls := "DoorSchoolModel", name := "trick", desc := "(II)I" } : Jvm.MethodName)), (Jvm.Cond.selects "DoorSchoolModel" ({ cls := "DoorSchoolModel", name := "trick", desc := "(II)I" } : Jvm.MethodName) ({ cls := "DoorSchoolModel", name := "trick", desc := "(II)I" } : Jvm.MethodName)), (Jvm.Cond.code ({ cls := "DoorSchoolModel", name := "trick", desc := "(II)I" } : Jvm.MethodName) prog_13_method_92_code (3 : Nat) (Option.some Jvm.ClassFile.FieldType.int)), (Jvm.Cond.methodLink "DoorSchoolLaw" (149 : Nat) ({ cls := "DoorSchoolModel", name := "harden", desc := "(I)I" } : Jvm.MethodName))]
def bk_7_13 : List Cond := [(Jvm.Cond.instanceMethod ({ cls := "DoorSchoolModel", name := "harden", desc := "(I)I" } : Jvm.MethodName)), (Jvm.Cond.selects "DoorSchoolModel" ({ cls := "DoorSchoolModel", name := "harden", desc := "(I)I" } : Jvm.MethodName) ({ cls := "DoorSchoolModel", name := "harden", desc := "(I)I" } : Jvm.MethodName)), (Jvm.Cond.code ({ cls := "DoorSchoolModel", name := "harden", desc := "(I)I" } : Jvm.MethodName) prog_13_method_95_code (6 : Nat) (Option.some Jvm.ClassFile.FieldType.int)), (Jvm.Cond.methodLink "DoorSchoolModel" (362 : Nat) ({ cls := "DoorSchoolModel", name := "fooledBy", desc := "(I)I" } : Jvm.MethodName)), (Jvm.Cond.privateMethod ({ cls := "DoorSchoolModel", name := "fooledBy", desc := "(I)I" } : Jvm.MethodName)), (Jvm.Cond.instanceMethod ({ cls := "DoorSchoolModel", name := "fooledBy", desc := "(I)I" } : Jvm.MethodName)), (Jvm.Cond.code ({ cls := "DoorSchoolModel", name := "fooledBy", desc := "(I)I" } : Jvm.MethodName) prog_13_method_93_code (2 : Nat) (Option.some Jvm.ClassFile.FieldType.int)), (Jvm.Cond.methodLink "DoorSchoolModel" (365 : Nat) ({ cls := "DoorSchoolModel", name := "hardened", desc := "(II)I" } : Jvm.MethodName)), (Jvm.Cond.privateMethod ({ cls := "DoorSchoolModel", name := "hardened", desc := "(II)I" } : Jvm.MethodName)), (Jvm.Cond.instanceMethod ({ cls := "DoorSchoolModel", name := "hardened", desc := "(II)I" } : Jvm.MethodName)), (Jvm.Cond.code ({ cls := "DoorSchoolModel", name := "hardened", desc := "(II)I" } : Jvm.MethodName) prog_13_method_94_code (3 : Nat) (Option.some Jvm.ClassFile.FieldType.int)), (Jvm.Cond.methodLink "DoorSchoolLaw" (153 : Nat) ({ cls := "DoorSchoolModel", name := "left", desc := "(I)I" } : Jvm.MethodName)), (Jvm.Cond.instanceMethod ({ cls := "DoorSchoolModel", name := "left", desc := "(I)I" } : Jvm.MethodName)), (Jvm.Cond.selects "DoorSchoolModel" ({ cls := "DoorSchoolModel", name := "left", desc := "(I)I" } : Jvm.MethodName) ({ cls := "DoorSchoolModel", name := "left", desc := "(I)I" } : Jvm.MethodName)), (Jvm.Cond.code ({ cls := "DoorSchoolModel", name := "left", desc := "(I)I" } : Jvm.MethodName) prog_13_method_96_code (3 : Nat) (Option.some Jvm.ClassFile.FieldType.int)), (Jvm.Cond.methodLink "DoorSchoolModel" (368 : Nat) ({ cls := "DoorSchoolModel", name := "harden", desc := "(I)I" } : Jvm.MethodName))]
def bk_7_14 : List Cond := [(Jvm.Cond.methodLink "DoorSchoolLaw" (157 : Nat) ({ cls := "DoorSchoolModel", name := "game", desc := "(III)I" } : Jvm.MethodName)), (Jvm.Cond.instanceMethod ({ cls := "DoorSchoolModel", name := "game", desc := "(III)I" } : Jvm.MethodName)), (Jvm.Cond.selects "DoorSchoolModel" ({ cls := "DoorSchoolModel", name := "game", desc := "(III)I" } : Jvm.MethodName) ({ cls := "DoorSchoolModel", name := "game", desc := "(III)I" } : Jvm.MethodName)), (Jvm.Cond.code ({ cls := "DoorSchoolModel", name := "game", desc := "(III)I" } : Jvm.MethodName) prog_13_method_99_code (4 : Nat) (Option.some Jvm.ClassFile.FieldType.int)), (Jvm.Cond.methodLink "DoorSchoolModel" (371 : Nat) ({ cls := "DoorSchoolModel", name := "isStrange", desc := "(I)Z" } : Jvm.MethodName)), (Jvm.Cond.privateMethod ({ cls := "DoorSchoolModel", name := "isStrange", desc := "(I)Z" } : Jvm.MethodName)), (Jvm.Cond.instanceMethod ({ cls := "DoorSchoolModel", name := "isStrange", desc := "(I)Z" } : Jvm.MethodName)), (Jvm.Cond.code ({ cls := "DoorSchoolModel", name := "isStrange", desc := "(I)Z" } : Jvm.MethodName) prog_13_method_98_code (2 : Nat) (Option.some Jvm.ClassFile.FieldType.boolean)), (Jvm.Cond.methodLink "DoorSchoolModel" (374 : Nat) ({ cls := "DoorSchoolModel", name := "deedsByWay", desc := "(II)I" } : Jvm.MethodName)), (Jvm.Cond.privateMethod ({ cls := "DoorSchoolModel", name := "deedsByWay", desc := "(II)I" } : Jvm.MethodName)), (Jvm.Cond.instanceMethod ({ cls := "DoorSchoolModel", name := "deedsByWay", desc := "(II)I" } : Jvm.MethodName)), (Jvm.Cond.code ({ cls := "DoorSchoolModel", name := "deedsByWay", desc := "(II)I" } : Jvm.MethodName) prog_13_method_97_code (3 : Nat) (Option.some Jvm.ClassFile.FieldType.int)), (Jvm.Cond.methodLink "DoorSchoolLaw" (161 : Nat) ({ cls := "DoorSchoolModel", name := "rests", desc := "(I)I" } : Jvm.MethodName)), (Jvm.Cond.instanceMethod ({ cls := "DoorSchoolModel", name := "rests", desc := "(I)I" } : Jvm.MethodName)), (Jvm.Cond.selects "DoorSchoolModel" ({ cls := "DoorSchoolModel", name := "rests", desc := "(I)I" } : Jvm.MethodName) ({ cls := "DoorSchoolModel", name := "rests", desc := "(I)I" } : Jvm.MethodName)), (Jvm.Cond.code ({ cls := "DoorSchoolModel", name := "rests", desc := "(I)I" } : Jvm.MethodName) prog_13_method_101_code (5 : Nat) (Option.some Jvm.ClassFile.FieldType.int))]
set_option maxRecDepth 20000 in
theorem ct_7 : tables_1_7 = bk_7_0 ++ (bk_7_1 ++ (bk_7_2 ++ (bk_7_3 ++ (bk_7_4 ++ (bk_7_5 ++ (bk_7_6 ++ (bk_7_7 ++ (bk_7_8 ++ (bk_7_9 ++ (bk_7_10 ++ (bk_7_11 ++ (bk_7_12 ++ (bk_7_13 ++ (bk_7_14)))))))))))))) := rfl
theorem bt_7_0 {w : Cond} (h : w ∈ bk_7_0) : w ∈ tables_1_7 := by rw [ct_7]; exact (List.mem_append_left _ h)
theorem bt_7_1 {w : Cond} (h : w ∈ bk_7_1) : w ∈ tables_1_7 := by rw [ct_7]; exact (List.mem_append_right _ (List.mem_append_left _ h))
theorem bt_7_2 {w : Cond} (h : w ∈ bk_7_2) : w ∈ tables_1_7 := by rw [ct_7]; exact (List.mem_append_right _ (List.mem_append_right _ (List.mem_append_left _ h)))
theorem bt_7_3 {w : Cond} (h : w ∈ bk_7_3) : w ∈ tables_1_7 := by rw [ct_7]; exact (List.mem_append_right _ (List.mem_append_right _ (List.mem_append_right _ (List.mem_append_left _ h))))
theorem bt_7_4 {w : Cond} (h : w ∈ bk_7_4) : w ∈ tables_1_7 := by rw [ct_7]; exact (List.mem_append_right _ (List.mem_append_right _ (List.mem_append_right _ (List.mem_append_right _ (List.mem_append_left _ h)))))
theorem bt_7_5 {w : Cond} (h : w ∈ bk_7_5) : w ∈ tables_1_7 := by rw [ct_7]; exact (List.mem_append_right _ (List.mem_append_right _ (List.mem_append_right _ (List.mem_append_right _ (List.mem_append_right _ (List.mem_append_left _ h))))))
theorem bt_7_6 {w : Cond} (h : w ∈ bk_7_6) : w ∈ tables_1_7 := by rw [ct_7]; exact (List.mem_append_right _ (List.mem_append_right _ (List.mem_append_right _ (List.mem_append_right _ (List.mem_append_right _ (List.mem_append_right _ (List.mem_append_left _ h)))))))
theorem bt_7_7 {w : Cond} (h : w ∈ bk_7_7) : w ∈ tables_1_7 := by rw [ct_7]; exact (List.mem_append_right _ (List.mem_append_right _ (List.mem_append_right _ (List.mem_append_right _ (List.mem_append_right _ (List.mem_append_right _ (List.mem_append_right _ (List.mem_append_left _ h))))))))
theorem bt_7_8 {w : Cond} (h : w ∈ bk_7_8) : w ∈ tables_1_7 := by rw [ct_7]; exact (List.mem_append_right _ (List.mem_append_right _ (List.mem_append_right _ (List.mem_append_right _ (List.mem_append_right _ (List.mem_append_right _ (List.mem_append_right _ (List.mem_append_right _ (List.mem_append_left _ h)))))))))
theorem bt_7_9 {w : Cond} (h : w ∈ bk_7_9) : w ∈ tables_1_7 := by rw [ct_7]; exact (List.mem_append_right _ (List.mem_append_right _ (List.mem_append_right _ (List.mem_append_right _ (List.mem_append_right _ (List.mem_append_right _ (List.mem_append_right _ (List.mem_append_right _ (List.mem_append_right _ (List.mem_append_left _ h))))))))))
theorem bt_7_10 {w : Cond} (h : w ∈ bk_7_10) : w ∈ tables_1_7 := by rw [ct_7]; exact (List.mem_append_right _ (List.mem_append_right _ (List.mem_append_right _ (List.mem_append_right _ (List.mem_append_right _ (List.mem_append_right _ (List.mem_append_right _ (List.mem_append_right _ (List.mem_append_right _ (List.mem_append_right _ (List.mem_append_left _ h)))))))))))
theorem bt_7_11 {w : Cond} (h : w ∈ bk_7_11) : w ∈ tables_1_7 := by rw [ct_7]; exact (List.mem_append_right _ (List.mem_append_right _ (List.mem_append_right _ (List.mem_append_right _ (List.mem_append_right _ (List.mem_append_right _ (List.mem_append_right _ (List.mem_append_right _ (List.mem_append_right _ (List.mem_append_right _ (List.mem_append_right _ (List.mem_append_left _ h))))))))))))
theorem bt_7_12 {w : Cond} (h : w ∈ bk_7_12) : w ∈ tables_1_7 := by rw [ct_7]; exact (List.mem_append_right _ (List.mem_append_right _ (List.mem_append_right _ (List.mem_append_right _ (List.mem_append_right _ (List.mem_append_right _ (List.mem_append_right _ (List.mem_append_right _ (List.mem_append_right _ (List.mem_append_right _ (List.mem_append_right _ (List.mem_append_right _ (List.mem_append_left _ h)))))))))))))
theorem bt_7_13 {w : Cond} (h : w ∈ bk_7_13) : w ∈ tables_1_7 := by rw [ct_7]; exact (List.mem_append_right _ (List.mem_append_right _ (List.mem_append_right _ (List.mem_append_right _ (List.mem_append_right _ (List.mem_append_right _ (List.mem_append_right _ (List.mem_append_right _ (List.mem_append_right _ (List.mem_append_right _ (List.mem_append_right _ (List.mem_append_right _ (List.mem_append_right _ (List.mem_append_left _ h))))))))))))))
theorem bt_7_14 {w : Cond} (h : w ∈ bk_7_14) : w ∈ tables_1_7 := by rw [ct_7]; exact (List.mem_append_right _ (List.mem_append_right _ (List.mem_append_right _ (List.mem_append_right _ (List.mem_append_right _ (List.mem_append_right _ (List.mem_append_right _ (List.mem_append_right _ (List.mem_append_right _ (List.mem_append_right _ (List.mem_append_right _ (List.mem_append_right _ (List.mem_append_right _ (List.mem_append_right _ h))))))))))))))
def bk_8_0 : List Cond := [(Jvm.Cond.methodLink "DoorSchoolModel" (377 : Nat) ({ cls := "DoorSchoolModel", name := "isRest", desc := "(III)Z" } : Jvm.MethodName)), (Jvm.Cond.privateMethod ({ cls := "DoorSchoolModel", name := "isRest", desc := "(III)Z" } : Jvm.MethodName)), (Jvm.Cond.instanceMethod ({ cls := "DoorSchoolModel", name := "isRest", desc := "(III)Z" } : Jvm.MethodName)), (Jvm.Cond.code ({ cls := "DoorSchoolModel", name := "isRest", desc := "(III)Z" } : Jvm.MethodName) prog_13_method_100_code (6 : Nat) (Option.some Jvm.ClassFile.FieldType.boolean)), (Jvm.Cond.methodLink "DoorSchoolLaw" (165 : Nat) ({ cls := "DoorSchoolModel", name := "rest", desc := "(I)I" } : Jvm.MethodName)), (Jvm.Cond.instanceMethod ({ cls := "DoorSchoolModel", name := "rest", desc := "(I)I" } : Jvm.MethodName)), (Jvm.Cond.selects "DoorSchoolModel" ({ cls := "DoorSchoolModel", name := "rest", desc := "(I)I" } : Jvm.MethodName) ({ cls := "DoorSchoolModel", name := "rest", desc := "(I)I" } : Jvm.MethodName)), (Jvm.Cond.code ({ cls := "DoorSchoolModel", name := "rest", desc := "(I)I" } : Jvm.MethodName) prog_13_method_102_code (4 : Nat) (Option.some Jvm.ClassFile.FieldType.int)), (Jvm.Cond.methodLink "DoorSchoolLaw" (169 : Nat) ({ cls := "DoorSchoolModel", name := "way", desc := "(II)I" } : Jvm.MethodName)), (Jvm.Cond.instanceMethod ({ cls := "DoorSchoolModel", name := "way", desc := "(II)I" } : Jvm.MethodName)), (Jvm.Cond.selects "DoorSchoolModel" ({ cls := "DoorSchoolModel", name := "way", desc := "(II)I" } : Jvm.MethodName) ({ cls := "DoorSchoolModel", name := "way", desc := "(II)I" } : Jvm.MethodName)), (Jvm.Cond.code ({ cls := "DoorSchoolModel", name := "way", desc := "(II)I" } : Jvm.MethodName) prog_13_method_103_code (7 : Nat) (Option.some Jvm.ClassFile.FieldType.int)), (Jvm.Cond.methodLink "DoorSchoolLaw" (173 : Nat) ({ cls := "DoorSchoolModel", name := "errors", desc := "(II)I" } : Jvm.MethodName)), (Jvm.Cond.instanceMethod ({ cls := "DoorSchoolModel", name := "errors", desc := "(II)I" } : Jvm.MethodName)), (Jvm.Cond.selects "DoorSchoolModel" ({ cls := "DoorSchoolModel", name := "errors", desc := "(II)I" } : Jvm.MethodName) ({ cls := "DoorSchoolModel", name := "errors", desc := "(II)I" } : Jvm.MethodName)), (Jvm.Cond.code ({ cls := "DoorSchoolModel", name := "errors", desc := "(II)I" } : Jvm.MethodName) prog_13_method_105_code (3 : Nat) (Option.some Jvm.ClassFile.FieldType.int))]
def bk_8_1 : List Cond := [(Jvm.Cond.methodLink "DoorSchoolModel" (386 : Nat) ({ cls := "DoorSchoolModel", name := "teachAll", desc := "(II)V" } : Jvm.MethodName)), (Jvm.Cond.privateMethod ({ cls := "DoorSchoolModel", name := "teachAll", desc := "(II)V" } : Jvm.MethodName)), (Jvm.Cond.instanceMethod ({ cls := "DoorSchoolModel", name := "teachAll", desc := "(II)V" } : Jvm.MethodName)), (Jvm.Cond.code ({ cls := "DoorSchoolModel", name := "teachAll", desc := "(II)V" } : Jvm.MethodName) prog_13_method_104_code (5 : Nat) (Option.none : Option Jvm.ClassFile.FieldType)), (Jvm.Cond.methodLink "DoorSchoolLaw" (177 : Nat) ({ cls := "DoorSchoolModel", name := "learnt", desc := "(II)I" } : Jvm.MethodName)), (Jvm.Cond.instanceMethod ({ cls := "DoorSchoolModel", name := "learnt", desc := "(II)I" } : Jvm.MethodName)), (Jvm.Cond.selects "DoorSchoolModel" ({ cls := "DoorSchoolModel", name := "learnt", desc := "(II)I" } : Jvm.MethodName) ({ cls := "DoorSchoolModel", name := "learnt", desc := "(II)I" } : Jvm.MethodName)), (Jvm.Cond.code ({ cls := "DoorSchoolModel", name := "learnt", desc := "(II)I" } : Jvm.MethodName) prog_13_method_106_code (3 : Nat) (Option.some Jvm.ClassFile.FieldType.int)), (Jvm.Cond.methodLink "DoorSchoolLaw" (181 : Nat) ({ cls := "DoorSchoolModel", name := "next", desc := "(II)I" } : Jvm.MethodName)), (Jvm.Cond.instanceMethod ({ cls := "DoorSchoolModel", name := "next", desc := "(II)I" } : Jvm.MethodName)), (Jvm.Cond.selects "DoorSchoolModel" ({ cls := "DoorSchoolModel", name := "next", desc := "(II)I" } : Jvm.MethodName) ({ cls := "DoorSchoolModel", name := "next", desc := "(II)I" } : Jvm.MethodName)), (Jvm.Cond.code ({ cls := "DoorSchoolModel", name := "next", desc := "(II)I" } : Jvm.MethodName) prog_13_method_107_code (6 : Nat) (Option.some Jvm.ClassFile.FieldType.int)), (Jvm.Cond.methodLink "DoorSchoolLaw" (185 : Nat) ({ cls := "DoorSchoolModel", name := "same", desc := "(I)I" } : Jvm.MethodName)), (Jvm.Cond.instanceMethod ({ cls := "DoorSchoolModel", name := "same", desc := "(I)I" } : Jvm.MethodName)), (Jvm.Cond.selects "DoorSchoolModel" ({ cls := "DoorSchoolModel", name := "same", desc := "(I)I" } : Jvm.MethodName) ({ cls := "DoorSchoolModel", name := "same", desc := "(I)I" } : Jvm.MethodName)), (Jvm.Cond.code ({ cls := "DoorSchoolModel", name := "same", desc := "(I)I" } : Jvm.MethodName) prog_13_method_111_code (5 : Nat) (Option.some Jvm.ClassFile.FieldType.int))]
def bk_8_2 : List Cond := [(Jvm.Cond.methodLink "DoorSchoolModel" (396 : Nat) ({ cls := "DoorSchoolModel", name := "asksSeen", desc := "(IZ)I" } : Jvm.MethodName)), (Jvm.Cond.privateMethod ({ cls := "DoorSchoolModel", name := "asksSeen", desc := "(IZ)I" } : Jvm.MethodName)), (Jvm.Cond.instanceMethod ({ cls := "DoorSchoolModel", name := "asksSeen", desc := "(IZ)I" } : Jvm.MethodName)), (Jvm.Cond.code ({ cls := "DoorSchoolModel", name := "asksSeen", desc := "(IZ)I" } : Jvm.MethodName) prog_13_method_109_code (4 : Nat) (Option.some Jvm.ClassFile.FieldType.int)), (Jvm.Cond.methodLink "DoorSchoolModel" (389 : Nat) ({ cls := "DoorSchoolModel", name := "isSlot", desc := "(I)Z" } : Jvm.MethodName)), (Jvm.Cond.static ({ cls := "DoorSchoolModel", name := "isSlot", desc := "(I)Z" } : Jvm.MethodName)), (Jvm.Cond.code ({ cls := "DoorSchoolModel", name := "isSlot", desc := "(I)Z" } : Jvm.MethodName) prog_13_method_145_code (1 : Nat) (Option.some Jvm.ClassFile.FieldType.boolean)), (Jvm.Cond.methodLink "DoorSchoolModel" (392 : Nat) ({ cls := "DoorSchoolModel", name := "numberAt", desc := "(II)J" } : Jvm.MethodName)), (Jvm.Cond.privateMethod ({ cls := "DoorSchoolModel", name := "numberAt", desc := "(II)J" } : Jvm.MethodName)), (Jvm.Cond.instanceMethod ({ cls := "DoorSchoolModel", name := "numberAt", desc := "(II)J" } : Jvm.MethodName)), (Jvm.Cond.code ({ cls := "DoorSchoolModel", name := "numberAt", desc := "(II)J" } : Jvm.MethodName) prog_13_method_108_code (3 : Nat) (Option.some Jvm.ClassFile.FieldType.long)), (Jvm.Cond.methodLink "DoorSchoolModel" (400 : Nat) ({ cls := "DoorSchoolModel", name := "doesSo", desc := "(II)Z" } : Jvm.MethodName)), (Jvm.Cond.privateMethod ({ cls := "DoorSchoolModel", name := "doesSo", desc := "(II)Z" } : Jvm.MethodName)), (Jvm.Cond.instanceMethod ({ cls := "DoorSchoolModel", name := "doesSo", desc := "(II)Z" } : Jvm.MethodName)), (Jvm.Cond.code ({ cls := "DoorSchoolModel", name := "doesSo", desc := "(II)Z" } : Jvm.MethodName) prog_13_method_110_code (4 : Nat) (Option.some Jvm.ClassFile.FieldType.boolean)), (Jvm.Cond.methodLink "DoorSchoolLaw" (189 : Nat) ({ cls := "DoorSchoolModel", name := "alike", desc := "(I)I" } : Jvm.MethodName))]
def bk_8_3 : List Cond := [(Jvm.Cond.instanceMethod ({ cls := "DoorSchoolModel", name := "alike", desc := "(I)I" } : Jvm.MethodName)), (Jvm.Cond.selects "DoorSchoolModel" ({ cls := "DoorSchoolModel", name := "alike", desc := "(I)I" } : Jvm.MethodName) ({ cls := "DoorSchoolModel", name := "alike", desc := "(I)I" } : Jvm.MethodName)), (Jvm.Cond.code ({ cls := "DoorSchoolModel", name := "alike", desc := "(I)I" } : Jvm.MethodName) prog_13_method_112_code (5 : Nat) (Option.some Jvm.ClassFile.FieldType.int)), (Jvm.Cond.methodLink "DoorSchoolLaw" (193 : Nat) ({ cls := "DoorSchoolModel", name := "copy", desc := "(II)I" } : Jvm.MethodName)), (Jvm.Cond.instanceMethod ({ cls := "DoorSchoolModel", name := "copy", desc := "(II)I" } : Jvm.MethodName)), (Jvm.Cond.selects "DoorSchoolModel" ({ cls := "DoorSchoolModel", name := "copy", desc := "(II)I" } : Jvm.MethodName) ({ cls := "DoorSchoolModel", name := "copy", desc := "(II)I" } : Jvm.MethodName)), (Jvm.Cond.code ({ cls := "DoorSchoolModel", name := "copy", desc := "(II)I" } : Jvm.MethodName) prog_13_method_114_code (4 : Nat) (Option.some Jvm.ClassFile.FieldType.int)), (Jvm.Cond.methodLink "DoorSchoolModel" (403 : Nat) ({ cls := "DoorSchoolModel", name := "isCopied", desc := "(I)Z" } : Jvm.MethodName)), (Jvm.Cond.privateMethod ({ cls := "DoorSchoolModel", name := "isCopied", desc := "(I)Z" } : Jvm.MethodName)), (Jvm.Cond.instanceMethod ({ cls := "DoorSchoolModel", name := "isCopied", desc := "(I)Z" } : Jvm.MethodName)), (Jvm.Cond.code ({ cls := "DoorSchoolModel", name := "isCopied", desc := "(I)Z" } : Jvm.MethodName) prog_13_method_113_code (3 : Nat) (Option.some Jvm.ClassFile.FieldType.boolean)), (Jvm.Cond.methodLink "DoorSchoolLaw" (197 : Nat) ({ cls := "DoorSchoolModel", name := "hanging", desc := "()I" } : Jvm.MethodName)), (Jvm.Cond.instanceMethod ({ cls := "DoorSchoolModel", name := "hanging", desc := "()I" } : Jvm.MethodName)), (Jvm.Cond.selects "DoorSchoolModel" ({ cls := "DoorSchoolModel", name := "hanging", desc := "()I" } : Jvm.MethodName) ({ cls := "DoorSchoolModel", name := "hanging", desc := "()I" } : Jvm.MethodName)), (Jvm.Cond.code ({ cls := "DoorSchoolModel", name := "hanging", desc := "()I" } : Jvm.MethodName) prog_13_method_117_code (1 : Nat) (Option.some Jvm.ClassFile.FieldType.int)), (Jvm.Cond.methodLink "DoorSchoolModel" (412 : Nat) ({ cls := "DoorSchoolModel", name := "hangAll", desc := "()V" } : Jvm.MethodName))]
def bk_8_4 : List Cond := [(Jvm.Cond.privateMethod ({ cls := "DoorSchoolModel", name := "hangAll", desc := "()V" } : Jvm.MethodName)), (Jvm.Cond.instanceMethod ({ cls := "DoorSchoolModel", name := "hangAll", desc := "()V" } : Jvm.MethodName)), (Jvm.Cond.code ({ cls := "DoorSchoolModel", name := "hangAll", desc := "()V" } : Jvm.MethodName) prog_13_method_116_code (7 : Nat) (Option.none : Option Jvm.ClassFile.FieldType)), (Jvm.Cond.methodLink "DoorSchoolModel" (409 : Nat) ({ cls := "DoorSchoolModel", name := "amissOf", desc := "(II)I" } : Jvm.MethodName)), (Jvm.Cond.privateMethod ({ cls := "DoorSchoolModel", name := "amissOf", desc := "(II)I" } : Jvm.MethodName)), (Jvm.Cond.instanceMethod ({ cls := "DoorSchoolModel", name := "amissOf", desc := "(II)I" } : Jvm.MethodName)), (Jvm.Cond.code ({ cls := "DoorSchoolModel", name := "amissOf", desc := "(II)I" } : Jvm.MethodName) prog_13_method_115_code (3 : Nat) (Option.some Jvm.ClassFile.FieldType.int)), (Jvm.Cond.methodLink "DoorSchoolLaw" (201 : Nat) ({ cls := "DoorSchoolModel", name := "hung", desc := "(I)I" } : Jvm.MethodName)), (Jvm.Cond.instanceMethod ({ cls := "DoorSchoolModel", name := "hung", desc := "(I)I" } : Jvm.MethodName)), (Jvm.Cond.selects "DoorSchoolModel" ({ cls := "DoorSchoolModel", name := "hung", desc := "(I)I" } : Jvm.MethodName) ({ cls := "DoorSchoolModel", name := "hung", desc := "(I)I" } : Jvm.MethodName)), (Jvm.Cond.code ({ cls := "DoorSchoolModel", name := "hung", desc := "(I)I" } : Jvm.MethodName) prog_13_method_118_code (2 : Nat) (Option.some Jvm.ClassFile.FieldType.int)), (Jvm.Cond.methodLink "DoorSchoolLaw" (205 : Nat) ({ cls := "DoorSchoolModel", name := "amiss", desc := "(II)I" } : Jvm.MethodName)), (Jvm.Cond.instanceMethod ({ cls := "DoorSchoolModel", name := "amiss", desc := "(II)I" } : Jvm.MethodName)), (Jvm.Cond.selects "DoorSchoolModel" ({ cls := "DoorSchoolModel", name := "amiss", desc := "(II)I" } : Jvm.MethodName) ({ cls := "DoorSchoolModel", name := "amiss", desc := "(II)I" } : Jvm.MethodName)), (Jvm.Cond.code ({ cls := "DoorSchoolModel", name := "amiss", desc := "(II)I" } : Jvm.MethodName) prog_13_method_119_code (3 : Nat) (Option.some Jvm.ClassFile.FieldType.int)), (Jvm.Cond.methodLink "DoorSchoolLaw" (209 : Nat) ({ cls := "DoorSchoolModel", name := "fits", desc := "(I)I" } : Jvm.MethodName))]
def bk_8_5 : List Cond := [(Jvm.Cond.instanceMethod ({ cls := "DoorSchoolModel", name := "fits", desc := "(I)I" } : Jvm.MethodName)), (Jvm.Cond.selects "DoorSchoolModel" ({ cls := "DoorSchoolModel", name := "fits", desc := "(I)I" } : Jvm.MethodName) ({ cls := "DoorSchoolModel", name := "fits", desc := "(I)I" } : Jvm.MethodName)), (Jvm.Cond.code ({ cls := "DoorSchoolModel", name := "fits", desc := "(I)I" } : Jvm.MethodName) prog_13_method_121_code (3 : Nat) (Option.some Jvm.ClassFile.FieldType.int)), (Jvm.Cond.methodLink "DoorSchoolModel" (415 : Nat) ({ cls := "DoorSchoolModel", name := "fitsOf", desc := "(I)I" } : Jvm.MethodName)), (Jvm.Cond.privateMethod ({ cls := "DoorSchoolModel", name := "fitsOf", desc := "(I)I" } : Jvm.MethodName)), (Jvm.Cond.instanceMethod ({ cls := "DoorSchoolModel", name := "fitsOf", desc := "(I)I" } : Jvm.MethodName)), (Jvm.Cond.code ({ cls := "DoorSchoolModel", name := "fitsOf", desc := "(I)I" } : Jvm.MethodName) prog_13_method_120_code (4 : Nat) (Option.some Jvm.ClassFile.FieldType.int)), (Jvm.Cond.methodLink "DoorSchoolLaw" (213 : Nat) ({ cls := "DoorSchoolModel", name := "sure", desc := "(II)I" } : Jvm.MethodName)), (Jvm.Cond.instanceMethod ({ cls := "DoorSchoolModel", name := "sure", desc := "(II)I" } : Jvm.MethodName)), (Jvm.Cond.selects "DoorSchoolModel" ({ cls := "DoorSchoolModel", name := "sure", desc := "(II)I" } : Jvm.MethodName) ({ cls := "DoorSchoolModel", name := "sure", desc := "(II)I" } : Jvm.MethodName)), (Jvm.Cond.code ({ cls := "DoorSchoolModel", name := "sure", desc := "(II)I" } : Jvm.MethodName) prog_13_method_122_code (6 : Nat) (Option.some Jvm.ClassFile.FieldType.int)), (Jvm.Cond.methodLink "DoorSchoolLaw" (217 : Nat) ({ cls := "DoorSchoolModel", name := "ask", desc := "(I)I" } : Jvm.MethodName)), (Jvm.Cond.instanceMethod ({ cls := "DoorSchoolModel", name := "ask", desc := "(I)I" } : Jvm.MethodName)), (Jvm.Cond.selects "DoorSchoolModel" ({ cls := "DoorSchoolModel", name := "ask", desc := "(I)I" } : Jvm.MethodName) ({ cls := "DoorSchoolModel", name := "ask", desc := "(I)I" } : Jvm.MethodName)), (Jvm.Cond.code ({ cls := "DoorSchoolModel", name := "ask", desc := "(I)I" } : Jvm.MethodName) prog_13_method_125_code (3 : Nat) (Option.some Jvm.ClassFile.FieldType.int)), (Jvm.Cond.methodLink "DoorSchoolModel" (424 : Nat) ({ cls := "DoorSchoolModel", name := "askOf", desc := "(I)I" } : Jvm.MethodName))]
def bk_8_6 : List Cond := [(Jvm.Cond.privateMethod ({ cls := "DoorSchoolModel", name := "askOf", desc := "(I)I" } : Jvm.MethodName)), (Jvm.Cond.instanceMethod ({ cls := "DoorSchoolModel", name := "askOf", desc := "(I)I" } : Jvm.MethodName)), (Jvm.Cond.code ({ cls := "DoorSchoolModel", name := "askOf", desc := "(I)I" } : Jvm.MethodName) prog_13_method_124_code (6 : Nat) (Option.some Jvm.ClassFile.FieldType.int)), (Jvm.Cond.methodLink "DoorSchoolModel" (421 : Nat) ({ cls := "DoorSchoolModel", name := "worstOf", desc := "(II)I" } : Jvm.MethodName)), (Jvm.Cond.privateMethod ({ cls := "DoorSchoolModel", name := "worstOf", desc := "(II)I" } : Jvm.MethodName)), (Jvm.Cond.instanceMethod ({ cls := "DoorSchoolModel", name := "worstOf", desc := "(II)I" } : Jvm.MethodName)), (Jvm.Cond.code ({ cls := "DoorSchoolModel", name := "worstOf", desc := "(II)I" } : Jvm.MethodName) prog_13_method_123_code (6 : Nat) (Option.some Jvm.ClassFile.FieldType.int)), (Jvm.Cond.methodLink "DoorSchoolModel" (418 : Nat) ({ cls := "java/lang/Math", name := "max", desc := "(II)I" } : Jvm.MethodName)), (Jvm.Cond.methodLink "DoorSchoolLaw" (221 : Nat) ({ cls := "DoorSchoolModel", name := "leaves", desc := "(I)I" } : Jvm.MethodName)), (Jvm.Cond.instanceMethod ({ cls := "DoorSchoolModel", name := "leaves", desc := "(I)I" } : Jvm.MethodName)), (Jvm.Cond.selects "DoorSchoolModel" ({ cls := "DoorSchoolModel", name := "leaves", desc := "(I)I" } : Jvm.MethodName) ({ cls := "DoorSchoolModel", name := "leaves", desc := "(I)I" } : Jvm.MethodName)), (Jvm.Cond.code ({ cls := "DoorSchoolModel", name := "leaves", desc := "(I)I" } : Jvm.MethodName) prog_13_method_126_code (4 : Nat) (Option.some Jvm.ClassFile.FieldType.int)), (Jvm.Cond.methodLink "DoorSchoolLaw" (225 : Nat) ({ cls := "DoorSchoolModel", name := "hours", desc := "()I" } : Jvm.MethodName)), (Jvm.Cond.instanceMethod ({ cls := "DoorSchoolModel", name := "hours", desc := "()I" } : Jvm.MethodName)), (Jvm.Cond.selects "DoorSchoolModel" ({ cls := "DoorSchoolModel", name := "hours", desc := "()I" } : Jvm.MethodName) ({ cls := "DoorSchoolModel", name := "hours", desc := "()I" } : Jvm.MethodName)), (Jvm.Cond.code ({ cls := "DoorSchoolModel", name := "hours", desc := "()I" } : Jvm.MethodName) prog_13_method_134_code (1 : Nat) (Option.some Jvm.ClassFile.FieldType.int))]
def bk_8_7 : List Cond := [(Jvm.Cond.methodLink "DoorSchoolModel" (445 : Nat) ({ cls := "DoorSchoolModel", name := "leastHours", desc := "(II)I" } : Jvm.MethodName)), (Jvm.Cond.privateMethod ({ cls := "DoorSchoolModel", name := "leastHours", desc := "(II)I" } : Jvm.MethodName)), (Jvm.Cond.instanceMethod ({ cls := "DoorSchoolModel", name := "leastHours", desc := "(II)I" } : Jvm.MethodName)), (Jvm.Cond.code ({ cls := "DoorSchoolModel", name := "leastHours", desc := "(II)I" } : Jvm.MethodName) prog_13_method_133_code (6 : Nat) (Option.some Jvm.ClassFile.FieldType.int)), (Jvm.Cond.methodLink "DoorSchoolModel" (442 : Nat) ({ cls := "DoorSchoolModel", name := "overBy", desc := "(III)I" } : Jvm.MethodName)), (Jvm.Cond.privateMethod ({ cls := "DoorSchoolModel", name := "overBy", desc := "(III)I" } : Jvm.MethodName)), (Jvm.Cond.instanceMethod ({ cls := "DoorSchoolModel", name := "overBy", desc := "(III)I" } : Jvm.MethodName)), (Jvm.Cond.code ({ cls := "DoorSchoolModel", name := "overBy", desc := "(III)I" } : Jvm.MethodName) prog_13_method_132_code (12 : Nat) (Option.some Jvm.ClassFile.FieldType.int)), (Jvm.Cond.methodLink "DoorSchoolModel" (433 : Nat) ({ cls := "DoorSchoolModel", name := "put", desc := "(II)V" } : Jvm.MethodName)), (Jvm.Cond.privateMethod ({ cls := "DoorSchoolModel", name := "put", desc := "(II)V" } : Jvm.MethodName)), (Jvm.Cond.instanceMethod ({ cls := "DoorSchoolModel", name := "put", desc := "(II)V" } : Jvm.MethodName)), (Jvm.Cond.code ({ cls := "DoorSchoolModel", name := "put", desc := "(II)V" } : Jvm.MethodName) prog_13_method_130_code (4 : Nat) (Option.none : Option Jvm.ClassFile.FieldType)), (Jvm.Cond.methodLink "DoorSchoolModel" (427 : Nat) ({ cls := "DoorSchoolModel", name := "takesOf", desc := "(I)I" } : Jvm.MethodName)), (Jvm.Cond.privateMethod ({ cls := "DoorSchoolModel", name := "takesOf", desc := "(I)I" } : Jvm.MethodName)), (Jvm.Cond.instanceMethod ({ cls := "DoorSchoolModel", name := "takesOf", desc := "(I)I" } : Jvm.MethodName)), (Jvm.Cond.code ({ cls := "DoorSchoolModel", name := "takesOf", desc := "(I)I" } : Jvm.MethodName) prog_13_method_127_code (2 : Nat) (Option.some Jvm.ClassFile.FieldType.int))]
def bk_8_8 : List Cond := [(Jvm.Cond.methodLink "DoorSchoolModel" (430 : Nat) ({ cls := "DoorSchoolModel", name := "overOf", desc := "(I)I" } : Jvm.MethodName)), (Jvm.Cond.privateMethod ({ cls := "DoorSchoolModel", name := "overOf", desc := "(I)I" } : Jvm.MethodName)), (Jvm.Cond.instanceMethod ({ cls := "DoorSchoolModel", name := "overOf", desc := "(I)I" } : Jvm.MethodName)), (Jvm.Cond.code ({ cls := "DoorSchoolModel", name := "overOf", desc := "(I)I" } : Jvm.MethodName) prog_13_method_128_code (2 : Nat) (Option.some Jvm.ClassFile.FieldType.int)), (Jvm.Cond.methodLink "DoorSchoolModel" (436 : Nat) ({ cls := "DoorSchoolModel", name := "afterAll", desc := "(II)I" } : Jvm.MethodName)), (Jvm.Cond.privateMethod ({ cls := "DoorSchoolModel", name := "afterAll", desc := "(II)I" } : Jvm.MethodName)), (Jvm.Cond.instanceMethod ({ cls := "DoorSchoolModel", name := "afterAll", desc := "(II)I" } : Jvm.MethodName)), (Jvm.Cond.code ({ cls := "DoorSchoolModel", name := "afterAll", desc := "(II)I" } : Jvm.MethodName) prog_13_method_131_code (5 : Nat) (Option.some Jvm.ClassFile.FieldType.int)), (Jvm.Cond.methodLink "DoorSchoolModel" (439 : Nat) ({ cls := "DoorSchoolModel", name := "isFree", desc := "(III)Z" } : Jvm.MethodName)), (Jvm.Cond.privateMethod ({ cls := "DoorSchoolModel", name := "isFree", desc := "(III)Z" } : Jvm.MethodName)), (Jvm.Cond.instanceMethod ({ cls := "DoorSchoolModel", name := "isFree", desc := "(III)Z" } : Jvm.MethodName)), (Jvm.Cond.code ({ cls := "DoorSchoolModel", name := "isFree", desc := "(III)Z" } : Jvm.MethodName) prog_13_method_129_code (5 : Nat) (Option.some Jvm.ClassFile.FieldType.boolean)), (Jvm.Cond.methodLink "DoorSchoolLaw" (229 : Nat) ({ cls := "DoorSchoolModel", name := "begins", desc := "(I)I" } : Jvm.MethodName)), (Jvm.Cond.instanceMethod ({ cls := "DoorSchoolModel", name := "begins", desc := "(I)I" } : Jvm.MethodName)), (Jvm.Cond.selects "DoorSchoolModel" ({ cls := "DoorSchoolModel", name := "begins", desc := "(I)I" } : Jvm.MethodName) ({ cls := "DoorSchoolModel", name := "begins", desc := "(I)I" } : Jvm.MethodName)), (Jvm.Cond.code ({ cls := "DoorSchoolModel", name := "begins", desc := "(I)I" } : Jvm.MethodName) prog_13_method_136_code (4 : Nat) (Option.some Jvm.ClassFile.FieldType.int))]
def bk_8_9 : List Cond := [(Jvm.Cond.methodLink "DoorSchoolModel" (448 : Nat) ({ cls := "DoorSchoolModel", name := "mayBegin", desc := "(II)Z" } : Jvm.MethodName)), (Jvm.Cond.privateMethod ({ cls := "DoorSchoolModel", name := "mayBegin", desc := "(II)Z" } : Jvm.MethodName)), (Jvm.Cond.instanceMethod ({ cls := "DoorSchoolModel", name := "mayBegin", desc := "(II)Z" } : Jvm.MethodName)), (Jvm.Cond.code ({ cls := "DoorSchoolModel", name := "mayBegin", desc := "(II)Z" } : Jvm.MethodName) prog_13_method_135_code (4 : Nat) (Option.some Jvm.ClassFile.FieldType.boolean)), (Jvm.Cond.methodLink "DoorSchoolLaw" (233 : Nat) ({ cls := "DoorSchoolModel", name := "teacher", desc := "()I" } : Jvm.MethodName)), (Jvm.Cond.instanceMethod ({ cls := "DoorSchoolModel", name := "teacher", desc := "()I" } : Jvm.MethodName)), (Jvm.Cond.selects "DoorSchoolModel" ({ cls := "DoorSchoolModel", name := "teacher", desc := "()I" } : Jvm.MethodName) ({ cls := "DoorSchoolModel", name := "teacher", desc := "()I" } : Jvm.MethodName)), (Jvm.Cond.code ({ cls := "DoorSchoolModel", name := "teacher", desc := "()I" } : Jvm.MethodName) prog_13_method_137_code (1 : Nat) (Option.some Jvm.ClassFile.FieldType.int)), (Jvm.Cond.methodLink "DoorSchoolLaw" (237 : Nat) ({ cls := "DoorSchoolModel", name := "train", desc := "(III)I" } : Jvm.MethodName)), (Jvm.Cond.instanceMethod ({ cls := "DoorSchoolModel", name := "train", desc := "(III)I" } : Jvm.MethodName)), (Jvm.Cond.selects "DoorSchoolModel" ({ cls := "DoorSchoolModel", name := "train", desc := "(III)I" } : Jvm.MethodName) ({ cls := "DoorSchoolModel", name := "train", desc := "(III)I" } : Jvm.MethodName)), (Jvm.Cond.code ({ cls := "DoorSchoolModel", name := "train", desc := "(III)I" } : Jvm.MethodName) prog_13_method_138_code (5 : Nat) (Option.some Jvm.ClassFile.FieldType.int)), (Jvm.Cond.constantLong "DoorSchoolModel" (451 : Nat) (50 : Int64)), (Jvm.Cond.methodLink "DoorSchoolLaw" (241 : Nat) ({ cls := "DoorSchoolModel", name := "owns", desc := "(II)I" } : Jvm.MethodName)), (Jvm.Cond.instanceMethod ({ cls := "DoorSchoolModel", name := "owns", desc := "(II)I" } : Jvm.MethodName)), (Jvm.Cond.selects "DoorSchoolModel" ({ cls := "DoorSchoolModel", name := "owns", desc := "(II)I" } : Jvm.MethodName) ({ cls := "DoorSchoolModel", name := "owns", desc := "(II)I" } : Jvm.MethodName))]
def bk_8_10 : List Cond := [(Jvm.Cond.code ({ cls := "DoorSchoolModel", name := "owns", desc := "(II)I" } : Jvm.MethodName) prog_13_method_139_code (4 : Nat) (Option.some Jvm.ClassFile.FieldType.int)), (Jvm.Cond.methodLink "DoorSchoolLaw" (245 : Nat) ({ cls := "DoorSchoolModel", name := "storm", desc := "(III)I" } : Jvm.MethodName)), (Jvm.Cond.instanceMethod ({ cls := "DoorSchoolModel", name := "storm", desc := "(III)I" } : Jvm.MethodName)), (Jvm.Cond.selects "DoorSchoolModel" ({ cls := "DoorSchoolModel", name := "storm", desc := "(III)I" } : Jvm.MethodName) ({ cls := "DoorSchoolModel", name := "storm", desc := "(III)I" } : Jvm.MethodName)), (Jvm.Cond.code ({ cls := "DoorSchoolModel", name := "storm", desc := "(III)I" } : Jvm.MethodName) prog_13_method_142_code (5 : Nat) (Option.some Jvm.ClassFile.FieldType.int)), (Jvm.Cond.methodLink "DoorSchoolModel" (468 : Nat) ({ cls := "DoorSchoolModel", name := "isSeed", desc := "(I)Z" } : Jvm.MethodName)), (Jvm.Cond.static ({ cls := "DoorSchoolModel", name := "isSeed", desc := "(I)Z" } : Jvm.MethodName)), (Jvm.Cond.code ({ cls := "DoorSchoolModel", name := "isSeed", desc := "(I)Z" } : Jvm.MethodName) prog_13_method_141_code (1 : Nat) (Option.some Jvm.ClassFile.FieldType.boolean)), (Jvm.Cond.constantLong "DoorSchoolModel" (466 : Nat) (2000000000 : Int64)), (Jvm.Cond.methodLink "DoorSchoolModel" (471 : Nat) ({ cls := "DoorSchoolModel", name := "stormed", desc := "(JI)I" } : Jvm.MethodName)), (Jvm.Cond.privateMethod ({ cls := "DoorSchoolModel", name := "stormed", desc := "(JI)I" } : Jvm.MethodName)), (Jvm.Cond.instanceMethod ({ cls := "DoorSchoolModel", name := "stormed", desc := "(JI)I" } : Jvm.MethodName)), (Jvm.Cond.code ({ cls := "DoorSchoolModel", name := "stormed", desc := "(JI)I" } : Jvm.MethodName) prog_13_method_140_code (8 : Nat) (Option.some Jvm.ClassFile.FieldType.int)), (Jvm.Cond.constantLong "DoorSchoolModel" (456 : Nat) (1103515245 : Int64)), (Jvm.Cond.constantLong "DoorSchoolModel" (458 : Nat) (12345 : Int64)), (Jvm.Cond.constantLong "DoorSchoolModel" (460 : Nat) (2147483648 : Int64))]
def bk_8_11 : List Cond := [(Jvm.Cond.constantLong "DoorSchoolModel" (462 : Nat) (65536 : Int64)), (Jvm.Cond.constantLong "DoorSchoolModel" (464 : Nat) (100 : Int64)), (Jvm.Cond.methodLink "DoorSchoolLaw" (250 : Nat) ({ cls := "DoorSchoolModel", name := "years", desc := "(IIII)I" } : Jvm.MethodName)), (Jvm.Cond.instanceMethod ({ cls := "DoorSchoolModel", name := "years", desc := "(IIII)I" } : Jvm.MethodName)), (Jvm.Cond.selects "DoorSchoolModel" ({ cls := "DoorSchoolModel", name := "years", desc := "(IIII)I" } : Jvm.MethodName) ({ cls := "DoorSchoolModel", name := "years", desc := "(IIII)I" } : Jvm.MethodName)), (Jvm.Cond.code ({ cls := "DoorSchoolModel", name := "years", desc := "(IIII)I" } : Jvm.MethodName) prog_13_method_143_code (7 : Nat) (Option.some Jvm.ClassFile.FieldType.int)), (Jvm.Cond.constantLong "DoorSchoolModel" (475 : Nat) (20 : Int64)), (Jvm.Cond.methodLink "DoorSchoolLaw" (254 : Nat) ({ cls := "DoorSchoolModel", name := "count", desc := "(I)I" } : Jvm.MethodName)), (Jvm.Cond.instanceMethod ({ cls := "DoorSchoolModel", name := "count", desc := "(I)I" } : Jvm.MethodName)), (Jvm.Cond.selects "DoorSchoolModel" ({ cls := "DoorSchoolModel", name := "count", desc := "(I)I" } : Jvm.MethodName) ({ cls := "DoorSchoolModel", name := "count", desc := "(I)I" } : Jvm.MethodName)), (Jvm.Cond.code ({ cls := "DoorSchoolModel", name := "count", desc := "(I)I" } : Jvm.MethodName) prog_13_method_144_code (4 : Nat) (Option.some Jvm.ClassFile.FieldType.int)), (Jvm.Cond.methodLink "DoorSchoolLaw" (266 : Nat) ({ cls := "DoorSchoolModel", name := "row", desc := "(III)I" } : Jvm.MethodName)), (Jvm.Cond.instanceMethod ({ cls := "DoorSchoolModel", name := "row", desc := "(III)I" } : Jvm.MethodName)), (Jvm.Cond.selects "DoorSchoolModel" ({ cls := "DoorSchoolModel", name := "row", desc := "(III)I" } : Jvm.MethodName) ({ cls := "DoorSchoolModel", name := "row", desc := "(III)I" } : Jvm.MethodName)), (Jvm.Cond.code ({ cls := "DoorSchoolModel", name := "row", desc := "(III)I" } : Jvm.MethodName) prog_13_method_147_code (5 : Nat) (Option.some Jvm.ClassFile.FieldType.int)), (Jvm.Cond.methodLink "DoorSchoolLaw" (273 : Nat) ({ cls := "DoorSchoolModel", name := "write", desc := "(IIJ)I" } : Jvm.MethodName))]
def bk_8_12 : List Cond := [(Jvm.Cond.instanceMethod ({ cls := "DoorSchoolModel", name := "write", desc := "(IIJ)I" } : Jvm.MethodName)), (Jvm.Cond.selects "DoorSchoolModel" ({ cls := "DoorSchoolModel", name := "write", desc := "(IIJ)I" } : Jvm.MethodName) ({ cls := "DoorSchoolModel", name := "write", desc := "(IIJ)I" } : Jvm.MethodName)), (Jvm.Cond.code ({ cls := "DoorSchoolModel", name := "write", desc := "(IIJ)I" } : Jvm.MethodName) prog_13_method_148_code (5 : Nat) (Option.some Jvm.ClassFile.FieldType.int)), (Jvm.Cond.methodLink "DoorSchoolModel" (477 : Nat) ({ cls := "DoorSchoolModel", name := "cut", desc := "(JI)J" } : Jvm.MethodName)), (Jvm.Cond.static ({ cls := "DoorSchoolModel", name := "cut", desc := "(JI)J" } : Jvm.MethodName)), (Jvm.Cond.code ({ cls := "DoorSchoolModel", name := "cut", desc := "(JI)J" } : Jvm.MethodName) prog_13_method_146_code (4 : Nat) (Option.some Jvm.ClassFile.FieldType.long)), (Jvm.Cond.methodLink "DoorSchoolLaw" (277 : Nat) ({ cls := "DoorSchoolModel", name := "paste", desc := "(IIIII)I" } : Jvm.MethodName)), (Jvm.Cond.instanceMethod ({ cls := "DoorSchoolModel", name := "paste", desc := "(IIIII)I" } : Jvm.MethodName)), (Jvm.Cond.selects "DoorSchoolModel" ({ cls := "DoorSchoolModel", name := "paste", desc := "(IIIII)I" } : Jvm.MethodName) ({ cls := "DoorSchoolModel", name := "paste", desc := "(IIIII)I" } : Jvm.MethodName)), (Jvm.Cond.code ({ cls := "DoorSchoolModel", name := "paste", desc := "(IIIII)I" } : Jvm.MethodName) prog_13_method_149_code (7 : Nat) (Option.some Jvm.ClassFile.FieldType.int)), (Jvm.Cond.constantLong "DoorSchoolLaw" (267 : Nat) (4294967295 : Int64)), (Jvm.Cond.fieldLink "java/lang/String" (9 : Nat) "java/lang/String" "value" "[B"), (Jvm.Cond.fieldLink "java/lang/String" (15 : Nat) "java/lang/String" "coder" "B")]
set_option maxRecDepth 20000 in
theorem ct_8 : tables_1_8 = bk_8_0 ++ (bk_8_1 ++ (bk_8_2 ++ (bk_8_3 ++ (bk_8_4 ++ (bk_8_5 ++ (bk_8_6 ++ (bk_8_7 ++ (bk_8_8 ++ (bk_8_9 ++ (bk_8_10 ++ (bk_8_11 ++ (bk_8_12)))))))))))) := rfl
theorem bt_8_0 {w : Cond} (h : w ∈ bk_8_0) : w ∈ tables_1_8 := by rw [ct_8]; exact (List.mem_append_left _ h)
theorem bt_8_1 {w : Cond} (h : w ∈ bk_8_1) : w ∈ tables_1_8 := by rw [ct_8]; exact (List.mem_append_right _ (List.mem_append_left _ h))
theorem bt_8_2 {w : Cond} (h : w ∈ bk_8_2) : w ∈ tables_1_8 := by rw [ct_8]; exact (List.mem_append_right _ (List.mem_append_right _ (List.mem_append_left _ h)))
theorem bt_8_3 {w : Cond} (h : w ∈ bk_8_3) : w ∈ tables_1_8 := by rw [ct_8]; exact (List.mem_append_right _ (List.mem_append_right _ (List.mem_append_right _ (List.mem_append_left _ h))))
theorem bt_8_4 {w : Cond} (h : w ∈ bk_8_4) : w ∈ tables_1_8 := by rw [ct_8]; exact (List.mem_append_right _ (List.mem_append_right _ (List.mem_append_right _ (List.mem_append_right _ (List.mem_append_left _ h)))))
theorem bt_8_5 {w : Cond} (h : w ∈ bk_8_5) : w ∈ tables_1_8 := by rw [ct_8]; exact (List.mem_append_right _ (List.mem_append_right _ (List.mem_append_right _ (List.mem_append_right _ (List.mem_append_right _ (List.mem_append_left _ h))))))
theorem bt_8_6 {w : Cond} (h : w ∈ bk_8_6) : w ∈ tables_1_8 := by rw [ct_8]; exact (List.mem_append_right _ (List.mem_append_right _ (List.mem_append_right _ (List.mem_append_right _ (List.mem_append_right _ (List.mem_append_right _ (List.mem_append_left _ h)))))))
theorem bt_8_7 {w : Cond} (h : w ∈ bk_8_7) : w ∈ tables_1_8 := by rw [ct_8]; exact (List.mem_append_right _ (List.mem_append_right _ (List.mem_append_right _ (List.mem_append_right _ (List.mem_append_right _ (List.mem_append_right _ (List.mem_append_right _ (List.mem_append_left _ h))))))))
theorem bt_8_8 {w : Cond} (h : w ∈ bk_8_8) : w ∈ tables_1_8 := by rw [ct_8]; exact (List.mem_append_right _ (List.mem_append_right _ (List.mem_append_right _ (List.mem_append_right _ (List.mem_append_right _ (List.mem_append_right _ (List.mem_append_right _ (List.mem_append_right _ (List.mem_append_left _ h)))))))))
theorem bt_8_9 {w : Cond} (h : w ∈ bk_8_9) : w ∈ tables_1_8 := by rw [ct_8]; exact (List.mem_append_right _ (List.mem_append_right _ (List.mem_append_right _ (List.mem_append_right _ (List.mem_append_right _ (List.mem_append_right _ (List.mem_append_right _ (List.mem_append_right _ (List.mem_append_right _ (List.mem_append_left _ h))))))))))
theorem bt_8_10 {w : Cond} (h : w ∈ bk_8_10) : w ∈ tables_1_8 := by rw [ct_8]; exact (List.mem_append_right _ (List.mem_append_right _ (List.mem_append_right _ (List.mem_append_right _ (List.mem_append_right _ (List.mem_append_right _ (List.mem_append_right _ (List.mem_append_right _ (List.mem_append_right _ (List.mem_append_right _ (List.mem_append_left _ h)))))))))))
theorem bt_8_11 {w : Cond} (h : w ∈ bk_8_11) : w ∈ tables_1_8 := by rw [ct_8]; exact (List.mem_append_right _ (List.mem_append_right _ (List.mem_append_right _ (List.mem_append_right _ (List.mem_append_right _ (List.mem_append_right _ (List.mem_append_right _ (List.mem_append_right _ (List.mem_append_right _ (List.mem_append_right _ (List.mem_append_right _ (List.mem_append_left _ h))))))))))))
theorem bt_8_12 {w : Cond} (h : w ∈ bk_8_12) : w ∈ tables_1_8 := by rw [ct_8]; exact (List.mem_append_right _ (List.mem_append_right _ (List.mem_append_right _ (List.mem_append_right _ (List.mem_append_right _ (List.mem_append_right _ (List.mem_append_right _ (List.mem_append_right _ (List.mem_append_right _ (List.mem_append_right _ (List.mem_append_right _ (List.mem_append_right _ h))))))))))))
theorem MM_0 {α : Type} {x : α} {l : List α} : x ∈ x :: l := List.Mem.head _
theorem MM_1 {α : Type} {a0 x : α} {l : List α} : x ∈ a0 :: x :: l := List.Mem.tail _ (List.Mem.head _)
theorem MM_2 {α : Type} {a0 a1 x : α} {l : List α} : x ∈ a0 :: a1 :: x :: l := List.Mem.tail _ (List.Mem.tail _ (List.Mem.head _))
theorem MM_3 {α : Type} {a0 a1 a2 x : α} {l : List α} : x ∈ a0 :: a1 :: a2 :: x :: l := List.Mem.tail _ (List.Mem.tail _ (List.Mem.tail _ (List.Mem.head _)))
theorem MM_4 {α : Type} {a0 a1 a2 a3 x : α} {l : List α} : x ∈ a0 :: a1 :: a2 :: a3 :: x :: l := List.Mem.tail _ (List.Mem.tail _ (List.Mem.tail _ (List.Mem.tail _ (List.Mem.head _))))
theorem MM_5 {α : Type} {a0 a1 a2 a3 a4 x : α} {l : List α} : x ∈ a0 :: a1 :: a2 :: a3 :: a4 :: x :: l := List.Mem.tail _ (List.Mem.tail _ (List.Mem.tail _ (List.Mem.tail _ (List.Mem.tail _ (List.Mem.head _)))))
theorem MM_6 {α : Type} {a0 a1 a2 a3 a4 a5 x : α} {l : List α} : x ∈ a0 :: a1 :: a2 :: a3 :: a4 :: a5 :: x :: l := List.Mem.tail _ (List.Mem.tail _ (List.Mem.tail _ (List.Mem.tail _ (List.Mem.tail _ (List.Mem.tail _ (List.Mem.head _))))))
theorem MM_7 {α : Type} {a0 a1 a2 a3 a4 a5 a6 x : α} {l : List α} : x ∈ a0 :: a1 :: a2 :: a3 :: a4 :: a5 :: a6 :: x :: l := List.Mem.tail _ (List.Mem.tail _ (List.Mem.tail _ (List.Mem.tail _ (List.Mem.tail _ (List.Mem.tail _ (List.Mem.tail _ (List.Mem.head _)))))))
theorem MM_8 {α : Type} {a0 a1 a2 a3 a4 a5 a6 a7 x : α} {l : List α} : x ∈ a0 :: a1 :: a2 :: a3 :: a4 :: a5 :: a6 :: a7 :: x :: l := List.Mem.tail _ (List.Mem.tail _ (List.Mem.tail _ (List.Mem.tail _ (List.Mem.tail _ (List.Mem.tail _ (List.Mem.tail _ (List.Mem.tail _ (List.Mem.head _))))))))
theorem MM_9 {α : Type} {a0 a1 a2 a3 a4 a5 a6 a7 a8 x : α} {l : List α} : x ∈ a0 :: a1 :: a2 :: a3 :: a4 :: a5 :: a6 :: a7 :: a8 :: x :: l := List.Mem.tail _ (List.Mem.tail _ (List.Mem.tail _ (List.Mem.tail _ (List.Mem.tail _ (List.Mem.tail _ (List.Mem.tail _ (List.Mem.tail _ (List.Mem.tail _ (List.Mem.head _)))))))))
theorem MM_10 {α : Type} {a0 a1 a2 a3 a4 a5 a6 a7 a8 a9 x : α} {l : List α} : x ∈ a0 :: a1 :: a2 :: a3 :: a4 :: a5 :: a6 :: a7 :: a8 :: a9 :: x :: l := List.Mem.tail _ (List.Mem.tail _ (List.Mem.tail _ (List.Mem.tail _ (List.Mem.tail _ (List.Mem.tail _ (List.Mem.tail _ (List.Mem.tail _ (List.Mem.tail _ (List.Mem.tail _ (List.Mem.head _))))))))))
theorem MM_11 {α : Type} {a0 a1 a2 a3 a4 a5 a6 a7 a8 a9 a10 x : α} {l : List α} : x ∈ a0 :: a1 :: a2 :: a3 :: a4 :: a5 :: a6 :: a7 :: a8 :: a9 :: a10 :: x :: l := List.Mem.tail _ (List.Mem.tail _ (List.Mem.tail _ (List.Mem.tail _ (List.Mem.tail _ (List.Mem.tail _ (List.Mem.tail _ (List.Mem.tail _ (List.Mem.tail _ (List.Mem.tail _ (List.Mem.tail _ (List.Mem.head _)))))))))))
theorem MM_12 {α : Type} {a0 a1 a2 a3 a4 a5 a6 a7 a8 a9 a10 a11 x : α} {l : List α} : x ∈ a0 :: a1 :: a2 :: a3 :: a4 :: a5 :: a6 :: a7 :: a8 :: a9 :: a10 :: a11 :: x :: l := List.Mem.tail _ (List.Mem.tail _ (List.Mem.tail _ (List.Mem.tail _ (List.Mem.tail _ (List.Mem.tail _ (List.Mem.tail _ (List.Mem.tail _ (List.Mem.tail _ (List.Mem.tail _ (List.Mem.tail _ (List.Mem.tail _ (List.Mem.head _))))))))))))
theorem MM_13 {α : Type} {a0 a1 a2 a3 a4 a5 a6 a7 a8 a9 a10 a11 a12 x : α} {l : List α} : x ∈ a0 :: a1 :: a2 :: a3 :: a4 :: a5 :: a6 :: a7 :: a8 :: a9 :: a10 :: a11 :: a12 :: x :: l := List.Mem.tail _ (List.Mem.tail _ (List.Mem.tail _ (List.Mem.tail _ (List.Mem.tail _ (List.Mem.tail _ (List.Mem.tail _ (List.Mem.tail _ (List.Mem.tail _ (List.Mem.tail _ (List.Mem.tail _ (List.Mem.tail _ (List.Mem.tail _ (List.Mem.head _)))))))))))))
theorem MM_14 {α : Type} {a0 a1 a2 a3 a4 a5 a6 a7 a8 a9 a10 a11 a12 a13 x : α} {l : List α} : x ∈ a0 :: a1 :: a2 :: a3 :: a4 :: a5 :: a6 :: a7 :: a8 :: a9 :: a10 :: a11 :: a12 :: a13 :: x :: l := List.Mem.tail _ (List.Mem.tail _ (List.Mem.tail _ (List.Mem.tail _ (List.Mem.tail _ (List.Mem.tail _ (List.Mem.tail _ (List.Mem.tail _ (List.Mem.tail _ (List.Mem.tail _ (List.Mem.tail _ (List.Mem.tail _ (List.Mem.tail _ (List.Mem.tail _ (List.Mem.head _))))))))))))))
theorem MM_15 {α : Type} {a0 a1 a2 a3 a4 a5 a6 a7 a8 a9 a10 a11 a12 a13 a14 x : α} {l : List α} : x ∈ a0 :: a1 :: a2 :: a3 :: a4 :: a5 :: a6 :: a7 :: a8 :: a9 :: a10 :: a11 :: a12 :: a13 :: a14 :: x :: l := List.Mem.tail _ (List.Mem.tail _ (List.Mem.tail _ (List.Mem.tail _ (List.Mem.tail _ (List.Mem.tail _ (List.Mem.tail _ (List.Mem.tail _ (List.Mem.tail _ (List.Mem.tail _ (List.Mem.tail _ (List.Mem.tail _ (List.Mem.tail _ (List.Mem.tail _ (List.Mem.tail _ (List.Mem.head _)))))))))))))))
end
/-! 01.table -/
section
-- ===== PART A: goes FIRST, ahead of the names: the tables' words, and 'selects' of the private methods out of them =====
/-- a private method of a class that the tables say can be made, by its rows of tables_1 -/
def lw_okq (q : MethodName × Nat) : Prop := (q.1.cls ≠ "java/lang/invoke/MethodHandle" ∧ q.1.cls ≠ "java/lang/invoke/VarHandle") ∧ Cond.instantiable q.1.cls q.2 ∈ tables_1 ∧ Cond.privateMethod q.1 ∈ tables_1 ∧ Cond.instanceMethod q.1 ∈ tables_1
theorem nmh_0 : ("DoorSchool$Tape" : String) ≠ "java/lang/invoke/MethodHandle" ∧ ("DoorSchool$Tape" : String) ≠ "java/lang/invoke/VarHandle" := ⟨by decide +kernel, by decide +kernel⟩
theorem lw_p0 : lw_okq (⟨"DoorSchool$Tape", "append", "(I)V"⟩, 2) := ⟨nmh_0, tI_1 (bt_1_1 MM_14), tI_2 (bt_2_8 MM_10), tI_2 (bt_2_8 MM_11)⟩
theorem nmh_1 : ("DoorSchool$Reader" : String) ≠ "java/lang/invoke/MethodHandle" ∧ ("DoorSchool$Reader" : String) ≠ "java/lang/invoke/VarHandle" := ⟨by decide +kernel, by decide +kernel⟩
theorem lw_p1 : lw_okq (⟨"DoorSchool$Reader", "read", "(LDoorSchool$Plan;)V"⟩, 7) := ⟨nmh_1, tI_1 (bt_1_2 MM_15), tI_2 (bt_2_9 MM_6), tI_2 (bt_2_9 MM_7)⟩
theorem nmh_2 : ("DoorSchool$Plan" : String) ≠ "java/lang/invoke/MethodHandle" ∧ ("DoorSchool$Plan" : String) ≠ "java/lang/invoke/VarHandle" := ⟨by decide +kernel, by decide +kernel⟩
theorem lw_p2 : lw_okq (⟨"DoorSchool$Plan", "clear", "()V"⟩, 16) := ⟨nmh_2, tI_1 (bt_1_10 MM_15), tI_2 (bt_2_9 MM_10), tI_2 (bt_2_9 MM_11)⟩
theorem lw_p3 : lw_okq (⟨"DoorSchool$Reader", "step", "()V"⟩, 7) := ⟨nmh_1, tI_1 (bt_1_2 MM_15), tI_2 (bt_2_10 MM_1), tI_2 (bt_2_10 MM_2)⟩
theorem lw_p4 : lw_okq (⟨"DoorSchool$Reader", "kindAt", "(I)I"⟩, 7) := ⟨nmh_1, tI_1 (bt_1_2 MM_15), tI_2 (bt_2_10 MM_8), tI_2 (bt_2_10 MM_9)⟩
theorem lw_p5 : lw_okq (⟨"DoorSchool$Reader", "readFirst", "(LDoorSchool$Plan;)V"⟩, 7) := ⟨nmh_1, tI_1 (bt_1_2 MM_15), tI_2 (bt_2_11 MM_0), tI_2 (bt_2_11 MM_1)⟩
theorem lw_p6 : lw_okq (⟨"DoorSchool$Reader", "stands", "(Ljava/lang/String;)Z"⟩, 7) := ⟨nmh_1, tI_1 (bt_1_2 MM_15), tI_2 (bt_2_11 MM_5), tI_2 (bt_2_11 MM_6)⟩
theorem lw_p7 : lw_okq (⟨"DoorSchool$Reader", "pass", "(Z)V"⟩, 7) := ⟨nmh_1, tI_1 (bt_1_2 MM_15), tI_2 (bt_2_14 MM_9), tI_2 (bt_2_14 MM_10)⟩
theorem lw_p8 : lw_okq (⟨"DoorSchool$Reader", "blame", "(I)V"⟩, 7) := ⟨nmh_1, tI_1 (bt_1_2 MM_15), tI_2 (bt_2_14 MM_13), tI_2 (bt_2_14 MM_14)⟩
theorem lw_p9 : lw_okq (⟨"DoorSchool$Reader", "takeNumber", "(II)I"⟩, 7) := ⟨nmh_1, tI_1 (bt_1_2 MM_15), tI_3 (bt_3_0 MM_2), tI_3 (bt_3_0 MM_3)⟩
theorem lw_p10 : lw_okq (⟨"DoorSchool$Reader", "numberHere", "(II)I"⟩, 7) := ⟨nmh_1, tI_1 (bt_1_2 MM_15), tI_3 (bt_3_0 MM_6), tI_3 (bt_3_0 MM_7)⟩
theorem lw_p11 : lw_okq (⟨"DoorSchool$Reader", "readDoor", "(LDoorSchool$Plan;)V"⟩, 7) := ⟨nmh_1, tI_1 (bt_1_2 MM_15), tI_3 (bt_3_0 MM_12), tI_3 (bt_3_0 MM_13)⟩
theorem lw_p12 : lw_okq (⟨"DoorSchool$Reader", "takeWay", "()I"⟩, 7) := ⟨nmh_1, tI_1 (bt_1_2 MM_15), tI_3 (bt_3_1 MM_0), tI_3 (bt_3_1 MM_1)⟩
theorem nmh_3 : ("DoorSchool$Door" : String) ≠ "java/lang/invoke/MethodHandle" ∧ ("DoorSchool$Door" : String) ≠ "java/lang/invoke/VarHandle" := ⟨by decide +kernel, by decide +kernel⟩
theorem lw_p13 : lw_okq (⟨"DoorSchool$Door", "begin", "(II)V"⟩, 4) := ⟨nmh_3, tI_1 (bt_1_12 MM_13), tI_3 (bt_3_1 MM_8), tI_3 (bt_3_1 MM_9)⟩
theorem lw_p14 : lw_okq (⟨"DoorSchool$Reader", "readLesson", "(LDoorSchool$Plan;)V"⟩, 7) := ⟨nmh_1, tI_1 (bt_1_2 MM_15), tI_3 (bt_3_1 MM_13), tI_3 (bt_3_1 MM_14)⟩
theorem lw_p15 : lw_okq (⟨"DoorSchool$Reader", "readSaid", "(LDoorSchool$Plan;LDoorSchool$Lessons;)V"⟩, 7) := ⟨nmh_1, tI_1 (bt_1_2 MM_15), tI_3 (bt_3_2 MM_1), tI_3 (bt_3_2 MM_2)⟩
def lw_privs_1 : List (MethodName × Nat) := [(⟨"DoorSchool$Tape", "append", "(I)V"⟩, 2), (⟨"DoorSchool$Reader", "read", "(LDoorSchool$Plan;)V"⟩, 7), (⟨"DoorSchool$Plan", "clear", "()V"⟩, 16), (⟨"DoorSchool$Reader", "step", "()V"⟩, 7), (⟨"DoorSchool$Reader", "kindAt", "(I)I"⟩, 7), (⟨"DoorSchool$Reader", "readFirst", "(LDoorSchool$Plan;)V"⟩, 7), (⟨"DoorSchool$Reader", "stands", "(Ljava/lang/String;)Z"⟩, 7), (⟨"DoorSchool$Reader", "pass", "(Z)V"⟩, 7), (⟨"DoorSchool$Reader", "blame", "(I)V"⟩, 7), (⟨"DoorSchool$Reader", "takeNumber", "(II)I"⟩, 7), (⟨"DoorSchool$Reader", "numberHere", "(II)I"⟩, 7), (⟨"DoorSchool$Reader", "readDoor", "(LDoorSchool$Plan;)V"⟩, 7), (⟨"DoorSchool$Reader", "takeWay", "()I"⟩, 7), (⟨"DoorSchool$Door", "begin", "(II)V"⟩, 4), (⟨"DoorSchool$Reader", "readLesson", "(LDoorSchool$Plan;)V"⟩, 7), (⟨"DoorSchool$Reader", "readSaid", "(LDoorSchool$Plan;LDoorSchool$Lessons;)V"⟩, 7)]
theorem lw_r1 : ∀ q ∈ lw_privs_1, lw_okq q := List.forall_mem_cons.mpr ⟨lw_p0, List.forall_mem_cons.mpr ⟨lw_p1, List.forall_mem_cons.mpr ⟨lw_p2, List.forall_mem_cons.mpr ⟨lw_p3, List.forall_mem_cons.mpr ⟨lw_p4, List.forall_mem_cons.mpr ⟨lw_p5, List.forall_mem_cons.mpr ⟨lw_p6, List.forall_mem_cons.mpr ⟨lw_p7, List.forall_mem_cons.mpr ⟨lw_p8, List.forall_mem_cons.mpr ⟨lw_p9, List.forall_mem_cons.mpr ⟨lw_p10, List.forall_mem_cons.mpr ⟨lw_p11, List.forall_mem_cons.mpr ⟨lw_p12, List.forall_mem_cons.mpr ⟨lw_p13, List.forall_mem_cons.mpr ⟨lw_p14, List.forall_mem_cons.mpr ⟨lw_p15, fun _ h => absurd h List.not_mem_nil⟩⟩⟩⟩⟩⟩⟩⟩⟩⟩⟩⟩⟩⟩⟩⟩
theorem lw_p16 : lw_okq (⟨"DoorSchool$Plan", "knocks", "()I"⟩, 16) := ⟨nmh_2, tI_1 (bt_1_10 MM_15), tI_3 (bt_3_2 MM_5), tI_3 (bt_3_2 MM_6)⟩
theorem nmh_4 : ("DoorSchool$Lessons" : String) ≠ "java/lang/invoke/MethodHandle" ∧ ("DoorSchool$Lessons" : String) ≠ "java/lang/invoke/VarHandle" := ⟨by decide +kernel, by decide +kernel⟩
theorem lw_p17 : lw_okq (⟨"DoorSchool$Lessons", "add", "(II)V"⟩, 3) := ⟨nmh_4, tI_1 (bt_1_11 MM_7), tI_3 (bt_3_2 MM_11), tI_3 (bt_3_2 MM_12)⟩
theorem lw_p18 : lw_okq (⟨"DoorSchool$Lessons", "putIn", "(III)V"⟩, 3) := ⟨nmh_4, tI_1 (bt_1_11 MM_7), tI_3 (bt_3_2 MM_15), tI_3 (bt_3_3 MM_0)⟩
theorem lw_p19 : lw_okq (⟨"DoorSchool$Reader", "readExam", "(LDoorSchool$Plan;)V"⟩, 7) := ⟨nmh_1, tI_1 (bt_1_2 MM_15), tI_3 (bt_3_3 MM_4), tI_3 (bt_3_3 MM_5)⟩
theorem lw_p20 : lw_okq (⟨"DoorSchool$Reader", "readTwin", "(LDoorSchool$Plan;)V"⟩, 7) := ⟨nmh_1, tI_1 (bt_1_2 MM_15), tI_3 (bt_3_3 MM_9), tI_3 (bt_3_3 MM_10)⟩
theorem lw_p21 : lw_okq (⟨"DoorSchool$Plan", "isCopied", "(I)Z"⟩, 16) := ⟨nmh_2, tI_1 (bt_1_10 MM_15), tI_3 (bt_3_3 MM_13), tI_3 (bt_3_3 MM_14)⟩
theorem lw_p22 : lw_okq (⟨"DoorSchool$Reader", "readOwner", "(LDoorSchool$Plan;)V"⟩, 7) := ⟨nmh_1, tI_1 (bt_1_2 MM_15), tI_3 (bt_3_4 MM_2), tI_3 (bt_3_4 MM_3)⟩
theorem lw_p23 : lw_okq (⟨"DoorSchool$Reader", "takePart", "(I)I"⟩, 7) := ⟨nmh_1, tI_1 (bt_1_2 MM_15), tI_3 (bt_3_4 MM_6), tI_3 (bt_3_4 MM_7)⟩
theorem lw_p24 : lw_okq (⟨"DoorSchool$Reader", "readHouse", "(LDoorSchool$Plan;)V"⟩, 7) := ⟨nmh_1, tI_1 (bt_1_2 MM_15), tI_3 (bt_3_4 MM_11), tI_3 (bt_3_4 MM_12)⟩
theorem lw_p25 : lw_okq (⟨"DoorSchool$Reader", "readCourse", "(LDoorSchool$Plan;)V"⟩, 7) := ⟨nmh_1, tI_1 (bt_1_2 MM_15), tI_3 (bt_3_5 MM_0), tI_3 (bt_3_5 MM_1)⟩
theorem lw_p26 : lw_okq (⟨"DoorSchool$Reader", "readAhead", "(LDoorSchool$Plan;)V"⟩, 7) := ⟨nmh_1, tI_1 (bt_1_2 MM_15), tI_3 (bt_3_5 MM_6), tI_3 (bt_3_5 MM_7)⟩
theorem nmh_5 : ("DoorSchool$Rules" : String) ≠ "java/lang/invoke/MethodHandle" ∧ ("DoorSchool$Rules" : String) ≠ "java/lang/invoke/VarHandle" := ⟨by decide +kernel, by decide +kernel⟩
theorem lw_p27 : lw_okq (⟨"DoorSchool$Rules", "prepare", "(I)V"⟩, 5) := ⟨nmh_5, tI_1 (bt_1_4 MM_13), tI_3 (bt_3_5 MM_10), tI_3 (bt_3_5 MM_11)⟩
theorem lw_p28 : lw_okq (⟨"DoorSchool$Rules", "addAllOf", "(I)V"⟩, 5) := ⟨nmh_5, tI_1 (bt_1_4 MM_13), tI_3 (bt_3_5 MM_15), tI_3 (bt_3_6 MM_0)⟩
theorem lw_p29 : lw_okq (⟨"DoorSchool$Rules", "deedsOf", "(II)I"⟩, 5) := ⟨nmh_5, tI_1 (bt_1_4 MM_13), tI_3 (bt_3_6 MM_3), tI_3 (bt_3_6 MM_4)⟩
theorem lw_p30 : lw_okq (⟨"DoorSchool$Plan", "isDoor", "(I)Z"⟩, 16) := ⟨nmh_2, tI_1 (bt_1_10 MM_15), tI_3 (bt_3_6 MM_15), tI_3 (bt_3_7 MM_0)⟩
theorem lw_p31 : lw_okq (⟨"DoorSchool$Plan", "exists", "()Z"⟩, 16) := ⟨nmh_2, tI_1 (bt_1_10 MM_15), tI_3 (bt_3_8 MM_2), tI_3 (bt_3_8 MM_3)⟩
def lw_privs_2 : List (MethodName × Nat) := [(⟨"DoorSchool$Plan", "knocks", "()I"⟩, 16), (⟨"DoorSchool$Lessons", "add", "(II)V"⟩, 3), (⟨"DoorSchool$Lessons", "putIn", "(III)V"⟩, 3), (⟨"DoorSchool$Reader", "readExam", "(LDoorSchool$Plan;)V"⟩, 7), (⟨"DoorSchool$Reader", "readTwin", "(LDoorSchool$Plan;)V"⟩, 7), (⟨"DoorSchool$Plan", "isCopied", "(I)Z"⟩, 16), (⟨"DoorSchool$Reader", "readOwner", "(LDoorSchool$Plan;)V"⟩, 7), (⟨"DoorSchool$Reader", "takePart", "(I)I"⟩, 7), (⟨"DoorSchool$Reader", "readHouse", "(LDoorSchool$Plan;)V"⟩, 7), (⟨"DoorSchool$Reader", "readCourse", "(LDoorSchool$Plan;)V"⟩, 7), (⟨"DoorSchool$Reader", "readAhead", "(LDoorSchool$Plan;)V"⟩, 7), (⟨"DoorSchool$Rules", "prepare", "(I)V"⟩, 5), (⟨"DoorSchool$Rules", "addAllOf", "(I)V"⟩, 5), (⟨"DoorSchool$Rules", "deedsOf", "(II)I"⟩, 5), (⟨"DoorSchool$Plan", "isDoor", "(I)Z"⟩, 16), (⟨"DoorSchool$Plan", "exists", "()Z"⟩, 16)]
theorem lw_r2 : ∀ q ∈ lw_privs_2, lw_okq q := List.forall_mem_cons.mpr ⟨lw_p16, List.forall_mem_cons.mpr ⟨lw_p17, List.forall_mem_cons.mpr ⟨lw_p18, List.forall_mem_cons.mpr ⟨lw_p19, List.forall_mem_cons.mpr ⟨lw_p20, List.forall_mem_cons.mpr ⟨lw_p21, List.forall_mem_cons.mpr ⟨lw_p22, List.forall_mem_cons.mpr ⟨lw_p23, List.forall_mem_cons.mpr ⟨lw_p24, List.forall_mem_cons.mpr ⟨lw_p25, List.forall_mem_cons.mpr ⟨lw_p26, List.forall_mem_cons.mpr ⟨lw_p27, List.forall_mem_cons.mpr ⟨lw_p28, List.forall_mem_cons.mpr ⟨lw_p29, List.forall_mem_cons.mpr ⟨lw_p30, List.forall_mem_cons.mpr ⟨lw_p31, fun _ h => absurd h List.not_mem_nil⟩⟩⟩⟩⟩⟩⟩⟩⟩⟩⟩⟩⟩⟩⟩⟩
theorem lw_p32 : lw_okq (⟨"DoorSchool$Plan", "isHouse", "(I)Z"⟩, 16) := ⟨nmh_2, tI_1 (bt_1_10 MM_15), tI_3 (bt_3_8 MM_6), tI_3 (bt_3_8 MM_7)⟩
theorem lw_p33 : lw_okq (⟨"DoorSchool$Plan", "isKnock", "(I)Z"⟩, 16) := ⟨nmh_2, tI_1 (bt_1_10 MM_15), tI_3 (bt_3_9 MM_0), tI_3 (bt_3_9 MM_1)⟩
theorem nmh_6 : ("DoorSchool" : String) ≠ "java/lang/invoke/MethodHandle" ∧ ("DoorSchool" : String) ≠ "java/lang/invoke/VarHandle" := ⟨by decide +kernel, by decide +kernel⟩
theorem lw_p34 : lw_okq (⟨"DoorSchool", "doneBy", "(I)I"⟩, 11) := ⟨nmh_6, tI_1 (bt_1_1 MM_6), tI_3 (bt_3_9 MM_6), tI_3 (bt_3_9 MM_7)⟩
theorem lw_p35 : lw_okq (⟨"DoorSchool$Plan", "modelOf", "(I)LDoorSchool$Door;"⟩, 16) := ⟨nmh_2, tI_1 (bt_1_10 MM_15), tI_3 (bt_3_9 MM_10), tI_3 (bt_3_9 MM_11)⟩
theorem nmh_7 : ("DoorSchool$Learner" : String) ≠ "java/lang/invoke/MethodHandle" ∧ ("DoorSchool$Learner" : String) ≠ "java/lang/invoke/VarHandle" := ⟨by decide +kernel, by decide +kernel⟩
theorem lw_p36 : lw_okq (⟨"DoorSchool$Learner", "learn", "(ILDoorSchool$Lessons;)I"⟩, 2) := ⟨nmh_7, tI_1 (bt_1_6 MM_9), tI_3 (bt_3_9 MM_14), tI_3 (bt_3_9 MM_15)⟩
theorem lw_p37 : lw_okq (⟨"DoorSchool$Lessons", "said", "(I)I"⟩, 3) := ⟨nmh_4, tI_1 (bt_1_11 MM_7), tI_3 (bt_3_10 MM_2), tI_3 (bt_3_10 MM_3)⟩
theorem lw_p38 : lw_okq (⟨"DoorSchool$Rules", "first", "(II)I"⟩, 5) := ⟨nmh_5, tI_1 (bt_1_4 MM_13), tI_3 (bt_3_10 MM_6), tI_3 (bt_3_10 MM_7)⟩
theorem lw_p39 : lw_okq (⟨"DoorSchool$Lessons", "latestOf", "(I)I"⟩, 3) := ⟨nmh_4, tI_1 (bt_1_11 MM_7), tI_3 (bt_3_10 MM_13), tI_3 (bt_3_10 MM_14)⟩
theorem lw_p40 : lw_okq (⟨"DoorSchool$Lessons", "nearestTo", "(I)I"⟩, 3) := ⟨nmh_4, tI_1 (bt_1_11 MM_7), tI_3 (bt_3_11 MM_1), tI_3 (bt_3_11 MM_2)⟩
theorem lw_p41 : lw_okq (⟨"DoorSchool$Rules", "howMany", "(II)I"⟩, 5) := ⟨nmh_5, tI_1 (bt_1_4 MM_13), tI_3 (bt_3_13 MM_1), tI_3 (bt_3_13 MM_2)⟩
theorem lw_p42 : lw_okq (⟨"DoorSchool$Plan", "isRule", "(II)Z"⟩, 16) := ⟨nmh_2, tI_1 (bt_1_10 MM_15), tI_3 (bt_3_13 MM_9), tI_3 (bt_3_13 MM_10)⟩
theorem lw_p43 : lw_okq (⟨"DoorSchool$Plan", "isDeeds", "(I)Z"⟩, 16) := ⟨nmh_2, tI_1 (bt_1_10 MM_15), tI_3 (bt_3_14 MM_2), tI_3 (bt_3_14 MM_3)⟩
theorem lw_p44 : lw_okq (⟨"DoorSchool$Rules", "placeOf", "(I)I"⟩, 5) := ⟨nmh_5, tI_1 (bt_1_4 MM_13), tI_3 (bt_3_14 MM_6), tI_3 (bt_3_14 MM_7)⟩
theorem lw_p45 : lw_okq (⟨"DoorSchool", "marksFor", "(I)I"⟩, 11) := ⟨nmh_6, tI_1 (bt_1_1 MM_6), tI_3 (bt_3_14 MM_14), tI_3 (bt_3_14 MM_15)⟩
theorem lw_p46 : lw_okq (⟨"DoorSchool$Lessons", "allAs", "(I)I"⟩, 3) := ⟨nmh_4, tI_1 (bt_1_11 MM_7), tI_4 (bt_4_0 MM_2), tI_4 (bt_4_0 MM_3)⟩
theorem lw_p47 : lw_okq (⟨"DoorSchool$Lessons", "firstNotAs", "(I)I"⟩, 3) := ⟨nmh_4, tI_1 (bt_1_11 MM_7), tI_4 (bt_4_0 MM_11), tI_4 (bt_4_0 MM_12)⟩
def lw_privs_3 : List (MethodName × Nat) := [(⟨"DoorSchool$Plan", "isHouse", "(I)Z"⟩, 16), (⟨"DoorSchool$Plan", "isKnock", "(I)Z"⟩, 16), (⟨"DoorSchool", "doneBy", "(I)I"⟩, 11), (⟨"DoorSchool$Plan", "modelOf", "(I)LDoorSchool$Door;"⟩, 16), (⟨"DoorSchool$Learner", "learn", "(ILDoorSchool$Lessons;)I"⟩, 2), (⟨"DoorSchool$Lessons", "said", "(I)I"⟩, 3), (⟨"DoorSchool$Rules", "first", "(II)I"⟩, 5), (⟨"DoorSchool$Lessons", "latestOf", "(I)I"⟩, 3), (⟨"DoorSchool$Lessons", "nearestTo", "(I)I"⟩, 3), (⟨"DoorSchool$Rules", "howMany", "(II)I"⟩, 5), (⟨"DoorSchool$Plan", "isRule", "(II)Z"⟩, 16), (⟨"DoorSchool$Plan", "isDeeds", "(I)Z"⟩, 16), (⟨"DoorSchool$Rules", "placeOf", "(I)I"⟩, 5), (⟨"DoorSchool", "marksFor", "(I)I"⟩, 11), (⟨"DoorSchool$Lessons", "allAs", "(I)I"⟩, 3), (⟨"DoorSchool$Lessons", "firstNotAs", "(I)I"⟩, 3)]
theorem lw_r3 : ∀ q ∈ lw_privs_3, lw_okq q := List.forall_mem_cons.mpr ⟨lw_p32, List.forall_mem_cons.mpr ⟨lw_p33, List.forall_mem_cons.mpr ⟨lw_p34, List.forall_mem_cons.mpr ⟨lw_p35, List.forall_mem_cons.mpr ⟨lw_p36, List.forall_mem_cons.mpr ⟨lw_p37, List.forall_mem_cons.mpr ⟨lw_p38, List.forall_mem_cons.mpr ⟨lw_p39, List.forall_mem_cons.mpr ⟨lw_p40, List.forall_mem_cons.mpr ⟨lw_p41, List.forall_mem_cons.mpr ⟨lw_p42, List.forall_mem_cons.mpr ⟨lw_p43, List.forall_mem_cons.mpr ⟨lw_p44, List.forall_mem_cons.mpr ⟨lw_p45, List.forall_mem_cons.mpr ⟨lw_p46, List.forall_mem_cons.mpr ⟨lw_p47, fun _ h => absurd h List.not_mem_nil⟩⟩⟩⟩⟩⟩⟩⟩⟩⟩⟩⟩⟩⟩⟩⟩
theorem lw_p48 : lw_okq (⟨"DoorSchool", "isLesson", "(III)Z"⟩, 11) := ⟨nmh_6, tI_1 (bt_1_1 MM_6), tI_4 (bt_4_1 MM_11), tI_4 (bt_4_1 MM_12)⟩
theorem lw_p49 : lw_okq (⟨"DoorSchool$Lessons", "dropLast", "()V"⟩, 3) := ⟨nmh_4, tI_1 (bt_1_11 MM_7), tI_4 (bt_4_2 MM_4), tI_4 (bt_4_2 MM_5)⟩
theorem lw_p50 : lw_okq (⟨"DoorSchool$Lessons", "takeOut", "(I)V"⟩, 3) := ⟨nmh_4, tI_1 (bt_1_11 MM_7), tI_4 (bt_4_2 MM_8), tI_4 (bt_4_2 MM_9)⟩
theorem lw_p51 : lw_okq (⟨"DoorSchool", "gainOf", "(III)I"⟩, 11) := ⟨nmh_6, tI_1 (bt_1_1 MM_6), tI_4 (bt_4_3 MM_0), tI_4 (bt_4_3 MM_1)⟩
theorem lw_p52 : lw_okq (⟨"DoorSchool$Learner", "leastSet", "(II)I"⟩, 2) := ⟨nmh_7, tI_1 (bt_1_6 MM_9), tI_4 (bt_4_4 MM_6), tI_4 (bt_4_4 MM_7)⟩
theorem lw_p53 : lw_okq (⟨"DoorSchool$Learner", "allKnocks", "()I"⟩, 2) := ⟨nmh_7, tI_1 (bt_1_6 MM_9), tI_4 (bt_4_4 MM_10), tI_4 (bt_4_4 MM_11)⟩
theorem lw_p54 : lw_okq (⟨"DoorSchool$Learner", "teaches", "(III)Z"⟩, 2) := ⟨nmh_7, tI_1 (bt_1_6 MM_9), tI_4 (bt_4_4 MM_14), tI_4 (bt_4_4 MM_15)⟩
theorem lw_p55 : lw_okq (⟨"DoorSchool$Learner", "learnSet", "(III)I"⟩, 2) := ⟨nmh_7, tI_1 (bt_1_6 MM_9), tI_4 (bt_4_5 MM_2), tI_4 (bt_4_5 MM_3)⟩
theorem lw_p56 : lw_okq (⟨"DoorSchool$Learner", "nearestOf", "(II)I"⟩, 2) := ⟨nmh_7, tI_1 (bt_1_6 MM_9), tI_4 (bt_4_5 MM_6), tI_4 (bt_4_5 MM_7)⟩
theorem lw_p57 : lw_okq (⟨"DoorSchool$Learner", "needed", "(II)I"⟩, 2) := ⟨nmh_7, tI_1 (bt_1_6 MM_9), tI_4 (bt_4_5 MM_11), tI_4 (bt_4_5 MM_12)⟩
theorem lw_p58 : lw_okq (⟨"DoorSchool$Learner", "setsOf", "(III)I"⟩, 2) := ⟨nmh_7, tI_1 (bt_1_6 MM_9), tI_4 (bt_4_6 MM_11), tI_4 (bt_4_6 MM_12)⟩
theorem lw_p59 : lw_okq (⟨"DoorSchool", "fooling", "(I)I"⟩, 11) := ⟨nmh_6, tI_1 (bt_1_1 MM_6), tI_4 (bt_4_7 MM_7), tI_4 (bt_4_7 MM_8)⟩
theorem lw_p60 : lw_okq (⟨"DoorSchool", "ownerDeeds", "()I"⟩, 11) := ⟨nmh_6, tI_1 (bt_1_1 MM_6), tI_4 (bt_4_7 MM_11), tI_4 (bt_4_7 MM_12)⟩
theorem lw_p61 : lw_okq (⟨"DoorSchool", "foolingAfter", "(II)I"⟩, 11) := ⟨nmh_6, tI_1 (bt_1_1 MM_6), tI_4 (bt_4_8 MM_12), tI_4 (bt_4_8 MM_13)⟩
theorem lw_p62 : lw_okq (⟨"DoorSchool", "stolenBy", "(II)I"⟩, 11) := ⟨nmh_6, tI_1 (bt_1_1 MM_6), tI_4 (bt_4_9 MM_9), tI_4 (bt_4_9 MM_10)⟩
theorem lw_p63 : lw_okq (⟨"DoorSchool", "wouldDo", "(II)I"⟩, 11) := ⟨nmh_6, tI_1 (bt_1_1 MM_6), tI_4 (bt_4_9 MM_13), tI_4 (bt_4_9 MM_14)⟩
def lw_privs_4 : List (MethodName × Nat) := [(⟨"DoorSchool", "isLesson", "(III)Z"⟩, 11), (⟨"DoorSchool$Lessons", "dropLast", "()V"⟩, 3), (⟨"DoorSchool$Lessons", "takeOut", "(I)V"⟩, 3), (⟨"DoorSchool", "gainOf", "(III)I"⟩, 11), (⟨"DoorSchool$Learner", "leastSet", "(II)I"⟩, 2), (⟨"DoorSchool$Learner", "allKnocks", "()I"⟩, 2), (⟨"DoorSchool$Learner", "teaches", "(III)Z"⟩, 2), (⟨"DoorSchool$Learner", "learnSet", "(III)I"⟩, 2), (⟨"DoorSchool$Learner", "nearestOf", "(II)I"⟩, 2), (⟨"DoorSchool$Learner", "needed", "(II)I"⟩, 2), (⟨"DoorSchool$Learner", "setsOf", "(III)I"⟩, 2), (⟨"DoorSchool", "fooling", "(I)I"⟩, 11), (⟨"DoorSchool", "ownerDeeds", "()I"⟩, 11), (⟨"DoorSchool", "foolingAfter", "(II)I"⟩, 11), (⟨"DoorSchool", "stolenBy", "(II)I"⟩, 11), (⟨"DoorSchool", "wouldDo", "(II)I"⟩, 11)]
theorem lw_r4 : ∀ q ∈ lw_privs_4, lw_okq q := List.forall_mem_cons.mpr ⟨lw_p48, List.forall_mem_cons.mpr ⟨lw_p49, List.forall_mem_cons.mpr ⟨lw_p50, List.forall_mem_cons.mpr ⟨lw_p51, List.forall_mem_cons.mpr ⟨lw_p52, List.forall_mem_cons.mpr ⟨lw_p53, List.forall_mem_cons.mpr ⟨lw_p54, List.forall_mem_cons.mpr ⟨lw_p55, List.forall_mem_cons.mpr ⟨lw_p56, List.forall_mem_cons.mpr ⟨lw_p57, List.forall_mem_cons.mpr ⟨lw_p58, List.forall_mem_cons.mpr ⟨lw_p59, List.forall_mem_cons.mpr ⟨lw_p60, List.forall_mem_cons.mpr ⟨lw_p61, List.forall_mem_cons.mpr ⟨lw_p62, List.forall_mem_cons.mpr ⟨lw_p63, fun _ h => absurd h List.not_mem_nil⟩⟩⟩⟩⟩⟩⟩⟩⟩⟩⟩⟩⟩⟩⟩⟩
theorem lw_p64 : lw_okq (⟨"DoorSchool", "isRest", "(III)Z"⟩, 11) := ⟨nmh_6, tI_1 (bt_1_1 MM_6), tI_4 (bt_4_10 MM_5), tI_4 (bt_4_10 MM_6)⟩
theorem lw_p65 : lw_okq (⟨"DoorSchool$Learner", "errorsBy", "(II)I"⟩, 2) := ⟨nmh_7, tI_1 (bt_1_6 MM_9), tI_4 (bt_4_11 MM_5), tI_4 (bt_4_11 MM_6)⟩
theorem lw_p66 : lw_okq (⟨"DoorSchool$Learner", "learntWhole", "(II)I"⟩, 2) := ⟨nmh_7, tI_1 (bt_1_6 MM_9), tI_4 (bt_4_11 MM_13), tI_4 (bt_4_11 MM_14)⟩
theorem lw_p67 : lw_okq (⟨"DoorSchool", "troubleWith", "(I)I"⟩, 11) := ⟨nmh_6, tI_1 (bt_1_1 MM_6), tI_4 (bt_4_12 MM_9), tI_4 (bt_4_12 MM_10)⟩
theorem nmh_8 : ("DoorSchool$Slot" : String) ≠ "java/lang/invoke/MethodHandle" ∧ ("DoorSchool$Slot" : String) ≠ "java/lang/invoke/VarHandle" := ⟨by decide +kernel, by decide +kernel⟩
theorem lw_p68 : lw_okq (⟨"DoorSchool$Slot", "isPairs", "(I)Z"⟩, 4) := ⟨nmh_8, tI_2 (bt_2_4 MM_11), tI_4 (bt_4_13 MM_0), tI_4 (bt_4_13 MM_1)⟩
theorem lw_p69 : lw_okq (⟨"DoorSchool$Slot", "said", "(I)I"⟩, 4) := ⟨nmh_8, tI_2 (bt_2_4 MM_11), tI_4 (bt_4_13 MM_4), tI_4 (bt_4_13 MM_5)⟩
theorem lw_p70 : lw_okq (⟨"DoorSchool", "hangAll", "()Z"⟩, 11) := ⟨nmh_6, tI_1 (bt_1_1 MM_6), tI_4 (bt_4_14 MM_6), tI_4 (bt_4_14 MM_7)⟩
theorem lw_p71 : lw_okq (⟨"DoorSchool", "houseDeeds", "(I)I"⟩, 11) := ⟨nmh_6, tI_1 (bt_1_1 MM_6), tI_4 (bt_4_14 MM_10), tI_4 (bt_4_14 MM_11)⟩
theorem nmh_9 : ("DoorSchool$Hanging" : String) ≠ "java/lang/invoke/MethodHandle" ∧ ("DoorSchool$Hanging" : String) ≠ "java/lang/invoke/VarHandle" := ⟨by decide +kernel, by decide +kernel⟩
theorem lw_p72 : lw_okq (⟨"DoorSchool$Hanging", "search", "(II)V"⟩, 6) := ⟨nmh_9, tI_1 (bt_1_7 MM_12), tI_4 (bt_4_14 MM_14), tI_4 (bt_4_14 MM_15)⟩
theorem lw_p73 : lw_okq (⟨"DoorSchool$Hanging", "keepIfBetter", "(I)V"⟩, 6) := ⟨nmh_9, tI_1 (bt_1_7 MM_12), tI_5 (bt_5_0 MM_5), tI_5 (bt_5_0 MM_6)⟩
theorem lw_p74 : lw_okq (⟨"DoorSchool$Rules", "surely", "(IIZ)I"⟩, 5) := ⟨nmh_5, tI_1 (bt_1_4 MM_13), tI_5 (bt_5_1 MM_13), tI_5 (bt_5_1 MM_14)⟩
theorem lw_p75 : lw_okq (⟨"DoorSchool", "askedOf", "(LDoorSchool$Slot;)I"⟩, 11) := ⟨nmh_6, tI_1 (bt_1_1 MM_6), tI_5 (bt_5_2 MM_5), tI_5 (bt_5_2 MM_6)⟩
theorem lw_p76 : lw_okq (⟨"DoorSchool", "leftAtWorst", "(LDoorSchool$Slot;I)I"⟩, 11) := ⟨nmh_6, tI_1 (bt_1_1 MM_6), tI_5 (bt_5_2 MM_9), tI_5 (bt_5_2 MM_10)⟩
theorem nmh_10 : ("DoorSchool$Timetable" : String) ≠ "java/lang/invoke/MethodHandle" ∧ ("DoorSchool$Timetable" : String) ≠ "java/lang/invoke/VarHandle" := ⟨by decide +kernel, by decide +kernel⟩
theorem lw_p77 : lw_okq (⟨"DoorSchool$Timetable", "solve", "(LDoorSchool$Plan;I)I"⟩, 5) := ⟨nmh_10, tI_1 (bt_1_9 MM_8), tI_5 (bt_5_3 MM_9), tI_5 (bt_5_3 MM_10)⟩
theorem lw_p78 : lw_okq (⟨"DoorSchool$Timetable", "keepIfFirst", "(I)V"⟩, 5) := ⟨nmh_10, tI_1 (bt_1_9 MM_8), tI_5 (bt_5_4 MM_1), tI_5 (bt_5_4 MM_2)⟩
theorem lw_p79 : lw_okq (⟨"DoorSchool$Timetable", "isEarlier", "()Z"⟩, 5) := ⟨nmh_10, tI_1 (bt_1_9 MM_8), tI_5 (bt_5_4 MM_5), tI_5 (bt_5_4 MM_6)⟩
def lw_privs_5 : List (MethodName × Nat) := [(⟨"DoorSchool", "isRest", "(III)Z"⟩, 11), (⟨"DoorSchool$Learner", "errorsBy", "(II)I"⟩, 2), (⟨"DoorSchool$Learner", "learntWhole", "(II)I"⟩, 2), (⟨"DoorSchool", "troubleWith", "(I)I"⟩, 11), (⟨"DoorSchool$Slot", "isPairs", "(I)Z"⟩, 4), (⟨"DoorSchool$Slot", "said", "(I)I"⟩, 4), (⟨"DoorSchool", "hangAll", "()Z"⟩, 11), (⟨"DoorSchool", "houseDeeds", "(I)I"⟩, 11), (⟨"DoorSchool$Hanging", "search", "(II)V"⟩, 6), (⟨"DoorSchool$Hanging", "keepIfBetter", "(I)V"⟩, 6), (⟨"DoorSchool$Rules", "surely", "(IIZ)I"⟩, 5), (⟨"DoorSchool", "askedOf", "(LDoorSchool$Slot;)I"⟩, 11), (⟨"DoorSchool", "leftAtWorst", "(LDoorSchool$Slot;I)I"⟩, 11), (⟨"DoorSchool$Timetable", "solve", "(LDoorSchool$Plan;I)I"⟩, 5), (⟨"DoorSchool$Timetable", "keepIfFirst", "(I)V"⟩, 5), (⟨"DoorSchool$Timetable", "isEarlier", "()Z"⟩, 5)]
theorem lw_r5 : ∀ q ∈ lw_privs_5, lw_okq q := List.forall_mem_cons.mpr ⟨lw_p64, List.forall_mem_cons.mpr ⟨lw_p65, List.forall_mem_cons.mpr ⟨lw_p66, List.forall_mem_cons.mpr ⟨lw_p67, List.forall_mem_cons.mpr ⟨lw_p68, List.forall_mem_cons.mpr ⟨lw_p69, List.forall_mem_cons.mpr ⟨lw_p70, List.forall_mem_cons.mpr ⟨lw_p71, List.forall_mem_cons.mpr ⟨lw_p72, List.forall_mem_cons.mpr ⟨lw_p73, List.forall_mem_cons.mpr ⟨lw_p74, List.forall_mem_cons.mpr ⟨lw_p75, List.forall_mem_cons.mpr ⟨lw_p76, List.forall_mem_cons.mpr ⟨lw_p77, List.forall_mem_cons.mpr ⟨lw_p78, List.forall_mem_cons.mpr ⟨lw_p79, fun _ h => absurd h List.not_mem_nil⟩⟩⟩⟩⟩⟩⟩⟩⟩⟩⟩⟩⟩⟩⟩⟩
theorem lw_p80 : lw_okq (⟨"DoorSchool$Timetable", "earliest", "(LDoorSchool$Plan;I)I"⟩, 5) := ⟨nmh_10, tI_1 (bt_1_9 MM_8), tI_5 (bt_5_4 MM_11), tI_5 (bt_5_4 MM_12)⟩
theorem lw_p81 : lw_okq (⟨"DoorSchool$Timetable", "readyAt", "(LDoorSchool$Plan;I)I"⟩, 5) := ⟨nmh_10, tI_1 (bt_1_9 MM_8), tI_5 (bt_5_4 MM_15), tI_5 (bt_5_5 MM_0)⟩
theorem lw_p82 : lw_okq (⟨"DoorSchool$Timetable", "work", "(III)V"⟩, 5) := ⟨nmh_10, tI_1 (bt_1_9 MM_8), tI_5 (bt_5_5 MM_4), tI_5 (bt_5_5 MM_5)⟩
theorem lw_p83 : lw_okq (⟨"DoorSchool", "doneInStorm", "(II)I"⟩, 11) := ⟨nmh_6, tI_1 (bt_1_1 MM_6), tI_5 (bt_5_7 MM_0), tI_5 (bt_5_7 MM_1)⟩
theorem lw_p84 : lw_okq (⟨"DoorSchool", "fullSlots", "()I"⟩, 11) := ⟨nmh_6, tI_1 (bt_1_1 MM_6), tI_5 (bt_5_8 MM_1), tI_5 (bt_5_8 MM_2)⟩
theorem lw_p85 : lw_okq (⟨"DoorSchool$Plan", "takeFrom", "(LDoorSchool$Plan;)V"⟩, 16) := ⟨nmh_2, tI_1 (bt_1_10 MM_15), tI_5 (bt_5_8 MM_9), tI_5 (bt_5_8 MM_10)⟩
theorem lw_p86 : lw_okq (⟨"DoorSchool$Door", "takeFrom", "(LDoorSchool$Door;)V"⟩, 4) := ⟨nmh_3, tI_1 (bt_1_12 MM_13), tI_5 (bt_5_8 MM_13), tI_5 (bt_5_8 MM_14)⟩
theorem lw_p87 : lw_okq (⟨"DoorSchool$Lessons", "takeFrom", "(LDoorSchool$Lessons;)V"⟩, 3) := ⟨nmh_4, tI_1 (bt_1_11 MM_7), tI_5 (bt_5_9 MM_2), tI_5 (bt_5_9 MM_3)⟩
theorem lw_p88 : lw_okq (⟨"DoorSchool$Slot", "begin", "(II)V"⟩, 4) := ⟨nmh_8, tI_2 (bt_2_4 MM_11), tI_5 (bt_5_10 MM_1), tI_5 (bt_5_10 MM_2)⟩
theorem lw_p89 : lw_okq (⟨"DoorSchool$Slot", "put", "(IJ)V"⟩, 4) := ⟨nmh_8, tI_2 (bt_2_4 MM_11), tI_5 (bt_5_10 MM_12), tI_5 (bt_5_10 MM_13)⟩
theorem lw_p90 : lw_okq (⟨"DoorSchool$Slot", "has", "(II)Z"⟩, 4) := ⟨nmh_8, tI_2 (bt_2_4 MM_11), tI_5 (bt_5_11 MM_4), tI_5 (bt_5_11 MM_5)⟩
theorem nmh_11 : ("DoorSchoolModel" : String) ≠ "java/lang/invoke/MethodHandle" ∧ ("DoorSchoolModel" : String) ≠ "java/lang/invoke/VarHandle" := ⟨by decide +kernel, by decide +kernel⟩
theorem lw_p91 : lw_okq (⟨"DoorSchoolModel", "advance", "()V"⟩, 36) := ⟨nmh_11, tI_5 (bt_5_11 MM_9), tI_6 (bt_6_5 MM_7), tI_6 (bt_6_5 MM_8)⟩
theorem lw_p92 : lw_okq (⟨"DoorSchoolModel", "see", "(I)I"⟩, 36) := ⟨nmh_11, tI_5 (bt_5_11 MM_9), tI_6 (bt_6_5 MM_11), tI_6 (bt_6_5 MM_12)⟩
theorem lw_p93 : lw_okq (⟨"DoorSchoolModel", "good", "()Z"⟩, 36) := ⟨nmh_11, tI_5 (bt_5_11 MM_9), tI_6 (bt_6_6 MM_5), tI_6 (bt_6_6 MM_6)⟩
theorem lw_p94 : lw_okq (⟨"DoorSchoolModel", "readLine", "()V"⟩, 36) := ⟨nmh_11, tI_5 (bt_5_11 MM_9), tI_6 (bt_6_6 MM_9), tI_6 (bt_6_6 MM_10)⟩
theorem lw_p95 : lw_okq (⟨"DoorSchoolModel", "needs", "(Ljava/lang/String;)V"⟩, 36) := ⟨nmh_11, tI_5 (bt_5_11 MM_9), tI_6 (bt_6_6 MM_14), tI_6 (bt_6_6 MM_15)⟩
def lw_privs_6 : List (MethodName × Nat) := [(⟨"DoorSchool$Timetable", "earliest", "(LDoorSchool$Plan;I)I"⟩, 5), (⟨"DoorSchool$Timetable", "readyAt", "(LDoorSchool$Plan;I)I"⟩, 5), (⟨"DoorSchool$Timetable", "work", "(III)V"⟩, 5), (⟨"DoorSchool", "doneInStorm", "(II)I"⟩, 11), (⟨"DoorSchool", "fullSlots", "()I"⟩, 11), (⟨"DoorSchool$Plan", "takeFrom", "(LDoorSchool$Plan;)V"⟩, 16), (⟨"DoorSchool$Door", "takeFrom", "(LDoorSchool$Door;)V"⟩, 4), (⟨"DoorSchool$Lessons", "takeFrom", "(LDoorSchool$Lessons;)V"⟩, 3), (⟨"DoorSchool$Slot", "begin", "(II)V"⟩, 4), (⟨"DoorSchool$Slot", "put", "(IJ)V"⟩, 4), (⟨"DoorSchool$Slot", "has", "(II)Z"⟩, 4), (⟨"DoorSchoolModel", "advance", "()V"⟩, 36), (⟨"DoorSchoolModel", "see", "(I)I"⟩, 36), (⟨"DoorSchoolModel", "good", "()Z"⟩, 36), (⟨"DoorSchoolModel", "readLine", "()V"⟩, 36), (⟨"DoorSchoolModel", "needs", "(Ljava/lang/String;)V"⟩, 36)]
theorem lw_r6 : ∀ q ∈ lw_privs_6, lw_okq q := List.forall_mem_cons.mpr ⟨lw_p80, List.forall_mem_cons.mpr ⟨lw_p81, List.forall_mem_cons.mpr ⟨lw_p82, List.forall_mem_cons.mpr ⟨lw_p83, List.forall_mem_cons.mpr ⟨lw_p84, List.forall_mem_cons.mpr ⟨lw_p85, List.forall_mem_cons.mpr ⟨lw_p86, List.forall_mem_cons.mpr ⟨lw_p87, List.forall_mem_cons.mpr ⟨lw_p88, List.forall_mem_cons.mpr ⟨lw_p89, List.forall_mem_cons.mpr ⟨lw_p90, List.forall_mem_cons.mpr ⟨lw_p91, List.forall_mem_cons.mpr ⟨lw_p92, List.forall_mem_cons.mpr ⟨lw_p93, List.forall_mem_cons.mpr ⟨lw_p94, List.forall_mem_cons.mpr ⟨lw_p95, fun _ h => absurd h List.not_mem_nil⟩⟩⟩⟩⟩⟩⟩⟩⟩⟩⟩⟩⟩⟩⟩⟩
theorem lw_p96 : lw_okq (⟨"DoorSchoolModel", "takes", "(Ljava/lang/String;)Z"⟩, 36) := ⟨nmh_11, tI_5 (bt_5_11 MM_9), tI_6 (bt_6_7 MM_2), tI_6 (bt_6_7 MM_3)⟩
theorem lw_p97 : lw_okq (⟨"DoorSchoolModel", "is", "(Ljava/lang/String;)Z"⟩, 36) := ⟨nmh_11, tI_5 (bt_5_11 MM_9), tI_6 (bt_6_7 MM_6), tI_6 (bt_6_7 MM_7)⟩
theorem lw_p98 : lw_okq (⟨"DoorSchoolModel", "errs", "(I)V"⟩, 36) := ⟨nmh_11, tI_5 (bt_5_11 MM_9), tI_6 (bt_6_7 MM_12), tI_6 (bt_6_7 MM_13)⟩
theorem lw_p99 : lw_okq (⟨"DoorSchoolModel", "told", "(Ljava/lang/String;II)I"⟩, 36) := ⟨nmh_11, tI_5 (bt_5_11 MM_9), tI_6 (bt_6_8 MM_1), tI_6 (bt_6_8 MM_2)⟩
theorem lw_p100 : lw_okq (⟨"DoorSchoolModel", "number", "(II)I"⟩, 36) := ⟨nmh_11, tI_5 (bt_5_11 MM_9), tI_6 (bt_6_8 MM_5), tI_6 (bt_6_8 MM_6)⟩
theorem lw_p101 : lw_okq (⟨"DoorSchoolModel", "readNext", "()V"⟩, 36) := ⟨nmh_11, tI_5 (bt_5_11 MM_9), tI_6 (bt_6_8 MM_10), tI_6 (bt_6_8 MM_11)⟩
theorem lw_p102 : lw_okq (⟨"DoorSchoolModel", "readDoor", "()V"⟩, 36) := ⟨nmh_11, tI_5 (bt_5_11 MM_9), tI_6 (bt_6_9 MM_6), tI_6 (bt_6_9 MM_7)⟩
theorem lw_p103 : lw_okq (⟨"DoorSchoolModel", "readLesson", "()V"⟩, 36) := ⟨nmh_11, tI_5 (bt_5_11 MM_9), tI_6 (bt_6_9 MM_14), tI_6 (bt_6_9 MM_15)⟩
theorem lw_p104 : lw_okq (⟨"DoorSchoolModel", "isNextIn", "(I)Z"⟩, 36) := ⟨nmh_11, tI_5 (bt_5_11 MM_9), tI_6 (bt_6_10 MM_2), tI_6 (bt_6_10 MM_3)⟩
theorem lw_p105 : lw_okq (⟨"DoorSchoolModel", "freshKnock", "()I"⟩, 36) := ⟨nmh_11, tI_5 (bt_5_11 MM_9), tI_6 (bt_6_10 MM_6), tI_6 (bt_6_10 MM_7)⟩
theorem lw_p106 : lw_okq (⟨"DoorSchoolModel", "deed", "()I"⟩, 36) := ⟨nmh_11, tI_5 (bt_5_11 MM_9), tI_6 (bt_6_10 MM_10), tI_6 (bt_6_10 MM_11)⟩
theorem lw_p107 : lw_okq (⟨"DoorSchoolModel", "readTwin", "()V"⟩, 36) := ⟨nmh_11, tI_5 (bt_5_11 MM_9), tI_6 (bt_6_11 MM_3), tI_6 (bt_6_11 MM_4)⟩
theorem lw_p108 : lw_okq (⟨"DoorSchoolModel", "doesFreshCopy", "(I)Z"⟩, 36) := ⟨nmh_11, tI_5 (bt_5_11 MM_9), tI_6 (bt_6_11 MM_7), tI_6 (bt_6_11 MM_8)⟩
theorem lw_p109 : lw_okq (⟨"DoorSchoolModel", "isFreshCopied", "(I)Z"⟩, 36) := ⟨nmh_11, tI_5 (bt_5_11 MM_9), tI_6 (bt_6_11 MM_11), tI_6 (bt_6_11 MM_12)⟩
theorem lw_p110 : lw_okq (⟨"DoorSchoolModel", "readRule", "(I)V"⟩, 36) := ⟨nmh_11, tI_5 (bt_5_11 MM_9), tI_6 (bt_6_11 MM_15), tI_6 (bt_6_12 MM_0)⟩
theorem lw_p111 : lw_okq (⟨"DoorSchoolModel", "isDoor", "(I)Z"⟩, 36) := ⟨nmh_11, tI_5 (bt_5_11 MM_9), tI_6 (bt_6_12 MM_8), tI_6 (bt_6_12 MM_9)⟩
def lw_privs_7 : List (MethodName × Nat) := [(⟨"DoorSchoolModel", "takes", "(Ljava/lang/String;)Z"⟩, 36), (⟨"DoorSchoolModel", "is", "(Ljava/lang/String;)Z"⟩, 36), (⟨"DoorSchoolModel", "errs", "(I)V"⟩, 36), (⟨"DoorSchoolModel", "told", "(Ljava/lang/String;II)I"⟩, 36), (⟨"DoorSchoolModel", "number", "(II)I"⟩, 36), (⟨"DoorSchoolModel", "readNext", "()V"⟩, 36), (⟨"DoorSchoolModel", "readDoor", "()V"⟩, 36), (⟨"DoorSchoolModel", "readLesson", "()V"⟩, 36), (⟨"DoorSchoolModel", "isNextIn", "(I)Z"⟩, 36), (⟨"DoorSchoolModel", "freshKnock", "()I"⟩, 36), (⟨"DoorSchoolModel", "deed", "()I"⟩, 36), (⟨"DoorSchoolModel", "readTwin", "()V"⟩, 36), (⟨"DoorSchoolModel", "doesFreshCopy", "(I)Z"⟩, 36), (⟨"DoorSchoolModel", "isFreshCopied", "(I)Z"⟩, 36), (⟨"DoorSchoolModel", "readRule", "(I)V"⟩, 36), (⟨"DoorSchoolModel", "isDoor", "(I)Z"⟩, 36)]
theorem lw_r7 : ∀ q ∈ lw_privs_7, lw_okq q := List.forall_mem_cons.mpr ⟨lw_p96, List.forall_mem_cons.mpr ⟨lw_p97, List.forall_mem_cons.mpr ⟨lw_p98, List.forall_mem_cons.mpr ⟨lw_p99, List.forall_mem_cons.mpr ⟨lw_p100, List.forall_mem_cons.mpr ⟨lw_p101, List.forall_mem_cons.mpr ⟨lw_p102, List.forall_mem_cons.mpr ⟨lw_p103, List.forall_mem_cons.mpr ⟨lw_p104, List.forall_mem_cons.mpr ⟨lw_p105, List.forall_mem_cons.mpr ⟨lw_p106, List.forall_mem_cons.mpr ⟨lw_p107, List.forall_mem_cons.mpr ⟨lw_p108, List.forall_mem_cons.mpr ⟨lw_p109, List.forall_mem_cons.mpr ⟨lw_p110, List.forall_mem_cons.mpr ⟨lw_p111, fun _ h => absurd h List.not_mem_nil⟩⟩⟩⟩⟩⟩⟩⟩⟩⟩⟩⟩⟩⟩⟩⟩
theorem lw_p112 : lw_okq (⟨"DoorSchoolModel", "of", "(II)I"⟩, 36) := ⟨nmh_11, tI_5 (bt_5_11 MM_9), tI_6 (bt_6_12 MM_13), tI_6 (bt_6_12 MM_14)⟩
theorem lw_p113 : lw_okq (⟨"DoorSchoolModel", "isExam", "(I)Z"⟩, 36) := ⟨nmh_11, tI_5 (bt_5_11 MM_9), tI_6 (bt_6_13 MM_9), tI_6 (bt_6_13 MM_10)⟩
theorem lw_p114 : lw_okq (⟨"DoorSchoolModel", "isSchool", "()Z"⟩, 36) := ⟨nmh_11, tI_5 (bt_5_11 MM_9), tI_6 (bt_6_14 MM_1), tI_6 (bt_6_14 MM_2)⟩
theorem lw_p115 : lw_okq (⟨"DoorSchoolModel", "isHouse", "(I)Z"⟩, 36) := ⟨nmh_11, tI_5 (bt_5_11 MM_9), tI_6 (bt_6_14 MM_5), tI_6 (bt_6_14 MM_6)⟩
theorem lw_p116 : lw_okq (⟨"DoorSchoolModel", "deedsOf", "(II)I"⟩, 36) := ⟨nmh_11, tI_5 (bt_5_11 MM_9), tI_6 (bt_6_14 MM_9), tI_6 (bt_6_14 MM_10)⟩
theorem lw_p117 : lw_okq (⟨"DoorSchoolModel", "knocks", "()I"⟩, 36) := ⟨nmh_11, tI_5 (bt_5_11 MM_9), tI_6 (bt_6_14 MM_13), tI_6 (bt_6_14 MM_14)⟩
theorem lw_p118 : lw_okq (⟨"DoorSchoolModel", "isKnock", "(J)Z"⟩, 36) := ⟨nmh_11, tI_5 (bt_5_11 MM_9), tI_7 (bt_7_0 MM_12), tI_7 (bt_7_0 MM_13)⟩
theorem lw_p119 : lw_okq (⟨"DoorSchoolModel", "deedsOfDoor", "(I)I"⟩, 36) := ⟨nmh_11, tI_5 (bt_5_11 MM_9), tI_7 (bt_7_1 MM_0), tI_7 (bt_7_1 MM_1)⟩
theorem lw_p120 : lw_okq (⟨"DoorSchoolModel", "layRules", "()V"⟩, 36) := ⟨nmh_11, tI_5 (bt_5_11 MM_9), tI_7 (bt_7_1 MM_4), tI_7 (bt_7_1 MM_5)⟩
theorem lw_p121 : lw_okq (⟨"DoorSchoolModel", "real", "(I)I"⟩, 36) := ⟨nmh_11, tI_5 (bt_5_11 MM_9), tI_7 (bt_7_1 MM_8), tI_7 (bt_7_1 MM_9)⟩
theorem lw_p122 : lw_okq (⟨"DoorSchoolModel", "layLessons", "(I)V"⟩, 36) := ⟨nmh_11, tI_5 (bt_5_11 MM_9), tI_7 (bt_7_1 MM_12), tI_7 (bt_7_1 MM_13)⟩
theorem lw_p123 : lw_okq (⟨"DoorSchoolModel", "add", "(II)V"⟩, 36) := ⟨nmh_11, tI_5 (bt_5_11 MM_9), tI_7 (bt_7_2 MM_0), tI_7 (bt_7_2 MM_1)⟩
theorem lw_p124 : lw_okq (⟨"DoorSchoolModel", "learns", "(I)I"⟩, 36) := ⟨nmh_11, tI_5 (bt_5_11 MM_9), tI_7 (bt_7_2 MM_4), tI_7 (bt_7_2 MM_5)⟩
theorem lw_p125 : lw_okq (⟨"DoorSchoolModel", "firstRule", "()I"⟩, 36) := ⟨nmh_11, tI_5 (bt_5_11 MM_9), tI_7 (bt_7_2 MM_8), tI_7 (bt_7_2 MM_9)⟩
theorem lw_p126 : lw_okq (⟨"DoorSchoolModel", "isAsTold", "(I)Z"⟩, 36) := ⟨nmh_11, tI_5 (bt_5_11 MM_9), tI_7 (bt_7_2 MM_12), tI_7 (bt_7_2 MM_13)⟩
theorem lw_p127 : lw_okq (⟨"DoorSchoolModel", "byLesson", "(II)I"⟩, 36) := ⟨nmh_11, tI_5 (bt_5_11 MM_9), tI_7 (bt_7_3 MM_3), tI_7 (bt_7_3 MM_4)⟩
def lw_privs_8 : List (MethodName × Nat) := [(⟨"DoorSchoolModel", "of", "(II)I"⟩, 36), (⟨"DoorSchoolModel", "isExam", "(I)Z"⟩, 36), (⟨"DoorSchoolModel", "isSchool", "()Z"⟩, 36), (⟨"DoorSchoolModel", "isHouse", "(I)Z"⟩, 36), (⟨"DoorSchoolModel", "deedsOf", "(II)I"⟩, 36), (⟨"DoorSchoolModel", "knocks", "()I"⟩, 36), (⟨"DoorSchoolModel", "isKnock", "(J)Z"⟩, 36), (⟨"DoorSchoolModel", "deedsOfDoor", "(I)I"⟩, 36), (⟨"DoorSchoolModel", "layRules", "()V"⟩, 36), (⟨"DoorSchoolModel", "real", "(I)I"⟩, 36), (⟨"DoorSchoolModel", "layLessons", "(I)V"⟩, 36), (⟨"DoorSchoolModel", "add", "(II)V"⟩, 36), (⟨"DoorSchoolModel", "learns", "(I)I"⟩, 36), (⟨"DoorSchoolModel", "firstRule", "()I"⟩, 36), (⟨"DoorSchoolModel", "isAsTold", "(I)Z"⟩, 36), (⟨"DoorSchoolModel", "byLesson", "(II)I"⟩, 36)]
theorem lw_r8 : ∀ q ∈ lw_privs_8, lw_okq q := List.forall_mem_cons.mpr ⟨lw_p112, List.forall_mem_cons.mpr ⟨lw_p113, List.forall_mem_cons.mpr ⟨lw_p114, List.forall_mem_cons.mpr ⟨lw_p115, List.forall_mem_cons.mpr ⟨lw_p116, List.forall_mem_cons.mpr ⟨lw_p117, List.forall_mem_cons.mpr ⟨lw_p118, List.forall_mem_cons.mpr ⟨lw_p119, List.forall_mem_cons.mpr ⟨lw_p120, List.forall_mem_cons.mpr ⟨lw_p121, List.forall_mem_cons.mpr ⟨lw_p122, List.forall_mem_cons.mpr ⟨lw_p123, List.forall_mem_cons.mpr ⟨lw_p124, List.forall_mem_cons.mpr ⟨lw_p125, List.forall_mem_cons.mpr ⟨lw_p126, List.forall_mem_cons.mpr ⟨lw_p127, fun _ h => absurd h List.not_mem_nil⟩⟩⟩⟩⟩⟩⟩⟩⟩⟩⟩⟩⟩⟩⟩⟩
theorem lw_p128 : lw_okq (⟨"DoorSchoolModel", "latestOf", "(I)I"⟩, 36) := ⟨nmh_11, tI_5 (bt_5_11 MM_9), tI_7 (bt_7_3 MM_7), tI_7 (bt_7_3 MM_8)⟩
theorem lw_p129 : lw_okq (⟨"DoorSchoolModel", "nearestTo", "(I)I"⟩, 36) := ⟨nmh_11, tI_5 (bt_5_11 MM_9), tI_7 (bt_7_3 MM_11), tI_7 (bt_7_3 MM_12)⟩
theorem lw_p130 : lw_okq (⟨"DoorSchoolModel", "isRule", "(II)Z"⟩, 36) := ⟨nmh_11, tI_5 (bt_5_11 MM_9), tI_7 (bt_7_5 MM_7), tI_7 (bt_7_5 MM_8)⟩
theorem lw_p131 : lw_okq (⟨"DoorSchoolModel", "areDeeds", "(I)Z"⟩, 36) := ⟨nmh_11, tI_5 (bt_5_11 MM_9), tI_7 (bt_7_5 MM_15), tI_7 (bt_7_6 MM_0)⟩
theorem lw_p132 : lw_okq (⟨"DoorSchoolModel", "allKnocks", "()I"⟩, 36) := ⟨nmh_11, tI_5 (bt_5_11 MM_9), tI_7 (bt_7_6 MM_3), tI_7 (bt_7_6 MM_4)⟩
theorem lw_p133 : lw_okq (⟨"DoorSchoolModel", "marksBy", "(I)I"⟩, 36) := ⟨nmh_11, tI_5 (bt_5_11 MM_9), tI_7 (bt_7_6 MM_11), tI_7 (bt_7_6 MM_12)⟩
theorem lw_p134 : lw_okq (⟨"DoorSchoolModel", "isRight", "(II)Z"⟩, 36) := ⟨nmh_11, tI_5 (bt_5_11 MM_9), tI_7 (bt_7_6 MM_15), tI_7 (bt_7_7 MM_0)⟩
theorem lw_p135 : lw_okq (⟨"DoorSchoolModel", "deedsWith", "(III)I"⟩, 36) := ⟨nmh_11, tI_5 (bt_5_11 MM_9), tI_7 (bt_7_8 MM_11), tI_7 (bt_7_8 MM_12)⟩
theorem lw_p136 : lw_okq (⟨"DoorSchoolModel", "deedsWithout", "(II)I"⟩, 36) := ⟨nmh_11, tI_5 (bt_5_11 MM_9), tI_7 (bt_7_9 MM_7), tI_7 (bt_7_9 MM_8)⟩
theorem lw_p137 : lw_okq (⟨"DoorSchoolModel", "fewestSet", "(II)I"⟩, 36) := ⟨nmh_11, tI_5 (bt_5_11 MM_9), tI_7 (bt_7_10 MM_2), tI_7 (bt_7_10 MM_3)⟩
theorem lw_p138 : lw_okq (⟨"DoorSchoolModel", "learnsBy", "(III)Z"⟩, 36) := ⟨nmh_11, tI_5 (bt_5_11 MM_9), tI_7 (bt_7_10 MM_6), tI_7 (bt_7_10 MM_7)⟩
theorem lw_p139 : lw_okq (⟨"DoorSchoolModel", "laySet", "(II)V"⟩, 36) := ⟨nmh_11, tI_5 (bt_5_11 MM_9), tI_7 (bt_7_10 MM_10), tI_7 (bt_7_10 MM_11)⟩
theorem lw_p140 : lw_okq (⟨"DoorSchoolModel", "ownDeeds", "()I"⟩, 36) := ⟨nmh_11, tI_5 (bt_5_11 MM_9), tI_7 (bt_7_12 MM_0), tI_7 (bt_7_12 MM_1)⟩
theorem lw_p141 : lw_okq (⟨"DoorSchoolModel", "trickOf", "(II)I"⟩, 36) := ⟨nmh_11, tI_5 (bt_5_11 MM_9), tI_7 (bt_7_12 MM_8), tI_7 (bt_7_12 MM_9)⟩
theorem lw_p142 : lw_okq (⟨"DoorSchoolModel", "fooledBy", "(I)I"⟩, 36) := ⟨nmh_11, tI_5 (bt_5_11 MM_9), tI_7 (bt_7_13 MM_4), tI_7 (bt_7_13 MM_5)⟩
theorem lw_p143 : lw_okq (⟨"DoorSchoolModel", "hardened", "(II)I"⟩, 36) := ⟨nmh_11, tI_5 (bt_5_11 MM_9), tI_7 (bt_7_13 MM_8), tI_7 (bt_7_13 MM_9)⟩
def lw_privs_9 : List (MethodName × Nat) := [(⟨"DoorSchoolModel", "latestOf", "(I)I"⟩, 36), (⟨"DoorSchoolModel", "nearestTo", "(I)I"⟩, 36), (⟨"DoorSchoolModel", "isRule", "(II)Z"⟩, 36), (⟨"DoorSchoolModel", "areDeeds", "(I)Z"⟩, 36), (⟨"DoorSchoolModel", "allKnocks", "()I"⟩, 36), (⟨"DoorSchoolModel", "marksBy", "(I)I"⟩, 36), (⟨"DoorSchoolModel", "isRight", "(II)Z"⟩, 36), (⟨"DoorSchoolModel", "deedsWith", "(III)I"⟩, 36), (⟨"DoorSchoolModel", "deedsWithout", "(II)I"⟩, 36), (⟨"DoorSchoolModel", "fewestSet", "(II)I"⟩, 36), (⟨"DoorSchoolModel", "learnsBy", "(III)Z"⟩, 36), (⟨"DoorSchoolModel", "laySet", "(II)V"⟩, 36), (⟨"DoorSchoolModel", "ownDeeds", "()I"⟩, 36), (⟨"DoorSchoolModel", "trickOf", "(II)I"⟩, 36), (⟨"DoorSchoolModel", "fooledBy", "(I)I"⟩, 36), (⟨"DoorSchoolModel", "hardened", "(II)I"⟩, 36)]
theorem lw_r9 : ∀ q ∈ lw_privs_9, lw_okq q := List.forall_mem_cons.mpr ⟨lw_p128, List.forall_mem_cons.mpr ⟨lw_p129, List.forall_mem_cons.mpr ⟨lw_p130, List.forall_mem_cons.mpr ⟨lw_p131, List.forall_mem_cons.mpr ⟨lw_p132, List.forall_mem_cons.mpr ⟨lw_p133, List.forall_mem_cons.mpr ⟨lw_p134, List.forall_mem_cons.mpr ⟨lw_p135, List.forall_mem_cons.mpr ⟨lw_p136, List.forall_mem_cons.mpr ⟨lw_p137, List.forall_mem_cons.mpr ⟨lw_p138, List.forall_mem_cons.mpr ⟨lw_p139, List.forall_mem_cons.mpr ⟨lw_p140, List.forall_mem_cons.mpr ⟨lw_p141, List.forall_mem_cons.mpr ⟨lw_p142, List.forall_mem_cons.mpr ⟨lw_p143, fun _ h => absurd h List.not_mem_nil⟩⟩⟩⟩⟩⟩⟩⟩⟩⟩⟩⟩⟩⟩⟩⟩
theorem lw_p144 : lw_okq (⟨"DoorSchoolModel", "isStrange", "(I)Z"⟩, 36) := ⟨nmh_11, tI_5 (bt_5_11 MM_9), tI_7 (bt_7_14 MM_5), tI_7 (bt_7_14 MM_6)⟩
theorem lw_p145 : lw_okq (⟨"DoorSchoolModel", "deedsByWay", "(II)I"⟩, 36) := ⟨nmh_11, tI_5 (bt_5_11 MM_9), tI_7 (bt_7_14 MM_9), tI_7 (bt_7_14 MM_10)⟩
theorem lw_p146 : lw_okq (⟨"DoorSchoolModel", "isRest", "(III)Z"⟩, 36) := ⟨nmh_11, tI_5 (bt_5_11 MM_9), tI_8 (bt_8_0 MM_1), tI_8 (bt_8_0 MM_2)⟩
theorem lw_p147 : lw_okq (⟨"DoorSchoolModel", "teachAll", "(II)V"⟩, 36) := ⟨nmh_11, tI_5 (bt_5_11 MM_9), tI_8 (bt_8_1 MM_1), tI_8 (bt_8_1 MM_2)⟩
theorem lw_p148 : lw_okq (⟨"DoorSchoolModel", "asksSeen", "(IZ)I"⟩, 36) := ⟨nmh_11, tI_5 (bt_5_11 MM_9), tI_8 (bt_8_2 MM_1), tI_8 (bt_8_2 MM_2)⟩
theorem lw_p149 : lw_okq (⟨"DoorSchoolModel", "numberAt", "(II)J"⟩, 36) := ⟨nmh_11, tI_5 (bt_5_11 MM_9), tI_8 (bt_8_2 MM_8), tI_8 (bt_8_2 MM_9)⟩
theorem lw_p150 : lw_okq (⟨"DoorSchoolModel", "doesSo", "(II)Z"⟩, 36) := ⟨nmh_11, tI_5 (bt_5_11 MM_9), tI_8 (bt_8_2 MM_12), tI_8 (bt_8_2 MM_13)⟩
theorem lw_p151 : lw_okq (⟨"DoorSchoolModel", "isCopied", "(I)Z"⟩, 36) := ⟨nmh_11, tI_5 (bt_5_11 MM_9), tI_8 (bt_8_3 MM_8), tI_8 (bt_8_3 MM_9)⟩
theorem lw_p152 : lw_okq (⟨"DoorSchoolModel", "hangAll", "()V"⟩, 36) := ⟨nmh_11, tI_5 (bt_5_11 MM_9), tI_8 (bt_8_4 MM_0), tI_8 (bt_8_4 MM_1)⟩
theorem lw_p153 : lw_okq (⟨"DoorSchoolModel", "amissOf", "(II)I"⟩, 36) := ⟨nmh_11, tI_5 (bt_5_11 MM_9), tI_8 (bt_8_4 MM_4), tI_8 (bt_8_4 MM_5)⟩
theorem lw_p154 : lw_okq (⟨"DoorSchoolModel", "fitsOf", "(I)I"⟩, 36) := ⟨nmh_11, tI_5 (bt_5_11 MM_9), tI_8 (bt_8_5 MM_4), tI_8 (bt_8_5 MM_5)⟩
theorem lw_p155 : lw_okq (⟨"DoorSchoolModel", "askOf", "(I)I"⟩, 36) := ⟨nmh_11, tI_5 (bt_5_11 MM_9), tI_8 (bt_8_6 MM_0), tI_8 (bt_8_6 MM_1)⟩
theorem lw_p156 : lw_okq (⟨"DoorSchoolModel", "worstOf", "(II)I"⟩, 36) := ⟨nmh_11, tI_5 (bt_5_11 MM_9), tI_8 (bt_8_6 MM_4), tI_8 (bt_8_6 MM_5)⟩
theorem lw_p157 : lw_okq (⟨"DoorSchoolModel", "leastHours", "(II)I"⟩, 36) := ⟨nmh_11, tI_5 (bt_5_11 MM_9), tI_8 (bt_8_7 MM_1), tI_8 (bt_8_7 MM_2)⟩
theorem lw_p158 : lw_okq (⟨"DoorSchoolModel", "overBy", "(III)I"⟩, 36) := ⟨nmh_11, tI_5 (bt_5_11 MM_9), tI_8 (bt_8_7 MM_5), tI_8 (bt_8_7 MM_6)⟩
theorem lw_p159 : lw_okq (⟨"DoorSchoolModel", "put", "(II)V"⟩, 36) := ⟨nmh_11, tI_5 (bt_5_11 MM_9), tI_8 (bt_8_7 MM_9), tI_8 (bt_8_7 MM_10)⟩
def lw_privs_10 : List (MethodName × Nat) := [(⟨"DoorSchoolModel", "isStrange", "(I)Z"⟩, 36), (⟨"DoorSchoolModel", "deedsByWay", "(II)I"⟩, 36), (⟨"DoorSchoolModel", "isRest", "(III)Z"⟩, 36), (⟨"DoorSchoolModel", "teachAll", "(II)V"⟩, 36), (⟨"DoorSchoolModel", "asksSeen", "(IZ)I"⟩, 36), (⟨"DoorSchoolModel", "numberAt", "(II)J"⟩, 36), (⟨"DoorSchoolModel", "doesSo", "(II)Z"⟩, 36), (⟨"DoorSchoolModel", "isCopied", "(I)Z"⟩, 36), (⟨"DoorSchoolModel", "hangAll", "()V"⟩, 36), (⟨"DoorSchoolModel", "amissOf", "(II)I"⟩, 36), (⟨"DoorSchoolModel", "fitsOf", "(I)I"⟩, 36), (⟨"DoorSchoolModel", "askOf", "(I)I"⟩, 36), (⟨"DoorSchoolModel", "worstOf", "(II)I"⟩, 36), (⟨"DoorSchoolModel", "leastHours", "(II)I"⟩, 36), (⟨"DoorSchoolModel", "overBy", "(III)I"⟩, 36), (⟨"DoorSchoolModel", "put", "(II)V"⟩, 36)]
theorem lw_r10 : ∀ q ∈ lw_privs_10, lw_okq q := List.forall_mem_cons.mpr ⟨lw_p144, List.forall_mem_cons.mpr ⟨lw_p145, List.forall_mem_cons.mpr ⟨lw_p146, List.forall_mem_cons.mpr ⟨lw_p147, List.forall_mem_cons.mpr ⟨lw_p148, List.forall_mem_cons.mpr ⟨lw_p149, List.forall_mem_cons.mpr ⟨lw_p150, List.forall_mem_cons.mpr ⟨lw_p151, List.forall_mem_cons.mpr ⟨lw_p152, List.forall_mem_cons.mpr ⟨lw_p153, List.forall_mem_cons.mpr ⟨lw_p154, List.forall_mem_cons.mpr ⟨lw_p155, List.forall_mem_cons.mpr ⟨lw_p156, List.forall_mem_cons.mpr ⟨lw_p157, List.forall_mem_cons.mpr ⟨lw_p158, List.forall_mem_cons.mpr ⟨lw_p159, fun _ h => absurd h List.not_mem_nil⟩⟩⟩⟩⟩⟩⟩⟩⟩⟩⟩⟩⟩⟩⟩⟩
theorem lw_p160 : lw_okq (⟨"DoorSchoolModel", "takesOf", "(I)I"⟩, 36) := ⟨nmh_11, tI_5 (bt_5_11 MM_9), tI_8 (bt_8_7 MM_13), tI_8 (bt_8_7 MM_14)⟩
theorem lw_p161 : lw_okq (⟨"DoorSchoolModel", "overOf", "(I)I"⟩, 36) := ⟨nmh_11, tI_5 (bt_5_11 MM_9), tI_8 (bt_8_8 MM_1), tI_8 (bt_8_8 MM_2)⟩
theorem lw_p162 : lw_okq (⟨"DoorSchoolModel", "afterAll", "(II)I"⟩, 36) := ⟨nmh_11, tI_5 (bt_5_11 MM_9), tI_8 (bt_8_8 MM_5), tI_8 (bt_8_8 MM_6)⟩
theorem lw_p163 : lw_okq (⟨"DoorSchoolModel", "isFree", "(III)Z"⟩, 36) := ⟨nmh_11, tI_5 (bt_5_11 MM_9), tI_8 (bt_8_8 MM_9), tI_8 (bt_8_8 MM_10)⟩
theorem lw_p164 : lw_okq (⟨"DoorSchoolModel", "mayBegin", "(II)Z"⟩, 36) := ⟨nmh_11, tI_5 (bt_5_11 MM_9), tI_8 (bt_8_9 MM_1), tI_8 (bt_8_9 MM_2)⟩
theorem lw_p165 : lw_okq (⟨"DoorSchoolModel", "stormed", "(JI)I"⟩, 36) := ⟨nmh_11, tI_5 (bt_5_11 MM_9), tI_8 (bt_8_10 MM_10), tI_8 (bt_8_10 MM_11)⟩
def lw_privs_11 : List (MethodName × Nat) := [(⟨"DoorSchoolModel", "takesOf", "(I)I"⟩, 36), (⟨"DoorSchoolModel", "overOf", "(I)I"⟩, 36), (⟨"DoorSchoolModel", "afterAll", "(II)I"⟩, 36), (⟨"DoorSchoolModel", "isFree", "(III)Z"⟩, 36), (⟨"DoorSchoolModel", "mayBegin", "(II)Z"⟩, 36), (⟨"DoorSchoolModel", "stormed", "(JI)I"⟩, 36)]
theorem lw_r11 : ∀ q ∈ lw_privs_11, lw_okq q := List.forall_mem_cons.mpr ⟨lw_p160, List.forall_mem_cons.mpr ⟨lw_p161, List.forall_mem_cons.mpr ⟨lw_p162, List.forall_mem_cons.mpr ⟨lw_p163, List.forall_mem_cons.mpr ⟨lw_p164, List.forall_mem_cons.mpr ⟨lw_p165, fun _ h => absurd h List.not_mem_nil⟩⟩⟩⟩⟩⟩
def lw_privs : List (MethodName × Nat) := lw_privs_1 ++ (lw_privs_2 ++ (lw_privs_3 ++ (lw_privs_4 ++ (lw_privs_5 ++ (lw_privs_6 ++ (lw_privs_7 ++ (lw_privs_8 ++ (lw_privs_9 ++ (lw_privs_10 ++ (lw_privs_11))))))))))
def lw_tbl : List Cond := k2_sels lw_privs ++ tables_1
theorem lw_privs_ok : ∀ q ∈ lw_privs, lw_okq q := by
  show ∀ q ∈ lw_privs_1 ++ (lw_privs_2 ++ (lw_privs_3 ++ (lw_privs_4 ++ (lw_privs_5 ++ (lw_privs_6 ++ (lw_privs_7 ++ (lw_privs_8 ++ (lw_privs_9 ++ (lw_privs_10 ++ (lw_privs_11)))))))))), lw_okq q
  exact List.forall_mem_append.mpr ⟨lw_r1, List.forall_mem_append.mpr ⟨lw_r2, List.forall_mem_append.mpr ⟨lw_r3, List.forall_mem_append.mpr ⟨lw_r4, List.forall_mem_append.mpr ⟨lw_r5, List.forall_mem_append.mpr ⟨lw_r6, List.forall_mem_append.mpr ⟨lw_r7, List.forall_mem_append.mpr ⟨lw_r8, List.forall_mem_append.mpr ⟨lw_r9, List.forall_mem_append.mpr ⟨lw_r10, lw_r11⟩⟩⟩⟩⟩⟩⟩⟩⟩⟩
end
/-! 02.names -/
section
def RX0 : String := "DoorSchool$Door"
def TX0 : u_T := fun k => match k with
  | 0 => ("DoorSchool$Door", "lessons", "LDoorSchool$Lessons;", true)
  | 1 => ("DoorSchool$Door", "way", "I", false)
  | 2 => ("DoorSchool$Door", "slips", "I", false)
  | _ => ("DoorSchool$Door", "copies", "I", false)
def tyX0 : Nat → FieldType := fun k => match k with
  | 0 => .object "DoorSchool$Lessons"
  | 1 => .int
  | 2 => .int
  | _ => .int
theorem nmX0 : ∀ a, a < 4 → ∀ b, b < 4 → a ≠ b → (TX0 a).2.1 ≠ (TX0 b).2.1 := by decide +kernel
theorem tyX0_ok : ∀ k, k < 4 → parseFieldDescriptor (TX0 k).2.2.1 = some (tyX0 k) := by decide +kernel
abbrev cX0_init : ByteArray := prog_2_method_1_code
def yX0_init : MethodName := ⟨RX0, "<init>", "()V"⟩
abbrev cX0_begin : ByteArray := prog_2_method_2_code
def yX0_begin : MethodName := ⟨RX0, "begin", "(II)V"⟩
abbrev cX0_takeFrom : ByteArray := prog_2_method_3_code
def yX0_takeFrom : MethodName := ⟨RX0, "takeFrom", "(LDoorSchool$Door;)V"⟩
def RX1 : String := "DoorSchool$Hanging"
def TX1 : u_T := fun k => match k with
  | 0 => ("DoorSchool$Hanging", "amiss", "[I", true)
  | 1 => ("DoorSchool$Hanging", "row", "[I", true)
  | 2 => ("DoorSchool$Hanging", "firstRow", "[I", true)
  | 3 => ("DoorSchool$Hanging", "doorCount", "I", false)
  | 4 => ("DoorSchool$Hanging", "houseCount", "I", false)
  | _ => ("DoorSchool$Hanging", "fewest", "I", false)
def tyX1 : Nat → FieldType := fun k => match k with
  | 0 => .array .int
  | 1 => .array .int
  | 2 => .array .int
  | 3 => .int
  | 4 => .int
  | _ => .int
theorem nmX1 : ∀ a, a < 6 → ∀ b, b < 6 → a ≠ b → (TX1 a).2.1 ≠ (TX1 b).2.1 := by decide +kernel
theorem tyX1_ok : ∀ k, k < 6 → parseFieldDescriptor (TX1 k).2.2.1 = some (tyX1 k) := by decide +kernel
abbrev cX1_init : ByteArray := prog_3_method_1_code
def yX1_init : MethodName := ⟨RX1, "<init>", "()V"⟩
abbrev cX1_search : ByteArray := prog_3_method_2_code
def yX1_search : MethodName := ⟨RX1, "search", "(II)V"⟩
abbrev cX1_hangFrom : ByteArray := prog_3_method_3_code
def yX1_hangFrom : MethodName := ⟨RX1, "hangFrom", "(LDoorSchool$Hanging;III)V"⟩
abbrev cX1_keepIfBetter : ByteArray := prog_3_method_4_code
def yX1_keepIfBetter : MethodName := ⟨RX1, "keepIfBetter", "(I)V"⟩
def RX2 : String := "DoorSchool$Learner"
def TX2 : u_T := fun k => match k with
  | 0 => ("DoorSchool$Learner", "rules", "LDoorSchool$Rules;", true)
  | _ => ("DoorSchool$Learner", "apart", "[I", true)
def tyX2 : Nat → FieldType := fun k => match k with
  | 0 => .object "DoorSchool$Rules"
  | _ => .array .int
theorem nmX2 : ∀ a, a < 2 → ∀ b, b < 2 → a ≠ b → (TX2 a).2.1 ≠ (TX2 b).2.1 := by decide +kernel
theorem tyX2_ok : ∀ k, k < 2 → parseFieldDescriptor (TX2 k).2.2.1 = some (tyX2 k) := by decide +kernel
abbrev cX2_init : ByteArray := prog_4_method_1_code
def yX2_init : MethodName := ⟨RX2, "<init>", "(LDoorSchool$Rules;)V"⟩
abbrev cX2_learn : ByteArray := prog_4_method_2_code
def yX2_learn : MethodName := ⟨RX2, "learn", "(ILDoorSchool$Lessons;)I"⟩
abbrev cX2_learnSet : ByteArray := prog_4_method_3_code
def yX2_learnSet : MethodName := ⟨RX2, "learnSet", "(III)I"⟩
abbrev cX2_nearestOf : ByteArray := prog_4_method_4_code
def yX2_nearestOf : MethodName := ⟨RX2, "nearestOf", "(II)I"⟩
abbrev cX2_teaches : ByteArray := prog_4_method_5_code
def yX2_teaches : MethodName := ⟨RX2, "teaches", "(III)Z"⟩
abbrev cX2_leastSet : ByteArray := prog_4_method_6_code
def yX2_leastSet : MethodName := ⟨RX2, "leastSet", "(II)I"⟩
abbrev cX2_setsOf : ByteArray := prog_4_method_7_code
def yX2_setsOf : MethodName := ⟨RX2, "setsOf", "(III)I"⟩
abbrev cX2_needed : ByteArray := prog_4_method_8_code
def yX2_needed : MethodName := ⟨RX2, "needed", "(II)I"⟩
abbrev cX2_allKnocks : ByteArray := prog_4_method_9_code
def yX2_allKnocks : MethodName := ⟨RX2, "allKnocks", "()I"⟩
abbrev cX2_setBehind : ByteArray := prog_4_method_10_code
def yX2_setBehind : MethodName := ⟨RX2, "setBehind", "(I)I"⟩
abbrev cX2_errorsBy : ByteArray := prog_4_method_11_code
def yX2_errorsBy : MethodName := ⟨RX2, "errorsBy", "(II)I"⟩
abbrev cX2_learntWhole : ByteArray := prog_4_method_12_code
def yX2_learntWhole : MethodName := ⟨RX2, "learntWhole", "(II)I"⟩
def RX3 : String := "DoorSchool$Lessons"
def TX3 : u_T := fun k => match k with
  | 0 => ("DoorSchool$Lessons", "knocks", "[I", true)
  | 1 => ("DoorSchool$Lessons", "opens", "[I", true)
  | _ => ("DoorSchool$Lessons", "size", "I", false)
def tyX3 : Nat → FieldType := fun k => match k with
  | 0 => .array .int
  | 1 => .array .int
  | _ => .int
theorem nmX3 : ∀ a, a < 3 → ∀ b, b < 3 → a ≠ b → (TX3 a).2.1 ≠ (TX3 b).2.1 := by decide +kernel
theorem tyX3_ok : ∀ k, k < 3 → parseFieldDescriptor (TX3 k).2.2.1 = some (tyX3 k) := by decide +kernel
abbrev cX3_init : ByteArray := prog_5_method_1_code
def yX3_init : MethodName := ⟨RX3, "<init>", "()V"⟩
abbrev cX3_add : ByteArray := prog_5_method_2_code
def yX3_add : MethodName := ⟨RX3, "add", "(II)V"⟩
abbrev cX3_dropLast : ByteArray := prog_5_method_3_code
def yX3_dropLast : MethodName := ⟨RX3, "dropLast", "()V"⟩
abbrev cX3_putIn : ByteArray := prog_5_method_4_code
def yX3_putIn : MethodName := ⟨RX3, "putIn", "(III)V"⟩
abbrev cX3_takeOut : ByteArray := prog_5_method_5_code
def yX3_takeOut : MethodName := ⟨RX3, "takeOut", "(I)V"⟩
abbrev cX3_takeFrom : ByteArray := prog_5_method_6_code
def yX3_takeFrom : MethodName := ⟨RX3, "takeFrom", "(LDoorSchool$Lessons;)V"⟩
abbrev cX3_said : ByteArray := prog_5_method_7_code
def yX3_said : MethodName := ⟨RX3, "said", "(I)I"⟩
abbrev cX3_latestOf : ByteArray := prog_5_method_8_code
def yX3_latestOf : MethodName := ⟨RX3, "latestOf", "(I)I"⟩
abbrev cX3_nearestTo : ByteArray := prog_5_method_9_code
def yX3_nearestTo : MethodName := ⟨RX3, "nearestTo", "(I)I"⟩
abbrev cX3_allAs : ByteArray := prog_5_method_10_code
def yX3_allAs : MethodName := ⟨RX3, "allAs", "(I)I"⟩
abbrev cX3_firstNotAs : ByteArray := prog_5_method_11_code
def yX3_firstNotAs : MethodName := ⟨RX3, "firstNotAs", "(I)I"⟩
def RX4 : String := "DoorSchool$Plan"
def TX4 : u_T := fun k => match k with
  | 0 => ("DoorSchool$Plan", "lines", "I", false)
  | 1 => ("DoorSchool$Plan", "signs", "I", false)
  | 2 => ("DoorSchool$Plan", "teachers", "I", false)
  | 3 => ("DoorSchool$Plan", "doorCount", "I", false)
  | 4 => ("DoorSchool$Plan", "doors", "[LDoorSchool$Door;", true)
  | 5 => ("DoorSchool$Plan", "exams", "LDoorSchool$Lessons;", true)
  | 6 => ("DoorSchool$Plan", "ownerSigns", "I", false)
  | 7 => ("DoorSchool$Plan", "ownerThere", "I", false)
  | 8 => ("DoorSchool$Plan", "houseCount", "I", false)
  | 9 => ("DoorSchool$Plan", "houseSigns", "[I", true)
  | 10 => ("DoorSchool$Plan", "houseThere", "[I", true)
  | 11 => ("DoorSchool$Plan", "courseCount", "I", false)
  | 12 => ("DoorSchool$Plan", "takes", "[I", true)
  | 13 => ("DoorSchool$Plan", "ahead", "[I", true)
  | 14 => ("DoorSchool$Plan", "taught", "I", false)
  | _ => ("DoorSchool$Plan", "taughtDoors", "[I", true)
def tyX4 : Nat → FieldType := fun k => match k with
  | 0 => .int
  | 1 => .int
  | 2 => .int
  | 3 => .int
  | 4 => .array (.object "DoorSchool$Door")
  | 5 => .object "DoorSchool$Lessons"
  | 6 => .int
  | 7 => .int
  | 8 => .int
  | 9 => .array .int
  | 10 => .array .int
  | 11 => .int
  | 12 => .array .int
  | 13 => .array .int
  | 14 => .int
  | _ => .array .int
theorem nmX4 : ∀ a, a < 16 → ∀ b, b < 16 → a ≠ b → (TX4 a).2.1 ≠ (TX4 b).2.1 := by decide +kernel
theorem tyX4_ok : ∀ k, k < 16 → parseFieldDescriptor (TX4 k).2.2.1 = some (tyX4 k) := by decide +kernel
abbrev cX4_init : ByteArray := prog_6_method_1_code
def yX4_init : MethodName := ⟨RX4, "<init>", "()V"⟩
abbrev cX4_clear : ByteArray := prog_6_method_2_code
def yX4_clear : MethodName := ⟨RX4, "clear", "()V"⟩
abbrev cX4_takeFrom : ByteArray := prog_6_method_3_code
def yX4_takeFrom : MethodName := ⟨RX4, "takeFrom", "(LDoorSchool$Plan;)V"⟩
abbrev cX4_exists : ByteArray := prog_6_method_4_code
def yX4_exists : MethodName := ⟨RX4, "exists", "()Z"⟩
abbrev cX4_knocks : ByteArray := prog_6_method_5_code
def yX4_knocks : MethodName := ⟨RX4, "knocks", "()I"⟩
abbrev cX4_isDoor : ByteArray := prog_6_method_6_code
def yX4_isDoor : MethodName := ⟨RX4, "isDoor", "(I)Z"⟩
abbrev cX4_isHouse : ByteArray := prog_6_method_7_code
def yX4_isHouse : MethodName := ⟨RX4, "isHouse", "(I)Z"⟩
abbrev cX4_isKnock : ByteArray := prog_6_method_8_code
def yX4_isKnock : MethodName := ⟨RX4, "isKnock", "(I)Z"⟩
abbrev cX4_isRule : ByteArray := prog_6_method_9_code
def yX4_isRule : MethodName := ⟨RX4, "isRule", "(II)Z"⟩
abbrev cX4_isDeeds : ByteArray := prog_6_method_10_code
def yX4_isDeeds : MethodName := ⟨RX4, "isDeeds", "(I)Z"⟩
abbrev cX4_isCopied : ByteArray := prog_6_method_11_code
def yX4_isCopied : MethodName := ⟨RX4, "isCopied", "(I)Z"⟩
abbrev cX4_modelOf : ByteArray := prog_6_method_12_code
def yX4_modelOf : MethodName := ⟨RX4, "modelOf", "(I)LDoorSchool$Door;"⟩
def RX5 : String := "DoorSchool$Reader"
def TX5 : u_T := fun k => match k with
  | 0 => ("DoorSchool$Reader", "tape", "LDoorSchool$Tape;", true)
  | 1 => ("DoorSchool$Reader", "kind", "I", false)
  | 2 => ("DoorSchool$Reader", "start", "I", false)
  | 3 => ("DoorSchool$Reader", "stop", "I", false)
  | 4 => ("DoorSchool$Reader", "value", "I", false)
  | 5 => ("DoorSchool$Reader", "fault", "I", false)
  | _ => ("DoorSchool$Reader", "place", "I", false)
def tyX5 : Nat → FieldType := fun k => match k with
  | 0 => .object "DoorSchool$Tape"
  | 1 => .int
  | 2 => .int
  | 3 => .int
  | 4 => .int
  | 5 => .int
  | _ => .int
theorem nmX5 : ∀ a, a < 7 → ∀ b, b < 7 → a ≠ b → (TX5 a).2.1 ≠ (TX5 b).2.1 := by decide +kernel
theorem tyX5_ok : ∀ k, k < 7 → parseFieldDescriptor (TX5 k).2.2.1 = some (tyX5 k) := by decide +kernel
abbrev cX5_init : ByteArray := prog_7_method_1_code
def yX5_init : MethodName := ⟨RX5, "<init>", "(LDoorSchool$Tape;)V"⟩
abbrev cX5_read : ByteArray := prog_7_method_2_code
def yX5_read : MethodName := ⟨RX5, "read", "(LDoorSchool$Plan;)V"⟩
abbrev cX5_readFirst : ByteArray := prog_7_method_3_code
def yX5_readFirst : MethodName := ⟨RX5, "readFirst", "(LDoorSchool$Plan;)V"⟩
abbrev cX5_readDoor : ByteArray := prog_7_method_4_code
def yX5_readDoor : MethodName := ⟨RX5, "readDoor", "(LDoorSchool$Plan;)V"⟩
abbrev cX5_readLesson : ByteArray := prog_7_method_5_code
def yX5_readLesson : MethodName := ⟨RX5, "readLesson", "(LDoorSchool$Plan;)V"⟩
abbrev cX5_readExam : ByteArray := prog_7_method_6_code
def yX5_readExam : MethodName := ⟨RX5, "readExam", "(LDoorSchool$Plan;)V"⟩
abbrev cX5_readSaid : ByteArray := prog_7_method_7_code
def yX5_readSaid : MethodName := ⟨RX5, "readSaid", "(LDoorSchool$Plan;LDoorSchool$Lessons;)V"⟩
abbrev cX5_readTwin : ByteArray := prog_7_method_8_code
def yX5_readTwin : MethodName := ⟨RX5, "readTwin", "(LDoorSchool$Plan;)V"⟩
abbrev cX5_readOwner : ByteArray := prog_7_method_9_code
def yX5_readOwner : MethodName := ⟨RX5, "readOwner", "(LDoorSchool$Plan;)V"⟩
abbrev cX5_readHouse : ByteArray := prog_7_method_10_code
def yX5_readHouse : MethodName := ⟨RX5, "readHouse", "(LDoorSchool$Plan;)V"⟩
abbrev cX5_readCourse : ByteArray := prog_7_method_11_code
def yX5_readCourse : MethodName := ⟨RX5, "readCourse", "(LDoorSchool$Plan;)V"⟩
abbrev cX5_readAhead : ByteArray := prog_7_method_12_code
def yX5_readAhead : MethodName := ⟨RX5, "readAhead", "(LDoorSchool$Plan;)V"⟩
abbrev cX5_takeWay : ByteArray := prog_7_method_13_code
def yX5_takeWay : MethodName := ⟨RX5, "takeWay", "()I"⟩
abbrev cX5_takePart : ByteArray := prog_7_method_14_code
def yX5_takePart : MethodName := ⟨RX5, "takePart", "(I)I"⟩
abbrev cX5_takeNumber : ByteArray := prog_7_method_15_code
def yX5_takeNumber : MethodName := ⟨RX5, "takeNumber", "(II)I"⟩
abbrev cX5_numberHere : ByteArray := prog_7_method_16_code
def yX5_numberHere : MethodName := ⟨RX5, "numberHere", "(II)I"⟩
abbrev cX5_pass : ByteArray := prog_7_method_17_code
def yX5_pass : MethodName := ⟨RX5, "pass", "(Z)V"⟩
abbrev cX5_blame : ByteArray := prog_7_method_18_code
def yX5_blame : MethodName := ⟨RX5, "blame", "(I)V"⟩
abbrev cX5_stands : ByteArray := prog_7_method_19_code
def yX5_stands : MethodName := ⟨RX5, "stands", "(Ljava/lang/String;)Z"⟩
abbrev cX5_step : ByteArray := prog_7_method_20_code
def yX5_step : MethodName := ⟨RX5, "step", "()V"⟩
abbrev cX5_kindAt : ByteArray := prog_7_method_21_code
def yX5_kindAt : MethodName := ⟨RX5, "kindAt", "(I)I"⟩
abbrev cX5_isBlank : ByteArray := prog_7_method_22_code
def yX5_isBlank : MethodName := ⟨RX5, "isBlank", "(B)Z"⟩
def RX6 : String := "DoorSchool$Rules"
def TX6 : u_T := fun k => match k with
  | 0 => ("DoorSchool$Rules", "knocks", "I", false)
  | 1 => ("DoorSchool$Rules", "size", "I", false)
  | 2 => ("DoorSchool$Rules", "signs", "[I", true)
  | 3 => ("DoorSchool$Rules", "there", "[I", true)
  | _ => ("DoorSchool$Rules", "deeds", "[I", true)
def tyX6 : Nat → FieldType := fun k => match k with
  | 0 => .int
  | 1 => .int
  | 2 => .array .int
  | 3 => .array .int
  | _ => .array .int
theorem nmX6 : ∀ a, a < 5 → ∀ b, b < 5 → a ≠ b → (TX6 a).2.1 ≠ (TX6 b).2.1 := by decide +kernel
theorem tyX6_ok : ∀ k, k < 5 → parseFieldDescriptor (TX6 k).2.2.1 = some (tyX6 k) := by decide +kernel
abbrev cX6_init : ByteArray := prog_8_method_1_code
def yX6_init : MethodName := ⟨RX6, "<init>", "()V"⟩
abbrev cX6_prepare : ByteArray := prog_8_method_2_code
def yX6_prepare : MethodName := ⟨RX6, "prepare", "(I)V"⟩
abbrev cX6_addAllOf : ByteArray := prog_8_method_3_code
def yX6_addAllOf : MethodName := ⟨RX6, "addAllOf", "(I)V"⟩
abbrev cX6_deedsOf : ByteArray := prog_8_method_4_code
def yX6_deedsOf : MethodName := ⟨RX6, "deedsOf", "(II)I"⟩
abbrev cX6_placeOf : ByteArray := prog_8_method_5_code
def yX6_placeOf : MethodName := ⟨RX6, "placeOf", "(I)I"⟩
abbrev cX6_first : ByteArray := prog_8_method_6_code
def yX6_first : MethodName := ⟨RX6, "first", "(II)I"⟩
abbrev cX6_howMany : ByteArray := prog_8_method_7_code
def yX6_howMany : MethodName := ⟨RX6, "howMany", "(II)I"⟩
abbrev cX6_surely : ByteArray := prog_8_method_8_code
def yX6_surely : MethodName := ⟨RX6, "surely", "(IIZ)I"⟩
def RX7 : String := "DoorSchool$Slot"
def TX7 : u_T := fun k => match k with
  | 0 => ("DoorSchool$Slot", "numbers", "[J", true)
  | 1 => ("DoorSchool$Slot", "full", "Z", false)
  | 2 => ("DoorSchool$Slot", "width", "I", false)
  | _ => ("DoorSchool$Slot", "size", "I", false)
def tyX7 : Nat → FieldType := fun k => match k with
  | 0 => .array .long
  | 1 => .boolean
  | 2 => .int
  | _ => .int
theorem nmX7 : ∀ a, a < 4 → ∀ b, b < 4 → a ≠ b → (TX7 a).2.1 ≠ (TX7 b).2.1 := by decide +kernel
theorem tyX7_ok : ∀ k, k < 4 → parseFieldDescriptor (TX7 k).2.2.1 = some (tyX7 k) := by decide +kernel
abbrev cX7_init : ByteArray := prog_9_method_1_code
def yX7_init : MethodName := ⟨RX7, "<init>", "()V"⟩
abbrev cX7_begin : ByteArray := prog_9_method_2_code
def yX7_begin : MethodName := ⟨RX7, "begin", "(II)V"⟩
abbrev cX7_put : ByteArray := prog_9_method_3_code
def yX7_put : MethodName := ⟨RX7, "put", "(IJ)V"⟩
abbrev cX7_has : ByteArray := prog_9_method_4_code
def yX7_has : MethodName := ⟨RX7, "has", "(II)Z"⟩
abbrev cX7_isPairs : ByteArray := prog_9_method_5_code
def yX7_isPairs : MethodName := ⟨RX7, "isPairs", "(I)Z"⟩
abbrev cX7_said : ByteArray := prog_9_method_6_code
def yX7_said : MethodName := ⟨RX7, "said", "(I)I"⟩
def RX8 : String := "DoorSchool$Tape"
def TX8 : u_T := fun k => match k with
  | 0 => ("DoorSchool$Tape", "bytes", "[B", true)
  | _ => ("DoorSchool$Tape", "size", "I", false)
def tyX8 : Nat → FieldType := fun k => match k with
  | 0 => .array .byte
  | _ => .int
theorem nmX8 : ∀ a, a < 2 → ∀ b, b < 2 → a ≠ b → (TX8 a).2.1 ≠ (TX8 b).2.1 := by decide +kernel
theorem tyX8_ok : ∀ k, k < 2 → parseFieldDescriptor (TX8 k).2.2.1 = some (tyX8 k) := by decide +kernel
abbrev cX8_init : ByteArray := prog_10_method_1_code
def yX8_init : MethodName := ⟨RX8, "<init>", "()V"⟩
abbrev cX8_append : ByteArray := prog_10_method_2_code
def yX8_append : MethodName := ⟨RX8, "append", "(I)V"⟩
def RX9 : String := "DoorSchool$Timetable"
def TX9 : u_T := fun k => match k with
  | 0 => ("DoorSchool$Timetable", "busy", "[I", true)
  | 1 => ("DoorSchool$Timetable", "begins", "[I", true)
  | 2 => ("DoorSchool$Timetable", "firstBegins", "[I", true)
  | 3 => ("DoorSchool$Timetable", "teachers", "I", false)
  | _ => ("DoorSchool$Timetable", "soonest", "I", false)
def tyX9 : Nat → FieldType := fun k => match k with
  | 0 => .array .int
  | 1 => .array .int
  | 2 => .array .int
  | 3 => .int
  | _ => .int
theorem nmX9 : ∀ a, a < 5 → ∀ b, b < 5 → a ≠ b → (TX9 a).2.1 ≠ (TX9 b).2.1 := by decide +kernel
theorem tyX9_ok : ∀ k, k < 5 → parseFieldDescriptor (TX9 k).2.2.1 = some (tyX9 k) := by decide +kernel
abbrev cX9_init : ByteArray := prog_11_method_1_code
def yX9_init : MethodName := ⟨RX9, "<init>", "()V"⟩
abbrev cX9_solve : ByteArray := prog_11_method_2_code
def yX9_solve : MethodName := ⟨RX9, "solve", "(LDoorSchool$Plan;I)I"⟩
abbrev cX9_placeFrom : ByteArray := prog_11_method_3_code
def yX9_placeFrom : MethodName := ⟨RX9, "placeFrom", "(LDoorSchool$Timetable;LDoorSchool$Plan;III)V"⟩
abbrev cX9_earliest : ByteArray := prog_11_method_4_code
def yX9_earliest : MethodName := ⟨RX9, "earliest", "(LDoorSchool$Plan;I)I"⟩
abbrev cX9_readyAt : ByteArray := prog_11_method_5_code
def yX9_readyAt : MethodName := ⟨RX9, "readyAt", "(LDoorSchool$Plan;I)I"⟩
abbrev cX9_work : ByteArray := prog_11_method_6_code
def yX9_work : MethodName := ⟨RX9, "work", "(III)V"⟩
abbrev cX9_keepIfFirst : ByteArray := prog_11_method_7_code
def yX9_keepIfFirst : MethodName := ⟨RX9, "keepIfFirst", "(I)V"⟩
abbrev cX9_isEarlier : ByteArray := prog_11_method_8_code
def yX9_isEarlier : MethodName := ⟨RX9, "isEarlier", "()Z"⟩
def RX10 : String := "DoorSchool"
def TX10 : u_T := fun k => match k with
  | 0 => ("DoorSchool", "tape", "LDoorSchool$Tape;", true)
  | 1 => ("DoorSchool", "reader", "LDoorSchool$Reader;", true)
  | 2 => ("DoorSchool", "rules", "LDoorSchool$Rules;", true)
  | 3 => ("DoorSchool", "learner", "LDoorSchool$Learner;", true)
  | 4 => ("DoorSchool", "hanging", "LDoorSchool$Hanging;", true)
  | 5 => ("DoorSchool", "timetable", "LDoorSchool$Timetable;", true)
  | 6 => ("DoorSchool", "slots", "[LDoorSchool$Slot;", true)
  | 7 => ("DoorSchool", "images", "[LDoorSchool$Plan;", true)
  | 8 => ("DoorSchool", "imaged", "[Z", true)
  | 9 => ("DoorSchool", "plan", "LDoorSchool$Plan;", false)
  | _ => ("DoorSchool", "spare", "LDoorSchool$Plan;", false)
def tyX10 : Nat → FieldType := fun k => match k with
  | 0 => .object "DoorSchool$Tape"
  | 1 => .object "DoorSchool$Reader"
  | 2 => .object "DoorSchool$Rules"
  | 3 => .object "DoorSchool$Learner"
  | 4 => .object "DoorSchool$Hanging"
  | 5 => .object "DoorSchool$Timetable"
  | 6 => .array (.object "DoorSchool$Slot")
  | 7 => .array (.object "DoorSchool$Plan")
  | 8 => .array .boolean
  | 9 => .object "DoorSchool$Plan"
  | _ => .object "DoorSchool$Plan"
theorem nmX10 : ∀ a, a < 11 → ∀ b, b < 11 → a ≠ b → (TX10 a).2.1 ≠ (TX10 b).2.1 := by decide +kernel
theorem tyX10_ok : ∀ k, k < 11 → parseFieldDescriptor (TX10 k).2.2.1 = some (tyX10 k) := by decide +kernel
abbrev cX10_init : ByteArray := prog_1_method_1_code
def yX10_init : MethodName := ⟨RX10, "<init>", "()V"⟩
abbrev cX10_feed : ByteArray := prog_1_method_2_code
def yX10_feed : MethodName := ⟨RX10, "feed", "(IIIII)I"⟩
abbrev cX10_end : ByteArray := prog_1_method_3_code
def yX10_end : MethodName := ⟨RX10, "end", "(I)I"⟩
abbrev cX10_school : ByteArray := prog_1_method_4_code
def yX10_school : MethodName := ⟨RX10, "school", "()I"⟩
abbrev cX10_fault : ByteArray := prog_1_method_5_code
def yX10_fault : MethodName := ⟨RX10, "fault", "(I)I"⟩
abbrev cX10_door : ByteArray := prog_1_method_6_code
def yX10_door : MethodName := ⟨RX10, "door", "(II)I"⟩
abbrev cX10_lesson : ByteArray := prog_1_method_7_code
def yX10_lesson : MethodName := ⟨RX10, "lesson", "(III)I"⟩
abbrev cX10_exam : ByteArray := prog_1_method_8_code
def yX10_exam : MethodName := ⟨RX10, "exam", "(II)I"⟩
abbrev cX10_house : ByteArray := prog_1_method_9_code
def yX10_house : MethodName := ⟨RX10, "house", "(II)I"⟩
abbrev cX10_opens : ByteArray := prog_1_method_10_code
def yX10_opens : MethodName := ⟨RX10, "opens", "(II)I"⟩
abbrev cX10_deeds : ByteArray := prog_1_method_11_code
def yX10_deeds : MethodName := ⟨RX10, "deeds", "(I)I"⟩
abbrev cX10_often : ByteArray := prog_1_method_12_code
def yX10_often : MethodName := ⟨RX10, "often", "(I)I"⟩
abbrev cX10_why : ByteArray := prog_1_method_13_code
def yX10_why : MethodName := ⟨RX10, "why", "(II)I"⟩
abbrev cX10_rule : ByteArray := prog_1_method_14_code
def yX10_rule : MethodName := ⟨RX10, "rule", "(II)I"⟩
abbrev cX10_rules : ByteArray := prog_1_method_15_code
def yX10_rules : MethodName := ⟨RX10, "rules", "(I)I"⟩
abbrev cX10_does : ByteArray := prog_1_method_16_code
def yX10_does : MethodName := ⟨RX10, "does", "(II)I"⟩
abbrev cX10_told : ByteArray := prog_1_method_17_code
def yX10_told : MethodName := ⟨RX10, "told", "(II)I"⟩
abbrev cX10_marks : ByteArray := prog_1_method_18_code
def yX10_marks : MethodName := ⟨RX10, "marks", "(I)I"⟩
abbrev cX10_wrong : ByteArray := prog_1_method_19_code
def yX10_wrong : MethodName := ⟨RX10, "wrong", "(I)I"⟩
abbrev cX10_best : ByteArray := prog_1_method_20_code
def yX10_best : MethodName := ⟨RX10, "best", "()I"⟩
abbrev cX10_hard : ByteArray := prog_1_method_21_code
def yX10_hard : MethodName := ⟨RX10, "hard", "()I"⟩
abbrev cX10_teach : ByteArray := prog_1_method_22_code
def yX10_teach : MethodName := ⟨RX10, "teach", "(III)I"⟩
abbrev cX10_unteach : ByteArray := prog_1_method_23_code
def yX10_unteach : MethodName := ⟨RX10, "unteach", "()I"⟩
abbrev cX10_gains : ByteArray := prog_1_method_24_code
def yX10_gains : MethodName := ⟨RX10, "gains", "(III)I"⟩
abbrev cX10_help : ByteArray := prog_1_method_25_code
def yX10_help : MethodName := ⟨RX10, "help", "(I)I"⟩
abbrev cX10_idle : ByteArray := prog_1_method_26_code
def yX10_idle : MethodName := ⟨RX10, "idle", "(I)I"⟩
abbrev cX10_fewest : ByteArray := prog_1_method_27_code
def yX10_fewest : MethodName := ⟨RX10, "fewest", "(II)I"⟩
abbrev cX10_course : ByteArray := prog_1_method_28_code
def yX10_course : MethodName := ⟨RX10, "course", "(II)I"⟩
abbrev cX10_sets : ByteArray := prog_1_method_29_code
def yX10_sets : MethodName := ⟨RX10, "sets", "(III)I"⟩
abbrev cX10_easiest : ByteArray := prog_1_method_30_code
def yX10_easiest : MethodName := ⟨RX10, "easiest", "(I)I"⟩
abbrev cX10_fooled : ByteArray := prog_1_method_31_code
def yX10_fooled : MethodName := ⟨RX10, "fooled", "(II)I"⟩
abbrev cX10_tries : ByteArray := prog_1_method_32_code
def yX10_tries : MethodName := ⟨RX10, "tries", "(II)I"⟩
abbrev cX10_trick : ByteArray := prog_1_method_33_code
def yX10_trick : MethodName := ⟨RX10, "trick", "(II)I"⟩
abbrev cX10_harden : ByteArray := prog_1_method_34_code
def yX10_harden : MethodName := ⟨RX10, "harden", "(I)I"⟩
abbrev cX10_left : ByteArray := prog_1_method_35_code
def yX10_left : MethodName := ⟨RX10, "left", "(I)I"⟩
abbrev cX10_game : ByteArray := prog_1_method_36_code
def yX10_game : MethodName := ⟨RX10, "game", "(III)I"⟩
abbrev cX10_rests : ByteArray := prog_1_method_37_code
def yX10_rests : MethodName := ⟨RX10, "rests", "(I)I"⟩
abbrev cX10_rest : ByteArray := prog_1_method_38_code
def yX10_rest : MethodName := ⟨RX10, "rest", "(I)I"⟩
abbrev cX10_way : ByteArray := prog_1_method_39_code
def yX10_way : MethodName := ⟨RX10, "way", "(II)I"⟩
abbrev cX10_errors : ByteArray := prog_1_method_40_code
def yX10_errors : MethodName := ⟨RX10, "errors", "(II)I"⟩
abbrev cX10_learnt : ByteArray := prog_1_method_41_code
def yX10_learnt : MethodName := ⟨RX10, "learnt", "(II)I"⟩
abbrev cX10_next : ByteArray := prog_1_method_42_code
def yX10_next : MethodName := ⟨RX10, "next", "(II)I"⟩
abbrev cX10_same : ByteArray := prog_1_method_43_code
def yX10_same : MethodName := ⟨RX10, "same", "(I)I"⟩
abbrev cX10_alike : ByteArray := prog_1_method_44_code
def yX10_alike : MethodName := ⟨RX10, "alike", "(I)I"⟩
abbrev cX10_copy : ByteArray := prog_1_method_45_code
def yX10_copy : MethodName := ⟨RX10, "copy", "(II)I"⟩
abbrev cX10_hanging : ByteArray := prog_1_method_46_code
def yX10_hanging : MethodName := ⟨RX10, "hanging", "()I"⟩
abbrev cX10_hung : ByteArray := prog_1_method_47_code
def yX10_hung : MethodName := ⟨RX10, "hung", "(I)I"⟩
abbrev cX10_amiss : ByteArray := prog_1_method_48_code
def yX10_amiss : MethodName := ⟨RX10, "amiss", "(II)I"⟩
abbrev cX10_fits : ByteArray := prog_1_method_49_code
def yX10_fits : MethodName := ⟨RX10, "fits", "(I)I"⟩
abbrev cX10_sure : ByteArray := prog_1_method_50_code
def yX10_sure : MethodName := ⟨RX10, "sure", "(II)I"⟩
abbrev cX10_ask : ByteArray := prog_1_method_51_code
def yX10_ask : MethodName := ⟨RX10, "ask", "(I)I"⟩
abbrev cX10_leaves : ByteArray := prog_1_method_52_code
def yX10_leaves : MethodName := ⟨RX10, "leaves", "(I)I"⟩
abbrev cX10_hours : ByteArray := prog_1_method_53_code
def yX10_hours : MethodName := ⟨RX10, "hours", "()I"⟩
abbrev cX10_begins : ByteArray := prog_1_method_54_code
def yX10_begins : MethodName := ⟨RX10, "begins", "(I)I"⟩
abbrev cX10_teacher : ByteArray := prog_1_method_55_code
def yX10_teacher : MethodName := ⟨RX10, "teacher", "()I"⟩
abbrev cX10_train : ByteArray := prog_1_method_56_code
def yX10_train : MethodName := ⟨RX10, "train", "(III)I"⟩
abbrev cX10_owns : ByteArray := prog_1_method_57_code
def yX10_owns : MethodName := ⟨RX10, "owns", "(II)I"⟩
abbrev cX10_storm : ByteArray := prog_1_method_58_code
def yX10_storm : MethodName := ⟨RX10, "storm", "(III)I"⟩
abbrev cX10_years : ByteArray := prog_1_method_59_code
def yX10_years : MethodName := ⟨RX10, "years", "(IIII)I"⟩
abbrev cX10_count : ByteArray := prog_1_method_60_code
def yX10_count : MethodName := ⟨RX10, "count", "(I)I"⟩
abbrev cX10_image : ByteArray := prog_1_method_61_code
def yX10_image : MethodName := ⟨RX10, "image", "(I)I"⟩
abbrev cX10_back : ByteArray := prog_1_method_62_code
def yX10_back : MethodName := ⟨RX10, "back", "(I)I"⟩
abbrev cX10_row : ByteArray := prog_1_method_63_code
def yX10_row : MethodName := ⟨RX10, "row", "(III)I"⟩
abbrev cX10_write : ByteArray := prog_1_method_64_code
def yX10_write : MethodName := ⟨RX10, "write", "(IIJ)I"⟩
abbrev cX10_paste : ByteArray := prog_1_method_65_code
def yX10_paste : MethodName := ⟨RX10, "paste", "(IIIII)I"⟩
abbrev cX10_isZeroOrOne : ByteArray := prog_1_method_66_code
def yX10_isZeroOrOne : MethodName := ⟨RX10, "isZeroOrOne", "(I)Z"⟩
abbrev cX10_isWay : ByteArray := prog_1_method_67_code
def yX10_isWay : MethodName := ⟨RX10, "isWay", "(I)Z"⟩
abbrev cX10_isSeed : ByteArray := prog_1_method_68_code
def yX10_isSeed : MethodName := ⟨RX10, "isSeed", "(I)Z"⟩
abbrev cX10_isSlot : ByteArray := prog_1_method_69_code
def yX10_isSlot : MethodName := ⟨RX10, "isSlot", "(I)Z"⟩
abbrev cX10_isLesson : ByteArray := prog_1_method_70_code
def yX10_isLesson : MethodName := ⟨RX10, "isLesson", "(III)Z"⟩
abbrev cX10_bit : ByteArray := prog_1_method_71_code
def yX10_bit : MethodName := ⟨RX10, "bit", "(II)I"⟩
abbrev cX10_agree : ByteArray := prog_1_method_72_code
def yX10_agree : MethodName := ⟨RX10, "agree", "(III)Z"⟩
abbrev cX10_doneBy : ByteArray := prog_1_method_73_code
def yX10_doneBy : MethodName := ⟨RX10, "doneBy", "(I)I"⟩
abbrev cX10_wouldDo : ByteArray := prog_1_method_74_code
def yX10_wouldDo : MethodName := ⟨RX10, "wouldDo", "(II)I"⟩
abbrev cX10_ownerDeeds : ByteArray := prog_1_method_75_code
def yX10_ownerDeeds : MethodName := ⟨RX10, "ownerDeeds", "()I"⟩
abbrev cX10_houseDeeds : ByteArray := prog_1_method_76_code
def yX10_houseDeeds : MethodName := ⟨RX10, "houseDeeds", "(I)I"⟩
abbrev cX10_marksFor : ByteArray := prog_1_method_77_code
def yX10_marksFor : MethodName := ⟨RX10, "marksFor", "(I)I"⟩
abbrev cX10_gainOf : ByteArray := prog_1_method_78_code
def yX10_gainOf : MethodName := ⟨RX10, "gainOf", "(III)I"⟩
abbrev cX10_fooling : ByteArray := prog_1_method_79_code
def yX10_fooling : MethodName := ⟨RX10, "fooling", "(I)I"⟩
abbrev cX10_foolingAfter : ByteArray := prog_1_method_80_code
def yX10_foolingAfter : MethodName := ⟨RX10, "foolingAfter", "(II)I"⟩
abbrev cX10_stolenBy : ByteArray := prog_1_method_81_code
def yX10_stolenBy : MethodName := ⟨RX10, "stolenBy", "(II)I"⟩
abbrev cX10_isRest : ByteArray := prog_1_method_82_code
def yX10_isRest : MethodName := ⟨RX10, "isRest", "(III)Z"⟩
abbrev cX10_hangAll : ByteArray := prog_1_method_83_code
def yX10_hangAll : MethodName := ⟨RX10, "hangAll", "()Z"⟩
abbrev cX10_troubleWith : ByteArray := prog_1_method_84_code
def yX10_troubleWith : MethodName := ⟨RX10, "troubleWith", "(I)I"⟩
abbrev cX10_askedOf : ByteArray := prog_1_method_85_code
def yX10_askedOf : MethodName := ⟨RX10, "askedOf", "(LDoorSchool$Slot;)I"⟩
abbrev cX10_leftAtWorst : ByteArray := prog_1_method_86_code
def yX10_leftAtWorst : MethodName := ⟨RX10, "leftAtWorst", "(LDoorSchool$Slot;I)I"⟩
abbrev cX10_doneInStorm : ByteArray := prog_1_method_87_code
def yX10_doneInStorm : MethodName := ⟨RX10, "doneInStorm", "(II)I"⟩
abbrev cX10_fullSlots : ByteArray := prog_1_method_88_code
def yX10_fullSlots : MethodName := ⟨RX10, "fullSlots", "()I"⟩
def RX11 : String := "DoorSchoolModel"
def TX11 : u_T := fun k => match k with
  | 0 => ("DoorSchoolModel", "thrown", "I", false)
  | 1 => ("DoorSchoolModel", "world", "[I", true)
  | 2 => ("DoorSchoolModel", "images", "[I", true)
  | 3 => ("DoorSchoolModel", "hasImage", "[Z", true)
  | 4 => ("DoorSchoolModel", "tape", "[B", true)
  | 5 => ("DoorSchoolModel", "taped", "I", false)
  | 6 => ("DoorSchoolModel", "five", "[I", true)
  | 7 => ("DoorSchoolModel", "size", "I", false)
  | 8 => ("DoorSchoolModel", "at", "I", false)
  | 9 => ("DoorSchoolModel", "from", "I", false)
  | 10 => ("DoorSchoolModel", "token", "I", false)
  | 11 => ("DoorSchoolModel", "value", "I", false)
  | 12 => ("DoorSchoolModel", "faultKind", "I", false)
  | 13 => ("DoorSchoolModel", "faultPlace", "I", false)
  | 14 => ("DoorSchoolModel", "fresh", "[I", true)
  | 15 => ("DoorSchoolModel", "ruleSigns", "[I", true)
  | 16 => ("DoorSchoolModel", "ruleThere", "[I", true)
  | 17 => ("DoorSchoolModel", "ruleDeeds", "[I", true)
  | 18 => ("DoorSchoolModel", "rulesMany", "I", false)
  | 19 => ("DoorSchoolModel", "learnKnock", "[I", true)
  | 20 => ("DoorSchoolModel", "learnOpen", "[I", true)
  | 21 => ("DoorSchoolModel", "learnMany", "I", false)
  | 22 => ("DoorSchoolModel", "errorsMany", "I", false)
  | 23 => ("DoorSchoolModel", "learntMany", "I", false)
  | 24 => ("DoorSchoolModel", "hungNow", "[I", true)
  | 25 => ("DoorSchoolModel", "hungBest", "[I", true)
  | 26 => ("DoorSchoolModel", "hungLeast", "I", false)
  | 27 => ("DoorSchoolModel", "begin", "[I", true)
  | 28 => ("DoorSchoolModel", "busy", "[I", true)
  | 29 => ("DoorSchoolModel", "fixed", "[I", true)
  | 30 => ("DoorSchoolModel", "order", "[I", true)
  | 31 => ("DoorSchoolModel", "slipped", "I", false)
  | 32 => ("DoorSchoolModel", "many", "[I", true)
  | 33 => ("DoorSchoolModel", "width", "[I", true)
  | 34 => ("DoorSchoolModel", "numbers", "[J", true)
  | _ => ("DoorSchoolModel", "moving", "[J", true)
def tyX11 : Nat → FieldType := fun k => match k with
  | 0 => .int
  | 1 => .array .int
  | 2 => .array .int
  | 3 => .array .boolean
  | 4 => .array .byte
  | 5 => .int
  | 6 => .array .int
  | 7 => .int
  | 8 => .int
  | 9 => .int
  | 10 => .int
  | 11 => .int
  | 12 => .int
  | 13 => .int
  | 14 => .array .int
  | 15 => .array .int
  | 16 => .array .int
  | 17 => .array .int
  | 18 => .int
  | 19 => .array .int
  | 20 => .array .int
  | 21 => .int
  | 22 => .int
  | 23 => .int
  | 24 => .array .int
  | 25 => .array .int
  | 26 => .int
  | 27 => .array .int
  | 28 => .array .int
  | 29 => .array .int
  | 30 => .array .int
  | 31 => .int
  | 32 => .array .int
  | 33 => .array .int
  | 34 => .array .long
  | _ => .array .long
theorem nmX11 : ∀ a, a < 36 → ∀ b, b < 36 → a ≠ b → (TX11 a).2.1 ≠ (TX11 b).2.1 := by decide +kernel
theorem tyX11_ok : ∀ k, k < 36 → parseFieldDescriptor (TX11 k).2.2.1 = some (tyX11 k) := by decide +kernel
abbrev cX11_init : ByteArray := prog_13_method_1_code
def yX11_init : MethodName := ⟨RX11, "<init>", "()V"⟩
abbrev cX11_in : ByteArray := prog_13_method_3_code
def yX11_in : MethodName := ⟨RX11, "in", "(JJJ)Z"⟩
abbrev cX11_bits : ByteArray := prog_13_method_4_code
def yX11_bits : MethodName := ⟨RX11, "bits", "(I)I"⟩
abbrev cX11_bit : ByteArray := prog_13_method_5_code
def yX11_bit : MethodName := ⟨RX11, "bit", "(II)I"⟩
abbrev cX11_image : ByteArray := prog_13_method_6_code
def yX11_image : MethodName := ⟨RX11, "image", "(I)I"⟩
abbrev cX11_back : ByteArray := prog_13_method_7_code
def yX11_back : MethodName := ⟨RX11, "back", "(I)I"⟩
abbrev cX11_isSchool : ByteArray := prog_13_method_8_code
def yX11_isSchool : MethodName := ⟨RX11, "isSchool", "()Z"⟩
abbrev cX11_knocks : ByteArray := prog_13_method_9_code
def yX11_knocks : MethodName := ⟨RX11, "knocks", "()I"⟩
abbrev cX11_allKnocks : ByteArray := prog_13_method_10_code
def yX11_allKnocks : MethodName := ⟨RX11, "allKnocks", "()I"⟩
abbrev cX11_isKnock : ByteArray := prog_13_method_11_code
def yX11_isKnock : MethodName := ⟨RX11, "isKnock", "(J)Z"⟩
abbrev cX11_isDoor : ByteArray := prog_13_method_12_code
def yX11_isDoor : MethodName := ⟨RX11, "isDoor", "(I)Z"⟩
abbrev cX11_isExam : ByteArray := prog_13_method_13_code
def yX11_isExam : MethodName := ⟨RX11, "isExam", "(I)Z"⟩
abbrev cX11_isHouse : ByteArray := prog_13_method_14_code
def yX11_isHouse : MethodName := ⟨RX11, "isHouse", "(I)Z"⟩
abbrev cX11_isWay : ByteArray := prog_13_method_15_code
def yX11_isWay : MethodName := ⟨RX11, "isWay", "(I)Z"⟩
abbrev cX11_areDeeds : ByteArray := prog_13_method_16_code
def yX11_areDeeds : MethodName := ⟨RX11, "areDeeds", "(I)Z"⟩
abbrev cX11_of : ByteArray := prog_13_method_17_code
def yX11_of : MethodName := ⟨RX11, "of", "(II)I"⟩
abbrev cX11_lessonAt : ByteArray := prog_13_method_18_code
def yX11_lessonAt : MethodName := ⟨RX11, "lessonAt", "(II)I"⟩
abbrev cX11_feed : ByteArray := prog_13_method_19_code
def yX11_feed : MethodName := ⟨RX11, "feed", "(IIIII)I"⟩
abbrev cX11_end : ByteArray := prog_13_method_20_code
def yX11_end : MethodName := ⟨RX11, "end", "(I)I"⟩
abbrev cX11_see : ByteArray := prog_13_method_21_code
def yX11_see : MethodName := ⟨RX11, "see", "(I)I"⟩
abbrev cX11_advance : ByteArray := prog_13_method_22_code
def yX11_advance : MethodName := ⟨RX11, "advance", "()V"⟩
abbrev cX11_good : ByteArray := prog_13_method_23_code
def yX11_good : MethodName := ⟨RX11, "good", "()Z"⟩
abbrev cX11_errs : ByteArray := prog_13_method_24_code
def yX11_errs : MethodName := ⟨RX11, "errs", "(I)V"⟩
abbrev cX11_is : ByteArray := prog_13_method_25_code
def yX11_is : MethodName := ⟨RX11, "is", "(Ljava/lang/String;)Z"⟩
abbrev cX11_takes : ByteArray := prog_13_method_26_code
def yX11_takes : MethodName := ⟨RX11, "takes", "(Ljava/lang/String;)Z"⟩
abbrev cX11_needs : ByteArray := prog_13_method_27_code
def yX11_needs : MethodName := ⟨RX11, "needs", "(Ljava/lang/String;)V"⟩
abbrev cX11_number : ByteArray := prog_13_method_28_code
def yX11_number : MethodName := ⟨RX11, "number", "(II)I"⟩
abbrev cX11_told : ByteArray := prog_13_method_29_code
def yX11_told : MethodName := ⟨RX11, "told", "(Ljava/lang/String;II)I"⟩
abbrev cX11_fault : ByteArray := prog_13_method_30_code
def yX11_fault : MethodName := ⟨RX11, "fault", "(I)I"⟩
abbrev cX11_freshKnock : ByteArray := prog_13_method_31_code
def yX11_freshKnock : MethodName := ⟨RX11, "freshKnock", "()I"⟩
abbrev cX11_deed : ByteArray := prog_13_method_32_code
def yX11_deed : MethodName := ⟨RX11, "deed", "()I"⟩
abbrev cX11_isNextIn : ByteArray := prog_13_method_33_code
def yX11_isNextIn : MethodName := ⟨RX11, "isNextIn", "(I)Z"⟩
abbrev cX11_readDoor : ByteArray := prog_13_method_34_code
def yX11_readDoor : MethodName := ⟨RX11, "readDoor", "()V"⟩
abbrev cX11_readLesson : ByteArray := prog_13_method_35_code
def yX11_readLesson : MethodName := ⟨RX11, "readLesson", "()V"⟩
abbrev cX11_isFreshCopied : ByteArray := prog_13_method_36_code
def yX11_isFreshCopied : MethodName := ⟨RX11, "isFreshCopied", "(I)Z"⟩
abbrev cX11_doesFreshCopy : ByteArray := prog_13_method_37_code
def yX11_doesFreshCopy : MethodName := ⟨RX11, "doesFreshCopy", "(I)Z"⟩
abbrev cX11_readTwin : ByteArray := prog_13_method_38_code
def yX11_readTwin : MethodName := ⟨RX11, "readTwin", "()V"⟩
abbrev cX11_readRule : ByteArray := prog_13_method_39_code
def yX11_readRule : MethodName := ⟨RX11, "readRule", "(I)V"⟩
abbrev cX11_readNext : ByteArray := prog_13_method_40_code
def yX11_readNext : MethodName := ⟨RX11, "readNext", "()V"⟩
abbrev cX11_readLine : ByteArray := prog_13_method_41_code
def yX11_readLine : MethodName := ⟨RX11, "readLine", "()V"⟩
abbrev cX11_school : ByteArray := prog_13_method_42_code
def yX11_school : MethodName := ⟨RX11, "school", "()I"⟩
abbrev cX11_deedsOf : ByteArray := prog_13_method_43_code
def yX11_deedsOf : MethodName := ⟨RX11, "deedsOf", "(II)I"⟩
abbrev cX11_layRules : ByteArray := prog_13_method_44_code
def yX11_layRules : MethodName := ⟨RX11, "layRules", "()V"⟩
abbrev cX11_add : ByteArray := prog_13_method_45_code
def yX11_add : MethodName := ⟨RX11, "add", "(II)V"⟩
abbrev cX11_layLessons : ByteArray := prog_13_method_46_code
def yX11_layLessons : MethodName := ⟨RX11, "layLessons", "(I)V"⟩
abbrev cX11_laySet : ByteArray := prog_13_method_47_code
def yX11_laySet : MethodName := ⟨RX11, "laySet", "(II)V"⟩
abbrev cX11_isAsTold : ByteArray := prog_13_method_48_code
def yX11_isAsTold : MethodName := ⟨RX11, "isAsTold", "(I)Z"⟩
abbrev cX11_firstRule : ByteArray := prog_13_method_49_code
def yX11_firstRule : MethodName := ⟨RX11, "firstRule", "()I"⟩
abbrev cX11_latestOf : ByteArray := prog_13_method_50_code
def yX11_latestOf : MethodName := ⟨RX11, "latestOf", "(I)I"⟩
abbrev cX11_nearestTo : ByteArray := prog_13_method_51_code
def yX11_nearestTo : MethodName := ⟨RX11, "nearestTo", "(I)I"⟩
abbrev cX11_byLesson : ByteArray := prog_13_method_52_code
def yX11_byLesson : MethodName := ⟨RX11, "byLesson", "(II)I"⟩
abbrev cX11_learns : ByteArray := prog_13_method_53_code
def yX11_learns : MethodName := ⟨RX11, "learns", "(I)I"⟩
abbrev cX11_real : ByteArray := prog_13_method_54_code
def yX11_real : MethodName := ⟨RX11, "real", "(I)I"⟩
abbrev cX11_deedsOfDoor : ByteArray := prog_13_method_55_code
def yX11_deedsOfDoor : MethodName := ⟨RX11, "deedsOfDoor", "(I)I"⟩
abbrev cX11_ownDeeds : ByteArray := prog_13_method_56_code
def yX11_ownDeeds : MethodName := ⟨RX11, "ownDeeds", "()I"⟩
abbrev cX11_door : ByteArray := prog_13_method_57_code
def yX11_door : MethodName := ⟨RX11, "door", "(II)I"⟩
abbrev cX11_lesson : ByteArray := prog_13_method_58_code
def yX11_lesson : MethodName := ⟨RX11, "lesson", "(III)I"⟩
abbrev cX11_exam : ByteArray := prog_13_method_59_code
def yX11_exam : MethodName := ⟨RX11, "exam", "(II)I"⟩
abbrev cX11_house : ByteArray := prog_13_method_60_code
def yX11_house : MethodName := ⟨RX11, "house", "(II)I"⟩
abbrev cX11_opens : ByteArray := prog_13_method_61_code
def yX11_opens : MethodName := ⟨RX11, "opens", "(II)I"⟩
abbrev cX11_deeds : ByteArray := prog_13_method_62_code
def yX11_deeds : MethodName := ⟨RX11, "deeds", "(I)I"⟩
abbrev cX11_often : ByteArray := prog_13_method_63_code
def yX11_often : MethodName := ⟨RX11, "often", "(I)I"⟩
abbrev cX11_why : ByteArray := prog_13_method_64_code
def yX11_why : MethodName := ⟨RX11, "why", "(II)I"⟩
abbrev cX11_rule : ByteArray := prog_13_method_65_code
def yX11_rule : MethodName := ⟨RX11, "rule", "(II)I"⟩
abbrev cX11_rules : ByteArray := prog_13_method_66_code
def yX11_rules : MethodName := ⟨RX11, "rules", "(I)I"⟩
abbrev cX11_isRule : ByteArray := prog_13_method_67_code
def yX11_isRule : MethodName := ⟨RX11, "isRule", "(II)Z"⟩
abbrev cX11_does : ByteArray := prog_13_method_68_code
def yX11_does : MethodName := ⟨RX11, "does", "(II)I"⟩
abbrev cX11_told_ : ByteArray := prog_13_method_69_code
def yX11_told_ : MethodName := ⟨RX11, "told", "(II)I"⟩
abbrev cX11_isRight : ByteArray := prog_13_method_70_code
def yX11_isRight : MethodName := ⟨RX11, "isRight", "(II)Z"⟩
abbrev cX11_marksBy : ByteArray := prog_13_method_71_code
def yX11_marksBy : MethodName := ⟨RX11, "marksBy", "(I)I"⟩
abbrev cX11_marks : ByteArray := prog_13_method_72_code
def yX11_marks : MethodName := ⟨RX11, "marks", "(I)I"⟩
abbrev cX11_wrong : ByteArray := prog_13_method_73_code
def yX11_wrong : MethodName := ⟨RX11, "wrong", "(I)I"⟩
abbrev cX11_best : ByteArray := prog_13_method_74_code
def yX11_best : MethodName := ⟨RX11, "best", "()I"⟩
abbrev cX11_hard : ByteArray := prog_13_method_75_code
def yX11_hard : MethodName := ⟨RX11, "hard", "()I"⟩
abbrev cX11_teach : ByteArray := prog_13_method_76_code
def yX11_teach : MethodName := ⟨RX11, "teach", "(III)I"⟩
abbrev cX11_unteach : ByteArray := prog_13_method_77_code
def yX11_unteach : MethodName := ⟨RX11, "unteach", "()I"⟩
abbrev cX11_deedsWith : ByteArray := prog_13_method_78_code
def yX11_deedsWith : MethodName := ⟨RX11, "deedsWith", "(III)I"⟩
abbrev cX11_gains : ByteArray := prog_13_method_79_code
def yX11_gains : MethodName := ⟨RX11, "gains", "(III)I"⟩
abbrev cX11_help : ByteArray := prog_13_method_80_code
def yX11_help : MethodName := ⟨RX11, "help", "(I)I"⟩
abbrev cX11_deedsWithout : ByteArray := prog_13_method_81_code
def yX11_deedsWithout : MethodName := ⟨RX11, "deedsWithout", "(II)I"⟩
abbrev cX11_idle : ByteArray := prog_13_method_82_code
def yX11_idle : MethodName := ⟨RX11, "idle", "(I)I"⟩
abbrev cX11_learnsBy : ByteArray := prog_13_method_83_code
def yX11_learnsBy : MethodName := ⟨RX11, "learnsBy", "(III)Z"⟩
abbrev cX11_fewestSet : ByteArray := prog_13_method_84_code
def yX11_fewestSet : MethodName := ⟨RX11, "fewestSet", "(II)I"⟩
abbrev cX11_fewest : ByteArray := prog_13_method_85_code
def yX11_fewest : MethodName := ⟨RX11, "fewest", "(II)I"⟩
abbrev cX11_course : ByteArray := prog_13_method_86_code
def yX11_course : MethodName := ⟨RX11, "course", "(II)I"⟩
abbrev cX11_sets : ByteArray := prog_13_method_87_code
def yX11_sets : MethodName := ⟨RX11, "sets", "(III)I"⟩
abbrev cX11_easiest : ByteArray := prog_13_method_88_code
def yX11_easiest : MethodName := ⟨RX11, "easiest", "(I)I"⟩
abbrev cX11_fooled : ByteArray := prog_13_method_89_code
def yX11_fooled : MethodName := ⟨RX11, "fooled", "(II)I"⟩
abbrev cX11_trickOf : ByteArray := prog_13_method_90_code
def yX11_trickOf : MethodName := ⟨RX11, "trickOf", "(II)I"⟩
abbrev cX11_tries : ByteArray := prog_13_method_91_code
def yX11_tries : MethodName := ⟨RX11, "tries", "(II)I"⟩
abbrev cX11_trick : ByteArray := prog_13_method_92_code
def yX11_trick : MethodName := ⟨RX11, "trick", "(II)I"⟩
abbrev cX11_fooledBy : ByteArray := prog_13_method_93_code
def yX11_fooledBy : MethodName := ⟨RX11, "fooledBy", "(I)I"⟩
abbrev cX11_hardened : ByteArray := prog_13_method_94_code
def yX11_hardened : MethodName := ⟨RX11, "hardened", "(II)I"⟩
abbrev cX11_harden : ByteArray := prog_13_method_95_code
def yX11_harden : MethodName := ⟨RX11, "harden", "(I)I"⟩
abbrev cX11_left : ByteArray := prog_13_method_96_code
def yX11_left : MethodName := ⟨RX11, "left", "(I)I"⟩
abbrev cX11_deedsByWay : ByteArray := prog_13_method_97_code
def yX11_deedsByWay : MethodName := ⟨RX11, "deedsByWay", "(II)I"⟩
abbrev cX11_isStrange : ByteArray := prog_13_method_98_code
def yX11_isStrange : MethodName := ⟨RX11, "isStrange", "(I)Z"⟩
abbrev cX11_game : ByteArray := prog_13_method_99_code
def yX11_game : MethodName := ⟨RX11, "game", "(III)I"⟩
abbrev cX11_isRest : ByteArray := prog_13_method_100_code
def yX11_isRest : MethodName := ⟨RX11, "isRest", "(III)Z"⟩
abbrev cX11_rests : ByteArray := prog_13_method_101_code
def yX11_rests : MethodName := ⟨RX11, "rests", "(I)I"⟩
abbrev cX11_rest : ByteArray := prog_13_method_102_code
def yX11_rest : MethodName := ⟨RX11, "rest", "(I)I"⟩
abbrev cX11_way : ByteArray := prog_13_method_103_code
def yX11_way : MethodName := ⟨RX11, "way", "(II)I"⟩
abbrev cX11_teachAll : ByteArray := prog_13_method_104_code
def yX11_teachAll : MethodName := ⟨RX11, "teachAll", "(II)V"⟩
abbrev cX11_errors : ByteArray := prog_13_method_105_code
def yX11_errors : MethodName := ⟨RX11, "errors", "(II)I"⟩
abbrev cX11_learnt : ByteArray := prog_13_method_106_code
def yX11_learnt : MethodName := ⟨RX11, "learnt", "(II)I"⟩
abbrev cX11_next : ByteArray := prog_13_method_107_code
def yX11_next : MethodName := ⟨RX11, "next", "(II)I"⟩
abbrev cX11_numberAt : ByteArray := prog_13_method_108_code
def yX11_numberAt : MethodName := ⟨RX11, "numberAt", "(II)J"⟩
abbrev cX11_asksSeen : ByteArray := prog_13_method_109_code
def yX11_asksSeen : MethodName := ⟨RX11, "asksSeen", "(IZ)I"⟩
abbrev cX11_doesSo : ByteArray := prog_13_method_110_code
def yX11_doesSo : MethodName := ⟨RX11, "doesSo", "(II)Z"⟩
abbrev cX11_same : ByteArray := prog_13_method_111_code
def yX11_same : MethodName := ⟨RX11, "same", "(I)I"⟩
abbrev cX11_alike : ByteArray := prog_13_method_112_code
def yX11_alike : MethodName := ⟨RX11, "alike", "(I)I"⟩
abbrev cX11_isCopied : ByteArray := prog_13_method_113_code
def yX11_isCopied : MethodName := ⟨RX11, "isCopied", "(I)Z"⟩
abbrev cX11_copy : ByteArray := prog_13_method_114_code
def yX11_copy : MethodName := ⟨RX11, "copy", "(II)I"⟩
abbrev cX11_amissOf : ByteArray := prog_13_method_115_code
def yX11_amissOf : MethodName := ⟨RX11, "amissOf", "(II)I"⟩
abbrev cX11_hangAll : ByteArray := prog_13_method_116_code
def yX11_hangAll : MethodName := ⟨RX11, "hangAll", "()V"⟩
abbrev cX11_hanging : ByteArray := prog_13_method_117_code
def yX11_hanging : MethodName := ⟨RX11, "hanging", "()I"⟩
abbrev cX11_hung : ByteArray := prog_13_method_118_code
def yX11_hung : MethodName := ⟨RX11, "hung", "(I)I"⟩
abbrev cX11_amiss : ByteArray := prog_13_method_119_code
def yX11_amiss : MethodName := ⟨RX11, "amiss", "(II)I"⟩
abbrev cX11_fitsOf : ByteArray := prog_13_method_120_code
def yX11_fitsOf : MethodName := ⟨RX11, "fitsOf", "(I)I"⟩
abbrev cX11_fits : ByteArray := prog_13_method_121_code
def yX11_fits : MethodName := ⟨RX11, "fits", "(I)I"⟩
abbrev cX11_sure : ByteArray := prog_13_method_122_code
def yX11_sure : MethodName := ⟨RX11, "sure", "(II)I"⟩
abbrev cX11_worstOf : ByteArray := prog_13_method_123_code
def yX11_worstOf : MethodName := ⟨RX11, "worstOf", "(II)I"⟩
abbrev cX11_askOf : ByteArray := prog_13_method_124_code
def yX11_askOf : MethodName := ⟨RX11, "askOf", "(I)I"⟩
abbrev cX11_ask : ByteArray := prog_13_method_125_code
def yX11_ask : MethodName := ⟨RX11, "ask", "(I)I"⟩
abbrev cX11_leaves : ByteArray := prog_13_method_126_code
def yX11_leaves : MethodName := ⟨RX11, "leaves", "(I)I"⟩
abbrev cX11_takesOf : ByteArray := prog_13_method_127_code
def yX11_takesOf : MethodName := ⟨RX11, "takesOf", "(I)I"⟩
abbrev cX11_overOf : ByteArray := prog_13_method_128_code
def yX11_overOf : MethodName := ⟨RX11, "overOf", "(I)I"⟩
abbrev cX11_isFree : ByteArray := prog_13_method_129_code
def yX11_isFree : MethodName := ⟨RX11, "isFree", "(III)Z"⟩
abbrev cX11_put : ByteArray := prog_13_method_130_code
def yX11_put : MethodName := ⟨RX11, "put", "(II)V"⟩
abbrev cX11_afterAll : ByteArray := prog_13_method_131_code
def yX11_afterAll : MethodName := ⟨RX11, "afterAll", "(II)I"⟩
abbrev cX11_overBy : ByteArray := prog_13_method_132_code
def yX11_overBy : MethodName := ⟨RX11, "overBy", "(III)I"⟩
abbrev cX11_leastHours : ByteArray := prog_13_method_133_code
def yX11_leastHours : MethodName := ⟨RX11, "leastHours", "(II)I"⟩
abbrev cX11_hours : ByteArray := prog_13_method_134_code
def yX11_hours : MethodName := ⟨RX11, "hours", "()I"⟩
abbrev cX11_mayBegin : ByteArray := prog_13_method_135_code
def yX11_mayBegin : MethodName := ⟨RX11, "mayBegin", "(II)Z"⟩
abbrev cX11_begins : ByteArray := prog_13_method_136_code
def yX11_begins : MethodName := ⟨RX11, "begins", "(I)I"⟩
abbrev cX11_teacher : ByteArray := prog_13_method_137_code
def yX11_teacher : MethodName := ⟨RX11, "teacher", "()I"⟩
abbrev cX11_train : ByteArray := prog_13_method_138_code
def yX11_train : MethodName := ⟨RX11, "train", "(III)I"⟩
abbrev cX11_owns : ByteArray := prog_13_method_139_code
def yX11_owns : MethodName := ⟨RX11, "owns", "(II)I"⟩
abbrev cX11_stormed : ByteArray := prog_13_method_140_code
def yX11_stormed : MethodName := ⟨RX11, "stormed", "(JI)I"⟩
abbrev cX11_isSeed : ByteArray := prog_13_method_141_code
def yX11_isSeed : MethodName := ⟨RX11, "isSeed", "(I)Z"⟩
abbrev cX11_storm : ByteArray := prog_13_method_142_code
def yX11_storm : MethodName := ⟨RX11, "storm", "(III)I"⟩
abbrev cX11_years : ByteArray := prog_13_method_143_code
def yX11_years : MethodName := ⟨RX11, "years", "(IIII)I"⟩
abbrev cX11_count : ByteArray := prog_13_method_144_code
def yX11_count : MethodName := ⟨RX11, "count", "(I)I"⟩
abbrev cX11_isSlot : ByteArray := prog_13_method_145_code
def yX11_isSlot : MethodName := ⟨RX11, "isSlot", "(I)Z"⟩
abbrev cX11_cut : ByteArray := prog_13_method_146_code
def yX11_cut : MethodName := ⟨RX11, "cut", "(JI)J"⟩
abbrev cX11_row : ByteArray := prog_13_method_147_code
def yX11_row : MethodName := ⟨RX11, "row", "(III)I"⟩
abbrev cX11_write : ByteArray := prog_13_method_148_code
def yX11_write : MethodName := ⟨RX11, "write", "(IIJ)I"⟩
abbrev cX11_paste : ByteArray := prog_13_method_149_code
def yX11_paste : MethodName := ⟨RX11, "paste", "(IIIII)I"⟩
def RJ6 : String := "java/lang/Integer"
abbrev cJ6_bitCount_0f7a4 : ByteArray := prog_14_method_49_code
def yJ6_bitCount_0f7a4 : MethodName := ⟨RJ6, "bitCount", "(I)I"⟩
def RJ9 : String := "java/lang/Math"
abbrev cJ9_max_7cf53 : ByteArray := prog_15_method_65_code
def yJ9_max_7cf53 : MethodName := ⟨RJ9, "max", "(II)I"⟩
abbrev cJ9_min_7cf53 : ByteArray := prog_15_method_69_code
def yJ9_min_7cf53 : MethodName := ⟨RJ9, "min", "(II)I"⟩
def RJ0 : String := "java/lang/String"
abbrev cJ0_length_8abf5 : ByteArray := prog_16_method_54_code
def yJ0_length_8abf5 : MethodName := ⟨RJ0, "length", "()I"⟩
abbrev cJ0_charAt_5068e : ByteArray := prog_16_method_56_code
def yJ0_charAt_5068e : MethodName := ⟨RJ0, "charAt", "(I)C"⟩
abbrev cJ0_coder_7d493 : ByteArray := prog_16_method_152_code
def yJ0_coder_7d493 : MethodName := ⟨RJ0, "coder", "()B"⟩
abbrev cJ0_isLatin1_aae02 : ByteArray := prog_16_method_154_code
def yJ0_isLatin1_aae02 : MethodName := ⟨RJ0, "isLatin1", "()Z"⟩
abbrev cJ0_checkIndex_df160 : ByteArray := prog_16_method_155_code
def yJ0_checkIndex_df160 : MethodName := ⟨RJ0, "checkIndex", "(II)V"⟩
def RJ1 : String := "java/lang/StringLatin1"
abbrev cJ1_charAt_3b067 : ByteArray := prog_17_method_2_code
def yJ1_charAt_3b067 : MethodName := ⟨RJ1, "charAt", "([BI)C"⟩
def RJ7 : String := "java/util/Arrays"
abbrev cJ7_fill_d0a16 : ByteArray := prog_20_method_101_code
def yJ7_fill_d0a16 : MethodName := ⟨RJ7, "fill", "([JJ)V"⟩
abbrev cJ7_fill_53178 : ByteArray := prog_20_method_103_code
def yJ7_fill_53178 : MethodName := ⟨RJ7, "fill", "([II)V"⟩
def RJ3 : String := "jdk/internal/util/Preconditions"
abbrev cJ3_checkIndex_8e157 : ByteArray := prog_21_method_11_code
def yJ3_checkIndex_8e157 : MethodName := ⟨RJ3, "checkIndex", "(IILjava/util/function/BiFunction;)I"⟩
def RL : String := "DoorSchoolLaw"
abbrev cL_law : ByteArray := code
def yL_law : MethodName := ⟨RL, "law", "([I)Z"⟩
abbrev vwCl : List vw_C := [(RX0, TX0, 4), (RX1, TX1, 6), (RX2, TX2, 2), (RX3, TX3, 3), (RX4, TX4, 16), (RX5, TX5, 7), (RX6, TX6, 5), (RX7, TX7, 4), (RX8, TX8, 2), (RX9, TX9, 5), (RX10, TX10, 11), (RX11, TX11, 36)]
def HOST : String := "DoorSchool"
/-- the types of the rows -/
def TYS (tyc : Nat → ClassId) : List (ClassId × FieldType) := [(tyc 0, .int), (tyc 1, .long), (tyc 2, .byte), (tyc 3, .boolean), (tyc 4, .object RX0), (tyc 5, .object RX4), (tyc 6, .object RX7)]
theorem TYS_get (tyc : Nat → ClassId) {i : Nat} (h : i < 7) : ∃ ty, (TYS tyc)[i]? = some (tyc i, ty) := by
  match i, h with
  | 0, _ => exact ⟨_, rfl⟩
  | 1, _ => exact ⟨_, rfl⟩
  | 2, _ => exact ⟨_, rfl⟩
  | 3, _ => exact ⟨_, rfl⟩
  | 4, _ => exact ⟨_, rfl⟩
  | 5, _ => exact ⟨_, rfl⟩
  | 6, _ => exact ⟨_, rfl⟩
  | n + 7, h => omega
def TYF (ci : Nat) : Nat → FieldType := match ci with
  | 0 => tyX0
  | 1 => tyX1
  | 2 => tyX2
  | 3 => tyX3
  | 4 => tyX4
  | 5 => tyX5
  | 6 => tyX6
  | 7 => tyX7
  | 8 => tyX8
  | 9 => tyX9
  | 10 => tyX10
  | _ => tyX11
/-- a new object -/
def DFL (ci : Nat) : List Value := match ci with
  | 0 => [.null, .int 0, .int 0, .int 0]
  | 1 => [.null, .null, .null, .int 0, .int 0, .int 0]
  | 2 => [.null, .null]
  | 3 => [.null, .null, .int 0]
  | 4 => [.int 0, .int 0, .int 0, .int 0, .null, .null, .int 0, .int 0, .int 0, .null, .null, .int 0, .null, .null, .int 0, .null]
  | 5 => [.null, .int 0, .int 0, .int 0, .int 0, .int 0, .int 0]
  | 6 => [.int 0, .int 0, .null, .null, .null]
  | 7 => [.null, .int 0, .int 0, .int 0]
  | 8 => [.null, .int 0]
  | 9 => [.null, .null, .null, .int 0, .int 0]
  | 10 => [.null, .null, .null, .null, .null, .null, .null, .null, .null, .null, .null]
  | 11 => [.int 0, .null, .null, .null, .null, .int 0, .null, .int 0, .int 0, .int 0, .int 0, .int 0, .int 0, .int 0, .null, .null, .null, .null, .int 0, .null, .null, .int 0, .int 0, .int 0, .null, .null, .int 0, .null, .null, .null, .null, .int 0, .null, .null, .null, .null]
  | _ => []
/-! the literals -/
def TXT : List String := ["ahead", "course", "door", "exam", "heart", "house", "lesson", "nearest", "open", "owner", "school", "shortest", "shut", "signs", "slips", "takes", "teachers", "twin"]
abbrev NSTR : Nat := 18
def LENS : List Nat := [5, 6, 4, 4, 5, 5, 6, 7, 4, 5, 6, 8, 4, 5, 5, 5, 8, 4]
def BYT : List (List Int32) := [[97, 104, 101, 97, 100], [99, 111, 117, 114, 115, 101], [100, 111, 111, 114], [101, 120, 97, 109], [104, 101, 97, 114, 116], [104, 111, 117, 115, 101], [108, 101, 115, 115, 111, 110], [110, 101, 97, 114, 101, 115, 116], [111, 112, 101, 110], [111, 119, 110, 101, 114], [115, 99, 104, 111, 111, 108], [115, 104, 111, 114, 116, 101, 115, 116], [115, 104, 117, 116], [115, 105, 103, 110, 115], [115, 108, 105, 112, 115], [116, 97, 107, 101, 115], [116, 101, 97, 99, 104, 101, 114, 115], [116, 119, 105, 110]]
/-- where they stand: class, pool entry, literal -/
def STRTAB : List (String × Nat × Nat) := [("DoorSchool$Reader", 95, 10), ("DoorSchool$Reader", 97, 13), ("DoorSchool$Reader", 105, 16), ("DoorSchool$Reader", 40, 2), ("DoorSchool$Reader", 193, 4), ("DoorSchool$Reader", 195, 11), ("DoorSchool$Reader", 197, 7), ("DoorSchool$Reader", 116, 14), ("DoorSchool$Reader", 49, 6), ("DoorSchool$Reader", 150, 8), ("DoorSchool$Reader", 152, 12), ("DoorSchool$Reader", 54, 3), ("DoorSchool$Reader", 59, 17), ("DoorSchool$Reader", 64, 9), ("DoorSchool$Reader", 69, 5), ("DoorSchool$Reader", 74, 1), ("DoorSchool$Reader", 187, 15), ("DoorSchool$Reader", 79, 0), ("DoorSchoolModel", 241, 10), ("DoorSchoolModel", 243, 13), ("DoorSchoolModel", 245, 16), ("DoorSchoolModel", 212, 2), ("DoorSchoolModel", 214, 6), ("DoorSchoolModel", 216, 3), ("DoorSchoolModel", 218, 17), ("DoorSchoolModel", 220, 9), ("DoorSchoolModel", 222, 5), ("DoorSchoolModel", 224, 1), ("DoorSchoolModel", 226, 0), ("DoorSchoolModel", 181, 4), ("DoorSchoolModel", 183, 11), ("DoorSchoolModel", 185, 7), ("DoorSchoolModel", 187, 14), ("DoorSchoolModel", 177, 8), ("DoorSchoolModel", 179, 12), ("DoorSchoolModel", 240, 15)]
end
/-! 03.core -/
section
/-! THE ABSTRACT MACHINE: cells by numbers in the order in which they are made; the true address is base + number. A cell: kind (0 object, 1 ints, 2 longs, 3 references), class or type, contents. Cells outside are the values retAddr: 0 the script's row, 2i+1 the literal i, 2i+2 its row of bytes, 1000 the formatter. -/
abbrev AC : Type := Nat × Nat × List Value
abbrev AH : Type := List AC
abbrev ALv : Type := List (Nat × Value)
/-- place, then instruction, length, target of its jump -/
abbrev AI : Type := Nat × Instr × Nat × Nat
/-- the code in groups: each with the place behind its end -/
abbrev CTREE : Type := List (Nat × List (Nat × List AI))
/-- pool entry, then class, slot, code (0 own, 1 nest mate, 2 own final in init, 3 own final, 4 nest mate's final), place of its word -/
abbrev AF : Type := Nat × Nat × Nat × Nat × Nat × Nat
/-- pool entry, then kind (0 virtual, 1 virtual of a nest mate, 2 static, 3 static of a nest mate, 4 init, 5 init of a nest mate, 8 arraycopy, 9 Object's init), callee, place of its word -/
abbrev AK : Type := Nat × Nat × Nat × Nat × Nat
abbrev AKi : Type := Nat × Int32 × Nat × Nat
abbrev AKl : Type := Nat × Int64 × Nat × Nat
/-- pool entry, then class, place of its word -/
abbrev AKc : Type := Nat × Nat × Nat × Nat
/-- pool entry, then what it is (0 a literal, 1 String.value, 2 String.coder, 3 COMPACT_STRINGS, 4 SIOOBE_FORMATTER), the literal, place of its word -/
abbrev AKs : Type := Nat × Nat × Nat × Nat × Nat
abbrev MR : Type := (MethodName × ByteArray × Nat × Nat × Option FieldType) × CTREE × (List AF × List AK × List AKi × List AKl × List AKc × List AKs) × (Nat × (Nat × Nat) × (Nat × Nat) × (Nat × Nat) × (Nat × Nat))
def my (F : MR) : MethodName := F.1.1
def mcc (F : MR) : ByteArray := F.1.2.1
def mml (F : MR) : Nat := F.1.2.2.1
def mnp (F : MR) : Nat := F.1.2.2.2.1
def mret (F : MR) : Option FieldType := F.1.2.2.2.2
def flt2 : List (Nat × List AI) → List AI
  | [] => []
  | q :: r => q.2 ++ flt2 r
def flt3 : CTREE → List AI
  | [] => []
  | q :: r => flt2 q.2 ++ flt3 r
def mtr (F : MR) : CTREE := F.2.1
def mcode (F : MR) : List AI := flt3 (mtr F)
def mfl (F : MR) : List AF := F.2.2.1.1
def mcl (F : MR) : List AK := F.2.2.1.2.1
def mki (F : MR) : List AKi := F.2.2.1.2.2.1
def mkl (F : MR) : List AKl := F.2.2.1.2.2.2.1
def mkc (F : MR) : List AKc := F.2.2.1.2.2.2.2.1
def mks (F : MR) : List AKs := F.2.2.1.2.2.2.2.2
def mci (F : MR) : Nat := F.2.2.2.1
def fnd {α : Type} (l : List (Nat × α)) (k : Nat) : Option α := match l with
  | [] => none
  | q :: t => if q.1 == k then some q.2 else fnd t k
theorem fnd_mem {α : Type} {l : List (Nat × α)} {k : Nat} {a : α} (h : fnd l k = some a) : (k, a) ∈ l := by
  induction l with
  | nil => cases h
  | cons q t ih =>
    unfold fnd at h
    split at h
    · rename_i hq
      cases h
      have e : q.1 = k := by simpa using hq
      subst e
      exact List.mem_cons_self
    · exact List.mem_cons_of_mem _ (ih h)
def fbr {α : Type} (l : List (Nat × α)) (k : Nat) : Option α := match l with
  | [] => none
  | q :: t => match Nat.ble q.1 k with
    | true => fbr t k
    | false => some q.2
def fnl {α : Type} (l : List (Nat × α)) (k : Nat) : Option α := match l with
  | [] => none
  | q :: t => match Nat.beq q.1 k with
    | true => some q.2
    | false => fnl t k
def fc (F : MR) (pc : Nat) : Option (Instr × Nat × Nat) := match fbr (mtr F) pc with
  | none => none
  | some t => match fbr t pc with
    | none => none
    | some l => fnl l pc
theorem fbr_mem {α : Type} {l : List (Nat × α)} {k : Nat} {a : α} (h : fbr l k = some a) : ∃ n, (n, a) ∈ l := by
  induction l with
  | nil => cases h
  | cons q t ih =>
    have h : (match Nat.ble q.1 k with
      | true => fbr t k
      | false => some q.2) = some a := h
    cases e : Nat.ble q.1 k with
    | true =>
      rw [e] at h
      obtain ⟨n, hn⟩ := ih h
      exact ⟨n, List.mem_cons_of_mem _ hn⟩
    | false =>
      rw [e] at h
      have h : some q.2 = some a := h
      injection h with h
      subst h
      exact ⟨q.1, List.mem_cons_self⟩
theorem fnl_mem {α : Type} {l : List (Nat × α)} {k : Nat} {a : α} (h : fnl l k = some a) : (k, a) ∈ l := by
  induction l with
  | nil => cases h
  | cons q t ih =>
    have h : (match Nat.beq q.1 k with
      | true => some q.2
      | false => fnl t k) = some a := h
    cases e : Nat.beq q.1 k with
    | true =>
      rw [e] at h
      have h : some q.2 = some a := h
      injection h with h
      have e : q.1 = k := Nat.eq_of_beq_eq_true e
      subst h e
      exact List.mem_cons_self
    | false =>
      rw [e] at h
      exact List.mem_cons_of_mem _ (ih h)
theorem flt2_mem {t : List (Nat × List AI)} {l : List AI} {n : Nat} {q : AI} (h : (n, l) ∈ t) (hq : q ∈ l) : q ∈ flt2 t := by
  induction t with
  | nil => cases h
  | cons a r ih =>
    show q ∈ a.2 ++ flt2 r
    rcases List.mem_cons.mp h with e | e
    · subst e
      exact List.mem_append.mpr (Or.inl hq)
    · exact List.mem_append.mpr (Or.inr (ih e))
theorem flt3_mem {t : CTREE} {l : List (Nat × List AI)} {n : Nat} {q : AI} (h : (n, l) ∈ t) (hq : q ∈ flt2 l) : q ∈ flt3 t := by
  induction t with
  | nil => cases h
  | cons a r ih =>
    show q ∈ flt2 a.2 ++ flt3 r
    rcases List.mem_cons.mp h with e | e
    · subst e
      exact List.mem_append.mpr (Or.inl hq)
    · exact List.mem_append.mpr (Or.inr (ih e))
theorem fc_mem {F : MR} {pc : Nat} {a : Instr × Nat × Nat} (h : fc F pc = some a) : (pc, a) ∈ mcode F := by
  have h : (match fbr (mtr F) pc with
    | none => none
    | some t => match fbr t pc with
      | none => none
      | some l => fnl l pc) = some a := h
  cases e1 : fbr (mtr F) pc with
  | none => rw [e1] at h; cases h
  | some t =>
    rw [e1] at h
    have h : (match fbr t pc with
      | none => none
      | some l => fnl l pc) = some a := h
    cases e2 : fbr t pc with
    | none => rw [e2] at h; cases h
    | some l =>
      rw [e2] at h
      have h : fnl l pc = some a := h
      obtain ⟨n1, m1⟩ := fbr_mem e1
      obtain ⟨n2, m2⟩ := fbr_mem e2
      exact flt3_mem m1 (flt2_mem m2 (fnl_mem h))
theorem all_flt2 {P : AI → Prop} {t : List (Nat × List AI)} (h : ∀ r ∈ t, ∀ q ∈ r.2, P q) : ∀ q ∈ flt2 t, P q := by
  induction t with
  | nil => intro q hq; cases hq
  | cons a r ih =>
    intro q hq
    have hq : q ∈ a.2 ++ flt2 r := hq
    rcases List.mem_append.mp hq with e | e
    · exact h a List.mem_cons_self q e
    · exact ih (fun s hs => h s (List.mem_cons_of_mem _ hs)) q e
theorem all_flt3 {P : AI → Prop} {t : CTREE} (h : ∀ s ∈ t, ∀ r ∈ s.2, ∀ q ∈ r.2, P q) : ∀ q ∈ flt3 t, P q := by
  induction t with
  | nil => intro q hq; cases hq
  | cons a r ih =>
    intro q hq
    have hq : q ∈ flt2 a.2 ++ flt3 r := hq
    rcases List.mem_append.mp hq with e | e
    · exact all_flt2 (h a List.mem_cons_self) q e
    · exact ih (fun s hs => h s (List.mem_cons_of_mem _ hs)) q e
def ilen : Instr → Nat
  | .bipush _ | .ldc _ | .iload _ | .lload _ | .aload _ | .istore _ | .lstore _ | .astore _ | .newarray _ => 2
  | .sipush _ | .getfield _ | .putfield _ | .goto _ | .ifCond _ _ | .if_icmp _ _ | .iinc _ _ | .invokevirtual _ | .invokestatic _ | .invokespecial _ | .new _ | .anewarray _ | .ldc_w _ | .ldc2_w _ | .getstatic _ => 3
  | .tableswitch _ _ _ _ | .lookupswitch _ _ => 0
  | _ => 1
def ioff : Instr → Option Int
  | .goto o | .ifCond _ o | .if_icmp _ o => some o
  | _ => none
/-- 0 reads alone, 1 writes, 2 makes, 3 calls, 4 returns -/
def ikind : Instr → Nat
  | .putfield _ | .iastore | .bastore | .lastore | .aastore => 1
  | .new _ | .newarray _ | .anewarray _ => 2
  | .invokevirtual _ | .invokestatic _ | .invokespecial _ => 3
  | .ireturn | .lreturn | .areturn | .return_ => 4
  | _ => 0
/-! values, cells and worlds as the machine has them -/
/-- a static that is a reference or null -/
def fV (b : Nat → Nat) : Value := if b 1001 = 0 then .ref (b 1000) else .null
def gV (b : Nat → Nat) (base : Nat) : Value → Value
  | .ref i => .ref (base + i)
  | .retAddr k => .ref (b k)
  | .float _ => fV b
  | v => v
def asI : Value → Int32
  | .int x => x
  | _ => 0
def asL : Value → Int64
  | .long x => x
  | _ => 0
def asR (base : Nat) : Value → Option Nat
  | .ref i => some (base + i)
  | _ => none
def gE (b : Nat → Nat) (base : Nat) (tyc : Nat → ClassId) (c : AC) : va_E :=
  if c.1 = 0 then .inr (c.2.1, c.2.2.map (gV b base))
  else if c.1 = 1 then .inl (tyc c.2.1, c.2.2.length, .inl (fun j => asI (c.2.2.getD j .null)))
  else if c.1 = 2 then .inl (tyc c.2.1, c.2.2.length, .inr (.inl (fun j => asL (c.2.2.getD j .null))))
  else .inl (tyc c.2.1, c.2.2.length, .inr (.inr (.inr (.inr (fun j => asR base (c.2.2.getD j .null))))))
def gW (b : Nat → Nat) (base : Nat) (tyc : Nat → ClassId) (h : AH) : va_W := h.mapIdx (fun i c => (base + i, gE b base tyc c))
def gL (b : Nat → Nat) (base : Nat) (lv : ALv) : List (Nat × Value) := lv.map (fun q => (q.1, gV b base q.2))
theorem gV_cat (b : Nat → Nat) (base : Nat) (v : Value) : (gV b base v).category = v.category := by
  cases v with
  | float x => show (fV b).category = 1; unfold fV; split <;> rfl
  | _ => rfl
theorem gW_get (b : Nat → Nat) (base : Nat) (tyc : Nat → ClassId) (h : AH) (i : Nat) : (gW b base tyc h)[i]? = (h[i]?).map (fun c => (base + i, gE b base tyc c)) := by
  unfold gW; rw [List.getElem?_mapIdx]
theorem gW_at {b : Nat → Nat} {base : Nat} {tyc : Nat → ClassId} {h : AH} {i : Nat} {c : AC} (hc : h[i]? = some c) : (gW b base tyc h)[i]? = some (base + i, gE b base tyc c) := by
  rw [gW_get, hc]; rfl
theorem gW_len (b : Nat → Nat) (base : Nat) (tyc : Nat → ClassId) (h : AH) : (gW b base tyc h).length = h.length := by
  unfold gW; simp
theorem gW_set {b : Nat → Nat} {base : Nat} {tyc : Nat → ClassId} {h : AH} {i : Nat} {c : AC} : (gW b base tyc h).set i (base + i, gE b base tyc c) = gW b base tyc (h.set i c) := by
  apply List.ext_getElem?
  intro j
  rw [gW_get, List.getElem?_set, List.getElem?_set, gW_get, gW_len]
  by_cases hij : i = j
  · subst hij
    by_cases hi : i < h.length <;> simp [hi]
  · simp [hij]
theorem gW_push (b : Nat → Nat) (base : Nat) (tyc : Nat → ClassId) (h : AH) (c : AC) : gW b base tyc (h ++ [c]) = gW b base tyc h ++ [(base + h.length, gE b base tyc c)] := by
  unfold gW; simp [List.mapIdx_append]
theorem gW_D (b : Nat → Nat) (base : Nat) (tyc : Nat → ClassId) (h : AH) : va_D (fun q => base ≤ q) (gW b base tyc h) := by
  refine ⟨fun i j p q hi hj hpq => ?_, fun k q hk => ?_⟩
  · rw [gW_get] at hi hj
    obtain ⟨c, -, rfl⟩ := Option.map_eq_some_iff.mp hi
    obtain ⟨d, -, rfl⟩ := Option.map_eq_some_iff.mp hj
    dsimp only at hpq
    omega
  · rw [gW_get] at hk
    obtain ⟨c, -, rfl⟩ := Option.map_eq_some_iff.mp hk
    exact Nat.le_add_right _ _
theorem gE_o {b : Nat → Nat} {base : Nat} {tyc : Nat → ClassId} {c : AC} (h : c.1 = 0) : gE b base tyc c = .inr (c.2.1, c.2.2.map (gV b base)) := by simp [gE, h]
theorem gE_i {b : Nat → Nat} {base : Nat} {tyc : Nat → ClassId} {c : AC} (h : c.1 = 1) : gE b base tyc c = .inl (tyc c.2.1, c.2.2.length, .inl (fun j => asI (c.2.2.getD j .null))) := by simp [gE, h]
theorem gE_l {b : Nat → Nat} {base : Nat} {tyc : Nat → ClassId} {c : AC} (h : c.1 = 2) : gE b base tyc c = .inl (tyc c.2.1, c.2.2.length, .inr (.inl (fun j => asL (c.2.2.getD j .null)))) := by simp [gE, h]
theorem gE_r {b : Nat → Nat} {base : Nat} {tyc : Nat → ClassId} {c : AC} (h : c.1 = 3) : gE b base tyc c = .inl (tyc c.2.1, c.2.2.length, .inr (.inr (.inr (.inr (fun j => asR base (c.2.2.getD j .null)))))) := by simp [gE, h]
/-- the world: the cells from base on -/
def Wd (D : va_G) (tyc : Nat → ClassId) (b : Nat → Nat) (base : Nat) (h : AH) (H : Heap) : Prop := H.size = base + h.length ∧ va_P D vwCl (gW b base tyc h) H
def slo (h : AH) : Nat := (h.map (fun c => c.2.2.length)).sum
theorem lvA {ls : Array Slot} {nL : Nat} {b : Nat → Nat} {base : Nat} {lv : ALv} {i : Nat} {v : Value} (h : lv_has ls nL (gL b base lv)) (hf : fnd lv i = some v) : ls[i]? = some (.val (gV b base v)) :=
  h.2.2 (i, gV b base v) (List.mem_map.mpr ⟨(i, v), fnd_mem hf, rfl⟩)
def lvset1 (lv : ALv) (i : Nat) (v : Value) : ALv := (i, v) :: lv.filter (fun q => !(q.1 == i) && !(q.1 + 1 == i && q.2.category == 2))
def lvset2 (lv : ALv) (i : Nat) (v : Value) : ALv := (i, v) :: lv.filter (fun q => !(q.1 == i) && (!(q.1 == i + 1) && !(q.1 + 1 == i && q.2.category == 2)))
theorem gL_set1 (b : Nat → Nat) (base : Nat) (lv : ALv) (i : Nat) (v : Value) : (i, gV b base v) :: (gL b base lv).filter (fun q => !(q.1 == i) && !(q.1 + 1 == i && q.2.category == 2)) = gL b base (lvset1 lv i v) := by
  simp [gL, lvset1, List.filter_map, Function.comp_def, gV_cat]
theorem gL_set2 (b : Nat → Nat) (base : Nat) (lv : ALv) (i : Nat) (v : Value) : (i, gV b base v) :: (gL b base lv).filter (fun q => !(q.1 == i) && (!(q.1 == i + 1) && !(q.1 + 1 == i && q.2.category == 2))) = gL b base (lvset2 lv i v) := by
  simp [gL, lvset2, List.filter_map, Function.comp_def, gV_cat]
/-! the stack's shapes -/
def sI {α : Type} (st : List Value) (f : Int32 → List Value → Option α) : Option α := match st with
  | .int x :: r => f x r
  | _ => none
def sII {α : Type} (st : List Value) (f : Int32 → Int32 → List Value → Option α) : Option α := match st with
  | .int y :: .int x :: r => f x y r
  | _ => none
def sL {α : Type} (st : List Value) (f : Int64 → List Value → Option α) : Option α := match st with
  | .long x :: r => f x r
  | _ => none
def sLL {α : Type} (st : List Value) (f : Int64 → Int64 → List Value → Option α) : Option α := match st with
  | .long y :: .long x :: r => f x y r
  | _ => none
def sLI {α : Type} (st : List Value) (f : Int64 → Int32 → List Value → Option α) : Option α := match st with
  | .int y :: .long x :: r => f x y r
  | _ => none
def sR {α : Type} (st : List Value) (f : Nat → List Value → Option α) : Option α := match st with
  | .ref a :: r => f a r
  | _ => none
def sRI {α : Type} (st : List Value) (f : Nat → Int32 → List Value → Option α) : Option α := match st with
  | .int j :: .ref a :: r => f a j r
  | _ => none
theorem sI_inv {α : Type} {st : List Value} {f : Int32 → List Value → Option α} {a : α} (h : sI st f = some a) : ∃ x r, st = .int x :: r ∧ f x r = some a := by
  unfold sI at h; split at h
  · exact ⟨_, _, rfl, h⟩
  · cases h
theorem sII_inv {α : Type} {st : List Value} {f : Int32 → Int32 → List Value → Option α} {a : α} (h : sII st f = some a) : ∃ x y r, st = .int y :: .int x :: r ∧ f x y r = some a := by
  unfold sII at h; split at h
  · exact ⟨_, _, _, rfl, h⟩
  · cases h
theorem sL_inv {α : Type} {st : List Value} {f : Int64 → List Value → Option α} {a : α} (h : sL st f = some a) : ∃ x r, st = .long x :: r ∧ f x r = some a := by
  unfold sL at h; split at h
  · exact ⟨_, _, rfl, h⟩
  · cases h
theorem sLL_inv {α : Type} {st : List Value} {f : Int64 → Int64 → List Value → Option α} {a : α} (h : sLL st f = some a) : ∃ x y r, st = .long y :: .long x :: r ∧ f x y r = some a := by
  unfold sLL at h; split at h
  · exact ⟨_, _, _, rfl, h⟩
  · cases h
theorem sLI_inv {α : Type} {st : List Value} {f : Int64 → Int32 → List Value → Option α} {a : α} (h : sLI st f = some a) : ∃ x y r, st = .int y :: .long x :: r ∧ f x y r = some a := by
  unfold sLI at h; split at h
  · exact ⟨_, _, _, rfl, h⟩
  · cases h
theorem sR_inv {α : Type} {st : List Value} {f : Nat → List Value → Option α} {a : α} (h : sR st f = some a) : ∃ x r, st = .ref x :: r ∧ f x r = some a := by
  unfold sR at h; split at h
  · exact ⟨_, _, rfl, h⟩
  · cases h
theorem sRI_inv {α : Type} {st : List Value} {f : Nat → Int32 → List Value → Option α} {a : α} (h : sRI st f = some a) : ∃ x j r, st = .int j :: .ref x :: r ∧ f x j r = some a := by
  unfold sRI at h; split at h
  · exact ⟨_, _, _, rfl, h⟩
  · cases h
def oB {α β : Type} (o : Option α) (f : α → Option β) : Option β := match o with
  | some a => f a
  | none => none
theorem oB_inv {α β : Type} {o : Option α} {f : α → Option β} {b : β} (h : oB o f = some b) : ∃ a, o = some a ∧ f a = some b := by
  unfold oB at h; split at h
  · exact ⟨_, rfl, h⟩
  · cases h
def oC {α : Type} (b : Bool) (o : Option α) : Option α := match b with
  | true => o
  | false => none
theorem oC_inv {α : Type} {b : Bool} {o : Option α} {a : α} (h : oC b o = some a) : b = true ∧ o = some a := by
  unfold oC at h; split at h
  · exact ⟨rfl, h⟩
  · cases h
def ldI (lv : ALv) (k : Nat) : Option Value := match fnd lv k with
  | some (.int x) => some (.int x)
  | _ => none
def ldL (lv : ALv) (k : Nat) : Option Value := match fnd lv k with
  | some (.long x) => some (.long x)
  | _ => none
def ldA (lv : ALv) (k : Nat) : Option Value := match fnd lv k with
  | some (.ref x) => some (.ref x)
  | some (.retAddr x) => some (.retAddr x)
  | some .null => some .null
  | _ => none
theorem ldI_inv {lv : ALv} {k : Nat} {v : Value} (h : ldI lv k = some v) : ∃ x, v = .int x ∧ fnd lv k = some (.int x) := by
  unfold ldI at h; split at h
  · rename_i e; cases h; exact ⟨_, rfl, e⟩
  · cases h
theorem ldL_inv {lv : ALv} {k : Nat} {v : Value} (h : ldL lv k = some v) : ∃ x, v = .long x ∧ fnd lv k = some (.long x) := by
  unfold ldL at h; split at h
  · rename_i e; cases h; exact ⟨_, rfl, e⟩
  · cases h
theorem ldA_inv {lv : ALv} {k : Nat} {v : Value} (h : ldA lv k = some v) : (v = .null ∨ (∃ x, v = .ref x) ∨ ∃ x, v = .retAddr x) ∧ fnd lv k = some v := by
  unfold ldA at h; split at h
  · rename_i e; cases h; exact ⟨Or.inr (Or.inl ⟨_, rfl⟩), e⟩
  · rename_i e; cases h; exact ⟨Or.inr (Or.inr ⟨_, rfl⟩), e⟩
  · rename_i e; cases h; exact ⟨Or.inl rfl, e⟩
  · cases h
/-- what a field of a type may hold -/
def okFit (ty : FieldType) (v : Value) : Bool := match ty, v with
  | .int, .int _ => true
  | .boolean, .int x => x == 0 || x == 1
  | .object _, .ref _ => true
  | .object _, .null => true
  | .array _, .ref _ => true
  | .array _, .null => true
  | _, _ => false
theorem okFit_spec {ty : FieldType} {v : Value} (b : Nat → Nat) (base : Nat) (h : okFit ty v = true) : narrow ty (gV b base v) = gV b base v ∧ fits ty (gV b base v) = true := by
  unfold okFit at h
  split at h
  · exact ⟨rfl, rfl⟩
  · rename_i x
    simp only [Bool.or_eq_true, beq_iff_eq] at h
    rcases h with rfl | rfl
    · exact ⟨(by decide : narrow .boolean (.int 0) = .int 0), (by decide : fits .boolean (.int 0) = true)⟩
    · exact ⟨(by decide : narrow .boolean (.int 1) = .int 1), (by decide : fits .boolean (.int 1) = true)⟩
  · exact ⟨rfl, rfl⟩
  · exact ⟨rfl, rfl⟩
  · exact ⟨rfl, rfl⟩
  · exact ⟨rfl, rfl⟩
  · cases h
def cats (r : List Value) : Nat := (r.map fun v => v.category).sum
theorem cats_g (b : Nat → Nat) (base : Nat) (r : List Value) : ((r.map (gV b base)).map fun v => v.category).sum = cats r := by
  unfold cats
  rw [List.map_map]
  congr 1
  exact List.map_congr_left fun v _ => gV_cat b base v
end
/-! 04.tables -/
section
/-! what the tables' entries say -/
def chunk (i : Nat) : List Cond := match i with
  | 0 => k2_sels lw_privs
  | 1 => tables_1_1
  | 2 => tables_1_2
  | 3 => tables_1_3
  | 4 => tables_1_4
  | 5 => tables_1_5
  | 6 => tables_1_6
  | 7 => tables_1_7
  | 8 => tables_1_8
  | _ => []
theorem chunk_in {i : Nat} {w : Cond} (h : w ∈ chunk i) : w ∈ lw_tbl := by
  have key : ∀ j, w ∈ chunk j → w ∈ lw_tbl := fun j => match j with
    | 0 => fun h => List.mem_append_left _ h
    | 1 => fun h => List.mem_append_right _ (List.mem_append_left _ h)
    | 2 => fun h => List.mem_append_right _ (List.mem_append_right _ (List.mem_append_left _ h))
    | 3 => fun h => List.mem_append_right _ (List.mem_append_right _ (List.mem_append_right _ (List.mem_append_left _ h)))
    | 4 => fun h => List.mem_append_right _ (List.mem_append_right _ (List.mem_append_right _ (List.mem_append_right _ (List.mem_append_left _ h))))
    | 5 => fun h => List.mem_append_right _ (List.mem_append_right _ (List.mem_append_right _ (List.mem_append_right _ (List.mem_append_right _ (List.mem_append_left _ h)))))
    | 6 => fun h => List.mem_append_right _ (List.mem_append_right _ (List.mem_append_right _ (List.mem_append_right _ (List.mem_append_right _ (List.mem_append_right _ (List.mem_append_left _ h))))))
    | 7 => fun h => List.mem_append_right _ (List.mem_append_right _ (List.mem_append_right _ (List.mem_append_right _ (List.mem_append_right _ (List.mem_append_right _ (List.mem_append_right _ (List.mem_append_left _ h)))))))
    | 8 => fun h => List.mem_append_right _ (List.mem_append_right _ (List.mem_append_right _ (List.mem_append_right _ (List.mem_append_right _ (List.mem_append_right _ (List.mem_append_right _ (List.mem_append_right _ h)))))))
    | _ + 9 => fun h => absurd h List.not_mem_nil
  exact key i h
def TBL : List Cond := lw_tbl.filter goodWord
theorem TBL_lw {w : Cond} (h : w ∈ TBL) : w ∈ lw_tbl := (List.mem_filter.mp h).1
theorem TBL_good {w : Cond} (h : w ∈ TBL) : (w.onTables && w.keeps) = true ∨ ∃ ty, w = .arrayClass ty := good_of_word (List.mem_filter.mp h).2
/-- a word, by its place -/
def isW (q : Nat × Nat) (w : Cond) : Bool := decide ((chunk q.1)[q.2]? = some w) && goodWord w
theorem isW_in {q : Nat × Nat} {w : Cond} (h : isW q w = true) : w ∈ TBL := by
  unfold isW at h
  rw [Bool.and_eq_true] at h
  exact List.mem_filter.mpr ⟨chunk_in (List.mem_of_getElem? (of_decide_eq_true h.1)), h.2⟩
/-- links to nest mates' members: they ride beside the words that every call keeps -/
def isNest (w : Cond) : Bool := match w with
  | .fieldLinkNest _ _ _ _ _ _ => true
  | .methodLinkNest _ _ _ _ => true
  | _ => false
def NST : List Cond := lw_tbl.filter isNest
theorem NST_on {w : Cond} (h : w ∈ NST) : w.onTables = true := by
  have h2 := (List.mem_filter.mp h).2
  unfold isNest at h2
  split at h2
  · rfl
  · rfl
  · cases h2
theorem NST_warm {w : Cond} {s U : State} (h : w ∈ NST) (hW : s.WarmedH U.vm) (hZ : va_Nw w s) : va_Nw w U := by
  have h2 := (List.mem_filter.mp h).2
  unfold isNest at h2
  split at h2
  · exact va_Nw.warmF hW hZ
  · exact va_Nw.warmM hW hZ
  · cases h2
def InW (w : Cond) : Prop := w ∈ TBL ∨ w ∈ NST
def chkI (F : MR) (q : AI) : Bool := decide (decode (mcc F) q.1 = .ok (q.2.1, q.2.2.1)) && (ilen q.2.1 == 0 || ilen q.2.1 == q.2.2.1) && (match ioff q.2.1 with
  | some o => decide ((q.1 : Int) + o = (q.2.2.2 : Int))
  | none => true)
def IOK (F : MR) (q : AI) : Prop := decode (mcc F) q.1 = .ok (q.2.1, q.2.2.1) ∧ (ilen q.2.1 = 0 ∨ ilen q.2.1 = q.2.2.1) ∧ ∀ o, ioff q.2.1 = some o → (q.1 : Int) + o = (q.2.2.2 : Int)
theorem IOK_of {F : MR} {q : AI} (h : chkI F q = true) : IOK F q := by
  unfold chkI at h
  simp only [Bool.and_eq_true, decide_eq_true_eq, Bool.or_eq_true, beq_iff_eq] at h
  refine ⟨h.1.1, h.1.2, fun o ho => ?_⟩
  have h2 := h.2
  rw [ho] at h2
  exact of_decide_eq_true h2
def fldW (own : String) (idx k cd : Nat) (r : vw_C) : Cond := if cd = 1 ∨ cd = 4 then .fieldLinkNest own idx (r.2.1 k).1 (r.2.1 k).2.1 (r.2.1 k).2.2.1 HOST else .fieldLink own idx (r.2.1 k).1 (r.2.1 k).2.1 (r.2.1 k).2.2.1
def FLok (F : MR) (q : AF) : Prop := ∃ r : vw_C, vwCl[q.2.1]? = some r ∧ q.2.2.1 < r.2.2 ∧ InW (fldW (my F).cls q.1 q.2.2.1 q.2.2.2.1 r) ∧ (q.2.2.2.1 = 0 ∨ q.2.2.2.1 = 1 → (r.2.1 q.2.2.1).2.2.2 = false) ∧ (q.2.2.2.1 = 2 → (r.2.1 q.2.2.1).2.2.2 = true ∧ (r.2.1 q.2.2.1).1 = (my F).cls ∧ (my F).name = "<init>")
def GOK (G : MR) : Prop := .code (my G) (mcc G) (mml G) (mret G) ∈ TBL ∧ .initialized (my G).cls ∈ TBL ∧ plainFor (my G) = true ∧ (my G).cls ≠ "java/lang/invoke/MethodHandle" ∧ (my G).cls ≠ "java/lang/invoke/VarHandle" ∧ (parseMethodDescriptor (my G).desc).map (fun d => d.parameters.length) = some (mnp G)
def CKok (MT : Nat → Option MR) (F : MR) (q : AK) : Prop :=
  (q.2.1 = 8 → .methodLink (my F).cls q.1 arraycopyName ∈ TBL) ∧ (q.2.1 = 9 → .methodLink (my F).cls q.1 objectInit ∈ TBL) ∧
  (q.2.1 < 8 → ∀ G, MT q.2.2.1 = some G → InW (if q.2.1 = 1 ∨ q.2.1 = 3 ∨ q.2.1 = 5 then Cond.methodLinkNest (my F).cls q.1 (my G) HOST else .methodLink (my F).cls q.1 (my G)) ∧ (q.2.1 = 0 ∨ q.2.1 = 1 → .instanceMethod (my G) ∈ TBL ∧ .selects (my G).cls (my G) (my G) ∈ TBL ∧ vwCl[mci G]?.map (fun r => r.1) = some (my G).cls) ∧ (q.2.1 = 2 ∨ q.2.1 = 3 → .static (my G) ∈ TBL) ∧ (q.2.1 = 4 ∨ q.2.1 = 5 → .instanceMethod (my G) ∈ TBL ∧ (my G).name = "<init>" ∧ mret G = none) ∧ (q.2.1 = 6 → .instanceMethod (my G) ∈ TBL ∧ .selects (my G).cls (my G) (my G) ∈ TBL ∧ (my G).cls = "java/lang/String"))
def KCok (F : MR) (q : AKc) : Prop := ∃ r : vw_C, vwCl[q.2.1]? = some r ∧ .classLink (my F).cls q.1 r.1 ∈ TBL
def XOK (F : MR) (q : AKs) : Prop := (q.2.1 = 0 → ((my F).cls, q.1, q.2.2.1) ∈ STRTAB) ∧ (q.2.1 = 1 → .fieldLink (my F).cls q.1 "java/lang/String" "value" "[B" ∈ TBL) ∧ (q.2.1 = 2 → .fieldLink (my F).cls q.1 "java/lang/String" "coder" "B" ∈ TBL) ∧ (q.2.1 = 3 → .fieldLink (my F).cls q.1 "java/lang/String" "COMPACT_STRINGS" "Z" ∈ TBL) ∧ (q.2.1 = 4 → .fieldLink (my F).cls q.1 "jdk/internal/util/Preconditions" "SIOOBE_FORMATTER" "Ljava/util/function/BiFunction;" ∈ TBL)
/-- a method's tables are right -/
def FOK (MT : Nat → Option MR) (F : MR) : Prop := (∀ q ∈ mcode F, IOK F q) ∧ (∀ q ∈ mfl F, FLok F q) ∧ (∀ q ∈ mcl F, CKok MT F q) ∧ (∀ q ∈ mki F, .constant (my F).cls q.1 q.2.1 ∈ TBL) ∧ (∀ q ∈ mkl F, .constantLong (my F).cls q.1 q.2.1 ∈ TBL) ∧ (∀ q ∈ mkc F, KCok F q) ∧ (∀ q ∈ mks F, XOK F q)
/-- what a frame of a method knows -/
def Ctx (p : Program) (s : State) (m : MethodId) (args : Array Value) (meth : Method) (c : Code) (F : MR) : Prop :=
  p.tables.exec = Jvm.exec ∧ c.code = mcc F ∧ meth.sig.returnType = mret F ∧ c.maxLocals = mml F ∧ s.vm.findClass (my F).cls = some m.cls ∧ meth.locks = false ∧ (∀ w ∈ TBL, w.before args s = true) ∧ ((my F).name = "<init>" → meth.name = "<init>") ∧ ∀ w, InW w → w.before args s = true
end
/-! 04b.facts -/
section
/-! the classes' words -/
theorem u_ws_in {C : String} {T : u_T} {N : Nat} (pl : List (Nat × Nat)) (h : (List.range N).all (fun k => isW (pl.getD k (0, 0)) (u_lay C T k)) = true) : ∀ w ∈ u_ws C T N, w ∈ TBL := by
  intro w hw
  obtain ⟨k, hk, rfl⟩ := List.mem_map.mp hw
  exact isW_in (List.all_eq_true.mp h k hk)
theorem cls_0 : ∀ w ∈ u_ws RX0 TX0 4, w ∈ TBL := u_ws_in [(1, 223), (1, 225), (1, 227), (1, 229)] (by decide +kernel)
theorem clsi_0 : Cond.instantiable RX0 4 ∈ TBL := isW_in (q := (1, 205)) (by decide +kernel)
theorem clsn_0 : Cond.initialized RX0 ∈ TBL := isW_in (q := (1, 11)) (by decide +kernel)
theorem clsd_0 (b : Nat → Nat) (base : Nat) : ∀ j, j < 4 → defaultValue (TYF 0 j) = vp_V ((DFL 0).map (gV b base)) j := fun j hj => match j, hj with
  | 0, _ => rfl
  | 1, _ => rfl
  | 2, _ => rfl
  | 3, _ => rfl
  | k + 4, h => absurd h (by omega)
theorem cls_1 : ∀ w ∈ u_ws RX1 TX1 6, w ∈ TBL := u_ws_in [(1, 138), (1, 140), (1, 142), (1, 144), (1, 146), (1, 148)] (by decide +kernel)
theorem clsi_1 : Cond.instantiable RX1 6 ∈ TBL := isW_in (q := (1, 124)) (by decide +kernel)
theorem clsn_1 : Cond.initialized RX1 ∈ TBL := isW_in (q := (1, 7)) (by decide +kernel)
theorem clsd_1 (b : Nat → Nat) (base : Nat) : ∀ j, j < 6 → defaultValue (TYF 1 j) = vp_V ((DFL 1).map (gV b base)) j := fun j hj => match j, hj with
  | 0, _ => rfl
  | 1, _ => rfl
  | 2, _ => rfl
  | 3, _ => rfl
  | 4, _ => rfl
  | 5, _ => rfl
  | k + 6, h => absurd h (by omega)
theorem cls_2 : ∀ w ∈ u_ws RX2 TX2 2, w ∈ TBL := u_ws_in [(1, 118), (1, 120)] (by decide +kernel)
theorem clsi_2 : Cond.instantiable RX2 2 ∈ TBL := isW_in (q := (1, 105)) (by decide +kernel)
theorem clsn_2 : Cond.initialized RX2 ∈ TBL := isW_in (q := (1, 5)) (by decide +kernel)
theorem clsd_2 (b : Nat → Nat) (base : Nat) : ∀ j, j < 2 → defaultValue (TYF 2 j) = vp_V ((DFL 2).map (gV b base)) j := fun j hj => match j, hj with
  | 0, _ => rfl
  | 1, _ => rfl
  | k + 2, h => absurd h (by omega)
theorem cls_3 : ∀ w ∈ u_ws RX3 TX3 3, w ∈ TBL := u_ws_in [(1, 198), (1, 200), (1, 202)] (by decide +kernel)
theorem clsi_3 : Cond.instantiable RX3 3 ∈ TBL := isW_in (q := (1, 183)) (by decide +kernel)
theorem clsn_3 : Cond.initialized RX3 ∈ TBL := isW_in (q := (1, 10)) (by decide +kernel)
theorem clsd_3 (b : Nat → Nat) (base : Nat) : ∀ j, j < 3 → defaultValue (TYF 3 j) = vp_V ((DFL 3).map (gV b base)) j := fun j hj => match j, hj with
  | 0, _ => rfl
  | 1, _ => rfl
  | 2, _ => rfl
  | k + 3, h => absurd h (by omega)
theorem cls_4 : ∀ w ∈ u_ws RX4 TX4 16, w ∈ TBL := u_ws_in [(2, 39), (2, 41), (2, 43), (2, 45), (2, 47), (2, 49), (2, 51), (2, 53), (2, 55), (2, 57), (2, 59), (2, 61), (2, 63), (2, 65), (2, 67), (2, 69)] (by decide +kernel)
theorem clsi_4 : Cond.instantiable RX4 16 ∈ TBL := isW_in (q := (1, 175)) (by decide +kernel)
theorem clsn_4 : Cond.initialized RX4 ∈ TBL := isW_in (q := (1, 9)) (by decide +kernel)
theorem clsd_4 (b : Nat → Nat) (base : Nat) : ∀ j, j < 16 → defaultValue (TYF 4 j) = vp_V ((DFL 4).map (gV b base)) j := fun j hj => match j, hj with
  | 0, _ => rfl
  | 1, _ => rfl
  | 2, _ => rfl
  | 3, _ => rfl
  | 4, _ => rfl
  | 5, _ => rfl
  | 6, _ => rfl
  | 7, _ => rfl
  | 8, _ => rfl
  | 9, _ => rfl
  | 10, _ => rfl
  | 11, _ => rfl
  | 12, _ => rfl
  | 13, _ => rfl
  | 14, _ => rfl
  | 15, _ => rfl
  | k + 16, h => absurd h (by omega)
theorem cls_5 : ∀ w ∈ u_ws RX5 TX5 7, w ∈ TBL := u_ws_in [(1, 61), (1, 63), (1, 65), (1, 67), (1, 69), (1, 71), (1, 73)] (by decide +kernel)
theorem clsi_5 : Cond.instantiable RX5 7 ∈ TBL := isW_in (q := (1, 47)) (by decide +kernel)
theorem clsn_5 : Cond.initialized RX5 ∈ TBL := isW_in (q := (1, 3)) (by decide +kernel)
theorem clsd_5 (b : Nat → Nat) (base : Nat) : ∀ j, j < 7 → defaultValue (TYF 5 j) = vp_V ((DFL 5).map (gV b base)) j := fun j hj => match j, hj with
  | 0, _ => rfl
  | 1, _ => rfl
  | 2, _ => rfl
  | 3, _ => rfl
  | 4, _ => rfl
  | 5, _ => rfl
  | 6, _ => rfl
  | k + 7, h => absurd h (by omega)
theorem cls_6 : ∀ w ∈ u_ws RX6 TX6 5, w ∈ TBL := u_ws_in [(1, 92), (1, 94), (1, 96), (1, 98), (1, 100)] (by decide +kernel)
theorem clsi_6 : Cond.instantiable RX6 5 ∈ TBL := isW_in (q := (1, 77)) (by decide +kernel)
theorem clsn_6 : Cond.initialized RX6 ∈ TBL := isW_in (q := (1, 4)) (by decide +kernel)
theorem clsd_6 (b : Nat → Nat) (base : Nat) : ∀ j, j < 5 → defaultValue (TYF 6 j) = vp_V ((DFL 6).map (gV b base)) j := fun j hj => match j, hj with
  | 0, _ => rfl
  | 1, _ => rfl
  | 2, _ => rfl
  | 3, _ => rfl
  | 4, _ => rfl
  | k + 5, h => absurd h (by omega)
theorem cls_7 : ∀ w ∈ u_ws RX7 TX7 4, w ∈ TBL := u_ws_in [(2, 88), (2, 90), (2, 92), (2, 94)] (by decide +kernel)
theorem clsi_7 : Cond.instantiable RX7 4 ∈ TBL := isW_in (q := (2, 75)) (by decide +kernel)
theorem clsn_7 : Cond.initialized RX7 ∈ TBL := isW_in (q := (1, 12)) (by decide +kernel)
theorem clsd_7 (b : Nat → Nat) (base : Nat) : ∀ j, j < 4 → defaultValue (TYF 7 j) = vp_V ((DFL 7).map (gV b base)) j := fun j hj => match j, hj with
  | 0, _ => rfl
  | 1, _ => rfl
  | 2, _ => rfl
  | 3, _ => rfl
  | k + 4, h => absurd h (by omega)
theorem cls_8 : ∀ w ∈ u_ws RX8 TX8 2, w ∈ TBL := u_ws_in [(1, 40), (1, 42)] (by decide +kernel)
theorem clsi_8 : Cond.instantiable RX8 2 ∈ TBL := isW_in (q := (1, 30)) (by decide +kernel)
theorem clsn_8 : Cond.initialized RX8 ∈ TBL := isW_in (q := (1, 2)) (by decide +kernel)
theorem clsd_8 (b : Nat → Nat) (base : Nat) : ∀ j, j < 2 → defaultValue (TYF 8 j) = vp_V ((DFL 8).map (gV b base)) j := fun j hj => match j, hj with
  | 0, _ => rfl
  | 1, _ => rfl
  | k + 2, h => absurd h (by omega)
theorem cls_9 : ∀ w ∈ u_ws RX9 TX9 5, w ∈ TBL := u_ws_in [(1, 163), (1, 165), (1, 167), (1, 169), (1, 171)] (by decide +kernel)
theorem clsi_9 : Cond.instantiable RX9 5 ∈ TBL := isW_in (q := (1, 152)) (by decide +kernel)
theorem clsn_9 : Cond.initialized RX9 ∈ TBL := isW_in (q := (1, 8)) (by decide +kernel)
theorem clsd_9 (b : Nat → Nat) (base : Nat) : ∀ j, j < 5 → defaultValue (TYF 9 j) = vp_V ((DFL 9).map (gV b base)) j := fun j hj => match j, hj with
  | 0, _ => rfl
  | 1, _ => rfl
  | 2, _ => rfl
  | 3, _ => rfl
  | 4, _ => rfl
  | k + 5, h => absurd h (by omega)
theorem cls_10 : ∀ w ∈ u_ws RX10 TX10 11, w ∈ TBL := u_ws_in [(2, 110), (2, 112), (2, 114), (2, 116), (2, 118), (2, 120), (2, 122), (2, 124), (2, 126), (2, 128), (2, 130)] (by decide +kernel)
theorem clsi_10 : Cond.instantiable RX10 11 ∈ TBL := isW_in (q := (1, 22)) (by decide +kernel)
theorem clsn_10 : Cond.initialized RX10 ∈ TBL := isW_in (q := (1, 1)) (by decide +kernel)
theorem clsd_10 (b : Nat → Nat) (base : Nat) : ∀ j, j < 11 → defaultValue (TYF 10 j) = vp_V ((DFL 10).map (gV b base)) j := fun j hj => match j, hj with
  | 0, _ => rfl
  | 1, _ => rfl
  | 2, _ => rfl
  | 3, _ => rfl
  | 4, _ => rfl
  | 5, _ => rfl
  | 6, _ => rfl
  | 7, _ => rfl
  | 8, _ => rfl
  | 9, _ => rfl
  | 10, _ => rfl
  | k + 11, h => absurd h (by omega)
theorem cls_11 : ∀ w ∈ u_ws RX11 TX11 36, w ∈ TBL := u_ws_in [(5, 225), (5, 227), (5, 229), (5, 231), (5, 233), (5, 235), (5, 237), (5, 239), (6, 1), (6, 3), (6, 5), (6, 7), (6, 9), (6, 11), (6, 13), (6, 15), (6, 17), (6, 19), (6, 21), (6, 23), (6, 25), (6, 27), (6, 29), (6, 31), (6, 33), (6, 35), (6, 37), (6, 39), (6, 41), (6, 43), (6, 45), (6, 47), (6, 49), (6, 51), (6, 53), (6, 55)] (by decide +kernel)
theorem clsi_11 : Cond.instantiable RX11 36 ∈ TBL := isW_in (q := (5, 185)) (by decide +kernel)
theorem clsn_11 : Cond.initialized RX11 ∈ TBL := isW_in (q := (1, 13)) (by decide +kernel)
theorem clsd_11 (b : Nat → Nat) (base : Nat) : ∀ j, j < 36 → defaultValue (TYF 11 j) = vp_V ((DFL 11).map (gV b base)) j := fun j hj => match j, hj with
  | 0, _ => rfl
  | 1, _ => rfl
  | 2, _ => rfl
  | 3, _ => rfl
  | 4, _ => rfl
  | 5, _ => rfl
  | 6, _ => rfl
  | 7, _ => rfl
  | 8, _ => rfl
  | 9, _ => rfl
  | 10, _ => rfl
  | 11, _ => rfl
  | 12, _ => rfl
  | 13, _ => rfl
  | 14, _ => rfl
  | 15, _ => rfl
  | 16, _ => rfl
  | 17, _ => rfl
  | 18, _ => rfl
  | 19, _ => rfl
  | 20, _ => rfl
  | 21, _ => rfl
  | 22, _ => rfl
  | 23, _ => rfl
  | 24, _ => rfl
  | 25, _ => rfl
  | 26, _ => rfl
  | 27, _ => rfl
  | 28, _ => rfl
  | 29, _ => rfl
  | 30, _ => rfl
  | 31, _ => rfl
  | 32, _ => rfl
  | 33, _ => rfl
  | 34, _ => rfl
  | 35, _ => rfl
  | k + 36, h => absurd h (by omega)
theorem CLS_in {ci : Nat} {C : String} {T : u_T} {N : Nat} (h : vwCl[ci]? = some (C, T, N)) : ∀ w ∈ u_ws C T N, w ∈ TBL := by
  match ci, h with
  | 0, h => cases (show some (RX0, TX0, 4) = some (C, T, N) from h); exact cls_0
  | 1, h => cases (show some (RX1, TX1, 6) = some (C, T, N) from h); exact cls_1
  | 2, h => cases (show some (RX2, TX2, 2) = some (C, T, N) from h); exact cls_2
  | 3, h => cases (show some (RX3, TX3, 3) = some (C, T, N) from h); exact cls_3
  | 4, h => cases (show some (RX4, TX4, 16) = some (C, T, N) from h); exact cls_4
  | 5, h => cases (show some (RX5, TX5, 7) = some (C, T, N) from h); exact cls_5
  | 6, h => cases (show some (RX6, TX6, 5) = some (C, T, N) from h); exact cls_6
  | 7, h => cases (show some (RX7, TX7, 4) = some (C, T, N) from h); exact cls_7
  | 8, h => cases (show some (RX8, TX8, 2) = some (C, T, N) from h); exact cls_8
  | 9, h => cases (show some (RX9, TX9, 5) = some (C, T, N) from h); exact cls_9
  | 10, h => cases (show some (RX10, TX10, 11) = some (C, T, N) from h); exact cls_10
  | 11, h => cases (show some (RX11, TX11, 36) = some (C, T, N) from h); exact cls_11
  | k + 12, h => exact absurd h (by intro z; cases z)
theorem CLS_ty {ci : Nat} {C : String} {T : u_T} {N : Nat} (h : vwCl[ci]? = some (C, T, N)) : (∀ k, k < N → parseFieldDescriptor (T k).2.2.1 = some (TYF ci k)) ∧ ∀ a, a < N → ∀ b, b < N → a ≠ b → (T a).2.1 ≠ (T b).2.1 := by
  match ci, h with
  | 0, h => cases (show some (RX0, TX0, 4) = some (C, T, N) from h); exact ⟨tyX0_ok, nmX0⟩
  | 1, h => cases (show some (RX1, TX1, 6) = some (C, T, N) from h); exact ⟨tyX1_ok, nmX1⟩
  | 2, h => cases (show some (RX2, TX2, 2) = some (C, T, N) from h); exact ⟨tyX2_ok, nmX2⟩
  | 3, h => cases (show some (RX3, TX3, 3) = some (C, T, N) from h); exact ⟨tyX3_ok, nmX3⟩
  | 4, h => cases (show some (RX4, TX4, 16) = some (C, T, N) from h); exact ⟨tyX4_ok, nmX4⟩
  | 5, h => cases (show some (RX5, TX5, 7) = some (C, T, N) from h); exact ⟨tyX5_ok, nmX5⟩
  | 6, h => cases (show some (RX6, TX6, 5) = some (C, T, N) from h); exact ⟨tyX6_ok, nmX6⟩
  | 7, h => cases (show some (RX7, TX7, 4) = some (C, T, N) from h); exact ⟨tyX7_ok, nmX7⟩
  | 8, h => cases (show some (RX8, TX8, 2) = some (C, T, N) from h); exact ⟨tyX8_ok, nmX8⟩
  | 9, h => cases (show some (RX9, TX9, 5) = some (C, T, N) from h); exact ⟨tyX9_ok, nmX9⟩
  | 10, h => cases (show some (RX10, TX10, 11) = some (C, T, N) from h); exact ⟨tyX10_ok, nmX10⟩
  | 11, h => cases (show some (RX11, TX11, 36) = some (C, T, N) from h); exact ⟨tyX11_ok, nmX11⟩
  | k + 12, h => exact absurd h (by intro z; cases z)
theorem CLS_new {ci : Nat} {C : String} {T : u_T} {N : Nat} (h : vwCl[ci]? = some (C, T, N)) : Cond.instantiable C N ∈ TBL ∧ Cond.initialized C ∈ TBL ∧ (DFL ci).length = N ∧ ∀ (b : Nat → Nat) (base j : Nat), j < N → defaultValue (TYF ci j) = vp_V ((DFL ci).map (gV b base)) j := by
  match ci, h with
  | 0, h => cases (show some (RX0, TX0, 4) = some (C, T, N) from h); exact ⟨clsi_0, clsn_0, rfl, clsd_0⟩
  | 1, h => cases (show some (RX1, TX1, 6) = some (C, T, N) from h); exact ⟨clsi_1, clsn_1, rfl, clsd_1⟩
  | 2, h => cases (show some (RX2, TX2, 2) = some (C, T, N) from h); exact ⟨clsi_2, clsn_2, rfl, clsd_2⟩
  | 3, h => cases (show some (RX3, TX3, 3) = some (C, T, N) from h); exact ⟨clsi_3, clsn_3, rfl, clsd_3⟩
  | 4, h => cases (show some (RX4, TX4, 16) = some (C, T, N) from h); exact ⟨clsi_4, clsn_4, rfl, clsd_4⟩
  | 5, h => cases (show some (RX5, TX5, 7) = some (C, T, N) from h); exact ⟨clsi_5, clsn_5, rfl, clsd_5⟩
  | 6, h => cases (show some (RX6, TX6, 5) = some (C, T, N) from h); exact ⟨clsi_6, clsn_6, rfl, clsd_6⟩
  | 7, h => cases (show some (RX7, TX7, 4) = some (C, T, N) from h); exact ⟨clsi_7, clsn_7, rfl, clsd_7⟩
  | 8, h => cases (show some (RX8, TX8, 2) = some (C, T, N) from h); exact ⟨clsi_8, clsn_8, rfl, clsd_8⟩
  | 9, h => cases (show some (RX9, TX9, 5) = some (C, T, N) from h); exact ⟨clsi_9, clsn_9, rfl, clsd_9⟩
  | 10, h => cases (show some (RX10, TX10, 11) = some (C, T, N) from h); exact ⟨clsi_10, clsn_10, rfl, clsd_10⟩
  | 11, h => cases (show some (RX11, TX11, 36) = some (C, T, N) from h); exact ⟨clsi_11, clsn_11, rfl, clsd_11⟩
  | k + 12, h => exact absurd h (by intro z; cases z)
theorem ARR_int : Cond.arrayClass .int ∈ TBL := isW_in (q := (1, 103)) (by decide +kernel)
theorem ARR_long : Cond.arrayClass .long ∈ TBL := isW_in (q := (2, 98)) (by decide +kernel)
theorem ARR_byte : Cond.arrayClass .byte ∈ TBL := isW_in (q := (1, 45)) (by decide +kernel)
theorem ARR_boolean : Cond.arrayClass .boolean ∈ TBL := isW_in (q := (2, 97)) (by decide +kernel)
theorem ACN_native : Cond.native arraycopyName ∈ TBL := isW_in (q := (5, 10)) (by decide +kernel)
theorem ACN_static : Cond.static arraycopyName ∈ TBL := isW_in (q := (5, 9)) (by decide +kernel)
theorem ACN_init : Cond.initialized "java/lang/System" ∈ TBL := isW_in (q := (1, 20)) (by decide +kernel)
theorem OBJ_inst : Cond.instanceMethod objectInit ∈ TBL := isW_in (q := (1, 27)) (by decide +kernel)
theorem OBJ_code : Cond.code objectInit ⟨#[0xb1]⟩ 1 none ∈ TBL := isW_in (q := (1, 28)) (by decide +kernel)
end
/-! 04c.loc -/
section
/-! an instruction is read from its own bytes alone -/
section LOC
def AG (b c : ByteArray) (p q : Nat) : Prop := ∀ k v, c.data.toList[q + k]? = some v → b.data.toList[p + k]? = some v
theorem AG_s {b c : ByteArray} {p q : Nat} (h : AG b c p q) (m : Nat) : AG b c (p + m) (q + m) := fun k v e => by
  rw [Nat.add_assoc] at e ⊢
  exact h (m + k) v e
def RD2 {α : Type} (r r' : Decoder α) : Prop := ∀ (b c : ByteArray) (p q : Nat), AG b c p q → ∀ x q', r' c q = .ok (x, q') → ∃ m, q' = q + m ∧ r b p = .ok (x, p + m)
theorem RD2_pure {α : Type} (x : α) : RD2 (pure x : Decoder α) (pure x) := fun b c p q _ y q' e => by
  have e : (Except.ok (x, q) : Except _ _) = .ok (y, q') := e
  injection e with e
  injection e with e1 e2
  subst e1 e2
  exact ⟨0, rfl, rfl⟩
theorem RD2_throw {α : Type} (e e' : DecodeError) : RD2 (throw e : Decoder α) (throw e') := fun b c p q _ y q' h => by
  have h : (Except.error e' : Except _ _) = .ok (y, q') := h
  cases h
theorem bind_ok {α β : Type} {r : Decoder α} {f : α → Decoder β} {c : ByteArray} {q q1 : Nat} {y : α} (h : r c q = .ok (y, q1)) : (r >>= f) c q = f y c q1 := by
  show Except.bind (r c q) (fun z => f z.1 c z.2) = _
  rw [h]
  rfl
theorem RD2_bind {α β : Type} {r r' : Decoder α} {f f' : α → Decoder β} (h : RD2 r r') (hf : ∀ x, RD2 (f x) (f' x)) : RD2 (r >>= f) (r' >>= f') := fun b c p q hy x q' e => by
  have e : Except.bind (r' c q) (fun z => f' z.1 c z.2) = .ok (x, q') := e
  cases hr : r' c q with
  | error er =>
    rw [hr] at e
    cases e
  | ok y =>
    obtain ⟨y1, y2⟩ := y
    rw [hr] at e
    have e : f' y1 c y2 = .ok (x, q') := e
    obtain ⟨m, hm, h1⟩ := h b c p q hy y1 y2 hr
    subst hm
    obtain ⟨m2, hm2, h2⟩ := hf y1 b c (p + m) (q + m) (AG_s hy m) x q' e
    refine ⟨m + m2, by omega, ?_⟩
    rw [bind_ok h1, h2, Nat.add_assoc]
theorem u1_ok {b : ByteArray} {p : Nat} {v : UInt8} (h : b.data.toList[p]? = some v) : (Reader.u1 : Decoder Nat) b p = .ok (v.toNat, p + 1) := by
  obtain ⟨hl, he⟩ := List.getElem?_eq_some_iff.mp h
  have h1 : p < b.size := hl
  have e : (Reader.u1 : Decoder Nat) b p = (if h : p < b.size then .ok (b[p].toNat, p + 1) else .error (HasTruncated.truncated p)) := by
    show (dite (p < b.size) _ _ : Decoder Nat) b p = _
    by_cases z : p < b.size
    · rw [dif_pos z, dif_pos z]; rfl
    · rw [dif_neg z, dif_neg z]; rfl
  rw [e, dif_pos h1]
  have g : b[p] = v := he
  rw [g]
theorem u1_inv {c : ByteArray} {q x q' : Nat} (h : (Reader.u1 : Decoder Nat) c q = .ok (x, q')) : ∃ v, c.data.toList[q]? = some v ∧ x = v.toNat ∧ q' = q + 1 := by
  have e : (Reader.u1 : Decoder Nat) c q = (if h : q < c.size then .ok (c[q].toNat, q + 1) else .error (HasTruncated.truncated q)) := by
    show (dite (q < c.size) _ _ : Decoder Nat) c q = _
    by_cases z : q < c.size
    · rw [dif_pos z, dif_pos z]; rfl
    · rw [dif_neg z, dif_neg z]; rfl
  rw [e] at h
  by_cases z : q < c.size
  · rw [dif_pos z] at h
    injection h with h
    injection h with h1 h2
    exact ⟨c[q], List.getElem?_eq_some_iff.mpr ⟨z, rfl⟩, h1.symm, h2.symm⟩
  · rw [dif_neg z] at h
    cases h
theorem RD2_u1 : RD2 (Reader.u1 : Decoder Nat) Reader.u1 := fun b c p q hy x q' e => by
  obtain ⟨v, h1, rfl, rfl⟩ := u1_inv e
  exact ⟨1, rfl, u1_ok (hy 0 v h1)⟩
theorem RD2_map {α β : Type} {r r' : Decoder α} (g : α → β) (h : RD2 r r') : RD2 (g <$> r) (g <$> r') := by
  rw [map_eq_pure_bind, map_eq_pure_bind]
  exact RD2_bind h (fun _ => RD2_pure _)
theorem RD2_u2 : RD2 (Reader.u2 : Decoder Nat) Reader.u2 := RD2_bind RD2_u1 (fun _ => RD2_bind RD2_u1 (fun _ => RD2_pure _))
theorem RD2_s1 : RD2 (Reader.s1 : Decoder Int) Reader.s1 := RD2_map _ RD2_u1
theorem RD2_s2 : RD2 (Reader.s2 : Decoder Int) Reader.s2 := RD2_map _ RD2_u2
theorem fin1 {r r' : Decoder Instr} {b c : ByteArray} {pc q' : Nat} {x : Instr} (h : RD2 r r') (hy : AG b c (pc + 1) (0 + 1)) (e : r' c (0 + 1) = .ok (x, q')) : ∃ m, q' = 0 + m ∧ r b (pc + 1) = .ok (x, pc + m) := by
  obtain ⟨m, h1, h2⟩ := h b c (pc + 1) (0 + 1) hy x q' e
  exact ⟨1 + m, by omega, by rw [h2, Nat.add_assoc]⟩
set_option maxRecDepth 4000 in
set_option maxHeartbeats 4000000 in
theorem in_p0 {b c : ByteArray} {pc : Nat} {v : UInt8} (hy : AG b c pc 0) (hv : c.data.toList[0]? = some v) {x : Instr} {q' : Nat} (e : (Decoder.instr 0) c 0 = .ok (x, q')) (hop : v.toNat ∈ [0, 1, 2, 3, 4, 5, 6, 7, 8, 9, 10, 11, 12, 13, 14, 15, 26, 27, 28, 29, 30, 31, 32, 33, 34, 35, 36, 37, 38, 39, 40, 41, 42, 43, 44, 45, 46, 47, 48, 49]) : ∃ m, q' = 0 + m ∧ (Decoder.instr pc) b pc = .ok (x, pc + m) := by
  have e1 := u1_ok (p := 0) hv
  have e2 := u1_ok (p := pc) (hy 0 v hv)
  have hz := AG_s hy 1
  unfold Decoder.instr at e ⊢
  rw [bind_ok e1] at e
  rw [bind_ok e2]
  simp only [List.mem_cons, List.not_mem_nil, or_false] at hop
  generalize v.toNat = op at e hop ⊢
  rcases hop with rfl | rfl | rfl | rfl | rfl | rfl | rfl | rfl | rfl | rfl | rfl | rfl | rfl | rfl | rfl | rfl | rfl | rfl | rfl | rfl | rfl | rfl | rfl | rfl | rfl | rfl | rfl | rfl | rfl | rfl | rfl | rfl | rfl | rfl | rfl | rfl | rfl | rfl | rfl | rfl <;> exact fin1 (RD2_pure _) hz e
set_option maxRecDepth 4000 in
set_option maxHeartbeats 4000000 in
theorem in_p1 {b c : ByteArray} {pc : Nat} {v : UInt8} (hy : AG b c pc 0) (hv : c.data.toList[0]? = some v) {x : Instr} {q' : Nat} (e : (Decoder.instr 0) c 0 = .ok (x, q')) (hop : v.toNat ∈ [50, 51, 52, 53, 59, 60, 61, 62, 63, 64, 65, 66, 67, 68, 69, 70, 71, 72, 73, 74, 75, 76, 77, 78, 79, 80, 81, 82, 83, 84, 85, 86, 87, 88, 89, 90, 91, 92, 93, 94]) : ∃ m, q' = 0 + m ∧ (Decoder.instr pc) b pc = .ok (x, pc + m) := by
  have e1 := u1_ok (p := 0) hv
  have e2 := u1_ok (p := pc) (hy 0 v hv)
  have hz := AG_s hy 1
  unfold Decoder.instr at e ⊢
  rw [bind_ok e1] at e
  rw [bind_ok e2]
  simp only [List.mem_cons, List.not_mem_nil, or_false] at hop
  generalize v.toNat = op at e hop ⊢
  rcases hop with rfl | rfl | rfl | rfl | rfl | rfl | rfl | rfl | rfl | rfl | rfl | rfl | rfl | rfl | rfl | rfl | rfl | rfl | rfl | rfl | rfl | rfl | rfl | rfl | rfl | rfl | rfl | rfl | rfl | rfl | rfl | rfl | rfl | rfl | rfl | rfl | rfl | rfl | rfl | rfl <;> exact fin1 (RD2_pure _) hz e
set_option maxRecDepth 4000 in
set_option maxHeartbeats 4000000 in
theorem in_p2 {b c : ByteArray} {pc : Nat} {v : UInt8} (hy : AG b c pc 0) (hv : c.data.toList[0]? = some v) {x : Instr} {q' : Nat} (e : (Decoder.instr 0) c 0 = .ok (x, q')) (hop : v.toNat ∈ [95, 96, 97, 98, 99, 100, 101, 102, 103, 104, 105, 106, 107, 108, 109, 110, 111, 112, 113, 114, 115, 116, 117, 118, 119, 120, 121, 122, 123, 124, 125, 126, 127, 128, 129, 130, 131, 133, 134, 135]) : ∃ m, q' = 0 + m ∧ (Decoder.instr pc) b pc = .ok (x, pc + m) := by
  have e1 := u1_ok (p := 0) hv
  have e2 := u1_ok (p := pc) (hy 0 v hv)
  have hz := AG_s hy 1
  unfold Decoder.instr at e ⊢
  rw [bind_ok e1] at e
  rw [bind_ok e2]
  simp only [List.mem_cons, List.not_mem_nil, or_false] at hop
  generalize v.toNat = op at e hop ⊢
  rcases hop with rfl | rfl | rfl | rfl | rfl | rfl | rfl | rfl | rfl | rfl | rfl | rfl | rfl | rfl | rfl | rfl | rfl | rfl | rfl | rfl | rfl | rfl | rfl | rfl | rfl | rfl | rfl | rfl | rfl | rfl | rfl | rfl | rfl | rfl | rfl | rfl | rfl | rfl | rfl | rfl <;> exact fin1 (RD2_pure _) hz e
set_option maxRecDepth 4000 in
set_option maxHeartbeats 4000000 in
theorem in_p3 {b c : ByteArray} {pc : Nat} {v : UInt8} (hy : AG b c pc 0) (hv : c.data.toList[0]? = some v) {x : Instr} {q' : Nat} (e : (Decoder.instr 0) c 0 = .ok (x, q')) (hop : v.toNat ∈ [136, 137, 138, 139, 140, 141, 142, 143, 144, 145, 146, 147, 148, 149, 150, 151, 152, 172, 173, 174, 175, 176, 177, 190, 191, 194, 195]) : ∃ m, q' = 0 + m ∧ (Decoder.instr pc) b pc = .ok (x, pc + m) := by
  have e1 := u1_ok (p := 0) hv
  have e2 := u1_ok (p := pc) (hy 0 v hv)
  have hz := AG_s hy 1
  unfold Decoder.instr at e ⊢
  rw [bind_ok e1] at e
  rw [bind_ok e2]
  simp only [List.mem_cons, List.not_mem_nil, or_false] at hop
  generalize v.toNat = op at e hop ⊢
  rcases hop with rfl | rfl | rfl | rfl | rfl | rfl | rfl | rfl | rfl | rfl | rfl | rfl | rfl | rfl | rfl | rfl | rfl | rfl | rfl | rfl | rfl | rfl | rfl | rfl | rfl | rfl | rfl <;> exact fin1 (RD2_pure _) hz e
set_option maxRecDepth 4000 in
set_option maxHeartbeats 4000000 in
theorem in_u0 {b c : ByteArray} {pc : Nat} {v : UInt8} (hy : AG b c pc 0) (hv : c.data.toList[0]? = some v) {x : Instr} {q' : Nat} (e : (Decoder.instr 0) c 0 = .ok (x, q')) (hop : v.toNat ∈ [18, 21, 22, 23, 24, 25, 54, 55, 56, 57, 58, 169]) : ∃ m, q' = 0 + m ∧ (Decoder.instr pc) b pc = .ok (x, pc + m) := by
  have e1 := u1_ok (p := 0) hv
  have e2 := u1_ok (p := pc) (hy 0 v hv)
  have hz := AG_s hy 1
  unfold Decoder.instr at e ⊢
  rw [bind_ok e1] at e
  rw [bind_ok e2]
  simp only [List.mem_cons, List.not_mem_nil, or_false] at hop
  generalize v.toNat = op at e hop ⊢
  rcases hop with rfl | rfl | rfl | rfl | rfl | rfl | rfl | rfl | rfl | rfl | rfl | rfl <;> exact fin1 (RD2_bind RD2_u1 (fun _ => RD2_pure _)) hz e
set_option maxRecDepth 4000 in
set_option maxHeartbeats 4000000 in
theorem in_t0 {b c : ByteArray} {pc : Nat} {v : UInt8} (hy : AG b c pc 0) (hv : c.data.toList[0]? = some v) {x : Instr} {q' : Nat} (e : (Decoder.instr 0) c 0 = .ok (x, q')) (hop : v.toNat ∈ [16]) : ∃ m, q' = 0 + m ∧ (Decoder.instr pc) b pc = .ok (x, pc + m) := by
  have e1 := u1_ok (p := 0) hv
  have e2 := u1_ok (p := pc) (hy 0 v hv)
  have hz := AG_s hy 1
  unfold Decoder.instr at e ⊢
  rw [bind_ok e1] at e
  rw [bind_ok e2]
  simp only [List.mem_cons, List.not_mem_nil, or_false] at hop
  generalize v.toNat = op at e hop ⊢
  subst hop
  exact fin1 (RD2_bind RD2_s1 (fun _ => RD2_pure _)) hz e
set_option maxRecDepth 4000 in
set_option maxHeartbeats 4000000 in
theorem in_s0 {b c : ByteArray} {pc : Nat} {v : UInt8} (hy : AG b c pc 0) (hv : c.data.toList[0]? = some v) {x : Instr} {q' : Nat} (e : (Decoder.instr 0) c 0 = .ok (x, q')) (hop : v.toNat ∈ [17, 153, 154, 155, 156, 157, 158, 159, 160, 161, 162, 163, 164, 165, 166, 167, 168, 198, 199]) : ∃ m, q' = 0 + m ∧ (Decoder.instr pc) b pc = .ok (x, pc + m) := by
  have e1 := u1_ok (p := 0) hv
  have e2 := u1_ok (p := pc) (hy 0 v hv)
  have hz := AG_s hy 1
  unfold Decoder.instr at e ⊢
  rw [bind_ok e1] at e
  rw [bind_ok e2]
  simp only [List.mem_cons, List.not_mem_nil, or_false] at hop
  generalize v.toNat = op at e hop ⊢
  rcases hop with rfl | rfl | rfl | rfl | rfl | rfl | rfl | rfl | rfl | rfl | rfl | rfl | rfl | rfl | rfl | rfl | rfl | rfl | rfl <;> exact fin1 (RD2_bind RD2_s2 (fun _ => RD2_pure _)) hz e
set_option maxRecDepth 4000 in
set_option maxHeartbeats 4000000 in
theorem in_w0 {b c : ByteArray} {pc : Nat} {v : UInt8} (hy : AG b c pc 0) (hv : c.data.toList[0]? = some v) {x : Instr} {q' : Nat} (e : (Decoder.instr 0) c 0 = .ok (x, q')) (hop : v.toNat ∈ [19, 20, 178, 179, 180, 181, 182, 183, 184, 187, 189, 192, 193]) : ∃ m, q' = 0 + m ∧ (Decoder.instr pc) b pc = .ok (x, pc + m) := by
  have e1 := u1_ok (p := 0) hv
  have e2 := u1_ok (p := pc) (hy 0 v hv)
  have hz := AG_s hy 1
  unfold Decoder.instr at e ⊢
  rw [bind_ok e1] at e
  rw [bind_ok e2]
  simp only [List.mem_cons, List.not_mem_nil, or_false] at hop
  generalize v.toNat = op at e hop ⊢
  rcases hop with rfl | rfl | rfl | rfl | rfl | rfl | rfl | rfl | rfl | rfl | rfl | rfl | rfl <;> exact fin1 (RD2_bind RD2_u2 (fun _ => RD2_pure _)) hz e
set_option maxRecDepth 4000 in
set_option maxHeartbeats 4000000 in
theorem in_i0 {b c : ByteArray} {pc : Nat} {v : UInt8} (hy : AG b c pc 0) (hv : c.data.toList[0]? = some v) {x : Instr} {q' : Nat} (e : (Decoder.instr 0) c 0 = .ok (x, q')) (hop : v.toNat ∈ [132]) : ∃ m, q' = 0 + m ∧ (Decoder.instr pc) b pc = .ok (x, pc + m) := by
  have e1 := u1_ok (p := 0) hv
  have e2 := u1_ok (p := pc) (hy 0 v hv)
  have hz := AG_s hy 1
  unfold Decoder.instr at e ⊢
  rw [bind_ok e1] at e
  rw [bind_ok e2]
  simp only [List.mem_cons, List.not_mem_nil, or_false] at hop
  generalize v.toNat = op at e hop ⊢
  subst hop
  exact fin1 (RD2_bind RD2_u1 (fun _ => RD2_bind RD2_s1 (fun _ => RD2_pure _))) hz e
set_option maxRecDepth 4000 in
set_option maxHeartbeats 4000000 in
theorem in_n0 {b c : ByteArray} {pc : Nat} {v : UInt8} (hy : AG b c pc 0) (hv : c.data.toList[0]? = some v) {x : Instr} {q' : Nat} (e : (Decoder.instr 0) c 0 = .ok (x, q')) (hop : v.toNat ∈ [188]) : ∃ m, q' = 0 + m ∧ (Decoder.instr pc) b pc = .ok (x, pc + m) := by
  have e1 := u1_ok (p := 0) hv
  have e2 := u1_ok (p := pc) (hy 0 v hv)
  have hz := AG_s hy 1
  unfold Decoder.instr at e ⊢
  rw [bind_ok e1] at e
  rw [bind_ok e2]
  simp only [List.mem_cons, List.not_mem_nil, or_false] at hop
  generalize v.toNat = op at e hop ⊢
  subst hop
  exact fin1 (RD2_bind RD2_u1 (fun z => by split <;> first | exact RD2_pure _ | exact RD2_throw _ _)) hz e
def okOp (n : Nat) : Bool := (Nat.ble 0 n && Nat.ble n 169) || (Nat.ble 172 n && Nat.ble n 184) || (Nat.ble 187 n && Nat.ble n 195) || (Nat.ble 198 n && Nat.ble n 199)
theorem okOp_lt {n : Nat} (h : n < 256) (k : okOp n = true) : (n ∈ [0, 1, 2, 3, 4, 5, 6, 7, 8, 9, 10, 11, 12, 13, 14, 15, 26, 27, 28, 29, 30, 31, 32, 33, 34, 35, 36, 37, 38, 39, 40, 41, 42, 43, 44, 45, 46, 47, 48, 49]) ∨ (n ∈ [50, 51, 52, 53, 59, 60, 61, 62, 63, 64, 65, 66, 67, 68, 69, 70, 71, 72, 73, 74, 75, 76, 77, 78, 79, 80, 81, 82, 83, 84, 85, 86, 87, 88, 89, 90, 91, 92, 93, 94]) ∨ (n ∈ [95, 96, 97, 98, 99, 100, 101, 102, 103, 104, 105, 106, 107, 108, 109, 110, 111, 112, 113, 114, 115, 116, 117, 118, 119, 120, 121, 122, 123, 124, 125, 126, 127, 128, 129, 130, 131, 133, 134, 135]) ∨ (n ∈ [136, 137, 138, 139, 140, 141, 142, 143, 144, 145, 146, 147, 148, 149, 150, 151, 152, 172, 173, 174, 175, 176, 177, 190, 191, 194, 195]) ∨ (n ∈ [18, 21, 22, 23, 24, 25, 54, 55, 56, 57, 58, 169]) ∨ (n ∈ [16]) ∨ (n ∈ [17, 153, 154, 155, 156, 157, 158, 159, 160, 161, 162, 163, 164, 165, 166, 167, 168, 198, 199]) ∨ (n ∈ [19, 20, 178, 179, 180, 181, 182, 183, 184, 187, 189, 192, 193]) ∨ (n ∈ [132]) ∨ (n ∈ [188]) := by
  have key : ∀ j : Fin 256, okOp j.val = true → (j.val ∈ [0, 1, 2, 3, 4, 5, 6, 7, 8, 9, 10, 11, 12, 13, 14, 15, 26, 27, 28, 29, 30, 31, 32, 33, 34, 35, 36, 37, 38, 39, 40, 41, 42, 43, 44, 45, 46, 47, 48, 49]) ∨ (j.val ∈ [50, 51, 52, 53, 59, 60, 61, 62, 63, 64, 65, 66, 67, 68, 69, 70, 71, 72, 73, 74, 75, 76, 77, 78, 79, 80, 81, 82, 83, 84, 85, 86, 87, 88, 89, 90, 91, 92, 93, 94]) ∨ (j.val ∈ [95, 96, 97, 98, 99, 100, 101, 102, 103, 104, 105, 106, 107, 108, 109, 110, 111, 112, 113, 114, 115, 116, 117, 118, 119, 120, 121, 122, 123, 124, 125, 126, 127, 128, 129, 130, 131, 133, 134, 135]) ∨ (j.val ∈ [136, 137, 138, 139, 140, 141, 142, 143, 144, 145, 146, 147, 148, 149, 150, 151, 152, 172, 173, 174, 175, 176, 177, 190, 191, 194, 195]) ∨ (j.val ∈ [18, 21, 22, 23, 24, 25, 54, 55, 56, 57, 58, 169]) ∨ (j.val ∈ [16]) ∨ (j.val ∈ [17, 153, 154, 155, 156, 157, 158, 159, 160, 161, 162, 163, 164, 165, 166, 167, 168, 198, 199]) ∨ (j.val ∈ [19, 20, 178, 179, 180, 181, 182, 183, 184, 187, 189, 192, 193]) ∨ (j.val ∈ [132]) ∨ (j.val ∈ [188]) := by decide +kernel
  exact key ⟨n, h⟩ k
theorem instr_loc {b c : ByteArray} {pc : Nat} {v : UInt8} (hy : AG b c pc 0) (hv : c.data.toList[0]? = some v) {x : Instr} {q' : Nat} (e : (Decoder.instr 0) c 0 = .ok (x, q')) (hop : okOp v.toNat = true) : ∃ m, q' = 0 + m ∧ (Decoder.instr pc) b pc = .ok (x, pc + m) := by
  rcases okOp_lt v.toNat_lt hop with h | h | h | h | h | h | h | h | h | h
  · exact in_p0 hy hv e h
  · exact in_p1 hy hv e h
  · exact in_p2 hy hv e h
  · exact in_p3 hy hv e h
  · exact in_u0 hy hv e h
  · exact in_t0 hy hv e h
  · exact in_s0 hy hv e h
  · exact in_w0 hy hv e h
  · exact in_i0 hy hv e h
  · exact in_n0 hy hv e h
theorem dec_loc {b c : ByteArray} {pc n : Nat} {v : UInt8} {i : Instr} (hy : AG b c pc 0) (hv : c.data.toList[0]? = some v) (hop : okOp v.toNat = true) (e : decode c 0 = .ok (i, n)) : decode b pc = .ok (i, n) := by
  have e : Except.bind ((Decoder.instr 0) c 0) (fun z => (.ok (z.1, z.2 - 0) : Except _ (Instr × Nat))) = .ok (i, n) := e
  cases hr : (Decoder.instr 0) c 0 with
  | error er =>
    rw [hr] at e
    cases e
  | ok y =>
    obtain ⟨y1, y2⟩ := y
    rw [hr] at e
    have e : (.ok (y1, y2 - 0) : Except DecodeError (Instr × Nat)) = .ok (i, n) := e
    injection e with e
    injection e with e1 e2
    subst e1
    obtain ⟨m, hm, h1⟩ := instr_loc hy hv hr hop
    show Except.bind ((Decoder.instr pc) b pc) (fun z => (.ok (z.1, z.2 - pc) : Except _ (Instr × Nat))) = _
    rw [h1]
    show (.ok (y1, pc + m - pc) : Except DecodeError (Instr × Nat)) = _
    rw [show pc + m - pc = n by omega]
def isSw (i : Instr) : Bool := match i with
  | .tableswitch _ _ _ _ => true
  | .lookupswitch _ _ => true
  | _ => false
def chkJ (q : AI) : Bool := (ilen q.2.1 == 0 || ilen q.2.1 == q.2.2.1) && (match ioff q.2.1 with
  | some o => decide ((q.1 : Int) + o = (q.2.2.2 : Int))
  | none => true)
end LOC
end
