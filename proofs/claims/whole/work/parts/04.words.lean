/-! the words of the tables, by their places -/
theorem w_s0 : Cond.selects "SignalBoard" ⟨"SignalBoard", "wireSerial", "()V"⟩ ⟨"SignalBoard", "wireSerial", "()V"⟩ ∈ WB := wb_mem 0 (by decide +kernel) rfl
theorem w_s1 : Cond.selects "SignalBoard$Controller" ⟨"SignalBoard$Controller", "letWait", "()V"⟩ ⟨"SignalBoard$Controller", "letWait", "()V"⟩ ∈ WB := wb_mem 1 (by decide +kernel) rfl
theorem w_s2 : Cond.selects "java/lang/Throwable" ⟨"java/lang/Throwable", "fillInStackTrace", "(I)Ljava/lang/Throwable;"⟩ ⟨"java/lang/Throwable", "fillInStackTrace", "(I)Ljava/lang/Throwable;"⟩ ∈ WB := wb_mem 2 (by decide +kernel) rfl
theorem w_s3 : Cond.selects "SignalBoard$Timer" ⟨"SignalBoard$Timer", "softAt", "(JI)I"⟩ ⟨"SignalBoard$Timer", "softAt", "(JI)I"⟩ ∈ WB := wb_mem 3 (by decide +kernel) rfl
theorem w_s4 : Cond.selects "SignalBoard$Timer" ⟨"SignalBoard$Timer", "wideAt", "(JI)I"⟩ ⟨"SignalBoard$Timer", "wideAt", "(JI)I"⟩ ∈ WB := wb_mem 4 (by decide +kernel) rfl
theorem w_s5 : Cond.selects "SignalBoard$Controller" ⟨"SignalBoard$Controller", "claim", "(I)I"⟩ ⟨"SignalBoard$Controller", "claim", "(I)I"⟩ ∈ WB := wb_mem 5 (by decide +kernel) rfl
theorem w_s6 : Cond.selects "SignalBoard$Controller" ⟨"SignalBoard$Controller", "mostUrgent", "(I)I"⟩ ⟨"SignalBoard$Controller", "mostUrgent", "(I)I"⟩ ∈ WB := wb_mem 6 (by decide +kernel) rfl
theorem w_s7 : Cond.selects "SignalBoard$SerialLine" ⟨"SignalBoard$SerialLine", "showsOthers", "()Z"⟩ ⟨"SignalBoard$SerialLine", "showsOthers", "()Z"⟩ ∈ WB := wb_mem 7 (by decide +kernel) rfl
theorem w_s8 : Cond.selects "SignalBoard$SerialLine" ⟨"SignalBoard$SerialLine", "loadCause", "()I"⟩ ⟨"SignalBoard$SerialLine", "loadCause", "()I"⟩ ∈ WB := wb_mem 8 (by decide +kernel) rfl
theorem w_s9 : Cond.selects "SignalBoard$SerialLine" ⟨"SignalBoard$SerialLine", "loadLineState", "()I"⟩ ⟨"SignalBoard$SerialLine", "loadLineState", "()I"⟩ ∈ WB := wb_mem 9 (by decide +kernel) rfl
theorem w_s10 : Cond.selects "SignalBoard$SerialLine" ⟨"SignalBoard$SerialLine", "modemState", "()I"⟩ ⟨"SignalBoard$SerialLine", "modemState", "()I"⟩ ∈ WB := wb_mem 10 (by decide +kernel) rfl
theorem w_s11 : Cond.selects "SignalBoard$Controller" ⟨"SignalBoard$Controller", "complete", "(II)V"⟩ ⟨"SignalBoard$Controller", "complete", "(II)V"⟩ ∈ WB := wb_mem 11 (by decide +kernel) rfl
theorem w_s12 : Cond.selects "SignalBoard$SerialLine" ⟨"SignalBoard$SerialLine", "storeData", "(I)V"⟩ ⟨"SignalBoard$SerialLine", "storeData", "(I)V"⟩ ∈ WB := wb_mem 12 (by decide +kernel) rfl
theorem w_s13 : Cond.selects "SignalBoard$SerialLine" ⟨"SignalBoard$SerialLine", "storeEnables", "(I)V"⟩ ⟨"SignalBoard$SerialLine", "storeEnables", "(I)V"⟩ ∈ WB := wb_mem 13 (by decide +kernel) rfl
theorem w_s14 : Cond.selects "SignalBoardModel" ⟨"SignalBoardModel", "readTimer", "(JI)J"⟩ ⟨"SignalBoardModel", "readTimer", "(JI)J"⟩ ∈ WB := wb_mem 14 (by decide +kernel) rfl
theorem w_s15 : Cond.selects "SignalBoardModel" ⟨"SignalBoardModel", "eightAt", "(J)I"⟩ ⟨"SignalBoardModel", "eightAt", "(J)I"⟩ ∈ WB := wb_mem 15 (by decide +kernel) rfl
theorem w_s16 : Cond.selects "SignalBoardModel" ⟨"SignalBoardModel", "eight", "(I)J"⟩ ⟨"SignalBoardModel", "eight", "(I)J"⟩ ∈ WB := wb_mem 16 (by decide +kernel) rfl
theorem w_s17 : Cond.selects "SignalBoardModel" ⟨"SignalBoardModel", "readController", "(J)J"⟩ ⟨"SignalBoardModel", "readController", "(J)J"⟩ ∈ WB := wb_mem 17 (by decide +kernel) rfl
theorem w_s18 : Cond.selects "SignalBoardModel" ⟨"SignalBoardModel", "waiting", "()J"⟩ ⟨"SignalBoardModel", "waiting", "()J"⟩ ∈ WB := wb_mem 18 (by decide +kernel) rfl
theorem w_s19 : Cond.selects "SignalBoardModel" ⟨"SignalBoardModel", "contextAt", "(JJJ)I"⟩ ⟨"SignalBoardModel", "contextAt", "(JJJ)I"⟩ ∈ WB := wb_mem 19 (by decide +kernel) rfl
theorem w_s20 : Cond.selects "SignalBoardModel" ⟨"SignalBoardModel", "claim", "(I)J"⟩ ⟨"SignalBoardModel", "claim", "(I)J"⟩ ∈ WB := wb_mem 20 (by decide +kernel) rfl
theorem w_s21 : Cond.selects "SignalBoardModel" ⟨"SignalBoardModel", "best", "(I)I"⟩ ⟨"SignalBoardModel", "best", "(I)I"⟩ ∈ WB := wb_mem 21 (by decide +kernel) rfl
theorem w_s22 : Cond.selects "SignalBoardModel" ⟨"SignalBoardModel", "enables", "(II)Z"⟩ ⟨"SignalBoardModel", "enables", "(II)Z"⟩ ∈ WB := wb_mem 22 (by decide +kernel) rfl
theorem w_s23 : Cond.selects "SignalBoardModel" ⟨"SignalBoardModel", "readSerial", "(I)J"⟩ ⟨"SignalBoardModel", "readSerial", "(I)J"⟩ ∈ WB := wb_mem 23 (by decide +kernel) rfl
theorem w_s24 : Cond.selects "SignalBoardModel" ⟨"SignalBoardModel", "hasBit", "(II)Z"⟩ ⟨"SignalBoardModel", "hasBit", "(II)Z"⟩ ∈ WB := wb_mem 24 (by decide +kernel) rfl
theorem w_s25 : Cond.selects "SignalBoardModel" ⟨"SignalBoardModel", "takeOut", "()I"⟩ ⟨"SignalBoardModel", "takeOut", "()I"⟩ ∈ WB := wb_mem 25 (by decide +kernel) rfl
theorem w_s26 : Cond.selects "SignalBoardModel" ⟨"SignalBoardModel", "readCause", "()I"⟩ ⟨"SignalBoardModel", "readCause", "()I"⟩ ∈ WB := wb_mem 26 (by decide +kernel) rfl
theorem w_s27 : Cond.selects "SignalBoardModel" ⟨"SignalBoardModel", "cause", "()I"⟩ ⟨"SignalBoardModel", "cause", "()I"⟩ ∈ WB := wb_mem 27 (by decide +kernel) rfl
theorem w_s28 : Cond.selects "SignalBoardModel" ⟨"SignalBoardModel", "readState", "()I"⟩ ⟨"SignalBoardModel", "readState", "()I"⟩ ∈ WB := wb_mem 28 (by decide +kernel) rfl
theorem w_s29 : Cond.selects "SignalBoardModel" ⟨"SignalBoardModel", "looped", "()I"⟩ ⟨"SignalBoardModel", "looped", "()I"⟩ ∈ WB := wb_mem 29 (by decide +kernel) rfl
theorem w_s30 : Cond.selects "SignalBoardModel" ⟨"SignalBoardModel", "settle", "()V"⟩ ⟨"SignalBoardModel", "settle", "()V"⟩ ∈ WB := wb_mem 30 (by decide +kernel) rfl
theorem w_s31 : Cond.selects "SignalBoardModel" ⟨"SignalBoardModel", "writeTimer", "(JIJ)V"⟩ ⟨"SignalBoardModel", "writeTimer", "(JIJ)V"⟩ ∈ WB := wb_mem 31 (by decide +kernel) rfl
theorem w_s32 : Cond.selects "SignalBoardModel" ⟨"SignalBoardModel", "setEight", "(IJ)V"⟩ ⟨"SignalBoardModel", "setEight", "(IJ)V"⟩ ∈ WB := wb_mem 32 (by decide +kernel) rfl
theorem w_s33 : Cond.selects "SignalBoardModel" ⟨"SignalBoardModel", "writeController", "(JJ)V"⟩ ⟨"SignalBoardModel", "writeController", "(JJ)V"⟩ ∈ WB := wb_mem 33 (by decide +kernel) rfl
theorem w_s34 : Cond.selects "SignalBoardModel" ⟨"SignalBoardModel", "writeSerial", "(II)V"⟩ ⟨"SignalBoardModel", "writeSerial", "(II)V"⟩ ∈ WB := wb_mem 34 (by decide +kernel) rfl
theorem w_s35 : Cond.selects "SignalBoardModel" ⟨"SignalBoardModel", "send", "(I)V"⟩ ⟨"SignalBoardModel", "send", "(I)V"⟩ ∈ WB := wb_mem 35 (by decide +kernel) rfl
theorem w_s36 : Cond.selects "SignalBoardModel" ⟨"SignalBoardModel", "takeIn", "(I)Z"⟩ ⟨"SignalBoardModel", "takeIn", "(I)Z"⟩ ∈ WB := wb_mem 36 (by decide +kernel) rfl
theorem w_s37 : Cond.selects "SignalBoardModel" ⟨"SignalBoardModel", "space", "()I"⟩ ⟨"SignalBoardModel", "space", "()I"⟩ ∈ WB := wb_mem 37 (by decide +kernel) rfl
theorem w_s38 : Cond.selects "SignalBoardModel" ⟨"SignalBoardModel", "above", "(I)Z"⟩ ⟨"SignalBoardModel", "above", "(I)Z"⟩ ∈ WB := wb_mem 38 (by decide +kernel) rfl
theorem w_0 : (Jvm.Cond.initialized "SignalBoardLaw") ∈ WB := wb_mem 39 (by decide +kernel) rfl
theorem w_1 : (Jvm.Cond.initialized "SignalBoard") ∈ WB := wb_mem 40 (by decide +kernel) rfl
theorem w_2 : (Jvm.Cond.initialized "SignalBoard$Timer") ∈ WB := wb_mem 41 (by decide +kernel) rfl
theorem w_3 : (Jvm.Cond.initialized "java/util/Arrays") ∈ WB := wb_mem 42 (by decide +kernel) rfl
theorem w_4 : (Jvm.Cond.initialized "SignalBoard$Controller") ∈ WB := wb_mem 43 (by decide +kernel) rfl
theorem w_5 : (Jvm.Cond.initialized "SignalBoard$SerialLine") ∈ WB := wb_mem 44 (by decide +kernel) rfl
theorem w_6 : (Jvm.Cond.initialized "SignalBoard$InQueue") ∈ WB := wb_mem 45 (by decide +kernel) rfl
theorem w_7 : (Jvm.Cond.initialized "SignalBoard$OutLog") ∈ WB := wb_mem 46 (by decide +kernel) rfl
theorem w_8 : (Jvm.Cond.initialized "SignalBoardModel") ∈ WB := wb_mem 47 (by decide +kernel) rfl
theorem w_9 : (Jvm.Cond.initialized "java/lang/Throwable") ∈ WB := wb_mem 48 (by decide +kernel) rfl
theorem w_10 : (Jvm.Cond.initialized "java/lang/Exception") ∈ WB := wb_mem 49 (by decide +kernel) rfl
theorem w_11 : (Jvm.Cond.initialized "java/lang/RuntimeException") ∈ WB := wb_mem 50 (by decide +kernel) rfl
theorem w_12 : (Jvm.Cond.initialized "java/lang/IllegalArgumentException") ∈ WB := wb_mem 51 (by decide +kernel) rfl
theorem w_13 : (Jvm.Cond.initialized "java/lang/Long") ∈ WB := wb_mem 52 (by decide +kernel) rfl
theorem w_14 : (Jvm.Cond.classLink "SignalBoardLaw" (8 : Nat) "SignalBoard") ∈ WB := wb_mem 53 (by decide +kernel) rfl
theorem w_15 : (Jvm.Cond.instantiable "SignalBoard" (4 : Nat)) ∈ WB := wb_mem 54 (by decide +kernel) rfl
theorem w_16 : (Jvm.Cond.methodLink "SignalBoardLaw" (33 : Nat) ({ cls := "SignalBoard", name := "<init>", desc := "(I)V" } : Jvm.MethodName)) ∈ WB := wb_mem 55 (by decide +kernel) rfl
theorem w_17 : (Jvm.Cond.instanceMethod ({ cls := "SignalBoard", name := "<init>", desc := "(I)V" } : Jvm.MethodName)) ∈ WB := wb_mem 56 (by decide +kernel) rfl
theorem w_18 : (Jvm.Cond.code ({ cls := "SignalBoard", name := "<init>", desc := "(I)V" } : Jvm.MethodName) prog_1_method_1_code (2 : Nat) (Option.none : Option Jvm.ClassFile.FieldType)) ∈ WB := wb_mem 57 (by decide +kernel) rfl
theorem w_19 : (Jvm.Cond.methodLink "SignalBoard" (1 : Nat) ({ cls := "java/lang/Object", name := "<init>", desc := "()V" } : Jvm.MethodName)) ∈ WB := wb_mem 58 (by decide +kernel) rfl
theorem w_20 : (Jvm.Cond.instanceMethod ({ cls := "java/lang/Object", name := "<init>", desc := "()V" } : Jvm.MethodName)) ∈ WB := wb_mem 59 (by decide +kernel) rfl
theorem w_21 : (Jvm.Cond.code ({ cls := "java/lang/Object", name := "<init>", desc := "()V" } : Jvm.MethodName) object_method_1_code (1 : Nat) (Option.none : Option Jvm.ClassFile.FieldType)) ∈ WB := wb_mem 60 (by decide +kernel) rfl
theorem w_22 : (Jvm.Cond.classLink "SignalBoard" (13 : Nat) "SignalBoard$Timer") ∈ WB := wb_mem 61 (by decide +kernel) rfl
theorem w_23 : (Jvm.Cond.instantiable "SignalBoard$Timer" (3 : Nat)) ∈ WB := wb_mem 62 (by decide +kernel) rfl
theorem w_24 : (Jvm.Cond.methodLink "SignalBoard" (15 : Nat) ({ cls := "SignalBoard$Timer", name := "<init>", desc := "(I)V" } : Jvm.MethodName)) ∈ WB := wb_mem 63 (by decide +kernel) rfl
theorem w_25 : (Jvm.Cond.instanceMethod ({ cls := "SignalBoard$Timer", name := "<init>", desc := "(I)V" } : Jvm.MethodName)) ∈ WB := wb_mem 64 (by decide +kernel) rfl
theorem w_26 : (Jvm.Cond.code ({ cls := "SignalBoard$Timer", name := "<init>", desc := "(I)V" } : Jvm.MethodName) prog_6_method_1_code (2 : Nat) (Option.none : Option Jvm.ClassFile.FieldType)) ∈ WB := wb_mem 65 (by decide +kernel) rfl
theorem w_27 : (Jvm.Cond.methodLink "SignalBoard$Timer" (3 : Nat) ({ cls := "java/lang/Object", name := "<init>", desc := "()V" } : Jvm.MethodName)) ∈ WB := wb_mem 66 (by decide +kernel) rfl
theorem w_28 : (Jvm.Cond.constantLong "SignalBoard$Timer" (23 : Nat) (-1 : Int64)) ∈ WB := wb_mem 67 (by decide +kernel) rfl
theorem w_29 : (Jvm.Cond.methodLink "SignalBoard$Timer" (25 : Nat) ({ cls := "java/util/Arrays", name := "fill", desc := "([JJ)V" } : Jvm.MethodName)) ∈ WB := wb_mem 68 (by decide +kernel) rfl
theorem w_30 : (Jvm.Cond.static ({ cls := "java/util/Arrays", name := "fill", desc := "([JJ)V" } : Jvm.MethodName)) ∈ WB := wb_mem 69 (by decide +kernel) rfl
theorem w_31 : (Jvm.Cond.code ({ cls := "java/util/Arrays", name := "fill", desc := "([JJ)V" } : Jvm.MethodName) prog_15_method_101_code (5 : Nat) (Option.none : Option Jvm.ClassFile.FieldType)) ∈ WB := wb_mem 70 (by decide +kernel) rfl
theorem w_32 : (Jvm.Cond.fieldLink "SignalBoard$Timer" (9 : Nat) "SignalBoard$Timer" "soft" "[I") ∈ WB := wb_mem 71 (by decide +kernel) rfl
theorem w_33 : (Jvm.Cond.fieldLink "SignalBoard$Timer" (15 : Nat) "SignalBoard$Timer" "wide" "[J") ∈ WB := wb_mem 72 (by decide +kernel) rfl
theorem w_34 : (Jvm.Cond.fieldLink "SignalBoard$Timer" (19 : Nat) "SignalBoard$Timer" "timeSlot" "I") ∈ WB := wb_mem 73 (by decide +kernel) rfl
theorem w_35 : (Jvm.Cond.laysFinal "SignalBoard$Timer" "SignalBoard$Timer" "soft" "[I") ∈ WB := wb_mem 74 (by decide +kernel) rfl
theorem w_36 : (Jvm.Cond.soleField "SignalBoard$Timer" "soft") ∈ WB := wb_mem 75 (by decide +kernel) rfl
theorem w_37 : (Jvm.Cond.laysFinal "SignalBoard$Timer" "SignalBoard$Timer" "wide" "[J") ∈ WB := wb_mem 76 (by decide +kernel) rfl
theorem w_38 : (Jvm.Cond.soleField "SignalBoard$Timer" "wide") ∈ WB := wb_mem 77 (by decide +kernel) rfl
theorem w_39 : (Jvm.Cond.laysFinal "SignalBoard$Timer" "SignalBoard$Timer" "timeSlot" "I") ∈ WB := wb_mem 78 (by decide +kernel) rfl
theorem w_40 : (Jvm.Cond.soleField "SignalBoard$Timer" "timeSlot") ∈ WB := wb_mem 79 (by decide +kernel) rfl
theorem w_41 : (Jvm.Cond.superclass "SignalBoard$Timer" "java/lang/Object") ∈ WB := wb_mem 80 (by decide +kernel) rfl
theorem w_42 : (Jvm.Cond.arrayClass Jvm.ClassFile.FieldType.int) ∈ WB := wb_mem 81 (by decide +kernel) rfl
theorem w_43 : (Jvm.Cond.arrayClass Jvm.ClassFile.FieldType.long) ∈ WB := wb_mem 82 (by decide +kernel) rfl
theorem w_44 : (Jvm.Cond.classLink "SignalBoard" (22 : Nat) "SignalBoard$Controller") ∈ WB := wb_mem 83 (by decide +kernel) rfl
theorem w_45 : (Jvm.Cond.instantiable "SignalBoard$Controller" (7 : Nat)) ∈ WB := wb_mem 84 (by decide +kernel) rfl
theorem w_46 : (Jvm.Cond.methodLink "SignalBoard" (24 : Nat) ({ cls := "SignalBoard$Controller", name := "<init>", desc := "(I)V" } : Jvm.MethodName)) ∈ WB := wb_mem 85 (by decide +kernel) rfl
theorem w_47 : (Jvm.Cond.instanceMethod ({ cls := "SignalBoard$Controller", name := "<init>", desc := "(I)V" } : Jvm.MethodName)) ∈ WB := wb_mem 86 (by decide +kernel) rfl
theorem w_48 : (Jvm.Cond.code ({ cls := "SignalBoard$Controller", name := "<init>", desc := "(I)V" } : Jvm.MethodName) prog_2_method_1_code (2 : Nat) (Option.none : Option Jvm.ClassFile.FieldType)) ∈ WB := wb_mem 87 (by decide +kernel) rfl
theorem w_49 : (Jvm.Cond.methodLink "SignalBoard$Controller" (3 : Nat) ({ cls := "java/lang/Object", name := "<init>", desc := "()V" } : Jvm.MethodName)) ∈ WB := wb_mem 88 (by decide +kernel) rfl
theorem w_50 : (Jvm.Cond.fieldLink "SignalBoard$Controller" (50 : Nat) "SignalBoard$Controller" "signals" "I") ∈ WB := wb_mem 89 (by decide +kernel) rfl
theorem w_51 : (Jvm.Cond.fieldLink "SignalBoard$Controller" (27 : Nat) "SignalBoard$Controller" "waiting" "I") ∈ WB := wb_mem 90 (by decide +kernel) rfl
theorem w_52 : (Jvm.Cond.fieldLink "SignalBoard$Controller" (59 : Nat) "SignalBoard$Controller" "served" "I") ∈ WB := wb_mem 91 (by decide +kernel) rfl
theorem w_53 : (Jvm.Cond.fieldLink "SignalBoard$Controller" (9 : Nat) "SignalBoard$Controller" "priority" "[I") ∈ WB := wb_mem 92 (by decide +kernel) rfl
theorem w_54 : (Jvm.Cond.fieldLink "SignalBoard$Controller" (19 : Nat) "SignalBoard$Controller" "enables" "[I") ∈ WB := wb_mem 93 (by decide +kernel) rfl
theorem w_55 : (Jvm.Cond.fieldLink "SignalBoard$Controller" (22 : Nat) "SignalBoard$Controller" "threshold" "[I") ∈ WB := wb_mem 94 (by decide +kernel) rfl
theorem w_56 : (Jvm.Cond.fieldLink "SignalBoard$Controller" (15 : Nat) "SignalBoard$Controller" "contexts" "I") ∈ WB := wb_mem 95 (by decide +kernel) rfl
theorem w_57 : (Jvm.Cond.lays "SignalBoard$Controller" "SignalBoard$Controller" "signals" "I") ∈ WB := wb_mem 96 (by decide +kernel) rfl
theorem w_58 : (Jvm.Cond.soleField "SignalBoard$Controller" "signals") ∈ WB := wb_mem 97 (by decide +kernel) rfl
theorem w_59 : (Jvm.Cond.lays "SignalBoard$Controller" "SignalBoard$Controller" "waiting" "I") ∈ WB := wb_mem 98 (by decide +kernel) rfl
theorem w_60 : (Jvm.Cond.soleField "SignalBoard$Controller" "waiting") ∈ WB := wb_mem 99 (by decide +kernel) rfl
theorem w_61 : (Jvm.Cond.lays "SignalBoard$Controller" "SignalBoard$Controller" "served" "I") ∈ WB := wb_mem 100 (by decide +kernel) rfl
theorem w_62 : (Jvm.Cond.soleField "SignalBoard$Controller" "served") ∈ WB := wb_mem 101 (by decide +kernel) rfl
theorem w_63 : (Jvm.Cond.laysFinal "SignalBoard$Controller" "SignalBoard$Controller" "priority" "[I") ∈ WB := wb_mem 102 (by decide +kernel) rfl
theorem w_64 : (Jvm.Cond.soleField "SignalBoard$Controller" "priority") ∈ WB := wb_mem 103 (by decide +kernel) rfl
theorem w_65 : (Jvm.Cond.laysFinal "SignalBoard$Controller" "SignalBoard$Controller" "enables" "[I") ∈ WB := wb_mem 104 (by decide +kernel) rfl
theorem w_66 : (Jvm.Cond.soleField "SignalBoard$Controller" "enables") ∈ WB := wb_mem 105 (by decide +kernel) rfl
theorem w_67 : (Jvm.Cond.laysFinal "SignalBoard$Controller" "SignalBoard$Controller" "threshold" "[I") ∈ WB := wb_mem 106 (by decide +kernel) rfl
theorem w_68 : (Jvm.Cond.soleField "SignalBoard$Controller" "threshold") ∈ WB := wb_mem 107 (by decide +kernel) rfl
theorem w_69 : (Jvm.Cond.laysFinal "SignalBoard$Controller" "SignalBoard$Controller" "contexts" "I") ∈ WB := wb_mem 108 (by decide +kernel) rfl
theorem w_70 : (Jvm.Cond.soleField "SignalBoard$Controller" "contexts") ∈ WB := wb_mem 109 (by decide +kernel) rfl
theorem w_71 : (Jvm.Cond.superclass "SignalBoard$Controller" "java/lang/Object") ∈ WB := wb_mem 110 (by decide +kernel) rfl
theorem w_72 : (Jvm.Cond.classLink "SignalBoard" (29 : Nat) "SignalBoard$SerialLine") ∈ WB := wb_mem 111 (by decide +kernel) rfl
theorem w_73 : (Jvm.Cond.instantiable "SignalBoard$SerialLine" (10 : Nat)) ∈ WB := wb_mem 112 (by decide +kernel) rfl
theorem w_75 : (Jvm.Cond.instanceMethod ({ cls := "SignalBoard$SerialLine", name := "<init>", desc := "()V" } : Jvm.MethodName)) ∈ WB := wb_mem 114 (by decide +kernel) rfl
theorem w_76 : (Jvm.Cond.code ({ cls := "SignalBoard$SerialLine", name := "<init>", desc := "()V" } : Jvm.MethodName) prog_5_method_1_code (1 : Nat) (Option.none : Option Jvm.ClassFile.FieldType)) ∈ WB := wb_mem 115 (by decide +kernel) rfl
theorem w_77 : (Jvm.Cond.methodLink "SignalBoard$SerialLine" (1 : Nat) ({ cls := "java/lang/Object", name := "<init>", desc := "()V" } : Jvm.MethodName)) ∈ WB := wb_mem 116 (by decide +kernel) rfl
theorem w_78 : (Jvm.Cond.classLink "SignalBoard$SerialLine" (7 : Nat) "SignalBoard$InQueue") ∈ WB := wb_mem 117 (by decide +kernel) rfl
theorem w_79 : (Jvm.Cond.instantiable "SignalBoard$InQueue" (4 : Nat)) ∈ WB := wb_mem 118 (by decide +kernel) rfl
theorem w_81 : (Jvm.Cond.instanceMethod ({ cls := "SignalBoard$InQueue", name := "<init>", desc := "()V" } : Jvm.MethodName)) ∈ WB := wb_mem 120 (by decide +kernel) rfl
theorem w_82 : (Jvm.Cond.code ({ cls := "SignalBoard$InQueue", name := "<init>", desc := "()V" } : Jvm.MethodName) prog_3_method_1_code (1 : Nat) (Option.none : Option Jvm.ClassFile.FieldType)) ∈ WB := wb_mem 121 (by decide +kernel) rfl
theorem w_83 : (Jvm.Cond.methodLink "SignalBoard$InQueue" (1 : Nat) ({ cls := "java/lang/Object", name := "<init>", desc := "()V" } : Jvm.MethodName)) ∈ WB := wb_mem 122 (by decide +kernel) rfl
theorem w_84 : (Jvm.Cond.fieldLink "SignalBoard$InQueue" (9 : Nat) "SignalBoard$InQueue" "ring" "[I") ∈ WB := wb_mem 123 (by decide +kernel) rfl
theorem w_85 : (Jvm.Cond.fieldLink "SignalBoard$InQueue" (25 : Nat) "SignalBoard$InQueue" "first" "I") ∈ WB := wb_mem 124 (by decide +kernel) rfl
theorem w_86 : (Jvm.Cond.fieldLink "SignalBoard$InQueue" (17 : Nat) "SignalBoard$InQueue" "held" "I") ∈ WB := wb_mem 125 (by decide +kernel) rfl
theorem w_88 : (Jvm.Cond.fieldLink "SignalBoard$InQueue" (13 : Nat) "SignalBoard$InQueue" "queueing" "Z") ∈ WB := wb_mem 127 (by decide +kernel) rfl
theorem w_90 : (Jvm.Cond.laysFinal "SignalBoard$InQueue" "SignalBoard$InQueue" "ring" "[I") ∈ WB := wb_mem 129 (by decide +kernel) rfl
theorem w_91 : (Jvm.Cond.soleField "SignalBoard$InQueue" "ring") ∈ WB := wb_mem 130 (by decide +kernel) rfl
theorem w_92 : (Jvm.Cond.lays "SignalBoard$InQueue" "SignalBoard$InQueue" "first" "I") ∈ WB := wb_mem 131 (by decide +kernel) rfl
theorem w_93 : (Jvm.Cond.soleField "SignalBoard$InQueue" "first") ∈ WB := wb_mem 132 (by decide +kernel) rfl
theorem w_94 : (Jvm.Cond.lays "SignalBoard$InQueue" "SignalBoard$InQueue" "held" "I") ∈ WB := wb_mem 133 (by decide +kernel) rfl
theorem w_95 : (Jvm.Cond.soleField "SignalBoard$InQueue" "held") ∈ WB := wb_mem 134 (by decide +kernel) rfl
theorem w_96 : (Jvm.Cond.lays "SignalBoard$InQueue" "SignalBoard$InQueue" "queueing" "Z") ∈ WB := wb_mem 135 (by decide +kernel) rfl
theorem w_97 : (Jvm.Cond.soleField "SignalBoard$InQueue" "queueing") ∈ WB := wb_mem 136 (by decide +kernel) rfl
theorem w_98 : (Jvm.Cond.superclass "SignalBoard$InQueue" "java/lang/Object") ∈ WB := wb_mem 137 (by decide +kernel) rfl
theorem w_99 : (Jvm.Cond.classLink "SignalBoard$SerialLine" (16 : Nat) "SignalBoard$OutLog") ∈ WB := wb_mem 138 (by decide +kernel) rfl
theorem w_100 : (Jvm.Cond.instantiable "SignalBoard$OutLog" (2 : Nat)) ∈ WB := wb_mem 139 (by decide +kernel) rfl
theorem w_102 : (Jvm.Cond.instanceMethod ({ cls := "SignalBoard$OutLog", name := "<init>", desc := "()V" } : Jvm.MethodName)) ∈ WB := wb_mem 141 (by decide +kernel) rfl
theorem w_103 : (Jvm.Cond.code ({ cls := "SignalBoard$OutLog", name := "<init>", desc := "()V" } : Jvm.MethodName) prog_4_method_1_code (1 : Nat) (Option.none : Option Jvm.ClassFile.FieldType)) ∈ WB := wb_mem 142 (by decide +kernel) rfl
theorem w_104 : (Jvm.Cond.methodLink "SignalBoard$OutLog" (1 : Nat) ({ cls := "java/lang/Object", name := "<init>", desc := "()V" } : Jvm.MethodName)) ∈ WB := wb_mem 143 (by decide +kernel) rfl
theorem w_105 : (Jvm.Cond.fieldLink "SignalBoard$OutLog" (9 : Nat) "SignalBoard$OutLog" "ring" "[B") ∈ WB := wb_mem 144 (by decide +kernel) rfl
theorem w_106 : (Jvm.Cond.fieldLink "SignalBoard$OutLog" (13 : Nat) "SignalBoard$OutLog" "total" "J") ∈ WB := wb_mem 145 (by decide +kernel) rfl
theorem w_108 : (Jvm.Cond.laysFinal "SignalBoard$OutLog" "SignalBoard$OutLog" "ring" "[B") ∈ WB := wb_mem 147 (by decide +kernel) rfl
theorem w_109 : (Jvm.Cond.soleField "SignalBoard$OutLog" "ring") ∈ WB := wb_mem 148 (by decide +kernel) rfl
theorem w_110 : (Jvm.Cond.lays "SignalBoard$OutLog" "SignalBoard$OutLog" "total" "J") ∈ WB := wb_mem 149 (by decide +kernel) rfl
theorem w_111 : (Jvm.Cond.soleField "SignalBoard$OutLog" "total") ∈ WB := wb_mem 150 (by decide +kernel) rfl
theorem w_112 : (Jvm.Cond.superclass "SignalBoard$OutLog" "java/lang/Object") ∈ WB := wb_mem 151 (by decide +kernel) rfl
theorem w_113 : (Jvm.Cond.arrayClass Jvm.ClassFile.FieldType.byte) ∈ WB := wb_mem 152 (by decide +kernel) rfl
theorem w_114 : (Jvm.Cond.fieldLink "SignalBoard$SerialLine" (10 : Nat) "SignalBoard$SerialLine" "in" "LSignalBoard$InQueue;") ∈ WB := wb_mem 153 (by decide +kernel) rfl
theorem w_116 : (Jvm.Cond.fieldLink "SignalBoard$SerialLine" (19 : Nat) "SignalBoard$SerialLine" "out" "LSignalBoard$OutLog;") ∈ WB := wb_mem 155 (by decide +kernel) rfl
theorem w_118 : (Jvm.Cond.fieldLink "SignalBoard$SerialLine" (40 : Nat) "SignalBoard$SerialLine" "enables" "I") ∈ WB := wb_mem 157 (by decide +kernel) rfl
theorem w_119 : (Jvm.Cond.fieldLink "SignalBoard$SerialLine" (46 : Nat) "SignalBoard$SerialLine" "format" "I") ∈ WB := wb_mem 158 (by decide +kernel) rfl
theorem w_120 : (Jvm.Cond.fieldLink "SignalBoard$SerialLine" (49 : Nat) "SignalBoard$SerialLine" "modem" "I") ∈ WB := wb_mem 159 (by decide +kernel) rfl
theorem w_121 : (Jvm.Cond.fieldLink "SignalBoard$SerialLine" (58 : Nat) "SignalBoard$SerialLine" "scratch" "I") ∈ WB := wb_mem 160 (by decide +kernel) rfl
theorem w_122 : (Jvm.Cond.fieldLink "SignalBoard$SerialLine" (29 : Nat) "SignalBoard$SerialLine" "other0" "I") ∈ WB := wb_mem 161 (by decide +kernel) rfl
theorem w_123 : (Jvm.Cond.fieldLink "SignalBoard$SerialLine" (37 : Nat) "SignalBoard$SerialLine" "other1" "I") ∈ WB := wb_mem 162 (by decide +kernel) rfl
theorem w_124 : (Jvm.Cond.fieldLink "SignalBoard$SerialLine" (76 : Nat) "SignalBoard$SerialLine" "overrun" "Z") ∈ WB := wb_mem 163 (by decide +kernel) rfl
theorem w_125 : (Jvm.Cond.fieldLink "SignalBoard$SerialLine" (83 : Nat) "SignalBoard$SerialLine" "emptied" "Z") ∈ WB := wb_mem 164 (by decide +kernel) rfl
theorem w_126 : (Jvm.Cond.laysFinal "SignalBoard$SerialLine" "SignalBoard$SerialLine" "in" "LSignalBoard$InQueue;") ∈ WB := wb_mem 165 (by decide +kernel) rfl
theorem w_127 : (Jvm.Cond.soleField "SignalBoard$SerialLine" "in") ∈ WB := wb_mem 166 (by decide +kernel) rfl
theorem w_128 : (Jvm.Cond.laysFinal "SignalBoard$SerialLine" "SignalBoard$SerialLine" "out" "LSignalBoard$OutLog;") ∈ WB := wb_mem 167 (by decide +kernel) rfl
theorem w_129 : (Jvm.Cond.soleField "SignalBoard$SerialLine" "out") ∈ WB := wb_mem 168 (by decide +kernel) rfl
theorem w_130 : (Jvm.Cond.lays "SignalBoard$SerialLine" "SignalBoard$SerialLine" "enables" "I") ∈ WB := wb_mem 169 (by decide +kernel) rfl
theorem w_131 : (Jvm.Cond.soleField "SignalBoard$SerialLine" "enables") ∈ WB := wb_mem 170 (by decide +kernel) rfl
theorem w_132 : (Jvm.Cond.lays "SignalBoard$SerialLine" "SignalBoard$SerialLine" "format" "I") ∈ WB := wb_mem 171 (by decide +kernel) rfl
theorem w_133 : (Jvm.Cond.soleField "SignalBoard$SerialLine" "format") ∈ WB := wb_mem 172 (by decide +kernel) rfl
theorem w_134 : (Jvm.Cond.lays "SignalBoard$SerialLine" "SignalBoard$SerialLine" "modem" "I") ∈ WB := wb_mem 173 (by decide +kernel) rfl
theorem w_135 : (Jvm.Cond.soleField "SignalBoard$SerialLine" "modem") ∈ WB := wb_mem 174 (by decide +kernel) rfl
theorem w_136 : (Jvm.Cond.lays "SignalBoard$SerialLine" "SignalBoard$SerialLine" "scratch" "I") ∈ WB := wb_mem 175 (by decide +kernel) rfl
theorem w_137 : (Jvm.Cond.soleField "SignalBoard$SerialLine" "scratch") ∈ WB := wb_mem 176 (by decide +kernel) rfl
theorem w_138 : (Jvm.Cond.lays "SignalBoard$SerialLine" "SignalBoard$SerialLine" "other0" "I") ∈ WB := wb_mem 177 (by decide +kernel) rfl
theorem w_139 : (Jvm.Cond.soleField "SignalBoard$SerialLine" "other0") ∈ WB := wb_mem 178 (by decide +kernel) rfl
theorem w_140 : (Jvm.Cond.lays "SignalBoard$SerialLine" "SignalBoard$SerialLine" "other1" "I") ∈ WB := wb_mem 179 (by decide +kernel) rfl
theorem w_141 : (Jvm.Cond.soleField "SignalBoard$SerialLine" "other1") ∈ WB := wb_mem 180 (by decide +kernel) rfl
theorem w_142 : (Jvm.Cond.lays "SignalBoard$SerialLine" "SignalBoard$SerialLine" "overrun" "Z") ∈ WB := wb_mem 181 (by decide +kernel) rfl
theorem w_143 : (Jvm.Cond.soleField "SignalBoard$SerialLine" "overrun") ∈ WB := wb_mem 182 (by decide +kernel) rfl
theorem w_144 : (Jvm.Cond.lays "SignalBoard$SerialLine" "SignalBoard$SerialLine" "emptied" "Z") ∈ WB := wb_mem 183 (by decide +kernel) rfl
theorem w_145 : (Jvm.Cond.soleField "SignalBoard$SerialLine" "emptied") ∈ WB := wb_mem 184 (by decide +kernel) rfl
theorem w_146 : (Jvm.Cond.superclass "SignalBoard$SerialLine" "java/lang/Object") ∈ WB := wb_mem 185 (by decide +kernel) rfl
theorem w_147 : (Jvm.Cond.fieldLink "SignalBoard" (9 : Nat) "SignalBoard" "count" "I") ∈ WB := wb_mem 186 (by decide +kernel) rfl
theorem w_148 : (Jvm.Cond.fieldLink "SignalBoard" (18 : Nat) "SignalBoard" "timer" "LSignalBoard$Timer;") ∈ WB := wb_mem 187 (by decide +kernel) rfl
theorem w_149 : (Jvm.Cond.fieldLink "SignalBoard" (25 : Nat) "SignalBoard" "controller" "LSignalBoard$Controller;") ∈ WB := wb_mem 188 (by decide +kernel) rfl
theorem w_150 : (Jvm.Cond.fieldLink "SignalBoard" (32 : Nat) "SignalBoard" "serial" "LSignalBoard$SerialLine;") ∈ WB := wb_mem 189 (by decide +kernel) rfl
theorem w_151 : (Jvm.Cond.laysFinal "SignalBoard" "SignalBoard" "count" "I") ∈ WB := wb_mem 190 (by decide +kernel) rfl
theorem w_152 : (Jvm.Cond.soleField "SignalBoard" "count") ∈ WB := wb_mem 191 (by decide +kernel) rfl
theorem w_153 : (Jvm.Cond.laysFinal "SignalBoard" "SignalBoard" "timer" "LSignalBoard$Timer;") ∈ WB := wb_mem 192 (by decide +kernel) rfl
theorem w_154 : (Jvm.Cond.soleField "SignalBoard" "timer") ∈ WB := wb_mem 193 (by decide +kernel) rfl
theorem w_155 : (Jvm.Cond.laysFinal "SignalBoard" "SignalBoard" "controller" "LSignalBoard$Controller;") ∈ WB := wb_mem 194 (by decide +kernel) rfl
theorem w_156 : (Jvm.Cond.soleField "SignalBoard" "controller") ∈ WB := wb_mem 195 (by decide +kernel) rfl
theorem w_157 : (Jvm.Cond.laysFinal "SignalBoard" "SignalBoard" "serial" "LSignalBoard$SerialLine;") ∈ WB := wb_mem 196 (by decide +kernel) rfl
theorem w_158 : (Jvm.Cond.soleField "SignalBoard" "serial") ∈ WB := wb_mem 197 (by decide +kernel) rfl
theorem w_159 : (Jvm.Cond.superclass "SignalBoard" "java/lang/Object") ∈ WB := wb_mem 198 (by decide +kernel) rfl
theorem w_160 : (Jvm.Cond.methodLink "SignalBoardLaw" (39 : Nat) ({ cls := "SignalBoard", name := "processors", desc := "()I" } : Jvm.MethodName)) ∈ WB := wb_mem 199 (by decide +kernel) rfl
theorem w_161 : (Jvm.Cond.instanceMethod ({ cls := "SignalBoard", name := "processors", desc := "()I" } : Jvm.MethodName)) ∈ WB := wb_mem 200 (by decide +kernel) rfl
theorem w_162 : (Jvm.Cond.selects "SignalBoard" ({ cls := "SignalBoard", name := "processors", desc := "()I" } : Jvm.MethodName) ({ cls := "SignalBoard", name := "processors", desc := "()I" } : Jvm.MethodName)) ∈ WB := wb_mem 201 (by decide +kernel) rfl
theorem w_163 : (Jvm.Cond.code ({ cls := "SignalBoard", name := "processors", desc := "()I" } : Jvm.MethodName) prog_1_method_2_code (1 : Nat) (Option.some Jvm.ClassFile.FieldType.int)) ∈ WB := wb_mem 202 (by decide +kernel) rfl
theorem w_164 : (Jvm.Cond.methodLink "SignalBoardLaw" (61 : Nat) ({ cls := "SignalBoard", name := "come", desc := "(I)Z" } : Jvm.MethodName)) ∈ WB := wb_mem 203 (by decide +kernel) rfl
theorem w_165 : (Jvm.Cond.instanceMethod ({ cls := "SignalBoard", name := "come", desc := "(I)Z" } : Jvm.MethodName)) ∈ WB := wb_mem 204 (by decide +kernel) rfl
theorem w_166 : (Jvm.Cond.selects "SignalBoard" ({ cls := "SignalBoard", name := "come", desc := "(I)Z" } : Jvm.MethodName) ({ cls := "SignalBoard", name := "come", desc := "(I)Z" } : Jvm.MethodName)) ∈ WB := wb_mem 205 (by decide +kernel) rfl
theorem w_167 : (Jvm.Cond.code ({ cls := "SignalBoard", name := "come", desc := "(I)Z" } : Jvm.MethodName) prog_1_method_6_code (3 : Nat) (Option.some Jvm.ClassFile.FieldType.boolean)) ∈ WB := wb_mem 206 (by decide +kernel) rfl
theorem w_168 : (Jvm.Cond.methodLink "SignalBoard" (74 : Nat) ({ cls := "SignalBoard$SerialLine", name := "receive", desc := "(I)Z" } : Jvm.MethodName)) ∈ WB := wb_mem 207 (by decide +kernel) rfl
theorem w_169 : (Jvm.Cond.instanceMethod ({ cls := "SignalBoard$SerialLine", name := "receive", desc := "(I)Z" } : Jvm.MethodName)) ∈ WB := wb_mem 208 (by decide +kernel) rfl
theorem w_170 : (Jvm.Cond.selects "SignalBoard$SerialLine" ({ cls := "SignalBoard$SerialLine", name := "receive", desc := "(I)Z" } : Jvm.MethodName) ({ cls := "SignalBoard$SerialLine", name := "receive", desc := "(I)Z" } : Jvm.MethodName)) ∈ WB := wb_mem 209 (by decide +kernel) rfl
theorem w_171 : (Jvm.Cond.code ({ cls := "SignalBoard$SerialLine", name := "receive", desc := "(I)Z" } : Jvm.MethodName) prog_5_method_4_code (3 : Nat) (Option.some Jvm.ClassFile.FieldType.boolean)) ∈ WB := wb_mem 210 (by decide +kernel) rfl
theorem w_172 : (Jvm.Cond.methodLink "SignalBoard$SerialLine" (72 : Nat) ({ cls := "SignalBoard$InQueue", name := "put", desc := "(I)Z" } : Jvm.MethodName)) ∈ WB := wb_mem 211 (by decide +kernel) rfl
theorem w_173 : (Jvm.Cond.instanceMethod ({ cls := "SignalBoard$InQueue", name := "put", desc := "(I)Z" } : Jvm.MethodName)) ∈ WB := wb_mem 212 (by decide +kernel) rfl
theorem w_174 : (Jvm.Cond.selects "SignalBoard$InQueue" ({ cls := "SignalBoard$InQueue", name := "put", desc := "(I)Z" } : Jvm.MethodName) ({ cls := "SignalBoard$InQueue", name := "put", desc := "(I)Z" } : Jvm.MethodName)) ∈ WB := wb_mem 213 (by decide +kernel) rfl
theorem w_175 : (Jvm.Cond.code ({ cls := "SignalBoard$InQueue", name := "put", desc := "(I)Z" } : Jvm.MethodName) prog_3_method_3_code (2 : Nat) (Option.some Jvm.ClassFile.FieldType.boolean)) ∈ WB := wb_mem 214 (by decide +kernel) rfl
theorem w_176 : (Jvm.Cond.methodLink "SignalBoard$InQueue" (21 : Nat) ({ cls := "SignalBoard$InQueue", name := "space", desc := "()I" } : Jvm.MethodName)) ∈ WB := wb_mem 215 (by decide +kernel) rfl
theorem w_177 : (Jvm.Cond.instanceMethod ({ cls := "SignalBoard$InQueue", name := "space", desc := "()I" } : Jvm.MethodName)) ∈ WB := wb_mem 216 (by decide +kernel) rfl
theorem w_178 : (Jvm.Cond.selects "SignalBoard$InQueue" ({ cls := "SignalBoard$InQueue", name := "space", desc := "()I" } : Jvm.MethodName) ({ cls := "SignalBoard$InQueue", name := "space", desc := "()I" } : Jvm.MethodName)) ∈ WB := wb_mem 217 (by decide +kernel) rfl
theorem w_179 : (Jvm.Cond.code ({ cls := "SignalBoard$InQueue", name := "space", desc := "()I" } : Jvm.MethodName) prog_3_method_2_code (1 : Nat) (Option.some Jvm.ClassFile.FieldType.int)) ∈ WB := wb_mem 218 (by decide +kernel) rfl
theorem w_180 : (Jvm.Cond.methodLink "SignalBoard" (55 : Nat) ({ cls := "SignalBoard", name := "wireSerial", desc := "()V" } : Jvm.MethodName)) ∈ WB := wb_mem 219 (by decide +kernel) rfl
theorem w_182 : (Jvm.Cond.instanceMethod ({ cls := "SignalBoard", name := "wireSerial", desc := "()V" } : Jvm.MethodName)) ∈ WB := wb_mem 221 (by decide +kernel) rfl
theorem w_183 : (Jvm.Cond.code ({ cls := "SignalBoard", name := "wireSerial", desc := "()V" } : Jvm.MethodName) prog_1_method_13_code (1 : Nat) (Option.none : Option Jvm.ClassFile.FieldType)) ∈ WB := wb_mem 222 (by decide +kernel) rfl
theorem w_184 : (Jvm.Cond.methodLink "SignalBoard" (119 : Nat) ({ cls := "SignalBoard$SerialLine", name := "cause", desc := "()I" } : Jvm.MethodName)) ∈ WB := wb_mem 223 (by decide +kernel) rfl
theorem w_185 : (Jvm.Cond.instanceMethod ({ cls := "SignalBoard$SerialLine", name := "cause", desc := "()I" } : Jvm.MethodName)) ∈ WB := wb_mem 224 (by decide +kernel) rfl
theorem w_186 : (Jvm.Cond.selects "SignalBoard$SerialLine" ({ cls := "SignalBoard$SerialLine", name := "cause", desc := "()I" } : Jvm.MethodName) ({ cls := "SignalBoard$SerialLine", name := "cause", desc := "()I" } : Jvm.MethodName)) ∈ WB := wb_mem 225 (by decide +kernel) rfl
theorem w_187 : (Jvm.Cond.code ({ cls := "SignalBoard$SerialLine", name := "cause", desc := "()I" } : Jvm.MethodName) prog_5_method_5_code (1 : Nat) (Option.some Jvm.ClassFile.FieldType.int)) ∈ WB := wb_mem 226 (by decide +kernel) rfl
theorem w_188 : (Jvm.Cond.methodLink "SignalBoard" (70 : Nat) ({ cls := "SignalBoard$Controller", name := "drive", desc := "(IZ)V" } : Jvm.MethodName)) ∈ WB := wb_mem 227 (by decide +kernel) rfl
theorem w_189 : (Jvm.Cond.instanceMethod ({ cls := "SignalBoard$Controller", name := "drive", desc := "(IZ)V" } : Jvm.MethodName)) ∈ WB := wb_mem 228 (by decide +kernel) rfl
theorem w_190 : (Jvm.Cond.selects "SignalBoard$Controller" ({ cls := "SignalBoard$Controller", name := "drive", desc := "(IZ)V" } : Jvm.MethodName) ({ cls := "SignalBoard$Controller", name := "drive", desc := "(IZ)V" } : Jvm.MethodName)) ∈ WB := wb_mem 229 (by decide +kernel) rfl
theorem w_191 : (Jvm.Cond.code ({ cls := "SignalBoard$Controller", name := "drive", desc := "(IZ)V" } : Jvm.MethodName) prog_2_method_4_code (4 : Nat) (Option.none : Option Jvm.ClassFile.FieldType)) ∈ WB := wb_mem 230 (by decide +kernel) rfl
theorem w_192 : (Jvm.Cond.methodLink "SignalBoard$Controller" (53 : Nat) ({ cls := "SignalBoard$Controller", name := "letWait", desc := "()V" } : Jvm.MethodName)) ∈ WB := wb_mem 231 (by decide +kernel) rfl
theorem w_194 : (Jvm.Cond.instanceMethod ({ cls := "SignalBoard$Controller", name := "letWait", desc := "()V" } : Jvm.MethodName)) ∈ WB := wb_mem 233 (by decide +kernel) rfl
theorem w_195 : (Jvm.Cond.code ({ cls := "SignalBoard$Controller", name := "letWait", desc := "()V" } : Jvm.MethodName) prog_2_method_8_code (1 : Nat) (Option.none : Option Jvm.ClassFile.FieldType)) ∈ WB := wb_mem 234 (by decide +kernel) rfl
theorem w_196 : (Jvm.Cond.methodLink "SignalBoardLaw" (66 : Nat) ({ cls := "SignalBoard", name := "room", desc := "()I" } : Jvm.MethodName)) ∈ WB := wb_mem 235 (by decide +kernel) rfl
theorem w_197 : (Jvm.Cond.instanceMethod ({ cls := "SignalBoard", name := "room", desc := "()I" } : Jvm.MethodName)) ∈ WB := wb_mem 236 (by decide +kernel) rfl
theorem w_198 : (Jvm.Cond.selects "SignalBoard" ({ cls := "SignalBoard", name := "room", desc := "()I" } : Jvm.MethodName) ({ cls := "SignalBoard", name := "room", desc := "()I" } : Jvm.MethodName)) ∈ WB := wb_mem 237 (by decide +kernel) rfl
theorem w_199 : (Jvm.Cond.code ({ cls := "SignalBoard", name := "room", desc := "()I" } : Jvm.MethodName) prog_1_method_7_code (1 : Nat) (Option.some Jvm.ClassFile.FieldType.int)) ∈ WB := wb_mem 238 (by decide +kernel) rfl
theorem w_200 : (Jvm.Cond.methodLink "SignalBoard" (82 : Nat) ({ cls := "SignalBoard$InQueue", name := "space", desc := "()I" } : Jvm.MethodName)) ∈ WB := wb_mem 239 (by decide +kernel) rfl
theorem w_201 : (Jvm.Cond.methodLink "SignalBoardLaw" (70 : Nat) ({ cls := "SignalBoard", name := "pass", desc := "(J)V" } : Jvm.MethodName)) ∈ WB := wb_mem 240 (by decide +kernel) rfl
theorem w_202 : (Jvm.Cond.instanceMethod ({ cls := "SignalBoard", name := "pass", desc := "(J)V" } : Jvm.MethodName)) ∈ WB := wb_mem 241 (by decide +kernel) rfl
theorem w_203 : (Jvm.Cond.selects "SignalBoard" ({ cls := "SignalBoard", name := "pass", desc := "(J)V" } : Jvm.MethodName) ({ cls := "SignalBoard", name := "pass", desc := "(J)V" } : Jvm.MethodName)) ∈ WB := wb_mem 242 (by decide +kernel) rfl
theorem w_204 : (Jvm.Cond.code ({ cls := "SignalBoard", name := "pass", desc := "(J)V" } : Jvm.MethodName) prog_1_method_8_code (3 : Nat) (Option.none : Option Jvm.ClassFile.FieldType)) ∈ WB := wb_mem 243 (by decide +kernel) rfl
theorem w_205 : (Jvm.Cond.methodLink "SignalBoard" (88 : Nat) ({ cls := "SignalBoard$Timer", name := "advance", desc := "(J)V" } : Jvm.MethodName)) ∈ WB := wb_mem 244 (by decide +kernel) rfl
theorem w_206 : (Jvm.Cond.instanceMethod ({ cls := "SignalBoard$Timer", name := "advance", desc := "(J)V" } : Jvm.MethodName)) ∈ WB := wb_mem 245 (by decide +kernel) rfl
theorem w_207 : (Jvm.Cond.selects "SignalBoard$Timer" ({ cls := "SignalBoard$Timer", name := "advance", desc := "(J)V" } : Jvm.MethodName) ({ cls := "SignalBoard$Timer", name := "advance", desc := "(J)V" } : Jvm.MethodName)) ∈ WB := wb_mem 246 (by decide +kernel) rfl
theorem w_208 : (Jvm.Cond.code ({ cls := "SignalBoard$Timer", name := "advance", desc := "(J)V" } : Jvm.MethodName) prog_6_method_4_code (3 : Nat) (Option.none : Option Jvm.ClassFile.FieldType)) ∈ WB := wb_mem 247 (by decide +kernel) rfl
theorem w_209 : (Jvm.Cond.methodLink "SignalBoardLaw" (79 : Nat) ({ cls := "SignalBoard", name := "sent", desc := "()J" } : Jvm.MethodName)) ∈ WB := wb_mem 248 (by decide +kernel) rfl
theorem w_210 : (Jvm.Cond.instanceMethod ({ cls := "SignalBoard", name := "sent", desc := "()J" } : Jvm.MethodName)) ∈ WB := wb_mem 249 (by decide +kernel) rfl
theorem w_211 : (Jvm.Cond.selects "SignalBoard" ({ cls := "SignalBoard", name := "sent", desc := "()J" } : Jvm.MethodName) ({ cls := "SignalBoard", name := "sent", desc := "()J" } : Jvm.MethodName)) ∈ WB := wb_mem 250 (by decide +kernel) rfl
theorem w_212 : (Jvm.Cond.code ({ cls := "SignalBoard", name := "sent", desc := "()J" } : Jvm.MethodName) prog_1_method_10_code (1 : Nat) (Option.some Jvm.ClassFile.FieldType.long)) ∈ WB := wb_mem 251 (by decide +kernel) rfl
theorem w_213 : (Jvm.Cond.methodLink "SignalBoardLaw" (84 : Nat) ({ cls := "SignalBoard", name := "out", desc := "(J)I" } : Jvm.MethodName)) ∈ WB := wb_mem 252 (by decide +kernel) rfl
theorem w_214 : (Jvm.Cond.instanceMethod ({ cls := "SignalBoard", name := "out", desc := "(J)I" } : Jvm.MethodName)) ∈ WB := wb_mem 253 (by decide +kernel) rfl
theorem w_215 : (Jvm.Cond.selects "SignalBoard" ({ cls := "SignalBoard", name := "out", desc := "(J)I" } : Jvm.MethodName) ({ cls := "SignalBoard", name := "out", desc := "(J)I" } : Jvm.MethodName)) ∈ WB := wb_mem 254 (by decide +kernel) rfl
theorem w_216 : (Jvm.Cond.code ({ cls := "SignalBoard", name := "out", desc := "(J)I" } : Jvm.MethodName) prog_1_method_11_code (3 : Nat) (Option.some Jvm.ClassFile.FieldType.int)) ∈ WB := wb_mem 255 (by decide +kernel) rfl
theorem w_217 : (Jvm.Cond.methodLink "SignalBoard" (115 : Nat) ({ cls := "SignalBoard$OutLog", name := "at", desc := "(J)I" } : Jvm.MethodName)) ∈ WB := wb_mem 256 (by decide +kernel) rfl
theorem w_218 : (Jvm.Cond.instanceMethod ({ cls := "SignalBoard$OutLog", name := "at", desc := "(J)I" } : Jvm.MethodName)) ∈ WB := wb_mem 257 (by decide +kernel) rfl
theorem w_219 : (Jvm.Cond.selects "SignalBoard$OutLog" ({ cls := "SignalBoard$OutLog", name := "at", desc := "(J)I" } : Jvm.MethodName) ({ cls := "SignalBoard$OutLog", name := "at", desc := "(J)I" } : Jvm.MethodName)) ∈ WB := wb_mem 258 (by decide +kernel) rfl
theorem w_220 : (Jvm.Cond.code ({ cls := "SignalBoard$OutLog", name := "at", desc := "(J)I" } : Jvm.MethodName) prog_4_method_3_code (3 : Nat) (Option.some Jvm.ClassFile.FieldType.int)) ∈ WB := wb_mem 259 (by decide +kernel) rfl
theorem w_221 : (Jvm.Cond.constantLong "SignalBoard$OutLog" (19 : Nat) (4096 : Int64)) ∈ WB := wb_mem 260 (by decide +kernel) rfl
theorem w_222 : (Jvm.Cond.constantLong "SignalBoard$OutLog" (17 : Nat) (4095 : Int64)) ∈ WB := wb_mem 261 (by decide +kernel) rfl
theorem w_223 : (Jvm.Cond.methodLink "SignalBoardLaw" (27 : Nat) ({ cls := "SignalBoardLaw", name := "cell", desc := "([II)I" } : Jvm.MethodName)) ∈ WB := wb_mem 262 (by decide +kernel) rfl
theorem w_224 : (Jvm.Cond.static ({ cls := "SignalBoardLaw", name := "cell", desc := "([II)I" } : Jvm.MethodName)) ∈ WB := wb_mem 263 (by decide +kernel) rfl
theorem w_225 : (Jvm.Cond.code ({ cls := "SignalBoardLaw", name := "cell", desc := "([II)I" } : Jvm.MethodName) method_2_code (2 : Nat) (Option.some Jvm.ClassFile.FieldType.int)) ∈ WB := wb_mem 264 (by decide +kernel) rfl
theorem w_226 : (Jvm.Cond.methodLink "SignalBoardLaw" (46 : Nat) ({ cls := "SignalBoardLaw", name := "read", desc := "(LSignalBoard;IJI[J)I" } : Jvm.MethodName)) ∈ WB := wb_mem 265 (by decide +kernel) rfl
theorem w_227 : (Jvm.Cond.static ({ cls := "SignalBoardLaw", name := "read", desc := "(LSignalBoard;IJI[J)I" } : Jvm.MethodName)) ∈ WB := wb_mem 266 (by decide +kernel) rfl
theorem w_228 : (Jvm.Cond.codeWith ({ cls := "SignalBoardLaw", name := "read", desc := "(LSignalBoard;IJI[J)I" } : Jvm.MethodName) method_3_code (7 : Nat) (Option.some Jvm.ClassFile.FieldType.int) [((0 : Nat), (12 : Nat), (15 : Nat), (13 : Nat))]) ∈ WB := wb_mem 267 (by decide +kernel) rfl
theorem w_229 : (Jvm.Cond.classLink "SignalBoardLaw" (13 : Nat) "java/lang/IllegalArgumentException") ∈ WB := wb_mem 268 (by decide +kernel) rfl
theorem w_230 : (Jvm.Cond.methodLink "SignalBoardLaw" (7 : Nat) ({ cls := "SignalBoard", name := "read", desc := "(IJI)J" } : Jvm.MethodName)) ∈ WB := wb_mem 269 (by decide +kernel) rfl
theorem w_231 : (Jvm.Cond.instanceMethod ({ cls := "SignalBoard", name := "read", desc := "(IJI)J" } : Jvm.MethodName)) ∈ WB := wb_mem 270 (by decide +kernel) rfl
theorem w_232 : (Jvm.Cond.selects "SignalBoard" ({ cls := "SignalBoard", name := "read", desc := "(IJI)J" } : Jvm.MethodName) ({ cls := "SignalBoard", name := "read", desc := "(IJI)J" } : Jvm.MethodName)) ∈ WB := wb_mem 271 (by decide +kernel) rfl
theorem w_233 : (Jvm.Cond.code ({ cls := "SignalBoard", name := "read", desc := "(IJI)J" } : Jvm.MethodName) prog_1_method_3_code (6 : Nat) (Option.some Jvm.ClassFile.FieldType.long)) ∈ WB := wb_mem 272 (by decide +kernel) rfl
theorem w_234 : (Jvm.Cond.methodLink "SignalBoard" (36 : Nat) ({ cls := "SignalBoard", name := "canAccess", desc := "(IJI)Z" } : Jvm.MethodName)) ∈ WB := wb_mem 273 (by decide +kernel) rfl
theorem w_235 : (Jvm.Cond.static ({ cls := "SignalBoard", name := "canAccess", desc := "(IJI)Z" } : Jvm.MethodName)) ∈ WB := wb_mem 274 (by decide +kernel) rfl
theorem w_236 : (Jvm.Cond.code ({ cls := "SignalBoard", name := "canAccess", desc := "(IJI)Z" } : Jvm.MethodName) prog_1_method_12_code (5 : Nat) (Option.some Jvm.ClassFile.FieldType.boolean)) ∈ WB := wb_mem 275 (by decide +kernel) rfl
theorem w_237 : (Jvm.Cond.classLink "SignalBoard" (40 : Nat) "java/lang/IllegalArgumentException") ∈ WB := wb_mem 276 (by decide +kernel) rfl
theorem w_238 : (Jvm.Cond.instantiable "java/lang/IllegalArgumentException" (6 : Nat)) ∈ WB := wb_mem 277 (by decide +kernel) rfl
theorem w_246 : (Jvm.Cond.selects "java/lang/IllegalArgumentException" ({ cls := "java/lang/Throwable", name := "fillInStackTrace", desc := "(I)Ljava/lang/Throwable;" } : Jvm.MethodName) ({ cls := "java/lang/Throwable", name := "fillInStackTrace", desc := "(I)Ljava/lang/Throwable;" } : Jvm.MethodName)) ∈ WB := wb_mem 285 (by decide +kernel) rfl
theorem w_247 : (Jvm.Cond.selects "java/lang/IllegalArgumentException" ({ cls := "java/lang/Throwable", name := "fillInStackTrace", desc := "()Ljava/lang/Throwable;" } : Jvm.MethodName) ({ cls := "java/lang/Throwable", name := "fillInStackTrace", desc := "()Ljava/lang/Throwable;" } : Jvm.MethodName)) ∈ WB := wb_mem 286 (by decide +kernel) rfl
theorem w_248 : (Jvm.Cond.lays "java/lang/IllegalArgumentException" "java/lang/Throwable" "cause" "Ljava/lang/Throwable;") ∈ WB := wb_mem 287 (by decide +kernel) rfl
theorem w_249 : (Jvm.Cond.lays "java/lang/Throwable" "java/lang/Throwable" "cause" "Ljava/lang/Throwable;") ∈ WB := wb_mem 288 (by decide +kernel) rfl
theorem w_250 : (Jvm.Cond.lays "java/lang/IllegalArgumentException" "java/lang/Throwable" "stackTrace" "[Ljava/lang/StackTraceElement;") ∈ WB := wb_mem 289 (by decide +kernel) rfl
theorem w_251 : (Jvm.Cond.lays "java/lang/Throwable" "java/lang/Throwable" "stackTrace" "[Ljava/lang/StackTraceElement;") ∈ WB := wb_mem 290 (by decide +kernel) rfl
theorem w_252 : (Jvm.Cond.lays "java/lang/IllegalArgumentException" "java/lang/Throwable" "suppressedExceptions" "Ljava/util/List;") ∈ WB := wb_mem 291 (by decide +kernel) rfl
theorem w_253 : (Jvm.Cond.lays "java/lang/Throwable" "java/lang/Throwable" "suppressedExceptions" "Ljava/util/List;") ∈ WB := wb_mem 292 (by decide +kernel) rfl
theorem w_254 : (Jvm.Cond.lays "java/lang/IllegalArgumentException" "java/lang/Throwable" "detailMessage" "Ljava/lang/String;") ∈ WB := wb_mem 293 (by decide +kernel) rfl
theorem w_255 : (Jvm.Cond.lays "java/lang/Throwable" "java/lang/Throwable" "detailMessage" "Ljava/lang/String;") ∈ WB := wb_mem 294 (by decide +kernel) rfl
theorem w_256 : (Jvm.Cond.lays "java/lang/IllegalArgumentException" "java/lang/Throwable" "backtrace" "Ljava/lang/Object;") ∈ WB := wb_mem 295 (by decide +kernel) rfl
theorem w_257 : (Jvm.Cond.lays "java/lang/Throwable" "java/lang/Throwable" "backtrace" "Ljava/lang/Object;") ∈ WB := wb_mem 296 (by decide +kernel) rfl
theorem w_258 : (Jvm.Cond.fieldLink "java/lang/Throwable" (198 : Nat) "java/lang/Throwable" "backtrace" "Ljava/lang/Object;") ∈ WB := wb_mem 297 (by decide +kernel) rfl
theorem w_259 : (Jvm.Cond.superclass "java/lang/Throwable" "java/lang/Object") ∈ WB := wb_mem 298 (by decide +kernel) rfl
theorem w_260 : (Jvm.Cond.instanceMethod ({ cls := "java/lang/Throwable", name := "<init>", desc := "()V" } : Jvm.MethodName)) ∈ WB := wb_mem 299 (by decide +kernel) rfl
theorem w_261 : (Jvm.Cond.code ({ cls := "java/lang/Throwable", name := "<init>", desc := "()V" } : Jvm.MethodName) prog_14_method_1_code (1 : Nat) (Option.none : Option Jvm.ClassFile.FieldType)) ∈ WB := wb_mem 300 (by decide +kernel) rfl
theorem w_262 : (Jvm.Cond.methodLink "java/lang/Throwable" (1 : Nat) ({ cls := "java/lang/Object", name := "<init>", desc := "()V" } : Jvm.MethodName)) ∈ WB := wb_mem 301 (by decide +kernel) rfl
theorem w_263 : (Jvm.Cond.fieldLink "java/lang/Throwable" (13 : Nat) "java/lang/Throwable" "UNASSIGNED_STACK" "[Ljava/lang/StackTraceElement;") ∈ WB := wb_mem 302 (by decide +kernel) rfl
theorem w_265 : (Jvm.Cond.fieldLink "java/lang/Throwable" (20 : Nat) "java/lang/Throwable" "SUPPRESSED_SENTINEL" "Ljava/util/List;") ∈ WB := wb_mem 304 (by decide +kernel) rfl
theorem w_267 : (Jvm.Cond.methodLink "java/lang/Throwable" (27 : Nat) ({ cls := "java/lang/Throwable", name := "fillInStackTrace", desc := "()Ljava/lang/Throwable;" } : Jvm.MethodName)) ∈ WB := wb_mem 306 (by decide +kernel) rfl
theorem w_268 : (Jvm.Cond.instanceMethod ({ cls := "java/lang/Throwable", name := "fillInStackTrace", desc := "()Ljava/lang/Throwable;" } : Jvm.MethodName)) ∈ WB := wb_mem 307 (by decide +kernel) rfl
theorem w_271 : (Jvm.Cond.methodLink "java/lang/Throwable" (202 : Nat) ({ cls := "java/lang/Throwable", name := "fillInStackTrace", desc := "(I)Ljava/lang/Throwable;" } : Jvm.MethodName)) ∈ WB := wb_mem 310 (by decide +kernel) rfl
theorem w_273 : (Jvm.Cond.instanceMethod ({ cls := "java/lang/Throwable", name := "fillInStackTrace", desc := "(I)Ljava/lang/Throwable;" } : Jvm.MethodName)) ∈ WB := wb_mem 312 (by decide +kernel) rfl
theorem w_274 : (Jvm.Cond.instantiable "java/lang/Throwable" (6 : Nat)) ∈ WB := wb_mem 313 (by decide +kernel) rfl
theorem w_277 : (Jvm.Cond.methodLink "SignalBoard" (44 : Nat) ({ cls := "java/lang/IllegalArgumentException", name := "<init>", desc := "(Ljava/lang/String;)V" } : Jvm.MethodName)) ∈ WB := wb_mem 316 (by decide +kernel) rfl
theorem w_278 : (Jvm.Cond.instanceMethod ({ cls := "java/lang/IllegalArgumentException", name := "<init>", desc := "(Ljava/lang/String;)V" } : Jvm.MethodName)) ∈ WB := wb_mem 317 (by decide +kernel) rfl
theorem w_279 : (Jvm.Cond.code ({ cls := "java/lang/IllegalArgumentException", name := "<init>", desc := "(Ljava/lang/String;)V" } : Jvm.MethodName) prog_10_method_2_code (2 : Nat) (Option.none : Option Jvm.ClassFile.FieldType)) ∈ WB := wb_mem 318 (by decide +kernel) rfl
theorem w_280 : (Jvm.Cond.methodLink "java/lang/IllegalArgumentException" (7 : Nat) ({ cls := "java/lang/RuntimeException", name := "<init>", desc := "(Ljava/lang/String;)V" } : Jvm.MethodName)) ∈ WB := wb_mem 319 (by decide +kernel) rfl
theorem w_281 : (Jvm.Cond.instanceMethod ({ cls := "java/lang/RuntimeException", name := "<init>", desc := "(Ljava/lang/String;)V" } : Jvm.MethodName)) ∈ WB := wb_mem 320 (by decide +kernel) rfl
theorem w_282 : (Jvm.Cond.code ({ cls := "java/lang/RuntimeException", name := "<init>", desc := "(Ljava/lang/String;)V" } : Jvm.MethodName) prog_12_method_2_code (2 : Nat) (Option.none : Option Jvm.ClassFile.FieldType)) ∈ WB := wb_mem 321 (by decide +kernel) rfl
theorem w_283 : (Jvm.Cond.methodLink "java/lang/RuntimeException" (7 : Nat) ({ cls := "java/lang/Exception", name := "<init>", desc := "(Ljava/lang/String;)V" } : Jvm.MethodName)) ∈ WB := wb_mem 322 (by decide +kernel) rfl
theorem w_284 : (Jvm.Cond.instanceMethod ({ cls := "java/lang/Exception", name := "<init>", desc := "(Ljava/lang/String;)V" } : Jvm.MethodName)) ∈ WB := wb_mem 323 (by decide +kernel) rfl
theorem w_285 : (Jvm.Cond.code ({ cls := "java/lang/Exception", name := "<init>", desc := "(Ljava/lang/String;)V" } : Jvm.MethodName) prog_9_method_2_code (2 : Nat) (Option.none : Option Jvm.ClassFile.FieldType)) ∈ WB := wb_mem 324 (by decide +kernel) rfl
theorem w_286 : (Jvm.Cond.methodLink "java/lang/Exception" (7 : Nat) ({ cls := "java/lang/Throwable", name := "<init>", desc := "(Ljava/lang/String;)V" } : Jvm.MethodName)) ∈ WB := wb_mem 325 (by decide +kernel) rfl
theorem w_287 : (Jvm.Cond.instanceMethod ({ cls := "java/lang/Throwable", name := "<init>", desc := "(Ljava/lang/String;)V" } : Jvm.MethodName)) ∈ WB := wb_mem 326 (by decide +kernel) rfl
theorem w_288 : (Jvm.Cond.code ({ cls := "java/lang/Throwable", name := "<init>", desc := "(Ljava/lang/String;)V" } : Jvm.MethodName) prog_14_method_2_code (2 : Nat) (Option.none : Option Jvm.ClassFile.FieldType)) ∈ WB := wb_mem 327 (by decide +kernel) rfl
theorem w_289 : (Jvm.Cond.fieldLink "java/lang/Throwable" (198 : Nat) "java/lang/Throwable" "backtrace" "Ljava/lang/Object;") ∈ WB := wb_mem 328 (by decide +kernel) rfl
theorem w_290 : (Jvm.Cond.fieldLink "java/lang/Throwable" (31 : Nat) "java/lang/Throwable" "detailMessage" "Ljava/lang/String;") ∈ WB := wb_mem 329 (by decide +kernel) rfl
theorem w_291 : (Jvm.Cond.fieldLink "java/lang/Throwable" (7 : Nat) "java/lang/Throwable" "cause" "Ljava/lang/Throwable;") ∈ WB := wb_mem 330 (by decide +kernel) rfl
theorem w_292 : (Jvm.Cond.fieldLink "java/lang/Throwable" (17 : Nat) "java/lang/Throwable" "stackTrace" "[Ljava/lang/StackTraceElement;") ∈ WB := wb_mem 331 (by decide +kernel) rfl
theorem w_293 : (Jvm.Cond.fieldLink "java/lang/Throwable" (24 : Nat) "java/lang/Throwable" "suppressedExceptions" "Ljava/util/List;") ∈ WB := wb_mem 332 (by decide +kernel) rfl
theorem w_294 : (Jvm.Cond.soleField "java/lang/Throwable" "backtrace") ∈ WB := wb_mem 333 (by decide +kernel) rfl
theorem w_295 : (Jvm.Cond.soleField "java/lang/Throwable" "detailMessage") ∈ WB := wb_mem 334 (by decide +kernel) rfl
theorem w_296 : (Jvm.Cond.soleField "java/lang/Throwable" "cause") ∈ WB := wb_mem 335 (by decide +kernel) rfl
theorem w_297 : (Jvm.Cond.soleField "java/lang/Throwable" "stackTrace") ∈ WB := wb_mem 336 (by decide +kernel) rfl
theorem w_298 : (Jvm.Cond.lays "java/lang/IllegalArgumentException" "java/lang/Throwable" "depth" "I") ∈ WB := wb_mem 337 (by decide +kernel) rfl
theorem w_299 : (Jvm.Cond.soleField "java/lang/Throwable" "depth") ∈ WB := wb_mem 338 (by decide +kernel) rfl
theorem w_300 : (Jvm.Cond.soleField "java/lang/Throwable" "suppressedExceptions") ∈ WB := wb_mem 339 (by decide +kernel) rfl
theorem w_301 : (Jvm.Cond.superclass "java/lang/IllegalArgumentException" "java/lang/RuntimeException") ∈ WB := wb_mem 340 (by decide +kernel) rfl
theorem w_302 : (Jvm.Cond.methodLink "SignalBoard" (47 : Nat) ({ cls := "SignalBoard$Timer", name := "load", desc := "(JI)J" } : Jvm.MethodName)) ∈ WB := wb_mem 341 (by decide +kernel) rfl
theorem w_303 : (Jvm.Cond.instanceMethod ({ cls := "SignalBoard$Timer", name := "load", desc := "(JI)J" } : Jvm.MethodName)) ∈ WB := wb_mem 342 (by decide +kernel) rfl
theorem w_304 : (Jvm.Cond.selects "SignalBoard$Timer" ({ cls := "SignalBoard$Timer", name := "load", desc := "(JI)J" } : Jvm.MethodName) ({ cls := "SignalBoard$Timer", name := "load", desc := "(JI)J" } : Jvm.MethodName)) ∈ WB := wb_mem 343 (by decide +kernel) rfl
theorem w_305 : (Jvm.Cond.code ({ cls := "SignalBoard$Timer", name := "load", desc := "(JI)J" } : Jvm.MethodName) prog_6_method_2_code (6 : Nat) (Option.some Jvm.ClassFile.FieldType.long)) ∈ WB := wb_mem 344 (by decide +kernel) rfl
theorem w_306 : (Jvm.Cond.methodLink "SignalBoard$Timer" (31 : Nat) ({ cls := "SignalBoard$Timer", name := "softAt", desc := "(JI)I" } : Jvm.MethodName)) ∈ WB := wb_mem 345 (by decide +kernel) rfl
theorem w_308 : (Jvm.Cond.instanceMethod ({ cls := "SignalBoard$Timer", name := "softAt", desc := "(JI)I" } : Jvm.MethodName)) ∈ WB := wb_mem 347 (by decide +kernel) rfl
theorem w_309 : (Jvm.Cond.code ({ cls := "SignalBoard$Timer", name := "softAt", desc := "(JI)I" } : Jvm.MethodName) prog_6_method_7_code (4 : Nat) (Option.some Jvm.ClassFile.FieldType.int)) ∈ WB := wb_mem 348 (by decide +kernel) rfl
theorem w_311 : (Jvm.Cond.static ({ cls := "SignalBoard", name := "slotAt", desc := "(JJII)I" } : Jvm.MethodName)) ∈ WB := wb_mem 350 (by decide +kernel) rfl
theorem w_312 : (Jvm.Cond.code ({ cls := "SignalBoard", name := "slotAt", desc := "(JJII)I" } : Jvm.MethodName) prog_1_method_14_code (10 : Nat) (Option.some Jvm.ClassFile.FieldType.int)) ∈ WB := wb_mem 351 (by decide +kernel) rfl
theorem w_313 : (Jvm.Cond.methodLink "SignalBoard$Timer" (35 : Nat) ({ cls := "SignalBoard$Timer", name := "wideAt", desc := "(JI)I" } : Jvm.MethodName)) ∈ WB := wb_mem 352 (by decide +kernel) rfl
theorem w_315 : (Jvm.Cond.instanceMethod ({ cls := "SignalBoard$Timer", name := "wideAt", desc := "(JI)I" } : Jvm.MethodName)) ∈ WB := wb_mem 354 (by decide +kernel) rfl
theorem w_316 : (Jvm.Cond.code ({ cls := "SignalBoard$Timer", name := "wideAt", desc := "(JI)I" } : Jvm.MethodName) prog_6_method_8_code (8 : Nat) (Option.some Jvm.ClassFile.FieldType.int)) ∈ WB := wb_mem 355 (by decide +kernel) rfl
theorem w_317 : (Jvm.Cond.constantLong "SignalBoard$Timer" (56 : Nat) (7 : Int64)) ∈ WB := wb_mem 356 (by decide +kernel) rfl
theorem w_318 : (Jvm.Cond.constantLong "SignalBoard$Timer" (58 : Nat) (3 : Int64)) ∈ WB := wb_mem 357 (by decide +kernel) rfl
theorem w_319 : (Jvm.Cond.constantLong "SignalBoard$Timer" (60 : Nat) (-8 : Int64)) ∈ WB := wb_mem 358 (by decide +kernel) rfl
theorem w_320 : (Jvm.Cond.constantLong "SignalBoard$Timer" (62 : Nat) (49144 : Int64)) ∈ WB := wb_mem 359 (by decide +kernel) rfl
theorem w_321 : (Jvm.Cond.constantLong "SignalBoard$Timer" (64 : Nat) (16384 : Int64)) ∈ WB := wb_mem 360 (by decide +kernel) rfl
theorem w_322 : (Jvm.Cond.methodLink "SignalBoard$Timer" (38 : Nat) ({ cls := "SignalBoard$Timer", name := "isUpperHalf", desc := "(J)Z" } : Jvm.MethodName)) ∈ WB := wb_mem 361 (by decide +kernel) rfl
theorem w_323 : (Jvm.Cond.static ({ cls := "SignalBoard$Timer", name := "isUpperHalf", desc := "(J)Z" } : Jvm.MethodName)) ∈ WB := wb_mem 362 (by decide +kernel) rfl
theorem w_324 : (Jvm.Cond.code ({ cls := "SignalBoard$Timer", name := "isUpperHalf", desc := "(J)Z" } : Jvm.MethodName) prog_6_method_9_code (2 : Nat) (Option.some Jvm.ClassFile.FieldType.boolean)) ∈ WB := wb_mem 363 (by decide +kernel) rfl
theorem w_325 : (Jvm.Cond.constantLong "SignalBoard$Timer" (66 : Nat) (4 : Int64)) ∈ WB := wb_mem 364 (by decide +kernel) rfl
theorem w_326 : (Jvm.Cond.constantLong "SignalBoard$Timer" (42 : Nat) (4294967295 : Int64)) ∈ WB := wb_mem 365 (by decide +kernel) rfl
theorem w_327 : (Jvm.Cond.methodLink "SignalBoard" (51 : Nat) ({ cls := "SignalBoard$Controller", name := "load", desc := "(JI)J" } : Jvm.MethodName)) ∈ WB := wb_mem 366 (by decide +kernel) rfl
theorem w_328 : (Jvm.Cond.instanceMethod ({ cls := "SignalBoard$Controller", name := "load", desc := "(JI)J" } : Jvm.MethodName)) ∈ WB := wb_mem 367 (by decide +kernel) rfl
theorem w_329 : (Jvm.Cond.selects "SignalBoard$Controller" ({ cls := "SignalBoard$Controller", name := "load", desc := "(JI)J" } : Jvm.MethodName) ({ cls := "SignalBoard$Controller", name := "load", desc := "(JI)J" } : Jvm.MethodName)) ∈ WB := wb_mem 368 (by decide +kernel) rfl
theorem w_330 : (Jvm.Cond.code ({ cls := "SignalBoard$Controller", name := "load", desc := "(JI)J" } : Jvm.MethodName) prog_2_method_2_code (6 : Nat) (Option.some Jvm.ClassFile.FieldType.long)) ∈ WB := wb_mem 369 (by decide +kernel) rfl
theorem w_331 : (Jvm.Cond.constantLong "SignalBoard$Controller" (25 : Nat) (4096 : Int64)) ∈ WB := wb_mem 370 (by decide +kernel) rfl
theorem w_332 : (Jvm.Cond.constantLong "SignalBoard$Controller" (30 : Nat) (4294967295 : Int64)) ∈ WB := wb_mem 371 (by decide +kernel) rfl
theorem w_334 : (Jvm.Cond.constantLong "SignalBoard$Controller" (36 : Nat) (8192 : Int64)) ∈ WB := wb_mem 373 (by decide +kernel) rfl
theorem w_335 : (Jvm.Cond.constantLong "SignalBoard$Controller" (38 : Nat) (2097152 : Int64)) ∈ WB := wb_mem 374 (by decide +kernel) rfl
theorem w_336 : (Jvm.Cond.constantLong "SignalBoard$Controller" (40 : Nat) (2097156 : Int64)) ∈ WB := wb_mem 375 (by decide +kernel) rfl
theorem w_337 : (Jvm.Cond.methodLink "SignalBoard$Controller" (42 : Nat) ({ cls := "SignalBoard$Controller", name := "claim", desc := "(I)I" } : Jvm.MethodName)) ∈ WB := wb_mem 376 (by decide +kernel) rfl
theorem w_339 : (Jvm.Cond.instanceMethod ({ cls := "SignalBoard$Controller", name := "claim", desc := "(I)I" } : Jvm.MethodName)) ∈ WB := wb_mem 378 (by decide +kernel) rfl
theorem w_340 : (Jvm.Cond.code ({ cls := "SignalBoard$Controller", name := "claim", desc := "(I)I" } : Jvm.MethodName) prog_2_method_6_code (3 : Nat) (Option.some Jvm.ClassFile.FieldType.int)) ∈ WB := wb_mem 379 (by decide +kernel) rfl
theorem w_341 : (Jvm.Cond.methodLink "SignalBoard$Controller" (56 : Nat) ({ cls := "SignalBoard$Controller", name := "mostUrgent", desc := "(I)I" } : Jvm.MethodName)) ∈ WB := wb_mem 380 (by decide +kernel) rfl
theorem w_343 : (Jvm.Cond.instanceMethod ({ cls := "SignalBoard$Controller", name := "mostUrgent", desc := "(I)I" } : Jvm.MethodName)) ∈ WB := wb_mem 382 (by decide +kernel) rfl
theorem w_344 : (Jvm.Cond.code ({ cls := "SignalBoard$Controller", name := "mostUrgent", desc := "(I)I" } : Jvm.MethodName) prog_2_method_9_code (5 : Nat) (Option.some Jvm.ClassFile.FieldType.int)) ∈ WB := wb_mem 383 (by decide +kernel) rfl
theorem w_345 : (Jvm.Cond.methodLink "SignalBoard" (52 : Nat) ({ cls := "SignalBoard$SerialLine", name := "load", desc := "(JI)I" } : Jvm.MethodName)) ∈ WB := wb_mem 384 (by decide +kernel) rfl
theorem w_346 : (Jvm.Cond.instanceMethod ({ cls := "SignalBoard$SerialLine", name := "load", desc := "(JI)I" } : Jvm.MethodName)) ∈ WB := wb_mem 385 (by decide +kernel) rfl
theorem w_347 : (Jvm.Cond.selects "SignalBoard$SerialLine" ({ cls := "SignalBoard$SerialLine", name := "load", desc := "(JI)I" } : Jvm.MethodName) ({ cls := "SignalBoard$SerialLine", name := "load", desc := "(JI)I" } : Jvm.MethodName)) ∈ WB := wb_mem 386 (by decide +kernel) rfl
theorem w_348 : (Jvm.Cond.code ({ cls := "SignalBoard$SerialLine", name := "load", desc := "(JI)I" } : Jvm.MethodName) prog_5_method_2_code (4 : Nat) (Option.some Jvm.ClassFile.FieldType.int)) ∈ WB := wb_mem 387 (by decide +kernel) rfl
theorem w_349 : (Jvm.Cond.constantLong "SignalBoard$SerialLine" (23 : Nat) (7 : Int64)) ∈ WB := wb_mem 388 (by decide +kernel) rfl
theorem w_350 : (Jvm.Cond.methodLink "SignalBoard$SerialLine" (25 : Nat) ({ cls := "SignalBoard$SerialLine", name := "showsOthers", desc := "()Z" } : Jvm.MethodName)) ∈ WB := wb_mem 389 (by decide +kernel) rfl
theorem w_352 : (Jvm.Cond.instanceMethod ({ cls := "SignalBoard$SerialLine", name := "showsOthers", desc := "()Z" } : Jvm.MethodName)) ∈ WB := wb_mem 391 (by decide +kernel) rfl
theorem w_353 : (Jvm.Cond.code ({ cls := "SignalBoard$SerialLine", name := "showsOthers", desc := "()Z" } : Jvm.MethodName) prog_5_method_6_code (1 : Nat) (Option.some Jvm.ClassFile.FieldType.boolean)) ∈ WB := wb_mem 392 (by decide +kernel) rfl
theorem w_354 : (Jvm.Cond.methodLink "SignalBoard$SerialLine" (33 : Nat) ({ cls := "SignalBoard$InQueue", name := "take", desc := "()I" } : Jvm.MethodName)) ∈ WB := wb_mem 393 (by decide +kernel) rfl
theorem w_355 : (Jvm.Cond.instanceMethod ({ cls := "SignalBoard$InQueue", name := "take", desc := "()I" } : Jvm.MethodName)) ∈ WB := wb_mem 394 (by decide +kernel) rfl
theorem w_356 : (Jvm.Cond.selects "SignalBoard$InQueue" ({ cls := "SignalBoard$InQueue", name := "take", desc := "()I" } : Jvm.MethodName) ({ cls := "SignalBoard$InQueue", name := "take", desc := "()I" } : Jvm.MethodName)) ∈ WB := wb_mem 395 (by decide +kernel) rfl
theorem w_357 : (Jvm.Cond.code ({ cls := "SignalBoard$InQueue", name := "take", desc := "()I" } : Jvm.MethodName) prog_3_method_4_code (2 : Nat) (Option.some Jvm.ClassFile.FieldType.int)) ∈ WB := wb_mem 396 (by decide +kernel) rfl
theorem w_358 : (Jvm.Cond.methodLink "SignalBoard$SerialLine" (43 : Nat) ({ cls := "SignalBoard$SerialLine", name := "loadCause", desc := "()I" } : Jvm.MethodName)) ∈ WB := wb_mem 397 (by decide +kernel) rfl
theorem w_360 : (Jvm.Cond.instanceMethod ({ cls := "SignalBoard$SerialLine", name := "loadCause", desc := "()I" } : Jvm.MethodName)) ∈ WB := wb_mem 399 (by decide +kernel) rfl
theorem w_361 : (Jvm.Cond.code ({ cls := "SignalBoard$SerialLine", name := "loadCause", desc := "()I" } : Jvm.MethodName) prog_5_method_7_code (2 : Nat) (Option.some Jvm.ClassFile.FieldType.int)) ∈ WB := wb_mem 400 (by decide +kernel) rfl
theorem w_362 : (Jvm.Cond.methodLink "SignalBoard$SerialLine" (86 : Nat) ({ cls := "SignalBoard$SerialLine", name := "cause", desc := "()I" } : Jvm.MethodName)) ∈ WB := wb_mem 401 (by decide +kernel) rfl
theorem w_363 : (Jvm.Cond.methodLink "SignalBoard$SerialLine" (52 : Nat) ({ cls := "SignalBoard$SerialLine", name := "loadLineState", desc := "()I" } : Jvm.MethodName)) ∈ WB := wb_mem 402 (by decide +kernel) rfl
theorem w_365 : (Jvm.Cond.instanceMethod ({ cls := "SignalBoard$SerialLine", name := "loadLineState", desc := "()I" } : Jvm.MethodName)) ∈ WB := wb_mem 404 (by decide +kernel) rfl
theorem w_366 : (Jvm.Cond.code ({ cls := "SignalBoard$SerialLine", name := "loadLineState", desc := "()I" } : Jvm.MethodName) prog_5_method_8_code (2 : Nat) (Option.some Jvm.ClassFile.FieldType.int)) ∈ WB := wb_mem 405 (by decide +kernel) rfl
theorem w_367 : (Jvm.Cond.methodLink "SignalBoard$SerialLine" (55 : Nat) ({ cls := "SignalBoard$SerialLine", name := "modemState", desc := "()I" } : Jvm.MethodName)) ∈ WB := wb_mem 406 (by decide +kernel) rfl
theorem w_369 : (Jvm.Cond.instanceMethod ({ cls := "SignalBoard$SerialLine", name := "modemState", desc := "()I" } : Jvm.MethodName)) ∈ WB := wb_mem 408 (by decide +kernel) rfl
theorem w_370 : (Jvm.Cond.code ({ cls := "SignalBoard$SerialLine", name := "modemState", desc := "()I" } : Jvm.MethodName) prog_5_method_9_code (1 : Nat) (Option.some Jvm.ClassFile.FieldType.int)) ∈ WB := wb_mem 409 (by decide +kernel) rfl
theorem w_371 : (Jvm.Cond.methodLink "SignalBoardLaw" (53 : Nat) ({ cls := "SignalBoardLaw", name := "write", desc := "(LSignalBoard;IJIJ)I" } : Jvm.MethodName)) ∈ WB := wb_mem 410 (by decide +kernel) rfl
theorem w_372 : (Jvm.Cond.static ({ cls := "SignalBoardLaw", name := "write", desc := "(LSignalBoard;IJIJ)I" } : Jvm.MethodName)) ∈ WB := wb_mem 411 (by decide +kernel) rfl
theorem w_373 : (Jvm.Cond.codeWith ({ cls := "SignalBoardLaw", name := "write", desc := "(LSignalBoard;IJIJ)I" } : Jvm.MethodName) method_4_code (8 : Nat) (Option.some Jvm.ClassFile.FieldType.int) [((0 : Nat), (10 : Nat), (13 : Nat), (13 : Nat))]) ∈ WB := wb_mem 412 (by decide +kernel) rfl
theorem w_374 : (Jvm.Cond.methodLink "SignalBoardLaw" (15 : Nat) ({ cls := "SignalBoard", name := "write", desc := "(IJIJ)V" } : Jvm.MethodName)) ∈ WB := wb_mem 413 (by decide +kernel) rfl
theorem w_375 : (Jvm.Cond.instanceMethod ({ cls := "SignalBoard", name := "write", desc := "(IJIJ)V" } : Jvm.MethodName)) ∈ WB := wb_mem 414 (by decide +kernel) rfl
theorem w_376 : (Jvm.Cond.selects "SignalBoard" ({ cls := "SignalBoard", name := "write", desc := "(IJIJ)V" } : Jvm.MethodName) ({ cls := "SignalBoard", name := "write", desc := "(IJIJ)V" } : Jvm.MethodName)) ∈ WB := wb_mem 415 (by decide +kernel) rfl
theorem w_377 : (Jvm.Cond.code ({ cls := "SignalBoard", name := "write", desc := "(IJIJ)V" } : Jvm.MethodName) prog_1_method_4_code (7 : Nat) (Option.none : Option Jvm.ClassFile.FieldType)) ∈ WB := wb_mem 416 (by decide +kernel) rfl
theorem w_378 : (Jvm.Cond.methodLink "SignalBoard" (58 : Nat) ({ cls := "SignalBoard$Timer", name := "store", desc := "(JIJ)V" } : Jvm.MethodName)) ∈ WB := wb_mem 417 (by decide +kernel) rfl
theorem w_379 : (Jvm.Cond.instanceMethod ({ cls := "SignalBoard$Timer", name := "store", desc := "(JIJ)V" } : Jvm.MethodName)) ∈ WB := wb_mem 418 (by decide +kernel) rfl
theorem w_380 : (Jvm.Cond.selects "SignalBoard$Timer" ({ cls := "SignalBoard$Timer", name := "store", desc := "(JIJ)V" } : Jvm.MethodName) ({ cls := "SignalBoard$Timer", name := "store", desc := "(JIJ)V" } : Jvm.MethodName)) ∈ WB := wb_mem 419 (by decide +kernel) rfl
theorem w_381 : (Jvm.Cond.code ({ cls := "SignalBoard$Timer", name := "store", desc := "(JIJ)V" } : Jvm.MethodName) prog_6_method_3_code (8 : Nat) (Option.none : Option Jvm.ClassFile.FieldType)) ∈ WB := wb_mem 420 (by decide +kernel) rfl
theorem w_382 : (Jvm.Cond.constantLong "SignalBoard$Timer" (44 : Nat) (-4294967296 : Int64)) ∈ WB := wb_mem 421 (by decide +kernel) rfl
theorem w_383 : (Jvm.Cond.methodLink "SignalBoard" (62 : Nat) ({ cls := "SignalBoard$Controller", name := "store", desc := "(JII)V" } : Jvm.MethodName)) ∈ WB := wb_mem 422 (by decide +kernel) rfl
theorem w_384 : (Jvm.Cond.instanceMethod ({ cls := "SignalBoard$Controller", name := "store", desc := "(JII)V" } : Jvm.MethodName)) ∈ WB := wb_mem 423 (by decide +kernel) rfl
theorem w_385 : (Jvm.Cond.selects "SignalBoard$Controller" ({ cls := "SignalBoard$Controller", name := "store", desc := "(JII)V" } : Jvm.MethodName) ({ cls := "SignalBoard$Controller", name := "store", desc := "(JII)V" } : Jvm.MethodName)) ∈ WB := wb_mem 424 (by decide +kernel) rfl
theorem w_386 : (Jvm.Cond.code ({ cls := "SignalBoard$Controller", name := "store", desc := "(JII)V" } : Jvm.MethodName) prog_2_method_3_code (7 : Nat) (Option.none : Option Jvm.ClassFile.FieldType)) ∈ WB := wb_mem 425 (by decide +kernel) rfl
theorem w_387 : (Jvm.Cond.methodLink "SignalBoard$Controller" (46 : Nat) ({ cls := "SignalBoard$Controller", name := "complete", desc := "(II)V" } : Jvm.MethodName)) ∈ WB := wb_mem 426 (by decide +kernel) rfl
theorem w_389 : (Jvm.Cond.instanceMethod ({ cls := "SignalBoard$Controller", name := "complete", desc := "(II)V" } : Jvm.MethodName)) ∈ WB := wb_mem 428 (by decide +kernel) rfl
theorem w_390 : (Jvm.Cond.code ({ cls := "SignalBoard$Controller", name := "complete", desc := "(II)V" } : Jvm.MethodName) prog_2_method_7_code (3 : Nat) (Option.none : Option Jvm.ClassFile.FieldType)) ∈ WB := wb_mem 429 (by decide +kernel) rfl
theorem w_391 : (Jvm.Cond.constantLong "SignalBoard" (65 : Nat) (255 : Int64)) ∈ WB := wb_mem 430 (by decide +kernel) rfl
theorem w_392 : (Jvm.Cond.methodLink "SignalBoard" (67 : Nat) ({ cls := "SignalBoard$SerialLine", name := "store", desc := "(JII)V" } : Jvm.MethodName)) ∈ WB := wb_mem 431 (by decide +kernel) rfl
theorem w_393 : (Jvm.Cond.instanceMethod ({ cls := "SignalBoard$SerialLine", name := "store", desc := "(JII)V" } : Jvm.MethodName)) ∈ WB := wb_mem 432 (by decide +kernel) rfl
theorem w_394 : (Jvm.Cond.selects "SignalBoard$SerialLine" ({ cls := "SignalBoard$SerialLine", name := "store", desc := "(JII)V" } : Jvm.MethodName) ({ cls := "SignalBoard$SerialLine", name := "store", desc := "(JII)V" } : Jvm.MethodName)) ∈ WB := wb_mem 433 (by decide +kernel) rfl
theorem w_395 : (Jvm.Cond.code ({ cls := "SignalBoard$SerialLine", name := "store", desc := "(JII)V" } : Jvm.MethodName) prog_5_method_3_code (5 : Nat) (Option.none : Option Jvm.ClassFile.FieldType)) ∈ WB := wb_mem 434 (by decide +kernel) rfl
theorem w_396 : (Jvm.Cond.methodLink "SignalBoard$SerialLine" (61 : Nat) ({ cls := "SignalBoard$SerialLine", name := "storeData", desc := "(I)V" } : Jvm.MethodName)) ∈ WB := wb_mem 435 (by decide +kernel) rfl
theorem w_398 : (Jvm.Cond.instanceMethod ({ cls := "SignalBoard$SerialLine", name := "storeData", desc := "(I)V" } : Jvm.MethodName)) ∈ WB := wb_mem 437 (by decide +kernel) rfl
theorem w_399 : (Jvm.Cond.code ({ cls := "SignalBoard$SerialLine", name := "storeData", desc := "(I)V" } : Jvm.MethodName) prog_5_method_10_code (2 : Nat) (Option.none : Option Jvm.ClassFile.FieldType)) ∈ WB := wb_mem 438 (by decide +kernel) rfl
theorem w_400 : (Jvm.Cond.methodLink "SignalBoard$SerialLine" (92 : Nat) ({ cls := "SignalBoard$SerialLine", name := "receive", desc := "(I)Z" } : Jvm.MethodName)) ∈ WB := wb_mem 439 (by decide +kernel) rfl
theorem w_401 : (Jvm.Cond.methodLink "SignalBoard$SerialLine" (95 : Nat) ({ cls := "SignalBoard$OutLog", name := "add", desc := "(I)V" } : Jvm.MethodName)) ∈ WB := wb_mem 440 (by decide +kernel) rfl
theorem w_402 : (Jvm.Cond.instanceMethod ({ cls := "SignalBoard$OutLog", name := "add", desc := "(I)V" } : Jvm.MethodName)) ∈ WB := wb_mem 441 (by decide +kernel) rfl
theorem w_403 : (Jvm.Cond.selects "SignalBoard$OutLog" ({ cls := "SignalBoard$OutLog", name := "add", desc := "(I)V" } : Jvm.MethodName) ({ cls := "SignalBoard$OutLog", name := "add", desc := "(I)V" } : Jvm.MethodName)) ∈ WB := wb_mem 442 (by decide +kernel) rfl
theorem w_404 : (Jvm.Cond.code ({ cls := "SignalBoard$OutLog", name := "add", desc := "(I)V" } : Jvm.MethodName) prog_4_method_2_code (2 : Nat) (Option.none : Option Jvm.ClassFile.FieldType)) ∈ WB := wb_mem 443 (by decide +kernel) rfl
theorem w_405 : (Jvm.Cond.methodLink "SignalBoard$SerialLine" (65 : Nat) ({ cls := "SignalBoard$SerialLine", name := "storeEnables", desc := "(I)V" } : Jvm.MethodName)) ∈ WB := wb_mem 444 (by decide +kernel) rfl
theorem w_407 : (Jvm.Cond.instanceMethod ({ cls := "SignalBoard$SerialLine", name := "storeEnables", desc := "(I)V" } : Jvm.MethodName)) ∈ WB := wb_mem 446 (by decide +kernel) rfl
theorem w_408 : (Jvm.Cond.code ({ cls := "SignalBoard$SerialLine", name := "storeEnables", desc := "(I)V" } : Jvm.MethodName) prog_5_method_11_code (2 : Nat) (Option.none : Option Jvm.ClassFile.FieldType)) ∈ WB := wb_mem 447 (by decide +kernel) rfl
theorem w_409 : (Jvm.Cond.methodLink "SignalBoard$SerialLine" (68 : Nat) ({ cls := "SignalBoard$InQueue", name := "configure", desc := "(ZZ)V" } : Jvm.MethodName)) ∈ WB := wb_mem 448 (by decide +kernel) rfl
theorem w_410 : (Jvm.Cond.instanceMethod ({ cls := "SignalBoard$InQueue", name := "configure", desc := "(ZZ)V" } : Jvm.MethodName)) ∈ WB := wb_mem 449 (by decide +kernel) rfl
theorem w_411 : (Jvm.Cond.selects "SignalBoard$InQueue" ({ cls := "SignalBoard$InQueue", name := "configure", desc := "(ZZ)V" } : Jvm.MethodName) ({ cls := "SignalBoard$InQueue", name := "configure", desc := "(ZZ)V" } : Jvm.MethodName)) ∈ WB := wb_mem 450 (by decide +kernel) rfl
theorem w_412 : (Jvm.Cond.code ({ cls := "SignalBoard$InQueue", name := "configure", desc := "(ZZ)V" } : Jvm.MethodName) prog_3_method_5_code (3 : Nat) (Option.none : Option Jvm.ClassFile.FieldType)) ∈ WB := wb_mem 451 (by decide +kernel) rfl
theorem w_413 : (Jvm.Cond.methodLink "SignalBoardLaw" (57 : Nat) ({ cls := "SignalBoardLaw", name := "signal", desc := "(LSignalBoard;IZ)I" } : Jvm.MethodName)) ∈ WB := wb_mem 452 (by decide +kernel) rfl
theorem w_414 : (Jvm.Cond.static ({ cls := "SignalBoardLaw", name := "signal", desc := "(LSignalBoard;IZ)I" } : Jvm.MethodName)) ∈ WB := wb_mem 453 (by decide +kernel) rfl
theorem w_415 : (Jvm.Cond.codeWith ({ cls := "SignalBoardLaw", name := "signal", desc := "(LSignalBoard;IZ)I" } : Jvm.MethodName) method_5_code (4 : Nat) (Option.some Jvm.ClassFile.FieldType.int) [((0 : Nat), (6 : Nat), (9 : Nat), (13 : Nat))]) ∈ WB := wb_mem 454 (by decide +kernel) rfl
theorem w_416 : (Jvm.Cond.methodLink "SignalBoardLaw" (19 : Nat) ({ cls := "SignalBoard", name := "signal", desc := "(IZ)V" } : Jvm.MethodName)) ∈ WB := wb_mem 455 (by decide +kernel) rfl
theorem w_417 : (Jvm.Cond.instanceMethod ({ cls := "SignalBoard", name := "signal", desc := "(IZ)V" } : Jvm.MethodName)) ∈ WB := wb_mem 456 (by decide +kernel) rfl
theorem w_418 : (Jvm.Cond.selects "SignalBoard" ({ cls := "SignalBoard", name := "signal", desc := "(IZ)V" } : Jvm.MethodName) ({ cls := "SignalBoard", name := "signal", desc := "(IZ)V" } : Jvm.MethodName)) ∈ WB := wb_mem 457 (by decide +kernel) rfl
theorem w_419 : (Jvm.Cond.code ({ cls := "SignalBoard", name := "signal", desc := "(IZ)V" } : Jvm.MethodName) prog_1_method_5_code (3 : Nat) (Option.none : Option Jvm.ClassFile.FieldType)) ∈ WB := wb_mem 458 (by decide +kernel) rfl
theorem w_421 : (Jvm.Cond.methodLink "SignalBoardLaw" (75 : Nat) ({ cls := "SignalBoardLaw", name := "line", desc := "(LSignalBoard;II[J)I" } : Jvm.MethodName)) ∈ WB := wb_mem 460 (by decide +kernel) rfl
theorem w_422 : (Jvm.Cond.static ({ cls := "SignalBoardLaw", name := "line", desc := "(LSignalBoard;II[J)I" } : Jvm.MethodName)) ∈ WB := wb_mem 461 (by decide +kernel) rfl
theorem w_423 : (Jvm.Cond.codeWith ({ cls := "SignalBoardLaw", name := "line", desc := "(LSignalBoard;II[J)I" } : Jvm.MethodName) method_6_code (5 : Nat) (Option.some Jvm.ClassFile.FieldType.int) [((0 : Nat), (17 : Nat), (20 : Nat), (13 : Nat))]) ∈ WB := wb_mem 462 (by decide +kernel) rfl
theorem w_424 : (Jvm.Cond.methodLink "SignalBoardLaw" (23 : Nat) ({ cls := "SignalBoard", name := "line", desc := "(II)Z" } : Jvm.MethodName)) ∈ WB := wb_mem 463 (by decide +kernel) rfl
theorem w_425 : (Jvm.Cond.instanceMethod ({ cls := "SignalBoard", name := "line", desc := "(II)Z" } : Jvm.MethodName)) ∈ WB := wb_mem 464 (by decide +kernel) rfl
theorem w_426 : (Jvm.Cond.selects "SignalBoard" ({ cls := "SignalBoard", name := "line", desc := "(II)Z" } : Jvm.MethodName) ({ cls := "SignalBoard", name := "line", desc := "(II)Z" } : Jvm.MethodName)) ∈ WB := wb_mem 465 (by decide +kernel) rfl
theorem w_427 : (Jvm.Cond.code ({ cls := "SignalBoard", name := "line", desc := "(II)Z" } : Jvm.MethodName) prog_1_method_9_code (3 : Nat) (Option.some Jvm.ClassFile.FieldType.boolean)) ∈ WB := wb_mem 466 (by decide +kernel) rfl
theorem w_429 : (Jvm.Cond.methodLink "SignalBoard" (94 : Nat) ({ cls := "SignalBoard$Timer", name := "isSoft", desc := "(I)Z" } : Jvm.MethodName)) ∈ WB := wb_mem 468 (by decide +kernel) rfl
theorem w_430 : (Jvm.Cond.instanceMethod ({ cls := "SignalBoard$Timer", name := "isSoft", desc := "(I)Z" } : Jvm.MethodName)) ∈ WB := wb_mem 469 (by decide +kernel) rfl
theorem w_431 : (Jvm.Cond.selects "SignalBoard$Timer" ({ cls := "SignalBoard$Timer", name := "isSoft", desc := "(I)Z" } : Jvm.MethodName) ({ cls := "SignalBoard$Timer", name := "isSoft", desc := "(I)Z" } : Jvm.MethodName)) ∈ WB := wb_mem 470 (by decide +kernel) rfl
theorem w_432 : (Jvm.Cond.code ({ cls := "SignalBoard$Timer", name := "isSoft", desc := "(I)Z" } : Jvm.MethodName) prog_6_method_5_code (2 : Nat) (Option.some Jvm.ClassFile.FieldType.boolean)) ∈ WB := wb_mem 471 (by decide +kernel) rfl
theorem w_433 : (Jvm.Cond.methodLink "SignalBoard" (97 : Nat) ({ cls := "SignalBoard$Timer", name := "isDue", desc := "(I)Z" } : Jvm.MethodName)) ∈ WB := wb_mem 472 (by decide +kernel) rfl
theorem w_434 : (Jvm.Cond.instanceMethod ({ cls := "SignalBoard$Timer", name := "isDue", desc := "(I)Z" } : Jvm.MethodName)) ∈ WB := wb_mem 473 (by decide +kernel) rfl
theorem w_435 : (Jvm.Cond.selects "SignalBoard$Timer" ({ cls := "SignalBoard$Timer", name := "isDue", desc := "(I)Z" } : Jvm.MethodName) ({ cls := "SignalBoard$Timer", name := "isDue", desc := "(I)Z" } : Jvm.MethodName)) ∈ WB := wb_mem 474 (by decide +kernel) rfl
theorem w_436 : (Jvm.Cond.code ({ cls := "SignalBoard$Timer", name := "isDue", desc := "(I)Z" } : Jvm.MethodName) prog_6_method_6_code (2 : Nat) (Option.some Jvm.ClassFile.FieldType.boolean)) ∈ WB := wb_mem 475 (by decide +kernel) rfl
theorem w_437 : (Jvm.Cond.methodLink "SignalBoard$Timer" (46 : Nat) ({ cls := "java/lang/Long", name := "compareUnsigned", desc := "(JJ)I" } : Jvm.MethodName)) ∈ WB := wb_mem 476 (by decide +kernel) rfl
theorem w_438 : (Jvm.Cond.static ({ cls := "java/lang/Long", name := "compareUnsigned", desc := "(JJ)I" } : Jvm.MethodName)) ∈ WB := wb_mem 477 (by decide +kernel) rfl
theorem w_439 : (Jvm.Cond.code ({ cls := "java/lang/Long", name := "compareUnsigned", desc := "(JJ)I" } : Jvm.MethodName) prog_11_method_43_code (4 : Nat) (Option.some Jvm.ClassFile.FieldType.int)) ∈ WB := wb_mem 478 (by decide +kernel) rfl
theorem w_440 : (Jvm.Cond.constantLong "java/lang/Long" (168 : Nat) (-9223372036854775808 : Int64)) ∈ WB := wb_mem 479 (by decide +kernel) rfl
theorem w_441 : (Jvm.Cond.methodLink "java/lang/Long" (302 : Nat) ({ cls := "java/lang/Long", name := "compare", desc := "(JJ)I" } : Jvm.MethodName)) ∈ WB := wb_mem 480 (by decide +kernel) rfl
theorem w_442 : (Jvm.Cond.static ({ cls := "java/lang/Long", name := "compare", desc := "(JJ)I" } : Jvm.MethodName)) ∈ WB := wb_mem 481 (by decide +kernel) rfl
theorem w_443 : (Jvm.Cond.code ({ cls := "java/lang/Long", name := "compare", desc := "(JJ)I" } : Jvm.MethodName) prog_11_method_42_code (4 : Nat) (Option.some Jvm.ClassFile.FieldType.int)) ∈ WB := wb_mem 482 (by decide +kernel) rfl
theorem w_444 : (Jvm.Cond.methodLink "SignalBoard" (100 : Nat) ({ cls := "SignalBoard$Controller", name := "calls", desc := "(I)Z" } : Jvm.MethodName)) ∈ WB := wb_mem 483 (by decide +kernel) rfl
theorem w_445 : (Jvm.Cond.instanceMethod ({ cls := "SignalBoard$Controller", name := "calls", desc := "(I)Z" } : Jvm.MethodName)) ∈ WB := wb_mem 484 (by decide +kernel) rfl
theorem w_446 : (Jvm.Cond.selects "SignalBoard$Controller" ({ cls := "SignalBoard$Controller", name := "calls", desc := "(I)Z" } : Jvm.MethodName) ({ cls := "SignalBoard$Controller", name := "calls", desc := "(I)Z" } : Jvm.MethodName)) ∈ WB := wb_mem 485 (by decide +kernel) rfl
theorem w_447 : (Jvm.Cond.code ({ cls := "SignalBoard$Controller", name := "calls", desc := "(I)Z" } : Jvm.MethodName) prog_2_method_5_code (2 : Nat) (Option.some Jvm.ClassFile.FieldType.boolean)) ∈ WB := wb_mem 486 (by decide +kernel) rfl
theorem w_449 : (Jvm.Cond.classLink "SignalBoardLaw" (36 : Nat) "SignalBoardModel") ∈ WB := wb_mem 488 (by decide +kernel) rfl
theorem w_450 : (Jvm.Cond.instantiable "SignalBoardModel" (20 : Nat)) ∈ WB := wb_mem 489 (by decide +kernel) rfl
theorem w_451 : (Jvm.Cond.methodLink "SignalBoardLaw" (38 : Nat) ({ cls := "SignalBoardModel", name := "<init>", desc := "(I)V" } : Jvm.MethodName)) ∈ WB := wb_mem 490 (by decide +kernel) rfl
theorem w_452 : (Jvm.Cond.instanceMethod ({ cls := "SignalBoardModel", name := "<init>", desc := "(I)V" } : Jvm.MethodName)) ∈ WB := wb_mem 491 (by decide +kernel) rfl
theorem w_453 : (Jvm.Cond.code ({ cls := "SignalBoardModel", name := "<init>", desc := "(I)V" } : Jvm.MethodName) prog_8_method_1_code (3 : Nat) (Option.none : Option Jvm.ClassFile.FieldType)) ∈ WB := wb_mem 492 (by decide +kernel) rfl
theorem w_454 : (Jvm.Cond.methodLink "SignalBoardModel" (1 : Nat) ({ cls := "java/lang/Object", name := "<init>", desc := "()V" } : Jvm.MethodName)) ∈ WB := wb_mem 493 (by decide +kernel) rfl
theorem w_455 : (Jvm.Cond.constantLong "SignalBoardModel" (52 : Nat) (-1 : Int64)) ∈ WB := wb_mem 494 (by decide +kernel) rfl
theorem w_456 : (Jvm.Cond.fieldLink "SignalBoardModel" (54 : Nat) "SignalBoardModel" "thrown" "I") ∈ WB := wb_mem 495 (by decide +kernel) rfl
theorem w_457 : (Jvm.Cond.fieldLink "SignalBoardModel" (48 : Nat) "SignalBoardModel" "processors" "I") ∈ WB := wb_mem 496 (by decide +kernel) rfl
theorem w_458 : (Jvm.Cond.fieldLink "SignalBoardModel" (7 : Nat) "SignalBoardModel" "soft" "[Z") ∈ WB := wb_mem 497 (by decide +kernel) rfl
theorem w_459 : (Jvm.Cond.fieldLink "SignalBoardModel" (13 : Nat) "SignalBoardModel" "compares" "[J") ∈ WB := wb_mem 498 (by decide +kernel) rfl
theorem w_460 : (Jvm.Cond.fieldLink "SignalBoardModel" (65 : Nat) "SignalBoardModel" "time" "J") ∈ WB := wb_mem 499 (by decide +kernel) rfl
theorem w_461 : (Jvm.Cond.fieldLink "SignalBoardModel" (17 : Nat) "SignalBoardModel" "signals" "[Z") ∈ WB := wb_mem 500 (by decide +kernel) rfl
theorem w_462 : (Jvm.Cond.fieldLink "SignalBoardModel" (20 : Nat) "SignalBoardModel" "waits" "[Z") ∈ WB := wb_mem 501 (by decide +kernel) rfl
theorem w_463 : (Jvm.Cond.fieldLink "SignalBoardModel" (23 : Nat) "SignalBoardModel" "served" "[Z") ∈ WB := wb_mem 502 (by decide +kernel) rfl
theorem w_464 : (Jvm.Cond.fieldLink "SignalBoardModel" (26 : Nat) "SignalBoardModel" "priorities" "[I") ∈ WB := wb_mem 503 (by decide +kernel) rfl
theorem w_465 : (Jvm.Cond.fieldLink "SignalBoardModel" (30 : Nat) "SignalBoardModel" "enabled" "[I") ∈ WB := wb_mem 504 (by decide +kernel) rfl
theorem w_466 : (Jvm.Cond.fieldLink "SignalBoardModel" (33 : Nat) "SignalBoardModel" "thresholds" "[I") ∈ WB := wb_mem 505 (by decide +kernel) rfl
theorem w_467 : (Jvm.Cond.fieldLink "SignalBoardModel" (36 : Nat) "SignalBoardModel" "registers" "[I") ∈ WB := wb_mem 506 (by decide +kernel) rfl
theorem w_468 : (Jvm.Cond.fieldLink "SignalBoardModel" (39 : Nat) "SignalBoardModel" "others" "[I") ∈ WB := wb_mem 507 (by decide +kernel) rfl
theorem w_469 : (Jvm.Cond.fieldLink "SignalBoardModel" (137 : Nat) "SignalBoardModel" "queueBit" "Z") ∈ WB := wb_mem 508 (by decide +kernel) rfl
theorem w_470 : (Jvm.Cond.fieldLink "SignalBoardModel" (127 : Nat) "SignalBoardModel" "overrun" "Z") ∈ WB := wb_mem 509 (by decide +kernel) rfl
theorem w_471 : (Jvm.Cond.fieldLink "SignalBoardModel" (134 : Nat) "SignalBoardModel" "emptied" "Z") ∈ WB := wb_mem 510 (by decide +kernel) rfl
theorem w_472 : (Jvm.Cond.fieldLink "SignalBoardModel" (42 : Nat) "SignalBoardModel" "came" "[I") ∈ WB := wb_mem 511 (by decide +kernel) rfl
theorem w_473 : (Jvm.Cond.fieldLink "SignalBoardModel" (131 : Nat) "SignalBoardModel" "many" "I") ∈ WB := wb_mem 512 (by decide +kernel) rfl
theorem w_474 : (Jvm.Cond.fieldLink "SignalBoardModel" (45 : Nat) "SignalBoardModel" "out" "[I") ∈ WB := wb_mem 513 (by decide +kernel) rfl
theorem w_475 : (Jvm.Cond.fieldLink "SignalBoardModel" (165 : Nat) "SignalBoardModel" "sent" "J") ∈ WB := wb_mem 514 (by decide +kernel) rfl
theorem w_476 : (Jvm.Cond.lays "SignalBoardModel" "SignalBoardModel" "thrown" "I") ∈ WB := wb_mem 515 (by decide +kernel) rfl
theorem w_477 : (Jvm.Cond.soleField "SignalBoardModel" "thrown") ∈ WB := wb_mem 516 (by decide +kernel) rfl
theorem w_478 : (Jvm.Cond.laysFinal "SignalBoardModel" "SignalBoardModel" "processors" "I") ∈ WB := wb_mem 517 (by decide +kernel) rfl
theorem w_479 : (Jvm.Cond.soleField "SignalBoardModel" "processors") ∈ WB := wb_mem 518 (by decide +kernel) rfl
theorem w_480 : (Jvm.Cond.laysFinal "SignalBoardModel" "SignalBoardModel" "soft" "[Z") ∈ WB := wb_mem 519 (by decide +kernel) rfl
theorem w_481 : (Jvm.Cond.soleField "SignalBoardModel" "soft") ∈ WB := wb_mem 520 (by decide +kernel) rfl
theorem w_482 : (Jvm.Cond.laysFinal "SignalBoardModel" "SignalBoardModel" "compares" "[J") ∈ WB := wb_mem 521 (by decide +kernel) rfl
theorem w_483 : (Jvm.Cond.soleField "SignalBoardModel" "compares") ∈ WB := wb_mem 522 (by decide +kernel) rfl
theorem w_484 : (Jvm.Cond.lays "SignalBoardModel" "SignalBoardModel" "time" "J") ∈ WB := wb_mem 523 (by decide +kernel) rfl
theorem w_485 : (Jvm.Cond.soleField "SignalBoardModel" "time") ∈ WB := wb_mem 524 (by decide +kernel) rfl
theorem w_486 : (Jvm.Cond.laysFinal "SignalBoardModel" "SignalBoardModel" "signals" "[Z") ∈ WB := wb_mem 525 (by decide +kernel) rfl
theorem w_487 : (Jvm.Cond.soleField "SignalBoardModel" "signals") ∈ WB := wb_mem 526 (by decide +kernel) rfl
theorem w_488 : (Jvm.Cond.laysFinal "SignalBoardModel" "SignalBoardModel" "waits" "[Z") ∈ WB := wb_mem 527 (by decide +kernel) rfl
theorem w_489 : (Jvm.Cond.soleField "SignalBoardModel" "waits") ∈ WB := wb_mem 528 (by decide +kernel) rfl
theorem w_490 : (Jvm.Cond.laysFinal "SignalBoardModel" "SignalBoardModel" "served" "[Z") ∈ WB := wb_mem 529 (by decide +kernel) rfl
theorem w_491 : (Jvm.Cond.soleField "SignalBoardModel" "served") ∈ WB := wb_mem 530 (by decide +kernel) rfl
theorem w_492 : (Jvm.Cond.laysFinal "SignalBoardModel" "SignalBoardModel" "priorities" "[I") ∈ WB := wb_mem 531 (by decide +kernel) rfl
theorem w_493 : (Jvm.Cond.soleField "SignalBoardModel" "priorities") ∈ WB := wb_mem 532 (by decide +kernel) rfl
theorem w_494 : (Jvm.Cond.laysFinal "SignalBoardModel" "SignalBoardModel" "enabled" "[I") ∈ WB := wb_mem 533 (by decide +kernel) rfl
theorem w_495 : (Jvm.Cond.soleField "SignalBoardModel" "enabled") ∈ WB := wb_mem 534 (by decide +kernel) rfl
theorem w_496 : (Jvm.Cond.laysFinal "SignalBoardModel" "SignalBoardModel" "thresholds" "[I") ∈ WB := wb_mem 535 (by decide +kernel) rfl
theorem w_497 : (Jvm.Cond.soleField "SignalBoardModel" "thresholds") ∈ WB := wb_mem 536 (by decide +kernel) rfl
theorem w_498 : (Jvm.Cond.laysFinal "SignalBoardModel" "SignalBoardModel" "registers" "[I") ∈ WB := wb_mem 537 (by decide +kernel) rfl
theorem w_499 : (Jvm.Cond.soleField "SignalBoardModel" "registers") ∈ WB := wb_mem 538 (by decide +kernel) rfl
theorem w_500 : (Jvm.Cond.laysFinal "SignalBoardModel" "SignalBoardModel" "others" "[I") ∈ WB := wb_mem 539 (by decide +kernel) rfl
theorem w_501 : (Jvm.Cond.soleField "SignalBoardModel" "others") ∈ WB := wb_mem 540 (by decide +kernel) rfl
theorem w_502 : (Jvm.Cond.lays "SignalBoardModel" "SignalBoardModel" "queueBit" "Z") ∈ WB := wb_mem 541 (by decide +kernel) rfl
theorem w_503 : (Jvm.Cond.soleField "SignalBoardModel" "queueBit") ∈ WB := wb_mem 542 (by decide +kernel) rfl
theorem w_504 : (Jvm.Cond.lays "SignalBoardModel" "SignalBoardModel" "overrun" "Z") ∈ WB := wb_mem 543 (by decide +kernel) rfl
theorem w_505 : (Jvm.Cond.soleField "SignalBoardModel" "overrun") ∈ WB := wb_mem 544 (by decide +kernel) rfl
theorem w_506 : (Jvm.Cond.lays "SignalBoardModel" "SignalBoardModel" "emptied" "Z") ∈ WB := wb_mem 545 (by decide +kernel) rfl
theorem w_507 : (Jvm.Cond.soleField "SignalBoardModel" "emptied") ∈ WB := wb_mem 546 (by decide +kernel) rfl
theorem w_508 : (Jvm.Cond.laysFinal "SignalBoardModel" "SignalBoardModel" "came" "[I") ∈ WB := wb_mem 547 (by decide +kernel) rfl
theorem w_509 : (Jvm.Cond.soleField "SignalBoardModel" "came") ∈ WB := wb_mem 548 (by decide +kernel) rfl
theorem w_510 : (Jvm.Cond.lays "SignalBoardModel" "SignalBoardModel" "many" "I") ∈ WB := wb_mem 549 (by decide +kernel) rfl
theorem w_511 : (Jvm.Cond.soleField "SignalBoardModel" "many") ∈ WB := wb_mem 550 (by decide +kernel) rfl
theorem w_512 : (Jvm.Cond.laysFinal "SignalBoardModel" "SignalBoardModel" "out" "[I") ∈ WB := wb_mem 551 (by decide +kernel) rfl
theorem w_513 : (Jvm.Cond.soleField "SignalBoardModel" "out") ∈ WB := wb_mem 552 (by decide +kernel) rfl
theorem w_514 : (Jvm.Cond.lays "SignalBoardModel" "SignalBoardModel" "sent" "J") ∈ WB := wb_mem 553 (by decide +kernel) rfl
theorem w_515 : (Jvm.Cond.soleField "SignalBoardModel" "sent") ∈ WB := wb_mem 554 (by decide +kernel) rfl
theorem w_516 : (Jvm.Cond.superclass "SignalBoardModel" "java/lang/Object") ∈ WB := wb_mem 555 (by decide +kernel) rfl
theorem w_517 : (Jvm.Cond.arrayClass Jvm.ClassFile.FieldType.boolean) ∈ WB := wb_mem 556 (by decide +kernel) rfl
theorem w_518 : (Jvm.Cond.methodLink "SignalBoardLaw" (50 : Nat) ({ cls := "SignalBoardModel", name := "thrown", desc := "()I" } : Jvm.MethodName)) ∈ WB := wb_mem 557 (by decide +kernel) rfl
theorem w_519 : (Jvm.Cond.instanceMethod ({ cls := "SignalBoardModel", name := "thrown", desc := "()I" } : Jvm.MethodName)) ∈ WB := wb_mem 558 (by decide +kernel) rfl
theorem w_520 : (Jvm.Cond.selects "SignalBoardModel" ({ cls := "SignalBoardModel", name := "thrown", desc := "()I" } : Jvm.MethodName) ({ cls := "SignalBoardModel", name := "thrown", desc := "()I" } : Jvm.MethodName)) ∈ WB := wb_mem 559 (by decide +kernel) rfl
theorem w_521 : (Jvm.Cond.code ({ cls := "SignalBoardModel", name := "thrown", desc := "()I" } : Jvm.MethodName) prog_8_method_2_code (1 : Nat) (Option.some Jvm.ClassFile.FieldType.int)) ∈ WB := wb_mem 560 (by decide +kernel) rfl
theorem w_522 : (Jvm.Cond.methodLink "SignalBoardLaw" (43 : Nat) ({ cls := "SignalBoardModel", name := "processors", desc := "()I" } : Jvm.MethodName)) ∈ WB := wb_mem 561 (by decide +kernel) rfl
theorem w_523 : (Jvm.Cond.instanceMethod ({ cls := "SignalBoardModel", name := "processors", desc := "()I" } : Jvm.MethodName)) ∈ WB := wb_mem 562 (by decide +kernel) rfl
theorem w_524 : (Jvm.Cond.selects "SignalBoardModel" ({ cls := "SignalBoardModel", name := "processors", desc := "()I" } : Jvm.MethodName) ({ cls := "SignalBoardModel", name := "processors", desc := "()I" } : Jvm.MethodName)) ∈ WB := wb_mem 563 (by decide +kernel) rfl
theorem w_525 : (Jvm.Cond.code ({ cls := "SignalBoardModel", name := "processors", desc := "()I" } : Jvm.MethodName) prog_8_method_3_code (1 : Nat) (Option.some Jvm.ClassFile.FieldType.int)) ∈ WB := wb_mem 564 (by decide +kernel) rfl
theorem w_526 : (Jvm.Cond.methodLink "SignalBoardLaw" (49 : Nat) ({ cls := "SignalBoardModel", name := "read", desc := "(IJI)J" } : Jvm.MethodName)) ∈ WB := wb_mem 565 (by decide +kernel) rfl
theorem w_527 : (Jvm.Cond.instanceMethod ({ cls := "SignalBoardModel", name := "read", desc := "(IJI)J" } : Jvm.MethodName)) ∈ WB := wb_mem 566 (by decide +kernel) rfl
theorem w_528 : (Jvm.Cond.selects "SignalBoardModel" ({ cls := "SignalBoardModel", name := "read", desc := "(IJI)J" } : Jvm.MethodName) ({ cls := "SignalBoardModel", name := "read", desc := "(IJI)J" } : Jvm.MethodName)) ∈ WB := wb_mem 567 (by decide +kernel) rfl
theorem w_529 : (Jvm.Cond.code ({ cls := "SignalBoardModel", name := "read", desc := "(IJI)J" } : Jvm.MethodName) prog_8_method_31_code (7 : Nat) (Option.some Jvm.ClassFile.FieldType.long)) ∈ WB := wb_mem 568 (by decide +kernel) rfl
theorem w_530 : (Jvm.Cond.methodLink "SignalBoardModel" (172 : Nat) ({ cls := "SignalBoardModel", name := "isProper", desc := "(IJI)Z" } : Jvm.MethodName)) ∈ WB := wb_mem 569 (by decide +kernel) rfl
theorem w_531 : (Jvm.Cond.static ({ cls := "SignalBoardModel", name := "isProper", desc := "(IJI)Z" } : Jvm.MethodName)) ∈ WB := wb_mem 570 (by decide +kernel) rfl
theorem w_532 : (Jvm.Cond.code ({ cls := "SignalBoardModel", name := "isProper", desc := "(IJI)Z" } : Jvm.MethodName) prog_8_method_30_code (4 : Nat) (Option.some Jvm.ClassFile.FieldType.boolean)) ∈ WB := wb_mem 571 (by decide +kernel) rfl
theorem w_533 : (Jvm.Cond.methodLink "SignalBoardModel" (176 : Nat) ({ cls := "SignalBoardModel", name := "readTimer", desc := "(JI)J" } : Jvm.MethodName)) ∈ WB := wb_mem 572 (by decide +kernel) rfl
theorem w_535 : (Jvm.Cond.instanceMethod ({ cls := "SignalBoardModel", name := "readTimer", desc := "(JI)J" } : Jvm.MethodName)) ∈ WB := wb_mem 574 (by decide +kernel) rfl
theorem w_536 : (Jvm.Cond.code ({ cls := "SignalBoardModel", name := "readTimer", desc := "(JI)J" } : Jvm.MethodName) prog_8_method_8_code (5 : Nat) (Option.some Jvm.ClassFile.FieldType.long)) ∈ WB := wb_mem 575 (by decide +kernel) rfl
theorem w_537 : (Jvm.Cond.constantLong "SignalBoardModel" (69 : Nat) (4 : Int64)) ∈ WB := wb_mem 576 (by decide +kernel) rfl
theorem w_538 : (Jvm.Cond.methodLink "SignalBoardModel" (71 : Nat) ({ cls := "SignalBoardModel", name := "eightAt", desc := "(J)I" } : Jvm.MethodName)) ∈ WB := wb_mem 577 (by decide +kernel) rfl
theorem w_540 : (Jvm.Cond.instanceMethod ({ cls := "SignalBoardModel", name := "eightAt", desc := "(J)I" } : Jvm.MethodName)) ∈ WB := wb_mem 579 (by decide +kernel) rfl
theorem w_541 : (Jvm.Cond.code ({ cls := "SignalBoardModel", name := "eightAt", desc := "(J)I" } : Jvm.MethodName) prog_8_method_5_code (3 : Nat) (Option.some Jvm.ClassFile.FieldType.int)) ∈ WB := wb_mem 580 (by decide +kernel) rfl
theorem w_542 : (Jvm.Cond.constantLong "SignalBoardModel" (57 : Nat) (49144 : Int64)) ∈ WB := wb_mem 581 (by decide +kernel) rfl
theorem w_543 : (Jvm.Cond.constantLong "SignalBoardModel" (59 : Nat) (49152 : Int64)) ∈ WB := wb_mem 582 (by decide +kernel) rfl
theorem w_544 : (Jvm.Cond.constantLong "SignalBoardModel" (61 : Nat) (16384 : Int64)) ∈ WB := wb_mem 583 (by decide +kernel) rfl
theorem w_545 : (Jvm.Cond.constantLong "SignalBoardModel" (63 : Nat) (8 : Int64)) ∈ WB := wb_mem 584 (by decide +kernel) rfl
theorem w_546 : (Jvm.Cond.methodLink "SignalBoardModel" (75 : Nat) ({ cls := "SignalBoardModel", name := "eight", desc := "(I)J" } : Jvm.MethodName)) ∈ WB := wb_mem 585 (by decide +kernel) rfl
theorem w_548 : (Jvm.Cond.instanceMethod ({ cls := "SignalBoardModel", name := "eight", desc := "(I)J" } : Jvm.MethodName)) ∈ WB := wb_mem 587 (by decide +kernel) rfl
theorem w_549 : (Jvm.Cond.code ({ cls := "SignalBoardModel", name := "eight", desc := "(I)J" } : Jvm.MethodName) prog_8_method_6_code (2 : Nat) (Option.some Jvm.ClassFile.FieldType.long)) ∈ WB := wb_mem 588 (by decide +kernel) rfl
theorem w_550 : (Jvm.Cond.constantLong "SignalBoardModel" (79 : Nat) (4294967295 : Int64)) ∈ WB := wb_mem 589 (by decide +kernel) rfl
theorem w_551 : (Jvm.Cond.methodLink "SignalBoardModel" (180 : Nat) ({ cls := "SignalBoardModel", name := "readController", desc := "(J)J" } : Jvm.MethodName)) ∈ WB := wb_mem 590 (by decide +kernel) rfl
theorem w_553 : (Jvm.Cond.instanceMethod ({ cls := "SignalBoardModel", name := "readController", desc := "(J)J" } : Jvm.MethodName)) ∈ WB := wb_mem 592 (by decide +kernel) rfl
theorem w_554 : (Jvm.Cond.code ({ cls := "SignalBoardModel", name := "readController", desc := "(J)J" } : Jvm.MethodName) prog_8_method_16_code (4 : Nat) (Option.some Jvm.ClassFile.FieldType.long)) ∈ WB := wb_mem 593 (by decide +kernel) rfl
theorem w_555 : (Jvm.Cond.constantLong "SignalBoardModel" (97 : Nat) (4096 : Int64)) ∈ WB := wb_mem 594 (by decide +kernel) rfl
theorem w_556 : (Jvm.Cond.methodLink "SignalBoardModel" (99 : Nat) ({ cls := "SignalBoardModel", name := "waiting", desc := "()J" } : Jvm.MethodName)) ∈ WB := wb_mem 595 (by decide +kernel) rfl
theorem w_558 : (Jvm.Cond.instanceMethod ({ cls := "SignalBoardModel", name := "waiting", desc := "()J" } : Jvm.MethodName)) ∈ WB := wb_mem 597 (by decide +kernel) rfl
theorem w_559 : (Jvm.Cond.code ({ cls := "SignalBoardModel", name := "waiting", desc := "()J" } : Jvm.MethodName) prog_8_method_15_code (4 : Nat) (Option.some Jvm.ClassFile.FieldType.long)) ∈ WB := wb_mem 598 (by decide +kernel) rfl
theorem w_560 : (Jvm.Cond.constantLong "SignalBoardModel" (103 : Nat) (128 : Int64)) ∈ WB := wb_mem 599 (by decide +kernel) rfl
theorem w_561 : (Jvm.Cond.constantLong "SignalBoardModel" (105 : Nat) (8192 : Int64)) ∈ WB := wb_mem 600 (by decide +kernel) rfl
theorem w_562 : (Jvm.Cond.methodLink "SignalBoardModel" (107 : Nat) ({ cls := "SignalBoardModel", name := "contextAt", desc := "(JJJ)I" } : Jvm.MethodName)) ∈ WB := wb_mem 601 (by decide +kernel) rfl
theorem w_564 : (Jvm.Cond.instanceMethod ({ cls := "SignalBoardModel", name := "contextAt", desc := "(JJJ)I" } : Jvm.MethodName)) ∈ WB := wb_mem 603 (by decide +kernel) rfl
theorem w_565 : (Jvm.Cond.code ({ cls := "SignalBoardModel", name := "contextAt", desc := "(JJJ)I" } : Jvm.MethodName) prog_8_method_14_code (8 : Nat) (Option.some Jvm.ClassFile.FieldType.int)) ∈ WB := wb_mem 604 (by decide +kernel) rfl
theorem w_566 : (Jvm.Cond.constantLong "SignalBoardModel" (95 : Nat) (2 : Int64)) ∈ WB := wb_mem 605 (by decide +kernel) rfl
theorem w_567 : (Jvm.Cond.constantLong "SignalBoardModel" (111 : Nat) (2097152 : Int64)) ∈ WB := wb_mem 606 (by decide +kernel) rfl
theorem w_568 : (Jvm.Cond.constantLong "SignalBoardModel" (113 : Nat) (2097156 : Int64)) ∈ WB := wb_mem 607 (by decide +kernel) rfl
theorem w_569 : (Jvm.Cond.methodLink "SignalBoardModel" (115 : Nat) ({ cls := "SignalBoardModel", name := "claim", desc := "(I)J" } : Jvm.MethodName)) ∈ WB := wb_mem 608 (by decide +kernel) rfl
theorem w_571 : (Jvm.Cond.instanceMethod ({ cls := "SignalBoardModel", name := "claim", desc := "(I)J" } : Jvm.MethodName)) ∈ WB := wb_mem 610 (by decide +kernel) rfl
theorem w_572 : (Jvm.Cond.code ({ cls := "SignalBoardModel", name := "claim", desc := "(I)J" } : Jvm.MethodName) prog_8_method_13_code (3 : Nat) (Option.some Jvm.ClassFile.FieldType.long)) ∈ WB := wb_mem 611 (by decide +kernel) rfl
theorem w_573 : (Jvm.Cond.methodLink "SignalBoardModel" (91 : Nat) ({ cls := "SignalBoardModel", name := "best", desc := "(I)I" } : Jvm.MethodName)) ∈ WB := wb_mem 612 (by decide +kernel) rfl
theorem w_575 : (Jvm.Cond.instanceMethod ({ cls := "SignalBoardModel", name := "best", desc := "(I)I" } : Jvm.MethodName)) ∈ WB := wb_mem 614 (by decide +kernel) rfl
theorem w_576 : (Jvm.Cond.code ({ cls := "SignalBoardModel", name := "best", desc := "(I)I" } : Jvm.MethodName) prog_8_method_12_code (5 : Nat) (Option.some Jvm.ClassFile.FieldType.int)) ∈ WB := wb_mem 615 (by decide +kernel) rfl
theorem w_577 : (Jvm.Cond.methodLink "SignalBoardModel" (87 : Nat) ({ cls := "SignalBoardModel", name := "enables", desc := "(II)Z" } : Jvm.MethodName)) ∈ WB := wb_mem 616 (by decide +kernel) rfl
theorem w_579 : (Jvm.Cond.instanceMethod ({ cls := "SignalBoardModel", name := "enables", desc := "(II)Z" } : Jvm.MethodName)) ∈ WB := wb_mem 618 (by decide +kernel) rfl
theorem w_580 : (Jvm.Cond.code ({ cls := "SignalBoardModel", name := "enables", desc := "(II)Z" } : Jvm.MethodName) prog_8_method_11_code (3 : Nat) (Option.some Jvm.ClassFile.FieldType.boolean)) ∈ WB := wb_mem 619 (by decide +kernel) rfl
theorem w_581 : (Jvm.Cond.methodLink "SignalBoardModel" (184 : Nat) ({ cls := "SignalBoardModel", name := "readSerial", desc := "(I)J" } : Jvm.MethodName)) ∈ WB := wb_mem 620 (by decide +kernel) rfl
theorem w_583 : (Jvm.Cond.instanceMethod ({ cls := "SignalBoardModel", name := "readSerial", desc := "(I)J" } : Jvm.MethodName)) ∈ WB := wb_mem 622 (by decide +kernel) rfl
theorem w_584 : (Jvm.Cond.code ({ cls := "SignalBoardModel", name := "readSerial", desc := "(I)J" } : Jvm.MethodName) prog_8_method_26_code (2 : Nat) (Option.some Jvm.ClassFile.FieldType.long)) ∈ WB := wb_mem 623 (by decide +kernel) rfl
theorem w_585 : (Jvm.Cond.methodLink "SignalBoardModel" (124 : Nat) ({ cls := "SignalBoardModel", name := "hasBit", desc := "(II)Z" } : Jvm.MethodName)) ∈ WB := wb_mem 624 (by decide +kernel) rfl
theorem w_587 : (Jvm.Cond.instanceMethod ({ cls := "SignalBoardModel", name := "hasBit", desc := "(II)Z" } : Jvm.MethodName)) ∈ WB := wb_mem 626 (by decide +kernel) rfl
theorem w_588 : (Jvm.Cond.code ({ cls := "SignalBoardModel", name := "hasBit", desc := "(II)Z" } : Jvm.MethodName) prog_8_method_18_code (3 : Nat) (Option.some Jvm.ClassFile.FieldType.boolean)) ∈ WB := wb_mem 627 (by decide +kernel) rfl
theorem w_589 : (Jvm.Cond.methodLink "SignalBoardModel" (147 : Nat) ({ cls := "SignalBoardModel", name := "takeOut", desc := "()I" } : Jvm.MethodName)) ∈ WB := wb_mem 628 (by decide +kernel) rfl
theorem w_591 : (Jvm.Cond.instanceMethod ({ cls := "SignalBoardModel", name := "takeOut", desc := "()I" } : Jvm.MethodName)) ∈ WB := wb_mem 630 (by decide +kernel) rfl
theorem w_592 : (Jvm.Cond.code ({ cls := "SignalBoardModel", name := "takeOut", desc := "()I" } : Jvm.MethodName) prog_8_method_22_code (3 : Nat) (Option.some Jvm.ClassFile.FieldType.int)) ∈ WB := wb_mem 631 (by decide +kernel) rfl
theorem w_593 : (Jvm.Cond.methodLink "SignalBoardModel" (150 : Nat) ({ cls := "SignalBoardModel", name := "readCause", desc := "()I" } : Jvm.MethodName)) ∈ WB := wb_mem 632 (by decide +kernel) rfl
theorem w_595 : (Jvm.Cond.instanceMethod ({ cls := "SignalBoardModel", name := "readCause", desc := "()I" } : Jvm.MethodName)) ∈ WB := wb_mem 634 (by decide +kernel) rfl
theorem w_596 : (Jvm.Cond.code ({ cls := "SignalBoardModel", name := "readCause", desc := "()I" } : Jvm.MethodName) prog_8_method_24_code (2 : Nat) (Option.some Jvm.ClassFile.FieldType.int)) ∈ WB := wb_mem 635 (by decide +kernel) rfl
theorem w_597 : (Jvm.Cond.methodLink "SignalBoardModel" (144 : Nat) ({ cls := "SignalBoardModel", name := "cause", desc := "()I" } : Jvm.MethodName)) ∈ WB := wb_mem 636 (by decide +kernel) rfl
theorem w_599 : (Jvm.Cond.instanceMethod ({ cls := "SignalBoardModel", name := "cause", desc := "()I" } : Jvm.MethodName)) ∈ WB := wb_mem 638 (by decide +kernel) rfl
theorem w_600 : (Jvm.Cond.code ({ cls := "SignalBoardModel", name := "cause", desc := "()I" } : Jvm.MethodName) prog_8_method_19_code (1 : Nat) (Option.some Jvm.ClassFile.FieldType.int)) ∈ WB := wb_mem 639 (by decide +kernel) rfl
theorem w_601 : (Jvm.Cond.methodLink "SignalBoardModel" (153 : Nat) ({ cls := "SignalBoardModel", name := "readState", desc := "()I" } : Jvm.MethodName)) ∈ WB := wb_mem 640 (by decide +kernel) rfl
theorem w_603 : (Jvm.Cond.instanceMethod ({ cls := "SignalBoardModel", name := "readState", desc := "()I" } : Jvm.MethodName)) ∈ WB := wb_mem 642 (by decide +kernel) rfl
theorem w_604 : (Jvm.Cond.code ({ cls := "SignalBoardModel", name := "readState", desc := "()I" } : Jvm.MethodName) prog_8_method_25_code (2 : Nat) (Option.some Jvm.ClassFile.FieldType.int)) ∈ WB := wb_mem 643 (by decide +kernel) rfl
theorem w_605 : (Jvm.Cond.methodLink "SignalBoardModel" (156 : Nat) ({ cls := "SignalBoardModel", name := "looped", desc := "()I" } : Jvm.MethodName)) ∈ WB := wb_mem 644 (by decide +kernel) rfl
theorem w_607 : (Jvm.Cond.instanceMethod ({ cls := "SignalBoardModel", name := "looped", desc := "()I" } : Jvm.MethodName)) ∈ WB := wb_mem 646 (by decide +kernel) rfl
theorem w_608 : (Jvm.Cond.code ({ cls := "SignalBoardModel", name := "looped", desc := "()I" } : Jvm.MethodName) prog_8_method_23_code (2 : Nat) (Option.some Jvm.ClassFile.FieldType.int)) ∈ WB := wb_mem 647 (by decide +kernel) rfl
theorem w_609 : (Jvm.Cond.constantLong "SignalBoardModel" (159 : Nat) (176 : Int64)) ∈ WB := wb_mem 648 (by decide +kernel) rfl
theorem w_610 : (Jvm.Cond.methodLink "SignalBoardModel" (187 : Nat) ({ cls := "SignalBoardModel", name := "settle", desc := "()V" } : Jvm.MethodName)) ∈ WB := wb_mem 649 (by decide +kernel) rfl
theorem w_612 : (Jvm.Cond.instanceMethod ({ cls := "SignalBoardModel", name := "settle", desc := "()V" } : Jvm.MethodName)) ∈ WB := wb_mem 651 (by decide +kernel) rfl
theorem w_613 : (Jvm.Cond.code ({ cls := "SignalBoardModel", name := "settle", desc := "()V" } : Jvm.MethodName) prog_8_method_29_code (2 : Nat) (Option.none : Option Jvm.ClassFile.FieldType)) ∈ WB := wb_mem 652 (by decide +kernel) rfl
theorem w_614 : (Jvm.Cond.methodLink "SignalBoardLaw" (56 : Nat) ({ cls := "SignalBoardModel", name := "write", desc := "(IJIJ)V" } : Jvm.MethodName)) ∈ WB := wb_mem 653 (by decide +kernel) rfl
theorem w_615 : (Jvm.Cond.instanceMethod ({ cls := "SignalBoardModel", name := "write", desc := "(IJIJ)V" } : Jvm.MethodName)) ∈ WB := wb_mem 654 (by decide +kernel) rfl
theorem w_616 : (Jvm.Cond.selects "SignalBoardModel" ({ cls := "SignalBoardModel", name := "write", desc := "(IJIJ)V" } : Jvm.MethodName) ({ cls := "SignalBoardModel", name := "write", desc := "(IJIJ)V" } : Jvm.MethodName)) ∈ WB := wb_mem 655 (by decide +kernel) rfl
theorem w_617 : (Jvm.Cond.code ({ cls := "SignalBoardModel", name := "write", desc := "(IJIJ)V" } : Jvm.MethodName) prog_8_method_32_code (7 : Nat) (Option.none : Option Jvm.ClassFile.FieldType)) ∈ WB := wb_mem 656 (by decide +kernel) rfl
theorem w_618 : (Jvm.Cond.methodLink "SignalBoardModel" (190 : Nat) ({ cls := "SignalBoardModel", name := "writeTimer", desc := "(JIJ)V" } : Jvm.MethodName)) ∈ WB := wb_mem 657 (by decide +kernel) rfl
theorem w_620 : (Jvm.Cond.instanceMethod ({ cls := "SignalBoardModel", name := "writeTimer", desc := "(JIJ)V" } : Jvm.MethodName)) ∈ WB := wb_mem 659 (by decide +kernel) rfl
theorem w_621 : (Jvm.Cond.code ({ cls := "SignalBoardModel", name := "writeTimer", desc := "(JIJ)V" } : Jvm.MethodName) prog_8_method_9_code (11 : Nat) (Option.none : Option Jvm.ClassFile.FieldType)) ∈ WB := wb_mem 660 (by decide +kernel) rfl
theorem w_622 : (Jvm.Cond.methodLink "SignalBoardModel" (81 : Nat) ({ cls := "SignalBoardModel", name := "setEight", desc := "(IJ)V" } : Jvm.MethodName)) ∈ WB := wb_mem 661 (by decide +kernel) rfl
theorem w_624 : (Jvm.Cond.instanceMethod ({ cls := "SignalBoardModel", name := "setEight", desc := "(IJ)V" } : Jvm.MethodName)) ∈ WB := wb_mem 663 (by decide +kernel) rfl
theorem w_625 : (Jvm.Cond.code ({ cls := "SignalBoardModel", name := "setEight", desc := "(IJ)V" } : Jvm.MethodName) prog_8_method_7_code (4 : Nat) (Option.none : Option Jvm.ClassFile.FieldType)) ∈ WB := wb_mem 664 (by decide +kernel) rfl
theorem w_626 : (Jvm.Cond.methodLink "SignalBoardModel" (194 : Nat) ({ cls := "SignalBoardModel", name := "writeController", desc := "(JJ)V" } : Jvm.MethodName)) ∈ WB := wb_mem 665 (by decide +kernel) rfl
theorem w_628 : (Jvm.Cond.instanceMethod ({ cls := "SignalBoardModel", name := "writeController", desc := "(JJ)V" } : Jvm.MethodName)) ∈ WB := wb_mem 667 (by decide +kernel) rfl
theorem w_629 : (Jvm.Cond.code ({ cls := "SignalBoardModel", name := "writeController", desc := "(JJ)V" } : Jvm.MethodName) prog_8_method_17_code (8 : Nat) (Option.none : Option Jvm.ClassFile.FieldType)) ∈ WB := wb_mem 668 (by decide +kernel) rfl
theorem w_630 : (Jvm.Cond.methodLink "SignalBoardModel" (118 : Nat) ({ cls := "SignalBoardModel", name := "isSource", desc := "(J)Z" } : Jvm.MethodName)) ∈ WB := wb_mem 669 (by decide +kernel) rfl
theorem w_631 : (Jvm.Cond.static ({ cls := "SignalBoardModel", name := "isSource", desc := "(J)Z" } : Jvm.MethodName)) ∈ WB := wb_mem 670 (by decide +kernel) rfl
theorem w_632 : (Jvm.Cond.code ({ cls := "SignalBoardModel", name := "isSource", desc := "(J)Z" } : Jvm.MethodName) prog_8_method_10_code (2 : Nat) (Option.some Jvm.ClassFile.FieldType.boolean)) ∈ WB := wb_mem 671 (by decide +kernel) rfl
theorem w_633 : (Jvm.Cond.constantLong "SignalBoardModel" (85 : Nat) (32 : Int64)) ∈ WB := wb_mem 672 (by decide +kernel) rfl
theorem w_634 : (Jvm.Cond.constantLong "SignalBoardModel" (122 : Nat) (7 : Int64)) ∈ WB := wb_mem 673 (by decide +kernel) rfl
theorem w_635 : (Jvm.Cond.constantLong "SignalBoardModel" (198 : Nat) (255 : Int64)) ∈ WB := wb_mem 674 (by decide +kernel) rfl
theorem w_636 : (Jvm.Cond.methodLink "SignalBoardModel" (200 : Nat) ({ cls := "SignalBoardModel", name := "writeSerial", desc := "(II)V" } : Jvm.MethodName)) ∈ WB := wb_mem 675 (by decide +kernel) rfl
theorem w_638 : (Jvm.Cond.instanceMethod ({ cls := "SignalBoardModel", name := "writeSerial", desc := "(II)V" } : Jvm.MethodName)) ∈ WB := wb_mem 677 (by decide +kernel) rfl
theorem w_639 : (Jvm.Cond.code ({ cls := "SignalBoardModel", name := "writeSerial", desc := "(II)V" } : Jvm.MethodName) prog_8_method_28_code (4 : Nat) (Option.none : Option Jvm.ClassFile.FieldType)) ∈ WB := wb_mem 678 (by decide +kernel) rfl
theorem w_640 : (Jvm.Cond.methodLink "SignalBoardModel" (168 : Nat) ({ cls := "SignalBoardModel", name := "send", desc := "(I)V" } : Jvm.MethodName)) ∈ WB := wb_mem 679 (by decide +kernel) rfl
theorem w_642 : (Jvm.Cond.instanceMethod ({ cls := "SignalBoardModel", name := "send", desc := "(I)V" } : Jvm.MethodName)) ∈ WB := wb_mem 681 (by decide +kernel) rfl
theorem w_643 : (Jvm.Cond.code ({ cls := "SignalBoardModel", name := "send", desc := "(I)V" } : Jvm.MethodName) prog_8_method_27_code (2 : Nat) (Option.none : Option Jvm.ClassFile.FieldType)) ∈ WB := wb_mem 682 (by decide +kernel) rfl
theorem w_644 : (Jvm.Cond.methodLink "SignalBoardModel" (161 : Nat) ({ cls := "SignalBoardModel", name := "takeIn", desc := "(I)Z" } : Jvm.MethodName)) ∈ WB := wb_mem 683 (by decide +kernel) rfl
theorem w_646 : (Jvm.Cond.instanceMethod ({ cls := "SignalBoardModel", name := "takeIn", desc := "(I)Z" } : Jvm.MethodName)) ∈ WB := wb_mem 685 (by decide +kernel) rfl
theorem w_647 : (Jvm.Cond.code ({ cls := "SignalBoardModel", name := "takeIn", desc := "(I)Z" } : Jvm.MethodName) prog_8_method_21_code (2 : Nat) (Option.some Jvm.ClassFile.FieldType.boolean)) ∈ WB := wb_mem 686 (by decide +kernel) rfl
theorem w_648 : (Jvm.Cond.methodLink "SignalBoardModel" (140 : Nat) ({ cls := "SignalBoardModel", name := "space", desc := "()I" } : Jvm.MethodName)) ∈ WB := wb_mem 687 (by decide +kernel) rfl
theorem w_650 : (Jvm.Cond.instanceMethod ({ cls := "SignalBoardModel", name := "space", desc := "()I" } : Jvm.MethodName)) ∈ WB := wb_mem 689 (by decide +kernel) rfl
theorem w_651 : (Jvm.Cond.code ({ cls := "SignalBoardModel", name := "space", desc := "()I" } : Jvm.MethodName) prog_8_method_20_code (1 : Nat) (Option.some Jvm.ClassFile.FieldType.int)) ∈ WB := wb_mem 690 (by decide +kernel) rfl
theorem w_652 : (Jvm.Cond.methodLink "SignalBoardLaw" (60 : Nat) ({ cls := "SignalBoardModel", name := "signal", desc := "(IZ)V" } : Jvm.MethodName)) ∈ WB := wb_mem 691 (by decide +kernel) rfl
theorem w_653 : (Jvm.Cond.instanceMethod ({ cls := "SignalBoardModel", name := "signal", desc := "(IZ)V" } : Jvm.MethodName)) ∈ WB := wb_mem 692 (by decide +kernel) rfl
theorem w_654 : (Jvm.Cond.selects "SignalBoardModel" ({ cls := "SignalBoardModel", name := "signal", desc := "(IZ)V" } : Jvm.MethodName) ({ cls := "SignalBoardModel", name := "signal", desc := "(IZ)V" } : Jvm.MethodName)) ∈ WB := wb_mem 693 (by decide +kernel) rfl
theorem w_655 : (Jvm.Cond.code ({ cls := "SignalBoardModel", name := "signal", desc := "(IZ)V" } : Jvm.MethodName) prog_8_method_33_code (3 : Nat) (Option.none : Option Jvm.ClassFile.FieldType)) ∈ WB := wb_mem 694 (by decide +kernel) rfl
theorem w_656 : (Jvm.Cond.methodLink "SignalBoardLaw" (65 : Nat) ({ cls := "SignalBoardModel", name := "come", desc := "(I)Z" } : Jvm.MethodName)) ∈ WB := wb_mem 695 (by decide +kernel) rfl
theorem w_657 : (Jvm.Cond.instanceMethod ({ cls := "SignalBoardModel", name := "come", desc := "(I)Z" } : Jvm.MethodName)) ∈ WB := wb_mem 696 (by decide +kernel) rfl
theorem w_658 : (Jvm.Cond.selects "SignalBoardModel" ({ cls := "SignalBoardModel", name := "come", desc := "(I)Z" } : Jvm.MethodName) ({ cls := "SignalBoardModel", name := "come", desc := "(I)Z" } : Jvm.MethodName)) ∈ WB := wb_mem 697 (by decide +kernel) rfl
theorem w_659 : (Jvm.Cond.code ({ cls := "SignalBoardModel", name := "come", desc := "(I)Z" } : Jvm.MethodName) prog_8_method_34_code (3 : Nat) (Option.some Jvm.ClassFile.FieldType.boolean)) ∈ WB := wb_mem 698 (by decide +kernel) rfl
theorem w_660 : (Jvm.Cond.methodLink "SignalBoardLaw" (69 : Nat) ({ cls := "SignalBoardModel", name := "room", desc := "()I" } : Jvm.MethodName)) ∈ WB := wb_mem 699 (by decide +kernel) rfl
theorem w_661 : (Jvm.Cond.instanceMethod ({ cls := "SignalBoardModel", name := "room", desc := "()I" } : Jvm.MethodName)) ∈ WB := wb_mem 700 (by decide +kernel) rfl
theorem w_662 : (Jvm.Cond.selects "SignalBoardModel" ({ cls := "SignalBoardModel", name := "room", desc := "()I" } : Jvm.MethodName) ({ cls := "SignalBoardModel", name := "room", desc := "()I" } : Jvm.MethodName)) ∈ WB := wb_mem 701 (by decide +kernel) rfl
theorem w_663 : (Jvm.Cond.code ({ cls := "SignalBoardModel", name := "room", desc := "()I" } : Jvm.MethodName) prog_8_method_35_code (1 : Nat) (Option.some Jvm.ClassFile.FieldType.int)) ∈ WB := wb_mem 702 (by decide +kernel) rfl
theorem w_664 : (Jvm.Cond.methodLink "SignalBoardLaw" (74 : Nat) ({ cls := "SignalBoardModel", name := "pass", desc := "(J)V" } : Jvm.MethodName)) ∈ WB := wb_mem 703 (by decide +kernel) rfl
theorem w_665 : (Jvm.Cond.instanceMethod ({ cls := "SignalBoardModel", name := "pass", desc := "(J)V" } : Jvm.MethodName)) ∈ WB := wb_mem 704 (by decide +kernel) rfl
theorem w_666 : (Jvm.Cond.selects "SignalBoardModel" ({ cls := "SignalBoardModel", name := "pass", desc := "(J)V" } : Jvm.MethodName) ({ cls := "SignalBoardModel", name := "pass", desc := "(J)V" } : Jvm.MethodName)) ∈ WB := wb_mem 705 (by decide +kernel) rfl
theorem w_667 : (Jvm.Cond.code ({ cls := "SignalBoardModel", name := "pass", desc := "(J)V" } : Jvm.MethodName) prog_8_method_36_code (3 : Nat) (Option.none : Option Jvm.ClassFile.FieldType)) ∈ WB := wb_mem 706 (by decide +kernel) rfl
theorem w_668 : (Jvm.Cond.methodLink "SignalBoardLaw" (78 : Nat) ({ cls := "SignalBoardModel", name := "line", desc := "(II)Z" } : Jvm.MethodName)) ∈ WB := wb_mem 707 (by decide +kernel) rfl
theorem w_669 : (Jvm.Cond.instanceMethod ({ cls := "SignalBoardModel", name := "line", desc := "(II)Z" } : Jvm.MethodName)) ∈ WB := wb_mem 708 (by decide +kernel) rfl
theorem w_670 : (Jvm.Cond.selects "SignalBoardModel" ({ cls := "SignalBoardModel", name := "line", desc := "(II)Z" } : Jvm.MethodName) ({ cls := "SignalBoardModel", name := "line", desc := "(II)Z" } : Jvm.MethodName)) ∈ WB := wb_mem 709 (by decide +kernel) rfl
theorem w_671 : (Jvm.Cond.code ({ cls := "SignalBoardModel", name := "line", desc := "(II)Z" } : Jvm.MethodName) prog_8_method_38_code (3 : Nat) (Option.some Jvm.ClassFile.FieldType.boolean)) ∈ WB := wb_mem 710 (by decide +kernel) rfl
theorem w_672 : (Jvm.Cond.methodLink "SignalBoardModel" (204 : Nat) ({ cls := "SignalBoardModel", name := "isLess", desc := "(JJ)Z" } : Jvm.MethodName)) ∈ WB := wb_mem 711 (by decide +kernel) rfl
theorem w_673 : (Jvm.Cond.static ({ cls := "SignalBoardModel", name := "isLess", desc := "(JJ)Z" } : Jvm.MethodName)) ∈ WB := wb_mem 712 (by decide +kernel) rfl
theorem w_674 : (Jvm.Cond.code ({ cls := "SignalBoardModel", name := "isLess", desc := "(JJ)Z" } : Jvm.MethodName) prog_8_method_4_code (4 : Nat) (Option.some Jvm.ClassFile.FieldType.boolean)) ∈ WB := wb_mem 713 (by decide +kernel) rfl
theorem w_675 : (Jvm.Cond.methodLink "SignalBoardModel" (208 : Nat) ({ cls := "SignalBoardModel", name := "above", desc := "(I)Z" } : Jvm.MethodName)) ∈ WB := wb_mem 714 (by decide +kernel) rfl
theorem w_677 : (Jvm.Cond.instanceMethod ({ cls := "SignalBoardModel", name := "above", desc := "(I)Z" } : Jvm.MethodName)) ∈ WB := wb_mem 716 (by decide +kernel) rfl
theorem w_678 : (Jvm.Cond.code ({ cls := "SignalBoardModel", name := "above", desc := "(I)Z" } : Jvm.MethodName) prog_8_method_37_code (4 : Nat) (Option.some Jvm.ClassFile.FieldType.boolean)) ∈ WB := wb_mem 717 (by decide +kernel) rfl
theorem w_679 : (Jvm.Cond.methodLink "SignalBoardLaw" (83 : Nat) ({ cls := "SignalBoardModel", name := "sent", desc := "()J" } : Jvm.MethodName)) ∈ WB := wb_mem 718 (by decide +kernel) rfl
theorem w_680 : (Jvm.Cond.instanceMethod ({ cls := "SignalBoardModel", name := "sent", desc := "()J" } : Jvm.MethodName)) ∈ WB := wb_mem 719 (by decide +kernel) rfl
theorem w_681 : (Jvm.Cond.selects "SignalBoardModel" ({ cls := "SignalBoardModel", name := "sent", desc := "()J" } : Jvm.MethodName) ({ cls := "SignalBoardModel", name := "sent", desc := "()J" } : Jvm.MethodName)) ∈ WB := wb_mem 720 (by decide +kernel) rfl
theorem w_682 : (Jvm.Cond.code ({ cls := "SignalBoardModel", name := "sent", desc := "()J" } : Jvm.MethodName) prog_8_method_39_code (1 : Nat) (Option.some Jvm.ClassFile.FieldType.long)) ∈ WB := wb_mem 721 (by decide +kernel) rfl
theorem w_683 : (Jvm.Cond.methodLink "SignalBoardLaw" (88 : Nat) ({ cls := "SignalBoardModel", name := "out", desc := "(J)I" } : Jvm.MethodName)) ∈ WB := wb_mem 722 (by decide +kernel) rfl
theorem w_684 : (Jvm.Cond.instanceMethod ({ cls := "SignalBoardModel", name := "out", desc := "(J)I" } : Jvm.MethodName)) ∈ WB := wb_mem 723 (by decide +kernel) rfl
theorem w_685 : (Jvm.Cond.selects "SignalBoardModel" ({ cls := "SignalBoardModel", name := "out", desc := "(J)I" } : Jvm.MethodName) ({ cls := "SignalBoardModel", name := "out", desc := "(J)I" } : Jvm.MethodName)) ∈ WB := wb_mem 724 (by decide +kernel) rfl
theorem w_686 : (Jvm.Cond.code ({ cls := "SignalBoardModel", name := "out", desc := "(J)I" } : Jvm.MethodName) prog_8_method_40_code (3 : Nat) (Option.some Jvm.ClassFile.FieldType.int)) ∈ WB := wb_mem 725 (by decide +kernel) rfl
theorem w_687 : (Jvm.Cond.constantLong "SignalBoardLaw" (44 : Nat) (4294967295 : Int64)) ∈ WB := wb_mem 726 (by decide +kernel) rfl
theorem inWX0 : ∀ w ∈ u_ws RX0 TX0 7, w ∈ WB := by
  have h : u_ws RX0 TX0 7 = [.lays "SignalBoard$Controller" "SignalBoard$Controller" "signals" "I", .lays "SignalBoard$Controller" "SignalBoard$Controller" "waiting" "I", .lays "SignalBoard$Controller" "SignalBoard$Controller" "served" "I", .laysFinal "SignalBoard$Controller" "SignalBoard$Controller" "priority" "[I", .laysFinal "SignalBoard$Controller" "SignalBoard$Controller" "enables" "[I", .laysFinal "SignalBoard$Controller" "SignalBoard$Controller" "threshold" "[I", .laysFinal "SignalBoard$Controller" "SignalBoard$Controller" "contexts" "I"] := rfl
  rw [h]
  exact List.forall_mem_cons.mpr ⟨w_57, List.forall_mem_cons.mpr ⟨w_59, List.forall_mem_cons.mpr ⟨w_61, List.forall_mem_cons.mpr ⟨w_63, List.forall_mem_cons.mpr ⟨w_65, List.forall_mem_cons.mpr ⟨w_67, List.forall_mem_cons.mpr ⟨w_69,   fun _ h => absurd h List.not_mem_nil⟩⟩⟩⟩⟩⟩⟩
theorem inWX1 : ∀ w ∈ u_ws RX1 TX1 4, w ∈ WB := by
  have h : u_ws RX1 TX1 4 = [.laysFinal "SignalBoard$InQueue" "SignalBoard$InQueue" "ring" "[I", .lays "SignalBoard$InQueue" "SignalBoard$InQueue" "first" "I", .lays "SignalBoard$InQueue" "SignalBoard$InQueue" "held" "I", .lays "SignalBoard$InQueue" "SignalBoard$InQueue" "queueing" "Z"] := rfl
  rw [h]
  exact List.forall_mem_cons.mpr ⟨w_90, List.forall_mem_cons.mpr ⟨w_92, List.forall_mem_cons.mpr ⟨w_94, List.forall_mem_cons.mpr ⟨w_96,   fun _ h => absurd h List.not_mem_nil⟩⟩⟩⟩
theorem inWX2 : ∀ w ∈ u_ws RX2 TX2 2, w ∈ WB := by
  have h : u_ws RX2 TX2 2 = [.laysFinal "SignalBoard$OutLog" "SignalBoard$OutLog" "ring" "[B", .lays "SignalBoard$OutLog" "SignalBoard$OutLog" "total" "J"] := rfl
  rw [h]
  exact List.forall_mem_cons.mpr ⟨w_108, List.forall_mem_cons.mpr ⟨w_110,   fun _ h => absurd h List.not_mem_nil⟩⟩
theorem inWX3 : ∀ w ∈ u_ws RX3 TX3 10, w ∈ WB := by
  have h : u_ws RX3 TX3 10 = [.laysFinal "SignalBoard$SerialLine" "SignalBoard$SerialLine" "in" "LSignalBoard$InQueue;", .laysFinal "SignalBoard$SerialLine" "SignalBoard$SerialLine" "out" "LSignalBoard$OutLog;", .lays "SignalBoard$SerialLine" "SignalBoard$SerialLine" "enables" "I", .lays "SignalBoard$SerialLine" "SignalBoard$SerialLine" "format" "I", .lays "SignalBoard$SerialLine" "SignalBoard$SerialLine" "modem" "I", .lays "SignalBoard$SerialLine" "SignalBoard$SerialLine" "scratch" "I", .lays "SignalBoard$SerialLine" "SignalBoard$SerialLine" "other0" "I", .lays "SignalBoard$SerialLine" "SignalBoard$SerialLine" "other1" "I", .lays "SignalBoard$SerialLine" "SignalBoard$SerialLine" "overrun" "Z", .lays "SignalBoard$SerialLine" "SignalBoard$SerialLine" "emptied" "Z"] := rfl
  rw [h]
  exact List.forall_mem_cons.mpr ⟨w_126, List.forall_mem_cons.mpr ⟨w_128, List.forall_mem_cons.mpr ⟨w_130, List.forall_mem_cons.mpr ⟨w_132, List.forall_mem_cons.mpr ⟨w_134, List.forall_mem_cons.mpr ⟨w_136, List.forall_mem_cons.mpr ⟨w_138, List.forall_mem_cons.mpr ⟨w_140, List.forall_mem_cons.mpr ⟨w_142, List.forall_mem_cons.mpr ⟨w_144,   fun _ h => absurd h List.not_mem_nil⟩⟩⟩⟩⟩⟩⟩⟩⟩⟩
theorem inWX4 : ∀ w ∈ u_ws RX4 TX4 3, w ∈ WB := by
  have h : u_ws RX4 TX4 3 = [.laysFinal "SignalBoard$Timer" "SignalBoard$Timer" "soft" "[I", .laysFinal "SignalBoard$Timer" "SignalBoard$Timer" "wide" "[J", .laysFinal "SignalBoard$Timer" "SignalBoard$Timer" "timeSlot" "I"] := rfl
  rw [h]
  exact List.forall_mem_cons.mpr ⟨w_35, List.forall_mem_cons.mpr ⟨w_37, List.forall_mem_cons.mpr ⟨w_39,   fun _ h => absurd h List.not_mem_nil⟩⟩⟩
theorem inWX5 : ∀ w ∈ u_ws RX5 TX5 4, w ∈ WB := by
  have h : u_ws RX5 TX5 4 = [.laysFinal "SignalBoard" "SignalBoard" "count" "I", .laysFinal "SignalBoard" "SignalBoard" "timer" "LSignalBoard$Timer;", .laysFinal "SignalBoard" "SignalBoard" "controller" "LSignalBoard$Controller;", .laysFinal "SignalBoard" "SignalBoard" "serial" "LSignalBoard$SerialLine;"] := rfl
  rw [h]
  exact List.forall_mem_cons.mpr ⟨w_151, List.forall_mem_cons.mpr ⟨w_153, List.forall_mem_cons.mpr ⟨w_155, List.forall_mem_cons.mpr ⟨w_157,   fun _ h => absurd h List.not_mem_nil⟩⟩⟩⟩
theorem inWX6 : ∀ w ∈ u_ws RX6 TX6 20, w ∈ WB := by
  have h : u_ws RX6 TX6 20 = [.lays "SignalBoardModel" "SignalBoardModel" "thrown" "I", .laysFinal "SignalBoardModel" "SignalBoardModel" "processors" "I", .laysFinal "SignalBoardModel" "SignalBoardModel" "soft" "[Z", .laysFinal "SignalBoardModel" "SignalBoardModel" "compares" "[J", .lays "SignalBoardModel" "SignalBoardModel" "time" "J", .laysFinal "SignalBoardModel" "SignalBoardModel" "signals" "[Z", .laysFinal "SignalBoardModel" "SignalBoardModel" "waits" "[Z", .laysFinal "SignalBoardModel" "SignalBoardModel" "served" "[Z", .laysFinal "SignalBoardModel" "SignalBoardModel" "priorities" "[I", .laysFinal "SignalBoardModel" "SignalBoardModel" "enabled" "[I", .laysFinal "SignalBoardModel" "SignalBoardModel" "thresholds" "[I", .laysFinal "SignalBoardModel" "SignalBoardModel" "registers" "[I", .laysFinal "SignalBoardModel" "SignalBoardModel" "others" "[I", .lays "SignalBoardModel" "SignalBoardModel" "queueBit" "Z", .lays "SignalBoardModel" "SignalBoardModel" "overrun" "Z", .lays "SignalBoardModel" "SignalBoardModel" "emptied" "Z", .laysFinal "SignalBoardModel" "SignalBoardModel" "came" "[I", .lays "SignalBoardModel" "SignalBoardModel" "many" "I", .laysFinal "SignalBoardModel" "SignalBoardModel" "out" "[I", .lays "SignalBoardModel" "SignalBoardModel" "sent" "J"] := rfl
  rw [h]
  exact List.forall_mem_cons.mpr ⟨w_476, List.forall_mem_cons.mpr ⟨w_478, List.forall_mem_cons.mpr ⟨w_480, List.forall_mem_cons.mpr ⟨w_482, List.forall_mem_cons.mpr ⟨w_484, List.forall_mem_cons.mpr ⟨w_486, List.forall_mem_cons.mpr ⟨w_488, List.forall_mem_cons.mpr ⟨w_490, List.forall_mem_cons.mpr ⟨w_492, List.forall_mem_cons.mpr ⟨w_494, List.forall_mem_cons.mpr ⟨w_496, List.forall_mem_cons.mpr ⟨w_498, List.forall_mem_cons.mpr ⟨w_500, List.forall_mem_cons.mpr ⟨w_502, List.forall_mem_cons.mpr ⟨w_504, List.forall_mem_cons.mpr ⟨w_506, List.forall_mem_cons.mpr ⟨w_508, List.forall_mem_cons.mpr ⟨w_510, List.forall_mem_cons.mpr ⟨w_512, List.forall_mem_cons.mpr ⟨w_514,   fun _ h => absurd h List.not_mem_nil⟩⟩⟩⟩⟩⟩⟩⟩⟩⟩⟩⟩⟩⟩⟩⟩⟩⟩⟩⟩
def nwl : List Cond := [(Jvm.Cond.methodLinkNest "SignalBoard" (31 : Nat) ({ cls := "SignalBoard$SerialLine", name := "<init>", desc := "()V" } : Jvm.MethodName) "SignalBoard"), (Jvm.Cond.methodLinkNest "SignalBoard$SerialLine" (9 : Nat) ({ cls := "SignalBoard$InQueue", name := "<init>", desc := "()V" } : Jvm.MethodName) "SignalBoard"), (Jvm.Cond.fieldLinkNest "SignalBoard$SerialLine" (80 : Nat) "SignalBoard$InQueue" "held" "I" "SignalBoard"), (Jvm.Cond.fieldLinkNest "SignalBoard$SerialLine" (89 : Nat) "SignalBoard$InQueue" "queueing" "Z" "SignalBoard"), (Jvm.Cond.methodLinkNest "SignalBoard$SerialLine" (18 : Nat) ({ cls := "SignalBoard$OutLog", name := "<init>", desc := "()V" } : Jvm.MethodName) "SignalBoard"), (Jvm.Cond.fieldLinkNest "SignalBoard" (109 : Nat) "SignalBoard$OutLog" "total" "J" "SignalBoard"), (Jvm.Cond.fieldLinkNest "SignalBoard" (78 : Nat) "SignalBoard$SerialLine" "in" "LSignalBoard$InQueue;" "SignalBoard"), (Jvm.Cond.fieldLinkNest "SignalBoard" (105 : Nat) "SignalBoard$SerialLine" "out" "LSignalBoard$OutLog;" "SignalBoard"), (Jvm.Cond.castable "java/lang/IllegalArgumentException" "java/lang/IllegalArgumentException"), (Jvm.Cond.declares ({ cls := "java/lang/RuntimeException", name := "<init>", desc := "(Ljava/lang/String;)V" } : Jvm.MethodName)), (Jvm.Cond.declares ({ cls := "java/lang/Exception", name := "<init>", desc := "(Ljava/lang/String;)V" } : Jvm.MethodName)), (Jvm.Cond.declares ({ cls := "java/lang/Throwable", name := "<init>", desc := "(Ljava/lang/String;)V" } : Jvm.MethodName)), (Jvm.Cond.methodLinkNest "SignalBoard$Timer" (52 : Nat) ({ cls := "SignalBoard", name := "slotAt", desc := "(JJII)I" } : Jvm.MethodName) "SignalBoard"), (Jvm.Cond.methodLinkNest "SignalBoard$Controller" (32 : Nat) ({ cls := "SignalBoard", name := "slotAt", desc := "(JJII)I" } : Jvm.MethodName) "SignalBoard")]
def nw_k : Cond → Bool
  | .fieldLinkNest .. => true
  | .methodLinkNest .. => true
  | .castable .. => true
  | .declares .. => true
  | _ => false
def nw_ (U : State) : Prop := ∀ w ∈ nwl, va_Nw w U
theorem nw_k_all : ∀ w ∈ nwl, nw_k w = true := by
  intro w hw
  have h : nwl.all nw_k = true := rfl
  exact List.all_eq_true.mp h w hw
theorem nw_1 {w : Cond} {s U : State} (hk : nw_k w = true) (hW : s.WarmedH U.vm) (h : va_Nw w s) : va_Nw w U := by
  cases w <;> first | exact va_Nw.warmF hW h | exact va_Nw.warmM hW h | exact va_Nw.warmC hW h | exact va_Nw.warmD hW h | simp [nw_k] at hk
theorem nw_2 {w : Cond} (hk : nw_k w = true) : w.onTables = true := by
  cases w <;> first | rfl | simp [nw_k] at hk
theorem nw_warm {s U : State} (hW : s.WarmedH U.vm) (h : nw_ s) : nw_ U := fun w hw => nw_1 (nw_k_all w hw) hW (h w hw)
theorem nw_same {s U : State} (hv : s.vm = U.vm) (h : nw_ s) : nw_ U := fun w hw => va_Nw.same (nw_2 (nw_k_all w hw)) hv (h w hw)
theorem n_74 : (Jvm.Cond.methodLinkNest "SignalBoard" (31 : Nat) ({ cls := "SignalBoard$SerialLine", name := "<init>", desc := "()V" } : Jvm.MethodName) "SignalBoard") ∈ nwl := List.mem_of_getElem? (i := 0) rfl
theorem n_80 : (Jvm.Cond.methodLinkNest "SignalBoard$SerialLine" (9 : Nat) ({ cls := "SignalBoard$InQueue", name := "<init>", desc := "()V" } : Jvm.MethodName) "SignalBoard") ∈ nwl := List.mem_of_getElem? (i := 1) rfl
theorem n_87 : (Jvm.Cond.fieldLinkNest "SignalBoard$SerialLine" (80 : Nat) "SignalBoard$InQueue" "held" "I" "SignalBoard") ∈ nwl := List.mem_of_getElem? (i := 2) rfl
theorem n_89 : (Jvm.Cond.fieldLinkNest "SignalBoard$SerialLine" (89 : Nat) "SignalBoard$InQueue" "queueing" "Z" "SignalBoard") ∈ nwl := List.mem_of_getElem? (i := 3) rfl
theorem n_101 : (Jvm.Cond.methodLinkNest "SignalBoard$SerialLine" (18 : Nat) ({ cls := "SignalBoard$OutLog", name := "<init>", desc := "()V" } : Jvm.MethodName) "SignalBoard") ∈ nwl := List.mem_of_getElem? (i := 4) rfl
theorem n_107 : (Jvm.Cond.fieldLinkNest "SignalBoard" (109 : Nat) "SignalBoard$OutLog" "total" "J" "SignalBoard") ∈ nwl := List.mem_of_getElem? (i := 5) rfl
theorem n_115 : (Jvm.Cond.fieldLinkNest "SignalBoard" (78 : Nat) "SignalBoard$SerialLine" "in" "LSignalBoard$InQueue;" "SignalBoard") ∈ nwl := List.mem_of_getElem? (i := 6) rfl
theorem n_117 : (Jvm.Cond.fieldLinkNest "SignalBoard" (105 : Nat) "SignalBoard$SerialLine" "out" "LSignalBoard$OutLog;" "SignalBoard") ∈ nwl := List.mem_of_getElem? (i := 7) rfl
theorem n_239 : (Jvm.Cond.castable "java/lang/IllegalArgumentException" "java/lang/IllegalArgumentException") ∈ nwl := List.mem_of_getElem? (i := 8) rfl
theorem n_241 : (Jvm.Cond.declares ({ cls := "java/lang/RuntimeException", name := "<init>", desc := "(Ljava/lang/String;)V" } : Jvm.MethodName)) ∈ nwl := List.mem_of_getElem? (i := 9) rfl
theorem n_243 : (Jvm.Cond.declares ({ cls := "java/lang/Exception", name := "<init>", desc := "(Ljava/lang/String;)V" } : Jvm.MethodName)) ∈ nwl := List.mem_of_getElem? (i := 10) rfl
theorem n_245 : (Jvm.Cond.declares ({ cls := "java/lang/Throwable", name := "<init>", desc := "(Ljava/lang/String;)V" } : Jvm.MethodName)) ∈ nwl := List.mem_of_getElem? (i := 11) rfl
theorem n_310 : (Jvm.Cond.methodLinkNest "SignalBoard$Timer" (52 : Nat) ({ cls := "SignalBoard", name := "slotAt", desc := "(JJII)I" } : Jvm.MethodName) "SignalBoard") ∈ nwl := List.mem_of_getElem? (i := 12) rfl
theorem n_333 : (Jvm.Cond.methodLinkNest "SignalBoard$Controller" (32 : Nat) ({ cls := "SignalBoard", name := "slotAt", desc := "(JJII)I" } : Jvm.MethodName) "SignalBoard") ∈ nwl := List.mem_of_getElem? (i := 13) rfl
theorem hw_of {y : Cond} {args : Array Value} {s : State} (h : ∀ w ∈ y :: WB, w.before args s = true) : ∀ w ∈ WB, w.before args s = true := fun w hw => h w (List.mem_cons_of_mem _ hw)
theorem gV {own : String} {idx : Nat} {C : String} {y : MethodName} {cc : ByteArray} {n : Nat} {r : Option FieldType} (h1 : Cond.methodLink own idx y ∈ WB) (h2 : Cond.instanceMethod y ∈ WB) (h3 : Cond.selects C y y ∈ WB) (h4 : Cond.initialized C ∈ WB) (h5 : Cond.code y cc n r ∈ WB) : GoodIn WB (wsV own idx C y (Cond.code y cc n r :: WB)) :=
  wb_in (List.forall_mem_cons.mpr ⟨h1, List.forall_mem_cons.mpr ⟨h2, List.forall_mem_cons.mpr ⟨h3, List.forall_mem_cons.mpr ⟨h4, List.forall_mem_cons.mpr ⟨h5, fun _ h => h⟩⟩⟩⟩⟩)
theorem gS {own : String} {idx : Nat} {y : MethodName} {cc : ByteArray} {n : Nat} {r : Option FieldType} (h1 : Cond.methodLink own idx y ∈ WB) (h2 : Cond.static y ∈ WB) (h4 : Cond.initialized y.cls ∈ WB) (h5 : Cond.code y cc n r ∈ WB) : GoodIn WB (va_wsS own idx y (Cond.code y cc n r :: WB)) :=
  wb_in (List.forall_mem_cons.mpr ⟨h1, List.forall_mem_cons.mpr ⟨h2, List.forall_mem_cons.mpr ⟨h4, List.forall_mem_cons.mpr ⟨h5, fun _ h => h⟩⟩⟩⟩)
theorem gI {y : MethodName} {cc : ByteArray} {n : Nat} {r : Option FieldType} (h5 : Cond.code y cc n r ∈ WB) : GoodIn WB (Cond.code y cc n r :: WB) := wb_in (List.forall_mem_cons.mpr ⟨h5, fun _ h => h⟩)
theorem gSW {own : String} {idx : Nat} {y : MethodName} {cc : ByteArray} {n : Nat} {r : Option FieldType} {hh : List (Nat × Nat × Nat × Nat)} (h1 : Cond.methodLink own idx y ∈ WB) (h2 : Cond.static y ∈ WB) (h4 : Cond.initialized y.cls ∈ WB) (h5 : Cond.codeWith y cc n r hh ∈ WB) : GoodIn WB (va_wsS own idx y (Cond.codeWith y cc n r hh :: WB)) :=
  wb_in (List.forall_mem_cons.mpr ⟨h1, List.forall_mem_cons.mpr ⟨h2, List.forall_mem_cons.mpr ⟨h4, List.forall_mem_cons.mpr ⟨h5, fun _ h => h⟩⟩⟩⟩)
theorem xat_tbl : ∀ w ∈ (vx_atS RX5 44 "java/lang/IllegalArgumentException" ["java/lang/RuntimeException", "java/lang/Exception"]).filter goodWord, w ∈ lw_tbl := by decide +kernel
theorem xat_in : ∀ w ∈ (vx_atS RX5 44 "java/lang/IllegalArgumentException" ["java/lang/RuntimeException", "java/lang/Exception"]).filter goodWord, w ∈ WB := fun w h => List.mem_filter.mpr ⟨xat_tbl w h, (List.mem_filter.mp h).2⟩
theorem xat_bad : ∀ w ∈ (vx_atS RX5 44 "java/lang/IllegalArgumentException" ["java/lang/RuntimeException", "java/lang/Exception"]).filter (fun w => !goodWord w), w ∈ nwl := by decide +kernel
theorem xat_all {args : Array Value} {s : State} (hw : ∀ w ∈ WB, w.before args s = true) (hN : nw_ s) : ∀ w ∈ vx_atS RX5 44 "java/lang/IllegalArgumentException" ["java/lang/RuntimeException", "java/lang/Exception"], w.before args s = true :=
  vx_hat (B := nwl) (fun w h => hw w (xat_in w h)) xat_bad (fun w h => va_Nw.use (nw_2 (nw_k_all w h)) (hN w h))
theorem xat_good : ∀ w ∈ Cond.classLink RX5 40 "java/lang/IllegalArgumentException" :: Cond.initialized "java/lang/IllegalArgumentException" :: vx_atS RX5 44 "java/lang/IllegalArgumentException" ["java/lang/RuntimeException", "java/lang/Exception"], vx_ot w = true := by decide +kernel
