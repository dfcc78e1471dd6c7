/-! the words that are used, and what every method shows to its callers -/
theorem tb_1 : (Jvm.Cond.initialized "TurnBack") ∈ zTB := zTB_in (List.mem_append_right _ (List.mem_of_getElem? (i := 1) (by decide +kernel))) (by decide +kernel)
theorem tb_2 : (Jvm.Cond.initialized "TurnBack$Road") ∈ zTB := zTB_in (List.mem_append_right _ (List.mem_of_getElem? (i := 2) (by decide +kernel))) (by decide +kernel)
theorem tb_3 : (Jvm.Cond.initialized "TurnBack$Notes") ∈ zTB := zTB_in (List.mem_append_right _ (List.mem_of_getElem? (i := 3) (by decide +kernel))) (by decide +kernel)
theorem tb_4 : (Jvm.Cond.initialized "TurnBack$Rows") ∈ zTB := zTB_in (List.mem_append_right _ (List.mem_of_getElem? (i := 4) (by decide +kernel))) (by decide +kernel)
theorem tb_5 : (Jvm.Cond.initialized "java/lang/Math") ∈ zTB := zTB_in (List.mem_append_right _ (List.mem_of_getElem? (i := 5) (by decide +kernel))) (by decide +kernel)
theorem tb_6 : (Jvm.Cond.initialized "TurnBack$SeasonReader") ∈ zTB := zTB_in (List.mem_append_right _ (List.mem_of_getElem? (i := 6) (by decide +kernel))) (by decide +kernel)
theorem tb_7 : (Jvm.Cond.initialized "TurnBack$Season") ∈ zTB := zTB_in (List.mem_append_right _ (List.mem_of_getElem? (i := 7) (by decide +kernel))) (by decide +kernel)
theorem tb_8 : (Jvm.Cond.initialized "TurnBack$Acts") ∈ zTB := zTB_in (List.mem_append_right _ (List.mem_of_getElem? (i := 8) (by decide +kernel))) (by decide +kernel)
theorem tb_9 : (Jvm.Cond.initialized "TurnBack$Tape") ∈ zTB := zTB_in (List.mem_append_right _ (List.mem_of_getElem? (i := 9) (by decide +kernel))) (by decide +kernel)
theorem tb_10 : (Jvm.Cond.initialized "TurnBackModel") ∈ zTB := zTB_in (List.mem_append_right _ (List.mem_of_getElem? (i := 10) (by decide +kernel))) (by decide +kernel)
theorem tb_11 : (Jvm.Cond.initialized "java/lang/String") ∈ zTB := zTB_in (List.mem_append_right _ (List.mem_of_getElem? (i := 11) (by decide +kernel))) (by decide +kernel)
theorem tb_12 : (Jvm.Cond.initialized "java/lang/StringLatin1") ∈ zTB := zTB_in (List.mem_append_right _ (List.mem_of_getElem? (i := 12) (by decide +kernel))) (by decide +kernel)
theorem tb_13 : (Jvm.Cond.initialized "jdk/internal/util/Preconditions") ∈ zTB := zTB_in (List.mem_append_right _ (List.mem_of_getElem? (i := 13) (by decide +kernel))) (by decide +kernel)
theorem tb_15 : (Jvm.Cond.initialized "java/lang/Integer") ∈ zTB := zTB_in (List.mem_append_right _ (List.mem_of_getElem? (i := 15) (by decide +kernel))) (by decide +kernel)
theorem tb_16 : (Jvm.Cond.initialized "java/lang/System") ∈ zTB := zTB_in (List.mem_append_right _ (List.mem_of_getElem? (i := 16) (by decide +kernel))) (by decide +kernel)
theorem tb_17 : (Jvm.Cond.classLink "TurnBackLaw" (7 : Nat) "TurnBack") ∈ zTB := zTB_in (List.mem_append_right _ (List.mem_of_getElem? (i := 17) (by decide +kernel))) (by decide +kernel)
theorem tb_18 : (Jvm.Cond.instantiable "TurnBack" (10 : Nat)) ∈ zTB := zTB_in (List.mem_append_right _ (List.mem_of_getElem? (i := 18) (by decide +kernel))) (by decide +kernel)
theorem tb_19 : (Jvm.Cond.methodLink "TurnBackLaw" (9 : Nat) ({ cls := "TurnBack", name := "<init>", desc := "()V" } : Jvm.MethodName)) ∈ zTB := zTB_in (List.mem_append_right _ (List.mem_of_getElem? (i := 19) (by decide +kernel))) (by decide +kernel)
theorem tb_20 : (Jvm.Cond.instanceMethod ({ cls := "TurnBack", name := "<init>", desc := "()V" } : Jvm.MethodName)) ∈ zTB := zTB_in (List.mem_append_right _ (List.mem_of_getElem? (i := 20) (by decide +kernel))) (by decide +kernel)
theorem tb_21 : (Jvm.Cond.code ({ cls := "TurnBack", name := "<init>", desc := "()V" } : Jvm.MethodName) prog_1_method_1_code (2 : Nat) (Option.none : Option Jvm.ClassFile.FieldType)) ∈ zTB := zTB_in (List.mem_append_right _ (List.mem_of_getElem? (i := 21) (by decide +kernel))) (by decide +kernel)
theorem tb_22 : (Jvm.Cond.methodLink "TurnBack" (3 : Nat) ({ cls := "java/lang/Object", name := "<init>", desc := "()V" } : Jvm.MethodName)) ∈ zTB := zTB_in (List.mem_append_right _ (List.mem_of_getElem? (i := 22) (by decide +kernel))) (by decide +kernel)
theorem tb_23 : (Jvm.Cond.instanceMethod ({ cls := "java/lang/Object", name := "<init>", desc := "()V" } : Jvm.MethodName)) ∈ zTB := zTB_in (List.mem_append_right _ (List.mem_of_getElem? (i := 23) (by decide +kernel))) (by decide +kernel)
theorem tb_24 : (Jvm.Cond.code ({ cls := "java/lang/Object", name := "<init>", desc := "()V" } : Jvm.MethodName) object_method_1_code (1 : Nat) (Option.none : Option Jvm.ClassFile.FieldType)) ∈ zTB := zTB_in (List.mem_append_right _ (List.mem_of_getElem? (i := 24) (by decide +kernel))) (by decide +kernel)
theorem tb_25 : (Jvm.Cond.classLink "TurnBack" (9 : Nat) "TurnBack$Road") ∈ zTB := zTB_in (List.mem_append_right _ (List.mem_of_getElem? (i := 25) (by decide +kernel))) (by decide +kernel)
theorem tb_26 : (Jvm.Cond.instantiable "TurnBack$Road" (12 : Nat)) ∈ zTB := zTB_in (List.mem_append_right _ (List.mem_of_getElem? (i := 26) (by decide +kernel))) (by decide +kernel)
theorem tb_28 : (Jvm.Cond.instanceMethod ({ cls := "TurnBack$Road", name := "<init>", desc := "()V" } : Jvm.MethodName)) ∈ zTB := zTB_in (List.mem_append_right _ (List.mem_of_getElem? (i := 28) (by decide +kernel))) (by decide +kernel)
theorem tb_29 : (Jvm.Cond.code ({ cls := "TurnBack$Road", name := "<init>", desc := "()V" } : Jvm.MethodName) prog_4_method_1_code (1 : Nat) (Option.none : Option Jvm.ClassFile.FieldType)) ∈ zTB := zTB_in (List.mem_append_right _ (List.mem_of_getElem? (i := 29) (by decide +kernel))) (by decide +kernel)
theorem tb_30 : (Jvm.Cond.methodLink "TurnBack$Road" (3 : Nat) ({ cls := "java/lang/Object", name := "<init>", desc := "()V" } : Jvm.MethodName)) ∈ zTB := zTB_in (List.mem_append_right _ (List.mem_of_getElem? (i := 30) (by decide +kernel))) (by decide +kernel)
theorem tb_31 : (Jvm.Cond.classLink "TurnBack$Road" (31 : Nat) "[[I") ∈ zTB := zTB_in (List.mem_append_right _ (List.mem_of_getElem? (i := 31) (by decide +kernel))) (by decide +kernel)
theorem tb_33 : (Jvm.Cond.fieldLink "TurnBack$Road" (9 : Nat) "TurnBack$Road" "kind" "[I") ∈ zTB := zTB_in (List.mem_append_right _ (List.mem_of_getElem? (i := 33) (by decide +kernel))) (by decide +kernel)
theorem tb_34 : (Jvm.Cond.fieldLink "TurnBack" (67 : Nat) "TurnBack$Road" "kind" "[I") ∈ zTB := zTB_in (List.mem_append_right _ (List.mem_of_getElem? (i := 34) (by decide +kernel))) (by decide +kernel)
theorem tb_35 : (Jvm.Cond.fieldLink "TurnBack$Road" (15 : Nat) "TurnBack$Road" "v" "[I") ∈ zTB := zTB_in (List.mem_append_right _ (List.mem_of_getElem? (i := 35) (by decide +kernel))) (by decide +kernel)
theorem tb_36 : (Jvm.Cond.fieldLink "TurnBack" (71 : Nat) "TurnBack$Road" "v" "[I") ∈ zTB := zTB_in (List.mem_append_right _ (List.mem_of_getElem? (i := 36) (by decide +kernel))) (by decide +kernel)
theorem tb_37 : (Jvm.Cond.fieldLink "TurnBack$Road" (18 : Nat) "TurnBack$Road" "worth" "[I") ∈ zTB := zTB_in (List.mem_append_right _ (List.mem_of_getElem? (i := 37) (by decide +kernel))) (by decide +kernel)
theorem tb_38 : (Jvm.Cond.fieldLink "TurnBack" (74 : Nat) "TurnBack$Road" "worth" "[I") ∈ zTB := zTB_in (List.mem_append_right _ (List.mem_of_getElem? (i := 38) (by decide +kernel))) (by decide +kernel)
theorem tb_39 : (Jvm.Cond.fieldLink "TurnBack$Road" (21 : Nat) "TurnBack$Road" "place" "[I") ∈ zTB := zTB_in (List.mem_append_right _ (List.mem_of_getElem? (i := 39) (by decide +kernel))) (by decide +kernel)
theorem tb_40 : (Jvm.Cond.fieldLink "TurnBack" (77 : Nat) "TurnBack$Road" "place" "[I") ∈ zTB := zTB_in (List.mem_append_right _ (List.mem_of_getElem? (i := 40) (by decide +kernel))) (by decide +kernel)
theorem tb_41 : (Jvm.Cond.fieldLink "TurnBack$Road" (24 : Nat) "TurnBack$Road" "turned" "[I") ∈ zTB := zTB_in (List.mem_append_right _ (List.mem_of_getElem? (i := 41) (by decide +kernel))) (by decide +kernel)
theorem tb_42 : (Jvm.Cond.fieldLink "TurnBack" (84 : Nat) "TurnBack$Road" "turned" "[I") ∈ zTB := zTB_in (List.mem_append_right _ (List.mem_of_getElem? (i := 42) (by decide +kernel))) (by decide +kernel)
theorem tb_43 : (Jvm.Cond.fieldLink "TurnBack$Road" (27 : Nat) "TurnBack$Road" "back" "[Z") ∈ zTB := zTB_in (List.mem_append_right _ (List.mem_of_getElem? (i := 43) (by decide +kernel))) (by decide +kernel)
theorem tb_44 : (Jvm.Cond.fieldLink "TurnBack" (80 : Nat) "TurnBack$Road" "back" "[Z") ∈ zTB := zTB_in (List.mem_append_right _ (List.mem_of_getElem? (i := 44) (by decide +kernel))) (by decide +kernel)
theorem tb_45 : (Jvm.Cond.fieldLink "TurnBack$Road" (33 : Nat) "TurnBack$Road" "rows" "[[I") ∈ zTB := zTB_in (List.mem_append_right _ (List.mem_of_getElem? (i := 45) (by decide +kernel))) (by decide +kernel)
theorem tb_46 : (Jvm.Cond.fieldLink "TurnBack" (106 : Nat) "TurnBack$Road" "rows" "[[I") ∈ zTB := zTB_in (List.mem_append_right _ (List.mem_of_getElem? (i := 46) (by decide +kernel))) (by decide +kernel)
theorem tb_47 : (Jvm.Cond.fieldLink "TurnBack$Road" (43 : Nat) "TurnBack$Road" "count" "I") ∈ zTB := zTB_in (List.mem_append_right _ (List.mem_of_getElem? (i := 47) (by decide +kernel))) (by decide +kernel)
theorem tb_48 : (Jvm.Cond.fieldLink "TurnBack" (169 : Nat) "TurnBack$Road" "count" "I") ∈ zTB := zTB_in (List.mem_append_right _ (List.mem_of_getElem? (i := 48) (by decide +kernel))) (by decide +kernel)
theorem tb_49 : (Jvm.Cond.fieldLink "TurnBack$Road" (36 : Nat) "TurnBack$Road" "purse" "I") ∈ zTB := zTB_in (List.mem_append_right _ (List.mem_of_getElem? (i := 49) (by decide +kernel))) (by decide +kernel)
theorem tb_50 : (Jvm.Cond.fieldLink "TurnBack" (102 : Nat) "TurnBack$Road" "purse" "I") ∈ zTB := zTB_in (List.mem_append_right _ (List.mem_of_getElem? (i := 50) (by decide +kernel))) (by decide +kernel)
theorem tb_51 : (Jvm.Cond.fieldLink "TurnBack$Road" (46 : Nat) "TurnBack$Road" "day" "I") ∈ zTB := zTB_in (List.mem_append_right _ (List.mem_of_getElem? (i := 51) (by decide +kernel))) (by decide +kernel)
theorem tb_52 : (Jvm.Cond.fieldLink "TurnBack" (128 : Nat) "TurnBack$Road" "day" "I") ∈ zTB := zTB_in (List.mem_append_right _ (List.mem_of_getElem? (i := 52) (by decide +kernel))) (by decide +kernel)
theorem tb_53 : (Jvm.Cond.fieldLink "TurnBack$Road" (49 : Nat) "TurnBack$Road" "season" "LTurnBack$Season;") ∈ zTB := zTB_in (List.mem_append_right _ (List.mem_of_getElem? (i := 53) (by decide +kernel))) (by decide +kernel)
theorem tb_54 : (Jvm.Cond.fieldLink "TurnBack" (124 : Nat) "TurnBack$Road" "season" "LTurnBack$Season;") ∈ zTB := zTB_in (List.mem_append_right _ (List.mem_of_getElem? (i := 54) (by decide +kernel))) (by decide +kernel)
theorem tb_55 : (Jvm.Cond.fieldLink "TurnBack$Road" (40 : Nat) "TurnBack$Road" "fixedPay" "I") ∈ zTB := zTB_in (List.mem_append_right _ (List.mem_of_getElem? (i := 55) (by decide +kernel))) (by decide +kernel)
theorem tb_56 : (Jvm.Cond.fieldLink "TurnBack" (161 : Nat) "TurnBack$Road" "fixedPay" "I") ∈ zTB := zTB_in (List.mem_append_right _ (List.mem_of_getElem? (i := 56) (by decide +kernel))) (by decide +kernel)
theorem tb_82 : (Jvm.Cond.arrayClass Jvm.ClassFile.FieldType.int) ∈ zTB := zTB_in (List.mem_append_right _ (List.mem_of_getElem? (i := 82) (by decide +kernel))) (by decide +kernel)
theorem tb_83 : (Jvm.Cond.arrayClass Jvm.ClassFile.FieldType.boolean) ∈ zTB := zTB_in (List.mem_append_right _ (List.mem_of_getElem? (i := 83) (by decide +kernel))) (by decide +kernel)
theorem tb_84 : (Jvm.Cond.classLink "TurnBack" (24 : Nat) "TurnBack$Notes") ∈ zTB := zTB_in (List.mem_append_right _ (List.mem_of_getElem? (i := 84) (by decide +kernel))) (by decide +kernel)
theorem tb_85 : (Jvm.Cond.instantiable "TurnBack$Notes" (3 : Nat)) ∈ zTB := zTB_in (List.mem_append_right _ (List.mem_of_getElem? (i := 85) (by decide +kernel))) (by decide +kernel)
theorem tb_87 : (Jvm.Cond.instanceMethod ({ cls := "TurnBack$Notes", name := "<init>", desc := "()V" } : Jvm.MethodName)) ∈ zTB := zTB_in (List.mem_append_right _ (List.mem_of_getElem? (i := 87) (by decide +kernel))) (by decide +kernel)
theorem tb_88 : (Jvm.Cond.code ({ cls := "TurnBack$Notes", name := "<init>", desc := "()V" } : Jvm.MethodName) prog_3_method_1_code (1 : Nat) (Option.none : Option Jvm.ClassFile.FieldType)) ∈ zTB := zTB_in (List.mem_append_right _ (List.mem_of_getElem? (i := 88) (by decide +kernel))) (by decide +kernel)
theorem tb_89 : (Jvm.Cond.methodLink "TurnBack$Notes" (3 : Nat) ({ cls := "java/lang/Object", name := "<init>", desc := "()V" } : Jvm.MethodName)) ∈ zTB := zTB_in (List.mem_append_right _ (List.mem_of_getElem? (i := 89) (by decide +kernel))) (by decide +kernel)
theorem tb_90 : (Jvm.Cond.classLink "TurnBack$Notes" (9 : Nat) "TurnBack$Rows") ∈ zTB := zTB_in (List.mem_append_right _ (List.mem_of_getElem? (i := 90) (by decide +kernel))) (by decide +kernel)
theorem tb_91 : (Jvm.Cond.instantiable "TurnBack$Rows" (4 : Nat)) ∈ zTB := zTB_in (List.mem_append_right _ (List.mem_of_getElem? (i := 91) (by decide +kernel))) (by decide +kernel)
theorem tb_92 : (Jvm.Cond.methodLink "TurnBack$Notes" (11 : Nat) ({ cls := "TurnBack$Rows", name := "<init>", desc := "(I)V" } : Jvm.MethodName)) ∈ zTB := zTB_in (List.mem_append_right _ (List.mem_of_getElem? (i := 92) (by decide +kernel))) (by decide +kernel)
theorem tb_93 : (Jvm.Cond.instanceMethod ({ cls := "TurnBack$Rows", name := "<init>", desc := "(I)V" } : Jvm.MethodName)) ∈ zTB := zTB_in (List.mem_append_right _ (List.mem_of_getElem? (i := 93) (by decide +kernel))) (by decide +kernel)
theorem tb_94 : (Jvm.Cond.code ({ cls := "TurnBack$Rows", name := "<init>", desc := "(I)V" } : Jvm.MethodName) prog_5_method_1_code (3 : Nat) (Option.none : Option Jvm.ClassFile.FieldType)) ∈ zTB := zTB_in (List.mem_append_right _ (List.mem_of_getElem? (i := 94) (by decide +kernel))) (by decide +kernel)
theorem tb_95 : (Jvm.Cond.methodLink "TurnBack$Rows" (3 : Nat) ({ cls := "java/lang/Object", name := "<init>", desc := "()V" } : Jvm.MethodName)) ∈ zTB := zTB_in (List.mem_append_right _ (List.mem_of_getElem? (i := 95) (by decide +kernel))) (by decide +kernel)
theorem tb_96 : (Jvm.Cond.methodLink "TurnBack$Rows" (9 : Nat) ({ cls := "java/lang/Math", name := "max", desc := "(II)I" } : Jvm.MethodName)) ∈ zTB := zTB_in (List.mem_append_right _ (List.mem_of_getElem? (i := 96) (by decide +kernel))) (by decide +kernel)
theorem tb_97 : (Jvm.Cond.static ({ cls := "java/lang/Math", name := "max", desc := "(II)I" } : Jvm.MethodName)) ∈ zTB := zTB_in (List.mem_append_right _ (List.mem_of_getElem? (i := 97) (by decide +kernel))) (by decide +kernel)
theorem tb_98 : (Jvm.Cond.code ({ cls := "java/lang/Math", name := "max", desc := "(II)I" } : Jvm.MethodName) prog_12_method_65_code (2 : Nat) (Option.some Jvm.ClassFile.FieldType.int)) ∈ zTB := zTB_in (List.mem_append_right _ (List.mem_of_getElem? (i := 98) (by decide +kernel))) (by decide +kernel)
theorem tb_99 : (Jvm.Cond.fieldLink "TurnBack$Rows" (15 : Nat) "TurnBack$Rows" "first" "[I") ∈ zTB := zTB_in (List.mem_append_right _ (List.mem_of_getElem? (i := 99) (by decide +kernel))) (by decide +kernel)
theorem tb_100 : (Jvm.Cond.fieldLink "TurnBack$Notes" (44 : Nat) "TurnBack$Rows" "first" "[I") ∈ zTB := zTB_in (List.mem_append_right _ (List.mem_of_getElem? (i := 100) (by decide +kernel))) (by decide +kernel)
theorem tb_101 : (Jvm.Cond.fieldLink "TurnBack" (209 : Nat) "TurnBack$Rows" "first" "[I") ∈ zTB := zTB_in (List.mem_append_right _ (List.mem_of_getElem? (i := 101) (by decide +kernel))) (by decide +kernel)
theorem tb_102 : (Jvm.Cond.fieldLink "TurnBack$Rows" (21 : Nat) "TurnBack$Rows" "second" "[I") ∈ zTB := zTB_in (List.mem_append_right _ (List.mem_of_getElem? (i := 102) (by decide +kernel))) (by decide +kernel)
theorem tb_103 : (Jvm.Cond.fieldLink "TurnBack$Notes" (34 : Nat) "TurnBack$Rows" "second" "[I") ∈ zTB := zTB_in (List.mem_append_right _ (List.mem_of_getElem? (i := 103) (by decide +kernel))) (by decide +kernel)
theorem tb_104 : (Jvm.Cond.fieldLink "TurnBack" (212 : Nat) "TurnBack$Rows" "second" "[I") ∈ zTB := zTB_in (List.mem_append_right _ (List.mem_of_getElem? (i := 104) (by decide +kernel))) (by decide +kernel)
theorem tb_105 : (Jvm.Cond.fieldLink "TurnBack$Rows" (24 : Nat) "TurnBack$Rows" "third" "[I") ∈ zTB := zTB_in (List.mem_append_right _ (List.mem_of_getElem? (i := 105) (by decide +kernel))) (by decide +kernel)
theorem tb_106 : (Jvm.Cond.fieldLink "TurnBack$Notes" (47 : Nat) "TurnBack$Rows" "third" "[I") ∈ zTB := zTB_in (List.mem_append_right _ (List.mem_of_getElem? (i := 106) (by decide +kernel))) (by decide +kernel)
theorem tb_107 : (Jvm.Cond.fieldLink "TurnBack$Rows" (27 : Nat) "TurnBack$Rows" "count" "I") ∈ zTB := zTB_in (List.mem_append_right _ (List.mem_of_getElem? (i := 107) (by decide +kernel))) (by decide +kernel)
theorem tb_108 : (Jvm.Cond.fieldLink "TurnBack$Notes" (30 : Nat) "TurnBack$Rows" "count" "I") ∈ zTB := zTB_in (List.mem_append_right _ (List.mem_of_getElem? (i := 108) (by decide +kernel))) (by decide +kernel)
theorem tb_109 : (Jvm.Cond.fieldLink "TurnBack" (208 : Nat) "TurnBack$Rows" "count" "I") ∈ zTB := zTB_in (List.mem_append_right _ (List.mem_of_getElem? (i := 109) (by decide +kernel))) (by decide +kernel)
theorem tb_119 : (Jvm.Cond.fieldLink "TurnBack$Notes" (14 : Nat) "TurnBack$Notes" "seen" "LTurnBack$Rows;") ∈ zTB := zTB_in (List.mem_append_right _ (List.mem_of_getElem? (i := 119) (by decide +kernel))) (by decide +kernel)
theorem tb_120 : (Jvm.Cond.fieldLink "TurnBack" (175 : Nat) "TurnBack$Notes" "seen" "LTurnBack$Rows;") ∈ zTB := zTB_in (List.mem_append_right _ (List.mem_of_getElem? (i := 120) (by decide +kernel))) (by decide +kernel)
theorem tb_121 : (Jvm.Cond.fieldLink "TurnBack$Notes" (20 : Nat) "TurnBack$Notes" "plan" "LTurnBack$Rows;") ∈ zTB := zTB_in (List.mem_append_right _ (List.mem_of_getElem? (i := 121) (by decide +kernel))) (by decide +kernel)
theorem tb_122 : (Jvm.Cond.fieldLink "TurnBack" (205 : Nat) "TurnBack$Notes" "plan" "LTurnBack$Rows;") ∈ zTB := zTB_in (List.mem_append_right _ (List.mem_of_getElem? (i := 122) (by decide +kernel))) (by decide +kernel)
theorem tb_123 : (Jvm.Cond.fieldLink "TurnBack$Notes" (23 : Nat) "TurnBack$Notes" "book" "LTurnBack$Rows;") ∈ zTB := zTB_in (List.mem_append_right _ (List.mem_of_getElem? (i := 123) (by decide +kernel))) (by decide +kernel)
theorem tb_124 : (Jvm.Cond.fieldLink "TurnBack" (221 : Nat) "TurnBack$Notes" "book" "LTurnBack$Rows;") ∈ zTB := zTB_in (List.mem_append_right _ (List.mem_of_getElem? (i := 124) (by decide +kernel))) (by decide +kernel)
theorem tb_132 : (Jvm.Cond.classLink "TurnBack" (34 : Nat) "TurnBack$SeasonReader") ∈ zTB := zTB_in (List.mem_append_right _ (List.mem_of_getElem? (i := 132) (by decide +kernel))) (by decide +kernel)
theorem tb_133 : (Jvm.Cond.instantiable "TurnBack$SeasonReader" (4 : Nat)) ∈ zTB := zTB_in (List.mem_append_right _ (List.mem_of_getElem? (i := 133) (by decide +kernel))) (by decide +kernel)
theorem tb_135 : (Jvm.Cond.instanceMethod ({ cls := "TurnBack$SeasonReader", name := "<init>", desc := "()V" } : Jvm.MethodName)) ∈ zTB := zTB_in (List.mem_append_right _ (List.mem_of_getElem? (i := 135) (by decide +kernel))) (by decide +kernel)
theorem tb_136 : (Jvm.Cond.code ({ cls := "TurnBack$SeasonReader", name := "<init>", desc := "()V" } : Jvm.MethodName) prog_7_method_1_code (1 : Nat) (Option.none : Option Jvm.ClassFile.FieldType)) ∈ zTB := zTB_in (List.mem_append_right _ (List.mem_of_getElem? (i := 136) (by decide +kernel))) (by decide +kernel)
theorem tb_137 : (Jvm.Cond.methodLink "TurnBack$SeasonReader" (3 : Nat) ({ cls := "java/lang/Object", name := "<init>", desc := "()V" } : Jvm.MethodName)) ∈ zTB := zTB_in (List.mem_append_right _ (List.mem_of_getElem? (i := 137) (by decide +kernel))) (by decide +kernel)
theorem tb_138 : (Jvm.Cond.classLink "TurnBack$SeasonReader" (15 : Nat) "TurnBack$Season") ∈ zTB := zTB_in (List.mem_append_right _ (List.mem_of_getElem? (i := 138) (by decide +kernel))) (by decide +kernel)
theorem tb_139 : (Jvm.Cond.instantiable "TurnBack$Season" (3 : Nat)) ∈ zTB := zTB_in (List.mem_append_right _ (List.mem_of_getElem? (i := 139) (by decide +kernel))) (by decide +kernel)
theorem tb_141 : (Jvm.Cond.instanceMethod ({ cls := "TurnBack$Season", name := "<init>", desc := "()V" } : Jvm.MethodName)) ∈ zTB := zTB_in (List.mem_append_right _ (List.mem_of_getElem? (i := 141) (by decide +kernel))) (by decide +kernel)
theorem tb_142 : (Jvm.Cond.code ({ cls := "TurnBack$Season", name := "<init>", desc := "()V" } : Jvm.MethodName) prog_6_method_1_code (1 : Nat) (Option.none : Option Jvm.ClassFile.FieldType)) ∈ zTB := zTB_in (List.mem_append_right _ (List.mem_of_getElem? (i := 142) (by decide +kernel))) (by decide +kernel)
theorem tb_143 : (Jvm.Cond.methodLink "TurnBack$Season" (3 : Nat) ({ cls := "java/lang/Object", name := "<init>", desc := "()V" } : Jvm.MethodName)) ∈ zTB := zTB_in (List.mem_append_right _ (List.mem_of_getElem? (i := 143) (by decide +kernel))) (by decide +kernel)
theorem tb_144 : (Jvm.Cond.fieldLink "TurnBack$Season" (9 : Nat) "TurnBack$Season" "code" "[I") ∈ zTB := zTB_in (List.mem_append_right _ (List.mem_of_getElem? (i := 144) (by decide +kernel))) (by decide +kernel)
theorem tb_145 : (Jvm.Cond.fieldLink "TurnBack$Season" (15 : Nat) "TurnBack$Season" "length" "I") ∈ zTB := zTB_in (List.mem_append_right _ (List.mem_of_getElem? (i := 145) (by decide +kernel))) (by decide +kernel)
theorem tb_146 : (Jvm.Cond.fieldLink "TurnBack$Season" (19 : Nat) "TurnBack$Season" "pay" "I") ∈ zTB := zTB_in (List.mem_append_right _ (List.mem_of_getElem? (i := 146) (by decide +kernel))) (by decide +kernel)
theorem tb_147 : (Jvm.Cond.fieldLink "TurnBack$SeasonReader" (68 : Nat) "TurnBack$Season" "pay" "I") ∈ zTB := zTB_in (List.mem_append_right _ (List.mem_of_getElem? (i := 147) (by decide +kernel))) (by decide +kernel)
theorem tb_148 : (Jvm.Cond.fieldLink "TurnBack$Road" (92 : Nat) "TurnBack$Season" "pay" "I") ∈ zTB := zTB_in (List.mem_append_right _ (List.mem_of_getElem? (i := 148) (by decide +kernel))) (by decide +kernel)
theorem tb_156 : (Jvm.Cond.arrayClass Jvm.ClassFile.FieldType.byte) ∈ zTB := zTB_in (List.mem_append_right _ (List.mem_of_getElem? (i := 156) (by decide +kernel))) (by decide +kernel)
theorem tb_157 : (Jvm.Cond.fieldLink "TurnBack$SeasonReader" (9 : Nat) "TurnBack$SeasonReader" "text" "[B") ∈ zTB := zTB_in (List.mem_append_right _ (List.mem_of_getElem? (i := 157) (by decide +kernel))) (by decide +kernel)
theorem tb_158 : (Jvm.Cond.fieldLink "TurnBack$SeasonReader" (18 : Nat) "TurnBack$SeasonReader" "draft" "LTurnBack$Season;") ∈ zTB := zTB_in (List.mem_append_right _ (List.mem_of_getElem? (i := 158) (by decide +kernel))) (by decide +kernel)
theorem tb_159 : (Jvm.Cond.fieldLink "TurnBack$SeasonReader" (29 : Nat) "TurnBack$SeasonReader" "at" "I") ∈ zTB := zTB_in (List.mem_append_right _ (List.mem_of_getElem? (i := 159) (by decide +kernel))) (by decide +kernel)
theorem tb_160 : (Jvm.Cond.fieldLink "TurnBack$SeasonReader" (22 : Nat) "TurnBack$SeasonReader" "length" "I") ∈ zTB := zTB_in (List.mem_append_right _ (List.mem_of_getElem? (i := 160) (by decide +kernel))) (by decide +kernel)
theorem tb_161 : (Jvm.Cond.fieldLink "TurnBack" (263 : Nat) "TurnBack$SeasonReader" "length" "I") ∈ zTB := zTB_in (List.mem_append_right _ (List.mem_of_getElem? (i := 161) (by decide +kernel))) (by decide +kernel)
theorem tb_171 : (Jvm.Cond.classLink "TurnBack" (41 : Nat) "TurnBack$Acts") ∈ zTB := zTB_in (List.mem_append_right _ (List.mem_of_getElem? (i := 171) (by decide +kernel))) (by decide +kernel)
theorem tb_172 : (Jvm.Cond.instantiable "TurnBack$Acts" (5 : Nat)) ∈ zTB := zTB_in (List.mem_append_right _ (List.mem_of_getElem? (i := 172) (by decide +kernel))) (by decide +kernel)
theorem tb_174 : (Jvm.Cond.instanceMethod ({ cls := "TurnBack$Acts", name := "<init>", desc := "()V" } : Jvm.MethodName)) ∈ zTB := zTB_in (List.mem_append_right _ (List.mem_of_getElem? (i := 174) (by decide +kernel))) (by decide +kernel)
theorem tb_175 : (Jvm.Cond.code ({ cls := "TurnBack$Acts", name := "<init>", desc := "()V" } : Jvm.MethodName) prog_2_method_1_code (1 : Nat) (Option.none : Option Jvm.ClassFile.FieldType)) ∈ zTB := zTB_in (List.mem_append_right _ (List.mem_of_getElem? (i := 175) (by decide +kernel))) (by decide +kernel)
theorem tb_176 : (Jvm.Cond.methodLink "TurnBack$Acts" (3 : Nat) ({ cls := "java/lang/Object", name := "<init>", desc := "()V" } : Jvm.MethodName)) ∈ zTB := zTB_in (List.mem_append_right _ (List.mem_of_getElem? (i := 176) (by decide +kernel))) (by decide +kernel)
theorem tb_177 : (Jvm.Cond.fieldLink "TurnBack$Acts" (11 : Nat) "TurnBack$Acts" "trace" "[I") ∈ zTB := zTB_in (List.mem_append_right _ (List.mem_of_getElem? (i := 177) (by decide +kernel))) (by decide +kernel)
theorem tb_178 : (Jvm.Cond.fieldLink "TurnBack" (257 : Nat) "TurnBack$Acts" "trace" "[I") ∈ zTB := zTB_in (List.mem_append_right _ (List.mem_of_getElem? (i := 178) (by decide +kernel))) (by decide +kernel)
theorem tb_179 : (Jvm.Cond.fieldLink "TurnBack$Acts" (22 : Nat) "TurnBack$Acts" "ran" "I") ∈ zTB := zTB_in (List.mem_append_right _ (List.mem_of_getElem? (i := 179) (by decide +kernel))) (by decide +kernel)
theorem tb_180 : (Jvm.Cond.fieldLink "TurnBack" (264 : Nat) "TurnBack$Acts" "ran" "I") ∈ zTB := zTB_in (List.mem_append_right _ (List.mem_of_getElem? (i := 180) (by decide +kernel))) (by decide +kernel)
theorem tb_181 : (Jvm.Cond.fieldLink "TurnBack$Acts" (32 : Nat) "TurnBack$Acts" "number" "I") ∈ zTB := zTB_in (List.mem_append_right _ (List.mem_of_getElem? (i := 181) (by decide +kernel))) (by decide +kernel)
theorem tb_182 : (Jvm.Cond.fieldLink "TurnBack$Acts" (35 : Nat) "TurnBack$Acts" "v" "I") ∈ zTB := zTB_in (List.mem_append_right _ (List.mem_of_getElem? (i := 182) (by decide +kernel))) (by decide +kernel)
theorem tb_183 : (Jvm.Cond.fieldLink "TurnBack$Acts" (38 : Nat) "TurnBack$Acts" "kind" "I") ∈ zTB := zTB_in (List.mem_append_right _ (List.mem_of_getElem? (i := 183) (by decide +kernel))) (by decide +kernel)
theorem tb_195 : (Jvm.Cond.classLink "TurnBack" (48 : Nat) "TurnBack$Tape") ∈ zTB := zTB_in (List.mem_append_right _ (List.mem_of_getElem? (i := 195) (by decide +kernel))) (by decide +kernel)
theorem tb_197 : (Jvm.Cond.instantiable "TurnBack$Tape" (3 : Nat)) ∈ zTB := zTB_in (List.mem_append_right _ (List.mem_of_getElem? (i := 197) (by decide +kernel))) (by decide +kernel)
theorem tb_199 : (Jvm.Cond.instanceMethod ({ cls := "TurnBack$Tape", name := "<init>", desc := "()V" } : Jvm.MethodName)) ∈ zTB := zTB_in (List.mem_append_right _ (List.mem_of_getElem? (i := 199) (by decide +kernel))) (by decide +kernel)
theorem tb_200 : (Jvm.Cond.code ({ cls := "TurnBack$Tape", name := "<init>", desc := "()V" } : Jvm.MethodName) prog_8_method_1_code (1 : Nat) (Option.none : Option Jvm.ClassFile.FieldType)) ∈ zTB := zTB_in (List.mem_append_right _ (List.mem_of_getElem? (i := 200) (by decide +kernel))) (by decide +kernel)
theorem tb_201 : (Jvm.Cond.methodLink "TurnBack$Tape" (3 : Nat) ({ cls := "java/lang/Object", name := "<init>", desc := "()V" } : Jvm.MethodName)) ∈ zTB := zTB_in (List.mem_append_right _ (List.mem_of_getElem? (i := 201) (by decide +kernel))) (by decide +kernel)
theorem tb_202 : (Jvm.Cond.fieldLink "TurnBack$Tape" (11 : Nat) "TurnBack$Tape" "sort" "I") ∈ zTB := zTB_in (List.mem_append_right _ (List.mem_of_getElem? (i := 202) (by decide +kernel))) (by decide +kernel)
theorem tb_203 : (Jvm.Cond.fieldLink "TurnBack" (230 : Nat) "TurnBack$Tape" "sort" "I") ∈ zTB := zTB_in (List.mem_append_right _ (List.mem_of_getElem? (i := 203) (by decide +kernel))) (by decide +kernel)
theorem tb_204 : (Jvm.Cond.fieldLink "TurnBack$Tape" (28 : Nat) "TurnBack$Tape" "length" "I") ∈ zTB := zTB_in (List.mem_append_right _ (List.mem_of_getElem? (i := 204) (by decide +kernel))) (by decide +kernel)
theorem tb_205 : (Jvm.Cond.fieldLink "TurnBack" (233 : Nat) "TurnBack$Tape" "length" "I") ∈ zTB := zTB_in (List.mem_append_right _ (List.mem_of_getElem? (i := 205) (by decide +kernel))) (by decide +kernel)
theorem tb_206 : (Jvm.Cond.fieldLink "TurnBack$Tape" (15 : Nat) "TurnBack$Tape" "items" "[J") ∈ zTB := zTB_in (List.mem_append_right _ (List.mem_of_getElem? (i := 206) (by decide +kernel))) (by decide +kernel)
theorem tb_207 : (Jvm.Cond.fieldLink "TurnBack" (236 : Nat) "TurnBack$Tape" "items" "[J") ∈ zTB := zTB_in (List.mem_append_right _ (List.mem_of_getElem? (i := 207) (by decide +kernel))) (by decide +kernel)
theorem tb_215 : (Jvm.Cond.arrayClass Jvm.ClassFile.FieldType.long) ∈ zTB := zTB_in (List.mem_append_right _ (List.mem_of_getElem? (i := 215) (by decide +kernel))) (by decide +kernel)
theorem tb_216 : (Jvm.Cond.fieldLink "TurnBack" (12 : Nat) "TurnBack" "road" "LTurnBack$Road;") ∈ zTB := zTB_in (List.mem_append_right _ (List.mem_of_getElem? (i := 216) (by decide +kernel))) (by decide +kernel)
theorem tb_217 : (Jvm.Cond.fieldLink "TurnBack" (18 : Nat) "TurnBack" "trial" "LTurnBack$Road;") ∈ zTB := zTB_in (List.mem_append_right _ (List.mem_of_getElem? (i := 217) (by decide +kernel))) (by decide +kernel)
theorem tb_218 : (Jvm.Cond.fieldLink "TurnBack" (21 : Nat) "TurnBack" "imageRoad" "LTurnBack$Road;") ∈ zTB := zTB_in (List.mem_append_right _ (List.mem_of_getElem? (i := 218) (by decide +kernel))) (by decide +kernel)
theorem tb_219 : (Jvm.Cond.fieldLink "TurnBack" (27 : Nat) "TurnBack" "notes" "LTurnBack$Notes;") ∈ zTB := zTB_in (List.mem_append_right _ (List.mem_of_getElem? (i := 219) (by decide +kernel))) (by decide +kernel)
theorem tb_220 : (Jvm.Cond.fieldLink "TurnBack" (31 : Nat) "TurnBack" "imageNotes" "LTurnBack$Notes;") ∈ zTB := zTB_in (List.mem_append_right _ (List.mem_of_getElem? (i := 220) (by decide +kernel))) (by decide +kernel)
theorem tb_221 : (Jvm.Cond.fieldLink "TurnBack" (243 : Nat) "TurnBack" "hasImage" "Z") ∈ zTB := zTB_in (List.mem_append_right _ (List.mem_of_getElem? (i := 221) (by decide +kernel))) (by decide +kernel)
theorem tb_222 : (Jvm.Cond.fieldLink "TurnBack" (37 : Nat) "TurnBack" "reader" "LTurnBack$SeasonReader;") ∈ zTB := zTB_in (List.mem_append_right _ (List.mem_of_getElem? (i := 222) (by decide +kernel))) (by decide +kernel)
theorem tb_223 : (Jvm.Cond.fieldLink "TurnBack" (113 : Nat) "TurnBack" "seasonCount" "I") ∈ zTB := zTB_in (List.mem_append_right _ (List.mem_of_getElem? (i := 223) (by decide +kernel))) (by decide +kernel)
theorem tb_224 : (Jvm.Cond.fieldLink "TurnBack" (44 : Nat) "TurnBack" "acts" "LTurnBack$Acts;") ∈ zTB := zTB_in (List.mem_append_right _ (List.mem_of_getElem? (i := 224) (by decide +kernel))) (by decide +kernel)
theorem tb_225 : (Jvm.Cond.fieldLink "TurnBack" (50 : Nat) "TurnBack" "tapes" "[LTurnBack$Tape;") ∈ zTB := zTB_in (List.mem_append_right _ (List.mem_of_getElem? (i := 225) (by decide +kernel))) (by decide +kernel)
theorem tb_247 : (Jvm.Cond.methodLink "TurnBackLaw" (13 : Nat) ({ cls := "TurnBack", name := "traveller", desc := "(IIII)I" } : Jvm.MethodName)) ∈ zTB := zTB_in (List.mem_append_right _ (List.mem_of_getElem? (i := 247) (by decide +kernel))) (by decide +kernel)
theorem tb_248 : (Jvm.Cond.instanceMethod ({ cls := "TurnBack", name := "traveller", desc := "(IIII)I" } : Jvm.MethodName)) ∈ zTB := zTB_in (List.mem_append_right _ (List.mem_of_getElem? (i := 248) (by decide +kernel))) (by decide +kernel)
theorem tb_249 : (Jvm.Cond.selects "TurnBack" ({ cls := "TurnBack", name := "traveller", desc := "(IIII)I" } : Jvm.MethodName) ({ cls := "TurnBack", name := "traveller", desc := "(IIII)I" } : Jvm.MethodName)) ∈ zTB := zTB_in (List.mem_append_right _ (List.mem_of_getElem? (i := 249) (by decide +kernel))) (by decide +kernel)
theorem tb_250 : (Jvm.Cond.code ({ cls := "TurnBack", name := "traveller", desc := "(IIII)I" } : Jvm.MethodName) prog_1_method_2_code (5 : Nat) (Option.some Jvm.ClassFile.FieldType.int)) ∈ zTB := zTB_in (List.mem_append_right _ (List.mem_of_getElem? (i := 250) (by decide +kernel))) (by decide +kernel)
theorem tb_251 : (Jvm.Cond.methodLink "TurnBack" (55 : Nat) ({ cls := "TurnBack", name := "within", desc := "(II)Z" } : Jvm.MethodName)) ∈ zTB := zTB_in (List.mem_append_right _ (List.mem_of_getElem? (i := 251) (by decide +kernel))) (by decide +kernel)
theorem tb_252 : (Jvm.Cond.static ({ cls := "TurnBack", name := "within", desc := "(II)Z" } : Jvm.MethodName)) ∈ zTB := zTB_in (List.mem_append_right _ (List.mem_of_getElem? (i := 252) (by decide +kernel))) (by decide +kernel)
theorem tb_253 : (Jvm.Cond.code ({ cls := "TurnBack", name := "within", desc := "(II)Z" } : Jvm.MethodName) prog_1_method_44_code (2 : Nat) (Option.some Jvm.ClassFile.FieldType.boolean)) ∈ zTB := zTB_in (List.mem_append_right _ (List.mem_of_getElem? (i := 253) (by decide +kernel))) (by decide +kernel)
theorem tb_254 : (Jvm.Cond.methodLink "TurnBack" (59 : Nat) ({ cls := "TurnBack$Road", name := "welcome", desc := "(IIII)I" } : Jvm.MethodName)) ∈ zTB := zTB_in (List.mem_append_right _ (List.mem_of_getElem? (i := 254) (by decide +kernel))) (by decide +kernel)
theorem tb_255 : (Jvm.Cond.instanceMethod ({ cls := "TurnBack$Road", name := "welcome", desc := "(IIII)I" } : Jvm.MethodName)) ∈ zTB := zTB_in (List.mem_append_right _ (List.mem_of_getElem? (i := 255) (by decide +kernel))) (by decide +kernel)
theorem tb_256 : (Jvm.Cond.selects "TurnBack$Road" ({ cls := "TurnBack$Road", name := "welcome", desc := "(IIII)I" } : Jvm.MethodName) ({ cls := "TurnBack$Road", name := "welcome", desc := "(IIII)I" } : Jvm.MethodName)) ∈ zTB := zTB_in (List.mem_append_right _ (List.mem_of_getElem? (i := 256) (by decide +kernel))) (by decide +kernel)
theorem tb_257 : (Jvm.Cond.code ({ cls := "TurnBack$Road", name := "welcome", desc := "(IIII)I" } : Jvm.MethodName) prog_4_method_3_code (7 : Nat) (Option.some Jvm.ClassFile.FieldType.int)) ∈ zTB := zTB_in (List.mem_append_right _ (List.mem_of_getElem? (i := 257) (by decide +kernel))) (by decide +kernel)
theorem tb_258 : (Jvm.Cond.methodLink "TurnBack$Road" (53 : Nat) ({ cls := "TurnBack$Road", name := "put", desc := "(II)V" } : Jvm.MethodName)) ∈ zTB := zTB_in (List.mem_append_right _ (List.mem_of_getElem? (i := 258) (by decide +kernel))) (by decide +kernel)
theorem tb_259 : (Jvm.Cond.instanceMethod ({ cls := "TurnBack$Road", name := "put", desc := "(II)V" } : Jvm.MethodName)) ∈ zTB := zTB_in (List.mem_append_right _ (List.mem_of_getElem? (i := 259) (by decide +kernel))) (by decide +kernel)
theorem tb_260 : (Jvm.Cond.selects "TurnBack$Road" ({ cls := "TurnBack$Road", name := "put", desc := "(II)V" } : Jvm.MethodName) ({ cls := "TurnBack$Road", name := "put", desc := "(II)V" } : Jvm.MethodName)) ∈ zTB := zTB_in (List.mem_append_right _ (List.mem_of_getElem? (i := 260) (by decide +kernel))) (by decide +kernel)
theorem tb_261 : (Jvm.Cond.code ({ cls := "TurnBack$Road", name := "put", desc := "(II)V" } : Jvm.MethodName) prog_4_method_4_code (3 : Nat) (Option.none : Option Jvm.ClassFile.FieldType)) ∈ zTB := zTB_in (List.mem_append_right _ (List.mem_of_getElem? (i := 261) (by decide +kernel))) (by decide +kernel)
theorem tb_262 : (Jvm.Cond.methodLink "TurnBackLaw" (18 : Nat) ({ cls := "TurnBack", name := "of", desc := "(II)I" } : Jvm.MethodName)) ∈ zTB := zTB_in (List.mem_append_right _ (List.mem_of_getElem? (i := 262) (by decide +kernel))) (by decide +kernel)
theorem tb_263 : (Jvm.Cond.instanceMethod ({ cls := "TurnBack", name := "of", desc := "(II)I" } : Jvm.MethodName)) ∈ zTB := zTB_in (List.mem_append_right _ (List.mem_of_getElem? (i := 263) (by decide +kernel))) (by decide +kernel)
theorem tb_264 : (Jvm.Cond.selects "TurnBack" ({ cls := "TurnBack", name := "of", desc := "(II)I" } : Jvm.MethodName) ({ cls := "TurnBack", name := "of", desc := "(II)I" } : Jvm.MethodName)) ∈ zTB := zTB_in (List.mem_append_right _ (List.mem_of_getElem? (i := 264) (by decide +kernel))) (by decide +kernel)
theorem tb_265 : (Jvm.Cond.code ({ cls := "TurnBack", name := "of", desc := "(II)I" } : Jvm.MethodName) prog_1_method_3_code (3 : Nat) (Option.some Jvm.ClassFile.FieldType.int)) ∈ zTB := zTB_in (List.mem_append_right _ (List.mem_of_getElem? (i := 265) (by decide +kernel))) (by decide +kernel)
theorem tb_266 : (Jvm.Cond.methodLink "TurnBack" (63 : Nat) ({ cls := "TurnBack", name := "isThere", desc := "(I)Z" } : Jvm.MethodName)) ∈ zTB := zTB_in (List.mem_append_right _ (List.mem_of_getElem? (i := 266) (by decide +kernel))) (by decide +kernel)
theorem tb_268 : (Jvm.Cond.instanceMethod ({ cls := "TurnBack", name := "isThere", desc := "(I)Z" } : Jvm.MethodName)) ∈ zTB := zTB_in (List.mem_append_right _ (List.mem_of_getElem? (i := 268) (by decide +kernel))) (by decide +kernel)
theorem tb_269 : (Jvm.Cond.code ({ cls := "TurnBack", name := "isThere", desc := "(I)Z" } : Jvm.MethodName) prog_1_method_43_code (2 : Nat) (Option.some Jvm.ClassFile.FieldType.boolean)) ∈ zTB := zTB_in (List.mem_append_right _ (List.mem_of_getElem? (i := 269) (by decide +kernel))) (by decide +kernel)
theorem tb_270 : (Jvm.Cond.methodLink "TurnBack" (87 : Nat) ({ cls := "TurnBack$Road", name := "offerTo", desc := "(I)I" } : Jvm.MethodName)) ∈ zTB := zTB_in (List.mem_append_right _ (List.mem_of_getElem? (i := 270) (by decide +kernel))) (by decide +kernel)
theorem tb_271 : (Jvm.Cond.instanceMethod ({ cls := "TurnBack$Road", name := "offerTo", desc := "(I)I" } : Jvm.MethodName)) ∈ zTB := zTB_in (List.mem_append_right _ (List.mem_of_getElem? (i := 271) (by decide +kernel))) (by decide +kernel)
theorem tb_272 : (Jvm.Cond.selects "TurnBack$Road" ({ cls := "TurnBack$Road", name := "offerTo", desc := "(I)I" } : Jvm.MethodName) ({ cls := "TurnBack$Road", name := "offerTo", desc := "(I)I" } : Jvm.MethodName)) ∈ zTB := zTB_in (List.mem_append_right _ (List.mem_of_getElem? (i := 272) (by decide +kernel))) (by decide +kernel)
theorem tb_273 : (Jvm.Cond.code ({ cls := "TurnBack$Road", name := "offerTo", desc := "(I)I" } : Jvm.MethodName) prog_4_method_12_code (3 : Nat) (Option.some Jvm.ClassFile.FieldType.int)) ∈ zTB := zTB_in (List.mem_append_right _ (List.mem_of_getElem? (i := 273) (by decide +kernel))) (by decide +kernel)
theorem tb_274 : (Jvm.Cond.methodLink "TurnBack$Road" (78 : Nat) ({ cls := "TurnBack$Road", name := "payNow", desc := "()I" } : Jvm.MethodName)) ∈ zTB := zTB_in (List.mem_append_right _ (List.mem_of_getElem? (i := 274) (by decide +kernel))) (by decide +kernel)
theorem tb_275 : (Jvm.Cond.instanceMethod ({ cls := "TurnBack$Road", name := "payNow", desc := "()I" } : Jvm.MethodName)) ∈ zTB := zTB_in (List.mem_append_right _ (List.mem_of_getElem? (i := 275) (by decide +kernel))) (by decide +kernel)
theorem tb_276 : (Jvm.Cond.selects "TurnBack$Road" ({ cls := "TurnBack$Road", name := "payNow", desc := "()I" } : Jvm.MethodName) ({ cls := "TurnBack$Road", name := "payNow", desc := "()I" } : Jvm.MethodName)) ∈ zTB := zTB_in (List.mem_append_right _ (List.mem_of_getElem? (i := 276) (by decide +kernel))) (by decide +kernel)
theorem tb_277 : (Jvm.Cond.code ({ cls := "TurnBack$Road", name := "payNow", desc := "()I" } : Jvm.MethodName) prog_4_method_13_code (1 : Nat) (Option.some Jvm.ClassFile.FieldType.int)) ∈ zTB := zTB_in (List.mem_append_right _ (List.mem_of_getElem? (i := 277) (by decide +kernel))) (by decide +kernel)
theorem tb_278 : (Jvm.Cond.methodLink "TurnBack$Road" (82 : Nat) ({ cls := "TurnBack$Season", name := "extraFor", desc := "(LTurnBack$Road;I)I" } : Jvm.MethodName)) ∈ zTB := zTB_in (List.mem_append_right _ (List.mem_of_getElem? (i := 278) (by decide +kernel))) (by decide +kernel)
theorem tb_279 : (Jvm.Cond.instanceMethod ({ cls := "TurnBack$Season", name := "extraFor", desc := "(LTurnBack$Road;I)I" } : Jvm.MethodName)) ∈ zTB := zTB_in (List.mem_append_right _ (List.mem_of_getElem? (i := 279) (by decide +kernel))) (by decide +kernel)
theorem tb_280 : (Jvm.Cond.selects "TurnBack$Season" ({ cls := "TurnBack$Season", name := "extraFor", desc := "(LTurnBack$Road;I)I" } : Jvm.MethodName) ({ cls := "TurnBack$Season", name := "extraFor", desc := "(LTurnBack$Road;I)I" } : Jvm.MethodName)) ∈ zTB := zTB_in (List.mem_append_right _ (List.mem_of_getElem? (i := 280) (by decide +kernel))) (by decide +kernel)
theorem tb_281 : (Jvm.Cond.code ({ cls := "TurnBack$Season", name := "extraFor", desc := "(LTurnBack$Road;I)I" } : Jvm.MethodName) prog_6_method_4_code (8 : Nat) (Option.some Jvm.ClassFile.FieldType.int)) ∈ zTB := zTB_in (List.mem_append_right _ (List.mem_of_getElem? (i := 281) (by decide +kernel))) (by decide +kernel)
theorem tb_282 : (Jvm.Cond.methodLink "TurnBack$Season" (22 : Nat) ({ cls := "TurnBack$Road", name := "valueOf", desc := "(II)I" } : Jvm.MethodName)) ∈ zTB := zTB_in (List.mem_append_right _ (List.mem_of_getElem? (i := 282) (by decide +kernel))) (by decide +kernel)
theorem tb_283 : (Jvm.Cond.instanceMethod ({ cls := "TurnBack$Road", name := "valueOf", desc := "(II)I" } : Jvm.MethodName)) ∈ zTB := zTB_in (List.mem_append_right _ (List.mem_of_getElem? (i := 283) (by decide +kernel))) (by decide +kernel)
theorem tb_284 : (Jvm.Cond.selects "TurnBack$Road" ({ cls := "TurnBack$Road", name := "valueOf", desc := "(II)I" } : Jvm.MethodName) ({ cls := "TurnBack$Road", name := "valueOf", desc := "(II)I" } : Jvm.MethodName)) ∈ zTB := zTB_in (List.mem_append_right _ (List.mem_of_getElem? (i := 284) (by decide +kernel))) (by decide +kernel)
theorem tb_285 : (Jvm.Cond.code ({ cls := "TurnBack$Road", name := "valueOf", desc := "(II)I" } : Jvm.MethodName) prog_4_method_15_code (3 : Nat) (Option.some Jvm.ClassFile.FieldType.int)) ∈ zTB := zTB_in (List.mem_append_right _ (List.mem_of_getElem? (i := 285) (by decide +kernel))) (by decide +kernel)
theorem tb_286 : (Jvm.Cond.methodLink "TurnBack$Season" (28 : Nat) ({ cls := "TurnBack$Season", name := "compared", desc := "(III)I" } : Jvm.MethodName)) ∈ zTB := zTB_in (List.mem_append_right _ (List.mem_of_getElem? (i := 286) (by decide +kernel))) (by decide +kernel)
theorem tb_287 : (Jvm.Cond.static ({ cls := "TurnBack$Season", name := "compared", desc := "(III)I" } : Jvm.MethodName)) ∈ zTB := zTB_in (List.mem_append_right _ (List.mem_of_getElem? (i := 287) (by decide +kernel))) (by decide +kernel)
theorem tb_288 : (Jvm.Cond.code ({ cls := "TurnBack$Season", name := "compared", desc := "(III)I" } : Jvm.MethodName) prog_6_method_5_code (3 : Nat) (Option.some Jvm.ClassFile.FieldType.int)) ∈ zTB := zTB_in (List.mem_append_right _ (List.mem_of_getElem? (i := 288) (by decide +kernel))) (by decide +kernel)
theorem tb_289 : (Jvm.Cond.methodLink "TurnBack$Road" (88 : Nat) ({ cls := "TurnBack$Road", name := "anotherAtBar", desc := "(I)Z" } : Jvm.MethodName)) ∈ zTB := zTB_in (List.mem_append_right _ (List.mem_of_getElem? (i := 289) (by decide +kernel))) (by decide +kernel)
theorem tb_291 : (Jvm.Cond.instanceMethod ({ cls := "TurnBack$Road", name := "anotherAtBar", desc := "(I)Z" } : Jvm.MethodName)) ∈ zTB := zTB_in (List.mem_append_right _ (List.mem_of_getElem? (i := 291) (by decide +kernel))) (by decide +kernel)
theorem tb_292 : (Jvm.Cond.code ({ cls := "TurnBack$Road", name := "anotherAtBar", desc := "(I)Z" } : Jvm.MethodName) prog_4_method_14_code (2 : Nat) (Option.some Jvm.ClassFile.FieldType.boolean)) ∈ zTB := zTB_in (List.mem_append_right _ (List.mem_of_getElem? (i := 292) (by decide +kernel))) (by decide +kernel)
theorem tb_293 : (Jvm.Cond.methodLink "TurnBack$Road" (95 : Nat) ({ cls := "TurnBack$Road", name := "bitsAt", desc := "(I)I" } : Jvm.MethodName)) ∈ zTB := zTB_in (List.mem_append_right _ (List.mem_of_getElem? (i := 293) (by decide +kernel))) (by decide +kernel)
theorem tb_294 : (Jvm.Cond.instanceMethod ({ cls := "TurnBack$Road", name := "bitsAt", desc := "(I)I" } : Jvm.MethodName)) ∈ zTB := zTB_in (List.mem_append_right _ (List.mem_of_getElem? (i := 294) (by decide +kernel))) (by decide +kernel)
theorem tb_295 : (Jvm.Cond.selects "TurnBack$Road" ({ cls := "TurnBack$Road", name := "bitsAt", desc := "(I)I" } : Jvm.MethodName) ({ cls := "TurnBack$Road", name := "bitsAt", desc := "(I)I" } : Jvm.MethodName)) ∈ zTB := zTB_in (List.mem_append_right _ (List.mem_of_getElem? (i := 295) (by decide +kernel))) (by decide +kernel)
theorem tb_296 : (Jvm.Cond.code ({ cls := "TurnBack$Road", name := "bitsAt", desc := "(I)I" } : Jvm.MethodName) prog_4_method_8_code (4 : Nat) (Option.some Jvm.ClassFile.FieldType.int)) ∈ zTB := zTB_in (List.mem_append_right _ (List.mem_of_getElem? (i := 296) (by decide +kernel))) (by decide +kernel)
theorem tb_297 : (Jvm.Cond.methodLink "TurnBack$Road" (57 : Nat) ({ cls := "java/lang/Math", name := "min", desc := "(II)I" } : Jvm.MethodName)) ∈ zTB := zTB_in (List.mem_append_right _ (List.mem_of_getElem? (i := 297) (by decide +kernel))) (by decide +kernel)
theorem tb_298 : (Jvm.Cond.static ({ cls := "java/lang/Math", name := "min", desc := "(II)I" } : Jvm.MethodName)) ∈ zTB := zTB_in (List.mem_append_right _ (List.mem_of_getElem? (i := 298) (by decide +kernel))) (by decide +kernel)
theorem tb_299 : (Jvm.Cond.code ({ cls := "java/lang/Math", name := "min", desc := "(II)I" } : Jvm.MethodName) prog_12_method_69_code (2 : Nat) (Option.some Jvm.ClassFile.FieldType.int)) ∈ zTB := zTB_in (List.mem_append_right _ (List.mem_of_getElem? (i := 299) (by decide +kernel))) (by decide +kernel)
theorem tb_300 : (Jvm.Cond.methodLink "TurnBack" (91 : Nat) ({ cls := "TurnBack", name := "daysToCity", desc := "(I)I" } : Jvm.MethodName)) ∈ zTB := zTB_in (List.mem_append_right _ (List.mem_of_getElem? (i := 300) (by decide +kernel))) (by decide +kernel)
theorem tb_302 : (Jvm.Cond.instanceMethod ({ cls := "TurnBack", name := "daysToCity", desc := "(I)I" } : Jvm.MethodName)) ∈ zTB := zTB_in (List.mem_append_right _ (List.mem_of_getElem? (i := 302) (by decide +kernel))) (by decide +kernel)
theorem tb_303 : (Jvm.Cond.code ({ cls := "TurnBack", name := "daysToCity", desc := "(I)I" } : Jvm.MethodName) prog_1_method_13_code (3 : Nat) (Option.some Jvm.ClassFile.FieldType.int)) ∈ zTB := zTB_in (List.mem_append_right _ (List.mem_of_getElem? (i := 303) (by decide +kernel))) (by decide +kernel)
theorem tb_304 : (Jvm.Cond.methodLink "TurnBack" (144 : Nat) ({ cls := "TurnBack$Road", name := "copy", desc := "(LTurnBack$Road;)V" } : Jvm.MethodName)) ∈ zTB := zTB_in (List.mem_append_right _ (List.mem_of_getElem? (i := 304) (by decide +kernel))) (by decide +kernel)
theorem tb_305 : (Jvm.Cond.instanceMethod ({ cls := "TurnBack$Road", name := "copy", desc := "(LTurnBack$Road;)V" } : Jvm.MethodName)) ∈ zTB := zTB_in (List.mem_append_right _ (List.mem_of_getElem? (i := 305) (by decide +kernel))) (by decide +kernel)
theorem tb_306 : (Jvm.Cond.selects "TurnBack$Road" ({ cls := "TurnBack$Road", name := "copy", desc := "(LTurnBack$Road;)V" } : Jvm.MethodName) ({ cls := "TurnBack$Road", name := "copy", desc := "(LTurnBack$Road;)V" } : Jvm.MethodName)) ∈ zTB := zTB_in (List.mem_append_right _ (List.mem_of_getElem? (i := 306) (by decide +kernel))) (by decide +kernel)
theorem tb_307 : (Jvm.Cond.code ({ cls := "TurnBack$Road", name := "copy", desc := "(LTurnBack$Road;)V" } : Jvm.MethodName) prog_4_method_2_code (4 : Nat) (Option.none : Option Jvm.ClassFile.FieldType)) ∈ zTB := zTB_in (List.mem_append_right _ (List.mem_of_getElem? (i := 307) (by decide +kernel))) (by decide +kernel)
theorem tb_308 : (Jvm.Cond.methodLink "TurnBack" (140 : Nat) ({ cls := "TurnBack$Road", name := "goOn", desc := "(I)V" } : Jvm.MethodName)) ∈ zTB := zTB_in (List.mem_append_right _ (List.mem_of_getElem? (i := 308) (by decide +kernel))) (by decide +kernel)
theorem tb_309 : (Jvm.Cond.instanceMethod ({ cls := "TurnBack$Road", name := "goOn", desc := "(I)V" } : Jvm.MethodName)) ∈ zTB := zTB_in (List.mem_append_right _ (List.mem_of_getElem? (i := 309) (by decide +kernel))) (by decide +kernel)
theorem tb_310 : (Jvm.Cond.selects "TurnBack$Road" ({ cls := "TurnBack$Road", name := "goOn", desc := "(I)V" } : Jvm.MethodName) ({ cls := "TurnBack$Road", name := "goOn", desc := "(I)V" } : Jvm.MethodName)) ∈ zTB := zTB_in (List.mem_append_right _ (List.mem_of_getElem? (i := 310) (by decide +kernel))) (by decide +kernel)
theorem tb_311 : (Jvm.Cond.code ({ cls := "TurnBack$Road", name := "goOn", desc := "(I)V" } : Jvm.MethodName) prog_4_method_10_code (4 : Nat) (Option.none : Option Jvm.ClassFile.FieldType)) ∈ zTB := zTB_in (List.mem_append_right _ (List.mem_of_getElem? (i := 311) (by decide +kernel))) (by decide +kernel)
theorem tb_312 : (Jvm.Cond.methodLink "TurnBack$Road" (67 : Nat) ({ cls := "TurnBack$Road", name := "walkOn", desc := "(I)V" } : Jvm.MethodName)) ∈ zTB := zTB_in (List.mem_append_right _ (List.mem_of_getElem? (i := 312) (by decide +kernel))) (by decide +kernel)
theorem tb_314 : (Jvm.Cond.instanceMethod ({ cls := "TurnBack$Road", name := "walkOn", desc := "(I)V" } : Jvm.MethodName)) ∈ zTB := zTB_in (List.mem_append_right _ (List.mem_of_getElem? (i := 314) (by decide +kernel))) (by decide +kernel)
theorem tb_315 : (Jvm.Cond.code ({ cls := "TurnBack$Road", name := "walkOn", desc := "(I)V" } : Jvm.MethodName) prog_4_method_11_code (3 : Nat) (Option.none : Option Jvm.ClassFile.FieldType)) ∈ zTB := zTB_in (List.mem_append_right _ (List.mem_of_getElem? (i := 315) (by decide +kernel))) (by decide +kernel)
theorem tb_316 : (Jvm.Cond.methodLink "TurnBack$Road" (71 : Nat) ({ cls := "TurnBack$Road", name := "offerTo", desc := "(I)I" } : Jvm.MethodName)) ∈ zTB := zTB_in (List.mem_append_right _ (List.mem_of_getElem? (i := 316) (by decide +kernel))) (by decide +kernel)
theorem tb_317 : (Jvm.Cond.methodLink "TurnBack$Road" (75 : Nat) ({ cls := "TurnBack$Road", name := "esteem", desc := "(II)V" } : Jvm.MethodName)) ∈ zTB := zTB_in (List.mem_append_right _ (List.mem_of_getElem? (i := 317) (by decide +kernel))) (by decide +kernel)
theorem tb_318 : (Jvm.Cond.instanceMethod ({ cls := "TurnBack$Road", name := "esteem", desc := "(II)V" } : Jvm.MethodName)) ∈ zTB := zTB_in (List.mem_append_right _ (List.mem_of_getElem? (i := 318) (by decide +kernel))) (by decide +kernel)
theorem tb_319 : (Jvm.Cond.selects "TurnBack$Road" ({ cls := "TurnBack$Road", name := "esteem", desc := "(II)V" } : Jvm.MethodName) ({ cls := "TurnBack$Road", name := "esteem", desc := "(II)V" } : Jvm.MethodName)) ∈ zTB := zTB_in (List.mem_append_right _ (List.mem_of_getElem? (i := 319) (by decide +kernel))) (by decide +kernel)
theorem tb_320 : (Jvm.Cond.code ({ cls := "TurnBack$Road", name := "esteem", desc := "(II)V" } : Jvm.MethodName) prog_4_method_5_code (3 : Nat) (Option.none : Option Jvm.ClassFile.FieldType)) ∈ zTB := zTB_in (List.mem_append_right _ (List.mem_of_getElem? (i := 320) (by decide +kernel))) (by decide +kernel)
theorem tb_321 : (Jvm.Cond.methodLink "TurnBackLaw" (23 : Nat) ({ cls := "TurnBack", name := "set", desc := "(III)I" } : Jvm.MethodName)) ∈ zTB := zTB_in (List.mem_append_right _ (List.mem_of_getElem? (i := 321) (by decide +kernel))) (by decide +kernel)
theorem tb_322 : (Jvm.Cond.instanceMethod ({ cls := "TurnBack", name := "set", desc := "(III)I" } : Jvm.MethodName)) ∈ zTB := zTB_in (List.mem_append_right _ (List.mem_of_getElem? (i := 322) (by decide +kernel))) (by decide +kernel)
theorem tb_323 : (Jvm.Cond.selects "TurnBack" ({ cls := "TurnBack", name := "set", desc := "(III)I" } : Jvm.MethodName) ({ cls := "TurnBack", name := "set", desc := "(III)I" } : Jvm.MethodName)) ∈ zTB := zTB_in (List.mem_append_right _ (List.mem_of_getElem? (i := 323) (by decide +kernel))) (by decide +kernel)
theorem tb_324 : (Jvm.Cond.code ({ cls := "TurnBack", name := "set", desc := "(III)I" } : Jvm.MethodName) prog_1_method_4_code (5 : Nat) (Option.some Jvm.ClassFile.FieldType.int)) ∈ zTB := zTB_in (List.mem_append_right _ (List.mem_of_getElem? (i := 324) (by decide +kernel))) (by decide +kernel)
theorem tb_325 : (Jvm.Cond.methodLink "TurnBack" (94 : Nat) ({ cls := "TurnBack$Road", name := "put", desc := "(II)V" } : Jvm.MethodName)) ∈ zTB := zTB_in (List.mem_append_right _ (List.mem_of_getElem? (i := 325) (by decide +kernel))) (by decide +kernel)
theorem tb_326 : (Jvm.Cond.methodLink "TurnBackLaw" (28 : Nat) ({ cls := "TurnBack", name := "back", desc := "(IZ)I" } : Jvm.MethodName)) ∈ zTB := zTB_in (List.mem_append_right _ (List.mem_of_getElem? (i := 326) (by decide +kernel))) (by decide +kernel)
theorem tb_327 : (Jvm.Cond.instanceMethod ({ cls := "TurnBack", name := "back", desc := "(IZ)I" } : Jvm.MethodName)) ∈ zTB := zTB_in (List.mem_append_right _ (List.mem_of_getElem? (i := 327) (by decide +kernel))) (by decide +kernel)
theorem tb_328 : (Jvm.Cond.selects "TurnBack" ({ cls := "TurnBack", name := "back", desc := "(IZ)I" } : Jvm.MethodName) ({ cls := "TurnBack", name := "back", desc := "(IZ)I" } : Jvm.MethodName)) ∈ zTB := zTB_in (List.mem_append_right _ (List.mem_of_getElem? (i := 328) (by decide +kernel))) (by decide +kernel)
theorem tb_329 : (Jvm.Cond.code ({ cls := "TurnBack", name := "back", desc := "(IZ)I" } : Jvm.MethodName) prog_1_method_5_code (4 : Nat) (Option.some Jvm.ClassFile.FieldType.int)) ∈ zTB := zTB_in (List.mem_append_right _ (List.mem_of_getElem? (i := 329) (by decide +kernel))) (by decide +kernel)
theorem tb_330 : (Jvm.Cond.methodLink "TurnBack" (98 : Nat) ({ cls := "TurnBack$Road", name := "isUnderWay", desc := "(I)Z" } : Jvm.MethodName)) ∈ zTB := zTB_in (List.mem_append_right _ (List.mem_of_getElem? (i := 330) (by decide +kernel))) (by decide +kernel)
theorem tb_331 : (Jvm.Cond.instanceMethod ({ cls := "TurnBack$Road", name := "isUnderWay", desc := "(I)Z" } : Jvm.MethodName)) ∈ zTB := zTB_in (List.mem_append_right _ (List.mem_of_getElem? (i := 331) (by decide +kernel))) (by decide +kernel)
theorem tb_332 : (Jvm.Cond.selects "TurnBack$Road" ({ cls := "TurnBack$Road", name := "isUnderWay", desc := "(I)Z" } : Jvm.MethodName) ({ cls := "TurnBack$Road", name := "isUnderWay", desc := "(I)Z" } : Jvm.MethodName)) ∈ zTB := zTB_in (List.mem_append_right _ (List.mem_of_getElem? (i := 332) (by decide +kernel))) (by decide +kernel)
theorem tb_333 : (Jvm.Cond.code ({ cls := "TurnBack$Road", name := "isUnderWay", desc := "(I)Z" } : Jvm.MethodName) prog_4_method_7_code (2 : Nat) (Option.some Jvm.ClassFile.FieldType.boolean)) ∈ zTB := zTB_in (List.mem_append_right _ (List.mem_of_getElem? (i := 333) (by decide +kernel))) (by decide +kernel)
theorem tb_334 : (Jvm.Cond.methodLink "TurnBackLaw" (33 : Nat) ({ cls := "TurnBack", name := "purse", desc := "(I)I" } : Jvm.MethodName)) ∈ zTB := zTB_in (List.mem_append_right _ (List.mem_of_getElem? (i := 334) (by decide +kernel))) (by decide +kernel)
theorem tb_335 : (Jvm.Cond.instanceMethod ({ cls := "TurnBack", name := "purse", desc := "(I)I" } : Jvm.MethodName)) ∈ zTB := zTB_in (List.mem_append_right _ (List.mem_of_getElem? (i := 335) (by decide +kernel))) (by decide +kernel)
theorem tb_336 : (Jvm.Cond.selects "TurnBack" ({ cls := "TurnBack", name := "purse", desc := "(I)I" } : Jvm.MethodName) ({ cls := "TurnBack", name := "purse", desc := "(I)I" } : Jvm.MethodName)) ∈ zTB := zTB_in (List.mem_append_right _ (List.mem_of_getElem? (i := 336) (by decide +kernel))) (by decide +kernel)
theorem tb_337 : (Jvm.Cond.code ({ cls := "TurnBack", name := "purse", desc := "(I)I" } : Jvm.MethodName) prog_1_method_6_code (3 : Nat) (Option.some Jvm.ClassFile.FieldType.int)) ∈ zTB := zTB_in (List.mem_append_right _ (List.mem_of_getElem? (i := 337) (by decide +kernel))) (by decide +kernel)
theorem tb_338 : (Jvm.Cond.constant "TurnBack" (101 : Nat) (99999 : Int32)) ∈ zTB := zTB_in (List.mem_append_right _ (List.mem_of_getElem? (i := 338) (by decide +kernel))) (by decide +kernel)
theorem tb_339 : (Jvm.Cond.methodLink "TurnBackLaw" (38 : Nat) ({ cls := "TurnBack", name := "row", desc := "(III)I" } : Jvm.MethodName)) ∈ zTB := zTB_in (List.mem_append_right _ (List.mem_of_getElem? (i := 339) (by decide +kernel))) (by decide +kernel)
theorem tb_340 : (Jvm.Cond.instanceMethod ({ cls := "TurnBack", name := "row", desc := "(III)I" } : Jvm.MethodName)) ∈ zTB := zTB_in (List.mem_append_right _ (List.mem_of_getElem? (i := 340) (by decide +kernel))) (by decide +kernel)
theorem tb_341 : (Jvm.Cond.selects "TurnBack" ({ cls := "TurnBack", name := "row", desc := "(III)I" } : Jvm.MethodName) ({ cls := "TurnBack", name := "row", desc := "(III)I" } : Jvm.MethodName)) ∈ zTB := zTB_in (List.mem_append_right _ (List.mem_of_getElem? (i := 341) (by decide +kernel))) (by decide +kernel)
theorem tb_342 : (Jvm.Cond.code ({ cls := "TurnBack", name := "row", desc := "(III)I" } : Jvm.MethodName) prog_1_method_7_code (5 : Nat) (Option.some Jvm.ClassFile.FieldType.int)) ∈ zTB := zTB_in (List.mem_append_right _ (List.mem_of_getElem? (i := 342) (by decide +kernel))) (by decide +kernel)
theorem tb_343 : (Jvm.Cond.methodLink "TurnBackLaw" (42 : Nat) ({ cls := "TurnBack", name := "feed", desc := "(I)I" } : Jvm.MethodName)) ∈ zTB := zTB_in (List.mem_append_right _ (List.mem_of_getElem? (i := 343) (by decide +kernel))) (by decide +kernel)
theorem tb_344 : (Jvm.Cond.instanceMethod ({ cls := "TurnBack", name := "feed", desc := "(I)I" } : Jvm.MethodName)) ∈ zTB := zTB_in (List.mem_append_right _ (List.mem_of_getElem? (i := 344) (by decide +kernel))) (by decide +kernel)
theorem tb_345 : (Jvm.Cond.selects "TurnBack" ({ cls := "TurnBack", name := "feed", desc := "(I)I" } : Jvm.MethodName) ({ cls := "TurnBack", name := "feed", desc := "(I)I" } : Jvm.MethodName)) ∈ zTB := zTB_in (List.mem_append_right _ (List.mem_of_getElem? (i := 345) (by decide +kernel))) (by decide +kernel)
theorem tb_346 : (Jvm.Cond.code ({ cls := "TurnBack", name := "feed", desc := "(I)I" } : Jvm.MethodName) prog_1_method_8_code (2 : Nat) (Option.some Jvm.ClassFile.FieldType.int)) ∈ zTB := zTB_in (List.mem_append_right _ (List.mem_of_getElem? (i := 346) (by decide +kernel))) (by decide +kernel)
theorem tb_347 : (Jvm.Cond.methodLink "TurnBack" (110 : Nat) ({ cls := "TurnBack$SeasonReader", name := "take", desc := "(I)I" } : Jvm.MethodName)) ∈ zTB := zTB_in (List.mem_append_right _ (List.mem_of_getElem? (i := 347) (by decide +kernel))) (by decide +kernel)
theorem tb_348 : (Jvm.Cond.instanceMethod ({ cls := "TurnBack$SeasonReader", name := "take", desc := "(I)I" } : Jvm.MethodName)) ∈ zTB := zTB_in (List.mem_append_right _ (List.mem_of_getElem? (i := 348) (by decide +kernel))) (by decide +kernel)
theorem tb_349 : (Jvm.Cond.selects "TurnBack$SeasonReader" ({ cls := "TurnBack$SeasonReader", name := "take", desc := "(I)I" } : Jvm.MethodName) ({ cls := "TurnBack$SeasonReader", name := "take", desc := "(I)I" } : Jvm.MethodName)) ∈ zTB := zTB_in (List.mem_append_right _ (List.mem_of_getElem? (i := 349) (by decide +kernel))) (by decide +kernel)
theorem tb_350 : (Jvm.Cond.code ({ cls := "TurnBack$SeasonReader", name := "take", desc := "(I)I" } : Jvm.MethodName) prog_7_method_2_code (2 : Nat) (Option.some Jvm.ClassFile.FieldType.int)) ∈ zTB := zTB_in (List.mem_append_right _ (List.mem_of_getElem? (i := 350) (by decide +kernel))) (by decide +kernel)
theorem tb_351 : (Jvm.Cond.methodLink "TurnBackLaw" (46 : Nat) ({ cls := "TurnBack", name := "season", desc := "()I" } : Jvm.MethodName)) ∈ zTB := zTB_in (List.mem_append_right _ (List.mem_of_getElem? (i := 351) (by decide +kernel))) (by decide +kernel)
theorem tb_352 : (Jvm.Cond.instanceMethod ({ cls := "TurnBack", name := "season", desc := "()I" } : Jvm.MethodName)) ∈ zTB := zTB_in (List.mem_append_right _ (List.mem_of_getElem? (i := 352) (by decide +kernel))) (by decide +kernel)
theorem tb_353 : (Jvm.Cond.selects "TurnBack" ({ cls := "TurnBack", name := "season", desc := "()I" } : Jvm.MethodName) ({ cls := "TurnBack", name := "season", desc := "()I" } : Jvm.MethodName)) ∈ zTB := zTB_in (List.mem_append_right _ (List.mem_of_getElem? (i := 353) (by decide +kernel))) (by decide +kernel)
theorem tb_354 : (Jvm.Cond.code ({ cls := "TurnBack", name := "season", desc := "()I" } : Jvm.MethodName) prog_1_method_9_code (2 : Nat) (Option.some Jvm.ClassFile.FieldType.int)) ∈ zTB := zTB_in (List.mem_append_right _ (List.mem_of_getElem? (i := 354) (by decide +kernel))) (by decide +kernel)
theorem tb_355 : (Jvm.Cond.methodLink "TurnBack" (116 : Nat) ({ cls := "TurnBack$SeasonReader", name := "draftSeason", desc := "()I" } : Jvm.MethodName)) ∈ zTB := zTB_in (List.mem_append_right _ (List.mem_of_getElem? (i := 355) (by decide +kernel))) (by decide +kernel)
theorem tb_356 : (Jvm.Cond.instanceMethod ({ cls := "TurnBack$SeasonReader", name := "draftSeason", desc := "()I" } : Jvm.MethodName)) ∈ zTB := zTB_in (List.mem_append_right _ (List.mem_of_getElem? (i := 356) (by decide +kernel))) (by decide +kernel)
theorem tb_357 : (Jvm.Cond.selects "TurnBack$SeasonReader" ({ cls := "TurnBack$SeasonReader", name := "draftSeason", desc := "()I" } : Jvm.MethodName) ({ cls := "TurnBack$SeasonReader", name := "draftSeason", desc := "()I" } : Jvm.MethodName)) ∈ zTB := zTB_in (List.mem_append_right _ (List.mem_of_getElem? (i := 357) (by decide +kernel))) (by decide +kernel)
theorem tb_358 : (Jvm.Cond.code ({ cls := "TurnBack$SeasonReader", name := "draftSeason", desc := "()I" } : Jvm.MethodName) prog_7_method_3_code (3 : Nat) (Option.some Jvm.ClassFile.FieldType.int)) ∈ zTB := zTB_in (List.mem_append_right _ (List.mem_of_getElem? (i := 358) (by decide +kernel))) (by decide +kernel)
theorem tb_359 : (Jvm.Cond.methodLink "TurnBack$SeasonReader" (26 : Nat) ({ cls := "TurnBack$Season", name := "clear", desc := "()V" } : Jvm.MethodName)) ∈ zTB := zTB_in (List.mem_append_right _ (List.mem_of_getElem? (i := 359) (by decide +kernel))) (by decide +kernel)
theorem tb_360 : (Jvm.Cond.instanceMethod ({ cls := "TurnBack$Season", name := "clear", desc := "()V" } : Jvm.MethodName)) ∈ zTB := zTB_in (List.mem_append_right _ (List.mem_of_getElem? (i := 360) (by decide +kernel))) (by decide +kernel)
theorem tb_361 : (Jvm.Cond.selects "TurnBack$Season" ({ cls := "TurnBack$Season", name := "clear", desc := "()V" } : Jvm.MethodName) ({ cls := "TurnBack$Season", name := "clear", desc := "()V" } : Jvm.MethodName)) ∈ zTB := zTB_in (List.mem_append_right _ (List.mem_of_getElem? (i := 361) (by decide +kernel))) (by decide +kernel)
theorem tb_362 : (Jvm.Cond.code ({ cls := "TurnBack$Season", name := "clear", desc := "()V" } : Jvm.MethodName) prog_6_method_2_code (1 : Nat) (Option.none : Option Jvm.ClassFile.FieldType)) ∈ zTB := zTB_in (List.mem_append_right _ (List.mem_of_getElem? (i := 362) (by decide +kernel))) (by decide +kernel)
theorem tb_363 : (Jvm.Cond.methodLink "TurnBack$SeasonReader" (32 : Nat) ({ cls := "TurnBack$SeasonReader", name := "clause", desc := "()Z" } : Jvm.MethodName)) ∈ zTB := zTB_in (List.mem_append_right _ (List.mem_of_getElem? (i := 363) (by decide +kernel))) (by decide +kernel)
theorem tb_365 : (Jvm.Cond.instanceMethod ({ cls := "TurnBack$SeasonReader", name := "clause", desc := "()Z" } : Jvm.MethodName)) ∈ zTB := zTB_in (List.mem_append_right _ (List.mem_of_getElem? (i := 365) (by decide +kernel))) (by decide +kernel)
theorem tb_366 : (Jvm.Cond.code ({ cls := "TurnBack$SeasonReader", name := "clause", desc := "()Z" } : Jvm.MethodName) prog_7_method_5_code (3 : Nat) (Option.some Jvm.ClassFile.FieldType.boolean)) ∈ zTB := zTB_in (List.mem_append_right _ (List.mem_of_getElem? (i := 366) (by decide +kernel))) (by decide +kernel)
theorem tb_367 : (Jvm.Cond.methodLink "TurnBack$SeasonReader" (40 : Nat) ({ cls := "TurnBack$SeasonReader", name := "peek", desc := "()I" } : Jvm.MethodName)) ∈ zTB := zTB_in (List.mem_append_right _ (List.mem_of_getElem? (i := 367) (by decide +kernel))) (by decide +kernel)
theorem tb_369 : (Jvm.Cond.instanceMethod ({ cls := "TurnBack$SeasonReader", name := "peek", desc := "()I" } : Jvm.MethodName)) ∈ zTB := zTB_in (List.mem_append_right _ (List.mem_of_getElem? (i := 369) (by decide +kernel))) (by decide +kernel)
theorem tb_370 : (Jvm.Cond.code ({ cls := "TurnBack$SeasonReader", name := "peek", desc := "()I" } : Jvm.MethodName) prog_7_method_13_code (1 : Nat) (Option.some Jvm.ClassFile.FieldType.int)) ∈ zTB := zTB_in (List.mem_append_right _ (List.mem_of_getElem? (i := 370) (by decide +kernel))) (by decide +kernel)
theorem tb_371 : (Jvm.Cond.methodLink "TurnBack$SeasonReader" (44 : Nat) ({ cls := "TurnBack$SeasonReader", name := "payClause", desc := "()Z" } : Jvm.MethodName)) ∈ zTB := zTB_in (List.mem_append_right _ (List.mem_of_getElem? (i := 371) (by decide +kernel))) (by decide +kernel)
theorem tb_373 : (Jvm.Cond.instanceMethod ({ cls := "TurnBack$SeasonReader", name := "payClause", desc := "()Z" } : Jvm.MethodName)) ∈ zTB := zTB_in (List.mem_append_right _ (List.mem_of_getElem? (i := 373) (by decide +kernel))) (by decide +kernel)
theorem tb_374 : (Jvm.Cond.code ({ cls := "TurnBack$SeasonReader", name := "payClause", desc := "()Z" } : Jvm.MethodName) prog_7_method_6_code (2 : Nat) (Option.some Jvm.ClassFile.FieldType.boolean)) ∈ zTB := zTB_in (List.mem_append_right _ (List.mem_of_getElem? (i := 374) (by decide +kernel))) (by decide +kernel)
theorem tb_376 : (Jvm.Cond.methodLink "TurnBack$SeasonReader" (51 : Nat) ({ cls := "TurnBack$SeasonReader", name := "word", desc := "(Ljava/lang/String;)Z" } : Jvm.MethodName)) ∈ zTB := zTB_in (List.mem_append_right _ (List.mem_of_getElem? (i := 376) (by decide +kernel))) (by decide +kernel)
theorem tb_378 : (Jvm.Cond.instanceMethod ({ cls := "TurnBack$SeasonReader", name := "word", desc := "(Ljava/lang/String;)Z" } : Jvm.MethodName)) ∈ zTB := zTB_in (List.mem_append_right _ (List.mem_of_getElem? (i := 378) (by decide +kernel))) (by decide +kernel)
theorem tb_379 : (Jvm.Cond.code ({ cls := "TurnBack$SeasonReader", name := "word", desc := "(Ljava/lang/String;)Z" } : Jvm.MethodName) prog_7_method_11_code (3 : Nat) (Option.some Jvm.ClassFile.FieldType.boolean)) ∈ zTB := zTB_in (List.mem_append_right _ (List.mem_of_getElem? (i := 379) (by decide +kernel))) (by decide +kernel)
theorem tb_380 : (Jvm.Cond.methodLink "TurnBack$SeasonReader" (91 : Nat) ({ cls := "java/lang/String", name := "length", desc := "()I" } : Jvm.MethodName)) ∈ zTB := zTB_in (List.mem_append_right _ (List.mem_of_getElem? (i := 380) (by decide +kernel))) (by decide +kernel)
theorem tb_381 : (Jvm.Cond.instanceMethod ({ cls := "java/lang/String", name := "length", desc := "()I" } : Jvm.MethodName)) ∈ zTB := zTB_in (List.mem_append_right _ (List.mem_of_getElem? (i := 381) (by decide +kernel))) (by decide +kernel)
theorem tb_382 : (Jvm.Cond.selects "java/lang/String" ({ cls := "java/lang/String", name := "length", desc := "()I" } : Jvm.MethodName) ({ cls := "java/lang/String", name := "length", desc := "()I" } : Jvm.MethodName)) ∈ zTB := zTB_in (List.mem_append_right _ (List.mem_of_getElem? (i := 382) (by decide +kernel))) (by decide +kernel)
theorem tb_383 : (Jvm.Cond.code ({ cls := "java/lang/String", name := "length", desc := "()I" } : Jvm.MethodName) prog_13_method_54_code (1 : Nat) (Option.some Jvm.ClassFile.FieldType.int)) ∈ zTB := zTB_in (List.mem_append_right _ (List.mem_of_getElem? (i := 383) (by decide +kernel))) (by decide +kernel)
theorem tb_384 : (Jvm.Cond.methodLink "java/lang/String" (335 : Nat) ({ cls := "java/lang/String", name := "coder", desc := "()B" } : Jvm.MethodName)) ∈ zTB := zTB_in (List.mem_append_right _ (List.mem_of_getElem? (i := 384) (by decide +kernel))) (by decide +kernel)
theorem tb_385 : (Jvm.Cond.instanceMethod ({ cls := "java/lang/String", name := "coder", desc := "()B" } : Jvm.MethodName)) ∈ zTB := zTB_in (List.mem_append_right _ (List.mem_of_getElem? (i := 385) (by decide +kernel))) (by decide +kernel)
theorem tb_386 : (Jvm.Cond.selects "java/lang/String" ({ cls := "java/lang/String", name := "coder", desc := "()B" } : Jvm.MethodName) ({ cls := "java/lang/String", name := "coder", desc := "()B" } : Jvm.MethodName)) ∈ zTB := zTB_in (List.mem_append_right _ (List.mem_of_getElem? (i := 386) (by decide +kernel))) (by decide +kernel)
theorem tb_387 : (Jvm.Cond.code ({ cls := "java/lang/String", name := "coder", desc := "()B" } : Jvm.MethodName) prog_13_method_152_code (1 : Nat) (Option.some Jvm.ClassFile.FieldType.byte)) ∈ zTB := zTB_in (List.mem_append_right _ (List.mem_of_getElem? (i := 387) (by decide +kernel))) (by decide +kernel)
theorem tb_388 : (Jvm.Cond.fieldLink "java/lang/String" (38 : Nat) "java/lang/String" "COMPACT_STRINGS" "Z") ∈ zTB := zTB_in (List.mem_append_right _ (List.mem_of_getElem? (i := 388) (by decide +kernel))) (by decide +kernel)
theorem tb_390 : (Jvm.Cond.methodLink "TurnBack$SeasonReader" (95 : Nat) ({ cls := "java/lang/String", name := "charAt", desc := "(I)C" } : Jvm.MethodName)) ∈ zTB := zTB_in (List.mem_append_right _ (List.mem_of_getElem? (i := 390) (by decide +kernel))) (by decide +kernel)
theorem tb_391 : (Jvm.Cond.instanceMethod ({ cls := "java/lang/String", name := "charAt", desc := "(I)C" } : Jvm.MethodName)) ∈ zTB := zTB_in (List.mem_append_right _ (List.mem_of_getElem? (i := 391) (by decide +kernel))) (by decide +kernel)
theorem tb_392 : (Jvm.Cond.selects "java/lang/String" ({ cls := "java/lang/String", name := "charAt", desc := "(I)C" } : Jvm.MethodName) ({ cls := "java/lang/String", name := "charAt", desc := "(I)C" } : Jvm.MethodName)) ∈ zTB := zTB_in (List.mem_append_right _ (List.mem_of_getElem? (i := 392) (by decide +kernel))) (by decide +kernel)
theorem tb_393 : (Jvm.Cond.code ({ cls := "java/lang/String", name := "charAt", desc := "(I)C" } : Jvm.MethodName) prog_13_method_56_code (2 : Nat) (Option.some Jvm.ClassFile.FieldType.char)) ∈ zTB := zTB_in (List.mem_append_right _ (List.mem_of_getElem? (i := 393) (by decide +kernel))) (by decide +kernel)
theorem tb_394 : (Jvm.Cond.methodLink "java/lang/String" (492 : Nat) ({ cls := "java/lang/String", name := "isLatin1", desc := "()Z" } : Jvm.MethodName)) ∈ zTB := zTB_in (List.mem_append_right _ (List.mem_of_getElem? (i := 394) (by decide +kernel))) (by decide +kernel)
theorem tb_395 : (Jvm.Cond.instanceMethod ({ cls := "java/lang/String", name := "isLatin1", desc := "()Z" } : Jvm.MethodName)) ∈ zTB := zTB_in (List.mem_append_right _ (List.mem_of_getElem? (i := 395) (by decide +kernel))) (by decide +kernel)
theorem tb_396 : (Jvm.Cond.selects "java/lang/String" ({ cls := "java/lang/String", name := "isLatin1", desc := "()Z" } : Jvm.MethodName) ({ cls := "java/lang/String", name := "isLatin1", desc := "()Z" } : Jvm.MethodName)) ∈ zTB := zTB_in (List.mem_append_right _ (List.mem_of_getElem? (i := 396) (by decide +kernel))) (by decide +kernel)
theorem tb_397 : (Jvm.Cond.code ({ cls := "java/lang/String", name := "isLatin1", desc := "()Z" } : Jvm.MethodName) prog_13_method_154_code (1 : Nat) (Option.some Jvm.ClassFile.FieldType.boolean)) ∈ zTB := zTB_in (List.mem_append_right _ (List.mem_of_getElem? (i := 397) (by decide +kernel))) (by decide +kernel)
theorem tb_398 : (Jvm.Cond.methodLink "java/lang/String" (495 : Nat) ({ cls := "java/lang/StringLatin1", name := "charAt", desc := "([BI)C" } : Jvm.MethodName)) ∈ zTB := zTB_in (List.mem_append_right _ (List.mem_of_getElem? (i := 398) (by decide +kernel))) (by decide +kernel)
theorem tb_399 : (Jvm.Cond.static ({ cls := "java/lang/StringLatin1", name := "charAt", desc := "([BI)C" } : Jvm.MethodName)) ∈ zTB := zTB_in (List.mem_append_right _ (List.mem_of_getElem? (i := 399) (by decide +kernel))) (by decide +kernel)
theorem tb_400 : (Jvm.Cond.code ({ cls := "java/lang/StringLatin1", name := "charAt", desc := "([BI)C" } : Jvm.MethodName) prog_14_method_2_code (2 : Nat) (Option.some Jvm.ClassFile.FieldType.char)) ∈ zTB := zTB_in (List.mem_append_right _ (List.mem_of_getElem? (i := 400) (by decide +kernel))) (by decide +kernel)
theorem tb_401 : (Jvm.Cond.methodLink "java/lang/StringLatin1" (9 : Nat) ({ cls := "java/lang/String", name := "checkIndex", desc := "(II)V" } : Jvm.MethodName)) ∈ zTB := zTB_in (List.mem_append_right _ (List.mem_of_getElem? (i := 401) (by decide +kernel))) (by decide +kernel)
theorem tb_402 : (Jvm.Cond.static ({ cls := "java/lang/String", name := "checkIndex", desc := "(II)V" } : Jvm.MethodName)) ∈ zTB := zTB_in (List.mem_append_right _ (List.mem_of_getElem? (i := 402) (by decide +kernel))) (by decide +kernel)
theorem tb_403 : (Jvm.Cond.code ({ cls := "java/lang/String", name := "checkIndex", desc := "(II)V" } : Jvm.MethodName) prog_13_method_155_code (2 : Nat) (Option.none : Option Jvm.ClassFile.FieldType)) ∈ zTB := zTB_in (List.mem_append_right _ (List.mem_of_getElem? (i := 403) (by decide +kernel))) (by decide +kernel)
theorem tb_404 : (Jvm.Cond.fieldLink "java/lang/String" (1053 : Nat) "jdk/internal/util/Preconditions" "SIOOBE_FORMATTER" "Ljava/util/function/BiFunction;") ∈ zTB := zTB_in (List.mem_append_right _ (List.mem_of_getElem? (i := 404) (by decide +kernel))) (by decide +kernel)
theorem tb_406 : (Jvm.Cond.methodLink "java/lang/String" (1059 : Nat) ({ cls := "jdk/internal/util/Preconditions", name := "checkIndex", desc := "(IILjava/util/function/BiFunction;)I" } : Jvm.MethodName)) ∈ zTB := zTB_in (List.mem_append_right _ (List.mem_of_getElem? (i := 406) (by decide +kernel))) (by decide +kernel)
theorem tb_407 : (Jvm.Cond.static ({ cls := "jdk/internal/util/Preconditions", name := "checkIndex", desc := "(IILjava/util/function/BiFunction;)I" } : Jvm.MethodName)) ∈ zTB := zTB_in (List.mem_append_right _ (List.mem_of_getElem? (i := 407) (by decide +kernel))) (by decide +kernel)
theorem tb_408 : (Jvm.Cond.code ({ cls := "jdk/internal/util/Preconditions", name := "checkIndex", desc := "(IILjava/util/function/BiFunction;)I" } : Jvm.MethodName) prog_17_method_11_code (3 : Nat) (Option.some Jvm.ClassFile.FieldType.int)) ∈ zTB := zTB_in (List.mem_append_right _ (List.mem_of_getElem? (i := 408) (by decide +kernel))) (by decide +kernel)
theorem tb_428 : (Jvm.Cond.methodLink "TurnBack$SeasonReader" (36 : Nat) ({ cls := "TurnBack$SeasonReader", name := "passes", desc := "(C)Z" } : Jvm.MethodName)) ∈ zTB := zTB_in (List.mem_append_right _ (List.mem_of_getElem? (i := 428) (by decide +kernel))) (by decide +kernel)
theorem tb_430 : (Jvm.Cond.instanceMethod ({ cls := "TurnBack$SeasonReader", name := "passes", desc := "(C)Z" } : Jvm.MethodName)) ∈ zTB := zTB_in (List.mem_append_right _ (List.mem_of_getElem? (i := 430) (by decide +kernel))) (by decide +kernel)
theorem tb_431 : (Jvm.Cond.code ({ cls := "TurnBack$SeasonReader", name := "passes", desc := "(C)Z" } : Jvm.MethodName) prog_7_method_12_code (2 : Nat) (Option.some Jvm.ClassFile.FieldType.boolean)) ∈ zTB := zTB_in (List.mem_append_right _ (List.mem_of_getElem? (i := 431) (by decide +kernel))) (by decide +kernel)
theorem tb_432 : (Jvm.Cond.methodLink "TurnBack$SeasonReader" (55 : Nat) ({ cls := "TurnBack$SeasonReader", name := "number", desc := "()I" } : Jvm.MethodName)) ∈ zTB := zTB_in (List.mem_append_right _ (List.mem_of_getElem? (i := 432) (by decide +kernel))) (by decide +kernel)
theorem tb_434 : (Jvm.Cond.instanceMethod ({ cls := "TurnBack$SeasonReader", name := "number", desc := "()I" } : Jvm.MethodName)) ∈ zTB := zTB_in (List.mem_append_right _ (List.mem_of_getElem? (i := 434) (by decide +kernel))) (by decide +kernel)
theorem tb_435 : (Jvm.Cond.code ({ cls := "TurnBack$SeasonReader", name := "number", desc := "()I" } : Jvm.MethodName) prog_7_method_10_code (4 : Nat) (Option.some Jvm.ClassFile.FieldType.int)) ∈ zTB := zTB_in (List.mem_append_right _ (List.mem_of_getElem? (i := 435) (by decide +kernel))) (by decide +kernel)
theorem tb_436 : (Jvm.Cond.methodLink "TurnBack$SeasonReader" (85 : Nat) ({ cls := "java/lang/Math", name := "max", desc := "(II)I" } : Jvm.MethodName)) ∈ zTB := zTB_in (List.mem_append_right _ (List.mem_of_getElem? (i := 436) (by decide +kernel))) (by decide +kernel)
theorem tb_439 : (Jvm.Cond.methodLink "TurnBack$SeasonReader" (58 : Nat) ({ cls := "TurnBack$SeasonReader", name := "expression", desc := "(I)Z" } : Jvm.MethodName)) ∈ zTB := zTB_in (List.mem_append_right _ (List.mem_of_getElem? (i := 439) (by decide +kernel))) (by decide +kernel)
theorem tb_441 : (Jvm.Cond.instanceMethod ({ cls := "TurnBack$SeasonReader", name := "expression", desc := "(I)Z" } : Jvm.MethodName)) ∈ zTB := zTB_in (List.mem_append_right _ (List.mem_of_getElem? (i := 441) (by decide +kernel))) (by decide +kernel)
theorem tb_442 : (Jvm.Cond.code ({ cls := "TurnBack$SeasonReader", name := "expression", desc := "(I)Z" } : Jvm.MethodName) prog_7_method_7_code (5 : Nat) (Option.some Jvm.ClassFile.FieldType.boolean)) ∈ zTB := zTB_in (List.mem_append_right _ (List.mem_of_getElem? (i := 442) (by decide +kernel))) (by decide +kernel)
theorem tb_443 : (Jvm.Cond.methodLink "TurnBack$SeasonReader" (71 : Nat) ({ cls := "TurnBack$SeasonReader", name := "factor", desc := "(I)Z" } : Jvm.MethodName)) ∈ zTB := zTB_in (List.mem_append_right _ (List.mem_of_getElem? (i := 443) (by decide +kernel))) (by decide +kernel)
theorem tb_445 : (Jvm.Cond.instanceMethod ({ cls := "TurnBack$SeasonReader", name := "factor", desc := "(I)Z" } : Jvm.MethodName)) ∈ zTB := zTB_in (List.mem_append_right _ (List.mem_of_getElem? (i := 445) (by decide +kernel))) (by decide +kernel)
theorem tb_446 : (Jvm.Cond.code ({ cls := "TurnBack$SeasonReader", name := "factor", desc := "(I)Z" } : Jvm.MethodName) prog_7_method_8_code (3 : Nat) (Option.some Jvm.ClassFile.FieldType.boolean)) ∈ zTB := zTB_in (List.mem_append_right _ (List.mem_of_getElem? (i := 446) (by decide +kernel))) (by decide +kernel)
theorem tb_447 : (Jvm.Cond.methodLink "TurnBack$SeasonReader" (74 : Nat) ({ cls := "TurnBack$SeasonReader", name := "test", desc := "()Z" } : Jvm.MethodName)) ∈ zTB := zTB_in (List.mem_append_right _ (List.mem_of_getElem? (i := 447) (by decide +kernel))) (by decide +kernel)
theorem tb_449 : (Jvm.Cond.instanceMethod ({ cls := "TurnBack$SeasonReader", name := "test", desc := "()Z" } : Jvm.MethodName)) ∈ zTB := zTB_in (List.mem_append_right _ (List.mem_of_getElem? (i := 449) (by decide +kernel))) (by decide +kernel)
theorem tb_450 : (Jvm.Cond.code ({ cls := "TurnBack$SeasonReader", name := "test", desc := "()Z" } : Jvm.MethodName) prog_7_method_9_code (4 : Nat) (Option.some Jvm.ClassFile.FieldType.boolean)) ∈ zTB := zTB_in (List.mem_append_right _ (List.mem_of_getElem? (i := 450) (by decide +kernel))) (by decide +kernel)
theorem tb_452 : (Jvm.Cond.methodLink "TurnBack$SeasonReader" (79 : Nat) ({ cls := "TurnBack$SeasonReader", name := "isOneOf", desc := "(ILjava/lang/String;)Z" } : Jvm.MethodName)) ∈ zTB := zTB_in (List.mem_append_right _ (List.mem_of_getElem? (i := 452) (by decide +kernel))) (by decide +kernel)
theorem tb_453 : (Jvm.Cond.static ({ cls := "TurnBack$SeasonReader", name := "isOneOf", desc := "(ILjava/lang/String;)Z" } : Jvm.MethodName)) ∈ zTB := zTB_in (List.mem_append_right _ (List.mem_of_getElem? (i := 453) (by decide +kernel))) (by decide +kernel)
theorem tb_454 : (Jvm.Cond.code ({ cls := "TurnBack$SeasonReader", name := "isOneOf", desc := "(ILjava/lang/String;)Z" } : Jvm.MethodName) prog_7_method_14_code (3 : Nat) (Option.some Jvm.ClassFile.FieldType.boolean)) ∈ zTB := zTB_in (List.mem_append_right _ (List.mem_of_getElem? (i := 454) (by decide +kernel))) (by decide +kernel)
theorem tb_456 : (Jvm.Cond.methodLink "TurnBack$SeasonReader" (62 : Nat) ({ cls := "TurnBack$Season", name := "add", desc := "(III)V" } : Jvm.MethodName)) ∈ zTB := zTB_in (List.mem_append_right _ (List.mem_of_getElem? (i := 456) (by decide +kernel))) (by decide +kernel)
theorem tb_457 : (Jvm.Cond.instanceMethod ({ cls := "TurnBack$Season", name := "add", desc := "(III)V" } : Jvm.MethodName)) ∈ zTB := zTB_in (List.mem_append_right _ (List.mem_of_getElem? (i := 457) (by decide +kernel))) (by decide +kernel)
theorem tb_458 : (Jvm.Cond.selects "TurnBack$Season" ({ cls := "TurnBack$Season", name := "add", desc := "(III)V" } : Jvm.MethodName) ({ cls := "TurnBack$Season", name := "add", desc := "(III)V" } : Jvm.MethodName)) ∈ zTB := zTB_in (List.mem_append_right _ (List.mem_of_getElem? (i := 458) (by decide +kernel))) (by decide +kernel)
theorem tb_459 : (Jvm.Cond.code ({ cls := "TurnBack$Season", name := "add", desc := "(III)V" } : Jvm.MethodName) prog_6_method_3_code (4 : Nat) (Option.none : Option Jvm.ClassFile.FieldType)) ∈ zTB := zTB_in (List.mem_append_right _ (List.mem_of_getElem? (i := 459) (by decide +kernel))) (by decide +kernel)
theorem tb_460 : (Jvm.Cond.methodLink "TurnBack" (120 : Nat) ({ cls := "TurnBack$SeasonReader", name := "handOver", desc := "()LTurnBack$Season;" } : Jvm.MethodName)) ∈ zTB := zTB_in (List.mem_append_right _ (List.mem_of_getElem? (i := 460) (by decide +kernel))) (by decide +kernel)
theorem tb_461 : (Jvm.Cond.instanceMethod ({ cls := "TurnBack$SeasonReader", name := "handOver", desc := "()LTurnBack$Season;" } : Jvm.MethodName)) ∈ zTB := zTB_in (List.mem_append_right _ (List.mem_of_getElem? (i := 461) (by decide +kernel))) (by decide +kernel)
theorem tb_462 : (Jvm.Cond.selects "TurnBack$SeasonReader" ({ cls := "TurnBack$SeasonReader", name := "handOver", desc := "()LTurnBack$Season;" } : Jvm.MethodName) ({ cls := "TurnBack$SeasonReader", name := "handOver", desc := "()LTurnBack$Season;" } : Jvm.MethodName)) ∈ zTB := zTB_in (List.mem_append_right _ (List.mem_of_getElem? (i := 462) (by decide +kernel))) (by decide +kernel)
theorem tb_463 : (Jvm.Cond.code ({ cls := "TurnBack$SeasonReader", name := "handOver", desc := "()LTurnBack$Season;" } : Jvm.MethodName) prog_7_method_4_code (2 : Nat) (Option.some (Jvm.ClassFile.FieldType.object "TurnBack$Season"))) ∈ zTB := zTB_in (List.mem_append_right _ (List.mem_of_getElem? (i := 463) (by decide +kernel))) (by decide +kernel)
theorem tb_464 : (Jvm.Cond.methodLink "TurnBackLaw" (51 : Nat) ({ cls := "TurnBack", name := "told", desc := "(I)I" } : Jvm.MethodName)) ∈ zTB := zTB_in (List.mem_append_right _ (List.mem_of_getElem? (i := 464) (by decide +kernel))) (by decide +kernel)
theorem tb_465 : (Jvm.Cond.instanceMethod ({ cls := "TurnBack", name := "told", desc := "(I)I" } : Jvm.MethodName)) ∈ zTB := zTB_in (List.mem_append_right _ (List.mem_of_getElem? (i := 465) (by decide +kernel))) (by decide +kernel)
theorem tb_466 : (Jvm.Cond.selects "TurnBack" ({ cls := "TurnBack", name := "told", desc := "(I)I" } : Jvm.MethodName) ({ cls := "TurnBack", name := "told", desc := "(I)I" } : Jvm.MethodName)) ∈ zTB := zTB_in (List.mem_append_right _ (List.mem_of_getElem? (i := 466) (by decide +kernel))) (by decide +kernel)
theorem tb_467 : (Jvm.Cond.code ({ cls := "TurnBack", name := "told", desc := "(I)I" } : Jvm.MethodName) prog_1_method_10_code (2 : Nat) (Option.some Jvm.ClassFile.FieldType.int)) ∈ zTB := zTB_in (List.mem_append_right _ (List.mem_of_getElem? (i := 467) (by decide +kernel))) (by decide +kernel)
theorem tb_468 : (Jvm.Cond.methodLink "TurnBack" (131 : Nat) ({ cls := "TurnBack$Road", name := "payNow", desc := "()I" } : Jvm.MethodName)) ∈ zTB := zTB_in (List.mem_append_right _ (List.mem_of_getElem? (i := 468) (by decide +kernel))) (by decide +kernel)
theorem tb_469 : (Jvm.Cond.methodLink "TurnBack" (134 : Nat) ({ cls := "TurnBack$Road", name := "bitsAt", desc := "(I)I" } : Jvm.MethodName)) ∈ zTB := zTB_in (List.mem_append_right _ (List.mem_of_getElem? (i := 469) (by decide +kernel))) (by decide +kernel)
theorem tb_470 : (Jvm.Cond.methodLink "TurnBack" (137 : Nat) ({ cls := "TurnBack$Road", name := "bitsBack", desc := "()I" } : Jvm.MethodName)) ∈ zTB := zTB_in (List.mem_append_right _ (List.mem_of_getElem? (i := 470) (by decide +kernel))) (by decide +kernel)
theorem tb_471 : (Jvm.Cond.instanceMethod ({ cls := "TurnBack$Road", name := "bitsBack", desc := "()I" } : Jvm.MethodName)) ∈ zTB := zTB_in (List.mem_append_right _ (List.mem_of_getElem? (i := 471) (by decide +kernel))) (by decide +kernel)
theorem tb_472 : (Jvm.Cond.selects "TurnBack$Road" ({ cls := "TurnBack$Road", name := "bitsBack", desc := "()I" } : Jvm.MethodName) ({ cls := "TurnBack$Road", name := "bitsBack", desc := "()I" } : Jvm.MethodName)) ∈ zTB := zTB_in (List.mem_append_right _ (List.mem_of_getElem? (i := 472) (by decide +kernel))) (by decide +kernel)
theorem tb_473 : (Jvm.Cond.code ({ cls := "TurnBack$Road", name := "bitsBack", desc := "()I" } : Jvm.MethodName) prog_4_method_9_code (3 : Nat) (Option.some Jvm.ClassFile.FieldType.int)) ∈ zTB := zTB_in (List.mem_append_right _ (List.mem_of_getElem? (i := 473) (by decide +kernel))) (by decide +kernel)
theorem tb_474 : (Jvm.Cond.methodLink "TurnBackLaw" (55 : Nat) ({ cls := "TurnBack", name := "pass", desc := "(I)I" } : Jvm.MethodName)) ∈ zTB := zTB_in (List.mem_append_right _ (List.mem_of_getElem? (i := 474) (by decide +kernel))) (by decide +kernel)
theorem tb_475 : (Jvm.Cond.instanceMethod ({ cls := "TurnBack", name := "pass", desc := "(I)I" } : Jvm.MethodName)) ∈ zTB := zTB_in (List.mem_append_right _ (List.mem_of_getElem? (i := 475) (by decide +kernel))) (by decide +kernel)
theorem tb_476 : (Jvm.Cond.selects "TurnBack" ({ cls := "TurnBack", name := "pass", desc := "(I)I" } : Jvm.MethodName) ({ cls := "TurnBack", name := "pass", desc := "(I)I" } : Jvm.MethodName)) ∈ zTB := zTB_in (List.mem_append_right _ (List.mem_of_getElem? (i := 476) (by decide +kernel))) (by decide +kernel)
theorem tb_477 : (Jvm.Cond.code ({ cls := "TurnBack", name := "pass", desc := "(I)I" } : Jvm.MethodName) prog_1_method_11_code (2 : Nat) (Option.some Jvm.ClassFile.FieldType.int)) ∈ zTB := zTB_in (List.mem_append_right _ (List.mem_of_getElem? (i := 477) (by decide +kernel))) (by decide +kernel)
theorem tb_478 : (Jvm.Cond.methodLink "TurnBackLaw" (59 : Nat) ({ cls := "TurnBack", name := "on", desc := "(II)I" } : Jvm.MethodName)) ∈ zTB := zTB_in (List.mem_append_right _ (List.mem_of_getElem? (i := 478) (by decide +kernel))) (by decide +kernel)
theorem tb_479 : (Jvm.Cond.instanceMethod ({ cls := "TurnBack", name := "on", desc := "(II)I" } : Jvm.MethodName)) ∈ zTB := zTB_in (List.mem_append_right _ (List.mem_of_getElem? (i := 479) (by decide +kernel))) (by decide +kernel)
theorem tb_480 : (Jvm.Cond.selects "TurnBack" ({ cls := "TurnBack", name := "on", desc := "(II)I" } : Jvm.MethodName) ({ cls := "TurnBack", name := "on", desc := "(II)I" } : Jvm.MethodName)) ∈ zTB := zTB_in (List.mem_append_right _ (List.mem_of_getElem? (i := 480) (by decide +kernel))) (by decide +kernel)
theorem tb_481 : (Jvm.Cond.code ({ cls := "TurnBack", name := "on", desc := "(II)I" } : Jvm.MethodName) prog_1_method_12_code (5 : Nat) (Option.some Jvm.ClassFile.FieldType.int)) ∈ zTB := zTB_in (List.mem_append_right _ (List.mem_of_getElem? (i := 481) (by decide +kernel))) (by decide +kernel)
theorem tb_482 : (Jvm.Cond.methodLink "TurnBackLaw" (63 : Nat) ({ cls := "TurnBack", name := "pays", desc := "(II)I" } : Jvm.MethodName)) ∈ zTB := zTB_in (List.mem_append_right _ (List.mem_of_getElem? (i := 482) (by decide +kernel))) (by decide +kernel)
theorem tb_483 : (Jvm.Cond.instanceMethod ({ cls := "TurnBack", name := "pays", desc := "(II)I" } : Jvm.MethodName)) ∈ zTB := zTB_in (List.mem_append_right _ (List.mem_of_getElem? (i := 483) (by decide +kernel))) (by decide +kernel)
theorem tb_484 : (Jvm.Cond.selects "TurnBack" ({ cls := "TurnBack", name := "pays", desc := "(II)I" } : Jvm.MethodName) ({ cls := "TurnBack", name := "pays", desc := "(II)I" } : Jvm.MethodName)) ∈ zTB := zTB_in (List.mem_append_right _ (List.mem_of_getElem? (i := 484) (by decide +kernel))) (by decide +kernel)
theorem tb_485 : (Jvm.Cond.code ({ cls := "TurnBack", name := "pays", desc := "(II)I" } : Jvm.MethodName) prog_1_method_14_code (3 : Nat) (Option.some Jvm.ClassFile.FieldType.int)) ∈ zTB := zTB_in (List.mem_append_right _ (List.mem_of_getElem? (i := 485) (by decide +kernel))) (by decide +kernel)
theorem tb_486 : (Jvm.Cond.methodLink "TurnBack" (148 : Nat) ({ cls := "TurnBack", name := "cheapestPay", desc := "(I)I" } : Jvm.MethodName)) ∈ zTB := zTB_in (List.mem_append_right _ (List.mem_of_getElem? (i := 486) (by decide +kernel))) (by decide +kernel)
theorem tb_488 : (Jvm.Cond.instanceMethod ({ cls := "TurnBack", name := "cheapestPay", desc := "(I)I" } : Jvm.MethodName)) ∈ zTB := zTB_in (List.mem_append_right _ (List.mem_of_getElem? (i := 488) (by decide +kernel))) (by decide +kernel)
theorem tb_489 : (Jvm.Cond.code ({ cls := "TurnBack", name := "cheapestPay", desc := "(I)I" } : Jvm.MethodName) prog_1_method_15_code (6 : Nat) (Option.some Jvm.ClassFile.FieldType.int)) ∈ zTB := zTB_in (List.mem_append_right _ (List.mem_of_getElem? (i := 489) (by decide +kernel))) (by decide +kernel)
theorem tb_490 : (Jvm.Cond.methodLink "TurnBack" (151 : Nat) ({ cls := "TurnBack", name := "inCityBy", desc := "(II)I" } : Jvm.MethodName)) ∈ zTB := zTB_in (List.mem_append_right _ (List.mem_of_getElem? (i := 490) (by decide +kernel))) (by decide +kernel)
theorem tb_492 : (Jvm.Cond.instanceMethod ({ cls := "TurnBack", name := "inCityBy", desc := "(II)I" } : Jvm.MethodName)) ∈ zTB := zTB_in (List.mem_append_right _ (List.mem_of_getElem? (i := 492) (by decide +kernel))) (by decide +kernel)
theorem tb_493 : (Jvm.Cond.code ({ cls := "TurnBack", name := "inCityBy", desc := "(II)I" } : Jvm.MethodName) prog_1_method_16_code (3 : Nat) (Option.some Jvm.ClassFile.FieldType.int)) ∈ zTB := zTB_in (List.mem_append_right _ (List.mem_of_getElem? (i := 493) (by decide +kernel))) (by decide +kernel)
theorem tb_494 : (Jvm.Cond.methodLink "TurnBack" (164 : Nat) ({ cls := "java/lang/Integer", name := "bitCount", desc := "(I)I" } : Jvm.MethodName)) ∈ zTB := zTB_in (List.mem_append_right _ (List.mem_of_getElem? (i := 494) (by decide +kernel))) (by decide +kernel)
theorem tb_495 : (Jvm.Cond.static ({ cls := "java/lang/Integer", name := "bitCount", desc := "(I)I" } : Jvm.MethodName)) ∈ zTB := zTB_in (List.mem_append_right _ (List.mem_of_getElem? (i := 495) (by decide +kernel))) (by decide +kernel)
theorem tb_496 : (Jvm.Cond.code ({ cls := "java/lang/Integer", name := "bitCount", desc := "(I)I" } : Jvm.MethodName) prog_11_method_49_code (1 : Nat) (Option.some Jvm.ClassFile.FieldType.int)) ∈ zTB := zTB_in (List.mem_append_right _ (List.mem_of_getElem? (i := 496) (by decide +kernel))) (by decide +kernel)
theorem tb_497 : (Jvm.Cond.constant "java/lang/Integer" (265 : Nat) (1431655765 : Int32)) ∈ zTB := zTB_in (List.mem_append_right _ (List.mem_of_getElem? (i := 497) (by decide +kernel))) (by decide +kernel)
theorem tb_498 : (Jvm.Cond.constant "java/lang/Integer" (266 : Nat) (858993459 : Int32)) ∈ zTB := zTB_in (List.mem_append_right _ (List.mem_of_getElem? (i := 498) (by decide +kernel))) (by decide +kernel)
theorem tb_499 : (Jvm.Cond.constant "java/lang/Integer" (267 : Nat) (252645135 : Int32)) ∈ zTB := zTB_in (List.mem_append_right _ (List.mem_of_getElem? (i := 499) (by decide +kernel))) (by decide +kernel)
theorem tb_500 : (Jvm.Cond.methodLink "TurnBack" (155 : Nat) ({ cls := "TurnBack", name := "richestPay", desc := "(I)I" } : Jvm.MethodName)) ∈ zTB := zTB_in (List.mem_append_right _ (List.mem_of_getElem? (i := 500) (by decide +kernel))) (by decide +kernel)
theorem tb_502 : (Jvm.Cond.instanceMethod ({ cls := "TurnBack", name := "richestPay", desc := "(I)I" } : Jvm.MethodName)) ∈ zTB := zTB_in (List.mem_append_right _ (List.mem_of_getElem? (i := 502) (by decide +kernel))) (by decide +kernel)
theorem tb_503 : (Jvm.Cond.code ({ cls := "TurnBack", name := "richestPay", desc := "(I)I" } : Jvm.MethodName) prog_1_method_17_code (3 : Nat) (Option.some Jvm.ClassFile.FieldType.int)) ∈ zTB := zTB_in (List.mem_append_right _ (List.mem_of_getElem? (i := 503) (by decide +kernel))) (by decide +kernel)
theorem tb_504 : (Jvm.Cond.methodLink "TurnBack" (158 : Nat) ({ cls := "TurnBack", name := "smallestBag", desc := "(I)I" } : Jvm.MethodName)) ∈ zTB := zTB_in (List.mem_append_right _ (List.mem_of_getElem? (i := 504) (by decide +kernel))) (by decide +kernel)
theorem tb_506 : (Jvm.Cond.instanceMethod ({ cls := "TurnBack", name := "smallestBag", desc := "(I)I" } : Jvm.MethodName)) ∈ zTB := zTB_in (List.mem_append_right _ (List.mem_of_getElem? (i := 506) (by decide +kernel))) (by decide +kernel)
theorem tb_507 : (Jvm.Cond.code ({ cls := "TurnBack", name := "smallestBag", desc := "(I)I" } : Jvm.MethodName) prog_1_method_18_code (5 : Nat) (Option.some Jvm.ClassFile.FieldType.int)) ∈ zTB := zTB_in (List.mem_append_right _ (List.mem_of_getElem? (i := 507) (by decide +kernel))) (by decide +kernel)
theorem tb_508 : (Jvm.Cond.methodLink "TurnBack" (172 : Nat) ({ cls := "TurnBack", name := "keepsAllAway", desc := "(II)Z" } : Jvm.MethodName)) ∈ zTB := zTB_in (List.mem_append_right _ (List.mem_of_getElem? (i := 508) (by decide +kernel))) (by decide +kernel)
theorem tb_510 : (Jvm.Cond.instanceMethod ({ cls := "TurnBack", name := "keepsAllAway", desc := "(II)Z" } : Jvm.MethodName)) ∈ zTB := zTB_in (List.mem_append_right _ (List.mem_of_getElem? (i := 510) (by decide +kernel))) (by decide +kernel)
theorem tb_511 : (Jvm.Cond.code ({ cls := "TurnBack", name := "keepsAllAway", desc := "(II)Z" } : Jvm.MethodName) prog_1_method_19_code (4 : Nat) (Option.some Jvm.ClassFile.FieldType.boolean)) ∈ zTB := zTB_in (List.mem_append_right _ (List.mem_of_getElem? (i := 511) (by decide +kernel))) (by decide +kernel)
theorem tb_512 : (Jvm.Cond.methodLink "TurnBackLaw" (67 : Nat) ({ cls := "TurnBack", name := "see", desc := "(III)I" } : Jvm.MethodName)) ∈ zTB := zTB_in (List.mem_append_right _ (List.mem_of_getElem? (i := 512) (by decide +kernel))) (by decide +kernel)
theorem tb_513 : (Jvm.Cond.instanceMethod ({ cls := "TurnBack", name := "see", desc := "(III)I" } : Jvm.MethodName)) ∈ zTB := zTB_in (List.mem_append_right _ (List.mem_of_getElem? (i := 513) (by decide +kernel))) (by decide +kernel)
theorem tb_514 : (Jvm.Cond.selects "TurnBack" ({ cls := "TurnBack", name := "see", desc := "(III)I" } : Jvm.MethodName) ({ cls := "TurnBack", name := "see", desc := "(III)I" } : Jvm.MethodName)) ∈ zTB := zTB_in (List.mem_append_right _ (List.mem_of_getElem? (i := 514) (by decide +kernel))) (by decide +kernel)
theorem tb_515 : (Jvm.Cond.code ({ cls := "TurnBack", name := "see", desc := "(III)I" } : Jvm.MethodName) prog_1_method_20_code (4 : Nat) (Option.some Jvm.ClassFile.FieldType.int)) ∈ zTB := zTB_in (List.mem_append_right _ (List.mem_of_getElem? (i := 515) (by decide +kernel))) (by decide +kernel)
theorem tb_516 : (Jvm.Cond.methodLink "TurnBack" (179 : Nat) ({ cls := "TurnBack$Rows", name := "empty", desc := "()I" } : Jvm.MethodName)) ∈ zTB := zTB_in (List.mem_append_right _ (List.mem_of_getElem? (i := 516) (by decide +kernel))) (by decide +kernel)
theorem tb_517 : (Jvm.Cond.instanceMethod ({ cls := "TurnBack$Rows", name := "empty", desc := "()I" } : Jvm.MethodName)) ∈ zTB := zTB_in (List.mem_append_right _ (List.mem_of_getElem? (i := 517) (by decide +kernel))) (by decide +kernel)
theorem tb_518 : (Jvm.Cond.selects "TurnBack$Rows" ({ cls := "TurnBack$Rows", name := "empty", desc := "()I" } : Jvm.MethodName) ({ cls := "TurnBack$Rows", name := "empty", desc := "()I" } : Jvm.MethodName)) ∈ zTB := zTB_in (List.mem_append_right _ (List.mem_of_getElem? (i := 518) (by decide +kernel))) (by decide +kernel)
theorem tb_519 : (Jvm.Cond.code ({ cls := "TurnBack$Rows", name := "empty", desc := "()I" } : Jvm.MethodName) prog_5_method_2_code (1 : Nat) (Option.some Jvm.ClassFile.FieldType.int)) ∈ zTB := zTB_in (List.mem_append_right _ (List.mem_of_getElem? (i := 519) (by decide +kernel))) (by decide +kernel)
theorem tb_520 : (Jvm.Cond.methodLink "TurnBack" (184 : Nat) ({ cls := "TurnBack$Rows", name := "add", desc := "(III)I" } : Jvm.MethodName)) ∈ zTB := zTB_in (List.mem_append_right _ (List.mem_of_getElem? (i := 520) (by decide +kernel))) (by decide +kernel)
theorem tb_521 : (Jvm.Cond.instanceMethod ({ cls := "TurnBack$Rows", name := "add", desc := "(III)I" } : Jvm.MethodName)) ∈ zTB := zTB_in (List.mem_append_right _ (List.mem_of_getElem? (i := 521) (by decide +kernel))) (by decide +kernel)
theorem tb_522 : (Jvm.Cond.selects "TurnBack$Rows" ({ cls := "TurnBack$Rows", name := "add", desc := "(III)I" } : Jvm.MethodName) ({ cls := "TurnBack$Rows", name := "add", desc := "(III)I" } : Jvm.MethodName)) ∈ zTB := zTB_in (List.mem_append_right _ (List.mem_of_getElem? (i := 522) (by decide +kernel))) (by decide +kernel)
theorem tb_523 : (Jvm.Cond.code ({ cls := "TurnBack$Rows", name := "add", desc := "(III)I" } : Jvm.MethodName) prog_5_method_3_code (4 : Nat) (Option.some Jvm.ClassFile.FieldType.int)) ∈ zTB := zTB_in (List.mem_append_right _ (List.mem_of_getElem? (i := 523) (by decide +kernel))) (by decide +kernel)
theorem tb_524 : (Jvm.Cond.methodLink "TurnBackLaw" (71 : Nat) ({ cls := "TurnBack", name := "can", desc := "(III)I" } : Jvm.MethodName)) ∈ zTB := zTB_in (List.mem_append_right _ (List.mem_of_getElem? (i := 524) (by decide +kernel))) (by decide +kernel)
theorem tb_525 : (Jvm.Cond.instanceMethod ({ cls := "TurnBack", name := "can", desc := "(III)I" } : Jvm.MethodName)) ∈ zTB := zTB_in (List.mem_append_right _ (List.mem_of_getElem? (i := 525) (by decide +kernel))) (by decide +kernel)
theorem tb_526 : (Jvm.Cond.selects "TurnBack" ({ cls := "TurnBack", name := "can", desc := "(III)I" } : Jvm.MethodName) ({ cls := "TurnBack", name := "can", desc := "(III)I" } : Jvm.MethodName)) ∈ zTB := zTB_in (List.mem_append_right _ (List.mem_of_getElem? (i := 526) (by decide +kernel))) (by decide +kernel)
theorem tb_527 : (Jvm.Cond.code ({ cls := "TurnBack", name := "can", desc := "(III)I" } : Jvm.MethodName) prog_1_method_21_code (8 : Nat) (Option.some Jvm.ClassFile.FieldType.int)) ∈ zTB := zTB_in (List.mem_append_right _ (List.mem_of_getElem? (i := 527) (by decide +kernel))) (by decide +kernel)
theorem tb_528 : (Jvm.Cond.methodLink "TurnBack" (188 : Nat) ({ cls := "TurnBack", name := "seenComesTrue", desc := "()Z" } : Jvm.MethodName)) ∈ zTB := zTB_in (List.mem_append_right _ (List.mem_of_getElem? (i := 528) (by decide +kernel))) (by decide +kernel)
theorem tb_530 : (Jvm.Cond.instanceMethod ({ cls := "TurnBack", name := "seenComesTrue", desc := "()Z" } : Jvm.MethodName)) ∈ zTB := zTB_in (List.mem_append_right _ (List.mem_of_getElem? (i := 530) (by decide +kernel))) (by decide +kernel)
theorem tb_531 : (Jvm.Cond.code ({ cls := "TurnBack", name := "seenComesTrue", desc := "()Z" } : Jvm.MethodName) prog_1_method_23_code (3 : Nat) (Option.some Jvm.ClassFile.FieldType.boolean)) ∈ zTB := zTB_in (List.mem_append_right _ (List.mem_of_getElem? (i := 531) (by decide +kernel))) (by decide +kernel)
theorem tb_532 : (Jvm.Cond.methodLink "TurnBack" (192 : Nat) ({ cls := "TurnBack$Notes", name := "lastSeenDay", desc := "()I" } : Jvm.MethodName)) ∈ zTB := zTB_in (List.mem_append_right _ (List.mem_of_getElem? (i := 532) (by decide +kernel))) (by decide +kernel)
theorem tb_533 : (Jvm.Cond.instanceMethod ({ cls := "TurnBack$Notes", name := "lastSeenDay", desc := "()I" } : Jvm.MethodName)) ∈ zTB := zTB_in (List.mem_append_right _ (List.mem_of_getElem? (i := 533) (by decide +kernel))) (by decide +kernel)
theorem tb_534 : (Jvm.Cond.selects "TurnBack$Notes" ({ cls := "TurnBack$Notes", name := "lastSeenDay", desc := "()I" } : Jvm.MethodName) ({ cls := "TurnBack$Notes", name := "lastSeenDay", desc := "()I" } : Jvm.MethodName)) ∈ zTB := zTB_in (List.mem_append_right _ (List.mem_of_getElem? (i := 534) (by decide +kernel))) (by decide +kernel)
theorem tb_535 : (Jvm.Cond.code ({ cls := "TurnBack$Notes", name := "lastSeenDay", desc := "()I" } : Jvm.MethodName) prog_3_method_3_code (3 : Nat) (Option.some Jvm.ClassFile.FieldType.int)) ∈ zTB := zTB_in (List.mem_append_right _ (List.mem_of_getElem? (i := 535) (by decide +kernel))) (by decide +kernel)
theorem tb_536 : (Jvm.Cond.methodLink "TurnBack$Notes" (38 : Nat) ({ cls := "java/lang/Math", name := "max", desc := "(II)I" } : Jvm.MethodName)) ∈ zTB := zTB_in (List.mem_append_right _ (List.mem_of_getElem? (i := 536) (by decide +kernel))) (by decide +kernel)
theorem tb_537 : (Jvm.Cond.methodLink "TurnBack" (195 : Nat) ({ cls := "TurnBack$Notes", name := "seenElsewhere", desc := "(LTurnBack$Road;I)Z" } : Jvm.MethodName)) ∈ zTB := zTB_in (List.mem_append_right _ (List.mem_of_getElem? (i := 537) (by decide +kernel))) (by decide +kernel)
theorem tb_538 : (Jvm.Cond.instanceMethod ({ cls := "TurnBack$Notes", name := "seenElsewhere", desc := "(LTurnBack$Road;I)Z" } : Jvm.MethodName)) ∈ zTB := zTB_in (List.mem_append_right _ (List.mem_of_getElem? (i := 538) (by decide +kernel))) (by decide +kernel)
theorem tb_539 : (Jvm.Cond.selects "TurnBack$Notes" ({ cls := "TurnBack$Notes", name := "seenElsewhere", desc := "(LTurnBack$Road;I)Z" } : Jvm.MethodName) ({ cls := "TurnBack$Notes", name := "seenElsewhere", desc := "(LTurnBack$Road;I)Z" } : Jvm.MethodName)) ∈ zTB := zTB_in (List.mem_append_right _ (List.mem_of_getElem? (i := 539) (by decide +kernel))) (by decide +kernel)
theorem tb_540 : (Jvm.Cond.code ({ cls := "TurnBack$Notes", name := "seenElsewhere", desc := "(LTurnBack$Road;I)Z" } : Jvm.MethodName) prog_3_method_4_code (4 : Nat) (Option.some Jvm.ClassFile.FieldType.boolean)) ∈ zTB := zTB_in (List.mem_append_right _ (List.mem_of_getElem? (i := 540) (by decide +kernel))) (by decide +kernel)
theorem tb_541 : (Jvm.Cond.methodLink "TurnBack$Notes" (50 : Nat) ({ cls := "TurnBack$Road", name := "isAt", desc := "(II)Z" } : Jvm.MethodName)) ∈ zTB := zTB_in (List.mem_append_right _ (List.mem_of_getElem? (i := 541) (by decide +kernel))) (by decide +kernel)
theorem tb_542 : (Jvm.Cond.instanceMethod ({ cls := "TurnBack$Road", name := "isAt", desc := "(II)Z" } : Jvm.MethodName)) ∈ zTB := zTB_in (List.mem_append_right _ (List.mem_of_getElem? (i := 542) (by decide +kernel))) (by decide +kernel)
theorem tb_543 : (Jvm.Cond.selects "TurnBack$Road" ({ cls := "TurnBack$Road", name := "isAt", desc := "(II)Z" } : Jvm.MethodName) ({ cls := "TurnBack$Road", name := "isAt", desc := "(II)Z" } : Jvm.MethodName)) ∈ zTB := zTB_in (List.mem_append_right _ (List.mem_of_getElem? (i := 543) (by decide +kernel))) (by decide +kernel)
theorem tb_544 : (Jvm.Cond.code ({ cls := "TurnBack$Road", name := "isAt", desc := "(II)Z" } : Jvm.MethodName) prog_4_method_6_code (3 : Nat) (Option.some Jvm.ClassFile.FieldType.boolean)) ∈ zTB := zTB_in (List.mem_append_right _ (List.mem_of_getElem? (i := 544) (by decide +kernel))) (by decide +kernel)
theorem tb_546 : (Jvm.Cond.methodLink "TurnBackLaw" (75 : Nat) ({ cls := "TurnBack", name := "places", desc := "(I)I" } : Jvm.MethodName)) ∈ zTB := zTB_in (List.mem_append_right _ (List.mem_of_getElem? (i := 546) (by decide +kernel))) (by decide +kernel)
theorem tb_547 : (Jvm.Cond.instanceMethod ({ cls := "TurnBack", name := "places", desc := "(I)I" } : Jvm.MethodName)) ∈ zTB := zTB_in (List.mem_append_right _ (List.mem_of_getElem? (i := 547) (by decide +kernel))) (by decide +kernel)
theorem tb_548 : (Jvm.Cond.selects "TurnBack" ({ cls := "TurnBack", name := "places", desc := "(I)I" } : Jvm.MethodName) ({ cls := "TurnBack", name := "places", desc := "(I)I" } : Jvm.MethodName)) ∈ zTB := zTB_in (List.mem_append_right _ (List.mem_of_getElem? (i := 548) (by decide +kernel))) (by decide +kernel)
theorem tb_549 : (Jvm.Cond.code ({ cls := "TurnBack", name := "places", desc := "(I)I" } : Jvm.MethodName) prog_1_method_22_code (4 : Nat) (Option.some Jvm.ClassFile.FieldType.int)) ∈ zTB := zTB_in (List.mem_append_right _ (List.mem_of_getElem? (i := 549) (by decide +kernel))) (by decide +kernel)
theorem tb_550 : (Jvm.Cond.methodLink "TurnBackLaw" (79 : Nat) ({ cls := "TurnBack", name := "odds", desc := "(III)J" } : Jvm.MethodName)) ∈ zTB := zTB_in (List.mem_append_right _ (List.mem_of_getElem? (i := 550) (by decide +kernel))) (by decide +kernel)
theorem tb_551 : (Jvm.Cond.instanceMethod ({ cls := "TurnBack", name := "odds", desc := "(III)J" } : Jvm.MethodName)) ∈ zTB := zTB_in (List.mem_append_right _ (List.mem_of_getElem? (i := 551) (by decide +kernel))) (by decide +kernel)
theorem tb_552 : (Jvm.Cond.selects "TurnBack" ({ cls := "TurnBack", name := "odds", desc := "(III)J" } : Jvm.MethodName) ({ cls := "TurnBack", name := "odds", desc := "(III)J" } : Jvm.MethodName)) ∈ zTB := zTB_in (List.mem_append_right _ (List.mem_of_getElem? (i := 552) (by decide +kernel))) (by decide +kernel)
theorem tb_553 : (Jvm.Cond.code ({ cls := "TurnBack", name := "odds", desc := "(III)J" } : Jvm.MethodName) prog_1_method_24_code (6 : Nat) (Option.some Jvm.ClassFile.FieldType.long)) ∈ zTB := zTB_in (List.mem_append_right _ (List.mem_of_getElem? (i := 553) (by decide +kernel))) (by decide +kernel)
theorem tb_554 : (Jvm.Cond.constantLong "TurnBack" (199 : Nat) (-9223372036854775808 : Int64)) ∈ zTB := zTB_in (List.mem_append_right _ (List.mem_of_getElem? (i := 554) (by decide +kernel))) (by decide +kernel)
theorem tb_555 : (Jvm.Cond.methodLink "TurnBack" (201 : Nat) ({ cls := "TurnBack", name := "partOf", desc := "(III)J" } : Jvm.MethodName)) ∈ zTB := zTB_in (List.mem_append_right _ (List.mem_of_getElem? (i := 555) (by decide +kernel))) (by decide +kernel)
theorem tb_556 : (Jvm.Cond.static ({ cls := "TurnBack", name := "partOf", desc := "(III)J" } : Jvm.MethodName)) ∈ zTB := zTB_in (List.mem_append_right _ (List.mem_of_getElem? (i := 556) (by decide +kernel))) (by decide +kernel)
theorem tb_557 : (Jvm.Cond.code ({ cls := "TurnBack", name := "partOf", desc := "(III)J" } : Jvm.MethodName) prog_1_method_26_code (5 : Nat) (Option.some Jvm.ClassFile.FieldType.long)) ∈ zTB := zTB_in (List.mem_append_right _ (List.mem_of_getElem? (i := 557) (by decide +kernel))) (by decide +kernel)
theorem tb_558 : (Jvm.Cond.methodLink "TurnBackLaw" (84 : Nat) ({ cls := "TurnBack", name := "mean", desc := "(II)J" } : Jvm.MethodName)) ∈ zTB := zTB_in (List.mem_append_right _ (List.mem_of_getElem? (i := 558) (by decide +kernel))) (by decide +kernel)
theorem tb_559 : (Jvm.Cond.instanceMethod ({ cls := "TurnBack", name := "mean", desc := "(II)J" } : Jvm.MethodName)) ∈ zTB := zTB_in (List.mem_append_right _ (List.mem_of_getElem? (i := 559) (by decide +kernel))) (by decide +kernel)
theorem tb_560 : (Jvm.Cond.selects "TurnBack" ({ cls := "TurnBack", name := "mean", desc := "(II)J" } : Jvm.MethodName) ({ cls := "TurnBack", name := "mean", desc := "(II)J" } : Jvm.MethodName)) ∈ zTB := zTB_in (List.mem_append_right _ (List.mem_of_getElem? (i := 560) (by decide +kernel))) (by decide +kernel)
theorem tb_561 : (Jvm.Cond.code ({ cls := "TurnBack", name := "mean", desc := "(II)J" } : Jvm.MethodName) prog_1_method_25_code (5 : Nat) (Option.some Jvm.ClassFile.FieldType.long)) ∈ zTB := zTB_in (List.mem_append_right _ (List.mem_of_getElem? (i := 561) (by decide +kernel))) (by decide +kernel)
theorem tb_562 : (Jvm.Cond.methodLink "TurnBackLaw" (89 : Nat) ({ cls := "TurnBack", name := "plan", desc := "(II)I" } : Jvm.MethodName)) ∈ zTB := zTB_in (List.mem_append_right _ (List.mem_of_getElem? (i := 562) (by decide +kernel))) (by decide +kernel)
theorem tb_563 : (Jvm.Cond.instanceMethod ({ cls := "TurnBack", name := "plan", desc := "(II)I" } : Jvm.MethodName)) ∈ zTB := zTB_in (List.mem_append_right _ (List.mem_of_getElem? (i := 563) (by decide +kernel))) (by decide +kernel)
theorem tb_564 : (Jvm.Cond.selects "TurnBack" ({ cls := "TurnBack", name := "plan", desc := "(II)I" } : Jvm.MethodName) ({ cls := "TurnBack", name := "plan", desc := "(II)I" } : Jvm.MethodName)) ∈ zTB := zTB_in (List.mem_append_right _ (List.mem_of_getElem? (i := 564) (by decide +kernel))) (by decide +kernel)
theorem tb_565 : (Jvm.Cond.code ({ cls := "TurnBack", name := "plan", desc := "(II)I" } : Jvm.MethodName) prog_1_method_27_code (3 : Nat) (Option.some Jvm.ClassFile.FieldType.int)) ∈ zTB := zTB_in (List.mem_append_right _ (List.mem_of_getElem? (i := 565) (by decide +kernel))) (by decide +kernel)
theorem tb_566 : (Jvm.Cond.methodLink "TurnBackLaw" (93 : Nat) ({ cls := "TurnBack", name := "ends", desc := "(I)I" } : Jvm.MethodName)) ∈ zTB := zTB_in (List.mem_append_right _ (List.mem_of_getElem? (i := 566) (by decide +kernel))) (by decide +kernel)
theorem tb_567 : (Jvm.Cond.instanceMethod ({ cls := "TurnBack", name := "ends", desc := "(I)I" } : Jvm.MethodName)) ∈ zTB := zTB_in (List.mem_append_right _ (List.mem_of_getElem? (i := 567) (by decide +kernel))) (by decide +kernel)
theorem tb_568 : (Jvm.Cond.selects "TurnBack" ({ cls := "TurnBack", name := "ends", desc := "(I)I" } : Jvm.MethodName) ({ cls := "TurnBack", name := "ends", desc := "(I)I" } : Jvm.MethodName)) ∈ zTB := zTB_in (List.mem_append_right _ (List.mem_of_getElem? (i := 568) (by decide +kernel))) (by decide +kernel)
theorem tb_569 : (Jvm.Cond.code ({ cls := "TurnBack", name := "ends", desc := "(I)I" } : Jvm.MethodName) prog_1_method_28_code (3 : Nat) (Option.some Jvm.ClassFile.FieldType.int)) ∈ zTB := zTB_in (List.mem_append_right _ (List.mem_of_getElem? (i := 569) (by decide +kernel))) (by decide +kernel)
theorem tb_570 : (Jvm.Cond.methodLink "TurnBack" (215 : Nat) ({ cls := "TurnBack", name := "followPlan", desc := "(II)V" } : Jvm.MethodName)) ∈ zTB := zTB_in (List.mem_append_right _ (List.mem_of_getElem? (i := 570) (by decide +kernel))) (by decide +kernel)
theorem tb_572 : (Jvm.Cond.instanceMethod ({ cls := "TurnBack", name := "followPlan", desc := "(II)V" } : Jvm.MethodName)) ∈ zTB := zTB_in (List.mem_append_right _ (List.mem_of_getElem? (i := 572) (by decide +kernel))) (by decide +kernel)
theorem tb_573 : (Jvm.Cond.code ({ cls := "TurnBack", name := "followPlan", desc := "(II)V" } : Jvm.MethodName) prog_1_method_29_code (3 : Nat) (Option.none : Option Jvm.ClassFile.FieldType)) ∈ zTB := zTB_in (List.mem_append_right _ (List.mem_of_getElem? (i := 573) (by decide +kernel))) (by decide +kernel)
theorem tb_574 : (Jvm.Cond.methodLink "TurnBack" (218 : Nat) ({ cls := "TurnBack$Road", name := "esteem", desc := "(II)V" } : Jvm.MethodName)) ∈ zTB := zTB_in (List.mem_append_right _ (List.mem_of_getElem? (i := 574) (by decide +kernel))) (by decide +kernel)
theorem tb_575 : (Jvm.Cond.methodLink "TurnBackLaw" (97 : Nat) ({ cls := "TurnBack", name := "book", desc := "(II)I" } : Jvm.MethodName)) ∈ zTB := zTB_in (List.mem_append_right _ (List.mem_of_getElem? (i := 575) (by decide +kernel))) (by decide +kernel)
theorem tb_576 : (Jvm.Cond.instanceMethod ({ cls := "TurnBack", name := "book", desc := "(II)I" } : Jvm.MethodName)) ∈ zTB := zTB_in (List.mem_append_right _ (List.mem_of_getElem? (i := 576) (by decide +kernel))) (by decide +kernel)
theorem tb_577 : (Jvm.Cond.selects "TurnBack" ({ cls := "TurnBack", name := "book", desc := "(II)I" } : Jvm.MethodName) ({ cls := "TurnBack", name := "book", desc := "(II)I" } : Jvm.MethodName)) ∈ zTB := zTB_in (List.mem_append_right _ (List.mem_of_getElem? (i := 577) (by decide +kernel))) (by decide +kernel)
theorem tb_578 : (Jvm.Cond.code ({ cls := "TurnBack", name := "book", desc := "(II)I" } : Jvm.MethodName) prog_1_method_30_code (3 : Nat) (Option.some Jvm.ClassFile.FieldType.int)) ∈ zTB := zTB_in (List.mem_append_right _ (List.mem_of_getElem? (i := 578) (by decide +kernel))) (by decide +kernel)
theorem tb_579 : (Jvm.Cond.methodLink "TurnBackLaw" (101 : Nat) ({ cls := "TurnBack", name := "looked", desc := "()I" } : Jvm.MethodName)) ∈ zTB := zTB_in (List.mem_append_right _ (List.mem_of_getElem? (i := 579) (by decide +kernel))) (by decide +kernel)
theorem tb_580 : (Jvm.Cond.instanceMethod ({ cls := "TurnBack", name := "looked", desc := "()I" } : Jvm.MethodName)) ∈ zTB := zTB_in (List.mem_append_right _ (List.mem_of_getElem? (i := 580) (by decide +kernel))) (by decide +kernel)
theorem tb_581 : (Jvm.Cond.selects "TurnBack" ({ cls := "TurnBack", name := "looked", desc := "()I" } : Jvm.MethodName) ({ cls := "TurnBack", name := "looked", desc := "()I" } : Jvm.MethodName)) ∈ zTB := zTB_in (List.mem_append_right _ (List.mem_of_getElem? (i := 581) (by decide +kernel))) (by decide +kernel)
theorem tb_582 : (Jvm.Cond.code ({ cls := "TurnBack", name := "looked", desc := "()I" } : Jvm.MethodName) prog_1_method_31_code (2 : Nat) (Option.some Jvm.ClassFile.FieldType.int)) ∈ zTB := zTB_in (List.mem_append_right _ (List.mem_of_getElem? (i := 582) (by decide +kernel))) (by decide +kernel)
theorem tb_583 : (Jvm.Cond.methodLink "TurnBack" (224 : Nat) ({ cls := "TurnBack$Road", name := "isAt", desc := "(II)Z" } : Jvm.MethodName)) ∈ zTB := zTB_in (List.mem_append_right _ (List.mem_of_getElem? (i := 583) (by decide +kernel))) (by decide +kernel)
theorem tb_584 : (Jvm.Cond.methodLink "TurnBackLaw" (105 : Nat) ({ cls := "TurnBack", name := "judge", desc := "(II)I" } : Jvm.MethodName)) ∈ zTB := zTB_in (List.mem_append_right _ (List.mem_of_getElem? (i := 584) (by decide +kernel))) (by decide +kernel)
theorem tb_585 : (Jvm.Cond.instanceMethod ({ cls := "TurnBack", name := "judge", desc := "(II)I" } : Jvm.MethodName)) ∈ zTB := zTB_in (List.mem_append_right _ (List.mem_of_getElem? (i := 585) (by decide +kernel))) (by decide +kernel)
theorem tb_586 : (Jvm.Cond.selects "TurnBack" ({ cls := "TurnBack", name := "judge", desc := "(II)I" } : Jvm.MethodName) ({ cls := "TurnBack", name := "judge", desc := "(II)I" } : Jvm.MethodName)) ∈ zTB := zTB_in (List.mem_append_right _ (List.mem_of_getElem? (i := 586) (by decide +kernel))) (by decide +kernel)
theorem tb_587 : (Jvm.Cond.code ({ cls := "TurnBack", name := "judge", desc := "(II)I" } : Jvm.MethodName) prog_1_method_32_code (5 : Nat) (Option.some Jvm.ClassFile.FieldType.int)) ∈ zTB := zTB_in (List.mem_append_right _ (List.mem_of_getElem? (i := 587) (by decide +kernel))) (by decide +kernel)
theorem tb_588 : (Jvm.Cond.methodLink "TurnBack" (227 : Nat) ({ cls := "TurnBack$Tape", name := "isBlank", desc := "()Z" } : Jvm.MethodName)) ∈ zTB := zTB_in (List.mem_append_right _ (List.mem_of_getElem? (i := 588) (by decide +kernel))) (by decide +kernel)
theorem tb_589 : (Jvm.Cond.instanceMethod ({ cls := "TurnBack$Tape", name := "isBlank", desc := "()Z" } : Jvm.MethodName)) ∈ zTB := zTB_in (List.mem_append_right _ (List.mem_of_getElem? (i := 589) (by decide +kernel))) (by decide +kernel)
theorem tb_590 : (Jvm.Cond.selects "TurnBack$Tape" ({ cls := "TurnBack$Tape", name := "isBlank", desc := "()Z" } : Jvm.MethodName) ({ cls := "TurnBack$Tape", name := "isBlank", desc := "()Z" } : Jvm.MethodName)) ∈ zTB := zTB_in (List.mem_append_right _ (List.mem_of_getElem? (i := 590) (by decide +kernel))) (by decide +kernel)
theorem tb_591 : (Jvm.Cond.code ({ cls := "TurnBack$Tape", name := "isBlank", desc := "()Z" } : Jvm.MethodName) prog_8_method_2_code (1 : Nat) (Option.some Jvm.ClassFile.FieldType.boolean)) ∈ zTB := zTB_in (List.mem_append_right _ (List.mem_of_getElem? (i := 591) (by decide +kernel))) (by decide +kernel)
theorem tb_592 : (Jvm.Cond.methodLink "TurnBackLaw" (109 : Nat) ({ cls := "TurnBack", name := "image", desc := "()I" } : Jvm.MethodName)) ∈ zTB := zTB_in (List.mem_append_right _ (List.mem_of_getElem? (i := 592) (by decide +kernel))) (by decide +kernel)
theorem tb_593 : (Jvm.Cond.instanceMethod ({ cls := "TurnBack", name := "image", desc := "()I" } : Jvm.MethodName)) ∈ zTB := zTB_in (List.mem_append_right _ (List.mem_of_getElem? (i := 593) (by decide +kernel))) (by decide +kernel)
theorem tb_594 : (Jvm.Cond.selects "TurnBack" ({ cls := "TurnBack", name := "image", desc := "()I" } : Jvm.MethodName) ({ cls := "TurnBack", name := "image", desc := "()I" } : Jvm.MethodName)) ∈ zTB := zTB_in (List.mem_append_right _ (List.mem_of_getElem? (i := 594) (by decide +kernel))) (by decide +kernel)
theorem tb_595 : (Jvm.Cond.code ({ cls := "TurnBack", name := "image", desc := "()I" } : Jvm.MethodName) prog_1_method_33_code (1 : Nat) (Option.some Jvm.ClassFile.FieldType.int)) ∈ zTB := zTB_in (List.mem_append_right _ (List.mem_of_getElem? (i := 595) (by decide +kernel))) (by decide +kernel)
theorem tb_596 : (Jvm.Cond.methodLink "TurnBack" (240 : Nat) ({ cls := "TurnBack$Notes", name := "copy", desc := "(LTurnBack$Notes;)V" } : Jvm.MethodName)) ∈ zTB := zTB_in (List.mem_append_right _ (List.mem_of_getElem? (i := 596) (by decide +kernel))) (by decide +kernel)
theorem tb_597 : (Jvm.Cond.instanceMethod ({ cls := "TurnBack$Notes", name := "copy", desc := "(LTurnBack$Notes;)V" } : Jvm.MethodName)) ∈ zTB := zTB_in (List.mem_append_right _ (List.mem_of_getElem? (i := 597) (by decide +kernel))) (by decide +kernel)
theorem tb_598 : (Jvm.Cond.selects "TurnBack$Notes" ({ cls := "TurnBack$Notes", name := "copy", desc := "(LTurnBack$Notes;)V" } : Jvm.MethodName) ({ cls := "TurnBack$Notes", name := "copy", desc := "(LTurnBack$Notes;)V" } : Jvm.MethodName)) ∈ zTB := zTB_in (List.mem_append_right _ (List.mem_of_getElem? (i := 598) (by decide +kernel))) (by decide +kernel)
theorem tb_599 : (Jvm.Cond.code ({ cls := "TurnBack$Notes", name := "copy", desc := "(LTurnBack$Notes;)V" } : Jvm.MethodName) prog_3_method_2_code (2 : Nat) (Option.none : Option Jvm.ClassFile.FieldType)) ∈ zTB := zTB_in (List.mem_append_right _ (List.mem_of_getElem? (i := 599) (by decide +kernel))) (by decide +kernel)
theorem tb_600 : (Jvm.Cond.methodLink "TurnBack$Notes" (26 : Nat) ({ cls := "TurnBack$Rows", name := "copy", desc := "(LTurnBack$Rows;)V" } : Jvm.MethodName)) ∈ zTB := zTB_in (List.mem_append_right _ (List.mem_of_getElem? (i := 600) (by decide +kernel))) (by decide +kernel)
theorem tb_601 : (Jvm.Cond.instanceMethod ({ cls := "TurnBack$Rows", name := "copy", desc := "(LTurnBack$Rows;)V" } : Jvm.MethodName)) ∈ zTB := zTB_in (List.mem_append_right _ (List.mem_of_getElem? (i := 601) (by decide +kernel))) (by decide +kernel)
theorem tb_602 : (Jvm.Cond.selects "TurnBack$Rows" ({ cls := "TurnBack$Rows", name := "copy", desc := "(LTurnBack$Rows;)V" } : Jvm.MethodName) ({ cls := "TurnBack$Rows", name := "copy", desc := "(LTurnBack$Rows;)V" } : Jvm.MethodName)) ∈ zTB := zTB_in (List.mem_append_right _ (List.mem_of_getElem? (i := 602) (by decide +kernel))) (by decide +kernel)
theorem tb_603 : (Jvm.Cond.code ({ cls := "TurnBack$Rows", name := "copy", desc := "(LTurnBack$Rows;)V" } : Jvm.MethodName) prog_5_method_4_code (3 : Nat) (Option.none : Option Jvm.ClassFile.FieldType)) ∈ zTB := zTB_in (List.mem_append_right _ (List.mem_of_getElem? (i := 603) (by decide +kernel))) (by decide +kernel)
theorem tb_604 : (Jvm.Cond.methodLink "TurnBack$Rows" (31 : Nat) ({ cls := "java/lang/Math", name := "min", desc := "(II)I" } : Jvm.MethodName)) ∈ zTB := zTB_in (List.mem_append_right _ (List.mem_of_getElem? (i := 604) (by decide +kernel))) (by decide +kernel)
theorem tb_605 : (Jvm.Cond.methodLink "TurnBackLaw" (113 : Nat) ({ cls := "TurnBack", name := "undo", desc := "()I" } : Jvm.MethodName)) ∈ zTB := zTB_in (List.mem_append_right _ (List.mem_of_getElem? (i := 605) (by decide +kernel))) (by decide +kernel)
theorem tb_606 : (Jvm.Cond.instanceMethod ({ cls := "TurnBack", name := "undo", desc := "()I" } : Jvm.MethodName)) ∈ zTB := zTB_in (List.mem_append_right _ (List.mem_of_getElem? (i := 606) (by decide +kernel))) (by decide +kernel)
theorem tb_607 : (Jvm.Cond.selects "TurnBack" ({ cls := "TurnBack", name := "undo", desc := "()I" } : Jvm.MethodName) ({ cls := "TurnBack", name := "undo", desc := "()I" } : Jvm.MethodName)) ∈ zTB := zTB_in (List.mem_append_right _ (List.mem_of_getElem? (i := 607) (by decide +kernel))) (by decide +kernel)
theorem tb_608 : (Jvm.Cond.code ({ cls := "TurnBack", name := "undo", desc := "()I" } : Jvm.MethodName) prog_1_method_34_code (1 : Nat) (Option.some Jvm.ClassFile.FieldType.int)) ∈ zTB := zTB_in (List.mem_append_right _ (List.mem_of_getElem? (i := 608) (by decide +kernel))) (by decide +kernel)
theorem tb_609 : (Jvm.Cond.methodLink "TurnBackLaw" (117 : Nat) ({ cls := "TurnBack", name := "act", desc := "(III)I" } : Jvm.MethodName)) ∈ zTB := zTB_in (List.mem_append_right _ (List.mem_of_getElem? (i := 609) (by decide +kernel))) (by decide +kernel)
theorem tb_610 : (Jvm.Cond.instanceMethod ({ cls := "TurnBack", name := "act", desc := "(III)I" } : Jvm.MethodName)) ∈ zTB := zTB_in (List.mem_append_right _ (List.mem_of_getElem? (i := 610) (by decide +kernel))) (by decide +kernel)
theorem tb_611 : (Jvm.Cond.selects "TurnBack" ({ cls := "TurnBack", name := "act", desc := "(III)I" } : Jvm.MethodName) ({ cls := "TurnBack", name := "act", desc := "(III)I" } : Jvm.MethodName)) ∈ zTB := zTB_in (List.mem_append_right _ (List.mem_of_getElem? (i := 611) (by decide +kernel))) (by decide +kernel)
theorem tb_612 : (Jvm.Cond.code ({ cls := "TurnBack", name := "act", desc := "(III)I" } : Jvm.MethodName) prog_1_method_35_code (4 : Nat) (Option.some Jvm.ClassFile.FieldType.int)) ∈ zTB := zTB_in (List.mem_append_right _ (List.mem_of_getElem? (i := 612) (by decide +kernel))) (by decide +kernel)
theorem tb_613 : (Jvm.Cond.methodLink "TurnBack" (247 : Nat) ({ cls := "TurnBack$Acts", name := "forget", desc := "()V" } : Jvm.MethodName)) ∈ zTB := zTB_in (List.mem_append_right _ (List.mem_of_getElem? (i := 613) (by decide +kernel))) (by decide +kernel)
theorem tb_614 : (Jvm.Cond.instanceMethod ({ cls := "TurnBack$Acts", name := "forget", desc := "()V" } : Jvm.MethodName)) ∈ zTB := zTB_in (List.mem_append_right _ (List.mem_of_getElem? (i := 614) (by decide +kernel))) (by decide +kernel)
theorem tb_615 : (Jvm.Cond.selects "TurnBack$Acts" ({ cls := "TurnBack$Acts", name := "forget", desc := "()V" } : Jvm.MethodName) ({ cls := "TurnBack$Acts", name := "forget", desc := "()V" } : Jvm.MethodName)) ∈ zTB := zTB_in (List.mem_append_right _ (List.mem_of_getElem? (i := 615) (by decide +kernel))) (by decide +kernel)
theorem tb_616 : (Jvm.Cond.code ({ cls := "TurnBack$Acts", name := "forget", desc := "()V" } : Jvm.MethodName) prog_2_method_3_code (1 : Nat) (Option.none : Option Jvm.ClassFile.FieldType)) ∈ zTB := zTB_in (List.mem_append_right _ (List.mem_of_getElem? (i := 616) (by decide +kernel))) (by decide +kernel)
theorem tb_617 : (Jvm.Cond.methodLink "TurnBack" (250 : Nat) ({ cls := "TurnBack$Acts", name := "begin", desc := "(IIIII)I" } : Jvm.MethodName)) ∈ zTB := zTB_in (List.mem_append_right _ (List.mem_of_getElem? (i := 617) (by decide +kernel))) (by decide +kernel)
theorem tb_618 : (Jvm.Cond.instanceMethod ({ cls := "TurnBack$Acts", name := "begin", desc := "(IIIII)I" } : Jvm.MethodName)) ∈ zTB := zTB_in (List.mem_append_right _ (List.mem_of_getElem? (i := 618) (by decide +kernel))) (by decide +kernel)
theorem tb_619 : (Jvm.Cond.selects "TurnBack$Acts" ({ cls := "TurnBack$Acts", name := "begin", desc := "(IIIII)I" } : Jvm.MethodName) ({ cls := "TurnBack$Acts", name := "begin", desc := "(IIIII)I" } : Jvm.MethodName)) ∈ zTB := zTB_in (List.mem_append_right _ (List.mem_of_getElem? (i := 619) (by decide +kernel))) (by decide +kernel)
theorem tb_620 : (Jvm.Cond.code ({ cls := "TurnBack$Acts", name := "begin", desc := "(IIIII)I" } : Jvm.MethodName) prog_2_method_5_code (6 : Nat) (Option.some Jvm.ClassFile.FieldType.int)) ∈ zTB := zTB_in (List.mem_append_right _ (List.mem_of_getElem? (i := 620) (by decide +kernel))) (by decide +kernel)
theorem tb_621 : (Jvm.Cond.methodLink "TurnBack$Acts" (41 : Nat) ({ cls := "TurnBack$Acts", name := "own", desc := "(III)I" } : Jvm.MethodName)) ∈ zTB := zTB_in (List.mem_append_right _ (List.mem_of_getElem? (i := 621) (by decide +kernel))) (by decide +kernel)
theorem tb_623 : (Jvm.Cond.instanceMethod ({ cls := "TurnBack$Acts", name := "own", desc := "(III)I" } : Jvm.MethodName)) ∈ zTB := zTB_in (List.mem_append_right _ (List.mem_of_getElem? (i := 623) (by decide +kernel))) (by decide +kernel)
theorem tb_624 : (Jvm.Cond.code ({ cls := "TurnBack$Acts", name := "own", desc := "(III)I" } : Jvm.MethodName) prog_2_method_6_code (4 : Nat) (Option.some Jvm.ClassFile.FieldType.int)) ∈ zTB := zTB_in (List.mem_append_right _ (List.mem_of_getElem? (i := 624) (by decide +kernel))) (by decide +kernel)
theorem tb_625 : (Jvm.Cond.methodLink "TurnBack$Acts" (45 : Nat) ({ cls := "TurnBack$Acts", name := "runFrom", desc := "(IIII)I" } : Jvm.MethodName)) ∈ zTB := zTB_in (List.mem_append_right _ (List.mem_of_getElem? (i := 625) (by decide +kernel))) (by decide +kernel)
theorem tb_627 : (Jvm.Cond.instanceMethod ({ cls := "TurnBack$Acts", name := "runFrom", desc := "(IIII)I" } : Jvm.MethodName)) ∈ zTB := zTB_in (List.mem_append_right _ (List.mem_of_getElem? (i := 627) (by decide +kernel))) (by decide +kernel)
theorem tb_628 : (Jvm.Cond.code ({ cls := "TurnBack$Acts", name := "runFrom", desc := "(IIII)I" } : Jvm.MethodName) prog_2_method_8_code (8 : Nat) (Option.some Jvm.ClassFile.FieldType.int)) ∈ zTB := zTB_in (List.mem_append_right _ (List.mem_of_getElem? (i := 628) (by decide +kernel))) (by decide +kernel)
theorem tb_630 : (Jvm.Cond.fieldLink "TurnBack$Acts" (49 : Nat) "TurnBack$Acts" "BODIES" "[I") ∈ zTB := zTB_in (List.mem_append_right _ (List.mem_of_getElem? (i := 630) (by decide +kernel))) (by decide +kernel)
theorem tb_632 : (Jvm.Cond.methodLink "TurnBack$Acts" (52 : Nat) ({ cls := "TurnBack$Acts", name := "run", desc := "(III)I" } : Jvm.MethodName)) ∈ zTB := zTB_in (List.mem_append_right _ (List.mem_of_getElem? (i := 632) (by decide +kernel))) (by decide +kernel)
theorem tb_634 : (Jvm.Cond.instanceMethod ({ cls := "TurnBack$Acts", name := "run", desc := "(III)I" } : Jvm.MethodName)) ∈ zTB := zTB_in (List.mem_append_right _ (List.mem_of_getElem? (i := 634) (by decide +kernel))) (by decide +kernel)
theorem tb_635 : (Jvm.Cond.code ({ cls := "TurnBack$Acts", name := "run", desc := "(III)I" } : Jvm.MethodName) prog_2_method_9_code (4 : Nat) (Option.some Jvm.ClassFile.FieldType.int)) ∈ zTB := zTB_in (List.mem_append_right _ (List.mem_of_getElem? (i := 635) (by decide +kernel))) (by decide +kernel)
theorem tb_636 : (Jvm.Cond.methodLink "TurnBack$Acts" (55 : Nat) ({ cls := "TurnBack$Acts", name := "above", desc := "(IIII)I" } : Jvm.MethodName)) ∈ zTB := zTB_in (List.mem_append_right _ (List.mem_of_getElem? (i := 636) (by decide +kernel))) (by decide +kernel)
theorem tb_638 : (Jvm.Cond.instanceMethod ({ cls := "TurnBack$Acts", name := "above", desc := "(IIII)I" } : Jvm.MethodName)) ∈ zTB := zTB_in (List.mem_append_right _ (List.mem_of_getElem? (i := 638) (by decide +kernel))) (by decide +kernel)
theorem tb_639 : (Jvm.Cond.code ({ cls := "TurnBack$Acts", name := "above", desc := "(IIII)I" } : Jvm.MethodName) prog_2_method_7_code (5 : Nat) (Option.some Jvm.ClassFile.FieldType.int)) ∈ zTB := zTB_in (List.mem_append_right _ (List.mem_of_getElem? (i := 639) (by decide +kernel))) (by decide +kernel)
theorem tb_640 : (Jvm.Cond.fieldLink "TurnBack$Acts" (19 : Nat) "TurnBack$Acts" "ABOVE" "[I") ∈ zTB := zTB_in (List.mem_append_right _ (List.mem_of_getElem? (i := 640) (by decide +kernel))) (by decide +kernel)
theorem tb_642 : (Jvm.Cond.methodLink "TurnBackLaw" (121 : Nat) ({ cls := "TurnBack", name := "trace", desc := "(I)I" } : Jvm.MethodName)) ∈ zTB := zTB_in (List.mem_append_right _ (List.mem_of_getElem? (i := 642) (by decide +kernel))) (by decide +kernel)
theorem tb_643 : (Jvm.Cond.instanceMethod ({ cls := "TurnBack", name := "trace", desc := "(I)I" } : Jvm.MethodName)) ∈ zTB := zTB_in (List.mem_append_right _ (List.mem_of_getElem? (i := 643) (by decide +kernel))) (by decide +kernel)
theorem tb_644 : (Jvm.Cond.selects "TurnBack" ({ cls := "TurnBack", name := "trace", desc := "(I)I" } : Jvm.MethodName) ({ cls := "TurnBack", name := "trace", desc := "(I)I" } : Jvm.MethodName)) ∈ zTB := zTB_in (List.mem_append_right _ (List.mem_of_getElem? (i := 644) (by decide +kernel))) (by decide +kernel)
theorem tb_645 : (Jvm.Cond.code ({ cls := "TurnBack", name := "trace", desc := "(I)I" } : Jvm.MethodName) prog_1_method_36_code (2 : Nat) (Option.some Jvm.ClassFile.FieldType.int)) ∈ zTB := zTB_in (List.mem_append_right _ (List.mem_of_getElem? (i := 645) (by decide +kernel))) (by decide +kernel)
theorem tb_646 : (Jvm.Cond.methodLink "TurnBack" (254 : Nat) ({ cls := "TurnBack$Acts", name := "kept", desc := "()I" } : Jvm.MethodName)) ∈ zTB := zTB_in (List.mem_append_right _ (List.mem_of_getElem? (i := 646) (by decide +kernel))) (by decide +kernel)
theorem tb_647 : (Jvm.Cond.instanceMethod ({ cls := "TurnBack$Acts", name := "kept", desc := "()I" } : Jvm.MethodName)) ∈ zTB := zTB_in (List.mem_append_right _ (List.mem_of_getElem? (i := 647) (by decide +kernel))) (by decide +kernel)
theorem tb_648 : (Jvm.Cond.selects "TurnBack$Acts" ({ cls := "TurnBack$Acts", name := "kept", desc := "()I" } : Jvm.MethodName) ({ cls := "TurnBack$Acts", name := "kept", desc := "()I" } : Jvm.MethodName)) ∈ zTB := zTB_in (List.mem_append_right _ (List.mem_of_getElem? (i := 648) (by decide +kernel))) (by decide +kernel)
theorem tb_649 : (Jvm.Cond.code ({ cls := "TurnBack$Acts", name := "kept", desc := "()I" } : Jvm.MethodName) prog_2_method_4_code (1 : Nat) (Option.some Jvm.ClassFile.FieldType.int)) ∈ zTB := zTB_in (List.mem_append_right _ (List.mem_of_getElem? (i := 649) (by decide +kernel))) (by decide +kernel)
theorem tb_650 : (Jvm.Cond.methodLink "TurnBack$Acts" (26 : Nat) ({ cls := "java/lang/Math", name := "min", desc := "(II)I" } : Jvm.MethodName)) ∈ zTB := zTB_in (List.mem_append_right _ (List.mem_of_getElem? (i := 650) (by decide +kernel))) (by decide +kernel)
theorem tb_651 : (Jvm.Cond.methodLink "TurnBackLaw" (125 : Nat) ({ cls := "TurnBack", name := "taken", desc := "(II)I" } : Jvm.MethodName)) ∈ zTB := zTB_in (List.mem_append_right _ (List.mem_of_getElem? (i := 651) (by decide +kernel))) (by decide +kernel)
theorem tb_652 : (Jvm.Cond.instanceMethod ({ cls := "TurnBack", name := "taken", desc := "(II)I" } : Jvm.MethodName)) ∈ zTB := zTB_in (List.mem_append_right _ (List.mem_of_getElem? (i := 652) (by decide +kernel))) (by decide +kernel)
theorem tb_653 : (Jvm.Cond.selects "TurnBack" ({ cls := "TurnBack", name := "taken", desc := "(II)I" } : Jvm.MethodName) ({ cls := "TurnBack", name := "taken", desc := "(II)I" } : Jvm.MethodName)) ∈ zTB := zTB_in (List.mem_append_right _ (List.mem_of_getElem? (i := 653) (by decide +kernel))) (by decide +kernel)
theorem tb_654 : (Jvm.Cond.code ({ cls := "TurnBack", name := "taken", desc := "(II)I" } : Jvm.MethodName) prog_1_method_37_code (4 : Nat) (Option.some Jvm.ClassFile.FieldType.int)) ∈ zTB := zTB_in (List.mem_append_right _ (List.mem_of_getElem? (i := 654) (by decide +kernel))) (by decide +kernel)
theorem tb_655 : (Jvm.Cond.methodLink "TurnBack" (260 : Nat) ({ cls := "TurnBack$Acts", name := "isUnder", desc := "(II)Z" } : Jvm.MethodName)) ∈ zTB := zTB_in (List.mem_append_right _ (List.mem_of_getElem? (i := 655) (by decide +kernel))) (by decide +kernel)
theorem tb_656 : (Jvm.Cond.static ({ cls := "TurnBack$Acts", name := "isUnder", desc := "(II)Z" } : Jvm.MethodName)) ∈ zTB := zTB_in (List.mem_append_right _ (List.mem_of_getElem? (i := 656) (by decide +kernel))) (by decide +kernel)
theorem tb_657 : (Jvm.Cond.code ({ cls := "TurnBack$Acts", name := "isUnder", desc := "(II)Z" } : Jvm.MethodName) prog_2_method_2_code (4 : Nat) (Option.some Jvm.ClassFile.FieldType.boolean)) ∈ zTB := zTB_in (List.mem_append_right _ (List.mem_of_getElem? (i := 657) (by decide +kernel))) (by decide +kernel)
theorem tb_658 : (Jvm.Cond.methodLink "TurnBackLaw" (129 : Nat) ({ cls := "TurnBack", name := "count", desc := "(I)I" } : Jvm.MethodName)) ∈ zTB := zTB_in (List.mem_append_right _ (List.mem_of_getElem? (i := 658) (by decide +kernel))) (by decide +kernel)
theorem tb_659 : (Jvm.Cond.instanceMethod ({ cls := "TurnBack", name := "count", desc := "(I)I" } : Jvm.MethodName)) ∈ zTB := zTB_in (List.mem_append_right _ (List.mem_of_getElem? (i := 659) (by decide +kernel))) (by decide +kernel)
theorem tb_660 : (Jvm.Cond.selects "TurnBack" ({ cls := "TurnBack", name := "count", desc := "(I)I" } : Jvm.MethodName) ({ cls := "TurnBack", name := "count", desc := "(I)I" } : Jvm.MethodName)) ∈ zTB := zTB_in (List.mem_append_right _ (List.mem_of_getElem? (i := 660) (by decide +kernel))) (by decide +kernel)
theorem tb_661 : (Jvm.Cond.code ({ cls := "TurnBack", name := "count", desc := "(I)I" } : Jvm.MethodName) prog_1_method_38_code (2 : Nat) (Option.some Jvm.ClassFile.FieldType.int)) ∈ zTB := zTB_in (List.mem_append_right _ (List.mem_of_getElem? (i := 661) (by decide +kernel))) (by decide +kernel)
theorem tb_662 : (Jvm.Cond.methodLink "TurnBackLaw" (133 : Nat) ({ cls := "TurnBack", name := "tape", desc := "(III)I" } : Jvm.MethodName)) ∈ zTB := zTB_in (List.mem_append_right _ (List.mem_of_getElem? (i := 662) (by decide +kernel))) (by decide +kernel)
theorem tb_663 : (Jvm.Cond.instanceMethod ({ cls := "TurnBack", name := "tape", desc := "(III)I" } : Jvm.MethodName)) ∈ zTB := zTB_in (List.mem_append_right _ (List.mem_of_getElem? (i := 663) (by decide +kernel))) (by decide +kernel)
theorem tb_664 : (Jvm.Cond.selects "TurnBack" ({ cls := "TurnBack", name := "tape", desc := "(III)I" } : Jvm.MethodName) ({ cls := "TurnBack", name := "tape", desc := "(III)I" } : Jvm.MethodName)) ∈ zTB := zTB_in (List.mem_append_right _ (List.mem_of_getElem? (i := 664) (by decide +kernel))) (by decide +kernel)
theorem tb_665 : (Jvm.Cond.code ({ cls := "TurnBack", name := "tape", desc := "(III)I" } : Jvm.MethodName) prog_1_method_39_code (4 : Nat) (Option.some Jvm.ClassFile.FieldType.int)) ∈ zTB := zTB_in (List.mem_append_right _ (List.mem_of_getElem? (i := 665) (by decide +kernel))) (by decide +kernel)
theorem tb_666 : (Jvm.Cond.methodLink "TurnBack" (267 : Nat) ({ cls := "TurnBack$Tape", name := "become", desc := "(II)V" } : Jvm.MethodName)) ∈ zTB := zTB_in (List.mem_append_right _ (List.mem_of_getElem? (i := 666) (by decide +kernel))) (by decide +kernel)
theorem tb_667 : (Jvm.Cond.instanceMethod ({ cls := "TurnBack$Tape", name := "become", desc := "(II)V" } : Jvm.MethodName)) ∈ zTB := zTB_in (List.mem_append_right _ (List.mem_of_getElem? (i := 667) (by decide +kernel))) (by decide +kernel)
theorem tb_668 : (Jvm.Cond.selects "TurnBack$Tape" ({ cls := "TurnBack$Tape", name := "become", desc := "(II)V" } : Jvm.MethodName) ({ cls := "TurnBack$Tape", name := "become", desc := "(II)V" } : Jvm.MethodName)) ∈ zTB := zTB_in (List.mem_append_right _ (List.mem_of_getElem? (i := 668) (by decide +kernel))) (by decide +kernel)
theorem tb_669 : (Jvm.Cond.code ({ cls := "TurnBack$Tape", name := "become", desc := "(II)V" } : Jvm.MethodName) prog_8_method_3_code (4 : Nat) (Option.none : Option Jvm.ClassFile.FieldType)) ∈ zTB := zTB_in (List.mem_append_right _ (List.mem_of_getElem? (i := 669) (by decide +kernel))) (by decide +kernel)
theorem tb_670 : (Jvm.Cond.methodLink "TurnBack$Tape" (19 : Nat) ({ cls := "java/lang/Math", name := "max", desc := "(II)I" } : Jvm.MethodName)) ∈ zTB := zTB_in (List.mem_append_right _ (List.mem_of_getElem? (i := 670) (by decide +kernel))) (by decide +kernel)
theorem tb_671 : (Jvm.Cond.methodLink "TurnBack$Tape" (25 : Nat) ({ cls := "java/lang/Math", name := "min", desc := "(II)I" } : Jvm.MethodName)) ∈ zTB := zTB_in (List.mem_append_right _ (List.mem_of_getElem? (i := 671) (by decide +kernel))) (by decide +kernel)
theorem tb_672 : (Jvm.Cond.methodLink "TurnBackLaw" (139 : Nat) ({ cls := "TurnBack", name := "item", desc := "(IIJ)I" } : Jvm.MethodName)) ∈ zTB := zTB_in (List.mem_append_right _ (List.mem_of_getElem? (i := 672) (by decide +kernel))) (by decide +kernel)
theorem tb_673 : (Jvm.Cond.instanceMethod ({ cls := "TurnBack", name := "item", desc := "(IIJ)I" } : Jvm.MethodName)) ∈ zTB := zTB_in (List.mem_append_right _ (List.mem_of_getElem? (i := 673) (by decide +kernel))) (by decide +kernel)
theorem tb_674 : (Jvm.Cond.selects "TurnBack" ({ cls := "TurnBack", name := "item", desc := "(IIJ)I" } : Jvm.MethodName) ({ cls := "TurnBack", name := "item", desc := "(IIJ)I" } : Jvm.MethodName)) ∈ zTB := zTB_in (List.mem_append_right _ (List.mem_of_getElem? (i := 674) (by decide +kernel))) (by decide +kernel)
theorem tb_675 : (Jvm.Cond.code ({ cls := "TurnBack", name := "item", desc := "(IIJ)I" } : Jvm.MethodName) prog_1_method_40_code (6 : Nat) (Option.some Jvm.ClassFile.FieldType.int)) ∈ zTB := zTB_in (List.mem_append_right _ (List.mem_of_getElem? (i := 675) (by decide +kernel))) (by decide +kernel)
theorem tb_676 : (Jvm.Cond.methodLink "TurnBack" (270 : Nat) ({ cls := "TurnBack$Tape", name := "cut", desc := "(J)J" } : Jvm.MethodName)) ∈ zTB := zTB_in (List.mem_append_right _ (List.mem_of_getElem? (i := 676) (by decide +kernel))) (by decide +kernel)
theorem tb_677 : (Jvm.Cond.instanceMethod ({ cls := "TurnBack$Tape", name := "cut", desc := "(J)J" } : Jvm.MethodName)) ∈ zTB := zTB_in (List.mem_append_right _ (List.mem_of_getElem? (i := 677) (by decide +kernel))) (by decide +kernel)
theorem tb_678 : (Jvm.Cond.selects "TurnBack$Tape" ({ cls := "TurnBack$Tape", name := "cut", desc := "(J)J" } : Jvm.MethodName) ({ cls := "TurnBack$Tape", name := "cut", desc := "(J)J" } : Jvm.MethodName)) ∈ zTB := zTB_in (List.mem_append_right _ (List.mem_of_getElem? (i := 678) (by decide +kernel))) (by decide +kernel)
theorem tb_679 : (Jvm.Cond.code ({ cls := "TurnBack$Tape", name := "cut", desc := "(J)J" } : Jvm.MethodName) prog_8_method_4_code (3 : Nat) (Option.some Jvm.ClassFile.FieldType.long)) ∈ zTB := zTB_in (List.mem_append_right _ (List.mem_of_getElem? (i := 679) (by decide +kernel))) (by decide +kernel)
theorem tb_680 : (Jvm.Cond.methodLink "TurnBackLaw" (144 : Nat) ({ cls := "TurnBack", name := "read", desc := "(II)J" } : Jvm.MethodName)) ∈ zTB := zTB_in (List.mem_append_right _ (List.mem_of_getElem? (i := 680) (by decide +kernel))) (by decide +kernel)
theorem tb_681 : (Jvm.Cond.instanceMethod ({ cls := "TurnBack", name := "read", desc := "(II)J" } : Jvm.MethodName)) ∈ zTB := zTB_in (List.mem_append_right _ (List.mem_of_getElem? (i := 681) (by decide +kernel))) (by decide +kernel)
theorem tb_682 : (Jvm.Cond.selects "TurnBack" ({ cls := "TurnBack", name := "read", desc := "(II)J" } : Jvm.MethodName) ({ cls := "TurnBack", name := "read", desc := "(II)J" } : Jvm.MethodName)) ∈ zTB := zTB_in (List.mem_append_right _ (List.mem_of_getElem? (i := 682) (by decide +kernel))) (by decide +kernel)
theorem tb_683 : (Jvm.Cond.code ({ cls := "TurnBack", name := "read", desc := "(II)J" } : Jvm.MethodName) prog_1_method_41_code (3 : Nat) (Option.some Jvm.ClassFile.FieldType.long)) ∈ zTB := zTB_in (List.mem_append_right _ (List.mem_of_getElem? (i := 683) (by decide +kernel))) (by decide +kernel)
theorem tb_684 : (Jvm.Cond.methodLink "TurnBackLaw" (148 : Nat) ({ cls := "TurnBack", name := "shift", desc := "(IIIII)I" } : Jvm.MethodName)) ∈ zTB := zTB_in (List.mem_append_right _ (List.mem_of_getElem? (i := 684) (by decide +kernel))) (by decide +kernel)
theorem tb_685 : (Jvm.Cond.instanceMethod ({ cls := "TurnBack", name := "shift", desc := "(IIIII)I" } : Jvm.MethodName)) ∈ zTB := zTB_in (List.mem_append_right _ (List.mem_of_getElem? (i := 685) (by decide +kernel))) (by decide +kernel)
theorem tb_686 : (Jvm.Cond.selects "TurnBack" ({ cls := "TurnBack", name := "shift", desc := "(IIIII)I" } : Jvm.MethodName) ({ cls := "TurnBack", name := "shift", desc := "(IIIII)I" } : Jvm.MethodName)) ∈ zTB := zTB_in (List.mem_append_right _ (List.mem_of_getElem? (i := 686) (by decide +kernel))) (by decide +kernel)
theorem tb_687 : (Jvm.Cond.code ({ cls := "TurnBack", name := "shift", desc := "(IIIII)I" } : Jvm.MethodName) prog_1_method_42_code (8 : Nat) (Option.some Jvm.ClassFile.FieldType.int)) ∈ zTB := zTB_in (List.mem_append_right _ (List.mem_of_getElem? (i := 687) (by decide +kernel))) (by decide +kernel)
theorem tb_688 : (Jvm.Cond.methodLink "TurnBack" (274 : Nat) ({ cls := "TurnBack$Tape", name := "reaches", desc := "(II)Z" } : Jvm.MethodName)) ∈ zTB := zTB_in (List.mem_append_right _ (List.mem_of_getElem? (i := 688) (by decide +kernel))) (by decide +kernel)
theorem tb_689 : (Jvm.Cond.instanceMethod ({ cls := "TurnBack$Tape", name := "reaches", desc := "(II)Z" } : Jvm.MethodName)) ∈ zTB := zTB_in (List.mem_append_right _ (List.mem_of_getElem? (i := 689) (by decide +kernel))) (by decide +kernel)
theorem tb_690 : (Jvm.Cond.selects "TurnBack$Tape" ({ cls := "TurnBack$Tape", name := "reaches", desc := "(II)Z" } : Jvm.MethodName) ({ cls := "TurnBack$Tape", name := "reaches", desc := "(II)Z" } : Jvm.MethodName)) ∈ zTB := zTB_in (List.mem_append_right _ (List.mem_of_getElem? (i := 690) (by decide +kernel))) (by decide +kernel)
theorem tb_691 : (Jvm.Cond.code ({ cls := "TurnBack$Tape", name := "reaches", desc := "(II)Z" } : Jvm.MethodName) prog_8_method_5_code (3 : Nat) (Option.some Jvm.ClassFile.FieldType.boolean)) ∈ zTB := zTB_in (List.mem_append_right _ (List.mem_of_getElem? (i := 691) (by decide +kernel))) (by decide +kernel)
theorem tb_692 : (Jvm.Cond.methodLink "TurnBack" (277 : Nat) ({ cls := "java/lang/System", name := "arraycopy", desc := "(Ljava/lang/Object;ILjava/lang/Object;II)V" } : Jvm.MethodName)) ∈ zTB := zTB_in (List.mem_append_right _ (List.mem_of_getElem? (i := 692) (by decide +kernel))) (by decide +kernel)
theorem tb_693 : (Jvm.Cond.static ({ cls := "java/lang/System", name := "arraycopy", desc := "(Ljava/lang/Object;ILjava/lang/Object;II)V" } : Jvm.MethodName)) ∈ zTB := zTB_in (List.mem_append_right _ (List.mem_of_getElem? (i := 693) (by decide +kernel))) (by decide +kernel)
theorem tb_694 : (Jvm.Cond.native ({ cls := "java/lang/System", name := "arraycopy", desc := "(Ljava/lang/Object;ILjava/lang/Object;II)V" } : Jvm.MethodName)) ∈ zTB := zTB_in (List.mem_append_right _ (List.mem_of_getElem? (i := 694) (by decide +kernel))) (by decide +kernel)
theorem tb_695 : (Jvm.Cond.classLink "TurnBackLaw" (10 : Nat) "TurnBackModel") ∈ zTB := zTB_in (List.mem_append_right _ (List.mem_of_getElem? (i := 695) (by decide +kernel))) (by decide +kernel)
theorem tb_696 : (Jvm.Cond.instantiable "TurnBackModel" (29 : Nat)) ∈ zTB := zTB_in (List.mem_append_right _ (List.mem_of_getElem? (i := 696) (by decide +kernel))) (by decide +kernel)
theorem tb_697 : (Jvm.Cond.methodLink "TurnBackLaw" (12 : Nat) ({ cls := "TurnBackModel", name := "<init>", desc := "()V" } : Jvm.MethodName)) ∈ zTB := zTB_in (List.mem_append_right _ (List.mem_of_getElem? (i := 697) (by decide +kernel))) (by decide +kernel)
theorem tb_698 : (Jvm.Cond.instanceMethod ({ cls := "TurnBackModel", name := "<init>", desc := "()V" } : Jvm.MethodName)) ∈ zTB := zTB_in (List.mem_append_right _ (List.mem_of_getElem? (i := 698) (by decide +kernel))) (by decide +kernel)
theorem tb_699 : (Jvm.Cond.code ({ cls := "TurnBackModel", name := "<init>", desc := "()V" } : Jvm.MethodName) prog_10_method_1_code (1 : Nat) (Option.none : Option Jvm.ClassFile.FieldType)) ∈ zTB := zTB_in (List.mem_append_right _ (List.mem_of_getElem? (i := 699) (by decide +kernel))) (by decide +kernel)
theorem tb_700 : (Jvm.Cond.methodLink "TurnBackModel" (3 : Nat) ({ cls := "java/lang/Object", name := "<init>", desc := "()V" } : Jvm.MethodName)) ∈ zTB := zTB_in (List.mem_append_right _ (List.mem_of_getElem? (i := 700) (by decide +kernel))) (by decide +kernel)
theorem tb_701 : (Jvm.Cond.methodLink "TurnBackModel" (9 : Nat) ({ cls := "TurnBackModel", name := "fresh", desc := "()[I" } : Jvm.MethodName)) ∈ zTB := zTB_in (List.mem_append_right _ (List.mem_of_getElem? (i := 701) (by decide +kernel))) (by decide +kernel)
theorem tb_702 : (Jvm.Cond.static ({ cls := "TurnBackModel", name := "fresh", desc := "()[I" } : Jvm.MethodName)) ∈ zTB := zTB_in (List.mem_append_right _ (List.mem_of_getElem? (i := 702) (by decide +kernel))) (by decide +kernel)
theorem tb_703 : (Jvm.Cond.code ({ cls := "TurnBackModel", name := "fresh", desc := "()[I" } : Jvm.MethodName) prog_10_method_3_code (1 : Nat) (Option.some (Jvm.ClassFile.FieldType.array Jvm.ClassFile.FieldType.int))) ∈ zTB := zTB_in (List.mem_append_right _ (List.mem_of_getElem? (i := 703) (by decide +kernel))) (by decide +kernel)
theorem tb_704 : (Jvm.Cond.fieldLink "TurnBackModel" (15 : Nat) "TurnBackModel" "now" "[I") ∈ zTB := zTB_in (List.mem_append_right _ (List.mem_of_getElem? (i := 704) (by decide +kernel))) (by decide +kernel)
theorem tb_705 : (Jvm.Cond.fieldLink "TurnBackModel" (19 : Nat) "TurnBackModel" "mind" "[I") ∈ zTB := zTB_in (List.mem_append_right _ (List.mem_of_getElem? (i := 705) (by decide +kernel))) (by decide +kernel)
theorem tb_706 : (Jvm.Cond.fieldLink "TurnBackModel" (22 : Nat) "TurnBackModel" "then" "[I") ∈ zTB := zTB_in (List.mem_append_right _ (List.mem_of_getElem? (i := 706) (by decide +kernel))) (by decide +kernel)
theorem tb_707 : (Jvm.Cond.fieldLink "TurnBackModel" (76 : Nat) "TurnBackModel" "kept" "Z") ∈ zTB := zTB_in (List.mem_append_right _ (List.mem_of_getElem? (i := 707) (by decide +kernel))) (by decide +kernel)
theorem tb_708 : (Jvm.Cond.fieldLink "TurnBackModel" (25 : Nat) "TurnBackModel" "forced" "I") ∈ zTB := zTB_in (List.mem_append_right _ (List.mem_of_getElem? (i := 708) (by decide +kernel))) (by decide +kernel)
theorem tb_709 : (Jvm.Cond.fieldLink "TurnBackModel" (29 : Nat) "TurnBackModel" "text" "[I") ∈ zTB := zTB_in (List.mem_append_right _ (List.mem_of_getElem? (i := 709) (by decide +kernel))) (by decide +kernel)
theorem tb_710 : (Jvm.Cond.fieldLink "TurnBackModel" (111 : Nat) "TurnBackModel" "texted" "I") ∈ zTB := zTB_in (List.mem_append_right _ (List.mem_of_getElem? (i := 710) (by decide +kernel))) (by decide +kernel)
theorem tb_711 : (Jvm.Cond.fieldLink "TurnBackModel" (32 : Nat) "TurnBackModel" "rules" "[I") ∈ zTB := zTB_in (List.mem_append_right _ (List.mem_of_getElem? (i := 711) (by decide +kernel))) (by decide +kernel)
theorem tb_712 : (Jvm.Cond.fieldLink "TurnBackModel" (35 : Nat) "TurnBackModel" "sizes" "[I") ∈ zTB := zTB_in (List.mem_append_right _ (List.mem_of_getElem? (i := 712) (by decide +kernel))) (by decide +kernel)
theorem tb_713 : (Jvm.Cond.fieldLink "TurnBackModel" (165 : Nat) "TurnBackModel" "ruled" "I") ∈ zTB := zTB_in (List.mem_append_right _ (List.mem_of_getElem? (i := 713) (by decide +kernel))) (by decide +kernel)
theorem tb_714 : (Jvm.Cond.fieldLink "TurnBackModel" (38 : Nat) "TurnBackModel" "read" "[I") ∈ zTB := zTB_in (List.mem_append_right _ (List.mem_of_getElem? (i := 714) (by decide +kernel))) (by decide +kernel)
theorem tb_715 : (Jvm.Cond.fieldLink "TurnBackModel" (120 : Nat) "TurnBackModel" "size" "I") ∈ zTB := zTB_in (List.mem_append_right _ (List.mem_of_getElem? (i := 715) (by decide +kernel))) (by decide +kernel)
theorem tb_716 : (Jvm.Cond.fieldLink "TurnBackModel" (117 : Nat) "TurnBackModel" "at" "I") ∈ zTB := zTB_in (List.mem_append_right _ (List.mem_of_getElem? (i := 716) (by decide +kernel))) (by decide +kernel)
theorem tb_717 : (Jvm.Cond.fieldLink "TurnBackModel" (114 : Nat) "TurnBackModel" "well" "Z") ∈ zTB := zTB_in (List.mem_append_right _ (List.mem_of_getElem? (i := 717) (by decide +kernel))) (by decide +kernel)
theorem tb_718 : (Jvm.Cond.fieldLink "TurnBackModel" (138 : Nat) "TurnBackModel" "within" "I") ∈ zTB := zTB_in (List.mem_append_right _ (List.mem_of_getElem? (i := 718) (by decide +kernel))) (by decide +kernel)
theorem tb_719 : (Jvm.Cond.fieldLink "TurnBackModel" (156 : Nat) "TurnBackModel" "sum" "I") ∈ zTB := zTB_in (List.mem_append_right _ (List.mem_of_getElem? (i := 719) (by decide +kernel))) (by decide +kernel)
theorem tb_720 : (Jvm.Cond.fieldLink "TurnBackModel" (153 : Nat) "TurnBackModel" "pay" "I") ∈ zTB := zTB_in (List.mem_append_right _ (List.mem_of_getElem? (i := 720) (by decide +kernel))) (by decide +kernel)
theorem tb_721 : (Jvm.Cond.fieldLink "TurnBackModel" (41 : Nat) "TurnBackModel" "names" "[I") ∈ zTB := zTB_in (List.mem_append_right _ (List.mem_of_getElem? (i := 721) (by decide +kernel))) (by decide +kernel)
theorem tb_722 : (Jvm.Cond.fieldLink "TurnBackModel" (44 : Nat) "TurnBackModel" "letters" "[C") ∈ zTB := zTB_in (List.mem_append_right _ (List.mem_of_getElem? (i := 722) (by decide +kernel))) (by decide +kernel)
theorem tb_723 : (Jvm.Cond.fieldLink "TurnBackModel" (48 : Nat) "TurnBackModel" "begins" "[C") ∈ zTB := zTB_in (List.mem_append_right _ (List.mem_of_getElem? (i := 723) (by decide +kernel))) (by decide +kernel)
theorem tb_724 : (Jvm.Cond.fieldLink "TurnBackModel" (51 : Nat) "TurnBackModel" "words" "[C") ∈ zTB := zTB_in (List.mem_append_right _ (List.mem_of_getElem? (i := 724) (by decide +kernel))) (by decide +kernel)
theorem tb_725 : (Jvm.Cond.fieldLink "TurnBackModel" (54 : Nat) "TurnBackModel" "above" "[I") ∈ zTB := zTB_in (List.mem_append_right _ (List.mem_of_getElem? (i := 725) (by decide +kernel))) (by decide +kernel)
theorem tb_726 : (Jvm.Cond.fieldLink "TurnBackModel" (57 : Nat) "TurnBackModel" "bodies" "[I") ∈ zTB := zTB_in (List.mem_append_right _ (List.mem_of_getElem? (i := 726) (by decide +kernel))) (by decide +kernel)
theorem tb_727 : (Jvm.Cond.fieldLink "TurnBackModel" (60 : Nat) "TurnBackModel" "trace" "[I") ∈ zTB := zTB_in (List.mem_append_right _ (List.mem_of_getElem? (i := 727) (by decide +kernel))) (by decide +kernel)
theorem tb_728 : (Jvm.Cond.fieldLink "TurnBackModel" (232 : Nat) "TurnBackModel" "ran" "I") ∈ zTB := zTB_in (List.mem_append_right _ (List.mem_of_getElem? (i := 728) (by decide +kernel))) (by decide +kernel)
theorem tb_729 : (Jvm.Cond.fieldLink "TurnBackModel" (63 : Nat) "TurnBackModel" "sorts" "[I") ∈ zTB := zTB_in (List.mem_append_right _ (List.mem_of_getElem? (i := 729) (by decide +kernel))) (by decide +kernel)
theorem tb_730 : (Jvm.Cond.fieldLink "TurnBackModel" (66 : Nat) "TurnBackModel" "lengths" "[I") ∈ zTB := zTB_in (List.mem_append_right _ (List.mem_of_getElem? (i := 730) (by decide +kernel))) (by decide +kernel)
theorem tb_731 : (Jvm.Cond.fieldLink "TurnBackModel" (69 : Nat) "TurnBackModel" "items" "[J") ∈ zTB := zTB_in (List.mem_append_right _ (List.mem_of_getElem? (i := 731) (by decide +kernel))) (by decide +kernel)
theorem tb_732 : (Jvm.Cond.fieldLink "TurnBackModel" (73 : Nat) "TurnBackModel" "moved" "[J") ∈ zTB := zTB_in (List.mem_append_right _ (List.mem_of_getElem? (i := 732) (by decide +kernel))) (by decide +kernel)
theorem tb_792 : (Jvm.Cond.arrayClass Jvm.ClassFile.FieldType.char) ∈ zTB := zTB_in (List.mem_append_right _ (List.mem_of_getElem? (i := 792) (by decide +kernel))) (by decide +kernel)
theorem tb_793 : (Jvm.Cond.methodLink "TurnBackLaw" (112 : Nat) ({ cls := "TurnBackModel", name := "image", desc := "()I" } : Jvm.MethodName)) ∈ zTB := zTB_in (List.mem_append_right _ (List.mem_of_getElem? (i := 793) (by decide +kernel))) (by decide +kernel)
theorem tb_794 : (Jvm.Cond.instanceMethod ({ cls := "TurnBackModel", name := "image", desc := "()I" } : Jvm.MethodName)) ∈ zTB := zTB_in (List.mem_append_right _ (List.mem_of_getElem? (i := 794) (by decide +kernel))) (by decide +kernel)
theorem tb_795 : (Jvm.Cond.selects "TurnBackModel" ({ cls := "TurnBackModel", name := "image", desc := "()I" } : Jvm.MethodName) ({ cls := "TurnBackModel", name := "image", desc := "()I" } : Jvm.MethodName)) ∈ zTB := zTB_in (List.mem_append_right _ (List.mem_of_getElem? (i := 795) (by decide +kernel))) (by decide +kernel)
theorem tb_796 : (Jvm.Cond.code ({ cls := "TurnBackModel", name := "image", desc := "()I" } : Jvm.MethodName) prog_10_method_5_code (1 : Nat) (Option.some Jvm.ClassFile.FieldType.int)) ∈ zTB := zTB_in (List.mem_append_right _ (List.mem_of_getElem? (i := 796) (by decide +kernel))) (by decide +kernel)
theorem tb_797 : (Jvm.Cond.methodLink "TurnBackModel" (80 : Nat) ({ cls := "TurnBackModel", name := "move", desc := "([I[I)V" } : Jvm.MethodName)) ∈ zTB := zTB_in (List.mem_append_right _ (List.mem_of_getElem? (i := 797) (by decide +kernel))) (by decide +kernel)
theorem tb_798 : (Jvm.Cond.static ({ cls := "TurnBackModel", name := "move", desc := "([I[I)V" } : Jvm.MethodName)) ∈ zTB := zTB_in (List.mem_append_right _ (List.mem_of_getElem? (i := 798) (by decide +kernel))) (by decide +kernel)
theorem tb_799 : (Jvm.Cond.code ({ cls := "TurnBackModel", name := "move", desc := "([I[I)V" } : Jvm.MethodName) prog_10_method_4_code (3 : Nat) (Option.none : Option Jvm.ClassFile.FieldType)) ∈ zTB := zTB_in (List.mem_append_right _ (List.mem_of_getElem? (i := 799) (by decide +kernel))) (by decide +kernel)
theorem tb_800 : (Jvm.Cond.methodLink "TurnBackLaw" (116 : Nat) ({ cls := "TurnBackModel", name := "undo", desc := "()I" } : Jvm.MethodName)) ∈ zTB := zTB_in (List.mem_append_right _ (List.mem_of_getElem? (i := 800) (by decide +kernel))) (by decide +kernel)
theorem tb_801 : (Jvm.Cond.instanceMethod ({ cls := "TurnBackModel", name := "undo", desc := "()I" } : Jvm.MethodName)) ∈ zTB := zTB_in (List.mem_append_right _ (List.mem_of_getElem? (i := 801) (by decide +kernel))) (by decide +kernel)
theorem tb_802 : (Jvm.Cond.selects "TurnBackModel" ({ cls := "TurnBackModel", name := "undo", desc := "()I" } : Jvm.MethodName) ({ cls := "TurnBackModel", name := "undo", desc := "()I" } : Jvm.MethodName)) ∈ zTB := zTB_in (List.mem_append_right _ (List.mem_of_getElem? (i := 802) (by decide +kernel))) (by decide +kernel)
theorem tb_803 : (Jvm.Cond.code ({ cls := "TurnBackModel", name := "undo", desc := "()I" } : Jvm.MethodName) prog_10_method_6_code (1 : Nat) (Option.some Jvm.ClassFile.FieldType.int)) ∈ zTB := zTB_in (List.mem_append_right _ (List.mem_of_getElem? (i := 803) (by decide +kernel))) (by decide +kernel)
theorem tb_804 : (Jvm.Cond.methodLink "TurnBackLaw" (17 : Nat) ({ cls := "TurnBackModel", name := "traveller", desc := "(IIII)I" } : Jvm.MethodName)) ∈ zTB := zTB_in (List.mem_append_right _ (List.mem_of_getElem? (i := 804) (by decide +kernel))) (by decide +kernel)
theorem tb_805 : (Jvm.Cond.instanceMethod ({ cls := "TurnBackModel", name := "traveller", desc := "(IIII)I" } : Jvm.MethodName)) ∈ zTB := zTB_in (List.mem_append_right _ (List.mem_of_getElem? (i := 805) (by decide +kernel))) (by decide +kernel)
theorem tb_806 : (Jvm.Cond.selects "TurnBackModel" ({ cls := "TurnBackModel", name := "traveller", desc := "(IIII)I" } : Jvm.MethodName) ({ cls := "TurnBackModel", name := "traveller", desc := "(IIII)I" } : Jvm.MethodName)) ∈ zTB := zTB_in (List.mem_append_right _ (List.mem_of_getElem? (i := 806) (by decide +kernel))) (by decide +kernel)
theorem tb_807 : (Jvm.Cond.code ({ cls := "TurnBackModel", name := "traveller", desc := "(IIII)I" } : Jvm.MethodName) prog_10_method_10_code (7 : Nat) (Option.some Jvm.ClassFile.FieldType.int)) ∈ zTB := zTB_in (List.mem_append_right _ (List.mem_of_getElem? (i := 807) (by decide +kernel))) (by decide +kernel)
theorem tb_808 : (Jvm.Cond.methodLink "TurnBackModel" (84 : Nat) ({ cls := "TurnBackModel", name := "isIn", desc := "(III)Z" } : Jvm.MethodName)) ∈ zTB := zTB_in (List.mem_append_right _ (List.mem_of_getElem? (i := 808) (by decide +kernel))) (by decide +kernel)
theorem tb_809 : (Jvm.Cond.static ({ cls := "TurnBackModel", name := "isIn", desc := "(III)Z" } : Jvm.MethodName)) ∈ zTB := zTB_in (List.mem_append_right _ (List.mem_of_getElem? (i := 809) (by decide +kernel))) (by decide +kernel)
theorem tb_810 : (Jvm.Cond.code ({ cls := "TurnBackModel", name := "isIn", desc := "(III)Z" } : Jvm.MethodName) prog_10_method_2_code (3 : Nat) (Option.some Jvm.ClassFile.FieldType.boolean)) ∈ zTB := zTB_in (List.mem_append_right _ (List.mem_of_getElem? (i := 810) (by decide +kernel))) (by decide +kernel)
theorem tb_811 : (Jvm.Cond.methodLink "TurnBackLaw" (22 : Nat) ({ cls := "TurnBackModel", name := "of", desc := "(II)I" } : Jvm.MethodName)) ∈ zTB := zTB_in (List.mem_append_right _ (List.mem_of_getElem? (i := 811) (by decide +kernel))) (by decide +kernel)
theorem tb_812 : (Jvm.Cond.instanceMethod ({ cls := "TurnBackModel", name := "of", desc := "(II)I" } : Jvm.MethodName)) ∈ zTB := zTB_in (List.mem_append_right _ (List.mem_of_getElem? (i := 812) (by decide +kernel))) (by decide +kernel)
theorem tb_813 : (Jvm.Cond.selects "TurnBackModel" ({ cls := "TurnBackModel", name := "of", desc := "(II)I" } : Jvm.MethodName) ({ cls := "TurnBackModel", name := "of", desc := "(II)I" } : Jvm.MethodName)) ∈ zTB := zTB_in (List.mem_append_right _ (List.mem_of_getElem? (i := 813) (by decide +kernel))) (by decide +kernel)
theorem tb_814 : (Jvm.Cond.code ({ cls := "TurnBackModel", name := "of", desc := "(II)I" } : Jvm.MethodName) prog_10_method_11_code (3 : Nat) (Option.some Jvm.ClassFile.FieldType.int)) ∈ zTB := zTB_in (List.mem_append_right _ (List.mem_of_getElem? (i := 814) (by decide +kernel))) (by decide +kernel)
theorem tb_815 : (Jvm.Cond.methodLink "TurnBackModel" (92 : Nat) ({ cls := "TurnBackModel", name := "isOne", desc := "(I)Z" } : Jvm.MethodName)) ∈ zTB := zTB_in (List.mem_append_right _ (List.mem_of_getElem? (i := 815) (by decide +kernel))) (by decide +kernel)
theorem tb_817 : (Jvm.Cond.instanceMethod ({ cls := "TurnBackModel", name := "isOne", desc := "(I)Z" } : Jvm.MethodName)) ∈ zTB := zTB_in (List.mem_append_right _ (List.mem_of_getElem? (i := 817) (by decide +kernel))) (by decide +kernel)
theorem tb_818 : (Jvm.Cond.code ({ cls := "TurnBackModel", name := "isOne", desc := "(I)Z" } : Jvm.MethodName) prog_10_method_7_code (2 : Nat) (Option.some Jvm.ClassFile.FieldType.boolean)) ∈ zTB := zTB_in (List.mem_append_right _ (List.mem_of_getElem? (i := 818) (by decide +kernel))) (by decide +kernel)
theorem tb_819 : (Jvm.Cond.methodLink "TurnBackModel" (88 : Nat) ({ cls := "TurnBackModel", name := "one", desc := "(II)I" } : Jvm.MethodName)) ∈ zTB := zTB_in (List.mem_append_right _ (List.mem_of_getElem? (i := 819) (by decide +kernel))) (by decide +kernel)
theorem tb_821 : (Jvm.Cond.instanceMethod ({ cls := "TurnBackModel", name := "one", desc := "(II)I" } : Jvm.MethodName)) ∈ zTB := zTB_in (List.mem_append_right _ (List.mem_of_getElem? (i := 821) (by decide +kernel))) (by decide +kernel)
theorem tb_822 : (Jvm.Cond.code ({ cls := "TurnBackModel", name := "one", desc := "(II)I" } : Jvm.MethodName) prog_10_method_8_code (3 : Nat) (Option.some Jvm.ClassFile.FieldType.int)) ∈ zTB := zTB_in (List.mem_append_right _ (List.mem_of_getElem? (i := 822) (by decide +kernel))) (by decide +kernel)
theorem tb_823 : (Jvm.Cond.methodLink "TurnBackModel" (96 : Nat) ({ cls := "TurnBackModel", name := "offer", desc := "(I)I" } : Jvm.MethodName)) ∈ zTB := zTB_in (List.mem_append_right _ (List.mem_of_getElem? (i := 823) (by decide +kernel))) (by decide +kernel)
theorem tb_825 : (Jvm.Cond.instanceMethod ({ cls := "TurnBackModel", name := "offer", desc := "(I)I" } : Jvm.MethodName)) ∈ zTB := zTB_in (List.mem_append_right _ (List.mem_of_getElem? (i := 825) (by decide +kernel))) (by decide +kernel)
theorem tb_826 : (Jvm.Cond.code ({ cls := "TurnBackModel", name := "offer", desc := "(I)I" } : Jvm.MethodName) prog_10_method_31_code (4 : Nat) (Option.some Jvm.ClassFile.FieldType.int)) ∈ zTB := zTB_in (List.mem_append_right _ (List.mem_of_getElem? (i := 826) (by decide +kernel))) (by decide +kernel)
theorem tb_827 : (Jvm.Cond.methodLink "TurnBackModel" (168 : Nat) ({ cls := "TurnBackModel", name := "readFor", desc := "(I)V" } : Jvm.MethodName)) ∈ zTB := zTB_in (List.mem_append_right _ (List.mem_of_getElem? (i := 827) (by decide +kernel))) (by decide +kernel)
theorem tb_829 : (Jvm.Cond.instanceMethod ({ cls := "TurnBackModel", name := "readFor", desc := "(I)V" } : Jvm.MethodName)) ∈ zTB := zTB_in (List.mem_append_right _ (List.mem_of_getElem? (i := 829) (by decide +kernel))) (by decide +kernel)
theorem tb_830 : (Jvm.Cond.code ({ cls := "TurnBackModel", name := "readFor", desc := "(I)V" } : Jvm.MethodName) prog_10_method_28_code (4 : Nat) (Option.none : Option Jvm.ClassFile.FieldType)) ∈ zTB := zTB_in (List.mem_append_right _ (List.mem_of_getElem? (i := 830) (by decide +kernel))) (by decide +kernel)
theorem tb_831 : (Jvm.Cond.methodLink "TurnBackModel" (162 : Nat) ({ cls := "TurnBackModel", name := "readAll", desc := "()Z" } : Jvm.MethodName)) ∈ zTB := zTB_in (List.mem_append_right _ (List.mem_of_getElem? (i := 831) (by decide +kernel))) (by decide +kernel)
theorem tb_833 : (Jvm.Cond.instanceMethod ({ cls := "TurnBackModel", name := "readAll", desc := "()Z" } : Jvm.MethodName)) ∈ zTB := zTB_in (List.mem_append_right _ (List.mem_of_getElem? (i := 833) (by decide +kernel))) (by decide +kernel)
theorem tb_834 : (Jvm.Cond.code ({ cls := "TurnBackModel", name := "readAll", desc := "()Z" } : Jvm.MethodName) prog_10_method_27_code (2 : Nat) (Option.some Jvm.ClassFile.FieldType.boolean)) ∈ zTB := zTB_in (List.mem_append_right _ (List.mem_of_getElem? (i := 834) (by decide +kernel))) (by decide +kernel)
theorem tb_835 : (Jvm.Cond.methodLink "TurnBackModel" (159 : Nat) ({ cls := "TurnBackModel", name := "clause", desc := "()V" } : Jvm.MethodName)) ∈ zTB := zTB_in (List.mem_append_right _ (List.mem_of_getElem? (i := 835) (by decide +kernel))) (by decide +kernel)
theorem tb_837 : (Jvm.Cond.instanceMethod ({ cls := "TurnBackModel", name := "clause", desc := "()V" } : Jvm.MethodName)) ∈ zTB := zTB_in (List.mem_append_right _ (List.mem_of_getElem? (i := 837) (by decide +kernel))) (by decide +kernel)
theorem tb_838 : (Jvm.Cond.code ({ cls := "TurnBackModel", name := "clause", desc := "()V" } : Jvm.MethodName) prog_10_method_26_code (4 : Nat) (Option.none : Option Jvm.ClassFile.FieldType)) ∈ zTB := zTB_in (List.mem_append_right _ (List.mem_of_getElem? (i := 838) (by decide +kernel))) (by decide +kernel)
theorem tb_839 : (Jvm.Cond.methodLink "TurnBackModel" (123 : Nat) ({ cls := "TurnBackModel", name := "isAt", desc := "(I)Z" } : Jvm.MethodName)) ∈ zTB := zTB_in (List.mem_append_right _ (List.mem_of_getElem? (i := 839) (by decide +kernel))) (by decide +kernel)
theorem tb_841 : (Jvm.Cond.instanceMethod ({ cls := "TurnBackModel", name := "isAt", desc := "(I)Z" } : Jvm.MethodName)) ∈ zTB := zTB_in (List.mem_append_right _ (List.mem_of_getElem? (i := 841) (by decide +kernel))) (by decide +kernel)
theorem tb_842 : (Jvm.Cond.code ({ cls := "TurnBackModel", name := "isAt", desc := "(I)Z" } : Jvm.MethodName) prog_10_method_18_code (2 : Nat) (Option.some Jvm.ClassFile.FieldType.boolean)) ∈ zTB := zTB_in (List.mem_append_right _ (List.mem_of_getElem? (i := 842) (by decide +kernel))) (by decide +kernel)
theorem tb_843 : (Jvm.Cond.methodLink "TurnBackModel" (130 : Nat) ({ cls := "TurnBackModel", name := "takes", desc := "(I)V" } : Jvm.MethodName)) ∈ zTB := zTB_in (List.mem_append_right _ (List.mem_of_getElem? (i := 843) (by decide +kernel))) (by decide +kernel)
theorem tb_845 : (Jvm.Cond.instanceMethod ({ cls := "TurnBackModel", name := "takes", desc := "(I)V" } : Jvm.MethodName)) ∈ zTB := zTB_in (List.mem_append_right _ (List.mem_of_getElem? (i := 845) (by decide +kernel))) (by decide +kernel)
theorem tb_846 : (Jvm.Cond.code ({ cls := "TurnBackModel", name := "takes", desc := "(I)V" } : Jvm.MethodName) prog_10_method_19_code (2 : Nat) (Option.none : Option Jvm.ClassFile.FieldType)) ∈ zTB := zTB_in (List.mem_append_right _ (List.mem_of_getElem? (i := 846) (by decide +kernel))) (by decide +kernel)
theorem tb_847 : (Jvm.Cond.methodLink "TurnBackModel" (134 : Nat) ({ cls := "TurnBackModel", name := "number", desc := "()I" } : Jvm.MethodName)) ∈ zTB := zTB_in (List.mem_append_right _ (List.mem_of_getElem? (i := 847) (by decide +kernel))) (by decide +kernel)
theorem tb_849 : (Jvm.Cond.instanceMethod ({ cls := "TurnBackModel", name := "number", desc := "()I" } : Jvm.MethodName)) ∈ zTB := zTB_in (List.mem_append_right _ (List.mem_of_getElem? (i := 849) (by decide +kernel))) (by decide +kernel)
theorem tb_850 : (Jvm.Cond.code ({ cls := "TurnBackModel", name := "number", desc := "()I" } : Jvm.MethodName) prog_10_method_21_code (2 : Nat) (Option.some Jvm.ClassFile.FieldType.int)) ∈ zTB := zTB_in (List.mem_append_right _ (List.mem_of_getElem? (i := 850) (by decide +kernel))) (by decide +kernel)
theorem tb_851 : (Jvm.Cond.methodLink "TurnBackModel" (126 : Nat) ({ cls := "TurnBackModel", name := "isDigit", desc := "()Z" } : Jvm.MethodName)) ∈ zTB := zTB_in (List.mem_append_right _ (List.mem_of_getElem? (i := 851) (by decide +kernel))) (by decide +kernel)
theorem tb_853 : (Jvm.Cond.instanceMethod ({ cls := "TurnBackModel", name := "isDigit", desc := "()Z" } : Jvm.MethodName)) ∈ zTB := zTB_in (List.mem_append_right _ (List.mem_of_getElem? (i := 853) (by decide +kernel))) (by decide +kernel)
theorem tb_854 : (Jvm.Cond.code ({ cls := "TurnBackModel", name := "isDigit", desc := "()Z" } : Jvm.MethodName) prog_10_method_20_code (1 : Nat) (Option.some Jvm.ClassFile.FieldType.boolean)) ∈ zTB := zTB_in (List.mem_append_right _ (List.mem_of_getElem? (i := 854) (by decide +kernel))) (by decide +kernel)
theorem tb_855 : (Jvm.Cond.methodLink "TurnBackModel" (144 : Nat) ({ cls := "TurnBackModel", name := "any", desc := "()Z" } : Jvm.MethodName)) ∈ zTB := zTB_in (List.mem_append_right _ (List.mem_of_getElem? (i := 855) (by decide +kernel))) (by decide +kernel)
theorem tb_857 : (Jvm.Cond.instanceMethod ({ cls := "TurnBackModel", name := "any", desc := "()Z" } : Jvm.MethodName)) ∈ zTB := zTB_in (List.mem_append_right _ (List.mem_of_getElem? (i := 857) (by decide +kernel))) (by decide +kernel)
theorem tb_858 : (Jvm.Cond.code ({ cls := "TurnBackModel", name := "any", desc := "()Z" } : Jvm.MethodName) prog_10_method_25_code (3 : Nat) (Option.some Jvm.ClassFile.FieldType.boolean)) ∈ zTB := zTB_in (List.mem_append_right _ (List.mem_of_getElem? (i := 858) (by decide +kernel))) (by decide +kernel)
theorem tb_859 : (Jvm.Cond.methodLink "TurnBackModel" (150 : Nat) ({ cls := "TurnBackModel", name := "both", desc := "()Z" } : Jvm.MethodName)) ∈ zTB := zTB_in (List.mem_append_right _ (List.mem_of_getElem? (i := 859) (by decide +kernel))) (by decide +kernel)
theorem tb_861 : (Jvm.Cond.instanceMethod ({ cls := "TurnBackModel", name := "both", desc := "()Z" } : Jvm.MethodName)) ∈ zTB := zTB_in (List.mem_append_right _ (List.mem_of_getElem? (i := 861) (by decide +kernel))) (by decide +kernel)
theorem tb_862 : (Jvm.Cond.code ({ cls := "TurnBackModel", name := "both", desc := "()Z" } : Jvm.MethodName) prog_10_method_24_code (3 : Nat) (Option.some Jvm.ClassFile.FieldType.boolean)) ∈ zTB := zTB_in (List.mem_append_right _ (List.mem_of_getElem? (i := 862) (by decide +kernel))) (by decide +kernel)
theorem tb_863 : (Jvm.Cond.methodLink "TurnBackModel" (141 : Nat) ({ cls := "TurnBackModel", name := "factor", desc := "()Z" } : Jvm.MethodName)) ∈ zTB := zTB_in (List.mem_append_right _ (List.mem_of_getElem? (i := 863) (by decide +kernel))) (by decide +kernel)
theorem tb_865 : (Jvm.Cond.instanceMethod ({ cls := "TurnBackModel", name := "factor", desc := "()Z" } : Jvm.MethodName)) ∈ zTB := zTB_in (List.mem_append_right _ (List.mem_of_getElem? (i := 865) (by decide +kernel))) (by decide +kernel)
theorem tb_866 : (Jvm.Cond.code ({ cls := "TurnBackModel", name := "factor", desc := "()Z" } : Jvm.MethodName) prog_10_method_23_code (2 : Nat) (Option.some Jvm.ClassFile.FieldType.boolean)) ∈ zTB := zTB_in (List.mem_append_right _ (List.mem_of_getElem? (i := 866) (by decide +kernel))) (by decide +kernel)
theorem tb_867 : (Jvm.Cond.methodLink "TurnBackModel" (147 : Nat) ({ cls := "TurnBackModel", name := "test", desc := "()Z" } : Jvm.MethodName)) ∈ zTB := zTB_in (List.mem_append_right _ (List.mem_of_getElem? (i := 867) (by decide +kernel))) (by decide +kernel)
theorem tb_869 : (Jvm.Cond.instanceMethod ({ cls := "TurnBackModel", name := "test", desc := "()Z" } : Jvm.MethodName)) ∈ zTB := zTB_in (List.mem_append_right _ (List.mem_of_getElem? (i := 869) (by decide +kernel))) (by decide +kernel)
theorem tb_870 : (Jvm.Cond.code ({ cls := "TurnBackModel", name := "test", desc := "()Z" } : Jvm.MethodName) prog_10_method_22_code (4 : Nat) (Option.some Jvm.ClassFile.FieldType.boolean)) ∈ zTB := zTB_in (List.mem_append_right _ (List.mem_of_getElem? (i := 870) (by decide +kernel))) (by decide +kernel)
theorem tb_871 : (Jvm.Cond.methodLink "TurnBackModel" (171 : Nat) ({ cls := "java/lang/Math", name := "min", desc := "(II)I" } : Jvm.MethodName)) ∈ zTB := zTB_in (List.mem_append_right _ (List.mem_of_getElem? (i := 871) (by decide +kernel))) (by decide +kernel)
theorem tb_872 : (Jvm.Cond.methodLink "TurnBackModel" (176 : Nat) ({ cls := "TurnBackModel", name := "isAnother", desc := "(I)Z" } : Jvm.MethodName)) ∈ zTB := zTB_in (List.mem_append_right _ (List.mem_of_getElem? (i := 872) (by decide +kernel))) (by decide +kernel)
theorem tb_874 : (Jvm.Cond.instanceMethod ({ cls := "TurnBackModel", name := "isAnother", desc := "(I)Z" } : Jvm.MethodName)) ∈ zTB := zTB_in (List.mem_append_right _ (List.mem_of_getElem? (i := 874) (by decide +kernel))) (by decide +kernel)
theorem tb_875 : (Jvm.Cond.code ({ cls := "TurnBackModel", name := "isAnother", desc := "(I)Z" } : Jvm.MethodName) prog_10_method_30_code (4 : Nat) (Option.some Jvm.ClassFile.FieldType.boolean)) ∈ zTB := zTB_in (List.mem_append_right _ (List.mem_of_getElem? (i := 875) (by decide +kernel))) (by decide +kernel)
theorem tb_876 : (Jvm.Cond.methodLink "TurnBackModel" (100 : Nat) ({ cls := "TurnBackModel", name := "gets", desc := "(I)I" } : Jvm.MethodName)) ∈ zTB := zTB_in (List.mem_append_right _ (List.mem_of_getElem? (i := 876) (by decide +kernel))) (by decide +kernel)
theorem tb_878 : (Jvm.Cond.instanceMethod ({ cls := "TurnBackModel", name := "gets", desc := "(I)I" } : Jvm.MethodName)) ∈ zTB := zTB_in (List.mem_append_right _ (List.mem_of_getElem? (i := 878) (by decide +kernel))) (by decide +kernel)
theorem tb_879 : (Jvm.Cond.code ({ cls := "TurnBackModel", name := "gets", desc := "(I)I" } : Jvm.MethodName) prog_10_method_37_code (4 : Nat) (Option.some Jvm.ClassFile.FieldType.int)) ∈ zTB := zTB_in (List.mem_append_right _ (List.mem_of_getElem? (i := 879) (by decide +kernel))) (by decide +kernel)
theorem tb_880 : (Jvm.Cond.methodLink "TurnBackModel" (182 : Nat) ({ cls := "TurnBackModel", name := "day", desc := "()V" } : Jvm.MethodName)) ∈ zTB := zTB_in (List.mem_append_right _ (List.mem_of_getElem? (i := 880) (by decide +kernel))) (by decide +kernel)
theorem tb_882 : (Jvm.Cond.instanceMethod ({ cls := "TurnBackModel", name := "day", desc := "()V" } : Jvm.MethodName)) ∈ zTB := zTB_in (List.mem_append_right _ (List.mem_of_getElem? (i := 882) (by decide +kernel))) (by decide +kernel)
theorem tb_883 : (Jvm.Cond.code ({ cls := "TurnBackModel", name := "day", desc := "()V" } : Jvm.MethodName) prog_10_method_33_code (2 : Nat) (Option.none : Option Jvm.ClassFile.FieldType)) ∈ zTB := zTB_in (List.mem_append_right _ (List.mem_of_getElem? (i := 883) (by decide +kernel))) (by decide +kernel)
theorem tb_884 : (Jvm.Cond.methodLink "TurnBackModel" (179 : Nat) ({ cls := "TurnBackModel", name := "goes", desc := "(I)V" } : Jvm.MethodName)) ∈ zTB := zTB_in (List.mem_append_right _ (List.mem_of_getElem? (i := 884) (by decide +kernel))) (by decide +kernel)
theorem tb_886 : (Jvm.Cond.instanceMethod ({ cls := "TurnBackModel", name := "goes", desc := "(I)V" } : Jvm.MethodName)) ∈ zTB := zTB_in (List.mem_append_right _ (List.mem_of_getElem? (i := 886) (by decide +kernel))) (by decide +kernel)
theorem tb_887 : (Jvm.Cond.code ({ cls := "TurnBackModel", name := "goes", desc := "(I)V" } : Jvm.MethodName) prog_10_method_32_code (4 : Nat) (Option.none : Option Jvm.ClassFile.FieldType)) ∈ zTB := zTB_in (List.mem_append_right _ (List.mem_of_getElem? (i := 887) (by decide +kernel))) (by decide +kernel)
theorem tb_888 : (Jvm.Cond.methodLink "TurnBackModel" (103 : Nat) ({ cls := "TurnBackModel", name := "change", desc := "(III)I" } : Jvm.MethodName)) ∈ zTB := zTB_in (List.mem_append_right _ (List.mem_of_getElem? (i := 888) (by decide +kernel))) (by decide +kernel)
theorem tb_890 : (Jvm.Cond.instanceMethod ({ cls := "TurnBackModel", name := "change", desc := "(III)I" } : Jvm.MethodName)) ∈ zTB := zTB_in (List.mem_append_right _ (List.mem_of_getElem? (i := 890) (by decide +kernel))) (by decide +kernel)
theorem tb_891 : (Jvm.Cond.code ({ cls := "TurnBackModel", name := "change", desc := "(III)I" } : Jvm.MethodName) prog_10_method_9_code (5 : Nat) (Option.some Jvm.ClassFile.FieldType.int)) ∈ zTB := zTB_in (List.mem_append_right _ (List.mem_of_getElem? (i := 891) (by decide +kernel))) (by decide +kernel)
theorem tb_892 : (Jvm.Cond.methodLink "TurnBackLaw" (27 : Nat) ({ cls := "TurnBackModel", name := "set", desc := "(III)I" } : Jvm.MethodName)) ∈ zTB := zTB_in (List.mem_append_right _ (List.mem_of_getElem? (i := 892) (by decide +kernel))) (by decide +kernel)
theorem tb_893 : (Jvm.Cond.instanceMethod ({ cls := "TurnBackModel", name := "set", desc := "(III)I" } : Jvm.MethodName)) ∈ zTB := zTB_in (List.mem_append_right _ (List.mem_of_getElem? (i := 893) (by decide +kernel))) (by decide +kernel)
theorem tb_894 : (Jvm.Cond.selects "TurnBackModel" ({ cls := "TurnBackModel", name := "set", desc := "(III)I" } : Jvm.MethodName) ({ cls := "TurnBackModel", name := "set", desc := "(III)I" } : Jvm.MethodName)) ∈ zTB := zTB_in (List.mem_append_right _ (List.mem_of_getElem? (i := 894) (by decide +kernel))) (by decide +kernel)
theorem tb_895 : (Jvm.Cond.code ({ cls := "TurnBackModel", name := "set", desc := "(III)I" } : Jvm.MethodName) prog_10_method_12_code (4 : Nat) (Option.some Jvm.ClassFile.FieldType.int)) ∈ zTB := zTB_in (List.mem_append_right _ (List.mem_of_getElem? (i := 895) (by decide +kernel))) (by decide +kernel)
theorem tb_896 : (Jvm.Cond.methodLink "TurnBackLaw" (32 : Nat) ({ cls := "TurnBackModel", name := "back", desc := "(IZ)I" } : Jvm.MethodName)) ∈ zTB := zTB_in (List.mem_append_right _ (List.mem_of_getElem? (i := 896) (by decide +kernel))) (by decide +kernel)
theorem tb_897 : (Jvm.Cond.instanceMethod ({ cls := "TurnBackModel", name := "back", desc := "(IZ)I" } : Jvm.MethodName)) ∈ zTB := zTB_in (List.mem_append_right _ (List.mem_of_getElem? (i := 897) (by decide +kernel))) (by decide +kernel)
theorem tb_898 : (Jvm.Cond.selects "TurnBackModel" ({ cls := "TurnBackModel", name := "back", desc := "(IZ)I" } : Jvm.MethodName) ({ cls := "TurnBackModel", name := "back", desc := "(IZ)I" } : Jvm.MethodName)) ∈ zTB := zTB_in (List.mem_append_right _ (List.mem_of_getElem? (i := 898) (by decide +kernel))) (by decide +kernel)
theorem tb_899 : (Jvm.Cond.code ({ cls := "TurnBackModel", name := "back", desc := "(IZ)I" } : Jvm.MethodName) prog_10_method_14_code (3 : Nat) (Option.some Jvm.ClassFile.FieldType.int)) ∈ zTB := zTB_in (List.mem_append_right _ (List.mem_of_getElem? (i := 899) (by decide +kernel))) (by decide +kernel)
theorem tb_900 : (Jvm.Cond.methodLink "TurnBackModel" (107 : Nat) ({ cls := "TurnBackModel", name := "isOnTheWay", desc := "(I)Z" } : Jvm.MethodName)) ∈ zTB := zTB_in (List.mem_append_right _ (List.mem_of_getElem? (i := 900) (by decide +kernel))) (by decide +kernel)
theorem tb_902 : (Jvm.Cond.instanceMethod ({ cls := "TurnBackModel", name := "isOnTheWay", desc := "(I)Z" } : Jvm.MethodName)) ∈ zTB := zTB_in (List.mem_append_right _ (List.mem_of_getElem? (i := 902) (by decide +kernel))) (by decide +kernel)
theorem tb_903 : (Jvm.Cond.code ({ cls := "TurnBackModel", name := "isOnTheWay", desc := "(I)Z" } : Jvm.MethodName) prog_10_method_13_code (2 : Nat) (Option.some Jvm.ClassFile.FieldType.boolean)) ∈ zTB := zTB_in (List.mem_append_right _ (List.mem_of_getElem? (i := 903) (by decide +kernel))) (by decide +kernel)
theorem tb_904 : (Jvm.Cond.methodLink "TurnBackLaw" (37 : Nat) ({ cls := "TurnBackModel", name := "purse", desc := "(I)I" } : Jvm.MethodName)) ∈ zTB := zTB_in (List.mem_append_right _ (List.mem_of_getElem? (i := 904) (by decide +kernel))) (by decide +kernel)
theorem tb_905 : (Jvm.Cond.instanceMethod ({ cls := "TurnBackModel", name := "purse", desc := "(I)I" } : Jvm.MethodName)) ∈ zTB := zTB_in (List.mem_append_right _ (List.mem_of_getElem? (i := 905) (by decide +kernel))) (by decide +kernel)
theorem tb_906 : (Jvm.Cond.selects "TurnBackModel" ({ cls := "TurnBackModel", name := "purse", desc := "(I)I" } : Jvm.MethodName) ({ cls := "TurnBackModel", name := "purse", desc := "(I)I" } : Jvm.MethodName)) ∈ zTB := zTB_in (List.mem_append_right _ (List.mem_of_getElem? (i := 906) (by decide +kernel))) (by decide +kernel)
theorem tb_907 : (Jvm.Cond.code ({ cls := "TurnBackModel", name := "purse", desc := "(I)I" } : Jvm.MethodName) prog_10_method_15_code (3 : Nat) (Option.some Jvm.ClassFile.FieldType.int)) ∈ zTB := zTB_in (List.mem_append_right _ (List.mem_of_getElem? (i := 907) (by decide +kernel))) (by decide +kernel)
theorem tb_908 : (Jvm.Cond.constant "TurnBackModel" (110 : Nat) (99999 : Int32)) ∈ zTB := zTB_in (List.mem_append_right _ (List.mem_of_getElem? (i := 908) (by decide +kernel))) (by decide +kernel)
theorem tb_909 : (Jvm.Cond.methodLink "TurnBackLaw" (41 : Nat) ({ cls := "TurnBackModel", name := "row", desc := "(III)I" } : Jvm.MethodName)) ∈ zTB := zTB_in (List.mem_append_right _ (List.mem_of_getElem? (i := 909) (by decide +kernel))) (by decide +kernel)
theorem tb_910 : (Jvm.Cond.instanceMethod ({ cls := "TurnBackModel", name := "row", desc := "(III)I" } : Jvm.MethodName)) ∈ zTB := zTB_in (List.mem_append_right _ (List.mem_of_getElem? (i := 910) (by decide +kernel))) (by decide +kernel)
theorem tb_911 : (Jvm.Cond.selects "TurnBackModel" ({ cls := "TurnBackModel", name := "row", desc := "(III)I" } : Jvm.MethodName) ({ cls := "TurnBackModel", name := "row", desc := "(III)I" } : Jvm.MethodName)) ∈ zTB := zTB_in (List.mem_append_right _ (List.mem_of_getElem? (i := 911) (by decide +kernel))) (by decide +kernel)
theorem tb_912 : (Jvm.Cond.code ({ cls := "TurnBackModel", name := "row", desc := "(III)I" } : Jvm.MethodName) prog_10_method_16_code (4 : Nat) (Option.some Jvm.ClassFile.FieldType.int)) ∈ zTB := zTB_in (List.mem_append_right _ (List.mem_of_getElem? (i := 912) (by decide +kernel))) (by decide +kernel)
theorem tb_913 : (Jvm.Cond.methodLink "TurnBackLaw" (45 : Nat) ({ cls := "TurnBackModel", name := "feed", desc := "(I)I" } : Jvm.MethodName)) ∈ zTB := zTB_in (List.mem_append_right _ (List.mem_of_getElem? (i := 913) (by decide +kernel))) (by decide +kernel)
theorem tb_914 : (Jvm.Cond.instanceMethod ({ cls := "TurnBackModel", name := "feed", desc := "(I)I" } : Jvm.MethodName)) ∈ zTB := zTB_in (List.mem_append_right _ (List.mem_of_getElem? (i := 914) (by decide +kernel))) (by decide +kernel)
theorem tb_915 : (Jvm.Cond.selects "TurnBackModel" ({ cls := "TurnBackModel", name := "feed", desc := "(I)I" } : Jvm.MethodName) ({ cls := "TurnBackModel", name := "feed", desc := "(I)I" } : Jvm.MethodName)) ∈ zTB := zTB_in (List.mem_append_right _ (List.mem_of_getElem? (i := 915) (by decide +kernel))) (by decide +kernel)
theorem tb_916 : (Jvm.Cond.code ({ cls := "TurnBackModel", name := "feed", desc := "(I)I" } : Jvm.MethodName) prog_10_method_17_code (2 : Nat) (Option.some Jvm.ClassFile.FieldType.int)) ∈ zTB := zTB_in (List.mem_append_right _ (List.mem_of_getElem? (i := 916) (by decide +kernel))) (by decide +kernel)
theorem tb_917 : (Jvm.Cond.methodLink "TurnBackLaw" (50 : Nat) ({ cls := "TurnBackModel", name := "season", desc := "()I" } : Jvm.MethodName)) ∈ zTB := zTB_in (List.mem_append_right _ (List.mem_of_getElem? (i := 917) (by decide +kernel))) (by decide +kernel)
theorem tb_918 : (Jvm.Cond.instanceMethod ({ cls := "TurnBackModel", name := "season", desc := "()I" } : Jvm.MethodName)) ∈ zTB := zTB_in (List.mem_append_right _ (List.mem_of_getElem? (i := 918) (by decide +kernel))) (by decide +kernel)
theorem tb_919 : (Jvm.Cond.selects "TurnBackModel" ({ cls := "TurnBackModel", name := "season", desc := "()I" } : Jvm.MethodName) ({ cls := "TurnBackModel", name := "season", desc := "()I" } : Jvm.MethodName)) ∈ zTB := zTB_in (List.mem_append_right _ (List.mem_of_getElem? (i := 919) (by decide +kernel))) (by decide +kernel)
theorem tb_920 : (Jvm.Cond.code ({ cls := "TurnBackModel", name := "season", desc := "()I" } : Jvm.MethodName) prog_10_method_29_code (2 : Nat) (Option.some Jvm.ClassFile.FieldType.int)) ∈ zTB := zTB_in (List.mem_append_right _ (List.mem_of_getElem? (i := 920) (by decide +kernel))) (by decide +kernel)
theorem tb_921 : (Jvm.Cond.methodLink "TurnBackLaw" (54 : Nat) ({ cls := "TurnBackModel", name := "told", desc := "(I)I" } : Jvm.MethodName)) ∈ zTB := zTB_in (List.mem_append_right _ (List.mem_of_getElem? (i := 921) (by decide +kernel))) (by decide +kernel)
theorem tb_922 : (Jvm.Cond.instanceMethod ({ cls := "TurnBackModel", name := "told", desc := "(I)I" } : Jvm.MethodName)) ∈ zTB := zTB_in (List.mem_append_right _ (List.mem_of_getElem? (i := 922) (by decide +kernel))) (by decide +kernel)
theorem tb_923 : (Jvm.Cond.selects "TurnBackModel" ({ cls := "TurnBackModel", name := "told", desc := "(I)I" } : Jvm.MethodName) ({ cls := "TurnBackModel", name := "told", desc := "(I)I" } : Jvm.MethodName)) ∈ zTB := zTB_in (List.mem_append_right _ (List.mem_of_getElem? (i := 923) (by decide +kernel))) (by decide +kernel)
theorem tb_924 : (Jvm.Cond.code ({ cls := "TurnBackModel", name := "told", desc := "(I)I" } : Jvm.MethodName) prog_10_method_39_code (2 : Nat) (Option.some Jvm.ClassFile.FieldType.int)) ∈ zTB := zTB_in (List.mem_append_right _ (List.mem_of_getElem? (i := 924) (by decide +kernel))) (by decide +kernel)
theorem tb_925 : (Jvm.Cond.methodLink "TurnBackModel" (185 : Nat) ({ cls := "TurnBackModel", name := "payNow", desc := "()I" } : Jvm.MethodName)) ∈ zTB := zTB_in (List.mem_append_right _ (List.mem_of_getElem? (i := 925) (by decide +kernel))) (by decide +kernel)
theorem tb_927 : (Jvm.Cond.instanceMethod ({ cls := "TurnBackModel", name := "payNow", desc := "()I" } : Jvm.MethodName)) ∈ zTB := zTB_in (List.mem_append_right _ (List.mem_of_getElem? (i := 927) (by decide +kernel))) (by decide +kernel)
theorem tb_928 : (Jvm.Cond.code ({ cls := "TurnBackModel", name := "payNow", desc := "()I" } : Jvm.MethodName) prog_10_method_38_code (1 : Nat) (Option.some Jvm.ClassFile.FieldType.int)) ∈ zTB := zTB_in (List.mem_append_right _ (List.mem_of_getElem? (i := 928) (by decide +kernel))) (by decide +kernel)
theorem tb_929 : (Jvm.Cond.methodLink "TurnBackModel" (188 : Nat) ({ cls := "TurnBackModel", name := "standing", desc := "(I)I" } : Jvm.MethodName)) ∈ zTB := zTB_in (List.mem_append_right _ (List.mem_of_getElem? (i := 929) (by decide +kernel))) (by decide +kernel)
theorem tb_931 : (Jvm.Cond.instanceMethod ({ cls := "TurnBackModel", name := "standing", desc := "(I)I" } : Jvm.MethodName)) ∈ zTB := zTB_in (List.mem_append_right _ (List.mem_of_getElem? (i := 931) (by decide +kernel))) (by decide +kernel)
theorem tb_932 : (Jvm.Cond.code ({ cls := "TurnBackModel", name := "standing", desc := "(I)I" } : Jvm.MethodName) prog_10_method_35_code (4 : Nat) (Option.some Jvm.ClassFile.FieldType.int)) ∈ zTB := zTB_in (List.mem_append_right _ (List.mem_of_getElem? (i := 932) (by decide +kernel))) (by decide +kernel)
theorem tb_933 : (Jvm.Cond.methodLink "TurnBackModel" (191 : Nat) ({ cls := "TurnBackModel", name := "backs", desc := "()I" } : Jvm.MethodName)) ∈ zTB := zTB_in (List.mem_append_right _ (List.mem_of_getElem? (i := 933) (by decide +kernel))) (by decide +kernel)
theorem tb_935 : (Jvm.Cond.instanceMethod ({ cls := "TurnBackModel", name := "backs", desc := "()I" } : Jvm.MethodName)) ∈ zTB := zTB_in (List.mem_append_right _ (List.mem_of_getElem? (i := 935) (by decide +kernel))) (by decide +kernel)
theorem tb_936 : (Jvm.Cond.code ({ cls := "TurnBackModel", name := "backs", desc := "()I" } : Jvm.MethodName) prog_10_method_36_code (3 : Nat) (Option.some Jvm.ClassFile.FieldType.int)) ∈ zTB := zTB_in (List.mem_append_right _ (List.mem_of_getElem? (i := 936) (by decide +kernel))) (by decide +kernel)
theorem tb_937 : (Jvm.Cond.methodLink "TurnBackLaw" (58 : Nat) ({ cls := "TurnBackModel", name := "pass", desc := "(I)I" } : Jvm.MethodName)) ∈ zTB := zTB_in (List.mem_append_right _ (List.mem_of_getElem? (i := 937) (by decide +kernel))) (by decide +kernel)
theorem tb_938 : (Jvm.Cond.instanceMethod ({ cls := "TurnBackModel", name := "pass", desc := "(I)I" } : Jvm.MethodName)) ∈ zTB := zTB_in (List.mem_append_right _ (List.mem_of_getElem? (i := 938) (by decide +kernel))) (by decide +kernel)
theorem tb_939 : (Jvm.Cond.selects "TurnBackModel" ({ cls := "TurnBackModel", name := "pass", desc := "(I)I" } : Jvm.MethodName) ({ cls := "TurnBackModel", name := "pass", desc := "(I)I" } : Jvm.MethodName)) ∈ zTB := zTB_in (List.mem_append_right _ (List.mem_of_getElem? (i := 939) (by decide +kernel))) (by decide +kernel)
theorem tb_940 : (Jvm.Cond.code ({ cls := "TurnBackModel", name := "pass", desc := "(I)I" } : Jvm.MethodName) prog_10_method_40_code (2 : Nat) (Option.some Jvm.ClassFile.FieldType.int)) ∈ zTB := zTB_in (List.mem_append_right _ (List.mem_of_getElem? (i := 940) (by decide +kernel))) (by decide +kernel)
theorem tb_941 : (Jvm.Cond.methodLink "TurnBackModel" (194 : Nat) ({ cls := "TurnBackModel", name := "days", desc := "(I)V" } : Jvm.MethodName)) ∈ zTB := zTB_in (List.mem_append_right _ (List.mem_of_getElem? (i := 941) (by decide +kernel))) (by decide +kernel)
theorem tb_943 : (Jvm.Cond.instanceMethod ({ cls := "TurnBackModel", name := "days", desc := "(I)V" } : Jvm.MethodName)) ∈ zTB := zTB_in (List.mem_append_right _ (List.mem_of_getElem? (i := 943) (by decide +kernel))) (by decide +kernel)
theorem tb_944 : (Jvm.Cond.code ({ cls := "TurnBackModel", name := "days", desc := "(I)V" } : Jvm.MethodName) prog_10_method_34_code (3 : Nat) (Option.none : Option Jvm.ClassFile.FieldType)) ∈ zTB := zTB_in (List.mem_append_right _ (List.mem_of_getElem? (i := 944) (by decide +kernel))) (by decide +kernel)
theorem tb_945 : (Jvm.Cond.methodLink "TurnBackLaw" (62 : Nat) ({ cls := "TurnBackModel", name := "on", desc := "(II)I" } : Jvm.MethodName)) ∈ zTB := zTB_in (List.mem_append_right _ (List.mem_of_getElem? (i := 945) (by decide +kernel))) (by decide +kernel)
theorem tb_946 : (Jvm.Cond.instanceMethod ({ cls := "TurnBackModel", name := "on", desc := "(II)I" } : Jvm.MethodName)) ∈ zTB := zTB_in (List.mem_append_right _ (List.mem_of_getElem? (i := 946) (by decide +kernel))) (by decide +kernel)
theorem tb_947 : (Jvm.Cond.selects "TurnBackModel" ({ cls := "TurnBackModel", name := "on", desc := "(II)I" } : Jvm.MethodName) ({ cls := "TurnBackModel", name := "on", desc := "(II)I" } : Jvm.MethodName)) ∈ zTB := zTB_in (List.mem_append_right _ (List.mem_of_getElem? (i := 947) (by decide +kernel))) (by decide +kernel)
theorem tb_948 : (Jvm.Cond.code ({ cls := "TurnBackModel", name := "on", desc := "(II)I" } : Jvm.MethodName) prog_10_method_41_code (4 : Nat) (Option.some Jvm.ClassFile.FieldType.int)) ∈ zTB := zTB_in (List.mem_append_right _ (List.mem_of_getElem? (i := 948) (by decide +kernel))) (by decide +kernel)
theorem tb_949 : (Jvm.Cond.methodLink "TurnBackLaw" (66 : Nat) ({ cls := "TurnBackModel", name := "pays", desc := "(II)I" } : Jvm.MethodName)) ∈ zTB := zTB_in (List.mem_append_right _ (List.mem_of_getElem? (i := 949) (by decide +kernel))) (by decide +kernel)
theorem tb_950 : (Jvm.Cond.instanceMethod ({ cls := "TurnBackModel", name := "pays", desc := "(II)I" } : Jvm.MethodName)) ∈ zTB := zTB_in (List.mem_append_right _ (List.mem_of_getElem? (i := 950) (by decide +kernel))) (by decide +kernel)
theorem tb_951 : (Jvm.Cond.selects "TurnBackModel" ({ cls := "TurnBackModel", name := "pays", desc := "(II)I" } : Jvm.MethodName) ({ cls := "TurnBackModel", name := "pays", desc := "(II)I" } : Jvm.MethodName)) ∈ zTB := zTB_in (List.mem_append_right _ (List.mem_of_getElem? (i := 951) (by decide +kernel))) (by decide +kernel)
theorem tb_952 : (Jvm.Cond.code ({ cls := "TurnBackModel", name := "pays", desc := "(II)I" } : Jvm.MethodName) prog_10_method_46_code (3 : Nat) (Option.some Jvm.ClassFile.FieldType.int)) ∈ zTB := zTB_in (List.mem_append_right _ (List.mem_of_getElem? (i := 952) (by decide +kernel))) (by decide +kernel)
theorem tb_953 : (Jvm.Cond.methodLink "TurnBackModel" (203 : Nat) ({ cls := "TurnBackModel", name := "cheap", desc := "(IZ)I" } : Jvm.MethodName)) ∈ zTB := zTB_in (List.mem_append_right _ (List.mem_of_getElem? (i := 953) (by decide +kernel))) (by decide +kernel)
theorem tb_955 : (Jvm.Cond.instanceMethod ({ cls := "TurnBackModel", name := "cheap", desc := "(IZ)I" } : Jvm.MethodName)) ∈ zTB := zTB_in (List.mem_append_right _ (List.mem_of_getElem? (i := 955) (by decide +kernel))) (by decide +kernel)
theorem tb_956 : (Jvm.Cond.code ({ cls := "TurnBackModel", name := "cheap", desc := "(IZ)I" } : Jvm.MethodName) prog_10_method_43_code (7 : Nat) (Option.some Jvm.ClassFile.FieldType.int)) ∈ zTB := zTB_in (List.mem_append_right _ (List.mem_of_getElem? (i := 956) (by decide +kernel))) (by decide +kernel)
theorem tb_957 : (Jvm.Cond.methodLink "TurnBackModel" (197 : Nat) ({ cls := "TurnBackModel", name := "on", desc := "(II)I" } : Jvm.MethodName)) ∈ zTB := zTB_in (List.mem_append_right _ (List.mem_of_getElem? (i := 957) (by decide +kernel))) (by decide +kernel)
theorem tb_958 : (Jvm.Cond.methodLink "TurnBackModel" (200 : Nat) ({ cls := "TurnBackModel", name := "many", desc := "(I)I" } : Jvm.MethodName)) ∈ zTB := zTB_in (List.mem_append_right _ (List.mem_of_getElem? (i := 958) (by decide +kernel))) (by decide +kernel)
theorem tb_959 : (Jvm.Cond.static ({ cls := "TurnBackModel", name := "many", desc := "(I)I" } : Jvm.MethodName)) ∈ zTB := zTB_in (List.mem_append_right _ (List.mem_of_getElem? (i := 959) (by decide +kernel))) (by decide +kernel)
theorem tb_960 : (Jvm.Cond.code ({ cls := "TurnBackModel", name := "many", desc := "(I)I" } : Jvm.MethodName) prog_10_method_42_code (3 : Nat) (Option.some Jvm.ClassFile.FieldType.int)) ∈ zTB := zTB_in (List.mem_append_right _ (List.mem_of_getElem? (i := 960) (by decide +kernel))) (by decide +kernel)
theorem tb_961 : (Jvm.Cond.methodLink "TurnBackModel" (207 : Nat) ({ cls := "TurnBackModel", name := "rich", desc := "(I)I" } : Jvm.MethodName)) ∈ zTB := zTB_in (List.mem_append_right _ (List.mem_of_getElem? (i := 961) (by decide +kernel))) (by decide +kernel)
theorem tb_963 : (Jvm.Cond.instanceMethod ({ cls := "TurnBackModel", name := "rich", desc := "(I)I" } : Jvm.MethodName)) ∈ zTB := zTB_in (List.mem_append_right _ (List.mem_of_getElem? (i := 963) (by decide +kernel))) (by decide +kernel)
theorem tb_964 : (Jvm.Cond.code ({ cls := "TurnBackModel", name := "rich", desc := "(I)I" } : Jvm.MethodName) prog_10_method_44_code (4 : Nat) (Option.some Jvm.ClassFile.FieldType.int)) ∈ zTB := zTB_in (List.mem_append_right _ (List.mem_of_getElem? (i := 964) (by decide +kernel))) (by decide +kernel)
theorem tb_965 : (Jvm.Cond.methodLink "TurnBackModel" (210 : Nat) ({ cls := "TurnBackModel", name := "bag", desc := "(I)I" } : Jvm.MethodName)) ∈ zTB := zTB_in (List.mem_append_right _ (List.mem_of_getElem? (i := 965) (by decide +kernel))) (by decide +kernel)
theorem tb_967 : (Jvm.Cond.instanceMethod ({ cls := "TurnBackModel", name := "bag", desc := "(I)I" } : Jvm.MethodName)) ∈ zTB := zTB_in (List.mem_append_right _ (List.mem_of_getElem? (i := 967) (by decide +kernel))) (by decide +kernel)
theorem tb_968 : (Jvm.Cond.code ({ cls := "TurnBackModel", name := "bag", desc := "(I)I" } : Jvm.MethodName) prog_10_method_45_code (5 : Nat) (Option.some Jvm.ClassFile.FieldType.int)) ∈ zTB := zTB_in (List.mem_append_right _ (List.mem_of_getElem? (i := 968) (by decide +kernel))) (by decide +kernel)
theorem tb_969 : (Jvm.Cond.methodLink "TurnBackLaw" (70 : Nat) ({ cls := "TurnBackModel", name := "see", desc := "(III)I" } : Jvm.MethodName)) ∈ zTB := zTB_in (List.mem_append_right _ (List.mem_of_getElem? (i := 969) (by decide +kernel))) (by decide +kernel)
theorem tb_970 : (Jvm.Cond.instanceMethod ({ cls := "TurnBackModel", name := "see", desc := "(III)I" } : Jvm.MethodName)) ∈ zTB := zTB_in (List.mem_append_right _ (List.mem_of_getElem? (i := 970) (by decide +kernel))) (by decide +kernel)
theorem tb_971 : (Jvm.Cond.selects "TurnBackModel" ({ cls := "TurnBackModel", name := "see", desc := "(III)I" } : Jvm.MethodName) ({ cls := "TurnBackModel", name := "see", desc := "(III)I" } : Jvm.MethodName)) ∈ zTB := zTB_in (List.mem_append_right _ (List.mem_of_getElem? (i := 971) (by decide +kernel))) (by decide +kernel)
theorem tb_972 : (Jvm.Cond.code ({ cls := "TurnBackModel", name := "see", desc := "(III)I" } : Jvm.MethodName) prog_10_method_47_code (5 : Nat) (Option.some Jvm.ClassFile.FieldType.int)) ∈ zTB := zTB_in (List.mem_append_right _ (List.mem_of_getElem? (i := 972) (by decide +kernel))) (by decide +kernel)
theorem tb_973 : (Jvm.Cond.methodLink "TurnBackLaw" (74 : Nat) ({ cls := "TurnBackModel", name := "can", desc := "(III)I" } : Jvm.MethodName)) ∈ zTB := zTB_in (List.mem_append_right _ (List.mem_of_getElem? (i := 973) (by decide +kernel))) (by decide +kernel)
theorem tb_974 : (Jvm.Cond.instanceMethod ({ cls := "TurnBackModel", name := "can", desc := "(III)I" } : Jvm.MethodName)) ∈ zTB := zTB_in (List.mem_append_right _ (List.mem_of_getElem? (i := 974) (by decide +kernel))) (by decide +kernel)
theorem tb_975 : (Jvm.Cond.selects "TurnBackModel" ({ cls := "TurnBackModel", name := "can", desc := "(III)I" } : Jvm.MethodName) ({ cls := "TurnBackModel", name := "can", desc := "(III)I" } : Jvm.MethodName)) ∈ zTB := zTB_in (List.mem_append_right _ (List.mem_of_getElem? (i := 975) (by decide +kernel))) (by decide +kernel)
theorem tb_976 : (Jvm.Cond.code ({ cls := "TurnBackModel", name := "can", desc := "(III)I" } : Jvm.MethodName) prog_10_method_50_code (4 : Nat) (Option.some Jvm.ClassFile.FieldType.int)) ∈ zTB := zTB_in (List.mem_append_right _ (List.mem_of_getElem? (i := 976) (by decide +kernel))) (by decide +kernel)
theorem tb_977 : (Jvm.Cond.methodLink "TurnBackModel" (216 : Nat) ({ cls := "TurnBackModel", name := "fits", desc := "(IIII)I" } : Jvm.MethodName)) ∈ zTB := zTB_in (List.mem_append_right _ (List.mem_of_getElem? (i := 977) (by decide +kernel))) (by decide +kernel)
theorem tb_979 : (Jvm.Cond.instanceMethod ({ cls := "TurnBackModel", name := "fits", desc := "(IIII)I" } : Jvm.MethodName)) ∈ zTB := zTB_in (List.mem_append_right _ (List.mem_of_getElem? (i := 979) (by decide +kernel))) (by decide +kernel)
theorem tb_980 : (Jvm.Cond.code ({ cls := "TurnBackModel", name := "fits", desc := "(IIII)I" } : Jvm.MethodName) prog_10_method_49_code (10 : Nat) (Option.some Jvm.ClassFile.FieldType.int)) ∈ zTB := zTB_in (List.mem_append_right _ (List.mem_of_getElem? (i := 980) (by decide +kernel))) (by decide +kernel)
theorem tb_981 : (Jvm.Cond.methodLink "TurnBackModel" (213 : Nat) ({ cls := "TurnBackModel", name := "isAllSeen", desc := "()Z" } : Jvm.MethodName)) ∈ zTB := zTB_in (List.mem_append_right _ (List.mem_of_getElem? (i := 981) (by decide +kernel))) (by decide +kernel)
theorem tb_983 : (Jvm.Cond.instanceMethod ({ cls := "TurnBackModel", name := "isAllSeen", desc := "()Z" } : Jvm.MethodName)) ∈ zTB := zTB_in (List.mem_append_right _ (List.mem_of_getElem? (i := 983) (by decide +kernel))) (by decide +kernel)
theorem tb_984 : (Jvm.Cond.code ({ cls := "TurnBackModel", name := "isAllSeen", desc := "()Z" } : Jvm.MethodName) prog_10_method_48_code (5 : Nat) (Option.some Jvm.ClassFile.FieldType.boolean)) ∈ zTB := zTB_in (List.mem_append_right _ (List.mem_of_getElem? (i := 984) (by decide +kernel))) (by decide +kernel)
theorem tb_985 : (Jvm.Cond.methodLink "TurnBackLaw" (78 : Nat) ({ cls := "TurnBackModel", name := "places", desc := "(I)I" } : Jvm.MethodName)) ∈ zTB := zTB_in (List.mem_append_right _ (List.mem_of_getElem? (i := 985) (by decide +kernel))) (by decide +kernel)
theorem tb_986 : (Jvm.Cond.instanceMethod ({ cls := "TurnBackModel", name := "places", desc := "(I)I" } : Jvm.MethodName)) ∈ zTB := zTB_in (List.mem_append_right _ (List.mem_of_getElem? (i := 986) (by decide +kernel))) (by decide +kernel)
theorem tb_987 : (Jvm.Cond.selects "TurnBackModel" ({ cls := "TurnBackModel", name := "places", desc := "(I)I" } : Jvm.MethodName) ({ cls := "TurnBackModel", name := "places", desc := "(I)I" } : Jvm.MethodName)) ∈ zTB := zTB_in (List.mem_append_right _ (List.mem_of_getElem? (i := 987) (by decide +kernel))) (by decide +kernel)
theorem tb_988 : (Jvm.Cond.code ({ cls := "TurnBackModel", name := "places", desc := "(I)I" } : Jvm.MethodName) prog_10_method_51_code (6 : Nat) (Option.some Jvm.ClassFile.FieldType.int)) ∈ zTB := zTB_in (List.mem_append_right _ (List.mem_of_getElem? (i := 988) (by decide +kernel))) (by decide +kernel)
theorem tb_989 : (Jvm.Cond.methodLink "TurnBackLaw" (83 : Nat) ({ cls := "TurnBackModel", name := "odds", desc := "(III)J" } : Jvm.MethodName)) ∈ zTB := zTB_in (List.mem_append_right _ (List.mem_of_getElem? (i := 989) (by decide +kernel))) (by decide +kernel)
theorem tb_990 : (Jvm.Cond.instanceMethod ({ cls := "TurnBackModel", name := "odds", desc := "(III)J" } : Jvm.MethodName)) ∈ zTB := zTB_in (List.mem_append_right _ (List.mem_of_getElem? (i := 990) (by decide +kernel))) (by decide +kernel)
theorem tb_991 : (Jvm.Cond.selects "TurnBackModel" ({ cls := "TurnBackModel", name := "odds", desc := "(III)J" } : Jvm.MethodName) ({ cls := "TurnBackModel", name := "odds", desc := "(III)J" } : Jvm.MethodName)) ∈ zTB := zTB_in (List.mem_append_right _ (List.mem_of_getElem? (i := 991) (by decide +kernel))) (by decide +kernel)
theorem tb_992 : (Jvm.Cond.code ({ cls := "TurnBackModel", name := "odds", desc := "(III)J" } : Jvm.MethodName) prog_10_method_53_code (6 : Nat) (Option.some Jvm.ClassFile.FieldType.long)) ∈ zTB := zTB_in (List.mem_append_right _ (List.mem_of_getElem? (i := 992) (by decide +kernel))) (by decide +kernel)
theorem tb_993 : (Jvm.Cond.constantLong "TurnBackModel" (220 : Nat) (-9223372036854775808 : Int64)) ∈ zTB := zTB_in (List.mem_append_right _ (List.mem_of_getElem? (i := 993) (by decide +kernel))) (by decide +kernel)
theorem tb_994 : (Jvm.Cond.constantLong "TurnBackModel" (222 : Nat) (21 : Int64)) ∈ zTB := zTB_in (List.mem_append_right _ (List.mem_of_getElem? (i := 994) (by decide +kernel))) (by decide +kernel)
theorem tb_995 : (Jvm.Cond.methodLink "TurnBackModel" (224 : Nat) ({ cls := "TurnBackModel", name := "fraction", desc := "(JJI)J" } : Jvm.MethodName)) ∈ zTB := zTB_in (List.mem_append_right _ (List.mem_of_getElem? (i := 995) (by decide +kernel))) (by decide +kernel)
theorem tb_996 : (Jvm.Cond.static ({ cls := "TurnBackModel", name := "fraction", desc := "(JJI)J" } : Jvm.MethodName)) ∈ zTB := zTB_in (List.mem_append_right _ (List.mem_of_getElem? (i := 996) (by decide +kernel))) (by decide +kernel)
theorem tb_997 : (Jvm.Cond.code ({ cls := "TurnBackModel", name := "fraction", desc := "(JJI)J" } : Jvm.MethodName) prog_10_method_52_code (11 : Nat) (Option.some Jvm.ClassFile.FieldType.long)) ∈ zTB := zTB_in (List.mem_append_right _ (List.mem_of_getElem? (i := 997) (by decide +kernel))) (by decide +kernel)
theorem tb_998 : (Jvm.Cond.methodLink "TurnBackLaw" (88 : Nat) ({ cls := "TurnBackModel", name := "mean", desc := "(II)J" } : Jvm.MethodName)) ∈ zTB := zTB_in (List.mem_append_right _ (List.mem_of_getElem? (i := 998) (by decide +kernel))) (by decide +kernel)
theorem tb_999 : (Jvm.Cond.instanceMethod ({ cls := "TurnBackModel", name := "mean", desc := "(II)J" } : Jvm.MethodName)) ∈ zTB := zTB_in (List.mem_append_right _ (List.mem_of_getElem? (i := 999) (by decide +kernel))) (by decide +kernel)
theorem tb_1000 : (Jvm.Cond.selects "TurnBackModel" ({ cls := "TurnBackModel", name := "mean", desc := "(II)J" } : Jvm.MethodName) ({ cls := "TurnBackModel", name := "mean", desc := "(II)J" } : Jvm.MethodName)) ∈ zTB := zTB_in (List.mem_append_right _ (List.mem_of_getElem? (i := 1000) (by decide +kernel))) (by decide +kernel)
theorem tb_1001 : (Jvm.Cond.code ({ cls := "TurnBackModel", name := "mean", desc := "(II)J" } : Jvm.MethodName) prog_10_method_54_code (5 : Nat) (Option.some Jvm.ClassFile.FieldType.long)) ∈ zTB := zTB_in (List.mem_append_right _ (List.mem_of_getElem? (i := 1001) (by decide +kernel))) (by decide +kernel)
theorem tb_1002 : (Jvm.Cond.methodLink "TurnBackLaw" (92 : Nat) ({ cls := "TurnBackModel", name := "plan", desc := "(II)I" } : Jvm.MethodName)) ∈ zTB := zTB_in (List.mem_append_right _ (List.mem_of_getElem? (i := 1002) (by decide +kernel))) (by decide +kernel)
theorem tb_1003 : (Jvm.Cond.instanceMethod ({ cls := "TurnBackModel", name := "plan", desc := "(II)I" } : Jvm.MethodName)) ∈ zTB := zTB_in (List.mem_append_right _ (List.mem_of_getElem? (i := 1003) (by decide +kernel))) (by decide +kernel)
theorem tb_1004 : (Jvm.Cond.selects "TurnBackModel" ({ cls := "TurnBackModel", name := "plan", desc := "(II)I" } : Jvm.MethodName) ({ cls := "TurnBackModel", name := "plan", desc := "(II)I" } : Jvm.MethodName)) ∈ zTB := zTB_in (List.mem_append_right _ (List.mem_of_getElem? (i := 1004) (by decide +kernel))) (by decide +kernel)
theorem tb_1005 : (Jvm.Cond.code ({ cls := "TurnBackModel", name := "plan", desc := "(II)I" } : Jvm.MethodName) prog_10_method_55_code (3 : Nat) (Option.some Jvm.ClassFile.FieldType.int)) ∈ zTB := zTB_in (List.mem_append_right _ (List.mem_of_getElem? (i := 1005) (by decide +kernel))) (by decide +kernel)
theorem tb_1006 : (Jvm.Cond.methodLink "TurnBackLaw" (96 : Nat) ({ cls := "TurnBackModel", name := "ends", desc := "(I)I" } : Jvm.MethodName)) ∈ zTB := zTB_in (List.mem_append_right _ (List.mem_of_getElem? (i := 1006) (by decide +kernel))) (by decide +kernel)
theorem tb_1007 : (Jvm.Cond.instanceMethod ({ cls := "TurnBackModel", name := "ends", desc := "(I)I" } : Jvm.MethodName)) ∈ zTB := zTB_in (List.mem_append_right _ (List.mem_of_getElem? (i := 1007) (by decide +kernel))) (by decide +kernel)
theorem tb_1008 : (Jvm.Cond.selects "TurnBackModel" ({ cls := "TurnBackModel", name := "ends", desc := "(I)I" } : Jvm.MethodName) ({ cls := "TurnBackModel", name := "ends", desc := "(I)I" } : Jvm.MethodName)) ∈ zTB := zTB_in (List.mem_append_right _ (List.mem_of_getElem? (i := 1008) (by decide +kernel))) (by decide +kernel)
theorem tb_1009 : (Jvm.Cond.code ({ cls := "TurnBackModel", name := "ends", desc := "(I)I" } : Jvm.MethodName) prog_10_method_57_code (3 : Nat) (Option.some Jvm.ClassFile.FieldType.int)) ∈ zTB := zTB_in (List.mem_append_right _ (List.mem_of_getElem? (i := 1009) (by decide +kernel))) (by decide +kernel)
theorem tb_1010 : (Jvm.Cond.methodLink "TurnBackModel" (228 : Nat) ({ cls := "TurnBackModel", name := "happens", desc := "(II)V" } : Jvm.MethodName)) ∈ zTB := zTB_in (List.mem_append_right _ (List.mem_of_getElem? (i := 1010) (by decide +kernel))) (by decide +kernel)
theorem tb_1012 : (Jvm.Cond.instanceMethod ({ cls := "TurnBackModel", name := "happens", desc := "(II)V" } : Jvm.MethodName)) ∈ zTB := zTB_in (List.mem_append_right _ (List.mem_of_getElem? (i := 1012) (by decide +kernel))) (by decide +kernel)
theorem tb_1013 : (Jvm.Cond.code ({ cls := "TurnBackModel", name := "happens", desc := "(II)V" } : Jvm.MethodName) prog_10_method_56_code (3 : Nat) (Option.none : Option Jvm.ClassFile.FieldType)) ∈ zTB := zTB_in (List.mem_append_right _ (List.mem_of_getElem? (i := 1013) (by decide +kernel))) (by decide +kernel)
theorem tb_1014 : (Jvm.Cond.methodLink "TurnBackLaw" (100 : Nat) ({ cls := "TurnBackModel", name := "book", desc := "(II)I" } : Jvm.MethodName)) ∈ zTB := zTB_in (List.mem_append_right _ (List.mem_of_getElem? (i := 1014) (by decide +kernel))) (by decide +kernel)
theorem tb_1015 : (Jvm.Cond.instanceMethod ({ cls := "TurnBackModel", name := "book", desc := "(II)I" } : Jvm.MethodName)) ∈ zTB := zTB_in (List.mem_append_right _ (List.mem_of_getElem? (i := 1015) (by decide +kernel))) (by decide +kernel)
theorem tb_1016 : (Jvm.Cond.selects "TurnBackModel" ({ cls := "TurnBackModel", name := "book", desc := "(II)I" } : Jvm.MethodName) ({ cls := "TurnBackModel", name := "book", desc := "(II)I" } : Jvm.MethodName)) ∈ zTB := zTB_in (List.mem_append_right _ (List.mem_of_getElem? (i := 1016) (by decide +kernel))) (by decide +kernel)
theorem tb_1017 : (Jvm.Cond.code ({ cls := "TurnBackModel", name := "book", desc := "(II)I" } : Jvm.MethodName) prog_10_method_58_code (3 : Nat) (Option.some Jvm.ClassFile.FieldType.int)) ∈ zTB := zTB_in (List.mem_append_right _ (List.mem_of_getElem? (i := 1017) (by decide +kernel))) (by decide +kernel)
theorem tb_1018 : (Jvm.Cond.methodLink "TurnBackLaw" (104 : Nat) ({ cls := "TurnBackModel", name := "looked", desc := "()I" } : Jvm.MethodName)) ∈ zTB := zTB_in (List.mem_append_right _ (List.mem_of_getElem? (i := 1018) (by decide +kernel))) (by decide +kernel)
theorem tb_1019 : (Jvm.Cond.instanceMethod ({ cls := "TurnBackModel", name := "looked", desc := "()I" } : Jvm.MethodName)) ∈ zTB := zTB_in (List.mem_append_right _ (List.mem_of_getElem? (i := 1019) (by decide +kernel))) (by decide +kernel)
theorem tb_1020 : (Jvm.Cond.selects "TurnBackModel" ({ cls := "TurnBackModel", name := "looked", desc := "()I" } : Jvm.MethodName) ({ cls := "TurnBackModel", name := "looked", desc := "()I" } : Jvm.MethodName)) ∈ zTB := zTB_in (List.mem_append_right _ (List.mem_of_getElem? (i := 1020) (by decide +kernel))) (by decide +kernel)
theorem tb_1021 : (Jvm.Cond.code ({ cls := "TurnBackModel", name := "looked", desc := "()I" } : Jvm.MethodName) prog_10_method_59_code (2 : Nat) (Option.some Jvm.ClassFile.FieldType.int)) ∈ zTB := zTB_in (List.mem_append_right _ (List.mem_of_getElem? (i := 1021) (by decide +kernel))) (by decide +kernel)
theorem tb_1022 : (Jvm.Cond.methodLink "TurnBackLaw" (120 : Nat) ({ cls := "TurnBackModel", name := "act", desc := "(III)I" } : Jvm.MethodName)) ∈ zTB := zTB_in (List.mem_append_right _ (List.mem_of_getElem? (i := 1022) (by decide +kernel))) (by decide +kernel)
theorem tb_1023 : (Jvm.Cond.instanceMethod ({ cls := "TurnBackModel", name := "act", desc := "(III)I" } : Jvm.MethodName)) ∈ zTB := zTB_in (List.mem_append_right _ (List.mem_of_getElem? (i := 1023) (by decide +kernel))) (by decide +kernel)
theorem tb_1024 : (Jvm.Cond.selects "TurnBackModel" ({ cls := "TurnBackModel", name := "act", desc := "(III)I" } : Jvm.MethodName) ({ cls := "TurnBackModel", name := "act", desc := "(III)I" } : Jvm.MethodName)) ∈ zTB := zTB_in (List.mem_append_right _ (List.mem_of_getElem? (i := 1024) (by decide +kernel))) (by decide +kernel)
theorem tb_1025 : (Jvm.Cond.code ({ cls := "TurnBackModel", name := "act", desc := "(III)I" } : Jvm.MethodName) prog_10_method_63_code (4 : Nat) (Option.some Jvm.ClassFile.FieldType.int)) ∈ zTB := zTB_in (List.mem_append_right _ (List.mem_of_getElem? (i := 1025) (by decide +kernel))) (by decide +kernel)
theorem tb_1026 : (Jvm.Cond.methodLink "TurnBackModel" (241 : Nat) ({ cls := "TurnBackModel", name := "all", desc := "(III)I" } : Jvm.MethodName)) ∈ zTB := zTB_in (List.mem_append_right _ (List.mem_of_getElem? (i := 1026) (by decide +kernel))) (by decide +kernel)
theorem tb_1028 : (Jvm.Cond.instanceMethod ({ cls := "TurnBackModel", name := "all", desc := "(III)I" } : Jvm.MethodName)) ∈ zTB := zTB_in (List.mem_append_right _ (List.mem_of_getElem? (i := 1028) (by decide +kernel))) (by decide +kernel)
theorem tb_1029 : (Jvm.Cond.code ({ cls := "TurnBackModel", name := "all", desc := "(III)I" } : Jvm.MethodName) prog_10_method_61_code (4 : Nat) (Option.some Jvm.ClassFile.FieldType.int)) ∈ zTB := zTB_in (List.mem_append_right _ (List.mem_of_getElem? (i := 1029) (by decide +kernel))) (by decide +kernel)
theorem tb_1030 : (Jvm.Cond.methodLink "TurnBackModel" (235 : Nat) ({ cls := "TurnBackModel", name := "byKind", desc := "(IIII)I" } : Jvm.MethodName)) ∈ zTB := zTB_in (List.mem_append_right _ (List.mem_of_getElem? (i := 1030) (by decide +kernel))) (by decide +kernel)
theorem tb_1032 : (Jvm.Cond.instanceMethod ({ cls := "TurnBackModel", name := "byKind", desc := "(IIII)I" } : Jvm.MethodName)) ∈ zTB := zTB_in (List.mem_append_right _ (List.mem_of_getElem? (i := 1032) (by decide +kernel))) (by decide +kernel)
theorem tb_1033 : (Jvm.Cond.code ({ cls := "TurnBackModel", name := "byKind", desc := "(IIII)I" } : Jvm.MethodName) prog_10_method_62_code (7 : Nat) (Option.some Jvm.ClassFile.FieldType.int)) ∈ zTB := zTB_in (List.mem_append_right _ (List.mem_of_getElem? (i := 1033) (by decide +kernel))) (by decide +kernel)
theorem tb_1034 : (Jvm.Cond.methodLink "TurnBackModel" (238 : Nat) ({ cls := "TurnBackModel", name := "body", desc := "(I)I" } : Jvm.MethodName)) ∈ zTB := zTB_in (List.mem_append_right _ (List.mem_of_getElem? (i := 1034) (by decide +kernel))) (by decide +kernel)
theorem tb_1036 : (Jvm.Cond.instanceMethod ({ cls := "TurnBackModel", name := "body", desc := "(I)I" } : Jvm.MethodName)) ∈ zTB := zTB_in (List.mem_append_right _ (List.mem_of_getElem? (i := 1036) (by decide +kernel))) (by decide +kernel)
theorem tb_1037 : (Jvm.Cond.code ({ cls := "TurnBackModel", name := "body", desc := "(I)I" } : Jvm.MethodName) prog_10_method_60_code (2 : Nat) (Option.some Jvm.ClassFile.FieldType.int)) ∈ zTB := zTB_in (List.mem_append_right _ (List.mem_of_getElem? (i := 1037) (by decide +kernel))) (by decide +kernel)
theorem tb_1038 : (Jvm.Cond.methodLink "TurnBackLaw" (124 : Nat) ({ cls := "TurnBackModel", name := "trace", desc := "(I)I" } : Jvm.MethodName)) ∈ zTB := zTB_in (List.mem_append_right _ (List.mem_of_getElem? (i := 1038) (by decide +kernel))) (by decide +kernel)
theorem tb_1039 : (Jvm.Cond.instanceMethod ({ cls := "TurnBackModel", name := "trace", desc := "(I)I" } : Jvm.MethodName)) ∈ zTB := zTB_in (List.mem_append_right _ (List.mem_of_getElem? (i := 1039) (by decide +kernel))) (by decide +kernel)
theorem tb_1040 : (Jvm.Cond.selects "TurnBackModel" ({ cls := "TurnBackModel", name := "trace", desc := "(I)I" } : Jvm.MethodName) ({ cls := "TurnBackModel", name := "trace", desc := "(I)I" } : Jvm.MethodName)) ∈ zTB := zTB_in (List.mem_append_right _ (List.mem_of_getElem? (i := 1040) (by decide +kernel))) (by decide +kernel)
theorem tb_1041 : (Jvm.Cond.code ({ cls := "TurnBackModel", name := "trace", desc := "(I)I" } : Jvm.MethodName) prog_10_method_64_code (2 : Nat) (Option.some Jvm.ClassFile.FieldType.int)) ∈ zTB := zTB_in (List.mem_append_right _ (List.mem_of_getElem? (i := 1041) (by decide +kernel))) (by decide +kernel)
theorem tb_1042 : (Jvm.Cond.methodLink "TurnBackLaw" (128 : Nat) ({ cls := "TurnBackModel", name := "taken", desc := "(II)I" } : Jvm.MethodName)) ∈ zTB := zTB_in (List.mem_append_right _ (List.mem_of_getElem? (i := 1042) (by decide +kernel))) (by decide +kernel)
theorem tb_1043 : (Jvm.Cond.instanceMethod ({ cls := "TurnBackModel", name := "taken", desc := "(II)I" } : Jvm.MethodName)) ∈ zTB := zTB_in (List.mem_append_right _ (List.mem_of_getElem? (i := 1043) (by decide +kernel))) (by decide +kernel)
theorem tb_1044 : (Jvm.Cond.selects "TurnBackModel" ({ cls := "TurnBackModel", name := "taken", desc := "(II)I" } : Jvm.MethodName) ({ cls := "TurnBackModel", name := "taken", desc := "(II)I" } : Jvm.MethodName)) ∈ zTB := zTB_in (List.mem_append_right _ (List.mem_of_getElem? (i := 1044) (by decide +kernel))) (by decide +kernel)
theorem tb_1045 : (Jvm.Cond.code ({ cls := "TurnBackModel", name := "taken", desc := "(II)I" } : Jvm.MethodName) prog_10_method_65_code (4 : Nat) (Option.some Jvm.ClassFile.FieldType.int)) ∈ zTB := zTB_in (List.mem_append_right _ (List.mem_of_getElem? (i := 1045) (by decide +kernel))) (by decide +kernel)
theorem tb_1046 : (Jvm.Cond.methodLink "TurnBackLaw" (132 : Nat) ({ cls := "TurnBackModel", name := "count", desc := "(I)I" } : Jvm.MethodName)) ∈ zTB := zTB_in (List.mem_append_right _ (List.mem_of_getElem? (i := 1046) (by decide +kernel))) (by decide +kernel)
theorem tb_1047 : (Jvm.Cond.instanceMethod ({ cls := "TurnBackModel", name := "count", desc := "(I)I" } : Jvm.MethodName)) ∈ zTB := zTB_in (List.mem_append_right _ (List.mem_of_getElem? (i := 1047) (by decide +kernel))) (by decide +kernel)
theorem tb_1048 : (Jvm.Cond.selects "TurnBackModel" ({ cls := "TurnBackModel", name := "count", desc := "(I)I" } : Jvm.MethodName) ({ cls := "TurnBackModel", name := "count", desc := "(I)I" } : Jvm.MethodName)) ∈ zTB := zTB_in (List.mem_append_right _ (List.mem_of_getElem? (i := 1048) (by decide +kernel))) (by decide +kernel)
theorem tb_1049 : (Jvm.Cond.code ({ cls := "TurnBackModel", name := "count", desc := "(I)I" } : Jvm.MethodName) prog_10_method_66_code (2 : Nat) (Option.some Jvm.ClassFile.FieldType.int)) ∈ zTB := zTB_in (List.mem_append_right _ (List.mem_of_getElem? (i := 1049) (by decide +kernel))) (by decide +kernel)
theorem tb_1050 : (Jvm.Cond.methodLink "TurnBackLaw" (136 : Nat) ({ cls := "TurnBackModel", name := "tape", desc := "(III)I" } : Jvm.MethodName)) ∈ zTB := zTB_in (List.mem_append_right _ (List.mem_of_getElem? (i := 1050) (by decide +kernel))) (by decide +kernel)
theorem tb_1051 : (Jvm.Cond.instanceMethod ({ cls := "TurnBackModel", name := "tape", desc := "(III)I" } : Jvm.MethodName)) ∈ zTB := zTB_in (List.mem_append_right _ (List.mem_of_getElem? (i := 1051) (by decide +kernel))) (by decide +kernel)
theorem tb_1052 : (Jvm.Cond.selects "TurnBackModel" ({ cls := "TurnBackModel", name := "tape", desc := "(III)I" } : Jvm.MethodName) ({ cls := "TurnBackModel", name := "tape", desc := "(III)I" } : Jvm.MethodName)) ∈ zTB := zTB_in (List.mem_append_right _ (List.mem_of_getElem? (i := 1052) (by decide +kernel))) (by decide +kernel)
theorem tb_1053 : (Jvm.Cond.code ({ cls := "TurnBackModel", name := "tape", desc := "(III)I" } : Jvm.MethodName) prog_10_method_68_code (5 : Nat) (Option.some Jvm.ClassFile.FieldType.int)) ∈ zTB := zTB_in (List.mem_append_right _ (List.mem_of_getElem? (i := 1053) (by decide +kernel))) (by decide +kernel)
theorem tb_1054 : (Jvm.Cond.methodLink "TurnBackModel" (244 : Nat) ({ cls := "TurnBackModel", name := "isTape", desc := "(I)Z" } : Jvm.MethodName)) ∈ zTB := zTB_in (List.mem_append_right _ (List.mem_of_getElem? (i := 1054) (by decide +kernel))) (by decide +kernel)
theorem tb_1055 : (Jvm.Cond.static ({ cls := "TurnBackModel", name := "isTape", desc := "(I)Z" } : Jvm.MethodName)) ∈ zTB := zTB_in (List.mem_append_right _ (List.mem_of_getElem? (i := 1055) (by decide +kernel))) (by decide +kernel)
theorem tb_1056 : (Jvm.Cond.code ({ cls := "TurnBackModel", name := "isTape", desc := "(I)Z" } : Jvm.MethodName) prog_10_method_67_code (1 : Nat) (Option.some Jvm.ClassFile.FieldType.boolean)) ∈ zTB := zTB_in (List.mem_append_right _ (List.mem_of_getElem? (i := 1056) (by decide +kernel))) (by decide +kernel)
theorem tb_1057 : (Jvm.Cond.methodLink "TurnBackLaw" (143 : Nat) ({ cls := "TurnBackModel", name := "item", desc := "(IIJ)I" } : Jvm.MethodName)) ∈ zTB := zTB_in (List.mem_append_right _ (List.mem_of_getElem? (i := 1057) (by decide +kernel))) (by decide +kernel)
theorem tb_1058 : (Jvm.Cond.instanceMethod ({ cls := "TurnBackModel", name := "item", desc := "(IIJ)I" } : Jvm.MethodName)) ∈ zTB := zTB_in (List.mem_append_right _ (List.mem_of_getElem? (i := 1058) (by decide +kernel))) (by decide +kernel)
theorem tb_1059 : (Jvm.Cond.selects "TurnBackModel" ({ cls := "TurnBackModel", name := "item", desc := "(IIJ)I" } : Jvm.MethodName) ({ cls := "TurnBackModel", name := "item", desc := "(IIJ)I" } : Jvm.MethodName)) ∈ zTB := zTB_in (List.mem_append_right _ (List.mem_of_getElem? (i := 1059) (by decide +kernel))) (by decide +kernel)
theorem tb_1060 : (Jvm.Cond.code ({ cls := "TurnBackModel", name := "item", desc := "(IIJ)I" } : Jvm.MethodName) prog_10_method_69_code (6 : Nat) (Option.some Jvm.ClassFile.FieldType.int)) ∈ zTB := zTB_in (List.mem_append_right _ (List.mem_of_getElem? (i := 1060) (by decide +kernel))) (by decide +kernel)
theorem tb_1061 : (Jvm.Cond.methodLink "TurnBackLaw" (147 : Nat) ({ cls := "TurnBackModel", name := "read", desc := "(II)J" } : Jvm.MethodName)) ∈ zTB := zTB_in (List.mem_append_right _ (List.mem_of_getElem? (i := 1061) (by decide +kernel))) (by decide +kernel)
theorem tb_1062 : (Jvm.Cond.instanceMethod ({ cls := "TurnBackModel", name := "read", desc := "(II)J" } : Jvm.MethodName)) ∈ zTB := zTB_in (List.mem_append_right _ (List.mem_of_getElem? (i := 1062) (by decide +kernel))) (by decide +kernel)
theorem tb_1063 : (Jvm.Cond.selects "TurnBackModel" ({ cls := "TurnBackModel", name := "read", desc := "(II)J" } : Jvm.MethodName) ({ cls := "TurnBackModel", name := "read", desc := "(II)J" } : Jvm.MethodName)) ∈ zTB := zTB_in (List.mem_append_right _ (List.mem_of_getElem? (i := 1063) (by decide +kernel))) (by decide +kernel)
theorem tb_1064 : (Jvm.Cond.code ({ cls := "TurnBackModel", name := "read", desc := "(II)J" } : Jvm.MethodName) prog_10_method_70_code (3 : Nat) (Option.some Jvm.ClassFile.FieldType.long)) ∈ zTB := zTB_in (List.mem_append_right _ (List.mem_of_getElem? (i := 1064) (by decide +kernel))) (by decide +kernel)
theorem tb_1065 : (Jvm.Cond.methodLink "TurnBackLaw" (152 : Nat) ({ cls := "TurnBackModel", name := "shift", desc := "(IIIII)I" } : Jvm.MethodName)) ∈ zTB := zTB_in (List.mem_append_right _ (List.mem_of_getElem? (i := 1065) (by decide +kernel))) (by decide +kernel)
theorem tb_1066 : (Jvm.Cond.instanceMethod ({ cls := "TurnBackModel", name := "shift", desc := "(IIIII)I" } : Jvm.MethodName)) ∈ zTB := zTB_in (List.mem_append_right _ (List.mem_of_getElem? (i := 1066) (by decide +kernel))) (by decide +kernel)
theorem tb_1067 : (Jvm.Cond.selects "TurnBackModel" ({ cls := "TurnBackModel", name := "shift", desc := "(IIIII)I" } : Jvm.MethodName) ({ cls := "TurnBackModel", name := "shift", desc := "(IIIII)I" } : Jvm.MethodName)) ∈ zTB := zTB_in (List.mem_append_right _ (List.mem_of_getElem? (i := 1067) (by decide +kernel))) (by decide +kernel)
theorem tb_1068 : (Jvm.Cond.code ({ cls := "TurnBackModel", name := "shift", desc := "(IIIII)I" } : Jvm.MethodName) prog_10_method_71_code (7 : Nat) (Option.some Jvm.ClassFile.FieldType.int)) ∈ zTB := zTB_in (List.mem_append_right _ (List.mem_of_getElem? (i := 1068) (by decide +kernel))) (by decide +kernel)
theorem tb_1069 : (Jvm.Cond.methodLink "TurnBackLaw" (108 : Nat) ({ cls := "TurnBackModel", name := "judge", desc := "(II)I" } : Jvm.MethodName)) ∈ zTB := zTB_in (List.mem_append_right _ (List.mem_of_getElem? (i := 1069) (by decide +kernel))) (by decide +kernel)
theorem tb_1070 : (Jvm.Cond.instanceMethod ({ cls := "TurnBackModel", name := "judge", desc := "(II)I" } : Jvm.MethodName)) ∈ zTB := zTB_in (List.mem_append_right _ (List.mem_of_getElem? (i := 1070) (by decide +kernel))) (by decide +kernel)
theorem tb_1071 : (Jvm.Cond.selects "TurnBackModel" ({ cls := "TurnBackModel", name := "judge", desc := "(II)I" } : Jvm.MethodName) ({ cls := "TurnBackModel", name := "judge", desc := "(II)I" } : Jvm.MethodName)) ∈ zTB := zTB_in (List.mem_append_right _ (List.mem_of_getElem? (i := 1071) (by decide +kernel))) (by decide +kernel)
theorem tb_1072 : (Jvm.Cond.code ({ cls := "TurnBackModel", name := "judge", desc := "(II)I" } : Jvm.MethodName) prog_10_method_72_code (6 : Nat) (Option.some Jvm.ClassFile.FieldType.int)) ∈ zTB := zTB_in (List.mem_append_right _ (List.mem_of_getElem? (i := 1072) (by decide +kernel))) (by decide +kernel)
theorem tb_1073 : (Jvm.Cond.constantLong "TurnBackLaw" (137 : Nat) (4294967295 : Int64)) ∈ zTB := zTB_in (List.mem_append_right _ (List.mem_of_getElem? (i := 1073) (by decide +kernel))) (by decide +kernel)
theorem tb_1074 : (Jvm.Cond.fieldLink "java/lang/String" (9 : Nat) "java/lang/String" "value" "[B") ∈ zTB := zTB_in (List.mem_append_right _ (List.mem_of_getElem? (i := 1074) (by decide +kernel))) (by decide +kernel)
theorem tb_1075 : (Jvm.Cond.fieldLink "java/lang/String" (15 : Nat) "java/lang/String" "coder" "B") ∈ zTB := zTB_in (List.mem_append_right _ (List.mem_of_getElem? (i := 1075) (by decide +kernel))) (by decide +kernel)
theorem inT0 : ∀ w ∈ u_ws RX0 TX0 5, w ∈ zTB := by decide +kernel
theorem nwX0 : ∀ j, j < 5 → defaultValue (tyX0 j) = vp_V (znew 0 5) j := by decide +kernel
theorem inT1 : ∀ w ∈ u_ws RX1 TX1 3, w ∈ zTB := by decide +kernel
theorem nwX1 : ∀ j, j < 3 → defaultValue (tyX1 j) = vp_V (znew 1 3) j := by decide +kernel
theorem inT2 : ∀ w ∈ u_ws RX2 TX2 12, w ∈ zTB := by decide +kernel
theorem nwX2 : ∀ j, j < 12 → defaultValue (tyX2 j) = vp_V (znew 2 12) j := by decide +kernel
theorem inT3 : ∀ w ∈ u_ws RX3 TX3 4, w ∈ zTB := by decide +kernel
theorem nwX3 : ∀ j, j < 4 → defaultValue (tyX3 j) = vp_V (znew 3 4) j := by decide +kernel
theorem inT4 : ∀ w ∈ u_ws RX4 TX4 3, w ∈ zTB := by decide +kernel
theorem nwX4 : ∀ j, j < 3 → defaultValue (tyX4 j) = vp_V (znew 4 3) j := by decide +kernel
theorem inT5 : ∀ w ∈ u_ws RX5 TX5 4, w ∈ zTB := by decide +kernel
theorem nwX5 : ∀ j, j < 4 → defaultValue (tyX5 j) = vp_V (znew 5 4) j := by decide +kernel
theorem inT6 : ∀ w ∈ u_ws RX6 TX6 3, w ∈ zTB := by decide +kernel
theorem nwX6 : ∀ j, j < 3 → defaultValue (tyX6 j) = vp_V (znew 6 3) j := by decide +kernel
theorem inT7 : ∀ w ∈ u_ws RX7 TX7 10, w ∈ zTB := by decide +kernel
theorem nwX7 : ∀ j, j < 10 → defaultValue (tyX7 j) = vp_V (znew 7 10) j := by decide +kernel
theorem inT8 : ∀ w ∈ u_ws RX8 TX8 29, w ∈ zTB := by decide +kernel
theorem nwX8 : ∀ j, j < 29 → defaultValue (tyX8 j) = vp_V (znew 8 29) j := by decide +kernel
def zNm (y : Nat) : MethodName × (ByteArray × (Nat × Option FieldType)) := match y with
  | 1 => (yX0_init, cX0_init, 1, none)
  | 2 => (yX0_isUnder, cX0_isUnder, 4, (some .boolean))
  | 3 => (yX0_forget, cX0_forget, 1, none)
  | 4 => (yX0_kept, cX0_kept, 1, (some .int))
  | 5 => (yX0_begin, cX0_begin, 6, (some .int))
  | 6 => (yX0_own, cX0_own, 4, (some .int))
  | 7 => (yX0_above, cX0_above, 5, (some .int))
  | 8 => (yX0_runFrom, cX0_runFrom, 8, (some .int))
  | 9 => (yX0_run, cX0_run, 4, (some .int))
  | 101 => (yX1_init, cX1_init, 1, none)
  | 102 => (yX1_copy, cX1_copy, 2, none)
  | 103 => (yX1_lastSeenDay, cX1_lastSeenDay, 3, (some .int))
  | 104 => (yX1_seenElsewhere, cX1_seenElsewhere, 4, (some .boolean))
  | 201 => (yX2_init, cX2_init, 1, none)
  | 202 => (yX2_copy, cX2_copy, 4, none)
  | 203 => (yX2_welcome, cX2_welcome, 7, (some .int))
  | 204 => (yX2_put, cX2_put, 3, none)
  | 205 => (yX2_esteem, cX2_esteem, 3, none)
  | 206 => (yX2_isAt, cX2_isAt, 3, (some .boolean))
  | 207 => (yX2_isUnderWay, cX2_isUnderWay, 2, (some .boolean))
  | 208 => (yX2_bitsAt, cX2_bitsAt, 4, (some .int))
  | 209 => (yX2_bitsBack, cX2_bitsBack, 3, (some .int))
  | 210 => (yX2_goOn, cX2_goOn, 4, none)
  | 211 => (yX2_walkOn, cX2_walkOn, 3, none)
  | 212 => (yX2_offerTo, cX2_offerTo, 3, (some .int))
  | 213 => (yX2_payNow, cX2_payNow, 1, (some .int))
  | 214 => (yX2_anotherAtBar, cX2_anotherAtBar, 2, (some .boolean))
  | 215 => (yX2_valueOf, cX2_valueOf, 3, (some .int))
  | 301 => (yX3_init, cX3_init, 3, none)
  | 302 => (yX3_empty, cX3_empty, 1, (some .int))
  | 303 => (yX3_add, cX3_add, 4, (some .int))
  | 304 => (yX3_copy, cX3_copy, 3, none)
  | 401 => (yX4_init, cX4_init, 1, none)
  | 402 => (yX4_clear, cX4_clear, 1, none)
  | 403 => (yX4_add, cX4_add, 4, none)
  | 404 => (yX4_extraFor, cX4_extraFor, 8, (some .int))
  | 405 => (yX4_compared, cX4_compared, 3, (some .int))
  | 501 => (yX5_init, cX5_init, 1, none)
  | 502 => (yX5_take, cX5_take, 2, (some .int))
  | 503 => (yX5_draftSeason, cX5_draftSeason, 3, (some .int))
  | 504 => (yX5_handOver, cX5_handOver, 2, (some (.object "TurnBack$Season")))
  | 505 => (yX5_clause, cX5_clause, 3, (some .boolean))
  | 506 => (yX5_payClause, cX5_payClause, 2, (some .boolean))
  | 507 => (yX5_expression, cX5_expression, 5, (some .boolean))
  | 508 => (yX5_factor, cX5_factor, 3, (some .boolean))
  | 509 => (yX5_test, cX5_test, 4, (some .boolean))
  | 510 => (yX5_number, cX5_number, 4, (some .int))
  | 511 => (yX5_word, cX5_word, 3, (some .boolean))
  | 512 => (yX5_passes, cX5_passes, 2, (some .boolean))
  | 513 => (yX5_peek, cX5_peek, 1, (some .int))
  | 514 => (yX5_isOneOf, cX5_isOneOf, 3, (some .boolean))
  | 601 => (yX6_init, cX6_init, 1, none)
  | 602 => (yX6_isBlank, cX6_isBlank, 1, (some .boolean))
  | 603 => (yX6_become, cX6_become, 4, none)
  | 604 => (yX6_cut, cX6_cut, 3, (some .long))
  | 605 => (yX6_reaches, cX6_reaches, 3, (some .boolean))
  | 701 => (yX7_init, cX7_init, 2, none)
  | 702 => (yX7_traveller, cX7_traveller, 5, (some .int))
  | 703 => (yX7_of, cX7_of, 3, (some .int))
  | 704 => (yX7_set, cX7_set, 5, (some .int))
  | 705 => (yX7_back, cX7_back, 4, (some .int))
  | 706 => (yX7_purse, cX7_purse, 3, (some .int))
  | 707 => (yX7_row, cX7_row, 5, (some .int))
  | 708 => (yX7_feed, cX7_feed, 2, (some .int))
  | 709 => (yX7_season, cX7_season, 2, (some .int))
  | 710 => (yX7_told, cX7_told, 2, (some .int))
  | 711 => (yX7_pass, cX7_pass, 2, (some .int))
  | 712 => (yX7_on, cX7_on, 5, (some .int))
  | 713 => (yX7_daysToCity, cX7_daysToCity, 3, (some .int))
  | 714 => (yX7_pays, cX7_pays, 3, (some .int))
  | 715 => (yX7_cheapestPay, cX7_cheapestPay, 6, (some .int))
  | 716 => (yX7_inCityBy, cX7_inCityBy, 3, (some .int))
  | 717 => (yX7_richestPay, cX7_richestPay, 3, (some .int))
  | 718 => (yX7_smallestBag, cX7_smallestBag, 5, (some .int))
  | 719 => (yX7_keepsAllAway, cX7_keepsAllAway, 4, (some .boolean))
  | 720 => (yX7_see, cX7_see, 4, (some .int))
  | 721 => (yX7_can, cX7_can, 8, (some .int))
  | 722 => (yX7_places, cX7_places, 4, (some .int))
  | 723 => (yX7_seenComesTrue, cX7_seenComesTrue, 3, (some .boolean))
  | 724 => (yX7_odds, cX7_odds, 6, (some .long))
  | 725 => (yX7_mean, cX7_mean, 5, (some .long))
  | 726 => (yX7_partOf, cX7_partOf, 5, (some .long))
  | 727 => (yX7_plan, cX7_plan, 3, (some .int))
  | 728 => (yX7_ends, cX7_ends, 3, (some .int))
  | 729 => (yX7_followPlan, cX7_followPlan, 3, none)
  | 730 => (yX7_book, cX7_book, 3, (some .int))
  | 731 => (yX7_looked, cX7_looked, 2, (some .int))
  | 732 => (yX7_judge, cX7_judge, 5, (some .int))
  | 733 => (yX7_image, cX7_image, 1, (some .int))
  | 734 => (yX7_undo, cX7_undo, 1, (some .int))
  | 735 => (yX7_act, cX7_act, 4, (some .int))
  | 736 => (yX7_trace, cX7_trace, 2, (some .int))
  | 737 => (yX7_taken, cX7_taken, 4, (some .int))
  | 738 => (yX7_count, cX7_count, 2, (some .int))
  | 739 => (yX7_tape, cX7_tape, 4, (some .int))
  | 740 => (yX7_item, cX7_item, 6, (some .int))
  | 741 => (yX7_read, cX7_read, 3, (some .long))
  | 742 => (yX7_shift, cX7_shift, 8, (some .int))
  | 743 => (yX7_isThere, cX7_isThere, 2, (some .boolean))
  | 744 => (yX7_within, cX7_within, 2, (some .boolean))
  | 801 => (yX8_init, cX8_init, 1, none)
  | 802 => (yX8_isIn, cX8_isIn, 3, (some .boolean))
  | 803 => (yX8_fresh, cX8_fresh, 1, (some (.array .int)))
  | 804 => (yX8_move, cX8_move, 3, none)
  | 805 => (yX8_image, cX8_image, 1, (some .int))
  | 806 => (yX8_undo, cX8_undo, 1, (some .int))
  | 807 => (yX8_isOne, cX8_isOne, 2, (some .boolean))
  | 808 => (yX8_one, cX8_one, 3, (some .int))
  | 809 => (yX8_change, cX8_change, 5, (some .int))
  | 810 => (yX8_traveller, cX8_traveller, 7, (some .int))
  | 811 => (yX8_of, cX8_of, 3, (some .int))
  | 812 => (yX8_set, cX8_set, 4, (some .int))
  | 813 => (yX8_isOnTheWay, cX8_isOnTheWay, 2, (some .boolean))
  | 814 => (yX8_back, cX8_back, 3, (some .int))
  | 815 => (yX8_purse, cX8_purse, 3, (some .int))
  | 816 => (yX8_row, cX8_row, 4, (some .int))
  | 817 => (yX8_feed, cX8_feed, 2, (some .int))
  | 818 => (yX8_isAt, cX8_isAt, 2, (some .boolean))
  | 819 => (yX8_takes, cX8_takes, 2, none)
  | 820 => (yX8_isDigit, cX8_isDigit, 1, (some .boolean))
  | 821 => (yX8_number, cX8_number, 2, (some .int))
  | 822 => (yX8_test, cX8_test, 4, (some .boolean))
  | 823 => (yX8_factor, cX8_factor, 2, (some .boolean))
  | 824 => (yX8_both, cX8_both, 3, (some .boolean))
  | 825 => (yX8_any, cX8_any, 3, (some .boolean))
  | 826 => (yX8_clause, cX8_clause, 4, none)
  | 827 => (yX8_readAll, cX8_readAll, 2, (some .boolean))
  | 828 => (yX8_readFor, cX8_readFor, 4, none)
  | 829 => (yX8_season, cX8_season, 2, (some .int))
  | 830 => (yX8_isAnother, cX8_isAnother, 4, (some .boolean))
  | 831 => (yX8_offer, cX8_offer, 4, (some .int))
  | 832 => (yX8_goes, cX8_goes, 4, none)
  | 833 => (yX8_day, cX8_day, 2, none)
  | 834 => (yX8_days, cX8_days, 3, none)
  | 835 => (yX8_standing, cX8_standing, 4, (some .int))
  | 836 => (yX8_backs, cX8_backs, 3, (some .int))
  | 837 => (yX8_gets, cX8_gets, 4, (some .int))
  | 838 => (yX8_payNow, cX8_payNow, 1, (some .int))
  | 839 => (yX8_told, cX8_told, 2, (some .int))
  | 840 => (yX8_pass, cX8_pass, 2, (some .int))
  | 841 => (yX8_on, cX8_on, 4, (some .int))
  | 842 => (yX8_many, cX8_many, 3, (some .int))
  | 843 => (yX8_cheap, cX8_cheap, 7, (some .int))
  | 844 => (yX8_rich, cX8_rich, 4, (some .int))
  | 845 => (yX8_bag, cX8_bag, 5, (some .int))
  | 846 => (yX8_pays, cX8_pays, 3, (some .int))
  | 847 => (yX8_see, cX8_see, 5, (some .int))
  | 848 => (yX8_isAllSeen, cX8_isAllSeen, 5, (some .boolean))
  | 849 => (yX8_fits, cX8_fits, 10, (some .int))
  | 850 => (yX8_can, cX8_can, 4, (some .int))
  | 851 => (yX8_places, cX8_places, 6, (some .int))
  | 852 => (yX8_fraction, cX8_fraction, 11, (some .long))
  | 853 => (yX8_odds, cX8_odds, 6, (some .long))
  | 854 => (yX8_mean, cX8_mean, 5, (some .long))
  | 855 => (yX8_plan, cX8_plan, 3, (some .int))
  | 856 => (yX8_happens, cX8_happens, 3, none)
  | 857 => (yX8_ends, cX8_ends, 3, (some .int))
  | 858 => (yX8_book, cX8_book, 3, (some .int))
  | 859 => (yX8_looked, cX8_looked, 2, (some .int))
  | 860 => (yX8_body, cX8_body, 2, (some .int))
  | 861 => (yX8_all, cX8_all, 4, (some .int))
  | 862 => (yX8_byKind, cX8_byKind, 7, (some .int))
  | 863 => (yX8_act, cX8_act, 4, (some .int))
  | 864 => (yX8_trace, cX8_trace, 2, (some .int))
  | 865 => (yX8_taken, cX8_taken, 4, (some .int))
  | 866 => (yX8_count, cX8_count, 2, (some .int))
  | 867 => (yX8_isTape, cX8_isTape, 1, (some .boolean))
  | 868 => (yX8_tape, cX8_tape, 5, (some .int))
  | 869 => (yX8_item, cX8_item, 6, (some .int))
  | 870 => (yX8_read, cX8_read, 3, (some .long))
  | 871 => (yX8_shift, cX8_shift, 7, (some .int))
  | 872 => (yX8_judge, cX8_judge, 6, (some .int))
  | 901 => (yJ6_bitCount_0f7a4, cJ6_bitCount_0f7a4, 1, (some .int))
  | 1001 => (yJ0_length_8abf5, cJ0_length_8abf5, 1, (some .int))
  | 1002 => (yJ0_charAt_5068e, cJ0_charAt_5068e, 2, (some .char))
  | 1003 => (yJ0_coder_7d493, cJ0_coder_7d493, 1, (some .byte))
  | 1004 => (yJ0_isLatin1_aae02, cJ0_isLatin1_aae02, 1, (some .boolean))
  | 1005 => (yJ0_checkIndex_df160, cJ0_checkIndex_df160, 2, none)
  | 1101 => (yJ1_charAt_3b067, cJ1_charAt_3b067, 2, (some .char))
  | 1201 => (yJ3_checkIndex_8e157, cJ3_checkIndex_8e157, 3, (some .int))
  | _ => (yX0_init, ⟨#[]⟩, 0, none)
theorem mp1 : yX0_init.cls ≠ "java/lang/invoke/MethodHandle" ∧ yX0_init.cls ≠ "java/lang/invoke/VarHandle" ∧ (parseMethodDescriptor yX0_init.desc).map (fun d => d.parameters.length) = some 0 := by decide +kernel
theorem mc1 : Cond.code yX0_init cX0_init 1 none ∈ zTB := tb_175
theorem mi1 : Cond.instanceMethod yX0_init ∈ zTB := tb_174
theorem mn1 : Cond.initialized yX0_init.cls ∈ zTB := tb_8
theorem mp2 : yX0_isUnder.cls ≠ "java/lang/invoke/MethodHandle" ∧ yX0_isUnder.cls ≠ "java/lang/invoke/VarHandle" ∧ (parseMethodDescriptor yX0_isUnder.desc).map (fun d => d.parameters.length) = some 2 := by decide +kernel
theorem mc2 : Cond.code yX0_isUnder cX0_isUnder 4 (some .boolean) ∈ zTB := tb_657
theorem mi2 : Cond.static yX0_isUnder ∈ zTB := tb_656
theorem mn2 : Cond.initialized yX0_isUnder.cls ∈ zTB := tb_8
theorem mp3 : yX0_forget.cls ≠ "java/lang/invoke/MethodHandle" ∧ yX0_forget.cls ≠ "java/lang/invoke/VarHandle" ∧ (parseMethodDescriptor yX0_forget.desc).map (fun d => d.parameters.length) = some 0 := by decide +kernel
theorem mc3 : Cond.code yX0_forget cX0_forget 1 none ∈ zTB := tb_616
theorem mi3 : Cond.instanceMethod yX0_forget ∈ zTB := tb_614
theorem ms3 : Cond.selects yX0_forget.cls yX0_forget yX0_forget ∈ zTB := tb_615
theorem mn3 : Cond.initialized yX0_forget.cls ∈ zTB := tb_8
theorem mp4 : yX0_kept.cls ≠ "java/lang/invoke/MethodHandle" ∧ yX0_kept.cls ≠ "java/lang/invoke/VarHandle" ∧ (parseMethodDescriptor yX0_kept.desc).map (fun d => d.parameters.length) = some 0 := by decide +kernel
theorem mc4 : Cond.code yX0_kept cX0_kept 1 (some .int) ∈ zTB := tb_649
theorem mi4 : Cond.instanceMethod yX0_kept ∈ zTB := tb_647
theorem ms4 : Cond.selects yX0_kept.cls yX0_kept yX0_kept ∈ zTB := tb_648
theorem mn4 : Cond.initialized yX0_kept.cls ∈ zTB := tb_8
theorem mp5 : yX0_begin.cls ≠ "java/lang/invoke/MethodHandle" ∧ yX0_begin.cls ≠ "java/lang/invoke/VarHandle" ∧ (parseMethodDescriptor yX0_begin.desc).map (fun d => d.parameters.length) = some 5 := by decide +kernel
theorem mc5 : Cond.code yX0_begin cX0_begin 6 (some .int) ∈ zTB := tb_620
theorem mi5 : Cond.instanceMethod yX0_begin ∈ zTB := tb_618
theorem ms5 : Cond.selects yX0_begin.cls yX0_begin yX0_begin ∈ zTB := tb_619
theorem mn5 : Cond.initialized yX0_begin.cls ∈ zTB := tb_8
theorem mp6 : yX0_own.cls ≠ "java/lang/invoke/MethodHandle" ∧ yX0_own.cls ≠ "java/lang/invoke/VarHandle" ∧ (parseMethodDescriptor yX0_own.desc).map (fun d => d.parameters.length) = some 3 := by decide +kernel
theorem mc6 : Cond.code yX0_own cX0_own 4 (some .int) ∈ zTB := tb_624
theorem mi6 : Cond.instanceMethod yX0_own ∈ zTB := tb_623
theorem ms6 : Cond.selects yX0_own.cls yX0_own yX0_own ∈ zTB := zTB_in (List.mem_append_left _ (List.mem_of_getElem? (i := 20) (by decide +kernel))) (by decide +kernel)
theorem mn6 : Cond.initialized yX0_own.cls ∈ zTB := tb_8
theorem mp7 : yX0_above.cls ≠ "java/lang/invoke/MethodHandle" ∧ yX0_above.cls ≠ "java/lang/invoke/VarHandle" ∧ (parseMethodDescriptor yX0_above.desc).map (fun d => d.parameters.length) = some 4 := by decide +kernel
theorem mc7 : Cond.code yX0_above cX0_above 5 (some .int) ∈ zTB := tb_639
theorem mi7 : Cond.instanceMethod yX0_above ∈ zTB := tb_638
theorem ms7 : Cond.selects yX0_above.cls yX0_above yX0_above ∈ zTB := zTB_in (List.mem_append_left _ (List.mem_of_getElem? (i := 23) (by decide +kernel))) (by decide +kernel)
theorem mn7 : Cond.initialized yX0_above.cls ∈ zTB := tb_8
theorem mp8 : yX0_runFrom.cls ≠ "java/lang/invoke/MethodHandle" ∧ yX0_runFrom.cls ≠ "java/lang/invoke/VarHandle" ∧ (parseMethodDescriptor yX0_runFrom.desc).map (fun d => d.parameters.length) = some 4 := by decide +kernel
theorem mc8 : Cond.code yX0_runFrom cX0_runFrom 8 (some .int) ∈ zTB := tb_628
theorem mi8 : Cond.instanceMethod yX0_runFrom ∈ zTB := tb_627
theorem ms8 : Cond.selects yX0_runFrom.cls yX0_runFrom yX0_runFrom ∈ zTB := zTB_in (List.mem_append_left _ (List.mem_of_getElem? (i := 21) (by decide +kernel))) (by decide +kernel)
theorem mn8 : Cond.initialized yX0_runFrom.cls ∈ zTB := tb_8
theorem mp9 : yX0_run.cls ≠ "java/lang/invoke/MethodHandle" ∧ yX0_run.cls ≠ "java/lang/invoke/VarHandle" ∧ (parseMethodDescriptor yX0_run.desc).map (fun d => d.parameters.length) = some 3 := by decide +kernel
theorem mc9 : Cond.code yX0_run cX0_run 4 (some .int) ∈ zTB := tb_635
theorem mi9 : Cond.instanceMethod yX0_run ∈ zTB := tb_634
theorem ms9 : Cond.selects yX0_run.cls yX0_run yX0_run ∈ zTB := zTB_in (List.mem_append_left _ (List.mem_of_getElem? (i := 22) (by decide +kernel))) (by decide +kernel)
theorem mn9 : Cond.initialized yX0_run.cls ∈ zTB := tb_8
theorem mp101 : yX1_init.cls ≠ "java/lang/invoke/MethodHandle" ∧ yX1_init.cls ≠ "java/lang/invoke/VarHandle" ∧ (parseMethodDescriptor yX1_init.desc).map (fun d => d.parameters.length) = some 0 := by decide +kernel
theorem mc101 : Cond.code yX1_init cX1_init 1 none ∈ zTB := tb_88
theorem mi101 : Cond.instanceMethod yX1_init ∈ zTB := tb_87
theorem mn101 : Cond.initialized yX1_init.cls ∈ zTB := tb_3
theorem mp102 : yX1_copy.cls ≠ "java/lang/invoke/MethodHandle" ∧ yX1_copy.cls ≠ "java/lang/invoke/VarHandle" ∧ (parseMethodDescriptor yX1_copy.desc).map (fun d => d.parameters.length) = some 1 := by decide +kernel
theorem mc102 : Cond.code yX1_copy cX1_copy 2 none ∈ zTB := tb_599
theorem mi102 : Cond.instanceMethod yX1_copy ∈ zTB := tb_597
theorem ms102 : Cond.selects yX1_copy.cls yX1_copy yX1_copy ∈ zTB := tb_598
theorem mn102 : Cond.initialized yX1_copy.cls ∈ zTB := tb_3
theorem mp103 : yX1_lastSeenDay.cls ≠ "java/lang/invoke/MethodHandle" ∧ yX1_lastSeenDay.cls ≠ "java/lang/invoke/VarHandle" ∧ (parseMethodDescriptor yX1_lastSeenDay.desc).map (fun d => d.parameters.length) = some 0 := by decide +kernel
theorem mc103 : Cond.code yX1_lastSeenDay cX1_lastSeenDay 3 (some .int) ∈ zTB := tb_535
theorem mi103 : Cond.instanceMethod yX1_lastSeenDay ∈ zTB := tb_533
theorem ms103 : Cond.selects yX1_lastSeenDay.cls yX1_lastSeenDay yX1_lastSeenDay ∈ zTB := tb_534
theorem mn103 : Cond.initialized yX1_lastSeenDay.cls ∈ zTB := tb_3
theorem mp104 : yX1_seenElsewhere.cls ≠ "java/lang/invoke/MethodHandle" ∧ yX1_seenElsewhere.cls ≠ "java/lang/invoke/VarHandle" ∧ (parseMethodDescriptor yX1_seenElsewhere.desc).map (fun d => d.parameters.length) = some 2 := by decide +kernel
theorem mc104 : Cond.code yX1_seenElsewhere cX1_seenElsewhere 4 (some .boolean) ∈ zTB := tb_540
theorem mi104 : Cond.instanceMethod yX1_seenElsewhere ∈ zTB := tb_538
theorem ms104 : Cond.selects yX1_seenElsewhere.cls yX1_seenElsewhere yX1_seenElsewhere ∈ zTB := tb_539
theorem mn104 : Cond.initialized yX1_seenElsewhere.cls ∈ zTB := tb_3
theorem mp201 : yX2_init.cls ≠ "java/lang/invoke/MethodHandle" ∧ yX2_init.cls ≠ "java/lang/invoke/VarHandle" ∧ (parseMethodDescriptor yX2_init.desc).map (fun d => d.parameters.length) = some 0 := by decide +kernel
theorem mc201 : Cond.code yX2_init cX2_init 1 none ∈ zTB := tb_29
theorem mi201 : Cond.instanceMethod yX2_init ∈ zTB := tb_28
theorem mn201 : Cond.initialized yX2_init.cls ∈ zTB := tb_2
theorem mp202 : yX2_copy.cls ≠ "java/lang/invoke/MethodHandle" ∧ yX2_copy.cls ≠ "java/lang/invoke/VarHandle" ∧ (parseMethodDescriptor yX2_copy.desc).map (fun d => d.parameters.length) = some 1 := by decide +kernel
theorem mc202 : Cond.code yX2_copy cX2_copy 4 none ∈ zTB := tb_307
theorem mi202 : Cond.instanceMethod yX2_copy ∈ zTB := tb_305
theorem ms202 : Cond.selects yX2_copy.cls yX2_copy yX2_copy ∈ zTB := tb_306
theorem mn202 : Cond.initialized yX2_copy.cls ∈ zTB := tb_2
theorem mp203 : yX2_welcome.cls ≠ "java/lang/invoke/MethodHandle" ∧ yX2_welcome.cls ≠ "java/lang/invoke/VarHandle" ∧ (parseMethodDescriptor yX2_welcome.desc).map (fun d => d.parameters.length) = some 4 := by decide +kernel
theorem mc203 : Cond.code yX2_welcome cX2_welcome 7 (some .int) ∈ zTB := tb_257
theorem mi203 : Cond.instanceMethod yX2_welcome ∈ zTB := tb_255
theorem ms203 : Cond.selects yX2_welcome.cls yX2_welcome yX2_welcome ∈ zTB := tb_256
theorem mn203 : Cond.initialized yX2_welcome.cls ∈ zTB := tb_2
theorem mp204 : yX2_put.cls ≠ "java/lang/invoke/MethodHandle" ∧ yX2_put.cls ≠ "java/lang/invoke/VarHandle" ∧ (parseMethodDescriptor yX2_put.desc).map (fun d => d.parameters.length) = some 2 := by decide +kernel
theorem mc204 : Cond.code yX2_put cX2_put 3 none ∈ zTB := tb_261
theorem mi204 : Cond.instanceMethod yX2_put ∈ zTB := tb_259
theorem ms204 : Cond.selects yX2_put.cls yX2_put yX2_put ∈ zTB := tb_260
theorem mn204 : Cond.initialized yX2_put.cls ∈ zTB := tb_2
theorem mp205 : yX2_esteem.cls ≠ "java/lang/invoke/MethodHandle" ∧ yX2_esteem.cls ≠ "java/lang/invoke/VarHandle" ∧ (parseMethodDescriptor yX2_esteem.desc).map (fun d => d.parameters.length) = some 2 := by decide +kernel
theorem mc205 : Cond.code yX2_esteem cX2_esteem 3 none ∈ zTB := tb_320
theorem mi205 : Cond.instanceMethod yX2_esteem ∈ zTB := tb_318
theorem ms205 : Cond.selects yX2_esteem.cls yX2_esteem yX2_esteem ∈ zTB := tb_319
theorem mn205 : Cond.initialized yX2_esteem.cls ∈ zTB := tb_2
theorem mp206 : yX2_isAt.cls ≠ "java/lang/invoke/MethodHandle" ∧ yX2_isAt.cls ≠ "java/lang/invoke/VarHandle" ∧ (parseMethodDescriptor yX2_isAt.desc).map (fun d => d.parameters.length) = some 2 := by decide +kernel
theorem mc206 : Cond.code yX2_isAt cX2_isAt 3 (some .boolean) ∈ zTB := tb_544
theorem mi206 : Cond.instanceMethod yX2_isAt ∈ zTB := tb_542
theorem ms206 : Cond.selects yX2_isAt.cls yX2_isAt yX2_isAt ∈ zTB := tb_543
theorem mn206 : Cond.initialized yX2_isAt.cls ∈ zTB := tb_2
theorem mp207 : yX2_isUnderWay.cls ≠ "java/lang/invoke/MethodHandle" ∧ yX2_isUnderWay.cls ≠ "java/lang/invoke/VarHandle" ∧ (parseMethodDescriptor yX2_isUnderWay.desc).map (fun d => d.parameters.length) = some 1 := by decide +kernel
theorem mc207 : Cond.code yX2_isUnderWay cX2_isUnderWay 2 (some .boolean) ∈ zTB := tb_333
theorem mi207 : Cond.instanceMethod yX2_isUnderWay ∈ zTB := tb_331
theorem ms207 : Cond.selects yX2_isUnderWay.cls yX2_isUnderWay yX2_isUnderWay ∈ zTB := tb_332
theorem mn207 : Cond.initialized yX2_isUnderWay.cls ∈ zTB := tb_2
theorem mp208 : yX2_bitsAt.cls ≠ "java/lang/invoke/MethodHandle" ∧ yX2_bitsAt.cls ≠ "java/lang/invoke/VarHandle" ∧ (parseMethodDescriptor yX2_bitsAt.desc).map (fun d => d.parameters.length) = some 1 := by decide +kernel
theorem mc208 : Cond.code yX2_bitsAt cX2_bitsAt 4 (some .int) ∈ zTB := tb_296
theorem mi208 : Cond.instanceMethod yX2_bitsAt ∈ zTB := tb_294
theorem ms208 : Cond.selects yX2_bitsAt.cls yX2_bitsAt yX2_bitsAt ∈ zTB := tb_295
theorem mn208 : Cond.initialized yX2_bitsAt.cls ∈ zTB := tb_2
theorem mp209 : yX2_bitsBack.cls ≠ "java/lang/invoke/MethodHandle" ∧ yX2_bitsBack.cls ≠ "java/lang/invoke/VarHandle" ∧ (parseMethodDescriptor yX2_bitsBack.desc).map (fun d => d.parameters.length) = some 0 := by decide +kernel
theorem mc209 : Cond.code yX2_bitsBack cX2_bitsBack 3 (some .int) ∈ zTB := tb_473
theorem mi209 : Cond.instanceMethod yX2_bitsBack ∈ zTB := tb_471
theorem ms209 : Cond.selects yX2_bitsBack.cls yX2_bitsBack yX2_bitsBack ∈ zTB := tb_472
theorem mn209 : Cond.initialized yX2_bitsBack.cls ∈ zTB := tb_2
theorem mp210 : yX2_goOn.cls ≠ "java/lang/invoke/MethodHandle" ∧ yX2_goOn.cls ≠ "java/lang/invoke/VarHandle" ∧ (parseMethodDescriptor yX2_goOn.desc).map (fun d => d.parameters.length) = some 1 := by decide +kernel
theorem mc210 : Cond.code yX2_goOn cX2_goOn 4 none ∈ zTB := tb_311
theorem mi210 : Cond.instanceMethod yX2_goOn ∈ zTB := tb_309
theorem ms210 : Cond.selects yX2_goOn.cls yX2_goOn yX2_goOn ∈ zTB := tb_310
theorem mn210 : Cond.initialized yX2_goOn.cls ∈ zTB := tb_2
theorem mp211 : yX2_walkOn.cls ≠ "java/lang/invoke/MethodHandle" ∧ yX2_walkOn.cls ≠ "java/lang/invoke/VarHandle" ∧ (parseMethodDescriptor yX2_walkOn.desc).map (fun d => d.parameters.length) = some 1 := by decide +kernel
theorem mc211 : Cond.code yX2_walkOn cX2_walkOn 3 none ∈ zTB := tb_315
theorem mi211 : Cond.instanceMethod yX2_walkOn ∈ zTB := tb_314
theorem ms211 : Cond.selects yX2_walkOn.cls yX2_walkOn yX2_walkOn ∈ zTB := zTB_in (List.mem_append_left _ (List.mem_of_getElem? (i := 3) (by decide +kernel))) (by decide +kernel)
theorem mn211 : Cond.initialized yX2_walkOn.cls ∈ zTB := tb_2
theorem mp212 : yX2_offerTo.cls ≠ "java/lang/invoke/MethodHandle" ∧ yX2_offerTo.cls ≠ "java/lang/invoke/VarHandle" ∧ (parseMethodDescriptor yX2_offerTo.desc).map (fun d => d.parameters.length) = some 1 := by decide +kernel
theorem mc212 : Cond.code yX2_offerTo cX2_offerTo 3 (some .int) ∈ zTB := tb_273
theorem mi212 : Cond.instanceMethod yX2_offerTo ∈ zTB := tb_271
theorem ms212 : Cond.selects yX2_offerTo.cls yX2_offerTo yX2_offerTo ∈ zTB := tb_272
theorem mn212 : Cond.initialized yX2_offerTo.cls ∈ zTB := tb_2
theorem mp213 : yX2_payNow.cls ≠ "java/lang/invoke/MethodHandle" ∧ yX2_payNow.cls ≠ "java/lang/invoke/VarHandle" ∧ (parseMethodDescriptor yX2_payNow.desc).map (fun d => d.parameters.length) = some 0 := by decide +kernel
theorem mc213 : Cond.code yX2_payNow cX2_payNow 1 (some .int) ∈ zTB := tb_277
theorem mi213 : Cond.instanceMethod yX2_payNow ∈ zTB := tb_275
theorem ms213 : Cond.selects yX2_payNow.cls yX2_payNow yX2_payNow ∈ zTB := tb_276
theorem mn213 : Cond.initialized yX2_payNow.cls ∈ zTB := tb_2
theorem mp214 : yX2_anotherAtBar.cls ≠ "java/lang/invoke/MethodHandle" ∧ yX2_anotherAtBar.cls ≠ "java/lang/invoke/VarHandle" ∧ (parseMethodDescriptor yX2_anotherAtBar.desc).map (fun d => d.parameters.length) = some 1 := by decide +kernel
theorem mc214 : Cond.code yX2_anotherAtBar cX2_anotherAtBar 2 (some .boolean) ∈ zTB := tb_292
theorem mi214 : Cond.instanceMethod yX2_anotherAtBar ∈ zTB := tb_291
theorem ms214 : Cond.selects yX2_anotherAtBar.cls yX2_anotherAtBar yX2_anotherAtBar ∈ zTB := zTB_in (List.mem_append_left _ (List.mem_of_getElem? (i := 1) (by decide +kernel))) (by decide +kernel)
theorem mn214 : Cond.initialized yX2_anotherAtBar.cls ∈ zTB := tb_2
theorem mp215 : yX2_valueOf.cls ≠ "java/lang/invoke/MethodHandle" ∧ yX2_valueOf.cls ≠ "java/lang/invoke/VarHandle" ∧ (parseMethodDescriptor yX2_valueOf.desc).map (fun d => d.parameters.length) = some 2 := by decide +kernel
theorem mc215 : Cond.code yX2_valueOf cX2_valueOf 3 (some .int) ∈ zTB := tb_285
theorem mi215 : Cond.instanceMethod yX2_valueOf ∈ zTB := tb_283
theorem ms215 : Cond.selects yX2_valueOf.cls yX2_valueOf yX2_valueOf ∈ zTB := tb_284
theorem mn215 : Cond.initialized yX2_valueOf.cls ∈ zTB := tb_2
theorem mp301 : yX3_init.cls ≠ "java/lang/invoke/MethodHandle" ∧ yX3_init.cls ≠ "java/lang/invoke/VarHandle" ∧ (parseMethodDescriptor yX3_init.desc).map (fun d => d.parameters.length) = some 1 := by decide +kernel
theorem mc301 : Cond.code yX3_init cX3_init 3 none ∈ zTB := tb_94
theorem mi301 : Cond.instanceMethod yX3_init ∈ zTB := tb_93
theorem mn301 : Cond.initialized yX3_init.cls ∈ zTB := tb_4
theorem mp302 : yX3_empty.cls ≠ "java/lang/invoke/MethodHandle" ∧ yX3_empty.cls ≠ "java/lang/invoke/VarHandle" ∧ (parseMethodDescriptor yX3_empty.desc).map (fun d => d.parameters.length) = some 0 := by decide +kernel
theorem mc302 : Cond.code yX3_empty cX3_empty 1 (some .int) ∈ zTB := tb_519
theorem mi302 : Cond.instanceMethod yX3_empty ∈ zTB := tb_517
theorem ms302 : Cond.selects yX3_empty.cls yX3_empty yX3_empty ∈ zTB := tb_518
theorem mn302 : Cond.initialized yX3_empty.cls ∈ zTB := tb_4
theorem mp303 : yX3_add.cls ≠ "java/lang/invoke/MethodHandle" ∧ yX3_add.cls ≠ "java/lang/invoke/VarHandle" ∧ (parseMethodDescriptor yX3_add.desc).map (fun d => d.parameters.length) = some 3 := by decide +kernel
theorem mc303 : Cond.code yX3_add cX3_add 4 (some .int) ∈ zTB := tb_523
theorem mi303 : Cond.instanceMethod yX3_add ∈ zTB := tb_521
theorem ms303 : Cond.selects yX3_add.cls yX3_add yX3_add ∈ zTB := tb_522
theorem mn303 : Cond.initialized yX3_add.cls ∈ zTB := tb_4
theorem mp304 : yX3_copy.cls ≠ "java/lang/invoke/MethodHandle" ∧ yX3_copy.cls ≠ "java/lang/invoke/VarHandle" ∧ (parseMethodDescriptor yX3_copy.desc).map (fun d => d.parameters.length) = some 1 := by decide +kernel
theorem mc304 : Cond.code yX3_copy cX3_copy 3 none ∈ zTB := tb_603
theorem mi304 : Cond.instanceMethod yX3_copy ∈ zTB := tb_601
theorem ms304 : Cond.selects yX3_copy.cls yX3_copy yX3_copy ∈ zTB := tb_602
theorem mn304 : Cond.initialized yX3_copy.cls ∈ zTB := tb_4
theorem mp401 : yX4_init.cls ≠ "java/lang/invoke/MethodHandle" ∧ yX4_init.cls ≠ "java/lang/invoke/VarHandle" ∧ (parseMethodDescriptor yX4_init.desc).map (fun d => d.parameters.length) = some 0 := by decide +kernel
theorem mc401 : Cond.code yX4_init cX4_init 1 none ∈ zTB := tb_142
theorem mi401 : Cond.instanceMethod yX4_init ∈ zTB := tb_141
theorem mn401 : Cond.initialized yX4_init.cls ∈ zTB := tb_7
theorem mp402 : yX4_clear.cls ≠ "java/lang/invoke/MethodHandle" ∧ yX4_clear.cls ≠ "java/lang/invoke/VarHandle" ∧ (parseMethodDescriptor yX4_clear.desc).map (fun d => d.parameters.length) = some 0 := by decide +kernel
theorem mc402 : Cond.code yX4_clear cX4_clear 1 none ∈ zTB := tb_362
theorem mi402 : Cond.instanceMethod yX4_clear ∈ zTB := tb_360
theorem ms402 : Cond.selects yX4_clear.cls yX4_clear yX4_clear ∈ zTB := tb_361
theorem mn402 : Cond.initialized yX4_clear.cls ∈ zTB := tb_7
theorem mp403 : yX4_add.cls ≠ "java/lang/invoke/MethodHandle" ∧ yX4_add.cls ≠ "java/lang/invoke/VarHandle" ∧ (parseMethodDescriptor yX4_add.desc).map (fun d => d.parameters.length) = some 3 := by decide +kernel
theorem mc403 : Cond.code yX4_add cX4_add 4 none ∈ zTB := tb_459
theorem mi403 : Cond.instanceMethod yX4_add ∈ zTB := tb_457
theorem ms403 : Cond.selects yX4_add.cls yX4_add yX4_add ∈ zTB := tb_458
theorem mn403 : Cond.initialized yX4_add.cls ∈ zTB := tb_7
theorem mp404 : yX4_extraFor.cls ≠ "java/lang/invoke/MethodHandle" ∧ yX4_extraFor.cls ≠ "java/lang/invoke/VarHandle" ∧ (parseMethodDescriptor yX4_extraFor.desc).map (fun d => d.parameters.length) = some 2 := by decide +kernel
theorem mc404 : Cond.code yX4_extraFor cX4_extraFor 8 (some .int) ∈ zTB := tb_281
theorem mi404 : Cond.instanceMethod yX4_extraFor ∈ zTB := tb_279
theorem ms404 : Cond.selects yX4_extraFor.cls yX4_extraFor yX4_extraFor ∈ zTB := tb_280
theorem mn404 : Cond.initialized yX4_extraFor.cls ∈ zTB := tb_7
theorem mp405 : yX4_compared.cls ≠ "java/lang/invoke/MethodHandle" ∧ yX4_compared.cls ≠ "java/lang/invoke/VarHandle" ∧ (parseMethodDescriptor yX4_compared.desc).map (fun d => d.parameters.length) = some 3 := by decide +kernel
theorem mc405 : Cond.code yX4_compared cX4_compared 3 (some .int) ∈ zTB := tb_288
theorem mi405 : Cond.static yX4_compared ∈ zTB := tb_287
theorem mn405 : Cond.initialized yX4_compared.cls ∈ zTB := tb_7
theorem mp501 : yX5_init.cls ≠ "java/lang/invoke/MethodHandle" ∧ yX5_init.cls ≠ "java/lang/invoke/VarHandle" ∧ (parseMethodDescriptor yX5_init.desc).map (fun d => d.parameters.length) = some 0 := by decide +kernel
theorem mc501 : Cond.code yX5_init cX5_init 1 none ∈ zTB := tb_136
theorem mi501 : Cond.instanceMethod yX5_init ∈ zTB := tb_135
theorem mn501 : Cond.initialized yX5_init.cls ∈ zTB := tb_6
theorem mp502 : yX5_take.cls ≠ "java/lang/invoke/MethodHandle" ∧ yX5_take.cls ≠ "java/lang/invoke/VarHandle" ∧ (parseMethodDescriptor yX5_take.desc).map (fun d => d.parameters.length) = some 1 := by decide +kernel
theorem mc502 : Cond.code yX5_take cX5_take 2 (some .int) ∈ zTB := tb_350
theorem mi502 : Cond.instanceMethod yX5_take ∈ zTB := tb_348
theorem ms502 : Cond.selects yX5_take.cls yX5_take yX5_take ∈ zTB := tb_349
theorem mn502 : Cond.initialized yX5_take.cls ∈ zTB := tb_6
theorem mp503 : yX5_draftSeason.cls ≠ "java/lang/invoke/MethodHandle" ∧ yX5_draftSeason.cls ≠ "java/lang/invoke/VarHandle" ∧ (parseMethodDescriptor yX5_draftSeason.desc).map (fun d => d.parameters.length) = some 0 := by decide +kernel
theorem mc503 : Cond.code yX5_draftSeason cX5_draftSeason 3 (some .int) ∈ zTB := tb_358
theorem mi503 : Cond.instanceMethod yX5_draftSeason ∈ zTB := tb_356
theorem ms503 : Cond.selects yX5_draftSeason.cls yX5_draftSeason yX5_draftSeason ∈ zTB := tb_357
theorem mn503 : Cond.initialized yX5_draftSeason.cls ∈ zTB := tb_6
theorem mp504 : yX5_handOver.cls ≠ "java/lang/invoke/MethodHandle" ∧ yX5_handOver.cls ≠ "java/lang/invoke/VarHandle" ∧ (parseMethodDescriptor yX5_handOver.desc).map (fun d => d.parameters.length) = some 0 := by decide +kernel
theorem mc504 : Cond.code yX5_handOver cX5_handOver 2 (some (.object "TurnBack$Season")) ∈ zTB := tb_463
theorem mi504 : Cond.instanceMethod yX5_handOver ∈ zTB := tb_461
theorem ms504 : Cond.selects yX5_handOver.cls yX5_handOver yX5_handOver ∈ zTB := tb_462
theorem mn504 : Cond.initialized yX5_handOver.cls ∈ zTB := tb_6
theorem mp505 : yX5_clause.cls ≠ "java/lang/invoke/MethodHandle" ∧ yX5_clause.cls ≠ "java/lang/invoke/VarHandle" ∧ (parseMethodDescriptor yX5_clause.desc).map (fun d => d.parameters.length) = some 0 := by decide +kernel
theorem mc505 : Cond.code yX5_clause cX5_clause 3 (some .boolean) ∈ zTB := tb_366
theorem mi505 : Cond.instanceMethod yX5_clause ∈ zTB := tb_365
theorem ms505 : Cond.selects yX5_clause.cls yX5_clause yX5_clause ∈ zTB := zTB_in (List.mem_append_left _ (List.mem_of_getElem? (i := 4) (by decide +kernel))) (by decide +kernel)
theorem mn505 : Cond.initialized yX5_clause.cls ∈ zTB := tb_6
theorem mp506 : yX5_payClause.cls ≠ "java/lang/invoke/MethodHandle" ∧ yX5_payClause.cls ≠ "java/lang/invoke/VarHandle" ∧ (parseMethodDescriptor yX5_payClause.desc).map (fun d => d.parameters.length) = some 0 := by decide +kernel
theorem mc506 : Cond.code yX5_payClause cX5_payClause 2 (some .boolean) ∈ zTB := tb_374
theorem mi506 : Cond.instanceMethod yX5_payClause ∈ zTB := tb_373
theorem ms506 : Cond.selects yX5_payClause.cls yX5_payClause yX5_payClause ∈ zTB := zTB_in (List.mem_append_left _ (List.mem_of_getElem? (i := 6) (by decide +kernel))) (by decide +kernel)
theorem mn506 : Cond.initialized yX5_payClause.cls ∈ zTB := tb_6
theorem mp507 : yX5_expression.cls ≠ "java/lang/invoke/MethodHandle" ∧ yX5_expression.cls ≠ "java/lang/invoke/VarHandle" ∧ (parseMethodDescriptor yX5_expression.desc).map (fun d => d.parameters.length) = some 1 := by decide +kernel
theorem mc507 : Cond.code yX5_expression cX5_expression 5 (some .boolean) ∈ zTB := tb_442
theorem mi507 : Cond.instanceMethod yX5_expression ∈ zTB := tb_441
theorem ms507 : Cond.selects yX5_expression.cls yX5_expression yX5_expression ∈ zTB := zTB_in (List.mem_append_left _ (List.mem_of_getElem? (i := 10) (by decide +kernel))) (by decide +kernel)
theorem mn507 : Cond.initialized yX5_expression.cls ∈ zTB := tb_6
theorem mp508 : yX5_factor.cls ≠ "java/lang/invoke/MethodHandle" ∧ yX5_factor.cls ≠ "java/lang/invoke/VarHandle" ∧ (parseMethodDescriptor yX5_factor.desc).map (fun d => d.parameters.length) = some 1 := by decide +kernel
theorem mc508 : Cond.code yX5_factor cX5_factor 3 (some .boolean) ∈ zTB := tb_446
theorem mi508 : Cond.instanceMethod yX5_factor ∈ zTB := tb_445
theorem ms508 : Cond.selects yX5_factor.cls yX5_factor yX5_factor ∈ zTB := zTB_in (List.mem_append_left _ (List.mem_of_getElem? (i := 11) (by decide +kernel))) (by decide +kernel)
theorem mn508 : Cond.initialized yX5_factor.cls ∈ zTB := tb_6
theorem mp509 : yX5_test.cls ≠ "java/lang/invoke/MethodHandle" ∧ yX5_test.cls ≠ "java/lang/invoke/VarHandle" ∧ (parseMethodDescriptor yX5_test.desc).map (fun d => d.parameters.length) = some 0 := by decide +kernel
theorem mc509 : Cond.code yX5_test cX5_test 4 (some .boolean) ∈ zTB := tb_450
theorem mi509 : Cond.instanceMethod yX5_test ∈ zTB := tb_449
theorem ms509 : Cond.selects yX5_test.cls yX5_test yX5_test ∈ zTB := zTB_in (List.mem_append_left _ (List.mem_of_getElem? (i := 12) (by decide +kernel))) (by decide +kernel)
theorem mn509 : Cond.initialized yX5_test.cls ∈ zTB := tb_6
theorem mp510 : yX5_number.cls ≠ "java/lang/invoke/MethodHandle" ∧ yX5_number.cls ≠ "java/lang/invoke/VarHandle" ∧ (parseMethodDescriptor yX5_number.desc).map (fun d => d.parameters.length) = some 0 := by decide +kernel
theorem mc510 : Cond.code yX5_number cX5_number 4 (some .int) ∈ zTB := tb_435
theorem mi510 : Cond.instanceMethod yX5_number ∈ zTB := tb_434
theorem ms510 : Cond.selects yX5_number.cls yX5_number yX5_number ∈ zTB := zTB_in (List.mem_append_left _ (List.mem_of_getElem? (i := 9) (by decide +kernel))) (by decide +kernel)
theorem mn510 : Cond.initialized yX5_number.cls ∈ zTB := tb_6
theorem mp511 : yX5_word.cls ≠ "java/lang/invoke/MethodHandle" ∧ yX5_word.cls ≠ "java/lang/invoke/VarHandle" ∧ (parseMethodDescriptor yX5_word.desc).map (fun d => d.parameters.length) = some 1 := by decide +kernel
theorem mc511 : Cond.code yX5_word cX5_word 3 (some .boolean) ∈ zTB := tb_379
theorem mi511 : Cond.instanceMethod yX5_word ∈ zTB := tb_378
theorem ms511 : Cond.selects yX5_word.cls yX5_word yX5_word ∈ zTB := zTB_in (List.mem_append_left _ (List.mem_of_getElem? (i := 7) (by decide +kernel))) (by decide +kernel)
theorem mn511 : Cond.initialized yX5_word.cls ∈ zTB := tb_6
theorem mp512 : yX5_passes.cls ≠ "java/lang/invoke/MethodHandle" ∧ yX5_passes.cls ≠ "java/lang/invoke/VarHandle" ∧ (parseMethodDescriptor yX5_passes.desc).map (fun d => d.parameters.length) = some 1 := by decide +kernel
theorem mc512 : Cond.code yX5_passes cX5_passes 2 (some .boolean) ∈ zTB := tb_431
theorem mi512 : Cond.instanceMethod yX5_passes ∈ zTB := tb_430
theorem ms512 : Cond.selects yX5_passes.cls yX5_passes yX5_passes ∈ zTB := zTB_in (List.mem_append_left _ (List.mem_of_getElem? (i := 8) (by decide +kernel))) (by decide +kernel)
theorem mn512 : Cond.initialized yX5_passes.cls ∈ zTB := tb_6
theorem mp513 : yX5_peek.cls ≠ "java/lang/invoke/MethodHandle" ∧ yX5_peek.cls ≠ "java/lang/invoke/VarHandle" ∧ (parseMethodDescriptor yX5_peek.desc).map (fun d => d.parameters.length) = some 0 := by decide +kernel
theorem mc513 : Cond.code yX5_peek cX5_peek 1 (some .int) ∈ zTB := tb_370
theorem mi513 : Cond.instanceMethod yX5_peek ∈ zTB := tb_369
theorem ms513 : Cond.selects yX5_peek.cls yX5_peek yX5_peek ∈ zTB := zTB_in (List.mem_append_left _ (List.mem_of_getElem? (i := 5) (by decide +kernel))) (by decide +kernel)
theorem mn513 : Cond.initialized yX5_peek.cls ∈ zTB := tb_6
theorem mp514 : yX5_isOneOf.cls ≠ "java/lang/invoke/MethodHandle" ∧ yX5_isOneOf.cls ≠ "java/lang/invoke/VarHandle" ∧ (parseMethodDescriptor yX5_isOneOf.desc).map (fun d => d.parameters.length) = some 2 := by decide +kernel
theorem mc514 : Cond.code yX5_isOneOf cX5_isOneOf 3 (some .boolean) ∈ zTB := tb_454
theorem mi514 : Cond.static yX5_isOneOf ∈ zTB := tb_453
theorem mn514 : Cond.initialized yX5_isOneOf.cls ∈ zTB := tb_6
theorem mp601 : yX6_init.cls ≠ "java/lang/invoke/MethodHandle" ∧ yX6_init.cls ≠ "java/lang/invoke/VarHandle" ∧ (parseMethodDescriptor yX6_init.desc).map (fun d => d.parameters.length) = some 0 := by decide +kernel
theorem mc601 : Cond.code yX6_init cX6_init 1 none ∈ zTB := tb_200
theorem mi601 : Cond.instanceMethod yX6_init ∈ zTB := tb_199
theorem mn601 : Cond.initialized yX6_init.cls ∈ zTB := tb_9
theorem mp602 : yX6_isBlank.cls ≠ "java/lang/invoke/MethodHandle" ∧ yX6_isBlank.cls ≠ "java/lang/invoke/VarHandle" ∧ (parseMethodDescriptor yX6_isBlank.desc).map (fun d => d.parameters.length) = some 0 := by decide +kernel
theorem mc602 : Cond.code yX6_isBlank cX6_isBlank 1 (some .boolean) ∈ zTB := tb_591
theorem mi602 : Cond.instanceMethod yX6_isBlank ∈ zTB := tb_589
theorem ms602 : Cond.selects yX6_isBlank.cls yX6_isBlank yX6_isBlank ∈ zTB := tb_590
theorem mn602 : Cond.initialized yX6_isBlank.cls ∈ zTB := tb_9
theorem mp603 : yX6_become.cls ≠ "java/lang/invoke/MethodHandle" ∧ yX6_become.cls ≠ "java/lang/invoke/VarHandle" ∧ (parseMethodDescriptor yX6_become.desc).map (fun d => d.parameters.length) = some 2 := by decide +kernel
theorem mc603 : Cond.code yX6_become cX6_become 4 none ∈ zTB := tb_669
theorem mi603 : Cond.instanceMethod yX6_become ∈ zTB := tb_667
theorem ms603 : Cond.selects yX6_become.cls yX6_become yX6_become ∈ zTB := tb_668
theorem mn603 : Cond.initialized yX6_become.cls ∈ zTB := tb_9
theorem mp604 : yX6_cut.cls ≠ "java/lang/invoke/MethodHandle" ∧ yX6_cut.cls ≠ "java/lang/invoke/VarHandle" ∧ (parseMethodDescriptor yX6_cut.desc).map (fun d => d.parameters.length) = some 1 := by decide +kernel
theorem mc604 : Cond.code yX6_cut cX6_cut 3 (some .long) ∈ zTB := tb_679
theorem mi604 : Cond.instanceMethod yX6_cut ∈ zTB := tb_677
theorem ms604 : Cond.selects yX6_cut.cls yX6_cut yX6_cut ∈ zTB := tb_678
theorem mn604 : Cond.initialized yX6_cut.cls ∈ zTB := tb_9
theorem mp605 : yX6_reaches.cls ≠ "java/lang/invoke/MethodHandle" ∧ yX6_reaches.cls ≠ "java/lang/invoke/VarHandle" ∧ (parseMethodDescriptor yX6_reaches.desc).map (fun d => d.parameters.length) = some 2 := by decide +kernel
theorem mc605 : Cond.code yX6_reaches cX6_reaches 3 (some .boolean) ∈ zTB := tb_691
theorem mi605 : Cond.instanceMethod yX6_reaches ∈ zTB := tb_689
theorem ms605 : Cond.selects yX6_reaches.cls yX6_reaches yX6_reaches ∈ zTB := tb_690
theorem mn605 : Cond.initialized yX6_reaches.cls ∈ zTB := tb_9
theorem mp701 : yX7_init.cls ≠ "java/lang/invoke/MethodHandle" ∧ yX7_init.cls ≠ "java/lang/invoke/VarHandle" ∧ (parseMethodDescriptor yX7_init.desc).map (fun d => d.parameters.length) = some 0 := by decide +kernel
theorem mc701 : Cond.code yX7_init cX7_init 2 none ∈ zTB := tb_21
theorem mi701 : Cond.instanceMethod yX7_init ∈ zTB := tb_20
theorem mn701 : Cond.initialized yX7_init.cls ∈ zTB := tb_1
theorem mp702 : yX7_traveller.cls ≠ "java/lang/invoke/MethodHandle" ∧ yX7_traveller.cls ≠ "java/lang/invoke/VarHandle" ∧ (parseMethodDescriptor yX7_traveller.desc).map (fun d => d.parameters.length) = some 4 := by decide +kernel
theorem mc702 : Cond.code yX7_traveller cX7_traveller 5 (some .int) ∈ zTB := tb_250
theorem mi702 : Cond.instanceMethod yX7_traveller ∈ zTB := tb_248
theorem ms702 : Cond.selects yX7_traveller.cls yX7_traveller yX7_traveller ∈ zTB := tb_249
theorem mn702 : Cond.initialized yX7_traveller.cls ∈ zTB := tb_1
theorem mp703 : yX7_of.cls ≠ "java/lang/invoke/MethodHandle" ∧ yX7_of.cls ≠ "java/lang/invoke/VarHandle" ∧ (parseMethodDescriptor yX7_of.desc).map (fun d => d.parameters.length) = some 2 := by decide +kernel
theorem mc703 : Cond.code yX7_of cX7_of 3 (some .int) ∈ zTB := tb_265
theorem mi703 : Cond.instanceMethod yX7_of ∈ zTB := tb_263
theorem ms703 : Cond.selects yX7_of.cls yX7_of yX7_of ∈ zTB := tb_264
theorem mn703 : Cond.initialized yX7_of.cls ∈ zTB := tb_1
theorem mp704 : yX7_set.cls ≠ "java/lang/invoke/MethodHandle" ∧ yX7_set.cls ≠ "java/lang/invoke/VarHandle" ∧ (parseMethodDescriptor yX7_set.desc).map (fun d => d.parameters.length) = some 3 := by decide +kernel
theorem mc704 : Cond.code yX7_set cX7_set 5 (some .int) ∈ zTB := tb_324
theorem mi704 : Cond.instanceMethod yX7_set ∈ zTB := tb_322
theorem ms704 : Cond.selects yX7_set.cls yX7_set yX7_set ∈ zTB := tb_323
theorem mn704 : Cond.initialized yX7_set.cls ∈ zTB := tb_1
theorem mp705 : yX7_back.cls ≠ "java/lang/invoke/MethodHandle" ∧ yX7_back.cls ≠ "java/lang/invoke/VarHandle" ∧ (parseMethodDescriptor yX7_back.desc).map (fun d => d.parameters.length) = some 2 := by decide +kernel
theorem mc705 : Cond.code yX7_back cX7_back 4 (some .int) ∈ zTB := tb_329
theorem mi705 : Cond.instanceMethod yX7_back ∈ zTB := tb_327
theorem ms705 : Cond.selects yX7_back.cls yX7_back yX7_back ∈ zTB := tb_328
theorem mn705 : Cond.initialized yX7_back.cls ∈ zTB := tb_1
theorem mp706 : yX7_purse.cls ≠ "java/lang/invoke/MethodHandle" ∧ yX7_purse.cls ≠ "java/lang/invoke/VarHandle" ∧ (parseMethodDescriptor yX7_purse.desc).map (fun d => d.parameters.length) = some 1 := by decide +kernel
theorem mc706 : Cond.code yX7_purse cX7_purse 3 (some .int) ∈ zTB := tb_337
theorem mi706 : Cond.instanceMethod yX7_purse ∈ zTB := tb_335
theorem ms706 : Cond.selects yX7_purse.cls yX7_purse yX7_purse ∈ zTB := tb_336
theorem mn706 : Cond.initialized yX7_purse.cls ∈ zTB := tb_1
theorem mp707 : yX7_row.cls ≠ "java/lang/invoke/MethodHandle" ∧ yX7_row.cls ≠ "java/lang/invoke/VarHandle" ∧ (parseMethodDescriptor yX7_row.desc).map (fun d => d.parameters.length) = some 3 := by decide +kernel
theorem mc707 : Cond.code yX7_row cX7_row 5 (some .int) ∈ zTB := tb_342
theorem mi707 : Cond.instanceMethod yX7_row ∈ zTB := tb_340
theorem ms707 : Cond.selects yX7_row.cls yX7_row yX7_row ∈ zTB := tb_341
theorem mn707 : Cond.initialized yX7_row.cls ∈ zTB := tb_1
theorem mp708 : yX7_feed.cls ≠ "java/lang/invoke/MethodHandle" ∧ yX7_feed.cls ≠ "java/lang/invoke/VarHandle" ∧ (parseMethodDescriptor yX7_feed.desc).map (fun d => d.parameters.length) = some 1 := by decide +kernel
theorem mc708 : Cond.code yX7_feed cX7_feed 2 (some .int) ∈ zTB := tb_346
theorem mi708 : Cond.instanceMethod yX7_feed ∈ zTB := tb_344
theorem ms708 : Cond.selects yX7_feed.cls yX7_feed yX7_feed ∈ zTB := tb_345
theorem mn708 : Cond.initialized yX7_feed.cls ∈ zTB := tb_1
theorem mp709 : yX7_season.cls ≠ "java/lang/invoke/MethodHandle" ∧ yX7_season.cls ≠ "java/lang/invoke/VarHandle" ∧ (parseMethodDescriptor yX7_season.desc).map (fun d => d.parameters.length) = some 0 := by decide +kernel
theorem mc709 : Cond.code yX7_season cX7_season 2 (some .int) ∈ zTB := tb_354
theorem mi709 : Cond.instanceMethod yX7_season ∈ zTB := tb_352
theorem ms709 : Cond.selects yX7_season.cls yX7_season yX7_season ∈ zTB := tb_353
theorem mn709 : Cond.initialized yX7_season.cls ∈ zTB := tb_1
theorem mp710 : yX7_told.cls ≠ "java/lang/invoke/MethodHandle" ∧ yX7_told.cls ≠ "java/lang/invoke/VarHandle" ∧ (parseMethodDescriptor yX7_told.desc).map (fun d => d.parameters.length) = some 1 := by decide +kernel
theorem mc710 : Cond.code yX7_told cX7_told 2 (some .int) ∈ zTB := tb_467
theorem mi710 : Cond.instanceMethod yX7_told ∈ zTB := tb_465
theorem ms710 : Cond.selects yX7_told.cls yX7_told yX7_told ∈ zTB := tb_466
theorem mn710 : Cond.initialized yX7_told.cls ∈ zTB := tb_1
theorem mp711 : yX7_pass.cls ≠ "java/lang/invoke/MethodHandle" ∧ yX7_pass.cls ≠ "java/lang/invoke/VarHandle" ∧ (parseMethodDescriptor yX7_pass.desc).map (fun d => d.parameters.length) = some 1 := by decide +kernel
theorem mc711 : Cond.code yX7_pass cX7_pass 2 (some .int) ∈ zTB := tb_477
theorem mi711 : Cond.instanceMethod yX7_pass ∈ zTB := tb_475
theorem ms711 : Cond.selects yX7_pass.cls yX7_pass yX7_pass ∈ zTB := tb_476
theorem mn711 : Cond.initialized yX7_pass.cls ∈ zTB := tb_1
theorem mp712 : yX7_on.cls ≠ "java/lang/invoke/MethodHandle" ∧ yX7_on.cls ≠ "java/lang/invoke/VarHandle" ∧ (parseMethodDescriptor yX7_on.desc).map (fun d => d.parameters.length) = some 2 := by decide +kernel
theorem mc712 : Cond.code yX7_on cX7_on 5 (some .int) ∈ zTB := tb_481
theorem mi712 : Cond.instanceMethod yX7_on ∈ zTB := tb_479
theorem ms712 : Cond.selects yX7_on.cls yX7_on yX7_on ∈ zTB := tb_480
theorem mn712 : Cond.initialized yX7_on.cls ∈ zTB := tb_1
theorem mp713 : yX7_daysToCity.cls ≠ "java/lang/invoke/MethodHandle" ∧ yX7_daysToCity.cls ≠ "java/lang/invoke/VarHandle" ∧ (parseMethodDescriptor yX7_daysToCity.desc).map (fun d => d.parameters.length) = some 1 := by decide +kernel
theorem mc713 : Cond.code yX7_daysToCity cX7_daysToCity 3 (some .int) ∈ zTB := tb_303
theorem mi713 : Cond.instanceMethod yX7_daysToCity ∈ zTB := tb_302
theorem ms713 : Cond.selects yX7_daysToCity.cls yX7_daysToCity yX7_daysToCity ∈ zTB := zTB_in (List.mem_append_left _ (List.mem_of_getElem? (i := 2) (by decide +kernel))) (by decide +kernel)
theorem mn713 : Cond.initialized yX7_daysToCity.cls ∈ zTB := tb_1
theorem mp714 : yX7_pays.cls ≠ "java/lang/invoke/MethodHandle" ∧ yX7_pays.cls ≠ "java/lang/invoke/VarHandle" ∧ (parseMethodDescriptor yX7_pays.desc).map (fun d => d.parameters.length) = some 2 := by decide +kernel
theorem mc714 : Cond.code yX7_pays cX7_pays 3 (some .int) ∈ zTB := tb_485
theorem mi714 : Cond.instanceMethod yX7_pays ∈ zTB := tb_483
theorem ms714 : Cond.selects yX7_pays.cls yX7_pays yX7_pays ∈ zTB := tb_484
theorem mn714 : Cond.initialized yX7_pays.cls ∈ zTB := tb_1
theorem mp715 : yX7_cheapestPay.cls ≠ "java/lang/invoke/MethodHandle" ∧ yX7_cheapestPay.cls ≠ "java/lang/invoke/VarHandle" ∧ (parseMethodDescriptor yX7_cheapestPay.desc).map (fun d => d.parameters.length) = some 1 := by decide +kernel
theorem mc715 : Cond.code yX7_cheapestPay cX7_cheapestPay 6 (some .int) ∈ zTB := tb_489
theorem mi715 : Cond.instanceMethod yX7_cheapestPay ∈ zTB := tb_488
theorem ms715 : Cond.selects yX7_cheapestPay.cls yX7_cheapestPay yX7_cheapestPay ∈ zTB := zTB_in (List.mem_append_left _ (List.mem_of_getElem? (i := 13) (by decide +kernel))) (by decide +kernel)
theorem mn715 : Cond.initialized yX7_cheapestPay.cls ∈ zTB := tb_1
theorem mp716 : yX7_inCityBy.cls ≠ "java/lang/invoke/MethodHandle" ∧ yX7_inCityBy.cls ≠ "java/lang/invoke/VarHandle" ∧ (parseMethodDescriptor yX7_inCityBy.desc).map (fun d => d.parameters.length) = some 2 := by decide +kernel
theorem mc716 : Cond.code yX7_inCityBy cX7_inCityBy 3 (some .int) ∈ zTB := tb_493
theorem mi716 : Cond.instanceMethod yX7_inCityBy ∈ zTB := tb_492
theorem ms716 : Cond.selects yX7_inCityBy.cls yX7_inCityBy yX7_inCityBy ∈ zTB := zTB_in (List.mem_append_left _ (List.mem_of_getElem? (i := 14) (by decide +kernel))) (by decide +kernel)
theorem mn716 : Cond.initialized yX7_inCityBy.cls ∈ zTB := tb_1
theorem mp717 : yX7_richestPay.cls ≠ "java/lang/invoke/MethodHandle" ∧ yX7_richestPay.cls ≠ "java/lang/invoke/VarHandle" ∧ (parseMethodDescriptor yX7_richestPay.desc).map (fun d => d.parameters.length) = some 1 := by decide +kernel
theorem mc717 : Cond.code yX7_richestPay cX7_richestPay 3 (some .int) ∈ zTB := tb_503
theorem mi717 : Cond.instanceMethod yX7_richestPay ∈ zTB := tb_502
theorem ms717 : Cond.selects yX7_richestPay.cls yX7_richestPay yX7_richestPay ∈ zTB := zTB_in (List.mem_append_left _ (List.mem_of_getElem? (i := 15) (by decide +kernel))) (by decide +kernel)
theorem mn717 : Cond.initialized yX7_richestPay.cls ∈ zTB := tb_1
theorem mp718 : yX7_smallestBag.cls ≠ "java/lang/invoke/MethodHandle" ∧ yX7_smallestBag.cls ≠ "java/lang/invoke/VarHandle" ∧ (parseMethodDescriptor yX7_smallestBag.desc).map (fun d => d.parameters.length) = some 1 := by decide +kernel
theorem mc718 : Cond.code yX7_smallestBag cX7_smallestBag 5 (some .int) ∈ zTB := tb_507
theorem mi718 : Cond.instanceMethod yX7_smallestBag ∈ zTB := tb_506
theorem ms718 : Cond.selects yX7_smallestBag.cls yX7_smallestBag yX7_smallestBag ∈ zTB := zTB_in (List.mem_append_left _ (List.mem_of_getElem? (i := 16) (by decide +kernel))) (by decide +kernel)
theorem mn718 : Cond.initialized yX7_smallestBag.cls ∈ zTB := tb_1
theorem mp719 : yX7_keepsAllAway.cls ≠ "java/lang/invoke/MethodHandle" ∧ yX7_keepsAllAway.cls ≠ "java/lang/invoke/VarHandle" ∧ (parseMethodDescriptor yX7_keepsAllAway.desc).map (fun d => d.parameters.length) = some 2 := by decide +kernel
theorem mc719 : Cond.code yX7_keepsAllAway cX7_keepsAllAway 4 (some .boolean) ∈ zTB := tb_511
theorem mi719 : Cond.instanceMethod yX7_keepsAllAway ∈ zTB := tb_510
theorem ms719 : Cond.selects yX7_keepsAllAway.cls yX7_keepsAllAway yX7_keepsAllAway ∈ zTB := zTB_in (List.mem_append_left _ (List.mem_of_getElem? (i := 17) (by decide +kernel))) (by decide +kernel)
theorem mn719 : Cond.initialized yX7_keepsAllAway.cls ∈ zTB := tb_1
theorem mp720 : yX7_see.cls ≠ "java/lang/invoke/MethodHandle" ∧ yX7_see.cls ≠ "java/lang/invoke/VarHandle" ∧ (parseMethodDescriptor yX7_see.desc).map (fun d => d.parameters.length) = some 3 := by decide +kernel
theorem mc720 : Cond.code yX7_see cX7_see 4 (some .int) ∈ zTB := tb_515
theorem mi720 : Cond.instanceMethod yX7_see ∈ zTB := tb_513
theorem ms720 : Cond.selects yX7_see.cls yX7_see yX7_see ∈ zTB := tb_514
theorem mn720 : Cond.initialized yX7_see.cls ∈ zTB := tb_1
theorem mp721 : yX7_can.cls ≠ "java/lang/invoke/MethodHandle" ∧ yX7_can.cls ≠ "java/lang/invoke/VarHandle" ∧ (parseMethodDescriptor yX7_can.desc).map (fun d => d.parameters.length) = some 3 := by decide +kernel
theorem mc721 : Cond.code yX7_can cX7_can 8 (some .int) ∈ zTB := tb_527
theorem mi721 : Cond.instanceMethod yX7_can ∈ zTB := tb_525
theorem ms721 : Cond.selects yX7_can.cls yX7_can yX7_can ∈ zTB := tb_526
theorem mn721 : Cond.initialized yX7_can.cls ∈ zTB := tb_1
theorem mp722 : yX7_places.cls ≠ "java/lang/invoke/MethodHandle" ∧ yX7_places.cls ≠ "java/lang/invoke/VarHandle" ∧ (parseMethodDescriptor yX7_places.desc).map (fun d => d.parameters.length) = some 1 := by decide +kernel
theorem mc722 : Cond.code yX7_places cX7_places 4 (some .int) ∈ zTB := tb_549
theorem mi722 : Cond.instanceMethod yX7_places ∈ zTB := tb_547
theorem ms722 : Cond.selects yX7_places.cls yX7_places yX7_places ∈ zTB := tb_548
theorem mn722 : Cond.initialized yX7_places.cls ∈ zTB := tb_1
theorem mp723 : yX7_seenComesTrue.cls ≠ "java/lang/invoke/MethodHandle" ∧ yX7_seenComesTrue.cls ≠ "java/lang/invoke/VarHandle" ∧ (parseMethodDescriptor yX7_seenComesTrue.desc).map (fun d => d.parameters.length) = some 0 := by decide +kernel
theorem mc723 : Cond.code yX7_seenComesTrue cX7_seenComesTrue 3 (some .boolean) ∈ zTB := tb_531
theorem mi723 : Cond.instanceMethod yX7_seenComesTrue ∈ zTB := tb_530
theorem ms723 : Cond.selects yX7_seenComesTrue.cls yX7_seenComesTrue yX7_seenComesTrue ∈ zTB := zTB_in (List.mem_append_left _ (List.mem_of_getElem? (i := 18) (by decide +kernel))) (by decide +kernel)
theorem mn723 : Cond.initialized yX7_seenComesTrue.cls ∈ zTB := tb_1
theorem mp724 : yX7_odds.cls ≠ "java/lang/invoke/MethodHandle" ∧ yX7_odds.cls ≠ "java/lang/invoke/VarHandle" ∧ (parseMethodDescriptor yX7_odds.desc).map (fun d => d.parameters.length) = some 3 := by decide +kernel
theorem mc724 : Cond.code yX7_odds cX7_odds 6 (some .long) ∈ zTB := tb_553
theorem mi724 : Cond.instanceMethod yX7_odds ∈ zTB := tb_551
theorem ms724 : Cond.selects yX7_odds.cls yX7_odds yX7_odds ∈ zTB := tb_552
theorem mn724 : Cond.initialized yX7_odds.cls ∈ zTB := tb_1
theorem mp725 : yX7_mean.cls ≠ "java/lang/invoke/MethodHandle" ∧ yX7_mean.cls ≠ "java/lang/invoke/VarHandle" ∧ (parseMethodDescriptor yX7_mean.desc).map (fun d => d.parameters.length) = some 2 := by decide +kernel
theorem mc725 : Cond.code yX7_mean cX7_mean 5 (some .long) ∈ zTB := tb_561
theorem mi725 : Cond.instanceMethod yX7_mean ∈ zTB := tb_559
theorem ms725 : Cond.selects yX7_mean.cls yX7_mean yX7_mean ∈ zTB := tb_560
theorem mn725 : Cond.initialized yX7_mean.cls ∈ zTB := tb_1
theorem mp726 : yX7_partOf.cls ≠ "java/lang/invoke/MethodHandle" ∧ yX7_partOf.cls ≠ "java/lang/invoke/VarHandle" ∧ (parseMethodDescriptor yX7_partOf.desc).map (fun d => d.parameters.length) = some 3 := by decide +kernel
theorem mc726 : Cond.code yX7_partOf cX7_partOf 5 (some .long) ∈ zTB := tb_557
theorem mi726 : Cond.static yX7_partOf ∈ zTB := tb_556
theorem mn726 : Cond.initialized yX7_partOf.cls ∈ zTB := tb_1
theorem mp727 : yX7_plan.cls ≠ "java/lang/invoke/MethodHandle" ∧ yX7_plan.cls ≠ "java/lang/invoke/VarHandle" ∧ (parseMethodDescriptor yX7_plan.desc).map (fun d => d.parameters.length) = some 2 := by decide +kernel
theorem mc727 : Cond.code yX7_plan cX7_plan 3 (some .int) ∈ zTB := tb_565
theorem mi727 : Cond.instanceMethod yX7_plan ∈ zTB := tb_563
theorem ms727 : Cond.selects yX7_plan.cls yX7_plan yX7_plan ∈ zTB := tb_564
theorem mn727 : Cond.initialized yX7_plan.cls ∈ zTB := tb_1
theorem mp728 : yX7_ends.cls ≠ "java/lang/invoke/MethodHandle" ∧ yX7_ends.cls ≠ "java/lang/invoke/VarHandle" ∧ (parseMethodDescriptor yX7_ends.desc).map (fun d => d.parameters.length) = some 1 := by decide +kernel
theorem mc728 : Cond.code yX7_ends cX7_ends 3 (some .int) ∈ zTB := tb_569
theorem mi728 : Cond.instanceMethod yX7_ends ∈ zTB := tb_567
theorem ms728 : Cond.selects yX7_ends.cls yX7_ends yX7_ends ∈ zTB := tb_568
theorem mn728 : Cond.initialized yX7_ends.cls ∈ zTB := tb_1
theorem mp729 : yX7_followPlan.cls ≠ "java/lang/invoke/MethodHandle" ∧ yX7_followPlan.cls ≠ "java/lang/invoke/VarHandle" ∧ (parseMethodDescriptor yX7_followPlan.desc).map (fun d => d.parameters.length) = some 2 := by decide +kernel
theorem mc729 : Cond.code yX7_followPlan cX7_followPlan 3 none ∈ zTB := tb_573
theorem mi729 : Cond.instanceMethod yX7_followPlan ∈ zTB := tb_572
theorem ms729 : Cond.selects yX7_followPlan.cls yX7_followPlan yX7_followPlan ∈ zTB := zTB_in (List.mem_append_left _ (List.mem_of_getElem? (i := 19) (by decide +kernel))) (by decide +kernel)
theorem mn729 : Cond.initialized yX7_followPlan.cls ∈ zTB := tb_1
theorem mp730 : yX7_book.cls ≠ "java/lang/invoke/MethodHandle" ∧ yX7_book.cls ≠ "java/lang/invoke/VarHandle" ∧ (parseMethodDescriptor yX7_book.desc).map (fun d => d.parameters.length) = some 2 := by decide +kernel
theorem mc730 : Cond.code yX7_book cX7_book 3 (some .int) ∈ zTB := tb_578
theorem mi730 : Cond.instanceMethod yX7_book ∈ zTB := tb_576
theorem ms730 : Cond.selects yX7_book.cls yX7_book yX7_book ∈ zTB := tb_577
theorem mn730 : Cond.initialized yX7_book.cls ∈ zTB := tb_1
theorem mp731 : yX7_looked.cls ≠ "java/lang/invoke/MethodHandle" ∧ yX7_looked.cls ≠ "java/lang/invoke/VarHandle" ∧ (parseMethodDescriptor yX7_looked.desc).map (fun d => d.parameters.length) = some 0 := by decide +kernel
theorem mc731 : Cond.code yX7_looked cX7_looked 2 (some .int) ∈ zTB := tb_582
theorem mi731 : Cond.instanceMethod yX7_looked ∈ zTB := tb_580
theorem ms731 : Cond.selects yX7_looked.cls yX7_looked yX7_looked ∈ zTB := tb_581
theorem mn731 : Cond.initialized yX7_looked.cls ∈ zTB := tb_1
theorem mp732 : yX7_judge.cls ≠ "java/lang/invoke/MethodHandle" ∧ yX7_judge.cls ≠ "java/lang/invoke/VarHandle" ∧ (parseMethodDescriptor yX7_judge.desc).map (fun d => d.parameters.length) = some 2 := by decide +kernel
theorem mc732 : Cond.code yX7_judge cX7_judge 5 (some .int) ∈ zTB := tb_587
theorem mi732 : Cond.instanceMethod yX7_judge ∈ zTB := tb_585
theorem ms732 : Cond.selects yX7_judge.cls yX7_judge yX7_judge ∈ zTB := tb_586
theorem mn732 : Cond.initialized yX7_judge.cls ∈ zTB := tb_1
theorem mp733 : yX7_image.cls ≠ "java/lang/invoke/MethodHandle" ∧ yX7_image.cls ≠ "java/lang/invoke/VarHandle" ∧ (parseMethodDescriptor yX7_image.desc).map (fun d => d.parameters.length) = some 0 := by decide +kernel
theorem mc733 : Cond.code yX7_image cX7_image 1 (some .int) ∈ zTB := tb_595
theorem mi733 : Cond.instanceMethod yX7_image ∈ zTB := tb_593
theorem ms733 : Cond.selects yX7_image.cls yX7_image yX7_image ∈ zTB := tb_594
theorem mn733 : Cond.initialized yX7_image.cls ∈ zTB := tb_1
theorem mp734 : yX7_undo.cls ≠ "java/lang/invoke/MethodHandle" ∧ yX7_undo.cls ≠ "java/lang/invoke/VarHandle" ∧ (parseMethodDescriptor yX7_undo.desc).map (fun d => d.parameters.length) = some 0 := by decide +kernel
theorem mc734 : Cond.code yX7_undo cX7_undo 1 (some .int) ∈ zTB := tb_608
theorem mi734 : Cond.instanceMethod yX7_undo ∈ zTB := tb_606
theorem ms734 : Cond.selects yX7_undo.cls yX7_undo yX7_undo ∈ zTB := tb_607
theorem mn734 : Cond.initialized yX7_undo.cls ∈ zTB := tb_1
theorem mp735 : yX7_act.cls ≠ "java/lang/invoke/MethodHandle" ∧ yX7_act.cls ≠ "java/lang/invoke/VarHandle" ∧ (parseMethodDescriptor yX7_act.desc).map (fun d => d.parameters.length) = some 3 := by decide +kernel
theorem mc735 : Cond.code yX7_act cX7_act 4 (some .int) ∈ zTB := tb_612
theorem mi735 : Cond.instanceMethod yX7_act ∈ zTB := tb_610
theorem ms735 : Cond.selects yX7_act.cls yX7_act yX7_act ∈ zTB := tb_611
theorem mn735 : Cond.initialized yX7_act.cls ∈ zTB := tb_1
theorem mp736 : yX7_trace.cls ≠ "java/lang/invoke/MethodHandle" ∧ yX7_trace.cls ≠ "java/lang/invoke/VarHandle" ∧ (parseMethodDescriptor yX7_trace.desc).map (fun d => d.parameters.length) = some 1 := by decide +kernel
theorem mc736 : Cond.code yX7_trace cX7_trace 2 (some .int) ∈ zTB := tb_645
theorem mi736 : Cond.instanceMethod yX7_trace ∈ zTB := tb_643
theorem ms736 : Cond.selects yX7_trace.cls yX7_trace yX7_trace ∈ zTB := tb_644
theorem mn736 : Cond.initialized yX7_trace.cls ∈ zTB := tb_1
theorem mp737 : yX7_taken.cls ≠ "java/lang/invoke/MethodHandle" ∧ yX7_taken.cls ≠ "java/lang/invoke/VarHandle" ∧ (parseMethodDescriptor yX7_taken.desc).map (fun d => d.parameters.length) = some 2 := by decide +kernel
theorem mc737 : Cond.code yX7_taken cX7_taken 4 (some .int) ∈ zTB := tb_654
theorem mi737 : Cond.instanceMethod yX7_taken ∈ zTB := tb_652
theorem ms737 : Cond.selects yX7_taken.cls yX7_taken yX7_taken ∈ zTB := tb_653
theorem mn737 : Cond.initialized yX7_taken.cls ∈ zTB := tb_1
theorem mp738 : yX7_count.cls ≠ "java/lang/invoke/MethodHandle" ∧ yX7_count.cls ≠ "java/lang/invoke/VarHandle" ∧ (parseMethodDescriptor yX7_count.desc).map (fun d => d.parameters.length) = some 1 := by decide +kernel
theorem mc738 : Cond.code yX7_count cX7_count 2 (some .int) ∈ zTB := tb_661
theorem mi738 : Cond.instanceMethod yX7_count ∈ zTB := tb_659
theorem ms738 : Cond.selects yX7_count.cls yX7_count yX7_count ∈ zTB := tb_660
theorem mn738 : Cond.initialized yX7_count.cls ∈ zTB := tb_1
theorem mp739 : yX7_tape.cls ≠ "java/lang/invoke/MethodHandle" ∧ yX7_tape.cls ≠ "java/lang/invoke/VarHandle" ∧ (parseMethodDescriptor yX7_tape.desc).map (fun d => d.parameters.length) = some 3 := by decide +kernel
theorem mc739 : Cond.code yX7_tape cX7_tape 4 (some .int) ∈ zTB := tb_665
theorem mi739 : Cond.instanceMethod yX7_tape ∈ zTB := tb_663
theorem ms739 : Cond.selects yX7_tape.cls yX7_tape yX7_tape ∈ zTB := tb_664
theorem mn739 : Cond.initialized yX7_tape.cls ∈ zTB := tb_1
theorem mp740 : yX7_item.cls ≠ "java/lang/invoke/MethodHandle" ∧ yX7_item.cls ≠ "java/lang/invoke/VarHandle" ∧ (parseMethodDescriptor yX7_item.desc).map (fun d => d.parameters.length) = some 3 := by decide +kernel
theorem mc740 : Cond.code yX7_item cX7_item 6 (some .int) ∈ zTB := tb_675
theorem mi740 : Cond.instanceMethod yX7_item ∈ zTB := tb_673
theorem ms740 : Cond.selects yX7_item.cls yX7_item yX7_item ∈ zTB := tb_674
theorem mn740 : Cond.initialized yX7_item.cls ∈ zTB := tb_1
theorem mp741 : yX7_read.cls ≠ "java/lang/invoke/MethodHandle" ∧ yX7_read.cls ≠ "java/lang/invoke/VarHandle" ∧ (parseMethodDescriptor yX7_read.desc).map (fun d => d.parameters.length) = some 2 := by decide +kernel
theorem mc741 : Cond.code yX7_read cX7_read 3 (some .long) ∈ zTB := tb_683
theorem mi741 : Cond.instanceMethod yX7_read ∈ zTB := tb_681
theorem ms741 : Cond.selects yX7_read.cls yX7_read yX7_read ∈ zTB := tb_682
theorem mn741 : Cond.initialized yX7_read.cls ∈ zTB := tb_1
theorem mp742 : yX7_shift.cls ≠ "java/lang/invoke/MethodHandle" ∧ yX7_shift.cls ≠ "java/lang/invoke/VarHandle" ∧ (parseMethodDescriptor yX7_shift.desc).map (fun d => d.parameters.length) = some 5 := by decide +kernel
theorem mc742 : Cond.code yX7_shift cX7_shift 8 (some .int) ∈ zTB := tb_687
theorem mi742 : Cond.instanceMethod yX7_shift ∈ zTB := tb_685
theorem ms742 : Cond.selects yX7_shift.cls yX7_shift yX7_shift ∈ zTB := tb_686
theorem mn742 : Cond.initialized yX7_shift.cls ∈ zTB := tb_1
theorem mp743 : yX7_isThere.cls ≠ "java/lang/invoke/MethodHandle" ∧ yX7_isThere.cls ≠ "java/lang/invoke/VarHandle" ∧ (parseMethodDescriptor yX7_isThere.desc).map (fun d => d.parameters.length) = some 1 := by decide +kernel
theorem mc743 : Cond.code yX7_isThere cX7_isThere 2 (some .boolean) ∈ zTB := tb_269
theorem mi743 : Cond.instanceMethod yX7_isThere ∈ zTB := tb_268
theorem ms743 : Cond.selects yX7_isThere.cls yX7_isThere yX7_isThere ∈ zTB := zTB_in (List.mem_append_left _ (List.mem_of_getElem? (i := 0) (by decide +kernel))) (by decide +kernel)
theorem mn743 : Cond.initialized yX7_isThere.cls ∈ zTB := tb_1
theorem mp744 : yX7_within.cls ≠ "java/lang/invoke/MethodHandle" ∧ yX7_within.cls ≠ "java/lang/invoke/VarHandle" ∧ (parseMethodDescriptor yX7_within.desc).map (fun d => d.parameters.length) = some 2 := by decide +kernel
theorem mc744 : Cond.code yX7_within cX7_within 2 (some .boolean) ∈ zTB := tb_253
theorem mi744 : Cond.static yX7_within ∈ zTB := tb_252
theorem mn744 : Cond.initialized yX7_within.cls ∈ zTB := tb_1
theorem mp801 : yX8_init.cls ≠ "java/lang/invoke/MethodHandle" ∧ yX8_init.cls ≠ "java/lang/invoke/VarHandle" ∧ (parseMethodDescriptor yX8_init.desc).map (fun d => d.parameters.length) = some 0 := by decide +kernel
theorem mc801 : Cond.code yX8_init cX8_init 1 none ∈ zTB := tb_699
theorem mi801 : Cond.instanceMethod yX8_init ∈ zTB := tb_698
theorem mn801 : Cond.initialized yX8_init.cls ∈ zTB := tb_10
theorem mp802 : yX8_isIn.cls ≠ "java/lang/invoke/MethodHandle" ∧ yX8_isIn.cls ≠ "java/lang/invoke/VarHandle" ∧ (parseMethodDescriptor yX8_isIn.desc).map (fun d => d.parameters.length) = some 3 := by decide +kernel
theorem mc802 : Cond.code yX8_isIn cX8_isIn 3 (some .boolean) ∈ zTB := tb_810
theorem mi802 : Cond.static yX8_isIn ∈ zTB := tb_809
theorem mn802 : Cond.initialized yX8_isIn.cls ∈ zTB := tb_10
theorem mp803 : yX8_fresh.cls ≠ "java/lang/invoke/MethodHandle" ∧ yX8_fresh.cls ≠ "java/lang/invoke/VarHandle" ∧ (parseMethodDescriptor yX8_fresh.desc).map (fun d => d.parameters.length) = some 0 := by decide +kernel
theorem mc803 : Cond.code yX8_fresh cX8_fresh 1 (some (.array .int)) ∈ zTB := tb_703
theorem mi803 : Cond.static yX8_fresh ∈ zTB := tb_702
theorem mn803 : Cond.initialized yX8_fresh.cls ∈ zTB := tb_10
theorem mp804 : yX8_move.cls ≠ "java/lang/invoke/MethodHandle" ∧ yX8_move.cls ≠ "java/lang/invoke/VarHandle" ∧ (parseMethodDescriptor yX8_move.desc).map (fun d => d.parameters.length) = some 2 := by decide +kernel
theorem mc804 : Cond.code yX8_move cX8_move 3 none ∈ zTB := tb_799
theorem mi804 : Cond.static yX8_move ∈ zTB := tb_798
theorem mn804 : Cond.initialized yX8_move.cls ∈ zTB := tb_10
theorem mp805 : yX8_image.cls ≠ "java/lang/invoke/MethodHandle" ∧ yX8_image.cls ≠ "java/lang/invoke/VarHandle" ∧ (parseMethodDescriptor yX8_image.desc).map (fun d => d.parameters.length) = some 0 := by decide +kernel
theorem mc805 : Cond.code yX8_image cX8_image 1 (some .int) ∈ zTB := tb_796
theorem mi805 : Cond.instanceMethod yX8_image ∈ zTB := tb_794
theorem ms805 : Cond.selects yX8_image.cls yX8_image yX8_image ∈ zTB := tb_795
theorem mn805 : Cond.initialized yX8_image.cls ∈ zTB := tb_10
theorem mp806 : yX8_undo.cls ≠ "java/lang/invoke/MethodHandle" ∧ yX8_undo.cls ≠ "java/lang/invoke/VarHandle" ∧ (parseMethodDescriptor yX8_undo.desc).map (fun d => d.parameters.length) = some 0 := by decide +kernel
theorem mc806 : Cond.code yX8_undo cX8_undo 1 (some .int) ∈ zTB := tb_803
theorem mi806 : Cond.instanceMethod yX8_undo ∈ zTB := tb_801
theorem ms806 : Cond.selects yX8_undo.cls yX8_undo yX8_undo ∈ zTB := tb_802
theorem mn806 : Cond.initialized yX8_undo.cls ∈ zTB := tb_10
theorem mp807 : yX8_isOne.cls ≠ "java/lang/invoke/MethodHandle" ∧ yX8_isOne.cls ≠ "java/lang/invoke/VarHandle" ∧ (parseMethodDescriptor yX8_isOne.desc).map (fun d => d.parameters.length) = some 1 := by decide +kernel
theorem mc807 : Cond.code yX8_isOne cX8_isOne 2 (some .boolean) ∈ zTB := tb_818
theorem mi807 : Cond.instanceMethod yX8_isOne ∈ zTB := tb_817
theorem ms807 : Cond.selects yX8_isOne.cls yX8_isOne yX8_isOne ∈ zTB := zTB_in (List.mem_append_left _ (List.mem_of_getElem? (i := 24) (by decide +kernel))) (by decide +kernel)
theorem mn807 : Cond.initialized yX8_isOne.cls ∈ zTB := tb_10
theorem mp808 : yX8_one.cls ≠ "java/lang/invoke/MethodHandle" ∧ yX8_one.cls ≠ "java/lang/invoke/VarHandle" ∧ (parseMethodDescriptor yX8_one.desc).map (fun d => d.parameters.length) = some 2 := by decide +kernel
theorem mc808 : Cond.code yX8_one cX8_one 3 (some .int) ∈ zTB := tb_822
theorem mi808 : Cond.instanceMethod yX8_one ∈ zTB := tb_821
theorem ms808 : Cond.selects yX8_one.cls yX8_one yX8_one ∈ zTB := zTB_in (List.mem_append_left _ (List.mem_of_getElem? (i := 25) (by decide +kernel))) (by decide +kernel)
theorem mn808 : Cond.initialized yX8_one.cls ∈ zTB := tb_10
theorem mp809 : yX8_change.cls ≠ "java/lang/invoke/MethodHandle" ∧ yX8_change.cls ≠ "java/lang/invoke/VarHandle" ∧ (parseMethodDescriptor yX8_change.desc).map (fun d => d.parameters.length) = some 3 := by decide +kernel
theorem mc809 : Cond.code yX8_change cX8_change 5 (some .int) ∈ zTB := tb_891
theorem mi809 : Cond.instanceMethod yX8_change ∈ zTB := tb_890
theorem ms809 : Cond.selects yX8_change.cls yX8_change yX8_change ∈ zTB := zTB_in (List.mem_append_left _ (List.mem_of_getElem? (i := 42) (by decide +kernel))) (by decide +kernel)
theorem mn809 : Cond.initialized yX8_change.cls ∈ zTB := tb_10
theorem mp810 : yX8_traveller.cls ≠ "java/lang/invoke/MethodHandle" ∧ yX8_traveller.cls ≠ "java/lang/invoke/VarHandle" ∧ (parseMethodDescriptor yX8_traveller.desc).map (fun d => d.parameters.length) = some 4 := by decide +kernel
theorem mc810 : Cond.code yX8_traveller cX8_traveller 7 (some .int) ∈ zTB := tb_807
theorem mi810 : Cond.instanceMethod yX8_traveller ∈ zTB := tb_805
theorem ms810 : Cond.selects yX8_traveller.cls yX8_traveller yX8_traveller ∈ zTB := tb_806
theorem mn810 : Cond.initialized yX8_traveller.cls ∈ zTB := tb_10
theorem mp811 : yX8_of.cls ≠ "java/lang/invoke/MethodHandle" ∧ yX8_of.cls ≠ "java/lang/invoke/VarHandle" ∧ (parseMethodDescriptor yX8_of.desc).map (fun d => d.parameters.length) = some 2 := by decide +kernel
theorem mc811 : Cond.code yX8_of cX8_of 3 (some .int) ∈ zTB := tb_814
theorem mi811 : Cond.instanceMethod yX8_of ∈ zTB := tb_812
theorem ms811 : Cond.selects yX8_of.cls yX8_of yX8_of ∈ zTB := tb_813
theorem mn811 : Cond.initialized yX8_of.cls ∈ zTB := tb_10
theorem mp812 : yX8_set.cls ≠ "java/lang/invoke/MethodHandle" ∧ yX8_set.cls ≠ "java/lang/invoke/VarHandle" ∧ (parseMethodDescriptor yX8_set.desc).map (fun d => d.parameters.length) = some 3 := by decide +kernel
theorem mc812 : Cond.code yX8_set cX8_set 4 (some .int) ∈ zTB := tb_895
theorem mi812 : Cond.instanceMethod yX8_set ∈ zTB := tb_893
theorem ms812 : Cond.selects yX8_set.cls yX8_set yX8_set ∈ zTB := tb_894
theorem mn812 : Cond.initialized yX8_set.cls ∈ zTB := tb_10
theorem mp813 : yX8_isOnTheWay.cls ≠ "java/lang/invoke/MethodHandle" ∧ yX8_isOnTheWay.cls ≠ "java/lang/invoke/VarHandle" ∧ (parseMethodDescriptor yX8_isOnTheWay.desc).map (fun d => d.parameters.length) = some 1 := by decide +kernel
theorem mc813 : Cond.code yX8_isOnTheWay cX8_isOnTheWay 2 (some .boolean) ∈ zTB := tb_903
theorem mi813 : Cond.instanceMethod yX8_isOnTheWay ∈ zTB := tb_902
theorem ms813 : Cond.selects yX8_isOnTheWay.cls yX8_isOnTheWay yX8_isOnTheWay ∈ zTB := zTB_in (List.mem_append_left _ (List.mem_of_getElem? (i := 43) (by decide +kernel))) (by decide +kernel)
theorem mn813 : Cond.initialized yX8_isOnTheWay.cls ∈ zTB := tb_10
theorem mp814 : yX8_back.cls ≠ "java/lang/invoke/MethodHandle" ∧ yX8_back.cls ≠ "java/lang/invoke/VarHandle" ∧ (parseMethodDescriptor yX8_back.desc).map (fun d => d.parameters.length) = some 2 := by decide +kernel
theorem mc814 : Cond.code yX8_back cX8_back 3 (some .int) ∈ zTB := tb_899
theorem mi814 : Cond.instanceMethod yX8_back ∈ zTB := tb_897
theorem ms814 : Cond.selects yX8_back.cls yX8_back yX8_back ∈ zTB := tb_898
theorem mn814 : Cond.initialized yX8_back.cls ∈ zTB := tb_10
theorem mp815 : yX8_purse.cls ≠ "java/lang/invoke/MethodHandle" ∧ yX8_purse.cls ≠ "java/lang/invoke/VarHandle" ∧ (parseMethodDescriptor yX8_purse.desc).map (fun d => d.parameters.length) = some 1 := by decide +kernel
theorem mc815 : Cond.code yX8_purse cX8_purse 3 (some .int) ∈ zTB := tb_907
theorem mi815 : Cond.instanceMethod yX8_purse ∈ zTB := tb_905
theorem ms815 : Cond.selects yX8_purse.cls yX8_purse yX8_purse ∈ zTB := tb_906
theorem mn815 : Cond.initialized yX8_purse.cls ∈ zTB := tb_10
theorem mp816 : yX8_row.cls ≠ "java/lang/invoke/MethodHandle" ∧ yX8_row.cls ≠ "java/lang/invoke/VarHandle" ∧ (parseMethodDescriptor yX8_row.desc).map (fun d => d.parameters.length) = some 3 := by decide +kernel
theorem mc816 : Cond.code yX8_row cX8_row 4 (some .int) ∈ zTB := tb_912
theorem mi816 : Cond.instanceMethod yX8_row ∈ zTB := tb_910
theorem ms816 : Cond.selects yX8_row.cls yX8_row yX8_row ∈ zTB := tb_911
theorem mn816 : Cond.initialized yX8_row.cls ∈ zTB := tb_10
theorem mp817 : yX8_feed.cls ≠ "java/lang/invoke/MethodHandle" ∧ yX8_feed.cls ≠ "java/lang/invoke/VarHandle" ∧ (parseMethodDescriptor yX8_feed.desc).map (fun d => d.parameters.length) = some 1 := by decide +kernel
theorem mc817 : Cond.code yX8_feed cX8_feed 2 (some .int) ∈ zTB := tb_916
theorem mi817 : Cond.instanceMethod yX8_feed ∈ zTB := tb_914
theorem ms817 : Cond.selects yX8_feed.cls yX8_feed yX8_feed ∈ zTB := tb_915
theorem mn817 : Cond.initialized yX8_feed.cls ∈ zTB := tb_10
theorem mp818 : yX8_isAt.cls ≠ "java/lang/invoke/MethodHandle" ∧ yX8_isAt.cls ≠ "java/lang/invoke/VarHandle" ∧ (parseMethodDescriptor yX8_isAt.desc).map (fun d => d.parameters.length) = some 1 := by decide +kernel
theorem mc818 : Cond.code yX8_isAt cX8_isAt 2 (some .boolean) ∈ zTB := tb_842
theorem mi818 : Cond.instanceMethod yX8_isAt ∈ zTB := tb_841
theorem ms818 : Cond.selects yX8_isAt.cls yX8_isAt yX8_isAt ∈ zTB := zTB_in (List.mem_append_left _ (List.mem_of_getElem? (i := 30) (by decide +kernel))) (by decide +kernel)
theorem mn818 : Cond.initialized yX8_isAt.cls ∈ zTB := tb_10
theorem mp819 : yX8_takes.cls ≠ "java/lang/invoke/MethodHandle" ∧ yX8_takes.cls ≠ "java/lang/invoke/VarHandle" ∧ (parseMethodDescriptor yX8_takes.desc).map (fun d => d.parameters.length) = some 1 := by decide +kernel
theorem mc819 : Cond.code yX8_takes cX8_takes 2 none ∈ zTB := tb_846
theorem mi819 : Cond.instanceMethod yX8_takes ∈ zTB := tb_845
theorem ms819 : Cond.selects yX8_takes.cls yX8_takes yX8_takes ∈ zTB := zTB_in (List.mem_append_left _ (List.mem_of_getElem? (i := 31) (by decide +kernel))) (by decide +kernel)
theorem mn819 : Cond.initialized yX8_takes.cls ∈ zTB := tb_10
theorem mp820 : yX8_isDigit.cls ≠ "java/lang/invoke/MethodHandle" ∧ yX8_isDigit.cls ≠ "java/lang/invoke/VarHandle" ∧ (parseMethodDescriptor yX8_isDigit.desc).map (fun d => d.parameters.length) = some 0 := by decide +kernel
theorem mc820 : Cond.code yX8_isDigit cX8_isDigit 1 (some .boolean) ∈ zTB := tb_854
theorem mi820 : Cond.instanceMethod yX8_isDigit ∈ zTB := tb_853
theorem ms820 : Cond.selects yX8_isDigit.cls yX8_isDigit yX8_isDigit ∈ zTB := zTB_in (List.mem_append_left _ (List.mem_of_getElem? (i := 33) (by decide +kernel))) (by decide +kernel)
theorem mn820 : Cond.initialized yX8_isDigit.cls ∈ zTB := tb_10
theorem mp821 : yX8_number.cls ≠ "java/lang/invoke/MethodHandle" ∧ yX8_number.cls ≠ "java/lang/invoke/VarHandle" ∧ (parseMethodDescriptor yX8_number.desc).map (fun d => d.parameters.length) = some 0 := by decide +kernel
theorem mc821 : Cond.code yX8_number cX8_number 2 (some .int) ∈ zTB := tb_850
theorem mi821 : Cond.instanceMethod yX8_number ∈ zTB := tb_849
theorem ms821 : Cond.selects yX8_number.cls yX8_number yX8_number ∈ zTB := zTB_in (List.mem_append_left _ (List.mem_of_getElem? (i := 32) (by decide +kernel))) (by decide +kernel)
theorem mn821 : Cond.initialized yX8_number.cls ∈ zTB := tb_10
theorem mp822 : yX8_test.cls ≠ "java/lang/invoke/MethodHandle" ∧ yX8_test.cls ≠ "java/lang/invoke/VarHandle" ∧ (parseMethodDescriptor yX8_test.desc).map (fun d => d.parameters.length) = some 0 := by decide +kernel
theorem mc822 : Cond.code yX8_test cX8_test 4 (some .boolean) ∈ zTB := tb_870
theorem mi822 : Cond.instanceMethod yX8_test ∈ zTB := tb_869
theorem ms822 : Cond.selects yX8_test.cls yX8_test yX8_test ∈ zTB := zTB_in (List.mem_append_left _ (List.mem_of_getElem? (i := 37) (by decide +kernel))) (by decide +kernel)
theorem mn822 : Cond.initialized yX8_test.cls ∈ zTB := tb_10
theorem mp823 : yX8_factor.cls ≠ "java/lang/invoke/MethodHandle" ∧ yX8_factor.cls ≠ "java/lang/invoke/VarHandle" ∧ (parseMethodDescriptor yX8_factor.desc).map (fun d => d.parameters.length) = some 0 := by decide +kernel
theorem mc823 : Cond.code yX8_factor cX8_factor 2 (some .boolean) ∈ zTB := tb_866
theorem mi823 : Cond.instanceMethod yX8_factor ∈ zTB := tb_865
theorem ms823 : Cond.selects yX8_factor.cls yX8_factor yX8_factor ∈ zTB := zTB_in (List.mem_append_left _ (List.mem_of_getElem? (i := 36) (by decide +kernel))) (by decide +kernel)
theorem mn823 : Cond.initialized yX8_factor.cls ∈ zTB := tb_10
theorem mp824 : yX8_both.cls ≠ "java/lang/invoke/MethodHandle" ∧ yX8_both.cls ≠ "java/lang/invoke/VarHandle" ∧ (parseMethodDescriptor yX8_both.desc).map (fun d => d.parameters.length) = some 0 := by decide +kernel
theorem mc824 : Cond.code yX8_both cX8_both 3 (some .boolean) ∈ zTB := tb_862
theorem mi824 : Cond.instanceMethod yX8_both ∈ zTB := tb_861
theorem ms824 : Cond.selects yX8_both.cls yX8_both yX8_both ∈ zTB := zTB_in (List.mem_append_left _ (List.mem_of_getElem? (i := 35) (by decide +kernel))) (by decide +kernel)
theorem mn824 : Cond.initialized yX8_both.cls ∈ zTB := tb_10
theorem mp825 : yX8_any.cls ≠ "java/lang/invoke/MethodHandle" ∧ yX8_any.cls ≠ "java/lang/invoke/VarHandle" ∧ (parseMethodDescriptor yX8_any.desc).map (fun d => d.parameters.length) = some 0 := by decide +kernel
theorem mc825 : Cond.code yX8_any cX8_any 3 (some .boolean) ∈ zTB := tb_858
theorem mi825 : Cond.instanceMethod yX8_any ∈ zTB := tb_857
theorem ms825 : Cond.selects yX8_any.cls yX8_any yX8_any ∈ zTB := zTB_in (List.mem_append_left _ (List.mem_of_getElem? (i := 34) (by decide +kernel))) (by decide +kernel)
theorem mn825 : Cond.initialized yX8_any.cls ∈ zTB := tb_10
theorem mp826 : yX8_clause.cls ≠ "java/lang/invoke/MethodHandle" ∧ yX8_clause.cls ≠ "java/lang/invoke/VarHandle" ∧ (parseMethodDescriptor yX8_clause.desc).map (fun d => d.parameters.length) = some 0 := by decide +kernel
theorem mc826 : Cond.code yX8_clause cX8_clause 4 none ∈ zTB := tb_838
theorem mi826 : Cond.instanceMethod yX8_clause ∈ zTB := tb_837
theorem ms826 : Cond.selects yX8_clause.cls yX8_clause yX8_clause ∈ zTB := zTB_in (List.mem_append_left _ (List.mem_of_getElem? (i := 29) (by decide +kernel))) (by decide +kernel)
theorem mn826 : Cond.initialized yX8_clause.cls ∈ zTB := tb_10
theorem mp827 : yX8_readAll.cls ≠ "java/lang/invoke/MethodHandle" ∧ yX8_readAll.cls ≠ "java/lang/invoke/VarHandle" ∧ (parseMethodDescriptor yX8_readAll.desc).map (fun d => d.parameters.length) = some 0 := by decide +kernel
theorem mc827 : Cond.code yX8_readAll cX8_readAll 2 (some .boolean) ∈ zTB := tb_834
theorem mi827 : Cond.instanceMethod yX8_readAll ∈ zTB := tb_833
theorem ms827 : Cond.selects yX8_readAll.cls yX8_readAll yX8_readAll ∈ zTB := zTB_in (List.mem_append_left _ (List.mem_of_getElem? (i := 28) (by decide +kernel))) (by decide +kernel)
theorem mn827 : Cond.initialized yX8_readAll.cls ∈ zTB := tb_10
theorem mp828 : yX8_readFor.cls ≠ "java/lang/invoke/MethodHandle" ∧ yX8_readFor.cls ≠ "java/lang/invoke/VarHandle" ∧ (parseMethodDescriptor yX8_readFor.desc).map (fun d => d.parameters.length) = some 1 := by decide +kernel
theorem mc828 : Cond.code yX8_readFor cX8_readFor 4 none ∈ zTB := tb_830
theorem mi828 : Cond.instanceMethod yX8_readFor ∈ zTB := tb_829
theorem ms828 : Cond.selects yX8_readFor.cls yX8_readFor yX8_readFor ∈ zTB := zTB_in (List.mem_append_left _ (List.mem_of_getElem? (i := 27) (by decide +kernel))) (by decide +kernel)
theorem mn828 : Cond.initialized yX8_readFor.cls ∈ zTB := tb_10
theorem mp829 : yX8_season.cls ≠ "java/lang/invoke/MethodHandle" ∧ yX8_season.cls ≠ "java/lang/invoke/VarHandle" ∧ (parseMethodDescriptor yX8_season.desc).map (fun d => d.parameters.length) = some 0 := by decide +kernel
theorem mc829 : Cond.code yX8_season cX8_season 2 (some .int) ∈ zTB := tb_920
theorem mi829 : Cond.instanceMethod yX8_season ∈ zTB := tb_918
theorem ms829 : Cond.selects yX8_season.cls yX8_season yX8_season ∈ zTB := tb_919
theorem mn829 : Cond.initialized yX8_season.cls ∈ zTB := tb_10
theorem mp830 : yX8_isAnother.cls ≠ "java/lang/invoke/MethodHandle" ∧ yX8_isAnother.cls ≠ "java/lang/invoke/VarHandle" ∧ (parseMethodDescriptor yX8_isAnother.desc).map (fun d => d.parameters.length) = some 1 := by decide +kernel
theorem mc830 : Cond.code yX8_isAnother cX8_isAnother 4 (some .boolean) ∈ zTB := tb_875
theorem mi830 : Cond.instanceMethod yX8_isAnother ∈ zTB := tb_874
theorem ms830 : Cond.selects yX8_isAnother.cls yX8_isAnother yX8_isAnother ∈ zTB := zTB_in (List.mem_append_left _ (List.mem_of_getElem? (i := 38) (by decide +kernel))) (by decide +kernel)
theorem mn830 : Cond.initialized yX8_isAnother.cls ∈ zTB := tb_10
theorem mp831 : yX8_offer.cls ≠ "java/lang/invoke/MethodHandle" ∧ yX8_offer.cls ≠ "java/lang/invoke/VarHandle" ∧ (parseMethodDescriptor yX8_offer.desc).map (fun d => d.parameters.length) = some 1 := by decide +kernel
theorem mc831 : Cond.code yX8_offer cX8_offer 4 (some .int) ∈ zTB := tb_826
theorem mi831 : Cond.instanceMethod yX8_offer ∈ zTB := tb_825
theorem ms831 : Cond.selects yX8_offer.cls yX8_offer yX8_offer ∈ zTB := zTB_in (List.mem_append_left _ (List.mem_of_getElem? (i := 26) (by decide +kernel))) (by decide +kernel)
theorem mn831 : Cond.initialized yX8_offer.cls ∈ zTB := tb_10
theorem mp832 : yX8_goes.cls ≠ "java/lang/invoke/MethodHandle" ∧ yX8_goes.cls ≠ "java/lang/invoke/VarHandle" ∧ (parseMethodDescriptor yX8_goes.desc).map (fun d => d.parameters.length) = some 1 := by decide +kernel
theorem mc832 : Cond.code yX8_goes cX8_goes 4 none ∈ zTB := tb_887
theorem mi832 : Cond.instanceMethod yX8_goes ∈ zTB := tb_886
theorem ms832 : Cond.selects yX8_goes.cls yX8_goes yX8_goes ∈ zTB := zTB_in (List.mem_append_left _ (List.mem_of_getElem? (i := 41) (by decide +kernel))) (by decide +kernel)
theorem mn832 : Cond.initialized yX8_goes.cls ∈ zTB := tb_10
theorem mp833 : yX8_day.cls ≠ "java/lang/invoke/MethodHandle" ∧ yX8_day.cls ≠ "java/lang/invoke/VarHandle" ∧ (parseMethodDescriptor yX8_day.desc).map (fun d => d.parameters.length) = some 0 := by decide +kernel
theorem mc833 : Cond.code yX8_day cX8_day 2 none ∈ zTB := tb_883
theorem mi833 : Cond.instanceMethod yX8_day ∈ zTB := tb_882
theorem ms833 : Cond.selects yX8_day.cls yX8_day yX8_day ∈ zTB := zTB_in (List.mem_append_left _ (List.mem_of_getElem? (i := 40) (by decide +kernel))) (by decide +kernel)
theorem mn833 : Cond.initialized yX8_day.cls ∈ zTB := tb_10
theorem mp834 : yX8_days.cls ≠ "java/lang/invoke/MethodHandle" ∧ yX8_days.cls ≠ "java/lang/invoke/VarHandle" ∧ (parseMethodDescriptor yX8_days.desc).map (fun d => d.parameters.length) = some 1 := by decide +kernel
theorem mc834 : Cond.code yX8_days cX8_days 3 none ∈ zTB := tb_944
theorem mi834 : Cond.instanceMethod yX8_days ∈ zTB := tb_943
theorem ms834 : Cond.selects yX8_days.cls yX8_days yX8_days ∈ zTB := zTB_in (List.mem_append_left _ (List.mem_of_getElem? (i := 47) (by decide +kernel))) (by decide +kernel)
theorem mn834 : Cond.initialized yX8_days.cls ∈ zTB := tb_10
theorem mp835 : yX8_standing.cls ≠ "java/lang/invoke/MethodHandle" ∧ yX8_standing.cls ≠ "java/lang/invoke/VarHandle" ∧ (parseMethodDescriptor yX8_standing.desc).map (fun d => d.parameters.length) = some 1 := by decide +kernel
theorem mc835 : Cond.code yX8_standing cX8_standing 4 (some .int) ∈ zTB := tb_932
theorem mi835 : Cond.instanceMethod yX8_standing ∈ zTB := tb_931
theorem ms835 : Cond.selects yX8_standing.cls yX8_standing yX8_standing ∈ zTB := zTB_in (List.mem_append_left _ (List.mem_of_getElem? (i := 45) (by decide +kernel))) (by decide +kernel)
theorem mn835 : Cond.initialized yX8_standing.cls ∈ zTB := tb_10
theorem mp836 : yX8_backs.cls ≠ "java/lang/invoke/MethodHandle" ∧ yX8_backs.cls ≠ "java/lang/invoke/VarHandle" ∧ (parseMethodDescriptor yX8_backs.desc).map (fun d => d.parameters.length) = some 0 := by decide +kernel
theorem mc836 : Cond.code yX8_backs cX8_backs 3 (some .int) ∈ zTB := tb_936
theorem mi836 : Cond.instanceMethod yX8_backs ∈ zTB := tb_935
theorem ms836 : Cond.selects yX8_backs.cls yX8_backs yX8_backs ∈ zTB := zTB_in (List.mem_append_left _ (List.mem_of_getElem? (i := 46) (by decide +kernel))) (by decide +kernel)
theorem mn836 : Cond.initialized yX8_backs.cls ∈ zTB := tb_10
theorem mp837 : yX8_gets.cls ≠ "java/lang/invoke/MethodHandle" ∧ yX8_gets.cls ≠ "java/lang/invoke/VarHandle" ∧ (parseMethodDescriptor yX8_gets.desc).map (fun d => d.parameters.length) = some 1 := by decide +kernel
theorem mc837 : Cond.code yX8_gets cX8_gets 4 (some .int) ∈ zTB := tb_879
theorem mi837 : Cond.instanceMethod yX8_gets ∈ zTB := tb_878
theorem ms837 : Cond.selects yX8_gets.cls yX8_gets yX8_gets ∈ zTB := zTB_in (List.mem_append_left _ (List.mem_of_getElem? (i := 39) (by decide +kernel))) (by decide +kernel)
theorem mn837 : Cond.initialized yX8_gets.cls ∈ zTB := tb_10
theorem mp838 : yX8_payNow.cls ≠ "java/lang/invoke/MethodHandle" ∧ yX8_payNow.cls ≠ "java/lang/invoke/VarHandle" ∧ (parseMethodDescriptor yX8_payNow.desc).map (fun d => d.parameters.length) = some 0 := by decide +kernel
theorem mc838 : Cond.code yX8_payNow cX8_payNow 1 (some .int) ∈ zTB := tb_928
theorem mi838 : Cond.instanceMethod yX8_payNow ∈ zTB := tb_927
theorem ms838 : Cond.selects yX8_payNow.cls yX8_payNow yX8_payNow ∈ zTB := zTB_in (List.mem_append_left _ (List.mem_of_getElem? (i := 44) (by decide +kernel))) (by decide +kernel)
theorem mn838 : Cond.initialized yX8_payNow.cls ∈ zTB := tb_10
theorem mp839 : yX8_told.cls ≠ "java/lang/invoke/MethodHandle" ∧ yX8_told.cls ≠ "java/lang/invoke/VarHandle" ∧ (parseMethodDescriptor yX8_told.desc).map (fun d => d.parameters.length) = some 1 := by decide +kernel
theorem mc839 : Cond.code yX8_told cX8_told 2 (some .int) ∈ zTB := tb_924
theorem mi839 : Cond.instanceMethod yX8_told ∈ zTB := tb_922
theorem ms839 : Cond.selects yX8_told.cls yX8_told yX8_told ∈ zTB := tb_923
theorem mn839 : Cond.initialized yX8_told.cls ∈ zTB := tb_10
theorem mp840 : yX8_pass.cls ≠ "java/lang/invoke/MethodHandle" ∧ yX8_pass.cls ≠ "java/lang/invoke/VarHandle" ∧ (parseMethodDescriptor yX8_pass.desc).map (fun d => d.parameters.length) = some 1 := by decide +kernel
theorem mc840 : Cond.code yX8_pass cX8_pass 2 (some .int) ∈ zTB := tb_940
theorem mi840 : Cond.instanceMethod yX8_pass ∈ zTB := tb_938
theorem ms840 : Cond.selects yX8_pass.cls yX8_pass yX8_pass ∈ zTB := tb_939
theorem mn840 : Cond.initialized yX8_pass.cls ∈ zTB := tb_10
theorem mp841 : yX8_on.cls ≠ "java/lang/invoke/MethodHandle" ∧ yX8_on.cls ≠ "java/lang/invoke/VarHandle" ∧ (parseMethodDescriptor yX8_on.desc).map (fun d => d.parameters.length) = some 2 := by decide +kernel
theorem mc841 : Cond.code yX8_on cX8_on 4 (some .int) ∈ zTB := tb_948
theorem mi841 : Cond.instanceMethod yX8_on ∈ zTB := tb_946
theorem ms841 : Cond.selects yX8_on.cls yX8_on yX8_on ∈ zTB := tb_947
theorem mn841 : Cond.initialized yX8_on.cls ∈ zTB := tb_10
theorem mp842 : yX8_many.cls ≠ "java/lang/invoke/MethodHandle" ∧ yX8_many.cls ≠ "java/lang/invoke/VarHandle" ∧ (parseMethodDescriptor yX8_many.desc).map (fun d => d.parameters.length) = some 1 := by decide +kernel
theorem mc842 : Cond.code yX8_many cX8_many 3 (some .int) ∈ zTB := tb_960
theorem mi842 : Cond.static yX8_many ∈ zTB := tb_959
theorem mn842 : Cond.initialized yX8_many.cls ∈ zTB := tb_10
theorem mp843 : yX8_cheap.cls ≠ "java/lang/invoke/MethodHandle" ∧ yX8_cheap.cls ≠ "java/lang/invoke/VarHandle" ∧ (parseMethodDescriptor yX8_cheap.desc).map (fun d => d.parameters.length) = some 2 := by decide +kernel
theorem mc843 : Cond.code yX8_cheap cX8_cheap 7 (some .int) ∈ zTB := tb_956
theorem mi843 : Cond.instanceMethod yX8_cheap ∈ zTB := tb_955
theorem ms843 : Cond.selects yX8_cheap.cls yX8_cheap yX8_cheap ∈ zTB := zTB_in (List.mem_append_left _ (List.mem_of_getElem? (i := 48) (by decide +kernel))) (by decide +kernel)
theorem mn843 : Cond.initialized yX8_cheap.cls ∈ zTB := tb_10
theorem mp844 : yX8_rich.cls ≠ "java/lang/invoke/MethodHandle" ∧ yX8_rich.cls ≠ "java/lang/invoke/VarHandle" ∧ (parseMethodDescriptor yX8_rich.desc).map (fun d => d.parameters.length) = some 1 := by decide +kernel
theorem mc844 : Cond.code yX8_rich cX8_rich 4 (some .int) ∈ zTB := tb_964
theorem mi844 : Cond.instanceMethod yX8_rich ∈ zTB := tb_963
theorem ms844 : Cond.selects yX8_rich.cls yX8_rich yX8_rich ∈ zTB := zTB_in (List.mem_append_left _ (List.mem_of_getElem? (i := 49) (by decide +kernel))) (by decide +kernel)
theorem mn844 : Cond.initialized yX8_rich.cls ∈ zTB := tb_10
theorem mp845 : yX8_bag.cls ≠ "java/lang/invoke/MethodHandle" ∧ yX8_bag.cls ≠ "java/lang/invoke/VarHandle" ∧ (parseMethodDescriptor yX8_bag.desc).map (fun d => d.parameters.length) = some 1 := by decide +kernel
theorem mc845 : Cond.code yX8_bag cX8_bag 5 (some .int) ∈ zTB := tb_968
theorem mi845 : Cond.instanceMethod yX8_bag ∈ zTB := tb_967
theorem ms845 : Cond.selects yX8_bag.cls yX8_bag yX8_bag ∈ zTB := zTB_in (List.mem_append_left _ (List.mem_of_getElem? (i := 50) (by decide +kernel))) (by decide +kernel)
theorem mn845 : Cond.initialized yX8_bag.cls ∈ zTB := tb_10
theorem mp846 : yX8_pays.cls ≠ "java/lang/invoke/MethodHandle" ∧ yX8_pays.cls ≠ "java/lang/invoke/VarHandle" ∧ (parseMethodDescriptor yX8_pays.desc).map (fun d => d.parameters.length) = some 2 := by decide +kernel
theorem mc846 : Cond.code yX8_pays cX8_pays 3 (some .int) ∈ zTB := tb_952
theorem mi846 : Cond.instanceMethod yX8_pays ∈ zTB := tb_950
theorem ms846 : Cond.selects yX8_pays.cls yX8_pays yX8_pays ∈ zTB := tb_951
theorem mn846 : Cond.initialized yX8_pays.cls ∈ zTB := tb_10
theorem mp847 : yX8_see.cls ≠ "java/lang/invoke/MethodHandle" ∧ yX8_see.cls ≠ "java/lang/invoke/VarHandle" ∧ (parseMethodDescriptor yX8_see.desc).map (fun d => d.parameters.length) = some 3 := by decide +kernel
theorem mc847 : Cond.code yX8_see cX8_see 5 (some .int) ∈ zTB := tb_972
theorem mi847 : Cond.instanceMethod yX8_see ∈ zTB := tb_970
theorem ms847 : Cond.selects yX8_see.cls yX8_see yX8_see ∈ zTB := tb_971
theorem mn847 : Cond.initialized yX8_see.cls ∈ zTB := tb_10
theorem mp848 : yX8_isAllSeen.cls ≠ "java/lang/invoke/MethodHandle" ∧ yX8_isAllSeen.cls ≠ "java/lang/invoke/VarHandle" ∧ (parseMethodDescriptor yX8_isAllSeen.desc).map (fun d => d.parameters.length) = some 0 := by decide +kernel
theorem mc848 : Cond.code yX8_isAllSeen cX8_isAllSeen 5 (some .boolean) ∈ zTB := tb_984
theorem mi848 : Cond.instanceMethod yX8_isAllSeen ∈ zTB := tb_983
theorem ms848 : Cond.selects yX8_isAllSeen.cls yX8_isAllSeen yX8_isAllSeen ∈ zTB := zTB_in (List.mem_append_left _ (List.mem_of_getElem? (i := 52) (by decide +kernel))) (by decide +kernel)
theorem mn848 : Cond.initialized yX8_isAllSeen.cls ∈ zTB := tb_10
theorem mp849 : yX8_fits.cls ≠ "java/lang/invoke/MethodHandle" ∧ yX8_fits.cls ≠ "java/lang/invoke/VarHandle" ∧ (parseMethodDescriptor yX8_fits.desc).map (fun d => d.parameters.length) = some 4 := by decide +kernel
theorem mc849 : Cond.code yX8_fits cX8_fits 10 (some .int) ∈ zTB := tb_980
theorem mi849 : Cond.instanceMethod yX8_fits ∈ zTB := tb_979
theorem ms849 : Cond.selects yX8_fits.cls yX8_fits yX8_fits ∈ zTB := zTB_in (List.mem_append_left _ (List.mem_of_getElem? (i := 51) (by decide +kernel))) (by decide +kernel)
theorem mn849 : Cond.initialized yX8_fits.cls ∈ zTB := tb_10
theorem mp850 : yX8_can.cls ≠ "java/lang/invoke/MethodHandle" ∧ yX8_can.cls ≠ "java/lang/invoke/VarHandle" ∧ (parseMethodDescriptor yX8_can.desc).map (fun d => d.parameters.length) = some 3 := by decide +kernel
theorem mc850 : Cond.code yX8_can cX8_can 4 (some .int) ∈ zTB := tb_976
theorem mi850 : Cond.instanceMethod yX8_can ∈ zTB := tb_974
theorem ms850 : Cond.selects yX8_can.cls yX8_can yX8_can ∈ zTB := tb_975
theorem mn850 : Cond.initialized yX8_can.cls ∈ zTB := tb_10
theorem mp851 : yX8_places.cls ≠ "java/lang/invoke/MethodHandle" ∧ yX8_places.cls ≠ "java/lang/invoke/VarHandle" ∧ (parseMethodDescriptor yX8_places.desc).map (fun d => d.parameters.length) = some 1 := by decide +kernel
theorem mc851 : Cond.code yX8_places cX8_places 6 (some .int) ∈ zTB := tb_988
theorem mi851 : Cond.instanceMethod yX8_places ∈ zTB := tb_986
theorem ms851 : Cond.selects yX8_places.cls yX8_places yX8_places ∈ zTB := tb_987
theorem mn851 : Cond.initialized yX8_places.cls ∈ zTB := tb_10
theorem mp852 : yX8_fraction.cls ≠ "java/lang/invoke/MethodHandle" ∧ yX8_fraction.cls ≠ "java/lang/invoke/VarHandle" ∧ (parseMethodDescriptor yX8_fraction.desc).map (fun d => d.parameters.length) = some 3 := by decide +kernel
theorem mc852 : Cond.code yX8_fraction cX8_fraction 11 (some .long) ∈ zTB := tb_997
theorem mi852 : Cond.static yX8_fraction ∈ zTB := tb_996
theorem mn852 : Cond.initialized yX8_fraction.cls ∈ zTB := tb_10
theorem mp853 : yX8_odds.cls ≠ "java/lang/invoke/MethodHandle" ∧ yX8_odds.cls ≠ "java/lang/invoke/VarHandle" ∧ (parseMethodDescriptor yX8_odds.desc).map (fun d => d.parameters.length) = some 3 := by decide +kernel
theorem mc853 : Cond.code yX8_odds cX8_odds 6 (some .long) ∈ zTB := tb_992
theorem mi853 : Cond.instanceMethod yX8_odds ∈ zTB := tb_990
theorem ms853 : Cond.selects yX8_odds.cls yX8_odds yX8_odds ∈ zTB := tb_991
theorem mn853 : Cond.initialized yX8_odds.cls ∈ zTB := tb_10
theorem mp854 : yX8_mean.cls ≠ "java/lang/invoke/MethodHandle" ∧ yX8_mean.cls ≠ "java/lang/invoke/VarHandle" ∧ (parseMethodDescriptor yX8_mean.desc).map (fun d => d.parameters.length) = some 2 := by decide +kernel
theorem mc854 : Cond.code yX8_mean cX8_mean 5 (some .long) ∈ zTB := tb_1001
theorem mi854 : Cond.instanceMethod yX8_mean ∈ zTB := tb_999
theorem ms854 : Cond.selects yX8_mean.cls yX8_mean yX8_mean ∈ zTB := tb_1000
theorem mn854 : Cond.initialized yX8_mean.cls ∈ zTB := tb_10
theorem mp855 : yX8_plan.cls ≠ "java/lang/invoke/MethodHandle" ∧ yX8_plan.cls ≠ "java/lang/invoke/VarHandle" ∧ (parseMethodDescriptor yX8_plan.desc).map (fun d => d.parameters.length) = some 2 := by decide +kernel
theorem mc855 : Cond.code yX8_plan cX8_plan 3 (some .int) ∈ zTB := tb_1005
theorem mi855 : Cond.instanceMethod yX8_plan ∈ zTB := tb_1003
theorem ms855 : Cond.selects yX8_plan.cls yX8_plan yX8_plan ∈ zTB := tb_1004
theorem mn855 : Cond.initialized yX8_plan.cls ∈ zTB := tb_10
theorem mp856 : yX8_happens.cls ≠ "java/lang/invoke/MethodHandle" ∧ yX8_happens.cls ≠ "java/lang/invoke/VarHandle" ∧ (parseMethodDescriptor yX8_happens.desc).map (fun d => d.parameters.length) = some 2 := by decide +kernel
theorem mc856 : Cond.code yX8_happens cX8_happens 3 none ∈ zTB := tb_1013
theorem mi856 : Cond.instanceMethod yX8_happens ∈ zTB := tb_1012
theorem ms856 : Cond.selects yX8_happens.cls yX8_happens yX8_happens ∈ zTB := zTB_in (List.mem_append_left _ (List.mem_of_getElem? (i := 53) (by decide +kernel))) (by decide +kernel)
theorem mn856 : Cond.initialized yX8_happens.cls ∈ zTB := tb_10
theorem mp857 : yX8_ends.cls ≠ "java/lang/invoke/MethodHandle" ∧ yX8_ends.cls ≠ "java/lang/invoke/VarHandle" ∧ (parseMethodDescriptor yX8_ends.desc).map (fun d => d.parameters.length) = some 1 := by decide +kernel
theorem mc857 : Cond.code yX8_ends cX8_ends 3 (some .int) ∈ zTB := tb_1009
theorem mi857 : Cond.instanceMethod yX8_ends ∈ zTB := tb_1007
theorem ms857 : Cond.selects yX8_ends.cls yX8_ends yX8_ends ∈ zTB := tb_1008
theorem mn857 : Cond.initialized yX8_ends.cls ∈ zTB := tb_10
theorem mp858 : yX8_book.cls ≠ "java/lang/invoke/MethodHandle" ∧ yX8_book.cls ≠ "java/lang/invoke/VarHandle" ∧ (parseMethodDescriptor yX8_book.desc).map (fun d => d.parameters.length) = some 2 := by decide +kernel
theorem mc858 : Cond.code yX8_book cX8_book 3 (some .int) ∈ zTB := tb_1017
theorem mi858 : Cond.instanceMethod yX8_book ∈ zTB := tb_1015
theorem ms858 : Cond.selects yX8_book.cls yX8_book yX8_book ∈ zTB := tb_1016
theorem mn858 : Cond.initialized yX8_book.cls ∈ zTB := tb_10
theorem mp859 : yX8_looked.cls ≠ "java/lang/invoke/MethodHandle" ∧ yX8_looked.cls ≠ "java/lang/invoke/VarHandle" ∧ (parseMethodDescriptor yX8_looked.desc).map (fun d => d.parameters.length) = some 0 := by decide +kernel
theorem mc859 : Cond.code yX8_looked cX8_looked 2 (some .int) ∈ zTB := tb_1021
theorem mi859 : Cond.instanceMethod yX8_looked ∈ zTB := tb_1019
theorem ms859 : Cond.selects yX8_looked.cls yX8_looked yX8_looked ∈ zTB := tb_1020
theorem mn859 : Cond.initialized yX8_looked.cls ∈ zTB := tb_10
theorem mp860 : yX8_body.cls ≠ "java/lang/invoke/MethodHandle" ∧ yX8_body.cls ≠ "java/lang/invoke/VarHandle" ∧ (parseMethodDescriptor yX8_body.desc).map (fun d => d.parameters.length) = some 1 := by decide +kernel
theorem mc860 : Cond.code yX8_body cX8_body 2 (some .int) ∈ zTB := tb_1037
theorem mi860 : Cond.instanceMethod yX8_body ∈ zTB := tb_1036
theorem ms860 : Cond.selects yX8_body.cls yX8_body yX8_body ∈ zTB := zTB_in (List.mem_append_left _ (List.mem_of_getElem? (i := 56) (by decide +kernel))) (by decide +kernel)
theorem mn860 : Cond.initialized yX8_body.cls ∈ zTB := tb_10
theorem mp861 : yX8_all.cls ≠ "java/lang/invoke/MethodHandle" ∧ yX8_all.cls ≠ "java/lang/invoke/VarHandle" ∧ (parseMethodDescriptor yX8_all.desc).map (fun d => d.parameters.length) = some 3 := by decide +kernel
theorem mc861 : Cond.code yX8_all cX8_all 4 (some .int) ∈ zTB := tb_1029
theorem mi861 : Cond.instanceMethod yX8_all ∈ zTB := tb_1028
theorem ms861 : Cond.selects yX8_all.cls yX8_all yX8_all ∈ zTB := zTB_in (List.mem_append_left _ (List.mem_of_getElem? (i := 54) (by decide +kernel))) (by decide +kernel)
theorem mn861 : Cond.initialized yX8_all.cls ∈ zTB := tb_10
theorem mp862 : yX8_byKind.cls ≠ "java/lang/invoke/MethodHandle" ∧ yX8_byKind.cls ≠ "java/lang/invoke/VarHandle" ∧ (parseMethodDescriptor yX8_byKind.desc).map (fun d => d.parameters.length) = some 4 := by decide +kernel
theorem mc862 : Cond.code yX8_byKind cX8_byKind 7 (some .int) ∈ zTB := tb_1033
theorem mi862 : Cond.instanceMethod yX8_byKind ∈ zTB := tb_1032
theorem ms862 : Cond.selects yX8_byKind.cls yX8_byKind yX8_byKind ∈ zTB := zTB_in (List.mem_append_left _ (List.mem_of_getElem? (i := 55) (by decide +kernel))) (by decide +kernel)
theorem mn862 : Cond.initialized yX8_byKind.cls ∈ zTB := tb_10
theorem mp863 : yX8_act.cls ≠ "java/lang/invoke/MethodHandle" ∧ yX8_act.cls ≠ "java/lang/invoke/VarHandle" ∧ (parseMethodDescriptor yX8_act.desc).map (fun d => d.parameters.length) = some 3 := by decide +kernel
theorem mc863 : Cond.code yX8_act cX8_act 4 (some .int) ∈ zTB := tb_1025
theorem mi863 : Cond.instanceMethod yX8_act ∈ zTB := tb_1023
theorem ms863 : Cond.selects yX8_act.cls yX8_act yX8_act ∈ zTB := tb_1024
theorem mn863 : Cond.initialized yX8_act.cls ∈ zTB := tb_10
theorem mp864 : yX8_trace.cls ≠ "java/lang/invoke/MethodHandle" ∧ yX8_trace.cls ≠ "java/lang/invoke/VarHandle" ∧ (parseMethodDescriptor yX8_trace.desc).map (fun d => d.parameters.length) = some 1 := by decide +kernel
theorem mc864 : Cond.code yX8_trace cX8_trace 2 (some .int) ∈ zTB := tb_1041
theorem mi864 : Cond.instanceMethod yX8_trace ∈ zTB := tb_1039
theorem ms864 : Cond.selects yX8_trace.cls yX8_trace yX8_trace ∈ zTB := tb_1040
theorem mn864 : Cond.initialized yX8_trace.cls ∈ zTB := tb_10
theorem mp865 : yX8_taken.cls ≠ "java/lang/invoke/MethodHandle" ∧ yX8_taken.cls ≠ "java/lang/invoke/VarHandle" ∧ (parseMethodDescriptor yX8_taken.desc).map (fun d => d.parameters.length) = some 2 := by decide +kernel
theorem mc865 : Cond.code yX8_taken cX8_taken 4 (some .int) ∈ zTB := tb_1045
theorem mi865 : Cond.instanceMethod yX8_taken ∈ zTB := tb_1043
theorem ms865 : Cond.selects yX8_taken.cls yX8_taken yX8_taken ∈ zTB := tb_1044
theorem mn865 : Cond.initialized yX8_taken.cls ∈ zTB := tb_10
theorem mp866 : yX8_count.cls ≠ "java/lang/invoke/MethodHandle" ∧ yX8_count.cls ≠ "java/lang/invoke/VarHandle" ∧ (parseMethodDescriptor yX8_count.desc).map (fun d => d.parameters.length) = some 1 := by decide +kernel
theorem mc866 : Cond.code yX8_count cX8_count 2 (some .int) ∈ zTB := tb_1049
theorem mi866 : Cond.instanceMethod yX8_count ∈ zTB := tb_1047
theorem ms866 : Cond.selects yX8_count.cls yX8_count yX8_count ∈ zTB := tb_1048
theorem mn866 : Cond.initialized yX8_count.cls ∈ zTB := tb_10
theorem mp867 : yX8_isTape.cls ≠ "java/lang/invoke/MethodHandle" ∧ yX8_isTape.cls ≠ "java/lang/invoke/VarHandle" ∧ (parseMethodDescriptor yX8_isTape.desc).map (fun d => d.parameters.length) = some 1 := by decide +kernel
theorem mc867 : Cond.code yX8_isTape cX8_isTape 1 (some .boolean) ∈ zTB := tb_1056
theorem mi867 : Cond.static yX8_isTape ∈ zTB := tb_1055
theorem mn867 : Cond.initialized yX8_isTape.cls ∈ zTB := tb_10
theorem mp868 : yX8_tape.cls ≠ "java/lang/invoke/MethodHandle" ∧ yX8_tape.cls ≠ "java/lang/invoke/VarHandle" ∧ (parseMethodDescriptor yX8_tape.desc).map (fun d => d.parameters.length) = some 3 := by decide +kernel
theorem mc868 : Cond.code yX8_tape cX8_tape 5 (some .int) ∈ zTB := tb_1053
theorem mi868 : Cond.instanceMethod yX8_tape ∈ zTB := tb_1051
theorem ms868 : Cond.selects yX8_tape.cls yX8_tape yX8_tape ∈ zTB := tb_1052
theorem mn868 : Cond.initialized yX8_tape.cls ∈ zTB := tb_10
theorem mp869 : yX8_item.cls ≠ "java/lang/invoke/MethodHandle" ∧ yX8_item.cls ≠ "java/lang/invoke/VarHandle" ∧ (parseMethodDescriptor yX8_item.desc).map (fun d => d.parameters.length) = some 3 := by decide +kernel
theorem mc869 : Cond.code yX8_item cX8_item 6 (some .int) ∈ zTB := tb_1060
theorem mi869 : Cond.instanceMethod yX8_item ∈ zTB := tb_1058
theorem ms869 : Cond.selects yX8_item.cls yX8_item yX8_item ∈ zTB := tb_1059
theorem mn869 : Cond.initialized yX8_item.cls ∈ zTB := tb_10
theorem mp870 : yX8_read.cls ≠ "java/lang/invoke/MethodHandle" ∧ yX8_read.cls ≠ "java/lang/invoke/VarHandle" ∧ (parseMethodDescriptor yX8_read.desc).map (fun d => d.parameters.length) = some 2 := by decide +kernel
theorem mc870 : Cond.code yX8_read cX8_read 3 (some .long) ∈ zTB := tb_1064
theorem mi870 : Cond.instanceMethod yX8_read ∈ zTB := tb_1062
theorem ms870 : Cond.selects yX8_read.cls yX8_read yX8_read ∈ zTB := tb_1063
theorem mn870 : Cond.initialized yX8_read.cls ∈ zTB := tb_10
theorem mp871 : yX8_shift.cls ≠ "java/lang/invoke/MethodHandle" ∧ yX8_shift.cls ≠ "java/lang/invoke/VarHandle" ∧ (parseMethodDescriptor yX8_shift.desc).map (fun d => d.parameters.length) = some 5 := by decide +kernel
theorem mc871 : Cond.code yX8_shift cX8_shift 7 (some .int) ∈ zTB := tb_1068
theorem mi871 : Cond.instanceMethod yX8_shift ∈ zTB := tb_1066
theorem ms871 : Cond.selects yX8_shift.cls yX8_shift yX8_shift ∈ zTB := tb_1067
theorem mn871 : Cond.initialized yX8_shift.cls ∈ zTB := tb_10
theorem mp872 : yX8_judge.cls ≠ "java/lang/invoke/MethodHandle" ∧ yX8_judge.cls ≠ "java/lang/invoke/VarHandle" ∧ (parseMethodDescriptor yX8_judge.desc).map (fun d => d.parameters.length) = some 2 := by decide +kernel
theorem mc872 : Cond.code yX8_judge cX8_judge 6 (some .int) ∈ zTB := tb_1072
theorem mi872 : Cond.instanceMethod yX8_judge ∈ zTB := tb_1070
theorem ms872 : Cond.selects yX8_judge.cls yX8_judge yX8_judge ∈ zTB := tb_1071
theorem mn872 : Cond.initialized yX8_judge.cls ∈ zTB := tb_10
theorem mp901 : yJ6_bitCount_0f7a4.cls ≠ "java/lang/invoke/MethodHandle" ∧ yJ6_bitCount_0f7a4.cls ≠ "java/lang/invoke/VarHandle" ∧ (parseMethodDescriptor yJ6_bitCount_0f7a4.desc).map (fun d => d.parameters.length) = some 1 := by decide +kernel
theorem mc901 : Cond.code yJ6_bitCount_0f7a4 cJ6_bitCount_0f7a4 1 (some .int) ∈ zTB := tb_496
theorem mi901 : Cond.static yJ6_bitCount_0f7a4 ∈ zTB := tb_495
theorem mn901 : Cond.initialized yJ6_bitCount_0f7a4.cls ∈ zTB := tb_15
theorem mp1001 : yJ0_length_8abf5.cls ≠ "java/lang/invoke/MethodHandle" ∧ yJ0_length_8abf5.cls ≠ "java/lang/invoke/VarHandle" ∧ (parseMethodDescriptor yJ0_length_8abf5.desc).map (fun d => d.parameters.length) = some 0 := by decide +kernel
theorem mc1001 : Cond.code yJ0_length_8abf5 cJ0_length_8abf5 1 (some .int) ∈ zTB := tb_383
theorem mi1001 : Cond.instanceMethod yJ0_length_8abf5 ∈ zTB := tb_381
theorem ms1001 : Cond.selects yJ0_length_8abf5.cls yJ0_length_8abf5 yJ0_length_8abf5 ∈ zTB := tb_382
theorem mn1001 : Cond.initialized yJ0_length_8abf5.cls ∈ zTB := tb_11
theorem mp1002 : yJ0_charAt_5068e.cls ≠ "java/lang/invoke/MethodHandle" ∧ yJ0_charAt_5068e.cls ≠ "java/lang/invoke/VarHandle" ∧ (parseMethodDescriptor yJ0_charAt_5068e.desc).map (fun d => d.parameters.length) = some 1 := by decide +kernel
theorem mc1002 : Cond.code yJ0_charAt_5068e cJ0_charAt_5068e 2 (some .char) ∈ zTB := tb_393
theorem mi1002 : Cond.instanceMethod yJ0_charAt_5068e ∈ zTB := tb_391
theorem ms1002 : Cond.selects yJ0_charAt_5068e.cls yJ0_charAt_5068e yJ0_charAt_5068e ∈ zTB := tb_392
theorem mn1002 : Cond.initialized yJ0_charAt_5068e.cls ∈ zTB := tb_11
theorem mp1003 : yJ0_coder_7d493.cls ≠ "java/lang/invoke/MethodHandle" ∧ yJ0_coder_7d493.cls ≠ "java/lang/invoke/VarHandle" ∧ (parseMethodDescriptor yJ0_coder_7d493.desc).map (fun d => d.parameters.length) = some 0 := by decide +kernel
theorem mc1003 : Cond.code yJ0_coder_7d493 cJ0_coder_7d493 1 (some .byte) ∈ zTB := tb_387
theorem mi1003 : Cond.instanceMethod yJ0_coder_7d493 ∈ zTB := tb_385
theorem ms1003 : Cond.selects yJ0_coder_7d493.cls yJ0_coder_7d493 yJ0_coder_7d493 ∈ zTB := tb_386
theorem mn1003 : Cond.initialized yJ0_coder_7d493.cls ∈ zTB := tb_11
theorem mp1004 : yJ0_isLatin1_aae02.cls ≠ "java/lang/invoke/MethodHandle" ∧ yJ0_isLatin1_aae02.cls ≠ "java/lang/invoke/VarHandle" ∧ (parseMethodDescriptor yJ0_isLatin1_aae02.desc).map (fun d => d.parameters.length) = some 0 := by decide +kernel
theorem mc1004 : Cond.code yJ0_isLatin1_aae02 cJ0_isLatin1_aae02 1 (some .boolean) ∈ zTB := tb_397
theorem mi1004 : Cond.instanceMethod yJ0_isLatin1_aae02 ∈ zTB := tb_395
theorem ms1004 : Cond.selects yJ0_isLatin1_aae02.cls yJ0_isLatin1_aae02 yJ0_isLatin1_aae02 ∈ zTB := tb_396
theorem mn1004 : Cond.initialized yJ0_isLatin1_aae02.cls ∈ zTB := tb_11
theorem mp1005 : yJ0_checkIndex_df160.cls ≠ "java/lang/invoke/MethodHandle" ∧ yJ0_checkIndex_df160.cls ≠ "java/lang/invoke/VarHandle" ∧ (parseMethodDescriptor yJ0_checkIndex_df160.desc).map (fun d => d.parameters.length) = some 2 := by decide +kernel
theorem mc1005 : Cond.code yJ0_checkIndex_df160 cJ0_checkIndex_df160 2 none ∈ zTB := tb_403
theorem mi1005 : Cond.static yJ0_checkIndex_df160 ∈ zTB := tb_402
theorem mn1005 : Cond.initialized yJ0_checkIndex_df160.cls ∈ zTB := tb_11
theorem mp1101 : yJ1_charAt_3b067.cls ≠ "java/lang/invoke/MethodHandle" ∧ yJ1_charAt_3b067.cls ≠ "java/lang/invoke/VarHandle" ∧ (parseMethodDescriptor yJ1_charAt_3b067.desc).map (fun d => d.parameters.length) = some 2 := by decide +kernel
theorem mc1101 : Cond.code yJ1_charAt_3b067 cJ1_charAt_3b067 2 (some .char) ∈ zTB := tb_400
theorem mi1101 : Cond.static yJ1_charAt_3b067 ∈ zTB := tb_399
theorem mn1101 : Cond.initialized yJ1_charAt_3b067.cls ∈ zTB := tb_12
theorem mp1201 : yJ3_checkIndex_8e157.cls ≠ "java/lang/invoke/MethodHandle" ∧ yJ3_checkIndex_8e157.cls ≠ "java/lang/invoke/VarHandle" ∧ (parseMethodDescriptor yJ3_checkIndex_8e157.desc).map (fun d => d.parameters.length) = some 3 := by decide +kernel
theorem mc1201 : Cond.code yJ3_checkIndex_8e157 cJ3_checkIndex_8e157 3 (some .int) ∈ zTB := tb_408
theorem mi1201 : Cond.static yJ3_checkIndex_8e157 ∈ zTB := tb_407
theorem mn1201 : Cond.initialized yJ3_checkIndex_8e157.cls ∈ zTB := tb_13
