theorem ww_0 : (Jvm.Cond.initialized "EvenCurveKeysLaw") ∈ wa := wa_1 0 (by decide +kernel) rfl
theorem ww_1 : (Jvm.Cond.initialized "EvenCurveKeys") ∈ wa := wa_1 1 (by decide +kernel) rfl
theorem ww_2 : (Jvm.Cond.initialized "EvenCurveKeys$Items") ∈ wa := wa_1 2 (by decide +kernel) rfl
theorem ww_3 : (Jvm.Cond.initialized "EvenCurveKeys$Typed") ∈ wa := wa_1 3 (by decide +kernel) rfl
theorem ww_4 : (Jvm.Cond.initialized "EvenCurveKeysModel") ∈ wa := wa_1 4 (by decide +kernel) rfl
theorem ww_5 : (Jvm.Cond.initialized "java/lang/Throwable") ∈ wa := wa_1 5 (by decide +kernel) rfl
theorem ww_6 : (Jvm.Cond.initialized "java/lang/Exception") ∈ wa := wa_1 6 (by decide +kernel) rfl
theorem ww_7 : (Jvm.Cond.initialized "java/lang/RuntimeException") ∈ wa := wa_1 7 (by decide +kernel) rfl
theorem ww_8 : (Jvm.Cond.initialized "java/lang/IndexOutOfBoundsException") ∈ wa := wa_1 8 (by decide +kernel) rfl
theorem ww_9 : (Jvm.Cond.initialized "EvenCurveKeys$Scalars") ∈ wa := wa_1 9 (by decide +kernel) rfl
theorem ww_10 : (Jvm.Cond.initialized "java/lang/IllegalArgumentException") ∈ wa := wa_1 10 (by decide +kernel) rfl
theorem ww_11 : (Jvm.Cond.initialized "EvenCurveKeys$Curve") ∈ wa := wa_1 11 (by decide +kernel) rfl
theorem ww_12 : (Jvm.Cond.initialized "EvenCurveKeys$Field") ∈ wa := wa_1 12 (by decide +kernel) rfl
theorem ww_13 : (Jvm.Cond.initialized "java/util/NoSuchElementException") ∈ wa := wa_1 13 (by decide +kernel) rfl
theorem ww_14 : (Jvm.Cond.initialized "java/lang/IllegalStateException") ∈ wa := wa_1 14 (by decide +kernel) rfl
theorem ww_15 : (Jvm.Cond.initialized "java/lang/UnsupportedOperationException") ∈ wa := wa_1 15 (by decide +kernel) rfl
theorem ww_16 : (Jvm.Cond.initialized "EvenCurveKeys$Form") ∈ wa := wa_1 16 (by decide +kernel) rfl
theorem ww_17 : (Jvm.Cond.classLink "EvenCurveKeysLaw" (8 : Nat) "EvenCurveKeys") ∈ wa := wa_1 17 (by decide +kernel) rfl
theorem ww_18 : (Jvm.Cond.instantiable "EvenCurveKeys" (5 : Nat)) ∈ wa := wa_1 18 (by decide +kernel) rfl
theorem ww_19 : (Jvm.Cond.methodLink "EvenCurveKeysLaw" (76 : Nat) ({ cls := "EvenCurveKeys", name := "<init>", desc := "()V" } : Jvm.MethodName)) ∈ wa := wa_1 19 (by decide +kernel) rfl
theorem ww_20 : (Jvm.Cond.instanceMethod ({ cls := "EvenCurveKeys", name := "<init>", desc := "()V" } : Jvm.MethodName)) ∈ wa := wa_1 20 (by decide +kernel) rfl
theorem ww_21 : (Jvm.Cond.code ({ cls := "EvenCurveKeys", name := "<init>", desc := "()V" } : Jvm.MethodName) prog_1_method_1_code (1 : Nat) (Option.none : Option Jvm.ClassFile.FieldType)) ∈ wa := wa_1 21 (by decide +kernel) rfl
theorem ww_22 : (Jvm.Cond.methodLink "EvenCurveKeys" (1 : Nat) ({ cls := "java/lang/Object", name := "<init>", desc := "()V" } : Jvm.MethodName)) ∈ wa := wa_1 22 (by decide +kernel) rfl
theorem ww_23 : (Jvm.Cond.instanceMethod ({ cls := "java/lang/Object", name := "<init>", desc := "()V" } : Jvm.MethodName)) ∈ wa := wa_1 23 (by decide +kernel) rfl
theorem ww_24 : (Jvm.Cond.code ({ cls := "java/lang/Object", name := "<init>", desc := "()V" } : Jvm.MethodName) object_method_1_code (1 : Nat) (Option.none : Option Jvm.ClassFile.FieldType)) ∈ wa := wa_1 24 (by decide +kernel) rfl
theorem ww_25 : (Jvm.Cond.classLink "EvenCurveKeys" (16 : Nat) "EvenCurveKeys$Items") ∈ wa := wa_1 25 (by decide +kernel) rfl
theorem ww_26 : (Jvm.Cond.instantiable "EvenCurveKeys$Items" (5 : Nat)) ∈ wa := wa_1 26 (by decide +kernel) rfl
theorem ww_28 : (Jvm.Cond.instanceMethod ({ cls := "EvenCurveKeys$Items", name := "<init>", desc := "()V" } : Jvm.MethodName)) ∈ wa := wa_1 28 (by decide +kernel) rfl
theorem ww_29 : (Jvm.Cond.code ({ cls := "EvenCurveKeys$Items", name := "<init>", desc := "()V" } : Jvm.MethodName) prog_5_method_1_code (1 : Nat) (Option.none : Option Jvm.ClassFile.FieldType)) ∈ wa := wa_1 29 (by decide +kernel) rfl
theorem ww_30 : (Jvm.Cond.methodLink "EvenCurveKeys$Items" (3 : Nat) ({ cls := "java/lang/Object", name := "<init>", desc := "()V" } : Jvm.MethodName)) ∈ wa := wa_1 30 (by decide +kernel) rfl
theorem ww_31 : (Jvm.Cond.fieldLink "EvenCurveKeys$Items" (9 : Nat) "EvenCurveKeys$Items" "evens" "[J") ∈ wa := wa_1 31 (by decide +kernel) rfl
theorem ww_32 : (Jvm.Cond.fieldLink "EvenCurveKeys$Items" (15 : Nat) "EvenCurveKeys$Items" "messages" "[J") ∈ wa := wa_1 32 (by decide +kernel) rfl
theorem ww_33 : (Jvm.Cond.fieldLink "EvenCurveKeys$Items" (18 : Nat) "EvenCurveKeys$Items" "rxs" "[I") ∈ wa := wa_1 33 (by decide +kernel) rfl
theorem ww_34 : (Jvm.Cond.fieldLink "EvenCurveKeys$Items" (22 : Nat) "EvenCurveKeys$Items" "ss" "[I") ∈ wa := wa_1 34 (by decide +kernel) rfl
theorem ww_35 : (Jvm.Cond.fieldLink "EvenCurveKeys$Items" (25 : Nat) "EvenCurveKeys$Items" "count" "I") ∈ wa := wa_1 35 (by decide +kernel) rfl
theorem ww_47 : (Jvm.Cond.arrayClass Jvm.ClassFile.FieldType.long) ∈ wa := wa_1 47 (by decide +kernel) rfl
theorem ww_48 : (Jvm.Cond.arrayClass Jvm.ClassFile.FieldType.int) ∈ wa := wa_1 48 (by decide +kernel) rfl
theorem ww_49 : (Jvm.Cond.classLink "EvenCurveKeys" (23 : Nat) "EvenCurveKeys$Typed") ∈ wa := wa_1 49 (by decide +kernel) rfl
theorem ww_50 : (Jvm.Cond.instantiable "EvenCurveKeys$Typed" (2 : Nat)) ∈ wa := wa_1 50 (by decide +kernel) rfl
theorem ww_52 : (Jvm.Cond.instanceMethod ({ cls := "EvenCurveKeys$Typed", name := "<init>", desc := "()V" } : Jvm.MethodName)) ∈ wa := wa_1 52 (by decide +kernel) rfl
theorem ww_53 : (Jvm.Cond.code ({ cls := "EvenCurveKeys$Typed", name := "<init>", desc := "()V" } : Jvm.MethodName) prog_7_method_1_code (1 : Nat) (Option.none : Option Jvm.ClassFile.FieldType)) ∈ wa := wa_1 53 (by decide +kernel) rfl
theorem ww_54 : (Jvm.Cond.methodLink "EvenCurveKeys$Typed" (3 : Nat) ({ cls := "java/lang/Object", name := "<init>", desc := "()V" } : Jvm.MethodName)) ∈ wa := wa_1 54 (by decide +kernel) rfl
theorem ww_55 : (Jvm.Cond.fieldLink "EvenCurveKeys$Typed" (9 : Nat) "EvenCurveKeys$Typed" "bytes" "[I") ∈ wa := wa_1 55 (by decide +kernel) rfl
theorem ww_56 : (Jvm.Cond.fieldLink "EvenCurveKeys$Typed" (15 : Nat) "EvenCurveKeys$Typed" "count" "I") ∈ wa := wa_1 56 (by decide +kernel) rfl
theorem ww_62 : (Jvm.Cond.fieldLink "EvenCurveKeys" (9 : Nat) "EvenCurveKeys" "points" "[J") ∈ wa := wa_1 62 (by decide +kernel) rfl
theorem ww_63 : (Jvm.Cond.fieldLink "EvenCurveKeys" (13 : Nat) "EvenCurveKeys" "secrets" "[J") ∈ wa := wa_1 63 (by decide +kernel) rfl
theorem ww_64 : (Jvm.Cond.fieldLink "EvenCurveKeys" (19 : Nat) "EvenCurveKeys" "items" "LEvenCurveKeys$Items;") ∈ wa := wa_1 64 (by decide +kernel) rfl
theorem ww_65 : (Jvm.Cond.fieldLink "EvenCurveKeys" (26 : Nat) "EvenCurveKeys" "typed" "LEvenCurveKeys$Typed;") ∈ wa := wa_1 65 (by decide +kernel) rfl
theorem ww_66 : (Jvm.Cond.fieldLink "EvenCurveKeys" (30 : Nat) "EvenCurveKeys" "lastMark" "I") ∈ wa := wa_1 66 (by decide +kernel) rfl
theorem ww_78 : (Jvm.Cond.methodLink "EvenCurveKeysLaw" (100 : Nat) ({ cls := "EvenCurveKeys", name := "even", desc := "(I)J" } : Jvm.MethodName)) ∈ wa := wa_1 78 (by decide +kernel) rfl
theorem ww_79 : (Jvm.Cond.instanceMethod ({ cls := "EvenCurveKeys", name := "even", desc := "(I)J" } : Jvm.MethodName)) ∈ wa := wa_1 79 (by decide +kernel) rfl
theorem ww_80 : (Jvm.Cond.selects "EvenCurveKeys" ({ cls := "EvenCurveKeys", name := "even", desc := "(I)J" } : Jvm.MethodName) ({ cls := "EvenCurveKeys", name := "even", desc := "(I)J" } : Jvm.MethodName)) ∈ wa := wa_1 80 (by decide +kernel) rfl
theorem ww_81 : (Jvm.Cond.code ({ cls := "EvenCurveKeys", name := "even", desc := "(I)J" } : Jvm.MethodName) prog_1_method_5_code (2 : Nat) (Option.some Jvm.ClassFile.FieldType.long)) ∈ wa := wa_1 81 (by decide +kernel) rfl
theorem ww_82 : (Jvm.Cond.methodLink "EvenCurveKeys" (67 : Nat) ({ cls := "EvenCurveKeys$Curve", name := "pointAt", desc := "(JZ)J" } : Jvm.MethodName)) ∈ wa := wa_1 82 (by decide +kernel) rfl
theorem ww_83 : (Jvm.Cond.static ({ cls := "EvenCurveKeys$Curve", name := "pointAt", desc := "(JZ)J" } : Jvm.MethodName)) ∈ wa := wa_1 83 (by decide +kernel) rfl
theorem ww_84 : (Jvm.Cond.code ({ cls := "EvenCurveKeys$Curve", name := "pointAt", desc := "(JZ)J" } : Jvm.MethodName) prog_2_method_7_code (9 : Nat) (Option.some Jvm.ClassFile.FieldType.long)) ∈ wa := wa_1 84 (by decide +kernel) rfl
theorem ww_85 : (Jvm.Cond.methodLink "EvenCurveKeys$Curve" (33 : Nat) ({ cls := "EvenCurveKeys$Field", name := "has", desc := "(J)Z" } : Jvm.MethodName)) ∈ wa := wa_1 85 (by decide +kernel) rfl
theorem ww_86 : (Jvm.Cond.static ({ cls := "EvenCurveKeys$Field", name := "has", desc := "(J)Z" } : Jvm.MethodName)) ∈ wa := wa_1 86 (by decide +kernel) rfl
theorem ww_87 : (Jvm.Cond.code ({ cls := "EvenCurveKeys$Field", name := "has", desc := "(J)Z" } : Jvm.MethodName) prog_3_method_2_code (2 : Nat) (Option.some Jvm.ClassFile.FieldType.boolean)) ∈ wa := wa_1 87 (by decide +kernel) rfl
theorem ww_88 : (Jvm.Cond.constantLong "EvenCurveKeys$Field" (9 : Nat) (1073735023 : Int64)) ∈ wa := wa_1 88 (by decide +kernel) rfl
theorem ww_89 : (Jvm.Cond.constantLong "EvenCurveKeys$Curve" (21 : Nat) (1073735023 : Int64)) ∈ wa := wa_1 89 (by decide +kernel) rfl
theorem ww_90 : (Jvm.Cond.constantLong "EvenCurveKeys$Curve" (36 : Nat) (7 : Int64)) ∈ wa := wa_1 90 (by decide +kernel) rfl
theorem ww_91 : (Jvm.Cond.methodLink "EvenCurveKeys$Curve" (38 : Nat) ({ cls := "EvenCurveKeys$Field", name := "rootIfAny", desc := "(J)J" } : Jvm.MethodName)) ∈ wa := wa_1 91 (by decide +kernel) rfl
theorem ww_92 : (Jvm.Cond.static ({ cls := "EvenCurveKeys$Field", name := "rootIfAny", desc := "(J)J" } : Jvm.MethodName)) ∈ wa := wa_1 92 (by decide +kernel) rfl
theorem ww_93 : (Jvm.Cond.code ({ cls := "EvenCurveKeys$Field", name := "rootIfAny", desc := "(J)J" } : Jvm.MethodName) prog_3_method_5_code (7 : Nat) (Option.some Jvm.ClassFile.FieldType.long)) ∈ wa := wa_1 93 (by decide +kernel) rfl
theorem ww_94 : (Jvm.Cond.constantLong "EvenCurveKeys$Field" (21 : Nat) (268433756 : Int64)) ∈ wa := wa_1 94 (by decide +kernel) rfl
theorem ww_95 : (Jvm.Cond.constantLong "EvenCurveKeys$Curve" (9 : Nat) (4294967296 : Int64)) ∈ wa := wa_1 95 (by decide +kernel) rfl
theorem ww_96 : (Jvm.Cond.methodLink "EvenCurveKeys$Curve" (26 : Nat) ({ cls := "EvenCurveKeys$Curve", name := "isOdd", desc := "(J)Z" } : Jvm.MethodName)) ∈ wa := wa_1 96 (by decide +kernel) rfl
theorem ww_97 : (Jvm.Cond.static ({ cls := "EvenCurveKeys$Curve", name := "isOdd", desc := "(J)Z" } : Jvm.MethodName)) ∈ wa := wa_1 97 (by decide +kernel) rfl
theorem ww_98 : (Jvm.Cond.code ({ cls := "EvenCurveKeys$Curve", name := "isOdd", desc := "(J)Z" } : Jvm.MethodName) prog_2_method_4_code (2 : Nat) (Option.some Jvm.ClassFile.FieldType.boolean)) ∈ wa := wa_1 98 (by decide +kernel) rfl
theorem ww_99 : (Jvm.Cond.constantLong "EvenCurveKeys$Curve" (11 : Nat) (2 : Int64)) ∈ wa := wa_1 99 (by decide +kernel) rfl
theorem ww_100 : (Jvm.Cond.methodLink "EvenCurveKeys$Curve" (30 : Nat) ({ cls := "EvenCurveKeys$Curve", name := "negative", desc := "(J)J" } : Jvm.MethodName)) ∈ wa := wa_1 100 (by decide +kernel) rfl
theorem ww_101 : (Jvm.Cond.static ({ cls := "EvenCurveKeys$Curve", name := "negative", desc := "(J)J" } : Jvm.MethodName)) ∈ wa := wa_1 101 (by decide +kernel) rfl
theorem ww_102 : (Jvm.Cond.code ({ cls := "EvenCurveKeys$Curve", name := "negative", desc := "(J)J" } : Jvm.MethodName) prog_2_method_5_code (2 : Nat) (Option.some Jvm.ClassFile.FieldType.long)) ∈ wa := wa_1 102 (by decide +kernel) rfl
theorem ww_103 : (Jvm.Cond.methodLink "EvenCurveKeys$Curve" (15 : Nat) ({ cls := "EvenCurveKeys$Curve", name := "xOf", desc := "(J)J" } : Jvm.MethodName)) ∈ wa := wa_1 103 (by decide +kernel) rfl
theorem ww_104 : (Jvm.Cond.static ({ cls := "EvenCurveKeys$Curve", name := "xOf", desc := "(J)J" } : Jvm.MethodName)) ∈ wa := wa_1 104 (by decide +kernel) rfl
theorem ww_105 : (Jvm.Cond.code ({ cls := "EvenCurveKeys$Curve", name := "xOf", desc := "(J)J" } : Jvm.MethodName) prog_2_method_2_code (2 : Nat) (Option.some Jvm.ClassFile.FieldType.long)) ∈ wa := wa_1 105 (by decide +kernel) rfl
theorem ww_106 : (Jvm.Cond.methodLink "EvenCurveKeys$Curve" (23 : Nat) ({ cls := "EvenCurveKeys$Curve", name := "yOf", desc := "(J)J" } : Jvm.MethodName)) ∈ wa := wa_1 106 (by decide +kernel) rfl
theorem ww_107 : (Jvm.Cond.static ({ cls := "EvenCurveKeys$Curve", name := "yOf", desc := "(J)J" } : Jvm.MethodName)) ∈ wa := wa_1 107 (by decide +kernel) rfl
theorem ww_108 : (Jvm.Cond.code ({ cls := "EvenCurveKeys$Curve", name := "yOf", desc := "(J)J" } : Jvm.MethodName) prog_2_method_3_code (2 : Nat) (Option.some Jvm.ClassFile.FieldType.long)) ∈ wa := wa_1 108 (by decide +kernel) rfl
theorem ww_109 : (Jvm.Cond.methodLink "EvenCurveKeys" (64 : Nat) ({ cls := "EvenCurveKeys$Curve", name := "toCode", desc := "(J)J" } : Jvm.MethodName)) ∈ wa := wa_1 109 (by decide +kernel) rfl
theorem ww_110 : (Jvm.Cond.static ({ cls := "EvenCurveKeys$Curve", name := "toCode", desc := "(J)J" } : Jvm.MethodName)) ∈ wa := wa_1 110 (by decide +kernel) rfl
theorem ww_111 : (Jvm.Cond.code ({ cls := "EvenCurveKeys$Curve", name := "toCode", desc := "(J)J" } : Jvm.MethodName) prog_2_method_8_code (2 : Nat) (Option.some Jvm.ClassFile.FieldType.long)) ∈ wa := wa_1 111 (by decide +kernel) rfl
theorem ww_112 : (Jvm.Cond.methodLink "EvenCurveKeysLaw" (119 : Nat) ({ cls := "EvenCurveKeys", name := "mark", desc := "()I" } : Jvm.MethodName)) ∈ wa := wa_1 112 (by decide +kernel) rfl
theorem ww_113 : (Jvm.Cond.instanceMethod ({ cls := "EvenCurveKeys", name := "mark", desc := "()I" } : Jvm.MethodName)) ∈ wa := wa_1 113 (by decide +kernel) rfl
theorem ww_114 : (Jvm.Cond.selects "EvenCurveKeys" ({ cls := "EvenCurveKeys", name := "mark", desc := "()I" } : Jvm.MethodName) ({ cls := "EvenCurveKeys", name := "mark", desc := "()I" } : Jvm.MethodName)) ∈ wa := wa_1 114 (by decide +kernel) rfl
theorem ww_115 : (Jvm.Cond.code ({ cls := "EvenCurveKeys", name := "mark", desc := "()I" } : Jvm.MethodName) prog_1_method_10_code (1 : Nat) (Option.some Jvm.ClassFile.FieldType.int)) ∈ wa := wa_1 115 (by decide +kernel) rfl
theorem ww_116 : (Jvm.Cond.methodLink "EvenCurveKeysLaw" (141 : Nat) ({ cls := "EvenCurveKeys", name := "right", desc := "(J)Z" } : Jvm.MethodName)) ∈ wa := wa_1 116 (by decide +kernel) rfl
theorem ww_117 : (Jvm.Cond.instanceMethod ({ cls := "EvenCurveKeys", name := "right", desc := "(J)Z" } : Jvm.MethodName)) ∈ wa := wa_1 117 (by decide +kernel) rfl
theorem ww_118 : (Jvm.Cond.selects "EvenCurveKeys" ({ cls := "EvenCurveKeys", name := "right", desc := "(J)Z" } : Jvm.MethodName) ({ cls := "EvenCurveKeys", name := "right", desc := "(J)Z" } : Jvm.MethodName)) ∈ wa := wa_1 118 (by decide +kernel) rfl
theorem ww_119 : (Jvm.Cond.code ({ cls := "EvenCurveKeys", name := "right", desc := "(J)Z" } : Jvm.MethodName) prog_1_method_16_code (4 : Nat) (Option.some Jvm.ClassFile.FieldType.boolean)) ∈ wa := wa_1 119 (by decide +kernel) rfl
theorem ww_120 : (Jvm.Cond.methodLink "EvenCurveKeys" (143 : Nat) ({ cls := "EvenCurveKeys$Items", name := "balance", desc := "(J)Z" } : Jvm.MethodName)) ∈ wa := wa_1 120 (by decide +kernel) rfl
theorem ww_121 : (Jvm.Cond.instanceMethod ({ cls := "EvenCurveKeys$Items", name := "balance", desc := "(J)Z" } : Jvm.MethodName)) ∈ wa := wa_1 121 (by decide +kernel) rfl
theorem ww_122 : (Jvm.Cond.selects "EvenCurveKeys$Items" ({ cls := "EvenCurveKeys$Items", name := "balance", desc := "(J)Z" } : Jvm.MethodName) ({ cls := "EvenCurveKeys$Items", name := "balance", desc := "(J)Z" } : Jvm.MethodName)) ∈ wa := wa_1 122 (by decide +kernel) rfl
theorem ww_123 : (Jvm.Cond.code ({ cls := "EvenCurveKeys$Items", name := "balance", desc := "(J)Z" } : Jvm.MethodName) prog_5_method_5_code (16 : Nat) (Option.some Jvm.ClassFile.FieldType.boolean)) ∈ wa := wa_1 123 (by decide +kernel) rfl
theorem ww_124 : (Jvm.Cond.methodLink "EvenCurveKeys$Items" (35 : Nat) ({ cls := "EvenCurveKeys$Curve", name := "pointAt", desc := "(JZ)J" } : Jvm.MethodName)) ∈ wa := wa_1 124 (by decide +kernel) rfl
theorem ww_125 : (Jvm.Cond.methodLink "EvenCurveKeys$Items" (39 : Nat) ({ cls := "EvenCurveKeys$Scalars", name := "has", desc := "(J)Z" } : Jvm.MethodName)) ∈ wa := wa_1 125 (by decide +kernel) rfl
theorem ww_126 : (Jvm.Cond.static ({ cls := "EvenCurveKeys$Scalars", name := "has", desc := "(J)Z" } : Jvm.MethodName)) ∈ wa := wa_1 126 (by decide +kernel) rfl
theorem ww_127 : (Jvm.Cond.code ({ cls := "EvenCurveKeys$Scalars", name := "has", desc := "(J)Z" } : Jvm.MethodName) prog_6_method_2_code (2 : Nat) (Option.some Jvm.ClassFile.FieldType.boolean)) ∈ wa := wa_1 127 (by decide +kernel) rfl
theorem ww_128 : (Jvm.Cond.constantLong "EvenCurveKeys$Scalars" (9 : Nat) (1073729077 : Int64)) ∈ wa := wa_1 128 (by decide +kernel) rfl
theorem ww_129 : (Jvm.Cond.methodLink "EvenCurveKeys$Items" (45 : Nat) ({ cls := "EvenCurveKeys$Items", name := "weight", desc := "(JI)J" } : Jvm.MethodName)) ∈ wa := wa_1 129 (by decide +kernel) rfl
theorem ww_130 : (Jvm.Cond.static ({ cls := "EvenCurveKeys$Items", name := "weight", desc := "(JI)J" } : Jvm.MethodName)) ∈ wa := wa_1 130 (by decide +kernel) rfl
theorem ww_131 : (Jvm.Cond.code ({ cls := "EvenCurveKeys$Items", name := "weight", desc := "(JI)J" } : Jvm.MethodName) prog_5_method_6_code (3 : Nat) (Option.some Jvm.ClassFile.FieldType.long)) ∈ wa := wa_1 131 (by decide +kernel) rfl
theorem ww_133 : (Jvm.Cond.static ({ cls := "EvenCurveKeys", name := "mix", desc := "(JJ)J" } : Jvm.MethodName)) ∈ wa := wa_1 133 (by decide +kernel) rfl
theorem ww_134 : (Jvm.Cond.code ({ cls := "EvenCurveKeys", name := "mix", desc := "(JJ)J" } : Jvm.MethodName) prog_1_method_29_code (6 : Nat) (Option.some Jvm.ClassFile.FieldType.long)) ∈ wa := wa_1 134 (by decide +kernel) rfl
theorem ww_135 : (Jvm.Cond.constantLong "EvenCurveKeys" (185 : Nat) (5903417616886299669 : Int64)) ∈ wa := wa_1 135 (by decide +kernel) rfl
theorem ww_136 : (Jvm.Cond.constantLong "EvenCurveKeys" (187 : Nat) (6364136223846793005 : Int64)) ∈ wa := wa_1 136 (by decide +kernel) rfl
theorem ww_137 : (Jvm.Cond.constantLong "EvenCurveKeys" (189 : Nat) (2685821657736338717 : Int64)) ∈ wa := wa_1 137 (by decide +kernel) rfl
theorem ww_138 : (Jvm.Cond.constantLong "EvenCurveKeys$Items" (74 : Nat) (1073729076 : Int64)) ∈ wa := wa_1 138 (by decide +kernel) rfl
theorem ww_139 : (Jvm.Cond.methodLink "EvenCurveKeys$Items" (49 : Nat) ({ cls := "EvenCurveKeys$Curve", name := "xOf", desc := "(J)J" } : Jvm.MethodName)) ∈ wa := wa_1 139 (by decide +kernel) rfl
theorem ww_141 : (Jvm.Cond.static ({ cls := "EvenCurveKeys", name := "challenge", desc := "(JJJ)J" } : Jvm.MethodName)) ∈ wa := wa_1 141 (by decide +kernel) rfl
theorem ww_142 : (Jvm.Cond.code ({ cls := "EvenCurveKeys", name := "challenge", desc := "(JJJ)J" } : Jvm.MethodName) prog_1_method_31_code (6 : Nat) (Option.some Jvm.ClassFile.FieldType.long)) ∈ wa := wa_1 142 (by decide +kernel) rfl
theorem ww_143 : (Jvm.Cond.constantLong "EvenCurveKeys" (110 : Nat) (4294967296 : Int64)) ∈ wa := wa_1 143 (by decide +kernel) rfl
theorem ww_144 : (Jvm.Cond.constantLong "EvenCurveKeys" (193 : Nat) (29 : Int64)) ∈ wa := wa_1 144 (by decide +kernel) rfl
theorem ww_145 : (Jvm.Cond.methodLink "EvenCurveKeys" (95 : Nat) ({ cls := "EvenCurveKeys", name := "mix", desc := "(JJ)J" } : Jvm.MethodName)) ∈ wa := wa_1 145 (by decide +kernel) rfl
theorem ww_146 : (Jvm.Cond.constantLong "EvenCurveKeys" (101 : Nat) (1073729077 : Int64)) ∈ wa := wa_1 146 (by decide +kernel) rfl
theorem ww_147 : (Jvm.Cond.constantLong "EvenCurveKeys$Items" (56 : Nat) (1073729077 : Int64)) ∈ wa := wa_1 147 (by decide +kernel) rfl
theorem ww_148 : (Jvm.Cond.methodLink "EvenCurveKeys$Items" (58 : Nat) ({ cls := "EvenCurveKeys$Curve", name := "sumOfMultiples", desc := "(JJJJ)J" } : Jvm.MethodName)) ∈ wa := wa_1 148 (by decide +kernel) rfl
theorem ww_149 : (Jvm.Cond.static ({ cls := "EvenCurveKeys$Curve", name := "sumOfMultiples", desc := "(JJJJ)J" } : Jvm.MethodName)) ∈ wa := wa_1 149 (by decide +kernel) rfl
theorem ww_150 : (Jvm.Cond.code ({ cls := "EvenCurveKeys$Curve", name := "sumOfMultiples", desc := "(JJJJ)J" } : Jvm.MethodName) prog_2_method_12_code (8 : Nat) (Option.some Jvm.ClassFile.FieldType.long)) ∈ wa := wa_1 150 (by decide +kernel) rfl
theorem ww_151 : (Jvm.Cond.methodLink "EvenCurveKeys$Curve" (57 : Nat) ({ cls := "EvenCurveKeys$Curve", name := "multiple", desc := "(JJ)J" } : Jvm.MethodName)) ∈ wa := wa_1 151 (by decide +kernel) rfl
theorem ww_152 : (Jvm.Cond.static ({ cls := "EvenCurveKeys$Curve", name := "multiple", desc := "(JJ)J" } : Jvm.MethodName)) ∈ wa := wa_1 152 (by decide +kernel) rfl
theorem ww_153 : (Jvm.Cond.code ({ cls := "EvenCurveKeys$Curve", name := "multiple", desc := "(JJ)J" } : Jvm.MethodName) prog_2_method_11_code (7 : Nat) (Option.some Jvm.ClassFile.FieldType.long)) ∈ wa := wa_1 153 (by decide +kernel) rfl
theorem ww_154 : (Jvm.Cond.methodLink "EvenCurveKeys$Curve" (54 : Nat) ({ cls := "EvenCurveKeys$Curve", name := "sum", desc := "(JJ)J" } : Jvm.MethodName)) ∈ wa := wa_1 154 (by decide +kernel) rfl
theorem ww_155 : (Jvm.Cond.static ({ cls := "EvenCurveKeys$Curve", name := "sum", desc := "(JJ)J" } : Jvm.MethodName)) ∈ wa := wa_1 155 (by decide +kernel) rfl
theorem ww_156 : (Jvm.Cond.code ({ cls := "EvenCurveKeys$Curve", name := "sum", desc := "(JJ)J" } : Jvm.MethodName) prog_2_method_10_code (14 : Nat) (Option.some Jvm.ClassFile.FieldType.long)) ∈ wa := wa_1 156 (by decide +kernel) rfl
theorem ww_157 : (Jvm.Cond.constantLong "EvenCurveKeys$Curve" (41 : Nat) (3 : Int64)) ∈ wa := wa_1 157 (by decide +kernel) rfl
theorem ww_158 : (Jvm.Cond.methodLink "EvenCurveKeys$Curve" (47 : Nat) ({ cls := "EvenCurveKeys$Field", name := "quotient", desc := "(JJ)J" } : Jvm.MethodName)) ∈ wa := wa_1 158 (by decide +kernel) rfl
theorem ww_159 : (Jvm.Cond.static ({ cls := "EvenCurveKeys$Field", name := "quotient", desc := "(JJ)J" } : Jvm.MethodName)) ∈ wa := wa_1 159 (by decide +kernel) rfl
theorem ww_160 : (Jvm.Cond.code ({ cls := "EvenCurveKeys$Field", name := "quotient", desc := "(JJ)J" } : Jvm.MethodName) prog_3_method_4_code (4 : Nat) (Option.some Jvm.ClassFile.FieldType.long)) ∈ wa := wa_1 160 (by decide +kernel) rfl
theorem ww_161 : (Jvm.Cond.methodLink "EvenCurveKeys$Field" (11 : Nat) ({ cls := "EvenCurveKeys$Field", name := "reduced", desc := "(J)J" } : Jvm.MethodName)) ∈ wa := wa_1 161 (by decide +kernel) rfl
theorem ww_162 : (Jvm.Cond.static ({ cls := "EvenCurveKeys$Field", name := "reduced", desc := "(J)J" } : Jvm.MethodName)) ∈ wa := wa_1 162 (by decide +kernel) rfl
theorem ww_163 : (Jvm.Cond.code ({ cls := "EvenCurveKeys$Field", name := "reduced", desc := "(J)J" } : Jvm.MethodName) prog_3_method_3_code (4 : Nat) (Option.some Jvm.ClassFile.FieldType.long)) ∈ wa := wa_1 163 (by decide +kernel) rfl
theorem ww_165 : (Jvm.Cond.static ({ cls := "EvenCurveKeys", name := "inverse", desc := "(JJ)J" } : Jvm.MethodName)) ∈ wa := wa_1 165 (by decide +kernel) rfl
theorem ww_166 : (Jvm.Cond.code ({ cls := "EvenCurveKeys", name := "inverse", desc := "(JJ)J" } : Jvm.MethodName) prog_1_method_32_code (19 : Nat) (Option.some Jvm.ClassFile.FieldType.long)) ∈ wa := wa_1 166 (by decide +kernel) rfl
theorem ww_167 : (Jvm.Cond.methodLink "EvenCurveKeys$Curve" (51 : Nat) ({ cls := "EvenCurveKeys$Field", name := "reduced", desc := "(J)J" } : Jvm.MethodName)) ∈ wa := wa_1 167 (by decide +kernel) rfl
theorem ww_168 : (Jvm.Cond.methodLink "EvenCurveKeys$Items" (62 : Nat) ({ cls := "EvenCurveKeys$Curve", name := "sum", desc := "(JJ)J" } : Jvm.MethodName)) ∈ wa := wa_1 168 (by decide +kernel) rfl
theorem ww_169 : (Jvm.Cond.constantLong "EvenCurveKeys$Items" (66 : Nat) (4411025356 : Int64)) ∈ wa := wa_1 169 (by decide +kernel) rfl
theorem ww_170 : (Jvm.Cond.methodLink "EvenCurveKeys$Items" (68 : Nat) ({ cls := "EvenCurveKeys$Curve", name := "multiple", desc := "(JJ)J" } : Jvm.MethodName)) ∈ wa := wa_1 170 (by decide +kernel) rfl
theorem ww_171 : (Jvm.Cond.methodLink "EvenCurveKeys" (146 : Nat) ({ cls := "EvenCurveKeys$Items", name := "clear", desc := "()V" } : Jvm.MethodName)) ∈ wa := wa_1 171 (by decide +kernel) rfl
theorem ww_172 : (Jvm.Cond.instanceMethod ({ cls := "EvenCurveKeys$Items", name := "clear", desc := "()V" } : Jvm.MethodName)) ∈ wa := wa_1 172 (by decide +kernel) rfl
theorem ww_173 : (Jvm.Cond.selects "EvenCurveKeys$Items" ({ cls := "EvenCurveKeys$Items", name := "clear", desc := "()V" } : Jvm.MethodName) ({ cls := "EvenCurveKeys$Items", name := "clear", desc := "()V" } : Jvm.MethodName)) ∈ wa := wa_1 173 (by decide +kernel) rfl
theorem ww_174 : (Jvm.Cond.code ({ cls := "EvenCurveKeys$Items", name := "clear", desc := "()V" } : Jvm.MethodName) prog_5_method_4_code (1 : Nat) (Option.none : Option Jvm.ClassFile.FieldType)) ∈ wa := wa_1 174 (by decide +kernel) rfl
theorem ww_175 : (Jvm.Cond.methodLink "EvenCurveKeysLaw" (155 : Nat) ({ cls := "EvenCurveKeys", name := "read", desc := "()J" } : Jvm.MethodName)) ∈ wa := wa_1 175 (by decide +kernel) rfl
theorem ww_176 : (Jvm.Cond.instanceMethod ({ cls := "EvenCurveKeys", name := "read", desc := "()J" } : Jvm.MethodName)) ∈ wa := wa_1 176 (by decide +kernel) rfl
theorem ww_177 : (Jvm.Cond.selects "EvenCurveKeys" ({ cls := "EvenCurveKeys", name := "read", desc := "()J" } : Jvm.MethodName) ({ cls := "EvenCurveKeys", name := "read", desc := "()J" } : Jvm.MethodName)) ∈ wa := wa_1 177 (by decide +kernel) rfl
theorem ww_178 : (Jvm.Cond.code ({ cls := "EvenCurveKeys", name := "read", desc := "()J" } : Jvm.MethodName) prog_1_method_20_code (3 : Nat) (Option.some Jvm.ClassFile.FieldType.long)) ∈ wa := wa_1 178 (by decide +kernel) rfl
theorem ww_179 : (Jvm.Cond.methodLink "EvenCurveKeys" (168 : Nat) ({ cls := "EvenCurveKeys$Typed", name := "numbers", desc := "()J" } : Jvm.MethodName)) ∈ wa := wa_1 179 (by decide +kernel) rfl
theorem ww_180 : (Jvm.Cond.instanceMethod ({ cls := "EvenCurveKeys$Typed", name := "numbers", desc := "()J" } : Jvm.MethodName)) ∈ wa := wa_1 180 (by decide +kernel) rfl
theorem ww_181 : (Jvm.Cond.selects "EvenCurveKeys$Typed" ({ cls := "EvenCurveKeys$Typed", name := "numbers", desc := "()J" } : Jvm.MethodName) ({ cls := "EvenCurveKeys$Typed", name := "numbers", desc := "()J" } : Jvm.MethodName)) ∈ wa := wa_1 181 (by decide +kernel) rfl
theorem ww_182 : (Jvm.Cond.code ({ cls := "EvenCurveKeys$Typed", name := "numbers", desc := "()J" } : Jvm.MethodName) prog_7_method_5_code (4 : Nat) (Option.some Jvm.ClassFile.FieldType.long)) ∈ wa := wa_1 182 (by decide +kernel) rfl
theorem ww_183 : (Jvm.Cond.methodLink "EvenCurveKeys$Typed" (21 : Nat) ({ cls := "EvenCurveKeys$Typed", name := "sizeAt", desc := "(I)I" } : Jvm.MethodName)) ∈ wa := wa_1 183 (by decide +kernel) rfl
theorem ww_185 : (Jvm.Cond.instanceMethod ({ cls := "EvenCurveKeys$Typed", name := "sizeAt", desc := "(I)I" } : Jvm.MethodName)) ∈ wa := wa_1 185 (by decide +kernel) rfl
theorem ww_186 : (Jvm.Cond.code ({ cls := "EvenCurveKeys$Typed", name := "sizeAt", desc := "(I)I" } : Jvm.MethodName) prog_7_method_6_code (2 : Nat) (Option.some Jvm.ClassFile.FieldType.int)) ∈ wa := wa_1 186 (by decide +kernel) rfl
theorem ww_187 : (Jvm.Cond.methodLink "EvenCurveKeys$Typed" (25 : Nat) ({ cls := "EvenCurveKeys$Typed", name := "numberAt", desc := "(I)I" } : Jvm.MethodName)) ∈ wa := wa_1 187 (by decide +kernel) rfl
theorem ww_189 : (Jvm.Cond.instanceMethod ({ cls := "EvenCurveKeys$Typed", name := "numberAt", desc := "(I)I" } : Jvm.MethodName)) ∈ wa := wa_1 189 (by decide +kernel) rfl
theorem ww_190 : (Jvm.Cond.code ({ cls := "EvenCurveKeys$Typed", name := "numberAt", desc := "(I)I" } : Jvm.MethodName) prog_7_method_7_code (5 : Nat) (Option.some Jvm.ClassFile.FieldType.int)) ∈ wa := wa_1 190 (by decide +kernel) rfl
theorem ww_191 : (Jvm.Cond.methodLink "EvenCurveKeys$Typed" (28 : Nat) ({ cls := "EvenCurveKeys$Typed", name := "areFormOf", desc := "(II)Z" } : Jvm.MethodName)) ∈ wa := wa_1 191 (by decide +kernel) rfl
theorem ww_193 : (Jvm.Cond.instanceMethod ({ cls := "EvenCurveKeys$Typed", name := "areFormOf", desc := "(II)Z" } : Jvm.MethodName)) ∈ wa := wa_1 193 (by decide +kernel) rfl
theorem ww_194 : (Jvm.Cond.code ({ cls := "EvenCurveKeys$Typed", name := "areFormOf", desc := "(II)Z" } : Jvm.MethodName) prog_7_method_8_code (4 : Nat) (Option.some Jvm.ClassFile.FieldType.boolean)) ∈ wa := wa_1 194 (by decide +kernel) rfl
theorem ww_195 : (Jvm.Cond.methodLink "EvenCurveKeys$Typed" (36 : Nat) ({ cls := "EvenCurveKeys$Form", name := "length", desc := "(II)I" } : Jvm.MethodName)) ∈ wa := wa_1 195 (by decide +kernel) rfl
theorem ww_196 : (Jvm.Cond.static ({ cls := "EvenCurveKeys$Form", name := "length", desc := "(II)I" } : Jvm.MethodName)) ∈ wa := wa_1 196 (by decide +kernel) rfl
theorem ww_197 : (Jvm.Cond.code ({ cls := "EvenCurveKeys$Form", name := "length", desc := "(II)I" } : Jvm.MethodName) prog_4_method_3_code (2 : Nat) (Option.some Jvm.ClassFile.FieldType.int)) ∈ wa := wa_1 197 (by decide +kernel) rfl
theorem ww_198 : (Jvm.Cond.methodLink "EvenCurveKeys$Form" (11 : Nat) ({ cls := "EvenCurveKeys$Form", name := "bytesOf", desc := "(I)I" } : Jvm.MethodName)) ∈ wa := wa_1 198 (by decide +kernel) rfl
theorem ww_199 : (Jvm.Cond.static ({ cls := "EvenCurveKeys$Form", name := "bytesOf", desc := "(I)I" } : Jvm.MethodName)) ∈ wa := wa_1 199 (by decide +kernel) rfl
theorem ww_200 : (Jvm.Cond.code ({ cls := "EvenCurveKeys$Form", name := "bytesOf", desc := "(I)I" } : Jvm.MethodName) prog_4_method_2_code (1 : Nat) (Option.some Jvm.ClassFile.FieldType.int)) ∈ wa := wa_1 200 (by decide +kernel) rfl
theorem ww_201 : (Jvm.Cond.constant "EvenCurveKeys$Form" (7 : Nat) (32768 : Int32)) ∈ wa := wa_1 201 (by decide +kernel) rfl
theorem ww_202 : (Jvm.Cond.constant "EvenCurveKeys$Form" (8 : Nat) (8388608 : Int32)) ∈ wa := wa_1 202 (by decide +kernel) rfl
theorem ww_203 : (Jvm.Cond.methodLink "EvenCurveKeys$Typed" (40 : Nat) ({ cls := "EvenCurveKeys$Form", name := "byteAt", desc := "(III)I" } : Jvm.MethodName)) ∈ wa := wa_1 203 (by decide +kernel) rfl
theorem ww_204 : (Jvm.Cond.static ({ cls := "EvenCurveKeys$Form", name := "byteAt", desc := "(III)I" } : Jvm.MethodName)) ∈ wa := wa_1 204 (by decide +kernel) rfl
theorem ww_205 : (Jvm.Cond.code ({ cls := "EvenCurveKeys$Form", name := "byteAt", desc := "(III)I" } : Jvm.MethodName) prog_4_method_4_code (4 : Nat) (Option.some Jvm.ClassFile.FieldType.int)) ∈ wa := wa_1 205 (by decide +kernel) rfl
theorem ww_206 : (Jvm.Cond.methodLink "EvenCurveKeys$Form" (15 : Nat) ({ cls := "EvenCurveKeys$Form", name := "length", desc := "(II)I" } : Jvm.MethodName)) ∈ wa := wa_1 206 (by decide +kernel) rfl
theorem ww_207 : (Jvm.Cond.methodLink "EvenCurveKeys$Form" (19 : Nat) ({ cls := "EvenCurveKeys$Form", name := "numberByteAt", desc := "(II)I" } : Jvm.MethodName)) ∈ wa := wa_1 207 (by decide +kernel) rfl
theorem ww_208 : (Jvm.Cond.static ({ cls := "EvenCurveKeys$Form", name := "numberByteAt", desc := "(II)I" } : Jvm.MethodName)) ∈ wa := wa_1 208 (by decide +kernel) rfl
theorem ww_209 : (Jvm.Cond.code ({ cls := "EvenCurveKeys$Form", name := "numberByteAt", desc := "(II)I" } : Jvm.MethodName) prog_4_method_5_code (3 : Nat) (Option.some Jvm.ClassFile.FieldType.int)) ∈ wa := wa_1 209 (by decide +kernel) rfl
theorem ww_210 : (Jvm.Cond.constantLong "EvenCurveKeys$Typed" (32 : Nat) (4294967296 : Int64)) ∈ wa := wa_1 210 (by decide +kernel) rfl
theorem ww_211 : (Jvm.Cond.constantLong "EvenCurveKeys$Typed" (34 : Nat) (-1 : Int64)) ∈ wa := wa_1 211 (by decide +kernel) rfl
theorem ww_212 : (Jvm.Cond.methodLink "EvenCurveKeys" (172 : Nat) ({ cls := "EvenCurveKeys$Typed", name := "clear", desc := "()V" } : Jvm.MethodName)) ∈ wa := wa_1 212 (by decide +kernel) rfl
theorem ww_213 : (Jvm.Cond.instanceMethod ({ cls := "EvenCurveKeys$Typed", name := "clear", desc := "()V" } : Jvm.MethodName)) ∈ wa := wa_1 213 (by decide +kernel) rfl
theorem ww_214 : (Jvm.Cond.selects "EvenCurveKeys$Typed" ({ cls := "EvenCurveKeys$Typed", name := "clear", desc := "()V" } : Jvm.MethodName) ({ cls := "EvenCurveKeys$Typed", name := "clear", desc := "()V" } : Jvm.MethodName)) ∈ wa := wa_1 214 (by decide +kernel) rfl
theorem ww_215 : (Jvm.Cond.code ({ cls := "EvenCurveKeys$Typed", name := "clear", desc := "()V" } : Jvm.MethodName) prog_7_method_4_code (1 : Nat) (Option.none : Option Jvm.ClassFile.FieldType)) ∈ wa := wa_1 215 (by decide +kernel) rfl
theorem ww_216 : (Jvm.Cond.methodLink "EvenCurveKeysLaw" (80 : Nat) ({ cls := "EvenCurveKeysLaw", name := "secret", desc := "(LEvenCurveKeys;II[J)I" } : Jvm.MethodName)) ∈ wa := wa_1 216 (by decide +kernel) rfl
theorem ww_217 : (Jvm.Cond.static ({ cls := "EvenCurveKeysLaw", name := "secret", desc := "(LEvenCurveKeys;II[J)I" } : Jvm.MethodName)) ∈ wa := wa_1 217 (by decide +kernel) rfl
theorem ww_218 : (Jvm.Cond.codeWith ({ cls := "EvenCurveKeysLaw", name := "secret", desc := "(LEvenCurveKeys;II[J)I" } : Jvm.MethodName) method_3_code (5 : Nat) (Option.some Jvm.ClassFile.FieldType.int) [((0 : Nat), (9 : Nat), (12 : Nat), (13 : Nat)), ((0 : Nat), (9 : Nat), (16 : Nat), (15 : Nat))]) ∈ wa := wa_1 218 (by decide +kernel) rfl
theorem ww_219 : (Jvm.Cond.classLink "EvenCurveKeysLaw" (13 : Nat) "java/lang/IndexOutOfBoundsException") ∈ wa := wa_1 219 (by decide +kernel) rfl
theorem ww_220 : (Jvm.Cond.classLink "EvenCurveKeysLaw" (15 : Nat) "java/lang/IllegalArgumentException") ∈ wa := wa_1 220 (by decide +kernel) rfl
theorem ww_221 : (Jvm.Cond.methodLink "EvenCurveKeysLaw" (7 : Nat) ({ cls := "EvenCurveKeys", name := "secret", desc := "(II)J" } : Jvm.MethodName)) ∈ wa := wa_1 221 (by decide +kernel) rfl
theorem ww_222 : (Jvm.Cond.instanceMethod ({ cls := "EvenCurveKeys", name := "secret", desc := "(II)J" } : Jvm.MethodName)) ∈ wa := wa_1 222 (by decide +kernel) rfl
theorem ww_223 : (Jvm.Cond.selects "EvenCurveKeys" ({ cls := "EvenCurveKeys", name := "secret", desc := "(II)J" } : Jvm.MethodName) ({ cls := "EvenCurveKeys", name := "secret", desc := "(II)J" } : Jvm.MethodName)) ∈ wa := wa_1 223 (by decide +kernel) rfl
theorem ww_224 : (Jvm.Cond.code ({ cls := "EvenCurveKeys", name := "secret", desc := "(II)J" } : Jvm.MethodName) prog_1_method_2_code (3 : Nat) (Option.some Jvm.ClassFile.FieldType.long)) ∈ wa := wa_1 224 (by decide +kernel) rfl
theorem ww_225 : (Jvm.Cond.methodLink "EvenCurveKeys" (34 : Nat) ({ cls := "EvenCurveKeys", name := "needSlot", desc := "(I)V" } : Jvm.MethodName)) ∈ wa := wa_1 225 (by decide +kernel) rfl
theorem ww_226 : (Jvm.Cond.static ({ cls := "EvenCurveKeys", name := "needSlot", desc := "(I)V" } : Jvm.MethodName)) ∈ wa := wa_1 226 (by decide +kernel) rfl
theorem ww_227 : (Jvm.Cond.code ({ cls := "EvenCurveKeys", name := "needSlot", desc := "(I)V" } : Jvm.MethodName) prog_1_method_21_code (1 : Nat) (Option.none : Option Jvm.ClassFile.FieldType)) ∈ wa := wa_1 227 (by decide +kernel) rfl
theorem ww_228 : (Jvm.Cond.classLink "EvenCurveKeys" (173 : Nat) "java/lang/IndexOutOfBoundsException") ∈ wa := wa_1 228 (by decide +kernel) rfl
theorem ww_229 : (Jvm.Cond.instantiable "java/lang/IndexOutOfBoundsException" (6 : Nat)) ∈ wa := wa_1 229 (by decide +kernel) rfl
theorem ww_237 : (Jvm.Cond.selects "java/lang/IndexOutOfBoundsException" ({ cls := "java/lang/Throwable", name := "fillInStackTrace", desc := "(I)Ljava/lang/Throwable;" } : Jvm.MethodName) ({ cls := "java/lang/Throwable", name := "fillInStackTrace", desc := "(I)Ljava/lang/Throwable;" } : Jvm.MethodName)) ∈ wa := wa_1 237 (by decide +kernel) rfl
theorem ww_238 : (Jvm.Cond.selects "java/lang/IndexOutOfBoundsException" ({ cls := "java/lang/Throwable", name := "fillInStackTrace", desc := "()Ljava/lang/Throwable;" } : Jvm.MethodName) ({ cls := "java/lang/Throwable", name := "fillInStackTrace", desc := "()Ljava/lang/Throwable;" } : Jvm.MethodName)) ∈ wa := wa_1 238 (by decide +kernel) rfl
theorem ww_249 : (Jvm.Cond.fieldLink "java/lang/Throwable" (198 : Nat) "java/lang/Throwable" "backtrace" "Ljava/lang/Object;") ∈ wa := wa_2 9 (by decide +kernel) rfl
theorem ww_251 : (Jvm.Cond.instanceMethod ({ cls := "java/lang/Throwable", name := "<init>", desc := "()V" } : Jvm.MethodName)) ∈ wa := wa_2 11 (by decide +kernel) rfl
theorem ww_252 : (Jvm.Cond.code ({ cls := "java/lang/Throwable", name := "<init>", desc := "()V" } : Jvm.MethodName) prog_15_method_1_code (1 : Nat) (Option.none : Option Jvm.ClassFile.FieldType)) ∈ wa := wa_2 12 (by decide +kernel) rfl
theorem ww_253 : (Jvm.Cond.methodLink "java/lang/Throwable" (1 : Nat) ({ cls := "java/lang/Object", name := "<init>", desc := "()V" } : Jvm.MethodName)) ∈ wa := wa_2 13 (by decide +kernel) rfl
theorem ww_254 : (Jvm.Cond.fieldLink "java/lang/Throwable" (13 : Nat) "java/lang/Throwable" "UNASSIGNED_STACK" "[Ljava/lang/StackTraceElement;") ∈ wa := wa_2 14 (by decide +kernel) rfl
theorem ww_256 : (Jvm.Cond.fieldLink "java/lang/Throwable" (20 : Nat) "java/lang/Throwable" "SUPPRESSED_SENTINEL" "Ljava/util/List;") ∈ wa := wa_2 16 (by decide +kernel) rfl
theorem ww_258 : (Jvm.Cond.methodLink "java/lang/Throwable" (27 : Nat) ({ cls := "java/lang/Throwable", name := "fillInStackTrace", desc := "()Ljava/lang/Throwable;" } : Jvm.MethodName)) ∈ wa := wa_2 18 (by decide +kernel) rfl
theorem ww_259 : (Jvm.Cond.instanceMethod ({ cls := "java/lang/Throwable", name := "fillInStackTrace", desc := "()Ljava/lang/Throwable;" } : Jvm.MethodName)) ∈ wa := wa_2 19 (by decide +kernel) rfl
theorem ww_261 : (Jvm.Cond.selects "java/lang/IllegalArgumentException" ({ cls := "java/lang/Throwable", name := "fillInStackTrace", desc := "()Ljava/lang/Throwable;" } : Jvm.MethodName) ({ cls := "java/lang/Throwable", name := "fillInStackTrace", desc := "()Ljava/lang/Throwable;" } : Jvm.MethodName)) ∈ wa := wa_2 21 (by decide +kernel) rfl
theorem ww_262 : (Jvm.Cond.selects "java/lang/IllegalStateException" ({ cls := "java/lang/Throwable", name := "fillInStackTrace", desc := "()Ljava/lang/Throwable;" } : Jvm.MethodName) ({ cls := "java/lang/Throwable", name := "fillInStackTrace", desc := "()Ljava/lang/Throwable;" } : Jvm.MethodName)) ∈ wa := wa_2 22 (by decide +kernel) rfl
theorem ww_263 : (Jvm.Cond.selects "java/lang/UnsupportedOperationException" ({ cls := "java/lang/Throwable", name := "fillInStackTrace", desc := "()Ljava/lang/Throwable;" } : Jvm.MethodName) ({ cls := "java/lang/Throwable", name := "fillInStackTrace", desc := "()Ljava/lang/Throwable;" } : Jvm.MethodName)) ∈ wa := wa_2 23 (by decide +kernel) rfl
theorem ww_264 : (Jvm.Cond.selects "java/util/NoSuchElementException" ({ cls := "java/lang/Throwable", name := "fillInStackTrace", desc := "()Ljava/lang/Throwable;" } : Jvm.MethodName) ({ cls := "java/lang/Throwable", name := "fillInStackTrace", desc := "()Ljava/lang/Throwable;" } : Jvm.MethodName)) ∈ wa := wa_2 24 (by decide +kernel) rfl
theorem ww_266 : (Jvm.Cond.methodLink "java/lang/Throwable" (202 : Nat) ({ cls := "java/lang/Throwable", name := "fillInStackTrace", desc := "(I)Ljava/lang/Throwable;" } : Jvm.MethodName)) ∈ wa := wa_2 26 (by decide +kernel) rfl
theorem ww_268 : (Jvm.Cond.instanceMethod ({ cls := "java/lang/Throwable", name := "fillInStackTrace", desc := "(I)Ljava/lang/Throwable;" } : Jvm.MethodName)) ∈ wa := wa_2 28 (by decide +kernel) rfl
theorem ww_269 : (Jvm.Cond.instantiable "java/lang/Throwable" (6 : Nat)) ∈ wa := wa_2 29 (by decide +kernel) rfl
theorem ww_271 : (Jvm.Cond.methodLink "EvenCurveKeys" (175 : Nat) ({ cls := "java/lang/IndexOutOfBoundsException", name := "<init>", desc := "()V" } : Jvm.MethodName)) ∈ wa := wa_2 31 (by decide +kernel) rfl
theorem ww_272 : (Jvm.Cond.instanceMethod ({ cls := "java/lang/IndexOutOfBoundsException", name := "<init>", desc := "()V" } : Jvm.MethodName)) ∈ wa := wa_2 32 (by decide +kernel) rfl
theorem ww_273 : (Jvm.Cond.code ({ cls := "java/lang/IndexOutOfBoundsException", name := "<init>", desc := "()V" } : Jvm.MethodName) prog_13_method_1_code (1 : Nat) (Option.none : Option Jvm.ClassFile.FieldType)) ∈ wa := wa_2 33 (by decide +kernel) rfl
theorem ww_274 : (Jvm.Cond.methodLink "java/lang/IndexOutOfBoundsException" (1 : Nat) ({ cls := "java/lang/RuntimeException", name := "<init>", desc := "()V" } : Jvm.MethodName)) ∈ wa := wa_2 34 (by decide +kernel) rfl
theorem ww_275 : (Jvm.Cond.instanceMethod ({ cls := "java/lang/RuntimeException", name := "<init>", desc := "()V" } : Jvm.MethodName)) ∈ wa := wa_2 35 (by decide +kernel) rfl
theorem ww_276 : (Jvm.Cond.code ({ cls := "java/lang/RuntimeException", name := "<init>", desc := "()V" } : Jvm.MethodName) prog_14_method_1_code (1 : Nat) (Option.none : Option Jvm.ClassFile.FieldType)) ∈ wa := wa_2 36 (by decide +kernel) rfl
theorem ww_277 : (Jvm.Cond.methodLink "java/lang/RuntimeException" (1 : Nat) ({ cls := "java/lang/Exception", name := "<init>", desc := "()V" } : Jvm.MethodName)) ∈ wa := wa_2 37 (by decide +kernel) rfl
theorem ww_278 : (Jvm.Cond.instanceMethod ({ cls := "java/lang/Exception", name := "<init>", desc := "()V" } : Jvm.MethodName)) ∈ wa := wa_2 38 (by decide +kernel) rfl
theorem ww_279 : (Jvm.Cond.code ({ cls := "java/lang/Exception", name := "<init>", desc := "()V" } : Jvm.MethodName) prog_10_method_1_code (1 : Nat) (Option.none : Option Jvm.ClassFile.FieldType)) ∈ wa := wa_2 39 (by decide +kernel) rfl
theorem ww_280 : (Jvm.Cond.methodLink "java/lang/Exception" (1 : Nat) ({ cls := "java/lang/Throwable", name := "<init>", desc := "()V" } : Jvm.MethodName)) ∈ wa := wa_2 40 (by decide +kernel) rfl
theorem ww_281 : (Jvm.Cond.fieldLink "java/lang/Throwable" (198 : Nat) "java/lang/Throwable" "backtrace" "Ljava/lang/Object;") ∈ wa := wa_2 41 (by decide +kernel) rfl
theorem ww_282 : (Jvm.Cond.fieldLink "java/lang/Throwable" (7 : Nat) "java/lang/Throwable" "cause" "Ljava/lang/Throwable;") ∈ wa := wa_2 42 (by decide +kernel) rfl
theorem ww_283 : (Jvm.Cond.fieldLink "java/lang/Throwable" (17 : Nat) "java/lang/Throwable" "stackTrace" "[Ljava/lang/StackTraceElement;") ∈ wa := wa_2 43 (by decide +kernel) rfl
theorem ww_284 : (Jvm.Cond.fieldLink "java/lang/Throwable" (24 : Nat) "java/lang/Throwable" "suppressedExceptions" "Ljava/util/List;") ∈ wa := wa_2 44 (by decide +kernel) rfl
theorem ww_293 : (Jvm.Cond.methodLink "EvenCurveKeys" (38 : Nat) ({ cls := "EvenCurveKeys$Scalars", name := "isUnit", desc := "(J)Z" } : Jvm.MethodName)) ∈ wa := wa_2 53 (by decide +kernel) rfl
theorem ww_294 : (Jvm.Cond.static ({ cls := "EvenCurveKeys$Scalars", name := "isUnit", desc := "(J)Z" } : Jvm.MethodName)) ∈ wa := wa_2 54 (by decide +kernel) rfl
theorem ww_295 : (Jvm.Cond.code ({ cls := "EvenCurveKeys$Scalars", name := "isUnit", desc := "(J)Z" } : Jvm.MethodName) prog_6_method_3_code (2 : Nat) (Option.some Jvm.ClassFile.FieldType.boolean)) ∈ wa := wa_2 55 (by decide +kernel) rfl
theorem ww_296 : (Jvm.Cond.methodLink "EvenCurveKeys" (44 : Nat) ({ cls := "EvenCurveKeys", name := "needArgument", desc := "(Z)V" } : Jvm.MethodName)) ∈ wa := wa_2 56 (by decide +kernel) rfl
theorem ww_297 : (Jvm.Cond.static ({ cls := "EvenCurveKeys", name := "needArgument", desc := "(Z)V" } : Jvm.MethodName)) ∈ wa := wa_2 57 (by decide +kernel) rfl
theorem ww_298 : (Jvm.Cond.code ({ cls := "EvenCurveKeys", name := "needArgument", desc := "(Z)V" } : Jvm.MethodName) prog_1_method_22_code (1 : Nat) (Option.none : Option Jvm.ClassFile.FieldType)) ∈ wa := wa_2 58 (by decide +kernel) rfl
theorem ww_299 : (Jvm.Cond.classLink "EvenCurveKeys" (176 : Nat) "java/lang/IllegalArgumentException") ∈ wa := wa_2 59 (by decide +kernel) rfl
theorem ww_300 : (Jvm.Cond.instantiable "java/lang/IllegalArgumentException" (6 : Nat)) ∈ wa := wa_2 60 (by decide +kernel) rfl
theorem ww_302 : (Jvm.Cond.selects "java/lang/IllegalArgumentException" ({ cls := "java/lang/Throwable", name := "fillInStackTrace", desc := "(I)Ljava/lang/Throwable;" } : Jvm.MethodName) ({ cls := "java/lang/Throwable", name := "fillInStackTrace", desc := "(I)Ljava/lang/Throwable;" } : Jvm.MethodName)) ∈ wa := wa_2 62 (by decide +kernel) rfl
theorem ww_308 : (Jvm.Cond.methodLink "EvenCurveKeys" (178 : Nat) ({ cls := "java/lang/IllegalArgumentException", name := "<init>", desc := "()V" } : Jvm.MethodName)) ∈ wa := wa_2 68 (by decide +kernel) rfl
theorem ww_309 : (Jvm.Cond.instanceMethod ({ cls := "java/lang/IllegalArgumentException", name := "<init>", desc := "()V" } : Jvm.MethodName)) ∈ wa := wa_2 69 (by decide +kernel) rfl
theorem ww_310 : (Jvm.Cond.code ({ cls := "java/lang/IllegalArgumentException", name := "<init>", desc := "()V" } : Jvm.MethodName) prog_11_method_1_code (1 : Nat) (Option.none : Option Jvm.ClassFile.FieldType)) ∈ wa := wa_2 70 (by decide +kernel) rfl
theorem ww_311 : (Jvm.Cond.methodLink "java/lang/IllegalArgumentException" (1 : Nat) ({ cls := "java/lang/RuntimeException", name := "<init>", desc := "()V" } : Jvm.MethodName)) ∈ wa := wa_2 71 (by decide +kernel) rfl
theorem ww_314 : (Jvm.Cond.constantLong "EvenCurveKeys" (50 : Nat) (4411025356 : Int64)) ∈ wa := wa_2 74 (by decide +kernel) rfl
theorem ww_315 : (Jvm.Cond.methodLink "EvenCurveKeys" (52 : Nat) ({ cls := "EvenCurveKeys$Curve", name := "multiple", desc := "(JJ)J" } : Jvm.MethodName)) ∈ wa := wa_2 75 (by decide +kernel) rfl
theorem ww_316 : (Jvm.Cond.methodLink "EvenCurveKeys" (56 : Nat) ({ cls := "EvenCurveKeys", name := "fill", desc := "(IJJ)J" } : Jvm.MethodName)) ∈ wa := wa_2 76 (by decide +kernel) rfl
theorem ww_318 : (Jvm.Cond.instanceMethod ({ cls := "EvenCurveKeys", name := "fill", desc := "(IJJ)J" } : Jvm.MethodName)) ∈ wa := wa_2 78 (by decide +kernel) rfl
theorem ww_319 : (Jvm.Cond.code ({ cls := "EvenCurveKeys", name := "fill", desc := "(IJJ)J" } : Jvm.MethodName) prog_1_method_25_code (6 : Nat) (Option.some Jvm.ClassFile.FieldType.long)) ∈ wa := wa_2 79 (by decide +kernel) rfl
theorem ww_320 : (Jvm.Cond.methodLink "EvenCurveKeysLaw" (92 : Nat) ({ cls := "EvenCurveKeysLaw", name := "open", desc := "(LEvenCurveKeys;IJ)I" } : Jvm.MethodName)) ∈ wa := wa_2 80 (by decide +kernel) rfl
theorem ww_321 : (Jvm.Cond.static ({ cls := "EvenCurveKeysLaw", name := "open", desc := "(LEvenCurveKeys;IJ)I" } : Jvm.MethodName)) ∈ wa := wa_2 81 (by decide +kernel) rfl
theorem ww_322 : (Jvm.Cond.codeWith ({ cls := "EvenCurveKeysLaw", name := "open", desc := "(LEvenCurveKeys;IJ)I" } : Jvm.MethodName) method_4_code (5 : Nat) (Option.some Jvm.ClassFile.FieldType.int) [((0 : Nat), (6 : Nat), (9 : Nat), (13 : Nat)), ((0 : Nat), (6 : Nat), (13 : Nat), (15 : Nat))]) ∈ wa := wa_2 82 (by decide +kernel) rfl
theorem ww_323 : (Jvm.Cond.methodLink "EvenCurveKeysLaw" (17 : Nat) ({ cls := "EvenCurveKeys", name := "open", desc := "(IJ)V" } : Jvm.MethodName)) ∈ wa := wa_2 83 (by decide +kernel) rfl
theorem ww_324 : (Jvm.Cond.instanceMethod ({ cls := "EvenCurveKeys", name := "open", desc := "(IJ)V" } : Jvm.MethodName)) ∈ wa := wa_2 84 (by decide +kernel) rfl
theorem ww_325 : (Jvm.Cond.selects "EvenCurveKeys" ({ cls := "EvenCurveKeys", name := "open", desc := "(IJ)V" } : Jvm.MethodName) ({ cls := "EvenCurveKeys", name := "open", desc := "(IJ)V" } : Jvm.MethodName)) ∈ wa := wa_2 85 (by decide +kernel) rfl
theorem ww_326 : (Jvm.Cond.code ({ cls := "EvenCurveKeys", name := "open", desc := "(IJ)V" } : Jvm.MethodName) prog_1_method_3_code (6 : Nat) (Option.none : Option Jvm.ClassFile.FieldType)) ∈ wa := wa_2 86 (by decide +kernel) rfl
theorem ww_327 : (Jvm.Cond.methodLink "EvenCurveKeys" (60 : Nat) ({ cls := "EvenCurveKeys$Curve", name := "fromCode", desc := "(J)J" } : Jvm.MethodName)) ∈ wa := wa_2 87 (by decide +kernel) rfl
theorem ww_328 : (Jvm.Cond.static ({ cls := "EvenCurveKeys$Curve", name := "fromCode", desc := "(J)J" } : Jvm.MethodName)) ∈ wa := wa_2 88 (by decide +kernel) rfl
theorem ww_329 : (Jvm.Cond.code ({ cls := "EvenCurveKeys$Curve", name := "fromCode", desc := "(J)J" } : Jvm.MethodName) prog_2_method_9_code (4 : Nat) (Option.some Jvm.ClassFile.FieldType.long)) ∈ wa := wa_2 89 (by decide +kernel) rfl
theorem ww_330 : (Jvm.Cond.methodLink "EvenCurveKeys$Curve" (43 : Nat) ({ cls := "EvenCurveKeys$Curve", name := "pointAt", desc := "(JZ)J" } : Jvm.MethodName)) ∈ wa := wa_2 90 (by decide +kernel) rfl
theorem ww_331 : (Jvm.Cond.methodLink "EvenCurveKeysLaw" (96 : Nat) ({ cls := "EvenCurveKeysLaw", name := "code", desc := "(LEvenCurveKeys;I[J)I" } : Jvm.MethodName)) ∈ wa := wa_2 91 (by decide +kernel) rfl
theorem ww_332 : (Jvm.Cond.static ({ cls := "EvenCurveKeysLaw", name := "code", desc := "(LEvenCurveKeys;I[J)I" } : Jvm.MethodName)) ∈ wa := wa_2 92 (by decide +kernel) rfl
theorem ww_333 : (Jvm.Cond.codeWith ({ cls := "EvenCurveKeysLaw", name := "code", desc := "(LEvenCurveKeys;I[J)I" } : Jvm.MethodName) method_5_code (4 : Nat) (Option.some Jvm.ClassFile.FieldType.int) [((0 : Nat), (8 : Nat), (11 : Nat), (13 : Nat))]) ∈ wa := wa_2 93 (by decide +kernel) rfl
theorem ww_334 : (Jvm.Cond.methodLink "EvenCurveKeysLaw" (21 : Nat) ({ cls := "EvenCurveKeys", name := "code", desc := "(I)J" } : Jvm.MethodName)) ∈ wa := wa_2 94 (by decide +kernel) rfl
theorem ww_335 : (Jvm.Cond.instanceMethod ({ cls := "EvenCurveKeys", name := "code", desc := "(I)J" } : Jvm.MethodName)) ∈ wa := wa_2 95 (by decide +kernel) rfl
theorem ww_336 : (Jvm.Cond.selects "EvenCurveKeys" ({ cls := "EvenCurveKeys", name := "code", desc := "(I)J" } : Jvm.MethodName) ({ cls := "EvenCurveKeys", name := "code", desc := "(I)J" } : Jvm.MethodName)) ∈ wa := wa_2 96 (by decide +kernel) rfl
theorem ww_337 : (Jvm.Cond.code ({ cls := "EvenCurveKeys", name := "code", desc := "(I)J" } : Jvm.MethodName) prog_1_method_4_code (2 : Nat) (Option.some Jvm.ClassFile.FieldType.long)) ∈ wa := wa_2 97 (by decide +kernel) rfl
theorem ww_338 : (Jvm.Cond.methodLink "EvenCurveKeysLaw" (104 : Nat) ({ cls := "EvenCurveKeysLaw", name := "tweak", desc := "(LEvenCurveKeys;IIZ[J)I" } : Jvm.MethodName)) ∈ wa := wa_2 98 (by decide +kernel) rfl
theorem ww_339 : (Jvm.Cond.static ({ cls := "EvenCurveKeysLaw", name := "tweak", desc := "(LEvenCurveKeys;IIZ[J)I" } : Jvm.MethodName)) ∈ wa := wa_2 99 (by decide +kernel) rfl
theorem ww_340 : (Jvm.Cond.codeWith ({ cls := "EvenCurveKeysLaw", name := "tweak", desc := "(LEvenCurveKeys;IIZ[J)I" } : Jvm.MethodName) method_6_code (6 : Nat) (Option.some Jvm.ClassFile.FieldType.int) [((0 : Nat), (11 : Nat), (14 : Nat), (13 : Nat)), ((0 : Nat), (11 : Nat), (18 : Nat), (29 : Nat)), ((0 : Nat), (11 : Nat), (22 : Nat), (15 : Nat))]) ∈ wa := wa_2 100 (by decide +kernel) rfl
theorem ww_341 : (Jvm.Cond.classLink "EvenCurveKeysLaw" (29 : Nat) "java/util/NoSuchElementException") ∈ wa := wa_2 101 (by decide +kernel) rfl
theorem ww_342 : (Jvm.Cond.methodLink "EvenCurveKeysLaw" (25 : Nat) ({ cls := "EvenCurveKeys", name := "tweak", desc := "(IIZ)J" } : Jvm.MethodName)) ∈ wa := wa_2 102 (by decide +kernel) rfl
theorem ww_343 : (Jvm.Cond.instanceMethod ({ cls := "EvenCurveKeys", name := "tweak", desc := "(IIZ)J" } : Jvm.MethodName)) ∈ wa := wa_2 103 (by decide +kernel) rfl
theorem ww_344 : (Jvm.Cond.selects "EvenCurveKeys" ({ cls := "EvenCurveKeys", name := "tweak", desc := "(IIZ)J" } : Jvm.MethodName) ({ cls := "EvenCurveKeys", name := "tweak", desc := "(IIZ)J" } : Jvm.MethodName)) ∈ wa := wa_2 104 (by decide +kernel) rfl
theorem ww_345 : (Jvm.Cond.code ({ cls := "EvenCurveKeys", name := "tweak", desc := "(IIZ)J" } : Jvm.MethodName) prog_1_method_6_code (8 : Nat) (Option.some Jvm.ClassFile.FieldType.long)) ∈ wa := wa_2 105 (by decide +kernel) rfl
theorem ww_346 : (Jvm.Cond.methodLink "EvenCurveKeys" (71 : Nat) ({ cls := "EvenCurveKeys", name := "pointOf", desc := "(I)J" } : Jvm.MethodName)) ∈ wa := wa_2 106 (by decide +kernel) rfl
theorem ww_348 : (Jvm.Cond.instanceMethod ({ cls := "EvenCurveKeys", name := "pointOf", desc := "(I)J" } : Jvm.MethodName)) ∈ wa := wa_2 108 (by decide +kernel) rfl
theorem ww_349 : (Jvm.Cond.code ({ cls := "EvenCurveKeys", name := "pointOf", desc := "(I)J" } : Jvm.MethodName) prog_1_method_23_code (2 : Nat) (Option.some Jvm.ClassFile.FieldType.long)) ∈ wa := wa_2 109 (by decide +kernel) rfl
theorem ww_350 : (Jvm.Cond.classLink "EvenCurveKeys" (179 : Nat) "java/util/NoSuchElementException") ∈ wa := wa_2 110 (by decide +kernel) rfl
theorem ww_351 : (Jvm.Cond.instantiable "java/util/NoSuchElementException" (6 : Nat)) ∈ wa := wa_2 111 (by decide +kernel) rfl
theorem ww_353 : (Jvm.Cond.selects "java/util/NoSuchElementException" ({ cls := "java/lang/Throwable", name := "fillInStackTrace", desc := "(I)Ljava/lang/Throwable;" } : Jvm.MethodName) ({ cls := "java/lang/Throwable", name := "fillInStackTrace", desc := "(I)Ljava/lang/Throwable;" } : Jvm.MethodName)) ∈ wa := wa_2 113 (by decide +kernel) rfl
theorem ww_359 : (Jvm.Cond.methodLink "EvenCurveKeys" (181 : Nat) ({ cls := "java/util/NoSuchElementException", name := "<init>", desc := "()V" } : Jvm.MethodName)) ∈ wa := wa_2 119 (by decide +kernel) rfl
theorem ww_360 : (Jvm.Cond.instanceMethod ({ cls := "java/util/NoSuchElementException", name := "<init>", desc := "()V" } : Jvm.MethodName)) ∈ wa := wa_2 120 (by decide +kernel) rfl
theorem ww_361 : (Jvm.Cond.code ({ cls := "java/util/NoSuchElementException", name := "<init>", desc := "()V" } : Jvm.MethodName) prog_17_method_1_code (1 : Nat) (Option.none : Option Jvm.ClassFile.FieldType)) ∈ wa := wa_2 121 (by decide +kernel) rfl
theorem ww_362 : (Jvm.Cond.methodLink "java/util/NoSuchElementException" (1 : Nat) ({ cls := "java/lang/RuntimeException", name := "<init>", desc := "()V" } : Jvm.MethodName)) ∈ wa := wa_2 122 (by decide +kernel) rfl
theorem ww_365 : (Jvm.Cond.methodLink "EvenCurveKeys" (75 : Nat) ({ cls := "EvenCurveKeys$Scalars", name := "has", desc := "(J)Z" } : Jvm.MethodName)) ∈ wa := wa_2 125 (by decide +kernel) rfl
theorem ww_366 : (Jvm.Cond.methodLink "EvenCurveKeys" (78 : Nat) ({ cls := "EvenCurveKeys$Curve", name := "sum", desc := "(JJ)J" } : Jvm.MethodName)) ∈ wa := wa_2 126 (by decide +kernel) rfl
theorem ww_367 : (Jvm.Cond.methodLink "EvenCurveKeys" (81 : Nat) ({ cls := "EvenCurveKeys", name := "movedSecret", desc := "(JJZ)J" } : Jvm.MethodName)) ∈ wa := wa_2 127 (by decide +kernel) rfl
theorem ww_368 : (Jvm.Cond.static ({ cls := "EvenCurveKeys", name := "movedSecret", desc := "(JJZ)J" } : Jvm.MethodName)) ∈ wa := wa_2 128 (by decide +kernel) rfl
theorem ww_369 : (Jvm.Cond.code ({ cls := "EvenCurveKeys", name := "movedSecret", desc := "(JJZ)J" } : Jvm.MethodName) prog_1_method_26_code (5 : Nat) (Option.some Jvm.ClassFile.FieldType.long)) ∈ wa := wa_2 129 (by decide +kernel) rfl
theorem ww_370 : (Jvm.Cond.methodLink "EvenCurveKeysLaw" (108 : Nat) ({ cls := "EvenCurveKeysLaw", name := "combine", desc := "(LEvenCurveKeys;III[J)I" } : Jvm.MethodName)) ∈ wa := wa_2 130 (by decide +kernel) rfl
theorem ww_371 : (Jvm.Cond.static ({ cls := "EvenCurveKeysLaw", name := "combine", desc := "(LEvenCurveKeys;III[J)I" } : Jvm.MethodName)) ∈ wa := wa_2 131 (by decide +kernel) rfl
theorem ww_372 : (Jvm.Cond.codeWith ({ cls := "EvenCurveKeysLaw", name := "combine", desc := "(LEvenCurveKeys;III[J)I" } : Jvm.MethodName) method_7_code (6 : Nat) (Option.some Jvm.ClassFile.FieldType.int) [((0 : Nat), (11 : Nat), (14 : Nat), (13 : Nat)), ((0 : Nat), (11 : Nat), (18 : Nat), (29 : Nat)), ((0 : Nat), (11 : Nat), (22 : Nat), (15 : Nat))]) ∈ wa := wa_2 132 (by decide +kernel) rfl
theorem ww_373 : (Jvm.Cond.methodLink "EvenCurveKeysLaw" (31 : Nat) ({ cls := "EvenCurveKeys", name := "combine", desc := "(III)J" } : Jvm.MethodName)) ∈ wa := wa_2 133 (by decide +kernel) rfl
theorem ww_374 : (Jvm.Cond.instanceMethod ({ cls := "EvenCurveKeys", name := "combine", desc := "(III)J" } : Jvm.MethodName)) ∈ wa := wa_2 134 (by decide +kernel) rfl
theorem ww_375 : (Jvm.Cond.selects "EvenCurveKeys" ({ cls := "EvenCurveKeys", name := "combine", desc := "(III)J" } : Jvm.MethodName) ({ cls := "EvenCurveKeys", name := "combine", desc := "(III)J" } : Jvm.MethodName)) ∈ wa := wa_2 135 (by decide +kernel) rfl
theorem ww_376 : (Jvm.Cond.code ({ cls := "EvenCurveKeys", name := "combine", desc := "(III)J" } : Jvm.MethodName) prog_1_method_7_code (6 : Nat) (Option.some Jvm.ClassFile.FieldType.long)) ∈ wa := wa_2 136 (by decide +kernel) rfl
theorem ww_377 : (Jvm.Cond.methodLink "EvenCurveKeysLaw" (112 : Nat) ({ cls := "EvenCurveKeysLaw", name := "linear", desc := "(LEvenCurveKeys;III[J)I" } : Jvm.MethodName)) ∈ wa := wa_2 137 (by decide +kernel) rfl
theorem ww_378 : (Jvm.Cond.static ({ cls := "EvenCurveKeysLaw", name := "linear", desc := "(LEvenCurveKeys;III[J)I" } : Jvm.MethodName)) ∈ wa := wa_2 138 (by decide +kernel) rfl
theorem ww_379 : (Jvm.Cond.codeWith ({ cls := "EvenCurveKeysLaw", name := "linear", desc := "(LEvenCurveKeys;III[J)I" } : Jvm.MethodName) method_8_code (6 : Nat) (Option.some Jvm.ClassFile.FieldType.int) [((0 : Nat), (11 : Nat), (14 : Nat), (13 : Nat)), ((0 : Nat), (11 : Nat), (18 : Nat), (29 : Nat)), ((0 : Nat), (11 : Nat), (22 : Nat), (15 : Nat))]) ∈ wa := wa_2 139 (by decide +kernel) rfl
theorem ww_380 : (Jvm.Cond.methodLink "EvenCurveKeysLaw" (35 : Nat) ({ cls := "EvenCurveKeys", name := "linear", desc := "(III)J" } : Jvm.MethodName)) ∈ wa := wa_2 140 (by decide +kernel) rfl
theorem ww_381 : (Jvm.Cond.instanceMethod ({ cls := "EvenCurveKeys", name := "linear", desc := "(III)J" } : Jvm.MethodName)) ∈ wa := wa_2 141 (by decide +kernel) rfl
theorem ww_382 : (Jvm.Cond.selects "EvenCurveKeys" ({ cls := "EvenCurveKeys", name := "linear", desc := "(III)J" } : Jvm.MethodName) ({ cls := "EvenCurveKeys", name := "linear", desc := "(III)J" } : Jvm.MethodName)) ∈ wa := wa_2 142 (by decide +kernel) rfl
theorem ww_383 : (Jvm.Cond.code ({ cls := "EvenCurveKeys", name := "linear", desc := "(III)J" } : Jvm.MethodName) prog_1_method_8_code (6 : Nat) (Option.some Jvm.ClassFile.FieldType.long)) ∈ wa := wa_2 143 (by decide +kernel) rfl
theorem ww_384 : (Jvm.Cond.methodLink "EvenCurveKeys" (85 : Nat) ({ cls := "EvenCurveKeys$Curve", name := "sumOfMultiples", desc := "(JJJJ)J" } : Jvm.MethodName)) ∈ wa := wa_2 144 (by decide +kernel) rfl
theorem ww_385 : (Jvm.Cond.methodLink "EvenCurveKeysLaw" (115 : Nat) ({ cls := "EvenCurveKeysLaw", name := "sign", desc := "(LEvenCurveKeys;IJ[J)I" } : Jvm.MethodName)) ∈ wa := wa_2 145 (by decide +kernel) rfl
theorem ww_386 : (Jvm.Cond.static ({ cls := "EvenCurveKeysLaw", name := "sign", desc := "(LEvenCurveKeys;IJ[J)I" } : Jvm.MethodName)) ∈ wa := wa_2 146 (by decide +kernel) rfl
theorem ww_387 : (Jvm.Cond.codeWith ({ cls := "EvenCurveKeysLaw", name := "sign", desc := "(LEvenCurveKeys;IJ[J)I" } : Jvm.MethodName) method_9_code (6 : Nat) (Option.some Jvm.ClassFile.FieldType.int) [((0 : Nat), (10 : Nat), (13 : Nat), (13 : Nat)), ((0 : Nat), (10 : Nat), (17 : Nat), (42 : Nat)), ((0 : Nat), (10 : Nat), (21 : Nat), (44 : Nat))]) ∈ wa := wa_2 147 (by decide +kernel) rfl
theorem ww_388 : (Jvm.Cond.classLink "EvenCurveKeysLaw" (42 : Nat) "java/lang/IllegalStateException") ∈ wa := wa_2 148 (by decide +kernel) rfl
theorem ww_389 : (Jvm.Cond.classLink "EvenCurveKeysLaw" (44 : Nat) "java/lang/UnsupportedOperationException") ∈ wa := wa_2 149 (by decide +kernel) rfl
theorem ww_390 : (Jvm.Cond.methodLink "EvenCurveKeysLaw" (38 : Nat) ({ cls := "EvenCurveKeys", name := "sign", desc := "(IJ)J" } : Jvm.MethodName)) ∈ wa := wa_2 150 (by decide +kernel) rfl
theorem ww_391 : (Jvm.Cond.instanceMethod ({ cls := "EvenCurveKeys", name := "sign", desc := "(IJ)J" } : Jvm.MethodName)) ∈ wa := wa_2 151 (by decide +kernel) rfl
theorem ww_392 : (Jvm.Cond.selects "EvenCurveKeys" ({ cls := "EvenCurveKeys", name := "sign", desc := "(IJ)J" } : Jvm.MethodName) ({ cls := "EvenCurveKeys", name := "sign", desc := "(IJ)J" } : Jvm.MethodName)) ∈ wa := wa_2 152 (by decide +kernel) rfl
theorem ww_393 : (Jvm.Cond.code ({ cls := "EvenCurveKeys", name := "sign", desc := "(IJ)J" } : Jvm.MethodName) prog_1_method_9_code (19 : Nat) (Option.some Jvm.ClassFile.FieldType.long)) ∈ wa := wa_2 153 (by decide +kernel) rfl
theorem ww_394 : (Jvm.Cond.methodLink "EvenCurveKeys" (89 : Nat) ({ cls := "EvenCurveKeys", name := "secretOf", desc := "(I)J" } : Jvm.MethodName)) ∈ wa := wa_2 154 (by decide +kernel) rfl
theorem ww_396 : (Jvm.Cond.instanceMethod ({ cls := "EvenCurveKeys", name := "secretOf", desc := "(I)J" } : Jvm.MethodName)) ∈ wa := wa_2 156 (by decide +kernel) rfl
theorem ww_397 : (Jvm.Cond.code ({ cls := "EvenCurveKeys", name := "secretOf", desc := "(I)J" } : Jvm.MethodName) prog_1_method_24_code (2 : Nat) (Option.some Jvm.ClassFile.FieldType.long)) ∈ wa := wa_2 157 (by decide +kernel) rfl
theorem ww_398 : (Jvm.Cond.classLink "EvenCurveKeys" (182 : Nat) "java/lang/IllegalStateException") ∈ wa := wa_2 158 (by decide +kernel) rfl
theorem ww_399 : (Jvm.Cond.instantiable "java/lang/IllegalStateException" (6 : Nat)) ∈ wa := wa_2 159 (by decide +kernel) rfl
theorem ww_401 : (Jvm.Cond.selects "java/lang/IllegalStateException" ({ cls := "java/lang/Throwable", name := "fillInStackTrace", desc := "(I)Ljava/lang/Throwable;" } : Jvm.MethodName) ({ cls := "java/lang/Throwable", name := "fillInStackTrace", desc := "(I)Ljava/lang/Throwable;" } : Jvm.MethodName)) ∈ wa := wa_2 161 (by decide +kernel) rfl
theorem ww_407 : (Jvm.Cond.methodLink "EvenCurveKeys" (184 : Nat) ({ cls := "java/lang/IllegalStateException", name := "<init>", desc := "()V" } : Jvm.MethodName)) ∈ wa := wa_2 167 (by decide +kernel) rfl
theorem ww_408 : (Jvm.Cond.instanceMethod ({ cls := "java/lang/IllegalStateException", name := "<init>", desc := "()V" } : Jvm.MethodName)) ∈ wa := wa_2 168 (by decide +kernel) rfl
theorem ww_409 : (Jvm.Cond.code ({ cls := "java/lang/IllegalStateException", name := "<init>", desc := "()V" } : Jvm.MethodName) prog_12_method_1_code (1 : Nat) (Option.none : Option Jvm.ClassFile.FieldType)) ∈ wa := wa_2 169 (by decide +kernel) rfl
theorem ww_410 : (Jvm.Cond.methodLink "java/lang/IllegalStateException" (1 : Nat) ({ cls := "java/lang/RuntimeException", name := "<init>", desc := "()V" } : Jvm.MethodName)) ∈ wa := wa_2 170 (by decide +kernel) rfl
theorem ww_413 : (Jvm.Cond.methodLink "EvenCurveKeys" (92 : Nat) ({ cls := "EvenCurveKeys", name := "digest", desc := "(J)J" } : Jvm.MethodName)) ∈ wa := wa_2 173 (by decide +kernel) rfl
theorem ww_414 : (Jvm.Cond.static ({ cls := "EvenCurveKeys", name := "digest", desc := "(J)J" } : Jvm.MethodName)) ∈ wa := wa_2 174 (by decide +kernel) rfl
theorem ww_415 : (Jvm.Cond.code ({ cls := "EvenCurveKeys", name := "digest", desc := "(J)J" } : Jvm.MethodName) prog_1_method_30_code (2 : Nat) (Option.some Jvm.ClassFile.FieldType.long)) ∈ wa := wa_2 175 (by decide +kernel) rfl
theorem ww_416 : (Jvm.Cond.constantLong "EvenCurveKeys" (191 : Nat) (17 : Int64)) ∈ wa := wa_2 176 (by decide +kernel) rfl
theorem ww_417 : (Jvm.Cond.methodLink "EvenCurveKeys" (98 : Nat) ({ cls := "EvenCurveKeys$Curve", name := "xOf", desc := "(J)J" } : Jvm.MethodName)) ∈ wa := wa_2 177 (by decide +kernel) rfl
theorem ww_418 : (Jvm.Cond.methodLink "EvenCurveKeys" (103 : Nat) ({ cls := "EvenCurveKeys$Scalars", name := "quotient", desc := "(JJ)J" } : Jvm.MethodName)) ∈ wa := wa_2 178 (by decide +kernel) rfl
theorem ww_419 : (Jvm.Cond.static ({ cls := "EvenCurveKeys$Scalars", name := "quotient", desc := "(JJ)J" } : Jvm.MethodName)) ∈ wa := wa_2 179 (by decide +kernel) rfl
theorem ww_420 : (Jvm.Cond.code ({ cls := "EvenCurveKeys$Scalars", name := "quotient", desc := "(JJ)J" } : Jvm.MethodName) prog_6_method_4_code (4 : Nat) (Option.some Jvm.ClassFile.FieldType.long)) ∈ wa := wa_2 180 (by decide +kernel) rfl
theorem ww_422 : (Jvm.Cond.methodLink "EvenCurveKeys" (106 : Nat) ({ cls := "EvenCurveKeys", name := "markOf", desc := "(JJ)I" } : Jvm.MethodName)) ∈ wa := wa_2 182 (by decide +kernel) rfl
theorem ww_423 : (Jvm.Cond.static ({ cls := "EvenCurveKeys", name := "markOf", desc := "(JJ)I" } : Jvm.MethodName)) ∈ wa := wa_2 183 (by decide +kernel) rfl
theorem ww_424 : (Jvm.Cond.code ({ cls := "EvenCurveKeys", name := "markOf", desc := "(JJ)I" } : Jvm.MethodName) prog_1_method_27_code (5 : Nat) (Option.some Jvm.ClassFile.FieldType.int)) ∈ wa := wa_2 184 (by decide +kernel) rfl
theorem ww_425 : (Jvm.Cond.methodLink "EvenCurveKeys" (132 : Nat) ({ cls := "EvenCurveKeys$Curve", name := "isOdd", desc := "(J)Z" } : Jvm.MethodName)) ∈ wa := wa_2 185 (by decide +kernel) rfl
theorem ww_426 : (Jvm.Cond.constantLong "EvenCurveKeys" (112 : Nat) (536864538 : Int64)) ∈ wa := wa_2 186 (by decide +kernel) rfl
theorem ww_427 : (Jvm.Cond.classLink "EvenCurveKeys" (114 : Nat) "java/lang/UnsupportedOperationException") ∈ wa := wa_2 187 (by decide +kernel) rfl
theorem ww_428 : (Jvm.Cond.instantiable "java/lang/UnsupportedOperationException" (6 : Nat)) ∈ wa := wa_2 188 (by decide +kernel) rfl
theorem ww_430 : (Jvm.Cond.selects "java/lang/UnsupportedOperationException" ({ cls := "java/lang/Throwable", name := "fillInStackTrace", desc := "(I)Ljava/lang/Throwable;" } : Jvm.MethodName) ({ cls := "java/lang/Throwable", name := "fillInStackTrace", desc := "(I)Ljava/lang/Throwable;" } : Jvm.MethodName)) ∈ wa := wa_2 190 (by decide +kernel) rfl
theorem ww_436 : (Jvm.Cond.methodLink "EvenCurveKeys" (116 : Nat) ({ cls := "java/lang/UnsupportedOperationException", name := "<init>", desc := "()V" } : Jvm.MethodName)) ∈ wa := wa_2 196 (by decide +kernel) rfl
theorem ww_437 : (Jvm.Cond.instanceMethod ({ cls := "java/lang/UnsupportedOperationException", name := "<init>", desc := "()V" } : Jvm.MethodName)) ∈ wa := wa_2 197 (by decide +kernel) rfl
theorem ww_438 : (Jvm.Cond.code ({ cls := "java/lang/UnsupportedOperationException", name := "<init>", desc := "()V" } : Jvm.MethodName) prog_16_method_1_code (1 : Nat) (Option.none : Option Jvm.ClassFile.FieldType)) ∈ wa := wa_2 198 (by decide +kernel) rfl
theorem ww_439 : (Jvm.Cond.methodLink "java/lang/UnsupportedOperationException" (1 : Nat) ({ cls := "java/lang/RuntimeException", name := "<init>", desc := "()V" } : Jvm.MethodName)) ∈ wa := wa_2 199 (by decide +kernel) rfl
theorem ww_442 : (Jvm.Cond.methodLink "EvenCurveKeysLaw" (123 : Nat) ({ cls := "EvenCurveKeysLaw", name := "good", desc := "(LEvenCurveKeys;IJII[J)I" } : Jvm.MethodName)) ∈ wa := wa_2 202 (by decide +kernel) rfl
theorem ww_443 : (Jvm.Cond.static ({ cls := "EvenCurveKeysLaw", name := "good", desc := "(LEvenCurveKeys;IJII[J)I" } : Jvm.MethodName)) ∈ wa := wa_2 203 (by decide +kernel) rfl
theorem ww_444 : (Jvm.Cond.codeWith ({ cls := "EvenCurveKeysLaw", name := "good", desc := "(LEvenCurveKeys;IJII[J)I" } : Jvm.MethodName) method_10_code (8 : Nat) (Option.some Jvm.ClassFile.FieldType.int) [((0 : Nat), (22 : Nat), (25 : Nat), (13 : Nat)), ((0 : Nat), (22 : Nat), (29 : Nat), (29 : Nat))]) ∈ wa := wa_2 204 (by decide +kernel) rfl
theorem ww_445 : (Jvm.Cond.methodLink "EvenCurveKeysLaw" (46 : Nat) ({ cls := "EvenCurveKeys", name := "good", desc := "(IJII)Z" } : Jvm.MethodName)) ∈ wa := wa_2 205 (by decide +kernel) rfl
theorem ww_446 : (Jvm.Cond.instanceMethod ({ cls := "EvenCurveKeys", name := "good", desc := "(IJII)Z" } : Jvm.MethodName)) ∈ wa := wa_2 206 (by decide +kernel) rfl
theorem ww_447 : (Jvm.Cond.selects "EvenCurveKeys" ({ cls := "EvenCurveKeys", name := "good", desc := "(IJII)Z" } : Jvm.MethodName) ({ cls := "EvenCurveKeys", name := "good", desc := "(IJII)Z" } : Jvm.MethodName)) ∈ wa := wa_2 207 (by decide +kernel) rfl
theorem ww_448 : (Jvm.Cond.code ({ cls := "EvenCurveKeys", name := "good", desc := "(IJII)Z" } : Jvm.MethodName) prog_1_method_11_code (14 : Nat) (Option.some Jvm.ClassFile.FieldType.boolean)) ∈ wa := wa_2 208 (by decide +kernel) rfl
theorem ww_449 : (Jvm.Cond.methodLink "EvenCurveKeysLaw" (127 : Nat) ({ cls := "EvenCurveKeysLaw", name := "recover", desc := "(LEvenCurveKeys;IJIII[J)I" } : Jvm.MethodName)) ∈ wa := wa_2 209 (by decide +kernel) rfl
theorem ww_450 : (Jvm.Cond.static ({ cls := "EvenCurveKeysLaw", name := "recover", desc := "(LEvenCurveKeys;IJIII[J)I" } : Jvm.MethodName)) ∈ wa := wa_2 210 (by decide +kernel) rfl
theorem ww_451 : (Jvm.Cond.codeWith ({ cls := "EvenCurveKeysLaw", name := "recover", desc := "(LEvenCurveKeys;IJIII[J)I" } : Jvm.MethodName) method_11_code (9 : Nat) (Option.some Jvm.ClassFile.FieldType.int) [((0 : Nat), (16 : Nat), (19 : Nat), (13 : Nat)), ((0 : Nat), (16 : Nat), (23 : Nat), (15 : Nat))]) ∈ wa := wa_2 211 (by decide +kernel) rfl
theorem ww_452 : (Jvm.Cond.methodLink "EvenCurveKeysLaw" (50 : Nat) ({ cls := "EvenCurveKeys", name := "recover", desc := "(IJIII)J" } : Jvm.MethodName)) ∈ wa := wa_2 212 (by decide +kernel) rfl
theorem ww_453 : (Jvm.Cond.instanceMethod ({ cls := "EvenCurveKeys", name := "recover", desc := "(IJIII)J" } : Jvm.MethodName)) ∈ wa := wa_2 213 (by decide +kernel) rfl
theorem ww_454 : (Jvm.Cond.selects "EvenCurveKeys" ({ cls := "EvenCurveKeys", name := "recover", desc := "(IJIII)J" } : Jvm.MethodName) ({ cls := "EvenCurveKeys", name := "recover", desc := "(IJIII)J" } : Jvm.MethodName)) ∈ wa := wa_2 214 (by decide +kernel) rfl
theorem ww_455 : (Jvm.Cond.code ({ cls := "EvenCurveKeys", name := "recover", desc := "(IJIII)J" } : Jvm.MethodName) prog_1_method_12_code (17 : Nat) (Option.some Jvm.ClassFile.FieldType.long)) ∈ wa := wa_2 215 (by decide +kernel) rfl
theorem ww_456 : (Jvm.Cond.methodLink "EvenCurveKeysLaw" (131 : Nat) ({ cls := "EvenCurveKeysLaw", name := "prove", desc := "(LEvenCurveKeys;IJJ[J)I" } : Jvm.MethodName)) ∈ wa := wa_2 216 (by decide +kernel) rfl
theorem ww_457 : (Jvm.Cond.static ({ cls := "EvenCurveKeysLaw", name := "prove", desc := "(LEvenCurveKeys;IJJ[J)I" } : Jvm.MethodName)) ∈ wa := wa_2 217 (by decide +kernel) rfl
theorem ww_458 : (Jvm.Cond.codeWith ({ cls := "EvenCurveKeysLaw", name := "prove", desc := "(LEvenCurveKeys;IJJ[J)I" } : Jvm.MethodName) method_12_code (8 : Nat) (Option.some Jvm.ClassFile.FieldType.int) [((0 : Nat), (12 : Nat), (15 : Nat), (13 : Nat)), ((0 : Nat), (12 : Nat), (19 : Nat), (42 : Nat)), ((0 : Nat), (12 : Nat), (23 : Nat), (44 : Nat))]) ∈ wa := wa_2 218 (by decide +kernel) rfl
theorem ww_459 : (Jvm.Cond.methodLink "EvenCurveKeysLaw" (54 : Nat) ({ cls := "EvenCurveKeys", name := "prove", desc := "(IJJ)J" } : Jvm.MethodName)) ∈ wa := wa_2 219 (by decide +kernel) rfl
theorem ww_460 : (Jvm.Cond.instanceMethod ({ cls := "EvenCurveKeys", name := "prove", desc := "(IJJ)J" } : Jvm.MethodName)) ∈ wa := wa_2 220 (by decide +kernel) rfl
theorem ww_461 : (Jvm.Cond.selects "EvenCurveKeys" ({ cls := "EvenCurveKeys", name := "prove", desc := "(IJJ)J" } : Jvm.MethodName) ({ cls := "EvenCurveKeys", name := "prove", desc := "(IJJ)J" } : Jvm.MethodName)) ∈ wa := wa_2 221 (by decide +kernel) rfl
theorem ww_462 : (Jvm.Cond.code ({ cls := "EvenCurveKeys", name := "prove", desc := "(IJJ)J" } : Jvm.MethodName) prog_1_method_13_code (20 : Nat) (Option.some Jvm.ClassFile.FieldType.long)) ∈ wa := wa_2 222 (by decide +kernel) rfl
theorem ww_463 : (Jvm.Cond.methodLink "EvenCurveKeys" (117 : Nat) ({ cls := "EvenCurveKeys", name := "evenScalar", desc := "(JJ)J" } : Jvm.MethodName)) ∈ wa := wa_2 223 (by decide +kernel) rfl
theorem ww_464 : (Jvm.Cond.static ({ cls := "EvenCurveKeys", name := "evenScalar", desc := "(JJ)J" } : Jvm.MethodName)) ∈ wa := wa_2 224 (by decide +kernel) rfl
theorem ww_465 : (Jvm.Cond.code ({ cls := "EvenCurveKeys", name := "evenScalar", desc := "(JJ)J" } : Jvm.MethodName) prog_1_method_28_code (4 : Nat) (Option.some Jvm.ClassFile.FieldType.long)) ∈ wa := wa_2 225 (by decide +kernel) rfl
theorem ww_466 : (Jvm.Cond.constantLong "EvenCurveKeys" (120 : Nat) (23 : Int64)) ∈ wa := wa_2 226 (by decide +kernel) rfl
theorem ww_467 : (Jvm.Cond.methodLink "EvenCurveKeys" (122 : Nat) ({ cls := "EvenCurveKeys", name := "challenge", desc := "(JJJ)J" } : Jvm.MethodName)) ∈ wa := wa_2 227 (by decide +kernel) rfl
theorem ww_468 : (Jvm.Cond.methodLink "EvenCurveKeysLaw" (135 : Nat) ({ cls := "EvenCurveKeysLaw", name := "holds", desc := "(LEvenCurveKeys;IJII[J)I" } : Jvm.MethodName)) ∈ wa := wa_2 228 (by decide +kernel) rfl
theorem ww_469 : (Jvm.Cond.static ({ cls := "EvenCurveKeysLaw", name := "holds", desc := "(LEvenCurveKeys;IJII[J)I" } : Jvm.MethodName)) ∈ wa := wa_2 229 (by decide +kernel) rfl
theorem ww_470 : (Jvm.Cond.codeWith ({ cls := "EvenCurveKeysLaw", name := "holds", desc := "(LEvenCurveKeys;IJII[J)I" } : Jvm.MethodName) method_13_code (8 : Nat) (Option.some Jvm.ClassFile.FieldType.int) [((0 : Nat), (22 : Nat), (25 : Nat), (13 : Nat)), ((0 : Nat), (22 : Nat), (29 : Nat), (29 : Nat))]) ∈ wa := wa_2 230 (by decide +kernel) rfl
theorem ww_471 : (Jvm.Cond.methodLink "EvenCurveKeysLaw" (58 : Nat) ({ cls := "EvenCurveKeys", name := "holds", desc := "(IJII)Z" } : Jvm.MethodName)) ∈ wa := wa_2 231 (by decide +kernel) rfl
theorem ww_472 : (Jvm.Cond.instanceMethod ({ cls := "EvenCurveKeys", name := "holds", desc := "(IJII)Z" } : Jvm.MethodName)) ∈ wa := wa_2 232 (by decide +kernel) rfl
theorem ww_473 : (Jvm.Cond.selects "EvenCurveKeys" ({ cls := "EvenCurveKeys", name := "holds", desc := "(IJII)Z" } : Jvm.MethodName) ({ cls := "EvenCurveKeys", name := "holds", desc := "(IJII)Z" } : Jvm.MethodName)) ∈ wa := wa_2 233 (by decide +kernel) rfl
theorem ww_474 : (Jvm.Cond.code ({ cls := "EvenCurveKeys", name := "holds", desc := "(IJII)Z" } : Jvm.MethodName) prog_1_method_14_code (12 : Nat) (Option.some Jvm.ClassFile.FieldType.boolean)) ∈ wa := wa_2 234 (by decide +kernel) rfl
theorem ww_475 : (Jvm.Cond.methodLink "EvenCurveKeys" (126 : Nat) ({ cls := "EvenCurveKeys$Curve", name := "evenOf", desc := "(J)J" } : Jvm.MethodName)) ∈ wa := wa_2 235 (by decide +kernel) rfl
theorem ww_476 : (Jvm.Cond.static ({ cls := "EvenCurveKeys$Curve", name := "evenOf", desc := "(J)J" } : Jvm.MethodName)) ∈ wa := wa_2 236 (by decide +kernel) rfl
theorem ww_477 : (Jvm.Cond.code ({ cls := "EvenCurveKeys$Curve", name := "evenOf", desc := "(J)J" } : Jvm.MethodName) prog_2_method_6_code (2 : Nat) (Option.some Jvm.ClassFile.FieldType.long)) ∈ wa := wa_2 237 (by decide +kernel) rfl
theorem ww_478 : (Jvm.Cond.methodLink "EvenCurveKeys" (129 : Nat) ({ cls := "EvenCurveKeys$Field", name := "has", desc := "(J)Z" } : Jvm.MethodName)) ∈ wa := wa_2 238 (by decide +kernel) rfl
theorem ww_479 : (Jvm.Cond.methodLink "EvenCurveKeysLaw" (138 : Nat) ({ cls := "EvenCurveKeysLaw", name := "bundle", desc := "(LEvenCurveKeys;IJII[J)I" } : Jvm.MethodName)) ∈ wa := wa_2 239 (by decide +kernel) rfl
theorem ww_480 : (Jvm.Cond.static ({ cls := "EvenCurveKeysLaw", name := "bundle", desc := "(LEvenCurveKeys;IJII[J)I" } : Jvm.MethodName)) ∈ wa := wa_3 0 (by decide +kernel) rfl
theorem ww_481 : (Jvm.Cond.codeWith ({ cls := "EvenCurveKeysLaw", name := "bundle", desc := "(LEvenCurveKeys;IJII[J)I" } : Jvm.MethodName) method_14_code (8 : Nat) (Option.some Jvm.ClassFile.FieldType.int) [((0 : Nat), (15 : Nat), (18 : Nat), (13 : Nat)), ((0 : Nat), (15 : Nat), (22 : Nat), (29 : Nat)), ((0 : Nat), (15 : Nat), (26 : Nat), (44 : Nat))]) ∈ wa := wa_3 1 (by decide +kernel) rfl
theorem ww_482 : (Jvm.Cond.methodLink "EvenCurveKeysLaw" (61 : Nat) ({ cls := "EvenCurveKeys", name := "bundle", desc := "(IJII)I" } : Jvm.MethodName)) ∈ wa := wa_3 2 (by decide +kernel) rfl
theorem ww_483 : (Jvm.Cond.instanceMethod ({ cls := "EvenCurveKeys", name := "bundle", desc := "(IJII)I" } : Jvm.MethodName)) ∈ wa := wa_3 3 (by decide +kernel) rfl
theorem ww_484 : (Jvm.Cond.selects "EvenCurveKeys" ({ cls := "EvenCurveKeys", name := "bundle", desc := "(IJII)I" } : Jvm.MethodName) ({ cls := "EvenCurveKeys", name := "bundle", desc := "(IJII)I" } : Jvm.MethodName)) ∈ wa := wa_3 4 (by decide +kernel) rfl
theorem ww_485 : (Jvm.Cond.code ({ cls := "EvenCurveKeys", name := "bundle", desc := "(IJII)I" } : Jvm.MethodName) prog_1_method_15_code (8 : Nat) (Option.some Jvm.ClassFile.FieldType.int)) ∈ wa := wa_3 5 (by decide +kernel) rfl
theorem ww_486 : (Jvm.Cond.methodLink "EvenCurveKeys" (135 : Nat) ({ cls := "EvenCurveKeys$Items", name := "areFull", desc := "()Z" } : Jvm.MethodName)) ∈ wa := wa_3 6 (by decide +kernel) rfl
theorem ww_487 : (Jvm.Cond.instanceMethod ({ cls := "EvenCurveKeys$Items", name := "areFull", desc := "()Z" } : Jvm.MethodName)) ∈ wa := wa_3 7 (by decide +kernel) rfl
theorem ww_488 : (Jvm.Cond.selects "EvenCurveKeys$Items" ({ cls := "EvenCurveKeys$Items", name := "areFull", desc := "()Z" } : Jvm.MethodName) ({ cls := "EvenCurveKeys$Items", name := "areFull", desc := "()Z" } : Jvm.MethodName)) ∈ wa := wa_3 8 (by decide +kernel) rfl
theorem ww_489 : (Jvm.Cond.code ({ cls := "EvenCurveKeys$Items", name := "areFull", desc := "()Z" } : Jvm.MethodName) prog_5_method_2_code (1 : Nat) (Option.some Jvm.ClassFile.FieldType.boolean)) ∈ wa := wa_3 9 (by decide +kernel) rfl
theorem ww_490 : (Jvm.Cond.methodLink "EvenCurveKeys" (139 : Nat) ({ cls := "EvenCurveKeys$Items", name := "put", desc := "(JJII)I" } : Jvm.MethodName)) ∈ wa := wa_3 10 (by decide +kernel) rfl
theorem ww_491 : (Jvm.Cond.instanceMethod ({ cls := "EvenCurveKeys$Items", name := "put", desc := "(JJII)I" } : Jvm.MethodName)) ∈ wa := wa_3 11 (by decide +kernel) rfl
theorem ww_492 : (Jvm.Cond.selects "EvenCurveKeys$Items" ({ cls := "EvenCurveKeys$Items", name := "put", desc := "(JJII)I" } : Jvm.MethodName) ({ cls := "EvenCurveKeys$Items", name := "put", desc := "(JJII)I" } : Jvm.MethodName)) ∈ wa := wa_3 12 (by decide +kernel) rfl
theorem ww_493 : (Jvm.Cond.code ({ cls := "EvenCurveKeys$Items", name := "put", desc := "(JJII)I" } : Jvm.MethodName) prog_5_method_3_code (7 : Nat) (Option.some Jvm.ClassFile.FieldType.int)) ∈ wa := wa_3 13 (by decide +kernel) rfl
theorem ww_494 : (Jvm.Cond.methodLink "EvenCurveKeys$Items" (29 : Nat) ({ cls := "EvenCurveKeys$Curve", name := "evenOf", desc := "(J)J" } : Jvm.MethodName)) ∈ wa := wa_3 14 (by decide +kernel) rfl
theorem ww_495 : (Jvm.Cond.methodLink "EvenCurveKeysLaw" (146 : Nat) ({ cls := "EvenCurveKeysLaw", name := "agree", desc := "(LEvenCurveKeys;II[J)I" } : Jvm.MethodName)) ∈ wa := wa_3 15 (by decide +kernel) rfl
theorem ww_496 : (Jvm.Cond.static ({ cls := "EvenCurveKeysLaw", name := "agree", desc := "(LEvenCurveKeys;II[J)I" } : Jvm.MethodName)) ∈ wa := wa_3 16 (by decide +kernel) rfl
theorem ww_497 : (Jvm.Cond.codeWith ({ cls := "EvenCurveKeysLaw", name := "agree", desc := "(LEvenCurveKeys;II[J)I" } : Jvm.MethodName) method_15_code (5 : Nat) (Option.some Jvm.ClassFile.FieldType.int) [((0 : Nat), (9 : Nat), (12 : Nat), (13 : Nat)), ((0 : Nat), (9 : Nat), (16 : Nat), (42 : Nat)), ((0 : Nat), (9 : Nat), (20 : Nat), (29 : Nat))]) ∈ wa := wa_3 17 (by decide +kernel) rfl
theorem ww_498 : (Jvm.Cond.methodLink "EvenCurveKeysLaw" (65 : Nat) ({ cls := "EvenCurveKeys", name := "agree", desc := "(II)J" } : Jvm.MethodName)) ∈ wa := wa_3 18 (by decide +kernel) rfl
theorem ww_499 : (Jvm.Cond.instanceMethod ({ cls := "EvenCurveKeys", name := "agree", desc := "(II)J" } : Jvm.MethodName)) ∈ wa := wa_3 19 (by decide +kernel) rfl
theorem ww_500 : (Jvm.Cond.selects "EvenCurveKeys" ({ cls := "EvenCurveKeys", name := "agree", desc := "(II)J" } : Jvm.MethodName) ({ cls := "EvenCurveKeys", name := "agree", desc := "(II)J" } : Jvm.MethodName)) ∈ wa := wa_3 20 (by decide +kernel) rfl
theorem ww_501 : (Jvm.Cond.code ({ cls := "EvenCurveKeys", name := "agree", desc := "(II)J" } : Jvm.MethodName) prog_1_method_17_code (7 : Nat) (Option.some Jvm.ClassFile.FieldType.long)) ∈ wa := wa_3 21 (by decide +kernel) rfl
theorem ww_502 : (Jvm.Cond.methodLink "EvenCurveKeys" (149 : Nat) ({ cls := "EvenCurveKeys$Curve", name := "yOf", desc := "(J)J" } : Jvm.MethodName)) ∈ wa := wa_3 22 (by decide +kernel) rfl
theorem ww_503 : (Jvm.Cond.methodLink "EvenCurveKeysLaw" (149 : Nat) ({ cls := "EvenCurveKeysLaw", name := "written", desc := "(LEvenCurveKeys;III[J)I" } : Jvm.MethodName)) ∈ wa := wa_3 23 (by decide +kernel) rfl
theorem ww_504 : (Jvm.Cond.static ({ cls := "EvenCurveKeysLaw", name := "written", desc := "(LEvenCurveKeys;III[J)I" } : Jvm.MethodName)) ∈ wa := wa_3 24 (by decide +kernel) rfl
theorem ww_505 : (Jvm.Cond.codeWith ({ cls := "EvenCurveKeysLaw", name := "written", desc := "(LEvenCurveKeys;III[J)I" } : Jvm.MethodName) method_16_code (6 : Nat) (Option.some Jvm.ClassFile.FieldType.int) [((0 : Nat), (12 : Nat), (15 : Nat), (15 : Nat))]) ∈ wa := wa_3 25 (by decide +kernel) rfl
theorem ww_506 : (Jvm.Cond.methodLink "EvenCurveKeysLaw" (68 : Nat) ({ cls := "EvenCurveKeys", name := "written", desc := "(III)I" } : Jvm.MethodName)) ∈ wa := wa_3 26 (by decide +kernel) rfl
theorem ww_507 : (Jvm.Cond.instanceMethod ({ cls := "EvenCurveKeys", name := "written", desc := "(III)I" } : Jvm.MethodName)) ∈ wa := wa_3 27 (by decide +kernel) rfl
theorem ww_508 : (Jvm.Cond.selects "EvenCurveKeys" ({ cls := "EvenCurveKeys", name := "written", desc := "(III)I" } : Jvm.MethodName) ({ cls := "EvenCurveKeys", name := "written", desc := "(III)I" } : Jvm.MethodName)) ∈ wa := wa_3 28 (by decide +kernel) rfl
theorem ww_509 : (Jvm.Cond.code ({ cls := "EvenCurveKeys", name := "written", desc := "(III)I" } : Jvm.MethodName) prog_1_method_18_code (5 : Nat) (Option.some Jvm.ClassFile.FieldType.int)) ∈ wa := wa_3 29 (by decide +kernel) rfl
theorem ww_510 : (Jvm.Cond.methodLink "EvenCurveKeys" (152 : Nat) ({ cls := "EvenCurveKeys$Form", name := "length", desc := "(II)I" } : Jvm.MethodName)) ∈ wa := wa_3 30 (by decide +kernel) rfl
theorem ww_511 : (Jvm.Cond.methodLink "EvenCurveKeys" (158 : Nat) ({ cls := "EvenCurveKeys$Form", name := "byteAt", desc := "(III)I" } : Jvm.MethodName)) ∈ wa := wa_3 31 (by decide +kernel) rfl
theorem ww_512 : (Jvm.Cond.methodLink "EvenCurveKeysLaw" (152 : Nat) ({ cls := "EvenCurveKeysLaw", name := "type", desc := "(LEvenCurveKeys;I[J)I" } : Jvm.MethodName)) ∈ wa := wa_3 32 (by decide +kernel) rfl
theorem ww_513 : (Jvm.Cond.static ({ cls := "EvenCurveKeysLaw", name := "type", desc := "(LEvenCurveKeys;I[J)I" } : Jvm.MethodName)) ∈ wa := wa_3 33 (by decide +kernel) rfl
theorem ww_514 : (Jvm.Cond.codeWith ({ cls := "EvenCurveKeysLaw", name := "type", desc := "(LEvenCurveKeys;I[J)I" } : Jvm.MethodName) method_17_code (4 : Nat) (Option.some Jvm.ClassFile.FieldType.int) [((0 : Nat), (9 : Nat), (12 : Nat), (15 : Nat)), ((0 : Nat), (9 : Nat), (15 : Nat), (44 : Nat))]) ∈ wa := wa_3 34 (by decide +kernel) rfl
theorem ww_515 : (Jvm.Cond.methodLink "EvenCurveKeysLaw" (72 : Nat) ({ cls := "EvenCurveKeys", name := "type", desc := "(I)I" } : Jvm.MethodName)) ∈ wa := wa_3 35 (by decide +kernel) rfl
theorem ww_516 : (Jvm.Cond.instanceMethod ({ cls := "EvenCurveKeys", name := "type", desc := "(I)I" } : Jvm.MethodName)) ∈ wa := wa_3 36 (by decide +kernel) rfl
theorem ww_517 : (Jvm.Cond.selects "EvenCurveKeys" ({ cls := "EvenCurveKeys", name := "type", desc := "(I)I" } : Jvm.MethodName) ({ cls := "EvenCurveKeys", name := "type", desc := "(I)I" } : Jvm.MethodName)) ∈ wa := wa_3 37 (by decide +kernel) rfl
theorem ww_518 : (Jvm.Cond.code ({ cls := "EvenCurveKeys", name := "type", desc := "(I)I" } : Jvm.MethodName) prog_1_method_19_code (2 : Nat) (Option.some Jvm.ClassFile.FieldType.int)) ∈ wa := wa_3 38 (by decide +kernel) rfl
theorem ww_519 : (Jvm.Cond.methodLink "EvenCurveKeys" (162 : Nat) ({ cls := "EvenCurveKeys$Typed", name := "isFull", desc := "()Z" } : Jvm.MethodName)) ∈ wa := wa_3 39 (by decide +kernel) rfl
theorem ww_520 : (Jvm.Cond.instanceMethod ({ cls := "EvenCurveKeys$Typed", name := "isFull", desc := "()Z" } : Jvm.MethodName)) ∈ wa := wa_3 40 (by decide +kernel) rfl
theorem ww_521 : (Jvm.Cond.selects "EvenCurveKeys$Typed" ({ cls := "EvenCurveKeys$Typed", name := "isFull", desc := "()Z" } : Jvm.MethodName) ({ cls := "EvenCurveKeys$Typed", name := "isFull", desc := "()Z" } : Jvm.MethodName)) ∈ wa := wa_3 41 (by decide +kernel) rfl
theorem ww_522 : (Jvm.Cond.code ({ cls := "EvenCurveKeys$Typed", name := "isFull", desc := "()Z" } : Jvm.MethodName) prog_7_method_2_code (1 : Nat) (Option.some Jvm.ClassFile.FieldType.boolean)) ∈ wa := wa_3 42 (by decide +kernel) rfl
theorem ww_523 : (Jvm.Cond.methodLink "EvenCurveKeys" (165 : Nat) ({ cls := "EvenCurveKeys$Typed", name := "put", desc := "(I)I" } : Jvm.MethodName)) ∈ wa := wa_3 43 (by decide +kernel) rfl
theorem ww_524 : (Jvm.Cond.instanceMethod ({ cls := "EvenCurveKeys$Typed", name := "put", desc := "(I)I" } : Jvm.MethodName)) ∈ wa := wa_3 44 (by decide +kernel) rfl
theorem ww_525 : (Jvm.Cond.selects "EvenCurveKeys$Typed" ({ cls := "EvenCurveKeys$Typed", name := "put", desc := "(I)I" } : Jvm.MethodName) ({ cls := "EvenCurveKeys$Typed", name := "put", desc := "(I)I" } : Jvm.MethodName)) ∈ wa := wa_3 45 (by decide +kernel) rfl
theorem ww_526 : (Jvm.Cond.code ({ cls := "EvenCurveKeys$Typed", name := "put", desc := "(I)I" } : Jvm.MethodName) prog_7_method_3_code (2 : Nat) (Option.some Jvm.ClassFile.FieldType.int)) ∈ wa := wa_3 46 (by decide +kernel) rfl
theorem ww_527 : (Jvm.Cond.classLink "EvenCurveKeysLaw" (77 : Nat) "EvenCurveKeysModel") ∈ wa := wa_3 47 (by decide +kernel) rfl
theorem ww_528 : (Jvm.Cond.instantiable "EvenCurveKeysModel" (13 : Nat)) ∈ wa := wa_3 48 (by decide +kernel) rfl
theorem ww_529 : (Jvm.Cond.methodLink "EvenCurveKeysLaw" (79 : Nat) ({ cls := "EvenCurveKeysModel", name := "<init>", desc := "()V" } : Jvm.MethodName)) ∈ wa := wa_3 49 (by decide +kernel) rfl
theorem ww_530 : (Jvm.Cond.instanceMethod ({ cls := "EvenCurveKeysModel", name := "<init>", desc := "()V" } : Jvm.MethodName)) ∈ wa := wa_3 50 (by decide +kernel) rfl
theorem ww_531 : (Jvm.Cond.code ({ cls := "EvenCurveKeysModel", name := "<init>", desc := "()V" } : Jvm.MethodName) prog_9_method_1_code (2 : Nat) (Option.none : Option Jvm.ClassFile.FieldType)) ∈ wa := wa_3 51 (by decide +kernel) rfl
theorem ww_532 : (Jvm.Cond.methodLink "EvenCurveKeysModel" (1 : Nat) ({ cls := "java/lang/Object", name := "<init>", desc := "()V" } : Jvm.MethodName)) ∈ wa := wa_3 52 (by decide +kernel) rfl
theorem ww_533 : (Jvm.Cond.constantLong "EvenCurveKeysModel" (35 : Nat) (-1 : Int64)) ∈ wa := wa_3 53 (by decide +kernel) rfl
theorem ww_534 : (Jvm.Cond.fieldLink "EvenCurveKeysModel" (37 : Nat) "EvenCurveKeysModel" "thrown" "I") ∈ wa := wa_3 54 (by decide +kernel) rfl
theorem ww_535 : (Jvm.Cond.fieldLink "EvenCurveKeysModel" (7 : Nat) "EvenCurveKeysModel" "points" "[J") ∈ wa := wa_3 55 (by decide +kernel) rfl
theorem ww_536 : (Jvm.Cond.fieldLink "EvenCurveKeysModel" (13 : Nat) "EvenCurveKeysModel" "secrets" "[J") ∈ wa := wa_3 56 (by decide +kernel) rfl
theorem ww_537 : (Jvm.Cond.fieldLink "EvenCurveKeysModel" (135 : Nat) "EvenCurveKeysModel" "lastMark" "I") ∈ wa := wa_3 57 (by decide +kernel) rfl
theorem ww_538 : (Jvm.Cond.fieldLink "EvenCurveKeysModel" (148 : Nat) "EvenCurveKeysModel" "items" "I") ∈ wa := wa_3 58 (by decide +kernel) rfl
theorem ww_539 : (Jvm.Cond.fieldLink "EvenCurveKeysModel" (16 : Nat) "EvenCurveKeysModel" "itemX" "[J") ∈ wa := wa_3 59 (by decide +kernel) rfl
theorem ww_540 : (Jvm.Cond.fieldLink "EvenCurveKeysModel" (19 : Nat) "EvenCurveKeysModel" "itemMessage" "[J") ∈ wa := wa_3 60 (by decide +kernel) rfl
theorem ww_541 : (Jvm.Cond.fieldLink "EvenCurveKeysModel" (22 : Nat) "EvenCurveKeysModel" "itemRx" "[I") ∈ wa := wa_3 61 (by decide +kernel) rfl
theorem ww_542 : (Jvm.Cond.fieldLink "EvenCurveKeysModel" (26 : Nat) "EvenCurveKeysModel" "itemS" "[I") ∈ wa := wa_3 62 (by decide +kernel) rfl
theorem ww_543 : (Jvm.Cond.fieldLink "EvenCurveKeysModel" (172 : Nat) "EvenCurveKeysModel" "typed" "I") ∈ wa := wa_3 63 (by decide +kernel) rfl
theorem ww_544 : (Jvm.Cond.fieldLink "EvenCurveKeysModel" (29 : Nat) "EvenCurveKeysModel" "bytes" "[I") ∈ wa := wa_3 64 (by decide +kernel) rfl
theorem ww_545 : (Jvm.Cond.fieldLink "EvenCurveKeysModel" (155 : Nat) "EvenCurveKeysModel" "formSize" "I") ∈ wa := wa_3 65 (by decide +kernel) rfl
theorem ww_546 : (Jvm.Cond.fieldLink "EvenCurveKeysModel" (32 : Nat) "EvenCurveKeysModel" "form" "[I") ∈ wa := wa_3 66 (by decide +kernel) rfl
theorem ww_574 : (Jvm.Cond.methodLink "EvenCurveKeysLaw" (86 : Nat) ({ cls := "EvenCurveKeysModel", name := "thrown", desc := "()I" } : Jvm.MethodName)) ∈ wa := wa_3 94 (by decide +kernel) rfl
theorem ww_575 : (Jvm.Cond.instanceMethod ({ cls := "EvenCurveKeysModel", name := "thrown", desc := "()I" } : Jvm.MethodName)) ∈ wa := wa_3 95 (by decide +kernel) rfl
theorem ww_576 : (Jvm.Cond.selects "EvenCurveKeysModel" ({ cls := "EvenCurveKeysModel", name := "thrown", desc := "()I" } : Jvm.MethodName) ({ cls := "EvenCurveKeysModel", name := "thrown", desc := "()I" } : Jvm.MethodName)) ∈ wa := wa_3 96 (by decide +kernel) rfl
theorem ww_577 : (Jvm.Cond.code ({ cls := "EvenCurveKeysModel", name := "thrown", desc := "()I" } : Jvm.MethodName) prog_9_method_2_code (1 : Nat) (Option.some Jvm.ClassFile.FieldType.int)) ∈ wa := wa_3 97 (by decide +kernel) rfl
theorem ww_578 : (Jvm.Cond.methodLink "EvenCurveKeysLaw" (85 : Nat) ({ cls := "EvenCurveKeysModel", name := "secret", desc := "(II)J" } : Jvm.MethodName)) ∈ wa := wa_3 98 (by decide +kernel) rfl
theorem ww_579 : (Jvm.Cond.instanceMethod ({ cls := "EvenCurveKeysModel", name := "secret", desc := "(II)J" } : Jvm.MethodName)) ∈ wa := wa_3 99 (by decide +kernel) rfl
theorem ww_580 : (Jvm.Cond.selects "EvenCurveKeysModel" ({ cls := "EvenCurveKeysModel", name := "secret", desc := "(II)J" } : Jvm.MethodName) ({ cls := "EvenCurveKeysModel", name := "secret", desc := "(II)J" } : Jvm.MethodName)) ∈ wa := wa_3 100 (by decide +kernel) rfl
theorem ww_581 : (Jvm.Cond.code ({ cls := "EvenCurveKeysModel", name := "secret", desc := "(II)J" } : Jvm.MethodName) prog_9_method_20_code (3 : Nat) (Option.some Jvm.ClassFile.FieldType.long)) ∈ wa := wa_3 101 (by decide +kernel) rfl
theorem ww_582 : (Jvm.Cond.methodLink "EvenCurveKeysModel" (95 : Nat) ({ cls := "EvenCurveKeysModel", name := "isSlot", desc := "(I)Z" } : Jvm.MethodName)) ∈ wa := wa_3 102 (by decide +kernel) rfl
theorem ww_583 : (Jvm.Cond.static ({ cls := "EvenCurveKeysModel", name := "isSlot", desc := "(I)Z" } : Jvm.MethodName)) ∈ wa := wa_3 103 (by decide +kernel) rfl
theorem ww_584 : (Jvm.Cond.code ({ cls := "EvenCurveKeysModel", name := "isSlot", desc := "(I)Z" } : Jvm.MethodName) prog_9_method_17_code (1 : Nat) (Option.some Jvm.ClassFile.FieldType.boolean)) ∈ wa := wa_3 104 (by decide +kernel) rfl
theorem ww_585 : (Jvm.Cond.constantLong "EvenCurveKeysModel" (93 : Nat) (1073729077 : Int64)) ∈ wa := wa_3 105 (by decide +kernel) rfl
theorem ww_586 : (Jvm.Cond.methodLink "EvenCurveKeysModel" (99 : Nat) ({ cls := "EvenCurveKeysModel", name := "g", desc := "()J" } : Jvm.MethodName)) ∈ wa := wa_3 106 (by decide +kernel) rfl
theorem ww_587 : (Jvm.Cond.static ({ cls := "EvenCurveKeysModel", name := "g", desc := "()J" } : Jvm.MethodName)) ∈ wa := wa_3 107 (by decide +kernel) rfl
theorem ww_588 : (Jvm.Cond.code ({ cls := "EvenCurveKeysModel", name := "g", desc := "()J" } : Jvm.MethodName) prog_9_method_12_code (0 : Nat) (Option.some Jvm.ClassFile.FieldType.long)) ∈ wa := wa_3 108 (by decide +kernel) rfl
theorem ww_589 : (Jvm.Cond.constantLong "EvenCurveKeysModel" (81 : Nat) (2263541708 : Int64)) ∈ wa := wa_3 109 (by decide +kernel) rfl
theorem ww_590 : (Jvm.Cond.methodLink "EvenCurveKeysModel" (103 : Nat) ({ cls := "EvenCurveKeysModel", name := "times", desc := "(JJ)J" } : Jvm.MethodName)) ∈ wa := wa_3 110 (by decide +kernel) rfl
theorem ww_591 : (Jvm.Cond.static ({ cls := "EvenCurveKeysModel", name := "times", desc := "(JJ)J" } : Jvm.MethodName)) ∈ wa := wa_3 111 (by decide +kernel) rfl
theorem ww_592 : (Jvm.Cond.code ({ cls := "EvenCurveKeysModel", name := "times", desc := "(JJ)J" } : Jvm.MethodName) prog_9_method_11_code (10 : Nat) (Option.some Jvm.ClassFile.FieldType.long)) ∈ wa := wa_3 112 (by decide +kernel) rfl
theorem ww_593 : (Jvm.Cond.constantLong "EvenCurveKeysModel" (45 : Nat) (2 : Int64)) ∈ wa := wa_3 113 (by decide +kernel) rfl
theorem ww_594 : (Jvm.Cond.methodLink "EvenCurveKeysModel" (78 : Nat) ({ cls := "EvenCurveKeysModel", name := "sum", desc := "(JJ)J" } : Jvm.MethodName)) ∈ wa := wa_3 114 (by decide +kernel) rfl
theorem ww_595 : (Jvm.Cond.static ({ cls := "EvenCurveKeysModel", name := "sum", desc := "(JJ)J" } : Jvm.MethodName)) ∈ wa := wa_3 115 (by decide +kernel) rfl
theorem ww_596 : (Jvm.Cond.code ({ cls := "EvenCurveKeysModel", name := "sum", desc := "(JJ)J" } : Jvm.MethodName) prog_9_method_10_code (18 : Nat) (Option.some Jvm.ClassFile.FieldType.long)) ∈ wa := wa_3 116 (by decide +kernel) rfl
theorem ww_597 : (Jvm.Cond.methodLink "EvenCurveKeysModel" (64 : Nat) ({ cls := "EvenCurveKeysModel", name := "xOf", desc := "(J)J" } : Jvm.MethodName)) ∈ wa := wa_3 117 (by decide +kernel) rfl
theorem ww_598 : (Jvm.Cond.static ({ cls := "EvenCurveKeysModel", name := "xOf", desc := "(J)J" } : Jvm.MethodName)) ∈ wa := wa_3 118 (by decide +kernel) rfl
theorem ww_599 : (Jvm.Cond.code ({ cls := "EvenCurveKeysModel", name := "xOf", desc := "(J)J" } : Jvm.MethodName) prog_9_method_8_code (2 : Nat) (Option.some Jvm.ClassFile.FieldType.long)) ∈ wa := wa_3 119 (by decide +kernel) rfl
theorem ww_600 : (Jvm.Cond.constantLong "EvenCurveKeysModel" (62 : Nat) (2147483648 : Int64)) ∈ wa := wa_3 120 (by decide +kernel) rfl
theorem ww_601 : (Jvm.Cond.methodLink "EvenCurveKeysModel" (68 : Nat) ({ cls := "EvenCurveKeysModel", name := "yOf", desc := "(J)J" } : Jvm.MethodName)) ∈ wa := wa_3 121 (by decide +kernel) rfl
theorem ww_602 : (Jvm.Cond.static ({ cls := "EvenCurveKeysModel", name := "yOf", desc := "(J)J" } : Jvm.MethodName)) ∈ wa := wa_3 122 (by decide +kernel) rfl
theorem ww_603 : (Jvm.Cond.code ({ cls := "EvenCurveKeysModel", name := "yOf", desc := "(J)J" } : Jvm.MethodName) prog_9_method_9_code (2 : Nat) (Option.some Jvm.ClassFile.FieldType.long)) ∈ wa := wa_3 123 (by decide +kernel) rfl
theorem ww_604 : (Jvm.Cond.constantLong "EvenCurveKeysModel" (71 : Nat) (3 : Int64)) ∈ wa := wa_3 124 (by decide +kernel) rfl
theorem ww_605 : (Jvm.Cond.constantLong "EvenCurveKeysModel" (73 : Nat) (1073735023 : Int64)) ∈ wa := wa_3 125 (by decide +kernel) rfl
theorem ww_606 : (Jvm.Cond.methodLink "EvenCurveKeysModel" (75 : Nat) ({ cls := "EvenCurveKeysModel", name := "quotient", desc := "(JJJ)J" } : Jvm.MethodName)) ∈ wa := wa_3 126 (by decide +kernel) rfl
theorem ww_607 : (Jvm.Cond.static ({ cls := "EvenCurveKeysModel", name := "quotient", desc := "(JJJ)J" } : Jvm.MethodName)) ∈ wa := wa_3 127 (by decide +kernel) rfl
theorem ww_608 : (Jvm.Cond.code ({ cls := "EvenCurveKeysModel", name := "quotient", desc := "(JJJ)J" } : Jvm.MethodName) prog_9_method_5_code (6 : Nat) (Option.some Jvm.ClassFile.FieldType.long)) ∈ wa := wa_3 128 (by decide +kernel) rfl
theorem ww_609 : (Jvm.Cond.methodLink "EvenCurveKeysModel" (41 : Nat) ({ cls := "EvenCurveKeysModel", name := "mod", desc := "(JJ)J" } : Jvm.MethodName)) ∈ wa := wa_3 129 (by decide +kernel) rfl
theorem ww_610 : (Jvm.Cond.static ({ cls := "EvenCurveKeysModel", name := "mod", desc := "(JJ)J" } : Jvm.MethodName)) ∈ wa := wa_3 130 (by decide +kernel) rfl
theorem ww_611 : (Jvm.Cond.code ({ cls := "EvenCurveKeysModel", name := "mod", desc := "(JJ)J" } : Jvm.MethodName) prog_9_method_3_code (6 : Nat) (Option.some Jvm.ClassFile.FieldType.long)) ∈ wa := wa_3 131 (by decide +kernel) rfl
theorem ww_612 : (Jvm.Cond.methodLink "EvenCurveKeysModel" (47 : Nat) ({ cls := "EvenCurveKeysModel", name := "power", desc := "(JJJ)J" } : Jvm.MethodName)) ∈ wa := wa_3 132 (by decide +kernel) rfl
theorem ww_613 : (Jvm.Cond.static ({ cls := "EvenCurveKeysModel", name := "power", desc := "(JJJ)J" } : Jvm.MethodName)) ∈ wa := wa_3 133 (by decide +kernel) rfl
theorem ww_614 : (Jvm.Cond.code ({ cls := "EvenCurveKeysModel", name := "power", desc := "(JJJ)J" } : Jvm.MethodName) prog_9_method_4_code (12 : Nat) (Option.some Jvm.ClassFile.FieldType.long)) ∈ wa := wa_3 134 (by decide +kernel) rfl
theorem ww_615 : (Jvm.Cond.methodLink "EvenCurveKeysModel" (106 : Nat) ({ cls := "EvenCurveKeysModel", name := "codeOf", desc := "(J)J" } : Jvm.MethodName)) ∈ wa := wa_3 135 (by decide +kernel) rfl
theorem ww_616 : (Jvm.Cond.static ({ cls := "EvenCurveKeysModel", name := "codeOf", desc := "(J)J" } : Jvm.MethodName)) ∈ wa := wa_3 136 (by decide +kernel) rfl
theorem ww_617 : (Jvm.Cond.code ({ cls := "EvenCurveKeysModel", name := "codeOf", desc := "(J)J" } : Jvm.MethodName) prog_9_method_15_code (2 : Nat) (Option.some Jvm.ClassFile.FieldType.long)) ∈ wa := wa_3 137 (by decide +kernel) rfl
theorem ww_618 : (Jvm.Cond.constantLong "EvenCurveKeysModel" (87 : Nat) (4294967296 : Int64)) ∈ wa := wa_3 138 (by decide +kernel) rfl
theorem ww_619 : (Jvm.Cond.methodLink "EvenCurveKeysLaw" (95 : Nat) ({ cls := "EvenCurveKeysModel", name := "open", desc := "(IJ)V" } : Jvm.MethodName)) ∈ wa := wa_3 139 (by decide +kernel) rfl
theorem ww_620 : (Jvm.Cond.instanceMethod ({ cls := "EvenCurveKeysModel", name := "open", desc := "(IJ)V" } : Jvm.MethodName)) ∈ wa := wa_3 140 (by decide +kernel) rfl
theorem ww_621 : (Jvm.Cond.selects "EvenCurveKeysModel" ({ cls := "EvenCurveKeysModel", name := "open", desc := "(IJ)V" } : Jvm.MethodName) ({ cls := "EvenCurveKeysModel", name := "open", desc := "(IJ)V" } : Jvm.MethodName)) ∈ wa := wa_3 141 (by decide +kernel) rfl
theorem ww_622 : (Jvm.Cond.code ({ cls := "EvenCurveKeysModel", name := "open", desc := "(IJ)V" } : Jvm.MethodName) prog_9_method_22_code (4 : Nat) (Option.none : Option Jvm.ClassFile.FieldType)) ∈ wa := wa_3 142 (by decide +kernel) rfl
theorem ww_623 : (Jvm.Cond.methodLink "EvenCurveKeysModel" (109 : Nat) ({ cls := "EvenCurveKeysModel", name := "pointOf", desc := "(J)J" } : Jvm.MethodName)) ∈ wa := wa_3 143 (by decide +kernel) rfl
theorem ww_624 : (Jvm.Cond.static ({ cls := "EvenCurveKeysModel", name := "pointOf", desc := "(J)J" } : Jvm.MethodName)) ∈ wa := wa_3 144 (by decide +kernel) rfl
theorem ww_625 : (Jvm.Cond.code ({ cls := "EvenCurveKeysModel", name := "pointOf", desc := "(J)J" } : Jvm.MethodName) prog_9_method_16_code (4 : Nat) (Option.some Jvm.ClassFile.FieldType.long)) ∈ wa := wa_3 145 (by decide +kernel) rfl
theorem ww_626 : (Jvm.Cond.methodLink "EvenCurveKeysModel" (89 : Nat) ({ cls := "EvenCurveKeysModel", name := "lift", desc := "(JZ)J" } : Jvm.MethodName)) ∈ wa := wa_3 146 (by decide +kernel) rfl
theorem ww_627 : (Jvm.Cond.static ({ cls := "EvenCurveKeysModel", name := "lift", desc := "(JZ)J" } : Jvm.MethodName)) ∈ wa := wa_3 147 (by decide +kernel) rfl
theorem ww_628 : (Jvm.Cond.code ({ cls := "EvenCurveKeysModel", name := "lift", desc := "(JZ)J" } : Jvm.MethodName) prog_9_method_14_code (7 : Nat) (Option.some Jvm.ClassFile.FieldType.long)) ∈ wa := wa_3 148 (by decide +kernel) rfl
theorem ww_629 : (Jvm.Cond.constantLong "EvenCurveKeysModel" (83 : Nat) (7 : Int64)) ∈ wa := wa_3 149 (by decide +kernel) rfl
theorem ww_630 : (Jvm.Cond.constantLong "EvenCurveKeysModel" (85 : Nat) (268433756 : Int64)) ∈ wa := wa_3 150 (by decide +kernel) rfl
theorem ww_631 : (Jvm.Cond.methodLink "EvenCurveKeysModel" (112 : Nat) ({ cls := "EvenCurveKeysModel", name := "lay", desc := "(IJ)V" } : Jvm.MethodName)) ∈ wa := wa_3 151 (by decide +kernel) rfl
theorem ww_633 : (Jvm.Cond.instanceMethod ({ cls := "EvenCurveKeysModel", name := "lay", desc := "(IJ)V" } : Jvm.MethodName)) ∈ wa := wa_3 153 (by decide +kernel) rfl
theorem ww_634 : (Jvm.Cond.code ({ cls := "EvenCurveKeysModel", name := "lay", desc := "(IJ)V" } : Jvm.MethodName) prog_9_method_21_code (4 : Nat) (Option.none : Option Jvm.ClassFile.FieldType)) ∈ wa := wa_3 154 (by decide +kernel) rfl
theorem ww_635 : (Jvm.Cond.methodLink "EvenCurveKeysLaw" (99 : Nat) ({ cls := "EvenCurveKeysModel", name := "code", desc := "(I)J" } : Jvm.MethodName)) ∈ wa := wa_3 155 (by decide +kernel) rfl
theorem ww_636 : (Jvm.Cond.instanceMethod ({ cls := "EvenCurveKeysModel", name := "code", desc := "(I)J" } : Jvm.MethodName)) ∈ wa := wa_3 156 (by decide +kernel) rfl
theorem ww_637 : (Jvm.Cond.selects "EvenCurveKeysModel" ({ cls := "EvenCurveKeysModel", name := "code", desc := "(I)J" } : Jvm.MethodName) ({ cls := "EvenCurveKeysModel", name := "code", desc := "(I)J" } : Jvm.MethodName)) ∈ wa := wa_3 157 (by decide +kernel) rfl
theorem ww_638 : (Jvm.Cond.code ({ cls := "EvenCurveKeysModel", name := "code", desc := "(I)J" } : Jvm.MethodName) prog_9_method_23_code (2 : Nat) (Option.some Jvm.ClassFile.FieldType.long)) ∈ wa := wa_3 158 (by decide +kernel) rfl
theorem ww_639 : (Jvm.Cond.methodLink "EvenCurveKeysLaw" (103 : Nat) ({ cls := "EvenCurveKeysModel", name := "even", desc := "(I)J" } : Jvm.MethodName)) ∈ wa := wa_3 159 (by decide +kernel) rfl
theorem ww_640 : (Jvm.Cond.instanceMethod ({ cls := "EvenCurveKeysModel", name := "even", desc := "(I)J" } : Jvm.MethodName)) ∈ wa := wa_3 160 (by decide +kernel) rfl
theorem ww_641 : (Jvm.Cond.selects "EvenCurveKeysModel" ({ cls := "EvenCurveKeysModel", name := "even", desc := "(I)J" } : Jvm.MethodName) ({ cls := "EvenCurveKeysModel", name := "even", desc := "(I)J" } : Jvm.MethodName)) ∈ wa := wa_3 161 (by decide +kernel) rfl
theorem ww_642 : (Jvm.Cond.code ({ cls := "EvenCurveKeysModel", name := "even", desc := "(I)J" } : Jvm.MethodName) prog_9_method_24_code (2 : Nat) (Option.some Jvm.ClassFile.FieldType.long)) ∈ wa := wa_3 162 (by decide +kernel) rfl
theorem ww_643 : (Jvm.Cond.methodLink "EvenCurveKeysLaw" (107 : Nat) ({ cls := "EvenCurveKeysModel", name := "tweak", desc := "(IIZ)J" } : Jvm.MethodName)) ∈ wa := wa_3 163 (by decide +kernel) rfl
theorem ww_644 : (Jvm.Cond.instanceMethod ({ cls := "EvenCurveKeysModel", name := "tweak", desc := "(IIZ)J" } : Jvm.MethodName)) ∈ wa := wa_3 164 (by decide +kernel) rfl
theorem ww_645 : (Jvm.Cond.selects "EvenCurveKeysModel" ({ cls := "EvenCurveKeysModel", name := "tweak", desc := "(IIZ)J" } : Jvm.MethodName) ({ cls := "EvenCurveKeysModel", name := "tweak", desc := "(IIZ)J" } : Jvm.MethodName)) ∈ wa := wa_3 165 (by decide +kernel) rfl
theorem ww_646 : (Jvm.Cond.code ({ cls := "EvenCurveKeysModel", name := "tweak", desc := "(IIZ)J" } : Jvm.MethodName) prog_9_method_25_code (6 : Nat) (Option.some Jvm.ClassFile.FieldType.long)) ∈ wa := wa_3 166 (by decide +kernel) rfl
theorem ww_647 : (Jvm.Cond.methodLink "EvenCurveKeysModel" (116 : Nat) ({ cls := "EvenCurveKeysModel", name := "full", desc := "(I)Z" } : Jvm.MethodName)) ∈ wa := wa_3 167 (by decide +kernel) rfl
theorem ww_649 : (Jvm.Cond.instanceMethod ({ cls := "EvenCurveKeysModel", name := "full", desc := "(I)Z" } : Jvm.MethodName)) ∈ wa := wa_3 169 (by decide +kernel) rfl
theorem ww_650 : (Jvm.Cond.code ({ cls := "EvenCurveKeysModel", name := "full", desc := "(I)Z" } : Jvm.MethodName) prog_9_method_18_code (2 : Nat) (Option.some Jvm.ClassFile.FieldType.boolean)) ∈ wa := wa_3 170 (by decide +kernel) rfl
theorem ww_651 : (Jvm.Cond.methodLink "EvenCurveKeysModel" (119 : Nat) ({ cls := "EvenCurveKeysModel", name := "isScalar", desc := "(I)Z" } : Jvm.MethodName)) ∈ wa := wa_3 171 (by decide +kernel) rfl
theorem ww_652 : (Jvm.Cond.static ({ cls := "EvenCurveKeysModel", name := "isScalar", desc := "(I)Z" } : Jvm.MethodName)) ∈ wa := wa_3 172 (by decide +kernel) rfl
theorem ww_653 : (Jvm.Cond.code ({ cls := "EvenCurveKeysModel", name := "isScalar", desc := "(I)Z" } : Jvm.MethodName) prog_9_method_19_code (1 : Nat) (Option.some Jvm.ClassFile.FieldType.boolean)) ∈ wa := wa_3 173 (by decide +kernel) rfl
theorem ww_654 : (Jvm.Cond.methodLink "EvenCurveKeysLaw" (111 : Nat) ({ cls := "EvenCurveKeysModel", name := "combine", desc := "(III)J" } : Jvm.MethodName)) ∈ wa := wa_3 174 (by decide +kernel) rfl
theorem ww_655 : (Jvm.Cond.instanceMethod ({ cls := "EvenCurveKeysModel", name := "combine", desc := "(III)J" } : Jvm.MethodName)) ∈ wa := wa_3 175 (by decide +kernel) rfl
theorem ww_656 : (Jvm.Cond.selects "EvenCurveKeysModel" ({ cls := "EvenCurveKeysModel", name := "combine", desc := "(III)J" } : Jvm.MethodName) ({ cls := "EvenCurveKeysModel", name := "combine", desc := "(III)J" } : Jvm.MethodName)) ∈ wa := wa_3 176 (by decide +kernel) rfl
theorem ww_657 : (Jvm.Cond.code ({ cls := "EvenCurveKeysModel", name := "combine", desc := "(III)J" } : Jvm.MethodName) prog_9_method_26_code (4 : Nat) (Option.some Jvm.ClassFile.FieldType.long)) ∈ wa := wa_3 177 (by decide +kernel) rfl
theorem ww_658 : (Jvm.Cond.methodLink "EvenCurveKeysLaw" (114 : Nat) ({ cls := "EvenCurveKeysModel", name := "linear", desc := "(III)J" } : Jvm.MethodName)) ∈ wa := wa_3 178 (by decide +kernel) rfl
theorem ww_659 : (Jvm.Cond.instanceMethod ({ cls := "EvenCurveKeysModel", name := "linear", desc := "(III)J" } : Jvm.MethodName)) ∈ wa := wa_3 179 (by decide +kernel) rfl
theorem ww_660 : (Jvm.Cond.selects "EvenCurveKeysModel" ({ cls := "EvenCurveKeysModel", name := "linear", desc := "(III)J" } : Jvm.MethodName) ({ cls := "EvenCurveKeysModel", name := "linear", desc := "(III)J" } : Jvm.MethodName)) ∈ wa := wa_3 180 (by decide +kernel) rfl
theorem ww_661 : (Jvm.Cond.code ({ cls := "EvenCurveKeysModel", name := "linear", desc := "(III)J" } : Jvm.MethodName) prog_9_method_27_code (4 : Nat) (Option.some Jvm.ClassFile.FieldType.long)) ∈ wa := wa_3 181 (by decide +kernel) rfl
theorem ww_662 : (Jvm.Cond.methodLink "EvenCurveKeysLaw" (118 : Nat) ({ cls := "EvenCurveKeysModel", name := "sign", desc := "(IJ)J" } : Jvm.MethodName)) ∈ wa := wa_3 182 (by decide +kernel) rfl
theorem ww_663 : (Jvm.Cond.instanceMethod ({ cls := "EvenCurveKeysModel", name := "sign", desc := "(IJ)J" } : Jvm.MethodName)) ∈ wa := wa_3 183 (by decide +kernel) rfl
theorem ww_664 : (Jvm.Cond.selects "EvenCurveKeysModel" ({ cls := "EvenCurveKeysModel", name := "sign", desc := "(IJ)J" } : Jvm.MethodName) ({ cls := "EvenCurveKeysModel", name := "sign", desc := "(IJ)J" } : Jvm.MethodName)) ∈ wa := wa_3 184 (by decide +kernel) rfl
theorem ww_665 : (Jvm.Cond.code ({ cls := "EvenCurveKeysModel", name := "sign", desc := "(IJ)J" } : Jvm.MethodName) prog_9_method_29_code (18 : Nat) (Option.some Jvm.ClassFile.FieldType.long)) ∈ wa := wa_3 185 (by decide +kernel) rfl
theorem ww_666 : (Jvm.Cond.methodLink "EvenCurveKeysModel" (122 : Nat) ({ cls := "EvenCurveKeysModel", name := "noSecret", desc := "(I)I" } : Jvm.MethodName)) ∈ wa := wa_3 186 (by decide +kernel) rfl
theorem ww_668 : (Jvm.Cond.instanceMethod ({ cls := "EvenCurveKeysModel", name := "noSecret", desc := "(I)I" } : Jvm.MethodName)) ∈ wa := wa_3 188 (by decide +kernel) rfl
theorem ww_669 : (Jvm.Cond.code ({ cls := "EvenCurveKeysModel", name := "noSecret", desc := "(I)I" } : Jvm.MethodName) prog_9_method_28_code (2 : Nat) (Option.some Jvm.ClassFile.FieldType.int)) ∈ wa := wa_3 189 (by decide +kernel) rfl
theorem ww_670 : (Jvm.Cond.methodLink "EvenCurveKeysModel" (126 : Nat) ({ cls := "EvenCurveKeysModel", name := "digest", desc := "(J)J" } : Jvm.MethodName)) ∈ wa := wa_3 190 (by decide +kernel) rfl
theorem ww_671 : (Jvm.Cond.static ({ cls := "EvenCurveKeysModel", name := "digest", desc := "(J)J" } : Jvm.MethodName)) ∈ wa := wa_3 191 (by decide +kernel) rfl
theorem ww_672 : (Jvm.Cond.code ({ cls := "EvenCurveKeysModel", name := "digest", desc := "(J)J" } : Jvm.MethodName) prog_9_method_7_code (2 : Nat) (Option.some Jvm.ClassFile.FieldType.long)) ∈ wa := wa_3 192 (by decide +kernel) rfl
theorem ww_673 : (Jvm.Cond.constantLong "EvenCurveKeysModel" (57 : Nat) (17 : Int64)) ∈ wa := wa_3 193 (by decide +kernel) rfl
theorem ww_674 : (Jvm.Cond.methodLink "EvenCurveKeysModel" (59 : Nat) ({ cls := "EvenCurveKeysModel", name := "h", desc := "(JJ)J" } : Jvm.MethodName)) ∈ wa := wa_3 194 (by decide +kernel) rfl
theorem ww_675 : (Jvm.Cond.static ({ cls := "EvenCurveKeysModel", name := "h", desc := "(JJ)J" } : Jvm.MethodName)) ∈ wa := wa_3 195 (by decide +kernel) rfl
theorem ww_676 : (Jvm.Cond.code ({ cls := "EvenCurveKeysModel", name := "h", desc := "(JJ)J" } : Jvm.MethodName) prog_9_method_6_code (6 : Nat) (Option.some Jvm.ClassFile.FieldType.long)) ∈ wa := wa_3 196 (by decide +kernel) rfl
theorem ww_677 : (Jvm.Cond.constantLong "EvenCurveKeysModel" (51 : Nat) (5903417616886299669 : Int64)) ∈ wa := wa_3 197 (by decide +kernel) rfl
theorem ww_678 : (Jvm.Cond.constantLong "EvenCurveKeysModel" (53 : Nat) (6364136223846793005 : Int64)) ∈ wa := wa_3 198 (by decide +kernel) rfl
theorem ww_679 : (Jvm.Cond.constantLong "EvenCurveKeysModel" (55 : Nat) (2685821657736338717 : Int64)) ∈ wa := wa_3 199 (by decide +kernel) rfl
theorem ww_680 : (Jvm.Cond.constantLong "EvenCurveKeysModel" (129 : Nat) (536864538 : Int64)) ∈ wa := wa_3 200 (by decide +kernel) rfl
theorem ww_681 : (Jvm.Cond.methodLink "EvenCurveKeysModel" (131 : Nat) ({ cls := "EvenCurveKeysModel", name := "odd", desc := "(J)Z" } : Jvm.MethodName)) ∈ wa := wa_3 201 (by decide +kernel) rfl
theorem ww_682 : (Jvm.Cond.static ({ cls := "EvenCurveKeysModel", name := "odd", desc := "(J)Z" } : Jvm.MethodName)) ∈ wa := wa_3 202 (by decide +kernel) rfl
theorem ww_683 : (Jvm.Cond.code ({ cls := "EvenCurveKeysModel", name := "odd", desc := "(J)Z" } : Jvm.MethodName) prog_9_method_13_code (2 : Nat) (Option.some Jvm.ClassFile.FieldType.boolean)) ∈ wa := wa_3 203 (by decide +kernel) rfl
theorem ww_684 : (Jvm.Cond.methodLink "EvenCurveKeysLaw" (122 : Nat) ({ cls := "EvenCurveKeysModel", name := "mark", desc := "()I" } : Jvm.MethodName)) ∈ wa := wa_3 204 (by decide +kernel) rfl
theorem ww_685 : (Jvm.Cond.instanceMethod ({ cls := "EvenCurveKeysModel", name := "mark", desc := "()I" } : Jvm.MethodName)) ∈ wa := wa_3 205 (by decide +kernel) rfl
theorem ww_686 : (Jvm.Cond.selects "EvenCurveKeysModel" ({ cls := "EvenCurveKeysModel", name := "mark", desc := "()I" } : Jvm.MethodName) ({ cls := "EvenCurveKeysModel", name := "mark", desc := "()I" } : Jvm.MethodName)) ∈ wa := wa_3 206 (by decide +kernel) rfl
theorem ww_687 : (Jvm.Cond.code ({ cls := "EvenCurveKeysModel", name := "mark", desc := "()I" } : Jvm.MethodName) prog_9_method_30_code (1 : Nat) (Option.some Jvm.ClassFile.FieldType.int)) ∈ wa := wa_3 207 (by decide +kernel) rfl
theorem ww_688 : (Jvm.Cond.methodLink "EvenCurveKeysLaw" (126 : Nat) ({ cls := "EvenCurveKeysModel", name := "good", desc := "(IJII)Z" } : Jvm.MethodName)) ∈ wa := wa_3 208 (by decide +kernel) rfl
theorem ww_689 : (Jvm.Cond.instanceMethod ({ cls := "EvenCurveKeysModel", name := "good", desc := "(IJII)Z" } : Jvm.MethodName)) ∈ wa := wa_3 209 (by decide +kernel) rfl
theorem ww_690 : (Jvm.Cond.selects "EvenCurveKeysModel" ({ cls := "EvenCurveKeysModel", name := "good", desc := "(IJII)Z" } : Jvm.MethodName) ({ cls := "EvenCurveKeysModel", name := "good", desc := "(IJII)Z" } : Jvm.MethodName)) ∈ wa := wa_3 210 (by decide +kernel) rfl
theorem ww_691 : (Jvm.Cond.code ({ cls := "EvenCurveKeysModel", name := "good", desc := "(IJII)Z" } : Jvm.MethodName) prog_9_method_32_code (12 : Nat) (Option.some Jvm.ClassFile.FieldType.boolean)) ∈ wa := wa_3 211 (by decide +kernel) rfl
theorem ww_692 : (Jvm.Cond.methodLink "EvenCurveKeysModel" (138 : Nat) ({ cls := "EvenCurveKeysModel", name := "noPoint", desc := "(I)I" } : Jvm.MethodName)) ∈ wa := wa_3 212 (by decide +kernel) rfl
theorem ww_694 : (Jvm.Cond.instanceMethod ({ cls := "EvenCurveKeysModel", name := "noPoint", desc := "(I)I" } : Jvm.MethodName)) ∈ wa := wa_3 214 (by decide +kernel) rfl
theorem ww_695 : (Jvm.Cond.code ({ cls := "EvenCurveKeysModel", name := "noPoint", desc := "(I)I" } : Jvm.MethodName) prog_9_method_31_code (2 : Nat) (Option.some Jvm.ClassFile.FieldType.int)) ∈ wa := wa_3 215 (by decide +kernel) rfl
theorem ww_696 : (Jvm.Cond.methodLink "EvenCurveKeysLaw" (130 : Nat) ({ cls := "EvenCurveKeysModel", name := "recover", desc := "(IJIII)J" } : Jvm.MethodName)) ∈ wa := wa_3 216 (by decide +kernel) rfl
theorem ww_697 : (Jvm.Cond.instanceMethod ({ cls := "EvenCurveKeysModel", name := "recover", desc := "(IJIII)J" } : Jvm.MethodName)) ∈ wa := wa_3 217 (by decide +kernel) rfl
theorem ww_698 : (Jvm.Cond.selects "EvenCurveKeysModel" ({ cls := "EvenCurveKeysModel", name := "recover", desc := "(IJIII)J" } : Jvm.MethodName) ({ cls := "EvenCurveKeysModel", name := "recover", desc := "(IJIII)J" } : Jvm.MethodName)) ∈ wa := wa_3 218 (by decide +kernel) rfl
theorem ww_699 : (Jvm.Cond.code ({ cls := "EvenCurveKeysModel", name := "recover", desc := "(IJIII)J" } : Jvm.MethodName) prog_9_method_33_code (16 : Nat) (Option.some Jvm.ClassFile.FieldType.long)) ∈ wa := wa_3 219 (by decide +kernel) rfl
theorem ww_700 : (Jvm.Cond.methodLink "EvenCurveKeysLaw" (134 : Nat) ({ cls := "EvenCurveKeysModel", name := "prove", desc := "(IJJ)J" } : Jvm.MethodName)) ∈ wa := wa_3 220 (by decide +kernel) rfl
theorem ww_701 : (Jvm.Cond.instanceMethod ({ cls := "EvenCurveKeysModel", name := "prove", desc := "(IJJ)J" } : Jvm.MethodName)) ∈ wa := wa_3 221 (by decide +kernel) rfl
theorem ww_702 : (Jvm.Cond.selects "EvenCurveKeysModel" ({ cls := "EvenCurveKeysModel", name := "prove", desc := "(IJJ)J" } : Jvm.MethodName) ({ cls := "EvenCurveKeysModel", name := "prove", desc := "(IJJ)J" } : Jvm.MethodName)) ∈ wa := wa_3 222 (by decide +kernel) rfl
theorem ww_703 : (Jvm.Cond.code ({ cls := "EvenCurveKeysModel", name := "prove", desc := "(IJJ)J" } : Jvm.MethodName) prog_9_method_35_code (16 : Nat) (Option.some Jvm.ClassFile.FieldType.long)) ∈ wa := wa_3 223 (by decide +kernel) rfl
theorem ww_704 : (Jvm.Cond.constantLong "EvenCurveKeysModel" (143 : Nat) (23 : Int64)) ∈ wa := wa_3 224 (by decide +kernel) rfl
theorem ww_705 : (Jvm.Cond.methodLink "EvenCurveKeysModel" (145 : Nat) ({ cls := "EvenCurveKeysModel", name := "challenge", desc := "(JJJ)J" } : Jvm.MethodName)) ∈ wa := wa_3 225 (by decide +kernel) rfl
theorem ww_706 : (Jvm.Cond.static ({ cls := "EvenCurveKeysModel", name := "challenge", desc := "(JJJ)J" } : Jvm.MethodName)) ∈ wa := wa_3 226 (by decide +kernel) rfl
theorem ww_707 : (Jvm.Cond.code ({ cls := "EvenCurveKeysModel", name := "challenge", desc := "(JJJ)J" } : Jvm.MethodName) prog_9_method_34_code (6 : Nat) (Option.some Jvm.ClassFile.FieldType.long)) ∈ wa := wa_3 227 (by decide +kernel) rfl
theorem ww_708 : (Jvm.Cond.constantLong "EvenCurveKeysModel" (141 : Nat) (29 : Int64)) ∈ wa := wa_3 228 (by decide +kernel) rfl
theorem ww_709 : (Jvm.Cond.methodLink "EvenCurveKeysLaw" (137 : Nat) ({ cls := "EvenCurveKeysModel", name := "holds", desc := "(IJII)Z" } : Jvm.MethodName)) ∈ wa := wa_3 229 (by decide +kernel) rfl
theorem ww_710 : (Jvm.Cond.instanceMethod ({ cls := "EvenCurveKeysModel", name := "holds", desc := "(IJII)Z" } : Jvm.MethodName)) ∈ wa := wa_3 230 (by decide +kernel) rfl
theorem ww_711 : (Jvm.Cond.selects "EvenCurveKeysModel" ({ cls := "EvenCurveKeysModel", name := "holds", desc := "(IJII)Z" } : Jvm.MethodName) ({ cls := "EvenCurveKeysModel", name := "holds", desc := "(IJII)Z" } : Jvm.MethodName)) ∈ wa := wa_3 231 (by decide +kernel) rfl
theorem ww_712 : (Jvm.Cond.code ({ cls := "EvenCurveKeysModel", name := "holds", desc := "(IJII)Z" } : Jvm.MethodName) prog_9_method_36_code (12 : Nat) (Option.some Jvm.ClassFile.FieldType.boolean)) ∈ wa := wa_3 232 (by decide +kernel) rfl
theorem ww_713 : (Jvm.Cond.methodLink "EvenCurveKeysLaw" (140 : Nat) ({ cls := "EvenCurveKeysModel", name := "bundle", desc := "(IJII)I" } : Jvm.MethodName)) ∈ wa := wa_3 233 (by decide +kernel) rfl
theorem ww_714 : (Jvm.Cond.instanceMethod ({ cls := "EvenCurveKeysModel", name := "bundle", desc := "(IJII)I" } : Jvm.MethodName)) ∈ wa := wa_3 234 (by decide +kernel) rfl
theorem ww_715 : (Jvm.Cond.selects "EvenCurveKeysModel" ({ cls := "EvenCurveKeysModel", name := "bundle", desc := "(IJII)I" } : Jvm.MethodName) ({ cls := "EvenCurveKeysModel", name := "bundle", desc := "(IJII)I" } : Jvm.MethodName)) ∈ wa := wa_3 235 (by decide +kernel) rfl
theorem ww_716 : (Jvm.Cond.code ({ cls := "EvenCurveKeysModel", name := "bundle", desc := "(IJII)I" } : Jvm.MethodName) prog_9_method_37_code (6 : Nat) (Option.some Jvm.ClassFile.FieldType.int)) ∈ wa := wa_3 236 (by decide +kernel) rfl
theorem ww_717 : (Jvm.Cond.methodLink "EvenCurveKeysLaw" (145 : Nat) ({ cls := "EvenCurveKeysModel", name := "right", desc := "(J)Z" } : Jvm.MethodName)) ∈ wa := wa_3 237 (by decide +kernel) rfl
theorem ww_718 : (Jvm.Cond.instanceMethod ({ cls := "EvenCurveKeysModel", name := "right", desc := "(J)Z" } : Jvm.MethodName)) ∈ wa := wa_3 238 (by decide +kernel) rfl
theorem ww_719 : (Jvm.Cond.selects "EvenCurveKeysModel" ({ cls := "EvenCurveKeysModel", name := "right", desc := "(J)Z" } : Jvm.MethodName) ({ cls := "EvenCurveKeysModel", name := "right", desc := "(J)Z" } : Jvm.MethodName)) ∈ wa := wa_3 239 (by decide +kernel) rfl
theorem ww_720 : (Jvm.Cond.code ({ cls := "EvenCurveKeysModel", name := "right", desc := "(J)Z" } : Jvm.MethodName) prog_9_method_38_code (15 : Nat) (Option.some Jvm.ClassFile.FieldType.boolean)) ∈ wa := wa_4 0 (by decide +kernel) rfl
theorem ww_721 : (Jvm.Cond.constantLong "EvenCurveKeysModel" (151 : Nat) (1073729076 : Int64)) ∈ wa := wa_4 1 (by decide +kernel) rfl
theorem ww_722 : (Jvm.Cond.methodLink "EvenCurveKeysLaw" (148 : Nat) ({ cls := "EvenCurveKeysModel", name := "agree", desc := "(II)J" } : Jvm.MethodName)) ∈ wa := wa_4 2 (by decide +kernel) rfl
theorem ww_723 : (Jvm.Cond.instanceMethod ({ cls := "EvenCurveKeysModel", name := "agree", desc := "(II)J" } : Jvm.MethodName)) ∈ wa := wa_4 3 (by decide +kernel) rfl
theorem ww_724 : (Jvm.Cond.selects "EvenCurveKeysModel" ({ cls := "EvenCurveKeysModel", name := "agree", desc := "(II)J" } : Jvm.MethodName) ({ cls := "EvenCurveKeysModel", name := "agree", desc := "(II)J" } : Jvm.MethodName)) ∈ wa := wa_4 4 (by decide +kernel) rfl
theorem ww_725 : (Jvm.Cond.code ({ cls := "EvenCurveKeysModel", name := "agree", desc := "(II)J" } : Jvm.MethodName) prog_9_method_39_code (5 : Nat) (Option.some Jvm.ClassFile.FieldType.long)) ∈ wa := wa_4 5 (by decide +kernel) rfl
theorem ww_726 : (Jvm.Cond.methodLink "EvenCurveKeysLaw" (151 : Nat) ({ cls := "EvenCurveKeysModel", name := "written", desc := "(III)I" } : Jvm.MethodName)) ∈ wa := wa_4 6 (by decide +kernel) rfl
theorem ww_727 : (Jvm.Cond.instanceMethod ({ cls := "EvenCurveKeysModel", name := "written", desc := "(III)I" } : Jvm.MethodName)) ∈ wa := wa_4 7 (by decide +kernel) rfl
theorem ww_728 : (Jvm.Cond.selects "EvenCurveKeysModel" ({ cls := "EvenCurveKeysModel", name := "written", desc := "(III)I" } : Jvm.MethodName) ({ cls := "EvenCurveKeysModel", name := "written", desc := "(III)I" } : Jvm.MethodName)) ∈ wa := wa_4 8 (by decide +kernel) rfl
theorem ww_729 : (Jvm.Cond.code ({ cls := "EvenCurveKeysModel", name := "written", desc := "(III)I" } : Jvm.MethodName) prog_9_method_44_code (4 : Nat) (Option.some Jvm.ClassFile.FieldType.int)) ∈ wa := wa_4 9 (by decide +kernel) rfl
theorem ww_730 : (Jvm.Cond.methodLink "EvenCurveKeysModel" (168 : Nat) ({ cls := "EvenCurveKeysModel", name := "layForm", desc := "(II)V" } : Jvm.MethodName)) ∈ wa := wa_4 10 (by decide +kernel) rfl
theorem ww_732 : (Jvm.Cond.instanceMethod ({ cls := "EvenCurveKeysModel", name := "layForm", desc := "(II)V" } : Jvm.MethodName)) ∈ wa := wa_4 12 (by decide +kernel) rfl
theorem ww_733 : (Jvm.Cond.code ({ cls := "EvenCurveKeysModel", name := "layForm", desc := "(II)V" } : Jvm.MethodName) prog_9_method_43_code (3 : Nat) (Option.none : Option Jvm.ClassFile.FieldType)) ∈ wa := wa_4 13 (by decide +kernel) rfl
theorem ww_734 : (Jvm.Cond.methodLink "EvenCurveKeysModel" (158 : Nat) ({ cls := "EvenCurveKeysModel", name := "layByte", desc := "(I)V" } : Jvm.MethodName)) ∈ wa := wa_4 14 (by decide +kernel) rfl
theorem ww_736 : (Jvm.Cond.instanceMethod ({ cls := "EvenCurveKeysModel", name := "layByte", desc := "(I)V" } : Jvm.MethodName)) ∈ wa := wa_4 16 (by decide +kernel) rfl
theorem ww_737 : (Jvm.Cond.code ({ cls := "EvenCurveKeysModel", name := "layByte", desc := "(I)V" } : Jvm.MethodName) prog_9_method_41_code (2 : Nat) (Option.none : Option Jvm.ClassFile.FieldType)) ∈ wa := wa_4 17 (by decide +kernel) rfl
theorem ww_738 : (Jvm.Cond.methodLink "EvenCurveKeysModel" (162 : Nat) ({ cls := "EvenCurveKeysModel", name := "bytesOf", desc := "(I)I" } : Jvm.MethodName)) ∈ wa := wa_4 18 (by decide +kernel) rfl
theorem ww_739 : (Jvm.Cond.static ({ cls := "EvenCurveKeysModel", name := "bytesOf", desc := "(I)I" } : Jvm.MethodName)) ∈ wa := wa_4 19 (by decide +kernel) rfl
theorem ww_740 : (Jvm.Cond.code ({ cls := "EvenCurveKeysModel", name := "bytesOf", desc := "(I)I" } : Jvm.MethodName) prog_9_method_40_code (1 : Nat) (Option.some Jvm.ClassFile.FieldType.int)) ∈ wa := wa_4 20 (by decide +kernel) rfl
theorem ww_741 : (Jvm.Cond.constant "EvenCurveKeysModel" (153 : Nat) (32768 : Int32)) ∈ wa := wa_4 21 (by decide +kernel) rfl
theorem ww_742 : (Jvm.Cond.constant "EvenCurveKeysModel" (154 : Nat) (8388608 : Int32)) ∈ wa := wa_4 22 (by decide +kernel) rfl
theorem ww_743 : (Jvm.Cond.methodLink "EvenCurveKeysModel" (165 : Nat) ({ cls := "EvenCurveKeysModel", name := "layNumber", desc := "(I)V" } : Jvm.MethodName)) ∈ wa := wa_4 23 (by decide +kernel) rfl
theorem ww_745 : (Jvm.Cond.instanceMethod ({ cls := "EvenCurveKeysModel", name := "layNumber", desc := "(I)V" } : Jvm.MethodName)) ∈ wa := wa_4 25 (by decide +kernel) rfl
theorem ww_746 : (Jvm.Cond.code ({ cls := "EvenCurveKeysModel", name := "layNumber", desc := "(I)V" } : Jvm.MethodName) prog_9_method_42_code (3 : Nat) (Option.none : Option Jvm.ClassFile.FieldType)) ∈ wa := wa_4 26 (by decide +kernel) rfl
theorem ww_747 : (Jvm.Cond.methodLink "EvenCurveKeysLaw" (154 : Nat) ({ cls := "EvenCurveKeysModel", name := "type", desc := "(I)I" } : Jvm.MethodName)) ∈ wa := wa_4 27 (by decide +kernel) rfl
theorem ww_748 : (Jvm.Cond.instanceMethod ({ cls := "EvenCurveKeysModel", name := "type", desc := "(I)I" } : Jvm.MethodName)) ∈ wa := wa_4 28 (by decide +kernel) rfl
theorem ww_749 : (Jvm.Cond.selects "EvenCurveKeysModel" ({ cls := "EvenCurveKeysModel", name := "type", desc := "(I)I" } : Jvm.MethodName) ({ cls := "EvenCurveKeysModel", name := "type", desc := "(I)I" } : Jvm.MethodName)) ∈ wa := wa_4 29 (by decide +kernel) rfl
theorem ww_750 : (Jvm.Cond.code ({ cls := "EvenCurveKeysModel", name := "type", desc := "(I)I" } : Jvm.MethodName) prog_9_method_45_code (2 : Nat) (Option.some Jvm.ClassFile.FieldType.int)) ∈ wa := wa_4 30 (by decide +kernel) rfl
theorem ww_751 : (Jvm.Cond.methodLink "EvenCurveKeysLaw" (159 : Nat) ({ cls := "EvenCurveKeysModel", name := "read", desc := "()J" } : Jvm.MethodName)) ∈ wa := wa_4 31 (by decide +kernel) rfl
theorem ww_752 : (Jvm.Cond.instanceMethod ({ cls := "EvenCurveKeysModel", name := "read", desc := "()J" } : Jvm.MethodName)) ∈ wa := wa_4 32 (by decide +kernel) rfl
theorem ww_753 : (Jvm.Cond.selects "EvenCurveKeysModel" ({ cls := "EvenCurveKeysModel", name := "read", desc := "()J" } : Jvm.MethodName) ({ cls := "EvenCurveKeysModel", name := "read", desc := "()J" } : Jvm.MethodName)) ∈ wa := wa_4 33 (by decide +kernel) rfl
theorem ww_754 : (Jvm.Cond.code ({ cls := "EvenCurveKeysModel", name := "read", desc := "()J" } : Jvm.MethodName) prog_9_method_49_code (4 : Nat) (Option.some Jvm.ClassFile.FieldType.long)) ∈ wa := wa_4 34 (by decide +kernel) rfl
theorem ww_755 : (Jvm.Cond.methodLink "EvenCurveKeysModel" (178 : Nat) ({ cls := "EvenCurveKeysModel", name := "numberAt", desc := "(I)I" } : Jvm.MethodName)) ∈ wa := wa_4 35 (by decide +kernel) rfl
theorem ww_757 : (Jvm.Cond.instanceMethod ({ cls := "EvenCurveKeysModel", name := "numberAt", desc := "(I)I" } : Jvm.MethodName)) ∈ wa := wa_4 37 (by decide +kernel) rfl
theorem ww_758 : (Jvm.Cond.code ({ cls := "EvenCurveKeysModel", name := "numberAt", desc := "(I)I" } : Jvm.MethodName) prog_9_method_47_code (4 : Nat) (Option.some Jvm.ClassFile.FieldType.int)) ∈ wa := wa_4 38 (by decide +kernel) rfl
theorem ww_759 : (Jvm.Cond.methodLink "EvenCurveKeysModel" (175 : Nat) ({ cls := "EvenCurveKeysModel", name := "byteAt", desc := "(I)I" } : Jvm.MethodName)) ∈ wa := wa_4 39 (by decide +kernel) rfl
theorem ww_761 : (Jvm.Cond.instanceMethod ({ cls := "EvenCurveKeysModel", name := "byteAt", desc := "(I)I" } : Jvm.MethodName)) ∈ wa := wa_4 41 (by decide +kernel) rfl
theorem ww_762 : (Jvm.Cond.code ({ cls := "EvenCurveKeysModel", name := "byteAt", desc := "(I)I" } : Jvm.MethodName) prog_9_method_46_code (2 : Nat) (Option.some Jvm.ClassFile.FieldType.int)) ∈ wa := wa_4 42 (by decide +kernel) rfl
theorem ww_763 : (Jvm.Cond.methodLink "EvenCurveKeysModel" (181 : Nat) ({ cls := "EvenCurveKeysModel", name := "same", desc := "(II)Z" } : Jvm.MethodName)) ∈ wa := wa_4 43 (by decide +kernel) rfl
theorem ww_765 : (Jvm.Cond.instanceMethod ({ cls := "EvenCurveKeysModel", name := "same", desc := "(II)Z" } : Jvm.MethodName)) ∈ wa := wa_4 45 (by decide +kernel) rfl
theorem ww_766 : (Jvm.Cond.code ({ cls := "EvenCurveKeysModel", name := "same", desc := "(II)Z" } : Jvm.MethodName) prog_9_method_48_code (5 : Nat) (Option.some Jvm.ClassFile.FieldType.boolean)) ∈ wa := wa_4 46 (by decide +kernel) rfl
theorem ww_767 : (Jvm.Cond.constantLong "EvenCurveKeysLaw" (90 : Nat) (4294967295 : Int64)) ∈ wa := wa_4 47 (by decide +kernel) rfl
