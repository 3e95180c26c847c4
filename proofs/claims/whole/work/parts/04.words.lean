set_option maxRecDepth 100000 in
theorem w_0 : (Jvm.Cond.initialized "WireFieldLaw") ∈ jWS := jWS_in 41 rfl rfl
set_option maxRecDepth 100000 in
theorem w_1 : (Jvm.Cond.initialized "WireField") ∈ jWS := jWS_in 42 rfl rfl
set_option maxRecDepth 100000 in
theorem w_2 : (Jvm.Cond.initialized "WireField$Grid") ∈ jWS := jWS_in 43 rfl rfl
set_option maxRecDepth 100000 in
theorem w_3 : (Jvm.Cond.initialized "WireField$Pen") ∈ jWS := jWS_in 44 rfl rfl
set_option maxRecDepth 100000 in
theorem w_4 : (Jvm.Cond.initialized "WireField$Text") ∈ jWS := jWS_in 45 rfl rfl
set_option maxRecDepth 100000 in
theorem w_5 : (Jvm.Cond.initialized "WireField$Source") ∈ jWS := jWS_in 46 rfl rfl
set_option maxRecDepth 100000 in
theorem w_6 : (Jvm.Cond.initialized "WireField$Probe") ∈ jWS := jWS_in 47 rfl rfl
set_option maxRecDepth 100000 in
theorem w_7 : (Jvm.Cond.initialized "WireField$Moment") ∈ jWS := jWS_in 48 rfl rfl
set_option maxRecDepth 100000 in
theorem w_8 : (Jvm.Cond.initialized "WireFieldModel") ∈ jWS := jWS_in 49 rfl rfl
set_option maxRecDepth 100000 in
theorem w_9 : (Jvm.Cond.initialized "java/lang/Throwable") ∈ jWS := jWS_in 50 rfl rfl
set_option maxRecDepth 100000 in
theorem w_10 : (Jvm.Cond.initialized "java/lang/Exception") ∈ jWS := jWS_in 51 rfl rfl
set_option maxRecDepth 100000 in
theorem w_11 : (Jvm.Cond.initialized "java/lang/RuntimeException") ∈ jWS := jWS_in 52 rfl rfl
set_option maxRecDepth 100000 in
theorem w_12 : (Jvm.Cond.initialized "java/lang/IndexOutOfBoundsException") ∈ jWS := jWS_in 53 rfl rfl
set_option maxRecDepth 100000 in
theorem w_13 : (Jvm.Cond.initialized "java/lang/String") ∈ jWS := jWS_in 54 rfl rfl
set_option maxRecDepth 100000 in
theorem w_14 : (Jvm.Cond.initialized "java/lang/StringLatin1") ∈ jWS := jWS_in 55 rfl rfl
set_option maxRecDepth 100000 in
theorem w_15 : (Jvm.Cond.initialized "java/lang/Math") ∈ jWS := jWS_in 56 rfl rfl
set_option maxRecDepth 100000 in
theorem w_16 : (Jvm.Cond.initialized "java/lang/StringUTF16") ∈ jWS := jWS_in 57 rfl rfl
set_option maxRecDepth 100000 in
theorem w_17 : (Jvm.Cond.initialized "jdk/internal/util/Preconditions") ∈ jWS := jWS_in 58 rfl rfl
set_option maxRecDepth 100000 in
theorem w_18 : (Jvm.Cond.initialized "java/lang/Character") ∈ jWS := jWS_in 59 rfl rfl
set_option maxRecDepth 100000 in
theorem w_19 : (Jvm.Cond.initialized "java/lang/IllegalArgumentException") ∈ jWS := jWS_in 60 rfl rfl
set_option maxRecDepth 100000 in
theorem w_20 : (Jvm.Cond.initialized "java/lang/System") ∈ jWS := jWS_in 61 rfl rfl
set_option maxRecDepth 100000 in
theorem w_21 : (Jvm.Cond.initialized "java/lang/UnsupportedOperationException") ∈ jWS := jWS_in 62 rfl rfl
set_option maxRecDepth 100000 in
theorem w_22 : (Jvm.Cond.initialized "java/lang/Integer") ∈ jWS := jWS_in 63 rfl rfl
set_option maxRecDepth 100000 in
theorem w_23 : (Jvm.Cond.classLink "WireFieldLaw" (8 : Nat) "WireField") ∈ jWS := jWS_in 64 rfl rfl
set_option maxRecDepth 100000 in
theorem w_24 : (Jvm.Cond.instantiable "WireField" (13 : Nat)) ∈ jWS := jWS_in 65 rfl rfl
set_option maxRecDepth 100000 in
theorem w_25 : (Jvm.Cond.methodLink "WireFieldLaw" (27 : Nat) ({ cls := "WireField", name := "<init>", desc := "()V" } : Jvm.MethodName)) ∈ jWS := jWS_in 66 rfl rfl
set_option maxRecDepth 100000 in
theorem w_26 : (Jvm.Cond.instanceMethod ({ cls := "WireField", name := "<init>", desc := "()V" } : Jvm.MethodName)) ∈ jWS := jWS_in 67 rfl rfl
set_option maxRecDepth 100000 in
theorem w_27 : (Jvm.Cond.code ({ cls := "WireField", name := "<init>", desc := "()V" } : Jvm.MethodName) prog_1_method_1_code (2 : Nat) (Option.none : Option Jvm.ClassFile.FieldType)) ∈ jWS := jWS_in 68 rfl rfl
set_option maxRecDepth 100000 in
theorem w_28 : (Jvm.Cond.methodLink "WireField" (3 : Nat) ({ cls := "java/lang/Object", name := "<init>", desc := "()V" } : Jvm.MethodName)) ∈ jWS := jWS_in 69 rfl rfl
set_option maxRecDepth 100000 in
theorem w_29 : (Jvm.Cond.instanceMethod ({ cls := "java/lang/Object", name := "<init>", desc := "()V" } : Jvm.MethodName)) ∈ jWS := jWS_in 70 rfl rfl
set_option maxRecDepth 100000 in
theorem w_30 : (Jvm.Cond.code ({ cls := "java/lang/Object", name := "<init>", desc := "()V" } : Jvm.MethodName) object_method_1_code (1 : Nat) (Option.none : Option Jvm.ClassFile.FieldType)) ∈ jWS := jWS_in 71 rfl rfl
set_option maxRecDepth 100000 in
theorem w_31 : (Jvm.Cond.classLink "WireField" (9 : Nat) "WireField$Grid") ∈ jWS := jWS_in 72 rfl rfl
set_option maxRecDepth 100000 in
theorem w_32 : (Jvm.Cond.instantiable "WireField$Grid" (3 : Nat)) ∈ jWS := jWS_in 73 rfl rfl
set_option maxRecDepth 100000 in
theorem w_33 : (Jvm.Cond.methodLinkNest "WireField" (11 : Nat) ({ cls := "WireField$Grid", name := "<init>", desc := "()V" } : Jvm.MethodName) "WireField") ∈ jNW := jNW_in 74 rfl rfl
set_option maxRecDepth 100000 in
theorem w_34 : (Jvm.Cond.instanceMethod ({ cls := "WireField$Grid", name := "<init>", desc := "()V" } : Jvm.MethodName)) ∈ jWS := jWS_in 75 rfl rfl
set_option maxRecDepth 100000 in
theorem w_35 : (Jvm.Cond.code ({ cls := "WireField$Grid", name := "<init>", desc := "()V" } : Jvm.MethodName) prog_2_method_1_code (1 : Nat) (Option.none : Option Jvm.ClassFile.FieldType)) ∈ jWS := jWS_in 76 rfl rfl
set_option maxRecDepth 100000 in
theorem w_36 : (Jvm.Cond.methodLink "WireField$Grid" (3 : Nat) ({ cls := "java/lang/Object", name := "<init>", desc := "()V" } : Jvm.MethodName)) ∈ jWS := jWS_in 77 rfl rfl
set_option maxRecDepth 100000 in
theorem w_37 : (Jvm.Cond.fieldLink "WireField$Grid" (9 : Nat) "WireField$Grid" "heads" "[I") ∈ jWS := jWS_in 78 rfl rfl
set_option maxRecDepth 100000 in
theorem w_38 : (Jvm.Cond.fieldLink "WireField$Grid" (15 : Nat) "WireField$Grid" "tails" "[I") ∈ jWS := jWS_in 79 rfl rfl
set_option maxRecDepth 100000 in
theorem w_39 : (Jvm.Cond.fieldLink "WireField$Grid" (18 : Nat) "WireField$Grid" "wires" "[I") ∈ jWS := jWS_in 80 rfl rfl
set_option maxRecDepth 100000 in
theorem w_40 : (Jvm.Cond.laysFinal "WireField$Grid" "WireField$Grid" "heads" "[I") ∈ jWS := jWS_in 81 rfl rfl
set_option maxRecDepth 100000 in
theorem w_42 : (Jvm.Cond.laysFinal "WireField$Grid" "WireField$Grid" "tails" "[I") ∈ jWS := jWS_in 83 rfl rfl
set_option maxRecDepth 100000 in
theorem w_44 : (Jvm.Cond.laysFinal "WireField$Grid" "WireField$Grid" "wires" "[I") ∈ jWS := jWS_in 85 rfl rfl
set_option maxRecDepth 100000 in
theorem w_47 : (Jvm.Cond.arrayClass Jvm.ClassFile.FieldType.int) ∈ jWS := jWS_in 88 rfl rfl
set_option maxRecDepth 100000 in
theorem w_48 : (Jvm.Cond.classLink "WireField" (19 : Nat) "WireField$Pen") ∈ jWS := jWS_in 89 rfl rfl
set_option maxRecDepth 100000 in
theorem w_49 : (Jvm.Cond.instantiable "WireField$Pen" (6 : Nat)) ∈ jWS := jWS_in 90 rfl rfl
set_option maxRecDepth 100000 in
theorem w_50 : (Jvm.Cond.methodLinkNest "WireField" (21 : Nat) ({ cls := "WireField$Pen", name := "<init>", desc := "()V" } : Jvm.MethodName) "WireField") ∈ jNW := jNW_in 91 rfl rfl
set_option maxRecDepth 100000 in
theorem w_51 : (Jvm.Cond.instanceMethod ({ cls := "WireField$Pen", name := "<init>", desc := "()V" } : Jvm.MethodName)) ∈ jWS := jWS_in 92 rfl rfl
set_option maxRecDepth 100000 in
theorem w_52 : (Jvm.Cond.code ({ cls := "WireField$Pen", name := "<init>", desc := "()V" } : Jvm.MethodName) prog_4_method_1_code (1 : Nat) (Option.none : Option Jvm.ClassFile.FieldType)) ∈ jWS := jWS_in 93 rfl rfl
set_option maxRecDepth 100000 in
theorem w_53 : (Jvm.Cond.methodLink "WireField$Pen" (3 : Nat) ({ cls := "java/lang/Object", name := "<init>", desc := "()V" } : Jvm.MethodName)) ∈ jWS := jWS_in 94 rfl rfl
set_option maxRecDepth 100000 in
theorem w_54 : (Jvm.Cond.classLink "WireField$Pen" (9 : Nat) "WireField$Grid") ∈ jWS := jWS_in 95 rfl rfl
set_option maxRecDepth 100000 in
theorem w_55 : (Jvm.Cond.methodLinkNest "WireField$Pen" (11 : Nat) ({ cls := "WireField$Grid", name := "<init>", desc := "()V" } : Jvm.MethodName) "WireField") ∈ jNW := jNW_in 96 rfl rfl
set_option maxRecDepth 100000 in
theorem w_56 : (Jvm.Cond.fieldLink "WireField$Pen" (12 : Nat) "WireField$Pen" "sheet" "LWireField$Grid;") ∈ jWS := jWS_in 97 rfl rfl
set_option maxRecDepth 100000 in
theorem w_57 : (Jvm.Cond.fieldLinkNest "WireField" (119 : Nat) "WireField$Pen" "sheet" "LWireField$Grid;" "WireField") ∈ jNW := jNW_in 98 rfl rfl
set_option maxRecDepth 100000 in
theorem w_58 : (Jvm.Cond.fieldLink "WireField$Pen" (18 : Nat) "WireField$Pen" "column" "I") ∈ jWS := jWS_in 99 rfl rfl
set_option maxRecDepth 100000 in
theorem w_59 : (Jvm.Cond.fieldLinkNest "WireField" (261 : Nat) "WireField$Pen" "column" "I" "WireField") ∈ jNW := jNW_in 100 rfl rfl
set_option maxRecDepth 100000 in
theorem w_60 : (Jvm.Cond.fieldLink "WireField$Pen" (22 : Nat) "WireField$Pen" "row" "I") ∈ jWS := jWS_in 101 rfl rfl
set_option maxRecDepth 100000 in
theorem w_61 : (Jvm.Cond.fieldLinkNest "WireField" (264 : Nat) "WireField$Pen" "row" "I" "WireField") ∈ jNW := jNW_in 102 rfl rfl
set_option maxRecDepth 100000 in
theorem w_62 : (Jvm.Cond.fieldLink "WireField$Pen" (25 : Nat) "WireField$Pen" "direction" "I") ∈ jWS := jWS_in 103 rfl rfl
set_option maxRecDepth 100000 in
theorem w_63 : (Jvm.Cond.fieldLinkNest "WireField" (267 : Nat) "WireField$Pen" "direction" "I" "WireField") ∈ jNW := jNW_in 104 rfl rfl
set_option maxRecDepth 100000 in
theorem w_64 : (Jvm.Cond.fieldLink "WireField$Pen" (28 : Nat) "WireField$Pen" "isDown" "Z") ∈ jWS := jWS_in 105 rfl rfl
set_option maxRecDepth 100000 in
theorem w_65 : (Jvm.Cond.fieldLinkNest "WireField" (270 : Nat) "WireField$Pen" "isDown" "Z" "WireField") ∈ jNW := jNW_in 106 rfl rfl
set_option maxRecDepth 100000 in
theorem w_66 : (Jvm.Cond.fieldLink "WireField$Pen" (32 : Nat) "WireField$Pen" "ordersDone" "I") ∈ jWS := jWS_in 107 rfl rfl
set_option maxRecDepth 100000 in
theorem w_67 : (Jvm.Cond.fieldLinkNest "WireField" (132 : Nat) "WireField$Pen" "ordersDone" "I" "WireField") ∈ jNW := jNW_in 108 rfl rfl
set_option maxRecDepth 100000 in
theorem w_68 : (Jvm.Cond.laysFinal "WireField$Pen" "WireField$Pen" "sheet" "LWireField$Grid;") ∈ jWS := jWS_in 109 rfl rfl
set_option maxRecDepth 100000 in
theorem w_70 : (Jvm.Cond.lays "WireField$Pen" "WireField$Pen" "column" "I") ∈ jWS := jWS_in 111 rfl rfl
set_option maxRecDepth 100000 in
theorem w_72 : (Jvm.Cond.lays "WireField$Pen" "WireField$Pen" "row" "I") ∈ jWS := jWS_in 113 rfl rfl
set_option maxRecDepth 100000 in
theorem w_74 : (Jvm.Cond.lays "WireField$Pen" "WireField$Pen" "direction" "I") ∈ jWS := jWS_in 115 rfl rfl
set_option maxRecDepth 100000 in
theorem w_76 : (Jvm.Cond.lays "WireField$Pen" "WireField$Pen" "isDown" "Z") ∈ jWS := jWS_in 117 rfl rfl
set_option maxRecDepth 100000 in
theorem w_78 : (Jvm.Cond.lays "WireField$Pen" "WireField$Pen" "ordersDone" "I") ∈ jWS := jWS_in 119 rfl rfl
set_option maxRecDepth 100000 in
theorem w_81 : (Jvm.Cond.classLink "WireField" (26 : Nat) "WireField$Text") ∈ jWS := jWS_in 122 rfl rfl
set_option maxRecDepth 100000 in
theorem w_82 : (Jvm.Cond.instantiable "WireField$Text" (2 : Nat)) ∈ jWS := jWS_in 123 rfl rfl
set_option maxRecDepth 100000 in
theorem w_83 : (Jvm.Cond.methodLinkNest "WireField" (28 : Nat) ({ cls := "WireField$Text", name := "<init>", desc := "()V" } : Jvm.MethodName) "WireField") ∈ jNW := jNW_in 124 rfl rfl
set_option maxRecDepth 100000 in
theorem w_84 : (Jvm.Cond.instanceMethod ({ cls := "WireField$Text", name := "<init>", desc := "()V" } : Jvm.MethodName)) ∈ jWS := jWS_in 125 rfl rfl
set_option maxRecDepth 100000 in
theorem w_85 : (Jvm.Cond.code ({ cls := "WireField$Text", name := "<init>", desc := "()V" } : Jvm.MethodName) prog_7_method_1_code (1 : Nat) (Option.none : Option Jvm.ClassFile.FieldType)) ∈ jWS := jWS_in 126 rfl rfl
set_option maxRecDepth 100000 in
theorem w_86 : (Jvm.Cond.methodLink "WireField$Text" (3 : Nat) ({ cls := "java/lang/Object", name := "<init>", desc := "()V" } : Jvm.MethodName)) ∈ jWS := jWS_in 127 rfl rfl
set_option maxRecDepth 100000 in
theorem w_87 : (Jvm.Cond.fieldLink "WireField$Text" (9 : Nat) "WireField$Text" "signs" "[C") ∈ jWS := jWS_in 128 rfl rfl
set_option maxRecDepth 100000 in
theorem w_88 : (Jvm.Cond.fieldLink "WireField$Text" (15 : Nat) "WireField$Text" "length" "I") ∈ jWS := jWS_in 129 rfl rfl
set_option maxRecDepth 100000 in
theorem w_89 : (Jvm.Cond.fieldLinkNest "WireField" (107 : Nat) "WireField$Text" "length" "I" "WireField") ∈ jNW := jNW_in 130 rfl rfl
set_option maxRecDepth 100000 in
theorem w_90 : (Jvm.Cond.laysFinal "WireField$Text" "WireField$Text" "signs" "[C") ∈ jWS := jWS_in 131 rfl rfl
set_option maxRecDepth 100000 in
theorem w_92 : (Jvm.Cond.lays "WireField$Text" "WireField$Text" "length" "I") ∈ jWS := jWS_in 133 rfl rfl
set_option maxRecDepth 100000 in
theorem w_95 : (Jvm.Cond.arrayClass Jvm.ClassFile.FieldType.char) ∈ jWS := jWS_in 136 rfl rfl
set_option maxRecDepth 100000 in
theorem w_97 : (Jvm.Cond.classLink "WireField" (41 : Nat) "WireField$Source") ∈ jWS := jWS_in 138 rfl rfl
set_option maxRecDepth 100000 in
theorem w_99 : (Jvm.Cond.classLink "WireField" (51 : Nat) "WireField$Probe") ∈ jWS := jWS_in 140 rfl rfl
set_option maxRecDepth 100000 in
theorem w_101 : (Jvm.Cond.classLink "WireField" (60 : Nat) "WireField$Moment") ∈ jWS := jWS_in 142 rfl rfl
set_option maxRecDepth 100000 in
theorem w_103 : (Jvm.Cond.instantiable "WireField$Source" (5 : Nat)) ∈ jWS := jWS_in 144 rfl rfl
set_option maxRecDepth 100000 in
theorem w_104 : (Jvm.Cond.methodLinkNest "WireField" (72 : Nat) ({ cls := "WireField$Source", name := "<init>", desc := "()V" } : Jvm.MethodName) "WireField") ∈ jNW := jNW_in 145 rfl rfl
set_option maxRecDepth 100000 in
theorem w_105 : (Jvm.Cond.instanceMethod ({ cls := "WireField$Source", name := "<init>", desc := "()V" } : Jvm.MethodName)) ∈ jWS := jWS_in 146 rfl rfl
set_option maxRecDepth 100000 in
theorem w_106 : (Jvm.Cond.code ({ cls := "WireField$Source", name := "<init>", desc := "()V" } : Jvm.MethodName) prog_6_method_1_code (1 : Nat) (Option.none : Option Jvm.ClassFile.FieldType)) ∈ jWS := jWS_in 147 rfl rfl
set_option maxRecDepth 100000 in
theorem w_107 : (Jvm.Cond.methodLink "WireField$Source" (3 : Nat) ({ cls := "java/lang/Object", name := "<init>", desc := "()V" } : Jvm.MethodName)) ∈ jWS := jWS_in 148 rfl rfl
set_option maxRecDepth 100000 in
theorem w_108 : (Jvm.Cond.fieldLink "WireField$Source" (9 : Nat) "WireField$Source" "column" "I") ∈ jWS := jWS_in 149 rfl rfl
set_option maxRecDepth 100000 in
theorem w_109 : (Jvm.Cond.fieldLink "WireField$Source" (15 : Nat) "WireField$Source" "row" "I") ∈ jWS := jWS_in 150 rfl rfl
set_option maxRecDepth 100000 in
theorem w_110 : (Jvm.Cond.fieldLink "WireField$Source" (18 : Nat) "WireField$Source" "pattern" "J") ∈ jWS := jWS_in 151 rfl rfl
set_option maxRecDepth 100000 in
theorem w_111 : (Jvm.Cond.fieldLink "WireField$Source" (22 : Nat) "WireField$Source" "patternLength" "I") ∈ jWS := jWS_in 152 rfl rfl
set_option maxRecDepth 100000 in
theorem w_112 : (Jvm.Cond.fieldLink "WireField$Source" (25 : Nat) "WireField$Source" "place" "I") ∈ jWS := jWS_in 153 rfl rfl
set_option maxRecDepth 100000 in
theorem w_113 : (Jvm.Cond.fieldLinkNest "WireField" (182 : Nat) "WireField$Source" "place" "I" "WireField") ∈ jNW := jNW_in 154 rfl rfl
set_option maxRecDepth 100000 in
theorem w_114 : (Jvm.Cond.lays "WireField$Source" "WireField$Source" "column" "I") ∈ jWS := jWS_in 155 rfl rfl
set_option maxRecDepth 100000 in
theorem w_116 : (Jvm.Cond.lays "WireField$Source" "WireField$Source" "row" "I") ∈ jWS := jWS_in 157 rfl rfl
set_option maxRecDepth 100000 in
theorem w_118 : (Jvm.Cond.lays "WireField$Source" "WireField$Source" "pattern" "J") ∈ jWS := jWS_in 159 rfl rfl
set_option maxRecDepth 100000 in
theorem w_120 : (Jvm.Cond.lays "WireField$Source" "WireField$Source" "patternLength" "I") ∈ jWS := jWS_in 161 rfl rfl
set_option maxRecDepth 100000 in
theorem w_122 : (Jvm.Cond.lays "WireField$Source" "WireField$Source" "place" "I") ∈ jWS := jWS_in 163 rfl rfl
set_option maxRecDepth 100000 in
theorem w_125 : (Jvm.Cond.arrayClass Jvm.ClassFile.FieldType.boolean) ∈ jWS := jWS_in 166 rfl rfl
set_option maxRecDepth 100000 in
theorem w_126 : (Jvm.Cond.instantiable "WireField$Probe" (5 : Nat)) ∈ jWS := jWS_in 167 rfl rfl
set_option maxRecDepth 100000 in
theorem w_127 : (Jvm.Cond.methodLinkNest "WireField" (73 : Nat) ({ cls := "WireField$Probe", name := "<init>", desc := "()V" } : Jvm.MethodName) "WireField") ∈ jNW := jNW_in 168 rfl rfl
set_option maxRecDepth 100000 in
theorem w_128 : (Jvm.Cond.instanceMethod ({ cls := "WireField$Probe", name := "<init>", desc := "()V" } : Jvm.MethodName)) ∈ jWS := jWS_in 169 rfl rfl
set_option maxRecDepth 100000 in
theorem w_129 : (Jvm.Cond.code ({ cls := "WireField$Probe", name := "<init>", desc := "()V" } : Jvm.MethodName) prog_5_method_1_code (1 : Nat) (Option.none : Option Jvm.ClassFile.FieldType)) ∈ jWS := jWS_in 170 rfl rfl
set_option maxRecDepth 100000 in
theorem w_130 : (Jvm.Cond.methodLink "WireField$Probe" (3 : Nat) ({ cls := "java/lang/Object", name := "<init>", desc := "()V" } : Jvm.MethodName)) ∈ jWS := jWS_in 171 rfl rfl
set_option maxRecDepth 100000 in
theorem w_131 : (Jvm.Cond.fieldLink "WireField$Probe" (9 : Nat) "WireField$Probe" "column" "I") ∈ jWS := jWS_in 172 rfl rfl
set_option maxRecDepth 100000 in
theorem w_132 : (Jvm.Cond.fieldLink "WireField$Probe" (15 : Nat) "WireField$Probe" "row" "I") ∈ jWS := jWS_in 173 rfl rfl
set_option maxRecDepth 100000 in
theorem w_133 : (Jvm.Cond.fieldLink "WireField$Probe" (18 : Nat) "WireField$Probe" "headCount" "I") ∈ jWS := jWS_in 174 rfl rfl
set_option maxRecDepth 100000 in
theorem w_134 : (Jvm.Cond.fieldLinkNest "WireField" (191 : Nat) "WireField$Probe" "headCount" "I" "WireField") ∈ jNW := jNW_in 175 rfl rfl
set_option maxRecDepth 100000 in
theorem w_135 : (Jvm.Cond.fieldLink "WireField$Probe" (21 : Nat) "WireField$Probe" "latestTime" "I") ∈ jWS := jWS_in 176 rfl rfl
set_option maxRecDepth 100000 in
theorem w_136 : (Jvm.Cond.fieldLinkNest "WireField" (194 : Nat) "WireField$Probe" "latestTime" "I" "WireField") ∈ jNW := jNW_in 177 rfl rfl
set_option maxRecDepth 100000 in
theorem w_137 : (Jvm.Cond.fieldLink "WireField$Probe" (24 : Nat) "WireField$Probe" "headBits" "J") ∈ jWS := jWS_in 178 rfl rfl
set_option maxRecDepth 100000 in
theorem w_138 : (Jvm.Cond.fieldLinkNest "WireField" (197 : Nat) "WireField$Probe" "headBits" "J" "WireField") ∈ jNW := jNW_in 179 rfl rfl
set_option maxRecDepth 100000 in
theorem w_139 : (Jvm.Cond.lays "WireField$Probe" "WireField$Probe" "column" "I") ∈ jWS := jWS_in 180 rfl rfl
set_option maxRecDepth 100000 in
theorem w_141 : (Jvm.Cond.lays "WireField$Probe" "WireField$Probe" "row" "I") ∈ jWS := jWS_in 182 rfl rfl
set_option maxRecDepth 100000 in
theorem w_143 : (Jvm.Cond.lays "WireField$Probe" "WireField$Probe" "headCount" "I") ∈ jWS := jWS_in 184 rfl rfl
set_option maxRecDepth 100000 in
theorem w_145 : (Jvm.Cond.lays "WireField$Probe" "WireField$Probe" "latestTime" "I") ∈ jWS := jWS_in 186 rfl rfl
set_option maxRecDepth 100000 in
theorem w_147 : (Jvm.Cond.lays "WireField$Probe" "WireField$Probe" "headBits" "J") ∈ jWS := jWS_in 188 rfl rfl
set_option maxRecDepth 100000 in
theorem w_150 : (Jvm.Cond.instantiable "WireField$Moment" (2 : Nat)) ∈ jWS := jWS_in 191 rfl rfl
set_option maxRecDepth 100000 in
theorem w_151 : (Jvm.Cond.methodLinkNest "WireField" (74 : Nat) ({ cls := "WireField$Moment", name := "<init>", desc := "()V" } : Jvm.MethodName) "WireField") ∈ jNW := jNW_in 192 rfl rfl
set_option maxRecDepth 100000 in
theorem w_152 : (Jvm.Cond.instanceMethod ({ cls := "WireField$Moment", name := "<init>", desc := "()V" } : Jvm.MethodName)) ∈ jWS := jWS_in 193 rfl rfl
set_option maxRecDepth 100000 in
theorem w_153 : (Jvm.Cond.code ({ cls := "WireField$Moment", name := "<init>", desc := "()V" } : Jvm.MethodName) prog_3_method_1_code (1 : Nat) (Option.none : Option Jvm.ClassFile.FieldType)) ∈ jWS := jWS_in 194 rfl rfl
set_option maxRecDepth 100000 in
theorem w_154 : (Jvm.Cond.methodLink "WireField$Moment" (3 : Nat) ({ cls := "java/lang/Object", name := "<init>", desc := "()V" } : Jvm.MethodName)) ∈ jWS := jWS_in 195 rfl rfl
set_option maxRecDepth 100000 in
theorem w_155 : (Jvm.Cond.classLink "WireField$Moment" (9 : Nat) "WireField$Grid") ∈ jWS := jWS_in 196 rfl rfl
set_option maxRecDepth 100000 in
theorem w_156 : (Jvm.Cond.methodLinkNest "WireField$Moment" (11 : Nat) ({ cls := "WireField$Grid", name := "<init>", desc := "()V" } : Jvm.MethodName) "WireField") ∈ jNW := jNW_in 197 rfl rfl
set_option maxRecDepth 100000 in
theorem w_157 : (Jvm.Cond.fieldLink "WireField$Moment" (12 : Nat) "WireField$Moment" "grid" "LWireField$Grid;") ∈ jWS := jWS_in 198 rfl rfl
set_option maxRecDepth 100000 in
theorem w_158 : (Jvm.Cond.fieldLinkNest "WireField" (175 : Nat) "WireField$Moment" "grid" "LWireField$Grid;" "WireField") ∈ jNW := jNW_in 199 rfl rfl
set_option maxRecDepth 100000 in
theorem w_159 : (Jvm.Cond.fieldLink "WireField$Moment" (18 : Nat) "WireField$Moment" "places" "[I") ∈ jWS := jWS_in 200 rfl rfl
set_option maxRecDepth 100000 in
theorem w_160 : (Jvm.Cond.fieldLinkNest "WireField" (178 : Nat) "WireField$Moment" "places" "[I" "WireField") ∈ jNW := jNW_in 201 rfl rfl
set_option maxRecDepth 100000 in
theorem w_161 : (Jvm.Cond.laysFinal "WireField$Moment" "WireField$Moment" "grid" "LWireField$Grid;") ∈ jWS := jWS_in 202 rfl rfl
set_option maxRecDepth 100000 in
theorem w_163 : (Jvm.Cond.laysFinal "WireField$Moment" "WireField$Moment" "places" "[I") ∈ jWS := jWS_in 204 rfl rfl
set_option maxRecDepth 100000 in
theorem w_166 : (Jvm.Cond.fieldLink "WireField" (12 : Nat) "WireField" "field" "LWireField$Grid;") ∈ jWS := jWS_in 207 rfl rfl
set_option maxRecDepth 100000 in
theorem w_167 : (Jvm.Cond.fieldLink "WireField" (16 : Nat) "WireField" "draft" "LWireField$Grid;") ∈ jWS := jWS_in 208 rfl rfl
set_option maxRecDepth 100000 in
theorem w_168 : (Jvm.Cond.fieldLink "WireField" (22 : Nat) "WireField" "pen" "LWireField$Pen;") ∈ jWS := jWS_in 209 rfl rfl
set_option maxRecDepth 100000 in
theorem w_169 : (Jvm.Cond.fieldLink "WireField" (29 : Nat) "WireField" "line" "LWireField$Text;") ∈ jWS := jWS_in 210 rfl rfl
set_option maxRecDepth 100000 in
theorem w_170 : (Jvm.Cond.fieldLink "WireField" (33 : Nat) "WireField" "macros" "[LWireField$Text;") ∈ jWS := jWS_in 211 rfl rfl
set_option maxRecDepth 100000 in
theorem w_171 : (Jvm.Cond.fieldLink "WireField" (37 : Nat) "WireField" "macroIsThere" "[Z") ∈ jWS := jWS_in 212 rfl rfl
set_option maxRecDepth 100000 in
theorem w_172 : (Jvm.Cond.fieldLink "WireField" (43 : Nat) "WireField" "sources" "[LWireField$Source;") ∈ jWS := jWS_in 213 rfl rfl
set_option maxRecDepth 100000 in
theorem w_173 : (Jvm.Cond.fieldLink "WireField" (47 : Nat) "WireField" "sourceCount" "I") ∈ jWS := jWS_in 214 rfl rfl
set_option maxRecDepth 100000 in
theorem w_174 : (Jvm.Cond.fieldLink "WireField" (53 : Nat) "WireField" "probes" "[LWireField$Probe;") ∈ jWS := jWS_in 215 rfl rfl
set_option maxRecDepth 100000 in
theorem w_175 : (Jvm.Cond.fieldLink "WireField" (57 : Nat) "WireField" "probeCount" "I") ∈ jWS := jWS_in 216 rfl rfl
set_option maxRecDepth 100000 in
theorem w_176 : (Jvm.Cond.fieldLink "WireField" (62 : Nat) "WireField" "moments" "[LWireField$Moment;") ∈ jWS := jWS_in 217 rfl rfl
set_option maxRecDepth 100000 in
theorem w_177 : (Jvm.Cond.fieldLink "WireField" (66 : Nat) "WireField" "keptCount" "I") ∈ jWS := jWS_in 218 rfl rfl
set_option maxRecDepth 100000 in
theorem w_178 : (Jvm.Cond.fieldLink "WireField" (69 : Nat) "WireField" "time" "I") ∈ jWS := jWS_in 219 rfl rfl
set_option maxRecDepth 100000 in
theorem w_179 : (Jvm.Cond.laysFinal "WireField" "WireField" "field" "LWireField$Grid;") ∈ jWS := jWS_in 220 rfl rfl
set_option maxRecDepth 100000 in
theorem w_181 : (Jvm.Cond.laysFinal "WireField" "WireField" "draft" "LWireField$Grid;") ∈ jWS := jWS_in 222 rfl rfl
set_option maxRecDepth 100000 in
theorem w_183 : (Jvm.Cond.laysFinal "WireField" "WireField" "pen" "LWireField$Pen;") ∈ jWS := jWS_in 224 rfl rfl
set_option maxRecDepth 100000 in
theorem w_185 : (Jvm.Cond.laysFinal "WireField" "WireField" "line" "LWireField$Text;") ∈ jWS := jWS_in 226 rfl rfl
set_option maxRecDepth 100000 in
theorem w_187 : (Jvm.Cond.laysFinal "WireField" "WireField" "macros" "[LWireField$Text;") ∈ jWS := jWS_in 228 rfl rfl
set_option maxRecDepth 100000 in
theorem w_189 : (Jvm.Cond.laysFinal "WireField" "WireField" "macroIsThere" "[Z") ∈ jWS := jWS_in 230 rfl rfl
set_option maxRecDepth 100000 in
theorem w_191 : (Jvm.Cond.laysFinal "WireField" "WireField" "sources" "[LWireField$Source;") ∈ jWS := jWS_in 232 rfl rfl
set_option maxRecDepth 100000 in
theorem w_193 : (Jvm.Cond.lays "WireField" "WireField" "sourceCount" "I") ∈ jWS := jWS_in 234 rfl rfl
set_option maxRecDepth 100000 in
theorem w_195 : (Jvm.Cond.laysFinal "WireField" "WireField" "probes" "[LWireField$Probe;") ∈ jWS := jWS_in 236 rfl rfl
set_option maxRecDepth 100000 in
theorem w_197 : (Jvm.Cond.lays "WireField" "WireField" "probeCount" "I") ∈ jWS := jWS_in 238 rfl rfl
set_option maxRecDepth 100000 in
theorem w_199 : (Jvm.Cond.laysFinal "WireField" "WireField" "moments" "[LWireField$Moment;") ∈ jWS := jWS_in 240 rfl rfl
set_option maxRecDepth 100000 in
theorem w_201 : (Jvm.Cond.lays "WireField" "WireField" "keptCount" "I") ∈ jWS := jWS_in 242 rfl rfl
set_option maxRecDepth 100000 in
theorem w_203 : (Jvm.Cond.lays "WireField" "WireField" "time" "I") ∈ jWS := jWS_in 244 rfl rfl
set_option maxRecDepth 100000 in
theorem w_206 : (Jvm.Cond.methodLink "WireFieldLaw" (31 : Nat) ({ cls := "WireField", name := "type", desc := "(C)Z" } : Jvm.MethodName)) ∈ jWS := jWS_in 247 rfl rfl
set_option maxRecDepth 100000 in
theorem w_207 : (Jvm.Cond.instanceMethod ({ cls := "WireField", name := "type", desc := "(C)Z" } : Jvm.MethodName)) ∈ jWS := jWS_in 248 rfl rfl
set_option maxRecDepth 100000 in
theorem w_208 : (Jvm.Cond.selects "WireField" ({ cls := "WireField", name := "type", desc := "(C)Z" } : Jvm.MethodName) ({ cls := "WireField", name := "type", desc := "(C)Z" } : Jvm.MethodName)) ∈ jWS := jWS_in 249 rfl rfl
set_option maxRecDepth 100000 in
theorem w_209 : (Jvm.Cond.code ({ cls := "WireField", name := "type", desc := "(C)Z" } : Jvm.MethodName) prog_1_method_2_code (2 : Nat) (Option.some Jvm.ClassFile.FieldType.boolean)) ∈ jWS := jWS_in 250 rfl rfl
set_option maxRecDepth 100000 in
theorem w_210 : (Jvm.Cond.methodLink "WireField" (75 : Nat) ({ cls := "WireField$Text", name := "add", desc := "(C)Z" } : Jvm.MethodName)) ∈ jWS := jWS_in 251 rfl rfl
set_option maxRecDepth 100000 in
theorem w_211 : (Jvm.Cond.instanceMethod ({ cls := "WireField$Text", name := "add", desc := "(C)Z" } : Jvm.MethodName)) ∈ jWS := jWS_in 252 rfl rfl
set_option maxRecDepth 100000 in
theorem w_212 : (Jvm.Cond.selects "WireField$Text" ({ cls := "WireField$Text", name := "add", desc := "(C)Z" } : Jvm.MethodName) ({ cls := "WireField$Text", name := "add", desc := "(C)Z" } : Jvm.MethodName)) ∈ jWS := jWS_in 253 rfl rfl
set_option maxRecDepth 100000 in
theorem w_213 : (Jvm.Cond.code ({ cls := "WireField$Text", name := "add", desc := "(C)Z" } : Jvm.MethodName) prog_7_method_2_code (2 : Nat) (Option.some Jvm.ClassFile.FieldType.boolean)) ∈ jWS := jWS_in 254 rfl rfl
set_option maxRecDepth 100000 in
theorem w_214 : (Jvm.Cond.methodLink "WireFieldLaw" (50 : Nat) ({ cls := "WireField", name := "wipe", desc := "()V" } : Jvm.MethodName)) ∈ jWS := jWS_in 255 rfl rfl
set_option maxRecDepth 100000 in
theorem w_215 : (Jvm.Cond.instanceMethod ({ cls := "WireField", name := "wipe", desc := "()V" } : Jvm.MethodName)) ∈ jWS := jWS_in 256 rfl rfl
set_option maxRecDepth 100000 in
theorem w_216 : (Jvm.Cond.selects "WireField" ({ cls := "WireField", name := "wipe", desc := "()V" } : Jvm.MethodName) ({ cls := "WireField", name := "wipe", desc := "()V" } : Jvm.MethodName)) ∈ jWS := jWS_in 257 rfl rfl
set_option maxRecDepth 100000 in
theorem w_217 : (Jvm.Cond.code ({ cls := "WireField", name := "wipe", desc := "()V" } : Jvm.MethodName) prog_1_method_5_code (1 : Nat) (Option.none : Option Jvm.ClassFile.FieldType)) ∈ jWS := jWS_in 258 rfl rfl
set_option maxRecDepth 100000 in
theorem w_218 : (Jvm.Cond.methodLink "WireField" (126 : Nat) ({ cls := "WireField$Text", name := "clear", desc := "()V" } : Jvm.MethodName)) ∈ jWS := jWS_in 259 rfl rfl
set_option maxRecDepth 100000 in
theorem w_219 : (Jvm.Cond.instanceMethod ({ cls := "WireField$Text", name := "clear", desc := "()V" } : Jvm.MethodName)) ∈ jWS := jWS_in 260 rfl rfl
set_option maxRecDepth 100000 in
theorem w_220 : (Jvm.Cond.selects "WireField$Text" ({ cls := "WireField$Text", name := "clear", desc := "()V" } : Jvm.MethodName) ({ cls := "WireField$Text", name := "clear", desc := "()V" } : Jvm.MethodName)) ∈ jWS := jWS_in 261 rfl rfl
set_option maxRecDepth 100000 in
theorem w_221 : (Jvm.Cond.code ({ cls := "WireField$Text", name := "clear", desc := "()V" } : Jvm.MethodName) prog_7_method_3_code (1 : Nat) (Option.none : Option Jvm.ClassFile.FieldType)) ∈ jWS := jWS_in 262 rfl rfl
set_option maxRecDepth 100000 in
theorem w_222 : (Jvm.Cond.methodLink "WireFieldLaw" (54 : Nat) ({ cls := "WireField", name := "set", desc := "(III)Z" } : Jvm.MethodName)) ∈ jWS := jWS_in 263 rfl rfl
set_option maxRecDepth 100000 in
theorem w_223 : (Jvm.Cond.instanceMethod ({ cls := "WireField", name := "set", desc := "(III)Z" } : Jvm.MethodName)) ∈ jWS := jWS_in 264 rfl rfl
set_option maxRecDepth 100000 in
theorem w_224 : (Jvm.Cond.selects "WireField" ({ cls := "WireField", name := "set", desc := "(III)Z" } : Jvm.MethodName) ({ cls := "WireField", name := "set", desc := "(III)Z" } : Jvm.MethodName)) ∈ jWS := jWS_in 265 rfl rfl
set_option maxRecDepth 100000 in
theorem w_225 : (Jvm.Cond.code ({ cls := "WireField", name := "set", desc := "(III)Z" } : Jvm.MethodName) prog_1_method_6_code (4 : Nat) (Option.some Jvm.ClassFile.FieldType.boolean)) ∈ jWS := jWS_in 266 rfl rfl
set_option maxRecDepth 100000 in
theorem w_226 : (Jvm.Cond.methodLink "WireField" (79 : Nat) ({ cls := "WireField", name := "isWithin", desc := "(II)Z" } : Jvm.MethodName)) ∈ jWS := jWS_in 267 rfl rfl
set_option maxRecDepth 100000 in
theorem w_227 : (Jvm.Cond.static ({ cls := "WireField", name := "isWithin", desc := "(II)Z" } : Jvm.MethodName)) ∈ jWS := jWS_in 268 rfl rfl
set_option maxRecDepth 100000 in
theorem w_228 : (Jvm.Cond.code ({ cls := "WireField", name := "isWithin", desc := "(II)Z" } : Jvm.MethodName) prog_1_method_17_code (2 : Nat) (Option.some Jvm.ClassFile.FieldType.boolean)) ∈ jWS := jWS_in 269 rfl rfl
set_option maxRecDepth 100000 in
theorem w_229 : (Jvm.Cond.methodLink "WireField" (142 : Nat) ({ cls := "WireField$Grid", name := "put", desc := "(III)V" } : Jvm.MethodName)) ∈ jWS := jWS_in 270 rfl rfl
set_option maxRecDepth 100000 in
theorem w_230 : (Jvm.Cond.instanceMethod ({ cls := "WireField$Grid", name := "put", desc := "(III)V" } : Jvm.MethodName)) ∈ jWS := jWS_in 271 rfl rfl
set_option maxRecDepth 100000 in
theorem w_231 : (Jvm.Cond.selects "WireField$Grid" ({ cls := "WireField$Grid", name := "put", desc := "(III)V" } : Jvm.MethodName) ({ cls := "WireField$Grid", name := "put", desc := "(III)V" } : Jvm.MethodName)) ∈ jWS := jWS_in 272 rfl rfl
set_option maxRecDepth 100000 in
theorem w_232 : (Jvm.Cond.code ({ cls := "WireField$Grid", name := "put", desc := "(III)V" } : Jvm.MethodName) prog_2_method_3_code (5 : Nat) (Option.none : Option Jvm.ClassFile.FieldType)) ∈ jWS := jWS_in 273 rfl rfl
set_option maxRecDepth 100000 in
theorem w_233 : (Jvm.Cond.methodLinkNest "WireField$Grid" (21 : Nat) ({ cls := "WireField", name := "isWithin", desc := "(II)Z" } : Jvm.MethodName) "WireField") ∈ jNW := jNW_in 274 rfl rfl
set_option maxRecDepth 100000 in
theorem w_234 : (Jvm.Cond.methodLink "WireField" (129 : Nat) ({ cls := "WireField", name := "forgetHistory", desc := "()V" } : Jvm.MethodName)) ∈ jWS := jWS_in 275 rfl rfl
set_option maxRecDepth 100000 in
theorem w_236 : (Jvm.Cond.instanceMethod ({ cls := "WireField", name := "forgetHistory", desc := "()V" } : Jvm.MethodName)) ∈ jWS := jWS_in 277 rfl rfl
set_option maxRecDepth 100000 in
theorem w_237 : (Jvm.Cond.code ({ cls := "WireField", name := "forgetHistory", desc := "()V" } : Jvm.MethodName) prog_1_method_22_code (1 : Nat) (Option.none : Option Jvm.ClassFile.FieldType)) ∈ jWS := jWS_in 278 rfl rfl
set_option maxRecDepth 100000 in
theorem w_238 : (Jvm.Cond.methodLink "WireFieldLaw" (59 : Nat) ({ cls := "WireField", name := "cell", desc := "(II)I" } : Jvm.MethodName)) ∈ jWS := jWS_in 279 rfl rfl
set_option maxRecDepth 100000 in
theorem w_239 : (Jvm.Cond.instanceMethod ({ cls := "WireField", name := "cell", desc := "(II)I" } : Jvm.MethodName)) ∈ jWS := jWS_in 280 rfl rfl
set_option maxRecDepth 100000 in
theorem w_240 : (Jvm.Cond.selects "WireField" ({ cls := "WireField", name := "cell", desc := "(II)I" } : Jvm.MethodName) ({ cls := "WireField", name := "cell", desc := "(II)I" } : Jvm.MethodName)) ∈ jWS := jWS_in 281 rfl rfl
set_option maxRecDepth 100000 in
theorem w_241 : (Jvm.Cond.code ({ cls := "WireField", name := "cell", desc := "(II)I" } : Jvm.MethodName) prog_1_method_7_code (3 : Nat) (Option.some Jvm.ClassFile.FieldType.int)) ∈ jWS := jWS_in 282 rfl rfl
set_option maxRecDepth 100000 in
theorem w_242 : (Jvm.Cond.methodLink "WireField" (146 : Nat) ({ cls := "WireField$Grid", name := "valueAt", desc := "(II)I" } : Jvm.MethodName)) ∈ jWS := jWS_in 283 rfl rfl
set_option maxRecDepth 100000 in
theorem w_243 : (Jvm.Cond.instanceMethod ({ cls := "WireField$Grid", name := "valueAt", desc := "(II)I" } : Jvm.MethodName)) ∈ jWS := jWS_in 284 rfl rfl
set_option maxRecDepth 100000 in
theorem w_244 : (Jvm.Cond.selects "WireField$Grid" ({ cls := "WireField$Grid", name := "valueAt", desc := "(II)I" } : Jvm.MethodName) ({ cls := "WireField$Grid", name := "valueAt", desc := "(II)I" } : Jvm.MethodName)) ∈ jWS := jWS_in 285 rfl rfl
set_option maxRecDepth 100000 in
theorem w_245 : (Jvm.Cond.code ({ cls := "WireField$Grid", name := "valueAt", desc := "(II)I" } : Jvm.MethodName) prog_2_method_2_code (3 : Nat) (Option.some Jvm.ClassFile.FieldType.int)) ∈ jWS := jWS_in 286 rfl rfl
set_option maxRecDepth 100000 in
theorem w_246 : (Jvm.Cond.methodLink "WireFieldLaw" (63 : Nat) ({ cls := "WireField", name := "copy", desc := "(IIIIIII)Z" } : Jvm.MethodName)) ∈ jWS := jWS_in 287 rfl rfl
set_option maxRecDepth 100000 in
theorem w_247 : (Jvm.Cond.instanceMethod ({ cls := "WireField", name := "copy", desc := "(IIIIIII)Z" } : Jvm.MethodName)) ∈ jWS := jWS_in 288 rfl rfl
set_option maxRecDepth 100000 in
theorem w_248 : (Jvm.Cond.selects "WireField" ({ cls := "WireField", name := "copy", desc := "(IIIIIII)Z" } : Jvm.MethodName) ({ cls := "WireField", name := "copy", desc := "(IIIIIII)Z" } : Jvm.MethodName)) ∈ jWS := jWS_in 289 rfl rfl
set_option maxRecDepth 100000 in
theorem w_249 : (Jvm.Cond.code ({ cls := "WireField", name := "copy", desc := "(IIIIIII)Z" } : Jvm.MethodName) prog_1_method_8_code (11 : Nat) (Option.some Jvm.ClassFile.FieldType.boolean)) ∈ jWS := jWS_in 290 rfl rfl
set_option maxRecDepth 100000 in
theorem w_250 : (Jvm.Cond.methodLink "WireField" (150 : Nat) ({ cls := "WireField", name := "isPiece", desc := "(IIII)Z" } : Jvm.MethodName)) ∈ jWS := jWS_in 291 rfl rfl
set_option maxRecDepth 100000 in
theorem w_251 : (Jvm.Cond.static ({ cls := "WireField", name := "isPiece", desc := "(IIII)Z" } : Jvm.MethodName)) ∈ jWS := jWS_in 292 rfl rfl
set_option maxRecDepth 100000 in
theorem w_252 : (Jvm.Cond.code ({ cls := "WireField", name := "isPiece", desc := "(IIII)Z" } : Jvm.MethodName) prog_1_method_18_code (4 : Nat) (Option.some Jvm.ClassFile.FieldType.boolean)) ∈ jWS := jWS_in 293 rfl rfl
set_option maxRecDepth 100000 in
theorem w_253 : (Jvm.Cond.methodLink "WireField" (122 : Nat) ({ cls := "WireField$Grid", name := "takeFrom", desc := "(LWireField$Grid;)V" } : Jvm.MethodName)) ∈ jWS := jWS_in 294 rfl rfl
set_option maxRecDepth 100000 in
theorem w_254 : (Jvm.Cond.instanceMethod ({ cls := "WireField$Grid", name := "takeFrom", desc := "(LWireField$Grid;)V" } : Jvm.MethodName)) ∈ jWS := jWS_in 295 rfl rfl
set_option maxRecDepth 100000 in
theorem w_255 : (Jvm.Cond.selects "WireField$Grid" ({ cls := "WireField$Grid", name := "takeFrom", desc := "(LWireField$Grid;)V" } : Jvm.MethodName) ({ cls := "WireField$Grid", name := "takeFrom", desc := "(LWireField$Grid;)V" } : Jvm.MethodName)) ∈ jWS := jWS_in 296 rfl rfl
set_option maxRecDepth 100000 in
theorem w_256 : (Jvm.Cond.code ({ cls := "WireField$Grid", name := "takeFrom", desc := "(LWireField$Grid;)V" } : Jvm.MethodName) prog_2_method_4_code (2 : Nat) (Option.none : Option Jvm.ClassFile.FieldType)) ∈ jWS := jWS_in 297 rfl rfl
set_option maxRecDepth 100000 in
theorem w_257 : (Jvm.Cond.methodLink "WireField$Grid" (25 : Nat) ({ cls := "java/lang/System", name := "arraycopy", desc := "(Ljava/lang/Object;ILjava/lang/Object;II)V" } : Jvm.MethodName)) ∈ jWS := jWS_in 298 rfl rfl
set_option maxRecDepth 100000 in
theorem w_258 : (Jvm.Cond.static ({ cls := "java/lang/System", name := "arraycopy", desc := "(Ljava/lang/Object;ILjava/lang/Object;II)V" } : Jvm.MethodName)) ∈ jWS := jWS_in 299 rfl rfl
set_option maxRecDepth 100000 in
theorem w_259 : (Jvm.Cond.native ({ cls := "java/lang/System", name := "arraycopy", desc := "(Ljava/lang/Object;ILjava/lang/Object;II)V" } : Jvm.MethodName)) ∈ jWS := jWS_in 300 rfl rfl
set_option maxRecDepth 100000 in
theorem w_260 : (Jvm.Cond.methodLink "WireField" (154 : Nat) ({ cls := "WireField", name := "putTurned", desc := "(IIIIIII)V" } : Jvm.MethodName)) ∈ jWS := jWS_in 301 rfl rfl
set_option maxRecDepth 100000 in
theorem w_262 : (Jvm.Cond.instanceMethod ({ cls := "WireField", name := "putTurned", desc := "(IIIIIII)V" } : Jvm.MethodName)) ∈ jWS := jWS_in 303 rfl rfl
set_option maxRecDepth 100000 in
theorem w_263 : (Jvm.Cond.code ({ cls := "WireField", name := "putTurned", desc := "(IIIIIII)V" } : Jvm.MethodName) prog_1_method_19_code (13 : Nat) (Option.none : Option Jvm.ClassFile.FieldType)) ∈ jWS := jWS_in 304 rfl rfl
set_option maxRecDepth 100000 in
theorem w_264 : (Jvm.Cond.methodLink "WireField" (201 : Nat) ({ cls := "WireField", name := "turnedX", desc := "(IIIII)I" } : Jvm.MethodName)) ∈ jWS := jWS_in 305 rfl rfl
set_option maxRecDepth 100000 in
theorem w_265 : (Jvm.Cond.static ({ cls := "WireField", name := "turnedX", desc := "(IIIII)I" } : Jvm.MethodName)) ∈ jWS := jWS_in 306 rfl rfl
set_option maxRecDepth 100000 in
theorem w_266 : (Jvm.Cond.code ({ cls := "WireField", name := "turnedX", desc := "(IIIII)I" } : Jvm.MethodName) prog_1_method_20_code (5 : Nat) (Option.some Jvm.ClassFile.FieldType.int)) ∈ jWS := jWS_in 307 rfl rfl
set_option maxRecDepth 100000 in
theorem w_267 : (Jvm.Cond.methodLink "WireField" (205 : Nat) ({ cls := "WireField", name := "turnedY", desc := "(IIIII)I" } : Jvm.MethodName)) ∈ jWS := jWS_in 308 rfl rfl
set_option maxRecDepth 100000 in
theorem w_268 : (Jvm.Cond.static ({ cls := "WireField", name := "turnedY", desc := "(IIIII)I" } : Jvm.MethodName)) ∈ jWS := jWS_in 309 rfl rfl
set_option maxRecDepth 100000 in
theorem w_269 : (Jvm.Cond.code ({ cls := "WireField", name := "turnedY", desc := "(IIIII)I" } : Jvm.MethodName) prog_1_method_21_code (5 : Nat) (Option.some Jvm.ClassFile.FieldType.int)) ∈ jWS := jWS_in 310 rfl rfl
set_option maxRecDepth 100000 in
theorem w_270 : (Jvm.Cond.methodLink "WireFieldLaw" (70 : Nat) ({ cls := "WireField", name := "source", desc := "(IIJI)I" } : Jvm.MethodName)) ∈ jWS := jWS_in 311 rfl rfl
set_option maxRecDepth 100000 in
theorem w_271 : (Jvm.Cond.instanceMethod ({ cls := "WireField", name := "source", desc := "(IIJI)I" } : Jvm.MethodName)) ∈ jWS := jWS_in 312 rfl rfl
set_option maxRecDepth 100000 in
theorem w_272 : (Jvm.Cond.selects "WireField" ({ cls := "WireField", name := "source", desc := "(IIJI)I" } : Jvm.MethodName) ({ cls := "WireField", name := "source", desc := "(IIJI)I" } : Jvm.MethodName)) ∈ jWS := jWS_in 313 rfl rfl
set_option maxRecDepth 100000 in
theorem w_273 : (Jvm.Cond.code ({ cls := "WireField", name := "source", desc := "(IIJI)I" } : Jvm.MethodName) prog_1_method_9_code (6 : Nat) (Option.some Jvm.ClassFile.FieldType.int)) ∈ jWS := jWS_in 314 rfl rfl
set_option maxRecDepth 100000 in
theorem w_274 : (Jvm.Cond.methodLink "WireField" (158 : Nat) ({ cls := "WireField$Source", name := "begin", desc := "(IIJI)V" } : Jvm.MethodName)) ∈ jWS := jWS_in 315 rfl rfl
set_option maxRecDepth 100000 in
theorem w_275 : (Jvm.Cond.instanceMethod ({ cls := "WireField$Source", name := "begin", desc := "(IIJI)V" } : Jvm.MethodName)) ∈ jWS := jWS_in 316 rfl rfl
set_option maxRecDepth 100000 in
theorem w_276 : (Jvm.Cond.selects "WireField$Source" ({ cls := "WireField$Source", name := "begin", desc := "(IIJI)V" } : Jvm.MethodName) ({ cls := "WireField$Source", name := "begin", desc := "(IIJI)V" } : Jvm.MethodName)) ∈ jWS := jWS_in 317 rfl rfl
set_option maxRecDepth 100000 in
theorem w_277 : (Jvm.Cond.code ({ cls := "WireField$Source", name := "begin", desc := "(IIJI)V" } : Jvm.MethodName) prog_6_method_2_code (6 : Nat) (Option.none : Option Jvm.ClassFile.FieldType)) ∈ jWS := jWS_in 318 rfl rfl
set_option maxRecDepth 100000 in
theorem w_278 : (Jvm.Cond.methodLink "WireFieldLaw" (75 : Nat) ({ cls := "WireField", name := "probe", desc := "(II)I" } : Jvm.MethodName)) ∈ jWS := jWS_in 319 rfl rfl
set_option maxRecDepth 100000 in
theorem w_279 : (Jvm.Cond.instanceMethod ({ cls := "WireField", name := "probe", desc := "(II)I" } : Jvm.MethodName)) ∈ jWS := jWS_in 320 rfl rfl
set_option maxRecDepth 100000 in
theorem w_280 : (Jvm.Cond.selects "WireField" ({ cls := "WireField", name := "probe", desc := "(II)I" } : Jvm.MethodName) ({ cls := "WireField", name := "probe", desc := "(II)I" } : Jvm.MethodName)) ∈ jWS := jWS_in 321 rfl rfl
set_option maxRecDepth 100000 in
theorem w_281 : (Jvm.Cond.code ({ cls := "WireField", name := "probe", desc := "(II)I" } : Jvm.MethodName) prog_1_method_10_code (3 : Nat) (Option.some Jvm.ClassFile.FieldType.int)) ∈ jWS := jWS_in 322 rfl rfl
set_option maxRecDepth 100000 in
theorem w_282 : (Jvm.Cond.methodLink "WireField" (161 : Nat) ({ cls := "WireField$Probe", name := "begin", desc := "(II)V" } : Jvm.MethodName)) ∈ jWS := jWS_in 323 rfl rfl
set_option maxRecDepth 100000 in
theorem w_283 : (Jvm.Cond.instanceMethod ({ cls := "WireField$Probe", name := "begin", desc := "(II)V" } : Jvm.MethodName)) ∈ jWS := jWS_in 324 rfl rfl
set_option maxRecDepth 100000 in
theorem w_284 : (Jvm.Cond.selects "WireField$Probe" ({ cls := "WireField$Probe", name := "begin", desc := "(II)V" } : Jvm.MethodName) ({ cls := "WireField$Probe", name := "begin", desc := "(II)V" } : Jvm.MethodName)) ∈ jWS := jWS_in 325 rfl rfl
set_option maxRecDepth 100000 in
theorem w_285 : (Jvm.Cond.code ({ cls := "WireField$Probe", name := "begin", desc := "(II)V" } : Jvm.MethodName) prog_5_method_2_code (3 : Nat) (Option.none : Option Jvm.ClassFile.FieldType)) ∈ jWS := jWS_in 326 rfl rfl
set_option maxRecDepth 100000 in
theorem w_286 : (Jvm.Cond.methodLink "WireFieldLaw" (79 : Nat) ({ cls := "WireField", name := "run", desc := "(I)I" } : Jvm.MethodName)) ∈ jWS := jWS_in 327 rfl rfl
set_option maxRecDepth 100000 in
theorem w_287 : (Jvm.Cond.instanceMethod ({ cls := "WireField", name := "run", desc := "(I)I" } : Jvm.MethodName)) ∈ jWS := jWS_in 328 rfl rfl
set_option maxRecDepth 100000 in
theorem w_288 : (Jvm.Cond.selects "WireField" ({ cls := "WireField", name := "run", desc := "(I)I" } : Jvm.MethodName) ({ cls := "WireField", name := "run", desc := "(I)I" } : Jvm.MethodName)) ∈ jWS := jWS_in 329 rfl rfl
set_option maxRecDepth 100000 in
theorem w_289 : (Jvm.Cond.code ({ cls := "WireField", name := "run", desc := "(I)I" } : Jvm.MethodName) prog_1_method_11_code (3 : Nat) (Option.some Jvm.ClassFile.FieldType.int)) ∈ jWS := jWS_in 330 rfl rfl
set_option maxRecDepth 100000 in
theorem w_290 : (Jvm.Cond.methodLink "WireField" (164 : Nat) ({ cls := "WireField", name := "makeGeneration", desc := "()V" } : Jvm.MethodName)) ∈ jWS := jWS_in 331 rfl rfl
set_option maxRecDepth 100000 in
theorem w_292 : (Jvm.Cond.instanceMethod ({ cls := "WireField", name := "makeGeneration", desc := "()V" } : Jvm.MethodName)) ∈ jWS := jWS_in 333 rfl rfl
set_option maxRecDepth 100000 in
theorem w_293 : (Jvm.Cond.code ({ cls := "WireField", name := "makeGeneration", desc := "()V" } : Jvm.MethodName) prog_1_method_24_code (2 : Nat) (Option.none : Option Jvm.ClassFile.FieldType)) ∈ jWS := jWS_in 334 rfl rfl
set_option maxRecDepth 100000 in
theorem w_294 : (Jvm.Cond.methodLink "WireField" (213 : Nat) ({ cls := "WireField", name := "keepMoment", desc := "()V" } : Jvm.MethodName)) ∈ jWS := jWS_in 335 rfl rfl
set_option maxRecDepth 100000 in
theorem w_296 : (Jvm.Cond.instanceMethod ({ cls := "WireField", name := "keepMoment", desc := "()V" } : Jvm.MethodName)) ∈ jWS := jWS_in 337 rfl rfl
set_option maxRecDepth 100000 in
theorem w_297 : (Jvm.Cond.code ({ cls := "WireField", name := "keepMoment", desc := "()V" } : Jvm.MethodName) prog_1_method_25_code (3 : Nat) (Option.none : Option Jvm.ClassFile.FieldType)) ∈ jWS := jWS_in 338 rfl rfl
set_option maxRecDepth 100000 in
theorem w_298 : (Jvm.Cond.methodLink "WireField" (171 : Nat) ({ cls := "WireField", name := "momentAt", desc := "(I)LWireField$Moment;" } : Jvm.MethodName)) ∈ jWS := jWS_in 339 rfl rfl
set_option maxRecDepth 100000 in
theorem w_300 : (Jvm.Cond.instanceMethod ({ cls := "WireField", name := "momentAt", desc := "(I)LWireField$Moment;" } : Jvm.MethodName)) ∈ jWS := jWS_in 341 rfl rfl
set_option maxRecDepth 100000 in
theorem w_301 : (Jvm.Cond.code ({ cls := "WireField", name := "momentAt", desc := "(I)LWireField$Moment;" } : Jvm.MethodName) prog_1_method_23_code (2 : Nat) (Option.some (Jvm.ClassFile.FieldType.object "WireField$Moment"))) ∈ jWS := jWS_in 342 rfl rfl
set_option maxRecDepth 100000 in
theorem w_302 : (Jvm.Cond.methodLink "WireField" (208 : Nat) ({ cls := "java/lang/Math", name := "floorMod", desc := "(II)I" } : Jvm.MethodName)) ∈ jWS := jWS_in 343 rfl rfl
set_option maxRecDepth 100000 in
theorem w_303 : (Jvm.Cond.static ({ cls := "java/lang/Math", name := "floorMod", desc := "(II)I" } : Jvm.MethodName)) ∈ jWS := jWS_in 344 rfl rfl
set_option maxRecDepth 100000 in
theorem w_304 : (Jvm.Cond.code ({ cls := "java/lang/Math", name := "floorMod", desc := "(II)I" } : Jvm.MethodName) prog_15_method_50_code (3 : Nat) (Option.some Jvm.ClassFile.FieldType.int)) ∈ jWS := jWS_in 345 rfl rfl
set_option maxRecDepth 100000 in
theorem w_305 : (Jvm.Cond.methodLink "WireField" (226 : Nat) ({ cls := "java/lang/Math", name := "min", desc := "(II)I" } : Jvm.MethodName)) ∈ jWS := jWS_in 346 rfl rfl
set_option maxRecDepth 100000 in
theorem w_306 : (Jvm.Cond.static ({ cls := "java/lang/Math", name := "min", desc := "(II)I" } : Jvm.MethodName)) ∈ jWS := jWS_in 347 rfl rfl
set_option maxRecDepth 100000 in
theorem w_307 : (Jvm.Cond.code ({ cls := "java/lang/Math", name := "min", desc := "(II)I" } : Jvm.MethodName) prog_15_method_69_code (2 : Nat) (Option.some Jvm.ClassFile.FieldType.int)) ∈ jWS := jWS_in 348 rfl rfl
set_option maxRecDepth 100000 in
theorem w_308 : (Jvm.Cond.methodLink "WireField" (216 : Nat) ({ cls := "WireField$Source", name := "actOn", desc := "(LWireField$Grid;)V" } : Jvm.MethodName)) ∈ jWS := jWS_in 349 rfl rfl
set_option maxRecDepth 100000 in
theorem w_309 : (Jvm.Cond.instanceMethod ({ cls := "WireField$Source", name := "actOn", desc := "(LWireField$Grid;)V" } : Jvm.MethodName)) ∈ jWS := jWS_in 350 rfl rfl
set_option maxRecDepth 100000 in
theorem w_310 : (Jvm.Cond.selects "WireField$Source" ({ cls := "WireField$Source", name := "actOn", desc := "(LWireField$Grid;)V" } : Jvm.MethodName) ({ cls := "WireField$Source", name := "actOn", desc := "(LWireField$Grid;)V" } : Jvm.MethodName)) ∈ jWS := jWS_in 351 rfl rfl
set_option maxRecDepth 100000 in
theorem w_311 : (Jvm.Cond.code ({ cls := "WireField$Source", name := "actOn", desc := "(LWireField$Grid;)V" } : Jvm.MethodName) prog_6_method_3_code (2 : Nat) (Option.none : Option Jvm.ClassFile.FieldType)) ∈ jWS := jWS_in 352 rfl rfl
set_option maxRecDepth 100000 in
theorem w_312 : (Jvm.Cond.methodLink "WireField$Source" (28 : Nat) ({ cls := "WireField$Grid", name := "valueAt", desc := "(II)I" } : Jvm.MethodName)) ∈ jWS := jWS_in 353 rfl rfl
set_option maxRecDepth 100000 in
theorem w_313 : (Jvm.Cond.methodLink "WireField$Source" (34 : Nat) ({ cls := "WireField$Grid", name := "put", desc := "(III)V" } : Jvm.MethodName)) ∈ jWS := jWS_in 354 rfl rfl
set_option maxRecDepth 100000 in
theorem w_314 : (Jvm.Cond.methodLink "WireField" (219 : Nat) ({ cls := "WireField$Grid", name := "becomeGenerationAfter", desc := "(LWireField$Grid;)V" } : Jvm.MethodName)) ∈ jWS := jWS_in 355 rfl rfl
set_option maxRecDepth 100000 in
theorem w_315 : (Jvm.Cond.instanceMethod ({ cls := "WireField$Grid", name := "becomeGenerationAfter", desc := "(LWireField$Grid;)V" } : Jvm.MethodName)) ∈ jWS := jWS_in 356 rfl rfl
set_option maxRecDepth 100000 in
theorem w_316 : (Jvm.Cond.selects "WireField$Grid" ({ cls := "WireField$Grid", name := "becomeGenerationAfter", desc := "(LWireField$Grid;)V" } : Jvm.MethodName) ({ cls := "WireField$Grid", name := "becomeGenerationAfter", desc := "(LWireField$Grid;)V" } : Jvm.MethodName)) ∈ jWS := jWS_in 357 rfl rfl
set_option maxRecDepth 100000 in
theorem w_317 : (Jvm.Cond.code ({ cls := "WireField$Grid", name := "becomeGenerationAfter", desc := "(LWireField$Grid;)V" } : Jvm.MethodName) prog_2_method_7_code (4 : Nat) (Option.none : Option Jvm.ClassFile.FieldType)) ∈ jWS := jWS_in 358 rfl rfl
set_option maxRecDepth 100000 in
theorem w_318 : (Jvm.Cond.methodLink "WireField$Grid" (37 : Nat) ({ cls := "WireField$Grid", name := "besideOneOrTwoHeads", desc := "(I)I" } : Jvm.MethodName)) ∈ jWS := jWS_in 359 rfl rfl
set_option maxRecDepth 100000 in
theorem w_320 : (Jvm.Cond.instanceMethod ({ cls := "WireField$Grid", name := "besideOneOrTwoHeads", desc := "(I)I" } : Jvm.MethodName)) ∈ jWS := jWS_in 361 rfl rfl
set_option maxRecDepth 100000 in
theorem w_321 : (Jvm.Cond.code ({ cls := "WireField$Grid", name := "besideOneOrTwoHeads", desc := "(I)I" } : Jvm.MethodName) prog_2_method_8_code (8 : Nat) (Option.some Jvm.ClassFile.FieldType.int)) ∈ jWS := jWS_in 362 rfl rfl
set_option maxRecDepth 100000 in
theorem w_322 : (Jvm.Cond.methodLink "WireField$Grid" (40 : Nat) ({ cls := "java/lang/Math", name := "max", desc := "(II)I" } : Jvm.MethodName)) ∈ jWS := jWS_in 363 rfl rfl
set_option maxRecDepth 100000 in
theorem w_323 : (Jvm.Cond.static ({ cls := "java/lang/Math", name := "max", desc := "(II)I" } : Jvm.MethodName)) ∈ jWS := jWS_in 364 rfl rfl
set_option maxRecDepth 100000 in
theorem w_324 : (Jvm.Cond.code ({ cls := "java/lang/Math", name := "max", desc := "(II)I" } : Jvm.MethodName) prog_15_method_65_code (2 : Nat) (Option.some Jvm.ClassFile.FieldType.int)) ∈ jWS := jWS_in 365 rfl rfl
set_option maxRecDepth 100000 in
theorem w_325 : (Jvm.Cond.methodLink "WireField" (222 : Nat) ({ cls := "WireField$Probe", name := "lookAt", desc := "(LWireField$Grid;I)V" } : Jvm.MethodName)) ∈ jWS := jWS_in 366 rfl rfl
set_option maxRecDepth 100000 in
theorem w_326 : (Jvm.Cond.instanceMethod ({ cls := "WireField$Probe", name := "lookAt", desc := "(LWireField$Grid;I)V" } : Jvm.MethodName)) ∈ jWS := jWS_in 367 rfl rfl
set_option maxRecDepth 100000 in
theorem w_327 : (Jvm.Cond.selects "WireField$Probe" ({ cls := "WireField$Probe", name := "lookAt", desc := "(LWireField$Grid;I)V" } : Jvm.MethodName) ({ cls := "WireField$Probe", name := "lookAt", desc := "(LWireField$Grid;I)V" } : Jvm.MethodName)) ∈ jWS := jWS_in 368 rfl rfl
set_option maxRecDepth 100000 in
theorem w_328 : (Jvm.Cond.code ({ cls := "WireField$Probe", name := "lookAt", desc := "(LWireField$Grid;I)V" } : Jvm.MethodName) prog_5_method_3_code (4 : Nat) (Option.none : Option Jvm.ClassFile.FieldType)) ∈ jWS := jWS_in 369 rfl rfl
set_option maxRecDepth 100000 in
theorem w_329 : (Jvm.Cond.methodLink "WireField$Probe" (28 : Nat) ({ cls := "WireField$Grid", name := "valueAt", desc := "(II)I" } : Jvm.MethodName)) ∈ jWS := jWS_in 370 rfl rfl
set_option maxRecDepth 100000 in
theorem w_330 : (Jvm.Cond.constantLong "WireField$Probe" (34 : Nat) (2 : Int64)) ∈ jWS := jWS_in 371 rfl rfl
set_option maxRecDepth 100000 in
theorem w_331 : (Jvm.Cond.methodLink "WireField" (167 : Nat) ({ cls := "WireField$Grid", name := "count", desc := "(I)I" } : Jvm.MethodName)) ∈ jWS := jWS_in 372 rfl rfl
set_option maxRecDepth 100000 in
theorem w_332 : (Jvm.Cond.instanceMethod ({ cls := "WireField$Grid", name := "count", desc := "(I)I" } : Jvm.MethodName)) ∈ jWS := jWS_in 373 rfl rfl
set_option maxRecDepth 100000 in
theorem w_333 : (Jvm.Cond.selects "WireField$Grid" ({ cls := "WireField$Grid", name := "count", desc := "(I)I" } : Jvm.MethodName) ({ cls := "WireField$Grid", name := "count", desc := "(I)I" } : Jvm.MethodName)) ∈ jWS := jWS_in 374 rfl rfl
set_option maxRecDepth 100000 in
theorem w_334 : (Jvm.Cond.code ({ cls := "WireField$Grid", name := "count", desc := "(I)I" } : Jvm.MethodName) prog_2_method_6_code (5 : Nat) (Option.some Jvm.ClassFile.FieldType.int)) ∈ jWS := jWS_in 375 rfl rfl
set_option maxRecDepth 100000 in
theorem w_335 : (Jvm.Cond.methodLink "WireField$Grid" (31 : Nat) ({ cls := "java/lang/Integer", name := "bitCount", desc := "(I)I" } : Jvm.MethodName)) ∈ jWS := jWS_in 376 rfl rfl
set_option maxRecDepth 100000 in
theorem w_336 : (Jvm.Cond.static ({ cls := "java/lang/Integer", name := "bitCount", desc := "(I)I" } : Jvm.MethodName)) ∈ jWS := jWS_in 377 rfl rfl
set_option maxRecDepth 100000 in
theorem w_337 : (Jvm.Cond.code ({ cls := "java/lang/Integer", name := "bitCount", desc := "(I)I" } : Jvm.MethodName) prog_14_method_49_code (1 : Nat) (Option.some Jvm.ClassFile.FieldType.int)) ∈ jWS := jWS_in 378 rfl rfl
set_option maxRecDepth 100000 in
theorem w_338 : (Jvm.Cond.constant "java/lang/Integer" (265 : Nat) (1431655765 : Int32)) ∈ jWS := jWS_in 379 rfl rfl
set_option maxRecDepth 100000 in
theorem w_339 : (Jvm.Cond.constant "java/lang/Integer" (266 : Nat) (858993459 : Int32)) ∈ jWS := jWS_in 380 rfl rfl
set_option maxRecDepth 100000 in
theorem w_340 : (Jvm.Cond.constant "java/lang/Integer" (267 : Nat) (252645135 : Int32)) ∈ jWS := jWS_in 381 rfl rfl
set_option maxRecDepth 100000 in
theorem w_341 : (Jvm.Cond.methodLink "WireFieldLaw" (84 : Nat) ({ cls := "WireField", name := "back", desc := "(I)Z" } : Jvm.MethodName)) ∈ jWS := jWS_in 382 rfl rfl
set_option maxRecDepth 100000 in
theorem w_342 : (Jvm.Cond.instanceMethod ({ cls := "WireField", name := "back", desc := "(I)Z" } : Jvm.MethodName)) ∈ jWS := jWS_in 383 rfl rfl
set_option maxRecDepth 100000 in
theorem w_343 : (Jvm.Cond.selects "WireField" ({ cls := "WireField", name := "back", desc := "(I)Z" } : Jvm.MethodName) ({ cls := "WireField", name := "back", desc := "(I)Z" } : Jvm.MethodName)) ∈ jWS := jWS_in 384 rfl rfl
set_option maxRecDepth 100000 in
theorem w_344 : (Jvm.Cond.code ({ cls := "WireField", name := "back", desc := "(I)Z" } : Jvm.MethodName) prog_1_method_12_code (4 : Nat) (Option.some Jvm.ClassFile.FieldType.boolean)) ∈ jWS := jWS_in 385 rfl rfl
set_option maxRecDepth 100000 in
theorem w_345 : (Jvm.Cond.methodLink "WireFieldLaw" (89 : Nat) ({ cls := "WireField", name := "period", desc := "()I" } : Jvm.MethodName)) ∈ jWS := jWS_in 386 rfl rfl
set_option maxRecDepth 100000 in
theorem w_346 : (Jvm.Cond.instanceMethod ({ cls := "WireField", name := "period", desc := "()I" } : Jvm.MethodName)) ∈ jWS := jWS_in 387 rfl rfl
set_option maxRecDepth 100000 in
theorem w_347 : (Jvm.Cond.selects "WireField" ({ cls := "WireField", name := "period", desc := "()I" } : Jvm.MethodName) ({ cls := "WireField", name := "period", desc := "()I" } : Jvm.MethodName)) ∈ jWS := jWS_in 388 rfl rfl
set_option maxRecDepth 100000 in
theorem w_348 : (Jvm.Cond.code ({ cls := "WireField", name := "period", desc := "()I" } : Jvm.MethodName) prog_1_method_13_code (2 : Nat) (Option.some Jvm.ClassFile.FieldType.int)) ∈ jWS := jWS_in 389 rfl rfl
set_option maxRecDepth 100000 in
theorem w_349 : (Jvm.Cond.methodLink "WireField" (185 : Nat) ({ cls := "WireField$Grid", name := "isSameAs", desc := "(LWireField$Grid;)Z" } : Jvm.MethodName)) ∈ jWS := jWS_in 390 rfl rfl
set_option maxRecDepth 100000 in
theorem w_350 : (Jvm.Cond.instanceMethod ({ cls := "WireField$Grid", name := "isSameAs", desc := "(LWireField$Grid;)Z" } : Jvm.MethodName)) ∈ jWS := jWS_in 391 rfl rfl
set_option maxRecDepth 100000 in
theorem w_351 : (Jvm.Cond.selects "WireField$Grid" ({ cls := "WireField$Grid", name := "isSameAs", desc := "(LWireField$Grid;)Z" } : Jvm.MethodName) ({ cls := "WireField$Grid", name := "isSameAs", desc := "(LWireField$Grid;)Z" } : Jvm.MethodName)) ∈ jWS := jWS_in 392 rfl rfl
set_option maxRecDepth 100000 in
theorem w_352 : (Jvm.Cond.code ({ cls := "WireField$Grid", name := "isSameAs", desc := "(LWireField$Grid;)Z" } : Jvm.MethodName) prog_2_method_5_code (3 : Nat) (Option.some Jvm.ClassFile.FieldType.boolean)) ∈ jWS := jWS_in 393 rfl rfl
set_option maxRecDepth 100000 in
theorem w_353 : (Jvm.Cond.methodLink "WireFieldLaw" (97 : Nat) ({ cls := "WireField", name := "record", desc := "(I)J" } : Jvm.MethodName)) ∈ jWS := jWS_in 394 rfl rfl
set_option maxRecDepth 100000 in
theorem w_354 : (Jvm.Cond.instanceMethod ({ cls := "WireField", name := "record", desc := "(I)J" } : Jvm.MethodName)) ∈ jWS := jWS_in 395 rfl rfl
set_option maxRecDepth 100000 in
theorem w_355 : (Jvm.Cond.selects "WireField" ({ cls := "WireField", name := "record", desc := "(I)J" } : Jvm.MethodName) ({ cls := "WireField", name := "record", desc := "(I)J" } : Jvm.MethodName)) ∈ jWS := jWS_in 396 rfl rfl
set_option maxRecDepth 100000 in
theorem w_356 : (Jvm.Cond.code ({ cls := "WireField", name := "record", desc := "(I)J" } : Jvm.MethodName) prog_1_method_15_code (2 : Nat) (Option.some Jvm.ClassFile.FieldType.long)) ∈ jWS := jWS_in 397 rfl rfl
set_option maxRecDepth 100000 in
theorem w_357 : (Jvm.Cond.methodLink "WireFieldLaw" (102 : Nat) ({ cls := "WireField", name := "look", desc := "(I)I" } : Jvm.MethodName)) ∈ jWS := jWS_in 398 rfl rfl
set_option maxRecDepth 100000 in
theorem w_358 : (Jvm.Cond.instanceMethod ({ cls := "WireField", name := "look", desc := "(I)I" } : Jvm.MethodName)) ∈ jWS := jWS_in 399 rfl rfl
set_option maxRecDepth 100000 in
theorem w_359 : (Jvm.Cond.selects "WireField" ({ cls := "WireField", name := "look", desc := "(I)I" } : Jvm.MethodName) ({ cls := "WireField", name := "look", desc := "(I)I" } : Jvm.MethodName)) ∈ jWS := jWS_in 400 rfl rfl
set_option maxRecDepth 100000 in
theorem w_360 : (Jvm.Cond.code ({ cls := "WireField", name := "look", desc := "(I)I" } : Jvm.MethodName) prog_1_method_16_code (2 : Nat) (Option.some Jvm.ClassFile.FieldType.int)) ∈ jWS := jWS_in 401 rfl rfl
set_option maxRecDepth 100000 in
theorem w_361 : (Jvm.Cond.methodLink "WireFieldLaw" (36 : Nat) ({ cls := "WireFieldLaw", name := "draw", desc := "(LWireField;III[J)I" } : Jvm.MethodName)) ∈ jWS := jWS_in 402 rfl rfl
set_option maxRecDepth 100000 in
theorem w_362 : (Jvm.Cond.static ({ cls := "WireFieldLaw", name := "draw", desc := "(LWireField;III[J)I" } : Jvm.MethodName)) ∈ jWS := jWS_in 403 rfl rfl
set_option maxRecDepth 100000 in
theorem w_364 : (Jvm.Cond.classLink "WireFieldLaw" (13 : Nat) "java/lang/IndexOutOfBoundsException") ∈ jWS := jWS_in 405 rfl rfl
set_option maxRecDepth 100000 in
theorem w_365 : (Jvm.Cond.classLink "WireFieldLaw" (15 : Nat) "java/lang/IllegalArgumentException") ∈ jWS := jWS_in 406 rfl rfl
set_option maxRecDepth 100000 in
theorem w_366 : (Jvm.Cond.classLink "WireFieldLaw" (17 : Nat) "java/lang/UnsupportedOperationException") ∈ jWS := jWS_in 407 rfl rfl
set_option maxRecDepth 100000 in
theorem w_367 : (Jvm.Cond.methodLink "WireFieldLaw" (7 : Nat) ({ cls := "WireField", name := "draw", desc := "(III)I" } : Jvm.MethodName)) ∈ jWS := jWS_in 408 rfl rfl
set_option maxRecDepth 100000 in
theorem w_368 : (Jvm.Cond.instanceMethod ({ cls := "WireField", name := "draw", desc := "(III)I" } : Jvm.MethodName)) ∈ jWS := jWS_in 409 rfl rfl
set_option maxRecDepth 100000 in
theorem w_369 : (Jvm.Cond.selects "WireField" ({ cls := "WireField", name := "draw", desc := "(III)I" } : Jvm.MethodName) ({ cls := "WireField", name := "draw", desc := "(III)I" } : Jvm.MethodName)) ∈ jWS := jWS_in 410 rfl rfl
set_option maxRecDepth 100000 in
theorem w_370 : (Jvm.Cond.code ({ cls := "WireField", name := "draw", desc := "(III)I" } : Jvm.MethodName) prog_1_method_3_code (4 : Nat) (Option.some Jvm.ClassFile.FieldType.int)) ∈ jWS := jWS_in 411 rfl rfl
set_option maxRecDepth 100000 in
theorem w_371 : (Jvm.Cond.classLink "WireField" (83 : Nat) "java/lang/IndexOutOfBoundsException") ∈ jWS := jWS_in 412 rfl rfl
set_option maxRecDepth 100000 in
theorem w_372 : (Jvm.Cond.instantiable "java/lang/IndexOutOfBoundsException" (6 : Nat)) ∈ jWS := jWS_in 413 rfl rfl
set_option maxRecDepth 100000 in
theorem w_380 : (Jvm.Cond.selects "java/lang/IndexOutOfBoundsException" ({ cls := "java/lang/Throwable", name := "fillInStackTrace", desc := "(I)Ljava/lang/Throwable;" } : Jvm.MethodName) ({ cls := "java/lang/Throwable", name := "fillInStackTrace", desc := "(I)Ljava/lang/Throwable;" } : Jvm.MethodName)) ∈ jWS := jWS_in 421 rfl rfl
set_option maxRecDepth 100000 in
theorem w_381 : (Jvm.Cond.selects "java/lang/IndexOutOfBoundsException" ({ cls := "java/lang/Throwable", name := "fillInStackTrace", desc := "()Ljava/lang/Throwable;" } : Jvm.MethodName) ({ cls := "java/lang/Throwable", name := "fillInStackTrace", desc := "()Ljava/lang/Throwable;" } : Jvm.MethodName)) ∈ jWS := jWS_in 422 rfl rfl
set_option maxRecDepth 100000 in
theorem w_382 : (Jvm.Cond.lays "java/lang/IndexOutOfBoundsException" "java/lang/Throwable" "cause" "Ljava/lang/Throwable;") ∈ jWS := jWS_in 423 rfl rfl
set_option maxRecDepth 100000 in
theorem w_383 : (Jvm.Cond.lays "java/lang/Throwable" "java/lang/Throwable" "cause" "Ljava/lang/Throwable;") ∈ jWS := jWS_in 424 rfl rfl
set_option maxRecDepth 100000 in
theorem w_384 : (Jvm.Cond.lays "java/lang/IndexOutOfBoundsException" "java/lang/Throwable" "stackTrace" "[Ljava/lang/StackTraceElement;") ∈ jWS := jWS_in 425 rfl rfl
set_option maxRecDepth 100000 in
theorem w_385 : (Jvm.Cond.lays "java/lang/Throwable" "java/lang/Throwable" "stackTrace" "[Ljava/lang/StackTraceElement;") ∈ jWS := jWS_in 426 rfl rfl
set_option maxRecDepth 100000 in
theorem w_386 : (Jvm.Cond.lays "java/lang/IndexOutOfBoundsException" "java/lang/Throwable" "suppressedExceptions" "Ljava/util/List;") ∈ jWS := jWS_in 427 rfl rfl
set_option maxRecDepth 100000 in
theorem w_387 : (Jvm.Cond.lays "java/lang/Throwable" "java/lang/Throwable" "suppressedExceptions" "Ljava/util/List;") ∈ jWS := jWS_in 428 rfl rfl
set_option maxRecDepth 100000 in
theorem w_388 : (Jvm.Cond.lays "java/lang/IndexOutOfBoundsException" "java/lang/Throwable" "detailMessage" "Ljava/lang/String;") ∈ jWS := jWS_in 429 rfl rfl
set_option maxRecDepth 100000 in
theorem w_389 : (Jvm.Cond.lays "java/lang/Throwable" "java/lang/Throwable" "detailMessage" "Ljava/lang/String;") ∈ jWS := jWS_in 430 rfl rfl
set_option maxRecDepth 100000 in
theorem w_390 : (Jvm.Cond.lays "java/lang/IndexOutOfBoundsException" "java/lang/Throwable" "backtrace" "Ljava/lang/Object;") ∈ jWS := jWS_in 431 rfl rfl
set_option maxRecDepth 100000 in
theorem w_391 : (Jvm.Cond.lays "java/lang/Throwable" "java/lang/Throwable" "backtrace" "Ljava/lang/Object;") ∈ jWS := jWS_in 432 rfl rfl
set_option maxRecDepth 100000 in
theorem w_392 : (Jvm.Cond.fieldLink "java/lang/Throwable" (198 : Nat) "java/lang/Throwable" "backtrace" "Ljava/lang/Object;") ∈ jWS := jWS_in 433 rfl rfl
set_option maxRecDepth 100000 in
theorem w_394 : (Jvm.Cond.instanceMethod ({ cls := "java/lang/Throwable", name := "<init>", desc := "()V" } : Jvm.MethodName)) ∈ jWS := jWS_in 435 rfl rfl
set_option maxRecDepth 100000 in
theorem w_395 : (Jvm.Cond.code ({ cls := "java/lang/Throwable", name := "<init>", desc := "()V" } : Jvm.MethodName) prog_21_method_1_code (1 : Nat) (Option.none : Option Jvm.ClassFile.FieldType)) ∈ jWS := jWS_in 436 rfl rfl
set_option maxRecDepth 100000 in
theorem w_396 : (Jvm.Cond.methodLink "java/lang/Throwable" (1 : Nat) ({ cls := "java/lang/Object", name := "<init>", desc := "()V" } : Jvm.MethodName)) ∈ jWS := jWS_in 437 rfl rfl
set_option maxRecDepth 100000 in
theorem w_397 : (Jvm.Cond.fieldLink "java/lang/Throwable" (13 : Nat) "java/lang/Throwable" "UNASSIGNED_STACK" "[Ljava/lang/StackTraceElement;") ∈ jWS := jWS_in 438 rfl rfl
set_option maxRecDepth 100000 in
theorem w_399 : (Jvm.Cond.fieldLink "java/lang/Throwable" (20 : Nat) "java/lang/Throwable" "SUPPRESSED_SENTINEL" "Ljava/util/List;") ∈ jWS := jWS_in 440 rfl rfl
set_option maxRecDepth 100000 in
theorem w_401 : (Jvm.Cond.methodLink "java/lang/Throwable" (27 : Nat) ({ cls := "java/lang/Throwable", name := "fillInStackTrace", desc := "()Ljava/lang/Throwable;" } : Jvm.MethodName)) ∈ jWS := jWS_in 442 rfl rfl
set_option maxRecDepth 100000 in
theorem w_402 : (Jvm.Cond.instanceMethod ({ cls := "java/lang/Throwable", name := "fillInStackTrace", desc := "()Ljava/lang/Throwable;" } : Jvm.MethodName)) ∈ jWS := jWS_in 443 rfl rfl
set_option maxRecDepth 100000 in
theorem w_404 : (Jvm.Cond.selects "java/lang/IllegalArgumentException" ({ cls := "java/lang/Throwable", name := "fillInStackTrace", desc := "()Ljava/lang/Throwable;" } : Jvm.MethodName) ({ cls := "java/lang/Throwable", name := "fillInStackTrace", desc := "()Ljava/lang/Throwable;" } : Jvm.MethodName)) ∈ jWS := jWS_in 445 rfl rfl
set_option maxRecDepth 100000 in
theorem w_405 : (Jvm.Cond.selects "java/lang/UnsupportedOperationException" ({ cls := "java/lang/Throwable", name := "fillInStackTrace", desc := "()Ljava/lang/Throwable;" } : Jvm.MethodName) ({ cls := "java/lang/Throwable", name := "fillInStackTrace", desc := "()Ljava/lang/Throwable;" } : Jvm.MethodName)) ∈ jWS := jWS_in 446 rfl rfl
set_option maxRecDepth 100000 in
theorem w_407 : (Jvm.Cond.methodLink "java/lang/Throwable" (202 : Nat) ({ cls := "java/lang/Throwable", name := "fillInStackTrace", desc := "(I)Ljava/lang/Throwable;" } : Jvm.MethodName)) ∈ jWS := jWS_in 448 rfl rfl
set_option maxRecDepth 100000 in
theorem w_409 : (Jvm.Cond.instanceMethod ({ cls := "java/lang/Throwable", name := "fillInStackTrace", desc := "(I)Ljava/lang/Throwable;" } : Jvm.MethodName)) ∈ jWS := jWS_in 450 rfl rfl
set_option maxRecDepth 100000 in
theorem w_410 : (Jvm.Cond.instantiable "java/lang/Throwable" (6 : Nat)) ∈ jWS := jWS_in 451 rfl rfl
set_option maxRecDepth 100000 in
theorem w_411 : (Jvm.Cond.native ({ cls := "java/lang/Throwable", name := "fillInStackTrace", desc := "(I)Ljava/lang/Throwable;" } : Jvm.MethodName)) ∈ jWS := jWS_in 452 rfl rfl
set_option maxRecDepth 100000 in
theorem w_413 : (Jvm.Cond.methodLink "WireField" (87 : Nat) ({ cls := "java/lang/IndexOutOfBoundsException", name := "<init>", desc := "(Ljava/lang/String;)V" } : Jvm.MethodName)) ∈ jWS := jWS_in 454 rfl rfl
set_option maxRecDepth 100000 in
theorem w_414 : (Jvm.Cond.instanceMethod ({ cls := "java/lang/IndexOutOfBoundsException", name := "<init>", desc := "(Ljava/lang/String;)V" } : Jvm.MethodName)) ∈ jWS := jWS_in 455 rfl rfl
set_option maxRecDepth 100000 in
theorem w_415 : (Jvm.Cond.code ({ cls := "java/lang/IndexOutOfBoundsException", name := "<init>", desc := "(Ljava/lang/String;)V" } : Jvm.MethodName) prog_13_method_2_code (2 : Nat) (Option.none : Option Jvm.ClassFile.FieldType)) ∈ jWS := jWS_in 456 rfl rfl
set_option maxRecDepth 100000 in
theorem w_416 : (Jvm.Cond.methodLink "java/lang/IndexOutOfBoundsException" (7 : Nat) ({ cls := "java/lang/RuntimeException", name := "<init>", desc := "(Ljava/lang/String;)V" } : Jvm.MethodName)) ∈ jWS := jWS_in 457 rfl rfl
set_option maxRecDepth 100000 in
theorem w_417 : (Jvm.Cond.instanceMethod ({ cls := "java/lang/RuntimeException", name := "<init>", desc := "(Ljava/lang/String;)V" } : Jvm.MethodName)) ∈ jWS := jWS_in 458 rfl rfl
set_option maxRecDepth 100000 in
theorem w_418 : (Jvm.Cond.code ({ cls := "java/lang/RuntimeException", name := "<init>", desc := "(Ljava/lang/String;)V" } : Jvm.MethodName) prog_16_method_2_code (2 : Nat) (Option.none : Option Jvm.ClassFile.FieldType)) ∈ jWS := jWS_in 459 rfl rfl
set_option maxRecDepth 100000 in
theorem w_419 : (Jvm.Cond.methodLink "java/lang/RuntimeException" (7 : Nat) ({ cls := "java/lang/Exception", name := "<init>", desc := "(Ljava/lang/String;)V" } : Jvm.MethodName)) ∈ jWS := jWS_in 460 rfl rfl
set_option maxRecDepth 100000 in
theorem w_420 : (Jvm.Cond.instanceMethod ({ cls := "java/lang/Exception", name := "<init>", desc := "(Ljava/lang/String;)V" } : Jvm.MethodName)) ∈ jWS := jWS_in 461 rfl rfl
set_option maxRecDepth 100000 in
theorem w_421 : (Jvm.Cond.code ({ cls := "java/lang/Exception", name := "<init>", desc := "(Ljava/lang/String;)V" } : Jvm.MethodName) prog_11_method_2_code (2 : Nat) (Option.none : Option Jvm.ClassFile.FieldType)) ∈ jWS := jWS_in 462 rfl rfl
set_option maxRecDepth 100000 in
theorem w_422 : (Jvm.Cond.methodLink "java/lang/Exception" (7 : Nat) ({ cls := "java/lang/Throwable", name := "<init>", desc := "(Ljava/lang/String;)V" } : Jvm.MethodName)) ∈ jWS := jWS_in 463 rfl rfl
set_option maxRecDepth 100000 in
theorem w_423 : (Jvm.Cond.instanceMethod ({ cls := "java/lang/Throwable", name := "<init>", desc := "(Ljava/lang/String;)V" } : Jvm.MethodName)) ∈ jWS := jWS_in 464 rfl rfl
set_option maxRecDepth 100000 in
theorem w_424 : (Jvm.Cond.code ({ cls := "java/lang/Throwable", name := "<init>", desc := "(Ljava/lang/String;)V" } : Jvm.MethodName) prog_21_method_2_code (2 : Nat) (Option.none : Option Jvm.ClassFile.FieldType)) ∈ jWS := jWS_in 465 rfl rfl
set_option maxRecDepth 100000 in
theorem w_426 : (Jvm.Cond.fieldLink "java/lang/Throwable" (31 : Nat) "java/lang/Throwable" "detailMessage" "Ljava/lang/String;") ∈ jWS := jWS_in 467 rfl rfl
set_option maxRecDepth 100000 in
theorem w_427 : (Jvm.Cond.fieldLink "java/lang/Throwable" (7 : Nat) "java/lang/Throwable" "cause" "Ljava/lang/Throwable;") ∈ jWS := jWS_in 468 rfl rfl
set_option maxRecDepth 100000 in
theorem w_428 : (Jvm.Cond.fieldLink "java/lang/Throwable" (17 : Nat) "java/lang/Throwable" "stackTrace" "[Ljava/lang/StackTraceElement;") ∈ jWS := jWS_in 469 rfl rfl
set_option maxRecDepth 100000 in
theorem w_429 : (Jvm.Cond.fieldLink "java/lang/Throwable" (24 : Nat) "java/lang/Throwable" "suppressedExceptions" "Ljava/util/List;") ∈ jWS := jWS_in 470 rfl rfl
set_option maxRecDepth 100000 in
theorem w_434 : (Jvm.Cond.lays "java/lang/IndexOutOfBoundsException" "java/lang/Throwable" "depth" "I") ∈ jWS := jWS_in 475 rfl rfl
set_option maxRecDepth 100000 in
theorem w_438 : (Jvm.Cond.arrayClass Jvm.ClassFile.FieldType.byte) ∈ jWS := jWS_in 479 rfl rfl
set_option maxRecDepth 100000 in
theorem w_439 : (Jvm.Cond.methodLink "WireField" (90 : Nat) ({ cls := "WireField$Text", name := "isOrders", desc := "(I)Z" } : Jvm.MethodName)) ∈ jWS := jWS_in 480 rfl rfl
set_option maxRecDepth 100000 in
theorem w_440 : (Jvm.Cond.instanceMethod ({ cls := "WireField$Text", name := "isOrders", desc := "(I)Z" } : Jvm.MethodName)) ∈ jWS := jWS_in 481 rfl rfl
set_option maxRecDepth 100000 in
theorem w_441 : (Jvm.Cond.selects "WireField$Text" ({ cls := "WireField$Text", name := "isOrders", desc := "(I)Z" } : Jvm.MethodName) ({ cls := "WireField$Text", name := "isOrders", desc := "(I)Z" } : Jvm.MethodName)) ∈ jWS := jWS_in 482 rfl rfl
set_option maxRecDepth 100000 in
theorem w_442 : (Jvm.Cond.code ({ cls := "WireField$Text", name := "isOrders", desc := "(I)Z" } : Jvm.MethodName) prog_7_method_9_code (2 : Nat) (Option.some Jvm.ClassFile.FieldType.boolean)) ∈ jWS := jWS_in 483 rfl rfl
set_option maxRecDepth 100000 in
theorem w_443 : (Jvm.Cond.methodLink "WireField$Text" (37 : Nat) ({ cls := "WireField$Text", name := "endOfOrders", desc := "(III)I" } : Jvm.MethodName)) ∈ jWS := jWS_in 484 rfl rfl
set_option maxRecDepth 100000 in
theorem w_445 : (Jvm.Cond.instanceMethod ({ cls := "WireField$Text", name := "endOfOrders", desc := "(III)I" } : Jvm.MethodName)) ∈ jWS := jWS_in 486 rfl rfl
set_option maxRecDepth 100000 in
theorem w_446 : (Jvm.Cond.code ({ cls := "WireField$Text", name := "endOfOrders", desc := "(III)I" } : Jvm.MethodName) prog_7_method_12_code (6 : Nat) (Option.some Jvm.ClassFile.FieldType.int)) ∈ jWS := jWS_in 487 rfl rfl
set_option maxRecDepth 100000 in
theorem w_447 : (Jvm.Cond.methodLink "WireField$Text" (25 : Nat) ({ cls := "WireField$Text", name := "signAt", desc := "(I)C" } : Jvm.MethodName)) ∈ jWS := jWS_in 488 rfl rfl
set_option maxRecDepth 100000 in
theorem w_448 : (Jvm.Cond.instanceMethod ({ cls := "WireField$Text", name := "signAt", desc := "(I)C" } : Jvm.MethodName)) ∈ jWS := jWS_in 489 rfl rfl
set_option maxRecDepth 100000 in
theorem w_449 : (Jvm.Cond.selects "WireField$Text" ({ cls := "WireField$Text", name := "signAt", desc := "(I)C" } : Jvm.MethodName) ({ cls := "WireField$Text", name := "signAt", desc := "(I)C" } : Jvm.MethodName)) ∈ jWS := jWS_in 490 rfl rfl
set_option maxRecDepth 100000 in
theorem w_450 : (Jvm.Cond.code ({ cls := "WireField$Text", name := "signAt", desc := "(I)C" } : Jvm.MethodName) prog_7_method_5_code (2 : Nat) (Option.some Jvm.ClassFile.FieldType.char)) ∈ jWS := jWS_in 491 rfl rfl
set_option maxRecDepth 100000 in
theorem w_451 : (Jvm.Cond.methodLink "WireField$Text" (44 : Nat) ({ cls := "WireField$Text", name := "isClosing", desc := "(C)Z" } : Jvm.MethodName)) ∈ jWS := jWS_in 492 rfl rfl
set_option maxRecDepth 100000 in
theorem w_452 : (Jvm.Cond.static ({ cls := "WireField$Text", name := "isClosing", desc := "(C)Z" } : Jvm.MethodName)) ∈ jWS := jWS_in 493 rfl rfl
set_option maxRecDepth 100000 in
theorem w_453 : (Jvm.Cond.code ({ cls := "WireField$Text", name := "isClosing", desc := "(C)Z" } : Jvm.MethodName) prog_7_method_15_code (1 : Nat) (Option.some Jvm.ClassFile.FieldType.boolean)) ∈ jWS := jWS_in 494 rfl rfl
set_option maxRecDepth 100000 in
theorem w_454 : (Jvm.Cond.methodLink "WireField$Text" (33 : Nat) ({ cls := "WireField$Text", name := "digitsAt", desc := "(I)I" } : Jvm.MethodName)) ∈ jWS := jWS_in 495 rfl rfl
set_option maxRecDepth 100000 in
theorem w_455 : (Jvm.Cond.instanceMethod ({ cls := "WireField$Text", name := "digitsAt", desc := "(I)I" } : Jvm.MethodName)) ∈ jWS := jWS_in 496 rfl rfl
set_option maxRecDepth 100000 in
theorem w_456 : (Jvm.Cond.selects "WireField$Text" ({ cls := "WireField$Text", name := "digitsAt", desc := "(I)I" } : Jvm.MethodName) ({ cls := "WireField$Text", name := "digitsAt", desc := "(I)I" } : Jvm.MethodName)) ∈ jWS := jWS_in 497 rfl rfl
set_option maxRecDepth 100000 in
theorem w_457 : (Jvm.Cond.code ({ cls := "WireField$Text", name := "digitsAt", desc := "(I)I" } : Jvm.MethodName) prog_7_method_6_code (2 : Nat) (Option.some Jvm.ClassFile.FieldType.int)) ∈ jWS := jWS_in 498 rfl rfl
set_option maxRecDepth 100000 in
theorem w_458 : (Jvm.Cond.methodLink "WireField$Text" (29 : Nat) ({ cls := "WireField$Text", name := "isDigit", desc := "(C)Z" } : Jvm.MethodName)) ∈ jWS := jWS_in 499 rfl rfl
set_option maxRecDepth 100000 in
theorem w_459 : (Jvm.Cond.static ({ cls := "WireField$Text", name := "isDigit", desc := "(C)Z" } : Jvm.MethodName)) ∈ jWS := jWS_in 500 rfl rfl
set_option maxRecDepth 100000 in
theorem w_460 : (Jvm.Cond.code ({ cls := "WireField$Text", name := "isDigit", desc := "(C)Z" } : Jvm.MethodName) prog_7_method_8_code (1 : Nat) (Option.some Jvm.ClassFile.FieldType.boolean)) ∈ jWS := jWS_in 501 rfl rfl
set_option maxRecDepth 100000 in
theorem w_461 : (Jvm.Cond.methodLink "WireField$Text" (41 : Nat) ({ cls := "WireField$Text", name := "endOfOrder", desc := "(III)I" } : Jvm.MethodName)) ∈ jWS := jWS_in 502 rfl rfl
set_option maxRecDepth 100000 in
theorem w_463 : (Jvm.Cond.instanceMethod ({ cls := "WireField$Text", name := "endOfOrder", desc := "(III)I" } : Jvm.MethodName)) ∈ jWS := jWS_in 504 rfl rfl
set_option maxRecDepth 100000 in
theorem w_464 : (Jvm.Cond.code ({ cls := "WireField$Text", name := "endOfOrder", desc := "(III)I" } : Jvm.MethodName) prog_7_method_13_code (6 : Nat) (Option.some Jvm.ClassFile.FieldType.int)) ∈ jWS := jWS_in 505 rfl rfl
set_option maxRecDepth 100000 in
theorem w_465 : (Jvm.Cond.methodLink "WireField$Text" (47 : Nat) ({ cls := "WireField$Text", name := "endOfBracket", desc := "(ICII)I" } : Jvm.MethodName)) ∈ jWS := jWS_in 506 rfl rfl
set_option maxRecDepth 100000 in
theorem w_467 : (Jvm.Cond.instanceMethod ({ cls := "WireField$Text", name := "endOfBracket", desc := "(ICII)I" } : Jvm.MethodName)) ∈ jWS := jWS_in 508 rfl rfl
set_option maxRecDepth 100000 in
theorem w_468 : (Jvm.Cond.code ({ cls := "WireField$Text", name := "endOfBracket", desc := "(ICII)I" } : Jvm.MethodName) prog_7_method_14_code (6 : Nat) (Option.some Jvm.ClassFile.FieldType.int)) ∈ jWS := jWS_in 509 rfl rfl
set_option maxRecDepth 100000 in
theorem w_470 : (Jvm.Cond.methodLink "WireField$Text" (53 : Nat) ({ cls := "java/lang/String", name := "indexOf", desc := "(I)I" } : Jvm.MethodName)) ∈ jWS := jWS_in 511 rfl rfl
set_option maxRecDepth 100000 in
theorem w_471 : (Jvm.Cond.instanceMethod ({ cls := "java/lang/String", name := "indexOf", desc := "(I)I" } : Jvm.MethodName)) ∈ jWS := jWS_in 512 rfl rfl
set_option maxRecDepth 100000 in
theorem w_472 : (Jvm.Cond.selects "java/lang/String" ({ cls := "java/lang/String", name := "indexOf", desc := "(I)I" } : Jvm.MethodName) ({ cls := "java/lang/String", name := "indexOf", desc := "(I)I" } : Jvm.MethodName)) ∈ jWS := jWS_in 513 rfl rfl
set_option maxRecDepth 100000 in
theorem w_473 : (Jvm.Cond.code ({ cls := "java/lang/String", name := "indexOf", desc := "(I)I" } : Jvm.MethodName) prog_17_method_79_code (2 : Nat) (Option.some Jvm.ClassFile.FieldType.int)) ∈ jWS := jWS_in 514 rfl rfl
set_option maxRecDepth 100000 in
theorem w_474 : (Jvm.Cond.methodLink "java/lang/String" (633 : Nat) ({ cls := "java/lang/String", name := "indexOf", desc := "(II)I" } : Jvm.MethodName)) ∈ jWS := jWS_in 515 rfl rfl
set_option maxRecDepth 100000 in
theorem w_475 : (Jvm.Cond.instanceMethod ({ cls := "java/lang/String", name := "indexOf", desc := "(II)I" } : Jvm.MethodName)) ∈ jWS := jWS_in 516 rfl rfl
set_option maxRecDepth 100000 in
theorem w_476 : (Jvm.Cond.selects "java/lang/String" ({ cls := "java/lang/String", name := "indexOf", desc := "(II)I" } : Jvm.MethodName) ({ cls := "java/lang/String", name := "indexOf", desc := "(II)I" } : Jvm.MethodName)) ∈ jWS := jWS_in 517 rfl rfl
set_option maxRecDepth 100000 in
theorem w_477 : (Jvm.Cond.code ({ cls := "java/lang/String", name := "indexOf", desc := "(II)I" } : Jvm.MethodName) prog_17_method_80_code (3 : Nat) (Option.some Jvm.ClassFile.FieldType.int)) ∈ jWS := jWS_in 518 rfl rfl
set_option maxRecDepth 100000 in
theorem w_478 : (Jvm.Cond.methodLink "java/lang/String" (492 : Nat) ({ cls := "java/lang/String", name := "isLatin1", desc := "()Z" } : Jvm.MethodName)) ∈ jWS := jWS_in 519 rfl rfl
set_option maxRecDepth 100000 in
theorem w_479 : (Jvm.Cond.instanceMethod ({ cls := "java/lang/String", name := "isLatin1", desc := "()Z" } : Jvm.MethodName)) ∈ jWS := jWS_in 520 rfl rfl
set_option maxRecDepth 100000 in
theorem w_480 : (Jvm.Cond.selects "java/lang/String" ({ cls := "java/lang/String", name := "isLatin1", desc := "()Z" } : Jvm.MethodName) ({ cls := "java/lang/String", name := "isLatin1", desc := "()Z" } : Jvm.MethodName)) ∈ jWS := jWS_in 521 rfl rfl
set_option maxRecDepth 100000 in
theorem w_481 : (Jvm.Cond.code ({ cls := "java/lang/String", name := "isLatin1", desc := "()Z" } : Jvm.MethodName) prog_17_method_154_code (1 : Nat) (Option.some Jvm.ClassFile.FieldType.boolean)) ∈ jWS := jWS_in 522 rfl rfl
set_option maxRecDepth 100000 in
theorem w_482 : (Jvm.Cond.fieldLink "java/lang/String" (38 : Nat) "java/lang/String" "COMPACT_STRINGS" "Z") ∈ jWS := jWS_in 523 rfl rfl
set_option maxRecDepth 100000 in
theorem w_484 : (Jvm.Cond.methodLink "java/lang/String" (505 : Nat) ({ cls := "java/lang/String", name := "length", desc := "()I" } : Jvm.MethodName)) ∈ jWS := jWS_in 525 rfl rfl
set_option maxRecDepth 100000 in
theorem w_485 : (Jvm.Cond.instanceMethod ({ cls := "java/lang/String", name := "length", desc := "()I" } : Jvm.MethodName)) ∈ jWS := jWS_in 526 rfl rfl
set_option maxRecDepth 100000 in
theorem w_486 : (Jvm.Cond.selects "java/lang/String" ({ cls := "java/lang/String", name := "length", desc := "()I" } : Jvm.MethodName) ({ cls := "java/lang/String", name := "length", desc := "()I" } : Jvm.MethodName)) ∈ jWS := jWS_in 527 rfl rfl
set_option maxRecDepth 100000 in
theorem w_487 : (Jvm.Cond.code ({ cls := "java/lang/String", name := "length", desc := "()I" } : Jvm.MethodName) prog_17_method_54_code (1 : Nat) (Option.some Jvm.ClassFile.FieldType.int)) ∈ jWS := jWS_in 528 rfl rfl
set_option maxRecDepth 100000 in
theorem w_488 : (Jvm.Cond.methodLink "java/lang/String" (335 : Nat) ({ cls := "java/lang/String", name := "coder", desc := "()B" } : Jvm.MethodName)) ∈ jWS := jWS_in 529 rfl rfl
set_option maxRecDepth 100000 in
theorem w_489 : (Jvm.Cond.instanceMethod ({ cls := "java/lang/String", name := "coder", desc := "()B" } : Jvm.MethodName)) ∈ jWS := jWS_in 530 rfl rfl
set_option maxRecDepth 100000 in
theorem w_490 : (Jvm.Cond.selects "java/lang/String" ({ cls := "java/lang/String", name := "coder", desc := "()B" } : Jvm.MethodName) ({ cls := "java/lang/String", name := "coder", desc := "()B" } : Jvm.MethodName)) ∈ jWS := jWS_in 531 rfl rfl
set_option maxRecDepth 100000 in
theorem w_491 : (Jvm.Cond.code ({ cls := "java/lang/String", name := "coder", desc := "()B" } : Jvm.MethodName) prog_17_method_152_code (1 : Nat) (Option.some Jvm.ClassFile.FieldType.byte)) ∈ jWS := jWS_in 532 rfl rfl
set_option maxRecDepth 100000 in
theorem w_492 : (Jvm.Cond.methodLink "java/lang/String" (637 : Nat) ({ cls := "java/lang/StringLatin1", name := "indexOf", desc := "([BIII)I" } : Jvm.MethodName)) ∈ jWS := jWS_in 533 rfl rfl
set_option maxRecDepth 100000 in
theorem w_493 : (Jvm.Cond.static ({ cls := "java/lang/StringLatin1", name := "indexOf", desc := "([BIII)I" } : Jvm.MethodName)) ∈ jWS := jWS_in 534 rfl rfl
set_option maxRecDepth 100000 in
theorem w_494 : (Jvm.Cond.code ({ cls := "java/lang/StringLatin1", name := "indexOf", desc := "([BIII)I" } : Jvm.MethodName) prog_18_method_22_code (4 : Nat) (Option.some Jvm.ClassFile.FieldType.int)) ∈ jWS := jWS_in 535 rfl rfl
set_option maxRecDepth 100000 in
theorem w_495 : (Jvm.Cond.methodLink "java/lang/StringLatin1" (88 : Nat) ({ cls := "java/lang/StringLatin1", name := "canEncode", desc := "(I)Z" } : Jvm.MethodName)) ∈ jWS := jWS_in 536 rfl rfl
set_option maxRecDepth 100000 in
theorem w_496 : (Jvm.Cond.static ({ cls := "java/lang/StringLatin1", name := "canEncode", desc := "(I)Z" } : Jvm.MethodName)) ∈ jWS := jWS_in 537 rfl rfl
set_option maxRecDepth 100000 in
theorem w_497 : (Jvm.Cond.code ({ cls := "java/lang/StringLatin1", name := "canEncode", desc := "(I)Z" } : Jvm.MethodName) prog_18_method_4_code (1 : Nat) (Option.some Jvm.ClassFile.FieldType.boolean)) ∈ jWS := jWS_in 538 rfl rfl
set_option maxRecDepth 100000 in
theorem w_498 : (Jvm.Cond.methodLink "java/lang/StringLatin1" (92 : Nat) ({ cls := "java/lang/Math", name := "max", desc := "(II)I" } : Jvm.MethodName)) ∈ jWS := jWS_in 539 rfl rfl
set_option maxRecDepth 100000 in
theorem w_499 : (Jvm.Cond.methodLink "java/lang/StringLatin1" (38 : Nat) ({ cls := "java/lang/Math", name := "min", desc := "(II)I" } : Jvm.MethodName)) ∈ jWS := jWS_in 540 rfl rfl
set_option maxRecDepth 100000 in
theorem w_500 : (Jvm.Cond.methodLink "java/lang/StringLatin1" (95 : Nat) ({ cls := "java/lang/StringLatin1", name := "indexOfChar", desc := "([BIII)I" } : Jvm.MethodName)) ∈ jWS := jWS_in 541 rfl rfl
set_option maxRecDepth 100000 in
theorem w_501 : (Jvm.Cond.static ({ cls := "java/lang/StringLatin1", name := "indexOfChar", desc := "([BIII)I" } : Jvm.MethodName)) ∈ jWS := jWS_in 542 rfl rfl
set_option maxRecDepth 100000 in
theorem w_502 : (Jvm.Cond.code ({ cls := "java/lang/StringLatin1", name := "indexOfChar", desc := "([BIII)I" } : Jvm.MethodName) prog_18_method_23_code (6 : Nat) (Option.some Jvm.ClassFile.FieldType.int)) ∈ jWS := jWS_in 543 rfl rfl
set_option maxRecDepth 100000 in
theorem w_503 : (Jvm.Cond.methodLink "java/lang/String" (640 : Nat) ({ cls := "java/lang/StringUTF16", name := "indexOf", desc := "([BIII)I" } : Jvm.MethodName)) ∈ jWS := jWS_in 544 rfl rfl
set_option maxRecDepth 100000 in
theorem w_504 : (Jvm.Cond.static ({ cls := "java/lang/StringUTF16", name := "indexOf", desc := "([BIII)I" } : Jvm.MethodName)) ∈ jWS := jWS_in 545 rfl rfl
set_option maxRecDepth 100000 in
theorem w_505 : (Jvm.Cond.code ({ cls := "java/lang/StringUTF16", name := "indexOf", desc := "([BIII)I" } : Jvm.MethodName) prog_19_method_40_code (4 : Nat) (Option.some Jvm.ClassFile.FieldType.int)) ∈ jWS := jWS_in 546 rfl rfl
set_option maxRecDepth 100000 in
theorem w_506 : (Jvm.Cond.methodLink "java/lang/StringUTF16" (224 : Nat) ({ cls := "java/lang/Math", name := "max", desc := "(II)I" } : Jvm.MethodName)) ∈ jWS := jWS_in 547 rfl rfl
set_option maxRecDepth 100000 in
theorem w_507 : (Jvm.Cond.methodLink "java/lang/StringUTF16" (183 : Nat) ({ cls := "java/lang/Math", name := "min", desc := "(II)I" } : Jvm.MethodName)) ∈ jWS := jWS_in 548 rfl rfl
set_option maxRecDepth 100000 in
theorem w_508 : (Jvm.Cond.constant "java/lang/StringUTF16" (227 : Nat) (65536 : Int32)) ∈ jWS := jWS_in 549 rfl rfl
set_option maxRecDepth 100000 in
theorem w_509 : (Jvm.Cond.methodLink "java/lang/StringUTF16" (228 : Nat) ({ cls := "java/lang/StringUTF16", name := "indexOfChar", desc := "([BIII)I" } : Jvm.MethodName)) ∈ jWS := jWS_in 550 rfl rfl
set_option maxRecDepth 100000 in
theorem w_510 : (Jvm.Cond.static ({ cls := "java/lang/StringUTF16", name := "indexOfChar", desc := "([BIII)I" } : Jvm.MethodName)) ∈ jWS := jWS_in 551 rfl rfl
set_option maxRecDepth 100000 in
theorem w_511 : (Jvm.Cond.code ({ cls := "java/lang/StringUTF16", name := "indexOfChar", desc := "([BIII)I" } : Jvm.MethodName) prog_19_method_47_code (4 : Nat) (Option.some Jvm.ClassFile.FieldType.int)) ∈ jWS := jWS_in 552 rfl rfl
set_option maxRecDepth 100000 in
theorem w_512 : (Jvm.Cond.methodLink "java/lang/StringUTF16" (96 : Nat) ({ cls := "java/lang/StringUTF16", name := "checkBoundsBeginEnd", desc := "(II[B)V" } : Jvm.MethodName)) ∈ jWS := jWS_in 553 rfl rfl
set_option maxRecDepth 100000 in
theorem w_513 : (Jvm.Cond.static ({ cls := "java/lang/StringUTF16", name := "checkBoundsBeginEnd", desc := "(II[B)V" } : Jvm.MethodName)) ∈ jWS := jWS_in 554 rfl rfl
set_option maxRecDepth 100000 in
theorem w_514 : (Jvm.Cond.code ({ cls := "java/lang/StringUTF16", name := "checkBoundsBeginEnd", desc := "(II[B)V" } : Jvm.MethodName) prog_19_method_93_code (3 : Nat) (Option.none : Option Jvm.ClassFile.FieldType)) ∈ jWS := jWS_in 555 rfl rfl
set_option maxRecDepth 100000 in
theorem w_515 : (Jvm.Cond.methodLink "java/lang/StringUTF16" (48 : Nat) ({ cls := "java/lang/StringUTF16", name := "length", desc := "([B)I" } : Jvm.MethodName)) ∈ jWS := jWS_in 556 rfl rfl
set_option maxRecDepth 100000 in
theorem w_516 : (Jvm.Cond.static ({ cls := "java/lang/StringUTF16", name := "length", desc := "([B)I" } : Jvm.MethodName)) ∈ jWS := jWS_in 557 rfl rfl
set_option maxRecDepth 100000 in
theorem w_517 : (Jvm.Cond.code ({ cls := "java/lang/StringUTF16", name := "length", desc := "([B)I" } : Jvm.MethodName) prog_19_method_6_code (1 : Nat) (Option.some Jvm.ClassFile.FieldType.int)) ∈ jWS := jWS_in 558 rfl rfl
set_option maxRecDepth 100000 in
theorem w_518 : (Jvm.Cond.methodLink "java/lang/StringUTF16" (241 : Nat) ({ cls := "java/lang/String", name := "checkBoundsBeginEnd", desc := "(III)V" } : Jvm.MethodName)) ∈ jWS := jWS_in 559 rfl rfl
set_option maxRecDepth 100000 in
theorem w_519 : (Jvm.Cond.static ({ cls := "java/lang/String", name := "checkBoundsBeginEnd", desc := "(III)V" } : Jvm.MethodName)) ∈ jWS := jWS_in 560 rfl rfl
set_option maxRecDepth 100000 in
theorem w_520 : (Jvm.Cond.code ({ cls := "java/lang/String", name := "checkBoundsBeginEnd", desc := "(III)V" } : Jvm.MethodName) prog_17_method_158_code (3 : Nat) (Option.none : Option Jvm.ClassFile.FieldType)) ∈ jWS := jWS_in 561 rfl rfl
set_option maxRecDepth 100000 in
theorem w_521 : (Jvm.Cond.fieldLink "java/lang/String" (1053 : Nat) "jdk/internal/util/Preconditions" "SIOOBE_FORMATTER" "Ljava/util/function/BiFunction;") ∈ jWS := jWS_in 562 rfl rfl
set_option maxRecDepth 100000 in
theorem w_523 : (Jvm.Cond.methodLink "java/lang/String" (1062 : Nat) ({ cls := "jdk/internal/util/Preconditions", name := "checkFromToIndex", desc := "(IIILjava/util/function/BiFunction;)I" } : Jvm.MethodName)) ∈ jWS := jWS_in 564 rfl rfl
set_option maxRecDepth 100000 in
theorem w_524 : (Jvm.Cond.static ({ cls := "jdk/internal/util/Preconditions", name := "checkFromToIndex", desc := "(IIILjava/util/function/BiFunction;)I" } : Jvm.MethodName)) ∈ jWS := jWS_in 565 rfl rfl
set_option maxRecDepth 100000 in
theorem w_525 : (Jvm.Cond.code ({ cls := "jdk/internal/util/Preconditions", name := "checkFromToIndex", desc := "(IIILjava/util/function/BiFunction;)I" } : Jvm.MethodName) prog_23_method_12_code (4 : Nat) (Option.some Jvm.ClassFile.FieldType.int)) ∈ jWS := jWS_in 566 rfl rfl
set_option maxRecDepth 100000 in
theorem w_526 : (Jvm.Cond.methodLink "java/lang/StringUTF16" (244 : Nat) ({ cls := "java/lang/StringUTF16", name := "indexOfCharUnsafe", desc := "([BIII)I" } : Jvm.MethodName)) ∈ jWS := jWS_in 567 rfl rfl
set_option maxRecDepth 100000 in
theorem w_527 : (Jvm.Cond.static ({ cls := "java/lang/StringUTF16", name := "indexOfCharUnsafe", desc := "([BIII)I" } : Jvm.MethodName)) ∈ jWS := jWS_in 568 rfl rfl
set_option maxRecDepth 100000 in
theorem w_528 : (Jvm.Cond.code ({ cls := "java/lang/StringUTF16", name := "indexOfCharUnsafe", desc := "([BIII)I" } : Jvm.MethodName) prog_19_method_48_code (5 : Nat) (Option.some Jvm.ClassFile.FieldType.int)) ∈ jWS := jWS_in 569 rfl rfl
set_option maxRecDepth 100000 in
theorem w_529 : (Jvm.Cond.methodLink "java/lang/StringUTF16" (71 : Nat) ({ cls := "java/lang/StringUTF16", name := "getChar", desc := "([BI)C" } : Jvm.MethodName)) ∈ jWS := jWS_in 570 rfl rfl
set_option maxRecDepth 100000 in
theorem w_530 : (Jvm.Cond.static ({ cls := "java/lang/StringUTF16", name := "getChar", desc := "([BI)C" } : Jvm.MethodName)) ∈ jWS := jWS_in 571 rfl rfl
set_option maxRecDepth 100000 in
theorem w_531 : (Jvm.Cond.code ({ cls := "java/lang/StringUTF16", name := "getChar", desc := "([BI)C" } : Jvm.MethodName) prog_19_method_5_code (2 : Nat) (Option.some Jvm.ClassFile.FieldType.char)) ∈ jWS := jWS_in 572 rfl rfl
set_option maxRecDepth 100000 in
theorem w_532 : (Jvm.Cond.fieldLink "java/lang/StringUTF16" (44 : Nat) "java/lang/StringUTF16" "$assertionsDisabled" "Z") ∈ jWS := jWS_in 573 rfl rfl
set_option maxRecDepth 100000 in
theorem w_534 : (Jvm.Cond.fieldLink "java/lang/StringUTF16" (59 : Nat) "java/lang/StringUTF16" "HI_BYTE_SHIFT" "I") ∈ jWS := jWS_in 575 rfl rfl
set_option maxRecDepth 100000 in
theorem w_536 : (Jvm.Cond.fieldLink "java/lang/StringUTF16" (63 : Nat) "java/lang/StringUTF16" "LO_BYTE_SHIFT" "I") ∈ jWS := jWS_in 577 rfl rfl
set_option maxRecDepth 100000 in
theorem w_538 : (Jvm.Cond.methodLink "java/lang/StringUTF16" (232 : Nat) ({ cls := "java/lang/StringUTF16", name := "indexOfSupplementary", desc := "([BIII)I" } : Jvm.MethodName)) ∈ jWS := jWS_in 579 rfl rfl
set_option maxRecDepth 100000 in
theorem w_539 : (Jvm.Cond.static ({ cls := "java/lang/StringUTF16", name := "indexOfSupplementary", desc := "([BIII)I" } : Jvm.MethodName)) ∈ jWS := jWS_in 580 rfl rfl
set_option maxRecDepth 100000 in
theorem w_540 : (Jvm.Cond.code ({ cls := "java/lang/StringUTF16", name := "indexOfSupplementary", desc := "([BIII)I" } : Jvm.MethodName) prog_19_method_49_code (7 : Nat) (Option.some Jvm.ClassFile.FieldType.int)) ∈ jWS := jWS_in 581 rfl rfl
set_option maxRecDepth 100000 in
theorem w_541 : (Jvm.Cond.methodLink "java/lang/StringUTF16" (164 : Nat) ({ cls := "java/lang/Character", name := "isValidCodePoint", desc := "(I)Z" } : Jvm.MethodName)) ∈ jWS := jWS_in 582 rfl rfl
set_option maxRecDepth 100000 in
theorem w_542 : (Jvm.Cond.static ({ cls := "java/lang/Character", name := "isValidCodePoint", desc := "(I)Z" } : Jvm.MethodName)) ∈ jWS := jWS_in 583 rfl rfl
set_option maxRecDepth 100000 in
theorem w_543 : (Jvm.Cond.code ({ cls := "java/lang/Character", name := "isValidCodePoint", desc := "(I)Z" } : Jvm.MethodName) prog_10_method_11_code (2 : Nat) (Option.some Jvm.ClassFile.FieldType.boolean)) ∈ jWS := jWS_in 584 rfl rfl
set_option maxRecDepth 100000 in
theorem w_544 : (Jvm.Cond.methodLink "java/lang/StringUTF16" (157 : Nat) ({ cls := "java/lang/Character", name := "highSurrogate", desc := "(I)C" } : Jvm.MethodName)) ∈ jWS := jWS_in 585 rfl rfl
set_option maxRecDepth 100000 in
theorem w_545 : (Jvm.Cond.static ({ cls := "java/lang/Character", name := "highSurrogate", desc := "(I)C" } : Jvm.MethodName)) ∈ jWS := jWS_in 586 rfl rfl
set_option maxRecDepth 100000 in
theorem w_546 : (Jvm.Cond.code ({ cls := "java/lang/Character", name := "highSurrogate", desc := "(I)C" } : Jvm.MethodName) prog_10_method_28_code (1 : Nat) (Option.some Jvm.ClassFile.FieldType.char)) ∈ jWS := jWS_in 587 rfl rfl
set_option maxRecDepth 100000 in
theorem w_547 : (Jvm.Cond.constant "java/lang/Character" (110 : Nat) (55232 : Int32)) ∈ jWS := jWS_in 588 rfl rfl
set_option maxRecDepth 100000 in
theorem w_548 : (Jvm.Cond.methodLink "java/lang/StringUTF16" (161 : Nat) ({ cls := "java/lang/Character", name := "lowSurrogate", desc := "(I)C" } : Jvm.MethodName)) ∈ jWS := jWS_in 589 rfl rfl
set_option maxRecDepth 100000 in
theorem w_549 : (Jvm.Cond.static ({ cls := "java/lang/Character", name := "lowSurrogate", desc := "(I)C" } : Jvm.MethodName)) ∈ jWS := jWS_in 590 rfl rfl
set_option maxRecDepth 100000 in
theorem w_550 : (Jvm.Cond.code ({ cls := "java/lang/Character", name := "lowSurrogate", desc := "(I)C" } : Jvm.MethodName) prog_10_method_29_code (1 : Nat) (Option.some Jvm.ClassFile.FieldType.char)) ∈ jWS := jWS_in 591 rfl rfl
set_option maxRecDepth 100000 in
theorem w_551 : (Jvm.Cond.constant "java/lang/Character" (76 : Nat) (56320 : Int32)) ∈ jWS := jWS_in 592 rfl rfl
set_option maxRecDepth 100000 in
theorem w_552 : (Jvm.Cond.methodLink "WireField" (94 : Nat) ({ cls := "WireField", name := "macrosOfLineAreThere", desc := "()Z" } : Jvm.MethodName)) ∈ jWS := jWS_in 593 rfl rfl
set_option maxRecDepth 100000 in
theorem w_554 : (Jvm.Cond.instanceMethod ({ cls := "WireField", name := "macrosOfLineAreThere", desc := "()Z" } : Jvm.MethodName)) ∈ jWS := jWS_in 595 rfl rfl
set_option maxRecDepth 100000 in
theorem w_555 : (Jvm.Cond.code ({ cls := "WireField", name := "macrosOfLineAreThere", desc := "()Z" } : Jvm.MethodName) prog_1_method_26_code (3 : Nat) (Option.some Jvm.ClassFile.FieldType.boolean)) ∈ jWS := jWS_in 596 rfl rfl
set_option maxRecDepth 100000 in
theorem w_556 : (Jvm.Cond.methodLink "WireField" (229 : Nat) ({ cls := "WireField$Text", name := "heldMacros", desc := "()I" } : Jvm.MethodName)) ∈ jWS := jWS_in 597 rfl rfl
set_option maxRecDepth 100000 in
theorem w_557 : (Jvm.Cond.instanceMethod ({ cls := "WireField$Text", name := "heldMacros", desc := "()I" } : Jvm.MethodName)) ∈ jWS := jWS_in 598 rfl rfl
set_option maxRecDepth 100000 in
theorem w_558 : (Jvm.Cond.selects "WireField$Text" ({ cls := "WireField$Text", name := "heldMacros", desc := "()I" } : Jvm.MethodName) ({ cls := "WireField$Text", name := "heldMacros", desc := "()I" } : Jvm.MethodName)) ∈ jWS := jWS_in 599 rfl rfl
set_option maxRecDepth 100000 in
theorem w_559 : (Jvm.Cond.code ({ cls := "WireField$Text", name := "heldMacros", desc := "()I" } : Jvm.MethodName) prog_7_method_11_code (4 : Nat) (Option.some Jvm.ClassFile.FieldType.int)) ∈ jWS := jWS_in 600 rfl rfl
set_option maxRecDepth 100000 in
theorem w_560 : (Jvm.Cond.classLink "WireField" (98 : Nat) "java/lang/IllegalArgumentException") ∈ jWS := jWS_in 601 rfl rfl
set_option maxRecDepth 100000 in
theorem w_561 : (Jvm.Cond.instantiable "java/lang/IllegalArgumentException" (6 : Nat)) ∈ jWS := jWS_in 602 rfl rfl
set_option maxRecDepth 100000 in
theorem w_563 : (Jvm.Cond.selects "java/lang/IllegalArgumentException" ({ cls := "java/lang/Throwable", name := "fillInStackTrace", desc := "(I)Ljava/lang/Throwable;" } : Jvm.MethodName) ({ cls := "java/lang/Throwable", name := "fillInStackTrace", desc := "(I)Ljava/lang/Throwable;" } : Jvm.MethodName)) ∈ jWS := jWS_in 604 rfl rfl
set_option maxRecDepth 100000 in
theorem w_564 : (Jvm.Cond.lays "java/lang/IllegalArgumentException" "java/lang/Throwable" "cause" "Ljava/lang/Throwable;") ∈ jWS := jWS_in 605 rfl rfl
set_option maxRecDepth 100000 in
theorem w_565 : (Jvm.Cond.lays "java/lang/IllegalArgumentException" "java/lang/Throwable" "stackTrace" "[Ljava/lang/StackTraceElement;") ∈ jWS := jWS_in 606 rfl rfl
set_option maxRecDepth 100000 in
theorem w_566 : (Jvm.Cond.lays "java/lang/IllegalArgumentException" "java/lang/Throwable" "suppressedExceptions" "Ljava/util/List;") ∈ jWS := jWS_in 607 rfl rfl
set_option maxRecDepth 100000 in
theorem w_567 : (Jvm.Cond.lays "java/lang/IllegalArgumentException" "java/lang/Throwable" "detailMessage" "Ljava/lang/String;") ∈ jWS := jWS_in 608 rfl rfl
set_option maxRecDepth 100000 in
theorem w_568 : (Jvm.Cond.lays "java/lang/IllegalArgumentException" "java/lang/Throwable" "backtrace" "Ljava/lang/Object;") ∈ jWS := jWS_in 609 rfl rfl
set_option maxRecDepth 100000 in
theorem w_570 : (Jvm.Cond.methodLink "WireField" (102 : Nat) ({ cls := "java/lang/IllegalArgumentException", name := "<init>", desc := "(Ljava/lang/String;)V" } : Jvm.MethodName)) ∈ jWS := jWS_in 611 rfl rfl
set_option maxRecDepth 100000 in
theorem w_571 : (Jvm.Cond.instanceMethod ({ cls := "java/lang/IllegalArgumentException", name := "<init>", desc := "(Ljava/lang/String;)V" } : Jvm.MethodName)) ∈ jWS := jWS_in 612 rfl rfl
set_option maxRecDepth 100000 in
theorem w_572 : (Jvm.Cond.code ({ cls := "java/lang/IllegalArgumentException", name := "<init>", desc := "(Ljava/lang/String;)V" } : Jvm.MethodName) prog_12_method_2_code (2 : Nat) (Option.none : Option Jvm.ClassFile.FieldType)) ∈ jWS := jWS_in 613 rfl rfl
set_option maxRecDepth 100000 in
theorem w_573 : (Jvm.Cond.methodLink "java/lang/IllegalArgumentException" (7 : Nat) ({ cls := "java/lang/RuntimeException", name := "<init>", desc := "(Ljava/lang/String;)V" } : Jvm.MethodName)) ∈ jWS := jWS_in 614 rfl rfl
set_option maxRecDepth 100000 in
theorem w_574 : (Jvm.Cond.lays "java/lang/IllegalArgumentException" "java/lang/Throwable" "depth" "I") ∈ jWS := jWS_in 615 rfl rfl
set_option maxRecDepth 100000 in
theorem w_576 : (Jvm.Cond.methodLink "WireField" (103 : Nat) ({ cls := "WireField$Pen", name := "begin", desc := "(LWireField$Grid;III)V" } : Jvm.MethodName)) ∈ jWS := jWS_in 617 rfl rfl
set_option maxRecDepth 100000 in
theorem w_577 : (Jvm.Cond.instanceMethod ({ cls := "WireField$Pen", name := "begin", desc := "(LWireField$Grid;III)V" } : Jvm.MethodName)) ∈ jWS := jWS_in 618 rfl rfl
set_option maxRecDepth 100000 in
theorem w_578 : (Jvm.Cond.selects "WireField$Pen" ({ cls := "WireField$Pen", name := "begin", desc := "(LWireField$Grid;III)V" } : Jvm.MethodName) ({ cls := "WireField$Pen", name := "begin", desc := "(LWireField$Grid;III)V" } : Jvm.MethodName)) ∈ jWS := jWS_in 619 rfl rfl
set_option maxRecDepth 100000 in
theorem w_579 : (Jvm.Cond.code ({ cls := "WireField$Pen", name := "begin", desc := "(LWireField$Grid;III)V" } : Jvm.MethodName) prog_4_method_2_code (5 : Nat) (Option.none : Option Jvm.ClassFile.FieldType)) ∈ jWS := jWS_in 620 rfl rfl
set_option maxRecDepth 100000 in
theorem w_580 : (Jvm.Cond.methodLink "WireField$Pen" (35 : Nat) ({ cls := "WireField$Grid", name := "takeFrom", desc := "(LWireField$Grid;)V" } : Jvm.MethodName)) ∈ jWS := jWS_in 621 rfl rfl
set_option maxRecDepth 100000 in
theorem w_581 : (Jvm.Cond.methodLink "WireField" (110 : Nat) ({ cls := "WireField", name := "perform", desc := "(LWireField$Text;III)Z" } : Jvm.MethodName)) ∈ jWS := jWS_in 622 rfl rfl
set_option maxRecDepth 100000 in
theorem w_583 : (Jvm.Cond.instanceMethod ({ cls := "WireField", name := "perform", desc := "(LWireField$Text;III)Z" } : Jvm.MethodName)) ∈ jWS := jWS_in 624 rfl rfl
set_option maxRecDepth 100000 in
theorem w_584 : (Jvm.Cond.code ({ cls := "WireField", name := "perform", desc := "(LWireField$Text;III)Z" } : Jvm.MethodName) prog_1_method_27_code (11 : Nat) (Option.some Jvm.ClassFile.FieldType.boolean)) ∈ jWS := jWS_in 625 rfl rfl
set_option maxRecDepth 100000 in
theorem w_585 : (Jvm.Cond.methodLink "WireField" (233 : Nat) ({ cls := "WireField$Text", name := "timesAt", desc := "(I)I" } : Jvm.MethodName)) ∈ jWS := jWS_in 626 rfl rfl
set_option maxRecDepth 100000 in
theorem w_586 : (Jvm.Cond.instanceMethod ({ cls := "WireField$Text", name := "timesAt", desc := "(I)I" } : Jvm.MethodName)) ∈ jWS := jWS_in 627 rfl rfl
set_option maxRecDepth 100000 in
theorem w_587 : (Jvm.Cond.selects "WireField$Text" ({ cls := "WireField$Text", name := "timesAt", desc := "(I)I" } : Jvm.MethodName) ({ cls := "WireField$Text", name := "timesAt", desc := "(I)I" } : Jvm.MethodName)) ∈ jWS := jWS_in 628 rfl rfl
set_option maxRecDepth 100000 in
theorem w_588 : (Jvm.Cond.code ({ cls := "WireField$Text", name := "timesAt", desc := "(I)I" } : Jvm.MethodName) prog_7_method_7_code (2 : Nat) (Option.some Jvm.ClassFile.FieldType.int)) ∈ jWS := jWS_in 629 rfl rfl
set_option maxRecDepth 100000 in
theorem w_589 : (Jvm.Cond.methodLink "WireField" (236 : Nat) ({ cls := "WireField$Text", name := "digitsAt", desc := "(I)I" } : Jvm.MethodName)) ∈ jWS := jWS_in 630 rfl rfl
set_option maxRecDepth 100000 in
theorem w_590 : (Jvm.Cond.methodLink "WireField" (239 : Nat) ({ cls := "WireField$Text", name := "behindOrder", desc := "(I)I" } : Jvm.MethodName)) ∈ jWS := jWS_in 631 rfl rfl
set_option maxRecDepth 100000 in
theorem w_591 : (Jvm.Cond.instanceMethod ({ cls := "WireField$Text", name := "behindOrder", desc := "(I)I" } : Jvm.MethodName)) ∈ jWS := jWS_in 632 rfl rfl
set_option maxRecDepth 100000 in
theorem w_592 : (Jvm.Cond.selects "WireField$Text" ({ cls := "WireField$Text", name := "behindOrder", desc := "(I)I" } : Jvm.MethodName) ({ cls := "WireField$Text", name := "behindOrder", desc := "(I)I" } : Jvm.MethodName)) ∈ jWS := jWS_in 633 rfl rfl
set_option maxRecDepth 100000 in
theorem w_593 : (Jvm.Cond.code ({ cls := "WireField$Text", name := "behindOrder", desc := "(I)I" } : Jvm.MethodName) prog_7_method_10_code (2 : Nat) (Option.some Jvm.ClassFile.FieldType.int)) ∈ jWS := jWS_in 634 rfl rfl
set_option maxRecDepth 100000 in
theorem w_594 : (Jvm.Cond.methodLink "WireField" (242 : Nat) ({ cls := "WireField", name := "performOrder", desc := "(LWireField$Text;III)Z" } : Jvm.MethodName)) ∈ jWS := jWS_in 635 rfl rfl
set_option maxRecDepth 100000 in
theorem w_596 : (Jvm.Cond.instanceMethod ({ cls := "WireField", name := "performOrder", desc := "(LWireField$Text;III)Z" } : Jvm.MethodName)) ∈ jWS := jWS_in 637 rfl rfl
set_option maxRecDepth 100000 in
theorem w_597 : (Jvm.Cond.code ({ cls := "WireField", name := "performOrder", desc := "(LWireField$Text;III)Z" } : Jvm.MethodName) prog_1_method_28_code (5 : Nat) (Option.some Jvm.ClassFile.FieldType.boolean)) ∈ jWS := jWS_in 638 rfl rfl
set_option maxRecDepth 100000 in
theorem w_598 : (Jvm.Cond.methodLink "WireField" (245 : Nat) ({ cls := "WireField$Pen", name := "countOrder", desc := "()Z" } : Jvm.MethodName)) ∈ jWS := jWS_in 639 rfl rfl
set_option maxRecDepth 100000 in
theorem w_599 : (Jvm.Cond.instanceMethod ({ cls := "WireField$Pen", name := "countOrder", desc := "()Z" } : Jvm.MethodName)) ∈ jWS := jWS_in 640 rfl rfl
set_option maxRecDepth 100000 in
theorem w_600 : (Jvm.Cond.selects "WireField$Pen" ({ cls := "WireField$Pen", name := "countOrder", desc := "()Z" } : Jvm.MethodName) ({ cls := "WireField$Pen", name := "countOrder", desc := "()Z" } : Jvm.MethodName)) ∈ jWS := jWS_in 641 rfl rfl
set_option maxRecDepth 100000 in
theorem w_601 : (Jvm.Cond.code ({ cls := "WireField$Pen", name := "countOrder", desc := "()Z" } : Jvm.MethodName) prog_4_method_3_code (1 : Nat) (Option.some Jvm.ClassFile.FieldType.boolean)) ∈ jWS := jWS_in 642 rfl rfl
set_option maxRecDepth 100000 in
theorem w_602 : (Jvm.Cond.methodLink "WireField" (248 : Nat) ({ cls := "WireField$Text", name := "signAt", desc := "(I)C" } : Jvm.MethodName)) ∈ jWS := jWS_in 643 rfl rfl
set_option maxRecDepth 100000 in
theorem w_603 : (Jvm.Cond.methodLink "WireField" (252 : Nat) ({ cls := "WireField", name := "performBranch", desc := "(LWireField$Text;III)Z" } : Jvm.MethodName)) ∈ jWS := jWS_in 644 rfl rfl
set_option maxRecDepth 100000 in
theorem w_605 : (Jvm.Cond.instanceMethod ({ cls := "WireField", name := "performBranch", desc := "(LWireField$Text;III)Z" } : Jvm.MethodName)) ∈ jWS := jWS_in 646 rfl rfl
set_option maxRecDepth 100000 in
theorem w_606 : (Jvm.Cond.code ({ cls := "WireField", name := "performBranch", desc := "(LWireField$Text;III)Z" } : Jvm.MethodName) prog_1_method_29_code (10 : Nat) (Option.some Jvm.ClassFile.FieldType.boolean)) ∈ jWS := jWS_in 647 rfl rfl
set_option maxRecDepth 100000 in
theorem w_607 : (Jvm.Cond.methodLink "WireField" (255 : Nat) ({ cls := "WireField", name := "performMacro", desc := "(II)Z" } : Jvm.MethodName)) ∈ jWS := jWS_in 648 rfl rfl
set_option maxRecDepth 100000 in
theorem w_609 : (Jvm.Cond.instanceMethod ({ cls := "WireField", name := "performMacro", desc := "(II)Z" } : Jvm.MethodName)) ∈ jWS := jWS_in 650 rfl rfl
set_option maxRecDepth 100000 in
theorem w_610 : (Jvm.Cond.code ({ cls := "WireField", name := "performMacro", desc := "(II)Z" } : Jvm.MethodName) prog_1_method_30_code (3 : Nat) (Option.some Jvm.ClassFile.FieldType.boolean)) ∈ jWS := jWS_in 651 rfl rfl
set_option maxRecDepth 100000 in
theorem w_611 : (Jvm.Cond.methodLink "WireField" (258 : Nat) ({ cls := "WireField$Pen", name := "obey", desc := "(C)Z" } : Jvm.MethodName)) ∈ jWS := jWS_in 652 rfl rfl
set_option maxRecDepth 100000 in
theorem w_612 : (Jvm.Cond.instanceMethod ({ cls := "WireField$Pen", name := "obey", desc := "(C)Z" } : Jvm.MethodName)) ∈ jWS := jWS_in 653 rfl rfl
set_option maxRecDepth 100000 in
theorem w_613 : (Jvm.Cond.selects "WireField$Pen" ({ cls := "WireField$Pen", name := "obey", desc := "(C)Z" } : Jvm.MethodName) ({ cls := "WireField$Pen", name := "obey", desc := "(C)Z" } : Jvm.MethodName)) ∈ jWS := jWS_in 654 rfl rfl
set_option maxRecDepth 100000 in
theorem w_614 : (Jvm.Cond.code ({ cls := "WireField$Pen", name := "obey", desc := "(C)Z" } : Jvm.MethodName) prog_4_method_4_code (2 : Nat) (Option.some Jvm.ClassFile.FieldType.boolean)) ∈ jWS := jWS_in 655 rfl rfl
set_option maxRecDepth 100000 in
theorem w_615 : (Jvm.Cond.methodLink "WireField$Pen" (39 : Nat) ({ cls := "WireField$Pen", name := "drawForward", desc := "()Z" } : Jvm.MethodName)) ∈ jWS := jWS_in 656 rfl rfl
set_option maxRecDepth 100000 in
theorem w_617 : (Jvm.Cond.instanceMethod ({ cls := "WireField$Pen", name := "drawForward", desc := "()Z" } : Jvm.MethodName)) ∈ jWS := jWS_in 658 rfl rfl
set_option maxRecDepth 100000 in
theorem w_618 : (Jvm.Cond.code ({ cls := "WireField$Pen", name := "drawForward", desc := "()Z" } : Jvm.MethodName) prog_4_method_10_code (1 : Nat) (Option.some Jvm.ClassFile.FieldType.boolean)) ∈ jWS := jWS_in 659 rfl rfl
set_option maxRecDepth 100000 in
theorem w_619 : (Jvm.Cond.methodLink "WireField$Pen" (43 : Nat) ({ cls := "WireField$Pen", name := "move", desc := "(I)Z" } : Jvm.MethodName)) ∈ jWS := jWS_in 660 rfl rfl
set_option maxRecDepth 100000 in
theorem w_621 : (Jvm.Cond.instanceMethod ({ cls := "WireField$Pen", name := "move", desc := "(I)Z" } : Jvm.MethodName)) ∈ jWS := jWS_in 662 rfl rfl
set_option maxRecDepth 100000 in
theorem w_622 : (Jvm.Cond.code ({ cls := "WireField$Pen", name := "move", desc := "(I)Z" } : Jvm.MethodName) prog_4_method_9_code (4 : Nat) (Option.some Jvm.ClassFile.FieldType.boolean)) ∈ jWS := jWS_in 663 rfl rfl
set_option maxRecDepth 100000 in
theorem w_623 : (Jvm.Cond.methodLink "WireField$Pen" (64 : Nat) ({ cls := "WireField$Pen", name := "columnAt", desc := "(II)I" } : Jvm.MethodName)) ∈ jWS := jWS_in 664 rfl rfl
set_option maxRecDepth 100000 in
theorem w_625 : (Jvm.Cond.instanceMethod ({ cls := "WireField$Pen", name := "columnAt", desc := "(II)I" } : Jvm.MethodName)) ∈ jWS := jWS_in 666 rfl rfl
set_option maxRecDepth 100000 in
theorem w_626 : (Jvm.Cond.code ({ cls := "WireField$Pen", name := "columnAt", desc := "(II)I" } : Jvm.MethodName) prog_4_method_5_code (3 : Nat) (Option.some Jvm.ClassFile.FieldType.int)) ∈ jWS := jWS_in 667 rfl rfl
set_option maxRecDepth 100000 in
theorem w_627 : (Jvm.Cond.fieldLinkNest "WireField$Pen" (57 : Nat) "WireField" "COLUMN_STEPS" "[I" "WireField") ∈ jNW := jNW_in 668 rfl rfl
set_option maxRecDepth 100000 in
theorem w_629 : (Jvm.Cond.methodLink "WireField$Pen" (68 : Nat) ({ cls := "WireField$Pen", name := "rowAt", desc := "(II)I" } : Jvm.MethodName)) ∈ jWS := jWS_in 670 rfl rfl
set_option maxRecDepth 100000 in
theorem w_631 : (Jvm.Cond.instanceMethod ({ cls := "WireField$Pen", name := "rowAt", desc := "(II)I" } : Jvm.MethodName)) ∈ jWS := jWS_in 672 rfl rfl
set_option maxRecDepth 100000 in
theorem w_632 : (Jvm.Cond.code ({ cls := "WireField$Pen", name := "rowAt", desc := "(II)I" } : Jvm.MethodName) prog_4_method_6_code (3 : Nat) (Option.some Jvm.ClassFile.FieldType.int)) ∈ jWS := jWS_in 673 rfl rfl
set_option maxRecDepth 100000 in
theorem w_633 : (Jvm.Cond.fieldLinkNest "WireField$Pen" (61 : Nat) "WireField" "ROW_STEPS" "[I" "WireField") ∈ jNW := jNW_in 674 rfl rfl
set_option maxRecDepth 100000 in
theorem w_635 : (Jvm.Cond.methodLinkNest "WireField$Pen" (71 : Nat) ({ cls := "WireField", name := "isWithin", desc := "(II)Z" } : Jvm.MethodName) "WireField") ∈ jNW := jNW_in 676 rfl rfl
set_option maxRecDepth 100000 in
theorem w_636 : (Jvm.Cond.methodLink "WireField$Pen" (75 : Nat) ({ cls := "WireField$Pen", name := "mark", desc := "(II)V" } : Jvm.MethodName)) ∈ jWS := jWS_in 677 rfl rfl
set_option maxRecDepth 100000 in
theorem w_638 : (Jvm.Cond.instanceMethod ({ cls := "WireField$Pen", name := "mark", desc := "(II)V" } : Jvm.MethodName)) ∈ jWS := jWS_in 679 rfl rfl
set_option maxRecDepth 100000 in
theorem w_639 : (Jvm.Cond.code ({ cls := "WireField$Pen", name := "mark", desc := "(II)V" } : Jvm.MethodName) prog_4_method_8_code (3 : Nat) (Option.none : Option Jvm.ClassFile.FieldType)) ∈ jWS := jWS_in 680 rfl rfl
set_option maxRecDepth 100000 in
theorem w_640 : (Jvm.Cond.methodLink "WireField$Pen" (50 : Nat) ({ cls := "WireField$Grid", name := "put", desc := "(III)V" } : Jvm.MethodName)) ∈ jWS := jWS_in 681 rfl rfl
set_option maxRecDepth 100000 in
theorem w_641 : (Jvm.Cond.methodLink "WireField$Pen" (47 : Nat) ({ cls := "WireField$Pen", name := "putElectron", desc := "()V" } : Jvm.MethodName)) ∈ jWS := jWS_in 682 rfl rfl
set_option maxRecDepth 100000 in
theorem w_643 : (Jvm.Cond.instanceMethod ({ cls := "WireField$Pen", name := "putElectron", desc := "()V" } : Jvm.MethodName)) ∈ jWS := jWS_in 684 rfl rfl
set_option maxRecDepth 100000 in
theorem w_644 : (Jvm.Cond.code ({ cls := "WireField$Pen", name := "putElectron", desc := "()V" } : Jvm.MethodName) prog_4_method_11_code (3 : Nat) (Option.none : Option Jvm.ClassFile.FieldType)) ∈ jWS := jWS_in 685 rfl rfl
set_option maxRecDepth 100000 in
theorem w_645 : (Jvm.Cond.methodLink "WireField$Pen" (79 : Nat) ({ cls := "WireField$Grid", name := "valueAt", desc := "(II)I" } : Jvm.MethodName)) ∈ jWS := jWS_in 686 rfl rfl
set_option maxRecDepth 100000 in
theorem w_646 : (Jvm.Cond.methodLink "WireField$Pen" (54 : Nat) ({ cls := "WireField$Pen", name := "drawDiode", desc := "()Z" } : Jvm.MethodName)) ∈ jWS := jWS_in 687 rfl rfl
set_option maxRecDepth 100000 in
theorem w_648 : (Jvm.Cond.instanceMethod ({ cls := "WireField$Pen", name := "drawDiode", desc := "()Z" } : Jvm.MethodName)) ∈ jWS := jWS_in 689 rfl rfl
set_option maxRecDepth 100000 in
theorem w_649 : (Jvm.Cond.code ({ cls := "WireField$Pen", name := "drawDiode", desc := "()Z" } : Jvm.MethodName) prog_4_method_12_code (1 : Nat) (Option.some Jvm.ClassFile.FieldType.boolean)) ∈ jWS := jWS_in 690 rfl rfl
set_option maxRecDepth 100000 in
theorem w_650 : (Jvm.Cond.methodLink "WireField$Pen" (82 : Nat) ({ cls := "WireField$Pen", name := "hasCell", desc := "(II)Z" } : Jvm.MethodName)) ∈ jWS := jWS_in 691 rfl rfl
set_option maxRecDepth 100000 in
theorem w_652 : (Jvm.Cond.instanceMethod ({ cls := "WireField$Pen", name := "hasCell", desc := "(II)Z" } : Jvm.MethodName)) ∈ jWS := jWS_in 693 rfl rfl
set_option maxRecDepth 100000 in
theorem w_653 : (Jvm.Cond.code ({ cls := "WireField$Pen", name := "hasCell", desc := "(II)Z" } : Jvm.MethodName) prog_4_method_7_code (3 : Nat) (Option.some Jvm.ClassFile.FieldType.boolean)) ∈ jWS := jWS_in 694 rfl rfl
set_option maxRecDepth 100000 in
theorem w_654 : (Jvm.Cond.classLink "WireField" (114 : Nat) "java/lang/UnsupportedOperationException") ∈ jWS := jWS_in 695 rfl rfl
set_option maxRecDepth 100000 in
theorem w_655 : (Jvm.Cond.instantiable "java/lang/UnsupportedOperationException" (6 : Nat)) ∈ jWS := jWS_in 696 rfl rfl
set_option maxRecDepth 100000 in
theorem w_657 : (Jvm.Cond.selects "java/lang/UnsupportedOperationException" ({ cls := "java/lang/Throwable", name := "fillInStackTrace", desc := "(I)Ljava/lang/Throwable;" } : Jvm.MethodName) ({ cls := "java/lang/Throwable", name := "fillInStackTrace", desc := "(I)Ljava/lang/Throwable;" } : Jvm.MethodName)) ∈ jWS := jWS_in 698 rfl rfl
set_option maxRecDepth 100000 in
theorem w_658 : (Jvm.Cond.lays "java/lang/UnsupportedOperationException" "java/lang/Throwable" "cause" "Ljava/lang/Throwable;") ∈ jWS := jWS_in 699 rfl rfl
set_option maxRecDepth 100000 in
theorem w_659 : (Jvm.Cond.lays "java/lang/UnsupportedOperationException" "java/lang/Throwable" "stackTrace" "[Ljava/lang/StackTraceElement;") ∈ jWS := jWS_in 700 rfl rfl
set_option maxRecDepth 100000 in
theorem w_660 : (Jvm.Cond.lays "java/lang/UnsupportedOperationException" "java/lang/Throwable" "suppressedExceptions" "Ljava/util/List;") ∈ jWS := jWS_in 701 rfl rfl
set_option maxRecDepth 100000 in
theorem w_661 : (Jvm.Cond.lays "java/lang/UnsupportedOperationException" "java/lang/Throwable" "detailMessage" "Ljava/lang/String;") ∈ jWS := jWS_in 702 rfl rfl
set_option maxRecDepth 100000 in
theorem w_662 : (Jvm.Cond.lays "java/lang/UnsupportedOperationException" "java/lang/Throwable" "backtrace" "Ljava/lang/Object;") ∈ jWS := jWS_in 703 rfl rfl
set_option maxRecDepth 100000 in
theorem w_664 : (Jvm.Cond.methodLink "WireField" (118 : Nat) ({ cls := "java/lang/UnsupportedOperationException", name := "<init>", desc := "(Ljava/lang/String;)V" } : Jvm.MethodName)) ∈ jWS := jWS_in 705 rfl rfl
set_option maxRecDepth 100000 in
theorem w_665 : (Jvm.Cond.instanceMethod ({ cls := "java/lang/UnsupportedOperationException", name := "<init>", desc := "(Ljava/lang/String;)V" } : Jvm.MethodName)) ∈ jWS := jWS_in 706 rfl rfl
set_option maxRecDepth 100000 in
theorem w_666 : (Jvm.Cond.code ({ cls := "java/lang/UnsupportedOperationException", name := "<init>", desc := "(Ljava/lang/String;)V" } : Jvm.MethodName) prog_22_method_2_code (2 : Nat) (Option.none : Option Jvm.ClassFile.FieldType)) ∈ jWS := jWS_in 707 rfl rfl
set_option maxRecDepth 100000 in
theorem w_667 : (Jvm.Cond.methodLink "java/lang/UnsupportedOperationException" (7 : Nat) ({ cls := "java/lang/RuntimeException", name := "<init>", desc := "(Ljava/lang/String;)V" } : Jvm.MethodName)) ∈ jWS := jWS_in 708 rfl rfl
set_option maxRecDepth 100000 in
theorem w_668 : (Jvm.Cond.lays "java/lang/UnsupportedOperationException" "java/lang/Throwable" "depth" "I") ∈ jWS := jWS_in 709 rfl rfl
set_option maxRecDepth 100000 in
theorem w_670 : (Jvm.Cond.methodLink "WireFieldLaw" (46 : Nat) ({ cls := "WireFieldLaw", name := "macro", desc := "(LWireField;I)I" } : Jvm.MethodName)) ∈ jWS := jWS_in 711 rfl rfl
set_option maxRecDepth 100000 in
theorem w_671 : (Jvm.Cond.static ({ cls := "WireFieldLaw", name := "macro", desc := "(LWireField;I)I" } : Jvm.MethodName)) ∈ jWS := jWS_in 712 rfl rfl
set_option maxRecDepth 100000 in
theorem w_673 : (Jvm.Cond.methodLink "WireFieldLaw" (19 : Nat) ({ cls := "WireField", name := "macro", desc := "(I)V" } : Jvm.MethodName)) ∈ jWS := jWS_in 714 rfl rfl
set_option maxRecDepth 100000 in
theorem w_674 : (Jvm.Cond.instanceMethod ({ cls := "WireField", name := "macro", desc := "(I)V" } : Jvm.MethodName)) ∈ jWS := jWS_in 715 rfl rfl
set_option maxRecDepth 100000 in
theorem w_675 : (Jvm.Cond.selects "WireField" ({ cls := "WireField", name := "macro", desc := "(I)V" } : Jvm.MethodName) ({ cls := "WireField", name := "macro", desc := "(I)V" } : Jvm.MethodName)) ∈ jWS := jWS_in 716 rfl rfl
set_option maxRecDepth 100000 in
theorem w_676 : (Jvm.Cond.code ({ cls := "WireField", name := "macro", desc := "(I)V" } : Jvm.MethodName) prog_1_method_4_code (2 : Nat) (Option.none : Option Jvm.ClassFile.FieldType)) ∈ jWS := jWS_in 717 rfl rfl
set_option maxRecDepth 100000 in
theorem w_679 : (Jvm.Cond.methodLink "WireField" (139 : Nat) ({ cls := "WireField$Text", name := "takeFrom", desc := "(LWireField$Text;)V" } : Jvm.MethodName)) ∈ jWS := jWS_in 720 rfl rfl
set_option maxRecDepth 100000 in
theorem w_680 : (Jvm.Cond.instanceMethod ({ cls := "WireField$Text", name := "takeFrom", desc := "(LWireField$Text;)V" } : Jvm.MethodName)) ∈ jWS := jWS_in 721 rfl rfl
set_option maxRecDepth 100000 in
theorem w_681 : (Jvm.Cond.selects "WireField$Text" ({ cls := "WireField$Text", name := "takeFrom", desc := "(LWireField$Text;)V" } : Jvm.MethodName) ({ cls := "WireField$Text", name := "takeFrom", desc := "(LWireField$Text;)V" } : Jvm.MethodName)) ∈ jWS := jWS_in 722 rfl rfl
set_option maxRecDepth 100000 in
theorem w_682 : (Jvm.Cond.code ({ cls := "WireField$Text", name := "takeFrom", desc := "(LWireField$Text;)V" } : Jvm.MethodName) prog_7_method_4_code (2 : Nat) (Option.none : Option Jvm.ClassFile.FieldType)) ∈ jWS := jWS_in 723 rfl rfl
set_option maxRecDepth 100000 in
theorem w_683 : (Jvm.Cond.methodLink "WireField$Text" (19 : Nat) ({ cls := "java/lang/System", name := "arraycopy", desc := "(Ljava/lang/Object;ILjava/lang/Object;II)V" } : Jvm.MethodName)) ∈ jWS := jWS_in 724 rfl rfl
set_option maxRecDepth 100000 in
theorem w_684 : (Jvm.Cond.methodLink "WireFieldLaw" (93 : Nat) ({ cls := "WireFieldLaw", name := "seen", desc := "(LWireField;II[J)I" } : Jvm.MethodName)) ∈ jWS := jWS_in 725 rfl rfl
set_option maxRecDepth 100000 in
theorem w_685 : (Jvm.Cond.static ({ cls := "WireFieldLaw", name := "seen", desc := "(LWireField;II[J)I" } : Jvm.MethodName)) ∈ jWS := jWS_in 726 rfl rfl
set_option maxRecDepth 100000 in
theorem w_687 : (Jvm.Cond.methodLink "WireFieldLaw" (23 : Nat) ({ cls := "WireField", name := "seen", desc := "(II)I" } : Jvm.MethodName)) ∈ jWS := jWS_in 728 rfl rfl
set_option maxRecDepth 100000 in
theorem w_688 : (Jvm.Cond.instanceMethod ({ cls := "WireField", name := "seen", desc := "(II)I" } : Jvm.MethodName)) ∈ jWS := jWS_in 729 rfl rfl
set_option maxRecDepth 100000 in
theorem w_689 : (Jvm.Cond.selects "WireField" ({ cls := "WireField", name := "seen", desc := "(II)I" } : Jvm.MethodName) ({ cls := "WireField", name := "seen", desc := "(II)I" } : Jvm.MethodName)) ∈ jWS := jWS_in 730 rfl rfl
set_option maxRecDepth 100000 in
theorem w_690 : (Jvm.Cond.code ({ cls := "WireField", name := "seen", desc := "(II)I" } : Jvm.MethodName) prog_1_method_14_code (3 : Nat) (Option.some Jvm.ClassFile.FieldType.int)) ∈ jWS := jWS_in 731 rfl rfl
set_option maxRecDepth 100000 in
theorem w_692 : (Jvm.Cond.classLink "WireFieldLaw" (28 : Nat) "WireFieldModel") ∈ jWS := jWS_in 733 rfl rfl
set_option maxRecDepth 100000 in
theorem w_693 : (Jvm.Cond.instantiable "WireFieldModel" (43 : Nat)) ∈ jWS := jWS_in 734 rfl rfl
set_option maxRecDepth 100000 in
theorem w_694 : (Jvm.Cond.methodLink "WireFieldLaw" (30 : Nat) ({ cls := "WireFieldModel", name := "<init>", desc := "()V" } : Jvm.MethodName)) ∈ jWS := jWS_in 735 rfl rfl
set_option maxRecDepth 100000 in
theorem w_695 : (Jvm.Cond.instanceMethod ({ cls := "WireFieldModel", name := "<init>", desc := "()V" } : Jvm.MethodName)) ∈ jWS := jWS_in 736 rfl rfl
set_option maxRecDepth 100000 in
theorem w_696 : (Jvm.Cond.code ({ cls := "WireFieldModel", name := "<init>", desc := "()V" } : Jvm.MethodName) prog_9_method_1_code (2 : Nat) (Option.none : Option Jvm.ClassFile.FieldType)) ∈ jWS := jWS_in 737 rfl rfl
set_option maxRecDepth 100000 in
theorem w_697 : (Jvm.Cond.methodLink "WireFieldModel" (1 : Nat) ({ cls := "java/lang/Object", name := "<init>", desc := "()V" } : Jvm.MethodName)) ∈ jWS := jWS_in 738 rfl rfl
set_option maxRecDepth 100000 in
theorem w_698 : (Jvm.Cond.fieldLink "WireFieldModel" (102 : Nat) "WireFieldModel" "thrown" "I") ∈ jWS := jWS_in 739 rfl rfl
set_option maxRecDepth 100000 in
theorem w_699 : (Jvm.Cond.fieldLink "WireFieldModel" (7 : Nat) "WireFieldModel" "head" "[I") ∈ jWS := jWS_in 740 rfl rfl
set_option maxRecDepth 100000 in
theorem w_700 : (Jvm.Cond.fieldLink "WireFieldModel" (13 : Nat) "WireFieldModel" "tail" "[I") ∈ jWS := jWS_in 741 rfl rfl
set_option maxRecDepth 100000 in
theorem w_701 : (Jvm.Cond.fieldLink "WireFieldModel" (16 : Nat) "WireFieldModel" "wire" "[I") ∈ jWS := jWS_in 742 rfl rfl
set_option maxRecDepth 100000 in
theorem w_702 : (Jvm.Cond.fieldLink "WireFieldModel" (19 : Nat) "WireFieldModel" "heads" "[I") ∈ jWS := jWS_in 743 rfl rfl
set_option maxRecDepth 100000 in
theorem w_703 : (Jvm.Cond.fieldLink "WireFieldModel" (22 : Nat) "WireFieldModel" "kept" "[I") ∈ jWS := jWS_in 744 rfl rfl
set_option maxRecDepth 100000 in
theorem w_704 : (Jvm.Cond.fieldLink "WireFieldModel" (25 : Nat) "WireFieldModel" "keptPlace" "[I") ∈ jWS := jWS_in 745 rfl rfl
set_option maxRecDepth 100000 in
theorem w_705 : (Jvm.Cond.fieldLink "WireFieldModel" (110 : Nat) "WireFieldModel" "at" "I") ∈ jWS := jWS_in 746 rfl rfl
set_option maxRecDepth 100000 in
theorem w_706 : (Jvm.Cond.fieldLink "WireFieldModel" (113 : Nat) "WireFieldModel" "history" "I") ∈ jWS := jWS_in 747 rfl rfl
set_option maxRecDepth 100000 in
theorem w_707 : (Jvm.Cond.fieldLink "WireFieldModel" (125 : Nat) "WireFieldModel" "time" "I") ∈ jWS := jWS_in 748 rfl rfl
set_option maxRecDepth 100000 in
theorem w_708 : (Jvm.Cond.fieldLink "WireFieldModel" (119 : Nat) "WireFieldModel" "sources" "I") ∈ jWS := jWS_in 749 rfl rfl
set_option maxRecDepth 100000 in
theorem w_709 : (Jvm.Cond.fieldLink "WireFieldModel" (28 : Nat) "WireFieldModel" "sourceX" "[I") ∈ jWS := jWS_in 750 rfl rfl
set_option maxRecDepth 100000 in
theorem w_710 : (Jvm.Cond.fieldLink "WireFieldModel" (31 : Nat) "WireFieldModel" "sourceY" "[I") ∈ jWS := jWS_in 751 rfl rfl
set_option maxRecDepth 100000 in
theorem w_711 : (Jvm.Cond.fieldLink "WireFieldModel" (34 : Nat) "WireFieldModel" "pattern" "[J") ∈ jWS := jWS_in 752 rfl rfl
set_option maxRecDepth 100000 in
theorem w_712 : (Jvm.Cond.fieldLink "WireFieldModel" (38 : Nat) "WireFieldModel" "many" "[I") ∈ jWS := jWS_in 753 rfl rfl
set_option maxRecDepth 100000 in
theorem w_713 : (Jvm.Cond.fieldLink "WireFieldModel" (41 : Nat) "WireFieldModel" "place" "[I") ∈ jWS := jWS_in 754 rfl rfl
set_option maxRecDepth 100000 in
theorem w_714 : (Jvm.Cond.fieldLink "WireFieldModel" (128 : Nat) "WireFieldModel" "probes" "I") ∈ jWS := jWS_in 755 rfl rfl
set_option maxRecDepth 100000 in
theorem w_715 : (Jvm.Cond.fieldLink "WireFieldModel" (44 : Nat) "WireFieldModel" "probeX" "[I") ∈ jWS := jWS_in 756 rfl rfl
set_option maxRecDepth 100000 in
theorem w_716 : (Jvm.Cond.fieldLink "WireFieldModel" (47 : Nat) "WireFieldModel" "probeY" "[I") ∈ jWS := jWS_in 757 rfl rfl
set_option maxRecDepth 100000 in
theorem w_717 : (Jvm.Cond.fieldLink "WireFieldModel" (50 : Nat) "WireFieldModel" "seen" "[I") ∈ jWS := jWS_in 758 rfl rfl
set_option maxRecDepth 100000 in
theorem w_718 : (Jvm.Cond.fieldLink "WireFieldModel" (53 : Nat) "WireFieldModel" "latest" "[I") ∈ jWS := jWS_in 759 rfl rfl
set_option maxRecDepth 100000 in
theorem w_719 : (Jvm.Cond.fieldLink "WireFieldModel" (56 : Nat) "WireFieldModel" "record" "[J") ∈ jWS := jWS_in 760 rfl rfl
set_option maxRecDepth 100000 in
theorem w_720 : (Jvm.Cond.fieldLink "WireFieldModel" (59 : Nat) "WireFieldModel" "text" "[I") ∈ jWS := jWS_in 761 rfl rfl
set_option maxRecDepth 100000 in
theorem w_721 : (Jvm.Cond.fieldLink "WireFieldModel" (62 : Nat) "WireFieldModel" "size" "[I") ∈ jWS := jWS_in 762 rfl rfl
set_option maxRecDepth 100000 in
theorem w_722 : (Jvm.Cond.fieldLink "WireFieldModel" (65 : Nat) "WireFieldModel" "uses" "[I") ∈ jWS := jWS_in 763 rfl rfl
set_option maxRecDepth 100000 in
theorem w_723 : (Jvm.Cond.fieldLink "WireFieldModel" (68 : Nat) "WireFieldModel" "drawnHead" "[I") ∈ jWS := jWS_in 764 rfl rfl
set_option maxRecDepth 100000 in
theorem w_724 : (Jvm.Cond.fieldLink "WireFieldModel" (71 : Nat) "WireFieldModel" "drawnTail" "[I") ∈ jWS := jWS_in 765 rfl rfl
set_option maxRecDepth 100000 in
theorem w_725 : (Jvm.Cond.fieldLink "WireFieldModel" (74 : Nat) "WireFieldModel" "drawnWire" "[I") ∈ jWS := jWS_in 766 rfl rfl
set_option maxRecDepth 100000 in
theorem w_726 : (Jvm.Cond.fieldLink "WireFieldModel" (167 : Nat) "WireFieldModel" "x" "I") ∈ jWS := jWS_in 767 rfl rfl
set_option maxRecDepth 100000 in
theorem w_727 : (Jvm.Cond.fieldLink "WireFieldModel" (176 : Nat) "WireFieldModel" "y" "I") ∈ jWS := jWS_in 768 rfl rfl
set_option maxRecDepth 100000 in
theorem w_728 : (Jvm.Cond.fieldLink "WireFieldModel" (170 : Nat) "WireFieldModel" "direction" "I") ∈ jWS := jWS_in 769 rfl rfl
set_option maxRecDepth 100000 in
theorem w_729 : (Jvm.Cond.fieldLink "WireFieldModel" (182 : Nat) "WireFieldModel" "up" "Z") ∈ jWS := jWS_in 770 rfl rfl
set_option maxRecDepth 100000 in
theorem w_730 : (Jvm.Cond.fieldLink "WireFieldModel" (156 : Nat) "WireFieldModel" "done" "I") ∈ jWS := jWS_in 771 rfl rfl
set_option maxRecDepth 100000 in
theorem w_731 : (Jvm.Cond.fieldLink "WireFieldModel" (159 : Nat) "WireFieldModel" "beyond" "Z") ∈ jWS := jWS_in 772 rfl rfl
set_option maxRecDepth 100000 in
theorem w_732 : (Jvm.Cond.fieldLink "WireFieldModel" (196 : Nat) "WireFieldModel" "opened" "I") ∈ jWS := jWS_in 773 rfl rfl
set_option maxRecDepth 100000 in
theorem w_733 : (Jvm.Cond.fieldLink "WireFieldModel" (77 : Nat) "WireFieldModel" "sign" "[I") ∈ jWS := jWS_in 774 rfl rfl
set_option maxRecDepth 100000 in
theorem w_734 : (Jvm.Cond.fieldLink "WireFieldModel" (80 : Nat) "WireFieldModel" "text0" "[I") ∈ jWS := jWS_in 775 rfl rfl
set_option maxRecDepth 100000 in
theorem w_735 : (Jvm.Cond.fieldLink "WireFieldModel" (83 : Nat) "WireFieldModel" "from" "[I") ∈ jWS := jWS_in 776 rfl rfl
set_option maxRecDepth 100000 in
theorem w_736 : (Jvm.Cond.fieldLink "WireFieldModel" (86 : Nat) "WireFieldModel" "left" "[I") ∈ jWS := jWS_in 777 rfl rfl
set_option maxRecDepth 100000 in
theorem w_737 : (Jvm.Cond.fieldLink "WireFieldModel" (89 : Nat) "WireFieldModel" "penX" "[I") ∈ jWS := jWS_in 778 rfl rfl
set_option maxRecDepth 100000 in
theorem w_738 : (Jvm.Cond.fieldLink "WireFieldModel" (92 : Nat) "WireFieldModel" "penY" "[I") ∈ jWS := jWS_in 779 rfl rfl
set_option maxRecDepth 100000 in
theorem w_739 : (Jvm.Cond.fieldLink "WireFieldModel" (95 : Nat) "WireFieldModel" "penDirection" "[I") ∈ jWS := jWS_in 780 rfl rfl
set_option maxRecDepth 100000 in
theorem w_740 : (Jvm.Cond.fieldLink "WireFieldModel" (98 : Nat) "WireFieldModel" "penUp" "[Z") ∈ jWS := jWS_in 781 rfl rfl
set_option maxRecDepth 100000 in
theorem w_741 : (Jvm.Cond.lays "WireFieldModel" "WireFieldModel" "thrown" "I") ∈ jWS := jWS_in 782 rfl rfl
set_option maxRecDepth 100000 in
theorem w_743 : (Jvm.Cond.laysFinal "WireFieldModel" "WireFieldModel" "head" "[I") ∈ jWS := jWS_in 784 rfl rfl
set_option maxRecDepth 100000 in
theorem w_745 : (Jvm.Cond.laysFinal "WireFieldModel" "WireFieldModel" "tail" "[I") ∈ jWS := jWS_in 786 rfl rfl
set_option maxRecDepth 100000 in
theorem w_747 : (Jvm.Cond.laysFinal "WireFieldModel" "WireFieldModel" "wire" "[I") ∈ jWS := jWS_in 788 rfl rfl
set_option maxRecDepth 100000 in
theorem w_749 : (Jvm.Cond.laysFinal "WireFieldModel" "WireFieldModel" "heads" "[I") ∈ jWS := jWS_in 790 rfl rfl
set_option maxRecDepth 100000 in
theorem w_751 : (Jvm.Cond.laysFinal "WireFieldModel" "WireFieldModel" "kept" "[I") ∈ jWS := jWS_in 792 rfl rfl
set_option maxRecDepth 100000 in
theorem w_753 : (Jvm.Cond.laysFinal "WireFieldModel" "WireFieldModel" "keptPlace" "[I") ∈ jWS := jWS_in 794 rfl rfl
set_option maxRecDepth 100000 in
theorem w_755 : (Jvm.Cond.lays "WireFieldModel" "WireFieldModel" "at" "I") ∈ jWS := jWS_in 796 rfl rfl
set_option maxRecDepth 100000 in
theorem w_757 : (Jvm.Cond.lays "WireFieldModel" "WireFieldModel" "history" "I") ∈ jWS := jWS_in 798 rfl rfl
set_option maxRecDepth 100000 in
theorem w_759 : (Jvm.Cond.lays "WireFieldModel" "WireFieldModel" "time" "I") ∈ jWS := jWS_in 800 rfl rfl
set_option maxRecDepth 100000 in
theorem w_761 : (Jvm.Cond.lays "WireFieldModel" "WireFieldModel" "sources" "I") ∈ jWS := jWS_in 802 rfl rfl
set_option maxRecDepth 100000 in
theorem w_763 : (Jvm.Cond.laysFinal "WireFieldModel" "WireFieldModel" "sourceX" "[I") ∈ jWS := jWS_in 804 rfl rfl
set_option maxRecDepth 100000 in
theorem w_765 : (Jvm.Cond.laysFinal "WireFieldModel" "WireFieldModel" "sourceY" "[I") ∈ jWS := jWS_in 806 rfl rfl
set_option maxRecDepth 100000 in
theorem w_767 : (Jvm.Cond.laysFinal "WireFieldModel" "WireFieldModel" "pattern" "[J") ∈ jWS := jWS_in 808 rfl rfl
set_option maxRecDepth 100000 in
theorem w_769 : (Jvm.Cond.laysFinal "WireFieldModel" "WireFieldModel" "many" "[I") ∈ jWS := jWS_in 810 rfl rfl
set_option maxRecDepth 100000 in
theorem w_771 : (Jvm.Cond.laysFinal "WireFieldModel" "WireFieldModel" "place" "[I") ∈ jWS := jWS_in 812 rfl rfl
set_option maxRecDepth 100000 in
theorem w_773 : (Jvm.Cond.lays "WireFieldModel" "WireFieldModel" "probes" "I") ∈ jWS := jWS_in 814 rfl rfl
set_option maxRecDepth 100000 in
theorem w_775 : (Jvm.Cond.laysFinal "WireFieldModel" "WireFieldModel" "probeX" "[I") ∈ jWS := jWS_in 816 rfl rfl
set_option maxRecDepth 100000 in
theorem w_777 : (Jvm.Cond.laysFinal "WireFieldModel" "WireFieldModel" "probeY" "[I") ∈ jWS := jWS_in 818 rfl rfl
set_option maxRecDepth 100000 in
theorem w_779 : (Jvm.Cond.laysFinal "WireFieldModel" "WireFieldModel" "seen" "[I") ∈ jWS := jWS_in 820 rfl rfl
set_option maxRecDepth 100000 in
theorem w_781 : (Jvm.Cond.laysFinal "WireFieldModel" "WireFieldModel" "latest" "[I") ∈ jWS := jWS_in 822 rfl rfl
set_option maxRecDepth 100000 in
theorem w_783 : (Jvm.Cond.laysFinal "WireFieldModel" "WireFieldModel" "record" "[J") ∈ jWS := jWS_in 824 rfl rfl
set_option maxRecDepth 100000 in
theorem w_785 : (Jvm.Cond.laysFinal "WireFieldModel" "WireFieldModel" "text" "[I") ∈ jWS := jWS_in 826 rfl rfl
set_option maxRecDepth 100000 in
theorem w_787 : (Jvm.Cond.laysFinal "WireFieldModel" "WireFieldModel" "size" "[I") ∈ jWS := jWS_in 828 rfl rfl
set_option maxRecDepth 100000 in
theorem w_789 : (Jvm.Cond.laysFinal "WireFieldModel" "WireFieldModel" "uses" "[I") ∈ jWS := jWS_in 830 rfl rfl
set_option maxRecDepth 100000 in
theorem w_791 : (Jvm.Cond.laysFinal "WireFieldModel" "WireFieldModel" "drawnHead" "[I") ∈ jWS := jWS_in 832 rfl rfl
set_option maxRecDepth 100000 in
theorem w_793 : (Jvm.Cond.laysFinal "WireFieldModel" "WireFieldModel" "drawnTail" "[I") ∈ jWS := jWS_in 834 rfl rfl
set_option maxRecDepth 100000 in
theorem w_795 : (Jvm.Cond.laysFinal "WireFieldModel" "WireFieldModel" "drawnWire" "[I") ∈ jWS := jWS_in 836 rfl rfl
set_option maxRecDepth 100000 in
theorem w_797 : (Jvm.Cond.lays "WireFieldModel" "WireFieldModel" "x" "I") ∈ jWS := jWS_in 838 rfl rfl
set_option maxRecDepth 100000 in
theorem w_799 : (Jvm.Cond.lays "WireFieldModel" "WireFieldModel" "y" "I") ∈ jWS := jWS_in 840 rfl rfl
set_option maxRecDepth 100000 in
theorem w_801 : (Jvm.Cond.lays "WireFieldModel" "WireFieldModel" "direction" "I") ∈ jWS := jWS_in 842 rfl rfl
set_option maxRecDepth 100000 in
theorem w_803 : (Jvm.Cond.lays "WireFieldModel" "WireFieldModel" "up" "Z") ∈ jWS := jWS_in 844 rfl rfl
set_option maxRecDepth 100000 in
theorem w_805 : (Jvm.Cond.lays "WireFieldModel" "WireFieldModel" "done" "I") ∈ jWS := jWS_in 846 rfl rfl
set_option maxRecDepth 100000 in
theorem w_807 : (Jvm.Cond.lays "WireFieldModel" "WireFieldModel" "beyond" "Z") ∈ jWS := jWS_in 848 rfl rfl
set_option maxRecDepth 100000 in
theorem w_809 : (Jvm.Cond.lays "WireFieldModel" "WireFieldModel" "opened" "I") ∈ jWS := jWS_in 850 rfl rfl
set_option maxRecDepth 100000 in
theorem w_811 : (Jvm.Cond.laysFinal "WireFieldModel" "WireFieldModel" "sign" "[I") ∈ jWS := jWS_in 852 rfl rfl
set_option maxRecDepth 100000 in
theorem w_813 : (Jvm.Cond.laysFinal "WireFieldModel" "WireFieldModel" "text0" "[I") ∈ jWS := jWS_in 854 rfl rfl
set_option maxRecDepth 100000 in
theorem w_815 : (Jvm.Cond.laysFinal "WireFieldModel" "WireFieldModel" "from" "[I") ∈ jWS := jWS_in 856 rfl rfl
set_option maxRecDepth 100000 in
theorem w_817 : (Jvm.Cond.laysFinal "WireFieldModel" "WireFieldModel" "left" "[I") ∈ jWS := jWS_in 858 rfl rfl
set_option maxRecDepth 100000 in
theorem w_819 : (Jvm.Cond.laysFinal "WireFieldModel" "WireFieldModel" "penX" "[I") ∈ jWS := jWS_in 860 rfl rfl
set_option maxRecDepth 100000 in
theorem w_821 : (Jvm.Cond.laysFinal "WireFieldModel" "WireFieldModel" "penY" "[I") ∈ jWS := jWS_in 862 rfl rfl
set_option maxRecDepth 100000 in
theorem w_823 : (Jvm.Cond.laysFinal "WireFieldModel" "WireFieldModel" "penDirection" "[I") ∈ jWS := jWS_in 864 rfl rfl
set_option maxRecDepth 100000 in
theorem w_825 : (Jvm.Cond.laysFinal "WireFieldModel" "WireFieldModel" "penUp" "[Z") ∈ jWS := jWS_in 866 rfl rfl
set_option maxRecDepth 100000 in
theorem w_828 : (Jvm.Cond.arrayClass Jvm.ClassFile.FieldType.long) ∈ jWS := jWS_in 869 rfl rfl
set_option maxRecDepth 100000 in
theorem w_829 : (Jvm.Cond.methodLink "WireFieldLaw" (42 : Nat) ({ cls := "WireFieldModel", name := "thrown", desc := "()I" } : Jvm.MethodName)) ∈ jWS := jWS_in 870 rfl rfl
set_option maxRecDepth 100000 in
theorem w_830 : (Jvm.Cond.instanceMethod ({ cls := "WireFieldModel", name := "thrown", desc := "()I" } : Jvm.MethodName)) ∈ jWS := jWS_in 871 rfl rfl
set_option maxRecDepth 100000 in
theorem w_831 : (Jvm.Cond.selects "WireFieldModel" ({ cls := "WireFieldModel", name := "thrown", desc := "()I" } : Jvm.MethodName) ({ cls := "WireFieldModel", name := "thrown", desc := "()I" } : Jvm.MethodName)) ∈ jWS := jWS_in 872 rfl rfl
set_option maxRecDepth 100000 in
theorem w_832 : (Jvm.Cond.code ({ cls := "WireFieldModel", name := "thrown", desc := "()I" } : Jvm.MethodName) prog_9_method_2_code (1 : Nat) (Option.some Jvm.ClassFile.FieldType.int)) ∈ jWS := jWS_in 873 rfl rfl
set_option maxRecDepth 100000 in
theorem w_833 : (Jvm.Cond.methodLink "WireFieldLaw" (83 : Nat) ({ cls := "WireFieldModel", name := "run", desc := "(I)I" } : Jvm.MethodName)) ∈ jWS := jWS_in 874 rfl rfl
set_option maxRecDepth 100000 in
theorem w_834 : (Jvm.Cond.instanceMethod ({ cls := "WireFieldModel", name := "run", desc := "(I)I" } : Jvm.MethodName)) ∈ jWS := jWS_in 875 rfl rfl
set_option maxRecDepth 100000 in
theorem w_835 : (Jvm.Cond.selects "WireFieldModel" ({ cls := "WireFieldModel", name := "run", desc := "(I)I" } : Jvm.MethodName) ({ cls := "WireFieldModel", name := "run", desc := "(I)I" } : Jvm.MethodName)) ∈ jWS := jWS_in 876 rfl rfl
set_option maxRecDepth 100000 in
theorem w_836 : (Jvm.Cond.code ({ cls := "WireFieldModel", name := "run", desc := "(I)I" } : Jvm.MethodName) prog_9_method_9_code (3 : Nat) (Option.some Jvm.ClassFile.FieldType.int)) ∈ jWS := jWS_in 877 rfl rfl
set_option maxRecDepth 100000 in
theorem w_837 : (Jvm.Cond.methodLink "WireFieldModel" (137 : Nat) ({ cls := "WireFieldModel", name := "generation", desc := "()V" } : Jvm.MethodName)) ∈ jWS := jWS_in 878 rfl rfl
set_option maxRecDepth 100000 in
theorem w_839 : (Jvm.Cond.instanceMethod ({ cls := "WireFieldModel", name := "generation", desc := "()V" } : Jvm.MethodName)) ∈ jWS := jWS_in 880 rfl rfl
set_option maxRecDepth 100000 in
theorem w_840 : (Jvm.Cond.code ({ cls := "WireFieldModel", name := "generation", desc := "()V" } : Jvm.MethodName) prog_9_method_8_code (3 : Nat) (Option.none : Option Jvm.ClassFile.FieldType)) ∈ jWS := jWS_in 881 rfl rfl
set_option maxRecDepth 100000 in
theorem w_841 : (Jvm.Cond.methodLink "WireFieldModel" (116 : Nat) ({ cls := "WireFieldModel", name := "keep", desc := "()V" } : Jvm.MethodName)) ∈ jWS := jWS_in 882 rfl rfl
set_option maxRecDepth 100000 in
theorem w_843 : (Jvm.Cond.instanceMethod ({ cls := "WireFieldModel", name := "keep", desc := "()V" } : Jvm.MethodName)) ∈ jWS := jWS_in 884 rfl rfl
set_option maxRecDepth 100000 in
theorem w_844 : (Jvm.Cond.code ({ cls := "WireFieldModel", name := "keep", desc := "()V" } : Jvm.MethodName) prog_9_method_7_code (2 : Nat) (Option.none : Option Jvm.ClassFile.FieldType)) ∈ jWS := jWS_in 885 rfl rfl
set_option maxRecDepth 100000 in
theorem w_845 : (Jvm.Cond.methodLink "WireFieldModel" (122 : Nat) ({ cls := "WireFieldModel", name := "lit", desc := "(I)I" } : Jvm.MethodName)) ∈ jWS := jWS_in 886 rfl rfl
set_option maxRecDepth 100000 in
theorem w_847 : (Jvm.Cond.instanceMethod ({ cls := "WireFieldModel", name := "lit", desc := "(I)I" } : Jvm.MethodName)) ∈ jWS := jWS_in 888 rfl rfl
set_option maxRecDepth 100000 in
theorem w_848 : (Jvm.Cond.code ({ cls := "WireFieldModel", name := "lit", desc := "(I)I" } : Jvm.MethodName) prog_9_method_6_code (9 : Nat) (Option.some Jvm.ClassFile.FieldType.int)) ∈ jWS := jWS_in 889 rfl rfl
set_option maxRecDepth 100000 in
theorem w_849 : (Jvm.Cond.methodLink "WireFieldModel" (106 : Nat) ({ cls := "WireFieldModel", name := "headsIn", desc := "(I)I" } : Jvm.MethodName)) ∈ jWS := jWS_in 890 rfl rfl
set_option maxRecDepth 100000 in
theorem w_851 : (Jvm.Cond.instanceMethod ({ cls := "WireFieldModel", name := "headsIn", desc := "(I)I" } : Jvm.MethodName)) ∈ jWS := jWS_in 892 rfl rfl
set_option maxRecDepth 100000 in
theorem w_852 : (Jvm.Cond.code ({ cls := "WireFieldModel", name := "headsIn", desc := "(I)I" } : Jvm.MethodName) prog_9_method_5_code (2 : Nat) (Option.some Jvm.ClassFile.FieldType.int)) ∈ jWS := jWS_in 893 rfl rfl
set_option maxRecDepth 100000 in
theorem w_853 : (Jvm.Cond.methodLink "WireFieldModel" (131 : Nat) ({ cls := "WireFieldModel", name := "bit", desc := "(II)I" } : Jvm.MethodName)) ∈ jWS := jWS_in 894 rfl rfl
set_option maxRecDepth 100000 in
theorem w_854 : (Jvm.Cond.static ({ cls := "WireFieldModel", name := "bit", desc := "(II)I" } : Jvm.MethodName)) ∈ jWS := jWS_in 895 rfl rfl
set_option maxRecDepth 100000 in
theorem w_855 : (Jvm.Cond.code ({ cls := "WireFieldModel", name := "bit", desc := "(II)I" } : Jvm.MethodName) prog_9_method_4_code (2 : Nat) (Option.some Jvm.ClassFile.FieldType.int)) ∈ jWS := jWS_in 896 rfl rfl
set_option maxRecDepth 100000 in
theorem w_856 : (Jvm.Cond.constantLong "WireFieldModel" (135 : Nat) (2 : Int64)) ∈ jWS := jWS_in 897 rfl rfl
set_option maxRecDepth 100000 in
theorem w_857 : (Jvm.Cond.methodLink "WireFieldModel" (140 : Nat) ({ cls := "WireFieldModel", name := "count", desc := "(I)I" } : Jvm.MethodName)) ∈ jWS := jWS_in 898 rfl rfl
set_option maxRecDepth 100000 in
theorem w_859 : (Jvm.Cond.instanceMethod ({ cls := "WireFieldModel", name := "count", desc := "(I)I" } : Jvm.MethodName)) ∈ jWS := jWS_in 900 rfl rfl
set_option maxRecDepth 100000 in
theorem w_860 : (Jvm.Cond.code ({ cls := "WireFieldModel", name := "count", desc := "(I)I" } : Jvm.MethodName) prog_9_method_40_code (5 : Nat) (Option.some Jvm.ClassFile.FieldType.int)) ∈ jWS := jWS_in 901 rfl rfl
set_option maxRecDepth 100000 in
theorem w_861 : (Jvm.Cond.methodLink "WireFieldLaw" (88 : Nat) ({ cls := "WireFieldModel", name := "back", desc := "(I)Z" } : Jvm.MethodName)) ∈ jWS := jWS_in 902 rfl rfl
set_option maxRecDepth 100000 in
theorem w_862 : (Jvm.Cond.instanceMethod ({ cls := "WireFieldModel", name := "back", desc := "(I)Z" } : Jvm.MethodName)) ∈ jWS := jWS_in 903 rfl rfl
set_option maxRecDepth 100000 in
theorem w_863 : (Jvm.Cond.selects "WireFieldModel" ({ cls := "WireFieldModel", name := "back", desc := "(I)Z" } : Jvm.MethodName) ({ cls := "WireFieldModel", name := "back", desc := "(I)Z" } : Jvm.MethodName)) ∈ jWS := jWS_in 904 rfl rfl
set_option maxRecDepth 100000 in
theorem w_864 : (Jvm.Cond.code ({ cls := "WireFieldModel", name := "back", desc := "(I)Z" } : Jvm.MethodName) prog_9_method_10_code (3 : Nat) (Option.some Jvm.ClassFile.FieldType.boolean)) ∈ jWS := jWS_in 905 rfl rfl
set_option maxRecDepth 100000 in
theorem w_865 : (Jvm.Cond.methodLink "WireFieldLaw" (92 : Nat) ({ cls := "WireFieldModel", name := "period", desc := "()I" } : Jvm.MethodName)) ∈ jWS := jWS_in 906 rfl rfl
set_option maxRecDepth 100000 in
theorem w_866 : (Jvm.Cond.instanceMethod ({ cls := "WireFieldModel", name := "period", desc := "()I" } : Jvm.MethodName)) ∈ jWS := jWS_in 907 rfl rfl
set_option maxRecDepth 100000 in
theorem w_867 : (Jvm.Cond.selects "WireFieldModel" ({ cls := "WireFieldModel", name := "period", desc := "()I" } : Jvm.MethodName) ({ cls := "WireFieldModel", name := "period", desc := "()I" } : Jvm.MethodName)) ∈ jWS := jWS_in 908 rfl rfl
set_option maxRecDepth 100000 in
theorem w_868 : (Jvm.Cond.code ({ cls := "WireFieldModel", name := "period", desc := "()I" } : Jvm.MethodName) prog_9_method_11_code (5 : Nat) (Option.some Jvm.ClassFile.FieldType.int)) ∈ jWS := jWS_in 909 rfl rfl
set_option maxRecDepth 100000 in
theorem w_869 : (Jvm.Cond.methodLink "WireFieldLaw" (35 : Nat) ({ cls := "WireFieldModel", name := "type", desc := "(C)Z" } : Jvm.MethodName)) ∈ jWS := jWS_in 910 rfl rfl
set_option maxRecDepth 100000 in
theorem w_870 : (Jvm.Cond.instanceMethod ({ cls := "WireFieldModel", name := "type", desc := "(C)Z" } : Jvm.MethodName)) ∈ jWS := jWS_in 911 rfl rfl
set_option maxRecDepth 100000 in
theorem w_871 : (Jvm.Cond.selects "WireFieldModel" ({ cls := "WireFieldModel", name := "type", desc := "(C)Z" } : Jvm.MethodName) ({ cls := "WireFieldModel", name := "type", desc := "(C)Z" } : Jvm.MethodName)) ∈ jWS := jWS_in 912 rfl rfl
set_option maxRecDepth 100000 in
theorem w_872 : (Jvm.Cond.code ({ cls := "WireFieldModel", name := "type", desc := "(C)Z" } : Jvm.MethodName) prog_9_method_12_code (2 : Nat) (Option.some Jvm.ClassFile.FieldType.boolean)) ∈ jWS := jWS_in 913 rfl rfl
set_option maxRecDepth 100000 in
theorem w_873 : (Jvm.Cond.methodLink "WireFieldLaw" (53 : Nat) ({ cls := "WireFieldModel", name := "wipe", desc := "()V" } : Jvm.MethodName)) ∈ jWS := jWS_in 914 rfl rfl
set_option maxRecDepth 100000 in
theorem w_874 : (Jvm.Cond.instanceMethod ({ cls := "WireFieldModel", name := "wipe", desc := "()V" } : Jvm.MethodName)) ∈ jWS := jWS_in 915 rfl rfl
set_option maxRecDepth 100000 in
theorem w_875 : (Jvm.Cond.selects "WireFieldModel" ({ cls := "WireFieldModel", name := "wipe", desc := "()V" } : Jvm.MethodName) ({ cls := "WireFieldModel", name := "wipe", desc := "()V" } : Jvm.MethodName)) ∈ jWS := jWS_in 916 rfl rfl
set_option maxRecDepth 100000 in
theorem w_876 : (Jvm.Cond.code ({ cls := "WireFieldModel", name := "wipe", desc := "()V" } : Jvm.MethodName) prog_9_method_13_code (1 : Nat) (Option.none : Option Jvm.ClassFile.FieldType)) ∈ jWS := jWS_in 917 rfl rfl
set_option maxRecDepth 100000 in
theorem w_877 : (Jvm.Cond.methodLink "WireFieldLaw" (49 : Nat) ({ cls := "WireFieldModel", name := "macro", desc := "(I)V" } : Jvm.MethodName)) ∈ jWS := jWS_in 918 rfl rfl
set_option maxRecDepth 100000 in
theorem w_878 : (Jvm.Cond.instanceMethod ({ cls := "WireFieldModel", name := "macro", desc := "(I)V" } : Jvm.MethodName)) ∈ jWS := jWS_in 919 rfl rfl
set_option maxRecDepth 100000 in
theorem w_879 : (Jvm.Cond.selects "WireFieldModel" ({ cls := "WireFieldModel", name := "macro", desc := "(I)V" } : Jvm.MethodName) ({ cls := "WireFieldModel", name := "macro", desc := "(I)V" } : Jvm.MethodName)) ∈ jWS := jWS_in 920 rfl rfl
set_option maxRecDepth 100000 in
theorem w_880 : (Jvm.Cond.code ({ cls := "WireFieldModel", name := "macro", desc := "(I)V" } : Jvm.MethodName) prog_9_method_19_code (3 : Nat) (Option.none : Option Jvm.ClassFile.FieldType)) ∈ jWS := jWS_in 921 rfl rfl
set_option maxRecDepth 100000 in
theorem w_881 : (Jvm.Cond.methodLink "WireFieldModel" (152 : Nat) ({ cls := "WireFieldModel", name := "reads", desc := "()Z" } : Jvm.MethodName)) ∈ jWS := jWS_in 922 rfl rfl
set_option maxRecDepth 100000 in
theorem w_883 : (Jvm.Cond.instanceMethod ({ cls := "WireFieldModel", name := "reads", desc := "()Z" } : Jvm.MethodName)) ∈ jWS := jWS_in 924 rfl rfl
set_option maxRecDepth 100000 in
theorem w_884 : (Jvm.Cond.code ({ cls := "WireFieldModel", name := "reads", desc := "()Z" } : Jvm.MethodName) prog_9_method_17_code (9 : Nat) (Option.some Jvm.ClassFile.FieldType.boolean)) ∈ jWS := jWS_in 925 rfl rfl
set_option maxRecDepth 100000 in
theorem w_885 : (Jvm.Cond.methodLink "WireFieldModel" (143 : Nat) ({ cls := "WireFieldModel", name := "sign", desc := "(II)I" } : Jvm.MethodName)) ∈ jWS := jWS_in 926 rfl rfl
set_option maxRecDepth 100000 in
theorem w_887 : (Jvm.Cond.instanceMethod ({ cls := "WireFieldModel", name := "sign", desc := "(II)I" } : Jvm.MethodName)) ∈ jWS := jWS_in 928 rfl rfl
set_option maxRecDepth 100000 in
theorem w_888 : (Jvm.Cond.code ({ cls := "WireFieldModel", name := "sign", desc := "(II)I" } : Jvm.MethodName) prog_9_method_14_code (3 : Nat) (Option.some Jvm.ClassFile.FieldType.int)) ∈ jWS := jWS_in 929 rfl rfl
set_option maxRecDepth 100000 in
theorem w_889 : (Jvm.Cond.methodLink "WireFieldModel" (145 : Nat) ({ cls := "WireFieldModel", name := "digit", desc := "(I)Z" } : Jvm.MethodName)) ∈ jWS := jWS_in 930 rfl rfl
set_option maxRecDepth 100000 in
theorem w_890 : (Jvm.Cond.static ({ cls := "WireFieldModel", name := "digit", desc := "(I)Z" } : Jvm.MethodName)) ∈ jWS := jWS_in 931 rfl rfl
set_option maxRecDepth 100000 in
theorem w_891 : (Jvm.Cond.code ({ cls := "WireFieldModel", name := "digit", desc := "(I)Z" } : Jvm.MethodName) prog_9_method_15_code (1 : Nat) (Option.some Jvm.ClassFile.FieldType.boolean)) ∈ jWS := jWS_in 932 rfl rfl
set_option maxRecDepth 100000 in
theorem w_892 : (Jvm.Cond.methodLink "WireFieldModel" (149 : Nat) ({ cls := "WireFieldModel", name := "single", desc := "(I)Z" } : Jvm.MethodName)) ∈ jWS := jWS_in 933 rfl rfl
set_option maxRecDepth 100000 in
theorem w_893 : (Jvm.Cond.static ({ cls := "WireFieldModel", name := "single", desc := "(I)Z" } : Jvm.MethodName)) ∈ jWS := jWS_in 934 rfl rfl
set_option maxRecDepth 100000 in
theorem w_894 : (Jvm.Cond.code ({ cls := "WireFieldModel", name := "single", desc := "(I)Z" } : Jvm.MethodName) prog_9_method_16_code (1 : Nat) (Option.some Jvm.ClassFile.FieldType.boolean)) ∈ jWS := jWS_in 935 rfl rfl
set_option maxRecDepth 100000 in
theorem w_895 : (Jvm.Cond.methodLink "WireFieldLaw" (41 : Nat) ({ cls := "WireFieldModel", name := "draw", desc := "(III)I" } : Jvm.MethodName)) ∈ jWS := jWS_in 936 rfl rfl
set_option maxRecDepth 100000 in
theorem w_896 : (Jvm.Cond.instanceMethod ({ cls := "WireFieldModel", name := "draw", desc := "(III)I" } : Jvm.MethodName)) ∈ jWS := jWS_in 937 rfl rfl
set_option maxRecDepth 100000 in
theorem w_897 : (Jvm.Cond.selects "WireFieldModel" ({ cls := "WireFieldModel", name := "draw", desc := "(III)I" } : Jvm.MethodName) ({ cls := "WireFieldModel", name := "draw", desc := "(III)I" } : Jvm.MethodName)) ∈ jWS := jWS_in 938 rfl rfl
set_option maxRecDepth 100000 in
theorem w_898 : (Jvm.Cond.code ({ cls := "WireFieldModel", name := "draw", desc := "(III)I" } : Jvm.MethodName) prog_9_method_31_code (5 : Nat) (Option.some Jvm.ClassFile.FieldType.int)) ∈ jWS := jWS_in 939 rfl rfl
set_option maxRecDepth 100000 in
theorem w_899 : (Jvm.Cond.methodLink "WireFieldModel" (163 : Nat) ({ cls := "WireFieldModel", name := "is", desc := "(II)Z" } : Jvm.MethodName)) ∈ jWS := jWS_in 940 rfl rfl
set_option maxRecDepth 100000 in
theorem w_900 : (Jvm.Cond.static ({ cls := "WireFieldModel", name := "is", desc := "(II)Z" } : Jvm.MethodName)) ∈ jWS := jWS_in 941 rfl rfl
set_option maxRecDepth 100000 in
theorem w_901 : (Jvm.Cond.code ({ cls := "WireFieldModel", name := "is", desc := "(II)Z" } : Jvm.MethodName) prog_9_method_3_code (2 : Nat) (Option.some Jvm.ClassFile.FieldType.boolean)) ∈ jWS := jWS_in 942 rfl rfl
set_option maxRecDepth 100000 in
theorem w_902 : (Jvm.Cond.methodLink "WireFieldModel" (216 : Nat) ({ cls := "WireFieldModel", name := "complete", desc := "()Z" } : Jvm.MethodName)) ∈ jWS := jWS_in 943 rfl rfl
set_option maxRecDepth 100000 in
theorem w_904 : (Jvm.Cond.instanceMethod ({ cls := "WireFieldModel", name := "complete", desc := "()Z" } : Jvm.MethodName)) ∈ jWS := jWS_in 945 rfl rfl
set_option maxRecDepth 100000 in
theorem w_905 : (Jvm.Cond.code ({ cls := "WireFieldModel", name := "complete", desc := "()Z" } : Jvm.MethodName) prog_9_method_18_code (3 : Nat) (Option.some Jvm.ClassFile.FieldType.boolean)) ∈ jWS := jWS_in 946 rfl rfl
set_option maxRecDepth 100000 in
theorem w_906 : (Jvm.Cond.methodLink "WireFieldModel" (219 : Nat) ({ cls := "WireFieldModel", name := "goThrough", desc := "()V" } : Jvm.MethodName)) ∈ jWS := jWS_in 947 rfl rfl
set_option maxRecDepth 100000 in
theorem w_908 : (Jvm.Cond.instanceMethod ({ cls := "WireFieldModel", name := "goThrough", desc := "()V" } : Jvm.MethodName)) ∈ jWS := jWS_in 949 rfl rfl
set_option maxRecDepth 100000 in
theorem w_909 : (Jvm.Cond.code ({ cls := "WireFieldModel", name := "goThrough", desc := "()V" } : Jvm.MethodName) prog_9_method_30_code (6 : Nat) (Option.none : Option Jvm.ClassFile.FieldType)) ∈ jWS := jWS_in 950 rfl rfl
set_option maxRecDepth 100000 in
theorem w_910 : (Jvm.Cond.methodLink "WireFieldModel" (202 : Nat) ({ cls := "WireFieldModel", name := "comeBack", desc := "()V" } : Jvm.MethodName)) ∈ jWS := jWS_in 951 rfl rfl
set_option maxRecDepth 100000 in
theorem w_912 : (Jvm.Cond.instanceMethod ({ cls := "WireFieldModel", name := "comeBack", desc := "()V" } : Jvm.MethodName)) ∈ jWS := jWS_in 953 rfl rfl
set_option maxRecDepth 100000 in
theorem w_913 : (Jvm.Cond.code ({ cls := "WireFieldModel", name := "comeBack", desc := "()V" } : Jvm.MethodName) prog_9_method_28_code (2 : Nat) (Option.none : Option Jvm.ClassFile.FieldType)) ∈ jWS := jWS_in 954 rfl rfl
set_option maxRecDepth 100000 in
theorem w_914 : (Jvm.Cond.methodLink "WireFieldModel" (199 : Nat) ({ cls := "WireFieldModel", name := "again", desc := "()V" } : Jvm.MethodName)) ∈ jWS := jWS_in 955 rfl rfl
set_option maxRecDepth 100000 in
theorem w_916 : (Jvm.Cond.instanceMethod ({ cls := "WireFieldModel", name := "again", desc := "()V" } : Jvm.MethodName)) ∈ jWS := jWS_in 957 rfl rfl
set_option maxRecDepth 100000 in
theorem w_917 : (Jvm.Cond.code ({ cls := "WireFieldModel", name := "again", desc := "()V" } : Jvm.MethodName) prog_9_method_27_code (2 : Nat) (Option.none : Option Jvm.ClassFile.FieldType)) ∈ jWS := jWS_in 958 rfl rfl
set_option maxRecDepth 100000 in
theorem w_918 : (Jvm.Cond.methodLink "WireFieldModel" (189 : Nat) ({ cls := "WireFieldModel", name := "countOne", desc := "()V" } : Jvm.MethodName)) ∈ jWS := jWS_in 959 rfl rfl
set_option maxRecDepth 100000 in
theorem w_920 : (Jvm.Cond.instanceMethod ({ cls := "WireFieldModel", name := "countOne", desc := "()V" } : Jvm.MethodName)) ∈ jWS := jWS_in 961 rfl rfl
set_option maxRecDepth 100000 in
theorem w_921 : (Jvm.Cond.code ({ cls := "WireFieldModel", name := "countOne", desc := "()V" } : Jvm.MethodName) prog_9_method_22_code (1 : Nat) (Option.none : Option Jvm.ClassFile.FieldType)) ∈ jWS := jWS_in 962 rfl rfl
set_option maxRecDepth 100000 in
theorem w_922 : (Jvm.Cond.methodLink "WireFieldModel" (205 : Nat) ({ cls := "WireFieldModel", name := "open", desc := "(IIII)V" } : Jvm.MethodName)) ∈ jWS := jWS_in 963 rfl rfl
set_option maxRecDepth 100000 in
theorem w_924 : (Jvm.Cond.instanceMethod ({ cls := "WireFieldModel", name := "open", desc := "(IIII)V" } : Jvm.MethodName)) ∈ jWS := jWS_in 965 rfl rfl
set_option maxRecDepth 100000 in
theorem w_925 : (Jvm.Cond.code ({ cls := "WireFieldModel", name := "open", desc := "(IIII)V" } : Jvm.MethodName) prog_9_method_26_code (5 : Nat) (Option.none : Option Jvm.ClassFile.FieldType)) ∈ jWS := jWS_in 966 rfl rfl
set_option maxRecDepth 100000 in
theorem w_926 : (Jvm.Cond.methodLink "WireFieldModel" (209 : Nat) ({ cls := "WireFieldModel", name := "behind", desc := "(II)I" } : Jvm.MethodName)) ∈ jWS := jWS_in 967 rfl rfl
set_option maxRecDepth 100000 in
theorem w_928 : (Jvm.Cond.instanceMethod ({ cls := "WireFieldModel", name := "behind", desc := "(II)I" } : Jvm.MethodName)) ∈ jWS := jWS_in 969 rfl rfl
set_option maxRecDepth 100000 in
theorem w_929 : (Jvm.Cond.code ({ cls := "WireFieldModel", name := "behind", desc := "(II)I" } : Jvm.MethodName) prog_9_method_29_code (6 : Nat) (Option.some Jvm.ClassFile.FieldType.int)) ∈ jWS := jWS_in 970 rfl rfl
set_option maxRecDepth 100000 in
theorem w_930 : (Jvm.Cond.methodLink "WireFieldModel" (212 : Nat) ({ cls := "WireFieldModel", name := "obey", desc := "(I)V" } : Jvm.MethodName)) ∈ jWS := jWS_in 971 rfl rfl
set_option maxRecDepth 100000 in
theorem w_932 : (Jvm.Cond.instanceMethod ({ cls := "WireFieldModel", name := "obey", desc := "(I)V" } : Jvm.MethodName)) ∈ jWS := jWS_in 973 rfl rfl
set_option maxRecDepth 100000 in
theorem w_933 : (Jvm.Cond.code ({ cls := "WireFieldModel", name := "obey", desc := "(I)V" } : Jvm.MethodName) prog_9_method_25_code (4 : Nat) (Option.none : Option Jvm.ClassFile.FieldType)) ∈ jWS := jWS_in 974 rfl rfl
set_option maxRecDepth 100000 in
theorem w_934 : (Jvm.Cond.methodLink "WireFieldModel" (192 : Nat) ({ cls := "WireFieldModel", name := "step", desc := "(IZZ)V" } : Jvm.MethodName)) ∈ jWS := jWS_in 975 rfl rfl
set_option maxRecDepth 100000 in
theorem w_936 : (Jvm.Cond.instanceMethod ({ cls := "WireFieldModel", name := "step", desc := "(IZZ)V" } : Jvm.MethodName)) ∈ jWS := jWS_in 977 rfl rfl
set_option maxRecDepth 100000 in
theorem w_937 : (Jvm.Cond.code ({ cls := "WireFieldModel", name := "step", desc := "(IZZ)V" } : Jvm.MethodName) prog_9_method_24_code (8 : Nat) (Option.none : Option Jvm.ClassFile.FieldType)) ∈ jWS := jWS_in 978 rfl rfl
set_option maxRecDepth 100000 in
theorem w_938 : (Jvm.Cond.methodLink "WireFieldModel" (173 : Nat) ({ cls := "WireFieldModel", name := "across", desc := "(I)I" } : Jvm.MethodName)) ∈ jWS := jWS_in 979 rfl rfl
set_option maxRecDepth 100000 in
theorem w_939 : (Jvm.Cond.static ({ cls := "WireFieldModel", name := "across", desc := "(I)I" } : Jvm.MethodName)) ∈ jWS := jWS_in 980 rfl rfl
set_option maxRecDepth 100000 in
theorem w_940 : (Jvm.Cond.code ({ cls := "WireFieldModel", name := "across", desc := "(I)I" } : Jvm.MethodName) prog_9_method_20_code (1 : Nat) (Option.some Jvm.ClassFile.FieldType.int)) ∈ jWS := jWS_in 981 rfl rfl
set_option maxRecDepth 100000 in
theorem w_941 : (Jvm.Cond.methodLink "WireFieldModel" (179 : Nat) ({ cls := "WireFieldModel", name := "down", desc := "(I)I" } : Jvm.MethodName)) ∈ jWS := jWS_in 982 rfl rfl
set_option maxRecDepth 100000 in
theorem w_942 : (Jvm.Cond.static ({ cls := "WireFieldModel", name := "down", desc := "(I)I" } : Jvm.MethodName)) ∈ jWS := jWS_in 983 rfl rfl
set_option maxRecDepth 100000 in
theorem w_943 : (Jvm.Cond.code ({ cls := "WireFieldModel", name := "down", desc := "(I)I" } : Jvm.MethodName) prog_9_method_21_code (1 : Nat) (Option.some Jvm.ClassFile.FieldType.int)) ∈ jWS := jWS_in 984 rfl rfl
set_option maxRecDepth 100000 in
theorem w_944 : (Jvm.Cond.methodLink "WireFieldModel" (185 : Nat) ({ cls := "WireFieldModel", name := "put", desc := "(III)V" } : Jvm.MethodName)) ∈ jWS := jWS_in 985 rfl rfl
set_option maxRecDepth 100000 in
theorem w_946 : (Jvm.Cond.instanceMethod ({ cls := "WireFieldModel", name := "put", desc := "(III)V" } : Jvm.MethodName)) ∈ jWS := jWS_in 987 rfl rfl
set_option maxRecDepth 100000 in
theorem w_947 : (Jvm.Cond.code ({ cls := "WireFieldModel", name := "put", desc := "(III)V" } : Jvm.MethodName) prog_9_method_23_code (5 : Nat) (Option.none : Option Jvm.ClassFile.FieldType)) ∈ jWS := jWS_in 988 rfl rfl
set_option maxRecDepth 100000 in
theorem w_948 : (Jvm.Cond.methodLink "WireFieldLaw" (58 : Nat) ({ cls := "WireFieldModel", name := "set", desc := "(III)Z" } : Jvm.MethodName)) ∈ jWS := jWS_in 989 rfl rfl
set_option maxRecDepth 100000 in
theorem w_949 : (Jvm.Cond.instanceMethod ({ cls := "WireFieldModel", name := "set", desc := "(III)Z" } : Jvm.MethodName)) ∈ jWS := jWS_in 990 rfl rfl
set_option maxRecDepth 100000 in
theorem w_950 : (Jvm.Cond.selects "WireFieldModel" ({ cls := "WireFieldModel", name := "set", desc := "(III)Z" } : Jvm.MethodName) ({ cls := "WireFieldModel", name := "set", desc := "(III)Z" } : Jvm.MethodName)) ∈ jWS := jWS_in 991 rfl rfl
set_option maxRecDepth 100000 in
theorem w_951 : (Jvm.Cond.code ({ cls := "WireFieldModel", name := "set", desc := "(III)Z" } : Jvm.MethodName) prog_9_method_33_code (4 : Nat) (Option.some Jvm.ClassFile.FieldType.boolean)) ∈ jWS := jWS_in 992 rfl rfl
set_option maxRecDepth 100000 in
theorem w_952 : (Jvm.Cond.methodLink "WireFieldModel" (222 : Nat) ({ cls := "WireFieldModel", name := "change", desc := "(III)V" } : Jvm.MethodName)) ∈ jWS := jWS_in 993 rfl rfl
set_option maxRecDepth 100000 in
theorem w_954 : (Jvm.Cond.instanceMethod ({ cls := "WireFieldModel", name := "change", desc := "(III)V" } : Jvm.MethodName)) ∈ jWS := jWS_in 995 rfl rfl
set_option maxRecDepth 100000 in
theorem w_955 : (Jvm.Cond.code ({ cls := "WireFieldModel", name := "change", desc := "(III)V" } : Jvm.MethodName) prog_9_method_32_code (5 : Nat) (Option.none : Option Jvm.ClassFile.FieldType)) ∈ jWS := jWS_in 996 rfl rfl
set_option maxRecDepth 100000 in
theorem w_956 : (Jvm.Cond.methodLink "WireFieldLaw" (62 : Nat) ({ cls := "WireFieldModel", name := "cell", desc := "(II)I" } : Jvm.MethodName)) ∈ jWS := jWS_in 997 rfl rfl
set_option maxRecDepth 100000 in
theorem w_957 : (Jvm.Cond.instanceMethod ({ cls := "WireFieldModel", name := "cell", desc := "(II)I" } : Jvm.MethodName)) ∈ jWS := jWS_in 998 rfl rfl
set_option maxRecDepth 100000 in
theorem w_958 : (Jvm.Cond.selects "WireFieldModel" ({ cls := "WireFieldModel", name := "cell", desc := "(II)I" } : Jvm.MethodName) ({ cls := "WireFieldModel", name := "cell", desc := "(II)I" } : Jvm.MethodName)) ∈ jWS := jWS_in 999 rfl rfl
set_option maxRecDepth 100000 in
theorem w_959 : (Jvm.Cond.code ({ cls := "WireFieldModel", name := "cell", desc := "(II)I" } : Jvm.MethodName) prog_9_method_34_code (3 : Nat) (Option.some Jvm.ClassFile.FieldType.int)) ∈ jWS := jWS_in 1000 rfl rfl
set_option maxRecDepth 100000 in
theorem w_960 : (Jvm.Cond.methodLink "WireFieldLaw" (67 : Nat) ({ cls := "WireFieldModel", name := "copy", desc := "(IIIIIII)Z" } : Jvm.MethodName)) ∈ jWS := jWS_in 1001 rfl rfl
set_option maxRecDepth 100000 in
theorem w_961 : (Jvm.Cond.instanceMethod ({ cls := "WireFieldModel", name := "copy", desc := "(IIIIIII)Z" } : Jvm.MethodName)) ∈ jWS := jWS_in 1002 rfl rfl
set_option maxRecDepth 100000 in
theorem w_962 : (Jvm.Cond.selects "WireFieldModel" ({ cls := "WireFieldModel", name := "copy", desc := "(IIIIIII)Z" } : Jvm.MethodName) ({ cls := "WireFieldModel", name := "copy", desc := "(IIIIIII)Z" } : Jvm.MethodName)) ∈ jWS := jWS_in 1003 rfl rfl
set_option maxRecDepth 100000 in
theorem w_963 : (Jvm.Cond.code ({ cls := "WireFieldModel", name := "copy", desc := "(IIIIIII)Z" } : Jvm.MethodName) prog_9_method_35_code (18 : Nat) (Option.some Jvm.ClassFile.FieldType.boolean)) ∈ jWS := jWS_in 1004 rfl rfl
set_option maxRecDepth 100000 in
theorem w_964 : (Jvm.Cond.methodLink "WireFieldLaw" (74 : Nat) ({ cls := "WireFieldModel", name := "source", desc := "(IIJI)I" } : Jvm.MethodName)) ∈ jWS := jWS_in 1005 rfl rfl
set_option maxRecDepth 100000 in
theorem w_965 : (Jvm.Cond.instanceMethod ({ cls := "WireFieldModel", name := "source", desc := "(IIJI)I" } : Jvm.MethodName)) ∈ jWS := jWS_in 1006 rfl rfl
set_option maxRecDepth 100000 in
theorem w_966 : (Jvm.Cond.selects "WireFieldModel" ({ cls := "WireFieldModel", name := "source", desc := "(IIJI)I" } : Jvm.MethodName) ({ cls := "WireFieldModel", name := "source", desc := "(IIJI)I" } : Jvm.MethodName)) ∈ jWS := jWS_in 1007 rfl rfl
set_option maxRecDepth 100000 in
theorem w_967 : (Jvm.Cond.code ({ cls := "WireFieldModel", name := "source", desc := "(IIJI)I" } : Jvm.MethodName) prog_9_method_36_code (6 : Nat) (Option.some Jvm.ClassFile.FieldType.int)) ∈ jWS := jWS_in 1008 rfl rfl
set_option maxRecDepth 100000 in
theorem w_968 : (Jvm.Cond.methodLink "WireFieldLaw" (78 : Nat) ({ cls := "WireFieldModel", name := "probe", desc := "(II)I" } : Jvm.MethodName)) ∈ jWS := jWS_in 1009 rfl rfl
set_option maxRecDepth 100000 in
theorem w_969 : (Jvm.Cond.instanceMethod ({ cls := "WireFieldModel", name := "probe", desc := "(II)I" } : Jvm.MethodName)) ∈ jWS := jWS_in 1010 rfl rfl
set_option maxRecDepth 100000 in
theorem w_970 : (Jvm.Cond.selects "WireFieldModel" ({ cls := "WireFieldModel", name := "probe", desc := "(II)I" } : Jvm.MethodName) ({ cls := "WireFieldModel", name := "probe", desc := "(II)I" } : Jvm.MethodName)) ∈ jWS := jWS_in 1011 rfl rfl
set_option maxRecDepth 100000 in
theorem w_971 : (Jvm.Cond.code ({ cls := "WireFieldModel", name := "probe", desc := "(II)I" } : Jvm.MethodName) prog_9_method_37_code (3 : Nat) (Option.some Jvm.ClassFile.FieldType.int)) ∈ jWS := jWS_in 1012 rfl rfl
set_option maxRecDepth 100000 in
theorem w_972 : (Jvm.Cond.methodLink "WireFieldLaw" (96 : Nat) ({ cls := "WireFieldModel", name := "seen", desc := "(II)I" } : Jvm.MethodName)) ∈ jWS := jWS_in 1013 rfl rfl
set_option maxRecDepth 100000 in
theorem w_973 : (Jvm.Cond.instanceMethod ({ cls := "WireFieldModel", name := "seen", desc := "(II)I" } : Jvm.MethodName)) ∈ jWS := jWS_in 1014 rfl rfl
set_option maxRecDepth 100000 in
theorem w_974 : (Jvm.Cond.selects "WireFieldModel" ({ cls := "WireFieldModel", name := "seen", desc := "(II)I" } : Jvm.MethodName) ({ cls := "WireFieldModel", name := "seen", desc := "(II)I" } : Jvm.MethodName)) ∈ jWS := jWS_in 1015 rfl rfl
set_option maxRecDepth 100000 in
theorem w_975 : (Jvm.Cond.code ({ cls := "WireFieldModel", name := "seen", desc := "(II)I" } : Jvm.MethodName) prog_9_method_38_code (3 : Nat) (Option.some Jvm.ClassFile.FieldType.int)) ∈ jWS := jWS_in 1016 rfl rfl
set_option maxRecDepth 100000 in
theorem w_976 : (Jvm.Cond.methodLink "WireFieldLaw" (101 : Nat) ({ cls := "WireFieldModel", name := "record", desc := "(I)J" } : Jvm.MethodName)) ∈ jWS := jWS_in 1017 rfl rfl
set_option maxRecDepth 100000 in
theorem w_977 : (Jvm.Cond.instanceMethod ({ cls := "WireFieldModel", name := "record", desc := "(I)J" } : Jvm.MethodName)) ∈ jWS := jWS_in 1018 rfl rfl
set_option maxRecDepth 100000 in
theorem w_978 : (Jvm.Cond.selects "WireFieldModel" ({ cls := "WireFieldModel", name := "record", desc := "(I)J" } : Jvm.MethodName) ({ cls := "WireFieldModel", name := "record", desc := "(I)J" } : Jvm.MethodName)) ∈ jWS := jWS_in 1019 rfl rfl
set_option maxRecDepth 100000 in
theorem w_979 : (Jvm.Cond.code ({ cls := "WireFieldModel", name := "record", desc := "(I)J" } : Jvm.MethodName) prog_9_method_39_code (2 : Nat) (Option.some Jvm.ClassFile.FieldType.long)) ∈ jWS := jWS_in 1020 rfl rfl
set_option maxRecDepth 100000 in
theorem w_980 : (Jvm.Cond.methodLink "WireFieldLaw" (105 : Nat) ({ cls := "WireFieldModel", name := "look", desc := "(I)I" } : Jvm.MethodName)) ∈ jWS := jWS_in 1021 rfl rfl
set_option maxRecDepth 100000 in
theorem w_981 : (Jvm.Cond.instanceMethod ({ cls := "WireFieldModel", name := "look", desc := "(I)I" } : Jvm.MethodName)) ∈ jWS := jWS_in 1022 rfl rfl
set_option maxRecDepth 100000 in
theorem w_982 : (Jvm.Cond.selects "WireFieldModel" ({ cls := "WireFieldModel", name := "look", desc := "(I)I" } : Jvm.MethodName) ({ cls := "WireFieldModel", name := "look", desc := "(I)I" } : Jvm.MethodName)) ∈ jWS := jWS_in 1023 rfl rfl
set_option maxRecDepth 100000 in
theorem w_983 : (Jvm.Cond.code ({ cls := "WireFieldModel", name := "look", desc := "(I)I" } : Jvm.MethodName) prog_9_method_41_code (2 : Nat) (Option.some Jvm.ClassFile.FieldType.int)) ∈ jWS := jWS_in 1024 rfl rfl
set_option maxRecDepth 100000 in
theorem w_984 : (Jvm.Cond.constantLong "WireFieldLaw" (68 : Nat) (4294967295 : Int64)) ∈ jWS := jWS_in 1025 rfl rfl
set_option maxRecDepth 100000 in
theorem w_986 : (Jvm.Cond.fieldLink "java/lang/String" (15 : Nat) "java/lang/String" "coder" "B") ∈ jWS := jWS_in 1027 rfl rfl
set_option maxRecDepth 100000 in
theorem w_987 : (Jvm.Cond.fieldLink "java/lang/String" (9 : Nat) "java/lang/String" "value" "[B") ∈ jWS := jWS_in 1028 rfl rfl
set_option maxRecDepth 100000 in
theorem w_s0 : (Jvm.Cond.selects "WireField" ({ cls := "WireField", name := "forgetHistory", desc := "()V" } : Jvm.MethodName) ({ cls := "WireField", name := "forgetHistory", desc := "()V" } : Jvm.MethodName)) ∈ jWS := jWS_in 0 rfl rfl
set_option maxRecDepth 100000 in
theorem w_s1 : (Jvm.Cond.selects "WireField" ({ cls := "WireField", name := "putTurned", desc := "(IIIIIII)V" } : Jvm.MethodName) ({ cls := "WireField", name := "putTurned", desc := "(IIIIIII)V" } : Jvm.MethodName)) ∈ jWS := jWS_in 1 rfl rfl
set_option maxRecDepth 100000 in
theorem w_s2 : (Jvm.Cond.selects "WireField" ({ cls := "WireField", name := "makeGeneration", desc := "()V" } : Jvm.MethodName) ({ cls := "WireField", name := "makeGeneration", desc := "()V" } : Jvm.MethodName)) ∈ jWS := jWS_in 2 rfl rfl
set_option maxRecDepth 100000 in
theorem w_s3 : (Jvm.Cond.selects "WireField" ({ cls := "WireField", name := "keepMoment", desc := "()V" } : Jvm.MethodName) ({ cls := "WireField", name := "keepMoment", desc := "()V" } : Jvm.MethodName)) ∈ jWS := jWS_in 3 rfl rfl
set_option maxRecDepth 100000 in
theorem w_s4 : (Jvm.Cond.selects "WireField" ({ cls := "WireField", name := "momentAt", desc := "(I)LWireField$Moment;" } : Jvm.MethodName) ({ cls := "WireField", name := "momentAt", desc := "(I)LWireField$Moment;" } : Jvm.MethodName)) ∈ jWS := jWS_in 4 rfl rfl
set_option maxRecDepth 100000 in
theorem w_s5 : (Jvm.Cond.selects "WireField$Grid" ({ cls := "WireField$Grid", name := "besideOneOrTwoHeads", desc := "(I)I" } : Jvm.MethodName) ({ cls := "WireField$Grid", name := "besideOneOrTwoHeads", desc := "(I)I" } : Jvm.MethodName)) ∈ jWS := jWS_in 5 rfl rfl
set_option maxRecDepth 100000 in
theorem w_s6 : (Jvm.Cond.selects "java/lang/Throwable" ({ cls := "java/lang/Throwable", name := "fillInStackTrace", desc := "(I)Ljava/lang/Throwable;" } : Jvm.MethodName) ({ cls := "java/lang/Throwable", name := "fillInStackTrace", desc := "(I)Ljava/lang/Throwable;" } : Jvm.MethodName)) ∈ jWS := jWS_in 6 rfl rfl
set_option maxRecDepth 100000 in
theorem w_s7 : (Jvm.Cond.selects "WireField$Text" ({ cls := "WireField$Text", name := "endOfOrders", desc := "(III)I" } : Jvm.MethodName) ({ cls := "WireField$Text", name := "endOfOrders", desc := "(III)I" } : Jvm.MethodName)) ∈ jWS := jWS_in 7 rfl rfl
set_option maxRecDepth 100000 in
theorem w_s8 : (Jvm.Cond.selects "WireField$Text" ({ cls := "WireField$Text", name := "endOfOrder", desc := "(III)I" } : Jvm.MethodName) ({ cls := "WireField$Text", name := "endOfOrder", desc := "(III)I" } : Jvm.MethodName)) ∈ jWS := jWS_in 8 rfl rfl
set_option maxRecDepth 100000 in
theorem w_s9 : (Jvm.Cond.selects "WireField$Text" ({ cls := "WireField$Text", name := "endOfBracket", desc := "(ICII)I" } : Jvm.MethodName) ({ cls := "WireField$Text", name := "endOfBracket", desc := "(ICII)I" } : Jvm.MethodName)) ∈ jWS := jWS_in 9 rfl rfl
set_option maxRecDepth 100000 in
theorem w_s10 : (Jvm.Cond.selects "WireField" ({ cls := "WireField", name := "macrosOfLineAreThere", desc := "()Z" } : Jvm.MethodName) ({ cls := "WireField", name := "macrosOfLineAreThere", desc := "()Z" } : Jvm.MethodName)) ∈ jWS := jWS_in 10 rfl rfl
set_option maxRecDepth 100000 in
theorem w_s11 : (Jvm.Cond.selects "WireField" ({ cls := "WireField", name := "perform", desc := "(LWireField$Text;III)Z" } : Jvm.MethodName) ({ cls := "WireField", name := "perform", desc := "(LWireField$Text;III)Z" } : Jvm.MethodName)) ∈ jWS := jWS_in 11 rfl rfl
set_option maxRecDepth 100000 in
theorem w_s12 : (Jvm.Cond.selects "WireField" ({ cls := "WireField", name := "performOrder", desc := "(LWireField$Text;III)Z" } : Jvm.MethodName) ({ cls := "WireField", name := "performOrder", desc := "(LWireField$Text;III)Z" } : Jvm.MethodName)) ∈ jWS := jWS_in 12 rfl rfl
set_option maxRecDepth 100000 in
theorem w_s13 : (Jvm.Cond.selects "WireField" ({ cls := "WireField", name := "performBranch", desc := "(LWireField$Text;III)Z" } : Jvm.MethodName) ({ cls := "WireField", name := "performBranch", desc := "(LWireField$Text;III)Z" } : Jvm.MethodName)) ∈ jWS := jWS_in 13 rfl rfl
set_option maxRecDepth 100000 in
theorem w_s14 : (Jvm.Cond.selects "WireField" ({ cls := "WireField", name := "performMacro", desc := "(II)Z" } : Jvm.MethodName) ({ cls := "WireField", name := "performMacro", desc := "(II)Z" } : Jvm.MethodName)) ∈ jWS := jWS_in 14 rfl rfl
set_option maxRecDepth 100000 in
theorem w_s15 : (Jvm.Cond.selects "WireField$Pen" ({ cls := "WireField$Pen", name := "drawForward", desc := "()Z" } : Jvm.MethodName) ({ cls := "WireField$Pen", name := "drawForward", desc := "()Z" } : Jvm.MethodName)) ∈ jWS := jWS_in 15 rfl rfl
set_option maxRecDepth 100000 in
theorem w_s16 : (Jvm.Cond.selects "WireField$Pen" ({ cls := "WireField$Pen", name := "move", desc := "(I)Z" } : Jvm.MethodName) ({ cls := "WireField$Pen", name := "move", desc := "(I)Z" } : Jvm.MethodName)) ∈ jWS := jWS_in 16 rfl rfl
set_option maxRecDepth 100000 in
theorem w_s17 : (Jvm.Cond.selects "WireField$Pen" ({ cls := "WireField$Pen", name := "columnAt", desc := "(II)I" } : Jvm.MethodName) ({ cls := "WireField$Pen", name := "columnAt", desc := "(II)I" } : Jvm.MethodName)) ∈ jWS := jWS_in 17 rfl rfl
set_option maxRecDepth 100000 in
theorem w_s18 : (Jvm.Cond.selects "WireField$Pen" ({ cls := "WireField$Pen", name := "rowAt", desc := "(II)I" } : Jvm.MethodName) ({ cls := "WireField$Pen", name := "rowAt", desc := "(II)I" } : Jvm.MethodName)) ∈ jWS := jWS_in 18 rfl rfl
set_option maxRecDepth 100000 in
theorem w_s19 : (Jvm.Cond.selects "WireField$Pen" ({ cls := "WireField$Pen", name := "mark", desc := "(II)V" } : Jvm.MethodName) ({ cls := "WireField$Pen", name := "mark", desc := "(II)V" } : Jvm.MethodName)) ∈ jWS := jWS_in 19 rfl rfl
set_option maxRecDepth 100000 in
theorem w_s20 : (Jvm.Cond.selects "WireField$Pen" ({ cls := "WireField$Pen", name := "putElectron", desc := "()V" } : Jvm.MethodName) ({ cls := "WireField$Pen", name := "putElectron", desc := "()V" } : Jvm.MethodName)) ∈ jWS := jWS_in 20 rfl rfl
set_option maxRecDepth 100000 in
theorem w_s21 : (Jvm.Cond.selects "WireField$Pen" ({ cls := "WireField$Pen", name := "drawDiode", desc := "()Z" } : Jvm.MethodName) ({ cls := "WireField$Pen", name := "drawDiode", desc := "()Z" } : Jvm.MethodName)) ∈ jWS := jWS_in 21 rfl rfl
set_option maxRecDepth 100000 in
theorem w_s22 : (Jvm.Cond.selects "WireField$Pen" ({ cls := "WireField$Pen", name := "hasCell", desc := "(II)Z" } : Jvm.MethodName) ({ cls := "WireField$Pen", name := "hasCell", desc := "(II)Z" } : Jvm.MethodName)) ∈ jWS := jWS_in 22 rfl rfl
set_option maxRecDepth 100000 in
theorem w_s23 : (Jvm.Cond.selects "WireFieldModel" ({ cls := "WireFieldModel", name := "generation", desc := "()V" } : Jvm.MethodName) ({ cls := "WireFieldModel", name := "generation", desc := "()V" } : Jvm.MethodName)) ∈ jWS := jWS_in 23 rfl rfl
set_option maxRecDepth 100000 in
theorem w_s24 : (Jvm.Cond.selects "WireFieldModel" ({ cls := "WireFieldModel", name := "keep", desc := "()V" } : Jvm.MethodName) ({ cls := "WireFieldModel", name := "keep", desc := "()V" } : Jvm.MethodName)) ∈ jWS := jWS_in 24 rfl rfl
set_option maxRecDepth 100000 in
theorem w_s25 : (Jvm.Cond.selects "WireFieldModel" ({ cls := "WireFieldModel", name := "lit", desc := "(I)I" } : Jvm.MethodName) ({ cls := "WireFieldModel", name := "lit", desc := "(I)I" } : Jvm.MethodName)) ∈ jWS := jWS_in 25 rfl rfl
set_option maxRecDepth 100000 in
theorem w_s26 : (Jvm.Cond.selects "WireFieldModel" ({ cls := "WireFieldModel", name := "headsIn", desc := "(I)I" } : Jvm.MethodName) ({ cls := "WireFieldModel", name := "headsIn", desc := "(I)I" } : Jvm.MethodName)) ∈ jWS := jWS_in 26 rfl rfl
set_option maxRecDepth 100000 in
theorem w_s27 : (Jvm.Cond.selects "WireFieldModel" ({ cls := "WireFieldModel", name := "count", desc := "(I)I" } : Jvm.MethodName) ({ cls := "WireFieldModel", name := "count", desc := "(I)I" } : Jvm.MethodName)) ∈ jWS := jWS_in 27 rfl rfl
set_option maxRecDepth 100000 in
theorem w_s28 : (Jvm.Cond.selects "WireFieldModel" ({ cls := "WireFieldModel", name := "reads", desc := "()Z" } : Jvm.MethodName) ({ cls := "WireFieldModel", name := "reads", desc := "()Z" } : Jvm.MethodName)) ∈ jWS := jWS_in 28 rfl rfl
set_option maxRecDepth 100000 in
theorem w_s29 : (Jvm.Cond.selects "WireFieldModel" ({ cls := "WireFieldModel", name := "sign", desc := "(II)I" } : Jvm.MethodName) ({ cls := "WireFieldModel", name := "sign", desc := "(II)I" } : Jvm.MethodName)) ∈ jWS := jWS_in 29 rfl rfl
set_option maxRecDepth 100000 in
theorem w_s30 : (Jvm.Cond.selects "WireFieldModel" ({ cls := "WireFieldModel", name := "complete", desc := "()Z" } : Jvm.MethodName) ({ cls := "WireFieldModel", name := "complete", desc := "()Z" } : Jvm.MethodName)) ∈ jWS := jWS_in 30 rfl rfl
set_option maxRecDepth 100000 in
theorem w_s31 : (Jvm.Cond.selects "WireFieldModel" ({ cls := "WireFieldModel", name := "goThrough", desc := "()V" } : Jvm.MethodName) ({ cls := "WireFieldModel", name := "goThrough", desc := "()V" } : Jvm.MethodName)) ∈ jWS := jWS_in 31 rfl rfl
set_option maxRecDepth 100000 in
theorem w_s32 : (Jvm.Cond.selects "WireFieldModel" ({ cls := "WireFieldModel", name := "comeBack", desc := "()V" } : Jvm.MethodName) ({ cls := "WireFieldModel", name := "comeBack", desc := "()V" } : Jvm.MethodName)) ∈ jWS := jWS_in 32 rfl rfl
set_option maxRecDepth 100000 in
theorem w_s33 : (Jvm.Cond.selects "WireFieldModel" ({ cls := "WireFieldModel", name := "again", desc := "()V" } : Jvm.MethodName) ({ cls := "WireFieldModel", name := "again", desc := "()V" } : Jvm.MethodName)) ∈ jWS := jWS_in 33 rfl rfl
set_option maxRecDepth 100000 in
theorem w_s34 : (Jvm.Cond.selects "WireFieldModel" ({ cls := "WireFieldModel", name := "countOne", desc := "()V" } : Jvm.MethodName) ({ cls := "WireFieldModel", name := "countOne", desc := "()V" } : Jvm.MethodName)) ∈ jWS := jWS_in 34 rfl rfl
set_option maxRecDepth 100000 in
theorem w_s35 : (Jvm.Cond.selects "WireFieldModel" ({ cls := "WireFieldModel", name := "open", desc := "(IIII)V" } : Jvm.MethodName) ({ cls := "WireFieldModel", name := "open", desc := "(IIII)V" } : Jvm.MethodName)) ∈ jWS := jWS_in 35 rfl rfl
set_option maxRecDepth 100000 in
theorem w_s36 : (Jvm.Cond.selects "WireFieldModel" ({ cls := "WireFieldModel", name := "behind", desc := "(II)I" } : Jvm.MethodName) ({ cls := "WireFieldModel", name := "behind", desc := "(II)I" } : Jvm.MethodName)) ∈ jWS := jWS_in 36 rfl rfl
set_option maxRecDepth 100000 in
theorem w_s37 : (Jvm.Cond.selects "WireFieldModel" ({ cls := "WireFieldModel", name := "obey", desc := "(I)V" } : Jvm.MethodName) ({ cls := "WireFieldModel", name := "obey", desc := "(I)V" } : Jvm.MethodName)) ∈ jWS := jWS_in 37 rfl rfl
set_option maxRecDepth 100000 in
theorem w_s38 : (Jvm.Cond.selects "WireFieldModel" ({ cls := "WireFieldModel", name := "step", desc := "(IZZ)V" } : Jvm.MethodName) ({ cls := "WireFieldModel", name := "step", desc := "(IZZ)V" } : Jvm.MethodName)) ∈ jWS := jWS_in 38 rfl rfl
set_option maxRecDepth 100000 in
theorem w_s39 : (Jvm.Cond.selects "WireFieldModel" ({ cls := "WireFieldModel", name := "put", desc := "(III)V" } : Jvm.MethodName) ({ cls := "WireFieldModel", name := "put", desc := "(III)V" } : Jvm.MethodName)) ∈ jWS := jWS_in 39 rfl rfl
set_option maxRecDepth 100000 in
theorem w_s40 : (Jvm.Cond.selects "WireFieldModel" ({ cls := "WireFieldModel", name := "change", desc := "(III)V" } : Jvm.MethodName) ({ cls := "WireFieldModel", name := "change", desc := "(III)V" } : Jvm.MethodName)) ∈ jWS := jWS_in 40 rfl rfl
