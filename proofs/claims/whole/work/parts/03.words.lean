/-! the tables' words that every method may use -/
def tG : List Cond := lw_tbl.filter goodWord
theorem tG_at (i : Nat) {w : Cond} (h : tables_1[i]? = some w) (hg : goodWord w = true) : w ∈ tG := List.mem_filter.mpr ⟨List.mem_append_right _ (List.mem_of_getElem? h), hg⟩
theorem tG_pr (i : Nat) {w : Cond} (h : (k2_sels lw_privs)[i]? = some w) (hg : goodWord w = true) : w ∈ tG := List.mem_filter.mpr ⟨List.mem_append_left _ (List.mem_of_getElem? h), hg⟩
theorem q_0 : (Jvm.Cond.initialized "GearGaugeLaw") ∈ tG := tG_at 0 (by decide +kernel) rfl
theorem q_1 : (Jvm.Cond.initialized "GearGauge") ∈ tG := tG_at 1 (by decide +kernel) rfl
theorem q_2 : (Jvm.Cond.initialized "GearGauge$State") ∈ tG := tG_at 2 (by decide +kernel) rfl
theorem q_3 : (Jvm.Cond.initialized "GearGauge$Gear") ∈ tG := tG_at 3 (by decide +kernel) rfl
theorem q_4 : (Jvm.Cond.initialized "GearGauge$Line") ∈ tG := tG_at 4 (by decide +kernel) rfl
theorem q_5 : (Jvm.Cond.initialized "GearGauge$Text") ∈ tG := tG_at 5 (by decide +kernel) rfl
theorem q_6 : (Jvm.Cond.initialized "GearGauge$Mesh") ∈ tG := tG_at 6 (by decide +kernel) rfl
theorem q_7 : (Jvm.Cond.initialized "GearGaugeModel") ∈ tG := tG_at 7 (by decide +kernel) rfl
theorem q_8 : (Jvm.Cond.initialized "java/lang/Throwable") ∈ tG := tG_at 8 (by decide +kernel) rfl
theorem q_9 : (Jvm.Cond.initialized "java/lang/Exception") ∈ tG := tG_at 9 (by decide +kernel) rfl
theorem q_10 : (Jvm.Cond.initialized "java/lang/RuntimeException") ∈ tG := tG_at 10 (by decide +kernel) rfl
theorem q_11 : (Jvm.Cond.initialized "java/lang/IllegalArgumentException") ∈ tG := tG_at 11 (by decide +kernel) rfl
theorem q_12 : (Jvm.Cond.initialized "java/lang/IllegalStateException") ∈ tG := tG_at 12 (by decide +kernel) rfl
theorem q_13 : (Jvm.Cond.initialized "java/lang/System") ∈ tG := tG_at 13 (by decide +kernel) rfl
theorem q_14 : (Jvm.Cond.initialized "java/lang/IndexOutOfBoundsException") ∈ tG := tG_at 14 (by decide +kernel) rfl
theorem q_15 : (Jvm.Cond.initialized "java/lang/Math") ∈ tG := tG_at 15 (by decide +kernel) rfl
theorem q_16 : (Jvm.Cond.classLink "GearGaugeLaw" (8 : Nat) "GearGauge") ∈ tG := tG_at 16 (by decide +kernel) rfl
theorem q_17 : (Jvm.Cond.instantiable "GearGauge" (9 : Nat)) ∈ tG := tG_at 17 (by decide +kernel) rfl
theorem q_18 : (Jvm.Cond.methodLink "GearGaugeLaw" (112 : Nat) ({ cls := "GearGauge", name := "<init>", desc := "()V" } : Jvm.MethodName)) ∈ tG := tG_at 18 (by decide +kernel) rfl
theorem q_19 : (Jvm.Cond.instanceMethod ({ cls := "GearGauge", name := "<init>", desc := "()V" } : Jvm.MethodName)) ∈ tG := tG_at 19 (by decide +kernel) rfl
theorem q_20 : (Jvm.Cond.code ({ cls := "GearGauge", name := "<init>", desc := "()V" } : Jvm.MethodName) prog_1_method_1_code (2 : Nat) (Option.none : Option Jvm.ClassFile.FieldType)) ∈ tG := tG_at 20 (by decide +kernel) rfl
theorem q_21 : (Jvm.Cond.methodLink "GearGauge" (1 : Nat) ({ cls := "java/lang/Object", name := "<init>", desc := "()V" } : Jvm.MethodName)) ∈ tG := tG_at 21 (by decide +kernel) rfl
theorem q_22 : (Jvm.Cond.instanceMethod ({ cls := "java/lang/Object", name := "<init>", desc := "()V" } : Jvm.MethodName)) ∈ tG := tG_at 22 (by decide +kernel) rfl
theorem q_23 : (Jvm.Cond.code ({ cls := "java/lang/Object", name := "<init>", desc := "()V" } : Jvm.MethodName) object_method_1_code (1 : Nat) (Option.none : Option Jvm.ClassFile.FieldType)) ∈ tG := tG_at 23 (by decide +kernel) rfl
theorem q_24 : (Jvm.Cond.classLink "GearGauge" (7 : Nat) "GearGauge$State") ∈ tG := tG_at 24 (by decide +kernel) rfl
theorem q_25 : (Jvm.Cond.instantiable "GearGauge$State" (4 : Nat)) ∈ tG := tG_at 25 (by decide +kernel) rfl
theorem q_26 : (Jvm.Cond.methodLink "GearGauge" (9 : Nat) ({ cls := "GearGauge$State", name := "<init>", desc := "()V" } : Jvm.MethodName)) ∈ tG := tG_at 26 (by decide +kernel) rfl
theorem q_27 : (Jvm.Cond.instanceMethod ({ cls := "GearGauge$State", name := "<init>", desc := "()V" } : Jvm.MethodName)) ∈ tG := tG_at 27 (by decide +kernel) rfl
theorem q_28 : (Jvm.Cond.code ({ cls := "GearGauge$State", name := "<init>", desc := "()V" } : Jvm.MethodName) prog_5_method_1_code (2 : Nat) (Option.none : Option Jvm.ClassFile.FieldType)) ∈ tG := tG_at 28 (by decide +kernel) rfl
theorem q_29 : (Jvm.Cond.methodLink "GearGauge$State" (3 : Nat) ({ cls := "java/lang/Object", name := "<init>", desc := "()V" } : Jvm.MethodName)) ∈ tG := tG_at 29 (by decide +kernel) rfl
theorem q_30 : (Jvm.Cond.classLink "GearGauge$State" (9 : Nat) "GearGauge$Gear") ∈ tG := tG_at 30 (by decide +kernel) rfl
theorem q_32 : (Jvm.Cond.classLink "GearGauge$State" (17 : Nat) "GearGauge$Line") ∈ tG := tG_at 32 (by decide +kernel) rfl
theorem q_34 : (Jvm.Cond.instantiable "GearGauge$Gear" (3 : Nat)) ∈ tG := tG_at 34 (by decide +kernel) rfl
theorem q_36 : (Jvm.Cond.instanceMethod ({ cls := "GearGauge$Gear", name := "<init>", desc := "()V" } : Jvm.MethodName)) ∈ tG := tG_at 36 (by decide +kernel) rfl
theorem q_37 : (Jvm.Cond.code ({ cls := "GearGauge$Gear", name := "<init>", desc := "()V" } : Jvm.MethodName) prog_2_method_1_code (1 : Nat) (Option.none : Option Jvm.ClassFile.FieldType)) ∈ tG := tG_at 37 (by decide +kernel) rfl
theorem q_38 : (Jvm.Cond.methodLink "GearGauge$Gear" (3 : Nat) ({ cls := "java/lang/Object", name := "<init>", desc := "()V" } : Jvm.MethodName)) ∈ tG := tG_at 38 (by decide +kernel) rfl
theorem q_39 : (Jvm.Cond.classLink "GearGauge$Gear" (9 : Nat) "[[I") ∈ tG := tG_at 39 (by decide +kernel) rfl
theorem q_41 : (Jvm.Cond.fieldLink "GearGauge$Gear" (16 : Nat) "GearGauge$Gear" "teeth" "I") ∈ tG := tG_at 41 (by decide +kernel) rfl
theorem q_42 : (Jvm.Cond.fieldLink "GearGauge$Mesh" (28 : Nat) "GearGauge$Gear" "teeth" "I") ∈ tG := tG_at 42 (by decide +kernel) rfl
theorem q_43 : (Jvm.Cond.fieldLink "GearGauge" (110 : Nat) "GearGauge$Gear" "teeth" "I") ∈ tG := tG_at 43 (by decide +kernel) rfl
theorem q_44 : (Jvm.Cond.fieldLink "GearGauge$Gear" (20 : Nat) "GearGauge$Gear" "module" "I") ∈ tG := tG_at 44 (by decide +kernel) rfl
theorem q_45 : (Jvm.Cond.fieldLink "GearGauge" (132 : Nat) "GearGauge$Gear" "module" "I") ∈ tG := tG_at 45 (by decide +kernel) rfl
theorem q_46 : (Jvm.Cond.fieldLink "GearGauge$Gear" (11 : Nat) "GearGauge$Gear" "readings" "[[I") ∈ tG := tG_at 46 (by decide +kernel) rfl
theorem q_47 : (Jvm.Cond.fieldLink "GearGauge" (96 : Nat) "GearGauge$Gear" "readings" "[[I") ∈ tG := tG_at 47 (by decide +kernel) rfl
theorem q_48 : (Jvm.Cond.fieldLink "GearGauge$State" (117 : Nat) "GearGauge$Gear" "readings" "[[I") ∈ tG := tG_at 48 (by decide +kernel) rfl
theorem q_49 : (Jvm.Cond.lays "GearGauge$Gear" "GearGauge$Gear" "teeth" "I") ∈ tG := tG_at 49 (by decide +kernel) rfl
theorem q_51 : (Jvm.Cond.lays "GearGauge$Gear" "GearGauge$Gear" "module" "I") ∈ tG := tG_at 51 (by decide +kernel) rfl
theorem q_53 : (Jvm.Cond.laysFinal "GearGauge$Gear" "GearGauge$Gear" "readings" "[[I") ∈ tG := tG_at 53 (by decide +kernel) rfl
theorem q_55 : (Jvm.Cond.superclass "GearGauge$Gear" "java/lang/Object") ∈ tG := tG_at 55 (by decide +kernel) rfl
theorem q_56 : (Jvm.Cond.arrayClass Jvm.ClassFile.FieldType.int) ∈ tG := tG_at 56 (by decide +kernel) rfl
theorem q_57 : (Jvm.Cond.instantiable "GearGauge$Line" (8 : Nat)) ∈ tG := tG_at 57 (by decide +kernel) rfl
theorem q_59 : (Jvm.Cond.instanceMethod ({ cls := "GearGauge$Line", name := "<init>", desc := "()V" } : Jvm.MethodName)) ∈ tG := tG_at 59 (by decide +kernel) rfl
theorem q_60 : (Jvm.Cond.code ({ cls := "GearGauge$Line", name := "<init>", desc := "()V" } : Jvm.MethodName) prog_3_method_1_code (1 : Nat) (Option.none : Option Jvm.ClassFile.FieldType)) ∈ tG := tG_at 60 (by decide +kernel) rfl
theorem q_61 : (Jvm.Cond.methodLink "GearGauge$Line" (3 : Nat) ({ cls := "java/lang/Object", name := "<init>", desc := "()V" } : Jvm.MethodName)) ∈ tG := tG_at 61 (by decide +kernel) rfl
theorem q_62 : (Jvm.Cond.fieldLink "GearGauge$Line" (15 : Nat) "GearGauge$Line" "gear" "I") ∈ tG := tG_at 62 (by decide +kernel) rfl
theorem q_63 : (Jvm.Cond.fieldLink "GearGauge$State" (44 : Nat) "GearGauge$Line" "gear" "I") ∈ tG := tG_at 63 (by decide +kernel) rfl
theorem q_64 : (Jvm.Cond.fieldLink "GearGauge" (200 : Nat) "GearGauge$Line" "gear" "I") ∈ tG := tG_at 64 (by decide +kernel) rfl
theorem q_65 : (Jvm.Cond.fieldLink "GearGauge$Line" (19 : Nat) "GearGauge$Line" "kind" "I") ∈ tG := tG_at 65 (by decide +kernel) rfl
theorem q_66 : (Jvm.Cond.fieldLink "GearGauge$State" (72 : Nat) "GearGauge$Line" "kind" "I") ∈ tG := tG_at 66 (by decide +kernel) rfl
theorem q_67 : (Jvm.Cond.fieldLink "GearGauge" (203 : Nat) "GearGauge$Line" "kind" "I") ∈ tG := tG_at 67 (by decide +kernel) rfl
theorem q_68 : (Jvm.Cond.fieldLink "GearGauge$Line" (22 : Nat) "GearGauge$Line" "count" "I") ∈ tG := tG_at 68 (by decide +kernel) rfl
theorem q_69 : (Jvm.Cond.fieldLink "GearGauge" (187 : Nat) "GearGauge$Line" "count" "I") ∈ tG := tG_at 69 (by decide +kernel) rfl
theorem q_70 : (Jvm.Cond.fieldLink "GearGauge$Line" (25 : Nat) "GearGauge$Line" "sumX" "J") ∈ tG := tG_at 70 (by decide +kernel) rfl
theorem q_71 : (Jvm.Cond.fieldLink "GearGauge$Line" (29 : Nat) "GearGauge$Line" "sumXX" "J") ∈ tG := tG_at 71 (by decide +kernel) rfl
theorem q_72 : (Jvm.Cond.fieldLink "GearGauge$Line" (32 : Nat) "GearGauge$Line" "sumY" "J") ∈ tG := tG_at 72 (by decide +kernel) rfl
theorem q_73 : (Jvm.Cond.fieldLink "GearGauge$Line" (35 : Nat) "GearGauge$Line" "sumXY" "J") ∈ tG := tG_at 73 (by decide +kernel) rfl
theorem q_74 : (Jvm.Cond.fieldLink "GearGauge$Line" (9 : Nat) "GearGauge$Line" "points" "[I") ∈ tG := tG_at 74 (by decide +kernel) rfl
theorem q_75 : (Jvm.Cond.fieldLink "GearGauge" (208 : Nat) "GearGauge$Line" "points" "[I") ∈ tG := tG_at 75 (by decide +kernel) rfl
theorem q_76 : (Jvm.Cond.lays "GearGauge$Line" "GearGauge$Line" "gear" "I") ∈ tG := tG_at 76 (by decide +kernel) rfl
theorem q_78 : (Jvm.Cond.lays "GearGauge$Line" "GearGauge$Line" "kind" "I") ∈ tG := tG_at 78 (by decide +kernel) rfl
theorem q_80 : (Jvm.Cond.lays "GearGauge$Line" "GearGauge$Line" "count" "I") ∈ tG := tG_at 80 (by decide +kernel) rfl
theorem q_82 : (Jvm.Cond.lays "GearGauge$Line" "GearGauge$Line" "sumX" "J") ∈ tG := tG_at 82 (by decide +kernel) rfl
theorem q_84 : (Jvm.Cond.lays "GearGauge$Line" "GearGauge$Line" "sumXX" "J") ∈ tG := tG_at 84 (by decide +kernel) rfl
theorem q_86 : (Jvm.Cond.lays "GearGauge$Line" "GearGauge$Line" "sumY" "J") ∈ tG := tG_at 86 (by decide +kernel) rfl
theorem q_88 : (Jvm.Cond.lays "GearGauge$Line" "GearGauge$Line" "sumXY" "J") ∈ tG := tG_at 88 (by decide +kernel) rfl
theorem q_90 : (Jvm.Cond.laysFinal "GearGauge$Line" "GearGauge$Line" "points" "[I") ∈ tG := tG_at 90 (by decide +kernel) rfl
theorem q_92 : (Jvm.Cond.superclass "GearGauge$Line" "java/lang/Object") ∈ tG := tG_at 92 (by decide +kernel) rfl
theorem q_93 : (Jvm.Cond.fieldLink "GearGauge$State" (25 : Nat) "GearGauge$State" "gearCount" "I") ∈ tG := tG_at 93 (by decide +kernel) rfl
theorem q_94 : (Jvm.Cond.fieldLink "GearGauge" (62 : Nat) "GearGauge$State" "gearCount" "I") ∈ tG := tG_at 94 (by decide +kernel) rfl
theorem q_95 : (Jvm.Cond.fieldLink "GearGauge$State" (33 : Nat) "GearGauge$State" "lineCount" "I") ∈ tG := tG_at 95 (by decide +kernel) rfl
theorem q_96 : (Jvm.Cond.fieldLink "GearGauge" (175 : Nat) "GearGauge$State" "lineCount" "I") ∈ tG := tG_at 96 (by decide +kernel) rfl
theorem q_97 : (Jvm.Cond.fieldLink "GearGauge$State" (11 : Nat) "GearGauge$State" "gearRow" "[LGearGauge$Gear;") ∈ tG := tG_at 97 (by decide +kernel) rfl
theorem q_98 : (Jvm.Cond.fieldLink "GearGauge" (265 : Nat) "GearGauge$State" "gearRow" "[LGearGauge$Gear;") ∈ tG := tG_at 98 (by decide +kernel) rfl
theorem q_99 : (Jvm.Cond.fieldLink "GearGauge$State" (19 : Nat) "GearGauge$State" "lineRow" "[LGearGauge$Line;") ∈ tG := tG_at 99 (by decide +kernel) rfl
theorem q_100 : (Jvm.Cond.fieldLink "GearGauge" (312 : Nat) "GearGauge$State" "lineRow" "[LGearGauge$Line;") ∈ tG := tG_at 100 (by decide +kernel) rfl
theorem q_101 : (Jvm.Cond.lays "GearGauge$State" "GearGauge$State" "gearCount" "I") ∈ tG := tG_at 101 (by decide +kernel) rfl
theorem q_103 : (Jvm.Cond.lays "GearGauge$State" "GearGauge$State" "lineCount" "I") ∈ tG := tG_at 103 (by decide +kernel) rfl
theorem q_105 : (Jvm.Cond.laysFinal "GearGauge$State" "GearGauge$State" "gearRow" "[LGearGauge$Gear;") ∈ tG := tG_at 105 (by decide +kernel) rfl
theorem q_107 : (Jvm.Cond.laysFinal "GearGauge$State" "GearGauge$State" "lineRow" "[LGearGauge$Line;") ∈ tG := tG_at 107 (by decide +kernel) rfl
theorem q_109 : (Jvm.Cond.superclass "GearGauge$State" "java/lang/Object") ∈ tG := tG_at 109 (by decide +kernel) rfl
theorem q_111 : (Jvm.Cond.classLink "GearGauge" (23 : Nat) "GearGauge$Text") ∈ tG := tG_at 111 (by decide +kernel) rfl
theorem q_112 : (Jvm.Cond.instantiable "GearGauge$Text" (8 : Nat)) ∈ tG := tG_at 112 (by decide +kernel) rfl
theorem q_114 : (Jvm.Cond.instanceMethod ({ cls := "GearGauge$Text", name := "<init>", desc := "()V" } : Jvm.MethodName)) ∈ tG := tG_at 114 (by decide +kernel) rfl
theorem q_115 : (Jvm.Cond.code ({ cls := "GearGauge$Text", name := "<init>", desc := "()V" } : Jvm.MethodName) prog_6_method_1_code (1 : Nat) (Option.none : Option Jvm.ClassFile.FieldType)) ∈ tG := tG_at 115 (by decide +kernel) rfl
theorem q_116 : (Jvm.Cond.methodLink "GearGauge$Text" (3 : Nat) ({ cls := "java/lang/Object", name := "<init>", desc := "()V" } : Jvm.MethodName)) ∈ tG := tG_at 116 (by decide +kernel) rfl
theorem q_117 : (Jvm.Cond.fieldLink "GearGauge$Text" (9 : Nat) "GearGauge$Text" "bytes" "[I") ∈ tG := tG_at 117 (by decide +kernel) rfl
theorem q_118 : (Jvm.Cond.fieldLink "GearGauge" (279 : Nat) "GearGauge$Text" "bytes" "[I") ∈ tG := tG_at 118 (by decide +kernel) rfl
theorem q_119 : (Jvm.Cond.fieldLink "GearGauge$Text" (22 : Nat) "GearGauge$Text" "length" "I") ∈ tG := tG_at 119 (by decide +kernel) rfl
theorem q_120 : (Jvm.Cond.fieldLink "GearGauge" (274 : Nat) "GearGauge$Text" "length" "I") ∈ tG := tG_at 120 (by decide +kernel) rfl
theorem q_121 : (Jvm.Cond.fieldLink "GearGauge$Text" (18 : Nat) "GearGauge$Text" "letter" "I") ∈ tG := tG_at 121 (by decide +kernel) rfl
theorem q_122 : (Jvm.Cond.fieldLink "GearGauge$State" (85 : Nat) "GearGauge$Text" "letter" "I") ∈ tG := tG_at 122 (by decide +kernel) rfl
theorem q_123 : (Jvm.Cond.fieldLink "GearGauge$Text" (36 : Nat) "GearGauge$Text" "numbers" "I") ∈ tG := tG_at 123 (by decide +kernel) rfl
theorem q_124 : (Jvm.Cond.fieldLink "GearGauge$State" (111 : Nat) "GearGauge$Text" "numbers" "I") ∈ tG := tG_at 124 (by decide +kernel) rfl
theorem q_125 : (Jvm.Cond.fieldLink "GearGauge$Text" (15 : Nat) "GearGauge$Text" "values" "[I") ∈ tG := tG_at 125 (by decide +kernel) rfl
theorem q_126 : (Jvm.Cond.fieldLink "GearGauge$State" (90 : Nat) "GearGauge$Text" "values" "[I") ∈ tG := tG_at 126 (by decide +kernel) rfl
theorem q_127 : (Jvm.Cond.fieldLink "GearGauge$Text" (42 : Nat) "GearGauge$Text" "digits" "I") ∈ tG := tG_at 127 (by decide +kernel) rfl
theorem q_128 : (Jvm.Cond.fieldLink "GearGauge$Text" (45 : Nat) "GearGauge$Text" "negative" "Z") ∈ tG := tG_at 128 (by decide +kernel) rfl
theorem q_129 : (Jvm.Cond.fieldLink "GearGauge$Text" (33 : Nat) "GearGauge$Text" "cursor" "I") ∈ tG := tG_at 129 (by decide +kernel) rfl
theorem q_130 : (Jvm.Cond.laysFinal "GearGauge$Text" "GearGauge$Text" "bytes" "[I") ∈ tG := tG_at 130 (by decide +kernel) rfl
theorem q_132 : (Jvm.Cond.lays "GearGauge$Text" "GearGauge$Text" "length" "I") ∈ tG := tG_at 132 (by decide +kernel) rfl
theorem q_134 : (Jvm.Cond.lays "GearGauge$Text" "GearGauge$Text" "letter" "I") ∈ tG := tG_at 134 (by decide +kernel) rfl
theorem q_136 : (Jvm.Cond.lays "GearGauge$Text" "GearGauge$Text" "numbers" "I") ∈ tG := tG_at 136 (by decide +kernel) rfl
theorem q_138 : (Jvm.Cond.laysFinal "GearGauge$Text" "GearGauge$Text" "values" "[I") ∈ tG := tG_at 138 (by decide +kernel) rfl
theorem q_140 : (Jvm.Cond.lays "GearGauge$Text" "GearGauge$Text" "digits" "I") ∈ tG := tG_at 140 (by decide +kernel) rfl
theorem q_142 : (Jvm.Cond.lays "GearGauge$Text" "GearGauge$Text" "negative" "Z") ∈ tG := tG_at 142 (by decide +kernel) rfl
theorem q_144 : (Jvm.Cond.lays "GearGauge$Text" "GearGauge$Text" "cursor" "I") ∈ tG := tG_at 144 (by decide +kernel) rfl
theorem q_146 : (Jvm.Cond.superclass "GearGauge$Text" "java/lang/Object") ∈ tG := tG_at 146 (by decide +kernel) rfl
theorem q_147 : (Jvm.Cond.classLink "GearGauge" (30 : Nat) "GearGauge$Mesh") ∈ tG := tG_at 147 (by decide +kernel) rfl
theorem q_148 : (Jvm.Cond.instantiable "GearGauge$Mesh" (5 : Nat)) ∈ tG := tG_at 148 (by decide +kernel) rfl
theorem q_150 : (Jvm.Cond.instanceMethod ({ cls := "GearGauge$Mesh", name := "<init>", desc := "()V" } : Jvm.MethodName)) ∈ tG := tG_at 150 (by decide +kernel) rfl
theorem q_151 : (Jvm.Cond.code ({ cls := "GearGauge$Mesh", name := "<init>", desc := "()V" } : Jvm.MethodName) prog_4_method_1_code (1 : Nat) (Option.none : Option Jvm.ClassFile.FieldType)) ∈ tG := tG_at 151 (by decide +kernel) rfl
theorem q_152 : (Jvm.Cond.methodLink "GearGauge$Mesh" (3 : Nat) ({ cls := "java/lang/Object", name := "<init>", desc := "()V" } : Jvm.MethodName)) ∈ tG := tG_at 152 (by decide +kernel) rfl
theorem q_153 : (Jvm.Cond.fieldLink "GearGauge$Mesh" (9 : Nat) "GearGauge$Mesh" "period" "I") ∈ tG := tG_at 153 (by decide +kernel) rfl
theorem q_154 : (Jvm.Cond.fieldLink "GearGauge$Mesh" (15 : Nat) "GearGauge$Mesh" "firstMost" "[I") ∈ tG := tG_at 154 (by decide +kernel) rfl
theorem q_155 : (Jvm.Cond.fieldLink "GearGauge$Mesh" (19 : Nat) "GearGauge$Mesh" "firstLeast" "[I") ∈ tG := tG_at 155 (by decide +kernel) rfl
theorem q_156 : (Jvm.Cond.fieldLink "GearGauge$Mesh" (22 : Nat) "GearGauge$Mesh" "secondMost" "[I") ∈ tG := tG_at 156 (by decide +kernel) rfl
theorem q_157 : (Jvm.Cond.fieldLink "GearGauge$Mesh" (25 : Nat) "GearGauge$Mesh" "secondLeast" "[I") ∈ tG := tG_at 157 (by decide +kernel) rfl
theorem q_158 : (Jvm.Cond.lays "GearGauge$Mesh" "GearGauge$Mesh" "period" "I") ∈ tG := tG_at 158 (by decide +kernel) rfl
theorem q_160 : (Jvm.Cond.laysFinal "GearGauge$Mesh" "GearGauge$Mesh" "firstMost" "[I") ∈ tG := tG_at 160 (by decide +kernel) rfl
theorem q_162 : (Jvm.Cond.laysFinal "GearGauge$Mesh" "GearGauge$Mesh" "firstLeast" "[I") ∈ tG := tG_at 162 (by decide +kernel) rfl
theorem q_164 : (Jvm.Cond.laysFinal "GearGauge$Mesh" "GearGauge$Mesh" "secondMost" "[I") ∈ tG := tG_at 164 (by decide +kernel) rfl
theorem q_166 : (Jvm.Cond.laysFinal "GearGauge$Mesh" "GearGauge$Mesh" "secondLeast" "[I") ∈ tG := tG_at 166 (by decide +kernel) rfl
theorem q_168 : (Jvm.Cond.superclass "GearGauge$Mesh" "java/lang/Object") ∈ tG := tG_at 168 (by decide +kernel) rfl
theorem q_169 : (Jvm.Cond.classLink "GearGauge" (37 : Nat) "GearGauge$Gear") ∈ tG := tG_at 169 (by decide +kernel) rfl
theorem q_171 : (Jvm.Cond.fieldLink "GearGauge" (10 : Nat) "GearGauge" "now" "LGearGauge$State;") ∈ tG := tG_at 171 (by decide +kernel) rfl
theorem q_172 : (Jvm.Cond.fieldLink "GearGauge" (16 : Nat) "GearGauge" "trial" "LGearGauge$State;") ∈ tG := tG_at 172 (by decide +kernel) rfl
theorem q_173 : (Jvm.Cond.fieldLink "GearGauge" (19 : Nat) "GearGauge" "saved" "[LGearGauge$State;") ∈ tG := tG_at 173 (by decide +kernel) rfl
theorem q_174 : (Jvm.Cond.fieldLink "GearGauge" (298 : Nat) "GearGauge" "savedCount" "I") ∈ tG := tG_at 174 (by decide +kernel) rfl
theorem q_175 : (Jvm.Cond.fieldLink "GearGauge" (26 : Nat) "GearGauge" "text" "LGearGauge$Text;") ∈ tG := tG_at 175 (by decide +kernel) rfl
theorem q_176 : (Jvm.Cond.fieldLink "GearGauge" (33 : Nat) "GearGauge" "pair" "LGearGauge$Mesh;") ∈ tG := tG_at 176 (by decide +kernel) rfl
theorem q_177 : (Jvm.Cond.fieldLink "GearGauge" (40 : Nat) "GearGauge" "turned" "LGearGauge$Gear;") ∈ tG := tG_at 177 (by decide +kernel) rfl
theorem q_178 : (Jvm.Cond.fieldLink "GearGauge" (44 : Nat) "GearGauge" "rankClass" "[I") ∈ tG := tG_at 178 (by decide +kernel) rfl
theorem q_179 : (Jvm.Cond.fieldLink "GearGauge" (48 : Nat) "GearGauge" "rankRange" "[I") ∈ tG := tG_at 179 (by decide +kernel) rfl
theorem q_180 : (Jvm.Cond.laysFinal "GearGauge" "GearGauge" "now" "LGearGauge$State;") ∈ tG := tG_at 180 (by decide +kernel) rfl
theorem q_182 : (Jvm.Cond.laysFinal "GearGauge" "GearGauge" "trial" "LGearGauge$State;") ∈ tG := tG_at 182 (by decide +kernel) rfl
theorem q_184 : (Jvm.Cond.laysFinal "GearGauge" "GearGauge" "saved" "[LGearGauge$State;") ∈ tG := tG_at 184 (by decide +kernel) rfl
theorem q_186 : (Jvm.Cond.lays "GearGauge" "GearGauge" "savedCount" "I") ∈ tG := tG_at 186 (by decide +kernel) rfl
theorem q_188 : (Jvm.Cond.laysFinal "GearGauge" "GearGauge" "text" "LGearGauge$Text;") ∈ tG := tG_at 188 (by decide +kernel) rfl
theorem q_190 : (Jvm.Cond.laysFinal "GearGauge" "GearGauge" "pair" "LGearGauge$Mesh;") ∈ tG := tG_at 190 (by decide +kernel) rfl
theorem q_192 : (Jvm.Cond.laysFinal "GearGauge" "GearGauge" "turned" "LGearGauge$Gear;") ∈ tG := tG_at 192 (by decide +kernel) rfl
theorem q_194 : (Jvm.Cond.laysFinal "GearGauge" "GearGauge" "rankClass" "[I") ∈ tG := tG_at 194 (by decide +kernel) rfl
theorem q_196 : (Jvm.Cond.laysFinal "GearGauge" "GearGauge" "rankRange" "[I") ∈ tG := tG_at 196 (by decide +kernel) rfl
theorem q_198 : (Jvm.Cond.superclass "GearGauge" "java/lang/Object") ∈ tG := tG_at 198 (by decide +kernel) rfl
theorem q_199 : (Jvm.Cond.methodLink "GearGaugeLaw" (140 : Nat) ({ cls := "GearGauge", name := "gears", desc := "()I" } : Jvm.MethodName)) ∈ tG := tG_at 199 (by decide +kernel) rfl
theorem q_200 : (Jvm.Cond.instanceMethod ({ cls := "GearGauge", name := "gears", desc := "()I" } : Jvm.MethodName)) ∈ tG := tG_at 200 (by decide +kernel) rfl
theorem q_201 : (Jvm.Cond.selects "GearGauge" ({ cls := "GearGauge", name := "gears", desc := "()I" } : Jvm.MethodName) ({ cls := "GearGauge", name := "gears", desc := "()I" } : Jvm.MethodName)) ∈ tG := tG_at 201 (by decide +kernel) rfl
theorem q_202 : (Jvm.Cond.code ({ cls := "GearGauge", name := "gears", desc := "()I" } : Jvm.MethodName) prog_1_method_7_code (1 : Nat) (Option.some Jvm.ClassFile.FieldType.int)) ∈ tG := tG_at 202 (by decide +kernel) rfl
theorem q_203 : (Jvm.Cond.methodLink "GearGaugeLaw" (178 : Nat) ({ cls := "GearGauge", name := "lines", desc := "()I" } : Jvm.MethodName)) ∈ tG := tG_at 203 (by decide +kernel) rfl
theorem q_204 : (Jvm.Cond.instanceMethod ({ cls := "GearGauge", name := "lines", desc := "()I" } : Jvm.MethodName)) ∈ tG := tG_at 204 (by decide +kernel) rfl
theorem q_205 : (Jvm.Cond.selects "GearGauge" ({ cls := "GearGauge", name := "lines", desc := "()I" } : Jvm.MethodName) ({ cls := "GearGauge", name := "lines", desc := "()I" } : Jvm.MethodName)) ∈ tG := tG_at 205 (by decide +kernel) rfl
theorem q_206 : (Jvm.Cond.code ({ cls := "GearGauge", name := "lines", desc := "()I" } : Jvm.MethodName) prog_1_method_19_code (1 : Nat) (Option.some Jvm.ClassFile.FieldType.int)) ∈ tG := tG_at 206 (by decide +kernel) rfl
theorem q_207 : (Jvm.Cond.methodLink "GearGaugeLaw" (222 : Nat) ({ cls := "GearGauge", name := "clearText", desc := "()I" } : Jvm.MethodName)) ∈ tG := tG_at 207 (by decide +kernel) rfl
theorem q_208 : (Jvm.Cond.instanceMethod ({ cls := "GearGauge", name := "clearText", desc := "()I" } : Jvm.MethodName)) ∈ tG := tG_at 208 (by decide +kernel) rfl
theorem q_209 : (Jvm.Cond.selects "GearGauge" ({ cls := "GearGauge", name := "clearText", desc := "()I" } : Jvm.MethodName) ({ cls := "GearGauge", name := "clearText", desc := "()I" } : Jvm.MethodName)) ∈ tG := tG_at 209 (by decide +kernel) rfl
theorem q_210 : (Jvm.Cond.code ({ cls := "GearGauge", name := "clearText", desc := "()I" } : Jvm.MethodName) prog_1_method_33_code (2 : Nat) (Option.some Jvm.ClassFile.FieldType.int)) ∈ tG := tG_at 210 (by decide +kernel) rfl
theorem q_211 : (Jvm.Cond.methodLink "GearGaugeLaw" (226 : Nat) ({ cls := "GearGauge", name := "parse", desc := "()I" } : Jvm.MethodName)) ∈ tG := tG_at 211 (by decide +kernel) rfl
theorem q_212 : (Jvm.Cond.instanceMethod ({ cls := "GearGauge", name := "parse", desc := "()I" } : Jvm.MethodName)) ∈ tG := tG_at 212 (by decide +kernel) rfl
theorem q_213 : (Jvm.Cond.selects "GearGauge" ({ cls := "GearGauge", name := "parse", desc := "()I" } : Jvm.MethodName) ({ cls := "GearGauge", name := "parse", desc := "()I" } : Jvm.MethodName)) ∈ tG := tG_at 213 (by decide +kernel) rfl
theorem q_214 : (Jvm.Cond.code ({ cls := "GearGauge", name := "parse", desc := "()I" } : Jvm.MethodName) prog_1_method_34_code (4 : Nat) (Option.some Jvm.ClassFile.FieldType.int)) ∈ tG := tG_at 214 (by decide +kernel) rfl
theorem q_215 : (Jvm.Cond.methodLink "GearGauge" (282 : Nat) ({ cls := "GearGauge$Text", name := "syntaxError", desc := "()I" } : Jvm.MethodName)) ∈ tG := tG_at 215 (by decide +kernel) rfl
theorem q_216 : (Jvm.Cond.instanceMethod ({ cls := "GearGauge$Text", name := "syntaxError", desc := "()I" } : Jvm.MethodName)) ∈ tG := tG_at 216 (by decide +kernel) rfl
theorem q_217 : (Jvm.Cond.selects "GearGauge$Text" ({ cls := "GearGauge$Text", name := "syntaxError", desc := "()I" } : Jvm.MethodName) ({ cls := "GearGauge$Text", name := "syntaxError", desc := "()I" } : Jvm.MethodName)) ∈ tG := tG_at 217 (by decide +kernel) rfl
theorem q_218 : (Jvm.Cond.code ({ cls := "GearGauge$Text", name := "syntaxError", desc := "()I" } : Jvm.MethodName) prog_6_method_2_code (2 : Nat) (Option.some Jvm.ClassFile.FieldType.int)) ∈ tG := tG_at 218 (by decide +kernel) rfl
theorem q_219 : (Jvm.Cond.methodLink "GearGauge$Text" (25 : Nat) ({ cls := "GearGauge$Text", name := "isPossible", desc := "(I)Z" } : Jvm.MethodName)) ∈ tG := tG_at 219 (by decide +kernel) rfl
theorem q_221 : (Jvm.Cond.instanceMethod ({ cls := "GearGauge$Text", name := "isPossible", desc := "(I)Z" } : Jvm.MethodName)) ∈ tG := tG_at 221 (by decide +kernel) rfl
theorem q_222 : (Jvm.Cond.code ({ cls := "GearGauge$Text", name := "isPossible", desc := "(I)Z" } : Jvm.MethodName) prog_6_method_6_code (2 : Nat) (Option.some Jvm.ClassFile.FieldType.boolean)) ∈ tG := tG_at 222 (by decide +kernel) rfl
theorem q_223 : (Jvm.Cond.methodLink "GearGauge$Text" (49 : Nat) ({ cls := "GearGauge$Text", name := "mostNumbers", desc := "()I" } : Jvm.MethodName)) ∈ tG := tG_at 223 (by decide +kernel) rfl
theorem q_225 : (Jvm.Cond.instanceMethod ({ cls := "GearGauge$Text", name := "mostNumbers", desc := "()I" } : Jvm.MethodName)) ∈ tG := tG_at 225 (by decide +kernel) rfl
theorem q_226 : (Jvm.Cond.code ({ cls := "GearGauge$Text", name := "mostNumbers", desc := "()I" } : Jvm.MethodName) prog_6_method_8_code (1 : Nat) (Option.some Jvm.ClassFile.FieldType.int)) ∈ tG := tG_at 226 (by decide +kernel) rfl
theorem q_227 : (Jvm.Cond.methodLink "GearGauge$Text" (53 : Nat) ({ cls := "GearGauge$Text", name := "leastNumbers", desc := "()I" } : Jvm.MethodName)) ∈ tG := tG_at 227 (by decide +kernel) rfl
theorem q_229 : (Jvm.Cond.instanceMethod ({ cls := "GearGauge$Text", name := "leastNumbers", desc := "()I" } : Jvm.MethodName)) ∈ tG := tG_at 229 (by decide +kernel) rfl
theorem q_230 : (Jvm.Cond.code ({ cls := "GearGauge$Text", name := "leastNumbers", desc := "()I" } : Jvm.MethodName) prog_6_method_7_code (1 : Nat) (Option.some Jvm.ClassFile.FieldType.int)) ∈ tG := tG_at 230 (by decide +kernel) rfl
theorem q_231 : (Jvm.Cond.methodLink "GearGauge$Text" (29 : Nat) ({ cls := "GearGauge$Text", name := "take", desc := "(I)V" } : Jvm.MethodName)) ∈ tG := tG_at 231 (by decide +kernel) rfl
theorem q_233 : (Jvm.Cond.instanceMethod ({ cls := "GearGauge$Text", name := "take", desc := "(I)V" } : Jvm.MethodName)) ∈ tG := tG_at 233 (by decide +kernel) rfl
theorem q_234 : (Jvm.Cond.code ({ cls := "GearGauge$Text", name := "take", desc := "(I)V" } : Jvm.MethodName) prog_6_method_9_code (3 : Nat) (Option.none : Option Jvm.ClassFile.FieldType)) ∈ tG := tG_at 234 (by decide +kernel) rfl
theorem q_235 : (Jvm.Cond.methodLink "GearGauge$Text" (56 : Nat) ({ cls := "GearGauge$Text", name := "startNumber", desc := "()V" } : Jvm.MethodName)) ∈ tG := tG_at 235 (by decide +kernel) rfl
theorem q_237 : (Jvm.Cond.instanceMethod ({ cls := "GearGauge$Text", name := "startNumber", desc := "()V" } : Jvm.MethodName)) ∈ tG := tG_at 237 (by decide +kernel) rfl
theorem q_238 : (Jvm.Cond.code ({ cls := "GearGauge$Text", name := "startNumber", desc := "()V" } : Jvm.MethodName) prog_6_method_10_code (1 : Nat) (Option.none : Option Jvm.ClassFile.FieldType)) ∈ tG := tG_at 238 (by decide +kernel) rfl
theorem q_239 : (Jvm.Cond.methodLink "GearGauge" (285 : Nat) ({ cls := "GearGauge$State", name := "copyFrom", desc := "(LGearGauge$State;)V" } : Jvm.MethodName)) ∈ tG := tG_at 239 (by decide +kernel) rfl
theorem q_240 : (Jvm.Cond.instanceMethod ({ cls := "GearGauge$State", name := "copyFrom", desc := "(LGearGauge$State;)V" } : Jvm.MethodName)) ∈ tG := tG_at 240 (by decide +kernel) rfl
theorem q_241 : (Jvm.Cond.selects "GearGauge$State" ({ cls := "GearGauge$State", name := "copyFrom", desc := "(LGearGauge$State;)V" } : Jvm.MethodName) ({ cls := "GearGauge$State", name := "copyFrom", desc := "(LGearGauge$State;)V" } : Jvm.MethodName)) ∈ tG := tG_at 241 (by decide +kernel) rfl
theorem q_242 : (Jvm.Cond.code ({ cls := "GearGauge$State", name := "copyFrom", desc := "(LGearGauge$State;)V" } : Jvm.MethodName) prog_5_method_2_code (3 : Nat) (Option.none : Option Jvm.ClassFile.FieldType)) ∈ tG := tG_at 242 (by decide +kernel) rfl
theorem q_243 : (Jvm.Cond.methodLink "GearGauge$State" (29 : Nat) ({ cls := "GearGauge$Gear", name := "copyFrom", desc := "(LGearGauge$Gear;)V" } : Jvm.MethodName)) ∈ tG := tG_at 243 (by decide +kernel) rfl
theorem q_244 : (Jvm.Cond.instanceMethod ({ cls := "GearGauge$Gear", name := "copyFrom", desc := "(LGearGauge$Gear;)V" } : Jvm.MethodName)) ∈ tG := tG_at 244 (by decide +kernel) rfl
theorem q_245 : (Jvm.Cond.selects "GearGauge$Gear" ({ cls := "GearGauge$Gear", name := "copyFrom", desc := "(LGearGauge$Gear;)V" } : Jvm.MethodName) ({ cls := "GearGauge$Gear", name := "copyFrom", desc := "(LGearGauge$Gear;)V" } : Jvm.MethodName)) ∈ tG := tG_at 245 (by decide +kernel) rfl
theorem q_246 : (Jvm.Cond.code ({ cls := "GearGauge$Gear", name := "copyFrom", desc := "(LGearGauge$Gear;)V" } : Jvm.MethodName) prog_2_method_2_code (3 : Nat) (Option.none : Option Jvm.ClassFile.FieldType)) ∈ tG := tG_at 246 (by decide +kernel) rfl
theorem q_247 : (Jvm.Cond.methodLink "GearGauge$Gear" (23 : Nat) ({ cls := "GearGauge$Gear", name := "sizeOf", desc := "(I)I" } : Jvm.MethodName)) ∈ tG := tG_at 247 (by decide +kernel) rfl
theorem q_248 : (Jvm.Cond.instanceMethod ({ cls := "GearGauge$Gear", name := "sizeOf", desc := "(I)I" } : Jvm.MethodName)) ∈ tG := tG_at 248 (by decide +kernel) rfl
theorem q_249 : (Jvm.Cond.selects "GearGauge$Gear" ({ cls := "GearGauge$Gear", name := "sizeOf", desc := "(I)I" } : Jvm.MethodName) ({ cls := "GearGauge$Gear", name := "sizeOf", desc := "(I)I" } : Jvm.MethodName)) ∈ tG := tG_at 249 (by decide +kernel) rfl
theorem q_250 : (Jvm.Cond.code ({ cls := "GearGauge$Gear", name := "sizeOf", desc := "(I)I" } : Jvm.MethodName) prog_2_method_4_code (2 : Nat) (Option.some Jvm.ClassFile.FieldType.int)) ∈ tG := tG_at 250 (by decide +kernel) rfl
theorem q_251 : (Jvm.Cond.methodLink "GearGauge$Gear" (27 : Nat) ({ cls := "java/lang/System", name := "arraycopy", desc := "(Ljava/lang/Object;ILjava/lang/Object;II)V" } : Jvm.MethodName)) ∈ tG := tG_at 251 (by decide +kernel) rfl
theorem q_252 : (Jvm.Cond.static ({ cls := "java/lang/System", name := "arraycopy", desc := "(Ljava/lang/Object;ILjava/lang/Object;II)V" } : Jvm.MethodName)) ∈ tG := tG_at 252 (by decide +kernel) rfl
theorem q_253 : (Jvm.Cond.native ({ cls := "java/lang/System", name := "arraycopy", desc := "(Ljava/lang/Object;ILjava/lang/Object;II)V" } : Jvm.MethodName)) ∈ tG := tG_at 253 (by decide +kernel) rfl
theorem q_254 : (Jvm.Cond.methodLink "GearGauge$State" (36 : Nat) ({ cls := "GearGauge$Line", name := "copyFrom", desc := "(LGearGauge$Line;)V" } : Jvm.MethodName)) ∈ tG := tG_at 254 (by decide +kernel) rfl
theorem q_255 : (Jvm.Cond.instanceMethod ({ cls := "GearGauge$Line", name := "copyFrom", desc := "(LGearGauge$Line;)V" } : Jvm.MethodName)) ∈ tG := tG_at 255 (by decide +kernel) rfl
theorem q_256 : (Jvm.Cond.selects "GearGauge$Line" ({ cls := "GearGauge$Line", name := "copyFrom", desc := "(LGearGauge$Line;)V" } : Jvm.MethodName) ({ cls := "GearGauge$Line", name := "copyFrom", desc := "(LGearGauge$Line;)V" } : Jvm.MethodName)) ∈ tG := tG_at 256 (by decide +kernel) rfl
theorem q_257 : (Jvm.Cond.code ({ cls := "GearGauge$Line", name := "copyFrom", desc := "(LGearGauge$Line;)V" } : Jvm.MethodName) prog_3_method_2_code (2 : Nat) (Option.none : Option Jvm.ClassFile.FieldType)) ∈ tG := tG_at 257 (by decide +kernel) rfl
theorem q_258 : (Jvm.Cond.methodLink "GearGauge$Line" (38 : Nat) ({ cls := "java/lang/System", name := "arraycopy", desc := "(Ljava/lang/Object;ILjava/lang/Object;II)V" } : Jvm.MethodName)) ∈ tG := tG_at 258 (by decide +kernel) rfl
theorem q_259 : (Jvm.Cond.methodLink "GearGauge" (288 : Nat) ({ cls := "GearGauge$Text", name := "rewind", desc := "()V" } : Jvm.MethodName)) ∈ tG := tG_at 259 (by decide +kernel) rfl
theorem q_260 : (Jvm.Cond.instanceMethod ({ cls := "GearGauge$Text", name := "rewind", desc := "()V" } : Jvm.MethodName)) ∈ tG := tG_at 260 (by decide +kernel) rfl
theorem q_261 : (Jvm.Cond.selects "GearGauge$Text" ({ cls := "GearGauge$Text", name := "rewind", desc := "()V" } : Jvm.MethodName) ({ cls := "GearGauge$Text", name := "rewind", desc := "()V" } : Jvm.MethodName)) ∈ tG := tG_at 261 (by decide +kernel) rfl
theorem q_262 : (Jvm.Cond.code ({ cls := "GearGauge$Text", name := "rewind", desc := "()V" } : Jvm.MethodName) prog_6_method_3_code (1 : Nat) (Option.none : Option Jvm.ClassFile.FieldType)) ∈ tG := tG_at 262 (by decide +kernel) rfl
theorem q_263 : (Jvm.Cond.methodLink "GearGauge" (291 : Nat) ({ cls := "GearGauge$Text", name := "readCommand", desc := "()Z" } : Jvm.MethodName)) ∈ tG := tG_at 263 (by decide +kernel) rfl
theorem q_264 : (Jvm.Cond.instanceMethod ({ cls := "GearGauge$Text", name := "readCommand", desc := "()Z" } : Jvm.MethodName)) ∈ tG := tG_at 264 (by decide +kernel) rfl
theorem q_265 : (Jvm.Cond.selects "GearGauge$Text" ({ cls := "GearGauge$Text", name := "readCommand", desc := "()Z" } : Jvm.MethodName) ({ cls := "GearGauge$Text", name := "readCommand", desc := "()Z" } : Jvm.MethodName)) ∈ tG := tG_at 265 (by decide +kernel) rfl
theorem q_266 : (Jvm.Cond.code ({ cls := "GearGauge$Text", name := "readCommand", desc := "()Z" } : Jvm.MethodName) prog_6_method_4_code (2 : Nat) (Option.some Jvm.ClassFile.FieldType.boolean)) ∈ tG := tG_at 266 (by decide +kernel) rfl
theorem q_267 : (Jvm.Cond.methodLink "GearGauge" (294 : Nat) ({ cls := "GearGauge$State", name := "carryOut", desc := "(LGearGauge$Text;)Z" } : Jvm.MethodName)) ∈ tG := tG_at 267 (by decide +kernel) rfl
theorem q_268 : (Jvm.Cond.instanceMethod ({ cls := "GearGauge$State", name := "carryOut", desc := "(LGearGauge$Text;)Z" } : Jvm.MethodName)) ∈ tG := tG_at 268 (by decide +kernel) rfl
theorem q_269 : (Jvm.Cond.selects "GearGauge$State" ({ cls := "GearGauge$State", name := "carryOut", desc := "(LGearGauge$Text;)Z" } : Jvm.MethodName) ({ cls := "GearGauge$State", name := "carryOut", desc := "(LGearGauge$Text;)Z" } : Jvm.MethodName)) ∈ tG := tG_at 269 (by decide +kernel) rfl
theorem q_270 : (Jvm.Cond.code ({ cls := "GearGauge$State", name := "carryOut", desc := "(LGearGauge$Text;)Z" } : Jvm.MethodName) prog_5_method_10_code (2 : Nat) (Option.some Jvm.ClassFile.FieldType.boolean)) ∈ tG := tG_at 270 (by decide +kernel) rfl
theorem q_272 : (Jvm.Cond.static ({ cls := "GearGauge", name := "isGear", desc := "(II)Z" } : Jvm.MethodName)) ∈ tG := tG_at 272 (by decide +kernel) rfl
theorem q_273 : (Jvm.Cond.code ({ cls := "GearGauge", name := "isGear", desc := "(II)Z" } : Jvm.MethodName) prog_1_method_45_code (2 : Nat) (Option.some Jvm.ClassFile.FieldType.boolean)) ∈ tG := tG_at 273 (by decide +kernel) rfl
theorem q_274 : (Jvm.Cond.methodLink "GearGauge$State" (98 : Nat) ({ cls := "GearGauge$State", name := "newGear", desc := "(II)I" } : Jvm.MethodName)) ∈ tG := tG_at 274 (by decide +kernel) rfl
theorem q_275 : (Jvm.Cond.instanceMethod ({ cls := "GearGauge$State", name := "newGear", desc := "(II)I" } : Jvm.MethodName)) ∈ tG := tG_at 275 (by decide +kernel) rfl
theorem q_276 : (Jvm.Cond.selects "GearGauge$State" ({ cls := "GearGauge$State", name := "newGear", desc := "(II)I" } : Jvm.MethodName) ({ cls := "GearGauge$State", name := "newGear", desc := "(II)I" } : Jvm.MethodName)) ∈ tG := tG_at 276 (by decide +kernel) rfl
theorem q_277 : (Jvm.Cond.code ({ cls := "GearGauge$State", name := "newGear", desc := "(II)I" } : Jvm.MethodName) prog_5_method_3_code (3 : Nat) (Option.some Jvm.ClassFile.FieldType.int)) ∈ tG := tG_at 277 (by decide +kernel) rfl
theorem q_278 : (Jvm.Cond.methodLink "GearGauge$State" (39 : Nat) ({ cls := "GearGauge$Gear", name := "reset", desc := "(II)V" } : Jvm.MethodName)) ∈ tG := tG_at 278 (by decide +kernel) rfl
theorem q_279 : (Jvm.Cond.instanceMethod ({ cls := "GearGauge$Gear", name := "reset", desc := "(II)V" } : Jvm.MethodName)) ∈ tG := tG_at 279 (by decide +kernel) rfl
theorem q_280 : (Jvm.Cond.selects "GearGauge$Gear" ({ cls := "GearGauge$Gear", name := "reset", desc := "(II)V" } : Jvm.MethodName) ({ cls := "GearGauge$Gear", name := "reset", desc := "(II)V" } : Jvm.MethodName)) ∈ tG := tG_at 280 (by decide +kernel) rfl
theorem q_281 : (Jvm.Cond.code ({ cls := "GearGauge$Gear", name := "reset", desc := "(II)V" } : Jvm.MethodName) prog_2_method_3_code (5 : Nat) (Option.none : Option Jvm.ClassFile.FieldType)) ∈ tG := tG_at 281 (by decide +kernel) rfl
theorem q_282 : (Jvm.Cond.methodLink "GearGauge$State" (101 : Nat) ({ cls := "GearGauge$State", name := "takeSeries", desc := "(ILGearGauge$Text;)Z" } : Jvm.MethodName)) ∈ tG := tG_at 282 (by decide +kernel) rfl
theorem q_284 : (Jvm.Cond.instanceMethod ({ cls := "GearGauge$State", name := "takeSeries", desc := "(ILGearGauge$Text;)Z" } : Jvm.MethodName)) ∈ tG := tG_at 284 (by decide +kernel) rfl
theorem q_285 : (Jvm.Cond.code ({ cls := "GearGauge$State", name := "takeSeries", desc := "(ILGearGauge$Text;)Z" } : Jvm.MethodName) prog_5_method_11_code (4 : Nat) (Option.some Jvm.ClassFile.FieldType.boolean)) ∈ tG := tG_at 285 (by decide +kernel) rfl
theorem q_286 : (Jvm.Cond.methodLink "GearGauge$State" (108 : Nat) ({ cls := "GearGauge$Text", name := "isInRange", desc := "()Z" } : Jvm.MethodName)) ∈ tG := tG_at 286 (by decide +kernel) rfl
theorem q_287 : (Jvm.Cond.instanceMethod ({ cls := "GearGauge$Text", name := "isInRange", desc := "()Z" } : Jvm.MethodName)) ∈ tG := tG_at 287 (by decide +kernel) rfl
theorem q_288 : (Jvm.Cond.selects "GearGauge$Text" ({ cls := "GearGauge$Text", name := "isInRange", desc := "()Z" } : Jvm.MethodName) ({ cls := "GearGauge$Text", name := "isInRange", desc := "()Z" } : Jvm.MethodName)) ∈ tG := tG_at 288 (by decide +kernel) rfl
theorem q_289 : (Jvm.Cond.code ({ cls := "GearGauge$Text", name := "isInRange", desc := "()Z" } : Jvm.MethodName) prog_6_method_5_code (2 : Nat) (Option.some Jvm.ClassFile.FieldType.boolean)) ∈ tG := tG_at 289 (by decide +kernel) rfl
theorem q_291 : (Jvm.Cond.static ({ cls := "GearGauge", name := "isDeviation", desc := "(I)Z" } : Jvm.MethodName)) ∈ tG := tG_at 291 (by decide +kernel) rfl
theorem q_292 : (Jvm.Cond.code ({ cls := "GearGauge", name := "isDeviation", desc := "(I)Z" } : Jvm.MethodName) prog_1_method_46_code (1 : Nat) (Option.some Jvm.ClassFile.FieldType.boolean)) ∈ tG := tG_at 292 (by decide +kernel) rfl
theorem q_293 : (Jvm.Cond.methodLink "GearGauge$State" (114 : Nat) ({ cls := "GearGauge$Gear", name := "sizeOf", desc := "(I)I" } : Jvm.MethodName)) ∈ tG := tG_at 293 (by decide +kernel) rfl
theorem q_294 : (Jvm.Cond.methodLink "GearGauge$State" (121 : Nat) ({ cls := "java/lang/System", name := "arraycopy", desc := "(Ljava/lang/Object;ILjava/lang/Object;II)V" } : Jvm.MethodName)) ∈ tG := tG_at 294 (by decide +kernel) rfl
theorem q_295 : (Jvm.Cond.methodLink "GearGauge$State" (105 : Nat) ({ cls := "GearGauge$State", name := "takeLine", desc := "(ILGearGauge$Text;)Z" } : Jvm.MethodName)) ∈ tG := tG_at 295 (by decide +kernel) rfl
theorem q_297 : (Jvm.Cond.instanceMethod ({ cls := "GearGauge$State", name := "takeLine", desc := "(ILGearGauge$Text;)Z" } : Jvm.MethodName)) ∈ tG := tG_at 297 (by decide +kernel) rfl
theorem q_298 : (Jvm.Cond.code ({ cls := "GearGauge$State", name := "takeLine", desc := "(ILGearGauge$Text;)Z" } : Jvm.MethodName) prog_5_method_12_code (5 : Nat) (Option.some Jvm.ClassFile.FieldType.boolean)) ∈ tG := tG_at 298 (by decide +kernel) rfl
theorem q_299 : (Jvm.Cond.methodLink "GearGauge$State" (127 : Nat) ({ cls := "GearGauge$State", name := "newLine", desc := "(II)I" } : Jvm.MethodName)) ∈ tG := tG_at 299 (by decide +kernel) rfl
theorem q_300 : (Jvm.Cond.instanceMethod ({ cls := "GearGauge$State", name := "newLine", desc := "(II)I" } : Jvm.MethodName)) ∈ tG := tG_at 300 (by decide +kernel) rfl
theorem q_301 : (Jvm.Cond.selects "GearGauge$State" ({ cls := "GearGauge$State", name := "newLine", desc := "(II)I" } : Jvm.MethodName) ({ cls := "GearGauge$State", name := "newLine", desc := "(II)I" } : Jvm.MethodName)) ∈ tG := tG_at 301 (by decide +kernel) rfl
theorem q_302 : (Jvm.Cond.code ({ cls := "GearGauge$State", name := "newLine", desc := "(II)I" } : Jvm.MethodName) prog_5_method_4_code (3 : Nat) (Option.some Jvm.ClassFile.FieldType.int)) ∈ tG := tG_at 302 (by decide +kernel) rfl
theorem q_303 : (Jvm.Cond.methodLink "GearGauge$State" (43 : Nat) ({ cls := "GearGauge$Line", name := "reset", desc := "(II)V" } : Jvm.MethodName)) ∈ tG := tG_at 303 (by decide +kernel) rfl
theorem q_304 : (Jvm.Cond.instanceMethod ({ cls := "GearGauge$Line", name := "reset", desc := "(II)V" } : Jvm.MethodName)) ∈ tG := tG_at 304 (by decide +kernel) rfl
theorem q_305 : (Jvm.Cond.selects "GearGauge$Line" ({ cls := "GearGauge$Line", name := "reset", desc := "(II)V" } : Jvm.MethodName) ({ cls := "GearGauge$Line", name := "reset", desc := "(II)V" } : Jvm.MethodName)) ∈ tG := tG_at 305 (by decide +kernel) rfl
theorem q_306 : (Jvm.Cond.code ({ cls := "GearGauge$Line", name := "reset", desc := "(II)V" } : Jvm.MethodName) prog_3_method_3_code (3 : Nat) (Option.none : Option Jvm.ClassFile.FieldType)) ∈ tG := tG_at 306 (by decide +kernel) rfl
theorem q_307 : (Jvm.Cond.methodLink "GearGauge$State" (130 : Nat) ({ cls := "GearGauge$Line", name := "push", desc := "(I)V" } : Jvm.MethodName)) ∈ tG := tG_at 307 (by decide +kernel) rfl
theorem q_308 : (Jvm.Cond.instanceMethod ({ cls := "GearGauge$Line", name := "push", desc := "(I)V" } : Jvm.MethodName)) ∈ tG := tG_at 308 (by decide +kernel) rfl
theorem q_309 : (Jvm.Cond.selects "GearGauge$Line" ({ cls := "GearGauge$Line", name := "push", desc := "(I)V" } : Jvm.MethodName) ({ cls := "GearGauge$Line", name := "push", desc := "(I)V" } : Jvm.MethodName)) ∈ tG := tG_at 309 (by decide +kernel) rfl
theorem q_310 : (Jvm.Cond.code ({ cls := "GearGauge$Line", name := "push", desc := "(I)V" } : Jvm.MethodName) prog_3_method_4_code (2 : Nat) (Option.none : Option Jvm.ClassFile.FieldType)) ∈ tG := tG_at 310 (by decide +kernel) rfl
theorem q_311 : (Jvm.Cond.methodLink "GearGauge" (71 : Nat) ({ cls := "GearGauge", name := "save", desc := "()V" } : Jvm.MethodName)) ∈ tG := tG_at 311 (by decide +kernel) rfl
theorem q_313 : (Jvm.Cond.instanceMethod ({ cls := "GearGauge", name := "save", desc := "()V" } : Jvm.MethodName)) ∈ tG := tG_at 313 (by decide +kernel) rfl
theorem q_314 : (Jvm.Cond.code ({ cls := "GearGauge", name := "save", desc := "()V" } : Jvm.MethodName) prog_1_method_37_code (3 : Nat) (Option.none : Option Jvm.ClassFile.FieldType)) ∈ tG := tG_at 314 (by decide +kernel) rfl
theorem q_315 : (Jvm.Cond.methodLink "GearGaugeLaw" (234 : Nat) ({ cls := "GearGauge", name := "digest", desc := "()J" } : Jvm.MethodName)) ∈ tG := tG_at 315 (by decide +kernel) rfl
theorem q_316 : (Jvm.Cond.instanceMethod ({ cls := "GearGauge", name := "digest", desc := "()J" } : Jvm.MethodName)) ∈ tG := tG_at 316 (by decide +kernel) rfl
theorem q_317 : (Jvm.Cond.selects "GearGauge" ({ cls := "GearGauge", name := "digest", desc := "()J" } : Jvm.MethodName) ({ cls := "GearGauge", name := "digest", desc := "()J" } : Jvm.MethodName)) ∈ tG := tG_at 317 (by decide +kernel) rfl
theorem q_318 : (Jvm.Cond.code ({ cls := "GearGauge", name := "digest", desc := "()J" } : Jvm.MethodName) prog_1_method_36_code (7 : Nat) (Option.some Jvm.ClassFile.FieldType.long)) ∈ tG := tG_at 318 (by decide +kernel) rfl
theorem q_319 : (Jvm.Cond.constantLong "GearGauge" (303 : Nat) (2963 : Int64)) ∈ tG := tG_at 319 (by decide +kernel) rfl
theorem q_320 : (Jvm.Cond.methodLink "GearGauge" (305 : Nat) ({ cls := "GearGauge", name := "mixed", desc := "(JI)J" } : Jvm.MethodName)) ∈ tG := tG_at 320 (by decide +kernel) rfl
theorem q_321 : (Jvm.Cond.static ({ cls := "GearGauge", name := "mixed", desc := "(JI)J" } : Jvm.MethodName)) ∈ tG := tG_at 321 (by decide +kernel) rfl
theorem q_322 : (Jvm.Cond.code ({ cls := "GearGauge", name := "mixed", desc := "(JI)J" } : Jvm.MethodName) prog_1_method_56_code (3 : Nat) (Option.some Jvm.ClassFile.FieldType.long)) ∈ tG := tG_at 322 (by decide +kernel) rfl
theorem q_323 : (Jvm.Cond.constantLong "GearGauge" (350 : Nat) (31 : Int64)) ∈ tG := tG_at 323 (by decide +kernel) rfl
theorem q_324 : (Jvm.Cond.methodLink "GearGauge" (135 : Nat) ({ cls := "GearGauge$State", name := "linesOf", desc := "(I)I" } : Jvm.MethodName)) ∈ tG := tG_at 324 (by decide +kernel) rfl
theorem q_325 : (Jvm.Cond.instanceMethod ({ cls := "GearGauge$State", name := "linesOf", desc := "(I)I" } : Jvm.MethodName)) ∈ tG := tG_at 325 (by decide +kernel) rfl
theorem q_326 : (Jvm.Cond.selects "GearGauge$State" ({ cls := "GearGauge$State", name := "linesOf", desc := "(I)I" } : Jvm.MethodName) ({ cls := "GearGauge$State", name := "linesOf", desc := "(I)I" } : Jvm.MethodName)) ∈ tG := tG_at 326 (by decide +kernel) rfl
theorem q_327 : (Jvm.Cond.code ({ cls := "GearGauge$State", name := "linesOf", desc := "(I)I" } : Jvm.MethodName) prog_5_method_7_code (4 : Nat) (Option.some Jvm.ClassFile.FieldType.int)) ∈ tG := tG_at 327 (by decide +kernel) rfl
theorem q_328 : (Jvm.Cond.methodLink "GearGauge" (138 : Nat) ({ cls := "GearGauge", name := "classOfGear", desc := "(I)I" } : Jvm.MethodName)) ∈ tG := tG_at 328 (by decide +kernel) rfl
theorem q_330 : (Jvm.Cond.instanceMethod ({ cls := "GearGauge", name := "classOfGear", desc := "(I)I" } : Jvm.MethodName)) ∈ tG := tG_at 330 (by decide +kernel) rfl
theorem q_331 : (Jvm.Cond.code ({ cls := "GearGauge", name := "classOfGear", desc := "(I)I" } : Jvm.MethodName) prog_1_method_47_code (5 : Nat) (Option.some Jvm.ClassFile.FieldType.int)) ∈ tG := tG_at 331 (by decide +kernel) rfl
theorem q_332 : (Jvm.Cond.methodLink "GearGauge" (241 : Nat) ({ cls := "GearGauge", name := "baseTolerance", desc := "(LGearGauge$Gear;I)I" } : Jvm.MethodName)) ∈ tG := tG_at 332 (by decide +kernel) rfl
theorem q_333 : (Jvm.Cond.static ({ cls := "GearGauge", name := "baseTolerance", desc := "(LGearGauge$Gear;I)I" } : Jvm.MethodName)) ∈ tG := tG_at 333 (by decide +kernel) rfl
theorem q_334 : (Jvm.Cond.code ({ cls := "GearGauge", name := "baseTolerance", desc := "(LGearGauge$Gear;I)I" } : Jvm.MethodName) prog_1_method_50_code (7 : Nat) (Option.some Jvm.ClassFile.FieldType.int)) ∈ tG := tG_at 334 (by decide +kernel) rfl
theorem q_335 : (Jvm.Cond.methodLink "GearGauge" (338 : Nat) ({ cls := "GearGauge", name := "root", desc := "(I)I" } : Jvm.MethodName)) ∈ tG := tG_at 335 (by decide +kernel) rfl
theorem q_336 : (Jvm.Cond.static ({ cls := "GearGauge", name := "root", desc := "(I)I" } : Jvm.MethodName)) ∈ tG := tG_at 336 (by decide +kernel) rfl
theorem q_337 : (Jvm.Cond.code ({ cls := "GearGauge", name := "root", desc := "(I)I" } : Jvm.MethodName) prog_1_method_53_code (3 : Nat) (Option.some Jvm.ClassFile.FieldType.int)) ∈ tG := tG_at 337 (by decide +kernel) rfl
theorem q_338 : (Jvm.Cond.methodLink "GearGauge" (170 : Nat) ({ cls := "GearGauge$State", name := "deviationOf", desc := "(II)I" } : Jvm.MethodName)) ∈ tG := tG_at 338 (by decide +kernel) rfl
theorem q_339 : (Jvm.Cond.instanceMethod ({ cls := "GearGauge$State", name := "deviationOf", desc := "(II)I" } : Jvm.MethodName)) ∈ tG := tG_at 339 (by decide +kernel) rfl
theorem q_340 : (Jvm.Cond.selects "GearGauge$State" ({ cls := "GearGauge$State", name := "deviationOf", desc := "(II)I" } : Jvm.MethodName) ({ cls := "GearGauge$State", name := "deviationOf", desc := "(II)I" } : Jvm.MethodName)) ∈ tG := tG_at 340 (by decide +kernel) rfl
theorem q_341 : (Jvm.Cond.code ({ cls := "GearGauge$State", name := "deviationOf", desc := "(II)I" } : Jvm.MethodName) prog_5_method_8_code (4 : Nat) (Option.some Jvm.ClassFile.FieldType.int)) ∈ tG := tG_at 341 (by decide +kernel) rfl
theorem q_342 : (Jvm.Cond.methodLink "GearGauge$State" (51 : Nat) ({ cls := "GearGauge$Gear", name := "greatestPitch", desc := "(I)I" } : Jvm.MethodName)) ∈ tG := tG_at 342 (by decide +kernel) rfl
theorem q_343 : (Jvm.Cond.instanceMethod ({ cls := "GearGauge$Gear", name := "greatestPitch", desc := "(I)I" } : Jvm.MethodName)) ∈ tG := tG_at 343 (by decide +kernel) rfl
theorem q_344 : (Jvm.Cond.selects "GearGauge$Gear" ({ cls := "GearGauge$Gear", name := "greatestPitch", desc := "(I)I" } : Jvm.MethodName) ({ cls := "GearGauge$Gear", name := "greatestPitch", desc := "(I)I" } : Jvm.MethodName)) ∈ tG := tG_at 344 (by decide +kernel) rfl
theorem q_345 : (Jvm.Cond.code ({ cls := "GearGauge$Gear", name := "greatestPitch", desc := "(I)I" } : Jvm.MethodName) prog_2_method_10_code (6 : Nat) (Option.some Jvm.ClassFile.FieldType.int)) ∈ tG := tG_at 345 (by decide +kernel) rfl
theorem q_346 : (Jvm.Cond.methodLink "GearGauge$Gear" (54 : Nat) ({ cls := "GearGauge$Gear", name := "indexAt", desc := "(II)I" } : Jvm.MethodName)) ∈ tG := tG_at 346 (by decide +kernel) rfl
theorem q_347 : (Jvm.Cond.instanceMethod ({ cls := "GearGauge$Gear", name := "indexAt", desc := "(II)I" } : Jvm.MethodName)) ∈ tG := tG_at 347 (by decide +kernel) rfl
theorem q_348 : (Jvm.Cond.selects "GearGauge$Gear" ({ cls := "GearGauge$Gear", name := "indexAt", desc := "(II)I" } : Jvm.MethodName) ({ cls := "GearGauge$Gear", name := "indexAt", desc := "(II)I" } : Jvm.MethodName)) ∈ tG := tG_at 348 (by decide +kernel) rfl
theorem q_349 : (Jvm.Cond.code ({ cls := "GearGauge$Gear", name := "indexAt", desc := "(II)I" } : Jvm.MethodName) prog_2_method_9_code (4 : Nat) (Option.some Jvm.ClassFile.FieldType.int)) ∈ tG := tG_at 349 (by decide +kernel) rfl
theorem q_350 : (Jvm.Cond.methodLink "GearGauge$Gear" (43 : Nat) ({ cls := "GearGauge$Gear", name := "closingError", desc := "(I)I" } : Jvm.MethodName)) ∈ tG := tG_at 350 (by decide +kernel) rfl
theorem q_351 : (Jvm.Cond.instanceMethod ({ cls := "GearGauge$Gear", name := "closingError", desc := "(I)I" } : Jvm.MethodName)) ∈ tG := tG_at 351 (by decide +kernel) rfl
theorem q_352 : (Jvm.Cond.selects "GearGauge$Gear" ({ cls := "GearGauge$Gear", name := "closingError", desc := "(I)I" } : Jvm.MethodName) ({ cls := "GearGauge$Gear", name := "closingError", desc := "(I)I" } : Jvm.MethodName)) ∈ tG := tG_at 352 (by decide +kernel) rfl
theorem q_353 : (Jvm.Cond.code ({ cls := "GearGauge$Gear", name := "closingError", desc := "(I)I" } : Jvm.MethodName) prog_2_method_5_code (2 : Nat) (Option.some Jvm.ClassFile.FieldType.int)) ∈ tG := tG_at 353 (by decide +kernel) rfl
theorem q_355 : (Jvm.Cond.static ({ cls := "GearGauge", name := "rounded", desc := "(JJ)I" } : Jvm.MethodName)) ∈ tG := tG_at 355 (by decide +kernel) rfl
theorem q_356 : (Jvm.Cond.code ({ cls := "GearGauge", name := "rounded", desc := "(JJ)I" } : Jvm.MethodName) prog_1_method_54_code (4 : Nat) (Option.some Jvm.ClassFile.FieldType.int)) ∈ tG := tG_at 356 (by decide +kernel) rfl
theorem q_357 : (Jvm.Cond.constantLong "GearGauge" (341 : Nat) (2 : Int64)) ∈ tG := tG_at 357 (by decide +kernel) rfl
theorem q_358 : (Jvm.Cond.methodLink "GearGauge" (343 : Nat) ({ cls := "java/lang/Math", name := "floorDiv", desc := "(JJ)J" } : Jvm.MethodName)) ∈ tG := tG_at 358 (by decide +kernel) rfl
theorem q_359 : (Jvm.Cond.static ({ cls := "java/lang/Math", name := "floorDiv", desc := "(JJ)J" } : Jvm.MethodName)) ∈ tG := tG_at 359 (by decide +kernel) rfl
theorem q_360 : (Jvm.Cond.code ({ cls := "java/lang/Math", name := "floorDiv", desc := "(JJ)J" } : Jvm.MethodName) prog_13_method_49_code (6 : Nat) (Option.some Jvm.ClassFile.FieldType.long)) ∈ tG := tG_at 360 (by decide +kernel) rfl
theorem q_361 : (Jvm.Cond.methodLink "GearGauge$Gear" (58 : Nat) ({ cls := "java/lang/Math", name := "abs", desc := "(I)I" } : Jvm.MethodName)) ∈ tG := tG_at 361 (by decide +kernel) rfl
theorem q_362 : (Jvm.Cond.static ({ cls := "java/lang/Math", name := "abs", desc := "(I)I" } : Jvm.MethodName)) ∈ tG := tG_at 362 (by decide +kernel) rfl
theorem q_363 : (Jvm.Cond.code ({ cls := "java/lang/Math", name := "abs", desc := "(I)I" } : Jvm.MethodName) prog_13_method_59_code (1 : Nat) (Option.some Jvm.ClassFile.FieldType.int)) ∈ tG := tG_at 363 (by decide +kernel) rfl
theorem q_364 : (Jvm.Cond.methodLink "GearGauge$Gear" (63 : Nat) ({ cls := "java/lang/Math", name := "max", desc := "(II)I" } : Jvm.MethodName)) ∈ tG := tG_at 364 (by decide +kernel) rfl
theorem q_365 : (Jvm.Cond.static ({ cls := "java/lang/Math", name := "max", desc := "(II)I" } : Jvm.MethodName)) ∈ tG := tG_at 365 (by decide +kernel) rfl
theorem q_366 : (Jvm.Cond.code ({ cls := "java/lang/Math", name := "max", desc := "(II)I" } : Jvm.MethodName) prog_13_method_65_code (2 : Nat) (Option.some Jvm.ClassFile.FieldType.int)) ∈ tG := tG_at 366 (by decide +kernel) rfl
theorem q_367 : (Jvm.Cond.methodLink "GearGauge$State" (55 : Nat) ({ cls := "java/lang/Math", name := "max", desc := "(II)I" } : Jvm.MethodName)) ∈ tG := tG_at 367 (by decide +kernel) rfl
theorem q_368 : (Jvm.Cond.methodLink "GearGauge$State" (61 : Nat) ({ cls := "GearGauge$Gear", name := "indexRange", desc := "(I)I" } : Jvm.MethodName)) ∈ tG := tG_at 368 (by decide +kernel) rfl
theorem q_369 : (Jvm.Cond.instanceMethod ({ cls := "GearGauge$Gear", name := "indexRange", desc := "(I)I" } : Jvm.MethodName)) ∈ tG := tG_at 369 (by decide +kernel) rfl
theorem q_370 : (Jvm.Cond.selects "GearGauge$Gear" ({ cls := "GearGauge$Gear", name := "indexRange", desc := "(I)I" } : Jvm.MethodName) ({ cls := "GearGauge$Gear", name := "indexRange", desc := "(I)I" } : Jvm.MethodName)) ∈ tG := tG_at 370 (by decide +kernel) rfl
theorem q_371 : (Jvm.Cond.code ({ cls := "GearGauge$Gear", name := "indexRange", desc := "(I)I" } : Jvm.MethodName) prog_2_method_11_code (6 : Nat) (Option.some Jvm.ClassFile.FieldType.int)) ∈ tG := tG_at 371 (by decide +kernel) rfl
theorem q_372 : (Jvm.Cond.methodLink "GearGauge$Gear" (66 : Nat) ({ cls := "java/lang/Math", name := "min", desc := "(II)I" } : Jvm.MethodName)) ∈ tG := tG_at 372 (by decide +kernel) rfl
theorem q_373 : (Jvm.Cond.static ({ cls := "java/lang/Math", name := "min", desc := "(II)I" } : Jvm.MethodName)) ∈ tG := tG_at 373 (by decide +kernel) rfl
theorem q_374 : (Jvm.Cond.code ({ cls := "java/lang/Math", name := "min", desc := "(II)I" } : Jvm.MethodName) prog_13_method_69_code (2 : Nat) (Option.some Jvm.ClassFile.FieldType.int)) ∈ tG := tG_at 374 (by decide +kernel) rfl
theorem q_375 : (Jvm.Cond.methodLink "GearGauge$State" (64 : Nat) ({ cls := "GearGauge$Gear", name := "runout", desc := "()I" } : Jvm.MethodName)) ∈ tG := tG_at 375 (by decide +kernel) rfl
theorem q_376 : (Jvm.Cond.instanceMethod ({ cls := "GearGauge$Gear", name := "runout", desc := "()I" } : Jvm.MethodName)) ∈ tG := tG_at 376 (by decide +kernel) rfl
theorem q_377 : (Jvm.Cond.selects "GearGauge$Gear" ({ cls := "GearGauge$Gear", name := "runout", desc := "()I" } : Jvm.MethodName) ({ cls := "GearGauge$Gear", name := "runout", desc := "()I" } : Jvm.MethodName)) ∈ tG := tG_at 377 (by decide +kernel) rfl
theorem q_378 : (Jvm.Cond.code ({ cls := "GearGauge$Gear", name := "runout", desc := "()I" } : Jvm.MethodName) prog_2_method_15_code (4 : Nat) (Option.some Jvm.ClassFile.FieldType.int)) ∈ tG := tG_at 378 (by decide +kernel) rfl
theorem q_379 : (Jvm.Cond.methodLink "GearGauge$State" (68 : Nat) ({ cls := "GearGauge$State", name := "greatestOfLines", desc := "(III)I" } : Jvm.MethodName)) ∈ tG := tG_at 379 (by decide +kernel) rfl
theorem q_381 : (Jvm.Cond.instanceMethod ({ cls := "GearGauge$State", name := "greatestOfLines", desc := "(III)I" } : Jvm.MethodName)) ∈ tG := tG_at 381 (by decide +kernel) rfl
theorem q_382 : (Jvm.Cond.code ({ cls := "GearGauge$State", name := "greatestOfLines", desc := "(III)I" } : Jvm.MethodName) prog_5_method_9_code (7 : Nat) (Option.some Jvm.ClassFile.FieldType.int)) ∈ tG := tG_at 382 (by decide +kernel) rfl
theorem q_383 : (Jvm.Cond.methodLink "GearGauge$State" (75 : Nat) ({ cls := "GearGauge$Line", name := "isMeasured", desc := "()Z" } : Jvm.MethodName)) ∈ tG := tG_at 383 (by decide +kernel) rfl
theorem q_384 : (Jvm.Cond.instanceMethod ({ cls := "GearGauge$Line", name := "isMeasured", desc := "()Z" } : Jvm.MethodName)) ∈ tG := tG_at 384 (by decide +kernel) rfl
theorem q_385 : (Jvm.Cond.selects "GearGauge$Line" ({ cls := "GearGauge$Line", name := "isMeasured", desc := "()Z" } : Jvm.MethodName) ({ cls := "GearGauge$Line", name := "isMeasured", desc := "()Z" } : Jvm.MethodName)) ∈ tG := tG_at 385 (by decide +kernel) rfl
theorem q_386 : (Jvm.Cond.code ({ cls := "GearGauge$Line", name := "isMeasured", desc := "()Z" } : Jvm.MethodName) prog_3_method_5_code (1 : Nat) (Option.some Jvm.ClassFile.FieldType.boolean)) ∈ tG := tG_at 386 (by decide +kernel) rfl
theorem q_387 : (Jvm.Cond.methodLink "GearGauge$State" (79 : Nat) ({ cls := "GearGauge$Line", name := "deviationOf", desc := "(I)I" } : Jvm.MethodName)) ∈ tG := tG_at 387 (by decide +kernel) rfl
theorem q_388 : (Jvm.Cond.instanceMethod ({ cls := "GearGauge$Line", name := "deviationOf", desc := "(I)I" } : Jvm.MethodName)) ∈ tG := tG_at 388 (by decide +kernel) rfl
theorem q_389 : (Jvm.Cond.selects "GearGauge$Line" ({ cls := "GearGauge$Line", name := "deviationOf", desc := "(I)I" } : Jvm.MethodName) ({ cls := "GearGauge$Line", name := "deviationOf", desc := "(I)I" } : Jvm.MethodName)) ∈ tG := tG_at 389 (by decide +kernel) rfl
theorem q_390 : (Jvm.Cond.code ({ cls := "GearGauge$Line", name := "deviationOf", desc := "(I)I" } : Jvm.MethodName) prog_3_method_6_code (2 : Nat) (Option.some Jvm.ClassFile.FieldType.int)) ∈ tG := tG_at 390 (by decide +kernel) rfl
theorem q_391 : (Jvm.Cond.methodLink "GearGauge$Line" (44 : Nat) ({ cls := "GearGauge$Line", name := "totalDeviation", desc := "()I" } : Jvm.MethodName)) ∈ tG := tG_at 391 (by decide +kernel) rfl
theorem q_393 : (Jvm.Cond.instanceMethod ({ cls := "GearGauge$Line", name := "totalDeviation", desc := "()I" } : Jvm.MethodName)) ∈ tG := tG_at 393 (by decide +kernel) rfl
theorem q_394 : (Jvm.Cond.code ({ cls := "GearGauge$Line", name := "totalDeviation", desc := "()I" } : Jvm.MethodName) prog_3_method_7_code (4 : Nat) (Option.some Jvm.ClassFile.FieldType.int)) ∈ tG := tG_at 394 (by decide +kernel) rfl
theorem q_395 : (Jvm.Cond.methodLink "GearGauge$Line" (62 : Nat) ({ cls := "java/lang/Math", name := "max", desc := "(II)I" } : Jvm.MethodName)) ∈ tG := tG_at 395 (by decide +kernel) rfl
theorem q_396 : (Jvm.Cond.methodLink "GearGauge$Line" (68 : Nat) ({ cls := "java/lang/Math", name := "min", desc := "(II)I" } : Jvm.MethodName)) ∈ tG := tG_at 396 (by decide +kernel) rfl
theorem q_397 : (Jvm.Cond.methodLink "GearGauge$Line" (48 : Nat) ({ cls := "GearGauge$Line", name := "slopeNumerator", desc := "()J" } : Jvm.MethodName)) ∈ tG := tG_at 397 (by decide +kernel) rfl
theorem q_398 : (Jvm.Cond.instanceMethod ({ cls := "GearGauge$Line", name := "slopeNumerator", desc := "()J" } : Jvm.MethodName)) ∈ tG := tG_at 398 (by decide +kernel) rfl
theorem q_399 : (Jvm.Cond.selects "GearGauge$Line" ({ cls := "GearGauge$Line", name := "slopeNumerator", desc := "()J" } : Jvm.MethodName) ({ cls := "GearGauge$Line", name := "slopeNumerator", desc := "()J" } : Jvm.MethodName)) ∈ tG := tG_at 399 (by decide +kernel) rfl
theorem q_400 : (Jvm.Cond.code ({ cls := "GearGauge$Line", name := "slopeNumerator", desc := "()J" } : Jvm.MethodName) prog_3_method_10_code (1 : Nat) (Option.some Jvm.ClassFile.FieldType.long)) ∈ tG := tG_at 400 (by decide +kernel) rfl
theorem q_401 : (Jvm.Cond.methodLink "GearGauge$Line" (52 : Nat) ({ cls := "GearGauge$Line", name := "denominator", desc := "()J" } : Jvm.MethodName)) ∈ tG := tG_at 401 (by decide +kernel) rfl
theorem q_402 : (Jvm.Cond.instanceMethod ({ cls := "GearGauge$Line", name := "denominator", desc := "()J" } : Jvm.MethodName)) ∈ tG := tG_at 402 (by decide +kernel) rfl
theorem q_403 : (Jvm.Cond.selects "GearGauge$Line" ({ cls := "GearGauge$Line", name := "denominator", desc := "()J" } : Jvm.MethodName) ({ cls := "GearGauge$Line", name := "denominator", desc := "()J" } : Jvm.MethodName)) ∈ tG := tG_at 403 (by decide +kernel) rfl
theorem q_404 : (Jvm.Cond.code ({ cls := "GearGauge$Line", name := "denominator", desc := "()J" } : Jvm.MethodName) prog_3_method_9_code (1 : Nat) (Option.some Jvm.ClassFile.FieldType.long)) ∈ tG := tG_at 404 (by decide +kernel) rfl
theorem q_406 : (Jvm.Cond.methodLink "GearGauge$Line" (59 : Nat) ({ cls := "GearGauge$Line", name := "formNumerator", desc := "()J" } : Jvm.MethodName)) ∈ tG := tG_at 406 (by decide +kernel) rfl
theorem q_408 : (Jvm.Cond.instanceMethod ({ cls := "GearGauge$Line", name := "formNumerator", desc := "()J" } : Jvm.MethodName)) ∈ tG := tG_at 408 (by decide +kernel) rfl
theorem q_409 : (Jvm.Cond.code ({ cls := "GearGauge$Line", name := "formNumerator", desc := "()J" } : Jvm.MethodName) prog_3_method_8_code (14 : Nat) (Option.some Jvm.ClassFile.FieldType.long)) ∈ tG := tG_at 409 (by decide +kernel) rfl
theorem q_410 : (Jvm.Cond.methodLink "GearGauge$Line" (71 : Nat) ({ cls := "GearGauge$Line", name := "interceptNumerator", desc := "()J" } : Jvm.MethodName)) ∈ tG := tG_at 410 (by decide +kernel) rfl
theorem q_411 : (Jvm.Cond.instanceMethod ({ cls := "GearGauge$Line", name := "interceptNumerator", desc := "()J" } : Jvm.MethodName)) ∈ tG := tG_at 411 (by decide +kernel) rfl
theorem q_412 : (Jvm.Cond.selects "GearGauge$Line" ({ cls := "GearGauge$Line", name := "interceptNumerator", desc := "()J" } : Jvm.MethodName) ({ cls := "GearGauge$Line", name := "interceptNumerator", desc := "()J" } : Jvm.MethodName)) ∈ tG := tG_at 412 (by decide +kernel) rfl
theorem q_413 : (Jvm.Cond.code ({ cls := "GearGauge$Line", name := "interceptNumerator", desc := "()J" } : Jvm.MethodName) prog_3_method_11_code (1 : Nat) (Option.some Jvm.ClassFile.FieldType.long)) ∈ tG := tG_at 413 (by decide +kernel) rfl
theorem q_414 : (Jvm.Cond.methodLink "GearGauge$Line" (74 : Nat) ({ cls := "java/lang/Math", name := "max", desc := "(JJ)J" } : Jvm.MethodName)) ∈ tG := tG_at 414 (by decide +kernel) rfl
theorem q_415 : (Jvm.Cond.static ({ cls := "java/lang/Math", name := "max", desc := "(JJ)J" } : Jvm.MethodName)) ∈ tG := tG_at 415 (by decide +kernel) rfl
theorem q_416 : (Jvm.Cond.code ({ cls := "java/lang/Math", name := "max", desc := "(JJ)J" } : Jvm.MethodName) prog_13_method_66_code (4 : Nat) (Option.some Jvm.ClassFile.FieldType.long)) ∈ tG := tG_at 416 (by decide +kernel) rfl
theorem q_417 : (Jvm.Cond.methodLink "GearGauge$Line" (77 : Nat) ({ cls := "java/lang/Math", name := "min", desc := "(JJ)J" } : Jvm.MethodName)) ∈ tG := tG_at 417 (by decide +kernel) rfl
theorem q_418 : (Jvm.Cond.static ({ cls := "java/lang/Math", name := "min", desc := "(JJ)J" } : Jvm.MethodName)) ∈ tG := tG_at 418 (by decide +kernel) rfl
theorem q_419 : (Jvm.Cond.code ({ cls := "java/lang/Math", name := "min", desc := "(JJ)J" } : Jvm.MethodName) prog_13_method_70_code (4 : Nat) (Option.some Jvm.ClassFile.FieldType.long)) ∈ tG := tG_at 419 (by decide +kernel) rfl
theorem q_420 : (Jvm.Cond.methodLink "GearGauge$State" (82 : Nat) ({ cls := "java/lang/Math", name := "abs", desc := "(I)I" } : Jvm.MethodName)) ∈ tG := tG_at 420 (by decide +kernel) rfl
theorem q_421 : (Jvm.Cond.methodLink "GearGauge" (248 : Nat) ({ cls := "GearGauge", name := "classOf", desc := "(II)I" } : Jvm.MethodName)) ∈ tG := tG_at 421 (by decide +kernel) rfl
theorem q_422 : (Jvm.Cond.static ({ cls := "GearGauge", name := "classOf", desc := "(II)I" } : Jvm.MethodName)) ∈ tG := tG_at 422 (by decide +kernel) rfl
theorem q_423 : (Jvm.Cond.code ({ cls := "GearGauge", name := "classOf", desc := "(II)I" } : Jvm.MethodName) prog_1_method_52_code (3 : Nat) (Option.some Jvm.ClassFile.FieldType.int)) ∈ tG := tG_at 423 (by decide +kernel) rfl
theorem q_424 : (Jvm.Cond.methodLink "GearGauge" (245 : Nat) ({ cls := "GearGauge", name := "ofClass", desc := "(II)I" } : Jvm.MethodName)) ∈ tG := tG_at 424 (by decide +kernel) rfl
theorem q_425 : (Jvm.Cond.static ({ cls := "GearGauge", name := "ofClass", desc := "(II)I" } : Jvm.MethodName)) ∈ tG := tG_at 425 (by decide +kernel) rfl
theorem q_426 : (Jvm.Cond.code ({ cls := "GearGauge", name := "ofClass", desc := "(II)I" } : Jvm.MethodName) prog_1_method_51_code (4 : Nat) (Option.some Jvm.ClassFile.FieldType.int)) ∈ tG := tG_at 426 (by decide +kernel) rfl
theorem q_427 : (Jvm.Cond.methodLink "GearGauge" (333 : Nat) ({ cls := "java/lang/Math", name := "max", desc := "(II)I" } : Jvm.MethodName)) ∈ tG := tG_at 427 (by decide +kernel) rfl
theorem q_428 : (Jvm.Cond.methodLink "GearGauge" (107 : Nat) ({ cls := "GearGauge$Gear", name := "closingError", desc := "(I)I" } : Jvm.MethodName)) ∈ tG := tG_at 428 (by decide +kernel) rfl
theorem q_429 : (Jvm.Cond.methodLink "GearGauge" (309 : Nat) ({ cls := "GearGauge$Gear", name := "sizeOf", desc := "(I)I" } : Jvm.MethodName)) ∈ tG := tG_at 429 (by decide +kernel) rfl
theorem q_430 : (Jvm.Cond.methodLink "GearGauge" (316 : Nat) ({ cls := "GearGauge$Line", name := "isMeasured", desc := "()Z" } : Jvm.MethodName)) ∈ tG := tG_at 430 (by decide +kernel) rfl
theorem q_431 : (Jvm.Cond.methodLink "GearGauge" (215 : Nat) ({ cls := "GearGauge$Line", name := "deviationOf", desc := "(I)I" } : Jvm.MethodName)) ∈ tG := tG_at 431 (by decide +kernel) rfl
theorem q_432 : (Jvm.Cond.methodLink "GearGaugeLaw" (116 : Nat) ({ cls := "GearGaugeLaw", name := "addGear", desc := "(LGearGauge;II[J)I" } : Jvm.MethodName)) ∈ tG := tG_at 432 (by decide +kernel) rfl
theorem q_433 : (Jvm.Cond.static ({ cls := "GearGaugeLaw", name := "addGear", desc := "(LGearGauge;II[J)I" } : Jvm.MethodName)) ∈ tG := tG_at 433 (by decide +kernel) rfl
theorem q_434 : (Jvm.Cond.codeWith ({ cls := "GearGaugeLaw", name := "addGear", desc := "(LGearGauge;II[J)I" } : Jvm.MethodName) method_3_code (5 : Nat) (Option.some Jvm.ClassFile.FieldType.int) [((0 : Nat), (10 : Nat), (13 : Nat), (13 : Nat)), ((0 : Nat), (10 : Nat), (17 : Nat), (15 : Nat))]) ∈ tG := tG_at 434 (by decide +kernel) rfl
theorem q_435 : (Jvm.Cond.classLink "GearGaugeLaw" (13 : Nat) "java/lang/IllegalArgumentException") ∈ tG := tG_at 435 (by decide +kernel) rfl
theorem q_436 : (Jvm.Cond.classLink "GearGaugeLaw" (15 : Nat) "java/lang/IllegalStateException") ∈ tG := tG_at 436 (by decide +kernel) rfl
theorem q_437 : (Jvm.Cond.methodLink "GearGaugeLaw" (7 : Nat) ({ cls := "GearGauge", name := "addGear", desc := "(II)I" } : Jvm.MethodName)) ∈ tG := tG_at 437 (by decide +kernel) rfl
theorem q_438 : (Jvm.Cond.instanceMethod ({ cls := "GearGauge", name := "addGear", desc := "(II)I" } : Jvm.MethodName)) ∈ tG := tG_at 438 (by decide +kernel) rfl
theorem q_439 : (Jvm.Cond.selects "GearGauge" ({ cls := "GearGauge", name := "addGear", desc := "(II)I" } : Jvm.MethodName) ({ cls := "GearGauge", name := "addGear", desc := "(II)I" } : Jvm.MethodName)) ∈ tG := tG_at 439 (by decide +kernel) rfl
theorem q_440 : (Jvm.Cond.code ({ cls := "GearGauge", name := "addGear", desc := "(II)I" } : Jvm.MethodName) prog_1_method_2_code (3 : Nat) (Option.some Jvm.ClassFile.FieldType.int)) ∈ tG := tG_at 440 (by decide +kernel) rfl
theorem q_441 : (Jvm.Cond.methodLink "GearGauge" (51 : Nat) ({ cls := "GearGauge", name := "isGear", desc := "(II)Z" } : Jvm.MethodName)) ∈ tG := tG_at 441 (by decide +kernel) rfl
theorem q_442 : (Jvm.Cond.classLink "GearGauge" (55 : Nat) "java/lang/IllegalArgumentException") ∈ tG := tG_at 442 (by decide +kernel) rfl
theorem q_443 : (Jvm.Cond.instantiable "java/lang/IllegalArgumentException" (6 : Nat)) ∈ tG := tG_at 443 (by decide +kernel) rfl
theorem q_451 : (Jvm.Cond.selects "java/lang/IllegalArgumentException" ({ cls := "java/lang/Throwable", name := "fillInStackTrace", desc := "(I)Ljava/lang/Throwable;" } : Jvm.MethodName) ({ cls := "java/lang/Throwable", name := "fillInStackTrace", desc := "(I)Ljava/lang/Throwable;" } : Jvm.MethodName)) ∈ tG := tG_at 451 (by decide +kernel) rfl
theorem q_452 : (Jvm.Cond.selects "java/lang/IllegalArgumentException" ({ cls := "java/lang/Throwable", name := "fillInStackTrace", desc := "()Ljava/lang/Throwable;" } : Jvm.MethodName) ({ cls := "java/lang/Throwable", name := "fillInStackTrace", desc := "()Ljava/lang/Throwable;" } : Jvm.MethodName)) ∈ tG := tG_at 452 (by decide +kernel) rfl
theorem q_453 : (Jvm.Cond.lays "java/lang/IllegalArgumentException" "java/lang/Throwable" "cause" "Ljava/lang/Throwable;") ∈ tG := tG_at 453 (by decide +kernel) rfl
theorem q_454 : (Jvm.Cond.lays "java/lang/Throwable" "java/lang/Throwable" "cause" "Ljava/lang/Throwable;") ∈ tG := tG_at 454 (by decide +kernel) rfl
theorem q_455 : (Jvm.Cond.lays "java/lang/IllegalArgumentException" "java/lang/Throwable" "stackTrace" "[Ljava/lang/StackTraceElement;") ∈ tG := tG_at 455 (by decide +kernel) rfl
theorem q_456 : (Jvm.Cond.lays "java/lang/Throwable" "java/lang/Throwable" "stackTrace" "[Ljava/lang/StackTraceElement;") ∈ tG := tG_at 456 (by decide +kernel) rfl
theorem q_457 : (Jvm.Cond.lays "java/lang/IllegalArgumentException" "java/lang/Throwable" "suppressedExceptions" "Ljava/util/List;") ∈ tG := tG_at 457 (by decide +kernel) rfl
theorem q_458 : (Jvm.Cond.lays "java/lang/Throwable" "java/lang/Throwable" "suppressedExceptions" "Ljava/util/List;") ∈ tG := tG_at 458 (by decide +kernel) rfl
theorem q_459 : (Jvm.Cond.lays "java/lang/IllegalArgumentException" "java/lang/Throwable" "detailMessage" "Ljava/lang/String;") ∈ tG := tG_at 459 (by decide +kernel) rfl
theorem q_460 : (Jvm.Cond.lays "java/lang/Throwable" "java/lang/Throwable" "detailMessage" "Ljava/lang/String;") ∈ tG := tG_at 460 (by decide +kernel) rfl
theorem q_461 : (Jvm.Cond.lays "java/lang/IllegalArgumentException" "java/lang/Throwable" "backtrace" "Ljava/lang/Object;") ∈ tG := tG_at 461 (by decide +kernel) rfl
theorem q_462 : (Jvm.Cond.lays "java/lang/Throwable" "java/lang/Throwable" "backtrace" "Ljava/lang/Object;") ∈ tG := tG_at 462 (by decide +kernel) rfl
theorem q_463 : (Jvm.Cond.fieldLink "java/lang/Throwable" (198 : Nat) "java/lang/Throwable" "backtrace" "Ljava/lang/Object;") ∈ tG := tG_at 463 (by decide +kernel) rfl
theorem q_464 : (Jvm.Cond.superclass "java/lang/Throwable" "java/lang/Object") ∈ tG := tG_at 464 (by decide +kernel) rfl
theorem q_465 : (Jvm.Cond.instanceMethod ({ cls := "java/lang/Throwable", name := "<init>", desc := "()V" } : Jvm.MethodName)) ∈ tG := tG_at 465 (by decide +kernel) rfl
theorem q_466 : (Jvm.Cond.code ({ cls := "java/lang/Throwable", name := "<init>", desc := "()V" } : Jvm.MethodName) prog_17_method_1_code (1 : Nat) (Option.none : Option Jvm.ClassFile.FieldType)) ∈ tG := tG_at 466 (by decide +kernel) rfl
theorem q_467 : (Jvm.Cond.methodLink "java/lang/Throwable" (1 : Nat) ({ cls := "java/lang/Object", name := "<init>", desc := "()V" } : Jvm.MethodName)) ∈ tG := tG_at 467 (by decide +kernel) rfl
theorem q_468 : (Jvm.Cond.fieldLink "java/lang/Throwable" (13 : Nat) "java/lang/Throwable" "UNASSIGNED_STACK" "[Ljava/lang/StackTraceElement;") ∈ tG := tG_at 468 (by decide +kernel) rfl
theorem q_470 : (Jvm.Cond.fieldLink "java/lang/Throwable" (20 : Nat) "java/lang/Throwable" "SUPPRESSED_SENTINEL" "Ljava/util/List;") ∈ tG := tG_at 470 (by decide +kernel) rfl
theorem q_472 : (Jvm.Cond.methodLink "java/lang/Throwable" (27 : Nat) ({ cls := "java/lang/Throwable", name := "fillInStackTrace", desc := "()Ljava/lang/Throwable;" } : Jvm.MethodName)) ∈ tG := tG_at 472 (by decide +kernel) rfl
theorem q_473 : (Jvm.Cond.instanceMethod ({ cls := "java/lang/Throwable", name := "fillInStackTrace", desc := "()Ljava/lang/Throwable;" } : Jvm.MethodName)) ∈ tG := tG_at 473 (by decide +kernel) rfl
theorem q_474 : (Jvm.Cond.sameMethod "java/lang/Throwable" "java/lang/Throwable" "fillInStackTrace" "()Ljava/lang/Throwable;") ∈ tG := tG_at 474 (by decide +kernel) rfl
theorem q_475 : (Jvm.Cond.selects "java/lang/IllegalStateException" ({ cls := "java/lang/Throwable", name := "fillInStackTrace", desc := "()Ljava/lang/Throwable;" } : Jvm.MethodName) ({ cls := "java/lang/Throwable", name := "fillInStackTrace", desc := "()Ljava/lang/Throwable;" } : Jvm.MethodName)) ∈ tG := tG_at 475 (by decide +kernel) rfl
theorem q_476 : (Jvm.Cond.selects "java/lang/IndexOutOfBoundsException" ({ cls := "java/lang/Throwable", name := "fillInStackTrace", desc := "()Ljava/lang/Throwable;" } : Jvm.MethodName) ({ cls := "java/lang/Throwable", name := "fillInStackTrace", desc := "()Ljava/lang/Throwable;" } : Jvm.MethodName)) ∈ tG := tG_at 476 (by decide +kernel) rfl
theorem q_477 : (Jvm.Cond.codeSync ({ cls := "java/lang/Throwable", name := "fillInStackTrace", desc := "()Ljava/lang/Throwable;" } : Jvm.MethodName) prog_17_method_18_code (1 : Nat) (Option.some (Jvm.ClassFile.FieldType.object "java/lang/Throwable"))) ∈ tG := tG_at 477 (by decide +kernel) rfl
theorem q_478 : (Jvm.Cond.methodLink "java/lang/Throwable" (202 : Nat) ({ cls := "java/lang/Throwable", name := "fillInStackTrace", desc := "(I)Ljava/lang/Throwable;" } : Jvm.MethodName)) ∈ tG := tG_at 478 (by decide +kernel) rfl
theorem q_480 : (Jvm.Cond.instanceMethod ({ cls := "java/lang/Throwable", name := "fillInStackTrace", desc := "(I)Ljava/lang/Throwable;" } : Jvm.MethodName)) ∈ tG := tG_at 480 (by decide +kernel) rfl
theorem q_481 : (Jvm.Cond.instantiable "java/lang/Throwable" (6 : Nat)) ∈ tG := tG_at 481 (by decide +kernel) rfl
theorem q_482 : (Jvm.Cond.native ({ cls := "java/lang/Throwable", name := "fillInStackTrace", desc := "(I)Ljava/lang/Throwable;" } : Jvm.MethodName)) ∈ tG := tG_at 482 (by decide +kernel) rfl
theorem q_484 : (Jvm.Cond.methodLink "GearGauge" (59 : Nat) ({ cls := "java/lang/IllegalArgumentException", name := "<init>", desc := "(Ljava/lang/String;)V" } : Jvm.MethodName)) ∈ tG := tG_at 484 (by decide +kernel) rfl
theorem q_485 : (Jvm.Cond.instanceMethod ({ cls := "java/lang/IllegalArgumentException", name := "<init>", desc := "(Ljava/lang/String;)V" } : Jvm.MethodName)) ∈ tG := tG_at 485 (by decide +kernel) rfl
theorem q_486 : (Jvm.Cond.code ({ cls := "java/lang/IllegalArgumentException", name := "<init>", desc := "(Ljava/lang/String;)V" } : Jvm.MethodName) prog_10_method_2_code (2 : Nat) (Option.none : Option Jvm.ClassFile.FieldType)) ∈ tG := tG_at 486 (by decide +kernel) rfl
theorem q_487 : (Jvm.Cond.methodLink "java/lang/IllegalArgumentException" (7 : Nat) ({ cls := "java/lang/RuntimeException", name := "<init>", desc := "(Ljava/lang/String;)V" } : Jvm.MethodName)) ∈ tG := tG_at 487 (by decide +kernel) rfl
theorem q_488 : (Jvm.Cond.instanceMethod ({ cls := "java/lang/RuntimeException", name := "<init>", desc := "(Ljava/lang/String;)V" } : Jvm.MethodName)) ∈ tG := tG_at 488 (by decide +kernel) rfl
theorem q_489 : (Jvm.Cond.code ({ cls := "java/lang/RuntimeException", name := "<init>", desc := "(Ljava/lang/String;)V" } : Jvm.MethodName) prog_14_method_2_code (2 : Nat) (Option.none : Option Jvm.ClassFile.FieldType)) ∈ tG := tG_at 489 (by decide +kernel) rfl
theorem q_490 : (Jvm.Cond.methodLink "java/lang/RuntimeException" (7 : Nat) ({ cls := "java/lang/Exception", name := "<init>", desc := "(Ljava/lang/String;)V" } : Jvm.MethodName)) ∈ tG := tG_at 490 (by decide +kernel) rfl
theorem q_491 : (Jvm.Cond.instanceMethod ({ cls := "java/lang/Exception", name := "<init>", desc := "(Ljava/lang/String;)V" } : Jvm.MethodName)) ∈ tG := tG_at 491 (by decide +kernel) rfl
theorem q_492 : (Jvm.Cond.code ({ cls := "java/lang/Exception", name := "<init>", desc := "(Ljava/lang/String;)V" } : Jvm.MethodName) prog_9_method_2_code (2 : Nat) (Option.none : Option Jvm.ClassFile.FieldType)) ∈ tG := tG_at 492 (by decide +kernel) rfl
theorem q_493 : (Jvm.Cond.methodLink "java/lang/Exception" (7 : Nat) ({ cls := "java/lang/Throwable", name := "<init>", desc := "(Ljava/lang/String;)V" } : Jvm.MethodName)) ∈ tG := tG_at 493 (by decide +kernel) rfl
theorem q_494 : (Jvm.Cond.instanceMethod ({ cls := "java/lang/Throwable", name := "<init>", desc := "(Ljava/lang/String;)V" } : Jvm.MethodName)) ∈ tG := tG_at 494 (by decide +kernel) rfl
theorem q_495 : (Jvm.Cond.code ({ cls := "java/lang/Throwable", name := "<init>", desc := "(Ljava/lang/String;)V" } : Jvm.MethodName) prog_17_method_2_code (2 : Nat) (Option.none : Option Jvm.ClassFile.FieldType)) ∈ tG := tG_at 495 (by decide +kernel) rfl
theorem q_497 : (Jvm.Cond.fieldLink "java/lang/Throwable" (31 : Nat) "java/lang/Throwable" "detailMessage" "Ljava/lang/String;") ∈ tG := tG_at 497 (by decide +kernel) rfl
theorem q_498 : (Jvm.Cond.fieldLink "java/lang/Throwable" (7 : Nat) "java/lang/Throwable" "cause" "Ljava/lang/Throwable;") ∈ tG := tG_at 498 (by decide +kernel) rfl
theorem q_499 : (Jvm.Cond.fieldLink "java/lang/Throwable" (17 : Nat) "java/lang/Throwable" "stackTrace" "[Ljava/lang/StackTraceElement;") ∈ tG := tG_at 499 (by decide +kernel) rfl
theorem q_500 : (Jvm.Cond.fieldLink "java/lang/Throwable" (24 : Nat) "java/lang/Throwable" "suppressedExceptions" "Ljava/util/List;") ∈ tG := tG_at 500 (by decide +kernel) rfl
theorem q_505 : (Jvm.Cond.lays "java/lang/IllegalArgumentException" "java/lang/Throwable" "depth" "I") ∈ tG := tG_at 505 (by decide +kernel) rfl
theorem q_508 : (Jvm.Cond.superclass "java/lang/IllegalArgumentException" "java/lang/RuntimeException") ∈ tG := tG_at 508 (by decide +kernel) rfl
theorem q_509 : (Jvm.Cond.arrayClass Jvm.ClassFile.FieldType.byte) ∈ tG := tG_at 509 (by decide +kernel) rfl
theorem q_510 : (Jvm.Cond.classLink "GearGauge" (66 : Nat) "java/lang/IllegalStateException") ∈ tG := tG_at 510 (by decide +kernel) rfl
theorem q_511 : (Jvm.Cond.instantiable "java/lang/IllegalStateException" (6 : Nat)) ∈ tG := tG_at 511 (by decide +kernel) rfl
theorem q_513 : (Jvm.Cond.selects "java/lang/IllegalStateException" ({ cls := "java/lang/Throwable", name := "fillInStackTrace", desc := "(I)Ljava/lang/Throwable;" } : Jvm.MethodName) ({ cls := "java/lang/Throwable", name := "fillInStackTrace", desc := "(I)Ljava/lang/Throwable;" } : Jvm.MethodName)) ∈ tG := tG_at 513 (by decide +kernel) rfl
theorem q_514 : (Jvm.Cond.lays "java/lang/IllegalStateException" "java/lang/Throwable" "cause" "Ljava/lang/Throwable;") ∈ tG := tG_at 514 (by decide +kernel) rfl
theorem q_515 : (Jvm.Cond.lays "java/lang/IllegalStateException" "java/lang/Throwable" "stackTrace" "[Ljava/lang/StackTraceElement;") ∈ tG := tG_at 515 (by decide +kernel) rfl
theorem q_516 : (Jvm.Cond.lays "java/lang/IllegalStateException" "java/lang/Throwable" "suppressedExceptions" "Ljava/util/List;") ∈ tG := tG_at 516 (by decide +kernel) rfl
theorem q_517 : (Jvm.Cond.lays "java/lang/IllegalStateException" "java/lang/Throwable" "detailMessage" "Ljava/lang/String;") ∈ tG := tG_at 517 (by decide +kernel) rfl
theorem q_518 : (Jvm.Cond.lays "java/lang/IllegalStateException" "java/lang/Throwable" "backtrace" "Ljava/lang/Object;") ∈ tG := tG_at 518 (by decide +kernel) rfl
theorem q_520 : (Jvm.Cond.methodLink "GearGauge" (70 : Nat) ({ cls := "java/lang/IllegalStateException", name := "<init>", desc := "(Ljava/lang/String;)V" } : Jvm.MethodName)) ∈ tG := tG_at 520 (by decide +kernel) rfl
theorem q_521 : (Jvm.Cond.instanceMethod ({ cls := "java/lang/IllegalStateException", name := "<init>", desc := "(Ljava/lang/String;)V" } : Jvm.MethodName)) ∈ tG := tG_at 521 (by decide +kernel) rfl
theorem q_522 : (Jvm.Cond.code ({ cls := "java/lang/IllegalStateException", name := "<init>", desc := "(Ljava/lang/String;)V" } : Jvm.MethodName) prog_11_method_2_code (2 : Nat) (Option.none : Option Jvm.ClassFile.FieldType)) ∈ tG := tG_at 522 (by decide +kernel) rfl
theorem q_523 : (Jvm.Cond.methodLink "java/lang/IllegalStateException" (7 : Nat) ({ cls := "java/lang/RuntimeException", name := "<init>", desc := "(Ljava/lang/String;)V" } : Jvm.MethodName)) ∈ tG := tG_at 523 (by decide +kernel) rfl
theorem q_524 : (Jvm.Cond.lays "java/lang/IllegalStateException" "java/lang/Throwable" "depth" "I") ∈ tG := tG_at 524 (by decide +kernel) rfl
theorem q_525 : (Jvm.Cond.superclass "java/lang/IllegalStateException" "java/lang/RuntimeException") ∈ tG := tG_at 525 (by decide +kernel) rfl
theorem q_526 : (Jvm.Cond.methodLink "GearGauge" (74 : Nat) ({ cls := "GearGauge$State", name := "newGear", desc := "(II)I" } : Jvm.MethodName)) ∈ tG := tG_at 526 (by decide +kernel) rfl
theorem q_527 : (Jvm.Cond.methodLink "GearGaugeLaw" (125 : Nat) ({ cls := "GearGaugeLaw", name := "removeGear", desc := "(LGearGauge;I[J)I" } : Jvm.MethodName)) ∈ tG := tG_at 527 (by decide +kernel) rfl
theorem q_528 : (Jvm.Cond.static ({ cls := "GearGaugeLaw", name := "removeGear", desc := "(LGearGauge;I[J)I" } : Jvm.MethodName)) ∈ tG := tG_at 528 (by decide +kernel) rfl
theorem q_529 : (Jvm.Cond.codeWith ({ cls := "GearGaugeLaw", name := "removeGear", desc := "(LGearGauge;I[J)I" } : Jvm.MethodName) method_4_code (4 : Nat) (Option.some Jvm.ClassFile.FieldType.int) [((0 : Nat), (9 : Nat), (12 : Nat), (21 : Nat))]) ∈ tG := tG_at 529 (by decide +kernel) rfl
theorem q_530 : (Jvm.Cond.classLink "GearGaugeLaw" (21 : Nat) "java/lang/IndexOutOfBoundsException") ∈ tG := tG_at 530 (by decide +kernel) rfl
theorem q_531 : (Jvm.Cond.methodLink "GearGaugeLaw" (17 : Nat) ({ cls := "GearGauge", name := "removeGear", desc := "(I)I" } : Jvm.MethodName)) ∈ tG := tG_at 531 (by decide +kernel) rfl
theorem q_532 : (Jvm.Cond.instanceMethod ({ cls := "GearGauge", name := "removeGear", desc := "(I)I" } : Jvm.MethodName)) ∈ tG := tG_at 532 (by decide +kernel) rfl
theorem q_533 : (Jvm.Cond.selects "GearGauge" ({ cls := "GearGauge", name := "removeGear", desc := "(I)I" } : Jvm.MethodName) ({ cls := "GearGauge", name := "removeGear", desc := "(I)I" } : Jvm.MethodName)) ∈ tG := tG_at 533 (by decide +kernel) rfl
theorem q_534 : (Jvm.Cond.code ({ cls := "GearGauge", name := "removeGear", desc := "(I)I" } : Jvm.MethodName) prog_1_method_3_code (2 : Nat) (Option.some Jvm.ClassFile.FieldType.int)) ∈ tG := tG_at 534 (by decide +kernel) rfl
theorem q_535 : (Jvm.Cond.methodLink "GearGauge" (78 : Nat) ({ cls := "GearGauge", name := "requireGear", desc := "(I)LGearGauge$Gear;" } : Jvm.MethodName)) ∈ tG := tG_at 535 (by decide +kernel) rfl
theorem q_537 : (Jvm.Cond.instanceMethod ({ cls := "GearGauge", name := "requireGear", desc := "(I)LGearGauge$Gear;" } : Jvm.MethodName)) ∈ tG := tG_at 537 (by decide +kernel) rfl
theorem q_538 : (Jvm.Cond.code ({ cls := "GearGauge", name := "requireGear", desc := "(I)LGearGauge$Gear;" } : Jvm.MethodName) prog_1_method_38_code (2 : Nat) (Option.some (Jvm.ClassFile.FieldType.object "GearGauge$Gear"))) ∈ tG := tG_at 538 (by decide +kernel) rfl
theorem q_539 : (Jvm.Cond.classLink "GearGauge" (113 : Nat) "java/lang/IndexOutOfBoundsException") ∈ tG := tG_at 539 (by decide +kernel) rfl
theorem q_540 : (Jvm.Cond.instantiable "java/lang/IndexOutOfBoundsException" (6 : Nat)) ∈ tG := tG_at 540 (by decide +kernel) rfl
theorem q_542 : (Jvm.Cond.selects "java/lang/IndexOutOfBoundsException" ({ cls := "java/lang/Throwable", name := "fillInStackTrace", desc := "(I)Ljava/lang/Throwable;" } : Jvm.MethodName) ({ cls := "java/lang/Throwable", name := "fillInStackTrace", desc := "(I)Ljava/lang/Throwable;" } : Jvm.MethodName)) ∈ tG := tG_at 542 (by decide +kernel) rfl
theorem q_543 : (Jvm.Cond.lays "java/lang/IndexOutOfBoundsException" "java/lang/Throwable" "cause" "Ljava/lang/Throwable;") ∈ tG := tG_at 543 (by decide +kernel) rfl
theorem q_544 : (Jvm.Cond.lays "java/lang/IndexOutOfBoundsException" "java/lang/Throwable" "stackTrace" "[Ljava/lang/StackTraceElement;") ∈ tG := tG_at 544 (by decide +kernel) rfl
theorem q_545 : (Jvm.Cond.lays "java/lang/IndexOutOfBoundsException" "java/lang/Throwable" "suppressedExceptions" "Ljava/util/List;") ∈ tG := tG_at 545 (by decide +kernel) rfl
theorem q_546 : (Jvm.Cond.lays "java/lang/IndexOutOfBoundsException" "java/lang/Throwable" "detailMessage" "Ljava/lang/String;") ∈ tG := tG_at 546 (by decide +kernel) rfl
theorem q_547 : (Jvm.Cond.lays "java/lang/IndexOutOfBoundsException" "java/lang/Throwable" "backtrace" "Ljava/lang/Object;") ∈ tG := tG_at 547 (by decide +kernel) rfl
theorem q_549 : (Jvm.Cond.methodLink "GearGauge" (117 : Nat) ({ cls := "java/lang/IndexOutOfBoundsException", name := "<init>", desc := "(Ljava/lang/String;)V" } : Jvm.MethodName)) ∈ tG := tG_at 549 (by decide +kernel) rfl
theorem q_550 : (Jvm.Cond.instanceMethod ({ cls := "java/lang/IndexOutOfBoundsException", name := "<init>", desc := "(Ljava/lang/String;)V" } : Jvm.MethodName)) ∈ tG := tG_at 550 (by decide +kernel) rfl
theorem q_551 : (Jvm.Cond.code ({ cls := "java/lang/IndexOutOfBoundsException", name := "<init>", desc := "(Ljava/lang/String;)V" } : Jvm.MethodName) prog_12_method_2_code (2 : Nat) (Option.none : Option Jvm.ClassFile.FieldType)) ∈ tG := tG_at 551 (by decide +kernel) rfl
theorem q_552 : (Jvm.Cond.methodLink "java/lang/IndexOutOfBoundsException" (7 : Nat) ({ cls := "java/lang/RuntimeException", name := "<init>", desc := "(Ljava/lang/String;)V" } : Jvm.MethodName)) ∈ tG := tG_at 552 (by decide +kernel) rfl
theorem q_553 : (Jvm.Cond.lays "java/lang/IndexOutOfBoundsException" "java/lang/Throwable" "depth" "I") ∈ tG := tG_at 553 (by decide +kernel) rfl
theorem q_554 : (Jvm.Cond.superclass "java/lang/IndexOutOfBoundsException" "java/lang/RuntimeException") ∈ tG := tG_at 554 (by decide +kernel) rfl
theorem q_555 : (Jvm.Cond.methodLink "GearGauge" (82 : Nat) ({ cls := "GearGauge$State", name := "dropGear", desc := "(I)I" } : Jvm.MethodName)) ∈ tG := tG_at 555 (by decide +kernel) rfl
theorem q_556 : (Jvm.Cond.instanceMethod ({ cls := "GearGauge$State", name := "dropGear", desc := "(I)I" } : Jvm.MethodName)) ∈ tG := tG_at 556 (by decide +kernel) rfl
theorem q_557 : (Jvm.Cond.selects "GearGauge$State" ({ cls := "GearGauge$State", name := "dropGear", desc := "(I)I" } : Jvm.MethodName) ({ cls := "GearGauge$State", name := "dropGear", desc := "(I)I" } : Jvm.MethodName)) ∈ tG := tG_at 557 (by decide +kernel) rfl
theorem q_558 : (Jvm.Cond.code ({ cls := "GearGauge$State", name := "dropGear", desc := "(I)I" } : Jvm.MethodName) prog_5_method_5_code (5 : Nat) (Option.some Jvm.ClassFile.FieldType.int)) ∈ tG := tG_at 558 (by decide +kernel) rfl
theorem q_559 : (Jvm.Cond.methodLink "GearGauge$State" (47 : Nat) ({ cls := "GearGauge$State", name := "dropLine", desc := "(I)V" } : Jvm.MethodName)) ∈ tG := tG_at 559 (by decide +kernel) rfl
theorem q_560 : (Jvm.Cond.instanceMethod ({ cls := "GearGauge$State", name := "dropLine", desc := "(I)V" } : Jvm.MethodName)) ∈ tG := tG_at 560 (by decide +kernel) rfl
theorem q_561 : (Jvm.Cond.selects "GearGauge$State" ({ cls := "GearGauge$State", name := "dropLine", desc := "(I)V" } : Jvm.MethodName) ({ cls := "GearGauge$State", name := "dropLine", desc := "(I)V" } : Jvm.MethodName)) ∈ tG := tG_at 561 (by decide +kernel) rfl
theorem q_562 : (Jvm.Cond.code ({ cls := "GearGauge$State", name := "dropLine", desc := "(I)V" } : Jvm.MethodName) prog_5_method_6_code (4 : Nat) (Option.none : Option Jvm.ClassFile.FieldType)) ∈ tG := tG_at 562 (by decide +kernel) rfl
theorem q_563 : (Jvm.Cond.methodLink "GearGaugeLaw" (129 : Nat) ({ cls := "GearGaugeLaw", name := "setReading", desc := "(LGearGauge;IIII[J)I" } : Jvm.MethodName)) ∈ tG := tG_at 563 (by decide +kernel) rfl
theorem q_564 : (Jvm.Cond.static ({ cls := "GearGaugeLaw", name := "setReading", desc := "(LGearGauge;IIII[J)I" } : Jvm.MethodName)) ∈ tG := tG_at 564 (by decide +kernel) rfl
theorem q_565 : (Jvm.Cond.codeWith ({ cls := "GearGaugeLaw", name := "setReading", desc := "(LGearGauge;IIII[J)I" } : Jvm.MethodName) method_5_code (7 : Nat) (Option.some Jvm.ClassFile.FieldType.int) [((0 : Nat), (14 : Nat), (17 : Nat), (21 : Nat)), ((0 : Nat), (14 : Nat), (21 : Nat), (13 : Nat))]) ∈ tG := tG_at 565 (by decide +kernel) rfl
theorem q_566 : (Jvm.Cond.methodLink "GearGaugeLaw" (23 : Nat) ({ cls := "GearGauge", name := "setReading", desc := "(IIII)I" } : Jvm.MethodName)) ∈ tG := tG_at 566 (by decide +kernel) rfl
theorem q_567 : (Jvm.Cond.instanceMethod ({ cls := "GearGauge", name := "setReading", desc := "(IIII)I" } : Jvm.MethodName)) ∈ tG := tG_at 567 (by decide +kernel) rfl
theorem q_568 : (Jvm.Cond.selects "GearGauge" ({ cls := "GearGauge", name := "setReading", desc := "(IIII)I" } : Jvm.MethodName) ({ cls := "GearGauge", name := "setReading", desc := "(IIII)I" } : Jvm.MethodName)) ∈ tG := tG_at 568 (by decide +kernel) rfl
theorem q_569 : (Jvm.Cond.code ({ cls := "GearGauge", name := "setReading", desc := "(IIII)I" } : Jvm.MethodName) prog_1_method_4_code (7 : Nat) (Option.some Jvm.ClassFile.FieldType.int)) ∈ tG := tG_at 569 (by decide +kernel) rfl
theorem q_570 : (Jvm.Cond.methodLink "GearGauge" (86 : Nat) ({ cls := "GearGauge", name := "requireReading", desc := "(LGearGauge$Gear;II)V" } : Jvm.MethodName)) ∈ tG := tG_at 570 (by decide +kernel) rfl
theorem q_571 : (Jvm.Cond.static ({ cls := "GearGauge", name := "requireReading", desc := "(LGearGauge$Gear;II)V" } : Jvm.MethodName)) ∈ tG := tG_at 571 (by decide +kernel) rfl
theorem q_572 : (Jvm.Cond.code ({ cls := "GearGauge", name := "requireReading", desc := "(LGearGauge$Gear;II)V" } : Jvm.MethodName) prog_1_method_40_code (3 : Nat) (Option.none : Option Jvm.ClassFile.FieldType)) ∈ tG := tG_at 572 (by decide +kernel) rfl
theorem q_575 : (Jvm.Cond.methodLink "GearGauge" (90 : Nat) ({ cls := "GearGauge", name := "isDeviation", desc := "(I)Z" } : Jvm.MethodName)) ∈ tG := tG_at 575 (by decide +kernel) rfl
theorem q_577 : (Jvm.Cond.methodLink "GearGaugeLaw" (133 : Nat) ({ cls := "GearGaugeLaw", name := "fill", desc := "(LGearGauge;III[J)I" } : Jvm.MethodName)) ∈ tG := tG_at 577 (by decide +kernel) rfl
theorem q_578 : (Jvm.Cond.static ({ cls := "GearGaugeLaw", name := "fill", desc := "(LGearGauge;III[J)I" } : Jvm.MethodName)) ∈ tG := tG_at 578 (by decide +kernel) rfl
theorem q_579 : (Jvm.Cond.codeWith ({ cls := "GearGaugeLaw", name := "fill", desc := "(LGearGauge;III[J)I" } : Jvm.MethodName) method_6_code (6 : Nat) (Option.some Jvm.ClassFile.FieldType.int) [((0 : Nat), (12 : Nat), (15 : Nat), (21 : Nat)), ((0 : Nat), (12 : Nat), (19 : Nat), (13 : Nat))]) ∈ tG := tG_at 579 (by decide +kernel) rfl
theorem q_580 : (Jvm.Cond.methodLink "GearGaugeLaw" (27 : Nat) ({ cls := "GearGauge", name := "fill", desc := "(III)I" } : Jvm.MethodName)) ∈ tG := tG_at 580 (by decide +kernel) rfl
theorem q_581 : (Jvm.Cond.instanceMethod ({ cls := "GearGauge", name := "fill", desc := "(III)I" } : Jvm.MethodName)) ∈ tG := tG_at 581 (by decide +kernel) rfl
theorem q_582 : (Jvm.Cond.selects "GearGauge" ({ cls := "GearGauge", name := "fill", desc := "(III)I" } : Jvm.MethodName) ({ cls := "GearGauge", name := "fill", desc := "(III)I" } : Jvm.MethodName)) ∈ tG := tG_at 582 (by decide +kernel) rfl
theorem q_583 : (Jvm.Cond.code ({ cls := "GearGauge", name := "fill", desc := "(III)I" } : Jvm.MethodName) prog_1_method_5_code (5 : Nat) (Option.some Jvm.ClassFile.FieldType.int)) ∈ tG := tG_at 583 (by decide +kernel) rfl
theorem q_584 : (Jvm.Cond.constant "GearGauge" (100 : Nat) (999999 : Int32)) ∈ tG := tG_at 584 (by decide +kernel) rfl
theorem q_586 : (Jvm.Cond.methodLink "GearGauge" (103 : Nat) ({ cls := "GearGauge$Gear", name := "scatter", desc := "(II)V" } : Jvm.MethodName)) ∈ tG := tG_at 586 (by decide +kernel) rfl
theorem q_587 : (Jvm.Cond.instanceMethod ({ cls := "GearGauge$Gear", name := "scatter", desc := "(II)V" } : Jvm.MethodName)) ∈ tG := tG_at 587 (by decide +kernel) rfl
theorem q_588 : (Jvm.Cond.selects "GearGauge$Gear" ({ cls := "GearGauge$Gear", name := "scatter", desc := "(II)V" } : Jvm.MethodName) ({ cls := "GearGauge$Gear", name := "scatter", desc := "(II)V" } : Jvm.MethodName)) ∈ tG := tG_at 588 (by decide +kernel) rfl
theorem q_589 : (Jvm.Cond.code ({ cls := "GearGauge$Gear", name := "scatter", desc := "(II)V" } : Jvm.MethodName) prog_2_method_6_code (7 : Nat) (Option.none : Option Jvm.ClassFile.FieldType)) ∈ tG := tG_at 589 (by decide +kernel) rfl
theorem q_590 : (Jvm.Cond.constantLong "GearGauge$Gear" (33 : Nat) (1103515245 : Int64)) ∈ tG := tG_at 590 (by decide +kernel) rfl
theorem q_591 : (Jvm.Cond.constantLong "GearGauge$Gear" (35 : Nat) (12345 : Int64)) ∈ tG := tG_at 591 (by decide +kernel) rfl
theorem q_592 : (Jvm.Cond.constantLong "GearGauge$Gear" (37 : Nat) (2147483648 : Int64)) ∈ tG := tG_at 592 (by decide +kernel) rfl
theorem q_593 : (Jvm.Cond.constantLong "GearGauge$Gear" (39 : Nat) (65536 : Int64)) ∈ tG := tG_at 593 (by decide +kernel) rfl
theorem q_594 : (Jvm.Cond.constantLong "GearGauge$Gear" (41 : Nat) (2 : Int64)) ∈ tG := tG_at 594 (by decide +kernel) rfl
theorem q_595 : (Jvm.Cond.methodLink "GearGaugeLaw" (137 : Nat) ({ cls := "GearGaugeLaw", name := "turn", desc := "(LGearGauge;II[J)I" } : Jvm.MethodName)) ∈ tG := tG_at 595 (by decide +kernel) rfl
theorem q_596 : (Jvm.Cond.static ({ cls := "GearGaugeLaw", name := "turn", desc := "(LGearGauge;II[J)I" } : Jvm.MethodName)) ∈ tG := tG_at 596 (by decide +kernel) rfl
theorem q_597 : (Jvm.Cond.codeWith ({ cls := "GearGaugeLaw", name := "turn", desc := "(LGearGauge;II[J)I" } : Jvm.MethodName) method_7_code (5 : Nat) (Option.some Jvm.ClassFile.FieldType.int) [((0 : Nat), (10 : Nat), (13 : Nat), (21 : Nat)), ((0 : Nat), (10 : Nat), (17 : Nat), (15 : Nat))]) ∈ tG := tG_at 597 (by decide +kernel) rfl
theorem q_598 : (Jvm.Cond.methodLink "GearGaugeLaw" (31 : Nat) ({ cls := "GearGauge", name := "turn", desc := "(II)I" } : Jvm.MethodName)) ∈ tG := tG_at 598 (by decide +kernel) rfl
theorem q_599 : (Jvm.Cond.instanceMethod ({ cls := "GearGauge", name := "turn", desc := "(II)I" } : Jvm.MethodName)) ∈ tG := tG_at 599 (by decide +kernel) rfl
theorem q_600 : (Jvm.Cond.selects "GearGauge" ({ cls := "GearGauge", name := "turn", desc := "(II)I" } : Jvm.MethodName) ({ cls := "GearGauge", name := "turn", desc := "(II)I" } : Jvm.MethodName)) ∈ tG := tG_at 600 (by decide +kernel) rfl
theorem q_601 : (Jvm.Cond.code ({ cls := "GearGauge", name := "turn", desc := "(II)I" } : Jvm.MethodName) prog_1_method_6_code (4 : Nat) (Option.some Jvm.ClassFile.FieldType.int)) ∈ tG := tG_at 601 (by decide +kernel) rfl
theorem q_603 : (Jvm.Cond.methodLink "GearGauge" (118 : Nat) ({ cls := "GearGauge$Gear", name := "becomeTurned", desc := "(LGearGauge$Gear;I)V" } : Jvm.MethodName)) ∈ tG := tG_at 603 (by decide +kernel) rfl
theorem q_604 : (Jvm.Cond.instanceMethod ({ cls := "GearGauge$Gear", name := "becomeTurned", desc := "(LGearGauge$Gear;I)V" } : Jvm.MethodName)) ∈ tG := tG_at 604 (by decide +kernel) rfl
theorem q_605 : (Jvm.Cond.selects "GearGauge$Gear" ({ cls := "GearGauge$Gear", name := "becomeTurned", desc := "(LGearGauge$Gear;I)V" } : Jvm.MethodName) ({ cls := "GearGauge$Gear", name := "becomeTurned", desc := "(LGearGauge$Gear;I)V" } : Jvm.MethodName)) ∈ tG := tG_at 605 (by decide +kernel) rfl
theorem q_606 : (Jvm.Cond.code ({ cls := "GearGauge$Gear", name := "becomeTurned", desc := "(LGearGauge$Gear;I)V" } : Jvm.MethodName) prog_2_method_7_code (8 : Nat) (Option.none : Option Jvm.ClassFile.FieldType)) ∈ tG := tG_at 606 (by decide +kernel) rfl
theorem q_607 : (Jvm.Cond.methodLink "GearGauge" (122 : Nat) ({ cls := "GearGauge$Gear", name := "isInRange", desc := "()Z" } : Jvm.MethodName)) ∈ tG := tG_at 607 (by decide +kernel) rfl
theorem q_608 : (Jvm.Cond.instanceMethod ({ cls := "GearGauge$Gear", name := "isInRange", desc := "()Z" } : Jvm.MethodName)) ∈ tG := tG_at 608 (by decide +kernel) rfl
theorem q_609 : (Jvm.Cond.selects "GearGauge$Gear" ({ cls := "GearGauge$Gear", name := "isInRange", desc := "()Z" } : Jvm.MethodName) ({ cls := "GearGauge$Gear", name := "isInRange", desc := "()Z" } : Jvm.MethodName)) ∈ tG := tG_at 609 (by decide +kernel) rfl
theorem q_610 : (Jvm.Cond.code ({ cls := "GearGauge$Gear", name := "isInRange", desc := "()Z" } : Jvm.MethodName) prog_2_method_8_code (3 : Nat) (Option.some Jvm.ClassFile.FieldType.boolean)) ∈ tG := tG_at 610 (by decide +kernel) rfl
theorem q_613 : (Jvm.Cond.methodLink "GearGauge" (128 : Nat) ({ cls := "GearGauge$Gear", name := "copyFrom", desc := "(LGearGauge$Gear;)V" } : Jvm.MethodName)) ∈ tG := tG_at 613 (by decide +kernel) rfl
theorem q_614 : (Jvm.Cond.methodLink "GearGaugeLaw" (144 : Nat) ({ cls := "GearGaugeLaw", name := "gear", desc := "(LGearGauge;II[J)I" } : Jvm.MethodName)) ∈ tG := tG_at 614 (by decide +kernel) rfl
theorem q_615 : (Jvm.Cond.static ({ cls := "GearGaugeLaw", name := "gear", desc := "(LGearGauge;II[J)I" } : Jvm.MethodName)) ∈ tG := tG_at 615 (by decide +kernel) rfl
theorem q_616 : (Jvm.Cond.codeWith ({ cls := "GearGaugeLaw", name := "gear", desc := "(LGearGauge;II[J)I" } : Jvm.MethodName) method_8_code (5 : Nat) (Option.some Jvm.ClassFile.FieldType.int) [((0 : Nat), (10 : Nat), (13 : Nat), (21 : Nat)), ((0 : Nat), (10 : Nat), (17 : Nat), (13 : Nat))]) ∈ tG := tG_at 616 (by decide +kernel) rfl
theorem q_617 : (Jvm.Cond.methodLink "GearGaugeLaw" (34 : Nat) ({ cls := "GearGauge", name := "gear", desc := "(II)I" } : Jvm.MethodName)) ∈ tG := tG_at 617 (by decide +kernel) rfl
theorem q_618 : (Jvm.Cond.instanceMethod ({ cls := "GearGauge", name := "gear", desc := "(II)I" } : Jvm.MethodName)) ∈ tG := tG_at 618 (by decide +kernel) rfl
theorem q_619 : (Jvm.Cond.selects "GearGauge" ({ cls := "GearGauge", name := "gear", desc := "(II)I" } : Jvm.MethodName) ({ cls := "GearGauge", name := "gear", desc := "(II)I" } : Jvm.MethodName)) ∈ tG := tG_at 619 (by decide +kernel) rfl
theorem q_620 : (Jvm.Cond.code ({ cls := "GearGauge", name := "gear", desc := "(II)I" } : Jvm.MethodName) prog_1_method_8_code (4 : Nat) (Option.some Jvm.ClassFile.FieldType.int)) ∈ tG := tG_at 620 (by decide +kernel) rfl
theorem q_622 : (Jvm.Cond.methodLink "GearGaugeLaw" (147 : Nat) ({ cls := "GearGaugeLaw", name := "reading", desc := "(LGearGauge;III[J)I" } : Jvm.MethodName)) ∈ tG := tG_at 622 (by decide +kernel) rfl
theorem q_623 : (Jvm.Cond.static ({ cls := "GearGaugeLaw", name := "reading", desc := "(LGearGauge;III[J)I" } : Jvm.MethodName)) ∈ tG := tG_at 623 (by decide +kernel) rfl
theorem q_624 : (Jvm.Cond.codeWith ({ cls := "GearGaugeLaw", name := "reading", desc := "(LGearGauge;III[J)I" } : Jvm.MethodName) method_9_code (6 : Nat) (Option.some Jvm.ClassFile.FieldType.int) [((0 : Nat), (12 : Nat), (15 : Nat), (21 : Nat))]) ∈ tG := tG_at 624 (by decide +kernel) rfl
theorem q_625 : (Jvm.Cond.methodLink "GearGaugeLaw" (37 : Nat) ({ cls := "GearGauge", name := "reading", desc := "(III)I" } : Jvm.MethodName)) ∈ tG := tG_at 625 (by decide +kernel) rfl
theorem q_626 : (Jvm.Cond.instanceMethod ({ cls := "GearGauge", name := "reading", desc := "(III)I" } : Jvm.MethodName)) ∈ tG := tG_at 626 (by decide +kernel) rfl
theorem q_627 : (Jvm.Cond.selects "GearGauge" ({ cls := "GearGauge", name := "reading", desc := "(III)I" } : Jvm.MethodName) ({ cls := "GearGauge", name := "reading", desc := "(III)I" } : Jvm.MethodName)) ∈ tG := tG_at 627 (by decide +kernel) rfl
theorem q_628 : (Jvm.Cond.code ({ cls := "GearGauge", name := "reading", desc := "(III)I" } : Jvm.MethodName) prog_1_method_9_code (5 : Nat) (Option.some Jvm.ClassFile.FieldType.int)) ∈ tG := tG_at 628 (by decide +kernel) rfl
theorem q_629 : (Jvm.Cond.methodLink "GearGaugeLaw" (150 : Nat) ({ cls := "GearGaugeLaw", name := "index", desc := "(LGearGauge;III[J)I" } : Jvm.MethodName)) ∈ tG := tG_at 629 (by decide +kernel) rfl
theorem q_630 : (Jvm.Cond.static ({ cls := "GearGaugeLaw", name := "index", desc := "(LGearGauge;III[J)I" } : Jvm.MethodName)) ∈ tG := tG_at 630 (by decide +kernel) rfl
theorem q_631 : (Jvm.Cond.codeWith ({ cls := "GearGaugeLaw", name := "index", desc := "(LGearGauge;III[J)I" } : Jvm.MethodName) method_10_code (6 : Nat) (Option.some Jvm.ClassFile.FieldType.int) [((0 : Nat), (12 : Nat), (15 : Nat), (21 : Nat))]) ∈ tG := tG_at 631 (by decide +kernel) rfl
theorem q_632 : (Jvm.Cond.methodLink "GearGaugeLaw" (40 : Nat) ({ cls := "GearGauge", name := "index", desc := "(III)I" } : Jvm.MethodName)) ∈ tG := tG_at 632 (by decide +kernel) rfl
theorem q_633 : (Jvm.Cond.instanceMethod ({ cls := "GearGauge", name := "index", desc := "(III)I" } : Jvm.MethodName)) ∈ tG := tG_at 633 (by decide +kernel) rfl
theorem q_634 : (Jvm.Cond.selects "GearGauge" ({ cls := "GearGauge", name := "index", desc := "(III)I" } : Jvm.MethodName) ({ cls := "GearGauge", name := "index", desc := "(III)I" } : Jvm.MethodName)) ∈ tG := tG_at 634 (by decide +kernel) rfl
theorem q_635 : (Jvm.Cond.code ({ cls := "GearGauge", name := "index", desc := "(III)I" } : Jvm.MethodName) prog_1_method_10_code (5 : Nat) (Option.some Jvm.ClassFile.FieldType.int)) ∈ tG := tG_at 635 (by decide +kernel) rfl
theorem q_636 : (Jvm.Cond.methodLink "GearGauge" (143 : Nat) ({ cls := "GearGauge", name := "requireFlank", desc := "(I)V" } : Jvm.MethodName)) ∈ tG := tG_at 636 (by decide +kernel) rfl
theorem q_637 : (Jvm.Cond.static ({ cls := "GearGauge", name := "requireFlank", desc := "(I)V" } : Jvm.MethodName)) ∈ tG := tG_at 637 (by decide +kernel) rfl
theorem q_638 : (Jvm.Cond.code ({ cls := "GearGauge", name := "requireFlank", desc := "(I)V" } : Jvm.MethodName) prog_1_method_41_code (1 : Nat) (Option.none : Option Jvm.ClassFile.FieldType)) ∈ tG := tG_at 638 (by decide +kernel) rfl
theorem q_640 : (Jvm.Cond.methodLink "GearGauge" (147 : Nat) ({ cls := "GearGauge$Gear", name := "indexAt", desc := "(II)I" } : Jvm.MethodName)) ∈ tG := tG_at 640 (by decide +kernel) rfl
theorem q_641 : (Jvm.Cond.methodLink "GearGaugeLaw" (153 : Nat) ({ cls := "GearGaugeLaw", name := "pitch", desc := "(LGearGauge;III[J)I" } : Jvm.MethodName)) ∈ tG := tG_at 641 (by decide +kernel) rfl
theorem q_642 : (Jvm.Cond.static ({ cls := "GearGaugeLaw", name := "pitch", desc := "(LGearGauge;III[J)I" } : Jvm.MethodName)) ∈ tG := tG_at 642 (by decide +kernel) rfl
theorem q_643 : (Jvm.Cond.codeWith ({ cls := "GearGaugeLaw", name := "pitch", desc := "(LGearGauge;III[J)I" } : Jvm.MethodName) method_11_code (6 : Nat) (Option.some Jvm.ClassFile.FieldType.int) [((0 : Nat), (12 : Nat), (15 : Nat), (21 : Nat))]) ∈ tG := tG_at 643 (by decide +kernel) rfl
theorem q_644 : (Jvm.Cond.methodLink "GearGaugeLaw" (43 : Nat) ({ cls := "GearGauge", name := "pitch", desc := "(III)I" } : Jvm.MethodName)) ∈ tG := tG_at 644 (by decide +kernel) rfl
theorem q_645 : (Jvm.Cond.instanceMethod ({ cls := "GearGauge", name := "pitch", desc := "(III)I" } : Jvm.MethodName)) ∈ tG := tG_at 645 (by decide +kernel) rfl
theorem q_646 : (Jvm.Cond.selects "GearGauge" ({ cls := "GearGauge", name := "pitch", desc := "(III)I" } : Jvm.MethodName) ({ cls := "GearGauge", name := "pitch", desc := "(III)I" } : Jvm.MethodName)) ∈ tG := tG_at 646 (by decide +kernel) rfl
theorem q_647 : (Jvm.Cond.code ({ cls := "GearGauge", name := "pitch", desc := "(III)I" } : Jvm.MethodName) prog_1_method_11_code (5 : Nat) (Option.some Jvm.ClassFile.FieldType.int)) ∈ tG := tG_at 647 (by decide +kernel) rfl
theorem q_648 : (Jvm.Cond.methodLink "GearGaugeLaw" (156 : Nat) ({ cls := "GearGaugeLaw", name := "span", desc := "(LGearGauge;III[J)I" } : Jvm.MethodName)) ∈ tG := tG_at 648 (by decide +kernel) rfl
theorem q_649 : (Jvm.Cond.static ({ cls := "GearGaugeLaw", name := "span", desc := "(LGearGauge;III[J)I" } : Jvm.MethodName)) ∈ tG := tG_at 649 (by decide +kernel) rfl
theorem q_650 : (Jvm.Cond.codeWith ({ cls := "GearGaugeLaw", name := "span", desc := "(LGearGauge;III[J)I" } : Jvm.MethodName) method_12_code (6 : Nat) (Option.some Jvm.ClassFile.FieldType.int) [((0 : Nat), (12 : Nat), (15 : Nat), (21 : Nat)), ((0 : Nat), (12 : Nat), (19 : Nat), (13 : Nat))]) ∈ tG := tG_at 650 (by decide +kernel) rfl
theorem q_651 : (Jvm.Cond.methodLink "GearGaugeLaw" (46 : Nat) ({ cls := "GearGauge", name := "span", desc := "(III)I" } : Jvm.MethodName)) ∈ tG := tG_at 651 (by decide +kernel) rfl
theorem q_652 : (Jvm.Cond.instanceMethod ({ cls := "GearGauge", name := "span", desc := "(III)I" } : Jvm.MethodName)) ∈ tG := tG_at 652 (by decide +kernel) rfl
theorem q_653 : (Jvm.Cond.selects "GearGauge" ({ cls := "GearGauge", name := "span", desc := "(III)I" } : Jvm.MethodName) ({ cls := "GearGauge", name := "span", desc := "(III)I" } : Jvm.MethodName)) ∈ tG := tG_at 653 (by decide +kernel) rfl
theorem q_654 : (Jvm.Cond.code ({ cls := "GearGauge", name := "span", desc := "(III)I" } : Jvm.MethodName) prog_1_method_12_code (5 : Nat) (Option.some Jvm.ClassFile.FieldType.int)) ∈ tG := tG_at 654 (by decide +kernel) rfl
theorem q_656 : (Jvm.Cond.methodLink "GearGauge" (152 : Nat) ({ cls := "GearGauge$Gear", name := "greatestSpan", desc := "(II)I" } : Jvm.MethodName)) ∈ tG := tG_at 656 (by decide +kernel) rfl
theorem q_657 : (Jvm.Cond.instanceMethod ({ cls := "GearGauge$Gear", name := "greatestSpan", desc := "(II)I" } : Jvm.MethodName)) ∈ tG := tG_at 657 (by decide +kernel) rfl
theorem q_658 : (Jvm.Cond.selects "GearGauge$Gear" ({ cls := "GearGauge$Gear", name := "greatestSpan", desc := "(II)I" } : Jvm.MethodName) ({ cls := "GearGauge$Gear", name := "greatestSpan", desc := "(II)I" } : Jvm.MethodName)) ∈ tG := tG_at 658 (by decide +kernel) rfl
theorem q_659 : (Jvm.Cond.code ({ cls := "GearGauge$Gear", name := "greatestSpan", desc := "(II)I" } : Jvm.MethodName) prog_2_method_12_code (6 : Nat) (Option.some Jvm.ClassFile.FieldType.int)) ∈ tG := tG_at 659 (by decide +kernel) rfl
theorem q_660 : (Jvm.Cond.methodLink "GearGauge$Gear" (69 : Nat) ({ cls := "GearGauge$Gear", name := "around", desc := "(I)I" } : Jvm.MethodName)) ∈ tG := tG_at 660 (by decide +kernel) rfl
theorem q_662 : (Jvm.Cond.instanceMethod ({ cls := "GearGauge$Gear", name := "around", desc := "(I)I" } : Jvm.MethodName)) ∈ tG := tG_at 662 (by decide +kernel) rfl
theorem q_663 : (Jvm.Cond.code ({ cls := "GearGauge$Gear", name := "around", desc := "(I)I" } : Jvm.MethodName) prog_2_method_17_code (2 : Nat) (Option.some Jvm.ClassFile.FieldType.int)) ∈ tG := tG_at 663 (by decide +kernel) rfl
theorem q_664 : (Jvm.Cond.methodLink "GearGaugeLaw" (159 : Nat) ({ cls := "GearGaugeLaw", name := "thickness", desc := "(LGearGauge;II[J)I" } : Jvm.MethodName)) ∈ tG := tG_at 664 (by decide +kernel) rfl
theorem q_665 : (Jvm.Cond.static ({ cls := "GearGaugeLaw", name := "thickness", desc := "(LGearGauge;II[J)I" } : Jvm.MethodName)) ∈ tG := tG_at 665 (by decide +kernel) rfl
theorem q_666 : (Jvm.Cond.codeWith ({ cls := "GearGaugeLaw", name := "thickness", desc := "(LGearGauge;II[J)I" } : Jvm.MethodName) method_13_code (5 : Nat) (Option.some Jvm.ClassFile.FieldType.int) [((0 : Nat), (10 : Nat), (13 : Nat), (21 : Nat))]) ∈ tG := tG_at 666 (by decide +kernel) rfl
theorem q_667 : (Jvm.Cond.methodLink "GearGaugeLaw" (49 : Nat) ({ cls := "GearGauge", name := "thickness", desc := "(II)I" } : Jvm.MethodName)) ∈ tG := tG_at 667 (by decide +kernel) rfl
theorem q_668 : (Jvm.Cond.instanceMethod ({ cls := "GearGauge", name := "thickness", desc := "(II)I" } : Jvm.MethodName)) ∈ tG := tG_at 668 (by decide +kernel) rfl
theorem q_669 : (Jvm.Cond.selects "GearGauge" ({ cls := "GearGauge", name := "thickness", desc := "(II)I" } : Jvm.MethodName) ({ cls := "GearGauge", name := "thickness", desc := "(II)I" } : Jvm.MethodName)) ∈ tG := tG_at 669 (by decide +kernel) rfl
theorem q_670 : (Jvm.Cond.code ({ cls := "GearGauge", name := "thickness", desc := "(II)I" } : Jvm.MethodName) prog_1_method_13_code (4 : Nat) (Option.some Jvm.ClassFile.FieldType.int)) ∈ tG := tG_at 670 (by decide +kernel) rfl
theorem q_671 : (Jvm.Cond.methodLink "GearGauge" (155 : Nat) ({ cls := "GearGauge$Gear", name := "thicknessRange", desc := "()I" } : Jvm.MethodName)) ∈ tG := tG_at 671 (by decide +kernel) rfl
theorem q_672 : (Jvm.Cond.instanceMethod ({ cls := "GearGauge$Gear", name := "thicknessRange", desc := "()I" } : Jvm.MethodName)) ∈ tG := tG_at 672 (by decide +kernel) rfl
theorem q_673 : (Jvm.Cond.selects "GearGauge$Gear" ({ cls := "GearGauge$Gear", name := "thicknessRange", desc := "()I" } : Jvm.MethodName) ({ cls := "GearGauge$Gear", name := "thicknessRange", desc := "()I" } : Jvm.MethodName)) ∈ tG := tG_at 673 (by decide +kernel) rfl
theorem q_674 : (Jvm.Cond.code ({ cls := "GearGauge$Gear", name := "thicknessRange", desc := "()I" } : Jvm.MethodName) prog_2_method_14_code (5 : Nat) (Option.some Jvm.ClassFile.FieldType.int)) ∈ tG := tG_at 674 (by decide +kernel) rfl
theorem q_675 : (Jvm.Cond.methodLink "GearGauge$Gear" (72 : Nat) ({ cls := "GearGauge$Gear", name := "thicknessAt", desc := "(I)I" } : Jvm.MethodName)) ∈ tG := tG_at 675 (by decide +kernel) rfl
theorem q_676 : (Jvm.Cond.instanceMethod ({ cls := "GearGauge$Gear", name := "thicknessAt", desc := "(I)I" } : Jvm.MethodName)) ∈ tG := tG_at 676 (by decide +kernel) rfl
theorem q_677 : (Jvm.Cond.selects "GearGauge$Gear" ({ cls := "GearGauge$Gear", name := "thicknessAt", desc := "(I)I" } : Jvm.MethodName) ({ cls := "GearGauge$Gear", name := "thicknessAt", desc := "(I)I" } : Jvm.MethodName)) ∈ tG := tG_at 677 (by decide +kernel) rfl
theorem q_678 : (Jvm.Cond.code ({ cls := "GearGauge$Gear", name := "thicknessAt", desc := "(I)I" } : Jvm.MethodName) prog_2_method_13_code (2 : Nat) (Option.some Jvm.ClassFile.FieldType.int)) ∈ tG := tG_at 678 (by decide +kernel) rfl
theorem q_679 : (Jvm.Cond.methodLink "GearGauge" (159 : Nat) ({ cls := "GearGauge$Gear", name := "thicknessAt", desc := "(I)I" } : Jvm.MethodName)) ∈ tG := tG_at 679 (by decide +kernel) rfl
theorem q_680 : (Jvm.Cond.methodLink "GearGaugeLaw" (162 : Nat) ({ cls := "GearGaugeLaw", name := "eccentricity", desc := "(LGearGauge;I[D)I" } : Jvm.MethodName)) ∈ tG := tG_at 680 (by decide +kernel) rfl
theorem q_681 : (Jvm.Cond.static ({ cls := "GearGaugeLaw", name := "eccentricity", desc := "(LGearGauge;I[D)I" } : Jvm.MethodName)) ∈ tG := tG_at 681 (by decide +kernel) rfl
theorem q_682 : (Jvm.Cond.codeWith ({ cls := "GearGaugeLaw", name := "eccentricity", desc := "(LGearGauge;I[D)I" } : Jvm.MethodName) method_14_code (4 : Nat) (Option.some Jvm.ClassFile.FieldType.int) [((0 : Nat), (8 : Nat), (11 : Nat), (21 : Nat))]) ∈ tG := tG_at 682 (by decide +kernel) rfl
theorem q_683 : (Jvm.Cond.methodLink "GearGaugeLaw" (52 : Nat) ({ cls := "GearGauge", name := "eccentricity", desc := "(I)D" } : Jvm.MethodName)) ∈ tG := tG_at 683 (by decide +kernel) rfl
theorem q_684 : (Jvm.Cond.instanceMethod ({ cls := "GearGauge", name := "eccentricity", desc := "(I)D" } : Jvm.MethodName)) ∈ tG := tG_at 684 (by decide +kernel) rfl
theorem q_685 : (Jvm.Cond.selects "GearGauge" ({ cls := "GearGauge", name := "eccentricity", desc := "(I)D" } : Jvm.MethodName) ({ cls := "GearGauge", name := "eccentricity", desc := "(I)D" } : Jvm.MethodName)) ∈ tG := tG_at 685 (by decide +kernel) rfl
theorem q_686 : (Jvm.Cond.code ({ cls := "GearGauge", name := "eccentricity", desc := "(I)D" } : Jvm.MethodName) prog_1_method_14_code (3 : Nat) (Option.some Jvm.ClassFile.FieldType.double)) ∈ tG := tG_at 686 (by decide +kernel) rfl
theorem q_687 : (Jvm.Cond.methodLink "GearGauge" (162 : Nat) ({ cls := "GearGauge$Gear", name := "greatestOpposite", desc := "()I" } : Jvm.MethodName)) ∈ tG := tG_at 687 (by decide +kernel) rfl
theorem q_688 : (Jvm.Cond.instanceMethod ({ cls := "GearGauge$Gear", name := "greatestOpposite", desc := "()I" } : Jvm.MethodName)) ∈ tG := tG_at 688 (by decide +kernel) rfl
theorem q_689 : (Jvm.Cond.selects "GearGauge$Gear" ({ cls := "GearGauge$Gear", name := "greatestOpposite", desc := "()I" } : Jvm.MethodName) ({ cls := "GearGauge$Gear", name := "greatestOpposite", desc := "()I" } : Jvm.MethodName)) ∈ tG := tG_at 689 (by decide +kernel) rfl
theorem q_690 : (Jvm.Cond.code ({ cls := "GearGauge$Gear", name := "greatestOpposite", desc := "()I" } : Jvm.MethodName) prog_2_method_16_code (4 : Nat) (Option.some Jvm.ClassFile.FieldType.int)) ∈ tG := tG_at 690 (by decide +kernel) rfl
theorem q_691 : (Jvm.Cond.constantDouble "GearGauge" (165 : Nat) (4611686018427387904 : UInt64)) ∈ tG := tG_at 691 (by decide +kernel) rfl
theorem q_692 : (Jvm.Cond.methodLink "GearGaugeLaw" (166 : Nat) ({ cls := "GearGaugeLaw", name := "deviation", desc := "(LGearGauge;II[J)I" } : Jvm.MethodName)) ∈ tG := tG_at 692 (by decide +kernel) rfl
theorem q_693 : (Jvm.Cond.static ({ cls := "GearGaugeLaw", name := "deviation", desc := "(LGearGauge;II[J)I" } : Jvm.MethodName)) ∈ tG := tG_at 693 (by decide +kernel) rfl
theorem q_694 : (Jvm.Cond.codeWith ({ cls := "GearGaugeLaw", name := "deviation", desc := "(LGearGauge;II[J)I" } : Jvm.MethodName) method_15_code (5 : Nat) (Option.some Jvm.ClassFile.FieldType.int) [((0 : Nat), (10 : Nat), (13 : Nat), (21 : Nat)), ((0 : Nat), (10 : Nat), (17 : Nat), (13 : Nat))]) ∈ tG := tG_at 694 (by decide +kernel) rfl
theorem q_695 : (Jvm.Cond.methodLink "GearGaugeLaw" (56 : Nat) ({ cls := "GearGauge", name := "deviation", desc := "(II)I" } : Jvm.MethodName)) ∈ tG := tG_at 695 (by decide +kernel) rfl
theorem q_696 : (Jvm.Cond.instanceMethod ({ cls := "GearGauge", name := "deviation", desc := "(II)I" } : Jvm.MethodName)) ∈ tG := tG_at 696 (by decide +kernel) rfl
theorem q_697 : (Jvm.Cond.selects "GearGauge" ({ cls := "GearGauge", name := "deviation", desc := "(II)I" } : Jvm.MethodName) ({ cls := "GearGauge", name := "deviation", desc := "(II)I" } : Jvm.MethodName)) ∈ tG := tG_at 697 (by decide +kernel) rfl
theorem q_698 : (Jvm.Cond.code ({ cls := "GearGauge", name := "deviation", desc := "(II)I" } : Jvm.MethodName) prog_1_method_15_code (3 : Nat) (Option.some Jvm.ClassFile.FieldType.int)) ∈ tG := tG_at 698 (by decide +kernel) rfl
theorem q_699 : (Jvm.Cond.methodLink "GearGauge" (167 : Nat) ({ cls := "GearGauge", name := "requireWhat", desc := "(I)V" } : Jvm.MethodName)) ∈ tG := tG_at 699 (by decide +kernel) rfl
theorem q_700 : (Jvm.Cond.static ({ cls := "GearGauge", name := "requireWhat", desc := "(I)V" } : Jvm.MethodName)) ∈ tG := tG_at 700 (by decide +kernel) rfl
theorem q_701 : (Jvm.Cond.code ({ cls := "GearGauge", name := "requireWhat", desc := "(I)V" } : Jvm.MethodName) prog_1_method_42_code (1 : Nat) (Option.none : Option Jvm.ClassFile.FieldType)) ∈ tG := tG_at 701 (by decide +kernel) rfl
theorem q_702 : (Jvm.Cond.methodLink "GearGaugeLaw" (169 : Nat) ({ cls := "GearGaugeLaw", name := "addLine", desc := "(LGearGauge;II[J)I" } : Jvm.MethodName)) ∈ tG := tG_at 702 (by decide +kernel) rfl
theorem q_703 : (Jvm.Cond.static ({ cls := "GearGaugeLaw", name := "addLine", desc := "(LGearGauge;II[J)I" } : Jvm.MethodName)) ∈ tG := tG_at 703 (by decide +kernel) rfl
theorem q_704 : (Jvm.Cond.codeWith ({ cls := "GearGaugeLaw", name := "addLine", desc := "(LGearGauge;II[J)I" } : Jvm.MethodName) method_16_code (5 : Nat) (Option.some Jvm.ClassFile.FieldType.int) [((0 : Nat), (10 : Nat), (13 : Nat), (21 : Nat)), ((0 : Nat), (10 : Nat), (17 : Nat), (13 : Nat)), ((0 : Nat), (10 : Nat), (21 : Nat), (15 : Nat))]) ∈ tG := tG_at 704 (by decide +kernel) rfl
theorem q_705 : (Jvm.Cond.methodLink "GearGaugeLaw" (59 : Nat) ({ cls := "GearGauge", name := "addLine", desc := "(II)I" } : Jvm.MethodName)) ∈ tG := tG_at 705 (by decide +kernel) rfl
theorem q_706 : (Jvm.Cond.instanceMethod ({ cls := "GearGauge", name := "addLine", desc := "(II)I" } : Jvm.MethodName)) ∈ tG := tG_at 706 (by decide +kernel) rfl
theorem q_707 : (Jvm.Cond.selects "GearGauge" ({ cls := "GearGauge", name := "addLine", desc := "(II)I" } : Jvm.MethodName) ({ cls := "GearGauge", name := "addLine", desc := "(II)I" } : Jvm.MethodName)) ∈ tG := tG_at 707 (by decide +kernel) rfl
theorem q_708 : (Jvm.Cond.code ({ cls := "GearGauge", name := "addLine", desc := "(II)I" } : Jvm.MethodName) prog_1_method_16_code (3 : Nat) (Option.some Jvm.ClassFile.FieldType.int)) ∈ tG := tG_at 708 (by decide +kernel) rfl
theorem q_711 : (Jvm.Cond.methodLink "GearGauge" (180 : Nat) ({ cls := "GearGauge$State", name := "newLine", desc := "(II)I" } : Jvm.MethodName)) ∈ tG := tG_at 711 (by decide +kernel) rfl
theorem q_712 : (Jvm.Cond.methodLink "GearGaugeLaw" (172 : Nat) ({ cls := "GearGaugeLaw", name := "addPoint", desc := "(LGearGauge;II[J)I" } : Jvm.MethodName)) ∈ tG := tG_at 712 (by decide +kernel) rfl
theorem q_713 : (Jvm.Cond.static ({ cls := "GearGaugeLaw", name := "addPoint", desc := "(LGearGauge;II[J)I" } : Jvm.MethodName)) ∈ tG := tG_at 713 (by decide +kernel) rfl
theorem q_714 : (Jvm.Cond.codeWith ({ cls := "GearGaugeLaw", name := "addPoint", desc := "(LGearGauge;II[J)I" } : Jvm.MethodName) method_17_code (5 : Nat) (Option.some Jvm.ClassFile.FieldType.int) [((0 : Nat), (10 : Nat), (13 : Nat), (21 : Nat)), ((0 : Nat), (10 : Nat), (17 : Nat), (13 : Nat)), ((0 : Nat), (10 : Nat), (21 : Nat), (15 : Nat))]) ∈ tG := tG_at 714 (by decide +kernel) rfl
theorem q_715 : (Jvm.Cond.methodLink "GearGaugeLaw" (62 : Nat) ({ cls := "GearGauge", name := "addPoint", desc := "(II)I" } : Jvm.MethodName)) ∈ tG := tG_at 715 (by decide +kernel) rfl
theorem q_716 : (Jvm.Cond.instanceMethod ({ cls := "GearGauge", name := "addPoint", desc := "(II)I" } : Jvm.MethodName)) ∈ tG := tG_at 716 (by decide +kernel) rfl
theorem q_717 : (Jvm.Cond.selects "GearGauge" ({ cls := "GearGauge", name := "addPoint", desc := "(II)I" } : Jvm.MethodName) ({ cls := "GearGauge", name := "addPoint", desc := "(II)I" } : Jvm.MethodName)) ∈ tG := tG_at 717 (by decide +kernel) rfl
theorem q_718 : (Jvm.Cond.code ({ cls := "GearGauge", name := "addPoint", desc := "(II)I" } : Jvm.MethodName) prog_1_method_17_code (4 : Nat) (Option.some Jvm.ClassFile.FieldType.int)) ∈ tG := tG_at 718 (by decide +kernel) rfl
theorem q_719 : (Jvm.Cond.methodLink "GearGauge" (183 : Nat) ({ cls := "GearGauge", name := "requireLine", desc := "(I)LGearGauge$Line;" } : Jvm.MethodName)) ∈ tG := tG_at 719 (by decide +kernel) rfl
theorem q_721 : (Jvm.Cond.instanceMethod ({ cls := "GearGauge", name := "requireLine", desc := "(I)LGearGauge$Line;" } : Jvm.MethodName)) ∈ tG := tG_at 721 (by decide +kernel) rfl
theorem q_722 : (Jvm.Cond.code ({ cls := "GearGauge", name := "requireLine", desc := "(I)LGearGauge$Line;" } : Jvm.MethodName) prog_1_method_39_code (2 : Nat) (Option.some (Jvm.ClassFile.FieldType.object "GearGauge$Line"))) ∈ tG := tG_at 722 (by decide +kernel) rfl
theorem q_725 : (Jvm.Cond.methodLink "GearGauge" (194 : Nat) ({ cls := "GearGauge$Line", name := "push", desc := "(I)V" } : Jvm.MethodName)) ∈ tG := tG_at 725 (by decide +kernel) rfl
theorem q_726 : (Jvm.Cond.methodLink "GearGaugeLaw" (175 : Nat) ({ cls := "GearGaugeLaw", name := "removeLine", desc := "(LGearGauge;I[J)I" } : Jvm.MethodName)) ∈ tG := tG_at 726 (by decide +kernel) rfl
theorem q_727 : (Jvm.Cond.static ({ cls := "GearGaugeLaw", name := "removeLine", desc := "(LGearGauge;I[J)I" } : Jvm.MethodName)) ∈ tG := tG_at 727 (by decide +kernel) rfl
theorem q_728 : (Jvm.Cond.codeWith ({ cls := "GearGaugeLaw", name := "removeLine", desc := "(LGearGauge;I[J)I" } : Jvm.MethodName) method_18_code (4 : Nat) (Option.some Jvm.ClassFile.FieldType.int) [((0 : Nat), (9 : Nat), (12 : Nat), (21 : Nat))]) ∈ tG := tG_at 728 (by decide +kernel) rfl
theorem q_729 : (Jvm.Cond.methodLink "GearGaugeLaw" (65 : Nat) ({ cls := "GearGauge", name := "removeLine", desc := "(I)I" } : Jvm.MethodName)) ∈ tG := tG_at 729 (by decide +kernel) rfl
theorem q_730 : (Jvm.Cond.instanceMethod ({ cls := "GearGauge", name := "removeLine", desc := "(I)I" } : Jvm.MethodName)) ∈ tG := tG_at 730 (by decide +kernel) rfl
theorem q_731 : (Jvm.Cond.selects "GearGauge" ({ cls := "GearGauge", name := "removeLine", desc := "(I)I" } : Jvm.MethodName) ({ cls := "GearGauge", name := "removeLine", desc := "(I)I" } : Jvm.MethodName)) ∈ tG := tG_at 731 (by decide +kernel) rfl
theorem q_732 : (Jvm.Cond.code ({ cls := "GearGauge", name := "removeLine", desc := "(I)I" } : Jvm.MethodName) prog_1_method_18_code (2 : Nat) (Option.some Jvm.ClassFile.FieldType.int)) ∈ tG := tG_at 732 (by decide +kernel) rfl
theorem q_733 : (Jvm.Cond.methodLink "GearGauge" (197 : Nat) ({ cls := "GearGauge$State", name := "dropLine", desc := "(I)V" } : Jvm.MethodName)) ∈ tG := tG_at 733 (by decide +kernel) rfl
theorem q_734 : (Jvm.Cond.methodLink "GearGaugeLaw" (182 : Nat) ({ cls := "GearGaugeLaw", name := "line", desc := "(LGearGauge;II[J)I" } : Jvm.MethodName)) ∈ tG := tG_at 734 (by decide +kernel) rfl
theorem q_735 : (Jvm.Cond.static ({ cls := "GearGaugeLaw", name := "line", desc := "(LGearGauge;II[J)I" } : Jvm.MethodName)) ∈ tG := tG_at 735 (by decide +kernel) rfl
theorem q_736 : (Jvm.Cond.codeWith ({ cls := "GearGaugeLaw", name := "line", desc := "(LGearGauge;II[J)I" } : Jvm.MethodName) method_19_code (5 : Nat) (Option.some Jvm.ClassFile.FieldType.int) [((0 : Nat), (10 : Nat), (13 : Nat), (21 : Nat)), ((0 : Nat), (10 : Nat), (17 : Nat), (13 : Nat))]) ∈ tG := tG_at 736 (by decide +kernel) rfl
theorem q_737 : (Jvm.Cond.methodLink "GearGaugeLaw" (68 : Nat) ({ cls := "GearGauge", name := "line", desc := "(II)I" } : Jvm.MethodName)) ∈ tG := tG_at 737 (by decide +kernel) rfl
theorem q_738 : (Jvm.Cond.instanceMethod ({ cls := "GearGauge", name := "line", desc := "(II)I" } : Jvm.MethodName)) ∈ tG := tG_at 738 (by decide +kernel) rfl
theorem q_739 : (Jvm.Cond.selects "GearGauge" ({ cls := "GearGauge", name := "line", desc := "(II)I" } : Jvm.MethodName) ({ cls := "GearGauge", name := "line", desc := "(II)I" } : Jvm.MethodName)) ∈ tG := tG_at 739 (by decide +kernel) rfl
theorem q_740 : (Jvm.Cond.code ({ cls := "GearGauge", name := "line", desc := "(II)I" } : Jvm.MethodName) prog_1_method_20_code (4 : Nat) (Option.some Jvm.ClassFile.FieldType.int)) ∈ tG := tG_at 740 (by decide +kernel) rfl
theorem q_741 : (Jvm.Cond.methodLink "GearGaugeLaw" (185 : Nat) ({ cls := "GearGaugeLaw", name := "point", desc := "(LGearGauge;II[J)I" } : Jvm.MethodName)) ∈ tG := tG_at 741 (by decide +kernel) rfl
theorem q_742 : (Jvm.Cond.static ({ cls := "GearGaugeLaw", name := "point", desc := "(LGearGauge;II[J)I" } : Jvm.MethodName)) ∈ tG := tG_at 742 (by decide +kernel) rfl
theorem q_743 : (Jvm.Cond.codeWith ({ cls := "GearGaugeLaw", name := "point", desc := "(LGearGauge;II[J)I" } : Jvm.MethodName) method_20_code (5 : Nat) (Option.some Jvm.ClassFile.FieldType.int) [((0 : Nat), (10 : Nat), (13 : Nat), (21 : Nat))]) ∈ tG := tG_at 743 (by decide +kernel) rfl
theorem q_744 : (Jvm.Cond.methodLink "GearGaugeLaw" (71 : Nat) ({ cls := "GearGauge", name := "point", desc := "(II)I" } : Jvm.MethodName)) ∈ tG := tG_at 744 (by decide +kernel) rfl
theorem q_745 : (Jvm.Cond.instanceMethod ({ cls := "GearGauge", name := "point", desc := "(II)I" } : Jvm.MethodName)) ∈ tG := tG_at 745 (by decide +kernel) rfl
theorem q_746 : (Jvm.Cond.selects "GearGauge" ({ cls := "GearGauge", name := "point", desc := "(II)I" } : Jvm.MethodName) ({ cls := "GearGauge", name := "point", desc := "(II)I" } : Jvm.MethodName)) ∈ tG := tG_at 746 (by decide +kernel) rfl
theorem q_747 : (Jvm.Cond.code ({ cls := "GearGauge", name := "point", desc := "(II)I" } : Jvm.MethodName) prog_1_method_21_code (4 : Nat) (Option.some Jvm.ClassFile.FieldType.int)) ∈ tG := tG_at 747 (by decide +kernel) rfl
theorem q_749 : (Jvm.Cond.methodLink "GearGaugeLaw" (188 : Nat) ({ cls := "GearGaugeLaw", name := "lineDeviation", desc := "(LGearGauge;II[J)I" } : Jvm.MethodName)) ∈ tG := tG_at 749 (by decide +kernel) rfl
theorem q_750 : (Jvm.Cond.static ({ cls := "GearGaugeLaw", name := "lineDeviation", desc := "(LGearGauge;II[J)I" } : Jvm.MethodName)) ∈ tG := tG_at 750 (by decide +kernel) rfl
theorem q_751 : (Jvm.Cond.codeWith ({ cls := "GearGaugeLaw", name := "lineDeviation", desc := "(LGearGauge;II[J)I" } : Jvm.MethodName) method_21_code (5 : Nat) (Option.some Jvm.ClassFile.FieldType.int) [((0 : Nat), (10 : Nat), (13 : Nat), (21 : Nat)), ((0 : Nat), (10 : Nat), (17 : Nat), (13 : Nat)), ((0 : Nat), (10 : Nat), (21 : Nat), (15 : Nat))]) ∈ tG := tG_at 751 (by decide +kernel) rfl
theorem q_752 : (Jvm.Cond.methodLink "GearGaugeLaw" (74 : Nat) ({ cls := "GearGauge", name := "lineDeviation", desc := "(II)I" } : Jvm.MethodName)) ∈ tG := tG_at 752 (by decide +kernel) rfl
theorem q_753 : (Jvm.Cond.instanceMethod ({ cls := "GearGauge", name := "lineDeviation", desc := "(II)I" } : Jvm.MethodName)) ∈ tG := tG_at 753 (by decide +kernel) rfl
theorem q_754 : (Jvm.Cond.selects "GearGauge" ({ cls := "GearGauge", name := "lineDeviation", desc := "(II)I" } : Jvm.MethodName) ({ cls := "GearGauge", name := "lineDeviation", desc := "(II)I" } : Jvm.MethodName)) ∈ tG := tG_at 754 (by decide +kernel) rfl
theorem q_755 : (Jvm.Cond.code ({ cls := "GearGauge", name := "lineDeviation", desc := "(II)I" } : Jvm.MethodName) prog_1_method_22_code (4 : Nat) (Option.some Jvm.ClassFile.FieldType.int)) ∈ tG := tG_at 755 (by decide +kernel) rfl
theorem q_756 : (Jvm.Cond.methodLink "GearGauge" (211 : Nat) ({ cls := "GearGauge", name := "requirePoints", desc := "(LGearGauge$Line;)V" } : Jvm.MethodName)) ∈ tG := tG_at 756 (by decide +kernel) rfl
theorem q_757 : (Jvm.Cond.static ({ cls := "GearGauge", name := "requirePoints", desc := "(LGearGauge$Line;)V" } : Jvm.MethodName)) ∈ tG := tG_at 757 (by decide +kernel) rfl
theorem q_758 : (Jvm.Cond.code ({ cls := "GearGauge", name := "requirePoints", desc := "(LGearGauge$Line;)V" } : Jvm.MethodName) prog_1_method_44_code (1 : Nat) (Option.none : Option Jvm.ClassFile.FieldType)) ∈ tG := tG_at 758 (by decide +kernel) rfl
theorem q_760 : (Jvm.Cond.methodLink "GearGaugeLaw" (191 : Nat) ({ cls := "GearGaugeLaw", name := "best", desc := "(LGearGauge;IZI[J)I" } : Jvm.MethodName)) ∈ tG := tG_at 760 (by decide +kernel) rfl
theorem q_761 : (Jvm.Cond.static ({ cls := "GearGaugeLaw", name := "best", desc := "(LGearGauge;IZI[J)I" } : Jvm.MethodName)) ∈ tG := tG_at 761 (by decide +kernel) rfl
theorem q_762 : (Jvm.Cond.codeWith ({ cls := "GearGaugeLaw", name := "best", desc := "(LGearGauge;IZI[J)I" } : Jvm.MethodName) method_22_code (6 : Nat) (Option.some Jvm.ClassFile.FieldType.int) [((0 : Nat), (11 : Nat), (14 : Nat), (21 : Nat)), ((0 : Nat), (11 : Nat), (18 : Nat), (13 : Nat)), ((0 : Nat), (11 : Nat), (22 : Nat), (15 : Nat))]) ∈ tG := tG_at 762 (by decide +kernel) rfl
theorem q_763 : (Jvm.Cond.methodLink "GearGaugeLaw" (77 : Nat) ({ cls := "GearGauge", name := "best", desc := "(IZI)J" } : Jvm.MethodName)) ∈ tG := tG_at 763 (by decide +kernel) rfl
theorem q_764 : (Jvm.Cond.instanceMethod ({ cls := "GearGauge", name := "best", desc := "(IZI)J" } : Jvm.MethodName)) ∈ tG := tG_at 764 (by decide +kernel) rfl
theorem q_765 : (Jvm.Cond.selects "GearGauge" ({ cls := "GearGauge", name := "best", desc := "(IZI)J" } : Jvm.MethodName) ({ cls := "GearGauge", name := "best", desc := "(IZI)J" } : Jvm.MethodName)) ∈ tG := tG_at 765 (by decide +kernel) rfl
theorem q_766 : (Jvm.Cond.code ({ cls := "GearGauge", name := "best", desc := "(IZI)J" } : Jvm.MethodName) prog_1_method_23_code (11 : Nat) (Option.some Jvm.ClassFile.FieldType.long)) ∈ tG := tG_at 766 (by decide +kernel) rfl
theorem q_768 : (Jvm.Cond.methodLink "GearGauge" (219 : Nat) ({ cls := "GearGauge$Line", name := "slopeNumerator", desc := "()J" } : Jvm.MethodName)) ∈ tG := tG_at 768 (by decide +kernel) rfl
theorem q_769 : (Jvm.Cond.methodLink "GearGauge" (223 : Nat) ({ cls := "GearGauge$Line", name := "interceptNumerator", desc := "()J" } : Jvm.MethodName)) ∈ tG := tG_at 769 (by decide +kernel) rfl
theorem q_770 : (Jvm.Cond.methodLink "GearGauge" (226 : Nat) ({ cls := "GearGauge$Line", name := "denominator", desc := "()J" } : Jvm.MethodName)) ∈ tG := tG_at 770 (by decide +kernel) rfl
theorem q_771 : (Jvm.Cond.methodLink "GearGauge" (229 : Nat) ({ cls := "GearGauge", name := "commonDivisor", desc := "(JJ)J" } : Jvm.MethodName)) ∈ tG := tG_at 771 (by decide +kernel) rfl
theorem q_772 : (Jvm.Cond.static ({ cls := "GearGauge", name := "commonDivisor", desc := "(JJ)J" } : Jvm.MethodName)) ∈ tG := tG_at 772 (by decide +kernel) rfl
theorem q_773 : (Jvm.Cond.code ({ cls := "GearGauge", name := "commonDivisor", desc := "(JJ)J" } : Jvm.MethodName) prog_1_method_55_code (11 : Nat) (Option.some Jvm.ClassFile.FieldType.long)) ∈ tG := tG_at 773 (by decide +kernel) rfl
theorem q_774 : (Jvm.Cond.methodLink "GearGauge" (346 : Nat) ({ cls := "java/lang/Math", name := "abs", desc := "(J)J" } : Jvm.MethodName)) ∈ tG := tG_at 774 (by decide +kernel) rfl
theorem q_775 : (Jvm.Cond.static ({ cls := "java/lang/Math", name := "abs", desc := "(J)J" } : Jvm.MethodName)) ∈ tG := tG_at 775 (by decide +kernel) rfl
theorem q_776 : (Jvm.Cond.code ({ cls := "java/lang/Math", name := "abs", desc := "(J)J" } : Jvm.MethodName) prog_13_method_61_code (2 : Nat) (Option.some Jvm.ClassFile.FieldType.long)) ∈ tG := tG_at 776 (by decide +kernel) rfl
theorem q_777 : (Jvm.Cond.methodLink "GearGauge" (233 : Nat) ({ cls := "java/lang/Math", name := "max", desc := "(JJ)J" } : Jvm.MethodName)) ∈ tG := tG_at 777 (by decide +kernel) rfl
theorem q_778 : (Jvm.Cond.methodLink "GearGaugeLaw" (195 : Nat) ({ cls := "GearGaugeLaw", name := "tolerance", desc := "(LGearGauge;III[J)I" } : Jvm.MethodName)) ∈ tG := tG_at 778 (by decide +kernel) rfl
theorem q_779 : (Jvm.Cond.static ({ cls := "GearGaugeLaw", name := "tolerance", desc := "(LGearGauge;III[J)I" } : Jvm.MethodName)) ∈ tG := tG_at 779 (by decide +kernel) rfl
theorem q_780 : (Jvm.Cond.codeWith ({ cls := "GearGaugeLaw", name := "tolerance", desc := "(LGearGauge;III[J)I" } : Jvm.MethodName) method_23_code (6 : Nat) (Option.some Jvm.ClassFile.FieldType.int) [((0 : Nat), (12 : Nat), (15 : Nat), (21 : Nat)), ((0 : Nat), (12 : Nat), (19 : Nat), (13 : Nat))]) ∈ tG := tG_at 780 (by decide +kernel) rfl
theorem q_781 : (Jvm.Cond.methodLink "GearGaugeLaw" (81 : Nat) ({ cls := "GearGauge", name := "tolerance", desc := "(III)I" } : Jvm.MethodName)) ∈ tG := tG_at 781 (by decide +kernel) rfl
theorem q_782 : (Jvm.Cond.instanceMethod ({ cls := "GearGauge", name := "tolerance", desc := "(III)I" } : Jvm.MethodName)) ∈ tG := tG_at 782 (by decide +kernel) rfl
theorem q_783 : (Jvm.Cond.selects "GearGauge" ({ cls := "GearGauge", name := "tolerance", desc := "(III)I" } : Jvm.MethodName) ({ cls := "GearGauge", name := "tolerance", desc := "(III)I" } : Jvm.MethodName)) ∈ tG := tG_at 783 (by decide +kernel) rfl
theorem q_784 : (Jvm.Cond.code ({ cls := "GearGauge", name := "tolerance", desc := "(III)I" } : Jvm.MethodName) prog_1_method_24_code (5 : Nat) (Option.some Jvm.ClassFile.FieldType.int)) ∈ tG := tG_at 784 (by decide +kernel) rfl
theorem q_785 : (Jvm.Cond.methodLink "GearGauge" (238 : Nat) ({ cls := "GearGauge", name := "requireClass", desc := "(I)V" } : Jvm.MethodName)) ∈ tG := tG_at 785 (by decide +kernel) rfl
theorem q_786 : (Jvm.Cond.static ({ cls := "GearGauge", name := "requireClass", desc := "(I)V" } : Jvm.MethodName)) ∈ tG := tG_at 786 (by decide +kernel) rfl
theorem q_787 : (Jvm.Cond.code ({ cls := "GearGauge", name := "requireClass", desc := "(I)V" } : Jvm.MethodName) prog_1_method_43_code (1 : Nat) (Option.none : Option Jvm.ClassFile.FieldType)) ∈ tG := tG_at 787 (by decide +kernel) rfl
theorem q_789 : (Jvm.Cond.methodLink "GearGaugeLaw" (198 : Nat) ({ cls := "GearGaugeLaw", name := "quality", desc := "(LGearGauge;II[J)I" } : Jvm.MethodName)) ∈ tG := tG_at 789 (by decide +kernel) rfl
theorem q_790 : (Jvm.Cond.static ({ cls := "GearGaugeLaw", name := "quality", desc := "(LGearGauge;II[J)I" } : Jvm.MethodName)) ∈ tG := tG_at 790 (by decide +kernel) rfl
theorem q_791 : (Jvm.Cond.codeWith ({ cls := "GearGaugeLaw", name := "quality", desc := "(LGearGauge;II[J)I" } : Jvm.MethodName) method_24_code (5 : Nat) (Option.some Jvm.ClassFile.FieldType.int) [((0 : Nat), (10 : Nat), (13 : Nat), (21 : Nat)), ((0 : Nat), (10 : Nat), (17 : Nat), (13 : Nat))]) ∈ tG := tG_at 791 (by decide +kernel) rfl
theorem q_792 : (Jvm.Cond.methodLink "GearGaugeLaw" (84 : Nat) ({ cls := "GearGauge", name := "quality", desc := "(II)I" } : Jvm.MethodName)) ∈ tG := tG_at 792 (by decide +kernel) rfl
theorem q_793 : (Jvm.Cond.instanceMethod ({ cls := "GearGauge", name := "quality", desc := "(II)I" } : Jvm.MethodName)) ∈ tG := tG_at 793 (by decide +kernel) rfl
theorem q_794 : (Jvm.Cond.selects "GearGauge" ({ cls := "GearGauge", name := "quality", desc := "(II)I" } : Jvm.MethodName) ({ cls := "GearGauge", name := "quality", desc := "(II)I" } : Jvm.MethodName)) ∈ tG := tG_at 794 (by decide +kernel) rfl
theorem q_795 : (Jvm.Cond.code ({ cls := "GearGauge", name := "quality", desc := "(II)I" } : Jvm.MethodName) prog_1_method_25_code (4 : Nat) (Option.some Jvm.ClassFile.FieldType.int)) ∈ tG := tG_at 795 (by decide +kernel) rfl
theorem q_796 : (Jvm.Cond.methodLink "GearGaugeLaw" (201 : Nat) ({ cls := "GearGaugeLaw", name := "decide", desc := "(LGearGauge;III[J)I" } : Jvm.MethodName)) ∈ tG := tG_at 796 (by decide +kernel) rfl
theorem q_797 : (Jvm.Cond.static ({ cls := "GearGaugeLaw", name := "decide", desc := "(LGearGauge;III[J)I" } : Jvm.MethodName)) ∈ tG := tG_at 797 (by decide +kernel) rfl
theorem q_798 : (Jvm.Cond.codeWith ({ cls := "GearGaugeLaw", name := "decide", desc := "(LGearGauge;III[J)I" } : Jvm.MethodName) method_25_code (6 : Nat) (Option.some Jvm.ClassFile.FieldType.int) [((0 : Nat), (12 : Nat), (15 : Nat), (21 : Nat)), ((0 : Nat), (12 : Nat), (19 : Nat), (13 : Nat))]) ∈ tG := tG_at 798 (by decide +kernel) rfl
theorem q_799 : (Jvm.Cond.methodLink "GearGaugeLaw" (87 : Nat) ({ cls := "GearGauge", name := "decide", desc := "(III)I" } : Jvm.MethodName)) ∈ tG := tG_at 799 (by decide +kernel) rfl
theorem q_800 : (Jvm.Cond.instanceMethod ({ cls := "GearGauge", name := "decide", desc := "(III)I" } : Jvm.MethodName)) ∈ tG := tG_at 800 (by decide +kernel) rfl
theorem q_801 : (Jvm.Cond.selects "GearGauge" ({ cls := "GearGauge", name := "decide", desc := "(III)I" } : Jvm.MethodName) ({ cls := "GearGauge", name := "decide", desc := "(III)I" } : Jvm.MethodName)) ∈ tG := tG_at 801 (by decide +kernel) rfl
theorem q_802 : (Jvm.Cond.code ({ cls := "GearGauge", name := "decide", desc := "(III)I" } : Jvm.MethodName) prog_1_method_26_code (8 : Nat) (Option.some Jvm.ClassFile.FieldType.int)) ∈ tG := tG_at 802 (by decide +kernel) rfl
theorem q_804 : (Jvm.Cond.methodLink "GearGaugeLaw" (204 : Nat) ({ cls := "GearGaugeLaw", name := "mesh", desc := "(LGearGauge;IIII[J)I" } : Jvm.MethodName)) ∈ tG := tG_at 804 (by decide +kernel) rfl
theorem q_805 : (Jvm.Cond.static ({ cls := "GearGaugeLaw", name := "mesh", desc := "(LGearGauge;IIII[J)I" } : Jvm.MethodName)) ∈ tG := tG_at 805 (by decide +kernel) rfl
theorem q_806 : (Jvm.Cond.codeWith ({ cls := "GearGaugeLaw", name := "mesh", desc := "(LGearGauge;IIII[J)I" } : Jvm.MethodName) method_26_code (7 : Nat) (Option.some Jvm.ClassFile.FieldType.int) [((0 : Nat), (14 : Nat), (17 : Nat), (21 : Nat)), ((0 : Nat), (14 : Nat), (21 : Nat), (13 : Nat))]) ∈ tG := tG_at 806 (by decide +kernel) rfl
theorem q_807 : (Jvm.Cond.methodLink "GearGaugeLaw" (90 : Nat) ({ cls := "GearGauge", name := "mesh", desc := "(IIII)I" } : Jvm.MethodName)) ∈ tG := tG_at 807 (by decide +kernel) rfl
theorem q_808 : (Jvm.Cond.instanceMethod ({ cls := "GearGauge", name := "mesh", desc := "(IIII)I" } : Jvm.MethodName)) ∈ tG := tG_at 808 (by decide +kernel) rfl
theorem q_809 : (Jvm.Cond.selects "GearGauge" ({ cls := "GearGauge", name := "mesh", desc := "(IIII)I" } : Jvm.MethodName) ({ cls := "GearGauge", name := "mesh", desc := "(IIII)I" } : Jvm.MethodName)) ∈ tG := tG_at 809 (by decide +kernel) rfl
theorem q_810 : (Jvm.Cond.code ({ cls := "GearGauge", name := "mesh", desc := "(IIII)I" } : Jvm.MethodName) prog_1_method_27_code (7 : Nat) (Option.some Jvm.ClassFile.FieldType.int)) ∈ tG := tG_at 810 (by decide +kernel) rfl
theorem q_812 : (Jvm.Cond.methodLink "GearGauge" (255 : Nat) ({ cls := "GearGauge$Mesh", name := "engage", desc := "(LGearGauge$Gear;LGearGauge$Gear;I)V" } : Jvm.MethodName)) ∈ tG := tG_at 812 (by decide +kernel) rfl
theorem q_813 : (Jvm.Cond.instanceMethod ({ cls := "GearGauge$Mesh", name := "engage", desc := "(LGearGauge$Gear;LGearGauge$Gear;I)V" } : Jvm.MethodName)) ∈ tG := tG_at 813 (by decide +kernel) rfl
theorem q_814 : (Jvm.Cond.selects "GearGauge$Mesh" ({ cls := "GearGauge$Mesh", name := "engage", desc := "(LGearGauge$Gear;LGearGauge$Gear;I)V" } : Jvm.MethodName) ({ cls := "GearGauge$Mesh", name := "engage", desc := "(LGearGauge$Gear;LGearGauge$Gear;I)V" } : Jvm.MethodName)) ∈ tG := tG_at 814 (by decide +kernel) rfl
theorem q_815 : (Jvm.Cond.code ({ cls := "GearGauge$Mesh", name := "engage", desc := "(LGearGauge$Gear;LGearGauge$Gear;I)V" } : Jvm.MethodName) prog_4_method_2_code (4 : Nat) (Option.none : Option Jvm.ClassFile.FieldType)) ∈ tG := tG_at 815 (by decide +kernel) rfl
theorem q_817 : (Jvm.Cond.methodLink "GearGauge$Mesh" (37 : Nat) ({ cls := "java/lang/Math", name := "max", desc := "(II)I" } : Jvm.MethodName)) ∈ tG := tG_at 817 (by decide +kernel) rfl
theorem q_818 : (Jvm.Cond.methodLink "GearGauge$Mesh" (43 : Nat) ({ cls := "GearGauge$Mesh", name := "sort", desc := "(LGearGauge$Gear;I[I[I)V" } : Jvm.MethodName)) ∈ tG := tG_at 818 (by decide +kernel) rfl
theorem q_820 : (Jvm.Cond.instanceMethod ({ cls := "GearGauge$Mesh", name := "sort", desc := "(LGearGauge$Gear;I[I[I)V" } : Jvm.MethodName)) ∈ tG := tG_at 820 (by decide +kernel) rfl
theorem q_821 : (Jvm.Cond.code ({ cls := "GearGauge$Mesh", name := "sort", desc := "(LGearGauge$Gear;I[I[I)V" } : Jvm.MethodName) prog_4_method_3_code (8 : Nat) (Option.none : Option Jvm.ClassFile.FieldType)) ∈ tG := tG_at 821 (by decide +kernel) rfl
theorem q_822 : (Jvm.Cond.methodLink "GearGauge$Mesh" (47 : Nat) ({ cls := "GearGauge$Gear", name := "indexAt", desc := "(II)I" } : Jvm.MethodName)) ∈ tG := tG_at 822 (by decide +kernel) rfl
theorem q_823 : (Jvm.Cond.methodLink "GearGauge$Mesh" (50 : Nat) ({ cls := "java/lang/Math", name := "min", desc := "(II)I" } : Jvm.MethodName)) ∈ tG := tG_at 823 (by decide +kernel) rfl
theorem q_824 : (Jvm.Cond.methodLink "GearGauge" (259 : Nat) ({ cls := "GearGauge$Mesh", name := "errorAt", desc := "(I)I" } : Jvm.MethodName)) ∈ tG := tG_at 824 (by decide +kernel) rfl
theorem q_825 : (Jvm.Cond.instanceMethod ({ cls := "GearGauge$Mesh", name := "errorAt", desc := "(I)I" } : Jvm.MethodName)) ∈ tG := tG_at 825 (by decide +kernel) rfl
theorem q_826 : (Jvm.Cond.selects "GearGauge$Mesh" ({ cls := "GearGauge$Mesh", name := "errorAt", desc := "(I)I" } : Jvm.MethodName) ({ cls := "GearGauge$Mesh", name := "errorAt", desc := "(I)I" } : Jvm.MethodName)) ∈ tG := tG_at 826 (by decide +kernel) rfl
theorem q_827 : (Jvm.Cond.code ({ cls := "GearGauge$Mesh", name := "errorAt", desc := "(I)I" } : Jvm.MethodName) prog_4_method_4_code (6 : Nat) (Option.some Jvm.ClassFile.FieldType.int)) ∈ tG := tG_at 827 (by decide +kernel) rfl
theorem q_828 : (Jvm.Cond.methodLink "GearGaugeLaw" (207 : Nat) ({ cls := "GearGaugeLaw", name := "bestPhase", desc := "(LGearGauge;III[J)I" } : Jvm.MethodName)) ∈ tG := tG_at 828 (by decide +kernel) rfl
theorem q_829 : (Jvm.Cond.static ({ cls := "GearGaugeLaw", name := "bestPhase", desc := "(LGearGauge;III[J)I" } : Jvm.MethodName)) ∈ tG := tG_at 829 (by decide +kernel) rfl
theorem q_830 : (Jvm.Cond.codeWith ({ cls := "GearGaugeLaw", name := "bestPhase", desc := "(LGearGauge;III[J)I" } : Jvm.MethodName) method_27_code (6 : Nat) (Option.some Jvm.ClassFile.FieldType.int) [((0 : Nat), (12 : Nat), (15 : Nat), (21 : Nat))]) ∈ tG := tG_at 830 (by decide +kernel) rfl
theorem q_831 : (Jvm.Cond.methodLink "GearGaugeLaw" (93 : Nat) ({ cls := "GearGauge", name := "bestPhase", desc := "(III)I" } : Jvm.MethodName)) ∈ tG := tG_at 831 (by decide +kernel) rfl
theorem q_832 : (Jvm.Cond.instanceMethod ({ cls := "GearGauge", name := "bestPhase", desc := "(III)I" } : Jvm.MethodName)) ∈ tG := tG_at 832 (by decide +kernel) rfl
theorem q_833 : (Jvm.Cond.selects "GearGauge" ({ cls := "GearGauge", name := "bestPhase", desc := "(III)I" } : Jvm.MethodName) ({ cls := "GearGauge", name := "bestPhase", desc := "(III)I" } : Jvm.MethodName)) ∈ tG := tG_at 833 (by decide +kernel) rfl
theorem q_834 : (Jvm.Cond.code ({ cls := "GearGauge", name := "bestPhase", desc := "(III)I" } : Jvm.MethodName) prog_1_method_28_code (6 : Nat) (Option.some Jvm.ClassFile.FieldType.int)) ∈ tG := tG_at 834 (by decide +kernel) rfl
theorem q_835 : (Jvm.Cond.methodLink "GearGauge" (262 : Nat) ({ cls := "GearGauge$Mesh", name := "phaseOfSmallest", desc := "()I" } : Jvm.MethodName)) ∈ tG := tG_at 835 (by decide +kernel) rfl
theorem q_836 : (Jvm.Cond.instanceMethod ({ cls := "GearGauge$Mesh", name := "phaseOfSmallest", desc := "()I" } : Jvm.MethodName)) ∈ tG := tG_at 836 (by decide +kernel) rfl
theorem q_837 : (Jvm.Cond.selects "GearGauge$Mesh" ({ cls := "GearGauge$Mesh", name := "phaseOfSmallest", desc := "()I" } : Jvm.MethodName) ({ cls := "GearGauge$Mesh", name := "phaseOfSmallest", desc := "()I" } : Jvm.MethodName)) ∈ tG := tG_at 837 (by decide +kernel) rfl
theorem q_838 : (Jvm.Cond.code ({ cls := "GearGauge$Mesh", name := "phaseOfSmallest", desc := "()I" } : Jvm.MethodName) prog_4_method_5_code (5 : Nat) (Option.some Jvm.ClassFile.FieldType.int)) ∈ tG := tG_at 838 (by decide +kernel) rfl
theorem q_839 : (Jvm.Cond.methodLink "GearGauge$Mesh" (53 : Nat) ({ cls := "GearGauge$Mesh", name := "errorAt", desc := "(I)I" } : Jvm.MethodName)) ∈ tG := tG_at 839 (by decide +kernel) rfl
theorem q_840 : (Jvm.Cond.methodLink "GearGaugeLaw" (210 : Nat) ({ cls := "GearGaugeLaw", name := "partner", desc := "(LGearGauge;II[J)I" } : Jvm.MethodName)) ∈ tG := tG_at 840 (by decide +kernel) rfl
theorem q_841 : (Jvm.Cond.static ({ cls := "GearGaugeLaw", name := "partner", desc := "(LGearGauge;II[J)I" } : Jvm.MethodName)) ∈ tG := tG_at 841 (by decide +kernel) rfl
theorem q_842 : (Jvm.Cond.codeWith ({ cls := "GearGaugeLaw", name := "partner", desc := "(LGearGauge;II[J)I" } : Jvm.MethodName) method_28_code (5 : Nat) (Option.some Jvm.ClassFile.FieldType.int) [((0 : Nat), (10 : Nat), (13 : Nat), (21 : Nat))]) ∈ tG := tG_at 842 (by decide +kernel) rfl
theorem q_843 : (Jvm.Cond.methodLink "GearGaugeLaw" (96 : Nat) ({ cls := "GearGauge", name := "partner", desc := "(II)I" } : Jvm.MethodName)) ∈ tG := tG_at 843 (by decide +kernel) rfl
theorem q_844 : (Jvm.Cond.instanceMethod ({ cls := "GearGauge", name := "partner", desc := "(II)I" } : Jvm.MethodName)) ∈ tG := tG_at 844 (by decide +kernel) rfl
theorem q_845 : (Jvm.Cond.selects "GearGauge" ({ cls := "GearGauge", name := "partner", desc := "(II)I" } : Jvm.MethodName) ({ cls := "GearGauge", name := "partner", desc := "(II)I" } : Jvm.MethodName)) ∈ tG := tG_at 845 (by decide +kernel) rfl
theorem q_846 : (Jvm.Cond.code ({ cls := "GearGauge", name := "partner", desc := "(II)I" } : Jvm.MethodName) prog_1_method_29_code (8 : Nat) (Option.some Jvm.ClassFile.FieldType.int)) ∈ tG := tG_at 846 (by decide +kernel) rfl
theorem q_847 : (Jvm.Cond.methodLink "GearGaugeLaw" (213 : Nat) ({ cls := "GearGaugeLaw", name := "mean", desc := "(LGearGauge;I[D)I" } : Jvm.MethodName)) ∈ tG := tG_at 847 (by decide +kernel) rfl
theorem q_848 : (Jvm.Cond.static ({ cls := "GearGaugeLaw", name := "mean", desc := "(LGearGauge;I[D)I" } : Jvm.MethodName)) ∈ tG := tG_at 848 (by decide +kernel) rfl
theorem q_849 : (Jvm.Cond.codeWith ({ cls := "GearGaugeLaw", name := "mean", desc := "(LGearGauge;I[D)I" } : Jvm.MethodName) method_29_code (4 : Nat) (Option.some Jvm.ClassFile.FieldType.int) [((0 : Nat), (8 : Nat), (11 : Nat), (13 : Nat))]) ∈ tG := tG_at 849 (by decide +kernel) rfl
theorem q_850 : (Jvm.Cond.methodLink "GearGaugeLaw" (99 : Nat) ({ cls := "GearGauge", name := "mean", desc := "(I)D" } : Jvm.MethodName)) ∈ tG := tG_at 850 (by decide +kernel) rfl
theorem q_851 : (Jvm.Cond.instanceMethod ({ cls := "GearGauge", name := "mean", desc := "(I)D" } : Jvm.MethodName)) ∈ tG := tG_at 851 (by decide +kernel) rfl
theorem q_852 : (Jvm.Cond.selects "GearGauge" ({ cls := "GearGauge", name := "mean", desc := "(I)D" } : Jvm.MethodName) ({ cls := "GearGauge", name := "mean", desc := "(I)D" } : Jvm.MethodName)) ∈ tG := tG_at 852 (by decide +kernel) rfl
theorem q_853 : (Jvm.Cond.code ({ cls := "GearGauge", name := "mean", desc := "(I)D" } : Jvm.MethodName) prog_1_method_30_code (4 : Nat) (Option.some Jvm.ClassFile.FieldType.double)) ∈ tG := tG_at 853 (by decide +kernel) rfl
theorem q_854 : (Jvm.Cond.methodLink "GearGaugeLaw" (216 : Nat) ({ cls := "GearGaugeLaw", name := "ranked", desc := "(LGearGauge;I[J)I" } : Jvm.MethodName)) ∈ tG := tG_at 854 (by decide +kernel) rfl
theorem q_855 : (Jvm.Cond.static ({ cls := "GearGaugeLaw", name := "ranked", desc := "(LGearGauge;I[J)I" } : Jvm.MethodName)) ∈ tG := tG_at 855 (by decide +kernel) rfl
theorem q_856 : (Jvm.Cond.codeWith ({ cls := "GearGaugeLaw", name := "ranked", desc := "(LGearGauge;I[J)I" } : Jvm.MethodName) method_30_code (4 : Nat) (Option.some Jvm.ClassFile.FieldType.int) [((0 : Nat), (9 : Nat), (12 : Nat), (21 : Nat))]) ∈ tG := tG_at 856 (by decide +kernel) rfl
theorem q_857 : (Jvm.Cond.methodLink "GearGaugeLaw" (102 : Nat) ({ cls := "GearGauge", name := "ranked", desc := "(I)I" } : Jvm.MethodName)) ∈ tG := tG_at 857 (by decide +kernel) rfl
theorem q_858 : (Jvm.Cond.instanceMethod ({ cls := "GearGauge", name := "ranked", desc := "(I)I" } : Jvm.MethodName)) ∈ tG := tG_at 858 (by decide +kernel) rfl
theorem q_859 : (Jvm.Cond.selects "GearGauge" ({ cls := "GearGauge", name := "ranked", desc := "(I)I" } : Jvm.MethodName) ({ cls := "GearGauge", name := "ranked", desc := "(I)I" } : Jvm.MethodName)) ∈ tG := tG_at 859 (by decide +kernel) rfl
theorem q_860 : (Jvm.Cond.code ({ cls := "GearGauge", name := "ranked", desc := "(I)I" } : Jvm.MethodName) prog_1_method_31_code (4 : Nat) (Option.some Jvm.ClassFile.FieldType.int)) ∈ tG := tG_at 860 (by decide +kernel) rfl
theorem q_862 : (Jvm.Cond.methodLink "GearGauge" (271 : Nat) ({ cls := "GearGauge", name := "placeOf", desc := "(I)I" } : Jvm.MethodName)) ∈ tG := tG_at 862 (by decide +kernel) rfl
theorem q_864 : (Jvm.Cond.instanceMethod ({ cls := "GearGauge", name := "placeOf", desc := "(I)I" } : Jvm.MethodName)) ∈ tG := tG_at 864 (by decide +kernel) rfl
theorem q_865 : (Jvm.Cond.code ({ cls := "GearGauge", name := "placeOf", desc := "(I)I" } : Jvm.MethodName) prog_1_method_48_code (4 : Nat) (Option.some Jvm.ClassFile.FieldType.int)) ∈ tG := tG_at 865 (by decide +kernel) rfl
theorem q_866 : (Jvm.Cond.methodLink "GearGauge" (335 : Nat) ({ cls := "GearGauge", name := "ranksBefore", desc := "(II)Z" } : Jvm.MethodName)) ∈ tG := tG_at 866 (by decide +kernel) rfl
theorem q_868 : (Jvm.Cond.instanceMethod ({ cls := "GearGauge", name := "ranksBefore", desc := "(II)Z" } : Jvm.MethodName)) ∈ tG := tG_at 868 (by decide +kernel) rfl
theorem q_869 : (Jvm.Cond.code ({ cls := "GearGauge", name := "ranksBefore", desc := "(II)Z" } : Jvm.MethodName) prog_1_method_49_code (3 : Nat) (Option.some Jvm.ClassFile.FieldType.boolean)) ∈ tG := tG_at 869 (by decide +kernel) rfl
theorem q_870 : (Jvm.Cond.methodLink "GearGaugeLaw" (219 : Nat) ({ cls := "GearGaugeLaw", name := "append", desc := "(LGearGauge;I[J)I" } : Jvm.MethodName)) ∈ tG := tG_at 870 (by decide +kernel) rfl
theorem q_871 : (Jvm.Cond.static ({ cls := "GearGaugeLaw", name := "append", desc := "(LGearGauge;I[J)I" } : Jvm.MethodName)) ∈ tG := tG_at 871 (by decide +kernel) rfl
theorem q_872 : (Jvm.Cond.codeWith ({ cls := "GearGaugeLaw", name := "append", desc := "(LGearGauge;I[J)I" } : Jvm.MethodName) method_31_code (4 : Nat) (Option.some Jvm.ClassFile.FieldType.int) [((0 : Nat), (9 : Nat), (12 : Nat), (13 : Nat)), ((0 : Nat), (9 : Nat), (15 : Nat), (15 : Nat))]) ∈ tG := tG_at 872 (by decide +kernel) rfl
theorem q_873 : (Jvm.Cond.methodLink "GearGaugeLaw" (105 : Nat) ({ cls := "GearGauge", name := "append", desc := "(I)I" } : Jvm.MethodName)) ∈ tG := tG_at 873 (by decide +kernel) rfl
theorem q_874 : (Jvm.Cond.instanceMethod ({ cls := "GearGauge", name := "append", desc := "(I)I" } : Jvm.MethodName)) ∈ tG := tG_at 874 (by decide +kernel) rfl
theorem q_875 : (Jvm.Cond.selects "GearGauge" ({ cls := "GearGauge", name := "append", desc := "(I)I" } : Jvm.MethodName) ({ cls := "GearGauge", name := "append", desc := "(I)I" } : Jvm.MethodName)) ∈ tG := tG_at 875 (by decide +kernel) rfl
theorem q_876 : (Jvm.Cond.code ({ cls := "GearGauge", name := "append", desc := "(I)I" } : Jvm.MethodName) prog_1_method_32_code (2 : Nat) (Option.some Jvm.ClassFile.FieldType.int)) ∈ tG := tG_at 876 (by decide +kernel) rfl
theorem q_878 : (Jvm.Cond.methodLink "GearGaugeLaw" (230 : Nat) ({ cls := "GearGaugeLaw", name := "undo", desc := "(LGearGauge;[J)I" } : Jvm.MethodName)) ∈ tG := tG_at 878 (by decide +kernel) rfl
theorem q_879 : (Jvm.Cond.static ({ cls := "GearGaugeLaw", name := "undo", desc := "(LGearGauge;[J)I" } : Jvm.MethodName)) ∈ tG := tG_at 879 (by decide +kernel) rfl
theorem q_880 : (Jvm.Cond.codeWith ({ cls := "GearGaugeLaw", name := "undo", desc := "(LGearGauge;[J)I" } : Jvm.MethodName) method_32_code (3 : Nat) (Option.some Jvm.ClassFile.FieldType.int) [((0 : Nat), (8 : Nat), (11 : Nat), (15 : Nat))]) ∈ tG := tG_at 880 (by decide +kernel) rfl
theorem q_881 : (Jvm.Cond.methodLink "GearGaugeLaw" (108 : Nat) ({ cls := "GearGauge", name := "undo", desc := "()I" } : Jvm.MethodName)) ∈ tG := tG_at 881 (by decide +kernel) rfl
theorem q_882 : (Jvm.Cond.instanceMethod ({ cls := "GearGauge", name := "undo", desc := "()I" } : Jvm.MethodName)) ∈ tG := tG_at 882 (by decide +kernel) rfl
theorem q_883 : (Jvm.Cond.selects "GearGauge" ({ cls := "GearGauge", name := "undo", desc := "()I" } : Jvm.MethodName) ({ cls := "GearGauge", name := "undo", desc := "()I" } : Jvm.MethodName)) ∈ tG := tG_at 883 (by decide +kernel) rfl
theorem q_884 : (Jvm.Cond.code ({ cls := "GearGauge", name := "undo", desc := "()I" } : Jvm.MethodName) prog_1_method_35_code (1 : Nat) (Option.some Jvm.ClassFile.FieldType.int)) ∈ tG := tG_at 884 (by decide +kernel) rfl
theorem q_886 : (Jvm.Cond.classLink "GearGaugeLaw" (113 : Nat) "GearGaugeModel") ∈ tG := tG_at 886 (by decide +kernel) rfl
theorem q_887 : (Jvm.Cond.instantiable "GearGaugeModel" (18 : Nat)) ∈ tG := tG_at 887 (by decide +kernel) rfl
theorem q_888 : (Jvm.Cond.methodLink "GearGaugeLaw" (115 : Nat) ({ cls := "GearGaugeModel", name := "<init>", desc := "()V" } : Jvm.MethodName)) ∈ tG := tG_at 888 (by decide +kernel) rfl
theorem q_889 : (Jvm.Cond.instanceMethod ({ cls := "GearGaugeModel", name := "<init>", desc := "()V" } : Jvm.MethodName)) ∈ tG := tG_at 889 (by decide +kernel) rfl
theorem q_890 : (Jvm.Cond.code ({ cls := "GearGaugeModel", name := "<init>", desc := "()V" } : Jvm.MethodName) prog_8_method_1_code (1 : Nat) (Option.none : Option Jvm.ClassFile.FieldType)) ∈ tG := tG_at 890 (by decide +kernel) rfl
theorem q_891 : (Jvm.Cond.methodLink "GearGaugeModel" (1 : Nat) ({ cls := "java/lang/Object", name := "<init>", desc := "()V" } : Jvm.MethodName)) ∈ tG := tG_at 891 (by decide +kernel) rfl
theorem q_892 : (Jvm.Cond.fieldLink "GearGaugeModel" (7 : Nat) "GearGaugeModel" "s" "[I") ∈ tG := tG_at 892 (by decide +kernel) rfl
theorem q_893 : (Jvm.Cond.fieldLink "GearGaugeModel" (13 : Nat) "GearGaugeModel" "past" "[I") ∈ tG := tG_at 893 (by decide +kernel) rfl
theorem q_894 : (Jvm.Cond.fieldLink "GearGaugeModel" (16 : Nat) "GearGaugeModel" "aside" "[I") ∈ tG := tG_at 894 (by decide +kernel) rfl
theorem q_895 : (Jvm.Cond.fieldLink "GearGaugeModel" (38 : Nat) "GearGaugeModel" "pasts" "I") ∈ tG := tG_at 895 (by decide +kernel) rfl
theorem q_896 : (Jvm.Cond.fieldLink "GearGaugeModel" (19 : Nat) "GearGaugeModel" "text" "[I") ∈ tG := tG_at 896 (by decide +kernel) rfl
theorem q_897 : (Jvm.Cond.fieldLink "GearGaugeModel" (31 : Nat) "GearGaugeModel" "typed" "I") ∈ tG := tG_at 897 (by decide +kernel) rfl
theorem q_898 : (Jvm.Cond.fieldLink "GearGaugeModel" (35 : Nat) "GearGaugeModel" "thrown" "I") ∈ tG := tG_at 898 (by decide +kernel) rfl
theorem q_899 : (Jvm.Cond.fieldLink "GearGaugeModel" (191 : Nat) "GearGaugeModel" "slopeUp" "J") ∈ tG := tG_at 899 (by decide +kernel) rfl
theorem q_900 : (Jvm.Cond.fieldLink "GearGaugeModel" (195 : Nat) "GearGaugeModel" "slopeDown" "J") ∈ tG := tG_at 900 (by decide +kernel) rfl
theorem q_901 : (Jvm.Cond.fieldLink "GearGaugeModel" (198 : Nat) "GearGaugeModel" "atUp" "J") ∈ tG := tG_at 901 (by decide +kernel) rfl
theorem q_902 : (Jvm.Cond.fieldLink "GearGaugeModel" (201 : Nat) "GearGaugeModel" "atDown" "J") ∈ tG := tG_at 902 (by decide +kernel) rfl
theorem q_903 : (Jvm.Cond.fieldLink "GearGaugeModel" (22 : Nat) "GearGaugeModel" "one" "[I") ∈ tG := tG_at 903 (by decide +kernel) rfl
theorem q_904 : (Jvm.Cond.fieldLink "GearGaugeModel" (25 : Nat) "GearGaugeModel" "other" "[I") ∈ tG := tG_at 904 (by decide +kernel) rfl
theorem q_905 : (Jvm.Cond.fieldLink "GearGaugeModel" (250 : Nat) "GearGaugeModel" "at" "I") ∈ tG := tG_at 905 (by decide +kernel) rfl
theorem q_906 : (Jvm.Cond.fieldLink "GearGaugeModel" (264 : Nat) "GearGaugeModel" "letter" "I") ∈ tG := tG_at 906 (by decide +kernel) rfl
theorem q_907 : (Jvm.Cond.fieldLink "GearGaugeModel" (28 : Nat) "GearGaugeModel" "numbers" "[I") ∈ tG := tG_at 907 (by decide +kernel) rfl
theorem q_908 : (Jvm.Cond.fieldLink "GearGaugeModel" (261 : Nat) "GearGaugeModel" "numberMany" "I") ∈ tG := tG_at 908 (by decide +kernel) rfl
theorem q_909 : (Jvm.Cond.fieldLink "GearGaugeModel" (285 : Nat) "GearGaugeModel" "h" "J") ∈ tG := tG_at 909 (by decide +kernel) rfl
theorem q_910 : (Jvm.Cond.laysFinal "GearGaugeModel" "GearGaugeModel" "s" "[I") ∈ tG := tG_at 910 (by decide +kernel) rfl
theorem q_912 : (Jvm.Cond.laysFinal "GearGaugeModel" "GearGaugeModel" "past" "[I") ∈ tG := tG_at 912 (by decide +kernel) rfl
theorem q_914 : (Jvm.Cond.laysFinal "GearGaugeModel" "GearGaugeModel" "aside" "[I") ∈ tG := tG_at 914 (by decide +kernel) rfl
theorem q_916 : (Jvm.Cond.lays "GearGaugeModel" "GearGaugeModel" "pasts" "I") ∈ tG := tG_at 916 (by decide +kernel) rfl
theorem q_918 : (Jvm.Cond.laysFinal "GearGaugeModel" "GearGaugeModel" "text" "[I") ∈ tG := tG_at 918 (by decide +kernel) rfl
theorem q_920 : (Jvm.Cond.lays "GearGaugeModel" "GearGaugeModel" "typed" "I") ∈ tG := tG_at 920 (by decide +kernel) rfl
theorem q_922 : (Jvm.Cond.lays "GearGaugeModel" "GearGaugeModel" "thrown" "I") ∈ tG := tG_at 922 (by decide +kernel) rfl
theorem q_924 : (Jvm.Cond.lays "GearGaugeModel" "GearGaugeModel" "slopeUp" "J") ∈ tG := tG_at 924 (by decide +kernel) rfl
theorem q_926 : (Jvm.Cond.lays "GearGaugeModel" "GearGaugeModel" "slopeDown" "J") ∈ tG := tG_at 926 (by decide +kernel) rfl
theorem q_928 : (Jvm.Cond.lays "GearGaugeModel" "GearGaugeModel" "atUp" "J") ∈ tG := tG_at 928 (by decide +kernel) rfl
theorem q_930 : (Jvm.Cond.lays "GearGaugeModel" "GearGaugeModel" "atDown" "J") ∈ tG := tG_at 930 (by decide +kernel) rfl
theorem q_932 : (Jvm.Cond.laysFinal "GearGaugeModel" "GearGaugeModel" "one" "[I") ∈ tG := tG_at 932 (by decide +kernel) rfl
theorem q_934 : (Jvm.Cond.laysFinal "GearGaugeModel" "GearGaugeModel" "other" "[I") ∈ tG := tG_at 934 (by decide +kernel) rfl
theorem q_936 : (Jvm.Cond.lays "GearGaugeModel" "GearGaugeModel" "at" "I") ∈ tG := tG_at 936 (by decide +kernel) rfl
theorem q_938 : (Jvm.Cond.lays "GearGaugeModel" "GearGaugeModel" "letter" "I") ∈ tG := tG_at 938 (by decide +kernel) rfl
theorem q_940 : (Jvm.Cond.laysFinal "GearGaugeModel" "GearGaugeModel" "numbers" "[I") ∈ tG := tG_at 940 (by decide +kernel) rfl
theorem q_942 : (Jvm.Cond.lays "GearGaugeModel" "GearGaugeModel" "numberMany" "I") ∈ tG := tG_at 942 (by decide +kernel) rfl
theorem q_944 : (Jvm.Cond.lays "GearGaugeModel" "GearGaugeModel" "h" "J") ∈ tG := tG_at 944 (by decide +kernel) rfl
theorem q_946 : (Jvm.Cond.superclass "GearGaugeModel" "java/lang/Object") ∈ tG := tG_at 946 (by decide +kernel) rfl
theorem q_947 : (Jvm.Cond.methodLink "GearGaugeLaw" (122 : Nat) ({ cls := "GearGaugeModel", name := "thrown", desc := "()I" } : Jvm.MethodName)) ∈ tG := tG_at 947 (by decide +kernel) rfl
theorem q_948 : (Jvm.Cond.instanceMethod ({ cls := "GearGaugeModel", name := "thrown", desc := "()I" } : Jvm.MethodName)) ∈ tG := tG_at 948 (by decide +kernel) rfl
theorem q_949 : (Jvm.Cond.selects "GearGaugeModel" ({ cls := "GearGaugeModel", name := "thrown", desc := "()I" } : Jvm.MethodName) ({ cls := "GearGaugeModel", name := "thrown", desc := "()I" } : Jvm.MethodName)) ∈ tG := tG_at 949 (by decide +kernel) rfl
theorem q_950 : (Jvm.Cond.code ({ cls := "GearGaugeModel", name := "thrown", desc := "()I" } : Jvm.MethodName) prog_8_method_2_code (1 : Nat) (Option.some Jvm.ClassFile.FieldType.int)) ∈ tG := tG_at 950 (by decide +kernel) rfl
theorem q_951 : (Jvm.Cond.methodLink "GearGaugeLaw" (121 : Nat) ({ cls := "GearGaugeModel", name := "addGear", desc := "(II)I" } : Jvm.MethodName)) ∈ tG := tG_at 951 (by decide +kernel) rfl
theorem q_952 : (Jvm.Cond.instanceMethod ({ cls := "GearGaugeModel", name := "addGear", desc := "(II)I" } : Jvm.MethodName)) ∈ tG := tG_at 952 (by decide +kernel) rfl
theorem q_953 : (Jvm.Cond.selects "GearGaugeModel" ({ cls := "GearGaugeModel", name := "addGear", desc := "(II)I" } : Jvm.MethodName) ({ cls := "GearGaugeModel", name := "addGear", desc := "(II)I" } : Jvm.MethodName)) ∈ tG := tG_at 953 (by decide +kernel) rfl
theorem q_954 : (Jvm.Cond.code ({ cls := "GearGaugeModel", name := "addGear", desc := "(II)I" } : Jvm.MethodName) prog_8_method_24_code (3 : Nat) (Option.some Jvm.ClassFile.FieldType.int)) ∈ tG := tG_at 954 (by decide +kernel) rfl
theorem q_955 : (Jvm.Cond.methodLink "GearGaugeModel" (79 : Nat) ({ cls := "GearGaugeModel", name := "isSize", desc := "(II)Z" } : Jvm.MethodName)) ∈ tG := tG_at 955 (by decide +kernel) rfl
theorem q_956 : (Jvm.Cond.static ({ cls := "GearGaugeModel", name := "isSize", desc := "(II)Z" } : Jvm.MethodName)) ∈ tG := tG_at 956 (by decide +kernel) rfl
theorem q_957 : (Jvm.Cond.code ({ cls := "GearGaugeModel", name := "isSize", desc := "(II)Z" } : Jvm.MethodName) prog_8_method_22_code (2 : Nat) (Option.some Jvm.ClassFile.FieldType.boolean)) ∈ tG := tG_at 957 (by decide +kernel) rfl
theorem q_958 : (Jvm.Cond.constantLong "GearGaugeModel" (73 : Nat) (5 : Int64)) ∈ tG := tG_at 958 (by decide +kernel) rfl
theorem q_959 : (Jvm.Cond.constantLong "GearGaugeModel" (75 : Nat) (30 : Int64)) ∈ tG := tG_at 959 (by decide +kernel) rfl
theorem q_960 : (Jvm.Cond.methodLink "GearGaugeModel" (51 : Nat) ({ cls := "GearGaugeModel", name := "in", desc := "(JJJ)Z" } : Jvm.MethodName)) ∈ tG := tG_at 960 (by decide +kernel) rfl
theorem q_961 : (Jvm.Cond.static ({ cls := "GearGaugeModel", name := "in", desc := "(JJJ)Z" } : Jvm.MethodName)) ∈ tG := tG_at 961 (by decide +kernel) rfl
theorem q_962 : (Jvm.Cond.code ({ cls := "GearGaugeModel", name := "in", desc := "(JJJ)Z" } : Jvm.MethodName) prog_8_method_3_code (6 : Nat) (Option.some Jvm.ClassFile.FieldType.boolean)) ∈ tG := tG_at 962 (by decide +kernel) rfl
theorem q_963 : (Jvm.Cond.constantLong "GearGaugeModel" (77 : Nat) (20 : Int64)) ∈ tG := tG_at 963 (by decide +kernel) rfl
theorem q_964 : (Jvm.Cond.methodLink "GearGaugeModel" (83 : Nat) ({ cls := "GearGaugeModel", name := "fails", desc := "(I)I" } : Jvm.MethodName)) ∈ tG := tG_at 964 (by decide +kernel) rfl
theorem q_966 : (Jvm.Cond.instanceMethod ({ cls := "GearGaugeModel", name := "fails", desc := "(I)I" } : Jvm.MethodName)) ∈ tG := tG_at 966 (by decide +kernel) rfl
theorem q_967 : (Jvm.Cond.code ({ cls := "GearGaugeModel", name := "fails", desc := "(I)I" } : Jvm.MethodName) prog_8_method_4_code (2 : Nat) (Option.some Jvm.ClassFile.FieldType.int)) ∈ tG := tG_at 967 (by decide +kernel) rfl
theorem q_968 : (Jvm.Cond.methodLink "GearGaugeModel" (86 : Nat) ({ cls := "GearGaugeModel", name := "hold", desc := "()V" } : Jvm.MethodName)) ∈ tG := tG_at 968 (by decide +kernel) rfl
theorem q_970 : (Jvm.Cond.instanceMethod ({ cls := "GearGaugeModel", name := "hold", desc := "()V" } : Jvm.MethodName)) ∈ tG := tG_at 970 (by decide +kernel) rfl
theorem q_971 : (Jvm.Cond.code ({ cls := "GearGaugeModel", name := "hold", desc := "()V" } : Jvm.MethodName) prog_8_method_6_code (2 : Nat) (Option.none : Option Jvm.ClassFile.FieldType)) ∈ tG := tG_at 971 (by decide +kernel) rfl
theorem q_972 : (Jvm.Cond.methodLink "GearGaugeModel" (89 : Nat) ({ cls := "GearGaugeModel", name := "putsGear", desc := "(II)V" } : Jvm.MethodName)) ∈ tG := tG_at 972 (by decide +kernel) rfl
theorem q_974 : (Jvm.Cond.instanceMethod ({ cls := "GearGaugeModel", name := "putsGear", desc := "(II)V" } : Jvm.MethodName)) ∈ tG := tG_at 974 (by decide +kernel) rfl
theorem q_975 : (Jvm.Cond.code ({ cls := "GearGaugeModel", name := "putsGear", desc := "(II)V" } : Jvm.MethodName) prog_8_method_23_code (5 : Nat) (Option.none : Option Jvm.ClassFile.FieldType)) ∈ tG := tG_at 975 (by decide +kernel) rfl
theorem q_976 : (Jvm.Cond.methodLink "GearGaugeModel" (93 : Nat) ({ cls := "GearGaugeModel", name := "ends", desc := "(I)I" } : Jvm.MethodName)) ∈ tG := tG_at 976 (by decide +kernel) rfl
theorem q_978 : (Jvm.Cond.instanceMethod ({ cls := "GearGaugeModel", name := "ends", desc := "(I)I" } : Jvm.MethodName)) ∈ tG := tG_at 978 (by decide +kernel) rfl
theorem q_979 : (Jvm.Cond.code ({ cls := "GearGaugeModel", name := "ends", desc := "(I)I" } : Jvm.MethodName) prog_8_method_8_code (3 : Nat) (Option.some Jvm.ClassFile.FieldType.int)) ∈ tG := tG_at 979 (by decide +kernel) rfl
theorem q_980 : (Jvm.Cond.methodLink "GearGaugeModel" (41 : Nat) ({ cls := "GearGaugeModel", name := "tells", desc := "(I)I" } : Jvm.MethodName)) ∈ tG := tG_at 980 (by decide +kernel) rfl
theorem q_982 : (Jvm.Cond.instanceMethod ({ cls := "GearGaugeModel", name := "tells", desc := "(I)I" } : Jvm.MethodName)) ∈ tG := tG_at 982 (by decide +kernel) rfl
theorem q_983 : (Jvm.Cond.code ({ cls := "GearGaugeModel", name := "tells", desc := "(I)I" } : Jvm.MethodName) prog_8_method_5_code (2 : Nat) (Option.some Jvm.ClassFile.FieldType.int)) ∈ tG := tG_at 983 (by decide +kernel) rfl
theorem q_984 : (Jvm.Cond.methodLink "GearGaugeLaw" (128 : Nat) ({ cls := "GearGaugeModel", name := "removeGear", desc := "(I)I" } : Jvm.MethodName)) ∈ tG := tG_at 984 (by decide +kernel) rfl
theorem q_985 : (Jvm.Cond.instanceMethod ({ cls := "GearGaugeModel", name := "removeGear", desc := "(I)I" } : Jvm.MethodName)) ∈ tG := tG_at 985 (by decide +kernel) rfl
theorem q_986 : (Jvm.Cond.selects "GearGaugeModel" ({ cls := "GearGaugeModel", name := "removeGear", desc := "(I)I" } : Jvm.MethodName) ({ cls := "GearGaugeModel", name := "removeGear", desc := "(I)I" } : Jvm.MethodName)) ∈ tG := tG_at 986 (by decide +kernel) rfl
theorem q_987 : (Jvm.Cond.code ({ cls := "GearGaugeModel", name := "removeGear", desc := "(I)I" } : Jvm.MethodName) prog_8_method_26_code (4 : Nat) (Option.some Jvm.ClassFile.FieldType.int)) ∈ tG := tG_at 987 (by decide +kernel) rfl
theorem q_988 : (Jvm.Cond.methodLink "GearGaugeModel" (62 : Nat) ({ cls := "GearGaugeModel", name := "isGear", desc := "(I)Z" } : Jvm.MethodName)) ∈ tG := tG_at 988 (by decide +kernel) rfl
theorem q_990 : (Jvm.Cond.instanceMethod ({ cls := "GearGaugeModel", name := "isGear", desc := "(I)Z" } : Jvm.MethodName)) ∈ tG := tG_at 990 (by decide +kernel) rfl
theorem q_991 : (Jvm.Cond.code ({ cls := "GearGaugeModel", name := "isGear", desc := "(I)Z" } : Jvm.MethodName) prog_8_method_12_code (2 : Nat) (Option.some Jvm.ClassFile.FieldType.boolean)) ∈ tG := tG_at 991 (by decide +kernel) rfl
theorem q_992 : (Jvm.Cond.methodLink "GearGaugeModel" (96 : Nat) ({ cls := "GearGaugeModel", name := "of", desc := "(II)I" } : Jvm.MethodName)) ∈ tG := tG_at 992 (by decide +kernel) rfl
theorem q_994 : (Jvm.Cond.instanceMethod ({ cls := "GearGaugeModel", name := "of", desc := "(II)I" } : Jvm.MethodName)) ∈ tG := tG_at 994 (by decide +kernel) rfl
theorem q_995 : (Jvm.Cond.code ({ cls := "GearGaugeModel", name := "of", desc := "(II)I" } : Jvm.MethodName) prog_8_method_20_code (3 : Nat) (Option.some Jvm.ClassFile.FieldType.int)) ∈ tG := tG_at 995 (by decide +kernel) rfl
theorem q_996 : (Jvm.Cond.methodLink "GearGaugeModel" (99 : Nat) ({ cls := "GearGaugeModel", name := "dropsLine", desc := "(I)V" } : Jvm.MethodName)) ∈ tG := tG_at 996 (by decide +kernel) rfl
theorem q_998 : (Jvm.Cond.instanceMethod ({ cls := "GearGaugeModel", name := "dropsLine", desc := "(I)V" } : Jvm.MethodName)) ∈ tG := tG_at 998 (by decide +kernel) rfl
theorem q_999 : (Jvm.Cond.code ({ cls := "GearGaugeModel", name := "dropsLine", desc := "(I)V" } : Jvm.MethodName) prog_8_method_25_code (3 : Nat) (Option.none : Option Jvm.ClassFile.FieldType)) ∈ tG := tG_at 999 (by decide +kernel) rfl
theorem q_1000 : (Jvm.Cond.methodLink "GearGaugeLaw" (132 : Nat) ({ cls := "GearGaugeModel", name := "setReading", desc := "(IIII)I" } : Jvm.MethodName)) ∈ tG := tG_at 1000 (by decide +kernel) rfl
theorem q_1001 : (Jvm.Cond.instanceMethod ({ cls := "GearGaugeModel", name := "setReading", desc := "(IIII)I" } : Jvm.MethodName)) ∈ tG := tG_at 1001 (by decide +kernel) rfl
theorem q_1002 : (Jvm.Cond.selects "GearGaugeModel" ({ cls := "GearGaugeModel", name := "setReading", desc := "(IIII)I" } : Jvm.MethodName) ({ cls := "GearGaugeModel", name := "setReading", desc := "(IIII)I" } : Jvm.MethodName)) ∈ tG := tG_at 1002 (by decide +kernel) rfl
theorem q_1003 : (Jvm.Cond.code ({ cls := "GearGaugeModel", name := "setReading", desc := "(IIII)I" } : Jvm.MethodName) prog_8_method_28_code (6 : Nat) (Option.some Jvm.ClassFile.FieldType.int)) ∈ tG := tG_at 1003 (by decide +kernel) rfl
theorem q_1004 : (Jvm.Cond.methodLink "GearGaugeModel" (107 : Nat) ({ cls := "GearGaugeModel", name := "isReading", desc := "(III)Z" } : Jvm.MethodName)) ∈ tG := tG_at 1004 (by decide +kernel) rfl
theorem q_1006 : (Jvm.Cond.instanceMethod ({ cls := "GearGaugeModel", name := "isReading", desc := "(III)Z" } : Jvm.MethodName)) ∈ tG := tG_at 1006 (by decide +kernel) rfl
theorem q_1007 : (Jvm.Cond.code ({ cls := "GearGaugeModel", name := "isReading", desc := "(III)Z" } : Jvm.MethodName) prog_8_method_18_code (4 : Nat) (Option.some Jvm.ClassFile.FieldType.boolean)) ∈ tG := tG_at 1007 (by decide +kernel) rfl
theorem q_1008 : (Jvm.Cond.constantLong "GearGaugeModel" (45 : Nat) (2 : Int64)) ∈ tG := tG_at 1008 (by decide +kernel) rfl
theorem q_1009 : (Jvm.Cond.methodLink "GearGaugeModel" (66 : Nat) ({ cls := "GearGaugeModel", name := "longOf", desc := "(II)I" } : Jvm.MethodName)) ∈ tG := tG_at 1009 (by decide +kernel) rfl
theorem q_1011 : (Jvm.Cond.instanceMethod ({ cls := "GearGaugeModel", name := "longOf", desc := "(II)I" } : Jvm.MethodName)) ∈ tG := tG_at 1011 (by decide +kernel) rfl
theorem q_1012 : (Jvm.Cond.code ({ cls := "GearGaugeModel", name := "longOf", desc := "(II)I" } : Jvm.MethodName) prog_8_method_17_code (3 : Nat) (Option.some Jvm.ClassFile.FieldType.int)) ∈ tG := tG_at 1012 (by decide +kernel) rfl
theorem q_1013 : (Jvm.Cond.methodLink "GearGaugeModel" (59 : Nat) ({ cls := "GearGaugeModel", name := "teeth", desc := "(I)I" } : Jvm.MethodName)) ∈ tG := tG_at 1013 (by decide +kernel) rfl
theorem q_1015 : (Jvm.Cond.instanceMethod ({ cls := "GearGaugeModel", name := "teeth", desc := "(I)I" } : Jvm.MethodName)) ∈ tG := tG_at 1015 (by decide +kernel) rfl
theorem q_1016 : (Jvm.Cond.code ({ cls := "GearGaugeModel", name := "teeth", desc := "(I)I" } : Jvm.MethodName) prog_8_method_13_code (2 : Nat) (Option.some Jvm.ClassFile.FieldType.int)) ∈ tG := tG_at 1016 (by decide +kernel) rfl
theorem q_1017 : (Jvm.Cond.methodLink "GearGaugeModel" (111 : Nat) ({ cls := "GearGaugeModel", name := "isValue", desc := "(I)Z" } : Jvm.MethodName)) ∈ tG := tG_at 1017 (by decide +kernel) rfl
theorem q_1018 : (Jvm.Cond.static ({ cls := "GearGaugeModel", name := "isValue", desc := "(I)Z" } : Jvm.MethodName)) ∈ tG := tG_at 1018 (by decide +kernel) rfl
theorem q_1019 : (Jvm.Cond.code ({ cls := "GearGaugeModel", name := "isValue", desc := "(I)Z" } : Jvm.MethodName) prog_8_method_27_code (1 : Nat) (Option.some Jvm.ClassFile.FieldType.boolean)) ∈ tG := tG_at 1019 (by decide +kernel) rfl
theorem q_1020 : (Jvm.Cond.constantLong "GearGaugeModel" (103 : Nat) (-5000 : Int64)) ∈ tG := tG_at 1020 (by decide +kernel) rfl
theorem q_1021 : (Jvm.Cond.constantLong "GearGaugeModel" (105 : Nat) (5000 : Int64)) ∈ tG := tG_at 1021 (by decide +kernel) rfl
theorem q_1022 : (Jvm.Cond.methodLink "GearGaugeModel" (70 : Nat) ({ cls := "GearGaugeModel", name := "readingOf", desc := "(III)I" } : Jvm.MethodName)) ∈ tG := tG_at 1022 (by decide +kernel) rfl
theorem q_1024 : (Jvm.Cond.instanceMethod ({ cls := "GearGaugeModel", name := "readingOf", desc := "(III)I" } : Jvm.MethodName)) ∈ tG := tG_at 1024 (by decide +kernel) rfl
theorem q_1025 : (Jvm.Cond.code ({ cls := "GearGaugeModel", name := "readingOf", desc := "(III)I" } : Jvm.MethodName) prog_8_method_16_code (4 : Nat) (Option.some Jvm.ClassFile.FieldType.int)) ∈ tG := tG_at 1025 (by decide +kernel) rfl
theorem q_1026 : (Jvm.Cond.methodLink "GearGaugeModel" (55 : Nat) ({ cls := "GearGaugeModel", name := "placeOf", desc := "(III)I" } : Jvm.MethodName)) ∈ tG := tG_at 1026 (by decide +kernel) rfl
theorem q_1027 : (Jvm.Cond.static ({ cls := "GearGaugeModel", name := "placeOf", desc := "(III)I" } : Jvm.MethodName)) ∈ tG := tG_at 1027 (by decide +kernel) rfl
theorem q_1028 : (Jvm.Cond.code ({ cls := "GearGaugeModel", name := "placeOf", desc := "(III)I" } : Jvm.MethodName) prog_8_method_15_code (3 : Nat) (Option.some Jvm.ClassFile.FieldType.int)) ∈ tG := tG_at 1028 (by decide +kernel) rfl
theorem q_1029 : (Jvm.Cond.methodLink "GearGaugeLaw" (136 : Nat) ({ cls := "GearGaugeModel", name := "fill", desc := "(III)I" } : Jvm.MethodName)) ∈ tG := tG_at 1029 (by decide +kernel) rfl
theorem q_1030 : (Jvm.Cond.instanceMethod ({ cls := "GearGaugeModel", name := "fill", desc := "(III)I" } : Jvm.MethodName)) ∈ tG := tG_at 1030 (by decide +kernel) rfl
theorem q_1031 : (Jvm.Cond.selects "GearGaugeModel" ({ cls := "GearGaugeModel", name := "fill", desc := "(III)I" } : Jvm.MethodName) ({ cls := "GearGaugeModel", name := "fill", desc := "(III)I" } : Jvm.MethodName)) ∈ tG := tG_at 1031 (by decide +kernel) rfl
theorem q_1032 : (Jvm.Cond.code ({ cls := "GearGaugeModel", name := "fill", desc := "(III)I" } : Jvm.MethodName) prog_8_method_29_code (8 : Nat) (Option.some Jvm.ClassFile.FieldType.int)) ∈ tG := tG_at 1032 (by decide +kernel) rfl
theorem q_1033 : (Jvm.Cond.constantLong "GearGaugeModel" (114 : Nat) (999999 : Int64)) ∈ tG := tG_at 1033 (by decide +kernel) rfl
theorem q_1034 : (Jvm.Cond.constantLong "GearGaugeModel" (116 : Nat) (1103515245 : Int64)) ∈ tG := tG_at 1034 (by decide +kernel) rfl
theorem q_1035 : (Jvm.Cond.constantLong "GearGaugeModel" (118 : Nat) (12345 : Int64)) ∈ tG := tG_at 1035 (by decide +kernel) rfl
theorem q_1036 : (Jvm.Cond.constantLong "GearGaugeModel" (120 : Nat) (2147483648 : Int64)) ∈ tG := tG_at 1036 (by decide +kernel) rfl
theorem q_1037 : (Jvm.Cond.constantLong "GearGaugeModel" (122 : Nat) (65536 : Int64)) ∈ tG := tG_at 1037 (by decide +kernel) rfl
theorem q_1038 : (Jvm.Cond.methodLink "GearGaugeModel" (124 : Nat) ({ cls := "GearGaugeModel", name := "closing", desc := "(II)I" } : Jvm.MethodName)) ∈ tG := tG_at 1038 (by decide +kernel) rfl
theorem q_1040 : (Jvm.Cond.instanceMethod ({ cls := "GearGaugeModel", name := "closing", desc := "(II)I" } : Jvm.MethodName)) ∈ tG := tG_at 1040 (by decide +kernel) rfl
theorem q_1041 : (Jvm.Cond.code ({ cls := "GearGaugeModel", name := "closing", desc := "(II)I" } : Jvm.MethodName) prog_8_method_21_code (3 : Nat) (Option.some Jvm.ClassFile.FieldType.int)) ∈ tG := tG_at 1041 (by decide +kernel) rfl
theorem q_1042 : (Jvm.Cond.methodLink "GearGaugeLaw" (139 : Nat) ({ cls := "GearGaugeModel", name := "turn", desc := "(II)I" } : Jvm.MethodName)) ∈ tG := tG_at 1042 (by decide +kernel) rfl
theorem q_1043 : (Jvm.Cond.instanceMethod ({ cls := "GearGaugeModel", name := "turn", desc := "(II)I" } : Jvm.MethodName)) ∈ tG := tG_at 1043 (by decide +kernel) rfl
theorem q_1044 : (Jvm.Cond.selects "GearGaugeModel" ({ cls := "GearGaugeModel", name := "turn", desc := "(II)I" } : Jvm.MethodName) ({ cls := "GearGaugeModel", name := "turn", desc := "(II)I" } : Jvm.MethodName)) ∈ tG := tG_at 1044 (by decide +kernel) rfl
theorem q_1045 : (Jvm.Cond.code ({ cls := "GearGaugeModel", name := "turn", desc := "(II)I" } : Jvm.MethodName) prog_8_method_31_code (6 : Nat) (Option.some Jvm.ClassFile.FieldType.int)) ∈ tG := tG_at 1045 (by decide +kernel) rfl
theorem q_1046 : (Jvm.Cond.methodLink "GearGaugeModel" (127 : Nat) ({ cls := "GearGaugeModel", name := "goes", desc := "(III)Z" } : Jvm.MethodName)) ∈ tG := tG_at 1046 (by decide +kernel) rfl
theorem q_1048 : (Jvm.Cond.instanceMethod ({ cls := "GearGaugeModel", name := "goes", desc := "(III)Z" } : Jvm.MethodName)) ∈ tG := tG_at 1048 (by decide +kernel) rfl
theorem q_1049 : (Jvm.Cond.code ({ cls := "GearGaugeModel", name := "goes", desc := "(III)Z" } : Jvm.MethodName) prog_8_method_30_code (10 : Nat) (Option.some Jvm.ClassFile.FieldType.boolean)) ∈ tG := tG_at 1049 (by decide +kernel) rfl
theorem q_1050 : (Jvm.Cond.methodLink "GearGaugeModel" (130 : Nat) ({ cls := "GearGaugeModel", name := "restore", desc := "()V" } : Jvm.MethodName)) ∈ tG := tG_at 1050 (by decide +kernel) rfl
theorem q_1052 : (Jvm.Cond.instanceMethod ({ cls := "GearGaugeModel", name := "restore", desc := "()V" } : Jvm.MethodName)) ∈ tG := tG_at 1052 (by decide +kernel) rfl
theorem q_1053 : (Jvm.Cond.code ({ cls := "GearGaugeModel", name := "restore", desc := "()V" } : Jvm.MethodName) prog_8_method_7_code (2 : Nat) (Option.none : Option Jvm.ClassFile.FieldType)) ∈ tG := tG_at 1053 (by decide +kernel) rfl
theorem q_1054 : (Jvm.Cond.methodLink "GearGaugeLaw" (143 : Nat) ({ cls := "GearGaugeModel", name := "gears", desc := "()I" } : Jvm.MethodName)) ∈ tG := tG_at 1054 (by decide +kernel) rfl
theorem q_1055 : (Jvm.Cond.instanceMethod ({ cls := "GearGaugeModel", name := "gears", desc := "()I" } : Jvm.MethodName)) ∈ tG := tG_at 1055 (by decide +kernel) rfl
theorem q_1056 : (Jvm.Cond.selects "GearGaugeModel" ({ cls := "GearGaugeModel", name := "gears", desc := "()I" } : Jvm.MethodName) ({ cls := "GearGaugeModel", name := "gears", desc := "()I" } : Jvm.MethodName)) ∈ tG := tG_at 1056 (by decide +kernel) rfl
theorem q_1057 : (Jvm.Cond.code ({ cls := "GearGaugeModel", name := "gears", desc := "()I" } : Jvm.MethodName) prog_8_method_32_code (1 : Nat) (Option.some Jvm.ClassFile.FieldType.int)) ∈ tG := tG_at 1057 (by decide +kernel) rfl
theorem q_1058 : (Jvm.Cond.methodLink "GearGaugeLaw" (146 : Nat) ({ cls := "GearGaugeModel", name := "gear", desc := "(II)I" } : Jvm.MethodName)) ∈ tG := tG_at 1058 (by decide +kernel) rfl
theorem q_1059 : (Jvm.Cond.instanceMethod ({ cls := "GearGaugeModel", name := "gear", desc := "(II)I" } : Jvm.MethodName)) ∈ tG := tG_at 1059 (by decide +kernel) rfl
theorem q_1060 : (Jvm.Cond.selects "GearGaugeModel" ({ cls := "GearGaugeModel", name := "gear", desc := "(II)I" } : Jvm.MethodName) ({ cls := "GearGaugeModel", name := "gear", desc := "(II)I" } : Jvm.MethodName)) ∈ tG := tG_at 1060 (by decide +kernel) rfl
theorem q_1061 : (Jvm.Cond.code ({ cls := "GearGaugeModel", name := "gear", desc := "(II)I" } : Jvm.MethodName) prog_8_method_35_code (3 : Nat) (Option.some Jvm.ClassFile.FieldType.int)) ∈ tG := tG_at 1061 (by decide +kernel) rfl
theorem q_1062 : (Jvm.Cond.methodLink "GearGaugeModel" (142 : Nat) ({ cls := "GearGaugeModel", name := "told", desc := "(II)I" } : Jvm.MethodName)) ∈ tG := tG_at 1062 (by decide +kernel) rfl
theorem q_1064 : (Jvm.Cond.instanceMethod ({ cls := "GearGaugeModel", name := "told", desc := "(II)I" } : Jvm.MethodName)) ∈ tG := tG_at 1064 (by decide +kernel) rfl
theorem q_1065 : (Jvm.Cond.code ({ cls := "GearGaugeModel", name := "told", desc := "(II)I" } : Jvm.MethodName) prog_8_method_34_code (3 : Nat) (Option.some Jvm.ClassFile.FieldType.int)) ∈ tG := tG_at 1065 (by decide +kernel) rfl
theorem q_1066 : (Jvm.Cond.methodLink "GearGaugeModel" (133 : Nat) ({ cls := "GearGaugeModel", name := "moduleOf", desc := "(I)I" } : Jvm.MethodName)) ∈ tG := tG_at 1066 (by decide +kernel) rfl
theorem q_1068 : (Jvm.Cond.instanceMethod ({ cls := "GearGaugeModel", name := "moduleOf", desc := "(I)I" } : Jvm.MethodName)) ∈ tG := tG_at 1068 (by decide +kernel) rfl
theorem q_1069 : (Jvm.Cond.code ({ cls := "GearGaugeModel", name := "moduleOf", desc := "(I)I" } : Jvm.MethodName) prog_8_method_14_code (2 : Nat) (Option.some Jvm.ClassFile.FieldType.int)) ∈ tG := tG_at 1069 (by decide +kernel) rfl
theorem q_1070 : (Jvm.Cond.methodLink "GearGaugeModel" (136 : Nat) ({ cls := "GearGaugeModel", name := "linesOf", desc := "(I)I" } : Jvm.MethodName)) ∈ tG := tG_at 1070 (by decide +kernel) rfl
theorem q_1072 : (Jvm.Cond.instanceMethod ({ cls := "GearGaugeModel", name := "linesOf", desc := "(I)I" } : Jvm.MethodName)) ∈ tG := tG_at 1072 (by decide +kernel) rfl
theorem q_1073 : (Jvm.Cond.code ({ cls := "GearGaugeModel", name := "linesOf", desc := "(I)I" } : Jvm.MethodName) prog_8_method_33_code (4 : Nat) (Option.some Jvm.ClassFile.FieldType.int)) ∈ tG := tG_at 1073 (by decide +kernel) rfl
theorem q_1074 : (Jvm.Cond.methodLink "GearGaugeModel" (139 : Nat) ({ cls := "GearGaugeModel", name := "classOf", desc := "(II)I" } : Jvm.MethodName)) ∈ tG := tG_at 1074 (by decide +kernel) rfl
theorem q_1076 : (Jvm.Cond.instanceMethod ({ cls := "GearGaugeModel", name := "classOf", desc := "(II)I" } : Jvm.MethodName)) ∈ tG := tG_at 1076 (by decide +kernel) rfl
theorem q_1077 : (Jvm.Cond.code ({ cls := "GearGaugeModel", name := "classOf", desc := "(II)I" } : Jvm.MethodName) prog_8_method_69_code (7 : Nat) (Option.some Jvm.ClassFile.FieldType.int)) ∈ tG := tG_at 1077 (by decide +kernel) rfl
theorem q_1078 : (Jvm.Cond.methodLink "GearGaugeModel" (188 : Nat) ({ cls := "GearGaugeModel", name := "deviationOf", desc := "(II)I" } : Jvm.MethodName)) ∈ tG := tG_at 1078 (by decide +kernel) rfl
theorem q_1080 : (Jvm.Cond.instanceMethod ({ cls := "GearGaugeModel", name := "deviationOf", desc := "(II)I" } : Jvm.MethodName)) ∈ tG := tG_at 1080 (by decide +kernel) rfl
theorem q_1081 : (Jvm.Cond.code ({ cls := "GearGaugeModel", name := "deviationOf", desc := "(II)I" } : Jvm.MethodName) prog_8_method_50_code (3 : Nat) (Option.some Jvm.ClassFile.FieldType.int)) ∈ tG := tG_at 1081 (by decide +kernel) rfl
theorem q_1082 : (Jvm.Cond.methodLink "GearGaugeModel" (171 : Nat) ({ cls := "GearGaugeModel", name := "greatestPitch", desc := "(I)I" } : Jvm.MethodName)) ∈ tG := tG_at 1082 (by decide +kernel) rfl
theorem q_1084 : (Jvm.Cond.instanceMethod ({ cls := "GearGaugeModel", name := "greatestPitch", desc := "(I)I" } : Jvm.MethodName)) ∈ tG := tG_at 1084 (by decide +kernel) rfl
theorem q_1085 : (Jvm.Cond.code ({ cls := "GearGaugeModel", name := "greatestPitch", desc := "(I)I" } : Jvm.MethodName) prog_8_method_47_code (6 : Nat) (Option.some Jvm.ClassFile.FieldType.int)) ∈ tG := tG_at 1085 (by decide +kernel) rfl
theorem q_1086 : (Jvm.Cond.methodLink "GearGaugeModel" (155 : Nat) ({ cls := "GearGaugeModel", name := "pitchOf", desc := "(III)I" } : Jvm.MethodName)) ∈ tG := tG_at 1086 (by decide +kernel) rfl
theorem q_1088 : (Jvm.Cond.instanceMethod ({ cls := "GearGaugeModel", name := "pitchOf", desc := "(III)I" } : Jvm.MethodName)) ∈ tG := tG_at 1088 (by decide +kernel) rfl
theorem q_1089 : (Jvm.Cond.code ({ cls := "GearGaugeModel", name := "pitchOf", desc := "(III)I" } : Jvm.MethodName) prog_8_method_38_code (4 : Nat) (Option.some Jvm.ClassFile.FieldType.int)) ∈ tG := tG_at 1089 (by decide +kernel) rfl
theorem q_1090 : (Jvm.Cond.methodLink "GearGaugeModel" (149 : Nat) ({ cls := "GearGaugeModel", name := "indexOf", desc := "(III)I" } : Jvm.MethodName)) ∈ tG := tG_at 1090 (by decide +kernel) rfl
theorem q_1092 : (Jvm.Cond.instanceMethod ({ cls := "GearGaugeModel", name := "indexOf", desc := "(III)I" } : Jvm.MethodName)) ∈ tG := tG_at 1092 (by decide +kernel) rfl
theorem q_1093 : (Jvm.Cond.code ({ cls := "GearGaugeModel", name := "indexOf", desc := "(III)I" } : Jvm.MethodName) prog_8_method_37_code (4 : Nat) (Option.some Jvm.ClassFile.FieldType.int)) ∈ tG := tG_at 1093 (by decide +kernel) rfl
theorem q_1094 : (Jvm.Cond.methodLink "GearGaugeModel" (145 : Nat) ({ cls := "GearGaugeModel", name := "round", desc := "(JJ)I" } : Jvm.MethodName)) ∈ tG := tG_at 1094 (by decide +kernel) rfl
theorem q_1095 : (Jvm.Cond.static ({ cls := "GearGaugeModel", name := "round", desc := "(JJ)I" } : Jvm.MethodName)) ∈ tG := tG_at 1095 (by decide +kernel) rfl
theorem q_1096 : (Jvm.Cond.code ({ cls := "GearGaugeModel", name := "round", desc := "(JJ)I" } : Jvm.MethodName) prog_8_method_10_code (4 : Nat) (Option.some Jvm.ClassFile.FieldType.int)) ∈ tG := tG_at 1096 (by decide +kernel) rfl
theorem q_1097 : (Jvm.Cond.methodLink "GearGaugeModel" (47 : Nat) ({ cls := "GearGaugeModel", name := "floor", desc := "(JJ)J" } : Jvm.MethodName)) ∈ tG := tG_at 1097 (by decide +kernel) rfl
theorem q_1098 : (Jvm.Cond.static ({ cls := "GearGaugeModel", name := "floor", desc := "(JJ)J" } : Jvm.MethodName)) ∈ tG := tG_at 1098 (by decide +kernel) rfl
theorem q_1099 : (Jvm.Cond.code ({ cls := "GearGaugeModel", name := "floor", desc := "(JJ)J" } : Jvm.MethodName) prog_8_method_9_code (6 : Nat) (Option.some Jvm.ClassFile.FieldType.long)) ∈ tG := tG_at 1099 (by decide +kernel) rfl
theorem q_1100 : (Jvm.Cond.methodLink "GearGaugeModel" (158 : Nat) ({ cls := "GearGaugeModel", name := "size", desc := "(I)I" } : Jvm.MethodName)) ∈ tG := tG_at 1100 (by decide +kernel) rfl
theorem q_1101 : (Jvm.Cond.static ({ cls := "GearGaugeModel", name := "size", desc := "(I)I" } : Jvm.MethodName)) ∈ tG := tG_at 1101 (by decide +kernel) rfl
theorem q_1102 : (Jvm.Cond.code ({ cls := "GearGaugeModel", name := "size", desc := "(I)I" } : Jvm.MethodName) prog_8_method_11_code (1 : Nat) (Option.some Jvm.ClassFile.FieldType.int)) ∈ tG := tG_at 1102 (by decide +kernel) rfl
theorem q_1103 : (Jvm.Cond.methodLink "GearGaugeModel" (174 : Nat) ({ cls := "GearGaugeModel", name := "indexRange", desc := "(II)I" } : Jvm.MethodName)) ∈ tG := tG_at 1103 (by decide +kernel) rfl
theorem q_1105 : (Jvm.Cond.instanceMethod ({ cls := "GearGaugeModel", name := "indexRange", desc := "(II)I" } : Jvm.MethodName)) ∈ tG := tG_at 1105 (by decide +kernel) rfl
theorem q_1106 : (Jvm.Cond.code ({ cls := "GearGaugeModel", name := "indexRange", desc := "(II)I" } : Jvm.MethodName) prog_8_method_46_code (7 : Nat) (Option.some Jvm.ClassFile.FieldType.int)) ∈ tG := tG_at 1106 (by decide +kernel) rfl
theorem q_1107 : (Jvm.Cond.methodLink "GearGaugeModel" (177 : Nat) ({ cls := "GearGaugeModel", name := "runout", desc := "(I)I" } : Jvm.MethodName)) ∈ tG := tG_at 1107 (by decide +kernel) rfl
theorem q_1109 : (Jvm.Cond.instanceMethod ({ cls := "GearGaugeModel", name := "runout", desc := "(I)I" } : Jvm.MethodName)) ∈ tG := tG_at 1109 (by decide +kernel) rfl
theorem q_1110 : (Jvm.Cond.code ({ cls := "GearGaugeModel", name := "runout", desc := "(I)I" } : Jvm.MethodName) prog_8_method_48_code (6 : Nat) (Option.some Jvm.ClassFile.FieldType.int)) ∈ tG := tG_at 1110 (by decide +kernel) rfl
theorem q_1111 : (Jvm.Cond.methodLink "GearGaugeModel" (180 : Nat) ({ cls := "GearGaugeModel", name := "greatestOfLines", desc := "(III)I" } : Jvm.MethodName)) ∈ tG := tG_at 1111 (by decide +kernel) rfl
theorem q_1113 : (Jvm.Cond.instanceMethod ({ cls := "GearGaugeModel", name := "greatestOfLines", desc := "(III)I" } : Jvm.MethodName)) ∈ tG := tG_at 1113 (by decide +kernel) rfl
theorem q_1114 : (Jvm.Cond.code ({ cls := "GearGaugeModel", name := "greatestOfLines", desc := "(III)I" } : Jvm.MethodName) prog_8_method_49_code (7 : Nat) (Option.some Jvm.ClassFile.FieldType.int)) ∈ tG := tG_at 1114 (by decide +kernel) rfl
theorem q_1115 : (Jvm.Cond.methodLink "GearGaugeModel" (168 : Nat) ({ cls := "GearGaugeModel", name := "lineValue", desc := "(II)I" } : Jvm.MethodName)) ∈ tG := tG_at 1115 (by decide +kernel) rfl
theorem q_1117 : (Jvm.Cond.instanceMethod ({ cls := "GearGaugeModel", name := "lineValue", desc := "(II)I" } : Jvm.MethodName)) ∈ tG := tG_at 1117 (by decide +kernel) rfl
theorem q_1118 : (Jvm.Cond.code ({ cls := "GearGaugeModel", name := "lineValue", desc := "(II)I" } : Jvm.MethodName) prog_8_method_54_code (11 : Nat) (Option.some Jvm.ClassFile.FieldType.int)) ∈ tG := tG_at 1118 (by decide +kernel) rfl
theorem q_1119 : (Jvm.Cond.methodLink "GearGaugeModel" (204 : Nat) ({ cls := "GearGaugeModel", name := "fits", desc := "(I)V" } : Jvm.MethodName)) ∈ tG := tG_at 1119 (by decide +kernel) rfl
theorem q_1121 : (Jvm.Cond.instanceMethod ({ cls := "GearGaugeModel", name := "fits", desc := "(I)V" } : Jvm.MethodName)) ∈ tG := tG_at 1121 (by decide +kernel) rfl
theorem q_1122 : (Jvm.Cond.code ({ cls := "GearGaugeModel", name := "fits", desc := "(I)V" } : Jvm.MethodName) prog_8_method_53_code (13 : Nat) (Option.none : Option Jvm.ClassFile.FieldType)) ∈ tG := tG_at 1122 (by decide +kernel) rfl
theorem q_1123 : (Jvm.Cond.methodLink "GearGaugeModel" (225 : Nat) ({ cls := "GearGaugeModel", name := "toleranceOf", desc := "(III)I" } : Jvm.MethodName)) ∈ tG := tG_at 1123 (by decide +kernel) rfl
theorem q_1125 : (Jvm.Cond.instanceMethod ({ cls := "GearGaugeModel", name := "toleranceOf", desc := "(III)I" } : Jvm.MethodName)) ∈ tG := tG_at 1125 (by decide +kernel) rfl
theorem q_1126 : (Jvm.Cond.code ({ cls := "GearGaugeModel", name := "toleranceOf", desc := "(III)I" } : Jvm.MethodName) prog_8_method_68_code (6 : Nat) (Option.some Jvm.ClassFile.FieldType.int)) ∈ tG := tG_at 1126 (by decide +kernel) rfl
theorem q_1127 : (Jvm.Cond.methodLink "GearGaugeModel" (222 : Nat) ({ cls := "GearGaugeModel", name := "toleranceOfFive", desc := "(II)I" } : Jvm.MethodName)) ∈ tG := tG_at 1127 (by decide +kernel) rfl
theorem q_1129 : (Jvm.Cond.instanceMethod ({ cls := "GearGaugeModel", name := "toleranceOfFive", desc := "(II)I" } : Jvm.MethodName)) ∈ tG := tG_at 1129 (by decide +kernel) rfl
theorem q_1130 : (Jvm.Cond.code ({ cls := "GearGaugeModel", name := "toleranceOfFive", desc := "(II)I" } : Jvm.MethodName) prog_8_method_67_code (5 : Nat) (Option.some Jvm.ClassFile.FieldType.int)) ∈ tG := tG_at 1130 (by decide +kernel) rfl
theorem q_1131 : (Jvm.Cond.methodLink "GearGaugeModel" (219 : Nat) ({ cls := "GearGaugeModel", name := "root", desc := "(I)I" } : Jvm.MethodName)) ∈ tG := tG_at 1131 (by decide +kernel) rfl
theorem q_1132 : (Jvm.Cond.static ({ cls := "GearGaugeModel", name := "root", desc := "(I)I" } : Jvm.MethodName)) ∈ tG := tG_at 1132 (by decide +kernel) rfl
theorem q_1133 : (Jvm.Cond.code ({ cls := "GearGaugeModel", name := "root", desc := "(I)I" } : Jvm.MethodName) prog_8_method_66_code (2 : Nat) (Option.some Jvm.ClassFile.FieldType.int)) ∈ tG := tG_at 1133 (by decide +kernel) rfl
theorem q_1134 : (Jvm.Cond.methodLink "GearGaugeLaw" (149 : Nat) ({ cls := "GearGaugeModel", name := "reading", desc := "(III)I" } : Jvm.MethodName)) ∈ tG := tG_at 1134 (by decide +kernel) rfl
theorem q_1135 : (Jvm.Cond.instanceMethod ({ cls := "GearGaugeModel", name := "reading", desc := "(III)I" } : Jvm.MethodName)) ∈ tG := tG_at 1135 (by decide +kernel) rfl
theorem q_1136 : (Jvm.Cond.selects "GearGaugeModel" ({ cls := "GearGaugeModel", name := "reading", desc := "(III)I" } : Jvm.MethodName) ({ cls := "GearGaugeModel", name := "reading", desc := "(III)I" } : Jvm.MethodName)) ∈ tG := tG_at 1136 (by decide +kernel) rfl
theorem q_1137 : (Jvm.Cond.code ({ cls := "GearGaugeModel", name := "reading", desc := "(III)I" } : Jvm.MethodName) prog_8_method_36_code (4 : Nat) (Option.some Jvm.ClassFile.FieldType.int)) ∈ tG := tG_at 1137 (by decide +kernel) rfl
theorem q_1138 : (Jvm.Cond.methodLink "GearGaugeLaw" (152 : Nat) ({ cls := "GearGaugeModel", name := "index", desc := "(III)I" } : Jvm.MethodName)) ∈ tG := tG_at 1138 (by decide +kernel) rfl
theorem q_1139 : (Jvm.Cond.instanceMethod ({ cls := "GearGaugeModel", name := "index", desc := "(III)I" } : Jvm.MethodName)) ∈ tG := tG_at 1139 (by decide +kernel) rfl
theorem q_1140 : (Jvm.Cond.selects "GearGaugeModel" ({ cls := "GearGaugeModel", name := "index", desc := "(III)I" } : Jvm.MethodName) ({ cls := "GearGaugeModel", name := "index", desc := "(III)I" } : Jvm.MethodName)) ∈ tG := tG_at 1140 (by decide +kernel) rfl
theorem q_1141 : (Jvm.Cond.code ({ cls := "GearGaugeModel", name := "index", desc := "(III)I" } : Jvm.MethodName) prog_8_method_40_code (4 : Nat) (Option.some Jvm.ClassFile.FieldType.int)) ∈ tG := tG_at 1141 (by decide +kernel) rfl
theorem q_1142 : (Jvm.Cond.methodLink "GearGaugeModel" (152 : Nat) ({ cls := "GearGaugeModel", name := "isFlank", desc := "(II)Z" } : Jvm.MethodName)) ∈ tG := tG_at 1142 (by decide +kernel) rfl
theorem q_1144 : (Jvm.Cond.instanceMethod ({ cls := "GearGaugeModel", name := "isFlank", desc := "(II)Z" } : Jvm.MethodName)) ∈ tG := tG_at 1144 (by decide +kernel) rfl
theorem q_1145 : (Jvm.Cond.code ({ cls := "GearGaugeModel", name := "isFlank", desc := "(II)Z" } : Jvm.MethodName) prog_8_method_39_code (3 : Nat) (Option.some Jvm.ClassFile.FieldType.boolean)) ∈ tG := tG_at 1145 (by decide +kernel) rfl
theorem q_1146 : (Jvm.Cond.methodLink "GearGaugeLaw" (155 : Nat) ({ cls := "GearGaugeModel", name := "pitch", desc := "(III)I" } : Jvm.MethodName)) ∈ tG := tG_at 1146 (by decide +kernel) rfl
theorem q_1147 : (Jvm.Cond.instanceMethod ({ cls := "GearGaugeModel", name := "pitch", desc := "(III)I" } : Jvm.MethodName)) ∈ tG := tG_at 1147 (by decide +kernel) rfl
theorem q_1148 : (Jvm.Cond.selects "GearGaugeModel" ({ cls := "GearGaugeModel", name := "pitch", desc := "(III)I" } : Jvm.MethodName) ({ cls := "GearGaugeModel", name := "pitch", desc := "(III)I" } : Jvm.MethodName)) ∈ tG := tG_at 1148 (by decide +kernel) rfl
theorem q_1149 : (Jvm.Cond.code ({ cls := "GearGaugeModel", name := "pitch", desc := "(III)I" } : Jvm.MethodName) prog_8_method_41_code (4 : Nat) (Option.some Jvm.ClassFile.FieldType.int)) ∈ tG := tG_at 1149 (by decide +kernel) rfl
theorem q_1150 : (Jvm.Cond.methodLink "GearGaugeLaw" (158 : Nat) ({ cls := "GearGaugeModel", name := "span", desc := "(III)I" } : Jvm.MethodName)) ∈ tG := tG_at 1150 (by decide +kernel) rfl
theorem q_1151 : (Jvm.Cond.instanceMethod ({ cls := "GearGaugeModel", name := "span", desc := "(III)I" } : Jvm.MethodName)) ∈ tG := tG_at 1151 (by decide +kernel) rfl
theorem q_1152 : (Jvm.Cond.selects "GearGaugeModel" ({ cls := "GearGaugeModel", name := "span", desc := "(III)I" } : Jvm.MethodName) ({ cls := "GearGaugeModel", name := "span", desc := "(III)I" } : Jvm.MethodName)) ∈ tG := tG_at 1152 (by decide +kernel) rfl
theorem q_1153 : (Jvm.Cond.code ({ cls := "GearGaugeModel", name := "span", desc := "(III)I" } : Jvm.MethodName) prog_8_method_42_code (9 : Nat) (Option.some Jvm.ClassFile.FieldType.int)) ∈ tG := tG_at 1153 (by decide +kernel) rfl
theorem q_1154 : (Jvm.Cond.methodLink "GearGaugeLaw" (161 : Nat) ({ cls := "GearGaugeModel", name := "thickness", desc := "(II)I" } : Jvm.MethodName)) ∈ tG := tG_at 1154 (by decide +kernel) rfl
theorem q_1155 : (Jvm.Cond.instanceMethod ({ cls := "GearGaugeModel", name := "thickness", desc := "(II)I" } : Jvm.MethodName)) ∈ tG := tG_at 1155 (by decide +kernel) rfl
theorem q_1156 : (Jvm.Cond.selects "GearGaugeModel" ({ cls := "GearGaugeModel", name := "thickness", desc := "(II)I" } : Jvm.MethodName) ({ cls := "GearGaugeModel", name := "thickness", desc := "(II)I" } : Jvm.MethodName)) ∈ tG := tG_at 1156 (by decide +kernel) rfl
theorem q_1157 : (Jvm.Cond.code ({ cls := "GearGaugeModel", name := "thickness", desc := "(II)I" } : Jvm.MethodName) prog_8_method_44_code (7 : Nat) (Option.some Jvm.ClassFile.FieldType.int)) ∈ tG := tG_at 1157 (by decide +kernel) rfl
theorem q_1158 : (Jvm.Cond.constantLong "GearGaugeModel" (161 : Nat) (-1 : Int64)) ∈ tG := tG_at 1158 (by decide +kernel) rfl
theorem q_1159 : (Jvm.Cond.methodLink "GearGaugeModel" (163 : Nat) ({ cls := "GearGaugeModel", name := "thick", desc := "(II)I" } : Jvm.MethodName)) ∈ tG := tG_at 1159 (by decide +kernel) rfl
theorem q_1161 : (Jvm.Cond.instanceMethod ({ cls := "GearGaugeModel", name := "thick", desc := "(II)I" } : Jvm.MethodName)) ∈ tG := tG_at 1161 (by decide +kernel) rfl
theorem q_1162 : (Jvm.Cond.code ({ cls := "GearGaugeModel", name := "thick", desc := "(II)I" } : Jvm.MethodName) prog_8_method_43_code (3 : Nat) (Option.some Jvm.ClassFile.FieldType.int)) ∈ tG := tG_at 1162 (by decide +kernel) rfl
theorem q_1163 : (Jvm.Cond.methodLink "GearGaugeLaw" (165 : Nat) ({ cls := "GearGaugeModel", name := "eccentricity", desc := "(I)D" } : Jvm.MethodName)) ∈ tG := tG_at 1163 (by decide +kernel) rfl
theorem q_1164 : (Jvm.Cond.instanceMethod ({ cls := "GearGaugeModel", name := "eccentricity", desc := "(I)D" } : Jvm.MethodName)) ∈ tG := tG_at 1164 (by decide +kernel) rfl
theorem q_1165 : (Jvm.Cond.selects "GearGaugeModel" ({ cls := "GearGaugeModel", name := "eccentricity", desc := "(I)D" } : Jvm.MethodName) ({ cls := "GearGaugeModel", name := "eccentricity", desc := "(I)D" } : Jvm.MethodName)) ∈ tG := tG_at 1165 (by decide +kernel) rfl
theorem q_1166 : (Jvm.Cond.code ({ cls := "GearGaugeModel", name := "eccentricity", desc := "(I)D" } : Jvm.MethodName) prog_8_method_45_code (6 : Nat) (Option.some Jvm.ClassFile.FieldType.double)) ∈ tG := tG_at 1166 (by decide +kernel) rfl
theorem q_1167 : (Jvm.Cond.constantDouble "GearGaugeModel" (166 : Nat) (4611686018427387904 : UInt64)) ∈ tG := tG_at 1167 (by decide +kernel) rfl
theorem q_1168 : (Jvm.Cond.methodLink "GearGaugeLaw" (168 : Nat) ({ cls := "GearGaugeModel", name := "deviation", desc := "(II)I" } : Jvm.MethodName)) ∈ tG := tG_at 1168 (by decide +kernel) rfl
theorem q_1169 : (Jvm.Cond.instanceMethod ({ cls := "GearGaugeModel", name := "deviation", desc := "(II)I" } : Jvm.MethodName)) ∈ tG := tG_at 1169 (by decide +kernel) rfl
theorem q_1170 : (Jvm.Cond.selects "GearGaugeModel" ({ cls := "GearGaugeModel", name := "deviation", desc := "(II)I" } : Jvm.MethodName) ({ cls := "GearGaugeModel", name := "deviation", desc := "(II)I" } : Jvm.MethodName)) ∈ tG := tG_at 1170 (by decide +kernel) rfl
theorem q_1171 : (Jvm.Cond.code ({ cls := "GearGaugeModel", name := "deviation", desc := "(II)I" } : Jvm.MethodName) prog_8_method_52_code (3 : Nat) (Option.some Jvm.ClassFile.FieldType.int)) ∈ tG := tG_at 1171 (by decide +kernel) rfl
theorem q_1172 : (Jvm.Cond.methodLink "GearGaugeModel" (185 : Nat) ({ cls := "GearGaugeModel", name := "isDeviation", desc := "(I)Z" } : Jvm.MethodName)) ∈ tG := tG_at 1172 (by decide +kernel) rfl
theorem q_1173 : (Jvm.Cond.static ({ cls := "GearGaugeModel", name := "isDeviation", desc := "(I)Z" } : Jvm.MethodName)) ∈ tG := tG_at 1173 (by decide +kernel) rfl
theorem q_1174 : (Jvm.Cond.code ({ cls := "GearGaugeModel", name := "isDeviation", desc := "(I)Z" } : Jvm.MethodName) prog_8_method_51_code (1 : Nat) (Option.some Jvm.ClassFile.FieldType.boolean)) ∈ tG := tG_at 1174 (by decide +kernel) rfl
theorem q_1175 : (Jvm.Cond.constantLong "GearGaugeModel" (183 : Nat) (8 : Int64)) ∈ tG := tG_at 1175 (by decide +kernel) rfl
theorem q_1176 : (Jvm.Cond.methodLink "GearGaugeLaw" (171 : Nat) ({ cls := "GearGaugeModel", name := "addLine", desc := "(II)I" } : Jvm.MethodName)) ∈ tG := tG_at 1176 (by decide +kernel) rfl
theorem q_1177 : (Jvm.Cond.instanceMethod ({ cls := "GearGaugeModel", name := "addLine", desc := "(II)I" } : Jvm.MethodName)) ∈ tG := tG_at 1177 (by decide +kernel) rfl
theorem q_1178 : (Jvm.Cond.selects "GearGaugeModel" ({ cls := "GearGaugeModel", name := "addLine", desc := "(II)I" } : Jvm.MethodName) ({ cls := "GearGaugeModel", name := "addLine", desc := "(II)I" } : Jvm.MethodName)) ∈ tG := tG_at 1178 (by decide +kernel) rfl
theorem q_1179 : (Jvm.Cond.code ({ cls := "GearGaugeModel", name := "addLine", desc := "(II)I" } : Jvm.MethodName) prog_8_method_57_code (3 : Nat) (Option.some Jvm.ClassFile.FieldType.int)) ∈ tG := tG_at 1179 (by decide +kernel) rfl
theorem q_1180 : (Jvm.Cond.methodLink "GearGaugeModel" (207 : Nat) ({ cls := "GearGaugeModel", name := "putsLine", desc := "(II)V" } : Jvm.MethodName)) ∈ tG := tG_at 1180 (by decide +kernel) rfl
theorem q_1182 : (Jvm.Cond.instanceMethod ({ cls := "GearGaugeModel", name := "putsLine", desc := "(II)V" } : Jvm.MethodName)) ∈ tG := tG_at 1182 (by decide +kernel) rfl
theorem q_1183 : (Jvm.Cond.code ({ cls := "GearGaugeModel", name := "putsLine", desc := "(II)V" } : Jvm.MethodName) prog_8_method_55_code (4 : Nat) (Option.none : Option Jvm.ClassFile.FieldType)) ∈ tG := tG_at 1183 (by decide +kernel) rfl
theorem q_1184 : (Jvm.Cond.methodLink "GearGaugeLaw" (174 : Nat) ({ cls := "GearGaugeModel", name := "addPoint", desc := "(II)I" } : Jvm.MethodName)) ∈ tG := tG_at 1184 (by decide +kernel) rfl
theorem q_1185 : (Jvm.Cond.instanceMethod ({ cls := "GearGaugeModel", name := "addPoint", desc := "(II)I" } : Jvm.MethodName)) ∈ tG := tG_at 1185 (by decide +kernel) rfl
theorem q_1186 : (Jvm.Cond.selects "GearGaugeModel" ({ cls := "GearGaugeModel", name := "addPoint", desc := "(II)I" } : Jvm.MethodName) ({ cls := "GearGaugeModel", name := "addPoint", desc := "(II)I" } : Jvm.MethodName)) ∈ tG := tG_at 1186 (by decide +kernel) rfl
theorem q_1187 : (Jvm.Cond.code ({ cls := "GearGaugeModel", name := "addPoint", desc := "(II)I" } : Jvm.MethodName) prog_8_method_58_code (3 : Nat) (Option.some Jvm.ClassFile.FieldType.int)) ∈ tG := tG_at 1187 (by decide +kernel) rfl
theorem q_1188 : (Jvm.Cond.methodLink "GearGaugeModel" (210 : Nat) ({ cls := "GearGaugeModel", name := "isLine", desc := "(I)Z" } : Jvm.MethodName)) ∈ tG := tG_at 1188 (by decide +kernel) rfl
theorem q_1190 : (Jvm.Cond.instanceMethod ({ cls := "GearGaugeModel", name := "isLine", desc := "(I)Z" } : Jvm.MethodName)) ∈ tG := tG_at 1190 (by decide +kernel) rfl
theorem q_1191 : (Jvm.Cond.code ({ cls := "GearGaugeModel", name := "isLine", desc := "(I)Z" } : Jvm.MethodName) prog_8_method_19_code (2 : Nat) (Option.some Jvm.ClassFile.FieldType.boolean)) ∈ tG := tG_at 1191 (by decide +kernel) rfl
theorem q_1192 : (Jvm.Cond.methodLink "GearGaugeModel" (213 : Nat) ({ cls := "GearGaugeModel", name := "putsPoint", desc := "(II)V" } : Jvm.MethodName)) ∈ tG := tG_at 1192 (by decide +kernel) rfl
theorem q_1194 : (Jvm.Cond.instanceMethod ({ cls := "GearGaugeModel", name := "putsPoint", desc := "(II)V" } : Jvm.MethodName)) ∈ tG := tG_at 1194 (by decide +kernel) rfl
theorem q_1195 : (Jvm.Cond.code ({ cls := "GearGaugeModel", name := "putsPoint", desc := "(II)V" } : Jvm.MethodName) prog_8_method_56_code (4 : Nat) (Option.none : Option Jvm.ClassFile.FieldType)) ∈ tG := tG_at 1195 (by decide +kernel) rfl
theorem q_1196 : (Jvm.Cond.methodLink "GearGaugeLaw" (177 : Nat) ({ cls := "GearGaugeModel", name := "removeLine", desc := "(I)I" } : Jvm.MethodName)) ∈ tG := tG_at 1196 (by decide +kernel) rfl
theorem q_1197 : (Jvm.Cond.instanceMethod ({ cls := "GearGaugeModel", name := "removeLine", desc := "(I)I" } : Jvm.MethodName)) ∈ tG := tG_at 1197 (by decide +kernel) rfl
theorem q_1198 : (Jvm.Cond.selects "GearGaugeModel" ({ cls := "GearGaugeModel", name := "removeLine", desc := "(I)I" } : Jvm.MethodName) ({ cls := "GearGaugeModel", name := "removeLine", desc := "(I)I" } : Jvm.MethodName)) ∈ tG := tG_at 1198 (by decide +kernel) rfl
theorem q_1199 : (Jvm.Cond.code ({ cls := "GearGaugeModel", name := "removeLine", desc := "(I)I" } : Jvm.MethodName) prog_8_method_59_code (2 : Nat) (Option.some Jvm.ClassFile.FieldType.int)) ∈ tG := tG_at 1199 (by decide +kernel) rfl
theorem q_1200 : (Jvm.Cond.methodLink "GearGaugeLaw" (181 : Nat) ({ cls := "GearGaugeModel", name := "lines", desc := "()I" } : Jvm.MethodName)) ∈ tG := tG_at 1200 (by decide +kernel) rfl
theorem q_1201 : (Jvm.Cond.instanceMethod ({ cls := "GearGaugeModel", name := "lines", desc := "()I" } : Jvm.MethodName)) ∈ tG := tG_at 1201 (by decide +kernel) rfl
theorem q_1202 : (Jvm.Cond.selects "GearGaugeModel" ({ cls := "GearGaugeModel", name := "lines", desc := "()I" } : Jvm.MethodName) ({ cls := "GearGaugeModel", name := "lines", desc := "()I" } : Jvm.MethodName)) ∈ tG := tG_at 1202 (by decide +kernel) rfl
theorem q_1203 : (Jvm.Cond.code ({ cls := "GearGaugeModel", name := "lines", desc := "()I" } : Jvm.MethodName) prog_8_method_60_code (1 : Nat) (Option.some Jvm.ClassFile.FieldType.int)) ∈ tG := tG_at 1203 (by decide +kernel) rfl
theorem q_1204 : (Jvm.Cond.methodLink "GearGaugeLaw" (184 : Nat) ({ cls := "GearGaugeModel", name := "line", desc := "(II)I" } : Jvm.MethodName)) ∈ tG := tG_at 1204 (by decide +kernel) rfl
theorem q_1205 : (Jvm.Cond.instanceMethod ({ cls := "GearGaugeModel", name := "line", desc := "(II)I" } : Jvm.MethodName)) ∈ tG := tG_at 1205 (by decide +kernel) rfl
theorem q_1206 : (Jvm.Cond.selects "GearGaugeModel" ({ cls := "GearGaugeModel", name := "line", desc := "(II)I" } : Jvm.MethodName) ({ cls := "GearGaugeModel", name := "line", desc := "(II)I" } : Jvm.MethodName)) ∈ tG := tG_at 1206 (by decide +kernel) rfl
theorem q_1207 : (Jvm.Cond.code ({ cls := "GearGaugeModel", name := "line", desc := "(II)I" } : Jvm.MethodName) prog_8_method_61_code (3 : Nat) (Option.some Jvm.ClassFile.FieldType.int)) ∈ tG := tG_at 1207 (by decide +kernel) rfl
theorem q_1208 : (Jvm.Cond.methodLink "GearGaugeLaw" (187 : Nat) ({ cls := "GearGaugeModel", name := "point", desc := "(II)I" } : Jvm.MethodName)) ∈ tG := tG_at 1208 (by decide +kernel) rfl
theorem q_1209 : (Jvm.Cond.instanceMethod ({ cls := "GearGaugeModel", name := "point", desc := "(II)I" } : Jvm.MethodName)) ∈ tG := tG_at 1209 (by decide +kernel) rfl
theorem q_1210 : (Jvm.Cond.selects "GearGaugeModel" ({ cls := "GearGaugeModel", name := "point", desc := "(II)I" } : Jvm.MethodName) ({ cls := "GearGaugeModel", name := "point", desc := "(II)I" } : Jvm.MethodName)) ∈ tG := tG_at 1210 (by decide +kernel) rfl
theorem q_1211 : (Jvm.Cond.code ({ cls := "GearGaugeModel", name := "point", desc := "(II)I" } : Jvm.MethodName) prog_8_method_62_code (3 : Nat) (Option.some Jvm.ClassFile.FieldType.int)) ∈ tG := tG_at 1211 (by decide +kernel) rfl
theorem q_1212 : (Jvm.Cond.methodLink "GearGaugeLaw" (190 : Nat) ({ cls := "GearGaugeModel", name := "lineDeviation", desc := "(II)I" } : Jvm.MethodName)) ∈ tG := tG_at 1212 (by decide +kernel) rfl
theorem q_1213 : (Jvm.Cond.instanceMethod ({ cls := "GearGaugeModel", name := "lineDeviation", desc := "(II)I" } : Jvm.MethodName)) ∈ tG := tG_at 1213 (by decide +kernel) rfl
theorem q_1214 : (Jvm.Cond.selects "GearGaugeModel" ({ cls := "GearGaugeModel", name := "lineDeviation", desc := "(II)I" } : Jvm.MethodName) ({ cls := "GearGaugeModel", name := "lineDeviation", desc := "(II)I" } : Jvm.MethodName)) ∈ tG := tG_at 1214 (by decide +kernel) rfl
theorem q_1215 : (Jvm.Cond.code ({ cls := "GearGaugeModel", name := "lineDeviation", desc := "(II)I" } : Jvm.MethodName) prog_8_method_63_code (3 : Nat) (Option.some Jvm.ClassFile.FieldType.int)) ∈ tG := tG_at 1215 (by decide +kernel) rfl
theorem q_1216 : (Jvm.Cond.methodLink "GearGaugeLaw" (194 : Nat) ({ cls := "GearGaugeModel", name := "best", desc := "(IZI)J" } : Jvm.MethodName)) ∈ tG := tG_at 1216 (by decide +kernel) rfl
theorem q_1217 : (Jvm.Cond.instanceMethod ({ cls := "GearGaugeModel", name := "best", desc := "(IZI)J" } : Jvm.MethodName)) ∈ tG := tG_at 1217 (by decide +kernel) rfl
theorem q_1218 : (Jvm.Cond.selects "GearGaugeModel" ({ cls := "GearGaugeModel", name := "best", desc := "(IZI)J" } : Jvm.MethodName) ({ cls := "GearGaugeModel", name := "best", desc := "(IZI)J" } : Jvm.MethodName)) ∈ tG := tG_at 1218 (by decide +kernel) rfl
theorem q_1219 : (Jvm.Cond.code ({ cls := "GearGaugeModel", name := "best", desc := "(IZI)J" } : Jvm.MethodName) prog_8_method_65_code (10 : Nat) (Option.some Jvm.ClassFile.FieldType.long)) ∈ tG := tG_at 1219 (by decide +kernel) rfl
theorem q_1220 : (Jvm.Cond.methodLink "GearGaugeModel" (216 : Nat) ({ cls := "GearGaugeModel", name := "divisor", desc := "(JJ)J" } : Jvm.MethodName)) ∈ tG := tG_at 1220 (by decide +kernel) rfl
theorem q_1221 : (Jvm.Cond.static ({ cls := "GearGaugeModel", name := "divisor", desc := "(JJ)J" } : Jvm.MethodName)) ∈ tG := tG_at 1221 (by decide +kernel) rfl
theorem q_1222 : (Jvm.Cond.code ({ cls := "GearGaugeModel", name := "divisor", desc := "(JJ)J" } : Jvm.MethodName) prog_8_method_64_code (10 : Nat) (Option.some Jvm.ClassFile.FieldType.long)) ∈ tG := tG_at 1222 (by decide +kernel) rfl
theorem q_1223 : (Jvm.Cond.methodLink "GearGaugeLaw" (197 : Nat) ({ cls := "GearGaugeModel", name := "tolerance", desc := "(III)I" } : Jvm.MethodName)) ∈ tG := tG_at 1223 (by decide +kernel) rfl
theorem q_1224 : (Jvm.Cond.instanceMethod ({ cls := "GearGaugeModel", name := "tolerance", desc := "(III)I" } : Jvm.MethodName)) ∈ tG := tG_at 1224 (by decide +kernel) rfl
theorem q_1225 : (Jvm.Cond.selects "GearGaugeModel" ({ cls := "GearGaugeModel", name := "tolerance", desc := "(III)I" } : Jvm.MethodName) ({ cls := "GearGaugeModel", name := "tolerance", desc := "(III)I" } : Jvm.MethodName)) ∈ tG := tG_at 1225 (by decide +kernel) rfl
theorem q_1226 : (Jvm.Cond.code ({ cls := "GearGaugeModel", name := "tolerance", desc := "(III)I" } : Jvm.MethodName) prog_8_method_70_code (4 : Nat) (Option.some Jvm.ClassFile.FieldType.int)) ∈ tG := tG_at 1226 (by decide +kernel) rfl
theorem q_1227 : (Jvm.Cond.constantLong "GearGaugeModel" (228 : Nat) (12 : Int64)) ∈ tG := tG_at 1227 (by decide +kernel) rfl
theorem q_1228 : (Jvm.Cond.methodLink "GearGaugeLaw" (200 : Nat) ({ cls := "GearGaugeModel", name := "quality", desc := "(II)I" } : Jvm.MethodName)) ∈ tG := tG_at 1228 (by decide +kernel) rfl
theorem q_1229 : (Jvm.Cond.instanceMethod ({ cls := "GearGaugeModel", name := "quality", desc := "(II)I" } : Jvm.MethodName)) ∈ tG := tG_at 1229 (by decide +kernel) rfl
theorem q_1230 : (Jvm.Cond.selects "GearGaugeModel" ({ cls := "GearGaugeModel", name := "quality", desc := "(II)I" } : Jvm.MethodName) ({ cls := "GearGaugeModel", name := "quality", desc := "(II)I" } : Jvm.MethodName)) ∈ tG := tG_at 1230 (by decide +kernel) rfl
theorem q_1231 : (Jvm.Cond.code ({ cls := "GearGaugeModel", name := "quality", desc := "(II)I" } : Jvm.MethodName) prog_8_method_71_code (3 : Nat) (Option.some Jvm.ClassFile.FieldType.int)) ∈ tG := tG_at 1231 (by decide +kernel) rfl
theorem q_1232 : (Jvm.Cond.methodLink "GearGaugeLaw" (203 : Nat) ({ cls := "GearGaugeModel", name := "decide", desc := "(III)I" } : Jvm.MethodName)) ∈ tG := tG_at 1232 (by decide +kernel) rfl
theorem q_1233 : (Jvm.Cond.instanceMethod ({ cls := "GearGaugeModel", name := "decide", desc := "(III)I" } : Jvm.MethodName)) ∈ tG := tG_at 1233 (by decide +kernel) rfl
theorem q_1234 : (Jvm.Cond.selects "GearGaugeModel" ({ cls := "GearGaugeModel", name := "decide", desc := "(III)I" } : Jvm.MethodName) ({ cls := "GearGaugeModel", name := "decide", desc := "(III)I" } : Jvm.MethodName)) ∈ tG := tG_at 1234 (by decide +kernel) rfl
theorem q_1235 : (Jvm.Cond.code ({ cls := "GearGaugeModel", name := "decide", desc := "(III)I" } : Jvm.MethodName) prog_8_method_72_code (9 : Nat) (Option.some Jvm.ClassFile.FieldType.int)) ∈ tG := tG_at 1235 (by decide +kernel) rfl
theorem q_1236 : (Jvm.Cond.constantLong "GearGaugeModel" (230 : Nat) (1000 : Int64)) ∈ tG := tG_at 1236 (by decide +kernel) rfl
theorem q_1237 : (Jvm.Cond.methodLink "GearGaugeLaw" (206 : Nat) ({ cls := "GearGaugeModel", name := "mesh", desc := "(IIII)I" } : Jvm.MethodName)) ∈ tG := tG_at 1237 (by decide +kernel) rfl
theorem q_1238 : (Jvm.Cond.instanceMethod ({ cls := "GearGaugeModel", name := "mesh", desc := "(IIII)I" } : Jvm.MethodName)) ∈ tG := tG_at 1238 (by decide +kernel) rfl
theorem q_1239 : (Jvm.Cond.selects "GearGaugeModel" ({ cls := "GearGaugeModel", name := "mesh", desc := "(IIII)I" } : Jvm.MethodName) ({ cls := "GearGaugeModel", name := "mesh", desc := "(IIII)I" } : Jvm.MethodName)) ∈ tG := tG_at 1239 (by decide +kernel) rfl
theorem q_1240 : (Jvm.Cond.code ({ cls := "GearGaugeModel", name := "mesh", desc := "(IIII)I" } : Jvm.MethodName) prog_8_method_77_code (5 : Nat) (Option.some Jvm.ClassFile.FieldType.int)) ∈ tG := tG_at 1240 (by decide +kernel) rfl
theorem q_1241 : (Jvm.Cond.methodLink "GearGaugeModel" (235 : Nat) ({ cls := "GearGaugeModel", name := "lays", desc := "(III)V" } : Jvm.MethodName)) ∈ tG := tG_at 1241 (by decide +kernel) rfl
theorem q_1243 : (Jvm.Cond.instanceMethod ({ cls := "GearGaugeModel", name := "lays", desc := "(III)V" } : Jvm.MethodName)) ∈ tG := tG_at 1243 (by decide +kernel) rfl
theorem q_1244 : (Jvm.Cond.code ({ cls := "GearGaugeModel", name := "lays", desc := "(III)V" } : Jvm.MethodName) prog_8_method_74_code (5 : Nat) (Option.none : Option Jvm.ClassFile.FieldType)) ∈ tG := tG_at 1244 (by decide +kernel) rfl
theorem q_1245 : (Jvm.Cond.methodLink "GearGaugeModel" (239 : Nat) ({ cls := "GearGaugeModel", name := "errorAt", desc := "(III)I" } : Jvm.MethodName)) ∈ tG := tG_at 1245 (by decide +kernel) rfl
theorem q_1247 : (Jvm.Cond.instanceMethod ({ cls := "GearGaugeModel", name := "errorAt", desc := "(III)I" } : Jvm.MethodName)) ∈ tG := tG_at 1247 (by decide +kernel) rfl
theorem q_1248 : (Jvm.Cond.code ({ cls := "GearGaugeModel", name := "errorAt", desc := "(III)I" } : Jvm.MethodName) prog_8_method_75_code (9 : Nat) (Option.some Jvm.ClassFile.FieldType.int)) ∈ tG := tG_at 1248 (by decide +kernel) rfl
theorem q_1249 : (Jvm.Cond.methodLink "GearGaugeModel" (232 : Nat) ({ cls := "GearGaugeModel", name := "common", desc := "(II)I" } : Jvm.MethodName)) ∈ tG := tG_at 1249 (by decide +kernel) rfl
theorem q_1250 : (Jvm.Cond.static ({ cls := "GearGaugeModel", name := "common", desc := "(II)I" } : Jvm.MethodName)) ∈ tG := tG_at 1250 (by decide +kernel) rfl
theorem q_1251 : (Jvm.Cond.code ({ cls := "GearGaugeModel", name := "common", desc := "(II)I" } : Jvm.MethodName) prog_8_method_73_code (2 : Nat) (Option.some Jvm.ClassFile.FieldType.int)) ∈ tG := tG_at 1251 (by decide +kernel) rfl
theorem q_1252 : (Jvm.Cond.methodLink "GearGaugeLaw" (209 : Nat) ({ cls := "GearGaugeModel", name := "bestPhase", desc := "(III)I" } : Jvm.MethodName)) ∈ tG := tG_at 1252 (by decide +kernel) rfl
theorem q_1253 : (Jvm.Cond.instanceMethod ({ cls := "GearGaugeModel", name := "bestPhase", desc := "(III)I" } : Jvm.MethodName)) ∈ tG := tG_at 1253 (by decide +kernel) rfl
theorem q_1254 : (Jvm.Cond.selects "GearGaugeModel" ({ cls := "GearGaugeModel", name := "bestPhase", desc := "(III)I" } : Jvm.MethodName) ({ cls := "GearGaugeModel", name := "bestPhase", desc := "(III)I" } : Jvm.MethodName)) ∈ tG := tG_at 1254 (by decide +kernel) rfl
theorem q_1255 : (Jvm.Cond.code ({ cls := "GearGaugeModel", name := "bestPhase", desc := "(III)I" } : Jvm.MethodName) prog_8_method_78_code (4 : Nat) (Option.some Jvm.ClassFile.FieldType.int)) ∈ tG := tG_at 1255 (by decide +kernel) rfl
theorem q_1256 : (Jvm.Cond.methodLink "GearGaugeModel" (242 : Nat) ({ cls := "GearGaugeModel", name := "phaseOf", desc := "(III)I" } : Jvm.MethodName)) ∈ tG := tG_at 1256 (by decide +kernel) rfl
theorem q_1258 : (Jvm.Cond.instanceMethod ({ cls := "GearGaugeModel", name := "phaseOf", desc := "(III)I" } : Jvm.MethodName)) ∈ tG := tG_at 1258 (by decide +kernel) rfl
theorem q_1259 : (Jvm.Cond.code ({ cls := "GearGaugeModel", name := "phaseOf", desc := "(III)I" } : Jvm.MethodName) prog_8_method_76_code (6 : Nat) (Option.some Jvm.ClassFile.FieldType.int)) ∈ tG := tG_at 1259 (by decide +kernel) rfl
theorem q_1260 : (Jvm.Cond.methodLink "GearGaugeLaw" (212 : Nat) ({ cls := "GearGaugeModel", name := "partner", desc := "(II)I" } : Jvm.MethodName)) ∈ tG := tG_at 1260 (by decide +kernel) rfl
theorem q_1261 : (Jvm.Cond.instanceMethod ({ cls := "GearGaugeModel", name := "partner", desc := "(II)I" } : Jvm.MethodName)) ∈ tG := tG_at 1261 (by decide +kernel) rfl
theorem q_1262 : (Jvm.Cond.selects "GearGaugeModel" ({ cls := "GearGaugeModel", name := "partner", desc := "(II)I" } : Jvm.MethodName) ({ cls := "GearGaugeModel", name := "partner", desc := "(II)I" } : Jvm.MethodName)) ∈ tG := tG_at 1262 (by decide +kernel) rfl
theorem q_1263 : (Jvm.Cond.code ({ cls := "GearGaugeModel", name := "partner", desc := "(II)I" } : Jvm.MethodName) prog_8_method_79_code (8 : Nat) (Option.some Jvm.ClassFile.FieldType.int)) ∈ tG := tG_at 1263 (by decide +kernel) rfl
theorem q_1264 : (Jvm.Cond.methodLink "GearGaugeLaw" (215 : Nat) ({ cls := "GearGaugeModel", name := "mean", desc := "(I)D" } : Jvm.MethodName)) ∈ tG := tG_at 1264 (by decide +kernel) rfl
theorem q_1265 : (Jvm.Cond.instanceMethod ({ cls := "GearGaugeModel", name := "mean", desc := "(I)D" } : Jvm.MethodName)) ∈ tG := tG_at 1265 (by decide +kernel) rfl
theorem q_1266 : (Jvm.Cond.selects "GearGaugeModel" ({ cls := "GearGaugeModel", name := "mean", desc := "(I)D" } : Jvm.MethodName) ({ cls := "GearGaugeModel", name := "mean", desc := "(I)D" } : Jvm.MethodName)) ∈ tG := tG_at 1266 (by decide +kernel) rfl
theorem q_1267 : (Jvm.Cond.code ({ cls := "GearGaugeModel", name := "mean", desc := "(I)D" } : Jvm.MethodName) prog_8_method_80_code (4 : Nat) (Option.some Jvm.ClassFile.FieldType.double)) ∈ tG := tG_at 1267 (by decide +kernel) rfl
theorem q_1268 : (Jvm.Cond.methodLink "GearGaugeLaw" (218 : Nat) ({ cls := "GearGaugeModel", name := "ranked", desc := "(I)I" } : Jvm.MethodName)) ∈ tG := tG_at 1268 (by decide +kernel) rfl
theorem q_1269 : (Jvm.Cond.instanceMethod ({ cls := "GearGaugeModel", name := "ranked", desc := "(I)I" } : Jvm.MethodName)) ∈ tG := tG_at 1269 (by decide +kernel) rfl
theorem q_1270 : (Jvm.Cond.selects "GearGaugeModel" ({ cls := "GearGaugeModel", name := "ranked", desc := "(I)I" } : Jvm.MethodName) ({ cls := "GearGaugeModel", name := "ranked", desc := "(I)I" } : Jvm.MethodName)) ∈ tG := tG_at 1270 (by decide +kernel) rfl
theorem q_1271 : (Jvm.Cond.code ({ cls := "GearGaugeModel", name := "ranked", desc := "(I)I" } : Jvm.MethodName) prog_8_method_82_code (6 : Nat) (Option.some Jvm.ClassFile.FieldType.int)) ∈ tG := tG_at 1271 (by decide +kernel) rfl
theorem q_1272 : (Jvm.Cond.methodLink "GearGaugeModel" (245 : Nat) ({ cls := "GearGaugeModel", name := "isAhead", desc := "(II)Z" } : Jvm.MethodName)) ∈ tG := tG_at 1272 (by decide +kernel) rfl
theorem q_1274 : (Jvm.Cond.instanceMethod ({ cls := "GearGaugeModel", name := "isAhead", desc := "(II)Z" } : Jvm.MethodName)) ∈ tG := tG_at 1274 (by decide +kernel) rfl
theorem q_1275 : (Jvm.Cond.code ({ cls := "GearGaugeModel", name := "isAhead", desc := "(II)Z" } : Jvm.MethodName) prog_8_method_81_code (7 : Nat) (Option.some Jvm.ClassFile.FieldType.boolean)) ∈ tG := tG_at 1275 (by decide +kernel) rfl
theorem q_1276 : (Jvm.Cond.methodLink "GearGaugeLaw" (221 : Nat) ({ cls := "GearGaugeModel", name := "append", desc := "(I)I" } : Jvm.MethodName)) ∈ tG := tG_at 1276 (by decide +kernel) rfl
theorem q_1277 : (Jvm.Cond.instanceMethod ({ cls := "GearGaugeModel", name := "append", desc := "(I)I" } : Jvm.MethodName)) ∈ tG := tG_at 1277 (by decide +kernel) rfl
theorem q_1278 : (Jvm.Cond.selects "GearGaugeModel" ({ cls := "GearGaugeModel", name := "append", desc := "(I)I" } : Jvm.MethodName) ({ cls := "GearGaugeModel", name := "append", desc := "(I)I" } : Jvm.MethodName)) ∈ tG := tG_at 1278 (by decide +kernel) rfl
theorem q_1279 : (Jvm.Cond.code ({ cls := "GearGaugeModel", name := "append", desc := "(I)I" } : Jvm.MethodName) prog_8_method_83_code (2 : Nat) (Option.some Jvm.ClassFile.FieldType.int)) ∈ tG := tG_at 1279 (by decide +kernel) rfl
theorem q_1280 : (Jvm.Cond.constantLong "GearGaugeModel" (248 : Nat) (127 : Int64)) ∈ tG := tG_at 1280 (by decide +kernel) rfl
theorem q_1281 : (Jvm.Cond.methodLink "GearGaugeLaw" (225 : Nat) ({ cls := "GearGaugeModel", name := "clearText", desc := "()I" } : Jvm.MethodName)) ∈ tG := tG_at 1281 (by decide +kernel) rfl
theorem q_1282 : (Jvm.Cond.instanceMethod ({ cls := "GearGaugeModel", name := "clearText", desc := "()I" } : Jvm.MethodName)) ∈ tG := tG_at 1282 (by decide +kernel) rfl
theorem q_1283 : (Jvm.Cond.selects "GearGaugeModel" ({ cls := "GearGaugeModel", name := "clearText", desc := "()I" } : Jvm.MethodName) ({ cls := "GearGaugeModel", name := "clearText", desc := "()I" } : Jvm.MethodName)) ∈ tG := tG_at 1283 (by decide +kernel) rfl
theorem q_1284 : (Jvm.Cond.code ({ cls := "GearGaugeModel", name := "clearText", desc := "()I" } : Jvm.MethodName) prog_8_method_84_code (2 : Nat) (Option.some Jvm.ClassFile.FieldType.int)) ∈ tG := tG_at 1284 (by decide +kernel) rfl
theorem q_1285 : (Jvm.Cond.methodLink "GearGaugeLaw" (229 : Nat) ({ cls := "GearGaugeModel", name := "parse", desc := "()I" } : Jvm.MethodName)) ∈ tG := tG_at 1285 (by decide +kernel) rfl
theorem q_1286 : (Jvm.Cond.instanceMethod ({ cls := "GearGaugeModel", name := "parse", desc := "()I" } : Jvm.MethodName)) ∈ tG := tG_at 1286 (by decide +kernel) rfl
theorem q_1287 : (Jvm.Cond.selects "GearGaugeModel" ({ cls := "GearGaugeModel", name := "parse", desc := "()I" } : Jvm.MethodName) ({ cls := "GearGaugeModel", name := "parse", desc := "()I" } : Jvm.MethodName)) ∈ tG := tG_at 1287 (by decide +kernel) rfl
theorem q_1288 : (Jvm.Cond.code ({ cls := "GearGaugeModel", name := "parse", desc := "()I" } : Jvm.MethodName) prog_8_method_91_code (3 : Nat) (Option.some Jvm.ClassFile.FieldType.int)) ∈ tG := tG_at 1288 (by decide +kernel) rfl
theorem q_1289 : (Jvm.Cond.methodLink "GearGaugeModel" (277 : Nat) ({ cls := "GearGaugeModel", name := "isCommand", desc := "()Z" } : Jvm.MethodName)) ∈ tG := tG_at 1289 (by decide +kernel) rfl
theorem q_1291 : (Jvm.Cond.instanceMethod ({ cls := "GearGaugeModel", name := "isCommand", desc := "()Z" } : Jvm.MethodName)) ∈ tG := tG_at 1291 (by decide +kernel) rfl
theorem q_1292 : (Jvm.Cond.code ({ cls := "GearGaugeModel", name := "isCommand", desc := "()Z" } : Jvm.MethodName) prog_8_method_89_code (2 : Nat) (Option.some Jvm.ClassFile.FieldType.boolean)) ∈ tG := tG_at 1292 (by decide +kernel) rfl
theorem q_1293 : (Jvm.Cond.methodLink "GearGaugeModel" (253 : Nat) ({ cls := "GearGaugeModel", name := "here", desc := "()I" } : Jvm.MethodName)) ∈ tG := tG_at 1293 (by decide +kernel) rfl
theorem q_1295 : (Jvm.Cond.instanceMethod ({ cls := "GearGaugeModel", name := "here", desc := "()I" } : Jvm.MethodName)) ∈ tG := tG_at 1295 (by decide +kernel) rfl
theorem q_1296 : (Jvm.Cond.code ({ cls := "GearGaugeModel", name := "here", desc := "()I" } : Jvm.MethodName) prog_8_method_85_code (1 : Nat) (Option.some Jvm.ClassFile.FieldType.int)) ∈ tG := tG_at 1296 (by decide +kernel) rfl
theorem q_1297 : (Jvm.Cond.methodLink "GearGaugeModel" (267 : Nat) ({ cls := "GearGaugeModel", name := "isNumber", desc := "()Z" } : Jvm.MethodName)) ∈ tG := tG_at 1297 (by decide +kernel) rfl
theorem q_1299 : (Jvm.Cond.instanceMethod ({ cls := "GearGaugeModel", name := "isNumber", desc := "()Z" } : Jvm.MethodName)) ∈ tG := tG_at 1299 (by decide +kernel) rfl
theorem q_1300 : (Jvm.Cond.code ({ cls := "GearGaugeModel", name := "isNumber", desc := "()Z" } : Jvm.MethodName) prog_8_method_88_code (4 : Nat) (Option.some Jvm.ClassFile.FieldType.boolean)) ∈ tG := tG_at 1300 (by decide +kernel) rfl
theorem q_1301 : (Jvm.Cond.constantLong "GearGaugeModel" (257 : Nat) (48 : Int64)) ∈ tG := tG_at 1301 (by decide +kernel) rfl
theorem q_1302 : (Jvm.Cond.constantLong "GearGaugeModel" (259 : Nat) (57 : Int64)) ∈ tG := tG_at 1302 (by decide +kernel) rfl
theorem q_1303 : (Jvm.Cond.methodLink "GearGaugeModel" (271 : Nat) ({ cls := "GearGaugeModel", name := "most", desc := "(I)I" } : Jvm.MethodName)) ∈ tG := tG_at 1303 (by decide +kernel) rfl
theorem q_1304 : (Jvm.Cond.static ({ cls := "GearGaugeModel", name := "most", desc := "(I)I" } : Jvm.MethodName)) ∈ tG := tG_at 1304 (by decide +kernel) rfl
theorem q_1305 : (Jvm.Cond.code ({ cls := "GearGaugeModel", name := "most", desc := "(I)I" } : Jvm.MethodName) prog_8_method_87_code (1 : Nat) (Option.some Jvm.ClassFile.FieldType.int)) ∈ tG := tG_at 1305 (by decide +kernel) rfl
theorem q_1306 : (Jvm.Cond.methodLink "GearGaugeModel" (274 : Nat) ({ cls := "GearGaugeModel", name := "fewest", desc := "(I)I" } : Jvm.MethodName)) ∈ tG := tG_at 1306 (by decide +kernel) rfl
theorem q_1307 : (Jvm.Cond.static ({ cls := "GearGaugeModel", name := "fewest", desc := "(I)I" } : Jvm.MethodName)) ∈ tG := tG_at 1307 (by decide +kernel) rfl
theorem q_1308 : (Jvm.Cond.code ({ cls := "GearGaugeModel", name := "fewest", desc := "(I)I" } : Jvm.MethodName) prog_8_method_86_code (1 : Nat) (Option.some Jvm.ClassFile.FieldType.int)) ∈ tG := tG_at 1308 (by decide +kernel) rfl
theorem q_1309 : (Jvm.Cond.methodLink "GearGaugeModel" (280 : Nat) ({ cls := "GearGaugeModel", name := "isDone", desc := "()Z" } : Jvm.MethodName)) ∈ tG := tG_at 1309 (by decide +kernel) rfl
theorem q_1311 : (Jvm.Cond.instanceMethod ({ cls := "GearGaugeModel", name := "isDone", desc := "()Z" } : Jvm.MethodName)) ∈ tG := tG_at 1311 (by decide +kernel) rfl
theorem q_1312 : (Jvm.Cond.code ({ cls := "GearGaugeModel", name := "isDone", desc := "()Z" } : Jvm.MethodName) prog_8_method_90_code (5 : Nat) (Option.some Jvm.ClassFile.FieldType.boolean)) ∈ tG := tG_at 1312 (by decide +kernel) rfl
theorem q_1313 : (Jvm.Cond.methodLink "GearGaugeLaw" (233 : Nat) ({ cls := "GearGaugeModel", name := "undo", desc := "()I" } : Jvm.MethodName)) ∈ tG := tG_at 1313 (by decide +kernel) rfl
theorem q_1314 : (Jvm.Cond.instanceMethod ({ cls := "GearGaugeModel", name := "undo", desc := "()I" } : Jvm.MethodName)) ∈ tG := tG_at 1314 (by decide +kernel) rfl
theorem q_1315 : (Jvm.Cond.selects "GearGaugeModel" ({ cls := "GearGaugeModel", name := "undo", desc := "()I" } : Jvm.MethodName) ({ cls := "GearGaugeModel", name := "undo", desc := "()I" } : Jvm.MethodName)) ∈ tG := tG_at 1315 (by decide +kernel) rfl
theorem q_1316 : (Jvm.Cond.code ({ cls := "GearGaugeModel", name := "undo", desc := "()I" } : Jvm.MethodName) prog_8_method_92_code (2 : Nat) (Option.some Jvm.ClassFile.FieldType.int)) ∈ tG := tG_at 1316 (by decide +kernel) rfl
theorem q_1317 : (Jvm.Cond.methodLink "GearGaugeLaw" (238 : Nat) ({ cls := "GearGaugeModel", name := "digest", desc := "()J" } : Jvm.MethodName)) ∈ tG := tG_at 1317 (by decide +kernel) rfl
theorem q_1318 : (Jvm.Cond.instanceMethod ({ cls := "GearGaugeModel", name := "digest", desc := "()J" } : Jvm.MethodName)) ∈ tG := tG_at 1318 (by decide +kernel) rfl
theorem q_1319 : (Jvm.Cond.selects "GearGaugeModel" ({ cls := "GearGaugeModel", name := "digest", desc := "()J" } : Jvm.MethodName) ({ cls := "GearGaugeModel", name := "digest", desc := "()J" } : Jvm.MethodName)) ∈ tG := tG_at 1319 (by decide +kernel) rfl
theorem q_1320 : (Jvm.Cond.code ({ cls := "GearGaugeModel", name := "digest", desc := "()J" } : Jvm.MethodName) prog_8_method_95_code (3 : Nat) (Option.some Jvm.ClassFile.FieldType.long)) ∈ tG := tG_at 1320 (by decide +kernel) rfl
theorem q_1321 : (Jvm.Cond.constantLong "GearGaugeModel" (292 : Nat) (2963 : Int64)) ∈ tG := tG_at 1321 (by decide +kernel) rfl
theorem q_1322 : (Jvm.Cond.methodLink "GearGaugeModel" (288 : Nat) ({ cls := "GearGaugeModel", name := "mix", desc := "(J)V" } : Jvm.MethodName)) ∈ tG := tG_at 1322 (by decide +kernel) rfl
theorem q_1324 : (Jvm.Cond.instanceMethod ({ cls := "GearGaugeModel", name := "mix", desc := "(J)V" } : Jvm.MethodName)) ∈ tG := tG_at 1324 (by decide +kernel) rfl
theorem q_1325 : (Jvm.Cond.code ({ cls := "GearGaugeModel", name := "mix", desc := "(J)V" } : Jvm.MethodName) prog_8_method_93_code (3 : Nat) (Option.none : Option Jvm.ClassFile.FieldType)) ∈ tG := tG_at 1325 (by decide +kernel) rfl
theorem q_1326 : (Jvm.Cond.constantLong "GearGaugeModel" (283 : Nat) (31 : Int64)) ∈ tG := tG_at 1326 (by decide +kernel) rfl
theorem q_1327 : (Jvm.Cond.methodLink "GearGaugeModel" (294 : Nat) ({ cls := "GearGaugeModel", name := "mixGear", desc := "(I)V" } : Jvm.MethodName)) ∈ tG := tG_at 1327 (by decide +kernel) rfl
theorem q_1329 : (Jvm.Cond.instanceMethod ({ cls := "GearGaugeModel", name := "mixGear", desc := "(I)V" } : Jvm.MethodName)) ∈ tG := tG_at 1329 (by decide +kernel) rfl
theorem q_1330 : (Jvm.Cond.code ({ cls := "GearGaugeModel", name := "mixGear", desc := "(I)V" } : Jvm.MethodName) prog_8_method_94_code (4 : Nat) (Option.none : Option Jvm.ClassFile.FieldType)) ∈ tG := tG_at 1330 (by decide +kernel) rfl
theorem q_1331 : (Jvm.Cond.arrayClass Jvm.ClassFile.FieldType.long) ∈ tG := tG_at 1331 (by decide +kernel) rfl
theorem q_1332 : (Jvm.Cond.arrayClass Jvm.ClassFile.FieldType.double) ∈ tG := tG_at 1332 (by decide +kernel) rfl
theorem q_1333 : (Jvm.Cond.sameMethod "java/lang/Throwable" "java/lang/Throwable" "fillInStackTrace" "(I)Ljava/lang/Throwable;") ∈ tG := tG_at 1333 (by decide +kernel) rfl
theorem qs_0 : Cond.selects "GearGauge$Text" ⟨"GearGauge$Text", "isPossible", "(I)Z"⟩ ⟨"GearGauge$Text", "isPossible", "(I)Z"⟩ ∈ tG := tG_pr 0 (by decide +kernel) rfl
theorem qs_1 : Cond.selects "GearGauge$Text" ⟨"GearGauge$Text", "mostNumbers", "()I"⟩ ⟨"GearGauge$Text", "mostNumbers", "()I"⟩ ∈ tG := tG_pr 1 (by decide +kernel) rfl
theorem qs_2 : Cond.selects "GearGauge$Text" ⟨"GearGauge$Text", "leastNumbers", "()I"⟩ ⟨"GearGauge$Text", "leastNumbers", "()I"⟩ ∈ tG := tG_pr 2 (by decide +kernel) rfl
theorem qs_3 : Cond.selects "GearGauge$Text" ⟨"GearGauge$Text", "take", "(I)V"⟩ ⟨"GearGauge$Text", "take", "(I)V"⟩ ∈ tG := tG_pr 3 (by decide +kernel) rfl
theorem qs_4 : Cond.selects "GearGauge$Text" ⟨"GearGauge$Text", "startNumber", "()V"⟩ ⟨"GearGauge$Text", "startNumber", "()V"⟩ ∈ tG := tG_pr 4 (by decide +kernel) rfl
theorem qs_5 : Cond.selects "GearGauge$State" ⟨"GearGauge$State", "takeSeries", "(ILGearGauge$Text;)Z"⟩ ⟨"GearGauge$State", "takeSeries", "(ILGearGauge$Text;)Z"⟩ ∈ tG := tG_pr 5 (by decide +kernel) rfl
theorem qs_6 : Cond.selects "GearGauge$State" ⟨"GearGauge$State", "takeLine", "(ILGearGauge$Text;)Z"⟩ ⟨"GearGauge$State", "takeLine", "(ILGearGauge$Text;)Z"⟩ ∈ tG := tG_pr 6 (by decide +kernel) rfl
theorem qs_7 : Cond.selects "GearGauge" ⟨"GearGauge", "save", "()V"⟩ ⟨"GearGauge", "save", "()V"⟩ ∈ tG := tG_pr 7 (by decide +kernel) rfl
theorem qs_8 : Cond.selects "GearGauge" ⟨"GearGauge", "classOfGear", "(I)I"⟩ ⟨"GearGauge", "classOfGear", "(I)I"⟩ ∈ tG := tG_pr 8 (by decide +kernel) rfl
theorem qs_9 : Cond.selects "GearGauge$State" ⟨"GearGauge$State", "greatestOfLines", "(III)I"⟩ ⟨"GearGauge$State", "greatestOfLines", "(III)I"⟩ ∈ tG := tG_pr 9 (by decide +kernel) rfl
theorem qs_10 : Cond.selects "GearGauge$Line" ⟨"GearGauge$Line", "totalDeviation", "()I"⟩ ⟨"GearGauge$Line", "totalDeviation", "()I"⟩ ∈ tG := tG_pr 10 (by decide +kernel) rfl
theorem qs_11 : Cond.selects "GearGauge$Line" ⟨"GearGauge$Line", "formNumerator", "()J"⟩ ⟨"GearGauge$Line", "formNumerator", "()J"⟩ ∈ tG := tG_pr 11 (by decide +kernel) rfl
theorem qs_12 : Cond.selects "java/lang/Throwable" ⟨"java/lang/Throwable", "fillInStackTrace", "(I)Ljava/lang/Throwable;"⟩ ⟨"java/lang/Throwable", "fillInStackTrace", "(I)Ljava/lang/Throwable;"⟩ ∈ tG := tG_pr 12 (by decide +kernel) rfl
theorem qs_13 : Cond.selects "GearGauge" ⟨"GearGauge", "requireGear", "(I)LGearGauge$Gear;"⟩ ⟨"GearGauge", "requireGear", "(I)LGearGauge$Gear;"⟩ ∈ tG := tG_pr 13 (by decide +kernel) rfl
theorem qs_14 : Cond.selects "GearGauge$Gear" ⟨"GearGauge$Gear", "around", "(I)I"⟩ ⟨"GearGauge$Gear", "around", "(I)I"⟩ ∈ tG := tG_pr 14 (by decide +kernel) rfl
theorem qs_15 : Cond.selects "GearGauge" ⟨"GearGauge", "requireLine", "(I)LGearGauge$Line;"⟩ ⟨"GearGauge", "requireLine", "(I)LGearGauge$Line;"⟩ ∈ tG := tG_pr 15 (by decide +kernel) rfl
theorem qs_16 : Cond.selects "GearGauge$Mesh" ⟨"GearGauge$Mesh", "sort", "(LGearGauge$Gear;I[I[I)V"⟩ ⟨"GearGauge$Mesh", "sort", "(LGearGauge$Gear;I[I[I)V"⟩ ∈ tG := tG_pr 16 (by decide +kernel) rfl
theorem qs_17 : Cond.selects "GearGauge" ⟨"GearGauge", "placeOf", "(I)I"⟩ ⟨"GearGauge", "placeOf", "(I)I"⟩ ∈ tG := tG_pr 17 (by decide +kernel) rfl
theorem qs_18 : Cond.selects "GearGauge" ⟨"GearGauge", "ranksBefore", "(II)Z"⟩ ⟨"GearGauge", "ranksBefore", "(II)Z"⟩ ∈ tG := tG_pr 18 (by decide +kernel) rfl
theorem qs_19 : Cond.selects "GearGaugeModel" ⟨"GearGaugeModel", "fails", "(I)I"⟩ ⟨"GearGaugeModel", "fails", "(I)I"⟩ ∈ tG := tG_pr 19 (by decide +kernel) rfl
theorem qs_20 : Cond.selects "GearGaugeModel" ⟨"GearGaugeModel", "hold", "()V"⟩ ⟨"GearGaugeModel", "hold", "()V"⟩ ∈ tG := tG_pr 20 (by decide +kernel) rfl
theorem qs_21 : Cond.selects "GearGaugeModel" ⟨"GearGaugeModel", "putsGear", "(II)V"⟩ ⟨"GearGaugeModel", "putsGear", "(II)V"⟩ ∈ tG := tG_pr 21 (by decide +kernel) rfl
theorem qs_22 : Cond.selects "GearGaugeModel" ⟨"GearGaugeModel", "ends", "(I)I"⟩ ⟨"GearGaugeModel", "ends", "(I)I"⟩ ∈ tG := tG_pr 22 (by decide +kernel) rfl
theorem qs_23 : Cond.selects "GearGaugeModel" ⟨"GearGaugeModel", "tells", "(I)I"⟩ ⟨"GearGaugeModel", "tells", "(I)I"⟩ ∈ tG := tG_pr 23 (by decide +kernel) rfl
theorem qs_24 : Cond.selects "GearGaugeModel" ⟨"GearGaugeModel", "isGear", "(I)Z"⟩ ⟨"GearGaugeModel", "isGear", "(I)Z"⟩ ∈ tG := tG_pr 24 (by decide +kernel) rfl
theorem qs_25 : Cond.selects "GearGaugeModel" ⟨"GearGaugeModel", "of", "(II)I"⟩ ⟨"GearGaugeModel", "of", "(II)I"⟩ ∈ tG := tG_pr 25 (by decide +kernel) rfl
theorem qs_26 : Cond.selects "GearGaugeModel" ⟨"GearGaugeModel", "dropsLine", "(I)V"⟩ ⟨"GearGaugeModel", "dropsLine", "(I)V"⟩ ∈ tG := tG_pr 26 (by decide +kernel) rfl
theorem qs_27 : Cond.selects "GearGaugeModel" ⟨"GearGaugeModel", "isReading", "(III)Z"⟩ ⟨"GearGaugeModel", "isReading", "(III)Z"⟩ ∈ tG := tG_pr 27 (by decide +kernel) rfl
theorem qs_28 : Cond.selects "GearGaugeModel" ⟨"GearGaugeModel", "longOf", "(II)I"⟩ ⟨"GearGaugeModel", "longOf", "(II)I"⟩ ∈ tG := tG_pr 28 (by decide +kernel) rfl
theorem qs_29 : Cond.selects "GearGaugeModel" ⟨"GearGaugeModel", "teeth", "(I)I"⟩ ⟨"GearGaugeModel", "teeth", "(I)I"⟩ ∈ tG := tG_pr 29 (by decide +kernel) rfl
theorem qs_30 : Cond.selects "GearGaugeModel" ⟨"GearGaugeModel", "readingOf", "(III)I"⟩ ⟨"GearGaugeModel", "readingOf", "(III)I"⟩ ∈ tG := tG_pr 30 (by decide +kernel) rfl
theorem qs_31 : Cond.selects "GearGaugeModel" ⟨"GearGaugeModel", "closing", "(II)I"⟩ ⟨"GearGaugeModel", "closing", "(II)I"⟩ ∈ tG := tG_pr 31 (by decide +kernel) rfl
theorem qs_32 : Cond.selects "GearGaugeModel" ⟨"GearGaugeModel", "goes", "(III)Z"⟩ ⟨"GearGaugeModel", "goes", "(III)Z"⟩ ∈ tG := tG_pr 32 (by decide +kernel) rfl
theorem qs_33 : Cond.selects "GearGaugeModel" ⟨"GearGaugeModel", "restore", "()V"⟩ ⟨"GearGaugeModel", "restore", "()V"⟩ ∈ tG := tG_pr 33 (by decide +kernel) rfl
theorem qs_34 : Cond.selects "GearGaugeModel" ⟨"GearGaugeModel", "told", "(II)I"⟩ ⟨"GearGaugeModel", "told", "(II)I"⟩ ∈ tG := tG_pr 34 (by decide +kernel) rfl
theorem qs_35 : Cond.selects "GearGaugeModel" ⟨"GearGaugeModel", "moduleOf", "(I)I"⟩ ⟨"GearGaugeModel", "moduleOf", "(I)I"⟩ ∈ tG := tG_pr 35 (by decide +kernel) rfl
theorem qs_36 : Cond.selects "GearGaugeModel" ⟨"GearGaugeModel", "linesOf", "(I)I"⟩ ⟨"GearGaugeModel", "linesOf", "(I)I"⟩ ∈ tG := tG_pr 36 (by decide +kernel) rfl
theorem qs_37 : Cond.selects "GearGaugeModel" ⟨"GearGaugeModel", "classOf", "(II)I"⟩ ⟨"GearGaugeModel", "classOf", "(II)I"⟩ ∈ tG := tG_pr 37 (by decide +kernel) rfl
theorem qs_38 : Cond.selects "GearGaugeModel" ⟨"GearGaugeModel", "deviationOf", "(II)I"⟩ ⟨"GearGaugeModel", "deviationOf", "(II)I"⟩ ∈ tG := tG_pr 38 (by decide +kernel) rfl
theorem qs_39 : Cond.selects "GearGaugeModel" ⟨"GearGaugeModel", "greatestPitch", "(I)I"⟩ ⟨"GearGaugeModel", "greatestPitch", "(I)I"⟩ ∈ tG := tG_pr 39 (by decide +kernel) rfl
theorem qs_40 : Cond.selects "GearGaugeModel" ⟨"GearGaugeModel", "pitchOf", "(III)I"⟩ ⟨"GearGaugeModel", "pitchOf", "(III)I"⟩ ∈ tG := tG_pr 40 (by decide +kernel) rfl
theorem qs_41 : Cond.selects "GearGaugeModel" ⟨"GearGaugeModel", "indexOf", "(III)I"⟩ ⟨"GearGaugeModel", "indexOf", "(III)I"⟩ ∈ tG := tG_pr 41 (by decide +kernel) rfl
theorem qs_42 : Cond.selects "GearGaugeModel" ⟨"GearGaugeModel", "indexRange", "(II)I"⟩ ⟨"GearGaugeModel", "indexRange", "(II)I"⟩ ∈ tG := tG_pr 42 (by decide +kernel) rfl
theorem qs_43 : Cond.selects "GearGaugeModel" ⟨"GearGaugeModel", "runout", "(I)I"⟩ ⟨"GearGaugeModel", "runout", "(I)I"⟩ ∈ tG := tG_pr 43 (by decide +kernel) rfl
theorem qs_44 : Cond.selects "GearGaugeModel" ⟨"GearGaugeModel", "greatestOfLines", "(III)I"⟩ ⟨"GearGaugeModel", "greatestOfLines", "(III)I"⟩ ∈ tG := tG_pr 44 (by decide +kernel) rfl
theorem qs_45 : Cond.selects "GearGaugeModel" ⟨"GearGaugeModel", "lineValue", "(II)I"⟩ ⟨"GearGaugeModel", "lineValue", "(II)I"⟩ ∈ tG := tG_pr 45 (by decide +kernel) rfl
theorem qs_46 : Cond.selects "GearGaugeModel" ⟨"GearGaugeModel", "fits", "(I)V"⟩ ⟨"GearGaugeModel", "fits", "(I)V"⟩ ∈ tG := tG_pr 46 (by decide +kernel) rfl
theorem qs_47 : Cond.selects "GearGaugeModel" ⟨"GearGaugeModel", "toleranceOf", "(III)I"⟩ ⟨"GearGaugeModel", "toleranceOf", "(III)I"⟩ ∈ tG := tG_pr 47 (by decide +kernel) rfl
theorem qs_48 : Cond.selects "GearGaugeModel" ⟨"GearGaugeModel", "toleranceOfFive", "(II)I"⟩ ⟨"GearGaugeModel", "toleranceOfFive", "(II)I"⟩ ∈ tG := tG_pr 48 (by decide +kernel) rfl
theorem qs_49 : Cond.selects "GearGaugeModel" ⟨"GearGaugeModel", "isFlank", "(II)Z"⟩ ⟨"GearGaugeModel", "isFlank", "(II)Z"⟩ ∈ tG := tG_pr 49 (by decide +kernel) rfl
theorem qs_50 : Cond.selects "GearGaugeModel" ⟨"GearGaugeModel", "thick", "(II)I"⟩ ⟨"GearGaugeModel", "thick", "(II)I"⟩ ∈ tG := tG_pr 50 (by decide +kernel) rfl
theorem qs_51 : Cond.selects "GearGaugeModel" ⟨"GearGaugeModel", "putsLine", "(II)V"⟩ ⟨"GearGaugeModel", "putsLine", "(II)V"⟩ ∈ tG := tG_pr 51 (by decide +kernel) rfl
theorem qs_52 : Cond.selects "GearGaugeModel" ⟨"GearGaugeModel", "isLine", "(I)Z"⟩ ⟨"GearGaugeModel", "isLine", "(I)Z"⟩ ∈ tG := tG_pr 52 (by decide +kernel) rfl
theorem qs_53 : Cond.selects "GearGaugeModel" ⟨"GearGaugeModel", "putsPoint", "(II)V"⟩ ⟨"GearGaugeModel", "putsPoint", "(II)V"⟩ ∈ tG := tG_pr 53 (by decide +kernel) rfl
theorem qs_54 : Cond.selects "GearGaugeModel" ⟨"GearGaugeModel", "lays", "(III)V"⟩ ⟨"GearGaugeModel", "lays", "(III)V"⟩ ∈ tG := tG_pr 54 (by decide +kernel) rfl
theorem qs_55 : Cond.selects "GearGaugeModel" ⟨"GearGaugeModel", "errorAt", "(III)I"⟩ ⟨"GearGaugeModel", "errorAt", "(III)I"⟩ ∈ tG := tG_pr 55 (by decide +kernel) rfl
theorem qs_56 : Cond.selects "GearGaugeModel" ⟨"GearGaugeModel", "phaseOf", "(III)I"⟩ ⟨"GearGaugeModel", "phaseOf", "(III)I"⟩ ∈ tG := tG_pr 56 (by decide +kernel) rfl
theorem qs_57 : Cond.selects "GearGaugeModel" ⟨"GearGaugeModel", "isAhead", "(II)Z"⟩ ⟨"GearGaugeModel", "isAhead", "(II)Z"⟩ ∈ tG := tG_pr 57 (by decide +kernel) rfl
theorem qs_58 : Cond.selects "GearGaugeModel" ⟨"GearGaugeModel", "isCommand", "()Z"⟩ ⟨"GearGaugeModel", "isCommand", "()Z"⟩ ∈ tG := tG_pr 58 (by decide +kernel) rfl
theorem qs_59 : Cond.selects "GearGaugeModel" ⟨"GearGaugeModel", "here", "()I"⟩ ⟨"GearGaugeModel", "here", "()I"⟩ ∈ tG := tG_pr 59 (by decide +kernel) rfl
theorem qs_60 : Cond.selects "GearGaugeModel" ⟨"GearGaugeModel", "isNumber", "()Z"⟩ ⟨"GearGaugeModel", "isNumber", "()Z"⟩ ∈ tG := tG_pr 60 (by decide +kernel) rfl
theorem qs_61 : Cond.selects "GearGaugeModel" ⟨"GearGaugeModel", "isDone", "()Z"⟩ ⟨"GearGaugeModel", "isDone", "()Z"⟩ ∈ tG := tG_pr 61 (by decide +kernel) rfl
theorem qs_62 : Cond.selects "GearGaugeModel" ⟨"GearGaugeModel", "mix", "(J)V"⟩ ⟨"GearGaugeModel", "mix", "(J)V"⟩ ∈ tG := tG_pr 62 (by decide +kernel) rfl
theorem qs_63 : Cond.selects "GearGaugeModel" ⟨"GearGaugeModel", "mixGear", "(I)V"⟩ ⟨"GearGaugeModel", "mixGear", "(I)V"⟩ ∈ tG := tG_pr 63 (by decide +kernel) rfl
