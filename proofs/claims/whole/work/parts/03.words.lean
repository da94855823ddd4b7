theorem k_1 : (Jvm.Cond.initialized "FloodDiary") ∈ TB := TB_of 1 (by decide +kernel) rfl
theorem k_2 : (Jvm.Cond.initialized "FloodDiary$State") ∈ TB := TB_of 2 (by decide +kernel) rfl
theorem k_3 : (Jvm.Cond.initialized "FloodDiary$Pages") ∈ TB := TB_of 3 (by decide +kernel) rfl
theorem k_4 : (Jvm.Cond.initialized "FloodDiary$Diary") ∈ TB := TB_of 4 (by decide +kernel) rfl
theorem k_5 : (Jvm.Cond.initialized "FloodDiary$Works") ∈ TB := TB_of 5 (by decide +kernel) rfl
theorem k_6 : (Jvm.Cond.initialized "FloodDiary$History") ∈ TB := TB_of 6 (by decide +kernel) rfl
theorem k_7 : (Jvm.Cond.initialized "FloodDiary$Slots") ∈ TB := TB_of 7 (by decide +kernel) rfl
theorem k_8 : (Jvm.Cond.initialized "FloodDiary$Pad") ∈ TB := TB_of 8 (by decide +kernel) rfl
theorem k_9 : (Jvm.Cond.initialized "FloodDiary$Orders") ∈ TB := TB_of 9 (by decide +kernel) rfl
theorem k_10 : (Jvm.Cond.initialized "FloodDiaryModel") ∈ TB := TB_of 10 (by decide +kernel) rfl
theorem k_11 : (Jvm.Cond.initialized "java/lang/System") ∈ TB := TB_of 11 (by decide +kernel) rfl
theorem k_12 : (Jvm.Cond.initialized "java/lang/Math") ∈ TB := TB_of 12 (by decide +kernel) rfl
theorem k_17 : (Jvm.Cond.code ({ cls := "FloodDiary", name := "<init>", desc := "()V" } : Jvm.MethodName) prog_1_method_1_code (1 : Nat) (Option.none : Option FieldType)) ∈ TB := TB_of 17 (by decide +kernel) rfl
theorem k_18 : (Jvm.Cond.methodLink "FloodDiary" (3 : Nat) ({ cls := "java/lang/Object", name := "<init>", desc := "()V" } : Jvm.MethodName)) ∈ TB := TB_of 18 (by decide +kernel) rfl
theorem k_19 : (Jvm.Cond.instanceMethod ({ cls := "java/lang/Object", name := "<init>", desc := "()V" } : Jvm.MethodName)) ∈ TB := TB_of 19 (by decide +kernel) rfl
theorem k_20 : (Jvm.Cond.code ({ cls := "java/lang/Object", name := "<init>", desc := "()V" } : Jvm.MethodName) object_method_1_code (1 : Nat) (Option.none : Option FieldType)) ∈ TB := TB_of 20 (by decide +kernel) rfl
theorem k_21 : (Jvm.Cond.classLink "FloodDiary" (9 : Nat) "FloodDiary$State") ∈ TB := TB_of 21 (by decide +kernel) rfl
theorem k_22 : (Jvm.Cond.instantiable "FloodDiary$State" (9 : Nat)) ∈ TB := TB_of 22 (by decide +kernel) rfl
theorem k_24 : (Jvm.Cond.instanceMethod ({ cls := "FloodDiary$State", name := "<init>", desc := "()V" } : Jvm.MethodName)) ∈ TB := TB_of 24 (by decide +kernel) rfl
theorem k_25 : (Jvm.Cond.code ({ cls := "FloodDiary$State", name := "<init>", desc := "()V" } : Jvm.MethodName) prog_8_method_1_code (1 : Nat) (Option.none : Option FieldType)) ∈ TB := TB_of 25 (by decide +kernel) rfl
theorem k_26 : (Jvm.Cond.methodLink "FloodDiary$State" (3 : Nat) ({ cls := "java/lang/Object", name := "<init>", desc := "()V" } : Jvm.MethodName)) ∈ TB := TB_of 26 (by decide +kernel) rfl
theorem k_27 : (Jvm.Cond.classLink "FloodDiary$State" (9 : Nat) "FloodDiary$Pages") ∈ TB := TB_of 27 (by decide +kernel) rfl
theorem k_28 : (Jvm.Cond.instantiable "FloodDiary$Pages" (5 : Nat)) ∈ TB := TB_of 28 (by decide +kernel) rfl
theorem k_30 : (Jvm.Cond.instanceMethod ({ cls := "FloodDiary$Pages", name := "<init>", desc := "()V" } : Jvm.MethodName)) ∈ TB := TB_of 30 (by decide +kernel) rfl
theorem k_31 : (Jvm.Cond.code ({ cls := "FloodDiary$Pages", name := "<init>", desc := "()V" } : Jvm.MethodName) prog_6_method_1_code (1 : Nat) (Option.none : Option FieldType)) ∈ TB := TB_of 31 (by decide +kernel) rfl
theorem k_32 : (Jvm.Cond.methodLink "FloodDiary$Pages" (3 : Nat) ({ cls := "java/lang/Object", name := "<init>", desc := "()V" } : Jvm.MethodName)) ∈ TB := TB_of 32 (by decide +kernel) rfl
theorem k_33 : (Jvm.Cond.fieldLink "FloodDiary$Pages" (9 : Nat) "FloodDiary$Pages" "shelfValue" "[I") ∈ TB := TB_of 33 (by decide +kernel) rfl
theorem k_34 : (Jvm.Cond.fieldLink "FloodDiary$Pages" (15 : Nat) "FloodDiary$Pages" "shelfMark" "[I") ∈ TB := TB_of 34 (by decide +kernel) rfl
theorem k_35 : (Jvm.Cond.fieldLink "FloodDiary$Pages" (18 : Nat) "FloodDiary$Pages" "handValue" "[I") ∈ TB := TB_of 35 (by decide +kernel) rfl
theorem k_36 : (Jvm.Cond.fieldLink "FloodDiary$Pages" (21 : Nat) "FloodDiary$Pages" "handMark" "[I") ∈ TB := TB_of 36 (by decide +kernel) rfl
theorem k_37 : (Jvm.Cond.fieldLink "FloodDiary$Pages" (24 : Nat) "FloodDiary$Pages" "inHand" "I") ∈ TB := TB_of 37 (by decide +kernel) rfl
theorem k_38 : (Jvm.Cond.laysFinal "FloodDiary$Pages" "FloodDiary$Pages" "shelfValue" "[I") ∈ TB := TB_of 38 (by decide +kernel) rfl
theorem k_40 : (Jvm.Cond.laysFinal "FloodDiary$Pages" "FloodDiary$Pages" "shelfMark" "[I") ∈ TB := TB_of 40 (by decide +kernel) rfl
theorem k_42 : (Jvm.Cond.laysFinal "FloodDiary$Pages" "FloodDiary$Pages" "handValue" "[I") ∈ TB := TB_of 42 (by decide +kernel) rfl
theorem k_44 : (Jvm.Cond.laysFinal "FloodDiary$Pages" "FloodDiary$Pages" "handMark" "[I") ∈ TB := TB_of 44 (by decide +kernel) rfl
theorem k_46 : (Jvm.Cond.lays "FloodDiary$Pages" "FloodDiary$Pages" "inHand" "I") ∈ TB := TB_of 46 (by decide +kernel) rfl
theorem k_49 : (Jvm.Cond.arrayClass FieldType.int) ∈ TB := TB_of 49 (by decide +kernel) rfl
theorem k_50 : (Jvm.Cond.classLink "FloodDiary$State" (18 : Nat) "FloodDiary$Diary") ∈ TB := TB_of 50 (by decide +kernel) rfl
theorem k_51 : (Jvm.Cond.instantiable "FloodDiary$Diary" (9 : Nat)) ∈ TB := TB_of 51 (by decide +kernel) rfl
theorem k_53 : (Jvm.Cond.instanceMethod ({ cls := "FloodDiary$Diary", name := "<init>", desc := "()V" } : Jvm.MethodName)) ∈ TB := TB_of 53 (by decide +kernel) rfl
theorem k_54 : (Jvm.Cond.code ({ cls := "FloodDiary$Diary", name := "<init>", desc := "()V" } : Jvm.MethodName) prog_2_method_1_code (1 : Nat) (Option.none : Option FieldType)) ∈ TB := TB_of 54 (by decide +kernel) rfl
theorem k_55 : (Jvm.Cond.methodLink "FloodDiary$Diary" (3 : Nat) ({ cls := "java/lang/Object", name := "<init>", desc := "()V" } : Jvm.MethodName)) ∈ TB := TB_of 55 (by decide +kernel) rfl
theorem k_56 : (Jvm.Cond.fieldLink "FloodDiary$Diary" (9 : Nat) "FloodDiary$Diary" "kinds" "[I") ∈ TB := TB_of 56 (by decide +kernel) rfl
theorem k_57 : (Jvm.Cond.fieldLink "FloodDiary$Diary" (15 : Nat) "FloodDiary$Diary" "works" "[I") ∈ TB := TB_of 57 (by decide +kernel) rfl
theorem k_58 : (Jvm.Cond.fieldLink "FloodDiary$Diary" (18 : Nat) "FloodDiary$Diary" "earlie\x72" "[I") ∈ TB := TB_of 58 (by decide +kernel) rfl
theorem k_59 : (Jvm.Cond.fieldLink "FloodDiary$Diary" (21 : Nat) "FloodDiary$Diary" "pages" "[I") ∈ TB := TB_of 59 (by decide +kernel) rfl
theorem k_60 : (Jvm.Cond.fieldLink "FloodDiary$Diary" (24 : Nat) "FloodDiary$Diary" "before" "[I") ∈ TB := TB_of 60 (by decide +kernel) rfl
theorem k_61 : (Jvm.Cond.fieldLink "FloodDiary$Diary" (27 : Nat) "FloodDiary$Diary" "then" "[I") ∈ TB := TB_of 61 (by decide +kernel) rfl
theorem k_62 : (Jvm.Cond.fieldLink "FloodDiary$Diary" (30 : Nat) "FloodDiary$Diary" "next" "[I") ∈ TB := TB_of 62 (by decide +kernel) rfl
theorem k_63 : (Jvm.Cond.fieldLink "FloodDiary$Diary" (33 : Nat) "FloodDiary$Diary" "size" "I") ∈ TB := TB_of 63 (by decide +kernel) rfl
theorem k_67 : (Jvm.Cond.fieldLink "FloodDiary$Diary" (37 : Nat) "FloodDiary$Diary" "saved" "I") ∈ TB := TB_of 67 (by decide +kernel) rfl
theorem k_69 : (Jvm.Cond.laysFinal "FloodDiary$Diary" "FloodDiary$Diary" "kinds" "[I") ∈ TB := TB_of 69 (by decide +kernel) rfl
theorem k_71 : (Jvm.Cond.laysFinal "FloodDiary$Diary" "FloodDiary$Diary" "works" "[I") ∈ TB := TB_of 71 (by decide +kernel) rfl
theorem k_73 : (Jvm.Cond.laysFinal "FloodDiary$Diary" "FloodDiary$Diary" "earlie\x72" "[I") ∈ TB := TB_of 73 (by decide +kernel) rfl
theorem k_75 : (Jvm.Cond.laysFinal "FloodDiary$Diary" "FloodDiary$Diary" "pages" "[I") ∈ TB := TB_of 75 (by decide +kernel) rfl
theorem k_77 : (Jvm.Cond.laysFinal "FloodDiary$Diary" "FloodDiary$Diary" "before" "[I") ∈ TB := TB_of 77 (by decide +kernel) rfl
theorem k_79 : (Jvm.Cond.laysFinal "FloodDiary$Diary" "FloodDiary$Diary" "then" "[I") ∈ TB := TB_of 79 (by decide +kernel) rfl
theorem k_81 : (Jvm.Cond.laysFinal "FloodDiary$Diary" "FloodDiary$Diary" "next" "[I") ∈ TB := TB_of 81 (by decide +kernel) rfl
theorem k_83 : (Jvm.Cond.lays "FloodDiary$Diary" "FloodDiary$Diary" "size" "I") ∈ TB := TB_of 83 (by decide +kernel) rfl
theorem k_85 : (Jvm.Cond.lays "FloodDiary$Diary" "FloodDiary$Diary" "saved" "I") ∈ TB := TB_of 85 (by decide +kernel) rfl
theorem k_88 : (Jvm.Cond.classLink "FloodDiary$State" (25 : Nat) "FloodDiary$Works") ∈ TB := TB_of 88 (by decide +kernel) rfl
theorem k_89 : (Jvm.Cond.instantiable "FloodDiary$Works" (6 : Nat)) ∈ TB := TB_of 89 (by decide +kernel) rfl
theorem k_91 : (Jvm.Cond.instanceMethod ({ cls := "FloodDiary$Works", name := "<init>", desc := "()V" } : Jvm.MethodName)) ∈ TB := TB_of 91 (by decide +kernel) rfl
theorem k_92 : (Jvm.Cond.code ({ cls := "FloodDiary$Works", name := "<init>", desc := "()V" } : Jvm.MethodName) prog_9_method_1_code (1 : Nat) (Option.none : Option FieldType)) ∈ TB := TB_of 92 (by decide +kernel) rfl
theorem k_93 : (Jvm.Cond.methodLink "FloodDiary$Works" (3 : Nat) ({ cls := "java/lang/Object", name := "<init>", desc := "()V" } : Jvm.MethodName)) ∈ TB := TB_of 93 (by decide +kernel) rfl
theorem k_94 : (Jvm.Cond.fieldLink "FloodDiary$Works" (9 : Nat) "FloodDiary$Works" "states" "[I") ∈ TB := TB_of 94 (by decide +kernel) rfl
theorem k_95 : (Jvm.Cond.fieldLink "FloodDiary$Works" (15 : Nat) "FloodDiary$Works" "last" "[I") ∈ TB := TB_of 95 (by decide +kernel) rfl
theorem k_96 : (Jvm.Cond.fieldLink "FloodDiary$Works" (18 : Nat) "FloodDiary$Works" "entries" "[I") ∈ TB := TB_of 96 (by decide +kernel) rfl
theorem k_97 : (Jvm.Cond.fieldLink "FloodDiary$Works" (21 : Nat) "FloodDiary$Works" "pageSets" "[I") ∈ TB := TB_of 97 (by decide +kernel) rfl
theorem k_98 : (Jvm.Cond.fieldLink "FloodDiary$Works" (24 : Nat) "FloodDiary$Works" "goOn" "[I") ∈ TB := TB_of 98 (by decide +kernel) rfl
theorem k_99 : (Jvm.Cond.fieldLink "FloodDiary$Works" (27 : Nat) "FloodDiary$Works" "size" "I") ∈ TB := TB_of 99 (by decide +kernel) rfl
theorem k_101 : (Jvm.Cond.laysFinal "FloodDiary$Works" "FloodDiary$Works" "states" "[I") ∈ TB := TB_of 101 (by decide +kernel) rfl
theorem k_103 : (Jvm.Cond.laysFinal "FloodDiary$Works" "FloodDiary$Works" "last" "[I") ∈ TB := TB_of 103 (by decide +kernel) rfl
theorem k_105 : (Jvm.Cond.laysFinal "FloodDiary$Works" "FloodDiary$Works" "entries" "[I") ∈ TB := TB_of 105 (by decide +kernel) rfl
theorem k_107 : (Jvm.Cond.laysFinal "FloodDiary$Works" "FloodDiary$Works" "pageSets" "[I") ∈ TB := TB_of 107 (by decide +kernel) rfl
theorem k_109 : (Jvm.Cond.laysFinal "FloodDiary$Works" "FloodDiary$Works" "goOn" "[I") ∈ TB := TB_of 109 (by decide +kernel) rfl
theorem k_111 : (Jvm.Cond.lays "FloodDiary$Works" "FloodDiary$Works" "size" "I") ∈ TB := TB_of 111 (by decide +kernel) rfl
theorem k_114 : (Jvm.Cond.fieldLink "FloodDiary$State" (12 : Nat) "FloodDiary$State" "pages" "LFloodDiary$Pages;") ∈ TB := TB_of 114 (by decide +kernel) rfl
theorem k_116 : (Jvm.Cond.fieldLink "FloodDiary$State" (21 : Nat) "FloodDiary$State" "diary" "LFloodDiary$Diary;") ∈ TB := TB_of 116 (by decide +kernel) rfl
theorem k_118 : (Jvm.Cond.fieldLink "FloodDiary$State" (28 : Nat) "FloodDiary$State" "works" "LFloodDiary$Works;") ∈ TB := TB_of 118 (by decide +kernel) rfl
theorem k_120 : (Jvm.Cond.fieldLink "FloodDiary$State" (32 : Nat) "FloodDiary$State" "mending" "Z") ∈ TB := TB_of 120 (by decide +kernel) rfl
theorem k_122 : (Jvm.Cond.fieldLink "FloodDiary$State" (36 : Nat) "FloodDiary$State" "mendingBegun" "Z") ∈ TB := TB_of 122 (by decide +kernel) rfl
theorem k_123 : (Jvm.Cond.fieldLink "FloodDiary$State" (39 : Nat) "FloodDiary$State" "again" "I") ∈ TB := TB_of 123 (by decide +kernel) rfl
theorem k_124 : (Jvm.Cond.fieldLink "FloodDiary$State" (43 : Nat) "FloodDiary$State" "floods" "I") ∈ TB := TB_of 124 (by decide +kernel) rfl
theorem k_125 : (Jvm.Cond.fieldLink "FloodDiary$State" (46 : Nat) "FloodDiary$State" "stepsMade" "I") ∈ TB := TB_of 125 (by decide +kernel) rfl
theorem k_126 : (Jvm.Cond.fieldLink "FloodDiary$State" (49 : Nat) "FloodDiary$State" "lost" "I") ∈ TB := TB_of 126 (by decide +kernel) rfl
theorem k_127 : (Jvm.Cond.laysFinal "FloodDiary$State" "FloodDiary$State" "pages" "LFloodDiary$Pages;") ∈ TB := TB_of 127 (by decide +kernel) rfl
theorem k_129 : (Jvm.Cond.laysFinal "FloodDiary$State" "FloodDiary$State" "diary" "LFloodDiary$Diary;") ∈ TB := TB_of 129 (by decide +kernel) rfl
theorem k_131 : (Jvm.Cond.laysFinal "FloodDiary$State" "FloodDiary$State" "works" "LFloodDiary$Works;") ∈ TB := TB_of 131 (by decide +kernel) rfl
theorem k_133 : (Jvm.Cond.lays "FloodDiary$State" "FloodDiary$State" "mending" "Z") ∈ TB := TB_of 133 (by decide +kernel) rfl
theorem k_135 : (Jvm.Cond.lays "FloodDiary$State" "FloodDiary$State" "mendingBegun" "Z") ∈ TB := TB_of 135 (by decide +kernel) rfl
theorem k_137 : (Jvm.Cond.lays "FloodDiary$State" "FloodDiary$State" "again" "I") ∈ TB := TB_of 137 (by decide +kernel) rfl
theorem k_139 : (Jvm.Cond.lays "FloodDiary$State" "FloodDiary$State" "floods" "I") ∈ TB := TB_of 139 (by decide +kernel) rfl
theorem k_141 : (Jvm.Cond.lays "FloodDiary$State" "FloodDiary$State" "stepsMade" "I") ∈ TB := TB_of 141 (by decide +kernel) rfl
theorem k_143 : (Jvm.Cond.lays "FloodDiary$State" "FloodDiary$State" "lost" "I") ∈ TB := TB_of 143 (by decide +kernel) rfl
theorem k_146 : (Jvm.Cond.classLink "FloodDiary" (19 : Nat) "FloodDiary$History") ∈ TB := TB_of 146 (by decide +kernel) rfl
theorem k_147 : (Jvm.Cond.instantiable "FloodDiary$History" (3 : Nat)) ∈ TB := TB_of 147 (by decide +kernel) rfl
theorem k_148 : (Jvm.Cond.methodLink "FloodDiary" (21 : Nat) ({ cls := "FloodDiary$History", name := "<init>", desc := "()V" } : Jvm.MethodName)) ∈ TB := TB_of 148 (by decide +kernel) rfl
theorem k_149 : (Jvm.Cond.instanceMethod ({ cls := "FloodDiary$History", name := "<init>", desc := "()V" } : Jvm.MethodName)) ∈ TB := TB_of 149 (by decide +kernel) rfl
theorem k_150 : (Jvm.Cond.code ({ cls := "FloodDiary$History", name := "<init>", desc := "()V" } : Jvm.MethodName) prog_3_method_1_code (2 : Nat) (Option.none : Option FieldType)) ∈ TB := TB_of 150 (by decide +kernel) rfl
theorem k_151 : (Jvm.Cond.methodLink "FloodDiary$History" (3 : Nat) ({ cls := "java/lang/Object", name := "<init>", desc := "()V" } : Jvm.MethodName)) ∈ TB := TB_of 151 (by decide +kernel) rfl
theorem k_152 : (Jvm.Cond.classLink "FloodDiary$History" (11 : Nat) "FloodDiary$State") ∈ TB := TB_of 152 (by decide +kernel) rfl
theorem k_155 : (Jvm.Cond.fieldLink "FloodDiary$History" (13 : Nat) "FloodDiary$History" "states" "[LFloodDiary$State;") ∈ TB := TB_of 155 (by decide +kernel) rfl
theorem k_156 : (Jvm.Cond.fieldLink "FloodDiary$History" (17 : Nat) "FloodDiary$History" "first" "I") ∈ TB := TB_of 156 (by decide +kernel) rfl
theorem k_157 : (Jvm.Cond.fieldLink "FloodDiary$History" (21 : Nat) "FloodDiary$History" "size" "I") ∈ TB := TB_of 157 (by decide +kernel) rfl
theorem k_158 : (Jvm.Cond.laysFinal "FloodDiary$History" "FloodDiary$History" "states" "[LFloodDiary$State;") ∈ TB := TB_of 158 (by decide +kernel) rfl
theorem k_160 : (Jvm.Cond.lays "FloodDiary$History" "FloodDiary$History" "first" "I") ∈ TB := TB_of 160 (by decide +kernel) rfl
theorem k_162 : (Jvm.Cond.lays "FloodDiary$History" "FloodDiary$History" "size" "I") ∈ TB := TB_of 162 (by decide +kernel) rfl
theorem k_165 : (Jvm.Cond.classLink "FloodDiary" (26 : Nat) "FloodDiary$Slots") ∈ TB := TB_of 165 (by decide +kernel) rfl
theorem k_166 : (Jvm.Cond.instantiable "FloodDiary$Slots" (1 : Nat)) ∈ TB := TB_of 166 (by decide +kernel) rfl
theorem k_168 : (Jvm.Cond.instanceMethod ({ cls := "FloodDiary$Slots", name := "<init>", desc := "()V" } : Jvm.MethodName)) ∈ TB := TB_of 168 (by decide +kernel) rfl
theorem k_169 : (Jvm.Cond.code ({ cls := "FloodDiary$Slots", name := "<init>", desc := "()V" } : Jvm.MethodName) prog_7_method_1_code (1 : Nat) (Option.none : Option FieldType)) ∈ TB := TB_of 169 (by decide +kernel) rfl
theorem k_170 : (Jvm.Cond.methodLink "FloodDiary$Slots" (3 : Nat) ({ cls := "java/lang/Object", name := "<init>", desc := "()V" } : Jvm.MethodName)) ∈ TB := TB_of 170 (by decide +kernel) rfl
theorem k_171 : (Jvm.Cond.classLink "FloodDiary$Slots" (9 : Nat) "FloodDiary$State") ∈ TB := TB_of 171 (by decide +kernel) rfl
theorem k_172 : (Jvm.Cond.fieldLink "FloodDiary$Slots" (11 : Nat) "FloodDiary$Slots" "states" "[LFloodDiary$State;") ∈ TB := TB_of 172 (by decide +kernel) rfl
theorem k_173 : (Jvm.Cond.laysFinal "FloodDiary$Slots" "FloodDiary$Slots" "states" "[LFloodDiary$State;") ∈ TB := TB_of 173 (by decide +kernel) rfl
theorem k_176 : (Jvm.Cond.classLink "FloodDiary" (33 : Nat) "FloodDiary$Pad") ∈ TB := TB_of 176 (by decide +kernel) rfl
theorem k_177 : (Jvm.Cond.instantiable "FloodDiary$Pad" (2 : Nat)) ∈ TB := TB_of 177 (by decide +kernel) rfl
theorem k_179 : (Jvm.Cond.instanceMethod ({ cls := "FloodDiary$Pad", name := "<init>", desc := "()V" } : Jvm.MethodName)) ∈ TB := TB_of 179 (by decide +kernel) rfl
theorem k_180 : (Jvm.Cond.code ({ cls := "FloodDiary$Pad", name := "<init>", desc := "()V" } : Jvm.MethodName) prog_5_method_1_code (1 : Nat) (Option.none : Option FieldType)) ∈ TB := TB_of 180 (by decide +kernel) rfl
theorem k_181 : (Jvm.Cond.methodLink "FloodDiary$Pad" (3 : Nat) ({ cls := "java/lang/Object", name := "<init>", desc := "()V" } : Jvm.MethodName)) ∈ TB := TB_of 181 (by decide +kernel) rfl
theorem k_182 : (Jvm.Cond.fieldLink "FloodDiary$Pad" (9 : Nat) "FloodDiary$Pad" "text" "[C") ∈ TB := TB_of 182 (by decide +kernel) rfl
theorem k_183 : (Jvm.Cond.fieldLink "FloodDiary$Pad" (15 : Nat) "FloodDiary$Pad" "size" "I") ∈ TB := TB_of 183 (by decide +kernel) rfl
theorem k_184 : (Jvm.Cond.laysFinal "FloodDiary$Pad" "FloodDiary$Pad" "text" "[C") ∈ TB := TB_of 184 (by decide +kernel) rfl
theorem k_186 : (Jvm.Cond.lays "FloodDiary$Pad" "FloodDiary$Pad" "size" "I") ∈ TB := TB_of 186 (by decide +kernel) rfl
theorem k_189 : (Jvm.Cond.arrayClass FieldType.char) ∈ TB := TB_of 189 (by decide +kernel) rfl
theorem k_190 : (Jvm.Cond.classLink "FloodDiary" (40 : Nat) "FloodDiary$Orders") ∈ TB := TB_of 190 (by decide +kernel) rfl
theorem k_191 : (Jvm.Cond.instantiable "FloodDiary$Orders" (7 : Nat)) ∈ TB := TB_of 191 (by decide +kernel) rfl
theorem k_193 : (Jvm.Cond.instanceMethod ({ cls := "FloodDiary$Orders", name := "<init>", desc := "()V" } : Jvm.MethodName)) ∈ TB := TB_of 193 (by decide +kernel) rfl
theorem k_194 : (Jvm.Cond.code ({ cls := "FloodDiary$Orders", name := "<init>", desc := "()V" } : Jvm.MethodName) prog_4_method_1_code (1 : Nat) (Option.none : Option FieldType)) ∈ TB := TB_of 194 (by decide +kernel) rfl
theorem k_195 : (Jvm.Cond.methodLink "FloodDiary$Orders" (3 : Nat) ({ cls := "java/lang/Object", name := "<init>", desc := "()V" } : Jvm.MethodName)) ∈ TB := TB_of 195 (by decide +kernel) rfl
theorem k_196 : (Jvm.Cond.fieldLink "FloodDiary$Orders" (9 : Nat) "FloodDiary$Orders" "verbs" "[I") ∈ TB := TB_of 196 (by decide +kernel) rfl
theorem k_197 : (Jvm.Cond.fieldLink "FloodDiary$Orders" (15 : Nat) "FloodDiary$Orders" "numbers" "[I") ∈ TB := TB_of 197 (by decide +kernel) rfl
theorem k_198 : (Jvm.Cond.fieldLink "FloodDiary$Orders" (18 : Nat) "FloodDiary$Orders" "pages" "[I") ∈ TB := TB_of 198 (by decide +kernel) rfl
theorem k_199 : (Jvm.Cond.fieldLink "FloodDiary$Orders" (21 : Nat) "FloodDiary$Orders" "values" "[I") ∈ TB := TB_of 199 (by decide +kernel) rfl
theorem k_200 : (Jvm.Cond.fieldLink "FloodDiary$Orders" (24 : Nat) "FloodDiary$Orders" "size" "I") ∈ TB := TB_of 200 (by decide +kernel) rfl
theorem k_201 : (Jvm.Cond.fieldLink "FloodDiary$Orders" (28 : Nat) "FloodDiary$Orders" "place" "I") ∈ TB := TB_of 201 (by decide +kernel) rfl
theorem k_202 : (Jvm.Cond.fieldLink "FloodDiary$Orders" (31 : Nat) "FloodDiary$Orders" "fault" "I") ∈ TB := TB_of 202 (by decide +kernel) rfl
theorem k_203 : (Jvm.Cond.laysFinal "FloodDiary$Orders" "FloodDiary$Orders" "verbs" "[I") ∈ TB := TB_of 203 (by decide +kernel) rfl
theorem k_205 : (Jvm.Cond.laysFinal "FloodDiary$Orders" "FloodDiary$Orders" "numbers" "[I") ∈ TB := TB_of 205 (by decide +kernel) rfl
theorem k_207 : (Jvm.Cond.laysFinal "FloodDiary$Orders" "FloodDiary$Orders" "pages" "[I") ∈ TB := TB_of 207 (by decide +kernel) rfl
theorem k_209 : (Jvm.Cond.laysFinal "FloodDiary$Orders" "FloodDiary$Orders" "values" "[I") ∈ TB := TB_of 209 (by decide +kernel) rfl
theorem k_211 : (Jvm.Cond.lays "FloodDiary$Orders" "FloodDiary$Orders" "size" "I") ∈ TB := TB_of 211 (by decide +kernel) rfl
theorem k_213 : (Jvm.Cond.lays "FloodDiary$Orders" "FloodDiary$Orders" "place" "I") ∈ TB := TB_of 213 (by decide +kernel) rfl
theorem k_215 : (Jvm.Cond.lays "FloodDiary$Orders" "FloodDiary$Orders" "fault" "I") ∈ TB := TB_of 215 (by decide +kernel) rfl
theorem k_218 : (Jvm.Cond.fieldLink "FloodDiary" (12 : Nat) "FloodDiary" "now" "LFloodDiary$State;") ∈ TB := TB_of 218 (by decide +kernel) rfl
theorem k_219 : (Jvm.Cond.fieldLink "FloodDiary" (16 : Nat) "FloodDiary" "trial" "LFloodDiary$State;") ∈ TB := TB_of 219 (by decide +kernel) rfl
theorem k_220 : (Jvm.Cond.fieldLink "FloodDiary" (22 : Nat) "FloodDiary" "history" "LFloodDiary$History;") ∈ TB := TB_of 220 (by decide +kernel) rfl
theorem k_221 : (Jvm.Cond.fieldLink "FloodDiary" (29 : Nat) "FloodDiary" "slots" "LFloodDiary$Slots;") ∈ TB := TB_of 221 (by decide +kernel) rfl
theorem k_222 : (Jvm.Cond.fieldLink "FloodDiary" (36 : Nat) "FloodDiary" "pad" "LFloodDiary$Pad;") ∈ TB := TB_of 222 (by decide +kernel) rfl
theorem k_223 : (Jvm.Cond.fieldLink "FloodDiary" (43 : Nat) "FloodDiary" "orders" "LFloodDiary$Orders;") ∈ TB := TB_of 223 (by decide +kernel) rfl
theorem k_224 : (Jvm.Cond.laysFinal "FloodDiary" "FloodDiary" "now" "LFloodDiary$State;") ∈ TB := TB_of 224 (by decide +kernel) rfl
theorem k_226 : (Jvm.Cond.laysFinal "FloodDiary" "FloodDiary" "trial" "LFloodDiary$State;") ∈ TB := TB_of 226 (by decide +kernel) rfl
theorem k_228 : (Jvm.Cond.laysFinal "FloodDiary" "FloodDiary" "history" "LFloodDiary$History;") ∈ TB := TB_of 228 (by decide +kernel) rfl
theorem k_230 : (Jvm.Cond.laysFinal "FloodDiary" "FloodDiary" "slots" "LFloodDiary$Slots;") ∈ TB := TB_of 230 (by decide +kernel) rfl
theorem k_232 : (Jvm.Cond.laysFinal "FloodDiary" "FloodDiary" "pad" "LFloodDiary$Pad;") ∈ TB := TB_of 232 (by decide +kernel) rfl
theorem k_234 : (Jvm.Cond.laysFinal "FloodDiary" "FloodDiary" "orders" "LFloodDiary$Orders;") ∈ TB := TB_of 234 (by decide +kernel) rfl
theorem k_238 : (Jvm.Cond.instanceMethod ({ cls := "FloodDiary", name := "begin", desc := "()I" } : Jvm.MethodName)) ∈ TB := TB_of 238 (by decide +kernel) rfl
theorem k_239 : (Jvm.Cond.selects "FloodDiary" ({ cls := "FloodDiary", name := "begin", desc := "()I" } : Jvm.MethodName) ({ cls := "FloodDiary", name := "begin", desc := "()I" } : Jvm.MethodName)) ∈ TB := TB_of 239 (by decide +kernel) rfl
theorem k_240 : (Jvm.Cond.code ({ cls := "FloodDiary", name := "begin", desc := "()I" } : Jvm.MethodName) prog_1_method_2_code (1 : Nat) (Option.some FieldType.int)) ∈ TB := TB_of 240 (by decide +kernel) rfl
theorem k_241 : (Jvm.Cond.methodLink "FloodDiary" (47 : Nat) ({ cls := "FloodDiary$History", name := "prepare", desc := "(LFloodDiary$State;)V" } : Jvm.MethodName)) ∈ TB := TB_of 241 (by decide +kernel) rfl
theorem k_242 : (Jvm.Cond.instanceMethod ({ cls := "FloodDiary$History", name := "prepare", desc := "(LFloodDiary$State;)V" } : Jvm.MethodName)) ∈ TB := TB_of 242 (by decide +kernel) rfl
theorem k_243 : (Jvm.Cond.selects "FloodDiary$History" ({ cls := "FloodDiary$History", name := "prepare", desc := "(LFloodDiary$State;)V" } : Jvm.MethodName) ({ cls := "FloodDiary$History", name := "prepare", desc := "(LFloodDiary$State;)V" } : Jvm.MethodName)) ∈ TB := TB_of 243 (by decide +kernel) rfl
theorem k_244 : (Jvm.Cond.code ({ cls := "FloodDiary$History", name := "prepare", desc := "(LFloodDiary$State;)V" } : Jvm.MethodName) prog_3_method_3_code (3 : Nat) (Option.none : Option FieldType)) ∈ TB := TB_of 244 (by decide +kernel) rfl
theorem k_245 : (Jvm.Cond.methodLink "FloodDiary$History" (25 : Nat) ({ cls := "FloodDiary$State", name := "become", desc := "(LFloodDiary$State;)V" } : Jvm.MethodName)) ∈ TB := TB_of 245 (by decide +kernel) rfl
theorem k_246 : (Jvm.Cond.instanceMethod ({ cls := "FloodDiary$State", name := "become", desc := "(LFloodDiary$State;)V" } : Jvm.MethodName)) ∈ TB := TB_of 246 (by decide +kernel) rfl
theorem k_247 : (Jvm.Cond.selects "FloodDiary$State" ({ cls := "FloodDiary$State", name := "become", desc := "(LFloodDiary$State;)V" } : Jvm.MethodName) ({ cls := "FloodDiary$State", name := "become", desc := "(LFloodDiary$State;)V" } : Jvm.MethodName)) ∈ TB := TB_of 247 (by decide +kernel) rfl
theorem k_248 : (Jvm.Cond.code ({ cls := "FloodDiary$State", name := "become", desc := "(LFloodDiary$State;)V" } : Jvm.MethodName) prog_8_method_2_code (2 : Nat) (Option.none : Option FieldType)) ∈ TB := TB_of 248 (by decide +kernel) rfl
theorem k_249 : (Jvm.Cond.methodLink "FloodDiary$State" (52 : Nat) ({ cls := "FloodDiary$Pages", name := "become", desc := "(LFloodDiary$Pages;)V" } : Jvm.MethodName)) ∈ TB := TB_of 249 (by decide +kernel) rfl
theorem k_250 : (Jvm.Cond.instanceMethod ({ cls := "FloodDiary$Pages", name := "become", desc := "(LFloodDiary$Pages;)V" } : Jvm.MethodName)) ∈ TB := TB_of 250 (by decide +kernel) rfl
theorem k_251 : (Jvm.Cond.selects "FloodDiary$Pages" ({ cls := "FloodDiary$Pages", name := "become", desc := "(LFloodDiary$Pages;)V" } : Jvm.MethodName) ({ cls := "FloodDiary$Pages", name := "become", desc := "(LFloodDiary$Pages;)V" } : Jvm.MethodName)) ∈ TB := TB_of 251 (by decide +kernel) rfl
theorem k_252 : (Jvm.Cond.code ({ cls := "FloodDiary$Pages", name := "become", desc := "(LFloodDiary$Pages;)V" } : Jvm.MethodName) prog_6_method_2_code (2 : Nat) (Option.none : Option FieldType)) ∈ TB := TB_of 252 (by decide +kernel) rfl
theorem k_253 : (Jvm.Cond.methodLink "FloodDiary$Pages" (28 : Nat) ({ cls := "java/lang/System", name := "arraycopy", desc := "(Ljava/lang/Object;ILjava/lang/Object;II)V" } : Jvm.MethodName)) ∈ TB := TB_of 253 (by decide +kernel) rfl
theorem k_254 : (Jvm.Cond.static ({ cls := "java/lang/System", name := "arraycopy", desc := "(Ljava/lang/Object;ILjava/lang/Object;II)V" } : Jvm.MethodName)) ∈ TB := TB_of 254 (by decide +kernel) rfl
theorem k_255 : (Jvm.Cond.native ({ cls := "java/lang/System", name := "arraycopy", desc := "(Ljava/lang/Object;ILjava/lang/Object;II)V" } : Jvm.MethodName)) ∈ TB := TB_of 255 (by decide +kernel) rfl
theorem k_256 : (Jvm.Cond.methodLink "FloodDiary$State" (56 : Nat) ({ cls := "FloodDiary$Diary", name := "become", desc := "(LFloodDiary$Diary;)V" } : Jvm.MethodName)) ∈ TB := TB_of 256 (by decide +kernel) rfl
theorem k_257 : (Jvm.Cond.instanceMethod ({ cls := "FloodDiary$Diary", name := "become", desc := "(LFloodDiary$Diary;)V" } : Jvm.MethodName)) ∈ TB := TB_of 257 (by decide +kernel) rfl
theorem k_258 : (Jvm.Cond.selects "FloodDiary$Diary" ({ cls := "FloodDiary$Diary", name := "become", desc := "(LFloodDiary$Diary;)V" } : Jvm.MethodName) ({ cls := "FloodDiary$Diary", name := "become", desc := "(LFloodDiary$Diary;)V" } : Jvm.MethodName)) ∈ TB := TB_of 258 (by decide +kernel) rfl
theorem k_259 : (Jvm.Cond.code ({ cls := "FloodDiary$Diary", name := "become", desc := "(LFloodDiary$Diary;)V" } : Jvm.MethodName) prog_2_method_2_code (3 : Nat) (Option.none : Option FieldType)) ∈ TB := TB_of 259 (by decide +kernel) rfl
theorem k_260 : (Jvm.Cond.methodLink "FloodDiary$Diary" (40 : Nat) ({ cls := "java/lang/System", name := "arraycopy", desc := "(Ljava/lang/Object;ILjava/lang/Object;II)V" } : Jvm.MethodName)) ∈ TB := TB_of 260 (by decide +kernel) rfl
theorem k_261 : (Jvm.Cond.methodLink "FloodDiary$State" (59 : Nat) ({ cls := "FloodDiary$Works", name := "become", desc := "(LFloodDiary$Works;)V" } : Jvm.MethodName)) ∈ TB := TB_of 261 (by decide +kernel) rfl
theorem k_262 : (Jvm.Cond.instanceMethod ({ cls := "FloodDiary$Works", name := "become", desc := "(LFloodDiary$Works;)V" } : Jvm.MethodName)) ∈ TB := TB_of 262 (by decide +kernel) rfl
theorem k_263 : (Jvm.Cond.selects "FloodDiary$Works" ({ cls := "FloodDiary$Works", name := "become", desc := "(LFloodDiary$Works;)V" } : Jvm.MethodName) ({ cls := "FloodDiary$Works", name := "become", desc := "(LFloodDiary$Works;)V" } : Jvm.MethodName)) ∈ TB := TB_of 263 (by decide +kernel) rfl
theorem k_264 : (Jvm.Cond.code ({ cls := "FloodDiary$Works", name := "become", desc := "(LFloodDiary$Works;)V" } : Jvm.MethodName) prog_9_method_2_code (2 : Nat) (Option.none : Option FieldType)) ∈ TB := TB_of 264 (by decide +kernel) rfl
theorem k_265 : (Jvm.Cond.methodLink "FloodDiary$Works" (31 : Nat) ({ cls := "java/lang/System", name := "arraycopy", desc := "(Ljava/lang/Object;ILjava/lang/Object;II)V" } : Jvm.MethodName)) ∈ TB := TB_of 265 (by decide +kernel) rfl
theorem k_266 : (Jvm.Cond.methodLink "FloodDiary" (51 : Nat) ({ cls := "FloodDiary$State", name := "beginWork", desc := "()I" } : Jvm.MethodName)) ∈ TB := TB_of 266 (by decide +kernel) rfl
theorem k_267 : (Jvm.Cond.instanceMethod ({ cls := "FloodDiary$State", name := "beginWork", desc := "()I" } : Jvm.MethodName)) ∈ TB := TB_of 267 (by decide +kernel) rfl
theorem k_268 : (Jvm.Cond.selects "FloodDiary$State" ({ cls := "FloodDiary$State", name := "beginWork", desc := "()I" } : Jvm.MethodName) ({ cls := "FloodDiary$State", name := "beginWork", desc := "()I" } : Jvm.MethodName)) ∈ TB := TB_of 268 (by decide +kernel) rfl
theorem k_269 : (Jvm.Cond.code ({ cls := "FloodDiary$State", name := "beginWork", desc := "()I" } : Jvm.MethodName) prog_8_method_3_code (2 : Nat) (Option.some FieldType.int)) ∈ TB := TB_of 269 (by decide +kernel) rfl
theorem k_270 : (Jvm.Cond.methodLink "FloodDiary$State" (62 : Nat) ({ cls := "FloodDiary$Works", name := "isFull", desc := "()Z" } : Jvm.MethodName)) ∈ TB := TB_of 270 (by decide +kernel) rfl
theorem k_271 : (Jvm.Cond.instanceMethod ({ cls := "FloodDiary$Works", name := "isFull", desc := "()Z" } : Jvm.MethodName)) ∈ TB := TB_of 271 (by decide +kernel) rfl
theorem k_272 : (Jvm.Cond.selects "FloodDiary$Works" ({ cls := "FloodDiary$Works", name := "isFull", desc := "()Z" } : Jvm.MethodName) ({ cls := "FloodDiary$Works", name := "isFull", desc := "()Z" } : Jvm.MethodName)) ∈ TB := TB_of 272 (by decide +kernel) rfl
theorem k_273 : (Jvm.Cond.code ({ cls := "FloodDiary$Works", name := "isFull", desc := "()Z" } : Jvm.MethodName) prog_9_method_4_code (1 : Nat) (Option.some FieldType.boolean)) ∈ TB := TB_of 273 (by decide +kernel) rfl
theorem k_274 : (Jvm.Cond.methodLink "FloodDiary$State" (66 : Nat) ({ cls := "FloodDiary$Diary", name := "isFull", desc := "()Z" } : Jvm.MethodName)) ∈ TB := TB_of 274 (by decide +kernel) rfl
theorem k_275 : (Jvm.Cond.instanceMethod ({ cls := "FloodDiary$Diary", name := "isFull", desc := "()Z" } : Jvm.MethodName)) ∈ TB := TB_of 275 (by decide +kernel) rfl
theorem k_276 : (Jvm.Cond.selects "FloodDiary$Diary" ({ cls := "FloodDiary$Diary", name := "isFull", desc := "()Z" } : Jvm.MethodName) ({ cls := "FloodDiary$Diary", name := "isFull", desc := "()Z" } : Jvm.MethodName)) ∈ TB := TB_of 276 (by decide +kernel) rfl
theorem k_277 : (Jvm.Cond.code ({ cls := "FloodDiary$Diary", name := "isFull", desc := "()Z" } : Jvm.MethodName) prog_2_method_4_code (1 : Nat) (Option.some FieldType.boolean)) ∈ TB := TB_of 277 (by decide +kernel) rfl
theorem k_278 : (Jvm.Cond.methodLink "FloodDiary$State" (70 : Nat) ({ cls := "FloodDiary$State", name := "ente\x72", desc := "(II)I" } : Jvm.MethodName)) ∈ TB := TB_of 278 (by decide +kernel) rfl
theorem k_280 : (Jvm.Cond.instanceMethod ({ cls := "FloodDiary$State", name := "ente\x72", desc := "(II)I" } : Jvm.MethodName)) ∈ TB := TB_of 280 (by decide +kernel) rfl
theorem k_281 : (Jvm.Cond.code ({ cls := "FloodDiary$State", name := "ente\x72", desc := "(II)I" } : Jvm.MethodName) prog_8_method_16_code (4 : Nat) (Option.some FieldType.int)) ∈ TB := TB_of 281 (by decide +kernel) rfl
theorem k_282 : (Jvm.Cond.methodLink "FloodDiary$State" (166 : Nat) ({ cls := "FloodDiary$Works", name := "lastOf", desc := "(I)I" } : Jvm.MethodName)) ∈ TB := TB_of 282 (by decide +kernel) rfl
theorem k_283 : (Jvm.Cond.instanceMethod ({ cls := "FloodDiary$Works", name := "lastOf", desc := "(I)I" } : Jvm.MethodName)) ∈ TB := TB_of 283 (by decide +kernel) rfl
theorem k_284 : (Jvm.Cond.selects "FloodDiary$Works" ({ cls := "FloodDiary$Works", name := "lastOf", desc := "(I)I" } : Jvm.MethodName) ({ cls := "FloodDiary$Works", name := "lastOf", desc := "(I)I" } : Jvm.MethodName)) ∈ TB := TB_of 284 (by decide +kernel) rfl
theorem k_285 : (Jvm.Cond.code ({ cls := "FloodDiary$Works", name := "lastOf", desc := "(I)I" } : Jvm.MethodName) prog_9_method_6_code (2 : Nat) (Option.some FieldType.int)) ∈ TB := TB_of 285 (by decide +kernel) rfl
theorem k_286 : (Jvm.Cond.methodLink "FloodDiary$Works" (37 : Nat) ({ cls := "FloodDiary$Works", name := "has", desc := "(I)Z" } : Jvm.MethodName)) ∈ TB := TB_of 286 (by decide +kernel) rfl
theorem k_287 : (Jvm.Cond.instanceMethod ({ cls := "FloodDiary$Works", name := "has", desc := "(I)Z" } : Jvm.MethodName)) ∈ TB := TB_of 287 (by decide +kernel) rfl
theorem k_288 : (Jvm.Cond.selects "FloodDiary$Works" ({ cls := "FloodDiary$Works", name := "has", desc := "(I)Z" } : Jvm.MethodName) ({ cls := "FloodDiary$Works", name := "has", desc := "(I)Z" } : Jvm.MethodName)) ∈ TB := TB_of 288 (by decide +kernel) rfl
theorem k_289 : (Jvm.Cond.code ({ cls := "FloodDiary$Works", name := "has", desc := "(I)Z" } : Jvm.MethodName) prog_9_method_3_code (2 : Nat) (Option.some FieldType.boolean)) ∈ TB := TB_of 289 (by decide +kernel) rfl
theorem k_290 : (Jvm.Cond.methodLink "FloodDiary$State" (169 : Nat) ({ cls := "FloodDiary$Diary", name := "add", desc := "(III)I" } : Jvm.MethodName)) ∈ TB := TB_of 290 (by decide +kernel) rfl
theorem k_291 : (Jvm.Cond.instanceMethod ({ cls := "FloodDiary$Diary", name := "add", desc := "(III)I" } : Jvm.MethodName)) ∈ TB := TB_of 291 (by decide +kernel) rfl
theorem k_292 : (Jvm.Cond.selects "FloodDiary$Diary" ({ cls := "FloodDiary$Diary", name := "add", desc := "(III)I" } : Jvm.MethodName) ({ cls := "FloodDiary$Diary", name := "add", desc := "(III)I" } : Jvm.MethodName)) ∈ TB := TB_of 292 (by decide +kernel) rfl
theorem k_293 : (Jvm.Cond.code ({ cls := "FloodDiary$Diary", name := "add", desc := "(III)I" } : Jvm.MethodName) prog_2_method_5_code (4 : Nat) (Option.some FieldType.int)) ∈ TB := TB_of 293 (by decide +kernel) rfl
theorem k_294 : (Jvm.Cond.methodLink "FloodDiary$State" (173 : Nat) ({ cls := "FloodDiary$Works", name := "take", desc := "(IIIII)V" } : Jvm.MethodName)) ∈ TB := TB_of 294 (by decide +kernel) rfl
theorem k_295 : (Jvm.Cond.instanceMethod ({ cls := "FloodDiary$Works", name := "take", desc := "(IIIII)V" } : Jvm.MethodName)) ∈ TB := TB_of 295 (by decide +kernel) rfl
theorem k_296 : (Jvm.Cond.selects "FloodDiary$Works" ({ cls := "FloodDiary$Works", name := "take", desc := "(IIIII)V" } : Jvm.MethodName) ({ cls := "FloodDiary$Works", name := "take", desc := "(IIIII)V" } : Jvm.MethodName)) ∈ TB := TB_of 296 (by decide +kernel) rfl
theorem k_297 : (Jvm.Cond.code ({ cls := "FloodDiary$Works", name := "take", desc := "(IIIII)V" } : Jvm.MethodName) prog_9_method_13_code (7 : Nat) (Option.none : Option FieldType)) ∈ TB := TB_of 297 (by decide +kernel) rfl
theorem k_298 : (Jvm.Cond.methodLink "FloodDiary" (55 : Nat) ({ cls := "FloodDiary$History", name := "record", desc := "(I)I" } : Jvm.MethodName)) ∈ TB := TB_of 298 (by decide +kernel) rfl
theorem k_299 : (Jvm.Cond.instanceMethod ({ cls := "FloodDiary$History", name := "record", desc := "(I)I" } : Jvm.MethodName)) ∈ TB := TB_of 299 (by decide +kernel) rfl
theorem k_300 : (Jvm.Cond.selects "FloodDiary$History" ({ cls := "FloodDiary$History", name := "record", desc := "(I)I" } : Jvm.MethodName) ({ cls := "FloodDiary$History", name := "record", desc := "(I)I" } : Jvm.MethodName)) ∈ TB := TB_of 300 (by decide +kernel) rfl
theorem k_301 : (Jvm.Cond.code ({ cls := "FloodDiary$History", name := "record", desc := "(I)I" } : Jvm.MethodName) prog_3_method_4_code (2 : Nat) (Option.some FieldType.int)) ∈ TB := TB_of 301 (by decide +kernel) rfl
theorem k_303 : (Jvm.Cond.instanceMethod ({ cls := "FloodDiary", name := "write", desc := "(III)I" } : Jvm.MethodName)) ∈ TB := TB_of 303 (by decide +kernel) rfl
theorem k_304 : (Jvm.Cond.selects "FloodDiary" ({ cls := "FloodDiary", name := "write", desc := "(III)I" } : Jvm.MethodName) ({ cls := "FloodDiary", name := "write", desc := "(III)I" } : Jvm.MethodName)) ∈ TB := TB_of 304 (by decide +kernel) rfl
theorem k_305 : (Jvm.Cond.code ({ cls := "FloodDiary", name := "write", desc := "(III)I" } : Jvm.MethodName) prog_1_method_3_code (4 : Nat) (Option.some FieldType.int)) ∈ TB := TB_of 305 (by decide +kernel) rfl
theorem k_306 : (Jvm.Cond.methodLink "FloodDiary" (59 : Nat) ({ cls := "FloodDiary$State", name := "writePage", desc := "(III)I" } : Jvm.MethodName)) ∈ TB := TB_of 306 (by decide +kernel) rfl
theorem k_307 : (Jvm.Cond.instanceMethod ({ cls := "FloodDiary$State", name := "writePage", desc := "(III)I" } : Jvm.MethodName)) ∈ TB := TB_of 307 (by decide +kernel) rfl
theorem k_308 : (Jvm.Cond.selects "FloodDiary$State" ({ cls := "FloodDiary$State", name := "writePage", desc := "(III)I" } : Jvm.MethodName) ({ cls := "FloodDiary$State", name := "writePage", desc := "(III)I" } : Jvm.MethodName)) ∈ TB := TB_of 308 (by decide +kernel) rfl
theorem k_309 : (Jvm.Cond.code ({ cls := "FloodDiary$State", name := "writePage", desc := "(III)I" } : Jvm.MethodName) prog_8_method_4_code (6 : Nat) (Option.some FieldType.int)) ∈ TB := TB_of 309 (by decide +kernel) rfl
theorem k_310 : (Jvm.Cond.methodLink "FloodDiary$State" (74 : Nat) ({ cls := "FloodDiary$Works", name := "has", desc := "(I)Z" } : Jvm.MethodName)) ∈ TB := TB_of 310 (by decide +kernel) rfl
theorem k_312 : (Jvm.Cond.static ({ cls := "FloodDiary", name := "isPage", desc := "(I)Z" } : Jvm.MethodName)) ∈ TB := TB_of 312 (by decide +kernel) rfl
theorem k_313 : (Jvm.Cond.code ({ cls := "FloodDiary", name := "isPage", desc := "(I)Z" } : Jvm.MethodName) prog_1_method_27_code (1 : Nat) (Option.some FieldType.boolean)) ∈ TB := TB_of 313 (by decide +kernel) rfl
theorem k_314 : (Jvm.Cond.methodLink "FloodDiary$State" (81 : Nat) ({ cls := "FloodDiary$Works", name := "holderOf", desc := "(I)I" } : Jvm.MethodName)) ∈ TB := TB_of 314 (by decide +kernel) rfl
theorem k_315 : (Jvm.Cond.instanceMethod ({ cls := "FloodDiary$Works", name := "holderOf", desc := "(I)I" } : Jvm.MethodName)) ∈ TB := TB_of 315 (by decide +kernel) rfl
theorem k_316 : (Jvm.Cond.selects "FloodDiary$Works" ({ cls := "FloodDiary$Works", name := "holderOf", desc := "(I)I" } : Jvm.MethodName) ({ cls := "FloodDiary$Works", name := "holderOf", desc := "(I)I" } : Jvm.MethodName)) ∈ TB := TB_of 316 (by decide +kernel) rfl
theorem k_317 : (Jvm.Cond.code ({ cls := "FloodDiary$Works", name := "holderOf", desc := "(I)I" } : Jvm.MethodName) prog_9_method_9_code (3 : Nat) (Option.some FieldType.int)) ∈ TB := TB_of 317 (by decide +kernel) rfl
theorem k_318 : (Jvm.Cond.methodLink "FloodDiary$Works" (47 : Nat) ({ cls := "FloodDiary$Works", name := "holds", desc := "(II)Z" } : Jvm.MethodName)) ∈ TB := TB_of 318 (by decide +kernel) rfl
theorem k_319 : (Jvm.Cond.instanceMethod ({ cls := "FloodDiary$Works", name := "holds", desc := "(II)Z" } : Jvm.MethodName)) ∈ TB := TB_of 319 (by decide +kernel) rfl
theorem k_320 : (Jvm.Cond.selects "FloodDiary$Works" ({ cls := "FloodDiary$Works", name := "holds", desc := "(II)Z" } : Jvm.MethodName) ({ cls := "FloodDiary$Works", name := "holds", desc := "(II)Z" } : Jvm.MethodName)) ∈ TB := TB_of 320 (by decide +kernel) rfl
theorem k_321 : (Jvm.Cond.code ({ cls := "FloodDiary$Works", name := "holds", desc := "(II)Z" } : Jvm.MethodName) prog_9_method_8_code (3 : Nat) (Option.some FieldType.boolean)) ∈ TB := TB_of 321 (by decide +kernel) rfl
theorem k_322 : (Jvm.Cond.methodLink "FloodDiary$Works" (41 : Nat) ({ cls := "FloodDiary$Works", name := "isOpen", desc := "(I)Z" } : Jvm.MethodName)) ∈ TB := TB_of 322 (by decide +kernel) rfl
theorem k_323 : (Jvm.Cond.instanceMethod ({ cls := "FloodDiary$Works", name := "isOpen", desc := "(I)Z" } : Jvm.MethodName)) ∈ TB := TB_of 323 (by decide +kernel) rfl
theorem k_324 : (Jvm.Cond.selects "FloodDiary$Works" ({ cls := "FloodDiary$Works", name := "isOpen", desc := "(I)Z" } : Jvm.MethodName) ({ cls := "FloodDiary$Works", name := "isOpen", desc := "(I)Z" } : Jvm.MethodName)) ∈ TB := TB_of 324 (by decide +kernel) rfl
theorem k_325 : (Jvm.Cond.code ({ cls := "FloodDiary$Works", name := "isOpen", desc := "(I)Z" } : Jvm.MethodName) prog_9_method_5_code (2 : Nat) (Option.some FieldType.boolean)) ∈ TB := TB_of 325 (by decide +kernel) rfl
theorem k_327 : (Jvm.Cond.methodLink "FloodDiary$State" (85 : Nat) ({ cls := "FloodDiary$Works", name := "isOpen", desc := "(I)Z" } : Jvm.MethodName)) ∈ TB := TB_of 327 (by decide +kernel) rfl
theorem k_328 : (Jvm.Cond.methodLink "FloodDiary$State" (88 : Nat) ({ cls := "FloodDiary$Pages", name := "takeIntoHand", desc := "(I)V" } : Jvm.MethodName)) ∈ TB := TB_of 328 (by decide +kernel) rfl
theorem k_329 : (Jvm.Cond.instanceMethod ({ cls := "FloodDiary$Pages", name := "takeIntoHand", desc := "(I)V" } : Jvm.MethodName)) ∈ TB := TB_of 329 (by decide +kernel) rfl
theorem k_330 : (Jvm.Cond.selects "FloodDiary$Pages" ({ cls := "FloodDiary$Pages", name := "takeIntoHand", desc := "(I)V" } : Jvm.MethodName) ({ cls := "FloodDiary$Pages", name := "takeIntoHand", desc := "(I)V" } : Jvm.MethodName)) ∈ TB := TB_of 330 (by decide +kernel) rfl
theorem k_331 : (Jvm.Cond.code ({ cls := "FloodDiary$Pages", name := "takeIntoHand", desc := "(I)V" } : Jvm.MethodName) prog_6_method_10_code (2 : Nat) (Option.none : Option FieldType)) ∈ TB := TB_of 331 (by decide +kernel) rfl
theorem k_333 : (Jvm.Cond.methodLink "FloodDiary$Pages" (38 : Nat) ({ cls := "FloodDiary$Pages", name := "isInHand", desc := "(I)Z" } : Jvm.MethodName)) ∈ TB := TB_of 333 (by decide +kernel) rfl
theorem k_334 : (Jvm.Cond.instanceMethod ({ cls := "FloodDiary$Pages", name := "isInHand", desc := "(I)Z" } : Jvm.MethodName)) ∈ TB := TB_of 334 (by decide +kernel) rfl
theorem k_335 : (Jvm.Cond.selects "FloodDiary$Pages" ({ cls := "FloodDiary$Pages", name := "isInHand", desc := "(I)Z" } : Jvm.MethodName) ({ cls := "FloodDiary$Pages", name := "isInHand", desc := "(I)Z" } : Jvm.MethodName)) ∈ TB := TB_of 335 (by decide +kernel) rfl
theorem k_336 : (Jvm.Cond.code ({ cls := "FloodDiary$Pages", name := "isInHand", desc := "(I)Z" } : Jvm.MethodName) prog_6_method_3_code (2 : Nat) (Option.some FieldType.boolean)) ∈ TB := TB_of 336 (by decide +kernel) rfl
theorem k_337 : (Jvm.Cond.methodLink "FloodDiary$Pages" (44 : Nat) ({ cls := "FloodDiary$Pages", name := "change", desc := "(III)V" } : Jvm.MethodName)) ∈ TB := TB_of 337 (by decide +kernel) rfl
theorem k_338 : (Jvm.Cond.instanceMethod ({ cls := "FloodDiary$Pages", name := "change", desc := "(III)V" } : Jvm.MethodName)) ∈ TB := TB_of 338 (by decide +kernel) rfl
theorem k_339 : (Jvm.Cond.selects "FloodDiary$Pages" ({ cls := "FloodDiary$Pages", name := "change", desc := "(III)V" } : Jvm.MethodName) ({ cls := "FloodDiary$Pages", name := "change", desc := "(III)V" } : Jvm.MethodName)) ∈ TB := TB_of 339 (by decide +kernel) rfl
theorem k_340 : (Jvm.Cond.code ({ cls := "FloodDiary$Pages", name := "change", desc := "(III)V" } : Jvm.MethodName) prog_6_method_11_code (4 : Nat) (Option.none : Option FieldType)) ∈ TB := TB_of 340 (by decide +kernel) rfl
theorem k_341 : (Jvm.Cond.methodLink "FloodDiary$State" (92 : Nat) ({ cls := "FloodDiary$Pages", name := "valueInHand", desc := "(I)I" } : Jvm.MethodName)) ∈ TB := TB_of 341 (by decide +kernel) rfl
theorem k_342 : (Jvm.Cond.instanceMethod ({ cls := "FloodDiary$Pages", name := "valueInHand", desc := "(I)I" } : Jvm.MethodName)) ∈ TB := TB_of 342 (by decide +kernel) rfl
theorem k_343 : (Jvm.Cond.selects "FloodDiary$Pages" ({ cls := "FloodDiary$Pages", name := "valueInHand", desc := "(I)I" } : Jvm.MethodName) ({ cls := "FloodDiary$Pages", name := "valueInHand", desc := "(I)I" } : Jvm.MethodName)) ∈ TB := TB_of 343 (by decide +kernel) rfl
theorem k_344 : (Jvm.Cond.code ({ cls := "FloodDiary$Pages", name := "valueInHand", desc := "(I)I" } : Jvm.MethodName) prog_6_method_8_code (2 : Nat) (Option.some FieldType.int)) ∈ TB := TB_of 344 (by decide +kernel) rfl
theorem k_345 : (Jvm.Cond.methodLink "FloodDiary$State" (95 : Nat) ({ cls := "FloodDiary$State", name := "enterOnPage", desc := "(IIIIII)V" } : Jvm.MethodName)) ∈ TB := TB_of 345 (by decide +kernel) rfl
theorem k_347 : (Jvm.Cond.instanceMethod ({ cls := "FloodDiary$State", name := "enterOnPage", desc := "(IIIIII)V" } : Jvm.MethodName)) ∈ TB := TB_of 347 (by decide +kernel) rfl
theorem k_348 : (Jvm.Cond.code ({ cls := "FloodDiary$State", name := "enterOnPage", desc := "(IIIIII)V" } : Jvm.MethodName) prog_8_method_17_code (8 : Nat) (Option.none : Option FieldType)) ∈ TB := TB_of 348 (by decide +kernel) rfl
theorem k_349 : (Jvm.Cond.methodLink "FloodDiary$State" (177 : Nat) ({ cls := "FloodDiary$Diary", name := "tellPage", desc := "(IIIII)V" } : Jvm.MethodName)) ∈ TB := TB_of 349 (by decide +kernel) rfl
theorem k_350 : (Jvm.Cond.instanceMethod ({ cls := "FloodDiary$Diary", name := "tellPage", desc := "(IIIII)V" } : Jvm.MethodName)) ∈ TB := TB_of 350 (by decide +kernel) rfl
theorem k_351 : (Jvm.Cond.selects "FloodDiary$Diary" ({ cls := "FloodDiary$Diary", name := "tellPage", desc := "(IIIII)V" } : Jvm.MethodName) ({ cls := "FloodDiary$Diary", name := "tellPage", desc := "(IIIII)V" } : Jvm.MethodName)) ∈ TB := TB_of 351 (by decide +kernel) rfl
theorem k_352 : (Jvm.Cond.code ({ cls := "FloodDiary$Diary", name := "tellPage", desc := "(IIIII)V" } : Jvm.MethodName) prog_2_method_6_code (6 : Nat) (Option.none : Option FieldType)) ∈ TB := TB_of 352 (by decide +kernel) rfl
theorem k_353 : (Jvm.Cond.methodLink "FloodDiary$Diary" (46 : Nat) ({ cls := "FloodDiary$Diary", name := "has", desc := "(I)Z" } : Jvm.MethodName)) ∈ TB := TB_of 353 (by decide +kernel) rfl
theorem k_354 : (Jvm.Cond.instanceMethod ({ cls := "FloodDiary$Diary", name := "has", desc := "(I)Z" } : Jvm.MethodName)) ∈ TB := TB_of 354 (by decide +kernel) rfl
theorem k_355 : (Jvm.Cond.selects "FloodDiary$Diary" ({ cls := "FloodDiary$Diary", name := "has", desc := "(I)Z" } : Jvm.MethodName) ({ cls := "FloodDiary$Diary", name := "has", desc := "(I)Z" } : Jvm.MethodName)) ∈ TB := TB_of 355 (by decide +kernel) rfl
theorem k_356 : (Jvm.Cond.code ({ cls := "FloodDiary$Diary", name := "has", desc := "(I)Z" } : Jvm.MethodName) prog_2_method_3_code (2 : Nat) (Option.some FieldType.boolean)) ∈ TB := TB_of 356 (by decide +kernel) rfl
theorem k_357 : (Jvm.Cond.methodLink "FloodDiary$State" (180 : Nat) ({ cls := "FloodDiary$Pages", name := "change", desc := "(III)V" } : Jvm.MethodName)) ∈ TB := TB_of 357 (by decide +kernel) rfl
theorem k_359 : (Jvm.Cond.instanceMethod ({ cls := "FloodDiary", name := "finish", desc := "(I)I" } : Jvm.MethodName)) ∈ TB := TB_of 359 (by decide +kernel) rfl
theorem k_360 : (Jvm.Cond.selects "FloodDiary" ({ cls := "FloodDiary", name := "finish", desc := "(I)I" } : Jvm.MethodName) ({ cls := "FloodDiary", name := "finish", desc := "(I)I" } : Jvm.MethodName)) ∈ TB := TB_of 360 (by decide +kernel) rfl
theorem k_361 : (Jvm.Cond.code ({ cls := "FloodDiary", name := "finish", desc := "(I)I" } : Jvm.MethodName) prog_1_method_4_code (2 : Nat) (Option.some FieldType.int)) ∈ TB := TB_of 361 (by decide +kernel) rfl
theorem k_362 : (Jvm.Cond.methodLink "FloodDiary" (63 : Nat) ({ cls := "FloodDiary$State", name := "finishWork", desc := "(I)I" } : Jvm.MethodName)) ∈ TB := TB_of 362 (by decide +kernel) rfl
theorem k_363 : (Jvm.Cond.instanceMethod ({ cls := "FloodDiary$State", name := "finishWork", desc := "(I)I" } : Jvm.MethodName)) ∈ TB := TB_of 363 (by decide +kernel) rfl
theorem k_364 : (Jvm.Cond.selects "FloodDiary$State" ({ cls := "FloodDiary$State", name := "finishWork", desc := "(I)I" } : Jvm.MethodName) ({ cls := "FloodDiary$State", name := "finishWork", desc := "(I)I" } : Jvm.MethodName)) ∈ TB := TB_of 364 (by decide +kernel) rfl
theorem k_365 : (Jvm.Cond.code ({ cls := "FloodDiary$State", name := "finishWork", desc := "(I)I" } : Jvm.MethodName) prog_8_method_5_code (3 : Nat) (Option.some FieldType.int)) ∈ TB := TB_of 365 (by decide +kernel) rfl
theorem k_366 : (Jvm.Cond.methodLink "FloodDiary$State" (99 : Nat) ({ cls := "FloodDiary$Diary", name := "saveUpTo", desc := "(I)V" } : Jvm.MethodName)) ∈ TB := TB_of 366 (by decide +kernel) rfl
theorem k_367 : (Jvm.Cond.instanceMethod ({ cls := "FloodDiary$Diary", name := "saveUpTo", desc := "(I)V" } : Jvm.MethodName)) ∈ TB := TB_of 367 (by decide +kernel) rfl
theorem k_368 : (Jvm.Cond.selects "FloodDiary$Diary" ({ cls := "FloodDiary$Diary", name := "saveUpTo", desc := "(I)V" } : Jvm.MethodName) ({ cls := "FloodDiary$Diary", name := "saveUpTo", desc := "(I)V" } : Jvm.MethodName)) ∈ TB := TB_of 368 (by decide +kernel) rfl
theorem k_369 : (Jvm.Cond.code ({ cls := "FloodDiary$Diary", name := "saveUpTo", desc := "(I)V" } : Jvm.MethodName) prog_2_method_7_code (2 : Nat) (Option.none : Option FieldType)) ∈ TB := TB_of 369 (by decide +kernel) rfl
theorem k_370 : (Jvm.Cond.methodLink "FloodDiary$Diary" (50 : Nat) ({ cls := "java/lang/Math", name := "max", desc := "(II)I" } : Jvm.MethodName)) ∈ TB := TB_of 370 (by decide +kernel) rfl
theorem k_371 : (Jvm.Cond.static ({ cls := "java/lang/Math", name := "max", desc := "(II)I" } : Jvm.MethodName)) ∈ TB := TB_of 371 (by decide +kernel) rfl
theorem k_372 : (Jvm.Cond.code ({ cls := "java/lang/Math", name := "max", desc := "(II)I" } : Jvm.MethodName) prog_12_method_65_code (2 : Nat) (Option.some FieldType.int)) ∈ TB := TB_of 372 (by decide +kernel) rfl
theorem k_374 : (Jvm.Cond.instanceMethod ({ cls := "FloodDiary", name := "tea\x72", desc := "(I)I" } : Jvm.MethodName)) ∈ TB := TB_of 374 (by decide +kernel) rfl
theorem k_375 : (Jvm.Cond.selects "FloodDiary" ({ cls := "FloodDiary", name := "tea\x72", desc := "(I)I" } : Jvm.MethodName) ({ cls := "FloodDiary", name := "tea\x72", desc := "(I)I" } : Jvm.MethodName)) ∈ TB := TB_of 375 (by decide +kernel) rfl
theorem k_376 : (Jvm.Cond.code ({ cls := "FloodDiary", name := "tea\x72", desc := "(I)I" } : Jvm.MethodName) prog_1_method_5_code (2 : Nat) (Option.some FieldType.int)) ∈ TB := TB_of 376 (by decide +kernel) rfl
theorem k_377 : (Jvm.Cond.methodLink "FloodDiary" (66 : Nat) ({ cls := "FloodDiary$State", name := "tearWork", desc := "(I)I" } : Jvm.MethodName)) ∈ TB := TB_of 377 (by decide +kernel) rfl
theorem k_378 : (Jvm.Cond.instanceMethod ({ cls := "FloodDiary$State", name := "tearWork", desc := "(I)I" } : Jvm.MethodName)) ∈ TB := TB_of 378 (by decide +kernel) rfl
theorem k_379 : (Jvm.Cond.selects "FloodDiary$State" ({ cls := "FloodDiary$State", name := "tearWork", desc := "(I)I" } : Jvm.MethodName) ({ cls := "FloodDiary$State", name := "tearWork", desc := "(I)I" } : Jvm.MethodName)) ∈ TB := TB_of 379 (by decide +kernel) rfl
theorem k_380 : (Jvm.Cond.code ({ cls := "FloodDiary$State", name := "tearWork", desc := "(I)I" } : Jvm.MethodName) prog_8_method_6_code (4 : Nat) (Option.some FieldType.int)) ∈ TB := TB_of 380 (by decide +kernel) rfl
theorem k_381 : (Jvm.Cond.methodLink "FloodDiary$State" (102 : Nat) ({ cls := "FloodDiary$State", name := "stepsToTea\x72", desc := "(I)I" } : Jvm.MethodName)) ∈ TB := TB_of 381 (by decide +kernel) rfl
theorem k_383 : (Jvm.Cond.instanceMethod ({ cls := "FloodDiary$State", name := "stepsToTea\x72", desc := "(I)I" } : Jvm.MethodName)) ∈ TB := TB_of 383 (by decide +kernel) rfl
theorem k_384 : (Jvm.Cond.code ({ cls := "FloodDiary$State", name := "stepsToTea\x72", desc := "(I)I" } : Jvm.MethodName) prog_8_method_19_code (4 : Nat) (Option.some FieldType.int)) ∈ TB := TB_of 384 (by decide +kernel) rfl
theorem k_385 : (Jvm.Cond.methodLink "FloodDiary$State" (184 : Nat) ({ cls := "FloodDiary$Works", name := "goOnOf", desc := "(I)I" } : Jvm.MethodName)) ∈ TB := TB_of 385 (by decide +kernel) rfl
theorem k_386 : (Jvm.Cond.instanceMethod ({ cls := "FloodDiary$Works", name := "goOnOf", desc := "(I)I" } : Jvm.MethodName)) ∈ TB := TB_of 386 (by decide +kernel) rfl
theorem k_387 : (Jvm.Cond.selects "FloodDiary$Works" ({ cls := "FloodDiary$Works", name := "goOnOf", desc := "(I)I" } : Jvm.MethodName) ({ cls := "FloodDiary$Works", name := "goOnOf", desc := "(I)I" } : Jvm.MethodName)) ∈ TB := TB_of 387 (by decide +kernel) rfl
theorem k_388 : (Jvm.Cond.code ({ cls := "FloodDiary$Works", name := "goOnOf", desc := "(I)I" } : Jvm.MethodName) prog_9_method_7_code (2 : Nat) (Option.some FieldType.int)) ∈ TB := TB_of 388 (by decide +kernel) rfl
theorem k_389 : (Jvm.Cond.methodLink "FloodDiary$State" (187 : Nat) ({ cls := "FloodDiary$Diary", name := "kindOf", desc := "(I)I" } : Jvm.MethodName)) ∈ TB := TB_of 389 (by decide +kernel) rfl
theorem k_390 : (Jvm.Cond.instanceMethod ({ cls := "FloodDiary$Diary", name := "kindOf", desc := "(I)I" } : Jvm.MethodName)) ∈ TB := TB_of 390 (by decide +kernel) rfl
theorem k_391 : (Jvm.Cond.selects "FloodDiary$Diary" ({ cls := "FloodDiary$Diary", name := "kindOf", desc := "(I)I" } : Jvm.MethodName) ({ cls := "FloodDiary$Diary", name := "kindOf", desc := "(I)I" } : Jvm.MethodName)) ∈ TB := TB_of 391 (by decide +kernel) rfl
theorem k_392 : (Jvm.Cond.code ({ cls := "FloodDiary$Diary", name := "kindOf", desc := "(I)I" } : Jvm.MethodName) prog_2_method_9_code (2 : Nat) (Option.some FieldType.int)) ∈ TB := TB_of 392 (by decide +kernel) rfl
theorem k_393 : (Jvm.Cond.methodLink "FloodDiary$State" (196 : Nat) ({ cls := "FloodDiary$Diary", name := "earlierOf", desc := "(I)I" } : Jvm.MethodName)) ∈ TB := TB_of 393 (by decide +kernel) rfl
theorem k_394 : (Jvm.Cond.instanceMethod ({ cls := "FloodDiary$Diary", name := "earlierOf", desc := "(I)I" } : Jvm.MethodName)) ∈ TB := TB_of 394 (by decide +kernel) rfl
theorem k_395 : (Jvm.Cond.selects "FloodDiary$Diary" ({ cls := "FloodDiary$Diary", name := "earlierOf", desc := "(I)I" } : Jvm.MethodName) ({ cls := "FloodDiary$Diary", name := "earlierOf", desc := "(I)I" } : Jvm.MethodName)) ∈ TB := TB_of 395 (by decide +kernel) rfl
theorem k_396 : (Jvm.Cond.code ({ cls := "FloodDiary$Diary", name := "earlierOf", desc := "(I)I" } : Jvm.MethodName) prog_2_method_11_code (2 : Nat) (Option.some FieldType.int)) ∈ TB := TB_of 396 (by decide +kernel) rfl
theorem k_397 : (Jvm.Cond.methodLink "FloodDiary$State" (106 : Nat) ({ cls := "FloodDiary$State", name := "stepBack", desc := "(I)V" } : Jvm.MethodName)) ∈ TB := TB_of 397 (by decide +kernel) rfl
theorem k_399 : (Jvm.Cond.instanceMethod ({ cls := "FloodDiary$State", name := "stepBack", desc := "(I)V" } : Jvm.MethodName)) ∈ TB := TB_of 399 (by decide +kernel) rfl
theorem k_400 : (Jvm.Cond.code ({ cls := "FloodDiary$State", name := "stepBack", desc := "(I)V" } : Jvm.MethodName) prog_8_method_18_code (3 : Nat) (Option.none : Option FieldType)) ∈ TB := TB_of 400 (by decide +kernel) rfl
theorem k_401 : (Jvm.Cond.methodLink "FloodDiary$State" (190 : Nat) ({ cls := "FloodDiary$Diary", name := "pageOf", desc := "(I)I" } : Jvm.MethodName)) ∈ TB := TB_of 401 (by decide +kernel) rfl
theorem k_402 : (Jvm.Cond.instanceMethod ({ cls := "FloodDiary$Diary", name := "pageOf", desc := "(I)I" } : Jvm.MethodName)) ∈ TB := TB_of 402 (by decide +kernel) rfl
theorem k_403 : (Jvm.Cond.selects "FloodDiary$Diary" ({ cls := "FloodDiary$Diary", name := "pageOf", desc := "(I)I" } : Jvm.MethodName) ({ cls := "FloodDiary$Diary", name := "pageOf", desc := "(I)I" } : Jvm.MethodName)) ∈ TB := TB_of 403 (by decide +kernel) rfl
theorem k_404 : (Jvm.Cond.code ({ cls := "FloodDiary$Diary", name := "pageOf", desc := "(I)I" } : Jvm.MethodName) prog_2_method_12_code (2 : Nat) (Option.some FieldType.int)) ∈ TB := TB_of 404 (by decide +kernel) rfl
theorem k_405 : (Jvm.Cond.methodLink "FloodDiary$State" (193 : Nat) ({ cls := "FloodDiary$Diary", name := "beforeOf", desc := "(I)I" } : Jvm.MethodName)) ∈ TB := TB_of 405 (by decide +kernel) rfl
theorem k_406 : (Jvm.Cond.instanceMethod ({ cls := "FloodDiary$Diary", name := "beforeOf", desc := "(I)I" } : Jvm.MethodName)) ∈ TB := TB_of 406 (by decide +kernel) rfl
theorem k_407 : (Jvm.Cond.selects "FloodDiary$Diary" ({ cls := "FloodDiary$Diary", name := "beforeOf", desc := "(I)I" } : Jvm.MethodName) ({ cls := "FloodDiary$Diary", name := "beforeOf", desc := "(I)I" } : Jvm.MethodName)) ∈ TB := TB_of 407 (by decide +kernel) rfl
theorem k_408 : (Jvm.Cond.code ({ cls := "FloodDiary$Diary", name := "beforeOf", desc := "(I)I" } : Jvm.MethodName) prog_2_method_13_code (2 : Nat) (Option.some FieldType.int)) ∈ TB := TB_of 408 (by decide +kernel) rfl
theorem k_410 : (Jvm.Cond.instanceMethod ({ cls := "FloodDiary", name := "save", desc := "(I)I" } : Jvm.MethodName)) ∈ TB := TB_of 410 (by decide +kernel) rfl
theorem k_411 : (Jvm.Cond.selects "FloodDiary" ({ cls := "FloodDiary", name := "save", desc := "(I)I" } : Jvm.MethodName) ({ cls := "FloodDiary", name := "save", desc := "(I)I" } : Jvm.MethodName)) ∈ TB := TB_of 411 (by decide +kernel) rfl
theorem k_412 : (Jvm.Cond.code ({ cls := "FloodDiary", name := "save", desc := "(I)I" } : Jvm.MethodName) prog_1_method_6_code (2 : Nat) (Option.some FieldType.int)) ∈ TB := TB_of 412 (by decide +kernel) rfl
theorem k_413 : (Jvm.Cond.methodLink "FloodDiary" (69 : Nat) ({ cls := "FloodDiary$State", name := "saveEntries", desc := "(I)I" } : Jvm.MethodName)) ∈ TB := TB_of 413 (by decide +kernel) rfl
theorem k_414 : (Jvm.Cond.instanceMethod ({ cls := "FloodDiary$State", name := "saveEntries", desc := "(I)I" } : Jvm.MethodName)) ∈ TB := TB_of 414 (by decide +kernel) rfl
theorem k_415 : (Jvm.Cond.selects "FloodDiary$State" ({ cls := "FloodDiary$State", name := "saveEntries", desc := "(I)I" } : Jvm.MethodName) ({ cls := "FloodDiary$State", name := "saveEntries", desc := "(I)I" } : Jvm.MethodName)) ∈ TB := TB_of 415 (by decide +kernel) rfl
theorem k_416 : (Jvm.Cond.code ({ cls := "FloodDiary$State", name := "saveEntries", desc := "(I)I" } : Jvm.MethodName) prog_8_method_7_code (2 : Nat) (Option.some FieldType.int)) ∈ TB := TB_of 416 (by decide +kernel) rfl
theorem k_417 : (Jvm.Cond.methodLink "FloodDiary$State" (109 : Nat) ({ cls := "FloodDiary$Diary", name := "has", desc := "(I)Z" } : Jvm.MethodName)) ∈ TB := TB_of 417 (by decide +kernel) rfl
theorem k_419 : (Jvm.Cond.instanceMethod ({ cls := "FloodDiary", name := "putAway", desc := "(I)I" } : Jvm.MethodName)) ∈ TB := TB_of 419 (by decide +kernel) rfl
theorem k_420 : (Jvm.Cond.selects "FloodDiary" ({ cls := "FloodDiary", name := "putAway", desc := "(I)I" } : Jvm.MethodName) ({ cls := "FloodDiary", name := "putAway", desc := "(I)I" } : Jvm.MethodName)) ∈ TB := TB_of 420 (by decide +kernel) rfl
theorem k_421 : (Jvm.Cond.code ({ cls := "FloodDiary", name := "putAway", desc := "(I)I" } : Jvm.MethodName) prog_1_method_7_code (2 : Nat) (Option.some FieldType.int)) ∈ TB := TB_of 421 (by decide +kernel) rfl
theorem k_422 : (Jvm.Cond.methodLink "FloodDiary" (72 : Nat) ({ cls := "FloodDiary$State", name := "shelvePage", desc := "(I)I" } : Jvm.MethodName)) ∈ TB := TB_of 422 (by decide +kernel) rfl
theorem k_423 : (Jvm.Cond.instanceMethod ({ cls := "FloodDiary$State", name := "shelvePage", desc := "(I)I" } : Jvm.MethodName)) ∈ TB := TB_of 423 (by decide +kernel) rfl
theorem k_424 : (Jvm.Cond.selects "FloodDiary$State" ({ cls := "FloodDiary$State", name := "shelvePage", desc := "(I)I" } : Jvm.MethodName) ({ cls := "FloodDiary$State", name := "shelvePage", desc := "(I)I" } : Jvm.MethodName)) ∈ TB := TB_of 424 (by decide +kernel) rfl
theorem k_425 : (Jvm.Cond.code ({ cls := "FloodDiary$State", name := "shelvePage", desc := "(I)I" } : Jvm.MethodName) prog_8_method_8_code (2 : Nat) (Option.some FieldType.int)) ∈ TB := TB_of 425 (by decide +kernel) rfl
theorem k_426 : (Jvm.Cond.methodLink "FloodDiary$State" (113 : Nat) ({ cls := "FloodDiary$Pages", name := "isInHand", desc := "(I)Z" } : Jvm.MethodName)) ∈ TB := TB_of 426 (by decide +kernel) rfl
theorem k_427 : (Jvm.Cond.methodLink "FloodDiary$State" (116 : Nat) ({ cls := "FloodDiary$Pages", name := "markInHand", desc := "(I)I" } : Jvm.MethodName)) ∈ TB := TB_of 427 (by decide +kernel) rfl
theorem k_428 : (Jvm.Cond.instanceMethod ({ cls := "FloodDiary$Pages", name := "markInHand", desc := "(I)I" } : Jvm.MethodName)) ∈ TB := TB_of 428 (by decide +kernel) rfl
theorem k_429 : (Jvm.Cond.selects "FloodDiary$Pages" ({ cls := "FloodDiary$Pages", name := "markInHand", desc := "(I)I" } : Jvm.MethodName) ({ cls := "FloodDiary$Pages", name := "markInHand", desc := "(I)I" } : Jvm.MethodName)) ∈ TB := TB_of 429 (by decide +kernel) rfl
theorem k_430 : (Jvm.Cond.code ({ cls := "FloodDiary$Pages", name := "markInHand", desc := "(I)I" } : Jvm.MethodName) prog_6_method_9_code (2 : Nat) (Option.some FieldType.int)) ∈ TB := TB_of 430 (by decide +kernel) rfl
theorem k_431 : (Jvm.Cond.methodLink "FloodDiary$State" (119 : Nat) ({ cls := "FloodDiary$Pages", name := "shelve", desc := "(I)V" } : Jvm.MethodName)) ∈ TB := TB_of 431 (by decide +kernel) rfl
theorem k_432 : (Jvm.Cond.instanceMethod ({ cls := "FloodDiary$Pages", name := "shelve", desc := "(I)V" } : Jvm.MethodName)) ∈ TB := TB_of 432 (by decide +kernel) rfl
theorem k_433 : (Jvm.Cond.selects "FloodDiary$Pages" ({ cls := "FloodDiary$Pages", name := "shelve", desc := "(I)V" } : Jvm.MethodName) ({ cls := "FloodDiary$Pages", name := "shelve", desc := "(I)V" } : Jvm.MethodName)) ∈ TB := TB_of 433 (by decide +kernel) rfl
theorem k_434 : (Jvm.Cond.code ({ cls := "FloodDiary$Pages", name := "shelve", desc := "(I)V" } : Jvm.MethodName) prog_6_method_12_code (2 : Nat) (Option.none : Option FieldType)) ∈ TB := TB_of 434 (by decide +kernel) rfl
theorem k_436 : (Jvm.Cond.instanceMethod ({ cls := "FloodDiary", name := "flood", desc := "()I" } : Jvm.MethodName)) ∈ TB := TB_of 436 (by decide +kernel) rfl
theorem k_437 : (Jvm.Cond.selects "FloodDiary" ({ cls := "FloodDiary", name := "flood", desc := "()I" } : Jvm.MethodName) ({ cls := "FloodDiary", name := "flood", desc := "()I" } : Jvm.MethodName)) ∈ TB := TB_of 437 (by decide +kernel) rfl
theorem k_438 : (Jvm.Cond.code ({ cls := "FloodDiary", name := "flood", desc := "()I" } : Jvm.MethodName) prog_1_method_8_code (1 : Nat) (Option.some FieldType.int)) ∈ TB := TB_of 438 (by decide +kernel) rfl
theorem k_439 : (Jvm.Cond.methodLink "FloodDiary" (75 : Nat) ({ cls := "FloodDiary$State", name := "takeFlood", desc := "()I" } : Jvm.MethodName)) ∈ TB := TB_of 439 (by decide +kernel) rfl
theorem k_440 : (Jvm.Cond.instanceMethod ({ cls := "FloodDiary$State", name := "takeFlood", desc := "()I" } : Jvm.MethodName)) ∈ TB := TB_of 440 (by decide +kernel) rfl
theorem k_441 : (Jvm.Cond.selects "FloodDiary$State" ({ cls := "FloodDiary$State", name := "takeFlood", desc := "()I" } : Jvm.MethodName) ({ cls := "FloodDiary$State", name := "takeFlood", desc := "()I" } : Jvm.MethodName)) ∈ TB := TB_of 441 (by decide +kernel) rfl
theorem k_442 : (Jvm.Cond.code ({ cls := "FloodDiary$State", name := "takeFlood", desc := "()I" } : Jvm.MethodName) prog_8_method_9_code (2 : Nat) (Option.some FieldType.int)) ∈ TB := TB_of 442 (by decide +kernel) rfl
theorem k_443 : (Jvm.Cond.methodLink "FloodDiary$State" (122 : Nat) ({ cls := "FloodDiary$Pages", name := "leaveHand", desc := "()V" } : Jvm.MethodName)) ∈ TB := TB_of 443 (by decide +kernel) rfl
theorem k_444 : (Jvm.Cond.instanceMethod ({ cls := "FloodDiary$Pages", name := "leaveHand", desc := "()V" } : Jvm.MethodName)) ∈ TB := TB_of 444 (by decide +kernel) rfl
theorem k_445 : (Jvm.Cond.selects "FloodDiary$Pages" ({ cls := "FloodDiary$Pages", name := "leaveHand", desc := "()V" } : Jvm.MethodName) ({ cls := "FloodDiary$Pages", name := "leaveHand", desc := "()V" } : Jvm.MethodName)) ∈ TB := TB_of 445 (by decide +kernel) rfl
theorem k_446 : (Jvm.Cond.code ({ cls := "FloodDiary$Pages", name := "leaveHand", desc := "()V" } : Jvm.MethodName) prog_6_method_13_code (1 : Nat) (Option.none : Option FieldType)) ∈ TB := TB_of 446 (by decide +kernel) rfl
theorem k_447 : (Jvm.Cond.methodLink "FloodDiary$State" (125 : Nat) ({ cls := "FloodDiary$State", name := "loseEntries", desc := "(I)V" } : Jvm.MethodName)) ∈ TB := TB_of 447 (by decide +kernel) rfl
theorem k_449 : (Jvm.Cond.instanceMethod ({ cls := "FloodDiary$State", name := "loseEntries", desc := "(I)V" } : Jvm.MethodName)) ∈ TB := TB_of 449 (by decide +kernel) rfl
theorem k_450 : (Jvm.Cond.code ({ cls := "FloodDiary$State", name := "loseEntries", desc := "(I)V" } : Jvm.MethodName) prog_8_method_20_code (2 : Nat) (Option.none : Option FieldType)) ∈ TB := TB_of 450 (by decide +kernel) rfl
theorem k_451 : (Jvm.Cond.methodLink "FloodDiary$State" (199 : Nat) ({ cls := "FloodDiary$Diary", name := "lose", desc := "(I)V" } : Jvm.MethodName)) ∈ TB := TB_of 451 (by decide +kernel) rfl
theorem k_452 : (Jvm.Cond.instanceMethod ({ cls := "FloodDiary$Diary", name := "lose", desc := "(I)V" } : Jvm.MethodName)) ∈ TB := TB_of 452 (by decide +kernel) rfl
theorem k_453 : (Jvm.Cond.selects "FloodDiary$Diary" ({ cls := "FloodDiary$Diary", name := "lose", desc := "(I)V" } : Jvm.MethodName) ({ cls := "FloodDiary$Diary", name := "lose", desc := "(I)V" } : Jvm.MethodName)) ∈ TB := TB_of 453 (by decide +kernel) rfl
theorem k_454 : (Jvm.Cond.code ({ cls := "FloodDiary$Diary", name := "lose", desc := "(I)V" } : Jvm.MethodName) prog_2_method_8_code (2 : Nat) (Option.none : Option FieldType)) ∈ TB := TB_of 454 (by decide +kernel) rfl
theorem k_455 : (Jvm.Cond.methodLink "FloodDiary$Diary" (56 : Nat) ({ cls := "java/lang/Math", name := "min", desc := "(II)I" } : Jvm.MethodName)) ∈ TB := TB_of 455 (by decide +kernel) rfl
theorem k_456 : (Jvm.Cond.static ({ cls := "java/lang/Math", name := "min", desc := "(II)I" } : Jvm.MethodName)) ∈ TB := TB_of 456 (by decide +kernel) rfl
theorem k_457 : (Jvm.Cond.code ({ cls := "java/lang/Math", name := "min", desc := "(II)I" } : Jvm.MethodName) prog_12_method_69_code (2 : Nat) (Option.some FieldType.int)) ∈ TB := TB_of 457 (by decide +kernel) rfl
theorem k_458 : (Jvm.Cond.methodLink "FloodDiary$State" (202 : Nat) ({ cls := "FloodDiary$Works", name := "readAnew", desc := "(LFloodDiary$Diary;)V" } : Jvm.MethodName)) ∈ TB := TB_of 458 (by decide +kernel) rfl
theorem k_459 : (Jvm.Cond.instanceMethod ({ cls := "FloodDiary$Works", name := "readAnew", desc := "(LFloodDiary$Diary;)V" } : Jvm.MethodName)) ∈ TB := TB_of 459 (by decide +kernel) rfl
theorem k_460 : (Jvm.Cond.selects "FloodDiary$Works" ({ cls := "FloodDiary$Works", name := "readAnew", desc := "(LFloodDiary$Diary;)V" } : Jvm.MethodName) ({ cls := "FloodDiary$Works", name := "readAnew", desc := "(LFloodDiary$Diary;)V" } : Jvm.MethodName)) ∈ TB := TB_of 460 (by decide +kernel) rfl
theorem k_461 : (Jvm.Cond.code ({ cls := "FloodDiary$Works", name := "readAnew", desc := "(LFloodDiary$Diary;)V" } : Jvm.MethodName) prog_9_method_12_code (3 : Nat) (Option.none : Option FieldType)) ∈ TB := TB_of 461 (by decide +kernel) rfl
theorem k_462 : (Jvm.Cond.methodLink "FloodDiary$Works" (58 : Nat) ({ cls := "FloodDiary$Diary", name := "kindOf", desc := "(I)I" } : Jvm.MethodName)) ∈ TB := TB_of 462 (by decide +kernel) rfl
theorem k_463 : (Jvm.Cond.methodLink "FloodDiary$Works" (61 : Nat) ({ cls := "FloodDiary$Diary", name := "workOf", desc := "(I)I" } : Jvm.MethodName)) ∈ TB := TB_of 463 (by decide +kernel) rfl
theorem k_464 : (Jvm.Cond.instanceMethod ({ cls := "FloodDiary$Diary", name := "workOf", desc := "(I)I" } : Jvm.MethodName)) ∈ TB := TB_of 464 (by decide +kernel) rfl
theorem k_465 : (Jvm.Cond.selects "FloodDiary$Diary" ({ cls := "FloodDiary$Diary", name := "workOf", desc := "(I)I" } : Jvm.MethodName) ({ cls := "FloodDiary$Diary", name := "workOf", desc := "(I)I" } : Jvm.MethodName)) ∈ TB := TB_of 465 (by decide +kernel) rfl
theorem k_466 : (Jvm.Cond.code ({ cls := "FloodDiary$Diary", name := "workOf", desc := "(I)I" } : Jvm.MethodName) prog_2_method_10_code (2 : Nat) (Option.some FieldType.int)) ∈ TB := TB_of 466 (by decide +kernel) rfl
theorem k_467 : (Jvm.Cond.methodLink "FloodDiary$Works" (64 : Nat) ({ cls := "FloodDiary$Diary", name := "pageOf", desc := "(I)I" } : Jvm.MethodName)) ∈ TB := TB_of 467 (by decide +kernel) rfl
theorem k_468 : (Jvm.Cond.methodLink "FloodDiary$Works" (67 : Nat) ({ cls := "FloodDiary$Diary", name := "nextOf", desc := "(I)I" } : Jvm.MethodName)) ∈ TB := TB_of 468 (by decide +kernel) rfl
theorem k_469 : (Jvm.Cond.instanceMethod ({ cls := "FloodDiary$Diary", name := "nextOf", desc := "(I)I" } : Jvm.MethodName)) ∈ TB := TB_of 469 (by decide +kernel) rfl
theorem k_470 : (Jvm.Cond.selects "FloodDiary$Diary" ({ cls := "FloodDiary$Diary", name := "nextOf", desc := "(I)I" } : Jvm.MethodName) ({ cls := "FloodDiary$Diary", name := "nextOf", desc := "(I)I" } : Jvm.MethodName)) ∈ TB := TB_of 470 (by decide +kernel) rfl
theorem k_471 : (Jvm.Cond.code ({ cls := "FloodDiary$Diary", name := "nextOf", desc := "(I)I" } : Jvm.MethodName) prog_2_method_15_code (2 : Nat) (Option.some FieldType.int)) ∈ TB := TB_of 471 (by decide +kernel) rfl
theorem k_472 : (Jvm.Cond.methodLink "FloodDiary$Works" (70 : Nat) ({ cls := "FloodDiary$Works", name := "take", desc := "(IIIII)V" } : Jvm.MethodName)) ∈ TB := TB_of 472 (by decide +kernel) rfl
theorem k_474 : (Jvm.Cond.instanceMethod ({ cls := "FloodDiary", name := "blu\x72", desc := "(I)I" } : Jvm.MethodName)) ∈ TB := TB_of 474 (by decide +kernel) rfl
theorem k_475 : (Jvm.Cond.selects "FloodDiary" ({ cls := "FloodDiary", name := "blu\x72", desc := "(I)I" } : Jvm.MethodName) ({ cls := "FloodDiary", name := "blu\x72", desc := "(I)I" } : Jvm.MethodName)) ∈ TB := TB_of 475 (by decide +kernel) rfl
theorem k_476 : (Jvm.Cond.code ({ cls := "FloodDiary", name := "blu\x72", desc := "(I)I" } : Jvm.MethodName) prog_1_method_9_code (2 : Nat) (Option.some FieldType.int)) ∈ TB := TB_of 476 (by decide +kernel) rfl
theorem k_477 : (Jvm.Cond.methodLink "FloodDiary" (78 : Nat) ({ cls := "FloodDiary$State", name := "blurEntries", desc := "(I)I" } : Jvm.MethodName)) ∈ TB := TB_of 477 (by decide +kernel) rfl
theorem k_478 : (Jvm.Cond.instanceMethod ({ cls := "FloodDiary$State", name := "blurEntries", desc := "(I)I" } : Jvm.MethodName)) ∈ TB := TB_of 478 (by decide +kernel) rfl
theorem k_479 : (Jvm.Cond.selects "FloodDiary$State" ({ cls := "FloodDiary$State", name := "blurEntries", desc := "(I)I" } : Jvm.MethodName) ({ cls := "FloodDiary$State", name := "blurEntries", desc := "(I)I" } : Jvm.MethodName)) ∈ TB := TB_of 479 (by decide +kernel) rfl
theorem k_480 : (Jvm.Cond.code ({ cls := "FloodDiary$State", name := "blurEntries", desc := "(I)I" } : Jvm.MethodName) prog_8_method_10_code (3 : Nat) (Option.some FieldType.int)) ∈ TB := TB_of 480 (by decide +kernel) rfl
theorem k_481 : (Jvm.Cond.methodLink "FloodDiary$State" (128 : Nat) ({ cls := "FloodDiary$Pages", name := "highestShelfMark", desc := "()I" } : Jvm.MethodName)) ∈ TB := TB_of 481 (by decide +kernel) rfl
theorem k_482 : (Jvm.Cond.instanceMethod ({ cls := "FloodDiary$Pages", name := "highestShelfMark", desc := "()I" } : Jvm.MethodName)) ∈ TB := TB_of 482 (by decide +kernel) rfl
theorem k_483 : (Jvm.Cond.selects "FloodDiary$Pages" ({ cls := "FloodDiary$Pages", name := "highestShelfMark", desc := "()I" } : Jvm.MethodName) ({ cls := "FloodDiary$Pages", name := "highestShelfMark", desc := "()I" } : Jvm.MethodName)) ∈ TB := TB_of 483 (by decide +kernel) rfl
theorem k_484 : (Jvm.Cond.code ({ cls := "FloodDiary$Pages", name := "highestShelfMark", desc := "()I" } : Jvm.MethodName) prog_6_method_14_code (3 : Nat) (Option.some FieldType.int)) ∈ TB := TB_of 484 (by decide +kernel) rfl
theorem k_485 : (Jvm.Cond.methodLink "FloodDiary$Pages" (48 : Nat) ({ cls := "java/lang/Math", name := "max", desc := "(II)I" } : Jvm.MethodName)) ∈ TB := TB_of 485 (by decide +kernel) rfl
theorem k_487 : (Jvm.Cond.instanceMethod ({ cls := "FloodDiary", name := "mend", desc := "(I)I" } : Jvm.MethodName)) ∈ TB := TB_of 487 (by decide +kernel) rfl
theorem k_488 : (Jvm.Cond.selects "FloodDiary" ({ cls := "FloodDiary", name := "mend", desc := "(I)I" } : Jvm.MethodName) ({ cls := "FloodDiary", name := "mend", desc := "(I)I" } : Jvm.MethodName)) ∈ TB := TB_of 488 (by decide +kernel) rfl
theorem k_489 : (Jvm.Cond.code ({ cls := "FloodDiary", name := "mend", desc := "(I)I" } : Jvm.MethodName) prog_1_method_10_code (2 : Nat) (Option.some FieldType.int)) ∈ TB := TB_of 489 (by decide +kernel) rfl
theorem k_490 : (Jvm.Cond.methodLink "FloodDiary" (81 : Nat) ({ cls := "FloodDiary$State", name := "mendSteps", desc := "(I)I" } : Jvm.MethodName)) ∈ TB := TB_of 490 (by decide +kernel) rfl
theorem k_491 : (Jvm.Cond.instanceMethod ({ cls := "FloodDiary$State", name := "mendSteps", desc := "(I)I" } : Jvm.MethodName)) ∈ TB := TB_of 491 (by decide +kernel) rfl
theorem k_492 : (Jvm.Cond.selects "FloodDiary$State" ({ cls := "FloodDiary$State", name := "mendSteps", desc := "(I)I" } : Jvm.MethodName) ({ cls := "FloodDiary$State", name := "mendSteps", desc := "(I)I" } : Jvm.MethodName)) ∈ TB := TB_of 492 (by decide +kernel) rfl
theorem k_493 : (Jvm.Cond.code ({ cls := "FloodDiary$State", name := "mendSteps", desc := "(I)I" } : Jvm.MethodName) prog_8_method_11_code (3 : Nat) (Option.some FieldType.int)) ∈ TB := TB_of 493 (by decide +kernel) rfl
theorem k_494 : (Jvm.Cond.methodLink "FloodDiary$State" (132 : Nat) ({ cls := "FloodDiary$State", name := "isAnythingLeft", desc := "()Z" } : Jvm.MethodName)) ∈ TB := TB_of 494 (by decide +kernel) rfl
theorem k_496 : (Jvm.Cond.instanceMethod ({ cls := "FloodDiary$State", name := "isAnythingLeft", desc := "()Z" } : Jvm.MethodName)) ∈ TB := TB_of 496 (by decide +kernel) rfl
theorem k_497 : (Jvm.Cond.code ({ cls := "FloodDiary$State", name := "isAnythingLeft", desc := "()Z" } : Jvm.MethodName) prog_8_method_22_code (1 : Nat) (Option.some FieldType.boolean)) ∈ TB := TB_of 497 (by decide +kernel) rfl
theorem k_498 : (Jvm.Cond.methodLink "FloodDiary$State" (135 : Nat) ({ cls := "FloodDiary$State", name := "findAgain", desc := "()Z" } : Jvm.MethodName)) ∈ TB := TB_of 498 (by decide +kernel) rfl
theorem k_500 : (Jvm.Cond.instanceMethod ({ cls := "FloodDiary$State", name := "findAgain", desc := "()Z" } : Jvm.MethodName)) ∈ TB := TB_of 500 (by decide +kernel) rfl
theorem k_501 : (Jvm.Cond.code ({ cls := "FloodDiary$State", name := "findAgain", desc := "()Z" } : Jvm.MethodName) prog_8_method_21_code (1 : Nat) (Option.some FieldType.boolean)) ∈ TB := TB_of 501 (by decide +kernel) rfl
theorem k_503 : (Jvm.Cond.static ({ cls := "FloodDiary", name := "isChange", desc := "(I)Z" } : Jvm.MethodName)) ∈ TB := TB_of 503 (by decide +kernel) rfl
theorem k_504 : (Jvm.Cond.code ({ cls := "FloodDiary", name := "isChange", desc := "(I)Z" } : Jvm.MethodName) prog_1_method_29_code (1 : Nat) (Option.some FieldType.boolean)) ∈ TB := TB_of 504 (by decide +kernel) rfl
theorem k_505 : (Jvm.Cond.methodLink "FloodDiary$State" (141 : Nat) ({ cls := "FloodDiary$Works", name := "nextToTakeBack", desc := "()I" } : Jvm.MethodName)) ∈ TB := TB_of 505 (by decide +kernel) rfl
theorem k_506 : (Jvm.Cond.instanceMethod ({ cls := "FloodDiary$Works", name := "nextToTakeBack", desc := "()I" } : Jvm.MethodName)) ∈ TB := TB_of 506 (by decide +kernel) rfl
theorem k_507 : (Jvm.Cond.selects "FloodDiary$Works" ({ cls := "FloodDiary$Works", name := "nextToTakeBack", desc := "()I" } : Jvm.MethodName) ({ cls := "FloodDiary$Works", name := "nextToTakeBack", desc := "()I" } : Jvm.MethodName)) ∈ TB := TB_of 507 (by decide +kernel) rfl
theorem k_508 : (Jvm.Cond.code ({ cls := "FloodDiary$Works", name := "nextToTakeBack", desc := "()I" } : Jvm.MethodName) prog_9_method_11_code (3 : Nat) (Option.some FieldType.int)) ∈ TB := TB_of 508 (by decide +kernel) rfl
theorem k_509 : (Jvm.Cond.methodLink "FloodDiary$Works" (51 : Nat) ({ cls := "FloodDiary$Works", name := "goOnOf", desc := "(I)I" } : Jvm.MethodName)) ∈ TB := TB_of 509 (by decide +kernel) rfl
theorem k_510 : (Jvm.Cond.methodLink "FloodDiary$State" (138 : Nat) ({ cls := "FloodDiary$State", name := "doAgain", desc := "(I)V" } : Jvm.MethodName)) ∈ TB := TB_of 510 (by decide +kernel) rfl
theorem k_512 : (Jvm.Cond.instanceMethod ({ cls := "FloodDiary$State", name := "doAgain", desc := "(I)V" } : Jvm.MethodName)) ∈ TB := TB_of 512 (by decide +kernel) rfl
theorem k_513 : (Jvm.Cond.code ({ cls := "FloodDiary$State", name := "doAgain", desc := "(I)V" } : Jvm.MethodName) prog_8_method_23_code (3 : Nat) (Option.none : Option FieldType)) ∈ TB := TB_of 513 (by decide +kernel) rfl
theorem k_514 : (Jvm.Cond.methodLink "FloodDiary$State" (208 : Nat) ({ cls := "FloodDiary$Diary", name := "thenOf", desc := "(I)I" } : Jvm.MethodName)) ∈ TB := TB_of 514 (by decide +kernel) rfl
theorem k_515 : (Jvm.Cond.instanceMethod ({ cls := "FloodDiary$Diary", name := "thenOf", desc := "(I)I" } : Jvm.MethodName)) ∈ TB := TB_of 515 (by decide +kernel) rfl
theorem k_516 : (Jvm.Cond.selects "FloodDiary$Diary" ({ cls := "FloodDiary$Diary", name := "thenOf", desc := "(I)I" } : Jvm.MethodName) ({ cls := "FloodDiary$Diary", name := "thenOf", desc := "(I)I" } : Jvm.MethodName)) ∈ TB := TB_of 516 (by decide +kernel) rfl
theorem k_517 : (Jvm.Cond.code ({ cls := "FloodDiary$Diary", name := "thenOf", desc := "(I)I" } : Jvm.MethodName) prog_2_method_14_code (2 : Nat) (Option.some FieldType.int)) ∈ TB := TB_of 517 (by decide +kernel) rfl
theorem k_519 : (Jvm.Cond.instanceMethod ({ cls := "FloodDiary", name := "ofPage", desc := "(II)I" } : Jvm.MethodName)) ∈ TB := TB_of 519 (by decide +kernel) rfl
theorem k_520 : (Jvm.Cond.selects "FloodDiary" ({ cls := "FloodDiary", name := "ofPage", desc := "(II)I" } : Jvm.MethodName) ({ cls := "FloodDiary", name := "ofPage", desc := "(II)I" } : Jvm.MethodName)) ∈ TB := TB_of 520 (by decide +kernel) rfl
theorem k_521 : (Jvm.Cond.code ({ cls := "FloodDiary", name := "ofPage", desc := "(II)I" } : Jvm.MethodName) prog_1_method_11_code (3 : Nat) (Option.some FieldType.int)) ∈ TB := TB_of 521 (by decide +kernel) rfl
theorem k_522 : (Jvm.Cond.methodLink "FloodDiary" (84 : Nat) ({ cls := "FloodDiary$State", name := "aboutPage", desc := "(II)I" } : Jvm.MethodName)) ∈ TB := TB_of 522 (by decide +kernel) rfl
theorem k_523 : (Jvm.Cond.instanceMethod ({ cls := "FloodDiary$State", name := "aboutPage", desc := "(II)I" } : Jvm.MethodName)) ∈ TB := TB_of 523 (by decide +kernel) rfl
theorem k_524 : (Jvm.Cond.selects "FloodDiary$State" ({ cls := "FloodDiary$State", name := "aboutPage", desc := "(II)I" } : Jvm.MethodName) ({ cls := "FloodDiary$State", name := "aboutPage", desc := "(II)I" } : Jvm.MethodName)) ∈ TB := TB_of 524 (by decide +kernel) rfl
theorem k_525 : (Jvm.Cond.code ({ cls := "FloodDiary$State", name := "aboutPage", desc := "(II)I" } : Jvm.MethodName) prog_8_method_14_code (3 : Nat) (Option.some FieldType.int)) ∈ TB := TB_of 525 (by decide +kernel) rfl
theorem k_526 : (Jvm.Cond.methodLink "FloodDiary$State" (147 : Nat) ({ cls := "FloodDiary$Pages", name := "valueOnShelf", desc := "(I)I" } : Jvm.MethodName)) ∈ TB := TB_of 526 (by decide +kernel) rfl
theorem k_527 : (Jvm.Cond.instanceMethod ({ cls := "FloodDiary$Pages", name := "valueOnShelf", desc := "(I)I" } : Jvm.MethodName)) ∈ TB := TB_of 527 (by decide +kernel) rfl
theorem k_528 : (Jvm.Cond.selects "FloodDiary$Pages" ({ cls := "FloodDiary$Pages", name := "valueOnShelf", desc := "(I)I" } : Jvm.MethodName) ({ cls := "FloodDiary$Pages", name := "valueOnShelf", desc := "(I)I" } : Jvm.MethodName)) ∈ TB := TB_of 528 (by decide +kernel) rfl
theorem k_529 : (Jvm.Cond.code ({ cls := "FloodDiary$Pages", name := "valueOnShelf", desc := "(I)I" } : Jvm.MethodName) prog_6_method_6_code (2 : Nat) (Option.some FieldType.int)) ∈ TB := TB_of 529 (by decide +kernel) rfl
theorem k_530 : (Jvm.Cond.methodLink "FloodDiary$State" (150 : Nat) ({ cls := "FloodDiary$Pages", name := "markOnShelf", desc := "(I)I" } : Jvm.MethodName)) ∈ TB := TB_of 530 (by decide +kernel) rfl
theorem k_531 : (Jvm.Cond.instanceMethod ({ cls := "FloodDiary$Pages", name := "markOnShelf", desc := "(I)I" } : Jvm.MethodName)) ∈ TB := TB_of 531 (by decide +kernel) rfl
theorem k_532 : (Jvm.Cond.selects "FloodDiary$Pages" ({ cls := "FloodDiary$Pages", name := "markOnShelf", desc := "(I)I" } : Jvm.MethodName) ({ cls := "FloodDiary$Pages", name := "markOnShelf", desc := "(I)I" } : Jvm.MethodName)) ∈ TB := TB_of 532 (by decide +kernel) rfl
theorem k_533 : (Jvm.Cond.code ({ cls := "FloodDiary$Pages", name := "markOnShelf", desc := "(I)I" } : Jvm.MethodName) prog_6_method_7_code (2 : Nat) (Option.some FieldType.int)) ∈ TB := TB_of 533 (by decide +kernel) rfl
theorem k_535 : (Jvm.Cond.static ({ cls := "FloodDiary", name := "asNumbe\x72", desc := "(Z)I" } : Jvm.MethodName)) ∈ TB := TB_of 535 (by decide +kernel) rfl
theorem k_536 : (Jvm.Cond.code ({ cls := "FloodDiary", name := "asNumbe\x72", desc := "(Z)I" } : Jvm.MethodName) prog_1_method_30_code (1 : Nat) (Option.some FieldType.int)) ∈ TB := TB_of 536 (by decide +kernel) rfl
theorem k_537 : (Jvm.Cond.methodLink "FloodDiary$State" (157 : Nat) ({ cls := "FloodDiary$Pages", name := "isDirty", desc := "(I)Z" } : Jvm.MethodName)) ∈ TB := TB_of 537 (by decide +kernel) rfl
theorem k_538 : (Jvm.Cond.instanceMethod ({ cls := "FloodDiary$Pages", name := "isDirty", desc := "(I)Z" } : Jvm.MethodName)) ∈ TB := TB_of 538 (by decide +kernel) rfl
theorem k_539 : (Jvm.Cond.selects "FloodDiary$Pages" ({ cls := "FloodDiary$Pages", name := "isDirty", desc := "(I)Z" } : Jvm.MethodName) ({ cls := "FloodDiary$Pages", name := "isDirty", desc := "(I)Z" } : Jvm.MethodName)) ∈ TB := TB_of 539 (by decide +kernel) rfl
theorem k_540 : (Jvm.Cond.code ({ cls := "FloodDiary$Pages", name := "isDirty", desc := "(I)Z" } : Jvm.MethodName) prog_6_method_4_code (2 : Nat) (Option.some FieldType.boolean)) ∈ TB := TB_of 540 (by decide +kernel) rfl
theorem k_542 : (Jvm.Cond.instanceMethod ({ cls := "FloodDiary", name := "ofWork", desc := "(II)I" } : Jvm.MethodName)) ∈ TB := TB_of 542 (by decide +kernel) rfl
theorem k_543 : (Jvm.Cond.selects "FloodDiary" ({ cls := "FloodDiary", name := "ofWork", desc := "(II)I" } : Jvm.MethodName) ({ cls := "FloodDiary", name := "ofWork", desc := "(II)I" } : Jvm.MethodName)) ∈ TB := TB_of 543 (by decide +kernel) rfl
theorem k_544 : (Jvm.Cond.code ({ cls := "FloodDiary", name := "ofWork", desc := "(II)I" } : Jvm.MethodName) prog_1_method_12_code (3 : Nat) (Option.some FieldType.int)) ∈ TB := TB_of 544 (by decide +kernel) rfl
theorem k_545 : (Jvm.Cond.methodLink "FloodDiary" (92 : Nat) ({ cls := "FloodDiary$Works", name := "about", desc := "(II)I" } : Jvm.MethodName)) ∈ TB := TB_of 545 (by decide +kernel) rfl
theorem k_546 : (Jvm.Cond.instanceMethod ({ cls := "FloodDiary$Works", name := "about", desc := "(II)I" } : Jvm.MethodName)) ∈ TB := TB_of 546 (by decide +kernel) rfl
theorem k_547 : (Jvm.Cond.selects "FloodDiary$Works" ({ cls := "FloodDiary$Works", name := "about", desc := "(II)I" } : Jvm.MethodName) ({ cls := "FloodDiary$Works", name := "about", desc := "(II)I" } : Jvm.MethodName)) ∈ TB := TB_of 547 (by decide +kernel) rfl
theorem k_548 : (Jvm.Cond.code ({ cls := "FloodDiary$Works", name := "about", desc := "(II)I" } : Jvm.MethodName) prog_9_method_14_code (3 : Nat) (Option.some FieldType.int)) ∈ TB := TB_of 548 (by decide +kernel) rfl
theorem k_550 : (Jvm.Cond.instanceMethod ({ cls := "FloodDiary", name := "ofEntry", desc := "(II)I" } : Jvm.MethodName)) ∈ TB := TB_of 550 (by decide +kernel) rfl
theorem k_551 : (Jvm.Cond.selects "FloodDiary" ({ cls := "FloodDiary", name := "ofEntry", desc := "(II)I" } : Jvm.MethodName) ({ cls := "FloodDiary", name := "ofEntry", desc := "(II)I" } : Jvm.MethodName)) ∈ TB := TB_of 551 (by decide +kernel) rfl
theorem k_552 : (Jvm.Cond.code ({ cls := "FloodDiary", name := "ofEntry", desc := "(II)I" } : Jvm.MethodName) prog_1_method_13_code (3 : Nat) (Option.some FieldType.int)) ∈ TB := TB_of 552 (by decide +kernel) rfl
theorem k_553 : (Jvm.Cond.methodLink "FloodDiary" (101 : Nat) ({ cls := "FloodDiary$Diary", name := "about", desc := "(II)I" } : Jvm.MethodName)) ∈ TB := TB_of 553 (by decide +kernel) rfl
theorem k_554 : (Jvm.Cond.instanceMethod ({ cls := "FloodDiary$Diary", name := "about", desc := "(II)I" } : Jvm.MethodName)) ∈ TB := TB_of 554 (by decide +kernel) rfl
theorem k_555 : (Jvm.Cond.selects "FloodDiary$Diary" ({ cls := "FloodDiary$Diary", name := "about", desc := "(II)I" } : Jvm.MethodName) ({ cls := "FloodDiary$Diary", name := "about", desc := "(II)I" } : Jvm.MethodName)) ∈ TB := TB_of 555 (by decide +kernel) rfl
theorem k_556 : (Jvm.Cond.code ({ cls := "FloodDiary$Diary", name := "about", desc := "(II)I" } : Jvm.MethodName) prog_2_method_16_code (3 : Nat) (Option.some FieldType.int)) ∈ TB := TB_of 556 (by decide +kernel) rfl
theorem k_557 : (Jvm.Cond.methodLink "FloodDiary$Diary" (59 : Nat) ({ cls := "FloodDiary$Diary", name := "kindOf", desc := "(I)I" } : Jvm.MethodName)) ∈ TB := TB_of 557 (by decide +kernel) rfl
theorem k_558 : (Jvm.Cond.methodLink "FloodDiary$Diary" (63 : Nat) ({ cls := "FloodDiary$Diary", name := "workOf", desc := "(I)I" } : Jvm.MethodName)) ∈ TB := TB_of 558 (by decide +kernel) rfl
theorem k_559 : (Jvm.Cond.methodLink "FloodDiary$Diary" (66 : Nat) ({ cls := "FloodDiary$Diary", name := "earlierOf", desc := "(I)I" } : Jvm.MethodName)) ∈ TB := TB_of 559 (by decide +kernel) rfl
theorem k_560 : (Jvm.Cond.methodLink "FloodDiary$Diary" (69 : Nat) ({ cls := "FloodDiary$Diary", name := "pageOf", desc := "(I)I" } : Jvm.MethodName)) ∈ TB := TB_of 560 (by decide +kernel) rfl
theorem k_561 : (Jvm.Cond.methodLink "FloodDiary$Diary" (72 : Nat) ({ cls := "FloodDiary$Diary", name := "beforeOf", desc := "(I)I" } : Jvm.MethodName)) ∈ TB := TB_of 561 (by decide +kernel) rfl
theorem k_562 : (Jvm.Cond.methodLink "FloodDiary$Diary" (75 : Nat) ({ cls := "FloodDiary$Diary", name := "thenOf", desc := "(I)I" } : Jvm.MethodName)) ∈ TB := TB_of 562 (by decide +kernel) rfl
theorem k_563 : (Jvm.Cond.methodLink "FloodDiary$Diary" (78 : Nat) ({ cls := "FloodDiary$Diary", name := "nextOf", desc := "(I)I" } : Jvm.MethodName)) ∈ TB := TB_of 563 (by decide +kernel) rfl
theorem k_566 : (Jvm.Cond.instanceMethod ({ cls := "FloodDiary", name := "count", desc := "(I)I" } : Jvm.MethodName)) ∈ TB := TB_of 566 (by decide +kernel) rfl
theorem k_567 : (Jvm.Cond.selects "FloodDiary" ({ cls := "FloodDiary", name := "count", desc := "(I)I" } : Jvm.MethodName) ({ cls := "FloodDiary", name := "count", desc := "(I)I" } : Jvm.MethodName)) ∈ TB := TB_of 567 (by decide +kernel) rfl
theorem k_568 : (Jvm.Cond.code ({ cls := "FloodDiary", name := "count", desc := "(I)I" } : Jvm.MethodName) prog_1_method_14_code (2 : Nat) (Option.some FieldType.int)) ∈ TB := TB_of 568 (by decide +kernel) rfl
theorem k_569 : (Jvm.Cond.methodLink "FloodDiary" (104 : Nat) ({ cls := "FloodDiary$Pad", name := "length", desc := "()I" } : Jvm.MethodName)) ∈ TB := TB_of 569 (by decide +kernel) rfl
theorem k_570 : (Jvm.Cond.instanceMethod ({ cls := "FloodDiary$Pad", name := "length", desc := "()I" } : Jvm.MethodName)) ∈ TB := TB_of 570 (by decide +kernel) rfl
theorem k_571 : (Jvm.Cond.selects "FloodDiary$Pad" ({ cls := "FloodDiary$Pad", name := "length", desc := "()I" } : Jvm.MethodName) ({ cls := "FloodDiary$Pad", name := "length", desc := "()I" } : Jvm.MethodName)) ∈ TB := TB_of 571 (by decide +kernel) rfl
theorem k_572 : (Jvm.Cond.code ({ cls := "FloodDiary$Pad", name := "length", desc := "()I" } : Jvm.MethodName) prog_5_method_2_code (1 : Nat) (Option.some FieldType.int)) ∈ TB := TB_of 572 (by decide +kernel) rfl
theorem k_573 : (Jvm.Cond.methodLink "FloodDiary" (107 : Nat) ({ cls := "FloodDiary$History", name := "length", desc := "()I" } : Jvm.MethodName)) ∈ TB := TB_of 573 (by decide +kernel) rfl
theorem k_574 : (Jvm.Cond.instanceMethod ({ cls := "FloodDiary$History", name := "length", desc := "()I" } : Jvm.MethodName)) ∈ TB := TB_of 574 (by decide +kernel) rfl
theorem k_575 : (Jvm.Cond.selects "FloodDiary$History" ({ cls := "FloodDiary$History", name := "length", desc := "()I" } : Jvm.MethodName) ({ cls := "FloodDiary$History", name := "length", desc := "()I" } : Jvm.MethodName)) ∈ TB := TB_of 575 (by decide +kernel) rfl
theorem k_576 : (Jvm.Cond.code ({ cls := "FloodDiary$History", name := "length", desc := "()I" } : Jvm.MethodName) prog_3_method_2_code (1 : Nat) (Option.some FieldType.int)) ∈ TB := TB_of 576 (by decide +kernel) rfl
theorem k_577 : (Jvm.Cond.methodLink "FloodDiary" (108 : Nat) ({ cls := "FloodDiary$State", name := "numbe\x72", desc := "(I)I" } : Jvm.MethodName)) ∈ TB := TB_of 577 (by decide +kernel) rfl
theorem k_578 : (Jvm.Cond.instanceMethod ({ cls := "FloodDiary$State", name := "numbe\x72", desc := "(I)I" } : Jvm.MethodName)) ∈ TB := TB_of 578 (by decide +kernel) rfl
theorem k_579 : (Jvm.Cond.selects "FloodDiary$State" ({ cls := "FloodDiary$State", name := "numbe\x72", desc := "(I)I" } : Jvm.MethodName) ({ cls := "FloodDiary$State", name := "numbe\x72", desc := "(I)I" } : Jvm.MethodName)) ∈ TB := TB_of 579 (by decide +kernel) rfl
theorem k_580 : (Jvm.Cond.code ({ cls := "FloodDiary$State", name := "numbe\x72", desc := "(I)I" } : Jvm.MethodName) prog_8_method_15_code (2 : Nat) (Option.some FieldType.int)) ∈ TB := TB_of 580 (by decide +kernel) rfl
theorem k_581 : (Jvm.Cond.methodLink "FloodDiary$State" (160 : Nat) ({ cls := "FloodDiary$Pages", name := "dirtySet", desc := "()I" } : Jvm.MethodName)) ∈ TB := TB_of 581 (by decide +kernel) rfl
theorem k_582 : (Jvm.Cond.instanceMethod ({ cls := "FloodDiary$Pages", name := "dirtySet", desc := "()I" } : Jvm.MethodName)) ∈ TB := TB_of 582 (by decide +kernel) rfl
theorem k_583 : (Jvm.Cond.selects "FloodDiary$Pages" ({ cls := "FloodDiary$Pages", name := "dirtySet", desc := "()I" } : Jvm.MethodName) ({ cls := "FloodDiary$Pages", name := "dirtySet", desc := "()I" } : Jvm.MethodName)) ∈ TB := TB_of 583 (by decide +kernel) rfl
theorem k_584 : (Jvm.Cond.code ({ cls := "FloodDiary$Pages", name := "dirtySet", desc := "()I" } : Jvm.MethodName) prog_6_method_5_code (3 : Nat) (Option.some FieldType.int)) ∈ TB := TB_of 584 (by decide +kernel) rfl
theorem k_585 : (Jvm.Cond.methodLink "FloodDiary$Pages" (41 : Nat) ({ cls := "FloodDiary$Pages", name := "isDirty", desc := "(I)Z" } : Jvm.MethodName)) ∈ TB := TB_of 585 (by decide +kernel) rfl
theorem k_586 : (Jvm.Cond.methodLink "FloodDiary$State" (163 : Nat) ({ cls := "FloodDiary$Works", name := "openSet", desc := "()I" } : Jvm.MethodName)) ∈ TB := TB_of 586 (by decide +kernel) rfl
theorem k_587 : (Jvm.Cond.instanceMethod ({ cls := "FloodDiary$Works", name := "openSet", desc := "()I" } : Jvm.MethodName)) ∈ TB := TB_of 587 (by decide +kernel) rfl
theorem k_588 : (Jvm.Cond.selects "FloodDiary$Works" ({ cls := "FloodDiary$Works", name := "openSet", desc := "()I" } : Jvm.MethodName) ({ cls := "FloodDiary$Works", name := "openSet", desc := "()I" } : Jvm.MethodName)) ∈ TB := TB_of 588 (by decide +kernel) rfl
theorem k_589 : (Jvm.Cond.code ({ cls := "FloodDiary$Works", name := "openSet", desc := "()I" } : Jvm.MethodName) prog_9_method_10_code (3 : Nat) (Option.some FieldType.int)) ∈ TB := TB_of 589 (by decide +kernel) rfl
theorem k_591 : (Jvm.Cond.instanceMethod ({ cls := "FloodDiary", name := "stepsToMend", desc := "()I" } : Jvm.MethodName)) ∈ TB := TB_of 591 (by decide +kernel) rfl
theorem k_592 : (Jvm.Cond.selects "FloodDiary" ({ cls := "FloodDiary", name := "stepsToMend", desc := "()I" } : Jvm.MethodName) ({ cls := "FloodDiary", name := "stepsToMend", desc := "()I" } : Jvm.MethodName)) ∈ TB := TB_of 592 (by decide +kernel) rfl
theorem k_593 : (Jvm.Cond.code ({ cls := "FloodDiary", name := "stepsToMend", desc := "()I" } : Jvm.MethodName) prog_1_method_15_code (1 : Nat) (Option.some FieldType.int)) ∈ TB := TB_of 593 (by decide +kernel) rfl
theorem k_594 : (Jvm.Cond.methodLink "FloodDiary" (111 : Nat) ({ cls := "FloodDiary", name := "tryFlood", desc := "()V" } : Jvm.MethodName)) ∈ TB := TB_of 594 (by decide +kernel) rfl
theorem k_596 : (Jvm.Cond.instanceMethod ({ cls := "FloodDiary", name := "tryFlood", desc := "()V" } : Jvm.MethodName)) ∈ TB := TB_of 596 (by decide +kernel) rfl
theorem k_597 : (Jvm.Cond.code ({ cls := "FloodDiary", name := "tryFlood", desc := "()V" } : Jvm.MethodName) prog_1_method_26_code (1 : Nat) (Option.none : Option FieldType)) ∈ TB := TB_of 597 (by decide +kernel) rfl
theorem k_598 : (Jvm.Cond.methodLink "FloodDiary" (138 : Nat) ({ cls := "FloodDiary$State", name := "become", desc := "(LFloodDiary$State;)V" } : Jvm.MethodName)) ∈ TB := TB_of 598 (by decide +kernel) rfl
theorem k_600 : (Jvm.Cond.instanceMethod ({ cls := "FloodDiary", name := "wouldBe", desc := "(I)I" } : Jvm.MethodName)) ∈ TB := TB_of 600 (by decide +kernel) rfl
theorem k_601 : (Jvm.Cond.selects "FloodDiary" ({ cls := "FloodDiary", name := "wouldBe", desc := "(I)I" } : Jvm.MethodName) ({ cls := "FloodDiary", name := "wouldBe", desc := "(I)I" } : Jvm.MethodName)) ∈ TB := TB_of 601 (by decide +kernel) rfl
theorem k_602 : (Jvm.Cond.code ({ cls := "FloodDiary", name := "wouldBe", desc := "(I)I" } : Jvm.MethodName) prog_1_method_16_code (2 : Nat) (Option.some FieldType.int)) ∈ TB := TB_of 602 (by decide +kernel) rfl
theorem k_603 : (Jvm.Cond.methodLink "FloodDiary" (114 : Nat) ({ cls := "FloodDiary", name := "isPage", desc := "(I)Z" } : Jvm.MethodName)) ∈ TB := TB_of 603 (by decide +kernel) rfl
theorem k_604 : (Jvm.Cond.methodLink "FloodDiary" (122 : Nat) ({ cls := "FloodDiary$Pages", name := "takeIntoHand", desc := "(I)V" } : Jvm.MethodName)) ∈ TB := TB_of 604 (by decide +kernel) rfl
theorem k_605 : (Jvm.Cond.methodLink "FloodDiary" (128 : Nat) ({ cls := "FloodDiary$Pages", name := "valueInHand", desc := "(I)I" } : Jvm.MethodName)) ∈ TB := TB_of 605 (by decide +kernel) rfl
theorem k_607 : (Jvm.Cond.instanceMethod ({ cls := "FloodDiary", name := "firstNeeded", desc := "()I" } : Jvm.MethodName)) ∈ TB := TB_of 607 (by decide +kernel) rfl
theorem k_608 : (Jvm.Cond.selects "FloodDiary" ({ cls := "FloodDiary", name := "firstNeeded", desc := "()I" } : Jvm.MethodName) ({ cls := "FloodDiary", name := "firstNeeded", desc := "()I" } : Jvm.MethodName)) ∈ TB := TB_of 608 (by decide +kernel) rfl
theorem k_609 : (Jvm.Cond.code ({ cls := "FloodDiary", name := "firstNeeded", desc := "()I" } : Jvm.MethodName) prog_1_method_17_code (1 : Nat) (Option.some FieldType.int)) ∈ TB := TB_of 609 (by decide +kernel) rfl
theorem k_610 : (Jvm.Cond.methodLink "FloodDiary" (131 : Nat) ({ cls := "FloodDiary$State", name := "lowestNeeded", desc := "()I" } : Jvm.MethodName)) ∈ TB := TB_of 610 (by decide +kernel) rfl
theorem k_611 : (Jvm.Cond.instanceMethod ({ cls := "FloodDiary$State", name := "lowestNeeded", desc := "()I" } : Jvm.MethodName)) ∈ TB := TB_of 611 (by decide +kernel) rfl
theorem k_612 : (Jvm.Cond.selects "FloodDiary$State" ({ cls := "FloodDiary$State", name := "lowestNeeded", desc := "()I" } : Jvm.MethodName) ({ cls := "FloodDiary$State", name := "lowestNeeded", desc := "()I" } : Jvm.MethodName)) ∈ TB := TB_of 612 (by decide +kernel) rfl
theorem k_613 : (Jvm.Cond.code ({ cls := "FloodDiary$State", name := "lowestNeeded", desc := "()I" } : Jvm.MethodName) prog_8_method_13_code (2 : Nat) (Option.some FieldType.int)) ∈ TB := TB_of 613 (by decide +kernel) rfl
theorem k_614 : (Jvm.Cond.methodLink "FloodDiary$State" (144 : Nat) ({ cls := "FloodDiary$State", name := "isNeeded", desc := "(I)Z" } : Jvm.MethodName)) ∈ TB := TB_of 614 (by decide +kernel) rfl
theorem k_616 : (Jvm.Cond.instanceMethod ({ cls := "FloodDiary$State", name := "isNeeded", desc := "(I)Z" } : Jvm.MethodName)) ∈ TB := TB_of 616 (by decide +kernel) rfl
theorem k_617 : (Jvm.Cond.code ({ cls := "FloodDiary$State", name := "isNeeded", desc := "(I)Z" } : Jvm.MethodName) prog_8_method_24_code (3 : Nat) (Option.some FieldType.boolean)) ∈ TB := TB_of 617 (by decide +kernel) rfl
theorem k_618 : (Jvm.Cond.methodLink "FloodDiary$State" (211 : Nat) ({ cls := "FloodDiary$Diary", name := "workOf", desc := "(I)I" } : Jvm.MethodName)) ∈ TB := TB_of 618 (by decide +kernel) rfl
theorem k_619 : (Jvm.Cond.methodLink "FloodDiary$State" (214 : Nat) ({ cls := "FloodDiary$State", name := "isEndSaved", desc := "(I)Z" } : Jvm.MethodName)) ∈ TB := TB_of 619 (by decide +kernel) rfl
theorem k_621 : (Jvm.Cond.instanceMethod ({ cls := "FloodDiary$State", name := "isEndSaved", desc := "(I)Z" } : Jvm.MethodName)) ∈ TB := TB_of 621 (by decide +kernel) rfl
theorem k_622 : (Jvm.Cond.code ({ cls := "FloodDiary$State", name := "isEndSaved", desc := "(I)Z" } : Jvm.MethodName) prog_8_method_25_code (2 : Nat) (Option.some FieldType.boolean)) ∈ TB := TB_of 622 (by decide +kernel) rfl
theorem k_624 : (Jvm.Cond.instanceMethod ({ cls := "FloodDiary", name := "settled", desc := "(I)I" } : Jvm.MethodName)) ∈ TB := TB_of 624 (by decide +kernel) rfl
theorem k_625 : (Jvm.Cond.selects "FloodDiary" ({ cls := "FloodDiary", name := "settled", desc := "(I)I" } : Jvm.MethodName) ({ cls := "FloodDiary", name := "settled", desc := "(I)I" } : Jvm.MethodName)) ∈ TB := TB_of 625 (by decide +kernel) rfl
theorem k_626 : (Jvm.Cond.code ({ cls := "FloodDiary", name := "settled", desc := "(I)I" } : Jvm.MethodName) prog_1_method_18_code (2 : Nat) (Option.some FieldType.int)) ∈ TB := TB_of 626 (by decide +kernel) rfl
theorem k_627 : (Jvm.Cond.methodLink "FloodDiary" (141 : Nat) ({ cls := "FloodDiary$State", name := "tearAllOpen", desc := "()V" } : Jvm.MethodName)) ∈ TB := TB_of 627 (by decide +kernel) rfl
theorem k_628 : (Jvm.Cond.instanceMethod ({ cls := "FloodDiary$State", name := "tearAllOpen", desc := "()V" } : Jvm.MethodName)) ∈ TB := TB_of 628 (by decide +kernel) rfl
theorem k_629 : (Jvm.Cond.selects "FloodDiary$State" ({ cls := "FloodDiary$State", name := "tearAllOpen", desc := "()V" } : Jvm.MethodName) ({ cls := "FloodDiary$State", name := "tearAllOpen", desc := "()V" } : Jvm.MethodName)) ∈ TB := TB_of 629 (by decide +kernel) rfl
theorem k_630 : (Jvm.Cond.code ({ cls := "FloodDiary$State", name := "tearAllOpen", desc := "()V" } : Jvm.MethodName) prog_8_method_12_code (4 : Nat) (Option.none : Option FieldType)) ∈ TB := TB_of 630 (by decide +kernel) rfl
theorem k_632 : (Jvm.Cond.instanceMethod ({ cls := "FloodDiary", name := "put", desc := "(J)I" } : Jvm.MethodName)) ∈ TB := TB_of 632 (by decide +kernel) rfl
theorem k_633 : (Jvm.Cond.selects "FloodDiary" ({ cls := "FloodDiary", name := "put", desc := "(J)I" } : Jvm.MethodName) ({ cls := "FloodDiary", name := "put", desc := "(J)I" } : Jvm.MethodName)) ∈ TB := TB_of 633 (by decide +kernel) rfl
theorem k_634 : (Jvm.Cond.code ({ cls := "FloodDiary", name := "put", desc := "(J)I" } : Jvm.MethodName) prog_1_method_19_code (4 : Nat) (Option.some FieldType.int)) ∈ TB := TB_of 634 (by decide +kernel) rfl
theorem k_635 : (Jvm.Cond.methodLink "FloodDiary" (144 : Nat) ({ cls := "FloodDiary", name := "charactersIn", desc := "(J)I" } : Jvm.MethodName)) ∈ TB := TB_of 635 (by decide +kernel) rfl
theorem k_636 : (Jvm.Cond.static ({ cls := "FloodDiary", name := "charactersIn", desc := "(J)I" } : Jvm.MethodName)) ∈ TB := TB_of 636 (by decide +kernel) rfl
theorem k_637 : (Jvm.Cond.code ({ cls := "FloodDiary", name := "charactersIn", desc := "(J)I" } : Jvm.MethodName) prog_1_method_31_code (6 : Nat) (Option.some FieldType.int)) ∈ TB := TB_of 637 (by decide +kernel) rfl
theorem k_638 : (Jvm.Cond.constantLong "FloodDiary" (190 : Nat) (255 : Int64)) ∈ TB := TB_of 638 (by decide +kernel) rfl
theorem k_639 : (Jvm.Cond.methodLink "FloodDiary" (148 : Nat) ({ cls := "FloodDiary$Pad", name := "hasRoomFo\x72", desc := "(I)Z" } : Jvm.MethodName)) ∈ TB := TB_of 639 (by decide +kernel) rfl
theorem k_640 : (Jvm.Cond.instanceMethod ({ cls := "FloodDiary$Pad", name := "hasRoomFo\x72", desc := "(I)Z" } : Jvm.MethodName)) ∈ TB := TB_of 640 (by decide +kernel) rfl
theorem k_641 : (Jvm.Cond.selects "FloodDiary$Pad" ({ cls := "FloodDiary$Pad", name := "hasRoomFo\x72", desc := "(I)Z" } : Jvm.MethodName) ({ cls := "FloodDiary$Pad", name := "hasRoomFo\x72", desc := "(I)Z" } : Jvm.MethodName)) ∈ TB := TB_of 641 (by decide +kernel) rfl
theorem k_642 : (Jvm.Cond.code ({ cls := "FloodDiary$Pad", name := "hasRoomFo\x72", desc := "(I)Z" } : Jvm.MethodName) prog_5_method_3_code (2 : Nat) (Option.some FieldType.boolean)) ∈ TB := TB_of 642 (by decide +kernel) rfl
theorem k_643 : (Jvm.Cond.methodLink "FloodDiary" (151 : Nat) ({ cls := "FloodDiary$Pad", name := "append", desc := "(JI)V" } : Jvm.MethodName)) ∈ TB := TB_of 643 (by decide +kernel) rfl
theorem k_644 : (Jvm.Cond.instanceMethod ({ cls := "FloodDiary$Pad", name := "append", desc := "(JI)V" } : Jvm.MethodName)) ∈ TB := TB_of 644 (by decide +kernel) rfl
theorem k_645 : (Jvm.Cond.selects "FloodDiary$Pad" ({ cls := "FloodDiary$Pad", name := "append", desc := "(JI)V" } : Jvm.MethodName) ({ cls := "FloodDiary$Pad", name := "append", desc := "(JI)V" } : Jvm.MethodName)) ∈ TB := TB_of 645 (by decide +kernel) rfl
theorem k_646 : (Jvm.Cond.code ({ cls := "FloodDiary$Pad", name := "append", desc := "(JI)V" } : Jvm.MethodName) prog_5_method_4_code (5 : Nat) (Option.none : Option FieldType)) ∈ TB := TB_of 646 (by decide +kernel) rfl
theorem k_647 : (Jvm.Cond.constantLong "FloodDiary$Pad" (19 : Nat) (255 : Int64)) ∈ TB := TB_of 647 (by decide +kernel) rfl
theorem k_649 : (Jvm.Cond.instanceMethod ({ cls := "FloodDiary", name := "wipe", desc := "()I" } : Jvm.MethodName)) ∈ TB := TB_of 649 (by decide +kernel) rfl
theorem k_650 : (Jvm.Cond.selects "FloodDiary" ({ cls := "FloodDiary", name := "wipe", desc := "()I" } : Jvm.MethodName) ({ cls := "FloodDiary", name := "wipe", desc := "()I" } : Jvm.MethodName)) ∈ TB := TB_of 650 (by decide +kernel) rfl
theorem k_651 : (Jvm.Cond.code ({ cls := "FloodDiary", name := "wipe", desc := "()I" } : Jvm.MethodName) prog_1_method_20_code (2 : Nat) (Option.some FieldType.int)) ∈ TB := TB_of 651 (by decide +kernel) rfl
theorem k_652 : (Jvm.Cond.methodLink "FloodDiary" (155 : Nat) ({ cls := "FloodDiary$Pad", name := "empty", desc := "()V" } : Jvm.MethodName)) ∈ TB := TB_of 652 (by decide +kernel) rfl
theorem k_653 : (Jvm.Cond.instanceMethod ({ cls := "FloodDiary$Pad", name := "empty", desc := "()V" } : Jvm.MethodName)) ∈ TB := TB_of 653 (by decide +kernel) rfl
theorem k_654 : (Jvm.Cond.selects "FloodDiary$Pad" ({ cls := "FloodDiary$Pad", name := "empty", desc := "()V" } : Jvm.MethodName) ({ cls := "FloodDiary$Pad", name := "empty", desc := "()V" } : Jvm.MethodName)) ∈ TB := TB_of 654 (by decide +kernel) rfl
theorem k_655 : (Jvm.Cond.code ({ cls := "FloodDiary$Pad", name := "empty", desc := "()V" } : Jvm.MethodName) prog_5_method_5_code (1 : Nat) (Option.none : Option FieldType)) ∈ TB := TB_of 655 (by decide +kernel) rfl
theorem k_657 : (Jvm.Cond.instanceMethod ({ cls := "FloodDiary", name := "fault", desc := "()I" } : Jvm.MethodName)) ∈ TB := TB_of 657 (by decide +kernel) rfl
theorem k_658 : (Jvm.Cond.selects "FloodDiary" ({ cls := "FloodDiary", name := "fault", desc := "()I" } : Jvm.MethodName) ({ cls := "FloodDiary", name := "fault", desc := "()I" } : Jvm.MethodName)) ∈ TB := TB_of 658 (by decide +kernel) rfl
theorem k_659 : (Jvm.Cond.code ({ cls := "FloodDiary", name := "fault", desc := "()I" } : Jvm.MethodName) prog_1_method_21_code (1 : Nat) (Option.some FieldType.int)) ∈ TB := TB_of 659 (by decide +kernel) rfl
theorem k_660 : (Jvm.Cond.methodLink "FloodDiary" (158 : Nat) ({ cls := "FloodDiary$Orders", name := "read", desc := "(LFloodDiary$Pad;)V" } : Jvm.MethodName)) ∈ TB := TB_of 660 (by decide +kernel) rfl
theorem k_661 : (Jvm.Cond.instanceMethod ({ cls := "FloodDiary$Orders", name := "read", desc := "(LFloodDiary$Pad;)V" } : Jvm.MethodName)) ∈ TB := TB_of 661 (by decide +kernel) rfl
theorem k_662 : (Jvm.Cond.selects "FloodDiary$Orders" ({ cls := "FloodDiary$Orders", name := "read", desc := "(LFloodDiary$Pad;)V" } : Jvm.MethodName) ({ cls := "FloodDiary$Orders", name := "read", desc := "(LFloodDiary$Pad;)V" } : Jvm.MethodName)) ∈ TB := TB_of 662 (by decide +kernel) rfl
theorem k_663 : (Jvm.Cond.code ({ cls := "FloodDiary$Orders", name := "read", desc := "(LFloodDiary$Pad;)V" } : Jvm.MethodName) prog_4_method_3_code (3 : Nat) (Option.none : Option FieldType)) ∈ TB := TB_of 663 (by decide +kernel) rfl
theorem k_664 : (Jvm.Cond.methodLink "FloodDiary$Orders" (34 : Nat) ({ cls := "FloodDiary$Orders", name := "readOrde\x72", desc := "(LFloodDiary$Pad;)V" } : Jvm.MethodName)) ∈ TB := TB_of 664 (by decide +kernel) rfl
theorem k_666 : (Jvm.Cond.instanceMethod ({ cls := "FloodDiary$Orders", name := "readOrde\x72", desc := "(LFloodDiary$Pad;)V" } : Jvm.MethodName)) ∈ TB := TB_of 666 (by decide +kernel) rfl
theorem k_667 : (Jvm.Cond.code ({ cls := "FloodDiary$Orders", name := "readOrde\x72", desc := "(LFloodDiary$Pad;)V" } : Jvm.MethodName) prog_4_method_6_code (3 : Nat) (Option.none : Option FieldType)) ∈ TB := TB_of 667 (by decide +kernel) rfl
theorem k_668 : (Jvm.Cond.methodLink "FloodDiary$Orders" (76 : Nat) ({ cls := "FloodDiary$Pad", name := "at", desc := "(I)I" } : Jvm.MethodName)) ∈ TB := TB_of 668 (by decide +kernel) rfl
theorem k_669 : (Jvm.Cond.instanceMethod ({ cls := "FloodDiary$Pad", name := "at", desc := "(I)I" } : Jvm.MethodName)) ∈ TB := TB_of 669 (by decide +kernel) rfl
theorem k_670 : (Jvm.Cond.selects "FloodDiary$Pad" ({ cls := "FloodDiary$Pad", name := "at", desc := "(I)I" } : Jvm.MethodName) ({ cls := "FloodDiary$Pad", name := "at", desc := "(I)I" } : Jvm.MethodName)) ∈ TB := TB_of 670 (by decide +kernel) rfl
theorem k_671 : (Jvm.Cond.code ({ cls := "FloodDiary$Pad", name := "at", desc := "(I)I" } : Jvm.MethodName) prog_5_method_6_code (2 : Nat) (Option.some FieldType.int)) ∈ TB := TB_of 671 (by decide +kernel) rfl
theorem k_672 : (Jvm.Cond.methodLink "FloodDiary$Orders" (79 : Nat) ({ cls := "FloodDiary$Orders", name := "readNumbe\x72", desc := "(LFloodDiary$Pad;)I" } : Jvm.MethodName)) ∈ TB := TB_of 672 (by decide +kernel) rfl
theorem k_674 : (Jvm.Cond.instanceMethod ({ cls := "FloodDiary$Orders", name := "readNumbe\x72", desc := "(LFloodDiary$Pad;)I" } : Jvm.MethodName)) ∈ TB := TB_of 674 (by decide +kernel) rfl
theorem k_675 : (Jvm.Cond.code ({ cls := "FloodDiary$Orders", name := "readNumbe\x72", desc := "(LFloodDiary$Pad;)I" } : Jvm.MethodName) prog_4_method_9_code (4 : Nat) (Option.some FieldType.int)) ∈ TB := TB_of 675 (by decide +kernel) rfl
theorem k_676 : (Jvm.Cond.methodLink "FloodDiary$Orders" (90 : Nat) ({ cls := "FloodDiary$Orders", name := "isDigit", desc := "(I)Z" } : Jvm.MethodName)) ∈ TB := TB_of 676 (by decide +kernel) rfl
theorem k_677 : (Jvm.Cond.static ({ cls := "FloodDiary$Orders", name := "isDigit", desc := "(I)Z" } : Jvm.MethodName)) ∈ TB := TB_of 677 (by decide +kernel) rfl
theorem k_678 : (Jvm.Cond.code ({ cls := "FloodDiary$Orders", name := "isDigit", desc := "(I)Z" } : Jvm.MethodName) prog_4_method_10_code (1 : Nat) (Option.some FieldType.boolean)) ∈ TB := TB_of 678 (by decide +kernel) rfl
theorem k_679 : (Jvm.Cond.methodLink "FloodDiary$Orders" (44 : Nat) ({ cls := "FloodDiary$Orders", name := "expect", desc := "(LFloodDiary$Pad;I)V" } : Jvm.MethodName)) ∈ TB := TB_of 679 (by decide +kernel) rfl
theorem k_681 : (Jvm.Cond.instanceMethod ({ cls := "FloodDiary$Orders", name := "expect", desc := "(LFloodDiary$Pad;I)V" } : Jvm.MethodName)) ∈ TB := TB_of 681 (by decide +kernel) rfl
theorem k_682 : (Jvm.Cond.code ({ cls := "FloodDiary$Orders", name := "expect", desc := "(LFloodDiary$Pad;I)V" } : Jvm.MethodName) prog_4_method_7_code (3 : Nat) (Option.none : Option FieldType)) ∈ TB := TB_of 682 (by decide +kernel) rfl
theorem k_683 : (Jvm.Cond.methodLink "FloodDiary$Orders" (83 : Nat) ({ cls := "FloodDiary$Orders", name := "readPage", desc := "(LFloodDiary$Pad;)I" } : Jvm.MethodName)) ∈ TB := TB_of 683 (by decide +kernel) rfl
theorem k_685 : (Jvm.Cond.instanceMethod ({ cls := "FloodDiary$Orders", name := "readPage", desc := "(LFloodDiary$Pad;)I" } : Jvm.MethodName)) ∈ TB := TB_of 685 (by decide +kernel) rfl
theorem k_686 : (Jvm.Cond.code ({ cls := "FloodDiary$Orders", name := "readPage", desc := "(LFloodDiary$Pad;)I" } : Jvm.MethodName) prog_4_method_8_code (3 : Nat) (Option.some FieldType.int)) ∈ TB := TB_of 686 (by decide +kernel) rfl
theorem k_688 : (Jvm.Cond.methodLink "FloodDiary$Orders" (38 : Nat) ({ cls := "FloodDiary$Pad", name := "length", desc := "()I" } : Jvm.MethodName)) ∈ TB := TB_of 688 (by decide +kernel) rfl
theorem k_689 : (Jvm.Cond.methodLink "FloodDiary" (162 : Nat) ({ cls := "FloodDiary$Orders", name := "firstFault", desc := "()I" } : Jvm.MethodName)) ∈ TB := TB_of 689 (by decide +kernel) rfl
theorem k_690 : (Jvm.Cond.instanceMethod ({ cls := "FloodDiary$Orders", name := "firstFault", desc := "()I" } : Jvm.MethodName)) ∈ TB := TB_of 690 (by decide +kernel) rfl
theorem k_691 : (Jvm.Cond.selects "FloodDiary$Orders" ({ cls := "FloodDiary$Orders", name := "firstFault", desc := "()I" } : Jvm.MethodName) ({ cls := "FloodDiary$Orders", name := "firstFault", desc := "()I" } : Jvm.MethodName)) ∈ TB := TB_of 691 (by decide +kernel) rfl
theorem k_692 : (Jvm.Cond.code ({ cls := "FloodDiary$Orders", name := "firstFault", desc := "()I" } : Jvm.MethodName) prog_4_method_2_code (1 : Nat) (Option.some FieldType.int)) ∈ TB := TB_of 692 (by decide +kernel) rfl
theorem k_694 : (Jvm.Cond.instanceMethod ({ cls := "FloodDiary", name := "carryOut", desc := "()I" } : Jvm.MethodName)) ∈ TB := TB_of 694 (by decide +kernel) rfl
theorem k_695 : (Jvm.Cond.selects "FloodDiary" ({ cls := "FloodDiary", name := "carryOut", desc := "()I" } : Jvm.MethodName) ({ cls := "FloodDiary", name := "carryOut", desc := "()I" } : Jvm.MethodName)) ∈ TB := TB_of 695 (by decide +kernel) rfl
theorem k_696 : (Jvm.Cond.code ({ cls := "FloodDiary", name := "carryOut", desc := "()I" } : Jvm.MethodName) prog_1_method_22_code (2 : Nat) (Option.some FieldType.int)) ∈ TB := TB_of 696 (by decide +kernel) rfl
theorem k_697 : (Jvm.Cond.methodLink "FloodDiary" (165 : Nat) ({ cls := "FloodDiary$Orders", name := "length", desc := "()I" } : Jvm.MethodName)) ∈ TB := TB_of 697 (by decide +kernel) rfl
theorem k_698 : (Jvm.Cond.instanceMethod ({ cls := "FloodDiary$Orders", name := "length", desc := "()I" } : Jvm.MethodName)) ∈ TB := TB_of 698 (by decide +kernel) rfl
theorem k_699 : (Jvm.Cond.selects "FloodDiary$Orders" ({ cls := "FloodDiary$Orders", name := "length", desc := "()I" } : Jvm.MethodName) ({ cls := "FloodDiary$Orders", name := "length", desc := "()I" } : Jvm.MethodName)) ∈ TB := TB_of 699 (by decide +kernel) rfl
theorem k_700 : (Jvm.Cond.code ({ cls := "FloodDiary$Orders", name := "length", desc := "()I" } : Jvm.MethodName) prog_4_method_4_code (1 : Nat) (Option.some FieldType.int)) ∈ TB := TB_of 700 (by decide +kernel) rfl
theorem k_701 : (Jvm.Cond.methodLink "FloodDiary" (166 : Nat) ({ cls := "FloodDiary$Orders", name := "obey", desc := "(ILFloodDiary$State;)I" } : Jvm.MethodName)) ∈ TB := TB_of 701 (by decide +kernel) rfl
theorem k_702 : (Jvm.Cond.instanceMethod ({ cls := "FloodDiary$Orders", name := "obey", desc := "(ILFloodDiary$State;)I" } : Jvm.MethodName)) ∈ TB := TB_of 702 (by decide +kernel) rfl
theorem k_703 : (Jvm.Cond.selects "FloodDiary$Orders" ({ cls := "FloodDiary$Orders", name := "obey", desc := "(ILFloodDiary$State;)I" } : Jvm.MethodName) ({ cls := "FloodDiary$Orders", name := "obey", desc := "(ILFloodDiary$State;)I" } : Jvm.MethodName)) ∈ TB := TB_of 703 (by decide +kernel) rfl
theorem k_704 : (Jvm.Cond.code ({ cls := "FloodDiary$Orders", name := "obey", desc := "(ILFloodDiary$State;)I" } : Jvm.MethodName) prog_4_method_5_code (3 : Nat) (Option.some FieldType.int)) ∈ TB := TB_of 704 (by decide +kernel) rfl
theorem k_705 : (Jvm.Cond.methodLink "FloodDiary$Orders" (48 : Nat) ({ cls := "FloodDiary$State", name := "beginWork", desc := "()I" } : Jvm.MethodName)) ∈ TB := TB_of 705 (by decide +kernel) rfl
theorem k_706 : (Jvm.Cond.methodLink "FloodDiary$Orders" (53 : Nat) ({ cls := "FloodDiary$State", name := "writePage", desc := "(III)I" } : Jvm.MethodName)) ∈ TB := TB_of 706 (by decide +kernel) rfl
theorem k_707 : (Jvm.Cond.methodLink "FloodDiary$Orders" (57 : Nat) ({ cls := "FloodDiary$State", name := "finishWork", desc := "(I)I" } : Jvm.MethodName)) ∈ TB := TB_of 707 (by decide +kernel) rfl
theorem k_708 : (Jvm.Cond.methodLink "FloodDiary$Orders" (61 : Nat) ({ cls := "FloodDiary$State", name := "tearWork", desc := "(I)I" } : Jvm.MethodName)) ∈ TB := TB_of 708 (by decide +kernel) rfl
theorem k_709 : (Jvm.Cond.methodLink "FloodDiary$Orders" (64 : Nat) ({ cls := "FloodDiary$State", name := "shelvePage", desc := "(I)I" } : Jvm.MethodName)) ∈ TB := TB_of 709 (by decide +kernel) rfl
theorem k_710 : (Jvm.Cond.methodLink "FloodDiary$Orders" (67 : Nat) ({ cls := "FloodDiary$State", name := "saveEntries", desc := "(I)I" } : Jvm.MethodName)) ∈ TB := TB_of 710 (by decide +kernel) rfl
theorem k_711 : (Jvm.Cond.methodLink "FloodDiary$Orders" (70 : Nat) ({ cls := "FloodDiary$State", name := "takeFlood", desc := "()I" } : Jvm.MethodName)) ∈ TB := TB_of 711 (by decide +kernel) rfl
theorem k_712 : (Jvm.Cond.methodLink "FloodDiary$Orders" (73 : Nat) ({ cls := "FloodDiary$State", name := "mendSteps", desc := "(I)I" } : Jvm.MethodName)) ∈ TB := TB_of 712 (by decide +kernel) rfl
theorem k_714 : (Jvm.Cond.instanceMethod ({ cls := "FloodDiary", name := "undo", desc := "()I" } : Jvm.MethodName)) ∈ TB := TB_of 714 (by decide +kernel) rfl
theorem k_715 : (Jvm.Cond.selects "FloodDiary" ({ cls := "FloodDiary", name := "undo", desc := "()I" } : Jvm.MethodName) ({ cls := "FloodDiary", name := "undo", desc := "()I" } : Jvm.MethodName)) ∈ TB := TB_of 715 (by decide +kernel) rfl
theorem k_716 : (Jvm.Cond.code ({ cls := "FloodDiary", name := "undo", desc := "()I" } : Jvm.MethodName) prog_1_method_23_code (1 : Nat) (Option.some FieldType.int)) ∈ TB := TB_of 716 (by decide +kernel) rfl
theorem k_717 : (Jvm.Cond.methodLink "FloodDiary" (170 : Nat) ({ cls := "FloodDiary$History", name := "takeBack", desc := "(LFloodDiary$State;)V" } : Jvm.MethodName)) ∈ TB := TB_of 717 (by decide +kernel) rfl
theorem k_718 : (Jvm.Cond.instanceMethod ({ cls := "FloodDiary$History", name := "takeBack", desc := "(LFloodDiary$State;)V" } : Jvm.MethodName)) ∈ TB := TB_of 718 (by decide +kernel) rfl
theorem k_719 : (Jvm.Cond.selects "FloodDiary$History" ({ cls := "FloodDiary$History", name := "takeBack", desc := "(LFloodDiary$State;)V" } : Jvm.MethodName) ({ cls := "FloodDiary$History", name := "takeBack", desc := "(LFloodDiary$State;)V" } : Jvm.MethodName)) ∈ TB := TB_of 719 (by decide +kernel) rfl
theorem k_720 : (Jvm.Cond.code ({ cls := "FloodDiary$History", name := "takeBack", desc := "(LFloodDiary$State;)V" } : Jvm.MethodName) prog_3_method_5_code (3 : Nat) (Option.none : Option FieldType)) ∈ TB := TB_of 720 (by decide +kernel) rfl
theorem k_722 : (Jvm.Cond.instanceMethod ({ cls := "FloodDiary", name := "keep", desc := "(I)I" } : Jvm.MethodName)) ∈ TB := TB_of 722 (by decide +kernel) rfl
theorem k_723 : (Jvm.Cond.selects "FloodDiary" ({ cls := "FloodDiary", name := "keep", desc := "(I)I" } : Jvm.MethodName) ({ cls := "FloodDiary", name := "keep", desc := "(I)I" } : Jvm.MethodName)) ∈ TB := TB_of 723 (by decide +kernel) rfl
theorem k_724 : (Jvm.Cond.code ({ cls := "FloodDiary", name := "keep", desc := "(I)I" } : Jvm.MethodName) prog_1_method_24_code (2 : Nat) (Option.some FieldType.int)) ∈ TB := TB_of 724 (by decide +kernel) rfl
theorem k_725 : (Jvm.Cond.methodLink "FloodDiary" (173 : Nat) ({ cls := "FloodDiary", name := "isSlot", desc := "(I)Z" } : Jvm.MethodName)) ∈ TB := TB_of 725 (by decide +kernel) rfl
theorem k_726 : (Jvm.Cond.static ({ cls := "FloodDiary", name := "isSlot", desc := "(I)Z" } : Jvm.MethodName)) ∈ TB := TB_of 726 (by decide +kernel) rfl
theorem k_727 : (Jvm.Cond.code ({ cls := "FloodDiary", name := "isSlot", desc := "(I)Z" } : Jvm.MethodName) prog_1_method_28_code (1 : Nat) (Option.some FieldType.boolean)) ∈ TB := TB_of 727 (by decide +kernel) rfl
theorem k_728 : (Jvm.Cond.methodLink "FloodDiary" (176 : Nat) ({ cls := "FloodDiary$Slots", name := "store", desc := "(ILFloodDiary$State;)V" } : Jvm.MethodName)) ∈ TB := TB_of 728 (by decide +kernel) rfl
theorem k_729 : (Jvm.Cond.instanceMethod ({ cls := "FloodDiary$Slots", name := "store", desc := "(ILFloodDiary$State;)V" } : Jvm.MethodName)) ∈ TB := TB_of 729 (by decide +kernel) rfl
theorem k_730 : (Jvm.Cond.selects "FloodDiary$Slots" ({ cls := "FloodDiary$Slots", name := "store", desc := "(ILFloodDiary$State;)V" } : Jvm.MethodName) ({ cls := "FloodDiary$Slots", name := "store", desc := "(ILFloodDiary$State;)V" } : Jvm.MethodName)) ∈ TB := TB_of 730 (by decide +kernel) rfl
theorem k_731 : (Jvm.Cond.code ({ cls := "FloodDiary$Slots", name := "store", desc := "(ILFloodDiary$State;)V" } : Jvm.MethodName) prog_7_method_3_code (4 : Nat) (Option.none : Option FieldType)) ∈ TB := TB_of 731 (by decide +kernel) rfl
theorem k_734 : (Jvm.Cond.methodLink "FloodDiary$Slots" (22 : Nat) ({ cls := "FloodDiary$State", name := "become", desc := "(LFloodDiary$State;)V" } : Jvm.MethodName)) ∈ TB := TB_of 734 (by decide +kernel) rfl
theorem k_736 : (Jvm.Cond.instanceMethod ({ cls := "FloodDiary", name := "bring", desc := "(I)I" } : Jvm.MethodName)) ∈ TB := TB_of 736 (by decide +kernel) rfl
theorem k_737 : (Jvm.Cond.selects "FloodDiary" ({ cls := "FloodDiary", name := "bring", desc := "(I)I" } : Jvm.MethodName) ({ cls := "FloodDiary", name := "bring", desc := "(I)I" } : Jvm.MethodName)) ∈ TB := TB_of 737 (by decide +kernel) rfl
theorem k_738 : (Jvm.Cond.code ({ cls := "FloodDiary", name := "bring", desc := "(I)I" } : Jvm.MethodName) prog_1_method_25_code (2 : Nat) (Option.some FieldType.int)) ∈ TB := TB_of 738 (by decide +kernel) rfl
theorem k_739 : (Jvm.Cond.methodLink "FloodDiary" (184 : Nat) ({ cls := "FloodDiary$Slots", name := "isFilled", desc := "(I)Z" } : Jvm.MethodName)) ∈ TB := TB_of 739 (by decide +kernel) rfl
theorem k_740 : (Jvm.Cond.instanceMethod ({ cls := "FloodDiary$Slots", name := "isFilled", desc := "(I)Z" } : Jvm.MethodName)) ∈ TB := TB_of 740 (by decide +kernel) rfl
theorem k_741 : (Jvm.Cond.selects "FloodDiary$Slots" ({ cls := "FloodDiary$Slots", name := "isFilled", desc := "(I)Z" } : Jvm.MethodName) ({ cls := "FloodDiary$Slots", name := "isFilled", desc := "(I)Z" } : Jvm.MethodName)) ∈ TB := TB_of 741 (by decide +kernel) rfl
theorem k_742 : (Jvm.Cond.code ({ cls := "FloodDiary$Slots", name := "isFilled", desc := "(I)Z" } : Jvm.MethodName) prog_7_method_2_code (2 : Nat) (Option.some FieldType.boolean)) ∈ TB := TB_of 742 (by decide +kernel) rfl
theorem k_743 : (Jvm.Cond.methodLink "FloodDiary" (187 : Nat) ({ cls := "FloodDiary$Slots", name := "fetch", desc := "(ILFloodDiary$State;)V" } : Jvm.MethodName)) ∈ TB := TB_of 743 (by decide +kernel) rfl
theorem k_744 : (Jvm.Cond.instanceMethod ({ cls := "FloodDiary$Slots", name := "fetch", desc := "(ILFloodDiary$State;)V" } : Jvm.MethodName)) ∈ TB := TB_of 744 (by decide +kernel) rfl
theorem k_745 : (Jvm.Cond.selects "FloodDiary$Slots" ({ cls := "FloodDiary$Slots", name := "fetch", desc := "(ILFloodDiary$State;)V" } : Jvm.MethodName) ({ cls := "FloodDiary$Slots", name := "fetch", desc := "(ILFloodDiary$State;)V" } : Jvm.MethodName)) ∈ TB := TB_of 745 (by decide +kernel) rfl
theorem k_746 : (Jvm.Cond.code ({ cls := "FloodDiary$Slots", name := "fetch", desc := "(ILFloodDiary$State;)V" } : Jvm.MethodName) prog_7_method_4_code (4 : Nat) (Option.none : Option FieldType)) ∈ TB := TB_of 746 (by decide +kernel) rfl
theorem k_751 : (Jvm.Cond.code ({ cls := "FloodDiaryModel", name := "<init>", desc := "()V" } : Jvm.MethodName) prog_11_method_1_code (1 : Nat) (Option.none : Option FieldType)) ∈ TB := TB_of 751 (by decide +kernel) rfl
theorem k_752 : (Jvm.Cond.methodLink "FloodDiaryModel" (1 : Nat) ({ cls := "java/lang/Object", name := "<init>", desc := "()V" } : Jvm.MethodName)) ∈ TB := TB_of 752 (by decide +kernel) rfl
theorem k_753 : (Jvm.Cond.fieldLink "FloodDiaryModel" (7 : Nat) "FloodDiaryModel" "now" "[I") ∈ TB := TB_of 753 (by decide +kernel) rfl
theorem k_754 : (Jvm.Cond.fieldLink "FloodDiaryModel" (13 : Nat) "FloodDiaryModel" "trial" "[I") ∈ TB := TB_of 754 (by decide +kernel) rfl
theorem k_755 : (Jvm.Cond.fieldLink "FloodDiaryModel" (16 : Nat) "FloodDiaryModel" "history" "[I") ∈ TB := TB_of 755 (by decide +kernel) rfl
theorem k_756 : (Jvm.Cond.fieldLink "FloodDiaryModel" (29 : Nat) "FloodDiaryModel" "changes" "I") ∈ TB := TB_of 756 (by decide +kernel) rfl
theorem k_757 : (Jvm.Cond.fieldLink "FloodDiaryModel" (19 : Nat) "FloodDiaryModel" "kept" "[I") ∈ TB := TB_of 757 (by decide +kernel) rfl
theorem k_758 : (Jvm.Cond.fieldLink "FloodDiaryModel" (22 : Nat) "FloodDiaryModel" "isKept" "[Z") ∈ TB := TB_of 758 (by decide +kernel) rfl
theorem k_759 : (Jvm.Cond.fieldLink "FloodDiaryModel" (26 : Nat) "FloodDiaryModel" "pad" "[I") ∈ TB := TB_of 759 (by decide +kernel) rfl
theorem k_760 : (Jvm.Cond.fieldLink "FloodDiaryModel" (160 : Nat) "FloodDiaryModel" "length" "I") ∈ TB := TB_of 760 (by decide +kernel) rfl
theorem k_761 : (Jvm.Cond.fieldLink "FloodDiaryModel" (179 : Nat) "FloodDiaryModel" "spot" "I") ∈ TB := TB_of 761 (by decide +kernel) rfl
theorem k_762 : (Jvm.Cond.laysFinal "FloodDiaryModel" "FloodDiaryModel" "now" "[I") ∈ TB := TB_of 762 (by decide +kernel) rfl
theorem k_764 : (Jvm.Cond.laysFinal "FloodDiaryModel" "FloodDiaryModel" "trial" "[I") ∈ TB := TB_of 764 (by decide +kernel) rfl
theorem k_766 : (Jvm.Cond.laysFinal "FloodDiaryModel" "FloodDiaryModel" "history" "[I") ∈ TB := TB_of 766 (by decide +kernel) rfl
theorem k_768 : (Jvm.Cond.lays "FloodDiaryModel" "FloodDiaryModel" "changes" "I") ∈ TB := TB_of 768 (by decide +kernel) rfl
theorem k_770 : (Jvm.Cond.laysFinal "FloodDiaryModel" "FloodDiaryModel" "kept" "[I") ∈ TB := TB_of 770 (by decide +kernel) rfl
theorem k_772 : (Jvm.Cond.laysFinal "FloodDiaryModel" "FloodDiaryModel" "isKept" "[Z") ∈ TB := TB_of 772 (by decide +kernel) rfl
theorem k_774 : (Jvm.Cond.laysFinal "FloodDiaryModel" "FloodDiaryModel" "pad" "[I") ∈ TB := TB_of 774 (by decide +kernel) rfl
theorem k_776 : (Jvm.Cond.lays "FloodDiaryModel" "FloodDiaryModel" "length" "I") ∈ TB := TB_of 776 (by decide +kernel) rfl
theorem k_778 : (Jvm.Cond.lays "FloodDiaryModel" "FloodDiaryModel" "spot" "I") ∈ TB := TB_of 778 (by decide +kernel) rfl
theorem k_781 : (Jvm.Cond.arrayClass FieldType.boolean) ∈ TB := TB_of 781 (by decide +kernel) rfl
theorem k_783 : (Jvm.Cond.instanceMethod ({ cls := "FloodDiaryModel", name := "begin", desc := "()I" } : Jvm.MethodName)) ∈ TB := TB_of 783 (by decide +kernel) rfl
theorem k_784 : (Jvm.Cond.selects "FloodDiaryModel" ({ cls := "FloodDiaryModel", name := "begin", desc := "()I" } : Jvm.MethodName) ({ cls := "FloodDiaryModel", name := "begin", desc := "()I" } : Jvm.MethodName)) ∈ TB := TB_of 784 (by decide +kernel) rfl
theorem k_785 : (Jvm.Cond.code ({ cls := "FloodDiaryModel", name := "begin", desc := "()I" } : Jvm.MethodName) prog_11_method_28_code (2 : Nat) (Option.some FieldType.int)) ∈ TB := TB_of 785 (by decide +kernel) rfl
theorem k_786 : (Jvm.Cond.methodLink "FloodDiaryModel" (90 : Nat) ({ cls := "FloodDiaryModel", name := "whyNotBegin", desc := "([I)I" } : Jvm.MethodName)) ∈ TB := TB_of 786 (by decide +kernel) rfl
theorem k_787 : (Jvm.Cond.static ({ cls := "FloodDiaryModel", name := "whyNotBegin", desc := "([I)I" } : Jvm.MethodName)) ∈ TB := TB_of 787 (by decide +kernel) rfl
theorem k_788 : (Jvm.Cond.code ({ cls := "FloodDiaryModel", name := "whyNotBegin", desc := "([I)I" } : Jvm.MethodName) prog_11_method_26_code (1 : Nat) (Option.some FieldType.int)) ∈ TB := TB_of 788 (by decide +kernel) rfl
theorem k_789 : (Jvm.Cond.methodLink "FloodDiaryModel" (93 : Nat) ({ cls := "FloodDiaryModel", name := "record", desc := "()V" } : Jvm.MethodName)) ∈ TB := TB_of 789 (by decide +kernel) rfl
theorem k_791 : (Jvm.Cond.instanceMethod ({ cls := "FloodDiaryModel", name := "record", desc := "()V" } : Jvm.MethodName)) ∈ TB := TB_of 791 (by decide +kernel) rfl
theorem k_792 : (Jvm.Cond.code ({ cls := "FloodDiaryModel", name := "record", desc := "()V" } : Jvm.MethodName) prog_11_method_25_code (2 : Nat) (Option.none : Option FieldType)) ∈ TB := TB_of 792 (by decide +kernel) rfl
theorem k_793 : (Jvm.Cond.methodLink "FloodDiaryModel" (86 : Nat) ({ cls := "FloodDiaryModel", name := "copyState", desc := "([II[II)V" } : Jvm.MethodName)) ∈ TB := TB_of 793 (by decide +kernel) rfl
theorem k_794 : (Jvm.Cond.static ({ cls := "FloodDiaryModel", name := "copyState", desc := "([II[II)V" } : Jvm.MethodName)) ∈ TB := TB_of 794 (by decide +kernel) rfl
theorem k_795 : (Jvm.Cond.code ({ cls := "FloodDiaryModel", name := "copyState", desc := "([II[II)V" } : Jvm.MethodName) prog_11_method_3_code (5 : Nat) (Option.none : Option FieldType)) ∈ TB := TB_of 795 (by decide +kernel) rfl
theorem k_796 : (Jvm.Cond.methodLink "FloodDiaryModel" (96 : Nat) ({ cls := "FloodDiaryModel", name := "beginOn", desc := "([I)I" } : Jvm.MethodName)) ∈ TB := TB_of 796 (by decide +kernel) rfl
theorem k_797 : (Jvm.Cond.static ({ cls := "FloodDiaryModel", name := "beginOn", desc := "([I)I" } : Jvm.MethodName)) ∈ TB := TB_of 797 (by decide +kernel) rfl
theorem k_798 : (Jvm.Cond.code ({ cls := "FloodDiaryModel", name := "beginOn", desc := "([I)I" } : Jvm.MethodName) prog_11_method_27_code (2 : Nat) (Option.some FieldType.int)) ∈ TB := TB_of 798 (by decide +kernel) rfl
theorem k_799 : (Jvm.Cond.methodLink "FloodDiaryModel" (57 : Nat) ({ cls := "FloodDiaryModel", name := "ente\x72", desc := "([IIIIIII)I" } : Jvm.MethodName)) ∈ TB := TB_of 799 (by decide +kernel) rfl
theorem k_800 : (Jvm.Cond.static ({ cls := "FloodDiaryModel", name := "ente\x72", desc := "([IIIIIII)I" } : Jvm.MethodName)) ∈ TB := TB_of 800 (by decide +kernel) rfl
theorem k_801 : (Jvm.Cond.code ({ cls := "FloodDiaryModel", name := "ente\x72", desc := "([IIIIIII)I" } : Jvm.MethodName) prog_11_method_10_code (9 : Nat) (Option.some FieldType.int)) ∈ TB := TB_of 801 (by decide +kernel) rfl
theorem k_802 : (Jvm.Cond.methodLink "FloodDiaryModel" (47 : Nat) ({ cls := "FloodDiaryModel", name := "lastOf", desc := "([II)I" } : Jvm.MethodName)) ∈ TB := TB_of 802 (by decide +kernel) rfl
theorem k_803 : (Jvm.Cond.static ({ cls := "FloodDiaryModel", name := "lastOf", desc := "([II)I" } : Jvm.MethodName)) ∈ TB := TB_of 803 (by decide +kernel) rfl
theorem k_804 : (Jvm.Cond.code ({ cls := "FloodDiaryModel", name := "lastOf", desc := "([II)I" } : Jvm.MethodName) prog_11_method_9_code (3 : Nat) (Option.some FieldType.int)) ∈ TB := TB_of 804 (by decide +kernel) rfl
theorem k_805 : (Jvm.Cond.methodLink "FloodDiaryModel" (43 : Nat) ({ cls := "FloodDiaryModel", name := "at", desc := "(I)I" } : Jvm.MethodName)) ∈ TB := TB_of 805 (by decide +kernel) rfl
theorem k_806 : (Jvm.Cond.static ({ cls := "FloodDiaryModel", name := "at", desc := "(I)I" } : Jvm.MethodName)) ∈ TB := TB_of 806 (by decide +kernel) rfl
theorem k_807 : (Jvm.Cond.code ({ cls := "FloodDiaryModel", name := "at", desc := "(I)I" } : Jvm.MethodName) prog_11_method_6_code (1 : Nat) (Option.some FieldType.int)) ∈ TB := TB_of 807 (by decide +kernel) rfl
theorem k_809 : (Jvm.Cond.instanceMethod ({ cls := "FloodDiaryModel", name := "write", desc := "(III)I" } : Jvm.MethodName)) ∈ TB := TB_of 809 (by decide +kernel) rfl
theorem k_810 : (Jvm.Cond.selects "FloodDiaryModel" ({ cls := "FloodDiaryModel", name := "write", desc := "(III)I" } : Jvm.MethodName) ({ cls := "FloodDiaryModel", name := "write", desc := "(III)I" } : Jvm.MethodName)) ∈ TB := TB_of 810 (by decide +kernel) rfl
theorem k_811 : (Jvm.Cond.code ({ cls := "FloodDiaryModel", name := "write", desc := "(III)I" } : Jvm.MethodName) prog_11_method_32_code (5 : Nat) (Option.some FieldType.int)) ∈ TB := TB_of 811 (by decide +kernel) rfl
theorem k_812 : (Jvm.Cond.methodLink "FloodDiaryModel" (115 : Nat) ({ cls := "FloodDiaryModel", name := "whyNotWrite", desc := "([IIII)I" } : Jvm.MethodName)) ∈ TB := TB_of 812 (by decide +kernel) rfl
theorem k_813 : (Jvm.Cond.static ({ cls := "FloodDiaryModel", name := "whyNotWrite", desc := "([IIII)I" } : Jvm.MethodName)) ∈ TB := TB_of 813 (by decide +kernel) rfl
theorem k_814 : (Jvm.Cond.code ({ cls := "FloodDiaryModel", name := "whyNotWrite", desc := "([IIII)I" } : Jvm.MethodName) prog_11_method_30_code (5 : Nat) (Option.some FieldType.int)) ∈ TB := TB_of 814 (by decide +kernel) rfl
theorem k_815 : (Jvm.Cond.methodLink "FloodDiaryModel" (99 : Nat) ({ cls := "FloodDiaryModel", name := "isWork", desc := "([II)Z" } : Jvm.MethodName)) ∈ TB := TB_of 815 (by decide +kernel) rfl
theorem k_816 : (Jvm.Cond.static ({ cls := "FloodDiaryModel", name := "isWork", desc := "([II)Z" } : Jvm.MethodName)) ∈ TB := TB_of 816 (by decide +kernel) rfl
theorem k_817 : (Jvm.Cond.code ({ cls := "FloodDiaryModel", name := "isWork", desc := "([II)Z" } : Jvm.MethodName) prog_11_method_5_code (2 : Nat) (Option.some FieldType.boolean)) ∈ TB := TB_of 817 (by decide +kernel) rfl
theorem k_818 : (Jvm.Cond.methodLink "FloodDiaryModel" (35 : Nat) ({ cls := "FloodDiaryModel", name := "in", desc := "(JJJ)Z" } : Jvm.MethodName)) ∈ TB := TB_of 818 (by decide +kernel) rfl
theorem k_819 : (Jvm.Cond.static ({ cls := "FloodDiaryModel", name := "in", desc := "(JJJ)Z" } : Jvm.MethodName)) ∈ TB := TB_of 819 (by decide +kernel) rfl
theorem k_820 : (Jvm.Cond.code ({ cls := "FloodDiaryModel", name := "in", desc := "(JJJ)Z" } : Jvm.MethodName) prog_11_method_2_code (6 : Nat) (Option.some FieldType.boolean)) ∈ TB := TB_of 820 (by decide +kernel) rfl
theorem k_821 : (Jvm.Cond.methodLink "FloodDiaryModel" (103 : Nat) ({ cls := "FloodDiaryModel", name := "isPage", desc := "(I)Z" } : Jvm.MethodName)) ∈ TB := TB_of 821 (by decide +kernel) rfl
theorem k_822 : (Jvm.Cond.static ({ cls := "FloodDiaryModel", name := "isPage", desc := "(I)Z" } : Jvm.MethodName)) ∈ TB := TB_of 822 (by decide +kernel) rfl
theorem k_823 : (Jvm.Cond.code ({ cls := "FloodDiaryModel", name := "isPage", desc := "(I)Z" } : Jvm.MethodName) prog_11_method_4_code (1 : Nat) (Option.some FieldType.boolean)) ∈ TB := TB_of 823 (by decide +kernel) rfl
theorem k_824 : (Jvm.Cond.constantLong "FloodDiaryModel" (33 : Nat) (7 : Int64)) ∈ TB := TB_of 824 (by decide +kernel) rfl
theorem k_825 : (Jvm.Cond.constantLong "FloodDiaryModel" (107 : Nat) (999 : Int64)) ∈ TB := TB_of 825 (by decide +kernel) rfl
theorem k_826 : (Jvm.Cond.methodLink "FloodDiaryModel" (109 : Nat) ({ cls := "FloodDiaryModel", name := "holde\x72", desc := "([II)I" } : Jvm.MethodName)) ∈ TB := TB_of 826 (by decide +kernel) rfl
theorem k_827 : (Jvm.Cond.static ({ cls := "FloodDiaryModel", name := "holde\x72", desc := "([II)I" } : Jvm.MethodName)) ∈ TB := TB_of 827 (by decide +kernel) rfl
theorem k_828 : (Jvm.Cond.code ({ cls := "FloodDiaryModel", name := "holde\x72", desc := "([II)I" } : Jvm.MethodName) prog_11_method_13_code (3 : Nat) (Option.some FieldType.int)) ∈ TB := TB_of 828 (by decide +kernel) rfl
theorem k_829 : (Jvm.Cond.methodLink "FloodDiaryModel" (51 : Nat) ({ cls := "FloodDiaryModel", name := "pagesOf", desc := "([II)I" } : Jvm.MethodName)) ∈ TB := TB_of 829 (by decide +kernel) rfl
theorem k_830 : (Jvm.Cond.static ({ cls := "FloodDiaryModel", name := "pagesOf", desc := "([II)I" } : Jvm.MethodName)) ∈ TB := TB_of 830 (by decide +kernel) rfl
theorem k_831 : (Jvm.Cond.code ({ cls := "FloodDiaryModel", name := "pagesOf", desc := "([II)I" } : Jvm.MethodName) prog_11_method_12_code (4 : Nat) (Option.some FieldType.int)) ∈ TB := TB_of 831 (by decide +kernel) rfl
theorem k_832 : (Jvm.Cond.methodLink "FloodDiaryModel" (112 : Nat) ({ cls := "FloodDiaryModel", name := "isStopped", desc := "([II)Z" } : Jvm.MethodName)) ∈ TB := TB_of 832 (by decide +kernel) rfl
theorem k_833 : (Jvm.Cond.static ({ cls := "FloodDiaryModel", name := "isStopped", desc := "([II)Z" } : Jvm.MethodName)) ∈ TB := TB_of 833 (by decide +kernel) rfl
theorem k_834 : (Jvm.Cond.code ({ cls := "FloodDiaryModel", name := "isStopped", desc := "([II)Z" } : Jvm.MethodName) prog_11_method_29_code (2 : Nat) (Option.some FieldType.boolean)) ∈ TB := TB_of 834 (by decide +kernel) rfl
theorem k_835 : (Jvm.Cond.methodLink "FloodDiaryModel" (119 : Nat) ({ cls := "FloodDiaryModel", name := "writeOn", desc := "([IIII)I" } : Jvm.MethodName)) ∈ TB := TB_of 835 (by decide +kernel) rfl
theorem k_836 : (Jvm.Cond.static ({ cls := "FloodDiaryModel", name := "writeOn", desc := "([IIII)I" } : Jvm.MethodName)) ∈ TB := TB_of 836 (by decide +kernel) rfl
theorem k_837 : (Jvm.Cond.code ({ cls := "FloodDiaryModel", name := "writeOn", desc := "([IIII)I" } : Jvm.MethodName) prog_11_method_31_code (6 : Nat) (Option.some FieldType.int)) ∈ TB := TB_of 837 (by decide +kernel) rfl
theorem k_838 : (Jvm.Cond.methodLink "FloodDiaryModel" (39 : Nat) ({ cls := "FloodDiaryModel", name := "takeInHand", desc := "([II)V" } : Jvm.MethodName)) ∈ TB := TB_of 838 (by decide +kernel) rfl
theorem k_839 : (Jvm.Cond.static ({ cls := "FloodDiaryModel", name := "takeInHand", desc := "([II)V" } : Jvm.MethodName)) ∈ TB := TB_of 839 (by decide +kernel) rfl
theorem k_840 : (Jvm.Cond.code ({ cls := "FloodDiaryModel", name := "takeInHand", desc := "([II)V" } : Jvm.MethodName) prog_11_method_7_code (2 : Nat) (Option.none : Option FieldType)) ∈ TB := TB_of 840 (by decide +kernel) rfl
theorem k_841 : (Jvm.Cond.methodLink "FloodDiaryModel" (61 : Nat) ({ cls := "FloodDiaryModel", name := "change", desc := "([IIII)V" } : Jvm.MethodName)) ∈ TB := TB_of 841 (by decide +kernel) rfl
theorem k_842 : (Jvm.Cond.static ({ cls := "FloodDiaryModel", name := "change", desc := "([IIII)V" } : Jvm.MethodName)) ∈ TB := TB_of 842 (by decide +kernel) rfl
theorem k_843 : (Jvm.Cond.code ({ cls := "FloodDiaryModel", name := "change", desc := "([IIII)V" } : Jvm.MethodName) prog_11_method_8_code (4 : Nat) (Option.none : Option FieldType)) ∈ TB := TB_of 843 (by decide +kernel) rfl
theorem k_845 : (Jvm.Cond.instanceMethod ({ cls := "FloodDiaryModel", name := "finish", desc := "(I)I" } : Jvm.MethodName)) ∈ TB := TB_of 845 (by decide +kernel) rfl
theorem k_846 : (Jvm.Cond.selects "FloodDiaryModel" ({ cls := "FloodDiaryModel", name := "finish", desc := "(I)I" } : Jvm.MethodName) ({ cls := "FloodDiaryModel", name := "finish", desc := "(I)I" } : Jvm.MethodName)) ∈ TB := TB_of 846 (by decide +kernel) rfl
theorem k_847 : (Jvm.Cond.code ({ cls := "FloodDiaryModel", name := "finish", desc := "(I)I" } : Jvm.MethodName) prog_11_method_35_code (3 : Nat) (Option.some FieldType.int)) ∈ TB := TB_of 847 (by decide +kernel) rfl
theorem k_848 : (Jvm.Cond.methodLink "FloodDiaryModel" (125 : Nat) ({ cls := "FloodDiaryModel", name := "whyNotFinish", desc := "([II)I" } : Jvm.MethodName)) ∈ TB := TB_of 848 (by decide +kernel) rfl
theorem k_849 : (Jvm.Cond.static ({ cls := "FloodDiaryModel", name := "whyNotFinish", desc := "([II)I" } : Jvm.MethodName)) ∈ TB := TB_of 849 (by decide +kernel) rfl
theorem k_850 : (Jvm.Cond.code ({ cls := "FloodDiaryModel", name := "whyNotFinish", desc := "([II)I" } : Jvm.MethodName) prog_11_method_33_code (2 : Nat) (Option.some FieldType.int)) ∈ TB := TB_of 850 (by decide +kernel) rfl
theorem k_851 : (Jvm.Cond.methodLink "FloodDiaryModel" (128 : Nat) ({ cls := "FloodDiaryModel", name := "finishOn", desc := "([II)I" } : Jvm.MethodName)) ∈ TB := TB_of 851 (by decide +kernel) rfl
theorem k_852 : (Jvm.Cond.static ({ cls := "FloodDiaryModel", name := "finishOn", desc := "([II)I" } : Jvm.MethodName)) ∈ TB := TB_of 852 (by decide +kernel) rfl
theorem k_853 : (Jvm.Cond.code ({ cls := "FloodDiaryModel", name := "finishOn", desc := "([II)I" } : Jvm.MethodName) prog_11_method_34_code (3 : Nat) (Option.some FieldType.int)) ∈ TB := TB_of 853 (by decide +kernel) rfl
theorem k_854 : (Jvm.Cond.methodLink "FloodDiaryModel" (122 : Nat) ({ cls := "FloodDiaryModel", name := "saveTo", desc := "([II)V" } : Jvm.MethodName)) ∈ TB := TB_of 854 (by decide +kernel) rfl
theorem k_855 : (Jvm.Cond.static ({ cls := "FloodDiaryModel", name := "saveTo", desc := "([II)V" } : Jvm.MethodName)) ∈ TB := TB_of 855 (by decide +kernel) rfl
theorem k_856 : (Jvm.Cond.code ({ cls := "FloodDiaryModel", name := "saveTo", desc := "([II)V" } : Jvm.MethodName) prog_11_method_17_code (2 : Nat) (Option.none : Option FieldType)) ∈ TB := TB_of 856 (by decide +kernel) rfl
theorem k_858 : (Jvm.Cond.instanceMethod ({ cls := "FloodDiaryModel", name := "tea\x72", desc := "(I)I" } : Jvm.MethodName)) ∈ TB := TB_of 858 (by decide +kernel) rfl
theorem k_859 : (Jvm.Cond.selects "FloodDiaryModel" ({ cls := "FloodDiaryModel", name := "tea\x72", desc := "(I)I" } : Jvm.MethodName) ({ cls := "FloodDiaryModel", name := "tea\x72", desc := "(I)I" } : Jvm.MethodName)) ∈ TB := TB_of 859 (by decide +kernel) rfl
theorem k_860 : (Jvm.Cond.code ({ cls := "FloodDiaryModel", name := "tea\x72", desc := "(I)I" } : Jvm.MethodName) prog_11_method_37_code (3 : Nat) (Option.some FieldType.int)) ∈ TB := TB_of 860 (by decide +kernel) rfl
theorem k_861 : (Jvm.Cond.methodLink "FloodDiaryModel" (134 : Nat) ({ cls := "FloodDiaryModel", name := "whyNotTea\x72", desc := "([II)I" } : Jvm.MethodName)) ∈ TB := TB_of 861 (by decide +kernel) rfl
theorem k_862 : (Jvm.Cond.static ({ cls := "FloodDiaryModel", name := "whyNotTea\x72", desc := "([II)I" } : Jvm.MethodName)) ∈ TB := TB_of 862 (by decide +kernel) rfl
theorem k_863 : (Jvm.Cond.code ({ cls := "FloodDiaryModel", name := "whyNotTea\x72", desc := "([II)I" } : Jvm.MethodName) prog_11_method_36_code (2 : Nat) (Option.some FieldType.int)) ∈ TB := TB_of 863 (by decide +kernel) rfl
theorem k_864 : (Jvm.Cond.methodLink "FloodDiaryModel" (131 : Nat) ({ cls := "FloodDiaryModel", name := "stepsToTea\x72", desc := "([II)I" } : Jvm.MethodName)) ∈ TB := TB_of 864 (by decide +kernel) rfl
theorem k_865 : (Jvm.Cond.static ({ cls := "FloodDiaryModel", name := "stepsToTea\x72", desc := "([II)I" } : Jvm.MethodName)) ∈ TB := TB_of 865 (by decide +kernel) rfl
theorem k_866 : (Jvm.Cond.code ({ cls := "FloodDiaryModel", name := "stepsToTea\x72", desc := "([II)I" } : Jvm.MethodName) prog_11_method_16_code (4 : Nat) (Option.some FieldType.int)) ∈ TB := TB_of 866 (by decide +kernel) rfl
theorem k_867 : (Jvm.Cond.methodLink "FloodDiaryModel" (137 : Nat) ({ cls := "FloodDiaryModel", name := "tearOn", desc := "([II)I" } : Jvm.MethodName)) ∈ TB := TB_of 867 (by decide +kernel) rfl
theorem k_868 : (Jvm.Cond.static ({ cls := "FloodDiaryModel", name := "tearOn", desc := "([II)I" } : Jvm.MethodName)) ∈ TB := TB_of 868 (by decide +kernel) rfl
theorem k_869 : (Jvm.Cond.code ({ cls := "FloodDiaryModel", name := "tearOn", desc := "([II)I" } : Jvm.MethodName) prog_11_method_15_code (3 : Nat) (Option.some FieldType.int)) ∈ TB := TB_of 869 (by decide +kernel) rfl
theorem k_870 : (Jvm.Cond.methodLink "FloodDiaryModel" (65 : Nat) ({ cls := "FloodDiaryModel", name := "stepBack", desc := "([II)V" } : Jvm.MethodName)) ∈ TB := TB_of 870 (by decide +kernel) rfl
theorem k_871 : (Jvm.Cond.static ({ cls := "FloodDiaryModel", name := "stepBack", desc := "([II)V" } : Jvm.MethodName)) ∈ TB := TB_of 871 (by decide +kernel) rfl
theorem k_872 : (Jvm.Cond.code ({ cls := "FloodDiaryModel", name := "stepBack", desc := "([II)V" } : Jvm.MethodName) prog_11_method_14_code (6 : Nat) (Option.none : Option FieldType)) ∈ TB := TB_of 872 (by decide +kernel) rfl
theorem k_873 : (Jvm.Cond.methodLink "FloodDiaryModel" (54 : Nat) ({ cls := "FloodDiaryModel", name := "goesOnWith", desc := "([II)I" } : Jvm.MethodName)) ∈ TB := TB_of 873 (by decide +kernel) rfl
theorem k_874 : (Jvm.Cond.static ({ cls := "FloodDiaryModel", name := "goesOnWith", desc := "([II)I" } : Jvm.MethodName)) ∈ TB := TB_of 874 (by decide +kernel) rfl
theorem k_875 : (Jvm.Cond.code ({ cls := "FloodDiaryModel", name := "goesOnWith", desc := "([II)I" } : Jvm.MethodName) prog_11_method_11_code (3 : Nat) (Option.some FieldType.int)) ∈ TB := TB_of 875 (by decide +kernel) rfl
theorem k_877 : (Jvm.Cond.instanceMethod ({ cls := "FloodDiaryModel", name := "save", desc := "(I)I" } : Jvm.MethodName)) ∈ TB := TB_of 877 (by decide +kernel) rfl
theorem k_878 : (Jvm.Cond.selects "FloodDiaryModel" ({ cls := "FloodDiaryModel", name := "save", desc := "(I)I" } : Jvm.MethodName) ({ cls := "FloodDiaryModel", name := "save", desc := "(I)I" } : Jvm.MethodName)) ∈ TB := TB_of 878 (by decide +kernel) rfl
theorem k_879 : (Jvm.Cond.code ({ cls := "FloodDiaryModel", name := "save", desc := "(I)I" } : Jvm.MethodName) prog_11_method_39_code (3 : Nat) (Option.some FieldType.int)) ∈ TB := TB_of 879 (by decide +kernel) rfl
theorem k_880 : (Jvm.Cond.methodLink "FloodDiaryModel" (140 : Nat) ({ cls := "FloodDiaryModel", name := "whyNotSave", desc := "([II)I" } : Jvm.MethodName)) ∈ TB := TB_of 880 (by decide +kernel) rfl
theorem k_881 : (Jvm.Cond.static ({ cls := "FloodDiaryModel", name := "whyNotSave", desc := "([II)I" } : Jvm.MethodName)) ∈ TB := TB_of 881 (by decide +kernel) rfl
theorem k_882 : (Jvm.Cond.code ({ cls := "FloodDiaryModel", name := "whyNotSave", desc := "([II)I" } : Jvm.MethodName) prog_11_method_38_code (2 : Nat) (Option.some FieldType.int)) ∈ TB := TB_of 882 (by decide +kernel) rfl
theorem k_884 : (Jvm.Cond.instanceMethod ({ cls := "FloodDiaryModel", name := "putAway", desc := "(I)I" } : Jvm.MethodName)) ∈ TB := TB_of 884 (by decide +kernel) rfl
theorem k_885 : (Jvm.Cond.selects "FloodDiaryModel" ({ cls := "FloodDiaryModel", name := "putAway", desc := "(I)I" } : Jvm.MethodName) ({ cls := "FloodDiaryModel", name := "putAway", desc := "(I)I" } : Jvm.MethodName)) ∈ TB := TB_of 885 (by decide +kernel) rfl
theorem k_886 : (Jvm.Cond.code ({ cls := "FloodDiaryModel", name := "putAway", desc := "(I)I" } : Jvm.MethodName) prog_11_method_42_code (3 : Nat) (Option.some FieldType.int)) ∈ TB := TB_of 886 (by decide +kernel) rfl
theorem k_887 : (Jvm.Cond.methodLink "FloodDiaryModel" (143 : Nat) ({ cls := "FloodDiaryModel", name := "whyNotPutAway", desc := "([II)I" } : Jvm.MethodName)) ∈ TB := TB_of 887 (by decide +kernel) rfl
theorem k_888 : (Jvm.Cond.static ({ cls := "FloodDiaryModel", name := "whyNotPutAway", desc := "([II)I" } : Jvm.MethodName)) ∈ TB := TB_of 888 (by decide +kernel) rfl
theorem k_889 : (Jvm.Cond.code ({ cls := "FloodDiaryModel", name := "whyNotPutAway", desc := "([II)I" } : Jvm.MethodName) prog_11_method_40_code (2 : Nat) (Option.some FieldType.int)) ∈ TB := TB_of 889 (by decide +kernel) rfl
theorem k_890 : (Jvm.Cond.methodLink "FloodDiaryModel" (146 : Nat) ({ cls := "FloodDiaryModel", name := "putAwayOn", desc := "([II)I" } : Jvm.MethodName)) ∈ TB := TB_of 890 (by decide +kernel) rfl
theorem k_891 : (Jvm.Cond.static ({ cls := "FloodDiaryModel", name := "putAwayOn", desc := "([II)I" } : Jvm.MethodName)) ∈ TB := TB_of 891 (by decide +kernel) rfl
theorem k_892 : (Jvm.Cond.code ({ cls := "FloodDiaryModel", name := "putAwayOn", desc := "([II)I" } : Jvm.MethodName) prog_11_method_41_code (2 : Nat) (Option.some FieldType.int)) ∈ TB := TB_of 892 (by decide +kernel) rfl
theorem k_894 : (Jvm.Cond.instanceMethod ({ cls := "FloodDiaryModel", name := "flood", desc := "()I" } : Jvm.MethodName)) ∈ TB := TB_of 894 (by decide +kernel) rfl
theorem k_895 : (Jvm.Cond.selects "FloodDiaryModel" ({ cls := "FloodDiaryModel", name := "flood", desc := "()I" } : Jvm.MethodName) ({ cls := "FloodDiaryModel", name := "flood", desc := "()I" } : Jvm.MethodName)) ∈ TB := TB_of 895 (by decide +kernel) rfl
theorem k_896 : (Jvm.Cond.code ({ cls := "FloodDiaryModel", name := "flood", desc := "()I" } : Jvm.MethodName) prog_11_method_43_code (1 : Nat) (Option.some FieldType.int)) ∈ TB := TB_of 896 (by decide +kernel) rfl
theorem k_897 : (Jvm.Cond.methodLink "FloodDiaryModel" (149 : Nat) ({ cls := "FloodDiaryModel", name := "floodOn", desc := "([I)I" } : Jvm.MethodName)) ∈ TB := TB_of 897 (by decide +kernel) rfl
theorem k_898 : (Jvm.Cond.static ({ cls := "FloodDiaryModel", name := "floodOn", desc := "([I)I" } : Jvm.MethodName)) ∈ TB := TB_of 898 (by decide +kernel) rfl
theorem k_899 : (Jvm.Cond.code ({ cls := "FloodDiaryModel", name := "floodOn", desc := "([I)I" } : Jvm.MethodName) prog_11_method_19_code (3 : Nat) (Option.some FieldType.int)) ∈ TB := TB_of 899 (by decide +kernel) rfl
theorem k_900 : (Jvm.Cond.methodLink "FloodDiaryModel" (68 : Nat) ({ cls := "FloodDiaryModel", name := "lose", desc := "([II)V" } : Jvm.MethodName)) ∈ TB := TB_of 900 (by decide +kernel) rfl
theorem k_901 : (Jvm.Cond.static ({ cls := "FloodDiaryModel", name := "lose", desc := "([II)V" } : Jvm.MethodName)) ∈ TB := TB_of 901 (by decide +kernel) rfl
theorem k_902 : (Jvm.Cond.code ({ cls := "FloodDiaryModel", name := "lose", desc := "([II)V" } : Jvm.MethodName) prog_11_method_18_code (5 : Nat) (Option.none : Option FieldType)) ∈ TB := TB_of 902 (by decide +kernel) rfl
theorem k_904 : (Jvm.Cond.instanceMethod ({ cls := "FloodDiaryModel", name := "blu\x72", desc := "(I)I" } : Jvm.MethodName)) ∈ TB := TB_of 904 (by decide +kernel) rfl
theorem k_905 : (Jvm.Cond.selects "FloodDiaryModel" ({ cls := "FloodDiaryModel", name := "blu\x72", desc := "(I)I" } : Jvm.MethodName) ({ cls := "FloodDiaryModel", name := "blu\x72", desc := "(I)I" } : Jvm.MethodName)) ∈ TB := TB_of 905 (by decide +kernel) rfl
theorem k_906 : (Jvm.Cond.code ({ cls := "FloodDiaryModel", name := "blu\x72", desc := "(I)I" } : Jvm.MethodName) prog_11_method_44_code (5 : Nat) (Option.some FieldType.int)) ∈ TB := TB_of 906 (by decide +kernel) rfl
theorem k_907 : (Jvm.Cond.constantLong "FloodDiaryModel" (152 : Nat) (5 : Int64)) ∈ TB := TB_of 907 (by decide +kernel) rfl
theorem k_909 : (Jvm.Cond.instanceMethod ({ cls := "FloodDiaryModel", name := "mend", desc := "(I)I" } : Jvm.MethodName)) ∈ TB := TB_of 909 (by decide +kernel) rfl
theorem k_910 : (Jvm.Cond.selects "FloodDiaryModel" ({ cls := "FloodDiaryModel", name := "mend", desc := "(I)I" } : Jvm.MethodName) ({ cls := "FloodDiaryModel", name := "mend", desc := "(I)I" } : Jvm.MethodName)) ∈ TB := TB_of 910 (by decide +kernel) rfl
theorem k_911 : (Jvm.Cond.code ({ cls := "FloodDiaryModel", name := "mend", desc := "(I)I" } : Jvm.MethodName) prog_11_method_45_code (2 : Nat) (Option.some FieldType.int)) ∈ TB := TB_of 911 (by decide +kernel) rfl
theorem k_912 : (Jvm.Cond.methodLink "FloodDiaryModel" (154 : Nat) ({ cls := "FloodDiaryModel", name := "mendOn", desc := "([II)I" } : Jvm.MethodName)) ∈ TB := TB_of 912 (by decide +kernel) rfl
theorem k_913 : (Jvm.Cond.static ({ cls := "FloodDiaryModel", name := "mendOn", desc := "([II)I" } : Jvm.MethodName)) ∈ TB := TB_of 913 (by decide +kernel) rfl
theorem k_914 : (Jvm.Cond.code ({ cls := "FloodDiaryModel", name := "mendOn", desc := "([II)I" } : Jvm.MethodName) prog_11_method_24_code (3 : Nat) (Option.some FieldType.int)) ∈ TB := TB_of 914 (by decide +kernel) rfl
theorem k_915 : (Jvm.Cond.methodLink "FloodDiaryModel" (78 : Nat) ({ cls := "FloodDiaryModel", name := "isLeft", desc := "([I)Z" } : Jvm.MethodName)) ∈ TB := TB_of 915 (by decide +kernel) rfl
theorem k_916 : (Jvm.Cond.static ({ cls := "FloodDiaryModel", name := "isLeft", desc := "([I)Z" } : Jvm.MethodName)) ∈ TB := TB_of 916 (by decide +kernel) rfl
theorem k_917 : (Jvm.Cond.code ({ cls := "FloodDiaryModel", name := "isLeft", desc := "([I)Z" } : Jvm.MethodName) prog_11_method_22_code (1 : Nat) (Option.some FieldType.boolean)) ∈ TB := TB_of 917 (by decide +kernel) rfl
theorem k_918 : (Jvm.Cond.methodLink "FloodDiaryModel" (71 : Nat) ({ cls := "FloodDiaryModel", name := "nextAgain", desc := "([I)I" } : Jvm.MethodName)) ∈ TB := TB_of 918 (by decide +kernel) rfl
theorem k_919 : (Jvm.Cond.static ({ cls := "FloodDiaryModel", name := "nextAgain", desc := "([I)I" } : Jvm.MethodName)) ∈ TB := TB_of 919 (by decide +kernel) rfl
theorem k_920 : (Jvm.Cond.code ({ cls := "FloodDiaryModel", name := "nextAgain", desc := "([I)I" } : Jvm.MethodName) prog_11_method_20_code (2 : Nat) (Option.some FieldType.int)) ∈ TB := TB_of 920 (by decide +kernel) rfl
theorem k_921 : (Jvm.Cond.methodLink "FloodDiaryModel" (75 : Nat) ({ cls := "FloodDiaryModel", name := "nextBack", desc := "([I)I" } : Jvm.MethodName)) ∈ TB := TB_of 921 (by decide +kernel) rfl
theorem k_922 : (Jvm.Cond.static ({ cls := "FloodDiaryModel", name := "nextBack", desc := "([I)I" } : Jvm.MethodName)) ∈ TB := TB_of 922 (by decide +kernel) rfl
theorem k_923 : (Jvm.Cond.code ({ cls := "FloodDiaryModel", name := "nextBack", desc := "([I)I" } : Jvm.MethodName) prog_11_method_21_code (3 : Nat) (Option.some FieldType.int)) ∈ TB := TB_of 923 (by decide +kernel) rfl
theorem k_924 : (Jvm.Cond.methodLink "FloodDiaryModel" (82 : Nat) ({ cls := "FloodDiaryModel", name := "step", desc := "([I)V" } : Jvm.MethodName)) ∈ TB := TB_of 924 (by decide +kernel) rfl
theorem k_925 : (Jvm.Cond.static ({ cls := "FloodDiaryModel", name := "step", desc := "([I)V" } : Jvm.MethodName)) ∈ TB := TB_of 925 (by decide +kernel) rfl
theorem k_926 : (Jvm.Cond.code ({ cls := "FloodDiaryModel", name := "step", desc := "([I)V" } : Jvm.MethodName) prog_11_method_23_code (3 : Nat) (Option.none : Option FieldType)) ∈ TB := TB_of 926 (by decide +kernel) rfl
theorem k_928 : (Jvm.Cond.instanceMethod ({ cls := "FloodDiaryModel", name := "ofPage", desc := "(II)I" } : Jvm.MethodName)) ∈ TB := TB_of 928 (by decide +kernel) rfl
theorem k_929 : (Jvm.Cond.selects "FloodDiaryModel" ({ cls := "FloodDiaryModel", name := "ofPage", desc := "(II)I" } : Jvm.MethodName) ({ cls := "FloodDiaryModel", name := "ofPage", desc := "(II)I" } : Jvm.MethodName)) ∈ TB := TB_of 929 (by decide +kernel) rfl
theorem k_930 : (Jvm.Cond.code ({ cls := "FloodDiaryModel", name := "ofPage", desc := "(II)I" } : Jvm.MethodName) prog_11_method_46_code (4 : Nat) (Option.some FieldType.int)) ∈ TB := TB_of 930 (by decide +kernel) rfl
theorem k_931 : (Jvm.Cond.methodLink "FloodDiaryModel" (157 : Nat) ({ cls := "FloodDiaryModel", name := "isDirty", desc := "(I)Z" } : Jvm.MethodName)) ∈ TB := TB_of 931 (by decide +kernel) rfl
theorem k_933 : (Jvm.Cond.instanceMethod ({ cls := "FloodDiaryModel", name := "isDirty", desc := "(I)Z" } : Jvm.MethodName)) ∈ TB := TB_of 933 (by decide +kernel) rfl
theorem k_934 : (Jvm.Cond.code ({ cls := "FloodDiaryModel", name := "isDirty", desc := "(I)Z" } : Jvm.MethodName) prog_11_method_47_code (2 : Nat) (Option.some FieldType.boolean)) ∈ TB := TB_of 934 (by decide +kernel) rfl
theorem k_936 : (Jvm.Cond.instanceMethod ({ cls := "FloodDiaryModel", name := "ofWork", desc := "(II)I" } : Jvm.MethodName)) ∈ TB := TB_of 936 (by decide +kernel) rfl
theorem k_937 : (Jvm.Cond.selects "FloodDiaryModel" ({ cls := "FloodDiaryModel", name := "ofWork", desc := "(II)I" } : Jvm.MethodName) ({ cls := "FloodDiaryModel", name := "ofWork", desc := "(II)I" } : Jvm.MethodName)) ∈ TB := TB_of 937 (by decide +kernel) rfl
theorem k_938 : (Jvm.Cond.code ({ cls := "FloodDiaryModel", name := "ofWork", desc := "(II)I" } : Jvm.MethodName) prog_11_method_48_code (6 : Nat) (Option.some FieldType.int)) ∈ TB := TB_of 938 (by decide +kernel) rfl
theorem k_940 : (Jvm.Cond.instanceMethod ({ cls := "FloodDiaryModel", name := "ofEntry", desc := "(II)I" } : Jvm.MethodName)) ∈ TB := TB_of 940 (by decide +kernel) rfl
theorem k_941 : (Jvm.Cond.selects "FloodDiaryModel" ({ cls := "FloodDiaryModel", name := "ofEntry", desc := "(II)I" } : Jvm.MethodName) ({ cls := "FloodDiaryModel", name := "ofEntry", desc := "(II)I" } : Jvm.MethodName)) ∈ TB := TB_of 941 (by decide +kernel) rfl
theorem k_942 : (Jvm.Cond.code ({ cls := "FloodDiaryModel", name := "ofEntry", desc := "(II)I" } : Jvm.MethodName) prog_11_method_49_code (3 : Nat) (Option.some FieldType.int)) ∈ TB := TB_of 942 (by decide +kernel) rfl
theorem k_944 : (Jvm.Cond.instanceMethod ({ cls := "FloodDiaryModel", name := "count", desc := "(I)I" } : Jvm.MethodName)) ∈ TB := TB_of 944 (by decide +kernel) rfl
theorem k_945 : (Jvm.Cond.selects "FloodDiaryModel" ({ cls := "FloodDiaryModel", name := "count", desc := "(I)I" } : Jvm.MethodName) ({ cls := "FloodDiaryModel", name := "count", desc := "(I)I" } : Jvm.MethodName)) ∈ TB := TB_of 945 (by decide +kernel) rfl
theorem k_946 : (Jvm.Cond.code ({ cls := "FloodDiaryModel", name := "count", desc := "(I)I" } : Jvm.MethodName) prog_11_method_50_code (4 : Nat) (Option.some FieldType.int)) ∈ TB := TB_of 946 (by decide +kernel) rfl
theorem k_948 : (Jvm.Cond.instanceMethod ({ cls := "FloodDiaryModel", name := "stepsToMend", desc := "()I" } : Jvm.MethodName)) ∈ TB := TB_of 948 (by decide +kernel) rfl
theorem k_949 : (Jvm.Cond.selects "FloodDiaryModel" ({ cls := "FloodDiaryModel", name := "stepsToMend", desc := "()I" } : Jvm.MethodName) ({ cls := "FloodDiaryModel", name := "stepsToMend", desc := "()I" } : Jvm.MethodName)) ∈ TB := TB_of 949 (by decide +kernel) rfl
theorem k_950 : (Jvm.Cond.code ({ cls := "FloodDiaryModel", name := "stepsToMend", desc := "()I" } : Jvm.MethodName) prog_11_method_52_code (1 : Nat) (Option.some FieldType.int)) ∈ TB := TB_of 950 (by decide +kernel) rfl
theorem k_951 : (Jvm.Cond.methodLink "FloodDiaryModel" (163 : Nat) ({ cls := "FloodDiaryModel", name := "mendAll", desc := "()I" } : Jvm.MethodName)) ∈ TB := TB_of 951 (by decide +kernel) rfl
theorem k_953 : (Jvm.Cond.instanceMethod ({ cls := "FloodDiaryModel", name := "mendAll", desc := "()I" } : Jvm.MethodName)) ∈ TB := TB_of 953 (by decide +kernel) rfl
theorem k_954 : (Jvm.Cond.code ({ cls := "FloodDiaryModel", name := "mendAll", desc := "()I" } : Jvm.MethodName) prog_11_method_51_code (2 : Nat) (Option.some FieldType.int)) ∈ TB := TB_of 954 (by decide +kernel) rfl
theorem k_956 : (Jvm.Cond.instanceMethod ({ cls := "FloodDiaryModel", name := "wouldBe", desc := "(I)I" } : Jvm.MethodName)) ∈ TB := TB_of 956 (by decide +kernel) rfl
theorem k_957 : (Jvm.Cond.selects "FloodDiaryModel" ({ cls := "FloodDiaryModel", name := "wouldBe", desc := "(I)I" } : Jvm.MethodName) ({ cls := "FloodDiaryModel", name := "wouldBe", desc := "(I)I" } : Jvm.MethodName)) ∈ TB := TB_of 957 (by decide +kernel) rfl
theorem k_958 : (Jvm.Cond.code ({ cls := "FloodDiaryModel", name := "wouldBe", desc := "(I)I" } : Jvm.MethodName) prog_11_method_54_code (2 : Nat) (Option.some FieldType.int)) ∈ TB := TB_of 958 (by decide +kernel) rfl
theorem k_959 : (Jvm.Cond.methodLink "FloodDiaryModel" (167 : Nat) ({ cls := "FloodDiaryModel", name := "valueOf", desc := "([II)I" } : Jvm.MethodName)) ∈ TB := TB_of 959 (by decide +kernel) rfl
theorem k_960 : (Jvm.Cond.static ({ cls := "FloodDiaryModel", name := "valueOf", desc := "([II)I" } : Jvm.MethodName)) ∈ TB := TB_of 960 (by decide +kernel) rfl
theorem k_961 : (Jvm.Cond.code ({ cls := "FloodDiaryModel", name := "valueOf", desc := "([II)I" } : Jvm.MethodName) prog_11_method_53_code (2 : Nat) (Option.some FieldType.int)) ∈ TB := TB_of 961 (by decide +kernel) rfl
theorem k_963 : (Jvm.Cond.instanceMethod ({ cls := "FloodDiaryModel", name := "firstNeeded", desc := "()I" } : Jvm.MethodName)) ∈ TB := TB_of 963 (by decide +kernel) rfl
theorem k_964 : (Jvm.Cond.selects "FloodDiaryModel" ({ cls := "FloodDiaryModel", name := "firstNeeded", desc := "()I" } : Jvm.MethodName) ({ cls := "FloodDiaryModel", name := "firstNeeded", desc := "()I" } : Jvm.MethodName)) ∈ TB := TB_of 964 (by decide +kernel) rfl
theorem k_965 : (Jvm.Cond.code ({ cls := "FloodDiaryModel", name := "firstNeeded", desc := "()I" } : Jvm.MethodName) prog_11_method_56_code (4 : Nat) (Option.some FieldType.int)) ∈ TB := TB_of 965 (by decide +kernel) rfl
theorem k_966 : (Jvm.Cond.methodLink "FloodDiaryModel" (170 : Nat) ({ cls := "FloodDiaryModel", name := "endsSaved", desc := "(I)Z" } : Jvm.MethodName)) ∈ TB := TB_of 966 (by decide +kernel) rfl
theorem k_968 : (Jvm.Cond.instanceMethod ({ cls := "FloodDiaryModel", name := "endsSaved", desc := "(I)Z" } : Jvm.MethodName)) ∈ TB := TB_of 968 (by decide +kernel) rfl
theorem k_969 : (Jvm.Cond.code ({ cls := "FloodDiaryModel", name := "endsSaved", desc := "(I)Z" } : Jvm.MethodName) prog_11_method_55_code (3 : Nat) (Option.some FieldType.boolean)) ∈ TB := TB_of 969 (by decide +kernel) rfl
theorem k_971 : (Jvm.Cond.instanceMethod ({ cls := "FloodDiaryModel", name := "settled", desc := "(I)I" } : Jvm.MethodName)) ∈ TB := TB_of 971 (by decide +kernel) rfl
theorem k_972 : (Jvm.Cond.selects "FloodDiaryModel" ({ cls := "FloodDiaryModel", name := "settled", desc := "(I)I" } : Jvm.MethodName) ({ cls := "FloodDiaryModel", name := "settled", desc := "(I)I" } : Jvm.MethodName)) ∈ TB := TB_of 972 (by decide +kernel) rfl
theorem k_973 : (Jvm.Cond.code ({ cls := "FloodDiaryModel", name := "settled", desc := "(I)I" } : Jvm.MethodName) prog_11_method_57_code (4 : Nat) (Option.some FieldType.int)) ∈ TB := TB_of 973 (by decide +kernel) rfl
theorem k_975 : (Jvm.Cond.instanceMethod ({ cls := "FloodDiaryModel", name := "put", desc := "(J)I" } : Jvm.MethodName)) ∈ TB := TB_of 975 (by decide +kernel) rfl
theorem k_976 : (Jvm.Cond.selects "FloodDiaryModel" ({ cls := "FloodDiaryModel", name := "put", desc := "(J)I" } : Jvm.MethodName) ({ cls := "FloodDiaryModel", name := "put", desc := "(J)I" } : Jvm.MethodName)) ∈ TB := TB_of 976 (by decide +kernel) rfl
theorem k_977 : (Jvm.Cond.code ({ cls := "FloodDiaryModel", name := "put", desc := "(J)I" } : Jvm.MethodName) prog_11_method_58_code (7 : Nat) (Option.some FieldType.int)) ∈ TB := TB_of 977 (by decide +kernel) rfl
theorem k_978 : (Jvm.Cond.constantLong "FloodDiaryModel" (173 : Nat) (255 : Int64)) ∈ TB := TB_of 978 (by decide +kernel) rfl
theorem k_979 : (Jvm.Cond.constantLong "FloodDiaryModel" (175 : Nat) (33 : Int64)) ∈ TB := TB_of 979 (by decide +kernel) rfl
theorem k_980 : (Jvm.Cond.constantLong "FloodDiaryModel" (177 : Nat) (126 : Int64)) ∈ TB := TB_of 980 (by decide +kernel) rfl
theorem k_982 : (Jvm.Cond.instanceMethod ({ cls := "FloodDiaryModel", name := "wipe", desc := "()I" } : Jvm.MethodName)) ∈ TB := TB_of 982 (by decide +kernel) rfl
theorem k_983 : (Jvm.Cond.selects "FloodDiaryModel" ({ cls := "FloodDiaryModel", name := "wipe", desc := "()I" } : Jvm.MethodName) ({ cls := "FloodDiaryModel", name := "wipe", desc := "()I" } : Jvm.MethodName)) ∈ TB := TB_of 983 (by decide +kernel) rfl
theorem k_984 : (Jvm.Cond.code ({ cls := "FloodDiaryModel", name := "wipe", desc := "()I" } : Jvm.MethodName) prog_11_method_59_code (2 : Nat) (Option.some FieldType.int)) ∈ TB := TB_of 984 (by decide +kernel) rfl
theorem k_986 : (Jvm.Cond.instanceMethod ({ cls := "FloodDiaryModel", name := "fault", desc := "()I" } : Jvm.MethodName)) ∈ TB := TB_of 986 (by decide +kernel) rfl
theorem k_987 : (Jvm.Cond.selects "FloodDiaryModel" ({ cls := "FloodDiaryModel", name := "fault", desc := "()I" } : Jvm.MethodName) ({ cls := "FloodDiaryModel", name := "fault", desc := "()I" } : Jvm.MethodName)) ∈ TB := TB_of 987 (by decide +kernel) rfl
theorem k_988 : (Jvm.Cond.code ({ cls := "FloodDiaryModel", name := "fault", desc := "()I" } : Jvm.MethodName) prog_11_method_64_code (2 : Nat) (Option.some FieldType.int)) ∈ TB := TB_of 988 (by decide +kernel) rfl
theorem k_989 : (Jvm.Cond.methodLink "FloodDiaryModel" (196 : Nat) ({ cls := "FloodDiaryModel", name := "readOrde\x72", desc := "()Z" } : Jvm.MethodName)) ∈ TB := TB_of 989 (by decide +kernel) rfl
theorem k_991 : (Jvm.Cond.instanceMethod ({ cls := "FloodDiaryModel", name := "readOrde\x72", desc := "()Z" } : Jvm.MethodName)) ∈ TB := TB_of 991 (by decide +kernel) rfl
theorem k_992 : (Jvm.Cond.code ({ cls := "FloodDiaryModel", name := "readOrde\x72", desc := "()Z" } : Jvm.MethodName) prog_11_method_63_code (3 : Nat) (Option.some FieldType.boolean)) ∈ TB := TB_of 992 (by decide +kernel) rfl
theorem k_993 : (Jvm.Cond.methodLink "FloodDiaryModel" (182 : Nat) ({ cls := "FloodDiaryModel", name := "sign", desc := "()I" } : Jvm.MethodName)) ∈ TB := TB_of 993 (by decide +kernel) rfl
theorem k_995 : (Jvm.Cond.instanceMethod ({ cls := "FloodDiaryModel", name := "sign", desc := "()I" } : Jvm.MethodName)) ∈ TB := TB_of 995 (by decide +kernel) rfl
theorem k_996 : (Jvm.Cond.code ({ cls := "FloodDiaryModel", name := "sign", desc := "()I" } : Jvm.MethodName) prog_11_method_60_code (1 : Nat) (Option.some FieldType.int)) ∈ TB := TB_of 996 (by decide +kernel) rfl
theorem k_997 : (Jvm.Cond.methodLink "FloodDiaryModel" (185 : Nat) ({ cls := "FloodDiaryModel", name := "taken", desc := "(II)I" } : Jvm.MethodName)) ∈ TB := TB_of 997 (by decide +kernel) rfl
theorem k_999 : (Jvm.Cond.instanceMethod ({ cls := "FloodDiaryModel", name := "taken", desc := "(II)I" } : Jvm.MethodName)) ∈ TB := TB_of 999 (by decide +kernel) rfl
theorem k_1000 : (Jvm.Cond.code ({ cls := "FloodDiaryModel", name := "taken", desc := "(II)I" } : Jvm.MethodName) prog_11_method_61_code (4 : Nat) (Option.some FieldType.int)) ∈ TB := TB_of 1000 (by decide +kernel) rfl
theorem k_1001 : (Jvm.Cond.methodLink "FloodDiaryModel" (193 : Nat) ({ cls := "FloodDiaryModel", name := "numbe\x72", desc := "()I" } : Jvm.MethodName)) ∈ TB := TB_of 1001 (by decide +kernel) rfl
theorem k_1003 : (Jvm.Cond.instanceMethod ({ cls := "FloodDiaryModel", name := "numbe\x72", desc := "()I" } : Jvm.MethodName)) ∈ TB := TB_of 1003 (by decide +kernel) rfl
theorem k_1004 : (Jvm.Cond.code ({ cls := "FloodDiaryModel", name := "numbe\x72", desc := "()I" } : Jvm.MethodName) prog_11_method_62_code (2 : Nat) (Option.some FieldType.int)) ∈ TB := TB_of 1004 (by decide +kernel) rfl
theorem k_1005 : (Jvm.Cond.constantLong "FloodDiaryModel" (189 : Nat) (48 : Int64)) ∈ TB := TB_of 1005 (by decide +kernel) rfl
theorem k_1006 : (Jvm.Cond.constantLong "FloodDiaryModel" (191 : Nat) (57 : Int64)) ∈ TB := TB_of 1006 (by decide +kernel) rfl
theorem k_1008 : (Jvm.Cond.instanceMethod ({ cls := "FloodDiaryModel", name := "carryOut", desc := "()I" } : Jvm.MethodName)) ∈ TB := TB_of 1008 (by decide +kernel) rfl
theorem k_1009 : (Jvm.Cond.selects "FloodDiaryModel" ({ cls := "FloodDiaryModel", name := "carryOut", desc := "()I" } : Jvm.MethodName) ({ cls := "FloodDiaryModel", name := "carryOut", desc := "()I" } : Jvm.MethodName)) ∈ TB := TB_of 1009 (by decide +kernel) rfl
theorem k_1010 : (Jvm.Cond.code ({ cls := "FloodDiaryModel", name := "carryOut", desc := "()I" } : Jvm.MethodName) prog_11_method_66_code (3 : Nat) (Option.some FieldType.int)) ∈ TB := TB_of 1010 (by decide +kernel) rfl
theorem k_1011 : (Jvm.Cond.methodLink "FloodDiaryModel" (200 : Nat) ({ cls := "FloodDiaryModel", name := "fault", desc := "()I" } : Jvm.MethodName)) ∈ TB := TB_of 1011 (by decide +kernel) rfl
theorem k_1012 : (Jvm.Cond.methodLink "FloodDiaryModel" (203 : Nat) ({ cls := "FloodDiaryModel", name := "doOrde\x72", desc := "()Z" } : Jvm.MethodName)) ∈ TB := TB_of 1012 (by decide +kernel) rfl
theorem k_1014 : (Jvm.Cond.instanceMethod ({ cls := "FloodDiaryModel", name := "doOrde\x72", desc := "()Z" } : Jvm.MethodName)) ∈ TB := TB_of 1014 (by decide +kernel) rfl
theorem k_1015 : (Jvm.Cond.code ({ cls := "FloodDiaryModel", name := "doOrde\x72", desc := "()Z" } : Jvm.MethodName) prog_11_method_65_code (6 : Nat) (Option.some FieldType.boolean)) ∈ TB := TB_of 1015 (by decide +kernel) rfl
theorem k_1017 : (Jvm.Cond.instanceMethod ({ cls := "FloodDiaryModel", name := "undo", desc := "()I" } : Jvm.MethodName)) ∈ TB := TB_of 1017 (by decide +kernel) rfl
theorem k_1018 : (Jvm.Cond.selects "FloodDiaryModel" ({ cls := "FloodDiaryModel", name := "undo", desc := "()I" } : Jvm.MethodName) ({ cls := "FloodDiaryModel", name := "undo", desc := "()I" } : Jvm.MethodName)) ∈ TB := TB_of 1018 (by decide +kernel) rfl
theorem k_1019 : (Jvm.Cond.code ({ cls := "FloodDiaryModel", name := "undo", desc := "()I" } : Jvm.MethodName) prog_11_method_67_code (1 : Nat) (Option.some FieldType.int)) ∈ TB := TB_of 1019 (by decide +kernel) rfl
theorem k_1021 : (Jvm.Cond.instanceMethod ({ cls := "FloodDiaryModel", name := "keep", desc := "(I)I" } : Jvm.MethodName)) ∈ TB := TB_of 1021 (by decide +kernel) rfl
theorem k_1022 : (Jvm.Cond.selects "FloodDiaryModel" ({ cls := "FloodDiaryModel", name := "keep", desc := "(I)I" } : Jvm.MethodName) ({ cls := "FloodDiaryModel", name := "keep", desc := "(I)I" } : Jvm.MethodName)) ∈ TB := TB_of 1022 (by decide +kernel) rfl
theorem k_1023 : (Jvm.Cond.code ({ cls := "FloodDiaryModel", name := "keep", desc := "(I)I" } : Jvm.MethodName) prog_11_method_68_code (2 : Nat) (Option.some FieldType.int)) ∈ TB := TB_of 1023 (by decide +kernel) rfl
theorem k_1025 : (Jvm.Cond.instanceMethod ({ cls := "FloodDiaryModel", name := "bring", desc := "(I)I" } : Jvm.MethodName)) ∈ TB := TB_of 1025 (by decide +kernel) rfl
theorem k_1026 : (Jvm.Cond.selects "FloodDiaryModel" ({ cls := "FloodDiaryModel", name := "bring", desc := "(I)I" } : Jvm.MethodName) ({ cls := "FloodDiaryModel", name := "bring", desc := "(I)I" } : Jvm.MethodName)) ∈ TB := TB_of 1026 (by decide +kernel) rfl
theorem k_1027 : (Jvm.Cond.code ({ cls := "FloodDiaryModel", name := "bring", desc := "(I)I" } : Jvm.MethodName) prog_11_method_69_code (2 : Nat) (Option.some FieldType.int)) ∈ TB := TB_of 1027 (by decide +kernel) rfl
