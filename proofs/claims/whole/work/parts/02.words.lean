def wAll : List Cond := lw_tbl.filter goodWord
theorem wa_in {w : Cond} (i : Nat) (h : tables_1[i]? = some w) (hg : goodWord w = true) : w ∈ wAll := List.mem_filter.mpr ⟨List.mem_append_right _ (List.mem_of_getElem? h), hg⟩
theorem wa_sel {q : MethodName × Nat} (i : Nat) (h : lw_privs[i]? = some q) : Cond.selects q.1.cls q.1 q.1 ∈ wAll := List.mem_filter.mpr ⟨List.mem_append_left _ (List.mem_map.mpr ⟨q, List.mem_of_getElem? h, rfl⟩), rfl⟩
theorem a_0 : (Jvm.Cond.initialized "CaseNetLaw") ∈ wAll := wa_in 0 (by decide +kernel) (by decide +kernel)
theorem a_1 : (Jvm.Cond.initialized "CaseNet") ∈ wAll := wa_in 1 (by decide +kernel) (by decide +kernel)
theorem a_2 : (Jvm.Cond.initialized "CaseNet$Net") ∈ wAll := wa_in 2 (by decide +kernel) (by decide +kernel)
theorem a_3 : (Jvm.Cond.initialized "CaseNet$MaskSet") ∈ wAll := wa_in 3 (by decide +kernel) (by decide +kernel)
theorem a_4 : (Jvm.Cond.initialized "CaseNet$Task") ∈ wAll := wa_in 4 (by decide +kernel) (by decide +kernel)
theorem a_5 : (Jvm.Cond.initialized "CaseNet$WorkList") ∈ wAll := wa_in 5 (by decide +kernel) (by decide +kernel)
theorem a_6 : (Jvm.Cond.initialized "CaseNetModel") ∈ wAll := wa_in 6 (by decide +kernel) (by decide +kernel)
theorem a_7 : (Jvm.Cond.initialized "java/lang/Integer") ∈ wAll := wa_in 7 (by decide +kernel) (by decide +kernel)
theorem a_8 : (Jvm.Cond.initialized "java/util/Arrays") ∈ wAll := wa_in 8 (by decide +kernel) (by decide +kernel)
theorem a_9 : (Jvm.Cond.initialized "java/lang/Long") ∈ wAll := wa_in 9 (by decide +kernel) (by decide +kernel)
theorem a_10 : (Jvm.Cond.classLink "CaseNetLaw" (7 : Nat) "CaseNet") ∈ wAll := wa_in 10 (by decide +kernel) (by decide +kernel)
theorem a_11 : (Jvm.Cond.instantiable "CaseNet" (6 : Nat)) ∈ wAll := wa_in 11 (by decide +kernel) (by decide +kernel)
theorem a_12 : (Jvm.Cond.methodLink "CaseNetLaw" (9 : Nat) ({ cls := "CaseNet", name := "<init>", desc := "()V" } : Jvm.MethodName)) ∈ wAll := wa_in 12 (by decide +kernel) (by decide +kernel)
theorem a_13 : (Jvm.Cond.instanceMethod ({ cls := "CaseNet", name := "<init>", desc := "()V" } : Jvm.MethodName)) ∈ wAll := wa_in 13 (by decide +kernel) (by decide +kernel)
set_option maxRecDepth 20000 in
theorem a_14 : (Jvm.Cond.code ({ cls := "CaseNet", name := "<init>", desc := "()V" } : Jvm.MethodName) prog_1_method_1_code (1 : Nat) (Option.none : Option Jvm.ClassFile.FieldType)) ∈ wAll := wa_in 14 rfl rfl
theorem a_15 : (Jvm.Cond.methodLink "CaseNet" (3 : Nat) ({ cls := "java/lang/Object", name := "<init>", desc := "()V" } : Jvm.MethodName)) ∈ wAll := wa_in 15 (by decide +kernel) (by decide +kernel)
theorem a_16 : (Jvm.Cond.instanceMethod ({ cls := "java/lang/Object", name := "<init>", desc := "()V" } : Jvm.MethodName)) ∈ wAll := wa_in 16 (by decide +kernel) (by decide +kernel)
set_option maxRecDepth 20000 in
theorem a_17 : (Jvm.Cond.code ({ cls := "java/lang/Object", name := "<init>", desc := "()V" } : Jvm.MethodName) object_method_1_code (1 : Nat) (Option.none : Option Jvm.ClassFile.FieldType)) ∈ wAll := wa_in 17 rfl rfl
theorem a_18 : (Jvm.Cond.classLink "CaseNet" (9 : Nat) "CaseNet$Net") ∈ wAll := wa_in 18 (by decide +kernel) (by decide +kernel)
theorem a_19 : (Jvm.Cond.instantiable "CaseNet$Net" (6 : Nat)) ∈ wAll := wa_in 19 (by decide +kernel) (by decide +kernel)
theorem a_20 : (Jvm.Cond.methodLink "CaseNet" (11 : Nat) ({ cls := "CaseNet$Net", name := "<init>", desc := "()V" } : Jvm.MethodName)) ∈ wAll := wa_in 20 (by decide +kernel) (by decide +kernel)
theorem a_21 : (Jvm.Cond.instanceMethod ({ cls := "CaseNet$Net", name := "<init>", desc := "()V" } : Jvm.MethodName)) ∈ wAll := wa_in 21 (by decide +kernel) (by decide +kernel)
set_option maxRecDepth 20000 in
theorem a_22 : (Jvm.Cond.code ({ cls := "CaseNet$Net", name := "<init>", desc := "()V" } : Jvm.MethodName) prog_3_method_1_code (2 : Nat) (Option.none : Option Jvm.ClassFile.FieldType)) ∈ wAll := wa_in 22 rfl rfl
theorem a_23 : (Jvm.Cond.methodLink "CaseNet$Net" (3 : Nat) ({ cls := "java/lang/Object", name := "<init>", desc := "()V" } : Jvm.MethodName)) ∈ wAll := wa_in 23 (by decide +kernel) (by decide +kernel)
theorem a_24 : (Jvm.Cond.classLink "CaseNet$Net" (9 : Nat) "CaseNet$Task") ∈ wAll := wa_in 24 (by decide +kernel) (by decide +kernel)
theorem a_26 : (Jvm.Cond.classLink "CaseNet$Net" (17 : Nat) "CaseNet$MaskSet") ∈ wAll := wa_in 26 (by decide +kernel) (by decide +kernel)
theorem a_27 : (Jvm.Cond.instantiable "CaseNet$MaskSet" (2 : Nat)) ∈ wAll := wa_in 27 (by decide +kernel) (by decide +kernel)
theorem a_29 : (Jvm.Cond.instanceMethod ({ cls := "CaseNet$MaskSet", name := "<init>", desc := "()V" } : Jvm.MethodName)) ∈ wAll := wa_in 29 (by decide +kernel) (by decide +kernel)
set_option maxRecDepth 20000 in
theorem a_30 : (Jvm.Cond.code ({ cls := "CaseNet$MaskSet", name := "<init>", desc := "()V" } : Jvm.MethodName) prog_2_method_1_code (1 : Nat) (Option.none : Option Jvm.ClassFile.FieldType)) ∈ wAll := wa_in 30 rfl rfl
theorem a_31 : (Jvm.Cond.methodLink "CaseNet$MaskSet" (5 : Nat) ({ cls := "java/lang/Object", name := "<init>", desc := "()V" } : Jvm.MethodName)) ∈ wAll := wa_in 31 (by decide +kernel) (by decide +kernel)
theorem a_32 : (Jvm.Cond.fieldLink "CaseNet$MaskSet" (11 : Nat) "CaseNet$MaskSet" "words" "[J") ∈ wAll := wa_in 32 (by decide +kernel) (by decide +kernel)
theorem a_33 : (Jvm.Cond.fieldLink "CaseNet$MaskSet" (15 : Nat) "CaseNet$MaskSet" "firstUsed" "I") ∈ wAll := wa_in 33 (by decide +kernel) (by decide +kernel)
theorem a_34 : (Jvm.Cond.laysFinal "CaseNet$MaskSet" "CaseNet$MaskSet" "words" "[J") ∈ wAll := wa_in 34 (by decide +kernel) (by decide +kernel)
theorem a_36 : (Jvm.Cond.lays "CaseNet$MaskSet" "CaseNet$MaskSet" "firstUsed" "I") ∈ wAll := wa_in 36 (by decide +kernel) (by decide +kernel)
theorem a_39 : (Jvm.Cond.arrayClass Jvm.ClassFile.FieldType.long) ∈ wAll := wa_in 39 (by decide +kernel) (by decide +kernel)
theorem a_40 : (Jvm.Cond.instantiable "CaseNet$Task" (19 : Nat)) ∈ wAll := wa_in 40 (by decide +kernel) (by decide +kernel)
theorem a_41 : (Jvm.Cond.methodLink "CaseNet$Net" (30 : Nat) ({ cls := "CaseNet$Task", name := "<init>", desc := "(I)V" } : Jvm.MethodName)) ∈ wAll := wa_in 41 (by decide +kernel) (by decide +kernel)
theorem a_42 : (Jvm.Cond.instanceMethod ({ cls := "CaseNet$Task", name := "<init>", desc := "(I)V" } : Jvm.MethodName)) ∈ wAll := wa_in 42 (by decide +kernel) (by decide +kernel)
set_option maxRecDepth 20000 in
theorem a_43 : (Jvm.Cond.code ({ cls := "CaseNet$Task", name := "<init>", desc := "(I)V" } : Jvm.MethodName) prog_4_method_1_code (2 : Nat) (Option.none : Option Jvm.ClassFile.FieldType)) ∈ wAll := wa_in 43 rfl rfl
theorem a_44 : (Jvm.Cond.methodLink "CaseNet$Task" (3 : Nat) ({ cls := "java/lang/Object", name := "<init>", desc := "()V" } : Jvm.MethodName)) ∈ wAll := wa_in 44 (by decide +kernel) (by decide +kernel)
theorem a_45 : (Jvm.Cond.fieldLink "CaseNet$Task" (27 : Nat) "CaseNet$Task" "place" "I") ∈ wAll := wa_in 45 (by decide +kernel) (by decide +kernel)
theorem a_46 : (Jvm.Cond.fieldLink "CaseNet$Net" (92 : Nat) "CaseNet$Task" "place" "I") ∈ wAll := wa_in 46 (by decide +kernel) (by decide +kernel)
theorem a_47 : (Jvm.Cond.fieldLink "CaseNet" (95 : Nat) "CaseNet$Task" "place" "I") ∈ wAll := wa_in 47 (by decide +kernel) (by decide +kernel)
theorem a_48 : (Jvm.Cond.fieldLink "CaseNet$Task" (31 : Nat) "CaseNet$Task" "defined" "Z") ∈ wAll := wa_in 48 (by decide +kernel) (by decide +kernel)
theorem a_49 : (Jvm.Cond.fieldLink "CaseNet$Net" (37 : Nat) "CaseNet$Task" "defined" "Z") ∈ wAll := wa_in 49 (by decide +kernel) (by decide +kernel)
theorem a_50 : (Jvm.Cond.fieldLink "CaseNet$Task" (35 : Nat) "CaseNet$Task" "join" "I") ∈ wAll := wa_in 50 (by decide +kernel) (by decide +kernel)
theorem a_51 : (Jvm.Cond.fieldLink "CaseNet$Net" (66 : Nat) "CaseNet$Task" "join" "I") ∈ wAll := wa_in 51 (by decide +kernel) (by decide +kernel)
theorem a_52 : (Jvm.Cond.fieldLink "CaseNet" (164 : Nat) "CaseNet$Task" "join" "I") ∈ wAll := wa_in 52 (by decide +kernel) (by decide +kernel)
theorem a_53 : (Jvm.Cond.fieldLink "CaseNet$Task" (38 : Nat) "CaseNet$Task" "split" "I") ∈ wAll := wa_in 53 (by decide +kernel) (by decide +kernel)
theorem a_54 : (Jvm.Cond.fieldLink "CaseNet$Task" (41 : Nat) "CaseNet$Task" "ins" "I") ∈ wAll := wa_in 54 (by decide +kernel) (by decide +kernel)
theorem a_55 : (Jvm.Cond.fieldLink "CaseNet" (161 : Nat) "CaseNet$Task" "ins" "I") ∈ wAll := wa_in 55 (by decide +kernel) (by decide +kernel)
theorem a_56 : (Jvm.Cond.fieldLink "CaseNet$Task" (44 : Nat) "CaseNet$Task" "outs" "I") ∈ wAll := wa_in 56 (by decide +kernel) (by decide +kernel)
theorem a_57 : (Jvm.Cond.fieldLink "CaseNet" (62 : Nat) "CaseNet$Task" "outs" "I") ∈ wAll := wa_in 57 (by decide +kernel) (by decide +kernel)
theorem a_58 : (Jvm.Cond.fieldLink "CaseNet$Task" (47 : Nat) "CaseNet$Task" "cleared" "I") ∈ wAll := wa_in 58 (by decide +kernel) (by decide +kernel)
theorem a_59 : (Jvm.Cond.fieldLink "CaseNet" (55 : Nat) "CaseNet$Task" "cleared" "I") ∈ wAll := wa_in 59 (by decide +kernel) (by decide +kernel)
theorem a_60 : (Jvm.Cond.fieldLink "CaseNet$Net" (89 : Nat) "CaseNet$Task" "cleared" "I") ∈ wAll := wa_in 60 (by decide +kernel) (by decide +kernel)
theorem a_61 : (Jvm.Cond.fieldLink "CaseNet$Task" (65 : Nat) "CaseNet$Task" "number" "I") ∈ wAll := wa_in 61 (by decide +kernel) (by decide +kernel)
theorem a_62 : (Jvm.Cond.fieldLink "CaseNet" (85 : Nat) "CaseNet$Task" "number" "I") ∈ wAll := wa_in 62 (by decide +kernel) (by decide +kernel)
theorem a_63 : (Jvm.Cond.fieldLink "CaseNet$Task" (68 : Nat) "CaseNet$Task" "threshold" "I") ∈ wAll := wa_in 63 (by decide +kernel) (by decide +kernel)
theorem a_64 : (Jvm.Cond.fieldLink "CaseNet" (124 : Nat) "CaseNet$Task" "threshold" "I") ∈ wAll := wa_in 64 (by decide +kernel) (by decide +kernel)
theorem a_65 : (Jvm.Cond.fieldLink "CaseNet$Task" (71 : Nat) "CaseNet$Task" "variable" "I") ∈ wAll := wa_in 65 (by decide +kernel) (by decide +kernel)
theorem a_66 : (Jvm.Cond.fieldLink "CaseNet" (117 : Nat) "CaseNet$Task" "variable" "I") ∈ wAll := wa_in 66 (by decide +kernel) (by decide +kernel)
theorem a_67 : (Jvm.Cond.fieldLink "CaseNet$Task" (74 : Nat) "CaseNet$Task" "deadline" "I") ∈ wAll := wa_in 67 (by decide +kernel) (by decide +kernel)
theorem a_68 : (Jvm.Cond.fieldLink "CaseNet" (185 : Nat) "CaseNet$Task" "deadline" "I") ∈ wAll := wa_in 68 (by decide +kernel) (by decide +kernel)
theorem a_69 : (Jvm.Cond.fieldLink "CaseNet" (105 : Nat) "CaseNet$Task" "firstItem" "I") ∈ wAll := wa_in 69 (by decide +kernel) (by decide +kernel)
theorem a_70 : (Jvm.Cond.fieldLink "CaseNet$Task" (9 : Nat) "CaseNet$Task" "takes" "[I") ∈ wAll := wa_in 70 (by decide +kernel) (by decide +kernel)
theorem a_71 : (Jvm.Cond.fieldLink "CaseNet$Net" (105 : Nat) "CaseNet$Task" "takes" "[I") ∈ wAll := wa_in 71 (by decide +kernel) (by decide +kernel)
theorem a_72 : (Jvm.Cond.fieldLink "CaseNet$Task" (15 : Nat) "CaseNet$Task" "puts" "[I") ∈ wAll := wa_in 72 (by decide +kernel) (by decide +kernel)
theorem a_73 : (Jvm.Cond.fieldLink "CaseNet$Net" (98 : Nat) "CaseNet$Task" "puts" "[I") ∈ wAll := wa_in 73 (by decide +kernel) (by decide +kernel)
theorem a_74 : (Jvm.Cond.fieldLink "CaseNet$Task" (77 : Nat) "CaseNet$Task" "takesCount" "I") ∈ wAll := wa_in 74 (by decide +kernel) (by decide +kernel)
theorem a_75 : (Jvm.Cond.fieldLink "CaseNet$Net" (102 : Nat) "CaseNet$Task" "takesCount" "I") ∈ wAll := wa_in 75 (by decide +kernel) (by decide +kernel)
theorem a_76 : (Jvm.Cond.fieldLink "CaseNet$Task" (84 : Nat) "CaseNet$Task" "putsCount" "I") ∈ wAll := wa_in 76 (by decide +kernel) (by decide +kernel)
theorem a_77 : (Jvm.Cond.fieldLink "CaseNet$Net" (95 : Nat) "CaseNet$Task" "putsCount" "I") ∈ wAll := wa_in 77 (by decide +kernel) (by decide +kernel)
theorem a_78 : (Jvm.Cond.fieldLink "CaseNet$Task" (18 : Nat) "CaseNet$Task" "guardVariable" "[I") ∈ wAll := wa_in 78 (by decide +kernel) (by decide +kernel)
theorem a_79 : (Jvm.Cond.fieldLink "CaseNet$Task" (21 : Nat) "CaseNet$Task" "guardLow" "[I") ∈ wAll := wa_in 79 (by decide +kernel) (by decide +kernel)
theorem a_80 : (Jvm.Cond.fieldLink "CaseNet$Task" (24 : Nat) "CaseNet$Task" "guardHigh" "[I") ∈ wAll := wa_in 80 (by decide +kernel) (by decide +kernel)
theorem a_81 : (Jvm.Cond.laysFinal "CaseNet$Task" "CaseNet$Task" "place" "I") ∈ wAll := wa_in 81 (by decide +kernel) (by decide +kernel)
theorem a_83 : (Jvm.Cond.lays "CaseNet$Task" "CaseNet$Task" "defined" "Z") ∈ wAll := wa_in 83 (by decide +kernel) (by decide +kernel)
theorem a_85 : (Jvm.Cond.lays "CaseNet$Task" "CaseNet$Task" "join" "I") ∈ wAll := wa_in 85 (by decide +kernel) (by decide +kernel)
theorem a_87 : (Jvm.Cond.lays "CaseNet$Task" "CaseNet$Task" "split" "I") ∈ wAll := wa_in 87 (by decide +kernel) (by decide +kernel)
theorem a_89 : (Jvm.Cond.lays "CaseNet$Task" "CaseNet$Task" "ins" "I") ∈ wAll := wa_in 89 (by decide +kernel) (by decide +kernel)
theorem a_91 : (Jvm.Cond.lays "CaseNet$Task" "CaseNet$Task" "outs" "I") ∈ wAll := wa_in 91 (by decide +kernel) (by decide +kernel)
theorem a_93 : (Jvm.Cond.lays "CaseNet$Task" "CaseNet$Task" "cleared" "I") ∈ wAll := wa_in 93 (by decide +kernel) (by decide +kernel)
theorem a_95 : (Jvm.Cond.lays "CaseNet$Task" "CaseNet$Task" "number" "I") ∈ wAll := wa_in 95 (by decide +kernel) (by decide +kernel)
theorem a_97 : (Jvm.Cond.lays "CaseNet$Task" "CaseNet$Task" "threshold" "I") ∈ wAll := wa_in 97 (by decide +kernel) (by decide +kernel)
theorem a_99 : (Jvm.Cond.lays "CaseNet$Task" "CaseNet$Task" "variable" "I") ∈ wAll := wa_in 99 (by decide +kernel) (by decide +kernel)
theorem a_101 : (Jvm.Cond.lays "CaseNet$Task" "CaseNet$Task" "deadline" "I") ∈ wAll := wa_in 101 (by decide +kernel) (by decide +kernel)
theorem a_103 : (Jvm.Cond.lays "CaseNet$Task" "CaseNet$Task" "firstItem" "I") ∈ wAll := wa_in 103 (by decide +kernel) (by decide +kernel)
theorem a_105 : (Jvm.Cond.laysFinal "CaseNet$Task" "CaseNet$Task" "takes" "[I") ∈ wAll := wa_in 105 (by decide +kernel) (by decide +kernel)
theorem a_107 : (Jvm.Cond.laysFinal "CaseNet$Task" "CaseNet$Task" "puts" "[I") ∈ wAll := wa_in 107 (by decide +kernel) (by decide +kernel)
theorem a_109 : (Jvm.Cond.lays "CaseNet$Task" "CaseNet$Task" "takesCount" "I") ∈ wAll := wa_in 109 (by decide +kernel) (by decide +kernel)
theorem a_111 : (Jvm.Cond.lays "CaseNet$Task" "CaseNet$Task" "putsCount" "I") ∈ wAll := wa_in 111 (by decide +kernel) (by decide +kernel)
theorem a_113 : (Jvm.Cond.laysFinal "CaseNet$Task" "CaseNet$Task" "guardVariable" "[I") ∈ wAll := wa_in 113 (by decide +kernel) (by decide +kernel)
theorem a_115 : (Jvm.Cond.laysFinal "CaseNet$Task" "CaseNet$Task" "guardLow" "[I") ∈ wAll := wa_in 115 (by decide +kernel) (by decide +kernel)
theorem a_117 : (Jvm.Cond.laysFinal "CaseNet$Task" "CaseNet$Task" "guardHigh" "[I") ∈ wAll := wa_in 117 (by decide +kernel) (by decide +kernel)
theorem a_120 : (Jvm.Cond.arrayClass Jvm.ClassFile.FieldType.int) ∈ wAll := wa_in 120 (by decide +kernel) (by decide +kernel)
theorem a_121 : (Jvm.Cond.fieldLink "CaseNet$Net" (11 : Nat) "CaseNet$Net" "tasks" "[LCaseNet$Task;") ∈ wAll := wa_in 121 (by decide +kernel) (by decide +kernel)
theorem a_122 : (Jvm.Cond.fieldLink "CaseNet" (39 : Nat) "CaseNet$Net" "tasks" "[LCaseNet$Task;") ∈ wAll := wa_in 122 (by decide +kernel) (by decide +kernel)
theorem a_123 : (Jvm.Cond.fieldLink "CaseNet$Net" (20 : Nat) "CaseNet$Net" "open" "LCaseNet$MaskSet;") ∈ wAll := wa_in 123 (by decide +kernel) (by decide +kernel)
theorem a_124 : (Jvm.Cond.fieldLink "CaseNet$Net" (24 : Nat) "CaseNet$Net" "reached" "LCaseNet$MaskSet;") ∈ wAll := wa_in 124 (by decide +kernel) (by decide +kernel)
theorem a_125 : (Jvm.Cond.fieldLink "CaseNet$Net" (27 : Nat) "CaseNet$Net" "covering" "LCaseNet$MaskSet;") ∈ wAll := wa_in 125 (by decide +kernel) (by decide +kernel)
theorem a_126 : (Jvm.Cond.fieldLink "CaseNet$Net" (62 : Nat) "CaseNet$Net" "begun" "I") ∈ wAll := wa_in 126 (by decide +kernel) (by decide +kernel)
theorem a_127 : (Jvm.Cond.fieldLink "CaseNet$Net" (59 : Nat) "CaseNet$Net" "endStandsAlone" "Z") ∈ wAll := wa_in 127 (by decide +kernel) (by decide +kernel)
theorem a_128 : (Jvm.Cond.laysFinal "CaseNet$Net" "CaseNet$Net" "tasks" "[LCaseNet$Task;") ∈ wAll := wa_in 128 (by decide +kernel) (by decide +kernel)
theorem a_130 : (Jvm.Cond.laysFinal "CaseNet$Net" "CaseNet$Net" "open" "LCaseNet$MaskSet;") ∈ wAll := wa_in 130 (by decide +kernel) (by decide +kernel)
theorem a_132 : (Jvm.Cond.laysFinal "CaseNet$Net" "CaseNet$Net" "reached" "LCaseNet$MaskSet;") ∈ wAll := wa_in 132 (by decide +kernel) (by decide +kernel)
theorem a_134 : (Jvm.Cond.laysFinal "CaseNet$Net" "CaseNet$Net" "covering" "LCaseNet$MaskSet;") ∈ wAll := wa_in 134 (by decide +kernel) (by decide +kernel)
theorem a_136 : (Jvm.Cond.lays "CaseNet$Net" "CaseNet$Net" "begun" "I") ∈ wAll := wa_in 136 (by decide +kernel) (by decide +kernel)
theorem a_138 : (Jvm.Cond.lays "CaseNet$Net" "CaseNet$Net" "endStandsAlone" "Z") ∈ wAll := wa_in 138 (by decide +kernel) (by decide +kernel)
theorem a_141 : (Jvm.Cond.classLink "CaseNet" (16 : Nat) "CaseNet$WorkList") ∈ wAll := wa_in 141 (by decide +kernel) (by decide +kernel)
theorem a_142 : (Jvm.Cond.instantiable "CaseNet$WorkList" (4 : Nat)) ∈ wAll := wa_in 142 (by decide +kernel) (by decide +kernel)
theorem a_144 : (Jvm.Cond.instanceMethod ({ cls := "CaseNet$WorkList", name := "<init>", desc := "()V" } : Jvm.MethodName)) ∈ wAll := wa_in 144 (by decide +kernel) (by decide +kernel)
set_option maxRecDepth 20000 in
theorem a_145 : (Jvm.Cond.code ({ cls := "CaseNet$WorkList", name := "<init>", desc := "()V" } : Jvm.MethodName) prog_5_method_1_code (1 : Nat) (Option.none : Option Jvm.ClassFile.FieldType)) ∈ wAll := wa_in 145 rfl rfl
theorem a_146 : (Jvm.Cond.methodLink "CaseNet$WorkList" (3 : Nat) ({ cls := "java/lang/Object", name := "<init>", desc := "()V" } : Jvm.MethodName)) ∈ wAll := wa_in 146 (by decide +kernel) (by decide +kernel)
theorem a_147 : (Jvm.Cond.fieldLink "CaseNet$WorkList" (9 : Nat) "CaseNet$WorkList" "task" "[I") ∈ wAll := wa_in 147 (by decide +kernel) (by decide +kernel)
theorem a_148 : (Jvm.Cond.fieldLink "CaseNet" (114 : Nat) "CaseNet$WorkList" "task" "[I") ∈ wAll := wa_in 148 (by decide +kernel) (by decide +kernel)
theorem a_149 : (Jvm.Cond.fieldLink "CaseNet$WorkList" (15 : Nat) "CaseNet$WorkList" "state" "[I") ∈ wAll := wa_in 149 (by decide +kernel) (by decide +kernel)
theorem a_150 : (Jvm.Cond.fieldLink "CaseNet" (111 : Nat) "CaseNet$WorkList" "state" "[I") ∈ wAll := wa_in 150 (by decide +kernel) (by decide +kernel)
theorem a_151 : (Jvm.Cond.fieldLink "CaseNet$WorkList" (18 : Nat) "CaseNet$WorkList" "offeredAt" "[I") ∈ wAll := wa_in 151 (by decide +kernel) (by decide +kernel)
theorem a_152 : (Jvm.Cond.fieldLink "CaseNet" (147 : Nat) "CaseNet$WorkList" "offeredAt" "[I") ∈ wAll := wa_in 152 (by decide +kernel) (by decide +kernel)
theorem a_153 : (Jvm.Cond.fieldLink "CaseNet$WorkList" (21 : Nat) "CaseNet$WorkList" "made" "I") ∈ wAll := wa_in 153 (by decide +kernel) (by decide +kernel)
theorem a_154 : (Jvm.Cond.fieldLink "CaseNet" (141 : Nat) "CaseNet$WorkList" "made" "I") ∈ wAll := wa_in 154 (by decide +kernel) (by decide +kernel)
theorem a_155 : (Jvm.Cond.laysFinal "CaseNet$WorkList" "CaseNet$WorkList" "task" "[I") ∈ wAll := wa_in 155 (by decide +kernel) (by decide +kernel)
theorem a_157 : (Jvm.Cond.laysFinal "CaseNet$WorkList" "CaseNet$WorkList" "state" "[I") ∈ wAll := wa_in 157 (by decide +kernel) (by decide +kernel)
theorem a_159 : (Jvm.Cond.laysFinal "CaseNet$WorkList" "CaseNet$WorkList" "offeredAt" "[I") ∈ wAll := wa_in 159 (by decide +kernel) (by decide +kernel)
theorem a_161 : (Jvm.Cond.lays "CaseNet$WorkList" "CaseNet$WorkList" "made" "I") ∈ wAll := wa_in 161 (by decide +kernel) (by decide +kernel)
theorem a_164 : (Jvm.Cond.fieldLink "CaseNet" (12 : Nat) "CaseNet" "net" "LCaseNet$Net;") ∈ wAll := wa_in 164 (by decide +kernel) (by decide +kernel)
theorem a_165 : (Jvm.Cond.fieldLink "CaseNet" (19 : Nat) "CaseNet" "work" "LCaseNet$WorkList;") ∈ wAll := wa_in 165 (by decide +kernel) (by decide +kernel)
theorem a_166 : (Jvm.Cond.fieldLink "CaseNet" (23 : Nat) "CaseNet" "variables" "[I") ∈ wAll := wa_in 166 (by decide +kernel) (by decide +kernel)
theorem a_167 : (Jvm.Cond.fieldLink "CaseNet" (27 : Nat) "CaseNet" "on" "Z") ∈ wAll := wa_in 167 (by decide +kernel) (by decide +kernel)
theorem a_168 : (Jvm.Cond.fieldLink "CaseNet" (75 : Nat) "CaseNet" "present" "I") ∈ wAll := wa_in 168 (by decide +kernel) (by decide +kernel)
theorem a_169 : (Jvm.Cond.fieldLink "CaseNet" (98 : Nat) "CaseNet" "clock" "I") ∈ wAll := wa_in 169 (by decide +kernel) (by decide +kernel)
theorem a_170 : (Jvm.Cond.laysFinal "CaseNet" "CaseNet" "net" "LCaseNet$Net;") ∈ wAll := wa_in 170 (by decide +kernel) (by decide +kernel)
theorem a_172 : (Jvm.Cond.laysFinal "CaseNet" "CaseNet" "work" "LCaseNet$WorkList;") ∈ wAll := wa_in 172 (by decide +kernel) (by decide +kernel)
theorem a_174 : (Jvm.Cond.laysFinal "CaseNet" "CaseNet" "variables" "[I") ∈ wAll := wa_in 174 (by decide +kernel) (by decide +kernel)
theorem a_176 : (Jvm.Cond.lays "CaseNet" "CaseNet" "on" "Z") ∈ wAll := wa_in 176 (by decide +kernel) (by decide +kernel)
theorem a_178 : (Jvm.Cond.lays "CaseNet" "CaseNet" "present" "I") ∈ wAll := wa_in 178 (by decide +kernel) (by decide +kernel)
theorem a_180 : (Jvm.Cond.lays "CaseNet" "CaseNet" "clock" "I") ∈ wAll := wa_in 180 (by decide +kernel) (by decide +kernel)
theorem a_183 : (Jvm.Cond.methodLink "CaseNetLaw" (13 : Nat) ({ cls := "CaseNet", name := "task", desc := "(IIIII)Z" } : Jvm.MethodName)) ∈ wAll := wa_in 183 (by decide +kernel) (by decide +kernel)
theorem a_184 : (Jvm.Cond.instanceMethod ({ cls := "CaseNet", name := "task", desc := "(IIIII)Z" } : Jvm.MethodName)) ∈ wAll := wa_in 184 (by decide +kernel) (by decide +kernel)
theorem a_185 : (Jvm.Cond.selects "CaseNet" ({ cls := "CaseNet", name := "task", desc := "(IIIII)Z" } : Jvm.MethodName) ({ cls := "CaseNet", name := "task", desc := "(IIIII)Z" } : Jvm.MethodName)) ∈ wAll := wa_in 185 (by decide +kernel) (by decide +kernel)
set_option maxRecDepth 20000 in
theorem a_186 : (Jvm.Cond.code ({ cls := "CaseNet", name := "task", desc := "(IIIII)Z" } : Jvm.MethodName) prog_1_method_2_code (6 : Nat) (Option.some Jvm.ClassFile.FieldType.boolean)) ∈ wAll := wa_in 186 rfl rfl
theorem a_187 : (Jvm.Cond.methodLink "CaseNet" (31 : Nat) ({ cls := "CaseNet", name := "isBetween", desc := "(III)Z" } : Jvm.MethodName)) ∈ wAll := wa_in 187 (by decide +kernel) (by decide +kernel)
theorem a_188 : (Jvm.Cond.static ({ cls := "CaseNet", name := "isBetween", desc := "(III)Z" } : Jvm.MethodName)) ∈ wAll := wa_in 188 (by decide +kernel) (by decide +kernel)
set_option maxRecDepth 20000 in
theorem a_189 : (Jvm.Cond.code ({ cls := "CaseNet", name := "isBetween", desc := "(III)Z" } : Jvm.MethodName) prog_1_method_20_code (3 : Nat) (Option.some Jvm.ClassFile.FieldType.boolean)) ∈ wAll := wa_in 189 rfl rfl
theorem a_190 : (Jvm.Cond.methodLink "CaseNet" (35 : Nat) ({ cls := "CaseNet", name := "isOneToThreeConditions", desc := "(I)Z" } : Jvm.MethodName)) ∈ wAll := wa_in 190 (by decide +kernel) (by decide +kernel)
theorem a_191 : (Jvm.Cond.static ({ cls := "CaseNet", name := "isOneToThreeConditions", desc := "(I)Z" } : Jvm.MethodName)) ∈ wAll := wa_in 191 (by decide +kernel) (by decide +kernel)
set_option maxRecDepth 20000 in
theorem a_192 : (Jvm.Cond.code ({ cls := "CaseNet", name := "isOneToThreeConditions", desc := "(I)Z" } : Jvm.MethodName) prog_1_method_23_code (1 : Nat) (Option.some Jvm.ClassFile.FieldType.boolean)) ∈ wAll := wa_in 192 rfl rfl
theorem a_193 : (Jvm.Cond.methodLink "CaseNet" (156 : Nat) ({ cls := "java/lang/Integer", name := "bitCount", desc := "(I)I" } : Jvm.MethodName)) ∈ wAll := wa_in 193 (by decide +kernel) (by decide +kernel)
theorem a_194 : (Jvm.Cond.static ({ cls := "java/lang/Integer", name := "bitCount", desc := "(I)I" } : Jvm.MethodName)) ∈ wAll := wa_in 194 (by decide +kernel) (by decide +kernel)
set_option maxRecDepth 20000 in
theorem a_195 : (Jvm.Cond.code ({ cls := "java/lang/Integer", name := "bitCount", desc := "(I)I" } : Jvm.MethodName) prog_8_method_49_code (1 : Nat) (Option.some Jvm.ClassFile.FieldType.int)) ∈ wAll := wa_in 195 rfl rfl
theorem a_196 : (Jvm.Cond.constant "java/lang/Integer" (265 : Nat) (1431655765 : Int32)) ∈ wAll := wa_in 196 (by decide +kernel) (by decide +kernel)
theorem a_197 : (Jvm.Cond.constant "java/lang/Integer" (266 : Nat) (858993459 : Int32)) ∈ wAll := wa_in 197 (by decide +kernel) (by decide +kernel)
theorem a_198 : (Jvm.Cond.constant "java/lang/Integer" (267 : Nat) (252645135 : Int32)) ∈ wAll := wa_in 198 (by decide +kernel) (by decide +kernel)
theorem a_199 : (Jvm.Cond.methodLink "CaseNet" (43 : Nat) ({ cls := "CaseNet$Task", name := "define", desc := "(IIII)V" } : Jvm.MethodName)) ∈ wAll := wa_in 199 (by decide +kernel) (by decide +kernel)
theorem a_200 : (Jvm.Cond.instanceMethod ({ cls := "CaseNet$Task", name := "define", desc := "(IIII)V" } : Jvm.MethodName)) ∈ wAll := wa_in 200 (by decide +kernel) (by decide +kernel)
theorem a_201 : (Jvm.Cond.selects "CaseNet$Task" ({ cls := "CaseNet$Task", name := "define", desc := "(IIII)V" } : Jvm.MethodName) ({ cls := "CaseNet$Task", name := "define", desc := "(IIII)V" } : Jvm.MethodName)) ∈ wAll := wa_in 201 (by decide +kernel) (by decide +kernel)
set_option maxRecDepth 20000 in
theorem a_202 : (Jvm.Cond.code ({ cls := "CaseNet$Task", name := "define", desc := "(IIII)V" } : Jvm.MethodName) prog_4_method_2_code (6 : Nat) (Option.none : Option Jvm.ClassFile.FieldType)) ∈ wAll := wa_in 202 rfl rfl
theorem a_203 : (Jvm.Cond.methodLink "CaseNet$Task" (50 : Nat) ({ cls := "CaseNet$Task", name := "putWork", desc := "(IIII)V" } : Jvm.MethodName)) ∈ wAll := wa_in 203 (by decide +kernel) (by decide +kernel)
theorem a_204 : (Jvm.Cond.instanceMethod ({ cls := "CaseNet$Task", name := "putWork", desc := "(IIII)V" } : Jvm.MethodName)) ∈ wAll := wa_in 204 (by decide +kernel) (by decide +kernel)
theorem a_205 : (Jvm.Cond.selects "CaseNet$Task" ({ cls := "CaseNet$Task", name := "putWork", desc := "(IIII)V" } : Jvm.MethodName) ({ cls := "CaseNet$Task", name := "putWork", desc := "(IIII)V" } : Jvm.MethodName)) ∈ wAll := wa_in 205 (by decide +kernel) (by decide +kernel)
set_option maxRecDepth 20000 in
theorem a_206 : (Jvm.Cond.code ({ cls := "CaseNet$Task", name := "putWork", desc := "(IIII)V" } : Jvm.MethodName) prog_4_method_3_code (5 : Nat) (Option.none : Option Jvm.ClassFile.FieldType)) ∈ wAll := wa_in 206 rfl rfl
theorem a_207 : (Jvm.Cond.constant "CaseNet$Task" (54 : Nat) (-2147483648 : Int32)) ∈ wAll := wa_in 207 (by decide +kernel) (by decide +kernel)
theorem a_208 : (Jvm.Cond.constant "CaseNet$Task" (55 : Nat) (2147483647 : Int32)) ∈ wAll := wa_in 208 (by decide +kernel) (by decide +kernel)
theorem a_209 : (Jvm.Cond.methodLink "CaseNet$Task" (56 : Nat) ({ cls := "CaseNet$Task", name := "putGuard", desc := "(IIII)V" } : Jvm.MethodName)) ∈ wAll := wa_in 209 (by decide +kernel) (by decide +kernel)
theorem a_210 : (Jvm.Cond.instanceMethod ({ cls := "CaseNet$Task", name := "putGuard", desc := "(IIII)V" } : Jvm.MethodName)) ∈ wAll := wa_in 210 (by decide +kernel) (by decide +kernel)
theorem a_211 : (Jvm.Cond.selects "CaseNet$Task" ({ cls := "CaseNet$Task", name := "putGuard", desc := "(IIII)V" } : Jvm.MethodName) ({ cls := "CaseNet$Task", name := "putGuard", desc := "(IIII)V" } : Jvm.MethodName)) ∈ wAll := wa_in 211 (by decide +kernel) (by decide +kernel)
set_option maxRecDepth 20000 in
theorem a_212 : (Jvm.Cond.code ({ cls := "CaseNet$Task", name := "putGuard", desc := "(IIII)V" } : Jvm.MethodName) prog_4_method_4_code (5 : Nat) (Option.none : Option Jvm.ClassFile.FieldType)) ∈ wAll := wa_in 212 rfl rfl
theorem a_213 : (Jvm.Cond.methodLink "CaseNet$Task" (59 : Nat) ({ cls := "CaseNet$Task", name := "listTakes", desc := "()V" } : Jvm.MethodName)) ∈ wAll := wa_in 213 (by decide +kernel) (by decide +kernel)
theorem a_215 : (Jvm.Cond.instanceMethod ({ cls := "CaseNet$Task", name := "listTakes", desc := "()V" } : Jvm.MethodName)) ∈ wAll := wa_in 215 (by decide +kernel) (by decide +kernel)
set_option maxRecDepth 20000 in
theorem a_216 : (Jvm.Cond.code ({ cls := "CaseNet$Task", name := "listTakes", desc := "()V" } : Jvm.MethodName) prog_4_method_5_code (2 : Nat) (Option.none : Option Jvm.ClassFile.FieldType)) ∈ wAll := wa_in 216 rfl rfl
theorem a_217 : (Jvm.Cond.methodLink "CaseNet$Task" (80 : Nat) ({ cls := "CaseNet$Task", name := "isMoveOf", desc := "(III)Z" } : Jvm.MethodName)) ∈ wAll := wa_in 217 (by decide +kernel) (by decide +kernel)
theorem a_218 : (Jvm.Cond.static ({ cls := "CaseNet$Task", name := "isMoveOf", desc := "(III)Z" } : Jvm.MethodName)) ∈ wAll := wa_in 218 (by decide +kernel) (by decide +kernel)
set_option maxRecDepth 20000 in
theorem a_219 : (Jvm.Cond.code ({ cls := "CaseNet$Task", name := "isMoveOf", desc := "(III)Z" } : Jvm.MethodName) prog_4_method_7_code (3 : Nat) (Option.some Jvm.ClassFile.FieldType.boolean)) ∈ wAll := wa_in 219 rfl rfl
theorem a_220 : (Jvm.Cond.methodLink "CaseNet$Task" (87 : Nat) ({ cls := "java/lang/Integer", name := "bitCount", desc := "(I)I" } : Jvm.MethodName)) ∈ wAll := wa_in 220 (by decide +kernel) (by decide +kernel)
theorem a_221 : (Jvm.Cond.methodLink "CaseNet$Task" (62 : Nat) ({ cls := "CaseNet$Task", name := "listPuts", desc := "()V" } : Jvm.MethodName)) ∈ wAll := wa_in 221 (by decide +kernel) (by decide +kernel)
theorem a_223 : (Jvm.Cond.instanceMethod ({ cls := "CaseNet$Task", name := "listPuts", desc := "()V" } : Jvm.MethodName)) ∈ wAll := wa_in 223 (by decide +kernel) (by decide +kernel)
set_option maxRecDepth 20000 in
theorem a_224 : (Jvm.Cond.code ({ cls := "CaseNet$Task", name := "listPuts", desc := "()V" } : Jvm.MethodName) prog_4_method_6_code (2 : Nat) (Option.none : Option Jvm.ClassFile.FieldType)) ∈ wAll := wa_in 224 rfl rfl
theorem a_225 : (Jvm.Cond.methodLink "CaseNetLaw" (18 : Nat) ({ cls := "CaseNet", name := "region", desc := "(II)Z" } : Jvm.MethodName)) ∈ wAll := wa_in 225 (by decide +kernel) (by decide +kernel)
theorem a_226 : (Jvm.Cond.instanceMethod ({ cls := "CaseNet", name := "region", desc := "(II)Z" } : Jvm.MethodName)) ∈ wAll := wa_in 226 (by decide +kernel) (by decide +kernel)
theorem a_227 : (Jvm.Cond.selects "CaseNet" ({ cls := "CaseNet", name := "region", desc := "(II)Z" } : Jvm.MethodName) ({ cls := "CaseNet", name := "region", desc := "(II)Z" } : Jvm.MethodName)) ∈ wAll := wa_in 227 (by decide +kernel) (by decide +kernel)
set_option maxRecDepth 20000 in
theorem a_228 : (Jvm.Cond.code ({ cls := "CaseNet", name := "region", desc := "(II)Z" } : Jvm.MethodName) prog_1_method_3_code (3 : Nat) (Option.some Jvm.ClassFile.FieldType.boolean)) ∈ wAll := wa_in 228 rfl rfl
theorem a_229 : (Jvm.Cond.methodLink "CaseNet" (49 : Nat) ({ cls := "CaseNet$Net", name := "isDefined", desc := "(I)Z" } : Jvm.MethodName)) ∈ wAll := wa_in 229 (by decide +kernel) (by decide +kernel)
theorem a_230 : (Jvm.Cond.instanceMethod ({ cls := "CaseNet$Net", name := "isDefined", desc := "(I)Z" } : Jvm.MethodName)) ∈ wAll := wa_in 230 (by decide +kernel) (by decide +kernel)
theorem a_231 : (Jvm.Cond.selects "CaseNet$Net" ({ cls := "CaseNet$Net", name := "isDefined", desc := "(I)Z" } : Jvm.MethodName) ({ cls := "CaseNet$Net", name := "isDefined", desc := "(I)Z" } : Jvm.MethodName)) ∈ wAll := wa_in 231 (by decide +kernel) (by decide +kernel)
set_option maxRecDepth 20000 in
theorem a_232 : (Jvm.Cond.code ({ cls := "CaseNet$Net", name := "isDefined", desc := "(I)Z" } : Jvm.MethodName) prog_3_method_2_code (2 : Nat) (Option.some Jvm.ClassFile.FieldType.boolean)) ∈ wAll := wa_in 232 rfl rfl
theorem a_234 : (Jvm.Cond.methodLink "CaseNet" (52 : Nat) ({ cls := "CaseNet", name := "isMaskOfPlaces", desc := "(I)Z" } : Jvm.MethodName)) ∈ wAll := wa_in 234 (by decide +kernel) (by decide +kernel)
theorem a_235 : (Jvm.Cond.static ({ cls := "CaseNet", name := "isMaskOfPlaces", desc := "(I)Z" } : Jvm.MethodName)) ∈ wAll := wa_in 235 (by decide +kernel) (by decide +kernel)
set_option maxRecDepth 20000 in
theorem a_236 : (Jvm.Cond.code ({ cls := "CaseNet", name := "isMaskOfPlaces", desc := "(I)Z" } : Jvm.MethodName) prog_1_method_22_code (1 : Nat) (Option.some Jvm.ClassFile.FieldType.boolean)) ∈ wAll := wa_in 236 rfl rfl
theorem a_237 : (Jvm.Cond.methodLink "CaseNetLaw" (23 : Nat) ({ cls := "CaseNet", name := "guard", desc := "(IIIII)Z" } : Jvm.MethodName)) ∈ wAll := wa_in 237 (by decide +kernel) (by decide +kernel)
theorem a_238 : (Jvm.Cond.instanceMethod ({ cls := "CaseNet", name := "guard", desc := "(IIIII)Z" } : Jvm.MethodName)) ∈ wAll := wa_in 238 (by decide +kernel) (by decide +kernel)
theorem a_239 : (Jvm.Cond.selects "CaseNet" ({ cls := "CaseNet", name := "guard", desc := "(IIIII)Z" } : Jvm.MethodName) ({ cls := "CaseNet", name := "guard", desc := "(IIIII)Z" } : Jvm.MethodName)) ∈ wAll := wa_in 239 (by decide +kernel) (by decide +kernel)
set_option maxRecDepth 20000 in
theorem a_240 : (Jvm.Cond.code ({ cls := "CaseNet", name := "guard", desc := "(IIIII)Z" } : Jvm.MethodName) prog_1_method_4_code (6 : Nat) (Option.some Jvm.ClassFile.FieldType.boolean)) ∈ wAll := wa_in 240 rfl rfl
theorem a_241 : (Jvm.Cond.methodLink "CaseNet" (59 : Nat) ({ cls := "CaseNet", name := "isVariable", desc := "(I)Z" } : Jvm.MethodName)) ∈ wAll := wa_in 241 (by decide +kernel) (by decide +kernel)
theorem a_242 : (Jvm.Cond.static ({ cls := "CaseNet", name := "isVariable", desc := "(I)Z" } : Jvm.MethodName)) ∈ wAll := wa_in 242 (by decide +kernel) (by decide +kernel)
set_option maxRecDepth 20000 in
theorem a_243 : (Jvm.Cond.code ({ cls := "CaseNet", name := "isVariable", desc := "(I)Z" } : Jvm.MethodName) prog_1_method_21_code (1 : Nat) (Option.some Jvm.ClassFile.FieldType.boolean)) ∈ wAll := wa_in 243 rfl rfl
theorem a_244 : (Jvm.Cond.methodLink "CaseNet" (65 : Nat) ({ cls := "CaseNet$Task", name := "putGuard", desc := "(IIII)V" } : Jvm.MethodName)) ∈ wAll := wa_in 244 (by decide +kernel) (by decide +kernel)
theorem a_245 : (Jvm.Cond.methodLink "CaseNetLaw" (27 : Nat) ({ cls := "CaseNet", name := "items", desc := "(IIIII)Z" } : Jvm.MethodName)) ∈ wAll := wa_in 245 (by decide +kernel) (by decide +kernel)
theorem a_246 : (Jvm.Cond.instanceMethod ({ cls := "CaseNet", name := "items", desc := "(IIIII)Z" } : Jvm.MethodName)) ∈ wAll := wa_in 246 (by decide +kernel) (by decide +kernel)
theorem a_247 : (Jvm.Cond.selects "CaseNet" ({ cls := "CaseNet", name := "items", desc := "(IIIII)Z" } : Jvm.MethodName) ({ cls := "CaseNet", name := "items", desc := "(IIIII)Z" } : Jvm.MethodName)) ∈ wAll := wa_in 247 (by decide +kernel) (by decide +kernel)
set_option maxRecDepth 20000 in
theorem a_248 : (Jvm.Cond.code ({ cls := "CaseNet", name := "items", desc := "(IIIII)Z" } : Jvm.MethodName) prog_1_method_5_code (6 : Nat) (Option.some Jvm.ClassFile.FieldType.boolean)) ∈ wAll := wa_in 248 rfl rfl
theorem a_249 : (Jvm.Cond.methodLink "CaseNet" (68 : Nat) ({ cls := "CaseNet$Task", name := "putWork", desc := "(IIII)V" } : Jvm.MethodName)) ∈ wAll := wa_in 249 (by decide +kernel) (by decide +kernel)
theorem a_250 : (Jvm.Cond.methodLink "CaseNetLaw" (31 : Nat) ({ cls := "CaseNet", name := "launch", desc := "()Z" } : Jvm.MethodName)) ∈ wAll := wa_in 250 (by decide +kernel) (by decide +kernel)
theorem a_251 : (Jvm.Cond.instanceMethod ({ cls := "CaseNet", name := "launch", desc := "()Z" } : Jvm.MethodName)) ∈ wAll := wa_in 251 (by decide +kernel) (by decide +kernel)
theorem a_252 : (Jvm.Cond.selects "CaseNet" ({ cls := "CaseNet", name := "launch", desc := "()Z" } : Jvm.MethodName) ({ cls := "CaseNet", name := "launch", desc := "()Z" } : Jvm.MethodName)) ∈ wAll := wa_in 252 (by decide +kernel) (by decide +kernel)
set_option maxRecDepth 20000 in
theorem a_253 : (Jvm.Cond.code ({ cls := "CaseNet", name := "launch", desc := "()Z" } : Jvm.MethodName) prog_1_method_6_code (1 : Nat) (Option.some Jvm.ClassFile.FieldType.boolean)) ∈ wAll := wa_in 253 rfl rfl
theorem a_254 : (Jvm.Cond.methodLink "CaseNet" (71 : Nat) ({ cls := "CaseNet$Net", name := "definedTasks", desc := "()I" } : Jvm.MethodName)) ∈ wAll := wa_in 254 (by decide +kernel) (by decide +kernel)
theorem a_255 : (Jvm.Cond.instanceMethod ({ cls := "CaseNet$Net", name := "definedTasks", desc := "()I" } : Jvm.MethodName)) ∈ wAll := wa_in 255 (by decide +kernel) (by decide +kernel)
theorem a_256 : (Jvm.Cond.selects "CaseNet$Net" ({ cls := "CaseNet$Net", name := "definedTasks", desc := "()I" } : Jvm.MethodName) ({ cls := "CaseNet$Net", name := "definedTasks", desc := "()I" } : Jvm.MethodName)) ∈ wAll := wa_in 256 (by decide +kernel) (by decide +kernel)
set_option maxRecDepth 20000 in
theorem a_257 : (Jvm.Cond.code ({ cls := "CaseNet$Net", name := "definedTasks", desc := "()I" } : Jvm.MethodName) prog_3_method_3_code (3 : Nat) (Option.some Jvm.ClassFile.FieldType.int)) ∈ wAll := wa_in 257 rfl rfl
theorem a_258 : (Jvm.Cond.methodLink "CaseNetLaw" (36 : Nat) ({ cls := "CaseNet", name := "cancel", desc := "()Z" } : Jvm.MethodName)) ∈ wAll := wa_in 258 (by decide +kernel) (by decide +kernel)
theorem a_259 : (Jvm.Cond.instanceMethod ({ cls := "CaseNet", name := "cancel", desc := "()Z" } : Jvm.MethodName)) ∈ wAll := wa_in 259 (by decide +kernel) (by decide +kernel)
theorem a_260 : (Jvm.Cond.selects "CaseNet" ({ cls := "CaseNet", name := "cancel", desc := "()Z" } : Jvm.MethodName) ({ cls := "CaseNet", name := "cancel", desc := "()Z" } : Jvm.MethodName)) ∈ wAll := wa_in 260 (by decide +kernel) (by decide +kernel)
set_option maxRecDepth 20000 in
theorem a_261 : (Jvm.Cond.code ({ cls := "CaseNet", name := "cancel", desc := "()Z" } : Jvm.MethodName) prog_1_method_7_code (1 : Nat) (Option.some Jvm.ClassFile.FieldType.boolean)) ∈ wAll := wa_in 261 rfl rfl
theorem a_262 : (Jvm.Cond.methodLink "CaseNet" (78 : Nat) ({ cls := "CaseNet", name := "stopTasksAmong", desc := "(I)V" } : Jvm.MethodName)) ∈ wAll := wa_in 262 (by decide +kernel) (by decide +kernel)
theorem a_264 : (Jvm.Cond.instanceMethod ({ cls := "CaseNet", name := "stopTasksAmong", desc := "(I)V" } : Jvm.MethodName)) ∈ wAll := wa_in 264 (by decide +kernel) (by decide +kernel)
set_option maxRecDepth 20000 in
theorem a_265 : (Jvm.Cond.code ({ cls := "CaseNet", name := "stopTasksAmong", desc := "(I)V" } : Jvm.MethodName) prog_1_method_28_code (4 : Nat) (Option.none : Option Jvm.ClassFile.FieldType)) ∈ wAll := wa_in 265 rfl rfl
theorem a_266 : (Jvm.Cond.methodLink "CaseNet" (170 : Nat) ({ cls := "CaseNet", name := "stop", desc := "(LCaseNet$Task;)V" } : Jvm.MethodName)) ∈ wAll := wa_in 266 (by decide +kernel) (by decide +kernel)
theorem a_268 : (Jvm.Cond.instanceMethod ({ cls := "CaseNet", name := "stop", desc := "(LCaseNet$Task;)V" } : Jvm.MethodName)) ∈ wAll := wa_in 268 (by decide +kernel) (by decide +kernel)
set_option maxRecDepth 20000 in
theorem a_269 : (Jvm.Cond.code ({ cls := "CaseNet", name := "stop", desc := "(LCaseNet$Task;)V" } : Jvm.MethodName) prog_1_method_27_code (2 : Nat) (Option.none : Option Jvm.ClassFile.FieldType)) ∈ wAll := wa_in 269 rfl rfl
theorem a_270 : (Jvm.Cond.methodLink "CaseNet" (177 : Nat) ({ cls := "CaseNet$WorkList", name := "withdrawOpen", desc := "(II)V" } : Jvm.MethodName)) ∈ wAll := wa_in 270 (by decide +kernel) (by decide +kernel)
theorem a_271 : (Jvm.Cond.instanceMethod ({ cls := "CaseNet$WorkList", name := "withdrawOpen", desc := "(II)V" } : Jvm.MethodName)) ∈ wAll := wa_in 271 (by decide +kernel) (by decide +kernel)
theorem a_272 : (Jvm.Cond.selects "CaseNet$WorkList" ({ cls := "CaseNet$WorkList", name := "withdrawOpen", desc := "(II)V" } : Jvm.MethodName) ({ cls := "CaseNet$WorkList", name := "withdrawOpen", desc := "(II)V" } : Jvm.MethodName)) ∈ wAll := wa_in 272 (by decide +kernel) (by decide +kernel)
set_option maxRecDepth 20000 in
theorem a_273 : (Jvm.Cond.code ({ cls := "CaseNet$WorkList", name := "withdrawOpen", desc := "(II)V" } : Jvm.MethodName) prog_5_method_8_code (4 : Nat) (Option.none : Option Jvm.ClassFile.FieldType)) ∈ wAll := wa_in 273 rfl rfl
theorem a_274 : (Jvm.Cond.methodLink "CaseNet$WorkList" (25 : Nat) ({ cls := "CaseNet$WorkList", name := "isOpen", desc := "(I)Z" } : Jvm.MethodName)) ∈ wAll := wa_in 274 (by decide +kernel) (by decide +kernel)
theorem a_275 : (Jvm.Cond.instanceMethod ({ cls := "CaseNet$WorkList", name := "isOpen", desc := "(I)Z" } : Jvm.MethodName)) ∈ wAll := wa_in 275 (by decide +kernel) (by decide +kernel)
theorem a_276 : (Jvm.Cond.selects "CaseNet$WorkList" ({ cls := "CaseNet$WorkList", name := "isOpen", desc := "(I)Z" } : Jvm.MethodName) ({ cls := "CaseNet$WorkList", name := "isOpen", desc := "(I)Z" } : Jvm.MethodName)) ∈ wAll := wa_in 276 (by decide +kernel) (by decide +kernel)
set_option maxRecDepth 20000 in
theorem a_277 : (Jvm.Cond.code ({ cls := "CaseNet$WorkList", name := "isOpen", desc := "(I)Z" } : Jvm.MethodName) prog_5_method_5_code (2 : Nat) (Option.some Jvm.ClassFile.FieldType.boolean)) ∈ wAll := wa_in 277 rfl rfl
theorem a_278 : (Jvm.Cond.methodLink "CaseNetLaw" (40 : Nat) ({ cls := "CaseNet", name := "enabled", desc := "()I" } : Jvm.MethodName)) ∈ wAll := wa_in 278 (by decide +kernel) (by decide +kernel)
theorem a_279 : (Jvm.Cond.instanceMethod ({ cls := "CaseNet", name := "enabled", desc := "()I" } : Jvm.MethodName)) ∈ wAll := wa_in 279 (by decide +kernel) (by decide +kernel)
theorem a_280 : (Jvm.Cond.selects "CaseNet" ({ cls := "CaseNet", name := "enabled", desc := "()I" } : Jvm.MethodName) ({ cls := "CaseNet", name := "enabled", desc := "()I" } : Jvm.MethodName)) ∈ wAll := wa_in 280 (by decide +kernel) (by decide +kernel)
set_option maxRecDepth 20000 in
theorem a_281 : (Jvm.Cond.code ({ cls := "CaseNet", name := "enabled", desc := "()I" } : Jvm.MethodName) prog_1_method_8_code (3 : Nat) (Option.some Jvm.ClassFile.FieldType.int)) ∈ wAll := wa_in 281 rfl rfl
theorem a_282 : (Jvm.Cond.methodLink "CaseNet" (82 : Nat) ({ cls := "CaseNet", name := "canFire", desc := "(I)Z" } : Jvm.MethodName)) ∈ wAll := wa_in 282 (by decide +kernel) (by decide +kernel)
theorem a_284 : (Jvm.Cond.instanceMethod ({ cls := "CaseNet", name := "canFire", desc := "(I)Z" } : Jvm.MethodName)) ∈ wAll := wa_in 284 (by decide +kernel) (by decide +kernel)
set_option maxRecDepth 20000 in
theorem a_285 : (Jvm.Cond.code ({ cls := "CaseNet", name := "canFire", desc := "(I)Z" } : Jvm.MethodName) prog_1_method_24_code (4 : Nat) (Option.some Jvm.ClassFile.FieldType.boolean)) ∈ wAll := wa_in 285 rfl rfl
theorem a_286 : (Jvm.Cond.methodLink "CaseNet" (167 : Nat) ({ cls := "CaseNet", name := "canMoreInputsCome", desc := "(I)Z" } : Jvm.MethodName)) ∈ wAll := wa_in 286 (by decide +kernel) (by decide +kernel)
theorem a_288 : (Jvm.Cond.instanceMethod ({ cls := "CaseNet", name := "canMoreInputsCome", desc := "(I)Z" } : Jvm.MethodName)) ∈ wAll := wa_in 288 (by decide +kernel) (by decide +kernel)
set_option maxRecDepth 20000 in
theorem a_289 : (Jvm.Cond.code ({ cls := "CaseNet", name := "canMoreInputsCome", desc := "(I)Z" } : Jvm.MethodName) prog_1_method_25_code (5 : Nat) (Option.some Jvm.ClassFile.FieldType.boolean)) ∈ wAll := wa_in 289 rfl rfl
theorem a_290 : (Jvm.Cond.methodLink "CaseNet" (150 : Nat) ({ cls := "CaseNet$Net", name := "findCovering", desc := "(III)Z" } : Jvm.MethodName)) ∈ wAll := wa_in 290 (by decide +kernel) (by decide +kernel)
theorem a_291 : (Jvm.Cond.instanceMethod ({ cls := "CaseNet$Net", name := "findCovering", desc := "(III)Z" } : Jvm.MethodName)) ∈ wAll := wa_in 291 (by decide +kernel) (by decide +kernel)
theorem a_292 : (Jvm.Cond.selects "CaseNet$Net" ({ cls := "CaseNet$Net", name := "findCovering", desc := "(III)Z" } : Jvm.MethodName) ({ cls := "CaseNet$Net", name := "findCovering", desc := "(III)Z" } : Jvm.MethodName)) ∈ wAll := wa_in 292 (by decide +kernel) (by decide +kernel)
set_option maxRecDepth 20000 in
theorem a_293 : (Jvm.Cond.code ({ cls := "CaseNet$Net", name := "findCovering", desc := "(III)Z" } : Jvm.MethodName) prog_3_method_6_code (7 : Nat) (Option.some Jvm.ClassFile.FieldType.boolean)) ∈ wAll := wa_in 293 rfl rfl
theorem a_294 : (Jvm.Cond.methodLink "CaseNet$Net" (69 : Nat) ({ cls := "CaseNet$MaskSet", name := "clear", desc := "()V" } : Jvm.MethodName)) ∈ wAll := wa_in 294 (by decide +kernel) (by decide +kernel)
theorem a_295 : (Jvm.Cond.instanceMethod ({ cls := "CaseNet$MaskSet", name := "clear", desc := "()V" } : Jvm.MethodName)) ∈ wAll := wa_in 295 (by decide +kernel) (by decide +kernel)
theorem a_296 : (Jvm.Cond.selects "CaseNet$MaskSet" ({ cls := "CaseNet$MaskSet", name := "clear", desc := "()V" } : Jvm.MethodName) ({ cls := "CaseNet$MaskSet", name := "clear", desc := "()V" } : Jvm.MethodName)) ∈ wAll := wa_in 296 (by decide +kernel) (by decide +kernel)
set_option maxRecDepth 20000 in
theorem a_297 : (Jvm.Cond.code ({ cls := "CaseNet$MaskSet", name := "clear", desc := "()V" } : Jvm.MethodName) prog_2_method_2_code (1 : Nat) (Option.none : Option Jvm.ClassFile.FieldType)) ∈ wAll := wa_in 297 rfl rfl
theorem a_298 : (Jvm.Cond.methodLink "CaseNet$MaskSet" (19 : Nat) ({ cls := "java/util/Arrays", name := "fill", desc := "([JJ)V" } : Jvm.MethodName)) ∈ wAll := wa_in 298 (by decide +kernel) (by decide +kernel)
theorem a_299 : (Jvm.Cond.static ({ cls := "java/util/Arrays", name := "fill", desc := "([JJ)V" } : Jvm.MethodName)) ∈ wAll := wa_in 299 (by decide +kernel) (by decide +kernel)
set_option maxRecDepth 20000 in
theorem a_300 : (Jvm.Cond.code ({ cls := "java/util/Arrays", name := "fill", desc := "([JJ)V" } : Jvm.MethodName) prog_10_method_101_code (5 : Nat) (Option.none : Option Jvm.ClassFile.FieldType)) ∈ wAll := wa_in 300 rfl rfl
theorem a_301 : (Jvm.Cond.methodLink "CaseNet$Net" (72 : Nat) ({ cls := "CaseNet$Net", name := "addNeed", desc := "(I)V" } : Jvm.MethodName)) ∈ wAll := wa_in 301 (by decide +kernel) (by decide +kernel)
theorem a_303 : (Jvm.Cond.instanceMethod ({ cls := "CaseNet$Net", name := "addNeed", desc := "(I)V" } : Jvm.MethodName)) ∈ wAll := wa_in 303 (by decide +kernel) (by decide +kernel)
set_option maxRecDepth 20000 in
theorem a_304 : (Jvm.Cond.code ({ cls := "CaseNet$Net", name := "addNeed", desc := "(I)V" } : Jvm.MethodName) prog_3_method_9_code (2 : Nat) (Option.none : Option Jvm.ClassFile.FieldType)) ∈ wAll := wa_in 304 rfl rfl
theorem a_305 : (Jvm.Cond.methodLink "CaseNet$Net" (75 : Nat) ({ cls := "CaseNet$MaskSet", name := "has", desc := "(I)Z" } : Jvm.MethodName)) ∈ wAll := wa_in 305 (by decide +kernel) (by decide +kernel)
theorem a_306 : (Jvm.Cond.instanceMethod ({ cls := "CaseNet$MaskSet", name := "has", desc := "(I)Z" } : Jvm.MethodName)) ∈ wAll := wa_in 306 (by decide +kernel) (by decide +kernel)
theorem a_307 : (Jvm.Cond.selects "CaseNet$MaskSet" ({ cls := "CaseNet$MaskSet", name := "has", desc := "(I)Z" } : Jvm.MethodName) ({ cls := "CaseNet$MaskSet", name := "has", desc := "(I)Z" } : Jvm.MethodName)) ∈ wAll := wa_in 307 (by decide +kernel) (by decide +kernel)
set_option maxRecDepth 20000 in
theorem a_308 : (Jvm.Cond.code ({ cls := "CaseNet$MaskSet", name := "has", desc := "(I)Z" } : Jvm.MethodName) prog_2_method_3_code (2 : Nat) (Option.some Jvm.ClassFile.FieldType.boolean)) ∈ wAll := wa_in 308 rfl rfl
theorem a_309 : (Jvm.Cond.methodLink "CaseNet$Net" (108 : Nat) ({ cls := "CaseNet$MaskSet", name := "addAllAbove", desc := "(I)V" } : Jvm.MethodName)) ∈ wAll := wa_in 309 (by decide +kernel) (by decide +kernel)
theorem a_310 : (Jvm.Cond.instanceMethod ({ cls := "CaseNet$MaskSet", name := "addAllAbove", desc := "(I)V" } : Jvm.MethodName)) ∈ wAll := wa_in 310 (by decide +kernel) (by decide +kernel)
theorem a_311 : (Jvm.Cond.selects "CaseNet$MaskSet" ({ cls := "CaseNet$MaskSet", name := "addAllAbove", desc := "(I)V" } : Jvm.MethodName) ({ cls := "CaseNet$MaskSet", name := "addAllAbove", desc := "(I)V" } : Jvm.MethodName)) ∈ wAll := wa_in 311 (by decide +kernel) (by decide +kernel)
set_option maxRecDepth 20000 in
theorem a_312 : (Jvm.Cond.code ({ cls := "CaseNet$MaskSet", name := "addAllAbove", desc := "(I)V" } : Jvm.MethodName) prog_2_method_5_code (6 : Nat) (Option.none : Option Jvm.ClassFile.FieldType)) ∈ wAll := wa_in 312 rfl rfl
theorem a_313 : (Jvm.Cond.constantLong "CaseNet$MaskSet" (25 : Nat) (-1 : Int64)) ∈ wAll := wa_in 313 (by decide +kernel) (by decide +kernel)
theorem a_314 : (Jvm.Cond.fieldLink "CaseNet$MaskSet" (27 : Nat) "CaseNet$MaskSet" "HAVING" "[J") ∈ wAll := wa_in 314 (by decide +kernel) (by decide +kernel)
theorem a_316 : (Jvm.Cond.methodLink "CaseNet$Net" (111 : Nat) ({ cls := "CaseNet$MaskSet", name := "add", desc := "(I)V" } : Jvm.MethodName)) ∈ wAll := wa_in 316 (by decide +kernel) (by decide +kernel)
theorem a_317 : (Jvm.Cond.instanceMethod ({ cls := "CaseNet$MaskSet", name := "add", desc := "(I)V" } : Jvm.MethodName)) ∈ wAll := wa_in 317 (by decide +kernel) (by decide +kernel)
theorem a_318 : (Jvm.Cond.selects "CaseNet$MaskSet" ({ cls := "CaseNet$MaskSet", name := "add", desc := "(I)V" } : Jvm.MethodName) ({ cls := "CaseNet$MaskSet", name := "add", desc := "(I)V" } : Jvm.MethodName)) ∈ wAll := wa_in 318 (by decide +kernel) (by decide +kernel)
set_option maxRecDepth 20000 in
theorem a_319 : (Jvm.Cond.code ({ cls := "CaseNet$MaskSet", name := "add", desc := "(I)V" } : Jvm.MethodName) prog_2_method_4_code (3 : Nat) (Option.none : Option Jvm.ClassFile.FieldType)) ∈ wAll := wa_in 319 rfl rfl
theorem a_320 : (Jvm.Cond.methodLink "CaseNet$Net" (79 : Nat) ({ cls := "CaseNet$MaskSet", name := "draw", desc := "()I" } : Jvm.MethodName)) ∈ wAll := wa_in 320 (by decide +kernel) (by decide +kernel)
theorem a_321 : (Jvm.Cond.instanceMethod ({ cls := "CaseNet$MaskSet", name := "draw", desc := "()I" } : Jvm.MethodName)) ∈ wAll := wa_in 321 (by decide +kernel) (by decide +kernel)
theorem a_322 : (Jvm.Cond.selects "CaseNet$MaskSet" ({ cls := "CaseNet$MaskSet", name := "draw", desc := "()I" } : Jvm.MethodName) ({ cls := "CaseNet$MaskSet", name := "draw", desc := "()I" } : Jvm.MethodName)) ∈ wAll := wa_in 322 (by decide +kernel) (by decide +kernel)
set_option maxRecDepth 20000 in
theorem a_323 : (Jvm.Cond.code ({ cls := "CaseNet$MaskSet", name := "draw", desc := "()I" } : Jvm.MethodName) prog_2_method_6_code (5 : Nat) (Option.some Jvm.ClassFile.FieldType.int)) ∈ wAll := wa_in 323 rfl rfl
theorem a_324 : (Jvm.Cond.methodLink "CaseNet$MaskSet" (30 : Nat) ({ cls := "java/lang/Long", name := "bitCount", desc := "(J)I" } : Jvm.MethodName)) ∈ wAll := wa_in 324 (by decide +kernel) (by decide +kernel)
theorem a_325 : (Jvm.Cond.static ({ cls := "java/lang/Long", name := "bitCount", desc := "(J)I" } : Jvm.MethodName)) ∈ wAll := wa_in 325 (by decide +kernel) (by decide +kernel)
set_option maxRecDepth 20000 in
theorem a_326 : (Jvm.Cond.code ({ cls := "java/lang/Long", name := "bitCount", desc := "(J)I" } : Jvm.MethodName) prog_9_method_50_code (2 : Nat) (Option.some Jvm.ClassFile.FieldType.int)) ∈ wAll := wa_in 326 rfl rfl
theorem a_327 : (Jvm.Cond.constantLong "java/lang/Long" (314 : Nat) (6148914691236517205 : Int64)) ∈ wAll := wa_in 327 (by decide +kernel) (by decide +kernel)
theorem a_328 : (Jvm.Cond.constantLong "java/lang/Long" (316 : Nat) (3689348814741910323 : Int64)) ∈ wAll := wa_in 328 (by decide +kernel) (by decide +kernel)
theorem a_329 : (Jvm.Cond.constantLong "java/lang/Long" (318 : Nat) (1085102592571150095 : Int64)) ∈ wAll := wa_in 329 (by decide +kernel) (by decide +kernel)
theorem a_330 : (Jvm.Cond.methodLink "CaseNet$Net" (82 : Nat) ({ cls := "CaseNet$Net", name := "goBackBeforeEnd", desc := "(LCaseNet$Task;I)V" } : Jvm.MethodName)) ∈ wAll := wa_in 330 (by decide +kernel) (by decide +kernel)
theorem a_332 : (Jvm.Cond.instanceMethod ({ cls := "CaseNet$Net", name := "goBackBeforeEnd", desc := "(LCaseNet$Task;I)V" } : Jvm.MethodName)) ∈ wAll := wa_in 332 (by decide +kernel) (by decide +kernel)
set_option maxRecDepth 20000 in
theorem a_333 : (Jvm.Cond.code ({ cls := "CaseNet$Net", name := "goBackBeforeEnd", desc := "(LCaseNet$Task;I)V" } : Jvm.MethodName) prog_3_method_7_code (6 : Nat) (Option.none : Option Jvm.ClassFile.FieldType)) ∈ wAll := wa_in 333 rfl rfl
theorem a_334 : (Jvm.Cond.methodLink "CaseNet$Net" (86 : Nat) ({ cls := "CaseNet$Net", name := "goBackBeforeBegin", desc := "(LCaseNet$Task;I)V" } : Jvm.MethodName)) ∈ wAll := wa_in 334 (by decide +kernel) (by decide +kernel)
theorem a_336 : (Jvm.Cond.instanceMethod ({ cls := "CaseNet$Net", name := "goBackBeforeBegin", desc := "(LCaseNet$Task;I)V" } : Jvm.MethodName)) ∈ wAll := wa_in 336 (by decide +kernel) (by decide +kernel)
set_option maxRecDepth 20000 in
theorem a_337 : (Jvm.Cond.code ({ cls := "CaseNet$Net", name := "goBackBeforeBegin", desc := "(LCaseNet$Task;I)V" } : Jvm.MethodName) prog_3_method_8_code (5 : Nat) (Option.none : Option Jvm.ClassFile.FieldType)) ∈ wAll := wa_in 337 rfl rfl
theorem a_338 : (Jvm.Cond.methodLink "CaseNetLaw" (45 : Nat) ({ cls := "CaseNet", name := "fire", desc := "(I)I" } : Jvm.MethodName)) ∈ wAll := wa_in 338 (by decide +kernel) (by decide +kernel)
theorem a_339 : (Jvm.Cond.instanceMethod ({ cls := "CaseNet", name := "fire", desc := "(I)I" } : Jvm.MethodName)) ∈ wAll := wa_in 339 (by decide +kernel) (by decide +kernel)
theorem a_340 : (Jvm.Cond.selects "CaseNet" ({ cls := "CaseNet", name := "fire", desc := "(I)I" } : Jvm.MethodName) ({ cls := "CaseNet", name := "fire", desc := "(I)I" } : Jvm.MethodName)) ∈ wAll := wa_in 340 (by decide +kernel) (by decide +kernel)
set_option maxRecDepth 20000 in
theorem a_341 : (Jvm.Cond.code ({ cls := "CaseNet", name := "fire", desc := "(I)I" } : Jvm.MethodName) prog_1_method_9_code (3 : Nat) (Option.some Jvm.ClassFile.FieldType.int)) ∈ wAll := wa_in 341 rfl rfl
theorem a_342 : (Jvm.Cond.methodLink "CaseNet" (88 : Nat) ({ cls := "CaseNet$WorkList", name := "hasRoomFor", desc := "(I)Z" } : Jvm.MethodName)) ∈ wAll := wa_in 342 (by decide +kernel) (by decide +kernel)
theorem a_343 : (Jvm.Cond.instanceMethod ({ cls := "CaseNet$WorkList", name := "hasRoomFor", desc := "(I)Z" } : Jvm.MethodName)) ∈ wAll := wa_in 343 (by decide +kernel) (by decide +kernel)
theorem a_344 : (Jvm.Cond.selects "CaseNet$WorkList" ({ cls := "CaseNet$WorkList", name := "hasRoomFor", desc := "(I)Z" } : Jvm.MethodName) ({ cls := "CaseNet$WorkList", name := "hasRoomFor", desc := "(I)Z" } : Jvm.MethodName)) ∈ wAll := wa_in 344 (by decide +kernel) (by decide +kernel)
set_option maxRecDepth 20000 in
theorem a_345 : (Jvm.Cond.code ({ cls := "CaseNet$WorkList", name := "hasRoomFor", desc := "(I)Z" } : Jvm.MethodName) prog_5_method_3_code (2 : Nat) (Option.some Jvm.ClassFile.FieldType.boolean)) ∈ wAll := wa_in 345 rfl rfl
theorem a_346 : (Jvm.Cond.methodLink "CaseNet" (91 : Nat) ({ cls := "CaseNet$Task", name := "inputsUsed", desc := "(I)I" } : Jvm.MethodName)) ∈ wAll := wa_in 346 (by decide +kernel) (by decide +kernel)
theorem a_347 : (Jvm.Cond.instanceMethod ({ cls := "CaseNet$Task", name := "inputsUsed", desc := "(I)I" } : Jvm.MethodName)) ∈ wAll := wa_in 347 (by decide +kernel) (by decide +kernel)
theorem a_348 : (Jvm.Cond.selects "CaseNet$Task" ({ cls := "CaseNet$Task", name := "inputsUsed", desc := "(I)I" } : Jvm.MethodName) ({ cls := "CaseNet$Task", name := "inputsUsed", desc := "(I)I" } : Jvm.MethodName)) ∈ wAll := wa_in 348 (by decide +kernel) (by decide +kernel)
set_option maxRecDepth 20000 in
theorem a_349 : (Jvm.Cond.code ({ cls := "CaseNet$Task", name := "inputsUsed", desc := "(I)I" } : Jvm.MethodName) prog_4_method_8_code (3 : Nat) (Option.some Jvm.ClassFile.FieldType.int)) ∈ wAll := wa_in 349 rfl rfl
theorem a_350 : (Jvm.Cond.methodLink "CaseNet" (101 : Nat) ({ cls := "CaseNet$WorkList", name := "offer", desc := "(III)I" } : Jvm.MethodName)) ∈ wAll := wa_in 350 (by decide +kernel) (by decide +kernel)
theorem a_351 : (Jvm.Cond.instanceMethod ({ cls := "CaseNet$WorkList", name := "offer", desc := "(III)I" } : Jvm.MethodName)) ∈ wAll := wa_in 351 (by decide +kernel) (by decide +kernel)
theorem a_352 : (Jvm.Cond.selects "CaseNet$WorkList" ({ cls := "CaseNet$WorkList", name := "offer", desc := "(III)I" } : Jvm.MethodName) ({ cls := "CaseNet$WorkList", name := "offer", desc := "(III)I" } : Jvm.MethodName)) ∈ wAll := wa_in 352 (by decide +kernel) (by decide +kernel)
set_option maxRecDepth 20000 in
theorem a_353 : (Jvm.Cond.code ({ cls := "CaseNet$WorkList", name := "offer", desc := "(III)I" } : Jvm.MethodName) prog_5_method_4_code (6 : Nat) (Option.some Jvm.ClassFile.FieldType.int)) ∈ wAll := wa_in 353 rfl rfl
theorem a_354 : (Jvm.Cond.methodLink "CaseNetLaw" (50 : Nat) ({ cls := "CaseNet", name := "start", desc := "(I)I" } : Jvm.MethodName)) ∈ wAll := wa_in 354 (by decide +kernel) (by decide +kernel)
theorem a_355 : (Jvm.Cond.instanceMethod ({ cls := "CaseNet", name := "start", desc := "(I)I" } : Jvm.MethodName)) ∈ wAll := wa_in 355 (by decide +kernel) (by decide +kernel)
theorem a_356 : (Jvm.Cond.selects "CaseNet" ({ cls := "CaseNet", name := "start", desc := "(I)I" } : Jvm.MethodName) ({ cls := "CaseNet", name := "start", desc := "(I)I" } : Jvm.MethodName)) ∈ wAll := wa_in 356 (by decide +kernel) (by decide +kernel)
set_option maxRecDepth 20000 in
theorem a_357 : (Jvm.Cond.code ({ cls := "CaseNet", name := "start", desc := "(I)I" } : Jvm.MethodName) prog_1_method_10_code (2 : Nat) (Option.some Jvm.ClassFile.FieldType.int)) ∈ wAll := wa_in 357 rfl rfl
theorem a_358 : (Jvm.Cond.methodLink "CaseNet" (108 : Nat) ({ cls := "CaseNet$WorkList", name := "has", desc := "(I)Z" } : Jvm.MethodName)) ∈ wAll := wa_in 358 (by decide +kernel) (by decide +kernel)
theorem a_359 : (Jvm.Cond.instanceMethod ({ cls := "CaseNet$WorkList", name := "has", desc := "(I)Z" } : Jvm.MethodName)) ∈ wAll := wa_in 359 (by decide +kernel) (by decide +kernel)
theorem a_360 : (Jvm.Cond.selects "CaseNet$WorkList" ({ cls := "CaseNet$WorkList", name := "has", desc := "(I)Z" } : Jvm.MethodName) ({ cls := "CaseNet$WorkList", name := "has", desc := "(I)Z" } : Jvm.MethodName)) ∈ wAll := wa_in 360 (by decide +kernel) (by decide +kernel)
set_option maxRecDepth 20000 in
theorem a_361 : (Jvm.Cond.code ({ cls := "CaseNet$WorkList", name := "has", desc := "(I)Z" } : Jvm.MethodName) prog_5_method_2_code (2 : Nat) (Option.some Jvm.ClassFile.FieldType.boolean)) ∈ wAll := wa_in 361 rfl rfl
theorem a_362 : (Jvm.Cond.methodLink "CaseNetLaw" (54 : Nat) ({ cls := "CaseNet", name := "finish", desc := "(II)I" } : Jvm.MethodName)) ∈ wAll := wa_in 362 (by decide +kernel) (by decide +kernel)
theorem a_363 : (Jvm.Cond.instanceMethod ({ cls := "CaseNet", name := "finish", desc := "(II)I" } : Jvm.MethodName)) ∈ wAll := wa_in 363 (by decide +kernel) (by decide +kernel)
theorem a_364 : (Jvm.Cond.selects "CaseNet" ({ cls := "CaseNet", name := "finish", desc := "(II)I" } : Jvm.MethodName) ({ cls := "CaseNet", name := "finish", desc := "(II)I" } : Jvm.MethodName)) ∈ wAll := wa_in 364 (by decide +kernel) (by decide +kernel)
set_option maxRecDepth 20000 in
theorem a_365 : (Jvm.Cond.code ({ cls := "CaseNet", name := "finish", desc := "(II)I" } : Jvm.MethodName) prog_1_method_11_code (4 : Nat) (Option.some Jvm.ClassFile.FieldType.int)) ∈ wAll := wa_in 365 rfl rfl
theorem a_366 : (Jvm.Cond.methodLink "CaseNet" (120 : Nat) ({ cls := "CaseNet$WorkList", name := "countCompleted", desc := "(II)I" } : Jvm.MethodName)) ∈ wAll := wa_in 366 (by decide +kernel) (by decide +kernel)
theorem a_367 : (Jvm.Cond.instanceMethod ({ cls := "CaseNet$WorkList", name := "countCompleted", desc := "(II)I" } : Jvm.MethodName)) ∈ wAll := wa_in 367 (by decide +kernel) (by decide +kernel)
theorem a_368 : (Jvm.Cond.selects "CaseNet$WorkList" ({ cls := "CaseNet$WorkList", name := "countCompleted", desc := "(II)I" } : Jvm.MethodName) ({ cls := "CaseNet$WorkList", name := "countCompleted", desc := "(II)I" } : Jvm.MethodName)) ∈ wAll := wa_in 368 (by decide +kernel) (by decide +kernel)
set_option maxRecDepth 20000 in
theorem a_369 : (Jvm.Cond.code ({ cls := "CaseNet$WorkList", name := "countCompleted", desc := "(II)I" } : Jvm.MethodName) prog_5_method_7_code (5 : Nat) (Option.some Jvm.ClassFile.FieldType.int)) ∈ wAll := wa_in 369 rfl rfl
theorem a_370 : (Jvm.Cond.methodLink "CaseNet" (127 : Nat) ({ cls := "CaseNet", name := "end", desc := "(LCaseNet$Task;)V" } : Jvm.MethodName)) ∈ wAll := wa_in 370 (by decide +kernel) (by decide +kernel)
theorem a_372 : (Jvm.Cond.instanceMethod ({ cls := "CaseNet", name := "end", desc := "(LCaseNet$Task;)V" } : Jvm.MethodName)) ∈ wAll := wa_in 372 (by decide +kernel) (by decide +kernel)
set_option maxRecDepth 20000 in
theorem a_373 : (Jvm.Cond.code ({ cls := "CaseNet", name := "end", desc := "(LCaseNet$Task;)V" } : Jvm.MethodName) prog_1_method_26_code (2 : Nat) (Option.none : Option Jvm.ClassFile.FieldType)) ∈ wAll := wa_in 373 rfl rfl
theorem a_374 : (Jvm.Cond.methodLink "CaseNet" (173 : Nat) ({ cls := "CaseNet$Task", name := "chosenOutputs", desc := "([I)I" } : Jvm.MethodName)) ∈ wAll := wa_in 374 (by decide +kernel) (by decide +kernel)
theorem a_375 : (Jvm.Cond.instanceMethod ({ cls := "CaseNet$Task", name := "chosenOutputs", desc := "([I)I" } : Jvm.MethodName)) ∈ wAll := wa_in 375 (by decide +kernel) (by decide +kernel)
theorem a_376 : (Jvm.Cond.selects "CaseNet$Task" ({ cls := "CaseNet$Task", name := "chosenOutputs", desc := "([I)I" } : Jvm.MethodName) ({ cls := "CaseNet$Task", name := "chosenOutputs", desc := "([I)I" } : Jvm.MethodName)) ∈ wAll := wa_in 376 (by decide +kernel) (by decide +kernel)
set_option maxRecDepth 20000 in
theorem a_377 : (Jvm.Cond.code ({ cls := "CaseNet$Task", name := "chosenOutputs", desc := "([I)I" } : Jvm.MethodName) prog_4_method_9_code (5 : Nat) (Option.some Jvm.ClassFile.FieldType.int)) ∈ wAll := wa_in 377 rfl rfl
theorem a_378 : (Jvm.Cond.methodLink "CaseNet$Task" (93 : Nat) ({ cls := "CaseNet$Task", name := "guardHolds", desc := "(I[I)Z" } : Jvm.MethodName)) ∈ wAll := wa_in 378 (by decide +kernel) (by decide +kernel)
theorem a_380 : (Jvm.Cond.instanceMethod ({ cls := "CaseNet$Task", name := "guardHolds", desc := "(I[I)Z" } : Jvm.MethodName)) ∈ wAll := wa_in 380 (by decide +kernel) (by decide +kernel)
set_option maxRecDepth 20000 in
theorem a_381 : (Jvm.Cond.code ({ cls := "CaseNet$Task", name := "guardHolds", desc := "(I[I)Z" } : Jvm.MethodName) prog_4_method_10_code (4 : Nat) (Option.some Jvm.ClassFile.FieldType.boolean)) ∈ wAll := wa_in 381 rfl rfl
theorem a_382 : (Jvm.Cond.methodLink "CaseNet" (131 : Nat) ({ cls := "CaseNet", name := "stopIfNoneIsOpen", desc := "(LCaseNet$Task;)Z" } : Jvm.MethodName)) ∈ wAll := wa_in 382 (by decide +kernel) (by decide +kernel)
theorem a_384 : (Jvm.Cond.instanceMethod ({ cls := "CaseNet", name := "stopIfNoneIsOpen", desc := "(LCaseNet$Task;)Z" } : Jvm.MethodName)) ∈ wAll := wa_in 384 (by decide +kernel) (by decide +kernel)
set_option maxRecDepth 20000 in
theorem a_385 : (Jvm.Cond.code ({ cls := "CaseNet", name := "stopIfNoneIsOpen", desc := "(LCaseNet$Task;)Z" } : Jvm.MethodName) prog_1_method_29_code (2 : Nat) (Option.some Jvm.ClassFile.FieldType.boolean)) ∈ wAll := wa_in 385 rfl rfl
theorem a_386 : (Jvm.Cond.methodLink "CaseNet" (181 : Nat) ({ cls := "CaseNet$WorkList", name := "isAnyOpen", desc := "(II)Z" } : Jvm.MethodName)) ∈ wAll := wa_in 386 (by decide +kernel) (by decide +kernel)
theorem a_387 : (Jvm.Cond.instanceMethod ({ cls := "CaseNet$WorkList", name := "isAnyOpen", desc := "(II)Z" } : Jvm.MethodName)) ∈ wAll := wa_in 387 (by decide +kernel) (by decide +kernel)
theorem a_388 : (Jvm.Cond.selects "CaseNet$WorkList" ({ cls := "CaseNet$WorkList", name := "isAnyOpen", desc := "(II)Z" } : Jvm.MethodName) ({ cls := "CaseNet$WorkList", name := "isAnyOpen", desc := "(II)Z" } : Jvm.MethodName)) ∈ wAll := wa_in 388 (by decide +kernel) (by decide +kernel)
set_option maxRecDepth 20000 in
theorem a_389 : (Jvm.Cond.code ({ cls := "CaseNet$WorkList", name := "isAnyOpen", desc := "(II)Z" } : Jvm.MethodName) prog_5_method_6_code (4 : Nat) (Option.some Jvm.ClassFile.FieldType.boolean)) ∈ wAll := wa_in 389 rfl rfl
theorem a_390 : (Jvm.Cond.methodLink "CaseNetLaw" (59 : Nat) ({ cls := "CaseNet", name := "fail", desc := "(I)I" } : Jvm.MethodName)) ∈ wAll := wa_in 390 (by decide +kernel) (by decide +kernel)
theorem a_391 : (Jvm.Cond.instanceMethod ({ cls := "CaseNet", name := "fail", desc := "(I)I" } : Jvm.MethodName)) ∈ wAll := wa_in 391 (by decide +kernel) (by decide +kernel)
theorem a_392 : (Jvm.Cond.selects "CaseNet" ({ cls := "CaseNet", name := "fail", desc := "(I)I" } : Jvm.MethodName) ({ cls := "CaseNet", name := "fail", desc := "(I)I" } : Jvm.MethodName)) ∈ wAll := wa_in 392 (by decide +kernel) (by decide +kernel)
set_option maxRecDepth 20000 in
theorem a_393 : (Jvm.Cond.code ({ cls := "CaseNet", name := "fail", desc := "(I)I" } : Jvm.MethodName) prog_1_method_12_code (2 : Nat) (Option.some Jvm.ClassFile.FieldType.int)) ∈ wAll := wa_in 393 rfl rfl
theorem a_394 : (Jvm.Cond.methodLink "CaseNet" (135 : Nat) ({ cls := "CaseNet$WorkList", name := "isOpen", desc := "(I)Z" } : Jvm.MethodName)) ∈ wAll := wa_in 394 (by decide +kernel) (by decide +kernel)
theorem a_395 : (Jvm.Cond.methodLink "CaseNet" (138 : Nat) ({ cls := "CaseNet", name := "failOpen", desc := "(I)Z" } : Jvm.MethodName)) ∈ wAll := wa_in 395 (by decide +kernel) (by decide +kernel)
theorem a_397 : (Jvm.Cond.instanceMethod ({ cls := "CaseNet", name := "failOpen", desc := "(I)Z" } : Jvm.MethodName)) ∈ wAll := wa_in 397 (by decide +kernel) (by decide +kernel)
set_option maxRecDepth 20000 in
theorem a_398 : (Jvm.Cond.code ({ cls := "CaseNet", name := "failOpen", desc := "(I)Z" } : Jvm.MethodName) prog_1_method_30_code (2 : Nat) (Option.some Jvm.ClassFile.FieldType.boolean)) ∈ wAll := wa_in 398 rfl rfl
theorem a_399 : (Jvm.Cond.methodLink "CaseNetLaw" (63 : Nat) ({ cls := "CaseNet", name := "tick", desc := "(I)I" } : Jvm.MethodName)) ∈ wAll := wa_in 399 (by decide +kernel) (by decide +kernel)
theorem a_400 : (Jvm.Cond.instanceMethod ({ cls := "CaseNet", name := "tick", desc := "(I)I" } : Jvm.MethodName)) ∈ wAll := wa_in 400 (by decide +kernel) (by decide +kernel)
theorem a_401 : (Jvm.Cond.selects "CaseNet" ({ cls := "CaseNet", name := "tick", desc := "(I)I" } : Jvm.MethodName) ({ cls := "CaseNet", name := "tick", desc := "(I)I" } : Jvm.MethodName)) ∈ wAll := wa_in 401 (by decide +kernel) (by decide +kernel)
set_option maxRecDepth 20000 in
theorem a_402 : (Jvm.Cond.code ({ cls := "CaseNet", name := "tick", desc := "(I)I" } : Jvm.MethodName) prog_1_method_13_code (3 : Nat) (Option.some Jvm.ClassFile.FieldType.int)) ∈ wAll := wa_in 402 rfl rfl
theorem a_403 : (Jvm.Cond.methodLink "CaseNet" (144 : Nat) ({ cls := "CaseNet", name := "isOverdue", desc := "(I)Z" } : Jvm.MethodName)) ∈ wAll := wa_in 403 (by decide +kernel) (by decide +kernel)
theorem a_405 : (Jvm.Cond.instanceMethod ({ cls := "CaseNet", name := "isOverdue", desc := "(I)Z" } : Jvm.MethodName)) ∈ wAll := wa_in 405 (by decide +kernel) (by decide +kernel)
set_option maxRecDepth 20000 in
theorem a_406 : (Jvm.Cond.code ({ cls := "CaseNet", name := "isOverdue", desc := "(I)Z" } : Jvm.MethodName) prog_1_method_31_code (3 : Nat) (Option.some Jvm.ClassFile.FieldType.boolean)) ∈ wAll := wa_in 406 rfl rfl
theorem a_407 : (Jvm.Cond.methodLink "CaseNetLaw" (67 : Nat) ({ cls := "CaseNet", name := "set", desc := "(II)Z" } : Jvm.MethodName)) ∈ wAll := wa_in 407 (by decide +kernel) (by decide +kernel)
theorem a_408 : (Jvm.Cond.instanceMethod ({ cls := "CaseNet", name := "set", desc := "(II)Z" } : Jvm.MethodName)) ∈ wAll := wa_in 408 (by decide +kernel) (by decide +kernel)
theorem a_409 : (Jvm.Cond.selects "CaseNet" ({ cls := "CaseNet", name := "set", desc := "(II)Z" } : Jvm.MethodName) ({ cls := "CaseNet", name := "set", desc := "(II)Z" } : Jvm.MethodName)) ∈ wAll := wa_in 409 (by decide +kernel) (by decide +kernel)
set_option maxRecDepth 20000 in
theorem a_410 : (Jvm.Cond.code ({ cls := "CaseNet", name := "set", desc := "(II)Z" } : Jvm.MethodName) prog_1_method_14_code (3 : Nat) (Option.some Jvm.ClassFile.FieldType.boolean)) ∈ wAll := wa_in 410 rfl rfl
theorem a_411 : (Jvm.Cond.methodLink "CaseNetLaw" (71 : Nat) ({ cls := "CaseNet", name := "variable", desc := "(I)I" } : Jvm.MethodName)) ∈ wAll := wa_in 411 (by decide +kernel) (by decide +kernel)
theorem a_412 : (Jvm.Cond.instanceMethod ({ cls := "CaseNet", name := "variable", desc := "(I)I" } : Jvm.MethodName)) ∈ wAll := wa_in 412 (by decide +kernel) (by decide +kernel)
theorem a_413 : (Jvm.Cond.selects "CaseNet" ({ cls := "CaseNet", name := "variable", desc := "(I)I" } : Jvm.MethodName) ({ cls := "CaseNet", name := "variable", desc := "(I)I" } : Jvm.MethodName)) ∈ wAll := wa_in 413 (by decide +kernel) (by decide +kernel)
set_option maxRecDepth 20000 in
theorem a_414 : (Jvm.Cond.code ({ cls := "CaseNet", name := "variable", desc := "(I)I" } : Jvm.MethodName) prog_1_method_15_code (2 : Nat) (Option.some Jvm.ClassFile.FieldType.int)) ∈ wAll := wa_in 414 rfl rfl
theorem a_415 : (Jvm.Cond.methodLink "CaseNetLaw" (75 : Nat) ({ cls := "CaseNet", name := "marking", desc := "()I" } : Jvm.MethodName)) ∈ wAll := wa_in 415 (by decide +kernel) (by decide +kernel)
theorem a_416 : (Jvm.Cond.instanceMethod ({ cls := "CaseNet", name := "marking", desc := "()I" } : Jvm.MethodName)) ∈ wAll := wa_in 416 (by decide +kernel) (by decide +kernel)
theorem a_417 : (Jvm.Cond.selects "CaseNet" ({ cls := "CaseNet", name := "marking", desc := "()I" } : Jvm.MethodName) ({ cls := "CaseNet", name := "marking", desc := "()I" } : Jvm.MethodName)) ∈ wAll := wa_in 417 (by decide +kernel) (by decide +kernel)
set_option maxRecDepth 20000 in
theorem a_418 : (Jvm.Cond.code ({ cls := "CaseNet", name := "marking", desc := "()I" } : Jvm.MethodName) prog_1_method_16_code (1 : Nat) (Option.some Jvm.ClassFile.FieldType.int)) ∈ wAll := wa_in 418 rfl rfl
theorem a_419 : (Jvm.Cond.methodLink "CaseNetLaw" (79 : Nat) ({ cls := "CaseNet", name := "item", desc := "(II)I" } : Jvm.MethodName)) ∈ wAll := wa_in 419 (by decide +kernel) (by decide +kernel)
theorem a_420 : (Jvm.Cond.instanceMethod ({ cls := "CaseNet", name := "item", desc := "(II)I" } : Jvm.MethodName)) ∈ wAll := wa_in 420 (by decide +kernel) (by decide +kernel)
theorem a_421 : (Jvm.Cond.selects "CaseNet" ({ cls := "CaseNet", name := "item", desc := "(II)I" } : Jvm.MethodName) ({ cls := "CaseNet", name := "item", desc := "(II)I" } : Jvm.MethodName)) ∈ wAll := wa_in 421 (by decide +kernel) (by decide +kernel)
set_option maxRecDepth 20000 in
theorem a_422 : (Jvm.Cond.code ({ cls := "CaseNet", name := "item", desc := "(II)I" } : Jvm.MethodName) prog_1_method_17_code (3 : Nat) (Option.some Jvm.ClassFile.FieldType.int)) ∈ wAll := wa_in 422 rfl rfl
theorem a_423 : (Jvm.Cond.methodLink "CaseNetLaw" (83 : Nat) ({ cls := "CaseNet", name := "covers", desc := "(III)I" } : Jvm.MethodName)) ∈ wAll := wa_in 423 (by decide +kernel) (by decide +kernel)
theorem a_424 : (Jvm.Cond.instanceMethod ({ cls := "CaseNet", name := "covers", desc := "(III)I" } : Jvm.MethodName)) ∈ wAll := wa_in 424 (by decide +kernel) (by decide +kernel)
theorem a_425 : (Jvm.Cond.selects "CaseNet" ({ cls := "CaseNet", name := "covers", desc := "(III)I" } : Jvm.MethodName) ({ cls := "CaseNet", name := "covers", desc := "(III)I" } : Jvm.MethodName)) ∈ wAll := wa_in 425 (by decide +kernel) (by decide +kernel)
set_option maxRecDepth 20000 in
theorem a_426 : (Jvm.Cond.code ({ cls := "CaseNet", name := "covers", desc := "(III)I" } : Jvm.MethodName) prog_1_method_18_code (4 : Nat) (Option.some Jvm.ClassFile.FieldType.int)) ∈ wAll := wa_in 426 rfl rfl
theorem a_427 : (Jvm.Cond.methodLink "CaseNetLaw" (88 : Nat) ({ cls := "CaseNet", name := "verdict", desc := "()I" } : Jvm.MethodName)) ∈ wAll := wa_in 427 (by decide +kernel) (by decide +kernel)
theorem a_428 : (Jvm.Cond.instanceMethod ({ cls := "CaseNet", name := "verdict", desc := "()I" } : Jvm.MethodName)) ∈ wAll := wa_in 428 (by decide +kernel) (by decide +kernel)
theorem a_429 : (Jvm.Cond.selects "CaseNet" ({ cls := "CaseNet", name := "verdict", desc := "()I" } : Jvm.MethodName) ({ cls := "CaseNet", name := "verdict", desc := "()I" } : Jvm.MethodName)) ∈ wAll := wa_in 429 (by decide +kernel) (by decide +kernel)
set_option maxRecDepth 20000 in
theorem a_430 : (Jvm.Cond.code ({ cls := "CaseNet", name := "verdict", desc := "()I" } : Jvm.MethodName) prog_1_method_19_code (1 : Nat) (Option.some Jvm.ClassFile.FieldType.int)) ∈ wAll := wa_in 430 rfl rfl
theorem a_431 : (Jvm.Cond.methodLink "CaseNet" (153 : Nat) ({ cls := "CaseNet$Net", name := "judge", desc := "()I" } : Jvm.MethodName)) ∈ wAll := wa_in 431 (by decide +kernel) (by decide +kernel)
theorem a_432 : (Jvm.Cond.instanceMethod ({ cls := "CaseNet$Net", name := "judge", desc := "()I" } : Jvm.MethodName)) ∈ wAll := wa_in 432 (by decide +kernel) (by decide +kernel)
theorem a_433 : (Jvm.Cond.selects "CaseNet$Net" ({ cls := "CaseNet$Net", name := "judge", desc := "()I" } : Jvm.MethodName) ({ cls := "CaseNet$Net", name := "judge", desc := "()I" } : Jvm.MethodName)) ∈ wAll := wa_in 433 (by decide +kernel) (by decide +kernel)
set_option maxRecDepth 20000 in
theorem a_434 : (Jvm.Cond.code ({ cls := "CaseNet$Net", name := "judge", desc := "()I" } : Jvm.MethodName) prog_3_method_4_code (2 : Nat) (Option.some Jvm.ClassFile.FieldType.int)) ∈ wAll := wa_in 434 rfl rfl
theorem a_435 : (Jvm.Cond.methodLink "CaseNet$Net" (41 : Nat) ({ cls := "CaseNet$Net", name := "definedTasks", desc := "()I" } : Jvm.MethodName)) ∈ wAll := wa_in 435 (by decide +kernel) (by decide +kernel)
theorem a_436 : (Jvm.Cond.methodLink "CaseNet$Net" (45 : Nat) ({ cls := "CaseNet$Net", name := "hasJoinSome", desc := "()Z" } : Jvm.MethodName)) ∈ wAll := wa_in 436 (by decide +kernel) (by decide +kernel)
theorem a_438 : (Jvm.Cond.instanceMethod ({ cls := "CaseNet$Net", name := "hasJoinSome", desc := "()Z" } : Jvm.MethodName)) ∈ wAll := wa_in 438 (by decide +kernel) (by decide +kernel)
set_option maxRecDepth 20000 in
theorem a_439 : (Jvm.Cond.code ({ cls := "CaseNet$Net", name := "hasJoinSome", desc := "()Z" } : Jvm.MethodName) prog_3_method_5_code (2 : Nat) (Option.some Jvm.ClassFile.FieldType.boolean)) ∈ wAll := wa_in 439 rfl rfl
theorem a_440 : (Jvm.Cond.methodLink "CaseNet$Net" (49 : Nat) ({ cls := "CaseNet$Net", name := "reachFromStart", desc := "()V" } : Jvm.MethodName)) ∈ wAll := wa_in 440 (by decide +kernel) (by decide +kernel)
theorem a_442 : (Jvm.Cond.instanceMethod ({ cls := "CaseNet$Net", name := "reachFromStart", desc := "()V" } : Jvm.MethodName)) ∈ wAll := wa_in 442 (by decide +kernel) (by decide +kernel)
set_option maxRecDepth 20000 in
theorem a_443 : (Jvm.Cond.code ({ cls := "CaseNet$Net", name := "reachFromStart", desc := "()V" } : Jvm.MethodName) prog_3_method_10_code (4 : Nat) (Option.none : Option Jvm.ClassFile.FieldType)) ∈ wAll := wa_in 443 rfl rfl
theorem a_444 : (Jvm.Cond.methodLink "CaseNet$Net" (114 : Nat) ({ cls := "CaseNet$Net", name := "addReached", desc := "(I)V" } : Jvm.MethodName)) ∈ wAll := wa_in 444 (by decide +kernel) (by decide +kernel)
theorem a_446 : (Jvm.Cond.instanceMethod ({ cls := "CaseNet$Net", name := "addReached", desc := "(I)V" } : Jvm.MethodName)) ∈ wAll := wa_in 446 (by decide +kernel) (by decide +kernel)
set_option maxRecDepth 20000 in
theorem a_447 : (Jvm.Cond.code ({ cls := "CaseNet$Net", name := "addReached", desc := "(I)V" } : Jvm.MethodName) prog_3_method_13_code (2 : Nat) (Option.none : Option Jvm.ClassFile.FieldType)) ∈ wAll := wa_in 447 rfl rfl
theorem a_448 : (Jvm.Cond.methodLink "CaseNet$Net" (117 : Nat) ({ cls := "CaseNet$Net", name := "goOnByBegin", desc := "(II)V" } : Jvm.MethodName)) ∈ wAll := wa_in 448 (by decide +kernel) (by decide +kernel)
theorem a_450 : (Jvm.Cond.instanceMethod ({ cls := "CaseNet$Net", name := "goOnByBegin", desc := "(II)V" } : Jvm.MethodName)) ∈ wAll := wa_in 450 (by decide +kernel) (by decide +kernel)
set_option maxRecDepth 20000 in
theorem a_451 : (Jvm.Cond.code ({ cls := "CaseNet$Net", name := "goOnByBegin", desc := "(II)V" } : Jvm.MethodName) prog_3_method_11_code (6 : Nat) (Option.none : Option Jvm.ClassFile.FieldType)) ∈ wAll := wa_in 451 rfl rfl
theorem a_452 : (Jvm.Cond.methodLink "CaseNet$Net" (121 : Nat) ({ cls := "CaseNet$Net", name := "goOnByEnd", desc := "(LCaseNet$Task;I)V" } : Jvm.MethodName)) ∈ wAll := wa_in 452 (by decide +kernel) (by decide +kernel)
theorem a_454 : (Jvm.Cond.instanceMethod ({ cls := "CaseNet$Net", name := "goOnByEnd", desc := "(LCaseNet$Task;I)V" } : Jvm.MethodName)) ∈ wAll := wa_in 454 (by decide +kernel) (by decide +kernel)
set_option maxRecDepth 20000 in
theorem a_455 : (Jvm.Cond.code ({ cls := "CaseNet$Net", name := "goOnByEnd", desc := "(LCaseNet$Task;I)V" } : Jvm.MethodName) prog_3_method_12_code (5 : Nat) (Option.none : Option Jvm.ClassFile.FieldType)) ∈ wAll := wa_in 455 rfl rfl
theorem a_456 : (Jvm.Cond.methodLink "CaseNet$Net" (52 : Nat) ({ cls := "CaseNet$Net", name := "findCovering", desc := "(III)Z" } : Jvm.MethodName)) ∈ wAll := wa_in 456 (by decide +kernel) (by decide +kernel)
theorem a_457 : (Jvm.Cond.methodLink "CaseNet$Net" (55 : Nat) ({ cls := "CaseNet$MaskSet", name := "isWithin", desc := "(LCaseNet$MaskSet;)Z" } : Jvm.MethodName)) ∈ wAll := wa_in 457 (by decide +kernel) (by decide +kernel)
theorem a_458 : (Jvm.Cond.instanceMethod ({ cls := "CaseNet$MaskSet", name := "isWithin", desc := "(LCaseNet$MaskSet;)Z" } : Jvm.MethodName)) ∈ wAll := wa_in 458 (by decide +kernel) (by decide +kernel)
theorem a_459 : (Jvm.Cond.selects "CaseNet$MaskSet" ({ cls := "CaseNet$MaskSet", name := "isWithin", desc := "(LCaseNet$MaskSet;)Z" } : Jvm.MethodName) ({ cls := "CaseNet$MaskSet", name := "isWithin", desc := "(LCaseNet$MaskSet;)Z" } : Jvm.MethodName)) ∈ wAll := wa_in 459 (by decide +kernel) (by decide +kernel)
set_option maxRecDepth 20000 in
theorem a_460 : (Jvm.Cond.code ({ cls := "CaseNet$MaskSet", name := "isWithin", desc := "(LCaseNet$MaskSet;)Z" } : Jvm.MethodName) prog_2_method_7_code (3 : Nat) (Option.some Jvm.ClassFile.FieldType.boolean)) ∈ wAll := wa_in 460 rfl rfl
theorem a_461 : (Jvm.Cond.classLink "CaseNetLaw" (10 : Nat) "CaseNetModel") ∈ wAll := wa_in 461 (by decide +kernel) (by decide +kernel)
theorem a_462 : (Jvm.Cond.instantiable "CaseNetModel" (28 : Nat)) ∈ wAll := wa_in 462 (by decide +kernel) (by decide +kernel)
theorem a_463 : (Jvm.Cond.methodLink "CaseNetLaw" (12 : Nat) ({ cls := "CaseNetModel", name := "<init>", desc := "()V" } : Jvm.MethodName)) ∈ wAll := wa_in 463 (by decide +kernel) (by decide +kernel)
theorem a_464 : (Jvm.Cond.instanceMethod ({ cls := "CaseNetModel", name := "<init>", desc := "()V" } : Jvm.MethodName)) ∈ wAll := wa_in 464 (by decide +kernel) (by decide +kernel)
set_option maxRecDepth 20000 in
theorem a_465 : (Jvm.Cond.code ({ cls := "CaseNetModel", name := "<init>", desc := "()V" } : Jvm.MethodName) prog_7_method_1_code (1 : Nat) (Option.none : Option Jvm.ClassFile.FieldType)) ∈ wAll := wa_in 465 rfl rfl
theorem a_466 : (Jvm.Cond.methodLink "CaseNetModel" (1 : Nat) ({ cls := "java/lang/Object", name := "<init>", desc := "()V" } : Jvm.MethodName)) ∈ wAll := wa_in 466 (by decide +kernel) (by decide +kernel)
theorem a_467 : (Jvm.Cond.fieldLink "CaseNetModel" (7 : Nat) "CaseNetModel" "defined" "[Z") ∈ wAll := wa_in 467 (by decide +kernel) (by decide +kernel)
theorem a_468 : (Jvm.Cond.fieldLink "CaseNetModel" (13 : Nat) "CaseNetModel" "joins" "[I") ∈ wAll := wa_in 468 (by decide +kernel) (by decide +kernel)
theorem a_469 : (Jvm.Cond.fieldLink "CaseNetModel" (17 : Nat) "CaseNetModel" "splits" "[I") ∈ wAll := wa_in 469 (by decide +kernel) (by decide +kernel)
theorem a_470 : (Jvm.Cond.fieldLink "CaseNetModel" (20 : Nat) "CaseNetModel" "insOf" "[I") ∈ wAll := wa_in 470 (by decide +kernel) (by decide +kernel)
theorem a_471 : (Jvm.Cond.fieldLink "CaseNetModel" (23 : Nat) "CaseNetModel" "outsOf" "[I") ∈ wAll := wa_in 471 (by decide +kernel) (by decide +kernel)
theorem a_472 : (Jvm.Cond.fieldLink "CaseNetModel" (26 : Nat) "CaseNetModel" "inBits" "[I") ∈ wAll := wa_in 472 (by decide +kernel) (by decide +kernel)
theorem a_473 : (Jvm.Cond.fieldLink "CaseNetModel" (29 : Nat) "CaseNetModel" "outBits" "[I") ∈ wAll := wa_in 473 (by decide +kernel) (by decide +kernel)
theorem a_474 : (Jvm.Cond.fieldLink "CaseNetModel" (32 : Nat) "CaseNetModel" "regions" "[I") ∈ wAll := wa_in 474 (by decide +kernel) (by decide +kernel)
theorem a_475 : (Jvm.Cond.fieldLink "CaseNetModel" (35 : Nat) "CaseNetModel" "guardOf" "[I") ∈ wAll := wa_in 475 (by decide +kernel) (by decide +kernel)
theorem a_476 : (Jvm.Cond.fieldLink "CaseNetModel" (38 : Nat) "CaseNetModel" "lows" "[I") ∈ wAll := wa_in 476 (by decide +kernel) (by decide +kernel)
theorem a_477 : (Jvm.Cond.fieldLink "CaseNetModel" (41 : Nat) "CaseNetModel" "highs" "[I") ∈ wAll := wa_in 477 (by decide +kernel) (by decide +kernel)
theorem a_478 : (Jvm.Cond.fieldLink "CaseNetModel" (44 : Nat) "CaseNetModel" "numbers" "[I") ∈ wAll := wa_in 478 (by decide +kernel) (by decide +kernel)
theorem a_479 : (Jvm.Cond.fieldLink "CaseNetModel" (47 : Nat) "CaseNetModel" "thresholds" "[I") ∈ wAll := wa_in 479 (by decide +kernel) (by decide +kernel)
theorem a_480 : (Jvm.Cond.fieldLink "CaseNetModel" (50 : Nat) "CaseNetModel" "variableOf" "[I") ∈ wAll := wa_in 480 (by decide +kernel) (by decide +kernel)
theorem a_481 : (Jvm.Cond.fieldLink "CaseNetModel" (53 : Nat) "CaseNetModel" "deadlines" "[I") ∈ wAll := wa_in 481 (by decide +kernel) (by decide +kernel)
theorem a_482 : (Jvm.Cond.fieldLink "CaseNetModel" (89 : Nat) "CaseNetModel" "on" "Z") ∈ wAll := wa_in 482 (by decide +kernel) (by decide +kernel)
theorem a_483 : (Jvm.Cond.fieldLink "CaseNetModel" (85 : Nat) "CaseNetModel" "mask" "I") ∈ wAll := wa_in 483 (by decide +kernel) (by decide +kernel)
theorem a_484 : (Jvm.Cond.fieldLink "CaseNetModel" (143 : Nat) "CaseNetModel" "clock" "I") ∈ wAll := wa_in 484 (by decide +kernel) (by decide +kernel)
theorem a_485 : (Jvm.Cond.fieldLink "CaseNetModel" (56 : Nat) "CaseNetModel" "variables" "[I") ∈ wAll := wa_in 485 (by decide +kernel) (by decide +kernel)
theorem a_486 : (Jvm.Cond.fieldLink "CaseNetModel" (128 : Nat) "CaseNetModel" "made" "I") ∈ wAll := wa_in 486 (by decide +kernel) (by decide +kernel)
theorem a_487 : (Jvm.Cond.fieldLink "CaseNetModel" (59 : Nat) "CaseNetModel" "taskOf" "[I") ∈ wAll := wa_in 487 (by decide +kernel) (by decide +kernel)
theorem a_488 : (Jvm.Cond.fieldLink "CaseNetModel" (62 : Nat) "CaseNetModel" "stateOf" "[I") ∈ wAll := wa_in 488 (by decide +kernel) (by decide +kernel)
theorem a_489 : (Jvm.Cond.fieldLink "CaseNetModel" (65 : Nat) "CaseNetModel" "offeredAt" "[I") ∈ wAll := wa_in 489 (by decide +kernel) (by decide +kernel)
theorem a_490 : (Jvm.Cond.fieldLink "CaseNetModel" (68 : Nat) "CaseNetModel" "firstItem" "[I") ∈ wAll := wa_in 490 (by decide +kernel) (by decide +kernel)
theorem a_491 : (Jvm.Cond.fieldLink "CaseNetModel" (71 : Nat) "CaseNetModel" "met" "[J") ∈ wAll := wa_in 491 (by decide +kernel) (by decide +kernel)
theorem a_492 : (Jvm.Cond.fieldLink "CaseNetModel" (75 : Nat) "CaseNetModel" "masks" "[I") ∈ wAll := wa_in 492 (by decide +kernel) (by decide +kernel)
theorem a_493 : (Jvm.Cond.fieldLink "CaseNetModel" (109 : Nat) "CaseNetModel" "many" "I") ∈ wAll := wa_in 493 (by decide +kernel) (by decide +kernel)
theorem a_494 : (Jvm.Cond.fieldLink "CaseNetModel" (78 : Nat) "CaseNetModel" "good" "[J") ∈ wAll := wa_in 494 (by decide +kernel) (by decide +kernel)
theorem a_495 : (Jvm.Cond.lays "CaseNetModel" "CaseNetModel" "defined" "[Z") ∈ wAll := wa_in 495 (by decide +kernel) (by decide +kernel)
theorem a_497 : (Jvm.Cond.lays "CaseNetModel" "CaseNetModel" "joins" "[I") ∈ wAll := wa_in 497 (by decide +kernel) (by decide +kernel)
theorem a_499 : (Jvm.Cond.lays "CaseNetModel" "CaseNetModel" "splits" "[I") ∈ wAll := wa_in 499 (by decide +kernel) (by decide +kernel)
theorem a_501 : (Jvm.Cond.lays "CaseNetModel" "CaseNetModel" "insOf" "[I") ∈ wAll := wa_in 501 (by decide +kernel) (by decide +kernel)
theorem a_503 : (Jvm.Cond.lays "CaseNetModel" "CaseNetModel" "outsOf" "[I") ∈ wAll := wa_in 503 (by decide +kernel) (by decide +kernel)
theorem a_505 : (Jvm.Cond.lays "CaseNetModel" "CaseNetModel" "inBits" "[I") ∈ wAll := wa_in 505 (by decide +kernel) (by decide +kernel)
theorem a_507 : (Jvm.Cond.lays "CaseNetModel" "CaseNetModel" "outBits" "[I") ∈ wAll := wa_in 507 (by decide +kernel) (by decide +kernel)
theorem a_509 : (Jvm.Cond.lays "CaseNetModel" "CaseNetModel" "regions" "[I") ∈ wAll := wa_in 509 (by decide +kernel) (by decide +kernel)
theorem a_511 : (Jvm.Cond.lays "CaseNetModel" "CaseNetModel" "guardOf" "[I") ∈ wAll := wa_in 511 (by decide +kernel) (by decide +kernel)
theorem a_513 : (Jvm.Cond.lays "CaseNetModel" "CaseNetModel" "lows" "[I") ∈ wAll := wa_in 513 (by decide +kernel) (by decide +kernel)
theorem a_515 : (Jvm.Cond.lays "CaseNetModel" "CaseNetModel" "highs" "[I") ∈ wAll := wa_in 515 (by decide +kernel) (by decide +kernel)
theorem a_517 : (Jvm.Cond.lays "CaseNetModel" "CaseNetModel" "numbers" "[I") ∈ wAll := wa_in 517 (by decide +kernel) (by decide +kernel)
theorem a_519 : (Jvm.Cond.lays "CaseNetModel" "CaseNetModel" "thresholds" "[I") ∈ wAll := wa_in 519 (by decide +kernel) (by decide +kernel)
theorem a_521 : (Jvm.Cond.lays "CaseNetModel" "CaseNetModel" "variableOf" "[I") ∈ wAll := wa_in 521 (by decide +kernel) (by decide +kernel)
theorem a_523 : (Jvm.Cond.lays "CaseNetModel" "CaseNetModel" "deadlines" "[I") ∈ wAll := wa_in 523 (by decide +kernel) (by decide +kernel)
theorem a_525 : (Jvm.Cond.lays "CaseNetModel" "CaseNetModel" "on" "Z") ∈ wAll := wa_in 525 (by decide +kernel) (by decide +kernel)
theorem a_527 : (Jvm.Cond.lays "CaseNetModel" "CaseNetModel" "mask" "I") ∈ wAll := wa_in 527 (by decide +kernel) (by decide +kernel)
theorem a_529 : (Jvm.Cond.lays "CaseNetModel" "CaseNetModel" "clock" "I") ∈ wAll := wa_in 529 (by decide +kernel) (by decide +kernel)
theorem a_531 : (Jvm.Cond.lays "CaseNetModel" "CaseNetModel" "variables" "[I") ∈ wAll := wa_in 531 (by decide +kernel) (by decide +kernel)
theorem a_533 : (Jvm.Cond.lays "CaseNetModel" "CaseNetModel" "made" "I") ∈ wAll := wa_in 533 (by decide +kernel) (by decide +kernel)
theorem a_535 : (Jvm.Cond.lays "CaseNetModel" "CaseNetModel" "taskOf" "[I") ∈ wAll := wa_in 535 (by decide +kernel) (by decide +kernel)
theorem a_537 : (Jvm.Cond.lays "CaseNetModel" "CaseNetModel" "stateOf" "[I") ∈ wAll := wa_in 537 (by decide +kernel) (by decide +kernel)
theorem a_539 : (Jvm.Cond.lays "CaseNetModel" "CaseNetModel" "offeredAt" "[I") ∈ wAll := wa_in 539 (by decide +kernel) (by decide +kernel)
theorem a_541 : (Jvm.Cond.lays "CaseNetModel" "CaseNetModel" "firstItem" "[I") ∈ wAll := wa_in 541 (by decide +kernel) (by decide +kernel)
theorem a_543 : (Jvm.Cond.lays "CaseNetModel" "CaseNetModel" "met" "[J") ∈ wAll := wa_in 543 (by decide +kernel) (by decide +kernel)
theorem a_545 : (Jvm.Cond.lays "CaseNetModel" "CaseNetModel" "masks" "[I") ∈ wAll := wa_in 545 (by decide +kernel) (by decide +kernel)
theorem a_547 : (Jvm.Cond.lays "CaseNetModel" "CaseNetModel" "many" "I") ∈ wAll := wa_in 547 (by decide +kernel) (by decide +kernel)
theorem a_549 : (Jvm.Cond.lays "CaseNetModel" "CaseNetModel" "good" "[J") ∈ wAll := wa_in 549 (by decide +kernel) (by decide +kernel)
theorem a_552 : (Jvm.Cond.arrayClass Jvm.ClassFile.FieldType.boolean) ∈ wAll := wa_in 552 (by decide +kernel) (by decide +kernel)
theorem a_553 : (Jvm.Cond.methodLink "CaseNetLaw" (17 : Nat) ({ cls := "CaseNetModel", name := "task", desc := "(IIIII)Z" } : Jvm.MethodName)) ∈ wAll := wa_in 553 (by decide +kernel) (by decide +kernel)
theorem a_554 : (Jvm.Cond.instanceMethod ({ cls := "CaseNetModel", name := "task", desc := "(IIIII)Z" } : Jvm.MethodName)) ∈ wAll := wa_in 554 (by decide +kernel) (by decide +kernel)
theorem a_555 : (Jvm.Cond.selects "CaseNetModel" ({ cls := "CaseNetModel", name := "task", desc := "(IIIII)Z" } : Jvm.MethodName) ({ cls := "CaseNetModel", name := "task", desc := "(IIIII)Z" } : Jvm.MethodName)) ∈ wAll := wa_in 555 (by decide +kernel) (by decide +kernel)
set_option maxRecDepth 20000 in
theorem a_556 : (Jvm.Cond.code ({ cls := "CaseNetModel", name := "task", desc := "(IIIII)Z" } : Jvm.MethodName) prog_7_method_7_code (9 : Nat) (Option.some Jvm.ClassFile.FieldType.boolean)) ∈ wAll := wa_in 556 rfl rfl
theorem a_557 : (Jvm.Cond.methodLink "CaseNetModel" (81 : Nat) ({ cls := "CaseNetModel", name := "isTask", desc := "(I)Z" } : Jvm.MethodName)) ∈ wAll := wa_in 557 (by decide +kernel) (by decide +kernel)
theorem a_558 : (Jvm.Cond.static ({ cls := "CaseNetModel", name := "isTask", desc := "(I)Z" } : Jvm.MethodName)) ∈ wAll := wa_in 558 (by decide +kernel) (by decide +kernel)
set_option maxRecDepth 20000 in
theorem a_559 : (Jvm.Cond.code ({ cls := "CaseNetModel", name := "isTask", desc := "(I)Z" } : Jvm.MethodName) prog_7_method_2_code (1 : Nat) (Option.some Jvm.ClassFile.FieldType.boolean)) ∈ wAll := wa_in 559 rfl rfl
theorem a_560 : (Jvm.Cond.methodLink "CaseNetModel" (93 : Nat) ({ cls := "CaseNetModel", name := "count", desc := "(I)I" } : Jvm.MethodName)) ∈ wAll := wa_in 560 (by decide +kernel) (by decide +kernel)
theorem a_561 : (Jvm.Cond.static ({ cls := "CaseNetModel", name := "count", desc := "(I)I" } : Jvm.MethodName)) ∈ wAll := wa_in 561 (by decide +kernel) (by decide +kernel)
set_option maxRecDepth 20000 in
theorem a_562 : (Jvm.Cond.code ({ cls := "CaseNetModel", name := "count", desc := "(I)I" } : Jvm.MethodName) prog_7_method_5_code (3 : Nat) (Option.some Jvm.ClassFile.FieldType.int)) ∈ wAll := wa_in 562 rfl rfl
theorem a_563 : (Jvm.Cond.constant "CaseNetModel" (97 : Nat) (-2147483648 : Int32)) ∈ wAll := wa_in 563 (by decide +kernel) (by decide +kernel)
theorem a_564 : (Jvm.Cond.constant "CaseNetModel" (98 : Nat) (2147483647 : Int32)) ∈ wAll := wa_in 564 (by decide +kernel) (by decide +kernel)
theorem a_565 : (Jvm.Cond.methodLink "CaseNetLaw" (22 : Nat) ({ cls := "CaseNetModel", name := "region", desc := "(II)Z" } : Jvm.MethodName)) ∈ wAll := wa_in 565 (by decide +kernel) (by decide +kernel)
theorem a_566 : (Jvm.Cond.instanceMethod ({ cls := "CaseNetModel", name := "region", desc := "(II)Z" } : Jvm.MethodName)) ∈ wAll := wa_in 566 (by decide +kernel) (by decide +kernel)
theorem a_567 : (Jvm.Cond.selects "CaseNetModel" ({ cls := "CaseNetModel", name := "region", desc := "(II)Z" } : Jvm.MethodName) ({ cls := "CaseNetModel", name := "region", desc := "(II)Z" } : Jvm.MethodName)) ∈ wAll := wa_in 567 (by decide +kernel) (by decide +kernel)
set_option maxRecDepth 20000 in
theorem a_568 : (Jvm.Cond.code ({ cls := "CaseNetModel", name := "region", desc := "(II)Z" } : Jvm.MethodName) prog_7_method_8_code (3 : Nat) (Option.some Jvm.ClassFile.FieldType.boolean)) ∈ wAll := wa_in 568 rfl rfl
theorem a_569 : (Jvm.Cond.methodLink "CaseNetModel" (99 : Nat) ({ cls := "CaseNetModel", name := "isDefined", desc := "(I)Z" } : Jvm.MethodName)) ∈ wAll := wa_in 569 (by decide +kernel) (by decide +kernel)
theorem a_571 : (Jvm.Cond.instanceMethod ({ cls := "CaseNetModel", name := "isDefined", desc := "(I)Z" } : Jvm.MethodName)) ∈ wAll := wa_in 571 (by decide +kernel) (by decide +kernel)
set_option maxRecDepth 20000 in
theorem a_572 : (Jvm.Cond.code ({ cls := "CaseNetModel", name := "isDefined", desc := "(I)Z" } : Jvm.MethodName) prog_7_method_3_code (2 : Nat) (Option.some Jvm.ClassFile.FieldType.boolean)) ∈ wAll := wa_in 572 rfl rfl
theorem a_573 : (Jvm.Cond.methodLink "CaseNetModel" (102 : Nat) ({ cls := "CaseNetModel", name := "isPlaces", desc := "(I)Z" } : Jvm.MethodName)) ∈ wAll := wa_in 573 (by decide +kernel) (by decide +kernel)
theorem a_574 : (Jvm.Cond.static ({ cls := "CaseNetModel", name := "isPlaces", desc := "(I)Z" } : Jvm.MethodName)) ∈ wAll := wa_in 574 (by decide +kernel) (by decide +kernel)
set_option maxRecDepth 20000 in
theorem a_575 : (Jvm.Cond.code ({ cls := "CaseNetModel", name := "isPlaces", desc := "(I)Z" } : Jvm.MethodName) prog_7_method_4_code (1 : Nat) (Option.some Jvm.ClassFile.FieldType.boolean)) ∈ wAll := wa_in 575 rfl rfl
theorem a_576 : (Jvm.Cond.methodLink "CaseNetLaw" (26 : Nat) ({ cls := "CaseNetModel", name := "guard", desc := "(IIIII)Z" } : Jvm.MethodName)) ∈ wAll := wa_in 576 (by decide +kernel) (by decide +kernel)
theorem a_577 : (Jvm.Cond.instanceMethod ({ cls := "CaseNetModel", name := "guard", desc := "(IIIII)Z" } : Jvm.MethodName)) ∈ wAll := wa_in 577 (by decide +kernel) (by decide +kernel)
theorem a_578 : (Jvm.Cond.selects "CaseNetModel" ({ cls := "CaseNetModel", name := "guard", desc := "(IIIII)Z" } : Jvm.MethodName) ({ cls := "CaseNetModel", name := "guard", desc := "(IIIII)Z" } : Jvm.MethodName)) ∈ wAll := wa_in 578 (by decide +kernel) (by decide +kernel)
set_option maxRecDepth 20000 in
theorem a_579 : (Jvm.Cond.code ({ cls := "CaseNetModel", name := "guard", desc := "(IIIII)Z" } : Jvm.MethodName) prog_7_method_9_code (6 : Nat) (Option.some Jvm.ClassFile.FieldType.boolean)) ∈ wAll := wa_in 579 rfl rfl
theorem a_580 : (Jvm.Cond.methodLink "CaseNetLaw" (30 : Nat) ({ cls := "CaseNetModel", name := "items", desc := "(IIIII)Z" } : Jvm.MethodName)) ∈ wAll := wa_in 580 (by decide +kernel) (by decide +kernel)
theorem a_581 : (Jvm.Cond.instanceMethod ({ cls := "CaseNetModel", name := "items", desc := "(IIIII)Z" } : Jvm.MethodName)) ∈ wAll := wa_in 581 (by decide +kernel) (by decide +kernel)
theorem a_582 : (Jvm.Cond.selects "CaseNetModel" ({ cls := "CaseNetModel", name := "items", desc := "(IIIII)Z" } : Jvm.MethodName) ({ cls := "CaseNetModel", name := "items", desc := "(IIIII)Z" } : Jvm.MethodName)) ∈ wAll := wa_in 582 (by decide +kernel) (by decide +kernel)
set_option maxRecDepth 20000 in
theorem a_583 : (Jvm.Cond.code ({ cls := "CaseNetModel", name := "items", desc := "(IIIII)Z" } : Jvm.MethodName) prog_7_method_10_code (6 : Nat) (Option.some Jvm.ClassFile.FieldType.boolean)) ∈ wAll := wa_in 583 rfl rfl
theorem a_584 : (Jvm.Cond.methodLink "CaseNetLaw" (87 : Nat) ({ cls := "CaseNetModel", name := "covers", desc := "(III)I" } : Jvm.MethodName)) ∈ wAll := wa_in 584 (by decide +kernel) (by decide +kernel)
theorem a_585 : (Jvm.Cond.instanceMethod ({ cls := "CaseNetModel", name := "covers", desc := "(III)I" } : Jvm.MethodName)) ∈ wAll := wa_in 585 (by decide +kernel) (by decide +kernel)
theorem a_586 : (Jvm.Cond.selects "CaseNetModel" ({ cls := "CaseNetModel", name := "covers", desc := "(III)I" } : Jvm.MethodName) ({ cls := "CaseNetModel", name := "covers", desc := "(III)I" } : Jvm.MethodName)) ∈ wAll := wa_in 586 (by decide +kernel) (by decide +kernel)
set_option maxRecDepth 20000 in
theorem a_587 : (Jvm.Cond.code ({ cls := "CaseNetModel", name := "covers", desc := "(III)I" } : Jvm.MethodName) prog_7_method_16_code (4 : Nat) (Option.some Jvm.ClassFile.FieldType.int)) ∈ wAll := wa_in 587 rfl rfl
theorem a_588 : (Jvm.Cond.methodLink "CaseNetModel" (120 : Nat) ({ cls := "CaseNetModel", name := "search", desc := "(III)Z" } : Jvm.MethodName)) ∈ wAll := wa_in 588 (by decide +kernel) (by decide +kernel)
theorem a_590 : (Jvm.Cond.instanceMethod ({ cls := "CaseNetModel", name := "search", desc := "(III)Z" } : Jvm.MethodName)) ∈ wAll := wa_in 590 (by decide +kernel) (by decide +kernel)
set_option maxRecDepth 20000 in
theorem a_591 : (Jvm.Cond.code ({ cls := "CaseNetModel", name := "search", desc := "(III)Z" } : Jvm.MethodName) prog_7_method_15_code (9 : Nat) (Option.some Jvm.ClassFile.FieldType.boolean)) ∈ wAll := wa_in 591 rfl rfl
theorem a_592 : (Jvm.Cond.methodLink "CaseNetModel" (112 : Nat) ({ cls := "CaseNetModel", name := "meet", desc := "(I)V" } : Jvm.MethodName)) ∈ wAll := wa_in 592 (by decide +kernel) (by decide +kernel)
theorem a_594 : (Jvm.Cond.instanceMethod ({ cls := "CaseNetModel", name := "meet", desc := "(I)V" } : Jvm.MethodName)) ∈ wAll := wa_in 594 (by decide +kernel) (by decide +kernel)
set_option maxRecDepth 20000 in
theorem a_595 : (Jvm.Cond.code ({ cls := "CaseNetModel", name := "meet", desc := "(I)V" } : Jvm.MethodName) prog_7_method_14_code (2 : Nat) (Option.none : Option Jvm.ClassFile.FieldType)) ∈ wAll := wa_in 595 rfl rfl
theorem a_596 : (Jvm.Cond.methodLink "CaseNetModel" (116 : Nat) ({ cls := "CaseNetModel", name := "after", desc := "(III)I" } : Jvm.MethodName)) ∈ wAll := wa_in 596 (by decide +kernel) (by decide +kernel)
theorem a_598 : (Jvm.Cond.instanceMethod ({ cls := "CaseNetModel", name := "after", desc := "(III)I" } : Jvm.MethodName)) ∈ wAll := wa_in 598 (by decide +kernel) (by decide +kernel)
set_option maxRecDepth 20000 in
theorem a_599 : (Jvm.Cond.code ({ cls := "CaseNetModel", name := "after", desc := "(III)I" } : Jvm.MethodName) prog_7_method_13_code (8 : Nat) (Option.some Jvm.ClassFile.FieldType.int)) ∈ wAll := wa_in 599 rfl rfl
theorem a_600 : (Jvm.Cond.methodLink "CaseNetModel" (105 : Nat) ({ cls := "CaseNetModel", name := "outputs", desc := "(II)I" } : Jvm.MethodName)) ∈ wAll := wa_in 600 (by decide +kernel) (by decide +kernel)
theorem a_602 : (Jvm.Cond.instanceMethod ({ cls := "CaseNetModel", name := "outputs", desc := "(II)I" } : Jvm.MethodName)) ∈ wAll := wa_in 602 (by decide +kernel) (by decide +kernel)
set_option maxRecDepth 20000 in
theorem a_603 : (Jvm.Cond.code ({ cls := "CaseNetModel", name := "outputs", desc := "(II)I" } : Jvm.MethodName) prog_7_method_12_code (5 : Nat) (Option.some Jvm.ClassFile.FieldType.int)) ∈ wAll := wa_in 603 rfl rfl
theorem a_604 : (Jvm.Cond.methodLink "CaseNetLaw" (35 : Nat) ({ cls := "CaseNetModel", name := "launch", desc := "()Z" } : Jvm.MethodName)) ∈ wAll := wa_in 604 (by decide +kernel) (by decide +kernel)
theorem a_605 : (Jvm.Cond.instanceMethod ({ cls := "CaseNetModel", name := "launch", desc := "()Z" } : Jvm.MethodName)) ∈ wAll := wa_in 605 (by decide +kernel) (by decide +kernel)
theorem a_606 : (Jvm.Cond.selects "CaseNetModel" ({ cls := "CaseNetModel", name := "launch", desc := "()Z" } : Jvm.MethodName) ({ cls := "CaseNetModel", name := "launch", desc := "()Z" } : Jvm.MethodName)) ∈ wAll := wa_in 606 (by decide +kernel) (by decide +kernel)
set_option maxRecDepth 20000 in
theorem a_607 : (Jvm.Cond.code ({ cls := "CaseNetModel", name := "launch", desc := "()Z" } : Jvm.MethodName) prog_7_method_17_code (1 : Nat) (Option.some Jvm.ClassFile.FieldType.boolean)) ∈ wAll := wa_in 607 rfl rfl
theorem a_608 : (Jvm.Cond.methodLink "CaseNetModel" (124 : Nat) ({ cls := "CaseNetModel", name := "isAny", desc := "()Z" } : Jvm.MethodName)) ∈ wAll := wa_in 608 (by decide +kernel) (by decide +kernel)
theorem a_610 : (Jvm.Cond.instanceMethod ({ cls := "CaseNetModel", name := "isAny", desc := "()Z" } : Jvm.MethodName)) ∈ wAll := wa_in 610 (by decide +kernel) (by decide +kernel)
set_option maxRecDepth 20000 in
theorem a_611 : (Jvm.Cond.code ({ cls := "CaseNetModel", name := "isAny", desc := "()Z" } : Jvm.MethodName) prog_7_method_11_code (3 : Nat) (Option.some Jvm.ClassFile.FieldType.boolean)) ∈ wAll := wa_in 611 rfl rfl
theorem a_612 : (Jvm.Cond.methodLink "CaseNetLaw" (39 : Nat) ({ cls := "CaseNetModel", name := "cancel", desc := "()Z" } : Jvm.MethodName)) ∈ wAll := wa_in 612 (by decide +kernel) (by decide +kernel)
theorem a_613 : (Jvm.Cond.instanceMethod ({ cls := "CaseNetModel", name := "cancel", desc := "()Z" } : Jvm.MethodName)) ∈ wAll := wa_in 613 (by decide +kernel) (by decide +kernel)
theorem a_614 : (Jvm.Cond.selects "CaseNetModel" ({ cls := "CaseNetModel", name := "cancel", desc := "()Z" } : Jvm.MethodName) ({ cls := "CaseNetModel", name := "cancel", desc := "()Z" } : Jvm.MethodName)) ∈ wAll := wa_in 614 (by decide +kernel) (by decide +kernel)
set_option maxRecDepth 20000 in
theorem a_615 : (Jvm.Cond.code ({ cls := "CaseNetModel", name := "cancel", desc := "()Z" } : Jvm.MethodName) prog_7_method_19_code (2 : Nat) (Option.some Jvm.ClassFile.FieldType.boolean)) ∈ wAll := wa_in 615 rfl rfl
theorem a_616 : (Jvm.Cond.methodLink "CaseNetModel" (131 : Nat) ({ cls := "CaseNetModel", name := "runs", desc := "(I)Z" } : Jvm.MethodName)) ∈ wAll := wa_in 616 (by decide +kernel) (by decide +kernel)
theorem a_618 : (Jvm.Cond.instanceMethod ({ cls := "CaseNetModel", name := "runs", desc := "(I)Z" } : Jvm.MethodName)) ∈ wAll := wa_in 618 (by decide +kernel) (by decide +kernel)
set_option maxRecDepth 20000 in
theorem a_619 : (Jvm.Cond.code ({ cls := "CaseNetModel", name := "runs", desc := "(I)Z" } : Jvm.MethodName) prog_7_method_6_code (2 : Nat) (Option.some Jvm.ClassFile.FieldType.boolean)) ∈ wAll := wa_in 619 rfl rfl
theorem a_620 : (Jvm.Cond.methodLink "CaseNetModel" (134 : Nat) ({ cls := "CaseNetModel", name := "stop", desc := "(I)V" } : Jvm.MethodName)) ∈ wAll := wa_in 620 (by decide +kernel) (by decide +kernel)
theorem a_622 : (Jvm.Cond.instanceMethod ({ cls := "CaseNetModel", name := "stop", desc := "(I)V" } : Jvm.MethodName)) ∈ wAll := wa_in 622 (by decide +kernel) (by decide +kernel)
set_option maxRecDepth 20000 in
theorem a_623 : (Jvm.Cond.code ({ cls := "CaseNetModel", name := "stop", desc := "(I)V" } : Jvm.MethodName) prog_7_method_18_code (3 : Nat) (Option.none : Option Jvm.ClassFile.FieldType)) ∈ wAll := wa_in 623 rfl rfl
theorem a_624 : (Jvm.Cond.methodLink "CaseNetLaw" (44 : Nat) ({ cls := "CaseNetModel", name := "enabled", desc := "()I" } : Jvm.MethodName)) ∈ wAll := wa_in 624 (by decide +kernel) (by decide +kernel)
theorem a_625 : (Jvm.Cond.instanceMethod ({ cls := "CaseNetModel", name := "enabled", desc := "()I" } : Jvm.MethodName)) ∈ wAll := wa_in 625 (by decide +kernel) (by decide +kernel)
theorem a_626 : (Jvm.Cond.selects "CaseNetModel" ({ cls := "CaseNetModel", name := "enabled", desc := "()I" } : Jvm.MethodName) ({ cls := "CaseNetModel", name := "enabled", desc := "()I" } : Jvm.MethodName)) ∈ wAll := wa_in 626 (by decide +kernel) (by decide +kernel)
set_option maxRecDepth 20000 in
theorem a_627 : (Jvm.Cond.code ({ cls := "CaseNetModel", name := "enabled", desc := "()I" } : Jvm.MethodName) prog_7_method_22_code (3 : Nat) (Option.some Jvm.ClassFile.FieldType.int)) ∈ wAll := wa_in 627 rfl rfl
theorem a_628 : (Jvm.Cond.methodLink "CaseNetModel" (140 : Nat) ({ cls := "CaseNetModel", name := "isEnabled", desc := "(I)Z" } : Jvm.MethodName)) ∈ wAll := wa_in 628 (by decide +kernel) (by decide +kernel)
theorem a_630 : (Jvm.Cond.instanceMethod ({ cls := "CaseNetModel", name := "isEnabled", desc := "(I)Z" } : Jvm.MethodName)) ∈ wAll := wa_in 630 (by decide +kernel) (by decide +kernel)
set_option maxRecDepth 20000 in
theorem a_631 : (Jvm.Cond.code ({ cls := "CaseNetModel", name := "isEnabled", desc := "(I)Z" } : Jvm.MethodName) prog_7_method_21_code (3 : Nat) (Option.some Jvm.ClassFile.FieldType.boolean)) ∈ wAll := wa_in 631 rfl rfl
theorem a_632 : (Jvm.Cond.methodLink "CaseNetModel" (137 : Nat) ({ cls := "CaseNetModel", name := "isLast", desc := "(I)Z" } : Jvm.MethodName)) ∈ wAll := wa_in 632 (by decide +kernel) (by decide +kernel)
theorem a_634 : (Jvm.Cond.instanceMethod ({ cls := "CaseNetModel", name := "isLast", desc := "(I)Z" } : Jvm.MethodName)) ∈ wAll := wa_in 634 (by decide +kernel) (by decide +kernel)
set_option maxRecDepth 20000 in
theorem a_635 : (Jvm.Cond.code ({ cls := "CaseNetModel", name := "isLast", desc := "(I)Z" } : Jvm.MethodName) prog_7_method_20_code (5 : Nat) (Option.some Jvm.ClassFile.FieldType.boolean)) ∈ wAll := wa_in 635 rfl rfl
theorem a_636 : (Jvm.Cond.methodLink "CaseNetLaw" (49 : Nat) ({ cls := "CaseNetModel", name := "fire", desc := "(I)I" } : Jvm.MethodName)) ∈ wAll := wa_in 636 (by decide +kernel) (by decide +kernel)
theorem a_637 : (Jvm.Cond.instanceMethod ({ cls := "CaseNetModel", name := "fire", desc := "(I)I" } : Jvm.MethodName)) ∈ wAll := wa_in 637 (by decide +kernel) (by decide +kernel)
theorem a_638 : (Jvm.Cond.selects "CaseNetModel" ({ cls := "CaseNetModel", name := "fire", desc := "(I)I" } : Jvm.MethodName) ({ cls := "CaseNetModel", name := "fire", desc := "(I)I" } : Jvm.MethodName)) ∈ wAll := wa_in 638 (by decide +kernel) (by decide +kernel)
set_option maxRecDepth 20000 in
theorem a_639 : (Jvm.Cond.code ({ cls := "CaseNetModel", name := "fire", desc := "(I)I" } : Jvm.MethodName) prog_7_method_23_code (4 : Nat) (Option.some Jvm.ClassFile.FieldType.int)) ∈ wAll := wa_in 639 rfl rfl
theorem a_640 : (Jvm.Cond.methodLink "CaseNetLaw" (53 : Nat) ({ cls := "CaseNetModel", name := "start", desc := "(I)I" } : Jvm.MethodName)) ∈ wAll := wa_in 640 (by decide +kernel) (by decide +kernel)
theorem a_641 : (Jvm.Cond.instanceMethod ({ cls := "CaseNetModel", name := "start", desc := "(I)I" } : Jvm.MethodName)) ∈ wAll := wa_in 641 (by decide +kernel) (by decide +kernel)
theorem a_642 : (Jvm.Cond.selects "CaseNetModel" ({ cls := "CaseNetModel", name := "start", desc := "(I)I" } : Jvm.MethodName) ({ cls := "CaseNetModel", name := "start", desc := "(I)I" } : Jvm.MethodName)) ∈ wAll := wa_in 642 (by decide +kernel) (by decide +kernel)
set_option maxRecDepth 20000 in
theorem a_643 : (Jvm.Cond.code ({ cls := "CaseNetModel", name := "start", desc := "(I)I" } : Jvm.MethodName) prog_7_method_27_code (2 : Nat) (Option.some Jvm.ClassFile.FieldType.int)) ∈ wAll := wa_in 643 rfl rfl
theorem a_644 : (Jvm.Cond.methodLink "CaseNetModel" (146 : Nat) ({ cls := "CaseNetModel", name := "isItem", desc := "(I)Z" } : Jvm.MethodName)) ∈ wAll := wa_in 644 (by decide +kernel) (by decide +kernel)
theorem a_646 : (Jvm.Cond.instanceMethod ({ cls := "CaseNetModel", name := "isItem", desc := "(I)Z" } : Jvm.MethodName)) ∈ wAll := wa_in 646 (by decide +kernel) (by decide +kernel)
set_option maxRecDepth 20000 in
theorem a_647 : (Jvm.Cond.code ({ cls := "CaseNetModel", name := "isItem", desc := "(I)Z" } : Jvm.MethodName) prog_7_method_24_code (2 : Nat) (Option.some Jvm.ClassFile.FieldType.boolean)) ∈ wAll := wa_in 647 rfl rfl
theorem a_648 : (Jvm.Cond.methodLink "CaseNetLaw" (58 : Nat) ({ cls := "CaseNetModel", name := "finish", desc := "(II)I" } : Jvm.MethodName)) ∈ wAll := wa_in 648 (by decide +kernel) (by decide +kernel)
theorem a_649 : (Jvm.Cond.instanceMethod ({ cls := "CaseNetModel", name := "finish", desc := "(II)I" } : Jvm.MethodName)) ∈ wAll := wa_in 649 (by decide +kernel) (by decide +kernel)
theorem a_650 : (Jvm.Cond.selects "CaseNetModel" ({ cls := "CaseNetModel", name := "finish", desc := "(II)I" } : Jvm.MethodName) ({ cls := "CaseNetModel", name := "finish", desc := "(II)I" } : Jvm.MethodName)) ∈ wAll := wa_in 650 (by decide +kernel) (by decide +kernel)
set_option maxRecDepth 20000 in
theorem a_651 : (Jvm.Cond.code ({ cls := "CaseNetModel", name := "finish", desc := "(II)I" } : Jvm.MethodName) prog_7_method_28_code (4 : Nat) (Option.some Jvm.ClassFile.FieldType.int)) ∈ wAll := wa_in 651 rfl rfl
theorem a_652 : (Jvm.Cond.methodLink "CaseNetModel" (149 : Nat) ({ cls := "CaseNetModel", name := "inState", desc := "(III)I" } : Jvm.MethodName)) ∈ wAll := wa_in 652 (by decide +kernel) (by decide +kernel)
theorem a_654 : (Jvm.Cond.instanceMethod ({ cls := "CaseNetModel", name := "inState", desc := "(III)I" } : Jvm.MethodName)) ∈ wAll := wa_in 654 (by decide +kernel) (by decide +kernel)
set_option maxRecDepth 20000 in
theorem a_655 : (Jvm.Cond.code ({ cls := "CaseNetModel", name := "inState", desc := "(III)I" } : Jvm.MethodName) prog_7_method_25_code (6 : Nat) (Option.some Jvm.ClassFile.FieldType.int)) ∈ wAll := wa_in 655 rfl rfl
theorem a_656 : (Jvm.Cond.methodLink "CaseNetModel" (152 : Nat) ({ cls := "CaseNetModel", name := "end", desc := "(I)V" } : Jvm.MethodName)) ∈ wAll := wa_in 656 (by decide +kernel) (by decide +kernel)
theorem a_658 : (Jvm.Cond.instanceMethod ({ cls := "CaseNetModel", name := "end", desc := "(I)V" } : Jvm.MethodName)) ∈ wAll := wa_in 658 (by decide +kernel) (by decide +kernel)
set_option maxRecDepth 20000 in
theorem a_659 : (Jvm.Cond.code ({ cls := "CaseNetModel", name := "end", desc := "(I)V" } : Jvm.MethodName) prog_7_method_26_code (6 : Nat) (Option.none : Option Jvm.ClassFile.FieldType)) ∈ wAll := wa_in 659 rfl rfl
theorem a_660 : (Jvm.Cond.methodLink "CaseNetLaw" (62 : Nat) ({ cls := "CaseNetModel", name := "fail", desc := "(I)I" } : Jvm.MethodName)) ∈ wAll := wa_in 660 (by decide +kernel) (by decide +kernel)
theorem a_661 : (Jvm.Cond.instanceMethod ({ cls := "CaseNetModel", name := "fail", desc := "(I)I" } : Jvm.MethodName)) ∈ wAll := wa_in 661 (by decide +kernel) (by decide +kernel)
theorem a_662 : (Jvm.Cond.selects "CaseNetModel" ({ cls := "CaseNetModel", name := "fail", desc := "(I)I" } : Jvm.MethodName) ({ cls := "CaseNetModel", name := "fail", desc := "(I)I" } : Jvm.MethodName)) ∈ wAll := wa_in 662 (by decide +kernel) (by decide +kernel)
set_option maxRecDepth 20000 in
theorem a_663 : (Jvm.Cond.code ({ cls := "CaseNetModel", name := "fail", desc := "(I)I" } : Jvm.MethodName) prog_7_method_30_code (2 : Nat) (Option.some Jvm.ClassFile.FieldType.int)) ∈ wAll := wa_in 663 rfl rfl
theorem a_664 : (Jvm.Cond.methodLink "CaseNetModel" (155 : Nat) ({ cls := "CaseNetModel", name := "failed", desc := "(I)I" } : Jvm.MethodName)) ∈ wAll := wa_in 664 (by decide +kernel) (by decide +kernel)
theorem a_666 : (Jvm.Cond.instanceMethod ({ cls := "CaseNetModel", name := "failed", desc := "(I)I" } : Jvm.MethodName)) ∈ wAll := wa_in 666 (by decide +kernel) (by decide +kernel)
set_option maxRecDepth 20000 in
theorem a_667 : (Jvm.Cond.code ({ cls := "CaseNetModel", name := "failed", desc := "(I)I" } : Jvm.MethodName) prog_7_method_29_code (3 : Nat) (Option.some Jvm.ClassFile.FieldType.int)) ∈ wAll := wa_in 667 rfl rfl
theorem a_668 : (Jvm.Cond.methodLink "CaseNetLaw" (66 : Nat) ({ cls := "CaseNetModel", name := "tick", desc := "(I)I" } : Jvm.MethodName)) ∈ wAll := wa_in 668 (by decide +kernel) (by decide +kernel)
theorem a_669 : (Jvm.Cond.instanceMethod ({ cls := "CaseNetModel", name := "tick", desc := "(I)I" } : Jvm.MethodName)) ∈ wAll := wa_in 669 (by decide +kernel) (by decide +kernel)
theorem a_670 : (Jvm.Cond.selects "CaseNetModel" ({ cls := "CaseNetModel", name := "tick", desc := "(I)I" } : Jvm.MethodName) ({ cls := "CaseNetModel", name := "tick", desc := "(I)I" } : Jvm.MethodName)) ∈ wAll := wa_in 670 (by decide +kernel) (by decide +kernel)
set_option maxRecDepth 20000 in
theorem a_671 : (Jvm.Cond.code ({ cls := "CaseNetModel", name := "tick", desc := "(I)I" } : Jvm.MethodName) prog_7_method_31_code (4 : Nat) (Option.some Jvm.ClassFile.FieldType.int)) ∈ wAll := wa_in 671 rfl rfl
theorem a_672 : (Jvm.Cond.methodLink "CaseNetLaw" (70 : Nat) ({ cls := "CaseNetModel", name := "set", desc := "(II)Z" } : Jvm.MethodName)) ∈ wAll := wa_in 672 (by decide +kernel) (by decide +kernel)
theorem a_673 : (Jvm.Cond.instanceMethod ({ cls := "CaseNetModel", name := "set", desc := "(II)Z" } : Jvm.MethodName)) ∈ wAll := wa_in 673 (by decide +kernel) (by decide +kernel)
theorem a_674 : (Jvm.Cond.selects "CaseNetModel" ({ cls := "CaseNetModel", name := "set", desc := "(II)Z" } : Jvm.MethodName) ({ cls := "CaseNetModel", name := "set", desc := "(II)Z" } : Jvm.MethodName)) ∈ wAll := wa_in 674 (by decide +kernel) (by decide +kernel)
set_option maxRecDepth 20000 in
theorem a_675 : (Jvm.Cond.code ({ cls := "CaseNetModel", name := "set", desc := "(II)Z" } : Jvm.MethodName) prog_7_method_32_code (3 : Nat) (Option.some Jvm.ClassFile.FieldType.boolean)) ∈ wAll := wa_in 675 rfl rfl
theorem a_676 : (Jvm.Cond.methodLink "CaseNetLaw" (74 : Nat) ({ cls := "CaseNetModel", name := "variable", desc := "(I)I" } : Jvm.MethodName)) ∈ wAll := wa_in 676 (by decide +kernel) (by decide +kernel)
theorem a_677 : (Jvm.Cond.instanceMethod ({ cls := "CaseNetModel", name := "variable", desc := "(I)I" } : Jvm.MethodName)) ∈ wAll := wa_in 677 (by decide +kernel) (by decide +kernel)
theorem a_678 : (Jvm.Cond.selects "CaseNetModel" ({ cls := "CaseNetModel", name := "variable", desc := "(I)I" } : Jvm.MethodName) ({ cls := "CaseNetModel", name := "variable", desc := "(I)I" } : Jvm.MethodName)) ∈ wAll := wa_in 678 (by decide +kernel) (by decide +kernel)
set_option maxRecDepth 20000 in
theorem a_679 : (Jvm.Cond.code ({ cls := "CaseNetModel", name := "variable", desc := "(I)I" } : Jvm.MethodName) prog_7_method_33_code (2 : Nat) (Option.some Jvm.ClassFile.FieldType.int)) ∈ wAll := wa_in 679 rfl rfl
theorem a_680 : (Jvm.Cond.methodLink "CaseNetLaw" (78 : Nat) ({ cls := "CaseNetModel", name := "marking", desc := "()I" } : Jvm.MethodName)) ∈ wAll := wa_in 680 (by decide +kernel) (by decide +kernel)
theorem a_681 : (Jvm.Cond.instanceMethod ({ cls := "CaseNetModel", name := "marking", desc := "()I" } : Jvm.MethodName)) ∈ wAll := wa_in 681 (by decide +kernel) (by decide +kernel)
theorem a_682 : (Jvm.Cond.selects "CaseNetModel" ({ cls := "CaseNetModel", name := "marking", desc := "()I" } : Jvm.MethodName) ({ cls := "CaseNetModel", name := "marking", desc := "()I" } : Jvm.MethodName)) ∈ wAll := wa_in 682 (by decide +kernel) (by decide +kernel)
set_option maxRecDepth 20000 in
theorem a_683 : (Jvm.Cond.code ({ cls := "CaseNetModel", name := "marking", desc := "()I" } : Jvm.MethodName) prog_7_method_34_code (1 : Nat) (Option.some Jvm.ClassFile.FieldType.int)) ∈ wAll := wa_in 683 rfl rfl
theorem a_684 : (Jvm.Cond.methodLink "CaseNetLaw" (82 : Nat) ({ cls := "CaseNetModel", name := "item", desc := "(II)I" } : Jvm.MethodName)) ∈ wAll := wa_in 684 (by decide +kernel) (by decide +kernel)
theorem a_685 : (Jvm.Cond.instanceMethod ({ cls := "CaseNetModel", name := "item", desc := "(II)I" } : Jvm.MethodName)) ∈ wAll := wa_in 685 (by decide +kernel) (by decide +kernel)
theorem a_686 : (Jvm.Cond.selects "CaseNetModel" ({ cls := "CaseNetModel", name := "item", desc := "(II)I" } : Jvm.MethodName) ({ cls := "CaseNetModel", name := "item", desc := "(II)I" } : Jvm.MethodName)) ∈ wAll := wa_in 686 (by decide +kernel) (by decide +kernel)
set_option maxRecDepth 20000 in
theorem a_687 : (Jvm.Cond.code ({ cls := "CaseNetModel", name := "item", desc := "(II)I" } : Jvm.MethodName) prog_7_method_35_code (3 : Nat) (Option.some Jvm.ClassFile.FieldType.int)) ∈ wAll := wa_in 687 rfl rfl
theorem a_688 : (Jvm.Cond.methodLink "CaseNetLaw" (91 : Nat) ({ cls := "CaseNetModel", name := "verdict", desc := "()I" } : Jvm.MethodName)) ∈ wAll := wa_in 688 (by decide +kernel) (by decide +kernel)
theorem a_689 : (Jvm.Cond.instanceMethod ({ cls := "CaseNetModel", name := "verdict", desc := "()I" } : Jvm.MethodName)) ∈ wAll := wa_in 689 (by decide +kernel) (by decide +kernel)
theorem a_690 : (Jvm.Cond.selects "CaseNetModel" ({ cls := "CaseNetModel", name := "verdict", desc := "()I" } : Jvm.MethodName) ({ cls := "CaseNetModel", name := "verdict", desc := "()I" } : Jvm.MethodName)) ∈ wAll := wa_in 690 (by decide +kernel) (by decide +kernel)
set_option maxRecDepth 20000 in
theorem a_691 : (Jvm.Cond.code ({ cls := "CaseNetModel", name := "verdict", desc := "()I" } : Jvm.MethodName) prog_7_method_40_code (5 : Nat) (Option.some Jvm.ClassFile.FieldType.int)) ∈ wAll := wa_in 691 rfl rfl
theorem a_692 : (Jvm.Cond.methodLink "CaseNetModel" (164 : Nat) ({ cls := "CaseNetModel", name := "canBegin", desc := "(I)Z" } : Jvm.MethodName)) ∈ wAll := wa_in 692 (by decide +kernel) (by decide +kernel)
theorem a_694 : (Jvm.Cond.instanceMethod ({ cls := "CaseNetModel", name := "canBegin", desc := "(I)Z" } : Jvm.MethodName)) ∈ wAll := wa_in 694 (by decide +kernel) (by decide +kernel)
set_option maxRecDepth 20000 in
theorem a_695 : (Jvm.Cond.code ({ cls := "CaseNetModel", name := "canBegin", desc := "(I)Z" } : Jvm.MethodName) prog_7_method_39_code (5 : Nat) (Option.some Jvm.ClassFile.FieldType.boolean)) ∈ wAll := wa_in 695 rfl rfl
theorem a_696 : (Jvm.Cond.methodLink "CaseNetModel" (167 : Nat) ({ cls := "CaseNetModel", name := "allEnd", desc := "()Z" } : Jvm.MethodName)) ∈ wAll := wa_in 696 (by decide +kernel) (by decide +kernel)
theorem a_698 : (Jvm.Cond.instanceMethod ({ cls := "CaseNetModel", name := "allEnd", desc := "()Z" } : Jvm.MethodName)) ∈ wAll := wa_in 698 (by decide +kernel) (by decide +kernel)
set_option maxRecDepth 20000 in
theorem a_699 : (Jvm.Cond.code ({ cls := "CaseNetModel", name := "allEnd", desc := "()Z" } : Jvm.MethodName) prog_7_method_38_code (5 : Nat) (Option.some Jvm.ClassFile.FieldType.boolean)) ∈ wAll := wa_in 699 rfl rfl
theorem a_700 : (Jvm.Cond.methodLink "CaseNetModel" (158 : Nat) ({ cls := "CaseNetModel", name := "isGood", desc := "(I)Z" } : Jvm.MethodName)) ∈ wAll := wa_in 700 (by decide +kernel) (by decide +kernel)
theorem a_702 : (Jvm.Cond.instanceMethod ({ cls := "CaseNetModel", name := "isGood", desc := "(I)Z" } : Jvm.MethodName)) ∈ wAll := wa_in 702 (by decide +kernel) (by decide +kernel)
set_option maxRecDepth 20000 in
theorem a_703 : (Jvm.Cond.code ({ cls := "CaseNetModel", name := "isGood", desc := "(I)Z" } : Jvm.MethodName) prog_7_method_36_code (2 : Nat) (Option.some Jvm.ClassFile.FieldType.boolean)) ∈ wAll := wa_in 703 rfl rfl
theorem a_704 : (Jvm.Cond.methodLink "CaseNetModel" (161 : Nat) ({ cls := "CaseNetModel", name := "leads", desc := "(I)Z" } : Jvm.MethodName)) ∈ wAll := wa_in 704 (by decide +kernel) (by decide +kernel)
theorem a_706 : (Jvm.Cond.instanceMethod ({ cls := "CaseNetModel", name := "leads", desc := "(I)Z" } : Jvm.MethodName)) ∈ wAll := wa_in 706 (by decide +kernel) (by decide +kernel)
set_option maxRecDepth 20000 in
theorem a_707 : (Jvm.Cond.code ({ cls := "CaseNetModel", name := "leads", desc := "(I)Z" } : Jvm.MethodName) prog_7_method_37_code (5 : Nat) (Option.some Jvm.ClassFile.FieldType.boolean)) ∈ wAll := wa_in 707 rfl rfl
theorem as_0 : Cond.selects "CaseNet$Task" ⟨"CaseNet$Task", "listTakes", "()V"⟩ ⟨"CaseNet$Task", "listTakes", "()V"⟩ ∈ wAll := wa_sel 0 (q := (⟨"CaseNet$Task", "listTakes", "()V"⟩, 19)) (by decide +kernel)
theorem as_1 : Cond.selects "CaseNet$Task" ⟨"CaseNet$Task", "listPuts", "()V"⟩ ⟨"CaseNet$Task", "listPuts", "()V"⟩ ∈ wAll := wa_sel 1 (q := (⟨"CaseNet$Task", "listPuts", "()V"⟩, 19)) (by decide +kernel)
theorem as_3 : Cond.selects "CaseNet" ⟨"CaseNet", "stop", "(LCaseNet$Task;)V"⟩ ⟨"CaseNet", "stop", "(LCaseNet$Task;)V"⟩ ∈ wAll := wa_sel 3 (q := (⟨"CaseNet", "stop", "(LCaseNet$Task;)V"⟩, 6)) (by decide +kernel)
theorem as_2 : Cond.selects "CaseNet" ⟨"CaseNet", "stopTasksAmong", "(I)V"⟩ ⟨"CaseNet", "stopTasksAmong", "(I)V"⟩ ∈ wAll := wa_sel 2 (q := (⟨"CaseNet", "stopTasksAmong", "(I)V"⟩, 6)) (by decide +kernel)
theorem as_6 : Cond.selects "CaseNet$Net" ⟨"CaseNet$Net", "addNeed", "(I)V"⟩ ⟨"CaseNet$Net", "addNeed", "(I)V"⟩ ∈ wAll := wa_sel 6 (q := (⟨"CaseNet$Net", "addNeed", "(I)V"⟩, 6)) (by decide +kernel)
theorem as_7 : Cond.selects "CaseNet$Net" ⟨"CaseNet$Net", "goBackBeforeEnd", "(LCaseNet$Task;I)V"⟩ ⟨"CaseNet$Net", "goBackBeforeEnd", "(LCaseNet$Task;I)V"⟩ ∈ wAll := wa_sel 7 (q := (⟨"CaseNet$Net", "goBackBeforeEnd", "(LCaseNet$Task;I)V"⟩, 6)) (by decide +kernel)
theorem as_8 : Cond.selects "CaseNet$Net" ⟨"CaseNet$Net", "goBackBeforeBegin", "(LCaseNet$Task;I)V"⟩ ⟨"CaseNet$Net", "goBackBeforeBegin", "(LCaseNet$Task;I)V"⟩ ∈ wAll := wa_sel 8 (q := (⟨"CaseNet$Net", "goBackBeforeBegin", "(LCaseNet$Task;I)V"⟩, 6)) (by decide +kernel)
theorem as_5 : Cond.selects "CaseNet" ⟨"CaseNet", "canMoreInputsCome", "(I)Z"⟩ ⟨"CaseNet", "canMoreInputsCome", "(I)Z"⟩ ∈ wAll := wa_sel 5 (q := (⟨"CaseNet", "canMoreInputsCome", "(I)Z"⟩, 6)) (by decide +kernel)
theorem as_4 : Cond.selects "CaseNet" ⟨"CaseNet", "canFire", "(I)Z"⟩ ⟨"CaseNet", "canFire", "(I)Z"⟩ ∈ wAll := wa_sel 4 (q := (⟨"CaseNet", "canFire", "(I)Z"⟩, 6)) (by decide +kernel)
theorem as_10 : Cond.selects "CaseNet$Task" ⟨"CaseNet$Task", "guardHolds", "(I[I)Z"⟩ ⟨"CaseNet$Task", "guardHolds", "(I[I)Z"⟩ ∈ wAll := wa_sel 10 (q := (⟨"CaseNet$Task", "guardHolds", "(I[I)Z"⟩, 19)) (by decide +kernel)
theorem as_11 : Cond.selects "CaseNet" ⟨"CaseNet", "stopIfNoneIsOpen", "(LCaseNet$Task;)Z"⟩ ⟨"CaseNet", "stopIfNoneIsOpen", "(LCaseNet$Task;)Z"⟩ ∈ wAll := wa_sel 11 (q := (⟨"CaseNet", "stopIfNoneIsOpen", "(LCaseNet$Task;)Z"⟩, 6)) (by decide +kernel)
theorem as_9 : Cond.selects "CaseNet" ⟨"CaseNet", "end", "(LCaseNet$Task;)V"⟩ ⟨"CaseNet", "end", "(LCaseNet$Task;)V"⟩ ∈ wAll := wa_sel 9 (q := (⟨"CaseNet", "end", "(LCaseNet$Task;)V"⟩, 6)) (by decide +kernel)
theorem as_12 : Cond.selects "CaseNet" ⟨"CaseNet", "failOpen", "(I)Z"⟩ ⟨"CaseNet", "failOpen", "(I)Z"⟩ ∈ wAll := wa_sel 12 (q := (⟨"CaseNet", "failOpen", "(I)Z"⟩, 6)) (by decide +kernel)
theorem as_13 : Cond.selects "CaseNet" ⟨"CaseNet", "isOverdue", "(I)Z"⟩ ⟨"CaseNet", "isOverdue", "(I)Z"⟩ ∈ wAll := wa_sel 13 (q := (⟨"CaseNet", "isOverdue", "(I)Z"⟩, 6)) (by decide +kernel)
theorem as_16 : Cond.selects "CaseNet$Net" ⟨"CaseNet$Net", "addReached", "(I)V"⟩ ⟨"CaseNet$Net", "addReached", "(I)V"⟩ ∈ wAll := wa_sel 16 (q := (⟨"CaseNet$Net", "addReached", "(I)V"⟩, 6)) (by decide +kernel)
theorem as_17 : Cond.selects "CaseNet$Net" ⟨"CaseNet$Net", "goOnByBegin", "(II)V"⟩ ⟨"CaseNet$Net", "goOnByBegin", "(II)V"⟩ ∈ wAll := wa_sel 17 (q := (⟨"CaseNet$Net", "goOnByBegin", "(II)V"⟩, 6)) (by decide +kernel)
theorem as_18 : Cond.selects "CaseNet$Net" ⟨"CaseNet$Net", "goOnByEnd", "(LCaseNet$Task;I)V"⟩ ⟨"CaseNet$Net", "goOnByEnd", "(LCaseNet$Task;I)V"⟩ ∈ wAll := wa_sel 18 (q := (⟨"CaseNet$Net", "goOnByEnd", "(LCaseNet$Task;I)V"⟩, 6)) (by decide +kernel)
theorem as_14 : Cond.selects "CaseNet$Net" ⟨"CaseNet$Net", "hasJoinSome", "()Z"⟩ ⟨"CaseNet$Net", "hasJoinSome", "()Z"⟩ ∈ wAll := wa_sel 14 (q := (⟨"CaseNet$Net", "hasJoinSome", "()Z"⟩, 6)) (by decide +kernel)
theorem as_15 : Cond.selects "CaseNet$Net" ⟨"CaseNet$Net", "reachFromStart", "()V"⟩ ⟨"CaseNet$Net", "reachFromStart", "()V"⟩ ∈ wAll := wa_sel 15 (q := (⟨"CaseNet$Net", "reachFromStart", "()V"⟩, 6)) (by decide +kernel)
theorem as_19 : Cond.selects "CaseNetModel" ⟨"CaseNetModel", "isDefined", "(I)Z"⟩ ⟨"CaseNetModel", "isDefined", "(I)Z"⟩ ∈ wAll := wa_sel 19 (q := (⟨"CaseNetModel", "isDefined", "(I)Z"⟩, 28)) (by decide +kernel)
theorem as_23 : Cond.selects "CaseNetModel" ⟨"CaseNetModel", "outputs", "(II)I"⟩ ⟨"CaseNetModel", "outputs", "(II)I"⟩ ∈ wAll := wa_sel 23 (q := (⟨"CaseNetModel", "outputs", "(II)I"⟩, 28)) (by decide +kernel)
theorem as_21 : Cond.selects "CaseNetModel" ⟨"CaseNetModel", "meet", "(I)V"⟩ ⟨"CaseNetModel", "meet", "(I)V"⟩ ∈ wAll := wa_sel 21 (q := (⟨"CaseNetModel", "meet", "(I)V"⟩, 28)) (by decide +kernel)
theorem as_22 : Cond.selects "CaseNetModel" ⟨"CaseNetModel", "after", "(III)I"⟩ ⟨"CaseNetModel", "after", "(III)I"⟩ ∈ wAll := wa_sel 22 (q := (⟨"CaseNetModel", "after", "(III)I"⟩, 28)) (by decide +kernel)
theorem as_20 : Cond.selects "CaseNetModel" ⟨"CaseNetModel", "search", "(III)Z"⟩ ⟨"CaseNetModel", "search", "(III)Z"⟩ ∈ wAll := wa_sel 20 (q := (⟨"CaseNetModel", "search", "(III)Z"⟩, 28)) (by decide +kernel)
theorem as_24 : Cond.selects "CaseNetModel" ⟨"CaseNetModel", "isAny", "()Z"⟩ ⟨"CaseNetModel", "isAny", "()Z"⟩ ∈ wAll := wa_sel 24 (q := (⟨"CaseNetModel", "isAny", "()Z"⟩, 28)) (by decide +kernel)
theorem as_25 : Cond.selects "CaseNetModel" ⟨"CaseNetModel", "runs", "(I)Z"⟩ ⟨"CaseNetModel", "runs", "(I)Z"⟩ ∈ wAll := wa_sel 25 (q := (⟨"CaseNetModel", "runs", "(I)Z"⟩, 28)) (by decide +kernel)
theorem as_26 : Cond.selects "CaseNetModel" ⟨"CaseNetModel", "stop", "(I)V"⟩ ⟨"CaseNetModel", "stop", "(I)V"⟩ ∈ wAll := wa_sel 26 (q := (⟨"CaseNetModel", "stop", "(I)V"⟩, 28)) (by decide +kernel)
theorem as_28 : Cond.selects "CaseNetModel" ⟨"CaseNetModel", "isLast", "(I)Z"⟩ ⟨"CaseNetModel", "isLast", "(I)Z"⟩ ∈ wAll := wa_sel 28 (q := (⟨"CaseNetModel", "isLast", "(I)Z"⟩, 28)) (by decide +kernel)
theorem as_27 : Cond.selects "CaseNetModel" ⟨"CaseNetModel", "isEnabled", "(I)Z"⟩ ⟨"CaseNetModel", "isEnabled", "(I)Z"⟩ ∈ wAll := wa_sel 27 (q := (⟨"CaseNetModel", "isEnabled", "(I)Z"⟩, 28)) (by decide +kernel)
theorem as_29 : Cond.selects "CaseNetModel" ⟨"CaseNetModel", "isItem", "(I)Z"⟩ ⟨"CaseNetModel", "isItem", "(I)Z"⟩ ∈ wAll := wa_sel 29 (q := (⟨"CaseNetModel", "isItem", "(I)Z"⟩, 28)) (by decide +kernel)
theorem as_30 : Cond.selects "CaseNetModel" ⟨"CaseNetModel", "inState", "(III)I"⟩ ⟨"CaseNetModel", "inState", "(III)I"⟩ ∈ wAll := wa_sel 30 (q := (⟨"CaseNetModel", "inState", "(III)I"⟩, 28)) (by decide +kernel)
theorem as_31 : Cond.selects "CaseNetModel" ⟨"CaseNetModel", "end", "(I)V"⟩ ⟨"CaseNetModel", "end", "(I)V"⟩ ∈ wAll := wa_sel 31 (q := (⟨"CaseNetModel", "end", "(I)V"⟩, 28)) (by decide +kernel)
theorem as_32 : Cond.selects "CaseNetModel" ⟨"CaseNetModel", "failed", "(I)I"⟩ ⟨"CaseNetModel", "failed", "(I)I"⟩ ∈ wAll := wa_sel 32 (q := (⟨"CaseNetModel", "failed", "(I)I"⟩, 28)) (by decide +kernel)
theorem as_35 : Cond.selects "CaseNetModel" ⟨"CaseNetModel", "isGood", "(I)Z"⟩ ⟨"CaseNetModel", "isGood", "(I)Z"⟩ ∈ wAll := wa_sel 35 (q := (⟨"CaseNetModel", "isGood", "(I)Z"⟩, 28)) (by decide +kernel)
theorem as_36 : Cond.selects "CaseNetModel" ⟨"CaseNetModel", "leads", "(I)Z"⟩ ⟨"CaseNetModel", "leads", "(I)Z"⟩ ∈ wAll := wa_sel 36 (q := (⟨"CaseNetModel", "leads", "(I)Z"⟩, 28)) (by decide +kernel)
theorem as_33 : Cond.selects "CaseNetModel" ⟨"CaseNetModel", "canBegin", "(I)Z"⟩ ⟨"CaseNetModel", "canBegin", "(I)Z"⟩ ∈ wAll := wa_sel 33 (q := (⟨"CaseNetModel", "canBegin", "(I)Z"⟩, 28)) (by decide +kernel)
theorem as_34 : Cond.selects "CaseNetModel" ⟨"CaseNetModel", "allEnd", "()Z"⟩ ⟨"CaseNetModel", "allEnd", "()Z"⟩ ∈ wAll := wa_sel 34 (q := (⟨"CaseNetModel", "allEnd", "()Z"⟩, 28)) (by decide +kernel)
