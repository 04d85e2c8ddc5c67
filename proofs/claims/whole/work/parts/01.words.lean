/-! all words of the tables that a call carries on, and each by its place -/
def AL : List Cond := lw_tbl.filter goodWord
theorem al_in : ∀ w ∈ AL, w ∈ lw_tbl := fun w h => (List.mem_filter.mp h).1
theorem al_good : ∀ w ∈ AL, (w.onTables && w.keeps) = true ∨ ∃ ty, w = .arrayClass ty := fun w h => good_of_word (List.mem_filter.mp h).2
theorem al_sub {ws : List Cond} (h : ∀ w ∈ ws, w ∈ AL) : GoodIn AL ws := fun w hw => ⟨h w hw, al_good w (h w hw)⟩
theorem al_t1 {w : Cond} (i : Nat) (h : tables_1_1[i]? = some w) (g : goodWord w = true) : w ∈ AL := List.mem_filter.mpr ⟨List.mem_append_right _ (List.mem_append_left _ (List.mem_of_getElem? h)), g⟩
theorem al_t2 {w : Cond} (i : Nat) (h : tables_1_2[i]? = some w) (g : goodWord w = true) : w ∈ AL := List.mem_filter.mpr ⟨List.mem_append_right _ (List.mem_append_right _ (List.mem_append_left _ (List.mem_of_getElem? h))), g⟩
theorem al_t3 {w : Cond} (i : Nat) (h : tables_1_3[i]? = some w) (g : goodWord w = true) : w ∈ AL := List.mem_filter.mpr ⟨List.mem_append_right _ (List.mem_append_right _ (List.mem_append_right _ (List.mem_of_getElem? h))), g⟩
theorem al_ts {q : MethodName × Nat} (i : Nat) (h : lw_privs[i]? = some q) : Cond.selects q.1.cls q.1 q.1 ∈ AL := List.mem_filter.mpr ⟨List.mem_append_left _ (List.mem_map.mpr ⟨q, List.mem_of_getElem? h, rfl⟩), rfl⟩
theorem k_0 : (Jvm.Cond.initialized "DealtSecretLaw") ∈ AL := al_t1 0 rfl rfl
theorem k_1 : (Jvm.Cond.initialized "DealtSecret") ∈ AL := al_t1 1 rfl rfl
theorem k_2 : (Jvm.Cond.initialized "DealtSecret$Group") ∈ AL := al_t1 2 rfl rfl
theorem k_3 : (Jvm.Cond.initialized "DealtSecret$Participant") ∈ AL := al_t1 3 rfl rfl
theorem k_4 : (Jvm.Cond.initialized "DealtSecretModel") ∈ AL := al_t1 4 rfl rfl
theorem k_5 : (Jvm.Cond.initialized "java/lang/Throwable") ∈ AL := al_t1 5 rfl rfl
theorem k_6 : (Jvm.Cond.initialized "java/lang/Exception") ∈ AL := al_t1 6 rfl rfl
theorem k_7 : (Jvm.Cond.initialized "java/lang/RuntimeException") ∈ AL := al_t1 7 rfl rfl
theorem k_8 : (Jvm.Cond.initialized "java/lang/IllegalArgumentException") ∈ AL := al_t1 8 rfl rfl
theorem k_9 : (Jvm.Cond.initialized "java/util/Arrays") ∈ AL := al_t1 9 rfl rfl
theorem k_10 : (Jvm.Cond.initialized "java/lang/IllegalStateException") ∈ AL := al_t1 10 rfl rfl
theorem k_11 : (Jvm.Cond.initialized "java/lang/Math") ∈ AL := al_t1 11 rfl rfl
theorem k_12 : (Jvm.Cond.initialized "java/util/NoSuchElementException") ∈ AL := al_t1 12 rfl rfl
theorem k_13 : (Jvm.Cond.classLink "DealtSecretLaw" (8 : Nat) "DealtSecret") ∈ AL := al_t1 13 rfl rfl
theorem k_14 : (Jvm.Cond.instantiable "DealtSecret" (11 : Nat)) ∈ AL := al_t1 14 rfl rfl
theorem k_15 : (Jvm.Cond.methodLink "DealtSecretLaw" (63 : Nat) ({ cls := "DealtSecret", name := "<init>", desc := "(IIII)V" } : Jvm.MethodName)) ∈ AL := al_t1 15 rfl rfl
theorem k_16 : (Jvm.Cond.instanceMethod ({ cls := "DealtSecret", name := "<init>", desc := "(IIII)V" } : Jvm.MethodName)) ∈ AL := al_t1 16 rfl rfl
theorem k_17 : (Jvm.Cond.code ({ cls := "DealtSecret", name := "<init>", desc := "(IIII)V" } : Jvm.MethodName) prog_1_method_1_code (6 : Nat) (Option.none : Option Jvm.ClassFile.FieldType)) ∈ AL := al_t1 17 rfl rfl
theorem k_18 : (Jvm.Cond.methodLink "DealtSecret" (1 : Nat) ({ cls := "java/lang/Object", name := "<init>", desc := "()V" } : Jvm.MethodName)) ∈ AL := al_t1 18 rfl rfl
theorem k_19 : (Jvm.Cond.instanceMethod ({ cls := "java/lang/Object", name := "<init>", desc := "()V" } : Jvm.MethodName)) ∈ AL := al_t1 19 rfl rfl
theorem k_20 : (Jvm.Cond.code ({ cls := "java/lang/Object", name := "<init>", desc := "()V" } : Jvm.MethodName) object_method_1_code (1 : Nat) (Option.none : Option Jvm.ClassFile.FieldType)) ∈ AL := al_t1 20 rfl rfl
theorem k_21 : (Jvm.Cond.methodLink "DealtSecret" (7 : Nat) ({ cls := "DealtSecret$Group", name := "told", desc := "(IIII)LDealtSecret$Group;" } : Jvm.MethodName)) ∈ AL := al_t1 21 rfl rfl
theorem k_22 : (Jvm.Cond.static ({ cls := "DealtSecret$Group", name := "told", desc := "(IIII)LDealtSecret$Group;" } : Jvm.MethodName)) ∈ AL := al_t1 22 rfl rfl
theorem k_23 : (Jvm.Cond.code ({ cls := "DealtSecret$Group", name := "told", desc := "(IIII)LDealtSecret$Group;" } : Jvm.MethodName) prog_2_method_2_code (4 : Nat) (Option.some (Jvm.ClassFile.FieldType.object "DealtSecret$Group"))) ∈ AL := al_t1 23 rfl rfl
theorem k_24 : (Jvm.Cond.methodLink "DealtSecret$Group" (22 : Nat) ({ cls := "DealtSecret$Group", name := "isSound", desc := "(IIII)Z" } : Jvm.MethodName)) ∈ AL := al_t1 24 rfl rfl
theorem k_25 : (Jvm.Cond.static ({ cls := "DealtSecret$Group", name := "isSound", desc := "(IIII)Z" } : Jvm.MethodName)) ∈ AL := al_t1 25 rfl rfl
theorem k_26 : (Jvm.Cond.code ({ cls := "DealtSecret$Group", name := "isSound", desc := "(IIII)Z" } : Jvm.MethodName) prog_2_method_3_code (4 : Nat) (Option.some Jvm.ClassFile.FieldType.boolean)) ∈ AL := al_t1 26 rfl rfl
theorem k_27 : (Jvm.Cond.methodLink "DealtSecret$Group" (29 : Nat) ({ cls := "DealtSecret$Group", name := "isElement", desc := "(III)Z" } : Jvm.MethodName)) ∈ AL := al_t1 27 rfl rfl
theorem k_28 : (Jvm.Cond.static ({ cls := "DealtSecret$Group", name := "isElement", desc := "(III)Z" } : Jvm.MethodName)) ∈ AL := al_t1 28 rfl rfl
theorem k_29 : (Jvm.Cond.code ({ cls := "DealtSecret$Group", name := "isElement", desc := "(III)Z" } : Jvm.MethodName) prog_2_method_4_code (3 : Nat) (Option.some Jvm.ClassFile.FieldType.boolean)) ∈ AL := al_t1 29 rfl rfl
theorem k_30 : (Jvm.Cond.methodLink "DealtSecret$Group" (37 : Nat) ({ cls := "DealtSecret$Group", name := "powerModulo", desc := "(III)I" } : Jvm.MethodName)) ∈ AL := al_t1 30 rfl rfl
theorem k_31 : (Jvm.Cond.static ({ cls := "DealtSecret$Group", name := "powerModulo", desc := "(III)I" } : Jvm.MethodName)) ∈ AL := al_t1 31 rfl rfl
theorem k_32 : (Jvm.Cond.code ({ cls := "DealtSecret$Group", name := "powerModulo", desc := "(III)I" } : Jvm.MethodName) prog_2_method_6_code (8 : Nat) (Option.some Jvm.ClassFile.FieldType.int)) ∈ AL := al_t1 32 rfl rfl
theorem k_33 : (Jvm.Cond.methodLink "DealtSecret$Group" (33 : Nat) ({ cls := "DealtSecret$Group", name := "isPrime", desc := "(I)Z" } : Jvm.MethodName)) ∈ AL := al_t1 33 rfl rfl
theorem k_34 : (Jvm.Cond.static ({ cls := "DealtSecret$Group", name := "isPrime", desc := "(I)Z" } : Jvm.MethodName)) ∈ AL := al_t1 34 rfl rfl
theorem k_35 : (Jvm.Cond.code ({ cls := "DealtSecret$Group", name := "isPrime", desc := "(I)Z" } : Jvm.MethodName) prog_2_method_5_code (2 : Nat) (Option.some Jvm.ClassFile.FieldType.boolean)) ∈ AL := al_t1 35 rfl rfl
theorem k_36 : (Jvm.Cond.classLink "DealtSecret$Group" (8 : Nat) "DealtSecret$Group") ∈ AL := al_t1 36 rfl rfl
theorem k_37 : (Jvm.Cond.instantiable "DealtSecret$Group" (4 : Nat)) ∈ AL := al_t1 37 rfl rfl
theorem k_38 : (Jvm.Cond.methodLink "DealtSecret$Group" (26 : Nat) ({ cls := "DealtSecret$Group", name := "<init>", desc := "(IIII)V" } : Jvm.MethodName)) ∈ AL := al_t1 38 rfl rfl
theorem k_39 : (Jvm.Cond.instanceMethod ({ cls := "DealtSecret$Group", name := "<init>", desc := "(IIII)V" } : Jvm.MethodName)) ∈ AL := al_t1 39 rfl rfl
theorem k_40 : (Jvm.Cond.code ({ cls := "DealtSecret$Group", name := "<init>", desc := "(IIII)V" } : Jvm.MethodName) prog_2_method_1_code (5 : Nat) (Option.none : Option Jvm.ClassFile.FieldType)) ∈ AL := al_t1 40 rfl rfl
theorem k_41 : (Jvm.Cond.methodLink "DealtSecret$Group" (1 : Nat) ({ cls := "java/lang/Object", name := "<init>", desc := "()V" } : Jvm.MethodName)) ∈ AL := al_t1 41 rfl rfl
theorem k_42 : (Jvm.Cond.fieldLink "DealtSecret$Group" (7 : Nat) "DealtSecret$Group" "p" "I") ∈ AL := al_t1 42 rfl rfl
theorem k_43 : (Jvm.Cond.fieldLink "DealtSecret" (38 : Nat) "DealtSecret$Group" "p" "I") ∈ AL := al_t1 43 rfl rfl
theorem k_44 : (Jvm.Cond.fieldLink "DealtSecret$Group" (13 : Nat) "DealtSecret$Group" "q" "I") ∈ AL := al_t1 44 rfl rfl
theorem k_45 : (Jvm.Cond.fieldLink "DealtSecret" (42 : Nat) "DealtSecret$Group" "q" "I") ∈ AL := al_t1 45 rfl rfl
theorem k_46 : (Jvm.Cond.fieldLink "DealtSecret$Group" (16 : Nat) "DealtSecret$Group" "g" "I") ∈ AL := al_t1 46 rfl rfl
theorem k_47 : (Jvm.Cond.fieldLink "DealtSecret" (45 : Nat) "DealtSecret$Group" "g" "I") ∈ AL := al_t1 47 rfl rfl
theorem k_48 : (Jvm.Cond.fieldLink "DealtSecret$Group" (19 : Nat) "DealtSecret$Group" "h" "I") ∈ AL := al_t1 48 rfl rfl
theorem k_49 : (Jvm.Cond.fieldLink "DealtSecret" (48 : Nat) "DealtSecret$Group" "h" "I") ∈ AL := al_t1 49 rfl rfl
theorem k_50 : (Jvm.Cond.laysFinal "DealtSecret$Group" "DealtSecret$Group" "p" "I") ∈ AL := al_t1 50 rfl rfl
theorem k_51 : (Jvm.Cond.soleField "DealtSecret$Group" "p") ∈ AL := al_t1 51 rfl rfl
theorem k_52 : (Jvm.Cond.laysFinal "DealtSecret$Group" "DealtSecret$Group" "q" "I") ∈ AL := al_t1 52 rfl rfl
theorem k_53 : (Jvm.Cond.soleField "DealtSecret$Group" "q") ∈ AL := al_t1 53 rfl rfl
theorem k_54 : (Jvm.Cond.laysFinal "DealtSecret$Group" "DealtSecret$Group" "g" "I") ∈ AL := al_t1 54 rfl rfl
theorem k_55 : (Jvm.Cond.soleField "DealtSecret$Group" "g") ∈ AL := al_t1 55 rfl rfl
theorem k_56 : (Jvm.Cond.laysFinal "DealtSecret$Group" "DealtSecret$Group" "h" "I") ∈ AL := al_t1 56 rfl rfl
theorem k_57 : (Jvm.Cond.soleField "DealtSecret$Group" "h") ∈ AL := al_t1 57 rfl rfl
theorem k_58 : (Jvm.Cond.classLink "DealtSecret" (29 : Nat) "DealtSecret$Participant") ∈ AL := al_t1 59 rfl rfl
theorem k_59 : (Jvm.Cond.instantiable "DealtSecret$Participant" (9 : Nat)) ∈ AL := al_t1 61 rfl rfl
theorem k_60 : (Jvm.Cond.methodLink "DealtSecret" (35 : Nat) ({ cls := "DealtSecret$Participant", name := "<init>", desc := "(I)V" } : Jvm.MethodName)) ∈ AL := al_t1 62 rfl rfl
theorem k_61 : (Jvm.Cond.instanceMethod ({ cls := "DealtSecret$Participant", name := "<init>", desc := "(I)V" } : Jvm.MethodName)) ∈ AL := al_t1 63 rfl rfl
theorem k_62 : (Jvm.Cond.code ({ cls := "DealtSecret$Participant", name := "<init>", desc := "(I)V" } : Jvm.MethodName) prog_3_method_1_code (2 : Nat) (Option.none : Option Jvm.ClassFile.FieldType)) ∈ AL := al_t1 64 rfl rfl
theorem k_63 : (Jvm.Cond.methodLink "DealtSecret$Participant" (1 : Nat) ({ cls := "java/lang/Object", name := "<init>", desc := "()V" } : Jvm.MethodName)) ∈ AL := al_t1 65 rfl rfl
theorem k_64 : (Jvm.Cond.fieldLink "DealtSecret$Participant" (7 : Nat) "DealtSecret$Participant" "number" "I") ∈ AL := al_t1 66 rfl rfl
theorem k_65 : (Jvm.Cond.fieldLink "DealtSecret" (210 : Nat) "DealtSecret$Participant" "number" "I") ∈ AL := al_t1 67 rfl rfl
theorem k_66 : (Jvm.Cond.fieldLink "DealtSecret$Participant" (26 : Nat) "DealtSecret$Participant" "u" "I") ∈ AL := al_t1 68 rfl rfl
theorem k_67 : (Jvm.Cond.fieldLink "DealtSecret" (147 : Nat) "DealtSecret$Participant" "u" "I") ∈ AL := al_t1 69 rfl rfl
theorem k_68 : (Jvm.Cond.fieldLink "DealtSecret$Participant" (29 : Nat) "DealtSecret$Participant" "v" "I") ∈ AL := al_t1 70 rfl rfl
theorem k_69 : (Jvm.Cond.fieldLink "DealtSecret" (150 : Nat) "DealtSecret$Participant" "v" "I") ∈ AL := al_t1 71 rfl rfl
theorem k_70 : (Jvm.Cond.fieldLink "DealtSecret$Participant" (13 : Nat) "DealtSecret$Participant" "corrupt" "Z") ∈ AL := al_t1 72 rfl rfl
theorem k_71 : (Jvm.Cond.fieldLink "DealtSecret" (129 : Nat) "DealtSecret$Participant" "corrupt" "Z") ∈ AL := al_t1 73 rfl rfl
theorem k_72 : (Jvm.Cond.fieldLink "DealtSecret$Participant" (17 : Nat) "DealtSecret$Participant" "complains" "Z") ∈ AL := al_t1 74 rfl rfl
theorem k_73 : (Jvm.Cond.fieldLink "DealtSecret" (132 : Nat) "DealtSecret$Participant" "complains" "Z") ∈ AL := al_t1 75 rfl rfl
theorem k_74 : (Jvm.Cond.fieldLink "DealtSecret$Participant" (20 : Nat) "DealtSecret$Participant" "answered" "Z") ∈ AL := al_t1 76 rfl rfl
theorem k_75 : (Jvm.Cond.fieldLink "DealtSecret" (144 : Nat) "DealtSecret$Participant" "answered" "Z") ∈ AL := al_t1 77 rfl rfl
theorem k_76 : (Jvm.Cond.fieldLink "DealtSecret$Participant" (23 : Nat) "DealtSecret$Participant" "kept" "Z") ∈ AL := al_t1 78 rfl rfl
theorem k_77 : (Jvm.Cond.fieldLink "DealtSecret" (165 : Nat) "DealtSecret$Participant" "kept" "Z") ∈ AL := al_t1 79 rfl rfl
theorem k_78 : (Jvm.Cond.fieldLink "DealtSecret$Participant" (32 : Nat) "DealtSecret$Participant" "keptU" "I") ∈ AL := al_t1 80 rfl rfl
theorem k_79 : (Jvm.Cond.fieldLink "DealtSecret" (168 : Nat) "DealtSecret$Participant" "keptU" "I") ∈ AL := al_t1 81 rfl rfl
theorem k_80 : (Jvm.Cond.fieldLink "DealtSecret$Participant" (35 : Nat) "DealtSecret$Participant" "keptV" "I") ∈ AL := al_t1 82 rfl rfl
theorem k_81 : (Jvm.Cond.fieldLink "DealtSecret" (224 : Nat) "DealtSecret$Participant" "keptV" "I") ∈ AL := al_t1 83 rfl rfl
theorem k_82 : (Jvm.Cond.laysFinal "DealtSecret$Participant" "DealtSecret$Participant" "number" "I") ∈ AL := al_t1 84 rfl rfl
theorem k_83 : (Jvm.Cond.soleField "DealtSecret$Participant" "number") ∈ AL := al_t1 85 rfl rfl
theorem k_84 : (Jvm.Cond.lays "DealtSecret$Participant" "DealtSecret$Participant" "u" "I") ∈ AL := al_t1 86 rfl rfl
theorem k_85 : (Jvm.Cond.soleField "DealtSecret$Participant" "u") ∈ AL := al_t1 87 rfl rfl
theorem k_86 : (Jvm.Cond.lays "DealtSecret$Participant" "DealtSecret$Participant" "v" "I") ∈ AL := al_t1 88 rfl rfl
theorem k_87 : (Jvm.Cond.soleField "DealtSecret$Participant" "v") ∈ AL := al_t1 89 rfl rfl
theorem k_88 : (Jvm.Cond.lays "DealtSecret$Participant" "DealtSecret$Participant" "corrupt" "Z") ∈ AL := al_t1 90 rfl rfl
theorem k_89 : (Jvm.Cond.soleField "DealtSecret$Participant" "corrupt") ∈ AL := al_t1 91 rfl rfl
theorem k_90 : (Jvm.Cond.lays "DealtSecret$Participant" "DealtSecret$Participant" "complains" "Z") ∈ AL := al_t1 92 rfl rfl
theorem k_91 : (Jvm.Cond.soleField "DealtSecret$Participant" "complains") ∈ AL := al_t1 93 rfl rfl
theorem k_92 : (Jvm.Cond.lays "DealtSecret$Participant" "DealtSecret$Participant" "answered" "Z") ∈ AL := al_t1 94 rfl rfl
theorem k_93 : (Jvm.Cond.soleField "DealtSecret$Participant" "answered") ∈ AL := al_t1 95 rfl rfl
theorem k_94 : (Jvm.Cond.lays "DealtSecret$Participant" "DealtSecret$Participant" "kept" "Z") ∈ AL := al_t1 96 rfl rfl
theorem k_95 : (Jvm.Cond.soleField "DealtSecret$Participant" "kept") ∈ AL := al_t1 97 rfl rfl
theorem k_96 : (Jvm.Cond.lays "DealtSecret$Participant" "DealtSecret$Participant" "keptU" "I") ∈ AL := al_t1 98 rfl rfl
theorem k_97 : (Jvm.Cond.soleField "DealtSecret$Participant" "keptU") ∈ AL := al_t1 99 rfl rfl
theorem k_98 : (Jvm.Cond.lays "DealtSecret$Participant" "DealtSecret$Participant" "keptV" "I") ∈ AL := al_t1 100 rfl rfl
theorem k_99 : (Jvm.Cond.soleField "DealtSecret$Participant" "keptV") ∈ AL := al_t1 101 rfl rfl
theorem k_100 : (Jvm.Cond.arrayClass Jvm.ClassFile.FieldType.int) ∈ AL := al_t1 103 rfl rfl
theorem k_101 : (Jvm.Cond.fieldLink "DealtSecret" (13 : Nat) "DealtSecret" "group" "LDealtSecret$Group;") ∈ AL := al_t1 104 rfl rfl
theorem k_102 : (Jvm.Cond.fieldLink "DealtSecret" (19 : Nat) "DealtSecret" "a" "[I") ∈ AL := al_t1 105 rfl rfl
theorem k_103 : (Jvm.Cond.fieldLink "DealtSecret" (23 : Nat) "DealtSecret" "b" "[I") ∈ AL := al_t1 106 rfl rfl
theorem k_104 : (Jvm.Cond.fieldLink "DealtSecret" (26 : Nat) "DealtSecret" "published" "[I") ∈ AL := al_t1 107 rfl rfl
theorem k_105 : (Jvm.Cond.fieldLink "DealtSecret" (31 : Nat) "DealtSecret" "participants" "[LDealtSecret$Participant;") ∈ AL := al_t1 108 rfl rfl
theorem k_106 : (Jvm.Cond.fieldLink "DealtSecret" (80 : Nat) "DealtSecret" "stage" "I") ∈ AL := al_t1 109 rfl rfl
theorem k_107 : (Jvm.Cond.fieldLink "DealtSecret" (58 : Nat) "DealtSecret" "n" "I") ∈ AL := al_t1 110 rfl rfl
theorem k_108 : (Jvm.Cond.fieldLink "DealtSecret" (61 : Nat) "DealtSecret" "t" "I") ∈ AL := al_t1 111 rfl rfl
theorem k_109 : (Jvm.Cond.fieldLink "DealtSecret" (64 : Nat) "DealtSecret" "blind" "Z") ∈ AL := al_t1 112 rfl rfl
theorem k_110 : (Jvm.Cond.fieldLink "DealtSecret" (77 : Nat) "DealtSecret" "related" "Z") ∈ AL := al_t1 113 rfl rfl
theorem k_111 : (Jvm.Cond.fieldLink "DealtSecret" (183 : Nat) "DealtSecret" "relation" "I") ∈ AL := al_t1 114 rfl rfl
theorem k_112 : (Jvm.Cond.laysFinal "DealtSecret" "DealtSecret" "group" "LDealtSecret$Group;") ∈ AL := al_t1 115 rfl rfl
theorem k_113 : (Jvm.Cond.soleField "DealtSecret" "group") ∈ AL := al_t1 116 rfl rfl
theorem k_114 : (Jvm.Cond.laysFinal "DealtSecret" "DealtSecret" "a" "[I") ∈ AL := al_t1 117 rfl rfl
theorem k_115 : (Jvm.Cond.soleField "DealtSecret" "a") ∈ AL := al_t1 118 rfl rfl
theorem k_116 : (Jvm.Cond.laysFinal "DealtSecret" "DealtSecret" "b" "[I") ∈ AL := al_t1 119 rfl rfl
theorem k_117 : (Jvm.Cond.soleField "DealtSecret" "b") ∈ AL := al_t1 120 rfl rfl
theorem k_118 : (Jvm.Cond.laysFinal "DealtSecret" "DealtSecret" "published" "[I") ∈ AL := al_t1 121 rfl rfl
theorem k_119 : (Jvm.Cond.soleField "DealtSecret" "published") ∈ AL := al_t1 122 rfl rfl
theorem k_120 : (Jvm.Cond.laysFinal "DealtSecret" "DealtSecret" "participants" "[LDealtSecret$Participant;") ∈ AL := al_t1 123 rfl rfl
theorem k_121 : (Jvm.Cond.soleField "DealtSecret" "participants") ∈ AL := al_t1 124 rfl rfl
theorem k_122 : (Jvm.Cond.lays "DealtSecret" "DealtSecret" "stage" "I") ∈ AL := al_t1 125 rfl rfl
theorem k_123 : (Jvm.Cond.soleField "DealtSecret" "stage") ∈ AL := al_t1 126 rfl rfl
theorem k_124 : (Jvm.Cond.lays "DealtSecret" "DealtSecret" "n" "I") ∈ AL := al_t1 127 rfl rfl
theorem k_125 : (Jvm.Cond.soleField "DealtSecret" "n") ∈ AL := al_t1 128 rfl rfl
theorem k_126 : (Jvm.Cond.lays "DealtSecret" "DealtSecret" "t" "I") ∈ AL := al_t1 129 rfl rfl
theorem k_127 : (Jvm.Cond.soleField "DealtSecret" "t") ∈ AL := al_t1 130 rfl rfl
theorem k_128 : (Jvm.Cond.lays "DealtSecret" "DealtSecret" "blind" "Z") ∈ AL := al_t1 131 rfl rfl
theorem k_129 : (Jvm.Cond.soleField "DealtSecret" "blind") ∈ AL := al_t1 132 rfl rfl
theorem k_130 : (Jvm.Cond.lays "DealtSecret" "DealtSecret" "related" "Z") ∈ AL := al_t1 133 rfl rfl
theorem k_131 : (Jvm.Cond.soleField "DealtSecret" "related") ∈ AL := al_t1 134 rfl rfl
theorem k_132 : (Jvm.Cond.lays "DealtSecret" "DealtSecret" "relation" "I") ∈ AL := al_t1 135 rfl rfl
theorem k_133 : (Jvm.Cond.soleField "DealtSecret" "relation") ∈ AL := al_t1 136 rfl rfl
theorem k_134 : (Jvm.Cond.methodLink "DealtSecretLaw" (69 : Nat) ({ cls := "DealtSecret", name := "group", desc := "(I)I" } : Jvm.MethodName)) ∈ AL := al_t1 138 rfl rfl
theorem k_135 : (Jvm.Cond.instanceMethod ({ cls := "DealtSecret", name := "group", desc := "(I)I" } : Jvm.MethodName)) ∈ AL := al_t1 139 rfl rfl
theorem k_136 : (Jvm.Cond.selects "DealtSecret" ({ cls := "DealtSecret", name := "group", desc := "(I)I" } : Jvm.MethodName) ({ cls := "DealtSecret", name := "group", desc := "(I)I" } : Jvm.MethodName)) ∈ AL := al_t1 140 rfl rfl
theorem k_137 : (Jvm.Cond.code ({ cls := "DealtSecret", name := "group", desc := "(I)I" } : Jvm.MethodName) prog_1_method_2_code (2 : Nat) (Option.some Jvm.ClassFile.FieldType.int)) ∈ AL := al_t1 141 rfl rfl
theorem k_138 : (Jvm.Cond.methodLink "DealtSecretLaw" (119 : Nat) ({ cls := "DealtSecret", name := "stage", desc := "()I" } : Jvm.MethodName)) ∈ AL := al_t1 142 rfl rfl
theorem k_139 : (Jvm.Cond.instanceMethod ({ cls := "DealtSecret", name := "stage", desc := "()I" } : Jvm.MethodName)) ∈ AL := al_t1 143 rfl rfl
theorem k_140 : (Jvm.Cond.selects "DealtSecret" ({ cls := "DealtSecret", name := "stage", desc := "()I" } : Jvm.MethodName) ({ cls := "DealtSecret", name := "stage", desc := "()I" } : Jvm.MethodName)) ∈ AL := al_t1 144 rfl rfl
theorem k_141 : (Jvm.Cond.code ({ cls := "DealtSecret", name := "stage", desc := "()I" } : Jvm.MethodName) prog_1_method_15_code (1 : Nat) (Option.some Jvm.ClassFile.FieldType.int)) ∈ AL := al_t1 145 rfl rfl
theorem k_142 : (Jvm.Cond.methodLink "DealtSecretLaw" (123 : Nat) ({ cls := "DealtSecret", name := "commitment", desc := "(I)I" } : Jvm.MethodName)) ∈ AL := al_t1 146 rfl rfl
theorem k_143 : (Jvm.Cond.instanceMethod ({ cls := "DealtSecret", name := "commitment", desc := "(I)I" } : Jvm.MethodName)) ∈ AL := al_t1 147 rfl rfl
theorem k_144 : (Jvm.Cond.selects "DealtSecret" ({ cls := "DealtSecret", name := "commitment", desc := "(I)I" } : Jvm.MethodName) ({ cls := "DealtSecret", name := "commitment", desc := "(I)I" } : Jvm.MethodName)) ∈ AL := al_t1 148 rfl rfl
theorem k_145 : (Jvm.Cond.code ({ cls := "DealtSecret", name := "commitment", desc := "(I)I" } : Jvm.MethodName) prog_1_method_16_code (2 : Nat) (Option.some Jvm.ClassFile.FieldType.int)) ∈ AL := al_t1 149 rfl rfl
theorem k_146 : (Jvm.Cond.methodLink "DealtSecret" (186 : Nat) ({ cls := "DealtSecret", name := "isDealt", desc := "()Z" } : Jvm.MethodName)) ∈ AL := al_t1 150 rfl rfl
theorem k_147 : (Jvm.Cond.instanceMethod ({ cls := "DealtSecret", name := "isDealt", desc := "()Z" } : Jvm.MethodName)) ∈ AL := al_t1 152 rfl rfl
theorem k_148 : (Jvm.Cond.code ({ cls := "DealtSecret", name := "isDealt", desc := "()Z" } : Jvm.MethodName) prog_1_method_26_code (1 : Nat) (Option.some Jvm.ClassFile.FieldType.boolean)) ∈ AL := al_t1 153 rfl rfl
theorem k_149 : (Jvm.Cond.methodLink "DealtSecret" (189 : Nat) ({ cls := "DealtSecret", name := "isCoefficient", desc := "(I)Z" } : Jvm.MethodName)) ∈ AL := al_t1 154 rfl rfl
theorem k_150 : (Jvm.Cond.instanceMethod ({ cls := "DealtSecret", name := "isCoefficient", desc := "(I)Z" } : Jvm.MethodName)) ∈ AL := al_t1 156 rfl rfl
theorem k_151 : (Jvm.Cond.code ({ cls := "DealtSecret", name := "isCoefficient", desc := "(I)Z" } : Jvm.MethodName) prog_1_method_25_code (2 : Nat) (Option.some Jvm.ClassFile.FieldType.boolean)) ∈ AL := al_t1 157 rfl rfl
theorem k_152 : (Jvm.Cond.methodLink "DealtSecretLaw" (127 : Nat) ({ cls := "DealtSecret", name := "share", desc := "(II)I" } : Jvm.MethodName)) ∈ AL := al_t1 158 rfl rfl
theorem k_153 : (Jvm.Cond.instanceMethod ({ cls := "DealtSecret", name := "share", desc := "(II)I" } : Jvm.MethodName)) ∈ AL := al_t1 159 rfl rfl
theorem k_154 : (Jvm.Cond.selects "DealtSecret" ({ cls := "DealtSecret", name := "share", desc := "(II)I" } : Jvm.MethodName) ({ cls := "DealtSecret", name := "share", desc := "(II)I" } : Jvm.MethodName)) ∈ AL := al_t1 160 rfl rfl
theorem k_155 : (Jvm.Cond.code ({ cls := "DealtSecret", name := "share", desc := "(II)I" } : Jvm.MethodName) prog_1_method_17_code (3 : Nat) (Option.some Jvm.ClassFile.FieldType.int)) ∈ AL := al_t1 161 rfl rfl
theorem k_156 : (Jvm.Cond.methodLink "DealtSecret" (193 : Nat) ({ cls := "DealtSecret", name := "isParticipant", desc := "(I)Z" } : Jvm.MethodName)) ∈ AL := al_t1 162 rfl rfl
theorem k_157 : (Jvm.Cond.instanceMethod ({ cls := "DealtSecret", name := "isParticipant", desc := "(I)Z" } : Jvm.MethodName)) ∈ AL := al_t1 164 rfl rfl
theorem k_158 : (Jvm.Cond.code ({ cls := "DealtSecret", name := "isParticipant", desc := "(I)Z" } : Jvm.MethodName) prog_1_method_24_code (2 : Nat) (Option.some Jvm.ClassFile.FieldType.boolean)) ∈ AL := al_t1 165 rfl rfl
theorem k_159 : (Jvm.Cond.methodLink "DealtSecretLaw" (132 : Nat) ({ cls := "DealtSecret", name := "fits", desc := "(I)Z" } : Jvm.MethodName)) ∈ AL := al_t1 166 rfl rfl
theorem k_160 : (Jvm.Cond.instanceMethod ({ cls := "DealtSecret", name := "fits", desc := "(I)Z" } : Jvm.MethodName)) ∈ AL := al_t1 167 rfl rfl
theorem k_161 : (Jvm.Cond.selects "DealtSecret" ({ cls := "DealtSecret", name := "fits", desc := "(I)Z" } : Jvm.MethodName) ({ cls := "DealtSecret", name := "fits", desc := "(I)Z" } : Jvm.MethodName)) ∈ AL := al_t1 168 rfl rfl
theorem k_162 : (Jvm.Cond.code ({ cls := "DealtSecret", name := "fits", desc := "(I)Z" } : Jvm.MethodName) prog_1_method_18_code (2 : Nat) (Option.some Jvm.ClassFile.FieldType.boolean)) ∈ AL := al_t1 169 rfl rfl
theorem k_163 : (Jvm.Cond.methodLink "DealtSecret" (140 : Nat) ({ cls := "DealtSecret", name := "isShareRight", desc := "(LDealtSecret$Participant;)Z" } : Jvm.MethodName)) ∈ AL := al_t1 170 rfl rfl
theorem k_164 : (Jvm.Cond.instanceMethod ({ cls := "DealtSecret", name := "isShareRight", desc := "(LDealtSecret$Participant;)Z" } : Jvm.MethodName)) ∈ AL := al_t1 172 rfl rfl
theorem k_165 : (Jvm.Cond.code ({ cls := "DealtSecret", name := "isShareRight", desc := "(LDealtSecret$Participant;)Z" } : Jvm.MethodName) prog_1_method_33_code (2 : Nat) (Option.some Jvm.ClassFile.FieldType.boolean)) ∈ AL := al_t1 173 rfl rfl
theorem k_166 : (Jvm.Cond.methodLink "DealtSecret" (207 : Nat) ({ cls := "DealtSecret", name := "isPairRight", desc := "(LDealtSecret$Participant;II)Z" } : Jvm.MethodName)) ∈ AL := al_t1 174 rfl rfl
theorem k_167 : (Jvm.Cond.instanceMethod ({ cls := "DealtSecret", name := "isPairRight", desc := "(LDealtSecret$Participant;II)Z" } : Jvm.MethodName)) ∈ AL := al_t1 176 rfl rfl
theorem k_168 : (Jvm.Cond.code ({ cls := "DealtSecret", name := "isPairRight", desc := "(LDealtSecret$Participant;II)Z" } : Jvm.MethodName) prog_1_method_34_code (4 : Nat) (Option.some Jvm.ClassFile.FieldType.boolean)) ∈ AL := al_t1 177 rfl rfl
theorem k_169 : (Jvm.Cond.methodLink "DealtSecret" (200 : Nat) ({ cls := "DealtSecret$Group", name := "commit", desc := "(II)I" } : Jvm.MethodName)) ∈ AL := al_t1 178 rfl rfl
theorem k_170 : (Jvm.Cond.instanceMethod ({ cls := "DealtSecret$Group", name := "commit", desc := "(II)I" } : Jvm.MethodName)) ∈ AL := al_t1 179 rfl rfl
theorem k_171 : (Jvm.Cond.selects "DealtSecret$Group" ({ cls := "DealtSecret$Group", name := "commit", desc := "(II)I" } : Jvm.MethodName) ({ cls := "DealtSecret$Group", name := "commit", desc := "(II)I" } : Jvm.MethodName)) ∈ AL := al_t1 180 rfl rfl
theorem k_172 : (Jvm.Cond.code ({ cls := "DealtSecret$Group", name := "commit", desc := "(II)I" } : Jvm.MethodName) prog_2_method_7_code (3 : Nat) (Option.some Jvm.ClassFile.FieldType.int)) ∈ AL := al_t1 181 rfl rfl
theorem k_173 : (Jvm.Cond.methodLink "DealtSecret$Group" (41 : Nat) ({ cls := "DealtSecret$Group", name := "power", desc := "(II)I" } : Jvm.MethodName)) ∈ AL := al_t1 182 rfl rfl
theorem k_174 : (Jvm.Cond.instanceMethod ({ cls := "DealtSecret$Group", name := "power", desc := "(II)I" } : Jvm.MethodName)) ∈ AL := al_t1 183 rfl rfl
theorem k_175 : (Jvm.Cond.selects "DealtSecret$Group" ({ cls := "DealtSecret$Group", name := "power", desc := "(II)I" } : Jvm.MethodName) ({ cls := "DealtSecret$Group", name := "power", desc := "(II)I" } : Jvm.MethodName)) ∈ AL := al_t1 184 rfl rfl
theorem k_176 : (Jvm.Cond.code ({ cls := "DealtSecret$Group", name := "power", desc := "(II)I" } : Jvm.MethodName) prog_2_method_8_code (3 : Nat) (Option.some Jvm.ClassFile.FieldType.int)) ∈ AL := al_t1 185 rfl rfl
theorem k_177 : (Jvm.Cond.methodLink "DealtSecret$Group" (45 : Nat) ({ cls := "DealtSecret$Group", name := "product", desc := "(II)I" } : Jvm.MethodName)) ∈ AL := al_t1 186 rfl rfl
theorem k_178 : (Jvm.Cond.instanceMethod ({ cls := "DealtSecret$Group", name := "product", desc := "(II)I" } : Jvm.MethodName)) ∈ AL := al_t1 187 rfl rfl
theorem k_179 : (Jvm.Cond.selects "DealtSecret$Group" ({ cls := "DealtSecret$Group", name := "product", desc := "(II)I" } : Jvm.MethodName) ({ cls := "DealtSecret$Group", name := "product", desc := "(II)I" } : Jvm.MethodName)) ∈ AL := al_t1 188 rfl rfl
theorem k_180 : (Jvm.Cond.code ({ cls := "DealtSecret$Group", name := "product", desc := "(II)I" } : Jvm.MethodName) prog_2_method_9_code (3 : Nat) (Option.some Jvm.ClassFile.FieldType.int)) ∈ AL := al_t1 189 rfl rfl
theorem k_181 : (Jvm.Cond.methodLink "DealtSecret" (212 : Nat) ({ cls := "DealtSecret", name := "publishedAt", desc := "(I)I" } : Jvm.MethodName)) ∈ AL := al_t1 190 rfl rfl
theorem k_182 : (Jvm.Cond.instanceMethod ({ cls := "DealtSecret", name := "publishedAt", desc := "(I)I" } : Jvm.MethodName)) ∈ AL := al_t1 192 rfl rfl
theorem k_183 : (Jvm.Cond.code ({ cls := "DealtSecret", name := "publishedAt", desc := "(I)I" } : Jvm.MethodName) prog_1_method_35_code (4 : Nat) (Option.some Jvm.ClassFile.FieldType.int)) ∈ AL := al_t1 193 rfl rfl
theorem k_184 : (Jvm.Cond.methodLink "DealtSecret" (215 : Nat) ({ cls := "DealtSecret$Group", name := "power", desc := "(II)I" } : Jvm.MethodName)) ∈ AL := al_t1 194 rfl rfl
theorem k_185 : (Jvm.Cond.methodLink "DealtSecret" (218 : Nat) ({ cls := "DealtSecret$Group", name := "product", desc := "(II)I" } : Jvm.MethodName)) ∈ AL := al_t1 195 rfl rfl
theorem k_186 : (Jvm.Cond.methodLink "DealtSecretLaw" (136 : Nat) ({ cls := "DealtSecret", name := "complaints", desc := "()I" } : Jvm.MethodName)) ∈ AL := al_t1 196 rfl rfl
theorem k_187 : (Jvm.Cond.instanceMethod ({ cls := "DealtSecret", name := "complaints", desc := "()I" } : Jvm.MethodName)) ∈ AL := al_t1 197 rfl rfl
theorem k_188 : (Jvm.Cond.selects "DealtSecret" ({ cls := "DealtSecret", name := "complaints", desc := "()I" } : Jvm.MethodName) ({ cls := "DealtSecret", name := "complaints", desc := "()I" } : Jvm.MethodName)) ∈ AL := al_t1 198 rfl rfl
theorem k_189 : (Jvm.Cond.code ({ cls := "DealtSecret", name := "complaints", desc := "()I" } : Jvm.MethodName) prog_1_method_19_code (3 : Nat) (Option.some Jvm.ClassFile.FieldType.int)) ∈ AL := al_t1 199 rfl rfl
theorem k_190 : (Jvm.Cond.methodLink "DealtSecretLaw" (140 : Nat) ({ cls := "DealtSecret", name := "opened", desc := "()I" } : Jvm.MethodName)) ∈ AL := al_t1 200 rfl rfl
theorem k_191 : (Jvm.Cond.instanceMethod ({ cls := "DealtSecret", name := "opened", desc := "()I" } : Jvm.MethodName)) ∈ AL := al_t1 201 rfl rfl
theorem k_192 : (Jvm.Cond.selects "DealtSecret" ({ cls := "DealtSecret", name := "opened", desc := "()I" } : Jvm.MethodName) ({ cls := "DealtSecret", name := "opened", desc := "()I" } : Jvm.MethodName)) ∈ AL := al_t1 202 rfl rfl
theorem k_193 : (Jvm.Cond.code ({ cls := "DealtSecret", name := "opened", desc := "()I" } : Jvm.MethodName) prog_1_method_20_code (3 : Nat) (Option.some Jvm.ClassFile.FieldType.int)) ∈ AL := al_t1 203 rfl rfl
theorem k_194 : (Jvm.Cond.methodLink "DealtSecretLaw" (57 : Nat) ({ cls := "DealtSecretLaw", name := "cell", desc := "([II)I" } : Jvm.MethodName)) ∈ AL := al_t1 204 rfl rfl
theorem k_195 : (Jvm.Cond.static ({ cls := "DealtSecretLaw", name := "cell", desc := "([II)I" } : Jvm.MethodName)) ∈ AL := al_t1 205 rfl rfl
theorem k_196 : (Jvm.Cond.code ({ cls := "DealtSecretLaw", name := "cell", desc := "([II)I" } : Jvm.MethodName) method_2_code (2 : Nat) (Option.some Jvm.ClassFile.FieldType.int)) ∈ AL := al_t1 206 rfl rfl
theorem k_197 : (Jvm.Cond.methodLink "DealtSecretLaw" (74 : Nat) ({ cls := "DealtSecretLaw", name := "begin", desc := "(LDealtSecret;IIZ)I" } : Jvm.MethodName)) ∈ AL := al_t1 207 rfl rfl
theorem k_198 : (Jvm.Cond.static ({ cls := "DealtSecretLaw", name := "begin", desc := "(LDealtSecret;IIZ)I" } : Jvm.MethodName)) ∈ AL := al_t1 208 rfl rfl
theorem k_199 : (Jvm.Cond.classLink "DealtSecretLaw" (13 : Nat) "java/lang/IllegalArgumentException") ∈ AL := al_t1 210 rfl rfl
theorem k_200 : (Jvm.Cond.methodLink "DealtSecretLaw" (7 : Nat) ({ cls := "DealtSecret", name := "begin", desc := "(IIZ)V" } : Jvm.MethodName)) ∈ AL := al_t1 211 rfl rfl
theorem k_201 : (Jvm.Cond.instanceMethod ({ cls := "DealtSecret", name := "begin", desc := "(IIZ)V" } : Jvm.MethodName)) ∈ AL := al_t1 212 rfl rfl
theorem k_202 : (Jvm.Cond.selects "DealtSecret" ({ cls := "DealtSecret", name := "begin", desc := "(IIZ)V" } : Jvm.MethodName) ({ cls := "DealtSecret", name := "begin", desc := "(IIZ)V" } : Jvm.MethodName)) ∈ AL := al_t1 213 rfl rfl
theorem k_203 : (Jvm.Cond.code ({ cls := "DealtSecret", name := "begin", desc := "(IIZ)V" } : Jvm.MethodName) prog_1_method_3_code (5 : Nat) (Option.none : Option Jvm.ClassFile.FieldType)) ∈ AL := al_t1 214 rfl rfl
theorem k_204 : (Jvm.Cond.classLink "DealtSecret" (51 : Nat) "java/lang/IllegalArgumentException") ∈ AL := al_t1 215 rfl rfl
theorem k_205 : (Jvm.Cond.instantiable "java/lang/IllegalArgumentException" (6 : Nat)) ∈ AL := al_t1 216 rfl rfl
theorem k_206 : (Jvm.Cond.selects "java/lang/IllegalArgumentException" ({ cls := "java/lang/Throwable", name := "fillInStackTrace", desc := "(I)Ljava/lang/Throwable;" } : Jvm.MethodName) ({ cls := "java/lang/Throwable", name := "fillInStackTrace", desc := "(I)Ljava/lang/Throwable;" } : Jvm.MethodName)) ∈ AL := al_t1 224 rfl rfl
theorem k_207 : (Jvm.Cond.selects "java/lang/IllegalArgumentException" ({ cls := "java/lang/Throwable", name := "fillInStackTrace", desc := "()Ljava/lang/Throwable;" } : Jvm.MethodName) ({ cls := "java/lang/Throwable", name := "fillInStackTrace", desc := "()Ljava/lang/Throwable;" } : Jvm.MethodName)) ∈ AL := al_t1 225 rfl rfl
theorem k_208 : (Jvm.Cond.lays "java/lang/IllegalArgumentException" "java/lang/Throwable" "cause" "Ljava/lang/Throwable;") ∈ AL := al_t1 226 rfl rfl
theorem k_209 : (Jvm.Cond.lays "java/lang/Throwable" "java/lang/Throwable" "cause" "Ljava/lang/Throwable;") ∈ AL := al_t1 227 rfl rfl
theorem k_210 : (Jvm.Cond.lays "java/lang/IllegalArgumentException" "java/lang/Throwable" "stackTrace" "[Ljava/lang/StackTraceElement;") ∈ AL := al_t1 228 rfl rfl
theorem k_211 : (Jvm.Cond.lays "java/lang/Throwable" "java/lang/Throwable" "stackTrace" "[Ljava/lang/StackTraceElement;") ∈ AL := al_t1 229 rfl rfl
theorem k_212 : (Jvm.Cond.lays "java/lang/IllegalArgumentException" "java/lang/Throwable" "suppressedExceptions" "Ljava/util/List;") ∈ AL := al_t1 230 rfl rfl
theorem k_213 : (Jvm.Cond.lays "java/lang/Throwable" "java/lang/Throwable" "suppressedExceptions" "Ljava/util/List;") ∈ AL := al_t1 231 rfl rfl
theorem k_214 : (Jvm.Cond.lays "java/lang/IllegalArgumentException" "java/lang/Throwable" "detailMessage" "Ljava/lang/String;") ∈ AL := al_t1 232 rfl rfl
theorem k_215 : (Jvm.Cond.lays "java/lang/Throwable" "java/lang/Throwable" "detailMessage" "Ljava/lang/String;") ∈ AL := al_t1 233 rfl rfl
theorem k_216 : (Jvm.Cond.lays "java/lang/IllegalArgumentException" "java/lang/Throwable" "backtrace" "Ljava/lang/Object;") ∈ AL := al_t1 234 rfl rfl
theorem k_217 : (Jvm.Cond.lays "java/lang/Throwable" "java/lang/Throwable" "backtrace" "Ljava/lang/Object;") ∈ AL := al_t1 235 rfl rfl
theorem k_218 : (Jvm.Cond.fieldLink "java/lang/Throwable" (198 : Nat) "java/lang/Throwable" "backtrace" "Ljava/lang/Object;") ∈ AL := al_t1 236 rfl rfl
theorem k_219 : (Jvm.Cond.instanceMethod ({ cls := "java/lang/Throwable", name := "<init>", desc := "()V" } : Jvm.MethodName)) ∈ AL := al_t1 238 rfl rfl
theorem k_220 : (Jvm.Cond.code ({ cls := "java/lang/Throwable", name := "<init>", desc := "()V" } : Jvm.MethodName) prog_12_method_1_code (1 : Nat) (Option.none : Option Jvm.ClassFile.FieldType)) ∈ AL := al_t1 239 rfl rfl
theorem k_221 : (Jvm.Cond.methodLink "java/lang/Throwable" (1 : Nat) ({ cls := "java/lang/Object", name := "<init>", desc := "()V" } : Jvm.MethodName)) ∈ AL := al_t2 0 rfl rfl
theorem k_222 : (Jvm.Cond.fieldLink "java/lang/Throwable" (13 : Nat) "java/lang/Throwable" "UNASSIGNED_STACK" "[Ljava/lang/StackTraceElement;") ∈ AL := al_t2 1 rfl rfl
theorem k_223 : (Jvm.Cond.fieldLink "java/lang/Throwable" (20 : Nat) "java/lang/Throwable" "SUPPRESSED_SENTINEL" "Ljava/util/List;") ∈ AL := al_t2 3 rfl rfl
theorem k_224 : (Jvm.Cond.methodLink "java/lang/Throwable" (27 : Nat) ({ cls := "java/lang/Throwable", name := "fillInStackTrace", desc := "()Ljava/lang/Throwable;" } : Jvm.MethodName)) ∈ AL := al_t2 5 rfl rfl
theorem k_225 : (Jvm.Cond.instanceMethod ({ cls := "java/lang/Throwable", name := "fillInStackTrace", desc := "()Ljava/lang/Throwable;" } : Jvm.MethodName)) ∈ AL := al_t2 6 rfl rfl
theorem k_226 : (Jvm.Cond.selects "java/lang/IllegalStateException" ({ cls := "java/lang/Throwable", name := "fillInStackTrace", desc := "()Ljava/lang/Throwable;" } : Jvm.MethodName) ({ cls := "java/lang/Throwable", name := "fillInStackTrace", desc := "()Ljava/lang/Throwable;" } : Jvm.MethodName)) ∈ AL := al_t2 8 rfl rfl
theorem k_227 : (Jvm.Cond.selects "java/util/NoSuchElementException" ({ cls := "java/lang/Throwable", name := "fillInStackTrace", desc := "()Ljava/lang/Throwable;" } : Jvm.MethodName) ({ cls := "java/lang/Throwable", name := "fillInStackTrace", desc := "()Ljava/lang/Throwable;" } : Jvm.MethodName)) ∈ AL := al_t2 9 rfl rfl
theorem k_228 : (Jvm.Cond.methodLink "java/lang/Throwable" (202 : Nat) ({ cls := "java/lang/Throwable", name := "fillInStackTrace", desc := "(I)Ljava/lang/Throwable;" } : Jvm.MethodName)) ∈ AL := al_t2 11 rfl rfl
theorem k_229 : (Jvm.Cond.instanceMethod ({ cls := "java/lang/Throwable", name := "fillInStackTrace", desc := "(I)Ljava/lang/Throwable;" } : Jvm.MethodName)) ∈ AL := al_t2 13 rfl rfl
theorem k_230 : (Jvm.Cond.instantiable "java/lang/Throwable" (6 : Nat)) ∈ AL := al_t2 14 rfl rfl
theorem k_231 : (Jvm.Cond.methodLink "DealtSecret" (55 : Nat) ({ cls := "java/lang/IllegalArgumentException", name := "<init>", desc := "(Ljava/lang/String;)V" } : Jvm.MethodName)) ∈ AL := al_t2 17 rfl rfl
theorem k_232 : (Jvm.Cond.instanceMethod ({ cls := "java/lang/IllegalArgumentException", name := "<init>", desc := "(Ljava/lang/String;)V" } : Jvm.MethodName)) ∈ AL := al_t2 18 rfl rfl
theorem k_233 : (Jvm.Cond.code ({ cls := "java/lang/IllegalArgumentException", name := "<init>", desc := "(Ljava/lang/String;)V" } : Jvm.MethodName) prog_7_method_2_code (2 : Nat) (Option.none : Option Jvm.ClassFile.FieldType)) ∈ AL := al_t2 19 rfl rfl
theorem k_234 : (Jvm.Cond.methodLink "java/lang/IllegalArgumentException" (7 : Nat) ({ cls := "java/lang/RuntimeException", name := "<init>", desc := "(Ljava/lang/String;)V" } : Jvm.MethodName)) ∈ AL := al_t2 20 rfl rfl
theorem k_235 : (Jvm.Cond.instanceMethod ({ cls := "java/lang/RuntimeException", name := "<init>", desc := "(Ljava/lang/String;)V" } : Jvm.MethodName)) ∈ AL := al_t2 21 rfl rfl
theorem k_236 : (Jvm.Cond.code ({ cls := "java/lang/RuntimeException", name := "<init>", desc := "(Ljava/lang/String;)V" } : Jvm.MethodName) prog_10_method_2_code (2 : Nat) (Option.none : Option Jvm.ClassFile.FieldType)) ∈ AL := al_t2 22 rfl rfl
theorem k_237 : (Jvm.Cond.methodLink "java/lang/RuntimeException" (7 : Nat) ({ cls := "java/lang/Exception", name := "<init>", desc := "(Ljava/lang/String;)V" } : Jvm.MethodName)) ∈ AL := al_t2 23 rfl rfl
theorem k_238 : (Jvm.Cond.instanceMethod ({ cls := "java/lang/Exception", name := "<init>", desc := "(Ljava/lang/String;)V" } : Jvm.MethodName)) ∈ AL := al_t2 24 rfl rfl
theorem k_239 : (Jvm.Cond.code ({ cls := "java/lang/Exception", name := "<init>", desc := "(Ljava/lang/String;)V" } : Jvm.MethodName) prog_6_method_2_code (2 : Nat) (Option.none : Option Jvm.ClassFile.FieldType)) ∈ AL := al_t2 25 rfl rfl
theorem k_240 : (Jvm.Cond.methodLink "java/lang/Exception" (7 : Nat) ({ cls := "java/lang/Throwable", name := "<init>", desc := "(Ljava/lang/String;)V" } : Jvm.MethodName)) ∈ AL := al_t2 26 rfl rfl
theorem k_241 : (Jvm.Cond.instanceMethod ({ cls := "java/lang/Throwable", name := "<init>", desc := "(Ljava/lang/String;)V" } : Jvm.MethodName)) ∈ AL := al_t2 27 rfl rfl
theorem k_242 : (Jvm.Cond.code ({ cls := "java/lang/Throwable", name := "<init>", desc := "(Ljava/lang/String;)V" } : Jvm.MethodName) prog_12_method_2_code (2 : Nat) (Option.none : Option Jvm.ClassFile.FieldType)) ∈ AL := al_t2 28 rfl rfl
theorem k_243 : (Jvm.Cond.fieldLink "java/lang/Throwable" (31 : Nat) "java/lang/Throwable" "detailMessage" "Ljava/lang/String;") ∈ AL := al_t2 30 rfl rfl
theorem k_244 : (Jvm.Cond.fieldLink "java/lang/Throwable" (7 : Nat) "java/lang/Throwable" "cause" "Ljava/lang/Throwable;") ∈ AL := al_t2 31 rfl rfl
theorem k_245 : (Jvm.Cond.fieldLink "java/lang/Throwable" (17 : Nat) "java/lang/Throwable" "stackTrace" "[Ljava/lang/StackTraceElement;") ∈ AL := al_t2 32 rfl rfl
theorem k_246 : (Jvm.Cond.fieldLink "java/lang/Throwable" (24 : Nat) "java/lang/Throwable" "suppressedExceptions" "Ljava/util/List;") ∈ AL := al_t2 33 rfl rfl
theorem k_247 : (Jvm.Cond.soleField "java/lang/Throwable" "backtrace") ∈ AL := al_t2 34 rfl rfl
theorem k_248 : (Jvm.Cond.soleField "java/lang/Throwable" "detailMessage") ∈ AL := al_t2 35 rfl rfl
theorem k_249 : (Jvm.Cond.soleField "java/lang/Throwable" "cause") ∈ AL := al_t2 36 rfl rfl
theorem k_250 : (Jvm.Cond.soleField "java/lang/Throwable" "stackTrace") ∈ AL := al_t2 37 rfl rfl
theorem k_251 : (Jvm.Cond.lays "java/lang/IllegalArgumentException" "java/lang/Throwable" "depth" "I") ∈ AL := al_t2 38 rfl rfl
theorem k_252 : (Jvm.Cond.soleField "java/lang/Throwable" "depth") ∈ AL := al_t2 39 rfl rfl
theorem k_253 : (Jvm.Cond.soleField "java/lang/Throwable" "suppressedExceptions") ∈ AL := al_t2 40 rfl rfl
theorem k_254 : (Jvm.Cond.arrayClass Jvm.ClassFile.FieldType.byte) ∈ AL := al_t2 42 rfl rfl
theorem k_255 : (Jvm.Cond.methodLink "DealtSecret" (68 : Nat) ({ cls := "java/util/Arrays", name := "fill", desc := "([II)V" } : Jvm.MethodName)) ∈ AL := al_t2 43 rfl rfl
theorem k_256 : (Jvm.Cond.static ({ cls := "java/util/Arrays", name := "fill", desc := "([II)V" } : Jvm.MethodName)) ∈ AL := al_t2 44 rfl rfl
theorem k_257 : (Jvm.Cond.code ({ cls := "java/util/Arrays", name := "fill", desc := "([II)V" } : Jvm.MethodName) prog_13_method_103_code (4 : Nat) (Option.none : Option Jvm.ClassFile.FieldType)) ∈ AL := al_t2 45 rfl rfl
theorem k_258 : (Jvm.Cond.methodLink "DealtSecret" (74 : Nat) ({ cls := "DealtSecret$Participant", name := "startAnew", desc := "()V" } : Jvm.MethodName)) ∈ AL := al_t2 46 rfl rfl
theorem k_259 : (Jvm.Cond.instanceMethod ({ cls := "DealtSecret$Participant", name := "startAnew", desc := "()V" } : Jvm.MethodName)) ∈ AL := al_t2 47 rfl rfl
theorem k_260 : (Jvm.Cond.selects "DealtSecret$Participant" ({ cls := "DealtSecret$Participant", name := "startAnew", desc := "()V" } : Jvm.MethodName) ({ cls := "DealtSecret$Participant", name := "startAnew", desc := "()V" } : Jvm.MethodName)) ∈ AL := al_t2 48 rfl rfl
theorem k_261 : (Jvm.Cond.code ({ cls := "DealtSecret$Participant", name := "startAnew", desc := "()V" } : Jvm.MethodName) prog_3_method_2_code (1 : Nat) (Option.none : Option Jvm.ClassFile.FieldType)) ∈ AL := al_t2 49 rfl rfl
theorem k_262 : (Jvm.Cond.methodLink "DealtSecretLaw" (81 : Nat) ({ cls := "DealtSecretLaw", name := "coefficient", desc := "(LDealtSecret;III)I" } : Jvm.MethodName)) ∈ AL := al_t2 50 rfl rfl
theorem k_263 : (Jvm.Cond.static ({ cls := "DealtSecretLaw", name := "coefficient", desc := "(LDealtSecret;III)I" } : Jvm.MethodName)) ∈ AL := al_t2 51 rfl rfl
theorem k_264 : (Jvm.Cond.classLink "DealtSecretLaw" (19 : Nat) "java/lang/IllegalStateException") ∈ AL := al_t2 53 rfl rfl
theorem k_265 : (Jvm.Cond.methodLink "DealtSecretLaw" (15 : Nat) ({ cls := "DealtSecret", name := "coefficient", desc := "(III)V" } : Jvm.MethodName)) ∈ AL := al_t2 54 rfl rfl
theorem k_266 : (Jvm.Cond.instanceMethod ({ cls := "DealtSecret", name := "coefficient", desc := "(III)V" } : Jvm.MethodName)) ∈ AL := al_t2 55 rfl rfl
theorem k_267 : (Jvm.Cond.selects "DealtSecret" ({ cls := "DealtSecret", name := "coefficient", desc := "(III)V" } : Jvm.MethodName) ({ cls := "DealtSecret", name := "coefficient", desc := "(III)V" } : Jvm.MethodName)) ∈ AL := al_t2 56 rfl rfl
theorem k_268 : (Jvm.Cond.code ({ cls := "DealtSecret", name := "coefficient", desc := "(III)V" } : Jvm.MethodName) prog_1_method_4_code (4 : Nat) (Option.none : Option Jvm.ClassFile.FieldType)) ∈ AL := al_t2 57 rfl rfl
theorem k_269 : (Jvm.Cond.methodLink "DealtSecret" (83 : Nat) ({ cls := "DealtSecret", name := "demandStage", desc := "(I)V" } : Jvm.MethodName)) ∈ AL := al_t2 58 rfl rfl
theorem k_270 : (Jvm.Cond.instanceMethod ({ cls := "DealtSecret", name := "demandStage", desc := "(I)V" } : Jvm.MethodName)) ∈ AL := al_t2 60 rfl rfl
theorem k_271 : (Jvm.Cond.code ({ cls := "DealtSecret", name := "demandStage", desc := "(I)V" } : Jvm.MethodName) prog_1_method_21_code (2 : Nat) (Option.none : Option Jvm.ClassFile.FieldType)) ∈ AL := al_t2 61 rfl rfl
theorem k_272 : (Jvm.Cond.classLink "DealtSecret" (113 : Nat) "java/lang/IllegalStateException") ∈ AL := al_t2 62 rfl rfl
theorem k_273 : (Jvm.Cond.instantiable "java/lang/IllegalStateException" (6 : Nat)) ∈ AL := al_t2 63 rfl rfl
theorem k_274 : (Jvm.Cond.selects "java/lang/IllegalStateException" ({ cls := "java/lang/Throwable", name := "fillInStackTrace", desc := "(I)Ljava/lang/Throwable;" } : Jvm.MethodName) ({ cls := "java/lang/Throwable", name := "fillInStackTrace", desc := "(I)Ljava/lang/Throwable;" } : Jvm.MethodName)) ∈ AL := al_t2 65 rfl rfl
theorem k_275 : (Jvm.Cond.lays "java/lang/IllegalStateException" "java/lang/Throwable" "cause" "Ljava/lang/Throwable;") ∈ AL := al_t2 66 rfl rfl
theorem k_276 : (Jvm.Cond.lays "java/lang/IllegalStateException" "java/lang/Throwable" "stackTrace" "[Ljava/lang/StackTraceElement;") ∈ AL := al_t2 67 rfl rfl
theorem k_277 : (Jvm.Cond.lays "java/lang/IllegalStateException" "java/lang/Throwable" "suppressedExceptions" "Ljava/util/List;") ∈ AL := al_t2 68 rfl rfl
theorem k_278 : (Jvm.Cond.lays "java/lang/IllegalStateException" "java/lang/Throwable" "detailMessage" "Ljava/lang/String;") ∈ AL := al_t2 69 rfl rfl
theorem k_279 : (Jvm.Cond.lays "java/lang/IllegalStateException" "java/lang/Throwable" "backtrace" "Ljava/lang/Object;") ∈ AL := al_t2 70 rfl rfl
theorem k_280 : (Jvm.Cond.methodLink "DealtSecret" (117 : Nat) ({ cls := "java/lang/IllegalStateException", name := "<init>", desc := "(Ljava/lang/String;)V" } : Jvm.MethodName)) ∈ AL := al_t2 72 rfl rfl
theorem k_281 : (Jvm.Cond.instanceMethod ({ cls := "java/lang/IllegalStateException", name := "<init>", desc := "(Ljava/lang/String;)V" } : Jvm.MethodName)) ∈ AL := al_t2 73 rfl rfl
theorem k_282 : (Jvm.Cond.code ({ cls := "java/lang/IllegalStateException", name := "<init>", desc := "(Ljava/lang/String;)V" } : Jvm.MethodName) prog_8_method_2_code (2 : Nat) (Option.none : Option Jvm.ClassFile.FieldType)) ∈ AL := al_t2 74 rfl rfl
theorem k_283 : (Jvm.Cond.methodLink "java/lang/IllegalStateException" (7 : Nat) ({ cls := "java/lang/RuntimeException", name := "<init>", desc := "(Ljava/lang/String;)V" } : Jvm.MethodName)) ∈ AL := al_t2 75 rfl rfl
theorem k_284 : (Jvm.Cond.lays "java/lang/IllegalStateException" "java/lang/Throwable" "depth" "I") ∈ AL := al_t2 76 rfl rfl
theorem k_285 : (Jvm.Cond.methodLink "DealtSecret" (86 : Nat) ({ cls := "DealtSecret", name := "demandCoefficient", desc := "(I)V" } : Jvm.MethodName)) ∈ AL := al_t2 78 rfl rfl
theorem k_286 : (Jvm.Cond.instanceMethod ({ cls := "DealtSecret", name := "demandCoefficient", desc := "(I)V" } : Jvm.MethodName)) ∈ AL := al_t2 80 rfl rfl
theorem k_287 : (Jvm.Cond.code ({ cls := "DealtSecret", name := "demandCoefficient", desc := "(I)V" } : Jvm.MethodName) prog_1_method_23_code (2 : Nat) (Option.none : Option Jvm.ClassFile.FieldType)) ∈ AL := al_t2 81 rfl rfl
theorem k_288 : (Jvm.Cond.methodLink "DealtSecret" (89 : Nat) ({ cls := "DealtSecret$Group", name := "number", desc := "(I)I" } : Jvm.MethodName)) ∈ AL := al_t2 83 rfl rfl
theorem k_289 : (Jvm.Cond.instanceMethod ({ cls := "DealtSecret$Group", name := "number", desc := "(I)I" } : Jvm.MethodName)) ∈ AL := al_t2 84 rfl rfl
theorem k_290 : (Jvm.Cond.selects "DealtSecret$Group" ({ cls := "DealtSecret$Group", name := "number", desc := "(I)I" } : Jvm.MethodName) ({ cls := "DealtSecret$Group", name := "number", desc := "(I)I" } : Jvm.MethodName)) ∈ AL := al_t2 85 rfl rfl
theorem k_291 : (Jvm.Cond.code ({ cls := "DealtSecret$Group", name := "number", desc := "(I)I" } : Jvm.MethodName) prog_2_method_10_code (2 : Nat) (Option.some Jvm.ClassFile.FieldType.int)) ∈ AL := al_t2 86 rfl rfl
theorem k_292 : (Jvm.Cond.methodLink "DealtSecret$Group" (48 : Nat) ({ cls := "java/lang/Math", name := "floorMod", desc := "(II)I" } : Jvm.MethodName)) ∈ AL := al_t2 87 rfl rfl
theorem k_293 : (Jvm.Cond.static ({ cls := "java/lang/Math", name := "floorMod", desc := "(II)I" } : Jvm.MethodName)) ∈ AL := al_t2 88 rfl rfl
theorem k_294 : (Jvm.Cond.code ({ cls := "java/lang/Math", name := "floorMod", desc := "(II)I" } : Jvm.MethodName) prog_9_method_50_code (3 : Nat) (Option.some Jvm.ClassFile.FieldType.int)) ∈ AL := al_t2 89 rfl rfl
theorem k_295 : (Jvm.Cond.methodLink "DealtSecret" (93 : Nat) ({ cls := "DealtSecret", name := "blindNumber", desc := "(I)I" } : Jvm.MethodName)) ∈ AL := al_t2 90 rfl rfl
theorem k_296 : (Jvm.Cond.instanceMethod ({ cls := "DealtSecret", name := "blindNumber", desc := "(I)I" } : Jvm.MethodName)) ∈ AL := al_t2 92 rfl rfl
theorem k_297 : (Jvm.Cond.code ({ cls := "DealtSecret", name := "blindNumber", desc := "(I)I" } : Jvm.MethodName) prog_1_method_27_code (2 : Nat) (Option.some Jvm.ClassFile.FieldType.int)) ∈ AL := al_t2 93 rfl rfl
theorem k_298 : (Jvm.Cond.methodLink "DealtSecretLaw" (85 : Nat) ({ cls := "DealtSecretLaw", name := "advance", desc := "(LDealtSecret;[J)I" } : Jvm.MethodName)) ∈ AL := al_t2 94 rfl rfl
theorem k_299 : (Jvm.Cond.static ({ cls := "DealtSecretLaw", name := "advance", desc := "(LDealtSecret;[J)I" } : Jvm.MethodName)) ∈ AL := al_t2 95 rfl rfl
theorem k_300 : (Jvm.Cond.methodLink "DealtSecretLaw" (21 : Nat) ({ cls := "DealtSecret", name := "advance", desc := "()I" } : Jvm.MethodName)) ∈ AL := al_t2 97 rfl rfl
theorem k_301 : (Jvm.Cond.instanceMethod ({ cls := "DealtSecret", name := "advance", desc := "()I" } : Jvm.MethodName)) ∈ AL := al_t2 98 rfl rfl
theorem k_302 : (Jvm.Cond.selects "DealtSecret" ({ cls := "DealtSecret", name := "advance", desc := "()I" } : Jvm.MethodName) ({ cls := "DealtSecret", name := "advance", desc := "()I" } : Jvm.MethodName)) ∈ AL := al_t2 99 rfl rfl
theorem k_303 : (Jvm.Cond.code ({ cls := "DealtSecret", name := "advance", desc := "()I" } : Jvm.MethodName) prog_1_method_5_code (1 : Nat) (Option.some Jvm.ClassFile.FieldType.int)) ∈ AL := al_t2 100 rfl rfl
theorem k_304 : (Jvm.Cond.methodLink "DealtSecret" (96 : Nat) ({ cls := "DealtSecret", name := "publishCommitments", desc := "()V" } : Jvm.MethodName)) ∈ AL := al_t2 101 rfl rfl
theorem k_305 : (Jvm.Cond.instanceMethod ({ cls := "DealtSecret", name := "publishCommitments", desc := "()V" } : Jvm.MethodName)) ∈ AL := al_t2 103 rfl rfl
theorem k_306 : (Jvm.Cond.code ({ cls := "DealtSecret", name := "publishCommitments", desc := "()V" } : Jvm.MethodName) prog_1_method_28_code (2 : Nat) (Option.none : Option Jvm.ClassFile.FieldType)) ∈ AL := al_t2 104 rfl rfl
theorem k_307 : (Jvm.Cond.methodLink "DealtSecret" (99 : Nat) ({ cls := "DealtSecret", name := "sendShares", desc := "()V" } : Jvm.MethodName)) ∈ AL := al_t2 105 rfl rfl
theorem k_308 : (Jvm.Cond.instanceMethod ({ cls := "DealtSecret", name := "sendShares", desc := "()V" } : Jvm.MethodName)) ∈ AL := al_t2 107 rfl rfl
theorem k_309 : (Jvm.Cond.code ({ cls := "DealtSecret", name := "sendShares", desc := "()V" } : Jvm.MethodName) prog_1_method_29_code (2 : Nat) (Option.none : Option Jvm.ClassFile.FieldType)) ∈ AL := al_t2 108 rfl rfl
theorem k_310 : (Jvm.Cond.methodLink "DealtSecret" (203 : Nat) ({ cls := "DealtSecret", name := "valueAt", desc := "(I[I)I" } : Jvm.MethodName)) ∈ AL := al_t2 109 rfl rfl
theorem k_311 : (Jvm.Cond.instanceMethod ({ cls := "DealtSecret", name := "valueAt", desc := "(I[I)I" } : Jvm.MethodName)) ∈ AL := al_t2 111 rfl rfl
theorem k_312 : (Jvm.Cond.code ({ cls := "DealtSecret", name := "valueAt", desc := "(I[I)I" } : Jvm.MethodName) prog_1_method_30_code (5 : Nat) (Option.some Jvm.ClassFile.FieldType.int)) ∈ AL := al_t2 112 rfl rfl
theorem k_313 : (Jvm.Cond.methodLink "DealtSecret" (175 : Nat) ({ cls := "DealtSecret$Group", name := "times", desc := "(II)I" } : Jvm.MethodName)) ∈ AL := al_t2 113 rfl rfl
theorem k_314 : (Jvm.Cond.instanceMethod ({ cls := "DealtSecret$Group", name := "times", desc := "(II)I" } : Jvm.MethodName)) ∈ AL := al_t2 114 rfl rfl
theorem k_315 : (Jvm.Cond.selects "DealtSecret$Group" ({ cls := "DealtSecret$Group", name := "times", desc := "(II)I" } : Jvm.MethodName) ({ cls := "DealtSecret$Group", name := "times", desc := "(II)I" } : Jvm.MethodName)) ∈ AL := al_t2 115 rfl rfl
theorem k_316 : (Jvm.Cond.code ({ cls := "DealtSecret$Group", name := "times", desc := "(II)I" } : Jvm.MethodName) prog_2_method_13_code (3 : Nat) (Option.some Jvm.ClassFile.FieldType.int)) ∈ AL := al_t2 116 rfl rfl
theorem k_317 : (Jvm.Cond.methodLink "DealtSecret" (178 : Nat) ({ cls := "DealtSecret$Group", name := "plus", desc := "(II)I" } : Jvm.MethodName)) ∈ AL := al_t2 117 rfl rfl
theorem k_318 : (Jvm.Cond.instanceMethod ({ cls := "DealtSecret$Group", name := "plus", desc := "(II)I" } : Jvm.MethodName)) ∈ AL := al_t2 118 rfl rfl
theorem k_319 : (Jvm.Cond.selects "DealtSecret$Group" ({ cls := "DealtSecret$Group", name := "plus", desc := "(II)I" } : Jvm.MethodName) ({ cls := "DealtSecret$Group", name := "plus", desc := "(II)I" } : Jvm.MethodName)) ∈ AL := al_t2 119 rfl rfl
theorem k_320 : (Jvm.Cond.code ({ cls := "DealtSecret$Group", name := "plus", desc := "(II)I" } : Jvm.MethodName) prog_2_method_11_code (3 : Nat) (Option.some Jvm.ClassFile.FieldType.int)) ∈ AL := al_t2 120 rfl rfl
theorem k_321 : (Jvm.Cond.methodLink "DealtSecret" (121 : Nat) ({ cls := "DealtSecret$Participant", name := "receive", desc := "(II)V" } : Jvm.MethodName)) ∈ AL := al_t2 121 rfl rfl
theorem k_322 : (Jvm.Cond.instanceMethod ({ cls := "DealtSecret$Participant", name := "receive", desc := "(II)V" } : Jvm.MethodName)) ∈ AL := al_t2 122 rfl rfl
theorem k_323 : (Jvm.Cond.selects "DealtSecret$Participant" ({ cls := "DealtSecret$Participant", name := "receive", desc := "(II)V" } : Jvm.MethodName) ({ cls := "DealtSecret$Participant", name := "receive", desc := "(II)V" } : Jvm.MethodName)) ∈ AL := al_t2 123 rfl rfl
theorem k_324 : (Jvm.Cond.code ({ cls := "DealtSecret$Participant", name := "receive", desc := "(II)V" } : Jvm.MethodName) prog_3_method_3_code (3 : Nat) (Option.none : Option Jvm.ClassFile.FieldType)) ∈ AL := al_t2 124 rfl rfl
theorem k_325 : (Jvm.Cond.methodLink "DealtSecret" (102 : Nat) ({ cls := "DealtSecret", name := "raiseComplaints", desc := "()V" } : Jvm.MethodName)) ∈ AL := al_t2 125 rfl rfl
theorem k_326 : (Jvm.Cond.instanceMethod ({ cls := "DealtSecret", name := "raiseComplaints", desc := "()V" } : Jvm.MethodName)) ∈ AL := al_t2 127 rfl rfl
theorem k_327 : (Jvm.Cond.code ({ cls := "DealtSecret", name := "raiseComplaints", desc := "()V" } : Jvm.MethodName) prog_1_method_31_code (3 : Nat) (Option.none : Option Jvm.ClassFile.FieldType)) ∈ AL := al_t2 128 rfl rfl
theorem k_328 : (Jvm.Cond.methodLink "DealtSecret" (105 : Nat) ({ cls := "DealtSecret", name := "complaints", desc := "()I" } : Jvm.MethodName)) ∈ AL := al_t2 129 rfl rfl
theorem k_329 : (Jvm.Cond.methodLink "DealtSecret" (109 : Nat) ({ cls := "DealtSecret", name := "isEveryComplaintAnswered", desc := "()Z" } : Jvm.MethodName)) ∈ AL := al_t2 130 rfl rfl
theorem k_330 : (Jvm.Cond.instanceMethod ({ cls := "DealtSecret", name := "isEveryComplaintAnswered", desc := "()Z" } : Jvm.MethodName)) ∈ AL := al_t2 132 rfl rfl
theorem k_331 : (Jvm.Cond.code ({ cls := "DealtSecret", name := "isEveryComplaintAnswered", desc := "()Z" } : Jvm.MethodName) prog_1_method_32_code (2 : Nat) (Option.some Jvm.ClassFile.FieldType.boolean)) ∈ AL := al_t2 133 rfl rfl
theorem k_332 : (Jvm.Cond.methodLink "DealtSecretLaw" (89 : Nat) ({ cls := "DealtSecretLaw", name := "tamper", desc := "(LDealtSecret;III)I" } : Jvm.MethodName)) ∈ AL := al_t2 135 rfl rfl
theorem k_333 : (Jvm.Cond.static ({ cls := "DealtSecretLaw", name := "tamper", desc := "(LDealtSecret;III)I" } : Jvm.MethodName)) ∈ AL := al_t2 136 rfl rfl
theorem k_334 : (Jvm.Cond.methodLink "DealtSecretLaw" (25 : Nat) ({ cls := "DealtSecret", name := "tamper", desc := "(III)V" } : Jvm.MethodName)) ∈ AL := al_t2 138 rfl rfl
theorem k_335 : (Jvm.Cond.instanceMethod ({ cls := "DealtSecret", name := "tamper", desc := "(III)V" } : Jvm.MethodName)) ∈ AL := al_t2 139 rfl rfl
theorem k_336 : (Jvm.Cond.selects "DealtSecret" ({ cls := "DealtSecret", name := "tamper", desc := "(III)V" } : Jvm.MethodName) ({ cls := "DealtSecret", name := "tamper", desc := "(III)V" } : Jvm.MethodName)) ∈ AL := al_t2 140 rfl rfl
theorem k_337 : (Jvm.Cond.code ({ cls := "DealtSecret", name := "tamper", desc := "(III)V" } : Jvm.MethodName) prog_1_method_6_code (4 : Nat) (Option.none : Option Jvm.ClassFile.FieldType)) ∈ AL := al_t2 141 rfl rfl
theorem k_338 : (Jvm.Cond.methodLink "DealtSecret" (118 : Nat) ({ cls := "DealtSecret", name := "demandParticipant", desc := "(I)V" } : Jvm.MethodName)) ∈ AL := al_t2 142 rfl rfl
theorem k_339 : (Jvm.Cond.instanceMethod ({ cls := "DealtSecret", name := "demandParticipant", desc := "(I)V" } : Jvm.MethodName)) ∈ AL := al_t2 144 rfl rfl
theorem k_340 : (Jvm.Cond.code ({ cls := "DealtSecret", name := "demandParticipant", desc := "(I)V" } : Jvm.MethodName) prog_1_method_22_code (2 : Nat) (Option.none : Option Jvm.ClassFile.FieldType)) ∈ AL := al_t2 145 rfl rfl
theorem k_341 : (Jvm.Cond.methodLink "DealtSecretLaw" (92 : Nat) ({ cls := "DealtSecretLaw", name := "forge", desc := "(LDealtSecret;II)I" } : Jvm.MethodName)) ∈ AL := al_t2 147 rfl rfl
theorem k_342 : (Jvm.Cond.static ({ cls := "DealtSecretLaw", name := "forge", desc := "(LDealtSecret;II)I" } : Jvm.MethodName)) ∈ AL := al_t2 148 rfl rfl
theorem k_343 : (Jvm.Cond.methodLink "DealtSecretLaw" (28 : Nat) ({ cls := "DealtSecret", name := "forge", desc := "(II)V" } : Jvm.MethodName)) ∈ AL := al_t2 150 rfl rfl
theorem k_344 : (Jvm.Cond.instanceMethod ({ cls := "DealtSecret", name := "forge", desc := "(II)V" } : Jvm.MethodName)) ∈ AL := al_t2 151 rfl rfl
theorem k_345 : (Jvm.Cond.selects "DealtSecret" ({ cls := "DealtSecret", name := "forge", desc := "(II)V" } : Jvm.MethodName) ({ cls := "DealtSecret", name := "forge", desc := "(II)V" } : Jvm.MethodName)) ∈ AL := al_t2 152 rfl rfl
theorem k_346 : (Jvm.Cond.code ({ cls := "DealtSecret", name := "forge", desc := "(II)V" } : Jvm.MethodName) prog_1_method_7_code (3 : Nat) (Option.none : Option Jvm.ClassFile.FieldType)) ∈ AL := al_t2 153 rfl rfl
theorem k_347 : (Jvm.Cond.methodLink "DealtSecretLaw" (96 : Nat) ({ cls := "DealtSecretLaw", name := "corrupt", desc := "(LDealtSecret;I[J)I" } : Jvm.MethodName)) ∈ AL := al_t2 155 rfl rfl
theorem k_348 : (Jvm.Cond.static ({ cls := "DealtSecretLaw", name := "corrupt", desc := "(LDealtSecret;I[J)I" } : Jvm.MethodName)) ∈ AL := al_t2 156 rfl rfl
theorem k_349 : (Jvm.Cond.methodLink "DealtSecretLaw" (32 : Nat) ({ cls := "DealtSecret", name := "corrupt", desc := "(I)Z" } : Jvm.MethodName)) ∈ AL := al_t2 158 rfl rfl
theorem k_350 : (Jvm.Cond.instanceMethod ({ cls := "DealtSecret", name := "corrupt", desc := "(I)Z" } : Jvm.MethodName)) ∈ AL := al_t2 159 rfl rfl
theorem k_351 : (Jvm.Cond.selects "DealtSecret" ({ cls := "DealtSecret", name := "corrupt", desc := "(I)Z" } : Jvm.MethodName) ({ cls := "DealtSecret", name := "corrupt", desc := "(I)Z" } : Jvm.MethodName)) ∈ AL := al_t2 160 rfl rfl
theorem k_352 : (Jvm.Cond.code ({ cls := "DealtSecret", name := "corrupt", desc := "(I)Z" } : Jvm.MethodName) prog_1_method_8_code (4 : Nat) (Option.some Jvm.ClassFile.FieldType.boolean)) ∈ AL := al_t2 161 rfl rfl
theorem k_353 : (Jvm.Cond.methodLink "DealtSecretLaw" (100 : Nat) ({ cls := "DealtSecretLaw", name := "accuse", desc := "(LDealtSecret;I[J)I" } : Jvm.MethodName)) ∈ AL := al_t2 162 rfl rfl
theorem k_354 : (Jvm.Cond.static ({ cls := "DealtSecretLaw", name := "accuse", desc := "(LDealtSecret;I[J)I" } : Jvm.MethodName)) ∈ AL := al_t2 163 rfl rfl
theorem k_355 : (Jvm.Cond.methodLink "DealtSecretLaw" (36 : Nat) ({ cls := "DealtSecret", name := "accuse", desc := "(I)Z" } : Jvm.MethodName)) ∈ AL := al_t2 165 rfl rfl
theorem k_356 : (Jvm.Cond.instanceMethod ({ cls := "DealtSecret", name := "accuse", desc := "(I)Z" } : Jvm.MethodName)) ∈ AL := al_t2 166 rfl rfl
theorem k_357 : (Jvm.Cond.selects "DealtSecret" ({ cls := "DealtSecret", name := "accuse", desc := "(I)Z" } : Jvm.MethodName) ({ cls := "DealtSecret", name := "accuse", desc := "(I)Z" } : Jvm.MethodName)) ∈ AL := al_t2 167 rfl rfl
theorem k_358 : (Jvm.Cond.code ({ cls := "DealtSecret", name := "accuse", desc := "(I)Z" } : Jvm.MethodName) prog_1_method_9_code (3 : Nat) (Option.some Jvm.ClassFile.FieldType.boolean)) ∈ AL := al_t2 168 rfl rfl
theorem k_359 : (Jvm.Cond.methodLink "DealtSecretLaw" (103 : Nat) ({ cls := "DealtSecretLaw", name := "answer", desc := "(LDealtSecret;III[J)I" } : Jvm.MethodName)) ∈ AL := al_t2 169 rfl rfl
theorem k_360 : (Jvm.Cond.static ({ cls := "DealtSecretLaw", name := "answer", desc := "(LDealtSecret;III[J)I" } : Jvm.MethodName)) ∈ AL := al_t2 170 rfl rfl
theorem k_361 : (Jvm.Cond.classLink "DealtSecretLaw" (43 : Nat) "java/util/NoSuchElementException") ∈ AL := al_t2 172 rfl rfl
theorem k_362 : (Jvm.Cond.methodLink "DealtSecretLaw" (39 : Nat) ({ cls := "DealtSecret", name := "answer", desc := "(III)Z" } : Jvm.MethodName)) ∈ AL := al_t2 173 rfl rfl
theorem k_363 : (Jvm.Cond.instanceMethod ({ cls := "DealtSecret", name := "answer", desc := "(III)Z" } : Jvm.MethodName)) ∈ AL := al_t2 174 rfl rfl
theorem k_364 : (Jvm.Cond.selects "DealtSecret" ({ cls := "DealtSecret", name := "answer", desc := "(III)Z" } : Jvm.MethodName) ({ cls := "DealtSecret", name := "answer", desc := "(III)Z" } : Jvm.MethodName)) ∈ AL := al_t2 175 rfl rfl
theorem k_365 : (Jvm.Cond.code ({ cls := "DealtSecret", name := "answer", desc := "(III)Z" } : Jvm.MethodName) prog_1_method_10_code (5 : Nat) (Option.some Jvm.ClassFile.FieldType.boolean)) ∈ AL := al_t2 176 rfl rfl
theorem k_366 : (Jvm.Cond.classLink "DealtSecret" (135 : Nat) "java/util/NoSuchElementException") ∈ AL := al_t2 177 rfl rfl
theorem k_367 : (Jvm.Cond.instantiable "java/util/NoSuchElementException" (6 : Nat)) ∈ AL := al_t2 178 rfl rfl
theorem k_368 : (Jvm.Cond.selects "java/util/NoSuchElementException" ({ cls := "java/lang/Throwable", name := "fillInStackTrace", desc := "(I)Ljava/lang/Throwable;" } : Jvm.MethodName) ({ cls := "java/lang/Throwable", name := "fillInStackTrace", desc := "(I)Ljava/lang/Throwable;" } : Jvm.MethodName)) ∈ AL := al_t2 180 rfl rfl
theorem k_369 : (Jvm.Cond.lays "java/util/NoSuchElementException" "java/lang/Throwable" "cause" "Ljava/lang/Throwable;") ∈ AL := al_t2 181 rfl rfl
theorem k_370 : (Jvm.Cond.lays "java/util/NoSuchElementException" "java/lang/Throwable" "stackTrace" "[Ljava/lang/StackTraceElement;") ∈ AL := al_t2 182 rfl rfl
theorem k_371 : (Jvm.Cond.lays "java/util/NoSuchElementException" "java/lang/Throwable" "suppressedExceptions" "Ljava/util/List;") ∈ AL := al_t2 183 rfl rfl
theorem k_372 : (Jvm.Cond.lays "java/util/NoSuchElementException" "java/lang/Throwable" "detailMessage" "Ljava/lang/String;") ∈ AL := al_t2 184 rfl rfl
theorem k_373 : (Jvm.Cond.lays "java/util/NoSuchElementException" "java/lang/Throwable" "backtrace" "Ljava/lang/Object;") ∈ AL := al_t2 185 rfl rfl
theorem k_374 : (Jvm.Cond.methodLink "DealtSecret" (139 : Nat) ({ cls := "java/util/NoSuchElementException", name := "<init>", desc := "(Ljava/lang/String;)V" } : Jvm.MethodName)) ∈ AL := al_t2 187 rfl rfl
theorem k_375 : (Jvm.Cond.instanceMethod ({ cls := "java/util/NoSuchElementException", name := "<init>", desc := "(Ljava/lang/String;)V" } : Jvm.MethodName)) ∈ AL := al_t2 188 rfl rfl
theorem k_376 : (Jvm.Cond.code ({ cls := "java/util/NoSuchElementException", name := "<init>", desc := "(Ljava/lang/String;)V" } : Jvm.MethodName) prog_14_method_4_code (2 : Nat) (Option.none : Option Jvm.ClassFile.FieldType)) ∈ AL := al_t2 189 rfl rfl
theorem k_377 : (Jvm.Cond.methodLink "java/util/NoSuchElementException" (13 : Nat) ({ cls := "java/lang/RuntimeException", name := "<init>", desc := "(Ljava/lang/String;)V" } : Jvm.MethodName)) ∈ AL := al_t2 190 rfl rfl
theorem k_378 : (Jvm.Cond.lays "java/util/NoSuchElementException" "java/lang/Throwable" "depth" "I") ∈ AL := al_t2 191 rfl rfl
theorem k_379 : (Jvm.Cond.methodLink "DealtSecretLaw" (107 : Nat) ({ cls := "DealtSecretLaw", name := "open", desc := "(LDealtSecret;I[J)I" } : Jvm.MethodName)) ∈ AL := al_t2 193 rfl rfl
theorem k_380 : (Jvm.Cond.static ({ cls := "DealtSecretLaw", name := "open", desc := "(LDealtSecret;I[J)I" } : Jvm.MethodName)) ∈ AL := al_t2 194 rfl rfl
theorem k_381 : (Jvm.Cond.methodLink "DealtSecretLaw" (45 : Nat) ({ cls := "DealtSecret", name := "open", desc := "(I)Z" } : Jvm.MethodName)) ∈ AL := al_t2 196 rfl rfl
theorem k_382 : (Jvm.Cond.instanceMethod ({ cls := "DealtSecret", name := "open", desc := "(I)Z" } : Jvm.MethodName)) ∈ AL := al_t2 197 rfl rfl
theorem k_383 : (Jvm.Cond.selects "DealtSecret" ({ cls := "DealtSecret", name := "open", desc := "(I)Z" } : Jvm.MethodName) ({ cls := "DealtSecret", name := "open", desc := "(I)Z" } : Jvm.MethodName)) ∈ AL := al_t2 198 rfl rfl
theorem k_384 : (Jvm.Cond.code ({ cls := "DealtSecret", name := "open", desc := "(I)Z" } : Jvm.MethodName) prog_1_method_11_code (3 : Nat) (Option.some Jvm.ClassFile.FieldType.boolean)) ∈ AL := al_t2 199 rfl rfl
theorem k_385 : (Jvm.Cond.methodLink "DealtSecret" (153 : Nat) ({ cls := "DealtSecret", name := "layOpen", desc := "(LDealtSecret$Participant;II)Z" } : Jvm.MethodName)) ∈ AL := al_t2 200 rfl rfl
theorem k_386 : (Jvm.Cond.instanceMethod ({ cls := "DealtSecret", name := "layOpen", desc := "(LDealtSecret$Participant;II)Z" } : Jvm.MethodName)) ∈ AL := al_t2 202 rfl rfl
theorem k_387 : (Jvm.Cond.code ({ cls := "DealtSecret", name := "layOpen", desc := "(LDealtSecret$Participant;II)Z" } : Jvm.MethodName) prog_1_method_36_code (4 : Nat) (Option.some Jvm.ClassFile.FieldType.boolean)) ∈ AL := al_t2 203 rfl rfl
theorem k_388 : (Jvm.Cond.methodLink "DealtSecret" (221 : Nat) ({ cls := "DealtSecret$Participant", name := "keep", desc := "(II)V" } : Jvm.MethodName)) ∈ AL := al_t2 204 rfl rfl
theorem k_389 : (Jvm.Cond.instanceMethod ({ cls := "DealtSecret$Participant", name := "keep", desc := "(II)V" } : Jvm.MethodName)) ∈ AL := al_t2 205 rfl rfl
theorem k_390 : (Jvm.Cond.selects "DealtSecret$Participant" ({ cls := "DealtSecret$Participant", name := "keep", desc := "(II)V" } : Jvm.MethodName) ({ cls := "DealtSecret$Participant", name := "keep", desc := "(II)V" } : Jvm.MethodName)) ∈ AL := al_t2 206 rfl rfl
theorem k_391 : (Jvm.Cond.code ({ cls := "DealtSecret$Participant", name := "keep", desc := "(II)V" } : Jvm.MethodName) prog_3_method_4_code (3 : Nat) (Option.none : Option Jvm.ClassFile.FieldType)) ∈ AL := al_t2 207 rfl rfl
theorem k_392 : (Jvm.Cond.methodLink "DealtSecret" (227 : Nat) ({ cls := "DealtSecret$Group", name := "minus", desc := "(II)I" } : Jvm.MethodName)) ∈ AL := al_t2 208 rfl rfl
theorem k_393 : (Jvm.Cond.instanceMethod ({ cls := "DealtSecret$Group", name := "minus", desc := "(II)I" } : Jvm.MethodName)) ∈ AL := al_t2 209 rfl rfl
theorem k_394 : (Jvm.Cond.selects "DealtSecret$Group" ({ cls := "DealtSecret$Group", name := "minus", desc := "(II)I" } : Jvm.MethodName) ({ cls := "DealtSecret$Group", name := "minus", desc := "(II)I" } : Jvm.MethodName)) ∈ AL := al_t2 210 rfl rfl
theorem k_395 : (Jvm.Cond.code ({ cls := "DealtSecret$Group", name := "minus", desc := "(II)I" } : Jvm.MethodName) prog_2_method_12_code (3 : Nat) (Option.some Jvm.ClassFile.FieldType.int)) ∈ AL := al_t2 211 rfl rfl
theorem k_396 : (Jvm.Cond.methodLink "DealtSecret$Group" (53 : Nat) ({ cls := "DealtSecret$Group", name := "number", desc := "(I)I" } : Jvm.MethodName)) ∈ AL := al_t2 212 rfl rfl
theorem k_397 : (Jvm.Cond.methodLink "DealtSecret" (230 : Nat) ({ cls := "DealtSecret$Group", name := "quotient", desc := "(II)I" } : Jvm.MethodName)) ∈ AL := al_t2 213 rfl rfl
theorem k_398 : (Jvm.Cond.instanceMethod ({ cls := "DealtSecret$Group", name := "quotient", desc := "(II)I" } : Jvm.MethodName)) ∈ AL := al_t2 214 rfl rfl
theorem k_399 : (Jvm.Cond.selects "DealtSecret$Group" ({ cls := "DealtSecret$Group", name := "quotient", desc := "(II)I" } : Jvm.MethodName) ({ cls := "DealtSecret$Group", name := "quotient", desc := "(II)I" } : Jvm.MethodName)) ∈ AL := al_t2 215 rfl rfl
theorem k_400 : (Jvm.Cond.code ({ cls := "DealtSecret$Group", name := "quotient", desc := "(II)I" } : Jvm.MethodName) prog_2_method_14_code (3 : Nat) (Option.some Jvm.ClassFile.FieldType.int)) ∈ AL := al_t2 216 rfl rfl
theorem k_401 : (Jvm.Cond.methodLink "DealtSecret$Group" (57 : Nat) ({ cls := "DealtSecret$Group", name := "times", desc := "(II)I" } : Jvm.MethodName)) ∈ AL := al_t2 217 rfl rfl
theorem k_402 : (Jvm.Cond.methodLink "DealtSecretLaw" (110 : Nat) ({ cls := "DealtSecretLaw", name := "show", desc := "(LDealtSecret;III[J)I" } : Jvm.MethodName)) ∈ AL := al_t2 218 rfl rfl
theorem k_403 : (Jvm.Cond.static ({ cls := "DealtSecretLaw", name := "show", desc := "(LDealtSecret;III[J)I" } : Jvm.MethodName)) ∈ AL := al_t2 219 rfl rfl
theorem k_404 : (Jvm.Cond.methodLink "DealtSecretLaw" (48 : Nat) ({ cls := "DealtSecret", name := "show", desc := "(III)Z" } : Jvm.MethodName)) ∈ AL := al_t2 221 rfl rfl
theorem k_405 : (Jvm.Cond.instanceMethod ({ cls := "DealtSecret", name := "show", desc := "(III)Z" } : Jvm.MethodName)) ∈ AL := al_t2 222 rfl rfl
theorem k_406 : (Jvm.Cond.selects "DealtSecret" ({ cls := "DealtSecret", name := "show", desc := "(III)Z" } : Jvm.MethodName) ({ cls := "DealtSecret", name := "show", desc := "(III)Z" } : Jvm.MethodName)) ∈ AL := al_t2 223 rfl rfl
theorem k_407 : (Jvm.Cond.code ({ cls := "DealtSecret", name := "show", desc := "(III)Z" } : Jvm.MethodName) prog_1_method_12_code (4 : Nat) (Option.some Jvm.ClassFile.FieldType.boolean)) ∈ AL := al_t2 224 rfl rfl
theorem k_408 : (Jvm.Cond.methodLink "DealtSecretLaw" (113 : Nat) ({ cls := "DealtSecretLaw", name := "secret", desc := "(LDealtSecret;[J)I" } : Jvm.MethodName)) ∈ AL := al_t2 225 rfl rfl
theorem k_409 : (Jvm.Cond.static ({ cls := "DealtSecretLaw", name := "secret", desc := "(LDealtSecret;[J)I" } : Jvm.MethodName)) ∈ AL := al_t2 226 rfl rfl
theorem k_410 : (Jvm.Cond.methodLink "DealtSecretLaw" (51 : Nat) ({ cls := "DealtSecret", name := "secret", desc := "()I" } : Jvm.MethodName)) ∈ AL := al_t2 228 rfl rfl
theorem k_411 : (Jvm.Cond.instanceMethod ({ cls := "DealtSecret", name := "secret", desc := "()I" } : Jvm.MethodName)) ∈ AL := al_t2 229 rfl rfl
theorem k_412 : (Jvm.Cond.selects "DealtSecret" ({ cls := "DealtSecret", name := "secret", desc := "()I" } : Jvm.MethodName) ({ cls := "DealtSecret", name := "secret", desc := "()I" } : Jvm.MethodName)) ∈ AL := al_t2 230 rfl rfl
theorem k_413 : (Jvm.Cond.code ({ cls := "DealtSecret", name := "secret", desc := "()I" } : Jvm.MethodName) prog_1_method_13_code (5 : Nat) (Option.some Jvm.ClassFile.FieldType.int)) ∈ AL := al_t2 231 rfl rfl
theorem k_414 : (Jvm.Cond.methodLink "DealtSecret" (157 : Nat) ({ cls := "DealtSecret", name := "opened", desc := "()I" } : Jvm.MethodName)) ∈ AL := al_t2 232 rfl rfl
theorem k_415 : (Jvm.Cond.methodLink "DealtSecret" (162 : Nat) ({ cls := "DealtSecret", name := "lastOfTheChosen", desc := "()I" } : Jvm.MethodName)) ∈ AL := al_t2 234 rfl rfl
theorem k_416 : (Jvm.Cond.instanceMethod ({ cls := "DealtSecret", name := "lastOfTheChosen", desc := "()I" } : Jvm.MethodName)) ∈ AL := al_t2 236 rfl rfl
theorem k_417 : (Jvm.Cond.code ({ cls := "DealtSecret", name := "lastOfTheChosen", desc := "()I" } : Jvm.MethodName) prog_1_method_37_code (3 : Nat) (Option.some Jvm.ClassFile.FieldType.int)) ∈ AL := al_t2 237 rfl rfl
theorem k_418 : (Jvm.Cond.methodLink "DealtSecret" (171 : Nat) ({ cls := "DealtSecret", name := "weightAtZero", desc := "(II)I" } : Jvm.MethodName)) ∈ AL := al_t2 238 rfl rfl
theorem k_419 : (Jvm.Cond.instanceMethod ({ cls := "DealtSecret", name := "weightAtZero", desc := "(II)I" } : Jvm.MethodName)) ∈ AL := al_t3 0 rfl rfl
theorem k_420 : (Jvm.Cond.code ({ cls := "DealtSecret", name := "weightAtZero", desc := "(II)I" } : Jvm.MethodName) prog_1_method_38_code (6 : Nat) (Option.some Jvm.ClassFile.FieldType.int)) ∈ AL := al_t3 1 rfl rfl
theorem k_421 : (Jvm.Cond.methodLink "DealtSecretLaw" (116 : Nat) ({ cls := "DealtSecretLaw", name := "relation", desc := "(LDealtSecret;[J)I" } : Jvm.MethodName)) ∈ AL := al_t3 2 rfl rfl
theorem k_422 : (Jvm.Cond.static ({ cls := "DealtSecretLaw", name := "relation", desc := "(LDealtSecret;[J)I" } : Jvm.MethodName)) ∈ AL := al_t3 3 rfl rfl
theorem k_423 : (Jvm.Cond.methodLink "DealtSecretLaw" (54 : Nat) ({ cls := "DealtSecret", name := "relation", desc := "()I" } : Jvm.MethodName)) ∈ AL := al_t3 5 rfl rfl
theorem k_424 : (Jvm.Cond.instanceMethod ({ cls := "DealtSecret", name := "relation", desc := "()I" } : Jvm.MethodName)) ∈ AL := al_t3 6 rfl rfl
theorem k_425 : (Jvm.Cond.selects "DealtSecret" ({ cls := "DealtSecret", name := "relation", desc := "()I" } : Jvm.MethodName) ({ cls := "DealtSecret", name := "relation", desc := "()I" } : Jvm.MethodName)) ∈ AL := al_t3 7 rfl rfl
theorem k_426 : (Jvm.Cond.code ({ cls := "DealtSecret", name := "relation", desc := "()I" } : Jvm.MethodName) prog_1_method_14_code (1 : Nat) (Option.some Jvm.ClassFile.FieldType.int)) ∈ AL := al_t3 8 rfl rfl
theorem k_427 : (Jvm.Cond.classLink "DealtSecretLaw" (66 : Nat) "DealtSecretModel") ∈ AL := al_t3 10 rfl rfl
theorem k_428 : (Jvm.Cond.instantiable "DealtSecretModel" (24 : Nat)) ∈ AL := al_t3 11 rfl rfl
theorem k_429 : (Jvm.Cond.methodLink "DealtSecretLaw" (68 : Nat) ({ cls := "DealtSecretModel", name := "<init>", desc := "(IIII)V" } : Jvm.MethodName)) ∈ AL := al_t3 12 rfl rfl
theorem k_430 : (Jvm.Cond.instanceMethod ({ cls := "DealtSecretModel", name := "<init>", desc := "(IIII)V" } : Jvm.MethodName)) ∈ AL := al_t3 13 rfl rfl
theorem k_431 : (Jvm.Cond.code ({ cls := "DealtSecretModel", name := "<init>", desc := "(IIII)V" } : Jvm.MethodName) prog_5_method_1_code (6 : Nat) (Option.none : Option Jvm.ClassFile.FieldType)) ∈ AL := al_t3 14 rfl rfl
theorem k_432 : (Jvm.Cond.methodLink "DealtSecretModel" (1 : Nat) ({ cls := "java/lang/Object", name := "<init>", desc := "()V" } : Jvm.MethodName)) ∈ AL := al_t3 15 rfl rfl
theorem k_433 : (Jvm.Cond.methodLink "DealtSecretModel" (50 : Nat) ({ cls := "DealtSecretModel", name := "prime", desc := "(I)Z" } : Jvm.MethodName)) ∈ AL := al_t3 16 rfl rfl
theorem k_434 : (Jvm.Cond.static ({ cls := "DealtSecretModel", name := "prime", desc := "(I)Z" } : Jvm.MethodName)) ∈ AL := al_t3 17 rfl rfl
theorem k_435 : (Jvm.Cond.code ({ cls := "DealtSecretModel", name := "prime", desc := "(I)Z" } : Jvm.MethodName) prog_5_method_2_code (2 : Nat) (Option.some Jvm.ClassFile.FieldType.boolean)) ∈ AL := al_t3 18 rfl rfl
theorem k_436 : (Jvm.Cond.constant "DealtSecretModel" (71 : Nat) (46340 : Int32)) ∈ AL := al_t3 19 rfl rfl
theorem k_437 : (Jvm.Cond.methodLink "DealtSecretModel" (54 : Nat) ({ cls := "DealtSecretModel", name := "power", desc := "(III)I" } : Jvm.MethodName)) ∈ AL := al_t3 20 rfl rfl
theorem k_438 : (Jvm.Cond.static ({ cls := "DealtSecretModel", name := "power", desc := "(III)I" } : Jvm.MethodName)) ∈ AL := al_t3 21 rfl rfl
theorem k_439 : (Jvm.Cond.code ({ cls := "DealtSecretModel", name := "power", desc := "(III)I" } : Jvm.MethodName) prog_5_method_4_code (6 : Nat) (Option.some Jvm.ClassFile.FieldType.int)) ∈ AL := al_t3 22 rfl rfl
theorem k_440 : (Jvm.Cond.methodLink "DealtSecretModel" (72 : Nat) ({ cls := "DealtSecretModel", name := "times", desc := "(III)I" } : Jvm.MethodName)) ∈ AL := al_t3 23 rfl rfl
theorem k_441 : (Jvm.Cond.static ({ cls := "DealtSecretModel", name := "times", desc := "(III)I" } : Jvm.MethodName)) ∈ AL := al_t3 24 rfl rfl
theorem k_442 : (Jvm.Cond.code ({ cls := "DealtSecretModel", name := "times", desc := "(III)I" } : Jvm.MethodName) prog_5_method_3_code (3 : Nat) (Option.some Jvm.ClassFile.FieldType.int)) ∈ AL := al_t3 25 rfl rfl
theorem k_443 : (Jvm.Cond.fieldLink "DealtSecretModel" (58 : Nat) "DealtSecretModel" "p" "I") ∈ AL := al_t3 26 rfl rfl
theorem k_444 : (Jvm.Cond.fieldLink "DealtSecretModel" (62 : Nat) "DealtSecretModel" "q" "I") ∈ AL := al_t3 27 rfl rfl
theorem k_445 : (Jvm.Cond.fieldLink "DealtSecretModel" (65 : Nat) "DealtSecretModel" "g" "I") ∈ AL := al_t3 28 rfl rfl
theorem k_446 : (Jvm.Cond.fieldLink "DealtSecretModel" (68 : Nat) "DealtSecretModel" "h" "I") ∈ AL := al_t3 29 rfl rfl
theorem k_447 : (Jvm.Cond.fieldLink "DealtSecretModel" (92 : Nat) "DealtSecretModel" "stage" "I") ∈ AL := al_t3 30 rfl rfl
theorem k_448 : (Jvm.Cond.fieldLink "DealtSecretModel" (85 : Nat) "DealtSecretModel" "thrown" "I") ∈ AL := al_t3 31 rfl rfl
theorem k_449 : (Jvm.Cond.fieldLink "DealtSecretModel" (82 : Nat) "DealtSecretModel" "n" "I") ∈ AL := al_t3 32 rfl rfl
theorem k_450 : (Jvm.Cond.fieldLink "DealtSecretModel" (75 : Nat) "DealtSecretModel" "t" "I") ∈ AL := al_t3 33 rfl rfl
theorem k_451 : (Jvm.Cond.fieldLink "DealtSecretModel" (88 : Nat) "DealtSecretModel" "blind" "Z") ∈ AL := al_t3 34 rfl rfl
theorem k_452 : (Jvm.Cond.fieldLink "DealtSecretModel" (7 : Nat) "DealtSecretModel" "a" "[I") ∈ AL := al_t3 35 rfl rfl
theorem k_453 : (Jvm.Cond.fieldLink "DealtSecretModel" (13 : Nat) "DealtSecretModel" "b" "[I") ∈ AL := al_t3 36 rfl rfl
theorem k_454 : (Jvm.Cond.fieldLink "DealtSecretModel" (16 : Nat) "DealtSecretModel" "c" "[I") ∈ AL := al_t3 37 rfl rfl
theorem k_455 : (Jvm.Cond.fieldLink "DealtSecretModel" (19 : Nat) "DealtSecretModel" "corrupt" "[Z") ∈ AL := al_t3 38 rfl rfl
theorem k_456 : (Jvm.Cond.fieldLink "DealtSecretModel" (23 : Nat) "DealtSecretModel" "complains" "[Z") ∈ AL := al_t3 39 rfl rfl
theorem k_457 : (Jvm.Cond.fieldLink "DealtSecretModel" (26 : Nat) "DealtSecretModel" "answered" "[Z") ∈ AL := al_t3 40 rfl rfl
theorem k_458 : (Jvm.Cond.fieldLink "DealtSecretModel" (29 : Nat) "DealtSecretModel" "first" "[I") ∈ AL := al_t3 41 rfl rfl
theorem k_459 : (Jvm.Cond.fieldLink "DealtSecretModel" (32 : Nat) "DealtSecretModel" "second" "[I") ∈ AL := al_t3 42 rfl rfl
theorem k_460 : (Jvm.Cond.fieldLink "DealtSecretModel" (35 : Nat) "DealtSecretModel" "kept" "[Z") ∈ AL := al_t3 43 rfl rfl
theorem k_461 : (Jvm.Cond.fieldLink "DealtSecretModel" (38 : Nat) "DealtSecretModel" "keptFirst" "[I") ∈ AL := al_t3 44 rfl rfl
theorem k_462 : (Jvm.Cond.fieldLink "DealtSecretModel" (41 : Nat) "DealtSecretModel" "keptSecond" "[I") ∈ AL := al_t3 45 rfl rfl
theorem k_463 : (Jvm.Cond.fieldLink "DealtSecretModel" (95 : Nat) "DealtSecretModel" "related" "Z") ∈ AL := al_t3 46 rfl rfl
theorem k_464 : (Jvm.Cond.fieldLink "DealtSecretModel" (126 : Nat) "DealtSecretModel" "relation" "I") ∈ AL := al_t3 47 rfl rfl
theorem k_465 : (Jvm.Cond.fieldLink "DealtSecretModel" (44 : Nat) "DealtSecretModel" "place" "[I") ∈ AL := al_t3 48 rfl rfl
theorem k_466 : (Jvm.Cond.fieldLink "DealtSecretModel" (47 : Nat) "DealtSecretModel" "value" "[I") ∈ AL := al_t3 49 rfl rfl
theorem k_467 : (Jvm.Cond.laysFinal "DealtSecretModel" "DealtSecretModel" "p" "I") ∈ AL := al_t3 50 rfl rfl
theorem k_468 : (Jvm.Cond.soleField "DealtSecretModel" "p") ∈ AL := al_t3 51 rfl rfl
theorem k_469 : (Jvm.Cond.laysFinal "DealtSecretModel" "DealtSecretModel" "q" "I") ∈ AL := al_t3 52 rfl rfl
theorem k_470 : (Jvm.Cond.soleField "DealtSecretModel" "q") ∈ AL := al_t3 53 rfl rfl
theorem k_471 : (Jvm.Cond.laysFinal "DealtSecretModel" "DealtSecretModel" "g" "I") ∈ AL := al_t3 54 rfl rfl
theorem k_472 : (Jvm.Cond.soleField "DealtSecretModel" "g") ∈ AL := al_t3 55 rfl rfl
theorem k_473 : (Jvm.Cond.laysFinal "DealtSecretModel" "DealtSecretModel" "h" "I") ∈ AL := al_t3 56 rfl rfl
theorem k_474 : (Jvm.Cond.soleField "DealtSecretModel" "h") ∈ AL := al_t3 57 rfl rfl
theorem k_475 : (Jvm.Cond.lays "DealtSecretModel" "DealtSecretModel" "stage" "I") ∈ AL := al_t3 58 rfl rfl
theorem k_476 : (Jvm.Cond.soleField "DealtSecretModel" "stage") ∈ AL := al_t3 59 rfl rfl
theorem k_477 : (Jvm.Cond.lays "DealtSecretModel" "DealtSecretModel" "thrown" "I") ∈ AL := al_t3 60 rfl rfl
theorem k_478 : (Jvm.Cond.soleField "DealtSecretModel" "thrown") ∈ AL := al_t3 61 rfl rfl
theorem k_479 : (Jvm.Cond.lays "DealtSecretModel" "DealtSecretModel" "n" "I") ∈ AL := al_t3 62 rfl rfl
theorem k_480 : (Jvm.Cond.soleField "DealtSecretModel" "n") ∈ AL := al_t3 63 rfl rfl
theorem k_481 : (Jvm.Cond.lays "DealtSecretModel" "DealtSecretModel" "t" "I") ∈ AL := al_t3 64 rfl rfl
theorem k_482 : (Jvm.Cond.soleField "DealtSecretModel" "t") ∈ AL := al_t3 65 rfl rfl
theorem k_483 : (Jvm.Cond.lays "DealtSecretModel" "DealtSecretModel" "blind" "Z") ∈ AL := al_t3 66 rfl rfl
theorem k_484 : (Jvm.Cond.soleField "DealtSecretModel" "blind") ∈ AL := al_t3 67 rfl rfl
theorem k_485 : (Jvm.Cond.laysFinal "DealtSecretModel" "DealtSecretModel" "a" "[I") ∈ AL := al_t3 68 rfl rfl
theorem k_486 : (Jvm.Cond.soleField "DealtSecretModel" "a") ∈ AL := al_t3 69 rfl rfl
theorem k_487 : (Jvm.Cond.laysFinal "DealtSecretModel" "DealtSecretModel" "b" "[I") ∈ AL := al_t3 70 rfl rfl
theorem k_488 : (Jvm.Cond.soleField "DealtSecretModel" "b") ∈ AL := al_t3 71 rfl rfl
theorem k_489 : (Jvm.Cond.laysFinal "DealtSecretModel" "DealtSecretModel" "c" "[I") ∈ AL := al_t3 72 rfl rfl
theorem k_490 : (Jvm.Cond.soleField "DealtSecretModel" "c") ∈ AL := al_t3 73 rfl rfl
theorem k_491 : (Jvm.Cond.laysFinal "DealtSecretModel" "DealtSecretModel" "corrupt" "[Z") ∈ AL := al_t3 74 rfl rfl
theorem k_492 : (Jvm.Cond.soleField "DealtSecretModel" "corrupt") ∈ AL := al_t3 75 rfl rfl
theorem k_493 : (Jvm.Cond.laysFinal "DealtSecretModel" "DealtSecretModel" "complains" "[Z") ∈ AL := al_t3 76 rfl rfl
theorem k_494 : (Jvm.Cond.soleField "DealtSecretModel" "complains") ∈ AL := al_t3 77 rfl rfl
theorem k_495 : (Jvm.Cond.laysFinal "DealtSecretModel" "DealtSecretModel" "answered" "[Z") ∈ AL := al_t3 78 rfl rfl
theorem k_496 : (Jvm.Cond.soleField "DealtSecretModel" "answered") ∈ AL := al_t3 79 rfl rfl
theorem k_497 : (Jvm.Cond.laysFinal "DealtSecretModel" "DealtSecretModel" "first" "[I") ∈ AL := al_t3 80 rfl rfl
theorem k_498 : (Jvm.Cond.soleField "DealtSecretModel" "first") ∈ AL := al_t3 81 rfl rfl
theorem k_499 : (Jvm.Cond.laysFinal "DealtSecretModel" "DealtSecretModel" "second" "[I") ∈ AL := al_t3 82 rfl rfl
theorem k_500 : (Jvm.Cond.soleField "DealtSecretModel" "second") ∈ AL := al_t3 83 rfl rfl
theorem k_501 : (Jvm.Cond.laysFinal "DealtSecretModel" "DealtSecretModel" "kept" "[Z") ∈ AL := al_t3 84 rfl rfl
theorem k_502 : (Jvm.Cond.soleField "DealtSecretModel" "kept") ∈ AL := al_t3 85 rfl rfl
theorem k_503 : (Jvm.Cond.laysFinal "DealtSecretModel" "DealtSecretModel" "keptFirst" "[I") ∈ AL := al_t3 86 rfl rfl
theorem k_504 : (Jvm.Cond.soleField "DealtSecretModel" "keptFirst") ∈ AL := al_t3 87 rfl rfl
theorem k_505 : (Jvm.Cond.laysFinal "DealtSecretModel" "DealtSecretModel" "keptSecond" "[I") ∈ AL := al_t3 88 rfl rfl
theorem k_506 : (Jvm.Cond.soleField "DealtSecretModel" "keptSecond") ∈ AL := al_t3 89 rfl rfl
theorem k_507 : (Jvm.Cond.lays "DealtSecretModel" "DealtSecretModel" "related" "Z") ∈ AL := al_t3 90 rfl rfl
theorem k_508 : (Jvm.Cond.soleField "DealtSecretModel" "related") ∈ AL := al_t3 91 rfl rfl
theorem k_509 : (Jvm.Cond.lays "DealtSecretModel" "DealtSecretModel" "relation" "I") ∈ AL := al_t3 92 rfl rfl
theorem k_510 : (Jvm.Cond.soleField "DealtSecretModel" "relation") ∈ AL := al_t3 93 rfl rfl
theorem k_511 : (Jvm.Cond.laysFinal "DealtSecretModel" "DealtSecretModel" "place" "[I") ∈ AL := al_t3 94 rfl rfl
theorem k_512 : (Jvm.Cond.soleField "DealtSecretModel" "place") ∈ AL := al_t3 95 rfl rfl
theorem k_513 : (Jvm.Cond.laysFinal "DealtSecretModel" "DealtSecretModel" "value" "[I") ∈ AL := al_t3 96 rfl rfl
theorem k_514 : (Jvm.Cond.soleField "DealtSecretModel" "value") ∈ AL := al_t3 97 rfl rfl
theorem k_515 : (Jvm.Cond.arrayClass Jvm.ClassFile.FieldType.boolean) ∈ AL := al_t3 99 rfl rfl
theorem k_516 : (Jvm.Cond.methodLink "DealtSecretLaw" (78 : Nat) ({ cls := "DealtSecretModel", name := "thrown", desc := "()I" } : Jvm.MethodName)) ∈ AL := al_t3 100 rfl rfl
theorem k_517 : (Jvm.Cond.instanceMethod ({ cls := "DealtSecretModel", name := "thrown", desc := "()I" } : Jvm.MethodName)) ∈ AL := al_t3 101 rfl rfl
theorem k_518 : (Jvm.Cond.selects "DealtSecretModel" ({ cls := "DealtSecretModel", name := "thrown", desc := "()I" } : Jvm.MethodName) ({ cls := "DealtSecretModel", name := "thrown", desc := "()I" } : Jvm.MethodName)) ∈ AL := al_t3 102 rfl rfl
theorem k_519 : (Jvm.Cond.code ({ cls := "DealtSecretModel", name := "thrown", desc := "()I" } : Jvm.MethodName) prog_5_method_13_code (1 : Nat) (Option.some Jvm.ClassFile.FieldType.int)) ∈ AL := al_t3 103 rfl rfl
theorem k_520 : (Jvm.Cond.methodLink "DealtSecretLaw" (73 : Nat) ({ cls := "DealtSecretModel", name := "group", desc := "(I)I" } : Jvm.MethodName)) ∈ AL := al_t3 104 rfl rfl
theorem k_521 : (Jvm.Cond.instanceMethod ({ cls := "DealtSecretModel", name := "group", desc := "(I)I" } : Jvm.MethodName)) ∈ AL := al_t3 105 rfl rfl
theorem k_522 : (Jvm.Cond.selects "DealtSecretModel" ({ cls := "DealtSecretModel", name := "group", desc := "(I)I" } : Jvm.MethodName) ({ cls := "DealtSecretModel", name := "group", desc := "(I)I" } : Jvm.MethodName)) ∈ AL := al_t3 106 rfl rfl
theorem k_523 : (Jvm.Cond.code ({ cls := "DealtSecretModel", name := "group", desc := "(I)I" } : Jvm.MethodName) prog_5_method_14_code (2 : Nat) (Option.some Jvm.ClassFile.FieldType.int)) ∈ AL := al_t3 107 rfl rfl
theorem k_524 : (Jvm.Cond.methodLink "DealtSecretLaw" (77 : Nat) ({ cls := "DealtSecretModel", name := "begin", desc := "(IIZ)V" } : Jvm.MethodName)) ∈ AL := al_t3 108 rfl rfl
theorem k_525 : (Jvm.Cond.instanceMethod ({ cls := "DealtSecretModel", name := "begin", desc := "(IIZ)V" } : Jvm.MethodName)) ∈ AL := al_t3 109 rfl rfl
theorem k_526 : (Jvm.Cond.selects "DealtSecretModel" ({ cls := "DealtSecretModel", name := "begin", desc := "(IIZ)V" } : Jvm.MethodName) ({ cls := "DealtSecretModel", name := "begin", desc := "(IIZ)V" } : Jvm.MethodName)) ∈ AL := al_t3 110 rfl rfl
theorem k_527 : (Jvm.Cond.code ({ cls := "DealtSecretModel", name := "begin", desc := "(IIZ)V" } : Jvm.MethodName) prog_5_method_15_code (6 : Nat) (Option.none : Option Jvm.ClassFile.FieldType)) ∈ AL := al_t3 111 rfl rfl
theorem k_528 : (Jvm.Cond.methodLink "DealtSecretLaw" (84 : Nat) ({ cls := "DealtSecretModel", name := "coefficient", desc := "(III)V" } : Jvm.MethodName)) ∈ AL := al_t3 112 rfl rfl
theorem k_529 : (Jvm.Cond.instanceMethod ({ cls := "DealtSecretModel", name := "coefficient", desc := "(III)V" } : Jvm.MethodName)) ∈ AL := al_t3 113 rfl rfl
theorem k_530 : (Jvm.Cond.selects "DealtSecretModel" ({ cls := "DealtSecretModel", name := "coefficient", desc := "(III)V" } : Jvm.MethodName) ({ cls := "DealtSecretModel", name := "coefficient", desc := "(III)V" } : Jvm.MethodName)) ∈ AL := al_t3 114 rfl rfl
theorem k_531 : (Jvm.Cond.code ({ cls := "DealtSecretModel", name := "coefficient", desc := "(III)V" } : Jvm.MethodName) prog_5_method_16_code (4 : Nat) (Option.none : Option Jvm.ClassFile.FieldType)) ∈ AL := al_t3 115 rfl rfl
theorem k_532 : (Jvm.Cond.methodLink "DealtSecretModel" (98 : Nat) ({ cls := "DealtSecretModel", name := "refuses", desc := "(ZZ)Z" } : Jvm.MethodName)) ∈ AL := al_t3 116 rfl rfl
theorem k_533 : (Jvm.Cond.instanceMethod ({ cls := "DealtSecretModel", name := "refuses", desc := "(ZZ)Z" } : Jvm.MethodName)) ∈ AL := al_t3 118 rfl rfl
theorem k_534 : (Jvm.Cond.code ({ cls := "DealtSecretModel", name := "refuses", desc := "(ZZ)Z" } : Jvm.MethodName) prog_5_method_12_code (3 : Nat) (Option.some Jvm.ClassFile.FieldType.boolean)) ∈ AL := al_t3 119 rfl rfl
theorem k_535 : (Jvm.Cond.methodLink "DealtSecretModel" (102 : Nat) ({ cls := "DealtSecretModel", name := "reduced", desc := "(I)I" } : Jvm.MethodName)) ∈ AL := al_t3 120 rfl rfl
theorem k_536 : (Jvm.Cond.instanceMethod ({ cls := "DealtSecretModel", name := "reduced", desc := "(I)I" } : Jvm.MethodName)) ∈ AL := al_t3 122 rfl rfl
theorem k_537 : (Jvm.Cond.code ({ cls := "DealtSecretModel", name := "reduced", desc := "(I)I" } : Jvm.MethodName) prog_5_method_5_code (3 : Nat) (Option.some Jvm.ClassFile.FieldType.int)) ∈ AL := al_t3 123 rfl rfl
theorem k_538 : (Jvm.Cond.methodLink "DealtSecretLaw" (88 : Nat) ({ cls := "DealtSecretModel", name := "advance", desc := "()I" } : Jvm.MethodName)) ∈ AL := al_t3 124 rfl rfl
theorem k_539 : (Jvm.Cond.instanceMethod ({ cls := "DealtSecretModel", name := "advance", desc := "()I" } : Jvm.MethodName)) ∈ AL := al_t3 125 rfl rfl
theorem k_540 : (Jvm.Cond.selects "DealtSecretModel" ({ cls := "DealtSecretModel", name := "advance", desc := "()I" } : Jvm.MethodName) ({ cls := "DealtSecretModel", name := "advance", desc := "()I" } : Jvm.MethodName)) ∈ AL := al_t3 126 rfl rfl
theorem k_541 : (Jvm.Cond.code ({ cls := "DealtSecretModel", name := "advance", desc := "()I" } : Jvm.MethodName) prog_5_method_18_code (4 : Nat) (Option.some Jvm.ClassFile.FieldType.int)) ∈ AL := al_t3 127 rfl rfl
theorem k_542 : (Jvm.Cond.methodLink "DealtSecretModel" (110 : Nat) ({ cls := "DealtSecretModel", name := "fit", desc := "(III)Z" } : Jvm.MethodName)) ∈ AL := al_t3 128 rfl rfl
theorem k_543 : (Jvm.Cond.instanceMethod ({ cls := "DealtSecretModel", name := "fit", desc := "(III)Z" } : Jvm.MethodName)) ∈ AL := al_t3 130 rfl rfl
theorem k_544 : (Jvm.Cond.code ({ cls := "DealtSecretModel", name := "fit", desc := "(III)Z" } : Jvm.MethodName) prog_5_method_10_code (7 : Nat) (Option.some Jvm.ClassFile.FieldType.boolean)) ∈ AL := al_t3 131 rfl rfl
theorem k_545 : (Jvm.Cond.methodLink "DealtSecretModel" (78 : Nat) ({ cls := "DealtSecretModel", name := "paired", desc := "(II)I" } : Jvm.MethodName)) ∈ AL := al_t3 132 rfl rfl
theorem k_546 : (Jvm.Cond.instanceMethod ({ cls := "DealtSecretModel", name := "paired", desc := "(II)I" } : Jvm.MethodName)) ∈ AL := al_t3 134 rfl rfl
theorem k_547 : (Jvm.Cond.code ({ cls := "DealtSecretModel", name := "paired", desc := "(II)I" } : Jvm.MethodName) prog_5_method_9_code (3 : Nat) (Option.some Jvm.ClassFile.FieldType.int)) ∈ AL := al_t3 135 rfl rfl
theorem k_548 : (Jvm.Cond.methodLink "DealtSecretModel" (114 : Nat) ({ cls := "DealtSecretModel", name := "deal", desc := "()V" } : Jvm.MethodName)) ∈ AL := al_t3 136 rfl rfl
theorem k_549 : (Jvm.Cond.instanceMethod ({ cls := "DealtSecretModel", name := "deal", desc := "()V" } : Jvm.MethodName)) ∈ AL := al_t3 138 rfl rfl
theorem k_550 : (Jvm.Cond.code ({ cls := "DealtSecretModel", name := "deal", desc := "()V" } : Jvm.MethodName) prog_5_method_17_code (2 : Nat) (Option.none : Option Jvm.ClassFile.FieldType)) ∈ AL := al_t3 139 rfl rfl
theorem k_551 : (Jvm.Cond.methodLink "DealtSecretModel" (106 : Nat) ({ cls := "DealtSecretModel", name := "at", desc := "([II)I" } : Jvm.MethodName)) ∈ AL := al_t3 140 rfl rfl
theorem k_552 : (Jvm.Cond.instanceMethod ({ cls := "DealtSecretModel", name := "at", desc := "([II)I" } : Jvm.MethodName)) ∈ AL := al_t3 142 rfl rfl
theorem k_553 : (Jvm.Cond.code ({ cls := "DealtSecretModel", name := "at", desc := "([II)I" } : Jvm.MethodName) prog_5_method_8_code (7 : Nat) (Option.some Jvm.ClassFile.FieldType.int)) ∈ AL := al_t3 143 rfl rfl
theorem k_554 : (Jvm.Cond.methodLink "DealtSecretLaw" (91 : Nat) ({ cls := "DealtSecretModel", name := "tamper", desc := "(III)V" } : Jvm.MethodName)) ∈ AL := al_t3 144 rfl rfl
theorem k_555 : (Jvm.Cond.instanceMethod ({ cls := "DealtSecretModel", name := "tamper", desc := "(III)V" } : Jvm.MethodName)) ∈ AL := al_t3 145 rfl rfl
theorem k_556 : (Jvm.Cond.selects "DealtSecretModel" ({ cls := "DealtSecretModel", name := "tamper", desc := "(III)V" } : Jvm.MethodName) ({ cls := "DealtSecretModel", name := "tamper", desc := "(III)V" } : Jvm.MethodName)) ∈ AL := al_t3 146 rfl rfl
theorem k_557 : (Jvm.Cond.code ({ cls := "DealtSecretModel", name := "tamper", desc := "(III)V" } : Jvm.MethodName) prog_5_method_19_code (4 : Nat) (Option.none : Option Jvm.ClassFile.FieldType)) ∈ AL := al_t3 147 rfl rfl
theorem k_558 : (Jvm.Cond.methodLink "DealtSecretModel" (117 : Nat) ({ cls := "DealtSecretModel", name := "isOne", desc := "(I)Z" } : Jvm.MethodName)) ∈ AL := al_t3 148 rfl rfl
theorem k_559 : (Jvm.Cond.instanceMethod ({ cls := "DealtSecretModel", name := "isOne", desc := "(I)Z" } : Jvm.MethodName)) ∈ AL := al_t3 150 rfl rfl
theorem k_560 : (Jvm.Cond.code ({ cls := "DealtSecretModel", name := "isOne", desc := "(I)Z" } : Jvm.MethodName) prog_5_method_11_code (2 : Nat) (Option.some Jvm.ClassFile.FieldType.boolean)) ∈ AL := al_t3 151 rfl rfl
theorem k_561 : (Jvm.Cond.methodLink "DealtSecretLaw" (95 : Nat) ({ cls := "DealtSecretModel", name := "forge", desc := "(II)V" } : Jvm.MethodName)) ∈ AL := al_t3 152 rfl rfl
theorem k_562 : (Jvm.Cond.instanceMethod ({ cls := "DealtSecretModel", name := "forge", desc := "(II)V" } : Jvm.MethodName)) ∈ AL := al_t3 153 rfl rfl
theorem k_563 : (Jvm.Cond.selects "DealtSecretModel" ({ cls := "DealtSecretModel", name := "forge", desc := "(II)V" } : Jvm.MethodName) ({ cls := "DealtSecretModel", name := "forge", desc := "(II)V" } : Jvm.MethodName)) ∈ AL := al_t3 154 rfl rfl
theorem k_564 : (Jvm.Cond.code ({ cls := "DealtSecretModel", name := "forge", desc := "(II)V" } : Jvm.MethodName) prog_5_method_20_code (3 : Nat) (Option.none : Option Jvm.ClassFile.FieldType)) ∈ AL := al_t3 155 rfl rfl
theorem k_565 : (Jvm.Cond.methodLink "DealtSecretLaw" (99 : Nat) ({ cls := "DealtSecretModel", name := "corrupt", desc := "(I)Z" } : Jvm.MethodName)) ∈ AL := al_t3 156 rfl rfl
theorem k_566 : (Jvm.Cond.instanceMethod ({ cls := "DealtSecretModel", name := "corrupt", desc := "(I)Z" } : Jvm.MethodName)) ∈ AL := al_t3 157 rfl rfl
theorem k_567 : (Jvm.Cond.selects "DealtSecretModel" ({ cls := "DealtSecretModel", name := "corrupt", desc := "(I)Z" } : Jvm.MethodName) ({ cls := "DealtSecretModel", name := "corrupt", desc := "(I)Z" } : Jvm.MethodName)) ∈ AL := al_t3 158 rfl rfl
theorem k_568 : (Jvm.Cond.code ({ cls := "DealtSecretModel", name := "corrupt", desc := "(I)Z" } : Jvm.MethodName) prog_5_method_21_code (2 : Nat) (Option.some Jvm.ClassFile.FieldType.boolean)) ∈ AL := al_t3 159 rfl rfl
theorem k_569 : (Jvm.Cond.methodLink "DealtSecretLaw" (102 : Nat) ({ cls := "DealtSecretModel", name := "accuse", desc := "(I)Z" } : Jvm.MethodName)) ∈ AL := al_t3 160 rfl rfl
theorem k_570 : (Jvm.Cond.instanceMethod ({ cls := "DealtSecretModel", name := "accuse", desc := "(I)Z" } : Jvm.MethodName)) ∈ AL := al_t3 161 rfl rfl
theorem k_571 : (Jvm.Cond.selects "DealtSecretModel" ({ cls := "DealtSecretModel", name := "accuse", desc := "(I)Z" } : Jvm.MethodName) ({ cls := "DealtSecretModel", name := "accuse", desc := "(I)Z" } : Jvm.MethodName)) ∈ AL := al_t3 162 rfl rfl
theorem k_572 : (Jvm.Cond.code ({ cls := "DealtSecretModel", name := "accuse", desc := "(I)Z" } : Jvm.MethodName) prog_5_method_22_code (2 : Nat) (Option.some Jvm.ClassFile.FieldType.boolean)) ∈ AL := al_t3 163 rfl rfl
theorem k_573 : (Jvm.Cond.methodLink "DealtSecretLaw" (106 : Nat) ({ cls := "DealtSecretModel", name := "answer", desc := "(III)Z" } : Jvm.MethodName)) ∈ AL := al_t3 164 rfl rfl
theorem k_574 : (Jvm.Cond.instanceMethod ({ cls := "DealtSecretModel", name := "answer", desc := "(III)Z" } : Jvm.MethodName)) ∈ AL := al_t3 165 rfl rfl
theorem k_575 : (Jvm.Cond.selects "DealtSecretModel" ({ cls := "DealtSecretModel", name := "answer", desc := "(III)Z" } : Jvm.MethodName) ({ cls := "DealtSecretModel", name := "answer", desc := "(III)Z" } : Jvm.MethodName)) ∈ AL := al_t3 166 rfl rfl
theorem k_576 : (Jvm.Cond.code ({ cls := "DealtSecretModel", name := "answer", desc := "(III)Z" } : Jvm.MethodName) prog_5_method_23_code (4 : Nat) (Option.some Jvm.ClassFile.FieldType.boolean)) ∈ AL := al_t3 167 rfl rfl
theorem k_577 : (Jvm.Cond.methodLink "DealtSecretLaw" (109 : Nat) ({ cls := "DealtSecretModel", name := "open", desc := "(I)Z" } : Jvm.MethodName)) ∈ AL := al_t3 168 rfl rfl
theorem k_578 : (Jvm.Cond.instanceMethod ({ cls := "DealtSecretModel", name := "open", desc := "(I)Z" } : Jvm.MethodName)) ∈ AL := al_t3 169 rfl rfl
theorem k_579 : (Jvm.Cond.selects "DealtSecretModel" ({ cls := "DealtSecretModel", name := "open", desc := "(I)Z" } : Jvm.MethodName) ({ cls := "DealtSecretModel", name := "open", desc := "(I)Z" } : Jvm.MethodName)) ∈ AL := al_t3 170 rfl rfl
theorem k_580 : (Jvm.Cond.code ({ cls := "DealtSecretModel", name := "open", desc := "(I)Z" } : Jvm.MethodName) prog_5_method_25_code (2 : Nat) (Option.some Jvm.ClassFile.FieldType.boolean)) ∈ AL := al_t3 171 rfl rfl
theorem k_581 : (Jvm.Cond.methodLink "DealtSecretModel" (129 : Nat) ({ cls := "DealtSecretModel", name := "lay", desc := "(III)Z" } : Jvm.MethodName)) ∈ AL := al_t3 172 rfl rfl
theorem k_582 : (Jvm.Cond.instanceMethod ({ cls := "DealtSecretModel", name := "lay", desc := "(III)Z" } : Jvm.MethodName)) ∈ AL := al_t3 174 rfl rfl
theorem k_583 : (Jvm.Cond.code ({ cls := "DealtSecretModel", name := "lay", desc := "(III)Z" } : Jvm.MethodName) prog_5_method_24_code (4 : Nat) (Option.some Jvm.ClassFile.FieldType.boolean)) ∈ AL := al_t3 175 rfl rfl
theorem k_584 : (Jvm.Cond.methodLink "DealtSecretModel" (120 : Nat) ({ cls := "DealtSecretModel", name := "minus", desc := "(II)I" } : Jvm.MethodName)) ∈ AL := al_t3 176 rfl rfl
theorem k_585 : (Jvm.Cond.instanceMethod ({ cls := "DealtSecretModel", name := "minus", desc := "(II)I" } : Jvm.MethodName)) ∈ AL := al_t3 178 rfl rfl
theorem k_586 : (Jvm.Cond.code ({ cls := "DealtSecretModel", name := "minus", desc := "(II)I" } : Jvm.MethodName) prog_5_method_6_code (3 : Nat) (Option.some Jvm.ClassFile.FieldType.int)) ∈ AL := al_t3 179 rfl rfl
theorem k_587 : (Jvm.Cond.methodLink "DealtSecretModel" (123 : Nat) ({ cls := "DealtSecretModel", name := "over", desc := "(II)I" } : Jvm.MethodName)) ∈ AL := al_t3 180 rfl rfl
theorem k_588 : (Jvm.Cond.instanceMethod ({ cls := "DealtSecretModel", name := "over", desc := "(II)I" } : Jvm.MethodName)) ∈ AL := al_t3 182 rfl rfl
theorem k_589 : (Jvm.Cond.code ({ cls := "DealtSecretModel", name := "over", desc := "(II)I" } : Jvm.MethodName) prog_5_method_7_code (3 : Nat) (Option.some Jvm.ClassFile.FieldType.int)) ∈ AL := al_t3 183 rfl rfl
theorem k_590 : (Jvm.Cond.methodLink "DealtSecretLaw" (112 : Nat) ({ cls := "DealtSecretModel", name := "show", desc := "(III)Z" } : Jvm.MethodName)) ∈ AL := al_t3 184 rfl rfl
theorem k_591 : (Jvm.Cond.instanceMethod ({ cls := "DealtSecretModel", name := "show", desc := "(III)Z" } : Jvm.MethodName)) ∈ AL := al_t3 185 rfl rfl
theorem k_592 : (Jvm.Cond.selects "DealtSecretModel" ({ cls := "DealtSecretModel", name := "show", desc := "(III)Z" } : Jvm.MethodName) ({ cls := "DealtSecretModel", name := "show", desc := "(III)Z" } : Jvm.MethodName)) ∈ AL := al_t3 186 rfl rfl
theorem k_593 : (Jvm.Cond.code ({ cls := "DealtSecretModel", name := "show", desc := "(III)Z" } : Jvm.MethodName) prog_5_method_26_code (4 : Nat) (Option.some Jvm.ClassFile.FieldType.boolean)) ∈ AL := al_t3 187 rfl rfl
theorem k_594 : (Jvm.Cond.methodLink "DealtSecretLaw" (115 : Nat) ({ cls := "DealtSecretModel", name := "secret", desc := "()I" } : Jvm.MethodName)) ∈ AL := al_t3 188 rfl rfl
theorem k_595 : (Jvm.Cond.instanceMethod ({ cls := "DealtSecretModel", name := "secret", desc := "()I" } : Jvm.MethodName)) ∈ AL := al_t3 189 rfl rfl
theorem k_596 : (Jvm.Cond.selects "DealtSecretModel" ({ cls := "DealtSecretModel", name := "secret", desc := "()I" } : Jvm.MethodName) ({ cls := "DealtSecretModel", name := "secret", desc := "()I" } : Jvm.MethodName)) ∈ AL := al_t3 190 rfl rfl
theorem k_597 : (Jvm.Cond.code ({ cls := "DealtSecretModel", name := "secret", desc := "()I" } : Jvm.MethodName) prog_5_method_27_code (3 : Nat) (Option.some Jvm.ClassFile.FieldType.int)) ∈ AL := al_t3 191 rfl rfl
theorem k_598 : (Jvm.Cond.methodLink "DealtSecretModel" (132 : Nat) ({ cls := "DealtSecretModel", name := "atZero", desc := "()I" } : Jvm.MethodName)) ∈ AL := al_t3 192 rfl rfl
theorem k_599 : (Jvm.Cond.instanceMethod ({ cls := "DealtSecretModel", name := "atZero", desc := "()I" } : Jvm.MethodName)) ∈ AL := al_t3 194 rfl rfl
theorem k_600 : (Jvm.Cond.code ({ cls := "DealtSecretModel", name := "atZero", desc := "()I" } : Jvm.MethodName) prog_5_method_28_code (4 : Nat) (Option.some Jvm.ClassFile.FieldType.int)) ∈ AL := al_t3 195 rfl rfl
theorem k_601 : (Jvm.Cond.methodLink "DealtSecretLaw" (118 : Nat) ({ cls := "DealtSecretModel", name := "relation", desc := "()I" } : Jvm.MethodName)) ∈ AL := al_t3 196 rfl rfl
theorem k_602 : (Jvm.Cond.instanceMethod ({ cls := "DealtSecretModel", name := "relation", desc := "()I" } : Jvm.MethodName)) ∈ AL := al_t3 197 rfl rfl
theorem k_603 : (Jvm.Cond.selects "DealtSecretModel" ({ cls := "DealtSecretModel", name := "relation", desc := "()I" } : Jvm.MethodName) ({ cls := "DealtSecretModel", name := "relation", desc := "()I" } : Jvm.MethodName)) ∈ AL := al_t3 198 rfl rfl
theorem k_604 : (Jvm.Cond.code ({ cls := "DealtSecretModel", name := "relation", desc := "()I" } : Jvm.MethodName) prog_5_method_29_code (1 : Nat) (Option.some Jvm.ClassFile.FieldType.int)) ∈ AL := al_t3 199 rfl rfl
theorem k_605 : (Jvm.Cond.methodLink "DealtSecretLaw" (122 : Nat) ({ cls := "DealtSecretModel", name := "stage", desc := "()I" } : Jvm.MethodName)) ∈ AL := al_t3 200 rfl rfl
theorem k_606 : (Jvm.Cond.instanceMethod ({ cls := "DealtSecretModel", name := "stage", desc := "()I" } : Jvm.MethodName)) ∈ AL := al_t3 201 rfl rfl
theorem k_607 : (Jvm.Cond.selects "DealtSecretModel" ({ cls := "DealtSecretModel", name := "stage", desc := "()I" } : Jvm.MethodName) ({ cls := "DealtSecretModel", name := "stage", desc := "()I" } : Jvm.MethodName)) ∈ AL := al_t3 202 rfl rfl
theorem k_608 : (Jvm.Cond.code ({ cls := "DealtSecretModel", name := "stage", desc := "()I" } : Jvm.MethodName) prog_5_method_30_code (1 : Nat) (Option.some Jvm.ClassFile.FieldType.int)) ∈ AL := al_t3 203 rfl rfl
theorem k_609 : (Jvm.Cond.methodLink "DealtSecretLaw" (126 : Nat) ({ cls := "DealtSecretModel", name := "commitment", desc := "(I)I" } : Jvm.MethodName)) ∈ AL := al_t3 204 rfl rfl
theorem k_610 : (Jvm.Cond.instanceMethod ({ cls := "DealtSecretModel", name := "commitment", desc := "(I)I" } : Jvm.MethodName)) ∈ AL := al_t3 205 rfl rfl
theorem k_611 : (Jvm.Cond.selects "DealtSecretModel" ({ cls := "DealtSecretModel", name := "commitment", desc := "(I)I" } : Jvm.MethodName) ({ cls := "DealtSecretModel", name := "commitment", desc := "(I)I" } : Jvm.MethodName)) ∈ AL := al_t3 206 rfl rfl
theorem k_612 : (Jvm.Cond.code ({ cls := "DealtSecretModel", name := "commitment", desc := "(I)I" } : Jvm.MethodName) prog_5_method_31_code (2 : Nat) (Option.some Jvm.ClassFile.FieldType.int)) ∈ AL := al_t3 207 rfl rfl
theorem k_613 : (Jvm.Cond.methodLink "DealtSecretLaw" (131 : Nat) ({ cls := "DealtSecretModel", name := "share", desc := "(II)I" } : Jvm.MethodName)) ∈ AL := al_t3 208 rfl rfl
theorem k_614 : (Jvm.Cond.instanceMethod ({ cls := "DealtSecretModel", name := "share", desc := "(II)I" } : Jvm.MethodName)) ∈ AL := al_t3 209 rfl rfl
theorem k_615 : (Jvm.Cond.selects "DealtSecretModel" ({ cls := "DealtSecretModel", name := "share", desc := "(II)I" } : Jvm.MethodName) ({ cls := "DealtSecretModel", name := "share", desc := "(II)I" } : Jvm.MethodName)) ∈ AL := al_t3 210 rfl rfl
theorem k_616 : (Jvm.Cond.code ({ cls := "DealtSecretModel", name := "share", desc := "(II)I" } : Jvm.MethodName) prog_5_method_32_code (3 : Nat) (Option.some Jvm.ClassFile.FieldType.int)) ∈ AL := al_t3 211 rfl rfl
theorem k_617 : (Jvm.Cond.methodLink "DealtSecretLaw" (135 : Nat) ({ cls := "DealtSecretModel", name := "fits", desc := "(I)Z" } : Jvm.MethodName)) ∈ AL := al_t3 212 rfl rfl
theorem k_618 : (Jvm.Cond.instanceMethod ({ cls := "DealtSecretModel", name := "fits", desc := "(I)Z" } : Jvm.MethodName)) ∈ AL := al_t3 213 rfl rfl
theorem k_619 : (Jvm.Cond.selects "DealtSecretModel" ({ cls := "DealtSecretModel", name := "fits", desc := "(I)Z" } : Jvm.MethodName) ({ cls := "DealtSecretModel", name := "fits", desc := "(I)Z" } : Jvm.MethodName)) ∈ AL := al_t3 214 rfl rfl
theorem k_620 : (Jvm.Cond.code ({ cls := "DealtSecretModel", name := "fits", desc := "(I)Z" } : Jvm.MethodName) prog_5_method_33_code (2 : Nat) (Option.some Jvm.ClassFile.FieldType.boolean)) ∈ AL := al_t3 215 rfl rfl
theorem k_621 : (Jvm.Cond.methodLink "DealtSecretLaw" (139 : Nat) ({ cls := "DealtSecretModel", name := "complaints", desc := "()I" } : Jvm.MethodName)) ∈ AL := al_t3 216 rfl rfl
theorem k_622 : (Jvm.Cond.instanceMethod ({ cls := "DealtSecretModel", name := "complaints", desc := "()I" } : Jvm.MethodName)) ∈ AL := al_t3 217 rfl rfl
theorem k_623 : (Jvm.Cond.selects "DealtSecretModel" ({ cls := "DealtSecretModel", name := "complaints", desc := "()I" } : Jvm.MethodName) ({ cls := "DealtSecretModel", name := "complaints", desc := "()I" } : Jvm.MethodName)) ∈ AL := al_t3 218 rfl rfl
theorem k_624 : (Jvm.Cond.code ({ cls := "DealtSecretModel", name := "complaints", desc := "()I" } : Jvm.MethodName) prog_5_method_34_code (3 : Nat) (Option.some Jvm.ClassFile.FieldType.int)) ∈ AL := al_t3 219 rfl rfl
theorem k_625 : (Jvm.Cond.methodLink "DealtSecretLaw" (143 : Nat) ({ cls := "DealtSecretModel", name := "opened", desc := "()I" } : Jvm.MethodName)) ∈ AL := al_t3 220 rfl rfl
theorem k_626 : (Jvm.Cond.instanceMethod ({ cls := "DealtSecretModel", name := "opened", desc := "()I" } : Jvm.MethodName)) ∈ AL := al_t3 221 rfl rfl
theorem k_627 : (Jvm.Cond.selects "DealtSecretModel" ({ cls := "DealtSecretModel", name := "opened", desc := "()I" } : Jvm.MethodName) ({ cls := "DealtSecretModel", name := "opened", desc := "()I" } : Jvm.MethodName)) ∈ AL := al_t3 222 rfl rfl
theorem k_628 : (Jvm.Cond.code ({ cls := "DealtSecretModel", name := "opened", desc := "()I" } : Jvm.MethodName) prog_5_method_35_code (3 : Nat) (Option.some Jvm.ClassFile.FieldType.int)) ∈ AL := al_t3 223 rfl rfl
theorem k_629 : (Jvm.Cond.arrayClass Jvm.ClassFile.FieldType.long) ∈ AL := al_t3 224 rfl rfl
theorem k_630 : Cond.selects "DealtSecret" ⟨"DealtSecret", "isDealt", "()Z"⟩ ⟨"DealtSecret", "isDealt", "()Z"⟩ ∈ AL := al_ts 0 rfl
theorem k_631 : Cond.selects "DealtSecret" ⟨"DealtSecret", "isCoefficient", "(I)Z"⟩ ⟨"DealtSecret", "isCoefficient", "(I)Z"⟩ ∈ AL := al_ts 1 rfl
theorem k_632 : Cond.selects "DealtSecret" ⟨"DealtSecret", "isParticipant", "(I)Z"⟩ ⟨"DealtSecret", "isParticipant", "(I)Z"⟩ ∈ AL := al_ts 2 rfl
theorem k_633 : Cond.selects "DealtSecret" ⟨"DealtSecret", "isShareRight", "(LDealtSecret$Participant;)Z"⟩ ⟨"DealtSecret", "isShareRight", "(LDealtSecret$Participant;)Z"⟩ ∈ AL := al_ts 3 rfl
theorem k_634 : Cond.selects "DealtSecret" ⟨"DealtSecret", "isPairRight", "(LDealtSecret$Participant;II)Z"⟩ ⟨"DealtSecret", "isPairRight", "(LDealtSecret$Participant;II)Z"⟩ ∈ AL := al_ts 4 rfl
theorem k_635 : Cond.selects "DealtSecret" ⟨"DealtSecret", "publishedAt", "(I)I"⟩ ⟨"DealtSecret", "publishedAt", "(I)I"⟩ ∈ AL := al_ts 5 rfl
theorem k_636 : Cond.selects "java/lang/Throwable" ⟨"java/lang/Throwable", "fillInStackTrace", "(I)Ljava/lang/Throwable;"⟩ ⟨"java/lang/Throwable", "fillInStackTrace", "(I)Ljava/lang/Throwable;"⟩ ∈ AL := al_ts 6 rfl
theorem k_637 : Cond.selects "DealtSecret" ⟨"DealtSecret", "demandStage", "(I)V"⟩ ⟨"DealtSecret", "demandStage", "(I)V"⟩ ∈ AL := al_ts 7 rfl
theorem k_638 : Cond.selects "DealtSecret" ⟨"DealtSecret", "demandCoefficient", "(I)V"⟩ ⟨"DealtSecret", "demandCoefficient", "(I)V"⟩ ∈ AL := al_ts 8 rfl
theorem k_639 : Cond.selects "DealtSecret" ⟨"DealtSecret", "blindNumber", "(I)I"⟩ ⟨"DealtSecret", "blindNumber", "(I)I"⟩ ∈ AL := al_ts 9 rfl
theorem k_640 : Cond.selects "DealtSecret" ⟨"DealtSecret", "publishCommitments", "()V"⟩ ⟨"DealtSecret", "publishCommitments", "()V"⟩ ∈ AL := al_ts 10 rfl
theorem k_641 : Cond.selects "DealtSecret" ⟨"DealtSecret", "sendShares", "()V"⟩ ⟨"DealtSecret", "sendShares", "()V"⟩ ∈ AL := al_ts 11 rfl
theorem k_642 : Cond.selects "DealtSecret" ⟨"DealtSecret", "valueAt", "(I[I)I"⟩ ⟨"DealtSecret", "valueAt", "(I[I)I"⟩ ∈ AL := al_ts 12 rfl
theorem k_643 : Cond.selects "DealtSecret" ⟨"DealtSecret", "raiseComplaints", "()V"⟩ ⟨"DealtSecret", "raiseComplaints", "()V"⟩ ∈ AL := al_ts 13 rfl
theorem k_644 : Cond.selects "DealtSecret" ⟨"DealtSecret", "isEveryComplaintAnswered", "()Z"⟩ ⟨"DealtSecret", "isEveryComplaintAnswered", "()Z"⟩ ∈ AL := al_ts 14 rfl
theorem k_645 : Cond.selects "DealtSecret" ⟨"DealtSecret", "demandParticipant", "(I)V"⟩ ⟨"DealtSecret", "demandParticipant", "(I)V"⟩ ∈ AL := al_ts 15 rfl
theorem k_646 : Cond.selects "DealtSecret" ⟨"DealtSecret", "layOpen", "(LDealtSecret$Participant;II)Z"⟩ ⟨"DealtSecret", "layOpen", "(LDealtSecret$Participant;II)Z"⟩ ∈ AL := al_ts 16 rfl
theorem k_647 : Cond.selects "DealtSecret" ⟨"DealtSecret", "lastOfTheChosen", "()I"⟩ ⟨"DealtSecret", "lastOfTheChosen", "()I"⟩ ∈ AL := al_ts 17 rfl
theorem k_648 : Cond.selects "DealtSecret" ⟨"DealtSecret", "weightAtZero", "(II)I"⟩ ⟨"DealtSecret", "weightAtZero", "(II)I"⟩ ∈ AL := al_ts 18 rfl
theorem k_649 : Cond.selects "DealtSecretModel" ⟨"DealtSecretModel", "refuses", "(ZZ)Z"⟩ ⟨"DealtSecretModel", "refuses", "(ZZ)Z"⟩ ∈ AL := al_ts 19 rfl
theorem k_650 : Cond.selects "DealtSecretModel" ⟨"DealtSecretModel", "reduced", "(I)I"⟩ ⟨"DealtSecretModel", "reduced", "(I)I"⟩ ∈ AL := al_ts 20 rfl
theorem k_651 : Cond.selects "DealtSecretModel" ⟨"DealtSecretModel", "fit", "(III)Z"⟩ ⟨"DealtSecretModel", "fit", "(III)Z"⟩ ∈ AL := al_ts 21 rfl
theorem k_652 : Cond.selects "DealtSecretModel" ⟨"DealtSecretModel", "paired", "(II)I"⟩ ⟨"DealtSecretModel", "paired", "(II)I"⟩ ∈ AL := al_ts 22 rfl
theorem k_653 : Cond.selects "DealtSecretModel" ⟨"DealtSecretModel", "deal", "()V"⟩ ⟨"DealtSecretModel", "deal", "()V"⟩ ∈ AL := al_ts 23 rfl
theorem k_654 : Cond.selects "DealtSecretModel" ⟨"DealtSecretModel", "at", "([II)I"⟩ ⟨"DealtSecretModel", "at", "([II)I"⟩ ∈ AL := al_ts 24 rfl
theorem k_655 : Cond.selects "DealtSecretModel" ⟨"DealtSecretModel", "isOne", "(I)Z"⟩ ⟨"DealtSecretModel", "isOne", "(I)Z"⟩ ∈ AL := al_ts 25 rfl
theorem k_656 : Cond.selects "DealtSecretModel" ⟨"DealtSecretModel", "lay", "(III)Z"⟩ ⟨"DealtSecretModel", "lay", "(III)Z"⟩ ∈ AL := al_ts 26 rfl
theorem k_657 : Cond.selects "DealtSecretModel" ⟨"DealtSecretModel", "minus", "(II)I"⟩ ⟨"DealtSecretModel", "minus", "(II)I"⟩ ∈ AL := al_ts 27 rfl
theorem k_658 : Cond.selects "DealtSecretModel" ⟨"DealtSecretModel", "over", "(II)I"⟩ ⟨"DealtSecretModel", "over", "(II)I"⟩ ∈ AL := al_ts 28 rfl
theorem k_659 : Cond.selects "DealtSecretModel" ⟨"DealtSecretModel", "atZero", "()I"⟩ ⟨"DealtSecretModel", "atZero", "()I"⟩ ∈ AL := al_ts 29 rfl
