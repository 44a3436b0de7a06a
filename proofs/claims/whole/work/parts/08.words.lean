theorem in_t {w : Cond} (i : Nat) (h : tables_1[i]? = some w) (hg : xgd w = true) : w ∈ lw_ok := List.mem_filter.mpr ⟨List.mem_append_right _ (List.mem_of_getElem? h), hg⟩
theorem in_s {w : Cond} (i : Nat) (h : (k2_sels lw_privs)[i]? = some w) (hg : xgd w = true) : w ∈ lw_ok := List.mem_filter.mpr ⟨List.mem_append_left _ (List.mem_of_getElem? h), hg⟩
theorem tw_1 : (Jvm.Cond.initialized "NineDays") ∈ lw_ok := in_t 1 (by decide +kernel) rfl
theorem tw_2 : (Jvm.Cond.initialized "NineDays$Land") ∈ lw_ok := in_t 2 (by decide +kernel) rfl
theorem tw_3 : (Jvm.Cond.initialized "java/util/Arrays") ∈ lw_ok := in_t 3 (by decide +kernel) rfl
theorem tw_4 : (Jvm.Cond.initialized "NineDays$Hand") ∈ lw_ok := in_t 4 (by decide +kernel) rfl
theorem tw_5 : (Jvm.Cond.initialized "NineDays$Orders") ∈ lw_ok := in_t 5 (by decide +kernel) rfl
theorem tw_6 : (Jvm.Cond.initialized "NineDays$Rules") ∈ lw_ok := in_t 6 (by decide +kernel) rfl
theorem tw_7 : (Jvm.Cond.initialized "NineDays$Reader") ∈ lw_ok := in_t 7 (by decide +kernel) rfl
theorem tw_8 : (Jvm.Cond.initialized "NineDays$Loads") ∈ lw_ok := in_t 8 (by decide +kernel) rfl
theorem tw_9 : (Jvm.Cond.initialized "NineDays$Days") ∈ lw_ok := in_t 9 (by decide +kernel) rfl
theorem tw_11 : (Jvm.Cond.initialized "NineDays$Leaves") ∈ lw_ok := in_t 11 (by decide +kernel) rfl
theorem tw_12 : (Jvm.Cond.initialized "NineDays$Game") ∈ lw_ok := in_t 12 (by decide +kernel) rfl
theorem tw_13 : (Jvm.Cond.initialized "NineDaysModel") ∈ lw_ok := in_t 13 (by decide +kernel) rfl
theorem tw_15 : (Jvm.Cond.initialized "java/lang/String") ∈ lw_ok := in_t 15 (by decide +kernel) rfl
theorem tw_16 : (Jvm.Cond.initialized "java/lang/StringLatin1") ∈ lw_ok := in_t 16 (by decide +kernel) rfl
theorem tw_17 : (Jvm.Cond.initialized "jdk/internal/util/Preconditions") ∈ lw_ok := in_t 17 (by decide +kernel) rfl
theorem tw_19 : (Jvm.Cond.classLink "NineDaysLaw" (7 : Nat) "NineDays") ∈ lw_ok := in_t 19 (by decide +kernel) rfl
theorem tw_20 : (Jvm.Cond.instantiable "NineDays" (12 : Nat)) ∈ lw_ok := in_t 20 (by decide +kernel) rfl
theorem tw_21 : (Jvm.Cond.methodLink "NineDaysLaw" (9 : Nat) ({ cls := "NineDays", name := "<init>", desc := "()V" } : Jvm.MethodName)) ∈ lw_ok := in_t 21 (by decide +kernel) rfl
theorem tw_22 : (Jvm.Cond.instanceMethod ({ cls := "NineDays", name := "<init>", desc := "()V" } : Jvm.MethodName)) ∈ lw_ok := in_t 22 (by decide +kernel) rfl
theorem tw_24 : (Jvm.Cond.methodLink "NineDays" (3 : Nat) ({ cls := "java/lang/Object", name := "<init>", desc := "()V" } : Jvm.MethodName)) ∈ lw_ok := in_t 24 (by decide +kernel) rfl
theorem tw_27 : (Jvm.Cond.classLink "NineDays" (9 : Nat) "NineDays$Land") ∈ lw_ok := in_t 27 (by decide +kernel) rfl
theorem tw_28 : (Jvm.Cond.instantiable "NineDays$Land" (2 : Nat)) ∈ lw_ok := in_t 28 (by decide +kernel) rfl
theorem tw_29 : (Jvm.Cond.methodLink "NineDays" (11 : Nat) ({ cls := "NineDays$Land", name := "<init>", desc := "()V" } : Jvm.MethodName)) ∈ lw_ok := in_t 29 (by decide +kernel) rfl
theorem tw_30 : (Jvm.Cond.instanceMethod ({ cls := "NineDays$Land", name := "<init>", desc := "()V" } : Jvm.MethodName)) ∈ lw_ok := in_t 30 (by decide +kernel) rfl
theorem tw_32 : (Jvm.Cond.methodLink "NineDays$Land" (3 : Nat) ({ cls := "java/lang/Object", name := "<init>", desc := "()V" } : Jvm.MethodName)) ∈ lw_ok := in_t 32 (by decide +kernel) rfl
theorem tw_33 : (Jvm.Cond.methodLink "NineDays$Land" (19 : Nat) ({ cls := "java/util/Arrays", name := "fill", desc := "([II)V" } : Jvm.MethodName)) ∈ lw_ok := in_t 33 (by decide +kernel) rfl
theorem tw_34 : (Jvm.Cond.static ({ cls := "java/util/Arrays", name := "fill", desc := "([II)V" } : Jvm.MethodName)) ∈ lw_ok := in_t 34 (by decide +kernel) rfl
theorem tw_36 : (Jvm.Cond.fieldLink "NineDays$Land" (9 : Nat) "NineDays$Land" "ways" "[I") ∈ lw_ok := in_t 36 (by decide +kernel) rfl
theorem tw_37 : (Jvm.Cond.fieldLink "NineDays$Land" (15 : Nat) "NineDays$Land" "roads" "I") ∈ lw_ok := in_t 37 (by decide +kernel) rfl
theorem tw_38 : (Jvm.Cond.fieldLink "NineDays" (95 : Nat) "NineDays$Land" "roads" "I") ∈ lw_ok := in_t 38 (by decide +kernel) rfl
theorem tw_45 : (Jvm.Cond.classLink "NineDays" (16 : Nat) "NineDays$Hand") ∈ lw_ok := in_t 45 (by decide +kernel) rfl
theorem tw_46 : (Jvm.Cond.instantiable "NineDays$Hand" (5 : Nat)) ∈ lw_ok := in_t 46 (by decide +kernel) rfl
theorem tw_47 : (Jvm.Cond.methodLink "NineDays" (18 : Nat) ({ cls := "NineDays$Hand", name := "<init>", desc := "()V" } : Jvm.MethodName)) ∈ lw_ok := in_t 47 (by decide +kernel) rfl
theorem tw_48 : (Jvm.Cond.instanceMethod ({ cls := "NineDays$Hand", name := "<init>", desc := "()V" } : Jvm.MethodName)) ∈ lw_ok := in_t 48 (by decide +kernel) rfl
theorem tw_50 : (Jvm.Cond.methodLink "NineDays$Hand" (3 : Nat) ({ cls := "java/lang/Object", name := "<init>", desc := "()V" } : Jvm.MethodName)) ∈ lw_ok := in_t 50 (by decide +kernel) rfl
theorem tw_51 : (Jvm.Cond.methodLink "NineDays$Hand" (27 : Nat) ({ cls := "java/util/Arrays", name := "fill", desc := "([II)V" } : Jvm.MethodName)) ∈ lw_ok := in_t 51 (by decide +kernel) rfl
theorem tw_52 : (Jvm.Cond.fieldLink "NineDays$Hand" (9 : Nat) "NineDays$Hand" "stores" "[I") ∈ lw_ok := in_t 52 (by decide +kernel) rfl
theorem tw_53 : (Jvm.Cond.fieldLink "NineDays$Days" (72 : Nat) "NineDays$Hand" "stores" "[I") ∈ lw_ok := in_t 53 (by decide +kernel) rfl
theorem tw_54 : (Jvm.Cond.fieldLink "NineDays" (112 : Nat) "NineDays$Hand" "stores" "[I") ∈ lw_ok := in_t 54 (by decide +kernel) rfl
theorem tw_55 : (Jvm.Cond.fieldLink "NineDays$Hand" (15 : Nat) "NineDays$Hand" "needs" "[I") ∈ lw_ok := in_t 55 (by decide +kernel) rfl
theorem tw_56 : (Jvm.Cond.fieldLink "NineDays" (113 : Nat) "NineDays$Hand" "needs" "[I") ∈ lw_ok := in_t 56 (by decide +kernel) rfl
theorem tw_57 : (Jvm.Cond.fieldLink "NineDays$Days" (175 : Nat) "NineDays$Hand" "needs" "[I") ∈ lw_ok := in_t 57 (by decide +kernel) rfl
theorem tw_58 : (Jvm.Cond.fieldLink "NineDays$Hand" (18 : Nat) "NineDays$Hand" "members" "[I") ∈ lw_ok := in_t 58 (by decide +kernel) rfl
theorem tw_59 : (Jvm.Cond.fieldLink "NineDays" (119 : Nat) "NineDays$Hand" "members" "[I") ∈ lw_ok := in_t 59 (by decide +kernel) rfl
theorem tw_60 : (Jvm.Cond.fieldLink "NineDays$Days" (154 : Nat) "NineDays$Hand" "members" "[I") ∈ lw_ok := in_t 60 (by decide +kernel) rfl
theorem tw_61 : (Jvm.Cond.fieldLink "NineDays$Hand" (21 : Nat) "NineDays$Hand" "purses" "[I") ∈ lw_ok := in_t 61 (by decide +kernel) rfl
theorem tw_62 : (Jvm.Cond.fieldLink "NineDays$Days" (82 : Nat) "NineDays$Hand" "purses" "[I") ∈ lw_ok := in_t 62 (by decide +kernel) rfl
theorem tw_63 : (Jvm.Cond.fieldLink "NineDays" (130 : Nat) "NineDays$Hand" "purses" "[I") ∈ lw_ok := in_t 63 (by decide +kernel) rfl
theorem tw_64 : (Jvm.Cond.fieldLink "NineDays$Hand" (24 : Nat) "NineDays$Hand" "funds" "[I") ∈ lw_ok := in_t 64 (by decide +kernel) rfl
theorem tw_65 : (Jvm.Cond.fieldLink "NineDays$Days" (81 : Nat) "NineDays$Hand" "funds" "[I") ∈ lw_ok := in_t 65 (by decide +kernel) rfl
theorem tw_66 : (Jvm.Cond.fieldLink "NineDays" (138 : Nat) "NineDays$Hand" "funds" "[I") ∈ lw_ok := in_t 66 (by decide +kernel) rfl
theorem tw_78 : (Jvm.Cond.classLink "NineDays" (23 : Nat) "NineDays$Orders") ∈ lw_ok := in_t 78 (by decide +kernel) rfl
theorem tw_79 : (Jvm.Cond.instantiable "NineDays$Orders" (8 : Nat)) ∈ lw_ok := in_t 79 (by decide +kernel) rfl
theorem tw_80 : (Jvm.Cond.methodLink "NineDays" (25 : Nat) ({ cls := "NineDays$Orders", name := "<init>", desc := "(LNineDays$Land;)V" } : Jvm.MethodName)) ∈ lw_ok := in_t 80 (by decide +kernel) rfl
theorem tw_81 : (Jvm.Cond.instanceMethod ({ cls := "NineDays$Orders", name := "<init>", desc := "(LNineDays$Land;)V" } : Jvm.MethodName)) ∈ lw_ok := in_t 81 (by decide +kernel) rfl
theorem tw_83 : (Jvm.Cond.methodLink "NineDays$Orders" (3 : Nat) ({ cls := "java/lang/Object", name := "<init>", desc := "()V" } : Jvm.MethodName)) ∈ lw_ok := in_t 83 (by decide +kernel) rfl
theorem tw_84 : (Jvm.Cond.fieldLink "NineDays$Orders" (34 : Nat) "NineDays$Orders" "land" "LNineDays$Land;") ∈ lw_ok := in_t 84 (by decide +kernel) rfl
theorem tw_85 : (Jvm.Cond.fieldLink "NineDays$Orders" (9 : Nat) "NineDays$Orders" "kinds" "[I") ∈ lw_ok := in_t 85 (by decide +kernel) rfl
theorem tw_86 : (Jvm.Cond.fieldLink "NineDays$Orders" (15 : Nat) "NineDays$Orders" "unions" "[I") ∈ lw_ok := in_t 86 (by decide +kernel) rfl
theorem tw_87 : (Jvm.Cond.fieldLink "NineDays$Orders" (18 : Nat) "NineDays$Orders" "towns" "[I") ∈ lw_ok := in_t 87 (by decide +kernel) rfl
theorem tw_88 : (Jvm.Cond.fieldLink "NineDays$Orders" (21 : Nat) "NineDays$Orders" "hours" "[I") ∈ lw_ok := in_t 88 (by decide +kernel) rfl
theorem tw_89 : (Jvm.Cond.fieldLink "NineDays" (173 : Nat) "NineDays$Orders" "hours" "[I") ∈ lw_ok := in_t 89 (by decide +kernel) rfl
theorem tw_90 : (Jvm.Cond.fieldLink "NineDays$Orders" (24 : Nat) "NineDays$Orders" "standing" "[I") ∈ lw_ok := in_t 90 (by decide +kernel) rfl
theorem tw_91 : (Jvm.Cond.fieldLink "NineDays" (190 : Nat) "NineDays$Orders" "standing" "[I") ∈ lw_ok := in_t 91 (by decide +kernel) rfl
theorem tw_92 : (Jvm.Cond.fieldLink "NineDays$Orders" (27 : Nat) "NineDays$Orders" "heard" "[I") ∈ lw_ok := in_t 92 (by decide +kernel) rfl
theorem tw_93 : (Jvm.Cond.fieldLink "NineDays$Orders" (30 : Nat) "NineDays$Orders" "count" "I") ∈ lw_ok := in_t 93 (by decide +kernel) rfl
theorem tw_94 : (Jvm.Cond.fieldLink "NineDays" (148 : Nat) "NineDays$Orders" "count" "I") ∈ lw_ok := in_t 94 (by decide +kernel) rfl
theorem tw_112 : (Jvm.Cond.classLink "NineDays" (32 : Nat) "NineDays$Rules") ∈ lw_ok := in_t 112 (by decide +kernel) rfl
theorem tw_113 : (Jvm.Cond.instantiable "NineDays$Rules" (6 : Nat)) ∈ lw_ok := in_t 113 (by decide +kernel) rfl
theorem tw_114 : (Jvm.Cond.methodLinkNest "NineDays" (34 : Nat) ({ cls := "NineDays$Rules", name := "<init>", desc := "()V" } : Jvm.MethodName) "NineDays") ∈ lw_ok := in_t 114 (by decide +kernel) rfl
theorem tw_115 : (Jvm.Cond.instanceMethod ({ cls := "NineDays$Rules", name := "<init>", desc := "()V" } : Jvm.MethodName)) ∈ lw_ok := in_t 115 (by decide +kernel) rfl
theorem tw_117 : (Jvm.Cond.methodLink "NineDays$Rules" (3 : Nat) ({ cls := "java/lang/Object", name := "<init>", desc := "()V" } : Jvm.MethodName)) ∈ lw_ok := in_t 117 (by decide +kernel) rfl
theorem tw_118 : (Jvm.Cond.fieldLink "NineDays$Rules" (9 : Nat) "NineDays$Rules" "hours" "[I") ∈ lw_ok := in_t 118 (by decide +kernel) rfl
theorem tw_119 : (Jvm.Cond.fieldLink "NineDays$Rules" (15 : Nat) "NineDays$Rules" "sizes" "[I") ∈ lw_ok := in_t 119 (by decide +kernel) rfl
theorem tw_120 : (Jvm.Cond.fieldLink "NineDays$Rules" (18 : Nat) "NineDays$Rules" "byHours" "[I") ∈ lw_ok := in_t 120 (by decide +kernel) rfl
theorem tw_121 : (Jvm.Cond.fieldLink "NineDays$Rules" (21 : Nat) "NineDays$Rules" "kinds" "[I") ∈ lw_ok := in_t 121 (by decide +kernel) rfl
theorem tw_122 : (Jvm.Cond.fieldLink "NineDays$Rules" (24 : Nat) "NineDays$Rules" "values" "[I") ∈ lw_ok := in_t 122 (by decide +kernel) rfl
theorem tw_123 : (Jvm.Cond.fieldLink "NineDays$Rules" (27 : Nat) "NineDays$Rules" "count" "I") ∈ lw_ok := in_t 123 (by decide +kernel) rfl
theorem tw_124 : (Jvm.Cond.fieldLink "NineDays" (156 : Nat) "NineDays$Rules" "count" "I") ∈ lw_ok := in_t 124 (by decide +kernel) rfl
theorem tw_138 : (Jvm.Cond.classLink "NineDays" (39 : Nat) "NineDays$Reader") ∈ lw_ok := in_t 138 (by decide +kernel) rfl
theorem tw_139 : (Jvm.Cond.instantiable "NineDays$Reader" (9 : Nat)) ∈ lw_ok := in_t 139 (by decide +kernel) rfl
theorem tw_140 : (Jvm.Cond.methodLinkNest "NineDays" (41 : Nat) ({ cls := "NineDays$Reader", name := "<init>", desc := "()V" } : Jvm.MethodName) "NineDays") ∈ lw_ok := in_t 140 (by decide +kernel) rfl
theorem tw_141 : (Jvm.Cond.instanceMethod ({ cls := "NineDays$Reader", name := "<init>", desc := "()V" } : Jvm.MethodName)) ∈ lw_ok := in_t 141 (by decide +kernel) rfl
theorem tw_143 : (Jvm.Cond.methodLink "NineDays$Reader" (3 : Nat) ({ cls := "java/lang/Object", name := "<init>", desc := "()V" } : Jvm.MethodName)) ∈ lw_ok := in_t 143 (by decide +kernel) rfl
theorem tw_144 : (Jvm.Cond.fieldLink "NineDays$Reader" (9 : Nat) "NineDays$Reader" "bytes" "[I") ∈ lw_ok := in_t 144 (by decide +kernel) rfl
theorem tw_145 : (Jvm.Cond.fieldLink "NineDays$Reader" (15 : Nat) "NineDays$Reader" "kinds" "[I") ∈ lw_ok := in_t 145 (by decide +kernel) rfl
theorem tw_146 : (Jvm.Cond.fieldLink "NineDays$Rules" (36 : Nat) "NineDays$Reader" "kinds" "[I") ∈ lw_ok := in_t 146 (by decide +kernel) rfl
theorem tw_147 : (Jvm.Cond.fieldLink "NineDays$Reader" (18 : Nat) "NineDays$Reader" "values" "[I") ∈ lw_ok := in_t 147 (by decide +kernel) rfl
theorem tw_148 : (Jvm.Cond.fieldLink "NineDays$Rules" (43 : Nat) "NineDays$Reader" "values" "[I") ∈ lw_ok := in_t 148 (by decide +kernel) rfl
theorem tw_149 : (Jvm.Cond.fieldLink "NineDays$Reader" (21 : Nat) "NineDays$Reader" "length" "I") ∈ lw_ok := in_t 149 (by decide +kernel) rfl
theorem tw_150 : (Jvm.Cond.fieldLink "NineDays" (162 : Nat) "NineDays$Reader" "length" "I") ∈ lw_ok := in_t 150 (by decide +kernel) rfl
theorem tw_151 : (Jvm.Cond.fieldLink "NineDays$Reader" (25 : Nat) "NineDays$Reader" "clauses" "I") ∈ lw_ok := in_t 151 (by decide +kernel) rfl
theorem tw_152 : (Jvm.Cond.fieldLink "NineDays$Rules" (31 : Nat) "NineDays$Reader" "clauses" "I") ∈ lw_ok := in_t 152 (by decide +kernel) rfl
theorem tw_153 : (Jvm.Cond.fieldLink "NineDays$Reader" (28 : Nat) "NineDays$Reader" "fault" "I") ∈ lw_ok := in_t 153 (by decide +kernel) rfl
theorem tw_154 : (Jvm.Cond.fieldLink "NineDays" (201 : Nat) "NineDays$Reader" "fault" "I") ∈ lw_ok := in_t 154 (by decide +kernel) rfl
theorem tw_155 : (Jvm.Cond.fieldLink "NineDays$Reader" (31 : Nat) "NineDays$Reader" "faultAt" "I") ∈ lw_ok := in_t 155 (by decide +kernel) rfl
theorem tw_156 : (Jvm.Cond.fieldLink "NineDays" (208 : Nat) "NineDays$Reader" "faultAt" "I") ∈ lw_ok := in_t 156 (by decide +kernel) rfl
theorem tw_157 : (Jvm.Cond.fieldLink "NineDays$Reader" (34 : Nat) "NineDays$Reader" "at" "I") ∈ lw_ok := in_t 157 (by decide +kernel) rfl
theorem tw_158 : (Jvm.Cond.fieldLink "NineDays$Reader" (37 : Nat) "NineDays$Reader" "wordAt" "I") ∈ lw_ok := in_t 158 (by decide +kernel) rfl
theorem tw_178 : (Jvm.Cond.classLink "NineDays" (46 : Nat) "NineDays$Loads") ∈ lw_ok := in_t 178 (by decide +kernel) rfl
theorem tw_179 : (Jvm.Cond.instantiable "NineDays$Loads" (7 : Nat)) ∈ lw_ok := in_t 179 (by decide +kernel) rfl
theorem tw_180 : (Jvm.Cond.methodLinkNest "NineDays" (48 : Nat) ({ cls := "NineDays$Loads", name := "<init>", desc := "()V" } : Jvm.MethodName) "NineDays") ∈ lw_ok := in_t 180 (by decide +kernel) rfl
theorem tw_181 : (Jvm.Cond.instanceMethod ({ cls := "NineDays$Loads", name := "<init>", desc := "()V" } : Jvm.MethodName)) ∈ lw_ok := in_t 181 (by decide +kernel) rfl
theorem tw_183 : (Jvm.Cond.methodLink "NineDays$Loads" (3 : Nat) ({ cls := "java/lang/Object", name := "<init>", desc := "()V" } : Jvm.MethodName)) ∈ lw_ok := in_t 183 (by decide +kernel) rfl
theorem tw_184 : (Jvm.Cond.fieldLink "NineDays$Loads" (9 : Nat) "NineDays$Loads" "goods" "[I") ∈ lw_ok := in_t 184 (by decide +kernel) rfl
theorem tw_185 : (Jvm.Cond.fieldLink "NineDays$Days" (142 : Nat) "NineDays$Loads" "goods" "[I") ∈ lw_ok := in_t 185 (by decide +kernel) rfl
theorem tw_186 : (Jvm.Cond.fieldLink "NineDays" (225 : Nat) "NineDays$Loads" "goods" "[I") ∈ lw_ok := in_t 186 (by decide +kernel) rfl
theorem tw_187 : (Jvm.Cond.fieldLink "NineDays$Loads" (15 : Nat) "NineDays$Loads" "amounts" "[I") ∈ lw_ok := in_t 187 (by decide +kernel) rfl
theorem tw_188 : (Jvm.Cond.fieldLink "NineDays$Days" (145 : Nat) "NineDays$Loads" "amounts" "[I") ∈ lw_ok := in_t 188 (by decide +kernel) rfl
theorem tw_189 : (Jvm.Cond.fieldLink "NineDays" (228 : Nat) "NineDays$Loads" "amounts" "[I") ∈ lw_ok := in_t 189 (by decide +kernel) rfl
theorem tw_190 : (Jvm.Cond.fieldLink "NineDays$Loads" (18 : Nat) "NineDays$Loads" "froms" "[I") ∈ lw_ok := in_t 190 (by decide +kernel) rfl
theorem tw_191 : (Jvm.Cond.fieldLink "NineDays$Days" (167 : Nat) "NineDays$Loads" "froms" "[I") ∈ lw_ok := in_t 191 (by decide +kernel) rfl
theorem tw_192 : (Jvm.Cond.fieldLink "NineDays" (231 : Nat) "NineDays$Loads" "froms" "[I") ∈ lw_ok := in_t 192 (by decide +kernel) rfl
theorem tw_193 : (Jvm.Cond.fieldLink "NineDays$Loads" (21 : Nat) "NineDays$Loads" "tos" "[I") ∈ lw_ok := in_t 193 (by decide +kernel) rfl
theorem tw_194 : (Jvm.Cond.fieldLink "NineDays$Days" (139 : Nat) "NineDays$Loads" "tos" "[I") ∈ lw_ok := in_t 194 (by decide +kernel) rfl
theorem tw_195 : (Jvm.Cond.fieldLink "NineDays" (234 : Nat) "NineDays$Loads" "tos" "[I") ∈ lw_ok := in_t 195 (by decide +kernel) rfl
theorem tw_196 : (Jvm.Cond.fieldLink "NineDays$Loads" (24 : Nat) "NineDays$Loads" "hours" "[I") ∈ lw_ok := in_t 196 (by decide +kernel) rfl
theorem tw_197 : (Jvm.Cond.fieldLink "NineDays$Days" (128 : Nat) "NineDays$Loads" "hours" "[I") ∈ lw_ok := in_t 197 (by decide +kernel) rfl
theorem tw_198 : (Jvm.Cond.fieldLink "NineDays" (237 : Nat) "NineDays$Loads" "hours" "[I") ∈ lw_ok := in_t 198 (by decide +kernel) rfl
theorem tw_199 : (Jvm.Cond.fieldLink "NineDays$Loads" (27 : Nat) "NineDays$Loads" "stamps" "[I") ∈ lw_ok := in_t 199 (by decide +kernel) rfl
theorem tw_200 : (Jvm.Cond.fieldLink "NineDays" (219 : Nat) "NineDays$Loads" "stamps" "[I") ∈ lw_ok := in_t 200 (by decide +kernel) rfl
theorem tw_201 : (Jvm.Cond.fieldLink "NineDays$Loads" (30 : Nat) "NineDays$Loads" "count" "I") ∈ lw_ok := in_t 201 (by decide +kernel) rfl
theorem tw_202 : (Jvm.Cond.fieldLink "NineDays$Days" (89 : Nat) "NineDays$Loads" "count" "I") ∈ lw_ok := in_t 202 (by decide +kernel) rfl
theorem tw_203 : (Jvm.Cond.fieldLink "NineDays" (151 : Nat) "NineDays$Loads" "count" "I") ∈ lw_ok := in_t 203 (by decide +kernel) rfl
theorem tw_219 : (Jvm.Cond.classLink "NineDays" (53 : Nat) "NineDays$Days") ∈ lw_ok := in_t 219 (by decide +kernel) rfl
theorem tw_220 : (Jvm.Cond.instantiable "NineDays$Days" (17 : Nat)) ∈ lw_ok := in_t 220 (by decide +kernel) rfl
theorem tw_221 : (Jvm.Cond.methodLink "NineDays" (55 : Nat) ({ cls := "NineDays$Days", name := "<init>", desc := "(LNineDays$Land;LNineDays$Hand;LNineDays$Orders;LNineDays$Rules;LNineDays$Loads;)V" } : Jvm.MethodName)) ∈ lw_ok := in_t 221 (by decide +kernel) rfl
theorem tw_222 : (Jvm.Cond.instanceMethod ({ cls := "NineDays$Days", name := "<init>", desc := "(LNineDays$Land;LNineDays$Hand;LNineDays$Orders;LNineDays$Rules;LNineDays$Loads;)V" } : Jvm.MethodName)) ∈ lw_ok := in_t 222 (by decide +kernel) rfl
theorem tw_224 : (Jvm.Cond.methodLink "NineDays$Days" (3 : Nat) ({ cls := "java/lang/Object", name := "<init>", desc := "()V" } : Jvm.MethodName)) ∈ lw_ok := in_t 224 (by decide +kernel) rfl
theorem tw_225 : (Jvm.Cond.methodLink "NineDays$Days" (69 : Nat) ({ cls := "NineDays$Days", name := "beginAnew", desc := "()V" } : Jvm.MethodName)) ∈ lw_ok := in_t 225 (by decide +kernel) rfl
theorem tw_226 : (Jvm.Cond.instanceMethod ({ cls := "NineDays$Days", name := "beginAnew", desc := "()V" } : Jvm.MethodName)) ∈ lw_ok := in_t 226 (by decide +kernel) rfl
theorem tw_227 : (Jvm.Cond.selects "NineDays$Days" ({ cls := "NineDays$Days", name := "beginAnew", desc := "()V" } : Jvm.MethodName) ({ cls := "NineDays$Days", name := "beginAnew", desc := "()V" } : Jvm.MethodName)) ∈ lw_ok := in_t 227 (by decide +kernel) rfl
theorem tw_229 : (Jvm.Cond.methodLink "NineDays$Days" (75 : Nat) ({ cls := "java/lang/System", name := "arraycopy", desc := "(Ljava/lang/Object;ILjava/lang/Object;II)V" } : Jvm.MethodName)) ∈ lw_ok := in_t 229 (by decide +kernel) rfl
theorem tw_232 : (Jvm.Cond.methodLink "NineDays$Days" (83 : Nat) ({ cls := "java/util/Arrays", name := "fill", desc := "([II)V" } : Jvm.MethodName)) ∈ lw_ok := in_t 232 (by decide +kernel) rfl
theorem tw_233 : (Jvm.Cond.fieldLink "NineDays$Days" (49 : Nat) "NineDays$Days" "land" "LNineDays$Land;") ∈ lw_ok := in_t 233 (by decide +kernel) rfl
theorem tw_234 : (Jvm.Cond.fieldLink "NineDays$Days" (53 : Nat) "NineDays$Days" "hand" "LNineDays$Hand;") ∈ lw_ok := in_t 234 (by decide +kernel) rfl
theorem tw_235 : (Jvm.Cond.fieldLink "NineDays$Days" (57 : Nat) "NineDays$Days" "orders" "LNineDays$Orders;") ∈ lw_ok := in_t 235 (by decide +kernel) rfl
theorem tw_236 : (Jvm.Cond.fieldLink "NineDays$Days" (61 : Nat) "NineDays$Days" "rules" "LNineDays$Rules;") ∈ lw_ok := in_t 236 (by decide +kernel) rfl
theorem tw_237 : (Jvm.Cond.fieldLink "NineDays$Days" (65 : Nat) "NineDays$Days" "loads" "LNineDays$Loads;") ∈ lw_ok := in_t 237 (by decide +kernel) rfl
theorem tw_238 : (Jvm.Cond.fieldLink "NineDays$Days" (9 : Nat) "NineDays$Days" "stores" "[I") ∈ lw_ok := in_t 238 (by decide +kernel) rfl
theorem tw_239 : (Jvm.Cond.fieldLink "NineDays" (109 : Nat) "NineDays$Days" "stores" "[I") ∈ lw_ok := in_t 239 (by decide +kernel) rfl
theorem tw_240 : (Jvm.Cond.fieldLink "NineDays$Days" (15 : Nat) "NineDays$Days" "hunger" "[I") ∈ lw_ok := in_t 240 (by decide +kernel) rfl
theorem tw_241 : (Jvm.Cond.fieldLink "NineDays" (142 : Nat) "NineDays$Days" "hunger" "[I") ∈ lw_ok := in_t 241 (by decide +kernel) rfl
theorem tw_242 : (Jvm.Cond.fieldLink "NineDays$Days" (18 : Nat) "NineDays$Days" "lacked" "[I") ∈ lw_ok := in_t 242 (by decide +kernel) rfl
theorem tw_243 : (Jvm.Cond.fieldLink "NineDays" (145 : Nat) "NineDays$Days" "lacked" "[I") ∈ lw_ok := in_t 243 (by decide +kernel) rfl
theorem tw_244 : (Jvm.Cond.fieldLink "NineDays$Days" (21 : Nat) "NineDays$Days" "outs" "[I") ∈ lw_ok := in_t 244 (by decide +kernel) rfl
theorem tw_245 : (Jvm.Cond.fieldLink "NineDays" (122 : Nat) "NineDays$Days" "outs" "[I") ∈ lw_ok := in_t 245 (by decide +kernel) rfl
theorem tw_246 : (Jvm.Cond.fieldLink "NineDays$Days" (24 : Nat) "NineDays$Days" "purses" "[I") ∈ lw_ok := in_t 246 (by decide +kernel) rfl
theorem tw_247 : (Jvm.Cond.fieldLink "NineDays" (133 : Nat) "NineDays$Days" "purses" "[I") ∈ lw_ok := in_t 247 (by decide +kernel) rfl
theorem tw_248 : (Jvm.Cond.fieldLink "NineDays$Days" (27 : Nat) "NineDays$Days" "back" "[I") ∈ lw_ok := in_t 248 (by decide +kernel) rfl
theorem tw_249 : (Jvm.Cond.fieldLink "NineDays" (139 : Nat) "NineDays$Days" "back" "[I") ∈ lw_ok := in_t 249 (by decide +kernel) rfl
theorem tw_250 : (Jvm.Cond.fieldLink "NineDays$Days" (30 : Nat) "NineDays$Days" "funds" "[I") ∈ lw_ok := in_t 250 (by decide +kernel) rfl
theorem tw_251 : (Jvm.Cond.fieldLink "NineDays" (135 : Nat) "NineDays$Days" "funds" "[I") ∈ lw_ok := in_t 251 (by decide +kernel) rfl
theorem tw_252 : (Jvm.Cond.fieldLink "NineDays$Days" (33 : Nat) "NineDays$Days" "states" "[I") ∈ lw_ok := in_t 252 (by decide +kernel) rfl
theorem tw_253 : (Jvm.Cond.fieldLink "NineDays" (222 : Nat) "NineDays$Days" "states" "[I") ∈ lw_ok := in_t 253 (by decide +kernel) rfl
theorem tw_254 : (Jvm.Cond.fieldLink "NineDays$Days" (36 : Nat) "NineDays$Days" "left" "[I") ∈ lw_ok := in_t 254 (by decide +kernel) rfl
theorem tw_255 : (Jvm.Cond.fieldLink "NineDays" (238 : Nat) "NineDays$Days" "left" "[I") ∈ lw_ok := in_t 255 (by decide +kernel) rfl
theorem tw_256 : (Jvm.Cond.fieldLink "NineDays$Days" (39 : Nat) "NineDays$Days" "arrival" "[I") ∈ lw_ok := in_t 256 (by decide +kernel) rfl
theorem tw_257 : (Jvm.Cond.fieldLink "NineDays" (241 : Nat) "NineDays$Days" "arrival" "[I") ∈ lw_ok := in_t 257 (by decide +kernel) rfl
theorem tw_258 : (Jvm.Cond.fieldLink "NineDays$Days" (42 : Nat) "NineDays$Days" "calledAhead" "[Z") ∈ lw_ok := in_t 258 (by decide +kernel) rfl
theorem tw_259 : (Jvm.Cond.fieldLink "NineDays$Days" (46 : Nat) "NineDays$Days" "forces" "[I") ∈ lw_ok := in_t 259 (by decide +kernel) rfl
theorem tw_296 : (Jvm.Cond.classLink "NineDays" (65 : Nat) "NineDays$Leaves") ∈ lw_ok := in_t 296 (by decide +kernel) rfl
theorem tw_297 : (Jvm.Cond.instantiable "NineDays$Leaves" (6 : Nat)) ∈ lw_ok := in_t 297 (by decide +kernel) rfl
theorem tw_298 : (Jvm.Cond.methodLinkNest "NineDays" (67 : Nat) ({ cls := "NineDays$Leaves", name := "<init>", desc := "()V" } : Jvm.MethodName) "NineDays") ∈ lw_ok := in_t 298 (by decide +kernel) rfl
theorem tw_299 : (Jvm.Cond.instanceMethod ({ cls := "NineDays$Leaves", name := "<init>", desc := "()V" } : Jvm.MethodName)) ∈ lw_ok := in_t 299 (by decide +kernel) rfl
theorem tw_301 : (Jvm.Cond.methodLink "NineDays$Leaves" (3 : Nat) ({ cls := "java/lang/Object", name := "<init>", desc := "()V" } : Jvm.MethodName)) ∈ lw_ok := in_t 301 (by decide +kernel) rfl
theorem tw_302 : (Jvm.Cond.fieldLink "NineDays$Leaves" (9 : Nat) "NineDays$Leaves" "speakers" "[I") ∈ lw_ok := in_t 302 (by decide +kernel) rfl
theorem tw_303 : (Jvm.Cond.fieldLink "NineDays$Leaves" (15 : Nat) "NineDays$Leaves" "others" "[I") ∈ lw_ok := in_t 303 (by decide +kernel) rfl
theorem tw_304 : (Jvm.Cond.fieldLink "NineDays$Leaves" (18 : Nat) "NineDays$Leaves" "froms" "[I") ∈ lw_ok := in_t 304 (by decide +kernel) rfl
theorem tw_305 : (Jvm.Cond.fieldLink "NineDays$Leaves" (21 : Nat) "NineDays$Leaves" "tos" "[I") ∈ lw_ok := in_t 305 (by decide +kernel) rfl
theorem tw_306 : (Jvm.Cond.fieldLink "NineDays$Leaves" (24 : Nat) "NineDays$Leaves" "sures" "[Z") ∈ lw_ok := in_t 306 (by decide +kernel) rfl
theorem tw_307 : (Jvm.Cond.fieldLink "NineDays$Leaves" (28 : Nat) "NineDays$Leaves" "count" "I") ∈ lw_ok := in_t 307 (by decide +kernel) rfl
theorem tw_308 : (Jvm.Cond.fieldLink "NineDays" (161 : Nat) "NineDays$Leaves" "count" "I") ∈ lw_ok := in_t 308 (by decide +kernel) rfl
theorem tw_322 : (Jvm.Cond.classLink "NineDays" (72 : Nat) "NineDays$Game") ∈ lw_ok := in_t 322 (by decide +kernel) rfl
theorem tw_323 : (Jvm.Cond.instantiable "NineDays$Game" (6 : Nat)) ∈ lw_ok := in_t 323 (by decide +kernel) rfl
theorem tw_324 : (Jvm.Cond.methodLinkNest "NineDays" (74 : Nat) ({ cls := "NineDays$Game", name := "<init>", desc := "()V" } : Jvm.MethodName) "NineDays") ∈ lw_ok := in_t 324 (by decide +kernel) rfl
theorem tw_325 : (Jvm.Cond.instanceMethod ({ cls := "NineDays$Game", name := "<init>", desc := "()V" } : Jvm.MethodName)) ∈ lw_ok := in_t 325 (by decide +kernel) rfl
theorem tw_327 : (Jvm.Cond.methodLink "NineDays$Game" (3 : Nat) ({ cls := "java/lang/Object", name := "<init>", desc := "()V" } : Jvm.MethodName)) ∈ lw_ok := in_t 327 (by decide +kernel) rfl
theorem tw_328 : (Jvm.Cond.fieldLink "NineDays$Game" (9 : Nat) "NineDays$Game" "added" "[I") ∈ lw_ok := in_t 328 (by decide +kernel) rfl
theorem tw_329 : (Jvm.Cond.fieldLink "NineDays" (268 : Nat) "NineDays$Game" "added" "[I") ∈ lw_ok := in_t 329 (by decide +kernel) rfl
theorem tw_330 : (Jvm.Cond.fieldLink "NineDays$Game" (15 : Nat) "NineDays$Game" "worth" "I") ∈ lw_ok := in_t 330 (by decide +kernel) rfl
theorem tw_331 : (Jvm.Cond.fieldLink "NineDays" (275 : Nat) "NineDays$Game" "worth" "I") ∈ lw_ok := in_t 331 (by decide +kernel) rfl
theorem tw_332 : (Jvm.Cond.fieldLink "NineDays$Game" (19 : Nat) "NineDays$Game" "best" "I") ∈ lw_ok := in_t 332 (by decide +kernel) rfl
theorem tw_333 : (Jvm.Cond.fieldLink "NineDays" (278 : Nat) "NineDays$Game" "best" "I") ∈ lw_ok := in_t 333 (by decide +kernel) rfl
theorem tw_334 : (Jvm.Cond.fieldLink "NineDays$Game" (22 : Nat) "NineDays$Game" "worths" "[I") ∈ lw_ok := in_t 334 (by decide +kernel) rfl
theorem tw_335 : (Jvm.Cond.fieldLink "NineDays$Game" (25 : Nat) "NineDays$Game" "later" "[I") ∈ lw_ok := in_t 335 (by decide +kernel) rfl
theorem tw_336 : (Jvm.Cond.fieldLink "NineDays$Game" (28 : Nat) "NineDays$Game" "end" "I") ∈ lw_ok := in_t 336 (by decide +kernel) rfl
theorem tw_350 : (Jvm.Cond.fieldLink "NineDays" (12 : Nat) "NineDays" "land" "LNineDays$Land;") ∈ lw_ok := in_t 350 (by decide +kernel) rfl
theorem tw_351 : (Jvm.Cond.fieldLink "NineDays" (19 : Nat) "NineDays" "hand" "LNineDays$Hand;") ∈ lw_ok := in_t 351 (by decide +kernel) rfl
theorem tw_352 : (Jvm.Cond.fieldLink "NineDays" (28 : Nat) "NineDays" "orders" "LNineDays$Orders;") ∈ lw_ok := in_t 352 (by decide +kernel) rfl
theorem tw_353 : (Jvm.Cond.fieldLink "NineDays" (35 : Nat) "NineDays" "rules" "LNineDays$Rules;") ∈ lw_ok := in_t 353 (by decide +kernel) rfl
theorem tw_354 : (Jvm.Cond.fieldLink "NineDays" (42 : Nat) "NineDays" "reader" "LNineDays$Reader;") ∈ lw_ok := in_t 354 (by decide +kernel) rfl
theorem tw_355 : (Jvm.Cond.fieldLink "NineDays" (49 : Nat) "NineDays" "loads" "LNineDays$Loads;") ∈ lw_ok := in_t 355 (by decide +kernel) rfl
theorem tw_356 : (Jvm.Cond.fieldLink "NineDays" (58 : Nat) "NineDays" "days" "LNineDays$Days;") ∈ lw_ok := in_t 356 (by decide +kernel) rfl
theorem tw_357 : (Jvm.Cond.fieldLink "NineDays" (62 : Nat) "NineDays" "again" "LNineDays$Days;") ∈ lw_ok := in_t 357 (by decide +kernel) rfl
theorem tw_358 : (Jvm.Cond.fieldLink "NineDays" (68 : Nat) "NineDays" "leaves" "LNineDays$Leaves;") ∈ lw_ok := in_t 358 (by decide +kernel) rfl
theorem tw_359 : (Jvm.Cond.fieldLink "NineDays" (75 : Nat) "NineDays" "play" "LNineDays$Game;") ∈ lw_ok := in_t 359 (by decide +kernel) rfl
theorem tw_360 : (Jvm.Cond.fieldLink "NineDays" (79 : Nat) "NineDays" "forces" "[I") ∈ lw_ok := in_t 360 (by decide +kernel) rfl
theorem tw_361 : (Jvm.Cond.fieldLink "NineDays" (83 : Nat) "NineDays" "now" "I") ∈ lw_ok := in_t 361 (by decide +kernel) rfl
theorem tw_387 : (Jvm.Cond.methodLink "NineDaysLaw" (13 : Nat) ({ cls := "NineDays", name := "road", desc := "(III)I" } : Jvm.MethodName)) ∈ lw_ok := in_t 387 (by decide +kernel) rfl
theorem tw_388 : (Jvm.Cond.instanceMethod ({ cls := "NineDays", name := "road", desc := "(III)I" } : Jvm.MethodName)) ∈ lw_ok := in_t 388 (by decide +kernel) rfl
theorem tw_389 : (Jvm.Cond.selects "NineDays" ({ cls := "NineDays", name := "road", desc := "(III)I" } : Jvm.MethodName) ({ cls := "NineDays", name := "road", desc := "(III)I" } : Jvm.MethodName)) ∈ lw_ok := in_t 389 (by decide +kernel) rfl
theorem tw_391 : (Jvm.Cond.methodLink "NineDays" (87 : Nat) ({ cls := "NineDays", name := "noTown", desc := "(I)Z" } : Jvm.MethodName)) ∈ lw_ok := in_t 391 (by decide +kernel) rfl
theorem tw_392 : (Jvm.Cond.static ({ cls := "NineDays", name := "noTown", desc := "(I)Z" } : Jvm.MethodName)) ∈ lw_ok := in_t 392 (by decide +kernel) rfl
theorem tw_394 : (Jvm.Cond.methodLink "NineDays" (169 : Nat) ({ cls := "NineDays", name := "noNumber", desc := "(II)Z" } : Jvm.MethodName)) ∈ lw_ok := in_t 394 (by decide +kernel) rfl
theorem tw_395 : (Jvm.Cond.static ({ cls := "NineDays", name := "noNumber", desc := "(II)Z" } : Jvm.MethodName)) ∈ lw_ok := in_t 395 (by decide +kernel) rfl
theorem tw_397 : (Jvm.Cond.methodLink "NineDays" (91 : Nat) ({ cls := "NineDays", name := "beyond", desc := "(III)Z" } : Jvm.MethodName)) ∈ lw_ok := in_t 397 (by decide +kernel) rfl
theorem tw_398 : (Jvm.Cond.static ({ cls := "NineDays", name := "beyond", desc := "(III)Z" } : Jvm.MethodName)) ∈ lw_ok := in_t 398 (by decide +kernel) rfl
theorem tw_400 : (Jvm.Cond.methodLink "NineDays" (98 : Nat) ({ cls := "NineDays$Land", name := "join", desc := "(III)V" } : Jvm.MethodName)) ∈ lw_ok := in_t 400 (by decide +kernel) rfl
theorem tw_401 : (Jvm.Cond.instanceMethod ({ cls := "NineDays$Land", name := "join", desc := "(III)V" } : Jvm.MethodName)) ∈ lw_ok := in_t 401 (by decide +kernel) rfl
theorem tw_402 : (Jvm.Cond.selects "NineDays$Land" ({ cls := "NineDays$Land", name := "join", desc := "(III)V" } : Jvm.MethodName) ({ cls := "NineDays$Land", name := "join", desc := "(III)V" } : Jvm.MethodName)) ∈ lw_ok := in_t 402 (by decide +kernel) rfl
theorem tw_404 : (Jvm.Cond.methodLink "NineDays$Land" (25 : Nat) ({ cls := "NineDays$Land", name := "way", desc := "(II)I" } : Jvm.MethodName)) ∈ lw_ok := in_t 404 (by decide +kernel) rfl
theorem tw_405 : (Jvm.Cond.instanceMethod ({ cls := "NineDays$Land", name := "way", desc := "(II)I" } : Jvm.MethodName)) ∈ lw_ok := in_t 405 (by decide +kernel) rfl
theorem tw_406 : (Jvm.Cond.selects "NineDays$Land" ({ cls := "NineDays$Land", name := "way", desc := "(II)I" } : Jvm.MethodName) ({ cls := "NineDays$Land", name := "way", desc := "(II)I" } : Jvm.MethodName)) ∈ lw_ok := in_t 406 (by decide +kernel) rfl
theorem tw_408 : (Jvm.Cond.methodLink "NineDays$Land" (29 : Nat) ({ cls := "NineDays$Land", name := "shorten", desc := "(IIIII)V" } : Jvm.MethodName)) ∈ lw_ok := in_t 408 (by decide +kernel) rfl
theorem tw_410 : (Jvm.Cond.instanceMethod ({ cls := "NineDays$Land", name := "shorten", desc := "(IIIII)V" } : Jvm.MethodName)) ∈ lw_ok := in_t 410 (by decide +kernel) rfl
theorem tw_412 : (Jvm.Cond.methodLink "NineDaysLaw" (18 : Nat) ({ cls := "NineDays", name := "away", desc := "(II)I" } : Jvm.MethodName)) ∈ lw_ok := in_t 412 (by decide +kernel) rfl
theorem tw_413 : (Jvm.Cond.instanceMethod ({ cls := "NineDays", name := "away", desc := "(II)I" } : Jvm.MethodName)) ∈ lw_ok := in_t 413 (by decide +kernel) rfl
theorem tw_414 : (Jvm.Cond.selects "NineDays" ({ cls := "NineDays", name := "away", desc := "(II)I" } : Jvm.MethodName) ({ cls := "NineDays", name := "away", desc := "(II)I" } : Jvm.MethodName)) ∈ lw_ok := in_t 414 (by decide +kernel) rfl
theorem tw_416 : (Jvm.Cond.methodLink "NineDays" (102 : Nat) ({ cls := "NineDays$Land", name := "way", desc := "(II)I" } : Jvm.MethodName)) ∈ lw_ok := in_t 416 (by decide +kernel) rfl
theorem tw_417 : (Jvm.Cond.methodLink "NineDaysLaw" (23 : Nat) ({ cls := "NineDays", name := "store", desc := "(III)I" } : Jvm.MethodName)) ∈ lw_ok := in_t 417 (by decide +kernel) rfl
theorem tw_418 : (Jvm.Cond.instanceMethod ({ cls := "NineDays", name := "store", desc := "(III)I" } : Jvm.MethodName)) ∈ lw_ok := in_t 418 (by decide +kernel) rfl
theorem tw_419 : (Jvm.Cond.selects "NineDays" ({ cls := "NineDays", name := "store", desc := "(III)I" } : Jvm.MethodName) ({ cls := "NineDays", name := "store", desc := "(III)I" } : Jvm.MethodName)) ∈ lw_ok := in_t 419 (by decide +kernel) rfl
theorem tw_421 : (Jvm.Cond.methodLink "NineDays" (106 : Nat) ({ cls := "NineDays", name := "noGood", desc := "(I)Z" } : Jvm.MethodName)) ∈ lw_ok := in_t 421 (by decide +kernel) rfl
theorem tw_422 : (Jvm.Cond.static ({ cls := "NineDays", name := "noGood", desc := "(I)Z" } : Jvm.MethodName)) ∈ lw_ok := in_t 422 (by decide +kernel) rfl
theorem tw_424 : (Jvm.Cond.methodLink "NineDaysLaw" (27 : Nat) ({ cls := "NineDays", name := "need", desc := "(III)I" } : Jvm.MethodName)) ∈ lw_ok := in_t 424 (by decide +kernel) rfl
theorem tw_425 : (Jvm.Cond.instanceMethod ({ cls := "NineDays", name := "need", desc := "(III)I" } : Jvm.MethodName)) ∈ lw_ok := in_t 425 (by decide +kernel) rfl
theorem tw_426 : (Jvm.Cond.selects "NineDays" ({ cls := "NineDays", name := "need", desc := "(III)I" } : Jvm.MethodName) ({ cls := "NineDays", name := "need", desc := "(III)I" } : Jvm.MethodName)) ∈ lw_ok := in_t 426 (by decide +kernel) rfl
theorem tw_428 : (Jvm.Cond.methodLink "NineDaysLaw" (31 : Nat) ({ cls := "NineDays", name := "members", desc := "(III)I" } : Jvm.MethodName)) ∈ lw_ok := in_t 428 (by decide +kernel) rfl
theorem tw_429 : (Jvm.Cond.instanceMethod ({ cls := "NineDays", name := "members", desc := "(III)I" } : Jvm.MethodName)) ∈ lw_ok := in_t 429 (by decide +kernel) rfl
theorem tw_430 : (Jvm.Cond.selects "NineDays" ({ cls := "NineDays", name := "members", desc := "(III)I" } : Jvm.MethodName) ({ cls := "NineDays", name := "members", desc := "(III)I" } : Jvm.MethodName)) ∈ lw_ok := in_t 430 (by decide +kernel) rfl
theorem tw_432 : (Jvm.Cond.methodLink "NineDays" (116 : Nat) ({ cls := "NineDays", name := "noUnion", desc := "(I)Z" } : Jvm.MethodName)) ∈ lw_ok := in_t 432 (by decide +kernel) rfl
theorem tw_433 : (Jvm.Cond.static ({ cls := "NineDays", name := "noUnion", desc := "(I)Z" } : Jvm.MethodName)) ∈ lw_ok := in_t 433 (by decide +kernel) rfl
theorem tw_435 : (Jvm.Cond.methodLink "NineDays" (125 : Nat) ({ cls := "java/lang/Math", name := "min", desc := "(II)I" } : Jvm.MethodName)) ∈ lw_ok := in_t 435 (by decide +kernel) rfl
theorem tw_438 : (Jvm.Cond.methodLink "NineDaysLaw" (35 : Nat) ({ cls := "NineDays", name := "purse", desc := "(II)I" } : Jvm.MethodName)) ∈ lw_ok := in_t 438 (by decide +kernel) rfl
theorem tw_439 : (Jvm.Cond.instanceMethod ({ cls := "NineDays", name := "purse", desc := "(II)I" } : Jvm.MethodName)) ∈ lw_ok := in_t 439 (by decide +kernel) rfl
theorem tw_440 : (Jvm.Cond.selects "NineDays" ({ cls := "NineDays", name := "purse", desc := "(II)I" } : Jvm.MethodName) ({ cls := "NineDays", name := "purse", desc := "(II)I" } : Jvm.MethodName)) ∈ lw_ok := in_t 440 (by decide +kernel) rfl
theorem tw_442 : (Jvm.Cond.methodLink "NineDaysLaw" (39 : Nat) ({ cls := "NineDays", name := "fund", desc := "(II)I" } : Jvm.MethodName)) ∈ lw_ok := in_t 442 (by decide +kernel) rfl
theorem tw_443 : (Jvm.Cond.instanceMethod ({ cls := "NineDays", name := "fund", desc := "(II)I" } : Jvm.MethodName)) ∈ lw_ok := in_t 443 (by decide +kernel) rfl
theorem tw_444 : (Jvm.Cond.selects "NineDays" ({ cls := "NineDays", name := "fund", desc := "(II)I" } : Jvm.MethodName) ({ cls := "NineDays", name := "fund", desc := "(II)I" } : Jvm.MethodName)) ∈ lw_ok := in_t 444 (by decide +kernel) rfl
theorem tw_446 : (Jvm.Cond.constant "NineDays" (134 : Nat) (99999 : Int32)) ∈ lw_ok := in_t 446 (by decide +kernel) rfl
theorem tw_447 : (Jvm.Cond.methodLink "NineDaysLaw" (43 : Nat) ({ cls := "NineDays", name := "out", desc := "(III)I" } : Jvm.MethodName)) ∈ lw_ok := in_t 447 (by decide +kernel) rfl
theorem tw_448 : (Jvm.Cond.instanceMethod ({ cls := "NineDays", name := "out", desc := "(III)I" } : Jvm.MethodName)) ∈ lw_ok := in_t 448 (by decide +kernel) rfl
theorem tw_449 : (Jvm.Cond.selects "NineDays" ({ cls := "NineDays", name := "out", desc := "(III)I" } : Jvm.MethodName) ({ cls := "NineDays", name := "out", desc := "(III)I" } : Jvm.MethodName)) ∈ lw_ok := in_t 449 (by decide +kernel) rfl
theorem tw_451 : (Jvm.Cond.methodLink "NineDaysLaw" (47 : Nat) ({ cls := "NineDays", name := "town", desc := "(II)I" } : Jvm.MethodName)) ∈ lw_ok := in_t 451 (by decide +kernel) rfl
theorem tw_452 : (Jvm.Cond.instanceMethod ({ cls := "NineDays", name := "town", desc := "(II)I" } : Jvm.MethodName)) ∈ lw_ok := in_t 452 (by decide +kernel) rfl
theorem tw_453 : (Jvm.Cond.selects "NineDays" ({ cls := "NineDays", name := "town", desc := "(II)I" } : Jvm.MethodName) ({ cls := "NineDays", name := "town", desc := "(II)I" } : Jvm.MethodName)) ∈ lw_ok := in_t 453 (by decide +kernel) rfl
theorem tw_455 : (Jvm.Cond.methodLink "NineDaysLaw" (51 : Nat) ({ cls := "NineDays", name := "count", desc := "(I)I" } : Jvm.MethodName)) ∈ lw_ok := in_t 455 (by decide +kernel) rfl
theorem tw_456 : (Jvm.Cond.instanceMethod ({ cls := "NineDays", name := "count", desc := "(I)I" } : Jvm.MethodName)) ∈ lw_ok := in_t 456 (by decide +kernel) rfl
theorem tw_457 : (Jvm.Cond.selects "NineDays" ({ cls := "NineDays", name := "count", desc := "(I)I" } : Jvm.MethodName) ({ cls := "NineDays", name := "count", desc := "(I)I" } : Jvm.MethodName)) ∈ lw_ok := in_t 457 (by decide +kernel) rfl
theorem tw_459 : (Jvm.Cond.methodLink "NineDays" (152 : Nat) ({ cls := "NineDays$Days", name := "loadsThatAre", desc := "(I)I" } : Jvm.MethodName)) ∈ lw_ok := in_t 459 (by decide +kernel) rfl
theorem tw_460 : (Jvm.Cond.instanceMethod ({ cls := "NineDays$Days", name := "loadsThatAre", desc := "(I)I" } : Jvm.MethodName)) ∈ lw_ok := in_t 460 (by decide +kernel) rfl
theorem tw_461 : (Jvm.Cond.selects "NineDays$Days" ({ cls := "NineDays$Days", name := "loadsThatAre", desc := "(I)I" } : Jvm.MethodName) ({ cls := "NineDays$Days", name := "loadsThatAre", desc := "(I)I" } : Jvm.MethodName)) ∈ lw_ok := in_t 461 (by decide +kernel) rfl
theorem tw_463 : (Jvm.Cond.methodLink "NineDays" (157 : Nat) ({ cls := "NineDays", name := "sum", desc := "([I)I" } : Jvm.MethodName)) ∈ lw_ok := in_t 463 (by decide +kernel) rfl
theorem tw_464 : (Jvm.Cond.static ({ cls := "NineDays", name := "sum", desc := "([I)I" } : Jvm.MethodName)) ∈ lw_ok := in_t 464 (by decide +kernel) rfl
theorem tw_466 : (Jvm.Cond.methodLink "NineDaysLaw" (56 : Nat) ({ cls := "NineDays", name := "order", desc := "(IIII)I" } : Jvm.MethodName)) ∈ lw_ok := in_t 466 (by decide +kernel) rfl
theorem tw_467 : (Jvm.Cond.instanceMethod ({ cls := "NineDays", name := "order", desc := "(IIII)I" } : Jvm.MethodName)) ∈ lw_ok := in_t 467 (by decide +kernel) rfl
theorem tw_468 : (Jvm.Cond.selects "NineDays" ({ cls := "NineDays", name := "order", desc := "(IIII)I" } : Jvm.MethodName) ({ cls := "NineDays", name := "order", desc := "(IIII)I" } : Jvm.MethodName)) ∈ lw_ok := in_t 468 (by decide +kernel) rfl
theorem tw_470 : (Jvm.Cond.methodLink "NineDays" (165 : Nat) ({ cls := "NineDays$Orders", name := "give", desc := "(IIII)I" } : Jvm.MethodName)) ∈ lw_ok := in_t 470 (by decide +kernel) rfl
theorem tw_471 : (Jvm.Cond.instanceMethod ({ cls := "NineDays$Orders", name := "give", desc := "(IIII)I" } : Jvm.MethodName)) ∈ lw_ok := in_t 471 (by decide +kernel) rfl
theorem tw_472 : (Jvm.Cond.selects "NineDays$Orders" ({ cls := "NineDays$Orders", name := "give", desc := "(IIII)I" } : Jvm.MethodName) ({ cls := "NineDays$Orders", name := "give", desc := "(IIII)I" } : Jvm.MethodName)) ∈ lw_ok := in_t 472 (by decide +kernel) rfl
theorem tw_474 : (Jvm.Cond.methodLink "NineDaysLaw" (61 : Nat) ({ cls := "NineDays", name := "reach", desc := "(II)I" } : Jvm.MethodName)) ∈ lw_ok := in_t 474 (by decide +kernel) rfl
theorem tw_475 : (Jvm.Cond.instanceMethod ({ cls := "NineDays", name := "reach", desc := "(II)I" } : Jvm.MethodName)) ∈ lw_ok := in_t 475 (by decide +kernel) rfl
theorem tw_476 : (Jvm.Cond.selects "NineDays" ({ cls := "NineDays", name := "reach", desc := "(II)I" } : Jvm.MethodName) ({ cls := "NineDays", name := "reach", desc := "(II)I" } : Jvm.MethodName)) ∈ lw_ok := in_t 476 (by decide +kernel) rfl
theorem tw_478 : (Jvm.Cond.methodLink "NineDays" (176 : Nat) ({ cls := "NineDays$Orders", name := "comes", desc := "(III)I" } : Jvm.MethodName)) ∈ lw_ok := in_t 478 (by decide +kernel) rfl
theorem tw_479 : (Jvm.Cond.instanceMethod ({ cls := "NineDays$Orders", name := "comes", desc := "(III)I" } : Jvm.MethodName)) ∈ lw_ok := in_t 479 (by decide +kernel) rfl
theorem tw_480 : (Jvm.Cond.selects "NineDays$Orders" ({ cls := "NineDays$Orders", name := "comes", desc := "(III)I" } : Jvm.MethodName) ({ cls := "NineDays$Orders", name := "comes", desc := "(III)I" } : Jvm.MethodName)) ∈ lw_ok := in_t 480 (by decide +kernel) rfl
theorem tw_482 : (Jvm.Cond.methodLink "NineDays$Orders" (38 : Nat) ({ cls := "NineDays$Land", name := "way", desc := "(II)I" } : Jvm.MethodName)) ∈ lw_ok := in_t 482 (by decide +kernel) rfl
theorem tw_483 : (Jvm.Cond.methodLink "NineDaysLaw" (65 : Nat) ({ cls := "NineDays", name := "late", desc := "(I)I" } : Jvm.MethodName)) ∈ lw_ok := in_t 483 (by decide +kernel) rfl
theorem tw_484 : (Jvm.Cond.instanceMethod ({ cls := "NineDays", name := "late", desc := "(I)I" } : Jvm.MethodName)) ∈ lw_ok := in_t 484 (by decide +kernel) rfl
theorem tw_485 : (Jvm.Cond.selects "NineDays" ({ cls := "NineDays", name := "late", desc := "(I)I" } : Jvm.MethodName) ({ cls := "NineDays", name := "late", desc := "(I)I" } : Jvm.MethodName)) ∈ lw_ok := in_t 485 (by decide +kernel) rfl
theorem tw_487 : (Jvm.Cond.methodLink "NineDays" (180 : Nat) ({ cls := "NineDays$Orders", name := "lateTowns", desc := "(I)I" } : Jvm.MethodName)) ∈ lw_ok := in_t 487 (by decide +kernel) rfl
theorem tw_488 : (Jvm.Cond.instanceMethod ({ cls := "NineDays$Orders", name := "lateTowns", desc := "(I)I" } : Jvm.MethodName)) ∈ lw_ok := in_t 488 (by decide +kernel) rfl
theorem tw_489 : (Jvm.Cond.selects "NineDays$Orders" ({ cls := "NineDays$Orders", name := "lateTowns", desc := "(I)I" } : Jvm.MethodName) ({ cls := "NineDays$Orders", name := "lateTowns", desc := "(I)I" } : Jvm.MethodName)) ∈ lw_ok := in_t 489 (by decide +kernel) rfl
theorem tw_491 : (Jvm.Cond.methodLink "NineDays$Orders" (44 : Nat) ({ cls := "NineDays$Orders", name := "comes", desc := "(III)I" } : Jvm.MethodName)) ∈ lw_ok := in_t 491 (by decide +kernel) rfl
theorem tw_492 : (Jvm.Cond.methodLink "NineDays$Orders" (48 : Nat) ({ cls := "NineDays$Orders", name := "overtaken", desc := "(II)Z" } : Jvm.MethodName)) ∈ lw_ok := in_t 492 (by decide +kernel) rfl
theorem tw_494 : (Jvm.Cond.instanceMethod ({ cls := "NineDays$Orders", name := "overtaken", desc := "(II)Z" } : Jvm.MethodName)) ∈ lw_ok := in_t 494 (by decide +kernel) rfl
theorem tw_496 : (Jvm.Cond.methodLink "NineDaysLaw" (69 : Nat) ({ cls := "NineDays", name := "called", desc := "(III)I" } : Jvm.MethodName)) ∈ lw_ok := in_t 496 (by decide +kernel) rfl
theorem tw_497 : (Jvm.Cond.instanceMethod ({ cls := "NineDays", name := "called", desc := "(III)I" } : Jvm.MethodName)) ∈ lw_ok := in_t 497 (by decide +kernel) rfl
theorem tw_498 : (Jvm.Cond.selects "NineDays" ({ cls := "NineDays", name := "called", desc := "(III)I" } : Jvm.MethodName) ({ cls := "NineDays", name := "called", desc := "(III)I" } : Jvm.MethodName)) ∈ lw_ok := in_t 498 (by decide +kernel) rfl
theorem tw_500 : (Jvm.Cond.methodLink "NineDays" (183 : Nat) ({ cls := "NineDays$Orders", name := "listen", desc := "(IZ)V" } : Jvm.MethodName)) ∈ lw_ok := in_t 500 (by decide +kernel) rfl
theorem tw_501 : (Jvm.Cond.instanceMethod ({ cls := "NineDays$Orders", name := "listen", desc := "(IZ)V" } : Jvm.MethodName)) ∈ lw_ok := in_t 501 (by decide +kernel) rfl
theorem tw_502 : (Jvm.Cond.selects "NineDays$Orders" ({ cls := "NineDays$Orders", name := "listen", desc := "(IZ)V" } : Jvm.MethodName) ({ cls := "NineDays$Orders", name := "listen", desc := "(IZ)V" } : Jvm.MethodName)) ∈ lw_ok := in_t 502 (by decide +kernel) rfl
theorem tw_504 : (Jvm.Cond.methodLink "NineDays$Orders" (52 : Nat) ({ cls := "java/util/Arrays", name := "fill", desc := "([II)V" } : Jvm.MethodName)) ∈ lw_ok := in_t 504 (by decide +kernel) rfl
theorem tw_505 : (Jvm.Cond.methodLink "NineDays$Orders" (58 : Nat) ({ cls := "NineDays$Orders", name := "firstCallHour", desc := "()I" } : Jvm.MethodName)) ∈ lw_ok := in_t 505 (by decide +kernel) rfl
theorem tw_507 : (Jvm.Cond.instanceMethod ({ cls := "NineDays$Orders", name := "firstCallHour", desc := "()I" } : Jvm.MethodName)) ∈ lw_ok := in_t 507 (by decide +kernel) rfl
theorem tw_509 : (Jvm.Cond.methodLink "NineDays$Orders" (66 : Nat) ({ cls := "java/lang/Math", name := "min", desc := "(II)I" } : Jvm.MethodName)) ∈ lw_ok := in_t 509 (by decide +kernel) rfl
theorem tw_510 : (Jvm.Cond.methodLink "NineDays$Orders" (62 : Nat) ({ cls := "NineDays$Orders", name := "spread", desc := "(III)V" } : Jvm.MethodName)) ∈ lw_ok := in_t 510 (by decide +kernel) rfl
theorem tw_512 : (Jvm.Cond.instanceMethod ({ cls := "NineDays$Orders", name := "spread", desc := "(III)V" } : Jvm.MethodName)) ∈ lw_ok := in_t 512 (by decide +kernel) rfl
theorem tw_514 : (Jvm.Cond.methodLink "NineDays" (187 : Nat) ({ cls := "NineDays$Orders", name := "calls", desc := "(I)Z" } : Jvm.MethodName)) ∈ lw_ok := in_t 514 (by decide +kernel) rfl
theorem tw_515 : (Jvm.Cond.instanceMethod ({ cls := "NineDays$Orders", name := "calls", desc := "(I)Z" } : Jvm.MethodName)) ∈ lw_ok := in_t 515 (by decide +kernel) rfl
theorem tw_516 : (Jvm.Cond.selects "NineDays$Orders" ({ cls := "NineDays$Orders", name := "calls", desc := "(I)Z" } : Jvm.MethodName) ({ cls := "NineDays$Orders", name := "calls", desc := "(I)Z" } : Jvm.MethodName)) ∈ lw_ok := in_t 516 (by decide +kernel) rfl
theorem tw_518 : (Jvm.Cond.methodLink "NineDaysLaw" (73 : Nat) ({ cls := "NineDays", name := "holds", desc := "(IIII)I" } : Jvm.MethodName)) ∈ lw_ok := in_t 518 (by decide +kernel) rfl
theorem tw_519 : (Jvm.Cond.instanceMethod ({ cls := "NineDays", name := "holds", desc := "(IIII)I" } : Jvm.MethodName)) ∈ lw_ok := in_t 519 (by decide +kernel) rfl
theorem tw_520 : (Jvm.Cond.selects "NineDays" ({ cls := "NineDays", name := "holds", desc := "(IIII)I" } : Jvm.MethodName) ({ cls := "NineDays", name := "holds", desc := "(IIII)I" } : Jvm.MethodName)) ∈ lw_ok := in_t 520 (by decide +kernel) rfl
theorem tw_522 : (Jvm.Cond.methodLink "NineDaysLaw" (79 : Nat) ({ cls := "NineDays", name := "feed", desc := "(IJ)I" } : Jvm.MethodName)) ∈ lw_ok := in_t 522 (by decide +kernel) rfl
theorem tw_523 : (Jvm.Cond.instanceMethod ({ cls := "NineDays", name := "feed", desc := "(IJ)I" } : Jvm.MethodName)) ∈ lw_ok := in_t 523 (by decide +kernel) rfl
theorem tw_524 : (Jvm.Cond.selects "NineDays" ({ cls := "NineDays", name := "feed", desc := "(IJ)I" } : Jvm.MethodName) ({ cls := "NineDays", name := "feed", desc := "(IJ)I" } : Jvm.MethodName)) ∈ lw_ok := in_t 524 (by decide +kernel) rfl
theorem tw_526 : (Jvm.Cond.methodLink "NineDays" (193 : Nat) ({ cls := "NineDays$Reader", name := "append", desc := "(IJ)V" } : Jvm.MethodName)) ∈ lw_ok := in_t 526 (by decide +kernel) rfl
theorem tw_527 : (Jvm.Cond.instanceMethod ({ cls := "NineDays$Reader", name := "append", desc := "(IJ)V" } : Jvm.MethodName)) ∈ lw_ok := in_t 527 (by decide +kernel) rfl
theorem tw_528 : (Jvm.Cond.selects "NineDays$Reader" ({ cls := "NineDays$Reader", name := "append", desc := "(IJ)V" } : Jvm.MethodName) ({ cls := "NineDays$Reader", name := "append", desc := "(IJ)V" } : Jvm.MethodName)) ∈ lw_ok := in_t 528 (by decide +kernel) rfl
theorem tw_530 : (Jvm.Cond.constantLong "NineDays$Reader" (40 : Nat) (255 : Int64)) ∈ lw_ok := in_t 530 (by decide +kernel) rfl
theorem tw_531 : (Jvm.Cond.methodLink "NineDaysLaw" (84 : Nat) ({ cls := "NineDays", name := "rule", desc := "(I)I" } : Jvm.MethodName)) ∈ lw_ok := in_t 531 (by decide +kernel) rfl
theorem tw_532 : (Jvm.Cond.instanceMethod ({ cls := "NineDays", name := "rule", desc := "(I)I" } : Jvm.MethodName)) ∈ lw_ok := in_t 532 (by decide +kernel) rfl
theorem tw_533 : (Jvm.Cond.selects "NineDays" ({ cls := "NineDays", name := "rule", desc := "(I)I" } : Jvm.MethodName) ({ cls := "NineDays", name := "rule", desc := "(I)I" } : Jvm.MethodName)) ∈ lw_ok := in_t 533 (by decide +kernel) rfl
theorem tw_535 : (Jvm.Cond.methodLink "NineDays" (197 : Nat) ({ cls := "NineDays$Reader", name := "read", desc := "(I)V" } : Jvm.MethodName)) ∈ lw_ok := in_t 535 (by decide +kernel) rfl
theorem tw_536 : (Jvm.Cond.instanceMethod ({ cls := "NineDays$Reader", name := "read", desc := "(I)V" } : Jvm.MethodName)) ∈ lw_ok := in_t 536 (by decide +kernel) rfl
theorem tw_537 : (Jvm.Cond.selects "NineDays$Reader" ({ cls := "NineDays$Reader", name := "read", desc := "(I)V" } : Jvm.MethodName) ({ cls := "NineDays$Reader", name := "read", desc := "(I)V" } : Jvm.MethodName)) ∈ lw_ok := in_t 537 (by decide +kernel) rfl
theorem tw_539 : (Jvm.Cond.methodLink "NineDays$Reader" (42 : Nat) ({ cls := "NineDays$Reader", name := "more", desc := "()Z" } : Jvm.MethodName)) ∈ lw_ok := in_t 539 (by decide +kernel) rfl
theorem tw_541 : (Jvm.Cond.instanceMethod ({ cls := "NineDays$Reader", name := "more", desc := "()Z" } : Jvm.MethodName)) ∈ lw_ok := in_t 541 (by decide +kernel) rfl
theorem tw_543 : (Jvm.Cond.methodLink "NineDays$Reader" (50 : Nat) ({ cls := "NineDays$Reader", name := "skipBlanks", desc := "()V" } : Jvm.MethodName)) ∈ lw_ok := in_t 543 (by decide +kernel) rfl
theorem tw_545 : (Jvm.Cond.instanceMethod ({ cls := "NineDays$Reader", name := "skipBlanks", desc := "()V" } : Jvm.MethodName)) ∈ lw_ok := in_t 545 (by decide +kernel) rfl
theorem tw_547 : (Jvm.Cond.methodLink "NineDays$Reader" (46 : Nat) ({ cls := "NineDays$Reader", name := "readClause", desc := "(I)V" } : Jvm.MethodName)) ∈ lw_ok := in_t 547 (by decide +kernel) rfl
theorem tw_549 : (Jvm.Cond.instanceMethod ({ cls := "NineDays$Reader", name := "readClause", desc := "(I)V" } : Jvm.MethodName)) ∈ lw_ok := in_t 549 (by decide +kernel) rfl
theorem tw_551 : (Jvm.Cond.methodLink "NineDays$Reader" (53 : Nat) ({ cls := "NineDays$Reader", name := "takeWord", desc := "()V" } : Jvm.MethodName)) ∈ lw_ok := in_t 551 (by decide +kernel) rfl
theorem tw_553 : (Jvm.Cond.instanceMethod ({ cls := "NineDays$Reader", name := "takeWord", desc := "()V" } : Jvm.MethodName)) ∈ lw_ok := in_t 553 (by decide +kernel) rfl
theorem tw_556 : (Jvm.Cond.methodLink "NineDays$Reader" (58 : Nat) ({ cls := "NineDays$Reader", name := "spells", desc := "(Ljava/lang/String;)Z" } : Jvm.MethodName)) ∈ lw_ok := in_t 556 (by decide +kernel) rfl
theorem tw_558 : (Jvm.Cond.instanceMethod ({ cls := "NineDays$Reader", name := "spells", desc := "(Ljava/lang/String;)Z" } : Jvm.MethodName)) ∈ lw_ok := in_t 558 (by decide +kernel) rfl
theorem tw_560 : (Jvm.Cond.methodLink "NineDays$Reader" (117 : Nat) ({ cls := "java/lang/String", name := "length", desc := "()I" } : Jvm.MethodName)) ∈ lw_ok := in_t 560 (by decide +kernel) rfl
theorem tw_561 : (Jvm.Cond.instanceMethod ({ cls := "java/lang/String", name := "length", desc := "()I" } : Jvm.MethodName)) ∈ lw_ok := in_t 561 (by decide +kernel) rfl
theorem tw_562 : (Jvm.Cond.selects "java/lang/String" ({ cls := "java/lang/String", name := "length", desc := "()I" } : Jvm.MethodName) ({ cls := "java/lang/String", name := "length", desc := "()I" } : Jvm.MethodName)) ∈ lw_ok := in_t 562 (by decide +kernel) rfl
theorem tw_564 : (Jvm.Cond.methodLink "java/lang/String" (335 : Nat) ({ cls := "java/lang/String", name := "coder", desc := "()B" } : Jvm.MethodName)) ∈ lw_ok := in_t 564 (by decide +kernel) rfl
theorem tw_565 : (Jvm.Cond.instanceMethod ({ cls := "java/lang/String", name := "coder", desc := "()B" } : Jvm.MethodName)) ∈ lw_ok := in_t 565 (by decide +kernel) rfl
theorem tw_566 : (Jvm.Cond.selects "java/lang/String" ({ cls := "java/lang/String", name := "coder", desc := "()B" } : Jvm.MethodName) ({ cls := "java/lang/String", name := "coder", desc := "()B" } : Jvm.MethodName)) ∈ lw_ok := in_t 566 (by decide +kernel) rfl
theorem tw_568 : (Jvm.Cond.fieldLink "java/lang/String" (38 : Nat) "java/lang/String" "COMPACT_STRINGS" "Z") ∈ lw_ok := in_t 568 (by decide +kernel) rfl
theorem tw_570 : (Jvm.Cond.methodLink "NineDays$Reader" (121 : Nat) ({ cls := "java/lang/String", name := "charAt", desc := "(I)C" } : Jvm.MethodName)) ∈ lw_ok := in_t 570 (by decide +kernel) rfl
theorem tw_571 : (Jvm.Cond.instanceMethod ({ cls := "java/lang/String", name := "charAt", desc := "(I)C" } : Jvm.MethodName)) ∈ lw_ok := in_t 571 (by decide +kernel) rfl
theorem tw_572 : (Jvm.Cond.selects "java/lang/String" ({ cls := "java/lang/String", name := "charAt", desc := "(I)C" } : Jvm.MethodName) ({ cls := "java/lang/String", name := "charAt", desc := "(I)C" } : Jvm.MethodName)) ∈ lw_ok := in_t 572 (by decide +kernel) rfl
theorem tw_574 : (Jvm.Cond.methodLink "java/lang/String" (492 : Nat) ({ cls := "java/lang/String", name := "isLatin1", desc := "()Z" } : Jvm.MethodName)) ∈ lw_ok := in_t 574 (by decide +kernel) rfl
theorem tw_575 : (Jvm.Cond.instanceMethod ({ cls := "java/lang/String", name := "isLatin1", desc := "()Z" } : Jvm.MethodName)) ∈ lw_ok := in_t 575 (by decide +kernel) rfl
theorem tw_576 : (Jvm.Cond.selects "java/lang/String" ({ cls := "java/lang/String", name := "isLatin1", desc := "()Z" } : Jvm.MethodName) ({ cls := "java/lang/String", name := "isLatin1", desc := "()Z" } : Jvm.MethodName)) ∈ lw_ok := in_t 576 (by decide +kernel) rfl
theorem tw_578 : (Jvm.Cond.methodLink "java/lang/String" (495 : Nat) ({ cls := "java/lang/StringLatin1", name := "charAt", desc := "([BI)C" } : Jvm.MethodName)) ∈ lw_ok := in_t 578 (by decide +kernel) rfl
theorem tw_579 : (Jvm.Cond.static ({ cls := "java/lang/StringLatin1", name := "charAt", desc := "([BI)C" } : Jvm.MethodName)) ∈ lw_ok := in_t 579 (by decide +kernel) rfl
theorem tw_581 : (Jvm.Cond.methodLink "java/lang/StringLatin1" (9 : Nat) ({ cls := "java/lang/String", name := "checkIndex", desc := "(II)V" } : Jvm.MethodName)) ∈ lw_ok := in_t 581 (by decide +kernel) rfl
theorem tw_582 : (Jvm.Cond.static ({ cls := "java/lang/String", name := "checkIndex", desc := "(II)V" } : Jvm.MethodName)) ∈ lw_ok := in_t 582 (by decide +kernel) rfl
theorem tw_586 : (Jvm.Cond.methodLink "java/lang/String" (1059 : Nat) ({ cls := "jdk/internal/util/Preconditions", name := "checkIndex", desc := "(IILjava/util/function/BiFunction;)I" } : Jvm.MethodName)) ∈ lw_ok := in_t 586 (by decide +kernel) rfl
theorem tw_587 : (Jvm.Cond.static ({ cls := "jdk/internal/util/Preconditions", name := "checkIndex", desc := "(IILjava/util/function/BiFunction;)I" } : Jvm.MethodName)) ∈ lw_ok := in_t 587 (by decide +kernel) rfl
theorem tw_608 : (Jvm.Cond.methodLink "NineDays$Reader" (62 : Nat) ({ cls := "NineDays$Reader", name := "readNeed", desc := "()V" } : Jvm.MethodName)) ∈ lw_ok := in_t 608 (by decide +kernel) rfl
theorem tw_610 : (Jvm.Cond.instanceMethod ({ cls := "NineDays$Reader", name := "readNeed", desc := "()V" } : Jvm.MethodName)) ∈ lw_ok := in_t 610 (by decide +kernel) rfl
theorem tw_612 : (Jvm.Cond.methodLink "NineDays$Reader" (82 : Nat) ({ cls := "NineDays$Reader", name := "refuseNinth", desc := "()V" } : Jvm.MethodName)) ∈ lw_ok := in_t 612 (by decide +kernel) rfl
theorem tw_614 : (Jvm.Cond.instanceMethod ({ cls := "NineDays$Reader", name := "refuseNinth", desc := "()V" } : Jvm.MethodName)) ∈ lw_ok := in_t 614 (by decide +kernel) rfl
theorem tw_616 : (Jvm.Cond.methodLink "NineDays$Reader" (79 : Nat) ({ cls := "NineDays$Reader", name := "blame", desc := "(II)V" } : Jvm.MethodName)) ∈ lw_ok := in_t 616 (by decide +kernel) rfl
theorem tw_618 : (Jvm.Cond.instanceMethod ({ cls := "NineDays$Reader", name := "blame", desc := "(II)V" } : Jvm.MethodName)) ∈ lw_ok := in_t 618 (by decide +kernel) rfl
theorem tw_620 : (Jvm.Cond.methodLink "NineDays$Reader" (85 : Nat) ({ cls := "NineDays$Reader", name := "good", desc := "()I" } : Jvm.MethodName)) ∈ lw_ok := in_t 620 (by decide +kernel) rfl
theorem tw_622 : (Jvm.Cond.instanceMethod ({ cls := "NineDays$Reader", name := "good", desc := "()I" } : Jvm.MethodName)) ∈ lw_ok := in_t 622 (by decide +kernel) rfl
theorem tw_627 : (Jvm.Cond.methodLink "NineDays$Reader" (89 : Nat) ({ cls := "NineDays$Reader", name := "readStamp", desc := "(I)I" } : Jvm.MethodName)) ∈ lw_ok := in_t 627 (by decide +kernel) rfl
theorem tw_629 : (Jvm.Cond.instanceMethod ({ cls := "NineDays$Reader", name := "readStamp", desc := "(I)I" } : Jvm.MethodName)) ∈ lw_ok := in_t 629 (by decide +kernel) rfl
theorem tw_631 : (Jvm.Cond.methodLink "NineDays$Reader" (100 : Nat) ({ cls := "NineDays$Reader", name := "committee", desc := "()I" } : Jvm.MethodName)) ∈ lw_ok := in_t 631 (by decide +kernel) rfl
theorem tw_633 : (Jvm.Cond.instanceMethod ({ cls := "NineDays$Reader", name := "committee", desc := "()I" } : Jvm.MethodName)) ∈ lw_ok := in_t 633 (by decide +kernel) rfl
theorem tw_639 : (Jvm.Cond.methodLinkNest "NineDays$Reader" (103 : Nat) ({ cls := "NineDays", name := "has", desc := "(II)Z" } : Jvm.MethodName) "NineDays") ∈ lw_ok := in_t 639 (by decide +kernel) rfl
theorem tw_640 : (Jvm.Cond.static ({ cls := "NineDays", name := "has", desc := "(II)Z" } : Jvm.MethodName)) ∈ lw_ok := in_t 640 (by decide +kernel) rfl
theorem tw_642 : (Jvm.Cond.methodLink "NineDays$Reader" (93 : Nat) ({ cls := "NineDays$Reader", name := "takes", desc := "(C)Z" } : Jvm.MethodName)) ∈ lw_ok := in_t 642 (by decide +kernel) rfl
theorem tw_644 : (Jvm.Cond.instanceMethod ({ cls := "NineDays$Reader", name := "takes", desc := "(C)Z" } : Jvm.MethodName)) ∈ lw_ok := in_t 644 (by decide +kernel) rfl
theorem tw_646 : (Jvm.Cond.methodLink "NineDays$Reader" (97 : Nat) ({ cls := "NineDays$Reader", name := "close", desc := "(II)V" } : Jvm.MethodName)) ∈ lw_ok := in_t 646 (by decide +kernel) rfl
theorem tw_648 : (Jvm.Cond.instanceMethod ({ cls := "NineDays$Reader", name := "close", desc := "(II)V" } : Jvm.MethodName)) ∈ lw_ok := in_t 648 (by decide +kernel) rfl
theorem tw_651 : (Jvm.Cond.methodLink "NineDays$Reader" (67 : Nat) ({ cls := "NineDays$Reader", name := "readNumber", desc := "(II)V" } : Jvm.MethodName)) ∈ lw_ok := in_t 651 (by decide +kernel) rfl
theorem tw_653 : (Jvm.Cond.instanceMethod ({ cls := "NineDays$Reader", name := "readNumber", desc := "(II)V" } : Jvm.MethodName)) ∈ lw_ok := in_t 653 (by decide +kernel) rfl
theorem tw_655 : (Jvm.Cond.fieldLinkNest "NineDays$Reader" (107 : Nat) "NineDays" "LEAST" "[I" "NineDays") ∈ lw_ok := in_t 655 (by decide +kernel) rfl
theorem tw_657 : (Jvm.Cond.fieldLinkNest "NineDays$Reader" (110 : Nat) "NineDays" "MOST" "[I" "NineDays") ∈ lw_ok := in_t 657 (by decide +kernel) rfl
theorem tw_659 : (Jvm.Cond.methodLinkNest "NineDays$Reader" (113 : Nat) ({ cls := "NineDays", name := "beyond", desc := "(III)Z" } : Jvm.MethodName) "NineDays") ∈ lw_ok := in_t 659 (by decide +kernel) rfl
theorem tw_664 : (Jvm.Cond.methodLink "NineDays" (204 : Nat) ({ cls := "NineDays$Rules", name := "enact", desc := "(ILNineDays$Reader;)I" } : Jvm.MethodName)) ∈ lw_ok := in_t 664 (by decide +kernel) rfl
theorem tw_665 : (Jvm.Cond.instanceMethod ({ cls := "NineDays$Rules", name := "enact", desc := "(ILNineDays$Reader;)I" } : Jvm.MethodName)) ∈ lw_ok := in_t 665 (by decide +kernel) rfl
theorem tw_666 : (Jvm.Cond.selects "NineDays$Rules" ({ cls := "NineDays$Rules", name := "enact", desc := "(ILNineDays$Reader;)I" } : Jvm.MethodName) ({ cls := "NineDays$Rules", name := "enact", desc := "(ILNineDays$Reader;)I" } : Jvm.MethodName)) ∈ lw_ok := in_t 666 (by decide +kernel) rfl
theorem tw_668 : (Jvm.Cond.methodLink "NineDays$Rules" (37 : Nat) ({ cls := "java/lang/System", name := "arraycopy", desc := "(Ljava/lang/Object;ILjava/lang/Object;II)V" } : Jvm.MethodName)) ∈ lw_ok := in_t 668 (by decide +kernel) rfl
theorem tw_670 : (Jvm.Cond.methodLink "NineDaysLaw" (88 : Nat) ({ cls := "NineDays", name := "fault", desc := "()I" } : Jvm.MethodName)) ∈ lw_ok := in_t 670 (by decide +kernel) rfl
theorem tw_671 : (Jvm.Cond.instanceMethod ({ cls := "NineDays", name := "fault", desc := "()I" } : Jvm.MethodName)) ∈ lw_ok := in_t 671 (by decide +kernel) rfl
theorem tw_672 : (Jvm.Cond.selects "NineDays" ({ cls := "NineDays", name := "fault", desc := "()I" } : Jvm.MethodName) ({ cls := "NineDays", name := "fault", desc := "()I" } : Jvm.MethodName)) ∈ lw_ok := in_t 672 (by decide +kernel) rfl
theorem tw_674 : (Jvm.Cond.methodLink "NineDaysLaw" (93 : Nat) ({ cls := "NineDays", name := "force", desc := "(II)I" } : Jvm.MethodName)) ∈ lw_ok := in_t 674 (by decide +kernel) rfl
theorem tw_675 : (Jvm.Cond.instanceMethod ({ cls := "NineDays", name := "force", desc := "(II)I" } : Jvm.MethodName)) ∈ lw_ok := in_t 675 (by decide +kernel) rfl
theorem tw_676 : (Jvm.Cond.selects "NineDays" ({ cls := "NineDays", name := "force", desc := "(II)I" } : Jvm.MethodName) ({ cls := "NineDays", name := "force", desc := "(II)I" } : Jvm.MethodName)) ∈ lw_ok := in_t 676 (by decide +kernel) rfl
theorem tw_678 : (Jvm.Cond.methodLink "NineDays" (211 : Nat) ({ cls := "NineDays$Rules", name := "holdIn", desc := "(I[I)V" } : Jvm.MethodName)) ∈ lw_ok := in_t 678 (by decide +kernel) rfl
theorem tw_679 : (Jvm.Cond.instanceMethod ({ cls := "NineDays$Rules", name := "holdIn", desc := "(I[I)V" } : Jvm.MethodName)) ∈ lw_ok := in_t 679 (by decide +kernel) rfl
theorem tw_680 : (Jvm.Cond.selects "NineDays$Rules" ({ cls := "NineDays$Rules", name := "holdIn", desc := "(I[I)V" } : Jvm.MethodName) ({ cls := "NineDays$Rules", name := "holdIn", desc := "(I[I)V" } : Jvm.MethodName)) ∈ lw_ok := in_t 680 (by decide +kernel) rfl
theorem tw_682 : (Jvm.Cond.fieldLinkNest "NineDays$Rules" (44 : Nat) "NineDays" "AT_FIRST" "[I" "NineDays") ∈ lw_ok := in_t 682 (by decide +kernel) rfl
theorem tw_684 : (Jvm.Cond.methodLink "NineDays$Rules" (47 : Nat) ({ cls := "NineDays$Rules", name := "countingIn", desc := "(I)I" } : Jvm.MethodName)) ∈ lw_ok := in_t 684 (by decide +kernel) rfl
theorem tw_686 : (Jvm.Cond.instanceMethod ({ cls := "NineDays$Rules", name := "countingIn", desc := "(I)I" } : Jvm.MethodName)) ∈ lw_ok := in_t 686 (by decide +kernel) rfl
theorem tw_688 : (Jvm.Cond.methodLinkNest "NineDays$Rules" (51 : Nat) ({ cls := "NineDays", name := "has", desc := "(II)Z" } : Jvm.MethodName) "NineDays") ∈ lw_ok := in_t 688 (by decide +kernel) rfl
theorem tw_689 : (Jvm.Cond.methodLink "NineDays$Rules" (59 : Nat) ({ cls := "NineDays$Rules", name := "struckBy", desc := "(I)I" } : Jvm.MethodName)) ∈ lw_ok := in_t 689 (by decide +kernel) rfl
theorem tw_691 : (Jvm.Cond.instanceMethod ({ cls := "NineDays$Rules", name := "struckBy", desc := "(I)I" } : Jvm.MethodName)) ∈ lw_ok := in_t 691 (by decide +kernel) rfl
theorem tw_693 : (Jvm.Cond.methodLink "NineDays$Rules" (55 : Nat) ({ cls := "NineDays$Rules", name := "apply", desc := "(I[I)V" } : Jvm.MethodName)) ∈ lw_ok := in_t 693 (by decide +kernel) rfl
theorem tw_695 : (Jvm.Cond.instanceMethod ({ cls := "NineDays$Rules", name := "apply", desc := "(I[I)V" } : Jvm.MethodName)) ∈ lw_ok := in_t 695 (by decide +kernel) rfl
theorem tw_697 : (Jvm.Cond.methodLink "NineDaysLaw" (97 : Nat) ({ cls := "NineDays", name := "load", desc := "(IIIII)I" } : Jvm.MethodName)) ∈ lw_ok := in_t 697 (by decide +kernel) rfl
theorem tw_698 : (Jvm.Cond.instanceMethod ({ cls := "NineDays", name := "load", desc := "(IIIII)I" } : Jvm.MethodName)) ∈ lw_ok := in_t 698 (by decide +kernel) rfl
theorem tw_699 : (Jvm.Cond.selects "NineDays" ({ cls := "NineDays", name := "load", desc := "(IIIII)I" } : Jvm.MethodName) ({ cls := "NineDays", name := "load", desc := "(IIIII)I" } : Jvm.MethodName)) ∈ lw_ok := in_t 699 (by decide +kernel) rfl
theorem tw_701 : (Jvm.Cond.methodLink "NineDays" (215 : Nat) ({ cls := "NineDays$Loads", name := "add", desc := "(IIIII)I" } : Jvm.MethodName)) ∈ lw_ok := in_t 701 (by decide +kernel) rfl
theorem tw_702 : (Jvm.Cond.instanceMethod ({ cls := "NineDays$Loads", name := "add", desc := "(IIIII)I" } : Jvm.MethodName)) ∈ lw_ok := in_t 702 (by decide +kernel) rfl
theorem tw_703 : (Jvm.Cond.selects "NineDays$Loads" ({ cls := "NineDays$Loads", name := "add", desc := "(IIIII)I" } : Jvm.MethodName) ({ cls := "NineDays$Loads", name := "add", desc := "(IIIII)I" } : Jvm.MethodName)) ∈ lw_ok := in_t 703 (by decide +kernel) rfl
theorem tw_705 : (Jvm.Cond.methodLink "NineDaysLaw" (102 : Nat) ({ cls := "NineDays", name := "stamp", desc := "(II)I" } : Jvm.MethodName)) ∈ lw_ok := in_t 705 (by decide +kernel) rfl
theorem tw_706 : (Jvm.Cond.instanceMethod ({ cls := "NineDays", name := "stamp", desc := "(II)I" } : Jvm.MethodName)) ∈ lw_ok := in_t 706 (by decide +kernel) rfl
theorem tw_707 : (Jvm.Cond.selects "NineDays" ({ cls := "NineDays", name := "stamp", desc := "(II)I" } : Jvm.MethodName) ({ cls := "NineDays", name := "stamp", desc := "(II)I" } : Jvm.MethodName)) ∈ lw_ok := in_t 707 (by decide +kernel) rfl
theorem tw_709 : (Jvm.Cond.methodLink "NineDaysLaw" (106 : Nat) ({ cls := "NineDays", name := "told", desc := "(II)I" } : Jvm.MethodName)) ∈ lw_ok := in_t 709 (by decide +kernel) rfl
theorem tw_710 : (Jvm.Cond.instanceMethod ({ cls := "NineDays", name := "told", desc := "(II)I" } : Jvm.MethodName)) ∈ lw_ok := in_t 710 (by decide +kernel) rfl
theorem tw_711 : (Jvm.Cond.selects "NineDays" ({ cls := "NineDays", name := "told", desc := "(II)I" } : Jvm.MethodName) ({ cls := "NineDays", name := "told", desc := "(II)I" } : Jvm.MethodName)) ∈ lw_ok := in_t 711 (by decide +kernel) rfl
theorem tw_713 : (Jvm.Cond.methodLink "NineDaysLaw" (110 : Nat) ({ cls := "NineDays", name := "clash", desc := "(I)I" } : Jvm.MethodName)) ∈ lw_ok := in_t 713 (by decide +kernel) rfl
theorem tw_714 : (Jvm.Cond.instanceMethod ({ cls := "NineDays", name := "clash", desc := "(I)I" } : Jvm.MethodName)) ∈ lw_ok := in_t 714 (by decide +kernel) rfl
theorem tw_715 : (Jvm.Cond.selects "NineDays" ({ cls := "NineDays", name := "clash", desc := "(I)I" } : Jvm.MethodName) ({ cls := "NineDays", name := "clash", desc := "(I)I" } : Jvm.MethodName)) ∈ lw_ok := in_t 715 (by decide +kernel) rfl
theorem tw_717 : (Jvm.Cond.methodLink "NineDays" (244 : Nat) ({ cls := "NineDays$Loads", name := "clashes", desc := "(I[I)Z" } : Jvm.MethodName)) ∈ lw_ok := in_t 717 (by decide +kernel) rfl
theorem tw_718 : (Jvm.Cond.instanceMethod ({ cls := "NineDays$Loads", name := "clashes", desc := "(I[I)Z" } : Jvm.MethodName)) ∈ lw_ok := in_t 718 (by decide +kernel) rfl
theorem tw_719 : (Jvm.Cond.selects "NineDays$Loads" ({ cls := "NineDays$Loads", name := "clashes", desc := "(I[I)Z" } : Jvm.MethodName) ({ cls := "NineDays$Loads", name := "clashes", desc := "(I[I)Z" } : Jvm.MethodName)) ∈ lw_ok := in_t 719 (by decide +kernel) rfl
theorem tw_721 : (Jvm.Cond.methodLink "NineDays$Loads" (34 : Nat) ({ cls := "NineDays$Loads", name := "missing", desc := "(I[I)I" } : Jvm.MethodName)) ∈ lw_ok := in_t 721 (by decide +kernel) rfl
theorem tw_722 : (Jvm.Cond.instanceMethod ({ cls := "NineDays$Loads", name := "missing", desc := "(I[I)I" } : Jvm.MethodName)) ∈ lw_ok := in_t 722 (by decide +kernel) rfl
theorem tw_723 : (Jvm.Cond.selects "NineDays$Loads" ({ cls := "NineDays$Loads", name := "missing", desc := "(I[I)I" } : Jvm.MethodName) ({ cls := "NineDays$Loads", name := "missing", desc := "(I[I)I" } : Jvm.MethodName)) ∈ lw_ok := in_t 723 (by decide +kernel) rfl
theorem tw_725 : (Jvm.Cond.methodLink "NineDaysLaw" (114 : Nat) ({ cls := "NineDays", name := "words", desc := "()I" } : Jvm.MethodName)) ∈ lw_ok := in_t 725 (by decide +kernel) rfl
theorem tw_726 : (Jvm.Cond.instanceMethod ({ cls := "NineDays", name := "words", desc := "()I" } : Jvm.MethodName)) ∈ lw_ok := in_t 726 (by decide +kernel) rfl
theorem tw_727 : (Jvm.Cond.selects "NineDays" ({ cls := "NineDays", name := "words", desc := "()I" } : Jvm.MethodName) ({ cls := "NineDays", name := "words", desc := "()I" } : Jvm.MethodName)) ∈ lw_ok := in_t 727 (by decide +kernel) rfl
theorem tw_729 : (Jvm.Cond.methodLink "NineDays" (248 : Nat) ({ cls := "NineDays$Loads", name := "missing", desc := "(I[I)I" } : Jvm.MethodName)) ∈ lw_ok := in_t 729 (by decide +kernel) rfl
theorem tw_730 : (Jvm.Cond.methodLink "NineDaysLaw" (118 : Nat) ({ cls := "NineDays", name := "go", desc := "(I)I" } : Jvm.MethodName)) ∈ lw_ok := in_t 730 (by decide +kernel) rfl
theorem tw_731 : (Jvm.Cond.instanceMethod ({ cls := "NineDays", name := "go", desc := "(I)I" } : Jvm.MethodName)) ∈ lw_ok := in_t 731 (by decide +kernel) rfl
theorem tw_732 : (Jvm.Cond.selects "NineDays" ({ cls := "NineDays", name := "go", desc := "(I)I" } : Jvm.MethodName) ({ cls := "NineDays", name := "go", desc := "(I)I" } : Jvm.MethodName)) ∈ lw_ok := in_t 732 (by decide +kernel) rfl
theorem tw_734 : (Jvm.Cond.methodLink "NineDays" (252 : Nat) ({ cls := "NineDays$Days", name := "run", desc := "(IIZ)I" } : Jvm.MethodName)) ∈ lw_ok := in_t 734 (by decide +kernel) rfl
theorem tw_735 : (Jvm.Cond.instanceMethod ({ cls := "NineDays$Days", name := "run", desc := "(IIZ)I" } : Jvm.MethodName)) ∈ lw_ok := in_t 735 (by decide +kernel) rfl
theorem tw_736 : (Jvm.Cond.selects "NineDays$Days" ({ cls := "NineDays$Days", name := "run", desc := "(IIZ)I" } : Jvm.MethodName) ({ cls := "NineDays$Days", name := "run", desc := "(IIZ)I" } : Jvm.MethodName)) ∈ lw_ok := in_t 736 (by decide +kernel) rfl
theorem tw_738 : (Jvm.Cond.methodLink "NineDays$Days" (95 : Nat) ({ cls := "NineDays$Days", name := "listenAhead", desc := "(IZ)V" } : Jvm.MethodName)) ∈ lw_ok := in_t 738 (by decide +kernel) rfl
theorem tw_740 : (Jvm.Cond.instanceMethod ({ cls := "NineDays$Days", name := "listenAhead", desc := "(IZ)V" } : Jvm.MethodName)) ∈ lw_ok := in_t 740 (by decide +kernel) rfl
theorem tw_742 : (Jvm.Cond.methodLink "NineDays$Days" (103 : Nat) ({ cls := "NineDays$Orders", name := "listen", desc := "(IZ)V" } : Jvm.MethodName)) ∈ lw_ok := in_t 742 (by decide +kernel) rfl
theorem tw_743 : (Jvm.Cond.methodLink "NineDays$Days" (108 : Nat) ({ cls := "NineDays$Orders", name := "calls", desc := "(I)Z" } : Jvm.MethodName)) ∈ lw_ok := in_t 743 (by decide +kernel) rfl
theorem tw_744 : (Jvm.Cond.methodLink "NineDays$Days" (99 : Nat) ({ cls := "NineDays$Days", name := "step", desc := "(IZ)I" } : Jvm.MethodName)) ∈ lw_ok := in_t 744 (by decide +kernel) rfl
theorem tw_746 : (Jvm.Cond.instanceMethod ({ cls := "NineDays$Days", name := "step", desc := "(IZ)I" } : Jvm.MethodName)) ∈ lw_ok := in_t 746 (by decide +kernel) rfl
theorem tw_748 : (Jvm.Cond.methodLink "NineDays$Days" (112 : Nat) ({ cls := "NineDays$Rules", name := "holdIn", desc := "(I[I)V" } : Jvm.MethodName)) ∈ lw_ok := in_t 748 (by decide +kernel) rfl
theorem tw_749 : (Jvm.Cond.methodLink "NineDays$Days" (118 : Nat) ({ cls := "NineDays$Days", name := "arrive", desc := "(I)V" } : Jvm.MethodName)) ∈ lw_ok := in_t 749 (by decide +kernel) rfl
theorem tw_751 : (Jvm.Cond.instanceMethod ({ cls := "NineDays$Days", name := "arrive", desc := "(I)V" } : Jvm.MethodName)) ∈ lw_ok := in_t 751 (by decide +kernel) rfl
theorem tw_753 : (Jvm.Cond.methodLink "NineDays$Days" (148 : Nat) ({ cls := "java/lang/Math", name := "min", desc := "(II)I" } : Jvm.MethodName)) ∈ lw_ok := in_t 753 (by decide +kernel) rfl
theorem tw_754 : (Jvm.Cond.methodLink "NineDays$Days" (122 : Nat) ({ cls := "NineDays$Days", name := "callOut", desc := "()V" } : Jvm.MethodName)) ∈ lw_ok := in_t 754 (by decide +kernel) rfl
theorem tw_756 : (Jvm.Cond.instanceMethod ({ cls := "NineDays$Days", name := "callOut", desc := "()V" } : Jvm.MethodName)) ∈ lw_ok := in_t 756 (by decide +kernel) rfl
theorem tw_758 : (Jvm.Cond.methodLink "NineDays$Days" (125 : Nat) ({ cls := "NineDays$Days", name := "payAll", desc := "()V" } : Jvm.MethodName)) ∈ lw_ok := in_t 758 (by decide +kernel) rfl
theorem tw_760 : (Jvm.Cond.instanceMethod ({ cls := "NineDays$Days", name := "payAll", desc := "()V" } : Jvm.MethodName)) ∈ lw_ok := in_t 760 (by decide +kernel) rfl
theorem tw_762 : (Jvm.Cond.methodLink "NineDays$Days" (157 : Nat) ({ cls := "NineDays$Days", name := "payDay", desc := "(I)V" } : Jvm.MethodName)) ∈ lw_ok := in_t 762 (by decide +kernel) rfl
theorem tw_764 : (Jvm.Cond.instanceMethod ({ cls := "NineDays$Days", name := "payDay", desc := "(I)V" } : Jvm.MethodName)) ∈ lw_ok := in_t 764 (by decide +kernel) rfl
theorem tw_766 : (Jvm.Cond.methodLink "NineDays$Days" (160 : Nat) ({ cls := "java/lang/Math", name := "max", desc := "(II)I" } : Jvm.MethodName)) ∈ lw_ok := in_t 766 (by decide +kernel) rfl
theorem tw_769 : (Jvm.Cond.methodLink "NineDays$Days" (131 : Nat) ({ cls := "NineDays$Days", name := "send", desc := "(II)V" } : Jvm.MethodName)) ∈ lw_ok := in_t 769 (by decide +kernel) rfl
theorem tw_771 : (Jvm.Cond.instanceMethod ({ cls := "NineDays$Days", name := "send", desc := "(II)V" } : Jvm.MethodName)) ∈ lw_ok := in_t 771 (by decide +kernel) rfl
theorem tw_773 : (Jvm.Cond.methodLink "NineDays$Days" (163 : Nat) ({ cls := "NineDays$Loads", name := "missing", desc := "(I[I)I" } : Jvm.MethodName)) ∈ lw_ok := in_t 773 (by decide +kernel) rfl
theorem tw_774 : (Jvm.Cond.methodLink "NineDays$Days" (170 : Nat) ({ cls := "NineDays$Land", name := "way", desc := "(II)I" } : Jvm.MethodName)) ∈ lw_ok := in_t 774 (by decide +kernel) rfl
theorem tw_775 : (Jvm.Cond.methodLink "NineDays$Days" (135 : Nat) ({ cls := "NineDays$Days", name := "use", desc := "(I)I" } : Jvm.MethodName)) ∈ lw_ok := in_t 775 (by decide +kernel) rfl
theorem tw_777 : (Jvm.Cond.instanceMethod ({ cls := "NineDays$Days", name := "use", desc := "(I)I" } : Jvm.MethodName)) ∈ lw_ok := in_t 777 (by decide +kernel) rfl
theorem tw_779 : (Jvm.Cond.methodLink "NineDaysLaw" (122 : Nat) ({ cls := "NineDays", name := "leave", desc := "(IIIIZ)I" } : Jvm.MethodName)) ∈ lw_ok := in_t 779 (by decide +kernel) rfl
theorem tw_780 : (Jvm.Cond.instanceMethod ({ cls := "NineDays", name := "leave", desc := "(IIIIZ)I" } : Jvm.MethodName)) ∈ lw_ok := in_t 780 (by decide +kernel) rfl
theorem tw_781 : (Jvm.Cond.selects "NineDays" ({ cls := "NineDays", name := "leave", desc := "(IIIIZ)I" } : Jvm.MethodName) ({ cls := "NineDays", name := "leave", desc := "(IIIIZ)I" } : Jvm.MethodName)) ∈ lw_ok := in_t 781 (by decide +kernel) rfl
theorem tw_783 : (Jvm.Cond.methodLink "NineDays" (256 : Nat) ({ cls := "NineDays$Leaves", name := "give", desc := "(IIIIZ)I" } : Jvm.MethodName)) ∈ lw_ok := in_t 783 (by decide +kernel) rfl
theorem tw_784 : (Jvm.Cond.instanceMethod ({ cls := "NineDays$Leaves", name := "give", desc := "(IIIIZ)I" } : Jvm.MethodName)) ∈ lw_ok := in_t 784 (by decide +kernel) rfl
theorem tw_785 : (Jvm.Cond.selects "NineDays$Leaves" ({ cls := "NineDays$Leaves", name := "give", desc := "(IIIIZ)I" } : Jvm.MethodName) ({ cls := "NineDays$Leaves", name := "give", desc := "(IIIIZ)I" } : Jvm.MethodName)) ∈ lw_ok := in_t 785 (by decide +kernel) rfl
theorem tw_787 : (Jvm.Cond.methodLink "NineDaysLaw" (127 : Nat) ({ cls := "NineDays", name := "binds", desc := "(III)I" } : Jvm.MethodName)) ∈ lw_ok := in_t 787 (by decide +kernel) rfl
theorem tw_788 : (Jvm.Cond.instanceMethod ({ cls := "NineDays", name := "binds", desc := "(III)I" } : Jvm.MethodName)) ∈ lw_ok := in_t 788 (by decide +kernel) rfl
theorem tw_789 : (Jvm.Cond.selects "NineDays" ({ cls := "NineDays", name := "binds", desc := "(III)I" } : Jvm.MethodName) ({ cls := "NineDays", name := "binds", desc := "(III)I" } : Jvm.MethodName)) ∈ lw_ok := in_t 789 (by decide +kernel) rfl
theorem tw_791 : (Jvm.Cond.methodLink "NineDays" (259 : Nat) ({ cls := "NineDays$Leaves", name := "bound", desc := "(IIZ)I" } : Jvm.MethodName)) ∈ lw_ok := in_t 791 (by decide +kernel) rfl
theorem tw_792 : (Jvm.Cond.instanceMethod ({ cls := "NineDays$Leaves", name := "bound", desc := "(IIZ)I" } : Jvm.MethodName)) ∈ lw_ok := in_t 792 (by decide +kernel) rfl
theorem tw_793 : (Jvm.Cond.selects "NineDays$Leaves" ({ cls := "NineDays$Leaves", name := "bound", desc := "(IIZ)I" } : Jvm.MethodName) ({ cls := "NineDays$Leaves", name := "bound", desc := "(IIZ)I" } : Jvm.MethodName)) ∈ lw_ok := in_t 793 (by decide +kernel) rfl
theorem tw_795 : (Jvm.Cond.methodLink "NineDays$Leaves" (32 : Nat) ({ cls := "NineDays$Leaves", name := "inForce", desc := "(II)Z" } : Jvm.MethodName)) ∈ lw_ok := in_t 795 (by decide +kernel) rfl
theorem tw_797 : (Jvm.Cond.instanceMethod ({ cls := "NineDays$Leaves", name := "inForce", desc := "(II)Z" } : Jvm.MethodName)) ∈ lw_ok := in_t 797 (by decide +kernel) rfl
theorem tw_799 : (Jvm.Cond.methodLinkNest "NineDays$Leaves" (36 : Nat) ({ cls := "NineDays", name := "has", desc := "(II)Z" } : Jvm.MethodName) "NineDays") ∈ lw_ok := in_t 799 (by decide +kernel) rfl
theorem tw_800 : (Jvm.Cond.methodLink "NineDays" (262 : Nat) ({ cls := "NineDays", name := "has", desc := "(II)Z" } : Jvm.MethodName)) ∈ lw_ok := in_t 800 (by decide +kernel) rfl
theorem tw_801 : (Jvm.Cond.methodLink "NineDaysLaw" (131 : Nat) ({ cls := "NineDays", name := "last", desc := "(I)I" } : Jvm.MethodName)) ∈ lw_ok := in_t 801 (by decide +kernel) rfl
theorem tw_802 : (Jvm.Cond.instanceMethod ({ cls := "NineDays", name := "last", desc := "(I)I" } : Jvm.MethodName)) ∈ lw_ok := in_t 802 (by decide +kernel) rfl
theorem tw_803 : (Jvm.Cond.selects "NineDays" ({ cls := "NineDays", name := "last", desc := "(I)I" } : Jvm.MethodName) ({ cls := "NineDays", name := "last", desc := "(I)I" } : Jvm.MethodName)) ∈ lw_ok := in_t 803 (by decide +kernel) rfl
theorem tw_805 : (Jvm.Cond.methodLink "NineDays" (265 : Nat) ({ cls := "NineDays", name := "daysPaid", desc := "(I)I" } : Jvm.MethodName)) ∈ lw_ok := in_t 805 (by decide +kernel) rfl
theorem tw_807 : (Jvm.Cond.instanceMethod ({ cls := "NineDays", name := "daysPaid", desc := "(I)I" } : Jvm.MethodName)) ∈ lw_ok := in_t 807 (by decide +kernel) rfl
theorem tw_809 : (Jvm.Cond.methodLink "NineDaysLaw" (135 : Nat) ({ cls := "NineDays", name := "lending", desc := "(I)I" } : Jvm.MethodName)) ∈ lw_ok := in_t 809 (by decide +kernel) rfl
theorem tw_810 : (Jvm.Cond.instanceMethod ({ cls := "NineDays", name := "lending", desc := "(I)I" } : Jvm.MethodName)) ∈ lw_ok := in_t 810 (by decide +kernel) rfl
theorem tw_811 : (Jvm.Cond.selects "NineDays" ({ cls := "NineDays", name := "lending", desc := "(I)I" } : Jvm.MethodName) ({ cls := "NineDays", name := "lending", desc := "(I)I" } : Jvm.MethodName)) ∈ lw_ok := in_t 811 (by decide +kernel) rfl
theorem tw_813 : (Jvm.Cond.methodLink "NineDaysLaw" (139 : Nat) ({ cls := "NineDays", name := "table", desc := "(III)I" } : Jvm.MethodName)) ∈ lw_ok := in_t 813 (by decide +kernel) rfl
theorem tw_814 : (Jvm.Cond.instanceMethod ({ cls := "NineDays", name := "table", desc := "(III)I" } : Jvm.MethodName)) ∈ lw_ok := in_t 814 (by decide +kernel) rfl
theorem tw_815 : (Jvm.Cond.selects "NineDays" ({ cls := "NineDays", name := "table", desc := "(III)I" } : Jvm.MethodName) ({ cls := "NineDays", name := "table", desc := "(III)I" } : Jvm.MethodName)) ∈ lw_ok := in_t 815 (by decide +kernel) rfl
theorem tw_817 : (Jvm.Cond.methodLink "NineDaysLaw" (143 : Nat) ({ cls := "NineDays", name := "game", desc := "(III)I" } : Jvm.MethodName)) ∈ lw_ok := in_t 817 (by decide +kernel) rfl
theorem tw_818 : (Jvm.Cond.instanceMethod ({ cls := "NineDays", name := "game", desc := "(III)I" } : Jvm.MethodName)) ∈ lw_ok := in_t 818 (by decide +kernel) rfl
theorem tw_819 : (Jvm.Cond.selects "NineDays" ({ cls := "NineDays", name := "game", desc := "(III)I" } : Jvm.MethodName) ({ cls := "NineDays", name := "game", desc := "(III)I" } : Jvm.MethodName)) ∈ lw_ok := in_t 819 (by decide +kernel) rfl
theorem tw_821 : (Jvm.Cond.methodLink "NineDays" (271 : Nat) ({ cls := "NineDays$Game", name := "solve", desc := "(II)V" } : Jvm.MethodName)) ∈ lw_ok := in_t 821 (by decide +kernel) rfl
theorem tw_822 : (Jvm.Cond.instanceMethod ({ cls := "NineDays$Game", name := "solve", desc := "(II)V" } : Jvm.MethodName)) ∈ lw_ok := in_t 822 (by decide +kernel) rfl
theorem tw_823 : (Jvm.Cond.selects "NineDays$Game" ({ cls := "NineDays$Game", name := "solve", desc := "(II)V" } : Jvm.MethodName) ({ cls := "NineDays$Game", name := "solve", desc := "(II)V" } : Jvm.MethodName)) ∈ lw_ok := in_t 823 (by decide +kernel) rfl
theorem tw_825 : (Jvm.Cond.methodLink "NineDays$Game" (37 : Nat) ({ cls := "java/lang/Math", name := "min", desc := "(II)I" } : Jvm.MethodName)) ∈ lw_ok := in_t 825 (by decide +kernel) rfl
theorem tw_826 : (Jvm.Cond.methodLink "NineDays$Game" (41 : Nat) ({ cls := "java/lang/Math", name := "max", desc := "(II)I" } : Jvm.MethodName)) ∈ lw_ok := in_t 826 (by decide +kernel) rfl
theorem tw_827 : (Jvm.Cond.methodLink "NineDays$Game" (44 : Nat) ({ cls := "NineDays$Game", name := "solveDay", desc := "(IIIZ)V" } : Jvm.MethodName)) ∈ lw_ok := in_t 827 (by decide +kernel) rfl
theorem tw_829 : (Jvm.Cond.instanceMethod ({ cls := "NineDays$Game", name := "solveDay", desc := "(IIIZ)V" } : Jvm.MethodName)) ∈ lw_ok := in_t 829 (by decide +kernel) rfl
theorem tw_831 : (Jvm.Cond.methodLink "NineDays$Game" (48 : Nat) ({ cls := "NineDays$Game", name := "answer", desc := "(IIZ)I" } : Jvm.MethodName)) ∈ lw_ok := in_t 831 (by decide +kernel) rfl
theorem tw_833 : (Jvm.Cond.instanceMethod ({ cls := "NineDays$Game", name := "answer", desc := "(IIZ)I" } : Jvm.MethodName)) ∈ lw_ok := in_t 833 (by decide +kernel) rfl
theorem tw_835 : (Jvm.Cond.methodLink "NineDays$Game" (52 : Nat) ({ cls := "NineDays$Game", name := "outcome", desc := "(IZ)I" } : Jvm.MethodName)) ∈ lw_ok := in_t 835 (by decide +kernel) rfl
theorem tw_837 : (Jvm.Cond.instanceMethod ({ cls := "NineDays$Game", name := "outcome", desc := "(IZ)I" } : Jvm.MethodName)) ∈ lw_ok := in_t 837 (by decide +kernel) rfl
theorem tw_839 : (Jvm.Cond.methodLink "NineDays$Game" (31 : Nat) ({ cls := "java/lang/Math", name := "abs", desc := "(I)I" } : Jvm.MethodName)) ∈ lw_ok := in_t 839 (by decide +kernel) rfl
theorem tw_842 : (Jvm.Cond.methodLink "NineDaysLaw" (147 : Nat) ({ cls := "NineDays", name := "judge", desc := "(III)I" } : Jvm.MethodName)) ∈ lw_ok := in_t 842 (by decide +kernel) rfl
theorem tw_843 : (Jvm.Cond.instanceMethod ({ cls := "NineDays", name := "judge", desc := "(III)I" } : Jvm.MethodName)) ∈ lw_ok := in_t 843 (by decide +kernel) rfl
theorem tw_844 : (Jvm.Cond.selects "NineDays" ({ cls := "NineDays", name := "judge", desc := "(III)I" } : Jvm.MethodName) ({ cls := "NineDays", name := "judge", desc := "(III)I" } : Jvm.MethodName)) ∈ lw_ok := in_t 844 (by decide +kernel) rfl
theorem tw_846 : (Jvm.Cond.methodLink "NineDays" (281 : Nat) ({ cls := "NineDays$Game", name := "rows", desc := "(I)I" } : Jvm.MethodName)) ∈ lw_ok := in_t 846 (by decide +kernel) rfl
theorem tw_847 : (Jvm.Cond.static ({ cls := "NineDays$Game", name := "rows", desc := "(I)I" } : Jvm.MethodName)) ∈ lw_ok := in_t 847 (by decide +kernel) rfl
theorem tw_849 : (Jvm.Cond.methodLink "NineDays" (284 : Nat) ({ cls := "NineDays$Game", name := "score", desc := "(III)I" } : Jvm.MethodName)) ∈ lw_ok := in_t 849 (by decide +kernel) rfl
theorem tw_850 : (Jvm.Cond.instanceMethod ({ cls := "NineDays$Game", name := "score", desc := "(III)I" } : Jvm.MethodName)) ∈ lw_ok := in_t 850 (by decide +kernel) rfl
theorem tw_851 : (Jvm.Cond.selects "NineDays$Game" ({ cls := "NineDays$Game", name := "score", desc := "(III)I" } : Jvm.MethodName) ({ cls := "NineDays$Game", name := "score", desc := "(III)I" } : Jvm.MethodName)) ∈ lw_ok := in_t 851 (by decide +kernel) rfl
theorem tw_853 : (Jvm.Cond.methodLink "NineDaysLaw" (151 : Nat) ({ cls := "NineDays", name := "beside", desc := "(Z)I" } : Jvm.MethodName)) ∈ lw_ok := in_t 853 (by decide +kernel) rfl
theorem tw_854 : (Jvm.Cond.instanceMethod ({ cls := "NineDays", name := "beside", desc := "(Z)I" } : Jvm.MethodName)) ∈ lw_ok := in_t 854 (by decide +kernel) rfl
theorem tw_855 : (Jvm.Cond.selects "NineDays" ({ cls := "NineDays", name := "beside", desc := "(Z)I" } : Jvm.MethodName) ({ cls := "NineDays", name := "beside", desc := "(Z)I" } : Jvm.MethodName)) ∈ lw_ok := in_t 855 (by decide +kernel) rfl
theorem tw_857 : (Jvm.Cond.methodLink "NineDays" (287 : Nat) ({ cls := "NineDays$Days", name := "beginAnew", desc := "()V" } : Jvm.MethodName)) ∈ lw_ok := in_t 857 (by decide +kernel) rfl
theorem tw_858 : (Jvm.Cond.classLink "NineDaysLaw" (10 : Nat) "NineDaysModel") ∈ lw_ok := in_t 858 (by decide +kernel) rfl
theorem tw_859 : (Jvm.Cond.instantiable "NineDaysModel" (60 : Nat)) ∈ lw_ok := in_t 859 (by decide +kernel) rfl
theorem tw_860 : (Jvm.Cond.methodLink "NineDaysLaw" (12 : Nat) ({ cls := "NineDaysModel", name := "<init>", desc := "()V" } : Jvm.MethodName)) ∈ lw_ok := in_t 860 (by decide +kernel) rfl
theorem tw_861 : (Jvm.Cond.instanceMethod ({ cls := "NineDaysModel", name := "<init>", desc := "()V" } : Jvm.MethodName)) ∈ lw_ok := in_t 861 (by decide +kernel) rfl
theorem tw_863 : (Jvm.Cond.methodLink "NineDaysModel" (1 : Nat) ({ cls := "java/lang/Object", name := "<init>", desc := "()V" } : Jvm.MethodName)) ∈ lw_ok := in_t 863 (by decide +kernel) rfl
theorem tw_864 : (Jvm.Cond.constant "NineDaysModel" (147 : Nat) (1000000 : Int32)) ∈ lw_ok := in_t 864 (by decide +kernel) rfl
theorem tw_865 : (Jvm.Cond.fieldLink "NineDaysModel" (197 : Nat) "NineDaysModel" "now" "I") ∈ lw_ok := in_t 865 (by decide +kernel) rfl
theorem tw_866 : (Jvm.Cond.fieldLink "NineDaysModel" (164 : Nat) "NineDaysModel" "roads" "I") ∈ lw_ok := in_t 866 (by decide +kernel) rfl
theorem tw_867 : (Jvm.Cond.fieldLink "NineDaysModel" (7 : Nat) "NineDaysModel" "way" "[I") ∈ lw_ok := in_t 867 (by decide +kernel) rfl
theorem tw_868 : (Jvm.Cond.fieldLink "NineDaysModel" (13 : Nat) "NineDaysModel" "store" "[I") ∈ lw_ok := in_t 868 (by decide +kernel) rfl
theorem tw_869 : (Jvm.Cond.fieldLink "NineDaysModel" (16 : Nat) "NineDaysModel" "handStore" "[I") ∈ lw_ok := in_t 869 (by decide +kernel) rfl
theorem tw_870 : (Jvm.Cond.fieldLink "NineDaysModel" (19 : Nat) "NineDaysModel" "needOf" "[I") ∈ lw_ok := in_t 870 (by decide +kernel) rfl
theorem tw_871 : (Jvm.Cond.fieldLink "NineDaysModel" (22 : Nat) "NineDaysModel" "hunger" "[I") ∈ lw_ok := in_t 871 (by decide +kernel) rfl
theorem tw_872 : (Jvm.Cond.fieldLink "NineDaysModel" (25 : Nat) "NineDaysModel" "firstLack" "[I") ∈ lw_ok := in_t 872 (by decide +kernel) rfl
theorem tw_873 : (Jvm.Cond.fieldLink "NineDaysModel" (28 : Nat) "NineDaysModel" "members" "[I") ∈ lw_ok := in_t 873 (by decide +kernel) rfl
theorem tw_874 : (Jvm.Cond.fieldLink "NineDaysModel" (31 : Nat) "NineDaysModel" "out" "[I") ∈ lw_ok := in_t 874 (by decide +kernel) rfl
theorem tw_875 : (Jvm.Cond.fieldLink "NineDaysModel" (34 : Nat) "NineDaysModel" "purse" "[I") ∈ lw_ok := in_t 875 (by decide +kernel) rfl
theorem tw_876 : (Jvm.Cond.fieldLink "NineDaysModel" (37 : Nat) "NineDaysModel" "back" "[I") ∈ lw_ok := in_t 876 (by decide +kernel) rfl
theorem tw_877 : (Jvm.Cond.fieldLink "NineDaysModel" (40 : Nat) "NineDaysModel" "fund" "[I") ∈ lw_ok := in_t 877 (by decide +kernel) rfl
theorem tw_878 : (Jvm.Cond.fieldLink "NineDaysModel" (43 : Nat) "NineDaysModel" "handFund" "[I") ∈ lw_ok := in_t 878 (by decide +kernel) rfl
theorem tw_879 : (Jvm.Cond.fieldLink "NineDaysModel" (46 : Nat) "NineDaysModel" "handPurse" "[I") ∈ lw_ok := in_t 879 (by decide +kernel) rfl
theorem tw_880 : (Jvm.Cond.fieldLink "NineDaysModel" (192 : Nat) "NineDaysModel" "orders" "I") ∈ lw_ok := in_t 880 (by decide +kernel) rfl
theorem tw_881 : (Jvm.Cond.fieldLink "NineDaysModel" (49 : Nat) "NineDaysModel" "orderKind" "[I") ∈ lw_ok := in_t 881 (by decide +kernel) rfl
theorem tw_882 : (Jvm.Cond.fieldLink "NineDaysModel" (52 : Nat) "NineDaysModel" "orderUnion" "[I") ∈ lw_ok := in_t 882 (by decide +kernel) rfl
theorem tw_883 : (Jvm.Cond.fieldLink "NineDaysModel" (55 : Nat) "NineDaysModel" "orderTown" "[I") ∈ lw_ok := in_t 883 (by decide +kernel) rfl
theorem tw_884 : (Jvm.Cond.fieldLink "NineDaysModel" (58 : Nat) "NineDaysModel" "orderHour" "[I") ∈ lw_ok := in_t 884 (by decide +kernel) rfl
theorem tw_885 : (Jvm.Cond.fieldLink "NineDaysModel" (61 : Nat) "NineDaysModel" "callsAt" "I") ∈ lw_ok := in_t 885 (by decide +kernel) rfl
theorem tw_886 : (Jvm.Cond.fieldLink "NineDaysModel" (278 : Nat) "NineDaysModel" "rules" "I") ∈ lw_ok := in_t 886 (by decide +kernel) rfl
theorem tw_887 : (Jvm.Cond.fieldLink "NineDaysModel" (65 : Nat) "NineDaysModel" "inForce" "[I") ∈ lw_ok := in_t 887 (by decide +kernel) rfl
theorem tw_888 : (Jvm.Cond.fieldLink "NineDaysModel" (68 : Nat) "NineDaysModel" "clauses" "[I") ∈ lw_ok := in_t 888 (by decide +kernel) rfl
theorem tw_889 : (Jvm.Cond.fieldLink "NineDaysModel" (71 : Nat) "NineDaysModel" "clauseKind" "[I") ∈ lw_ok := in_t 889 (by decide +kernel) rfl
theorem tw_890 : (Jvm.Cond.fieldLink "NineDaysModel" (74 : Nat) "NineDaysModel" "first" "[I") ∈ lw_ok := in_t 890 (by decide +kernel) rfl
theorem tw_891 : (Jvm.Cond.fieldLink "NineDaysModel" (77 : Nat) "NineDaysModel" "second" "[I") ∈ lw_ok := in_t 891 (by decide +kernel) rfl
theorem tw_892 : (Jvm.Cond.fieldLink "NineDaysModel" (80 : Nat) "NineDaysModel" "text" "[I") ∈ lw_ok := in_t 892 (by decide +kernel) rfl
theorem tw_893 : (Jvm.Cond.fieldLink "NineDaysModel" (225 : Nat) "NineDaysModel" "textSize" "I") ∈ lw_ok := in_t 893 (by decide +kernel) rfl
theorem tw_894 : (Jvm.Cond.fieldLink "NineDaysModel" (230 : Nat) "NineDaysModel" "at" "I") ∈ lw_ok := in_t 894 (by decide +kernel) rfl
theorem tw_895 : (Jvm.Cond.fieldLink "NineDaysModel" (233 : Nat) "NineDaysModel" "faultOf" "I") ∈ lw_ok := in_t 895 (by decide +kernel) rfl
theorem tw_896 : (Jvm.Cond.fieldLink "NineDaysModel" (83 : Nat) "NineDaysModel" "place" "I") ∈ lw_ok := in_t 896 (by decide +kernel) rfl
theorem tw_897 : (Jvm.Cond.fieldLink "NineDaysModel" (240 : Nat) "NineDaysModel" "from" "I") ∈ lw_ok := in_t 897 (by decide +kernel) rfl
theorem tw_898 : (Jvm.Cond.fieldLink "NineDaysModel" (247 : Nat) "NineDaysModel" "letters" "I") ∈ lw_ok := in_t 898 (by decide +kernel) rfl
theorem tw_899 : (Jvm.Cond.fieldLink "NineDaysModel" (86 : Nat) "NineDaysModel" "isOn" "[Z") ∈ lw_ok := in_t 899 (by decide +kernel) rfl
theorem tw_900 : (Jvm.Cond.fieldLink "NineDaysModel" (90 : Nat) "NineDaysModel" "row" "[I") ∈ lw_ok := in_t 900 (by decide +kernel) rfl
theorem tw_901 : (Jvm.Cond.fieldLink "NineDaysModel" (93 : Nat) "NineDaysModel" "stampsFor" "[I") ∈ lw_ok := in_t 901 (by decide +kernel) rfl
theorem tw_902 : (Jvm.Cond.fieldLink "NineDaysModel" (288 : Nat) "NineDaysModel" "pay" "I") ∈ lw_ok := in_t 902 (by decide +kernel) rfl
theorem tw_903 : (Jvm.Cond.fieldLink "NineDaysModel" (291 : Nat) "NineDaysModel" "cost" "I") ∈ lw_ok := in_t 903 (by decide +kernel) rfl
theorem tw_904 : (Jvm.Cond.fieldLink "NineDaysModel" (294 : Nat) "NineDaysModel" "fear" "I") ∈ lw_ok := in_t 904 (by decide +kernel) rfl
theorem tw_905 : (Jvm.Cond.fieldLink "NineDaysModel" (297 : Nat) "NineDaysModel" "slow" "I") ∈ lw_ok := in_t 905 (by decide +kernel) rfl
theorem tw_906 : (Jvm.Cond.fieldLink "NineDaysModel" (308 : Nat) "NineDaysModel" "loads" "I") ∈ lw_ok := in_t 906 (by decide +kernel) rfl
theorem tw_907 : (Jvm.Cond.fieldLink "NineDaysModel" (96 : Nat) "NineDaysModel" "good" "[I") ∈ lw_ok := in_t 907 (by decide +kernel) rfl
theorem tw_908 : (Jvm.Cond.fieldLink "NineDaysModel" (99 : Nat) "NineDaysModel" "size" "[I") ∈ lw_ok := in_t 908 (by decide +kernel) rfl
theorem tw_909 : (Jvm.Cond.fieldLink "NineDaysModel" (102 : Nat) "NineDaysModel" "loadFrom" "[I") ∈ lw_ok := in_t 909 (by decide +kernel) rfl
theorem tw_910 : (Jvm.Cond.fieldLink "NineDaysModel" (105 : Nat) "NineDaysModel" "loadTo" "[I") ∈ lw_ok := in_t 910 (by decide +kernel) rfl
theorem tw_911 : (Jvm.Cond.fieldLink "NineDaysModel" (108 : Nat) "NineDaysModel" "loadHour" "[I") ∈ lw_ok := in_t 911 (by decide +kernel) rfl
theorem tw_912 : (Jvm.Cond.fieldLink "NineDaysModel" (111 : Nat) "NineDaysModel" "stamps" "[I") ∈ lw_ok := in_t 912 (by decide +kernel) rfl
theorem tw_913 : (Jvm.Cond.fieldLink "NineDaysModel" (114 : Nat) "NineDaysModel" "state" "[I") ∈ lw_ok := in_t 913 (by decide +kernel) rfl
theorem tw_914 : (Jvm.Cond.fieldLink "NineDaysModel" (117 : Nat) "NineDaysModel" "left" "[I") ∈ lw_ok := in_t 914 (by decide +kernel) rfl
theorem tw_915 : (Jvm.Cond.fieldLink "NineDaysModel" (120 : Nat) "NineDaysModel" "comes" "[I") ∈ lw_ok := in_t 915 (by decide +kernel) rfl
theorem tw_916 : (Jvm.Cond.fieldLink "NineDaysModel" (346 : Nat) "NineDaysModel" "leaves" "I") ∈ lw_ok := in_t 916 (by decide +kernel) rfl
theorem tw_917 : (Jvm.Cond.fieldLink "NineDaysModel" (123 : Nat) "NineDaysModel" "leaveA" "[I") ∈ lw_ok := in_t 917 (by decide +kernel) rfl
theorem tw_918 : (Jvm.Cond.fieldLink "NineDaysModel" (126 : Nat) "NineDaysModel" "leaveB" "[I") ∈ lw_ok := in_t 918 (by decide +kernel) rfl
theorem tw_919 : (Jvm.Cond.fieldLink "NineDaysModel" (129 : Nat) "NineDaysModel" "leaveFrom" "[I") ∈ lw_ok := in_t 919 (by decide +kernel) rfl
theorem tw_920 : (Jvm.Cond.fieldLink "NineDaysModel" (132 : Nat) "NineDaysModel" "leaveTo" "[I") ∈ lw_ok := in_t 920 (by decide +kernel) rfl
theorem tw_921 : (Jvm.Cond.fieldLink "NineDaysModel" (135 : Nat) "NineDaysModel" "isSure" "[Z") ∈ lw_ok := in_t 921 (by decide +kernel) rfl
theorem tw_922 : (Jvm.Cond.fieldLink "NineDaysModel" (138 : Nat) "NineDaysModel" "table" "[I") ∈ lw_ok := in_t 922 (by decide +kernel) rfl
theorem tw_923 : (Jvm.Cond.fieldLink "NineDaysModel" (141 : Nat) "NineDaysModel" "worth" "[I") ∈ lw_ok := in_t 923 (by decide +kernel) rfl
theorem tw_924 : (Jvm.Cond.fieldLink "NineDaysModel" (144 : Nat) "NineDaysModel" "aside" "[I") ∈ lw_ok := in_t 924 (by decide +kernel) rfl
theorem tw_1046 : (Jvm.Cond.methodLink "NineDaysLaw" (17 : Nat) ({ cls := "NineDaysModel", name := "road", desc := "(III)I" } : Jvm.MethodName)) ∈ lw_ok := in_t 1046 (by decide +kernel) rfl
theorem tw_1047 : (Jvm.Cond.instanceMethod ({ cls := "NineDaysModel", name := "road", desc := "(III)I" } : Jvm.MethodName)) ∈ lw_ok := in_t 1047 (by decide +kernel) rfl
theorem tw_1048 : (Jvm.Cond.selects "NineDaysModel" ({ cls := "NineDaysModel", name := "road", desc := "(III)I" } : Jvm.MethodName) ({ cls := "NineDaysModel", name := "road", desc := "(III)I" } : Jvm.MethodName)) ∈ lw_ok := in_t 1048 (by decide +kernel) rfl
theorem tw_1050 : (Jvm.Cond.methodLink "NineDaysModel" (158 : Nat) ({ cls := "NineDaysModel", name := "isTown", desc := "(I)Z" } : Jvm.MethodName)) ∈ lw_ok := in_t 1050 (by decide +kernel) rfl
theorem tw_1051 : (Jvm.Cond.static ({ cls := "NineDaysModel", name := "isTown", desc := "(I)Z" } : Jvm.MethodName)) ∈ lw_ok := in_t 1051 (by decide +kernel) rfl
theorem tw_1053 : (Jvm.Cond.constantLong "NineDaysModel" (148 : Nat) (7 : Int64)) ∈ lw_ok := in_t 1053 (by decide +kernel) rfl
theorem tw_1054 : (Jvm.Cond.methodLink "NineDaysModel" (150 : Nat) ({ cls := "NineDaysModel", name := "in", desc := "(JJJ)Z" } : Jvm.MethodName)) ∈ lw_ok := in_t 1054 (by decide +kernel) rfl
theorem tw_1055 : (Jvm.Cond.static ({ cls := "NineDaysModel", name := "in", desc := "(JJJ)Z" } : Jvm.MethodName)) ∈ lw_ok := in_t 1055 (by decide +kernel) rfl
theorem tw_1057 : (Jvm.Cond.constantLong "NineDaysModel" (162 : Nat) (30 : Int64)) ∈ lw_ok := in_t 1057 (by decide +kernel) rfl
theorem tw_1058 : (Jvm.Cond.methodLink "NineDaysModel" (167 : Nat) ({ cls := "NineDaysModel", name := "least", desc := "(II)I" } : Jvm.MethodName)) ∈ lw_ok := in_t 1058 (by decide +kernel) rfl
theorem tw_1059 : (Jvm.Cond.static ({ cls := "NineDaysModel", name := "least", desc := "(II)I" } : Jvm.MethodName)) ∈ lw_ok := in_t 1059 (by decide +kernel) rfl
theorem tw_1061 : (Jvm.Cond.methodLink "NineDaysLaw" (22 : Nat) ({ cls := "NineDaysModel", name := "away", desc := "(II)I" } : Jvm.MethodName)) ∈ lw_ok := in_t 1061 (by decide +kernel) rfl
theorem tw_1062 : (Jvm.Cond.instanceMethod ({ cls := "NineDaysModel", name := "away", desc := "(II)I" } : Jvm.MethodName)) ∈ lw_ok := in_t 1062 (by decide +kernel) rfl
theorem tw_1063 : (Jvm.Cond.selects "NineDaysModel" ({ cls := "NineDaysModel", name := "away", desc := "(II)I" } : Jvm.MethodName) ({ cls := "NineDaysModel", name := "away", desc := "(II)I" } : Jvm.MethodName)) ∈ lw_ok := in_t 1063 (by decide +kernel) rfl
theorem tw_1065 : (Jvm.Cond.methodLink "NineDaysModel" (171 : Nat) ({ cls := "NineDaysModel", name := "awayOf", desc := "(II)I" } : Jvm.MethodName)) ∈ lw_ok := in_t 1065 (by decide +kernel) rfl
theorem tw_1067 : (Jvm.Cond.instanceMethod ({ cls := "NineDaysModel", name := "awayOf", desc := "(II)I" } : Jvm.MethodName)) ∈ lw_ok := in_t 1067 (by decide +kernel) rfl
theorem tw_1069 : (Jvm.Cond.methodLink "NineDaysLaw" (26 : Nat) ({ cls := "NineDaysModel", name := "store", desc := "(III)I" } : Jvm.MethodName)) ∈ lw_ok := in_t 1069 (by decide +kernel) rfl
theorem tw_1070 : (Jvm.Cond.instanceMethod ({ cls := "NineDaysModel", name := "store", desc := "(III)I" } : Jvm.MethodName)) ∈ lw_ok := in_t 1070 (by decide +kernel) rfl
theorem tw_1071 : (Jvm.Cond.selects "NineDaysModel" ({ cls := "NineDaysModel", name := "store", desc := "(III)I" } : Jvm.MethodName) ({ cls := "NineDaysModel", name := "store", desc := "(III)I" } : Jvm.MethodName)) ∈ lw_ok := in_t 1071 (by decide +kernel) rfl
theorem tw_1073 : (Jvm.Cond.methodLink "NineDaysModel" (176 : Nat) ({ cls := "NineDaysModel", name := "isGood", desc := "(I)Z" } : Jvm.MethodName)) ∈ lw_ok := in_t 1073 (by decide +kernel) rfl
theorem tw_1074 : (Jvm.Cond.static ({ cls := "NineDaysModel", name := "isGood", desc := "(I)Z" } : Jvm.MethodName)) ∈ lw_ok := in_t 1074 (by decide +kernel) rfl
theorem tw_1076 : (Jvm.Cond.constantLong "NineDaysModel" (174 : Nat) (2 : Int64)) ∈ lw_ok := in_t 1076 (by decide +kernel) rfl
theorem tw_1077 : (Jvm.Cond.constantLong "NineDaysModel" (179 : Nat) (9999 : Int64)) ∈ lw_ok := in_t 1077 (by decide +kernel) rfl
theorem tw_1078 : (Jvm.Cond.methodLink "NineDaysLaw" (30 : Nat) ({ cls := "NineDaysModel", name := "need", desc := "(III)I" } : Jvm.MethodName)) ∈ lw_ok := in_t 1078 (by decide +kernel) rfl
theorem tw_1079 : (Jvm.Cond.instanceMethod ({ cls := "NineDaysModel", name := "need", desc := "(III)I" } : Jvm.MethodName)) ∈ lw_ok := in_t 1079 (by decide +kernel) rfl
theorem tw_1080 : (Jvm.Cond.selects "NineDaysModel" ({ cls := "NineDaysModel", name := "need", desc := "(III)I" } : Jvm.MethodName) ({ cls := "NineDaysModel", name := "need", desc := "(III)I" } : Jvm.MethodName)) ∈ lw_ok := in_t 1080 (by decide +kernel) rfl
theorem tw_1082 : (Jvm.Cond.constantLong "NineDaysModel" (181 : Nat) (99 : Int64)) ∈ lw_ok := in_t 1082 (by decide +kernel) rfl
theorem tw_1083 : (Jvm.Cond.methodLink "NineDaysLaw" (34 : Nat) ({ cls := "NineDaysModel", name := "members", desc := "(III)I" } : Jvm.MethodName)) ∈ lw_ok := in_t 1083 (by decide +kernel) rfl
theorem tw_1084 : (Jvm.Cond.instanceMethod ({ cls := "NineDaysModel", name := "members", desc := "(III)I" } : Jvm.MethodName)) ∈ lw_ok := in_t 1084 (by decide +kernel) rfl
theorem tw_1085 : (Jvm.Cond.selects "NineDaysModel" ({ cls := "NineDaysModel", name := "members", desc := "(III)I" } : Jvm.MethodName) ({ cls := "NineDaysModel", name := "members", desc := "(III)I" } : Jvm.MethodName)) ∈ lw_ok := in_t 1085 (by decide +kernel) rfl
theorem tw_1087 : (Jvm.Cond.methodLink "NineDaysModel" (183 : Nat) ({ cls := "NineDaysModel", name := "isUnion", desc := "(I)Z" } : Jvm.MethodName)) ∈ lw_ok := in_t 1087 (by decide +kernel) rfl
theorem tw_1088 : (Jvm.Cond.static ({ cls := "NineDaysModel", name := "isUnion", desc := "(I)Z" } : Jvm.MethodName)) ∈ lw_ok := in_t 1088 (by decide +kernel) rfl
theorem tw_1090 : (Jvm.Cond.constantLong "NineDaysModel" (154 : Nat) (5 : Int64)) ∈ lw_ok := in_t 1090 (by decide +kernel) rfl
theorem tw_1091 : (Jvm.Cond.constantLong "NineDaysModel" (186 : Nat) (999 : Int64)) ∈ lw_ok := in_t 1091 (by decide +kernel) rfl
theorem tw_1092 : (Jvm.Cond.methodLink "NineDaysLaw" (38 : Nat) ({ cls := "NineDaysModel", name := "purse", desc := "(II)I" } : Jvm.MethodName)) ∈ lw_ok := in_t 1092 (by decide +kernel) rfl
theorem tw_1093 : (Jvm.Cond.instanceMethod ({ cls := "NineDaysModel", name := "purse", desc := "(II)I" } : Jvm.MethodName)) ∈ lw_ok := in_t 1093 (by decide +kernel) rfl
theorem tw_1094 : (Jvm.Cond.selects "NineDaysModel" ({ cls := "NineDaysModel", name := "purse", desc := "(II)I" } : Jvm.MethodName) ({ cls := "NineDaysModel", name := "purse", desc := "(II)I" } : Jvm.MethodName)) ∈ lw_ok := in_t 1094 (by decide +kernel) rfl
theorem tw_1096 : (Jvm.Cond.methodLink "NineDaysLaw" (42 : Nat) ({ cls := "NineDaysModel", name := "fund", desc := "(II)I" } : Jvm.MethodName)) ∈ lw_ok := in_t 1096 (by decide +kernel) rfl
theorem tw_1097 : (Jvm.Cond.instanceMethod ({ cls := "NineDaysModel", name := "fund", desc := "(II)I" } : Jvm.MethodName)) ∈ lw_ok := in_t 1097 (by decide +kernel) rfl
theorem tw_1098 : (Jvm.Cond.selects "NineDaysModel" ({ cls := "NineDaysModel", name := "fund", desc := "(II)I" } : Jvm.MethodName) ({ cls := "NineDaysModel", name := "fund", desc := "(II)I" } : Jvm.MethodName)) ∈ lw_ok := in_t 1098 (by decide +kernel) rfl
theorem tw_1100 : (Jvm.Cond.constantLong "NineDaysModel" (188 : Nat) (99999 : Int64)) ∈ lw_ok := in_t 1100 (by decide +kernel) rfl
theorem tw_1101 : (Jvm.Cond.methodLink "NineDaysLaw" (46 : Nat) ({ cls := "NineDaysModel", name := "out", desc := "(III)I" } : Jvm.MethodName)) ∈ lw_ok := in_t 1101 (by decide +kernel) rfl
theorem tw_1102 : (Jvm.Cond.instanceMethod ({ cls := "NineDaysModel", name := "out", desc := "(III)I" } : Jvm.MethodName)) ∈ lw_ok := in_t 1102 (by decide +kernel) rfl
theorem tw_1103 : (Jvm.Cond.selects "NineDaysModel" ({ cls := "NineDaysModel", name := "out", desc := "(III)I" } : Jvm.MethodName) ({ cls := "NineDaysModel", name := "out", desc := "(III)I" } : Jvm.MethodName)) ∈ lw_ok := in_t 1103 (by decide +kernel) rfl
theorem tw_1105 : (Jvm.Cond.methodLink "NineDaysLaw" (50 : Nat) ({ cls := "NineDaysModel", name := "town", desc := "(II)I" } : Jvm.MethodName)) ∈ lw_ok := in_t 1105 (by decide +kernel) rfl
theorem tw_1106 : (Jvm.Cond.instanceMethod ({ cls := "NineDaysModel", name := "town", desc := "(II)I" } : Jvm.MethodName)) ∈ lw_ok := in_t 1106 (by decide +kernel) rfl
theorem tw_1107 : (Jvm.Cond.selects "NineDaysModel" ({ cls := "NineDaysModel", name := "town", desc := "(II)I" } : Jvm.MethodName) ({ cls := "NineDaysModel", name := "town", desc := "(II)I" } : Jvm.MethodName)) ∈ lw_ok := in_t 1107 (by decide +kernel) rfl
theorem tw_1109 : (Jvm.Cond.constantLong "NineDaysModel" (190 : Nat) (8 : Int64)) ∈ lw_ok := in_t 1109 (by decide +kernel) rfl
theorem tw_1110 : (Jvm.Cond.methodLink "NineDaysLaw" (60 : Nat) ({ cls := "NineDaysModel", name := "order", desc := "(IIII)I" } : Jvm.MethodName)) ∈ lw_ok := in_t 1110 (by decide +kernel) rfl
theorem tw_1111 : (Jvm.Cond.instanceMethod ({ cls := "NineDaysModel", name := "order", desc := "(IIII)I" } : Jvm.MethodName)) ∈ lw_ok := in_t 1111 (by decide +kernel) rfl
theorem tw_1112 : (Jvm.Cond.selects "NineDaysModel" ({ cls := "NineDaysModel", name := "order", desc := "(IIII)I" } : Jvm.MethodName) ({ cls := "NineDaysModel", name := "order", desc := "(IIII)I" } : Jvm.MethodName)) ∈ lw_ok := in_t 1112 (by decide +kernel) rfl
theorem tw_1114 : (Jvm.Cond.constantLong "NineDaysModel" (195 : Nat) (3 : Int64)) ∈ lw_ok := in_t 1114 (by decide +kernel) rfl
theorem tw_1115 : (Jvm.Cond.constantLong "NineDaysModel" (156 : Nat) (240 : Int64)) ∈ lw_ok := in_t 1115 (by decide +kernel) rfl
theorem tw_1116 : (Jvm.Cond.methodLink "NineDaysLaw" (64 : Nat) ({ cls := "NineDaysModel", name := "reach", desc := "(II)I" } : Jvm.MethodName)) ∈ lw_ok := in_t 1116 (by decide +kernel) rfl
theorem tw_1117 : (Jvm.Cond.instanceMethod ({ cls := "NineDaysModel", name := "reach", desc := "(II)I" } : Jvm.MethodName)) ∈ lw_ok := in_t 1117 (by decide +kernel) rfl
theorem tw_1118 : (Jvm.Cond.selects "NineDaysModel" ({ cls := "NineDaysModel", name := "reach", desc := "(II)I" } : Jvm.MethodName) ({ cls := "NineDaysModel", name := "reach", desc := "(II)I" } : Jvm.MethodName)) ∈ lw_ok := in_t 1118 (by decide +kernel) rfl
theorem tw_1120 : (Jvm.Cond.methodLink "NineDaysModel" (204 : Nat) ({ cls := "NineDaysModel", name := "noOrder", desc := "(I)Z" } : Jvm.MethodName)) ∈ lw_ok := in_t 1120 (by decide +kernel) rfl
theorem tw_1122 : (Jvm.Cond.instanceMethod ({ cls := "NineDaysModel", name := "noOrder", desc := "(I)Z" } : Jvm.MethodName)) ∈ lw_ok := in_t 1122 (by decide +kernel) rfl
theorem tw_1124 : (Jvm.Cond.methodLink "NineDaysModel" (207 : Nat) ({ cls := "NineDaysModel", name := "reachOf", desc := "(II)I" } : Jvm.MethodName)) ∈ lw_ok := in_t 1124 (by decide +kernel) rfl
theorem tw_1126 : (Jvm.Cond.instanceMethod ({ cls := "NineDaysModel", name := "reachOf", desc := "(II)I" } : Jvm.MethodName)) ∈ lw_ok := in_t 1126 (by decide +kernel) rfl
theorem tw_1128 : (Jvm.Cond.methodLink "NineDaysModel" (200 : Nat) ({ cls := "NineDaysModel", name := "hourOf", desc := "(I)I" } : Jvm.MethodName)) ∈ lw_ok := in_t 1128 (by decide +kernel) rfl
theorem tw_1130 : (Jvm.Cond.instanceMethod ({ cls := "NineDaysModel", name := "hourOf", desc := "(I)I" } : Jvm.MethodName)) ∈ lw_ok := in_t 1130 (by decide +kernel) rfl
theorem tw_1132 : (Jvm.Cond.methodLink "NineDaysLaw" (68 : Nat) ({ cls := "NineDaysModel", name := "late", desc := "(I)I" } : Jvm.MethodName)) ∈ lw_ok := in_t 1132 (by decide +kernel) rfl
theorem tw_1133 : (Jvm.Cond.instanceMethod ({ cls := "NineDaysModel", name := "late", desc := "(I)I" } : Jvm.MethodName)) ∈ lw_ok := in_t 1133 (by decide +kernel) rfl
theorem tw_1134 : (Jvm.Cond.selects "NineDaysModel" ({ cls := "NineDaysModel", name := "late", desc := "(I)I" } : Jvm.MethodName) ({ cls := "NineDaysModel", name := "late", desc := "(I)I" } : Jvm.MethodName)) ∈ lw_ok := in_t 1134 (by decide +kernel) rfl
theorem tw_1136 : (Jvm.Cond.methodLink "NineDaysModel" (210 : Nat) ({ cls := "NineDaysModel", name := "one", desc := "(Z)I" } : Jvm.MethodName)) ∈ lw_ok := in_t 1136 (by decide +kernel) rfl
theorem tw_1137 : (Jvm.Cond.static ({ cls := "NineDaysModel", name := "one", desc := "(Z)I" } : Jvm.MethodName)) ∈ lw_ok := in_t 1137 (by decide +kernel) rfl
theorem tw_1139 : (Jvm.Cond.methodLink "NineDaysLaw" (72 : Nat) ({ cls := "NineDaysModel", name := "called", desc := "(III)I" } : Jvm.MethodName)) ∈ lw_ok := in_t 1139 (by decide +kernel) rfl
theorem tw_1140 : (Jvm.Cond.instanceMethod ({ cls := "NineDaysModel", name := "called", desc := "(III)I" } : Jvm.MethodName)) ∈ lw_ok := in_t 1140 (by decide +kernel) rfl
theorem tw_1141 : (Jvm.Cond.selects "NineDaysModel" ({ cls := "NineDaysModel", name := "called", desc := "(III)I" } : Jvm.MethodName) ({ cls := "NineDaysModel", name := "called", desc := "(III)I" } : Jvm.MethodName)) ∈ lw_ok := in_t 1141 (by decide +kernel) rfl
theorem tw_1143 : (Jvm.Cond.methodLink "NineDaysModel" (218 : Nat) ({ cls := "NineDaysModel", name := "isHour", desc := "(I)Z" } : Jvm.MethodName)) ∈ lw_ok := in_t 1143 (by decide +kernel) rfl
theorem tw_1144 : (Jvm.Cond.static ({ cls := "NineDaysModel", name := "isHour", desc := "(I)Z" } : Jvm.MethodName)) ∈ lw_ok := in_t 1144 (by decide +kernel) rfl
theorem tw_1146 : (Jvm.Cond.methodLink "NineDaysModel" (221 : Nat) ({ cls := "NineDaysModel", name := "isCalled", desc := "(III)Z" } : Jvm.MethodName)) ∈ lw_ok := in_t 1146 (by decide +kernel) rfl
theorem tw_1148 : (Jvm.Cond.instanceMethod ({ cls := "NineDaysModel", name := "isCalled", desc := "(III)Z" } : Jvm.MethodName)) ∈ lw_ok := in_t 1148 (by decide +kernel) rfl
theorem tw_1150 : (Jvm.Cond.methodLink "NineDaysModel" (214 : Nat) ({ cls := "NineDaysModel", name := "holdsOf", desc := "(IIII)I" } : Jvm.MethodName)) ∈ lw_ok := in_t 1150 (by decide +kernel) rfl
theorem tw_1152 : (Jvm.Cond.instanceMethod ({ cls := "NineDaysModel", name := "holdsOf", desc := "(IIII)I" } : Jvm.MethodName)) ∈ lw_ok := in_t 1152 (by decide +kernel) rfl
theorem tw_1154 : (Jvm.Cond.methodLink "NineDaysLaw" (76 : Nat) ({ cls := "NineDaysModel", name := "holds", desc := "(IIII)I" } : Jvm.MethodName)) ∈ lw_ok := in_t 1154 (by decide +kernel) rfl
theorem tw_1155 : (Jvm.Cond.instanceMethod ({ cls := "NineDaysModel", name := "holds", desc := "(IIII)I" } : Jvm.MethodName)) ∈ lw_ok := in_t 1155 (by decide +kernel) rfl
theorem tw_1156 : (Jvm.Cond.selects "NineDaysModel" ({ cls := "NineDaysModel", name := "holds", desc := "(IIII)I" } : Jvm.MethodName) ({ cls := "NineDaysModel", name := "holds", desc := "(IIII)I" } : Jvm.MethodName)) ∈ lw_ok := in_t 1156 (by decide +kernel) rfl
theorem tw_1158 : (Jvm.Cond.methodLink "NineDaysLaw" (83 : Nat) ({ cls := "NineDaysModel", name := "feed", desc := "(IJ)I" } : Jvm.MethodName)) ∈ lw_ok := in_t 1158 (by decide +kernel) rfl
theorem tw_1159 : (Jvm.Cond.instanceMethod ({ cls := "NineDaysModel", name := "feed", desc := "(IJ)I" } : Jvm.MethodName)) ∈ lw_ok := in_t 1159 (by decide +kernel) rfl
theorem tw_1160 : (Jvm.Cond.selects "NineDaysModel" ({ cls := "NineDaysModel", name := "feed", desc := "(IJ)I" } : Jvm.MethodName) ({ cls := "NineDaysModel", name := "feed", desc := "(IJ)I" } : Jvm.MethodName)) ∈ lw_ok := in_t 1160 (by decide +kernel) rfl
theorem tw_1162 : (Jvm.Cond.constantLong "NineDaysModel" (228 : Nat) (255 : Int64)) ∈ lw_ok := in_t 1162 (by decide +kernel) rfl
theorem tw_1163 : (Jvm.Cond.methodLink "NineDaysLaw" (87 : Nat) ({ cls := "NineDaysModel", name := "rule", desc := "(I)I" } : Jvm.MethodName)) ∈ lw_ok := in_t 1163 (by decide +kernel) rfl
theorem tw_1164 : (Jvm.Cond.instanceMethod ({ cls := "NineDaysModel", name := "rule", desc := "(I)I" } : Jvm.MethodName)) ∈ lw_ok := in_t 1164 (by decide +kernel) rfl
theorem tw_1165 : (Jvm.Cond.selects "NineDaysModel" ({ cls := "NineDaysModel", name := "rule", desc := "(I)I" } : Jvm.MethodName) ({ cls := "NineDaysModel", name := "rule", desc := "(I)I" } : Jvm.MethodName)) ∈ lw_ok := in_t 1165 (by decide +kernel) rfl
theorem tw_1167 : (Jvm.Cond.methodLink "NineDaysModel" (236 : Nat) ({ cls := "NineDaysModel", name := "here", desc := "()I" } : Jvm.MethodName)) ∈ lw_ok := in_t 1167 (by decide +kernel) rfl
theorem tw_1169 : (Jvm.Cond.instanceMethod ({ cls := "NineDaysModel", name := "here", desc := "()I" } : Jvm.MethodName)) ∈ lw_ok := in_t 1169 (by decide +kernel) rfl
theorem tw_1171 : (Jvm.Cond.methodLink "NineDaysModel" (262 : Nat) ({ cls := "NineDaysModel", name := "takeWord", desc := "()V" } : Jvm.MethodName)) ∈ lw_ok := in_t 1171 (by decide +kernel) rfl
theorem tw_1173 : (Jvm.Cond.instanceMethod ({ cls := "NineDaysModel", name := "takeWord", desc := "()V" } : Jvm.MethodName)) ∈ lw_ok := in_t 1173 (by decide +kernel) rfl
theorem tw_1175 : (Jvm.Cond.constantLong "NineDaysModel" (243 : Nat) (97 : Int64)) ∈ lw_ok := in_t 1175 (by decide +kernel) rfl
theorem tw_1176 : (Jvm.Cond.constantLong "NineDaysModel" (245 : Nat) (122 : Int64)) ∈ lw_ok := in_t 1176 (by decide +kernel) rfl
theorem tw_1177 : (Jvm.Cond.methodLink "NineDaysModel" (281 : Nat) ({ cls := "NineDaysModel", name := "clauseOf", desc := "()I" } : Jvm.MethodName)) ∈ lw_ok := in_t 1177 (by decide +kernel) rfl
theorem tw_1179 : (Jvm.Cond.instanceMethod ({ cls := "NineDaysModel", name := "clauseOf", desc := "()I" } : Jvm.MethodName)) ∈ lw_ok := in_t 1179 (by decide +kernel) rfl
theorem tw_1181 : (Jvm.Cond.methodLink "NineDaysModel" (258 : Nat) ({ cls := "NineDaysModel", name := "isWord", desc := "(IIIIIII)Z" } : Jvm.MethodName)) ∈ lw_ok := in_t 1181 (by decide +kernel) rfl
theorem tw_1183 : (Jvm.Cond.instanceMethod ({ cls := "NineDaysModel", name := "isWord", desc := "(IIIIIII)Z" } : Jvm.MethodName)) ∈ lw_ok := in_t 1183 (by decide +kernel) rfl
theorem tw_1185 : (Jvm.Cond.methodLink "NineDaysModel" (254 : Nat) ({ cls := "NineDaysModel", name := "want", desc := "(ZII)Z" } : Jvm.MethodName)) ∈ lw_ok := in_t 1185 (by decide +kernel) rfl
theorem tw_1187 : (Jvm.Cond.instanceMethod ({ cls := "NineDaysModel", name := "want", desc := "(ZII)Z" } : Jvm.MethodName)) ∈ lw_ok := in_t 1187 (by decide +kernel) rfl
theorem tw_1189 : (Jvm.Cond.methodLink "NineDaysModel" (284 : Nat) ({ cls := "NineDaysModel", name := "readClause", desc := "(II)V" } : Jvm.MethodName)) ∈ lw_ok := in_t 1189 (by decide +kernel) rfl
theorem tw_1191 : (Jvm.Cond.instanceMethod ({ cls := "NineDaysModel", name := "readClause", desc := "(II)V" } : Jvm.MethodName)) ∈ lw_ok := in_t 1191 (by decide +kernel) rfl
theorem tw_1193 : (Jvm.Cond.methodLink "NineDaysModel" (271 : Nat) ({ cls := "NineDaysModel", name := "readNeed", desc := "(I)V" } : Jvm.MethodName)) ∈ lw_ok := in_t 1193 (by decide +kernel) rfl
theorem tw_1195 : (Jvm.Cond.instanceMethod ({ cls := "NineDaysModel", name := "readNeed", desc := "(I)V" } : Jvm.MethodName)) ∈ lw_ok := in_t 1195 (by decide +kernel) rfl
theorem tw_1197 : (Jvm.Cond.methodLink "NineDaysModel" (265 : Nat) ({ cls := "NineDaysModel", name := "goodOf", desc := "()I" } : Jvm.MethodName)) ∈ lw_ok := in_t 1197 (by decide +kernel) rfl
theorem tw_1199 : (Jvm.Cond.instanceMethod ({ cls := "NineDaysModel", name := "goodOf", desc := "()I" } : Jvm.MethodName)) ∈ lw_ok := in_t 1199 (by decide +kernel) rfl
theorem tw_1201 : (Jvm.Cond.methodLink "NineDaysModel" (268 : Nat) ({ cls := "NineDaysModel", name := "stampOf", desc := "()I" } : Jvm.MethodName)) ∈ lw_ok := in_t 1201 (by decide +kernel) rfl
theorem tw_1203 : (Jvm.Cond.instanceMethod ({ cls := "NineDaysModel", name := "stampOf", desc := "()I" } : Jvm.MethodName)) ∈ lw_ok := in_t 1203 (by decide +kernel) rfl
theorem tw_1205 : (Jvm.Cond.methodLink "NineDaysModel" (275 : Nat) ({ cls := "NineDaysModel", name := "takeNumber", desc := "(II)I" } : Jvm.MethodName)) ∈ lw_ok := in_t 1205 (by decide +kernel) rfl
theorem tw_1207 : (Jvm.Cond.instanceMethod ({ cls := "NineDaysModel", name := "takeNumber", desc := "(II)I" } : Jvm.MethodName)) ∈ lw_ok := in_t 1207 (by decide +kernel) rfl
theorem tw_1209 : (Jvm.Cond.constantLong "NineDaysModel" (250 : Nat) (48 : Int64)) ∈ lw_ok := in_t 1209 (by decide +kernel) rfl
theorem tw_1210 : (Jvm.Cond.constantLong "NineDaysModel" (252 : Nat) (57 : Int64)) ∈ lw_ok := in_t 1210 (by decide +kernel) rfl
theorem tw_1211 : (Jvm.Cond.methodLink "NineDaysLaw" (92 : Nat) ({ cls := "NineDaysModel", name := "fault", desc := "()I" } : Jvm.MethodName)) ∈ lw_ok := in_t 1211 (by decide +kernel) rfl
theorem tw_1212 : (Jvm.Cond.instanceMethod ({ cls := "NineDaysModel", name := "fault", desc := "()I" } : Jvm.MethodName)) ∈ lw_ok := in_t 1212 (by decide +kernel) rfl
theorem tw_1213 : (Jvm.Cond.selects "NineDaysModel" ({ cls := "NineDaysModel", name := "fault", desc := "()I" } : Jvm.MethodName) ({ cls := "NineDaysModel", name := "fault", desc := "()I" } : Jvm.MethodName)) ∈ lw_ok := in_t 1213 (by decide +kernel) rfl
theorem tw_1215 : (Jvm.Cond.methodLink "NineDaysLaw" (96 : Nat) ({ cls := "NineDaysModel", name := "force", desc := "(II)I" } : Jvm.MethodName)) ∈ lw_ok := in_t 1215 (by decide +kernel) rfl
theorem tw_1216 : (Jvm.Cond.instanceMethod ({ cls := "NineDaysModel", name := "force", desc := "(II)I" } : Jvm.MethodName)) ∈ lw_ok := in_t 1216 (by decide +kernel) rfl
theorem tw_1217 : (Jvm.Cond.selects "NineDaysModel" ({ cls := "NineDaysModel", name := "force", desc := "(II)I" } : Jvm.MethodName) ({ cls := "NineDaysModel", name := "force", desc := "(II)I" } : Jvm.MethodName)) ∈ lw_ok := in_t 1217 (by decide +kernel) rfl
theorem tw_1219 : (Jvm.Cond.constantLong "NineDaysModel" (303 : Nat) (6 : Int64)) ∈ lw_ok := in_t 1219 (by decide +kernel) rfl
theorem tw_1220 : (Jvm.Cond.methodLink "NineDaysModel" (305 : Nat) ({ cls := "NineDaysModel", name := "findRules", desc := "(I)V" } : Jvm.MethodName)) ∈ lw_ok := in_t 1220 (by decide +kernel) rfl
theorem tw_1222 : (Jvm.Cond.instanceMethod ({ cls := "NineDaysModel", name := "findRules", desc := "(I)V" } : Jvm.MethodName)) ∈ lw_ok := in_t 1222 (by decide +kernel) rfl
theorem tw_1224 : (Jvm.Cond.methodLink "NineDaysModel" (300 : Nat) ({ cls := "NineDaysModel", name := "take", desc := "(I)V" } : Jvm.MethodName)) ∈ lw_ok := in_t 1224 (by decide +kernel) rfl
theorem tw_1226 : (Jvm.Cond.instanceMethod ({ cls := "NineDaysModel", name := "take", desc := "(I)V" } : Jvm.MethodName)) ∈ lw_ok := in_t 1226 (by decide +kernel) rfl
theorem tw_1228 : (Jvm.Cond.methodLink "NineDaysLaw" (101 : Nat) ({ cls := "NineDaysModel", name := "load", desc := "(IIIII)I" } : Jvm.MethodName)) ∈ lw_ok := in_t 1228 (by decide +kernel) rfl
theorem tw_1229 : (Jvm.Cond.instanceMethod ({ cls := "NineDaysModel", name := "load", desc := "(IIIII)I" } : Jvm.MethodName)) ∈ lw_ok := in_t 1229 (by decide +kernel) rfl
theorem tw_1230 : (Jvm.Cond.selects "NineDaysModel" ({ cls := "NineDaysModel", name := "load", desc := "(IIIII)I" } : Jvm.MethodName) ({ cls := "NineDaysModel", name := "load", desc := "(IIIII)I" } : Jvm.MethodName)) ∈ lw_ok := in_t 1230 (by decide +kernel) rfl
theorem tw_1232 : (Jvm.Cond.methodLink "NineDaysModel" (311 : Nat) ({ cls := "NineDaysModel", name := "begin", desc := "(I)V" } : Jvm.MethodName)) ∈ lw_ok := in_t 1232 (by decide +kernel) rfl
theorem tw_1234 : (Jvm.Cond.instanceMethod ({ cls := "NineDaysModel", name := "begin", desc := "(I)V" } : Jvm.MethodName)) ∈ lw_ok := in_t 1234 (by decide +kernel) rfl
theorem tw_1236 : (Jvm.Cond.methodLink "NineDaysLaw" (105 : Nat) ({ cls := "NineDaysModel", name := "stamp", desc := "(II)I" } : Jvm.MethodName)) ∈ lw_ok := in_t 1236 (by decide +kernel) rfl
theorem tw_1237 : (Jvm.Cond.instanceMethod ({ cls := "NineDaysModel", name := "stamp", desc := "(II)I" } : Jvm.MethodName)) ∈ lw_ok := in_t 1237 (by decide +kernel) rfl
theorem tw_1238 : (Jvm.Cond.selects "NineDaysModel" ({ cls := "NineDaysModel", name := "stamp", desc := "(II)I" } : Jvm.MethodName) ({ cls := "NineDaysModel", name := "stamp", desc := "(II)I" } : Jvm.MethodName)) ∈ lw_ok := in_t 1238 (by decide +kernel) rfl
theorem tw_1240 : (Jvm.Cond.methodLink "NineDaysModel" (314 : Nat) ({ cls := "NineDaysModel", name := "noLoad", desc := "(I)Z" } : Jvm.MethodName)) ∈ lw_ok := in_t 1240 (by decide +kernel) rfl
theorem tw_1242 : (Jvm.Cond.instanceMethod ({ cls := "NineDaysModel", name := "noLoad", desc := "(I)Z" } : Jvm.MethodName)) ∈ lw_ok := in_t 1242 (by decide +kernel) rfl
theorem tw_1244 : (Jvm.Cond.methodLink "NineDaysLaw" (109 : Nat) ({ cls := "NineDaysModel", name := "told", desc := "(II)I" } : Jvm.MethodName)) ∈ lw_ok := in_t 1244 (by decide +kernel) rfl
theorem tw_1245 : (Jvm.Cond.instanceMethod ({ cls := "NineDaysModel", name := "told", desc := "(II)I" } : Jvm.MethodName)) ∈ lw_ok := in_t 1245 (by decide +kernel) rfl
theorem tw_1246 : (Jvm.Cond.selects "NineDaysModel" ({ cls := "NineDaysModel", name := "told", desc := "(II)I" } : Jvm.MethodName) ({ cls := "NineDaysModel", name := "told", desc := "(II)I" } : Jvm.MethodName)) ∈ lw_ok := in_t 1246 (by decide +kernel) rfl
theorem tw_1248 : (Jvm.Cond.methodLink "NineDaysLaw" (113 : Nat) ({ cls := "NineDaysModel", name := "clash", desc := "(I)I" } : Jvm.MethodName)) ∈ lw_ok := in_t 1248 (by decide +kernel) rfl
theorem tw_1249 : (Jvm.Cond.instanceMethod ({ cls := "NineDaysModel", name := "clash", desc := "(I)I" } : Jvm.MethodName)) ∈ lw_ok := in_t 1249 (by decide +kernel) rfl
theorem tw_1250 : (Jvm.Cond.selects "NineDaysModel" ({ cls := "NineDaysModel", name := "clash", desc := "(I)I" } : Jvm.MethodName) ({ cls := "NineDaysModel", name := "clash", desc := "(I)I" } : Jvm.MethodName)) ∈ lw_ok := in_t 1250 (by decide +kernel) rfl
theorem tw_1252 : (Jvm.Cond.methodLink "NineDaysLaw" (117 : Nat) ({ cls := "NineDaysModel", name := "words", desc := "()I" } : Jvm.MethodName)) ∈ lw_ok := in_t 1252 (by decide +kernel) rfl
theorem tw_1253 : (Jvm.Cond.instanceMethod ({ cls := "NineDaysModel", name := "words", desc := "()I" } : Jvm.MethodName)) ∈ lw_ok := in_t 1253 (by decide +kernel) rfl
theorem tw_1254 : (Jvm.Cond.selects "NineDaysModel" ({ cls := "NineDaysModel", name := "words", desc := "()I" } : Jvm.MethodName) ({ cls := "NineDaysModel", name := "words", desc := "()I" } : Jvm.MethodName)) ∈ lw_ok := in_t 1254 (by decide +kernel) rfl
theorem tw_1256 : (Jvm.Cond.methodLink "NineDaysLaw" (121 : Nat) ({ cls := "NineDaysModel", name := "go", desc := "(I)I" } : Jvm.MethodName)) ∈ lw_ok := in_t 1256 (by decide +kernel) rfl
theorem tw_1257 : (Jvm.Cond.instanceMethod ({ cls := "NineDaysModel", name := "go", desc := "(I)I" } : Jvm.MethodName)) ∈ lw_ok := in_t 1257 (by decide +kernel) rfl
theorem tw_1258 : (Jvm.Cond.selects "NineDaysModel" ({ cls := "NineDaysModel", name := "go", desc := "(I)I" } : Jvm.MethodName) ({ cls := "NineDaysModel", name := "go", desc := "(I)I" } : Jvm.MethodName)) ∈ lw_ok := in_t 1258 (by decide +kernel) rfl
theorem tw_1260 : (Jvm.Cond.constantLong "NineDaysModel" (332 : Nat) (100 : Int64)) ∈ lw_ok := in_t 1260 (by decide +kernel) rfl
theorem tw_1261 : (Jvm.Cond.methodLink "NineDaysModel" (334 : Nat) ({ cls := "NineDaysModel", name := "doHour", desc := "(I)I" } : Jvm.MethodName)) ∈ lw_ok := in_t 1261 (by decide +kernel) rfl
theorem tw_1263 : (Jvm.Cond.instanceMethod ({ cls := "NineDaysModel", name := "doHour", desc := "(I)I" } : Jvm.MethodName)) ∈ lw_ok := in_t 1263 (by decide +kernel) rfl
theorem tw_1265 : (Jvm.Cond.methodLink "NineDaysModel" (317 : Nat) ({ cls := "NineDaysModel", name := "arrive", desc := "(I)V" } : Jvm.MethodName)) ∈ lw_ok := in_t 1265 (by decide +kernel) rfl
theorem tw_1267 : (Jvm.Cond.instanceMethod ({ cls := "NineDaysModel", name := "arrive", desc := "(I)V" } : Jvm.MethodName)) ∈ lw_ok := in_t 1267 (by decide +kernel) rfl
theorem tw_1269 : (Jvm.Cond.methodLink "NineDaysModel" (320 : Nat) ({ cls := "NineDaysModel", name := "callOut", desc := "(I)V" } : Jvm.MethodName)) ∈ lw_ok := in_t 1269 (by decide +kernel) rfl
theorem tw_1271 : (Jvm.Cond.instanceMethod ({ cls := "NineDaysModel", name := "callOut", desc := "(I)V" } : Jvm.MethodName)) ∈ lw_ok := in_t 1271 (by decide +kernel) rfl
theorem tw_1273 : (Jvm.Cond.methodLink "NineDaysModel" (323 : Nat) ({ cls := "NineDaysModel", name := "payOut", desc := "(II)V" } : Jvm.MethodName)) ∈ lw_ok := in_t 1273 (by decide +kernel) rfl
theorem tw_1275 : (Jvm.Cond.instanceMethod ({ cls := "NineDaysModel", name := "payOut", desc := "(II)V" } : Jvm.MethodName)) ∈ lw_ok := in_t 1275 (by decide +kernel) rfl
theorem tw_1277 : (Jvm.Cond.methodLink "NineDaysModel" (326 : Nat) ({ cls := "NineDaysModel", name := "sendOff", desc := "(I)V" } : Jvm.MethodName)) ∈ lw_ok := in_t 1277 (by decide +kernel) rfl
theorem tw_1279 : (Jvm.Cond.instanceMethod ({ cls := "NineDaysModel", name := "sendOff", desc := "(I)V" } : Jvm.MethodName)) ∈ lw_ok := in_t 1279 (by decide +kernel) rfl
theorem tw_1281 : (Jvm.Cond.methodLink "NineDaysModel" (329 : Nat) ({ cls := "NineDaysModel", name := "useUp", desc := "(I)I" } : Jvm.MethodName)) ∈ lw_ok := in_t 1281 (by decide +kernel) rfl
theorem tw_1283 : (Jvm.Cond.instanceMethod ({ cls := "NineDaysModel", name := "useUp", desc := "(I)I" } : Jvm.MethodName)) ∈ lw_ok := in_t 1283 (by decide +kernel) rfl
theorem tw_1285 : (Jvm.Cond.methodLink "NineDaysLaw" (55 : Nat) ({ cls := "NineDaysModel", name := "count", desc := "(I)I" } : Jvm.MethodName)) ∈ lw_ok := in_t 1285 (by decide +kernel) rfl
theorem tw_1286 : (Jvm.Cond.instanceMethod ({ cls := "NineDaysModel", name := "count", desc := "(I)I" } : Jvm.MethodName)) ∈ lw_ok := in_t 1286 (by decide +kernel) rfl
theorem tw_1287 : (Jvm.Cond.selects "NineDaysModel" ({ cls := "NineDaysModel", name := "count", desc := "(I)I" } : Jvm.MethodName) ({ cls := "NineDaysModel", name := "count", desc := "(I)I" } : Jvm.MethodName)) ∈ lw_ok := in_t 1287 (by decide +kernel) rfl
theorem tw_1289 : (Jvm.Cond.methodLink "NineDaysModel" (337 : Nat) ({ cls := "NineDaysModel", name := "loadsIn", desc := "(I)I" } : Jvm.MethodName)) ∈ lw_ok := in_t 1289 (by decide +kernel) rfl
theorem tw_1291 : (Jvm.Cond.instanceMethod ({ cls := "NineDaysModel", name := "loadsIn", desc := "(I)I" } : Jvm.MethodName)) ∈ lw_ok := in_t 1291 (by decide +kernel) rfl
theorem tw_1293 : (Jvm.Cond.methodLink "NineDaysModel" (340 : Nat) ({ cls := "NineDaysModel", name := "outAll", desc := "(Z)I" } : Jvm.MethodName)) ∈ lw_ok := in_t 1293 (by decide +kernel) rfl
theorem tw_1295 : (Jvm.Cond.instanceMethod ({ cls := "NineDaysModel", name := "outAll", desc := "(Z)I" } : Jvm.MethodName)) ∈ lw_ok := in_t 1295 (by decide +kernel) rfl
theorem tw_1297 : (Jvm.Cond.methodLink "NineDaysModel" (343 : Nat) ({ cls := "NineDaysModel", name := "hungerAll", desc := "()I" } : Jvm.MethodName)) ∈ lw_ok := in_t 1297 (by decide +kernel) rfl
theorem tw_1299 : (Jvm.Cond.instanceMethod ({ cls := "NineDaysModel", name := "hungerAll", desc := "()I" } : Jvm.MethodName)) ∈ lw_ok := in_t 1299 (by decide +kernel) rfl
theorem tw_1301 : (Jvm.Cond.methodLink "NineDaysLaw" (126 : Nat) ({ cls := "NineDaysModel", name := "leave", desc := "(IIIIZ)I" } : Jvm.MethodName)) ∈ lw_ok := in_t 1301 (by decide +kernel) rfl
theorem tw_1302 : (Jvm.Cond.instanceMethod ({ cls := "NineDaysModel", name := "leave", desc := "(IIIIZ)I" } : Jvm.MethodName)) ∈ lw_ok := in_t 1302 (by decide +kernel) rfl
theorem tw_1303 : (Jvm.Cond.selects "NineDaysModel" ({ cls := "NineDaysModel", name := "leave", desc := "(IIIIZ)I" } : Jvm.MethodName) ({ cls := "NineDaysModel", name := "leave", desc := "(IIIIZ)I" } : Jvm.MethodName)) ∈ lw_ok := in_t 1303 (by decide +kernel) rfl
theorem tw_1305 : (Jvm.Cond.methodLink "NineDaysLaw" (130 : Nat) ({ cls := "NineDaysModel", name := "binds", desc := "(III)I" } : Jvm.MethodName)) ∈ lw_ok := in_t 1305 (by decide +kernel) rfl
theorem tw_1306 : (Jvm.Cond.instanceMethod ({ cls := "NineDaysModel", name := "binds", desc := "(III)I" } : Jvm.MethodName)) ∈ lw_ok := in_t 1306 (by decide +kernel) rfl
theorem tw_1307 : (Jvm.Cond.selects "NineDaysModel" ({ cls := "NineDaysModel", name := "binds", desc := "(III)I" } : Jvm.MethodName) ({ cls := "NineDaysModel", name := "binds", desc := "(III)I" } : Jvm.MethodName)) ∈ lw_ok := in_t 1307 (by decide +kernel) rfl
theorem tw_1309 : (Jvm.Cond.methodLink "NineDaysModel" (349 : Nat) ({ cls := "NineDaysModel", name := "ledTo", desc := "(IIZ)I" } : Jvm.MethodName)) ∈ lw_ok := in_t 1309 (by decide +kernel) rfl
theorem tw_1311 : (Jvm.Cond.instanceMethod ({ cls := "NineDaysModel", name := "ledTo", desc := "(IIZ)I" } : Jvm.MethodName)) ∈ lw_ok := in_t 1311 (by decide +kernel) rfl
theorem tw_1313 : (Jvm.Cond.methodLink "NineDaysLaw" (134 : Nat) ({ cls := "NineDaysModel", name := "last", desc := "(I)I" } : Jvm.MethodName)) ∈ lw_ok := in_t 1313 (by decide +kernel) rfl
theorem tw_1314 : (Jvm.Cond.instanceMethod ({ cls := "NineDaysModel", name := "last", desc := "(I)I" } : Jvm.MethodName)) ∈ lw_ok := in_t 1314 (by decide +kernel) rfl
theorem tw_1315 : (Jvm.Cond.selects "NineDaysModel" ({ cls := "NineDaysModel", name := "last", desc := "(I)I" } : Jvm.MethodName) ({ cls := "NineDaysModel", name := "last", desc := "(I)I" } : Jvm.MethodName)) ∈ lw_ok := in_t 1315 (by decide +kernel) rfl
theorem tw_1317 : (Jvm.Cond.methodLink "NineDaysModel" (353 : Nat) ({ cls := "NineDaysModel", name := "lastOf", desc := "(I)I" } : Jvm.MethodName)) ∈ lw_ok := in_t 1317 (by decide +kernel) rfl
theorem tw_1319 : (Jvm.Cond.instanceMethod ({ cls := "NineDaysModel", name := "lastOf", desc := "(I)I" } : Jvm.MethodName)) ∈ lw_ok := in_t 1319 (by decide +kernel) rfl
theorem tw_1321 : (Jvm.Cond.methodLink "NineDaysLaw" (138 : Nat) ({ cls := "NineDaysModel", name := "lending", desc := "(I)I" } : Jvm.MethodName)) ∈ lw_ok := in_t 1321 (by decide +kernel) rfl
theorem tw_1322 : (Jvm.Cond.instanceMethod ({ cls := "NineDaysModel", name := "lending", desc := "(I)I" } : Jvm.MethodName)) ∈ lw_ok := in_t 1322 (by decide +kernel) rfl
theorem tw_1323 : (Jvm.Cond.selects "NineDaysModel" ({ cls := "NineDaysModel", name := "lending", desc := "(I)I" } : Jvm.MethodName) ({ cls := "NineDaysModel", name := "lending", desc := "(I)I" } : Jvm.MethodName)) ∈ lw_ok := in_t 1323 (by decide +kernel) rfl
theorem tw_1325 : (Jvm.Cond.constantLong "NineDaysModel" (356 : Nat) (63 : Int64)) ∈ lw_ok := in_t 1325 (by decide +kernel) rfl
theorem tw_1326 : (Jvm.Cond.methodLink "NineDaysLaw" (142 : Nat) ({ cls := "NineDaysModel", name := "table", desc := "(III)I" } : Jvm.MethodName)) ∈ lw_ok := in_t 1326 (by decide +kernel) rfl
theorem tw_1327 : (Jvm.Cond.instanceMethod ({ cls := "NineDaysModel", name := "table", desc := "(III)I" } : Jvm.MethodName)) ∈ lw_ok := in_t 1327 (by decide +kernel) rfl
theorem tw_1328 : (Jvm.Cond.selects "NineDaysModel" ({ cls := "NineDaysModel", name := "table", desc := "(III)I" } : Jvm.MethodName) ({ cls := "NineDaysModel", name := "table", desc := "(III)I" } : Jvm.MethodName)) ∈ lw_ok := in_t 1328 (by decide +kernel) rfl
theorem tw_1330 : (Jvm.Cond.constantLong "NineDaysModel" (358 : Nat) (-99 : Int64)) ∈ lw_ok := in_t 1330 (by decide +kernel) rfl
theorem tw_1331 : (Jvm.Cond.methodLink "NineDaysLaw" (146 : Nat) ({ cls := "NineDaysModel", name := "game", desc := "(III)I" } : Jvm.MethodName)) ∈ lw_ok := in_t 1331 (by decide +kernel) rfl
theorem tw_1332 : (Jvm.Cond.instanceMethod ({ cls := "NineDaysModel", name := "game", desc := "(III)I" } : Jvm.MethodName)) ∈ lw_ok := in_t 1332 (by decide +kernel) rfl
theorem tw_1333 : (Jvm.Cond.selects "NineDaysModel" ({ cls := "NineDaysModel", name := "game", desc := "(III)I" } : Jvm.MethodName) ({ cls := "NineDaysModel", name := "game", desc := "(III)I" } : Jvm.MethodName)) ∈ lw_ok := in_t 1333 (by decide +kernel) rfl
theorem tw_1335 : (Jvm.Cond.methodLink "NineDaysModel" (369 : Nat) ({ cls := "NineDaysModel", name := "isGame", desc := "(II)Z" } : Jvm.MethodName)) ∈ lw_ok := in_t 1335 (by decide +kernel) rfl
theorem tw_1336 : (Jvm.Cond.static ({ cls := "NineDaysModel", name := "isGame", desc := "(II)Z" } : Jvm.MethodName)) ∈ lw_ok := in_t 1336 (by decide +kernel) rfl
theorem tw_1338 : (Jvm.Cond.methodLink "NineDaysModel" (373 : Nat) ({ cls := "NineDaysModel", name := "findWorths", desc := "(II)V" } : Jvm.MethodName)) ∈ lw_ok := in_t 1338 (by decide +kernel) rfl
theorem tw_1340 : (Jvm.Cond.instanceMethod ({ cls := "NineDaysModel", name := "findWorths", desc := "(II)V" } : Jvm.MethodName)) ∈ lw_ok := in_t 1340 (by decide +kernel) rfl
theorem tw_1342 : (Jvm.Cond.constantLong "NineDaysModel" (360 : Nat) (-550 : Int64)) ∈ lw_ok := in_t 1342 (by decide +kernel) rfl
theorem tw_1343 : (Jvm.Cond.constantLong "NineDaysModel" (362 : Nat) (550 : Int64)) ∈ lw_ok := in_t 1343 (by decide +kernel) rfl
theorem tw_1344 : (Jvm.Cond.constant "NineDaysModel" (364 : Nat) (-1000000 : Int32)) ∈ lw_ok := in_t 1344 (by decide +kernel) rfl
theorem tw_1345 : (Jvm.Cond.methodLink "NineDaysModel" (365 : Nat) ({ cls := "NineDaysModel", name := "worthOf", desc := "(III)I" } : Jvm.MethodName)) ∈ lw_ok := in_t 1345 (by decide +kernel) rfl
theorem tw_1347 : (Jvm.Cond.instanceMethod ({ cls := "NineDaysModel", name := "worthOf", desc := "(III)I" } : Jvm.MethodName)) ∈ lw_ok := in_t 1347 (by decide +kernel) rfl
theorem tw_1349 : (Jvm.Cond.methodLink "NineDaysLaw" (150 : Nat) ({ cls := "NineDaysModel", name := "judge", desc := "(III)I" } : Jvm.MethodName)) ∈ lw_ok := in_t 1349 (by decide +kernel) rfl
theorem tw_1350 : (Jvm.Cond.instanceMethod ({ cls := "NineDaysModel", name := "judge", desc := "(III)I" } : Jvm.MethodName)) ∈ lw_ok := in_t 1350 (by decide +kernel) rfl
theorem tw_1351 : (Jvm.Cond.selects "NineDaysModel" ({ cls := "NineDaysModel", name := "judge", desc := "(III)I" } : Jvm.MethodName) ({ cls := "NineDaysModel", name := "judge", desc := "(III)I" } : Jvm.MethodName)) ∈ lw_ok := in_t 1351 (by decide +kernel) rfl
theorem tw_1353 : (Jvm.Cond.methodLink "NineDaysLaw" (155 : Nat) ({ cls := "NineDaysModel", name := "beside", desc := "(Z)I" } : Jvm.MethodName)) ∈ lw_ok := in_t 1353 (by decide +kernel) rfl
theorem tw_1354 : (Jvm.Cond.instanceMethod ({ cls := "NineDaysModel", name := "beside", desc := "(Z)I" } : Jvm.MethodName)) ∈ lw_ok := in_t 1354 (by decide +kernel) rfl
theorem tw_1355 : (Jvm.Cond.selects "NineDaysModel" ({ cls := "NineDaysModel", name := "beside", desc := "(Z)I" } : Jvm.MethodName) ({ cls := "NineDaysModel", name := "beside", desc := "(Z)I" } : Jvm.MethodName)) ∈ lw_ok := in_t 1355 (by decide +kernel) rfl
theorem tw_1357 : (Jvm.Cond.methodLink "NineDaysModel" (379 : Nat) ({ cls := "NineDaysModel", name := "keepAll", desc := "(Z)V" } : Jvm.MethodName)) ∈ lw_ok := in_t 1357 (by decide +kernel) rfl
theorem tw_1359 : (Jvm.Cond.instanceMethod ({ cls := "NineDaysModel", name := "keepAll", desc := "(Z)V" } : Jvm.MethodName)) ∈ lw_ok := in_t 1359 (by decide +kernel) rfl
theorem tw_1361 : (Jvm.Cond.methodLink "NineDaysModel" (376 : Nat) ({ cls := "NineDaysModel", name := "keep", desc := "(IIZ)I" } : Jvm.MethodName)) ∈ lw_ok := in_t 1361 (by decide +kernel) rfl
theorem tw_1363 : (Jvm.Cond.instanceMethod ({ cls := "NineDaysModel", name := "keep", desc := "(IIZ)I" } : Jvm.MethodName)) ∈ lw_ok := in_t 1363 (by decide +kernel) rfl
theorem tw_1365 : (Jvm.Cond.constantLong "NineDaysLaw" (77 : Nat) (4294967295 : Int64)) ∈ lw_ok := in_t 1365 (by decide +kernel) rfl
theorem tw_1366 : (Jvm.Cond.fieldLink "java/lang/String" (9 : Nat) "java/lang/String" "value" "[B") ∈ lw_ok := in_t 1366 (by decide +kernel) rfl
theorem tw_1367 : (Jvm.Cond.fieldLink "java/lang/String" (15 : Nat) "java/lang/String" "coder" "B") ∈ lw_ok := in_t 1367 (by decide +kernel) rfl
theorem ts_0 : Cond.selects "NineDays$Land" (⟨"NineDays$Land", "shorten", "(IIIII)V"⟩ : MethodName) (⟨"NineDays$Land", "shorten", "(IIIII)V"⟩ : MethodName) ∈ lw_ok := in_s 0 rfl rfl
theorem ts_1 : Cond.selects "NineDays$Orders" (⟨"NineDays$Orders", "overtaken", "(II)Z"⟩ : MethodName) (⟨"NineDays$Orders", "overtaken", "(II)Z"⟩ : MethodName) ∈ lw_ok := in_s 1 rfl rfl
theorem ts_2 : Cond.selects "NineDays$Orders" (⟨"NineDays$Orders", "firstCallHour", "()I"⟩ : MethodName) (⟨"NineDays$Orders", "firstCallHour", "()I"⟩ : MethodName) ∈ lw_ok := in_s 2 rfl rfl
theorem ts_3 : Cond.selects "NineDays$Orders" (⟨"NineDays$Orders", "spread", "(III)V"⟩ : MethodName) (⟨"NineDays$Orders", "spread", "(III)V"⟩ : MethodName) ∈ lw_ok := in_s 3 rfl rfl
theorem ts_4 : Cond.selects "NineDays$Reader" (⟨"NineDays$Reader", "more", "()Z"⟩ : MethodName) (⟨"NineDays$Reader", "more", "()Z"⟩ : MethodName) ∈ lw_ok := in_s 4 rfl rfl
theorem ts_5 : Cond.selects "NineDays$Reader" (⟨"NineDays$Reader", "skipBlanks", "()V"⟩ : MethodName) (⟨"NineDays$Reader", "skipBlanks", "()V"⟩ : MethodName) ∈ lw_ok := in_s 5 rfl rfl
theorem ts_6 : Cond.selects "NineDays$Reader" (⟨"NineDays$Reader", "readClause", "(I)V"⟩ : MethodName) (⟨"NineDays$Reader", "readClause", "(I)V"⟩ : MethodName) ∈ lw_ok := in_s 6 rfl rfl
theorem ts_7 : Cond.selects "NineDays$Reader" (⟨"NineDays$Reader", "takeWord", "()V"⟩ : MethodName) (⟨"NineDays$Reader", "takeWord", "()V"⟩ : MethodName) ∈ lw_ok := in_s 7 rfl rfl
theorem ts_8 : Cond.selects "NineDays$Reader" (⟨"NineDays$Reader", "spells", "(Ljava/lang/String;)Z"⟩ : MethodName) (⟨"NineDays$Reader", "spells", "(Ljava/lang/String;)Z"⟩ : MethodName) ∈ lw_ok := in_s 8 rfl rfl
theorem ts_9 : Cond.selects "NineDays$Reader" (⟨"NineDays$Reader", "readNeed", "()V"⟩ : MethodName) (⟨"NineDays$Reader", "readNeed", "()V"⟩ : MethodName) ∈ lw_ok := in_s 9 rfl rfl
theorem ts_10 : Cond.selects "NineDays$Reader" (⟨"NineDays$Reader", "refuseNinth", "()V"⟩ : MethodName) (⟨"NineDays$Reader", "refuseNinth", "()V"⟩ : MethodName) ∈ lw_ok := in_s 10 rfl rfl
theorem ts_11 : Cond.selects "NineDays$Reader" (⟨"NineDays$Reader", "blame", "(II)V"⟩ : MethodName) (⟨"NineDays$Reader", "blame", "(II)V"⟩ : MethodName) ∈ lw_ok := in_s 11 rfl rfl
theorem ts_12 : Cond.selects "NineDays$Reader" (⟨"NineDays$Reader", "good", "()I"⟩ : MethodName) (⟨"NineDays$Reader", "good", "()I"⟩ : MethodName) ∈ lw_ok := in_s 12 rfl rfl
theorem ts_13 : Cond.selects "NineDays$Reader" (⟨"NineDays$Reader", "readStamp", "(I)I"⟩ : MethodName) (⟨"NineDays$Reader", "readStamp", "(I)I"⟩ : MethodName) ∈ lw_ok := in_s 13 rfl rfl
theorem ts_14 : Cond.selects "NineDays$Reader" (⟨"NineDays$Reader", "committee", "()I"⟩ : MethodName) (⟨"NineDays$Reader", "committee", "()I"⟩ : MethodName) ∈ lw_ok := in_s 14 rfl rfl
theorem ts_15 : Cond.selects "NineDays$Reader" (⟨"NineDays$Reader", "takes", "(C)Z"⟩ : MethodName) (⟨"NineDays$Reader", "takes", "(C)Z"⟩ : MethodName) ∈ lw_ok := in_s 15 rfl rfl
theorem ts_16 : Cond.selects "NineDays$Reader" (⟨"NineDays$Reader", "close", "(II)V"⟩ : MethodName) (⟨"NineDays$Reader", "close", "(II)V"⟩ : MethodName) ∈ lw_ok := in_s 16 rfl rfl
theorem ts_17 : Cond.selects "NineDays$Reader" (⟨"NineDays$Reader", "readNumber", "(II)V"⟩ : MethodName) (⟨"NineDays$Reader", "readNumber", "(II)V"⟩ : MethodName) ∈ lw_ok := in_s 17 rfl rfl
theorem ts_18 : Cond.selects "NineDays$Rules" (⟨"NineDays$Rules", "countingIn", "(I)I"⟩ : MethodName) (⟨"NineDays$Rules", "countingIn", "(I)I"⟩ : MethodName) ∈ lw_ok := in_s 18 rfl rfl
theorem ts_19 : Cond.selects "NineDays$Rules" (⟨"NineDays$Rules", "struckBy", "(I)I"⟩ : MethodName) (⟨"NineDays$Rules", "struckBy", "(I)I"⟩ : MethodName) ∈ lw_ok := in_s 19 rfl rfl
theorem ts_20 : Cond.selects "NineDays$Rules" (⟨"NineDays$Rules", "apply", "(I[I)V"⟩ : MethodName) (⟨"NineDays$Rules", "apply", "(I[I)V"⟩ : MethodName) ∈ lw_ok := in_s 20 rfl rfl
theorem ts_21 : Cond.selects "NineDays$Days" (⟨"NineDays$Days", "listenAhead", "(IZ)V"⟩ : MethodName) (⟨"NineDays$Days", "listenAhead", "(IZ)V"⟩ : MethodName) ∈ lw_ok := in_s 21 rfl rfl
theorem ts_22 : Cond.selects "NineDays$Days" (⟨"NineDays$Days", "step", "(IZ)I"⟩ : MethodName) (⟨"NineDays$Days", "step", "(IZ)I"⟩ : MethodName) ∈ lw_ok := in_s 22 rfl rfl
theorem ts_23 : Cond.selects "NineDays$Days" (⟨"NineDays$Days", "arrive", "(I)V"⟩ : MethodName) (⟨"NineDays$Days", "arrive", "(I)V"⟩ : MethodName) ∈ lw_ok := in_s 23 rfl rfl
theorem ts_24 : Cond.selects "NineDays$Days" (⟨"NineDays$Days", "callOut", "()V"⟩ : MethodName) (⟨"NineDays$Days", "callOut", "()V"⟩ : MethodName) ∈ lw_ok := in_s 24 rfl rfl
theorem ts_25 : Cond.selects "NineDays$Days" (⟨"NineDays$Days", "payAll", "()V"⟩ : MethodName) (⟨"NineDays$Days", "payAll", "()V"⟩ : MethodName) ∈ lw_ok := in_s 25 rfl rfl
theorem ts_26 : Cond.selects "NineDays$Days" (⟨"NineDays$Days", "payDay", "(I)V"⟩ : MethodName) (⟨"NineDays$Days", "payDay", "(I)V"⟩ : MethodName) ∈ lw_ok := in_s 26 rfl rfl
theorem ts_27 : Cond.selects "NineDays$Days" (⟨"NineDays$Days", "send", "(II)V"⟩ : MethodName) (⟨"NineDays$Days", "send", "(II)V"⟩ : MethodName) ∈ lw_ok := in_s 27 rfl rfl
theorem ts_28 : Cond.selects "NineDays$Days" (⟨"NineDays$Days", "use", "(I)I"⟩ : MethodName) (⟨"NineDays$Days", "use", "(I)I"⟩ : MethodName) ∈ lw_ok := in_s 28 rfl rfl
theorem ts_29 : Cond.selects "NineDays$Leaves" (⟨"NineDays$Leaves", "inForce", "(II)Z"⟩ : MethodName) (⟨"NineDays$Leaves", "inForce", "(II)Z"⟩ : MethodName) ∈ lw_ok := in_s 29 rfl rfl
theorem ts_30 : Cond.selects "NineDays" (⟨"NineDays", "daysPaid", "(I)I"⟩ : MethodName) (⟨"NineDays", "daysPaid", "(I)I"⟩ : MethodName) ∈ lw_ok := in_s 30 rfl rfl
theorem ts_31 : Cond.selects "NineDays$Game" (⟨"NineDays$Game", "solveDay", "(IIIZ)V"⟩ : MethodName) (⟨"NineDays$Game", "solveDay", "(IIIZ)V"⟩ : MethodName) ∈ lw_ok := in_s 31 rfl rfl
theorem ts_32 : Cond.selects "NineDays$Game" (⟨"NineDays$Game", "answer", "(IIZ)I"⟩ : MethodName) (⟨"NineDays$Game", "answer", "(IIZ)I"⟩ : MethodName) ∈ lw_ok := in_s 32 rfl rfl
theorem ts_33 : Cond.selects "NineDays$Game" (⟨"NineDays$Game", "outcome", "(IZ)I"⟩ : MethodName) (⟨"NineDays$Game", "outcome", "(IZ)I"⟩ : MethodName) ∈ lw_ok := in_s 33 rfl rfl
theorem ts_34 : Cond.selects "NineDaysModel" (⟨"NineDaysModel", "awayOf", "(II)I"⟩ : MethodName) (⟨"NineDaysModel", "awayOf", "(II)I"⟩ : MethodName) ∈ lw_ok := in_s 34 rfl rfl
theorem ts_35 : Cond.selects "NineDaysModel" (⟨"NineDaysModel", "noOrder", "(I)Z"⟩ : MethodName) (⟨"NineDaysModel", "noOrder", "(I)Z"⟩ : MethodName) ∈ lw_ok := in_s 35 rfl rfl
theorem ts_36 : Cond.selects "NineDaysModel" (⟨"NineDaysModel", "reachOf", "(II)I"⟩ : MethodName) (⟨"NineDaysModel", "reachOf", "(II)I"⟩ : MethodName) ∈ lw_ok := in_s 36 rfl rfl
theorem ts_37 : Cond.selects "NineDaysModel" (⟨"NineDaysModel", "hourOf", "(I)I"⟩ : MethodName) (⟨"NineDaysModel", "hourOf", "(I)I"⟩ : MethodName) ∈ lw_ok := in_s 37 rfl rfl
theorem ts_38 : Cond.selects "NineDaysModel" (⟨"NineDaysModel", "isCalled", "(III)Z"⟩ : MethodName) (⟨"NineDaysModel", "isCalled", "(III)Z"⟩ : MethodName) ∈ lw_ok := in_s 38 rfl rfl
theorem ts_39 : Cond.selects "NineDaysModel" (⟨"NineDaysModel", "holdsOf", "(IIII)I"⟩ : MethodName) (⟨"NineDaysModel", "holdsOf", "(IIII)I"⟩ : MethodName) ∈ lw_ok := in_s 39 rfl rfl
theorem ts_40 : Cond.selects "NineDaysModel" (⟨"NineDaysModel", "here", "()I"⟩ : MethodName) (⟨"NineDaysModel", "here", "()I"⟩ : MethodName) ∈ lw_ok := in_s 40 rfl rfl
theorem ts_41 : Cond.selects "NineDaysModel" (⟨"NineDaysModel", "takeWord", "()V"⟩ : MethodName) (⟨"NineDaysModel", "takeWord", "()V"⟩ : MethodName) ∈ lw_ok := in_s 41 rfl rfl
theorem ts_42 : Cond.selects "NineDaysModel" (⟨"NineDaysModel", "clauseOf", "()I"⟩ : MethodName) (⟨"NineDaysModel", "clauseOf", "()I"⟩ : MethodName) ∈ lw_ok := in_s 42 rfl rfl
theorem ts_43 : Cond.selects "NineDaysModel" (⟨"NineDaysModel", "isWord", "(IIIIIII)Z"⟩ : MethodName) (⟨"NineDaysModel", "isWord", "(IIIIIII)Z"⟩ : MethodName) ∈ lw_ok := in_s 43 rfl rfl
theorem ts_44 : Cond.selects "NineDaysModel" (⟨"NineDaysModel", "want", "(ZII)Z"⟩ : MethodName) (⟨"NineDaysModel", "want", "(ZII)Z"⟩ : MethodName) ∈ lw_ok := in_s 44 rfl rfl
theorem ts_45 : Cond.selects "NineDaysModel" (⟨"NineDaysModel", "readClause", "(II)V"⟩ : MethodName) (⟨"NineDaysModel", "readClause", "(II)V"⟩ : MethodName) ∈ lw_ok := in_s 45 rfl rfl
theorem ts_46 : Cond.selects "NineDaysModel" (⟨"NineDaysModel", "readNeed", "(I)V"⟩ : MethodName) (⟨"NineDaysModel", "readNeed", "(I)V"⟩ : MethodName) ∈ lw_ok := in_s 46 rfl rfl
theorem ts_47 : Cond.selects "NineDaysModel" (⟨"NineDaysModel", "goodOf", "()I"⟩ : MethodName) (⟨"NineDaysModel", "goodOf", "()I"⟩ : MethodName) ∈ lw_ok := in_s 47 rfl rfl
theorem ts_48 : Cond.selects "NineDaysModel" (⟨"NineDaysModel", "stampOf", "()I"⟩ : MethodName) (⟨"NineDaysModel", "stampOf", "()I"⟩ : MethodName) ∈ lw_ok := in_s 48 rfl rfl
theorem ts_49 : Cond.selects "NineDaysModel" (⟨"NineDaysModel", "takeNumber", "(II)I"⟩ : MethodName) (⟨"NineDaysModel", "takeNumber", "(II)I"⟩ : MethodName) ∈ lw_ok := in_s 49 rfl rfl
theorem ts_50 : Cond.selects "NineDaysModel" (⟨"NineDaysModel", "findRules", "(I)V"⟩ : MethodName) (⟨"NineDaysModel", "findRules", "(I)V"⟩ : MethodName) ∈ lw_ok := in_s 50 rfl rfl
theorem ts_51 : Cond.selects "NineDaysModel" (⟨"NineDaysModel", "take", "(I)V"⟩ : MethodName) (⟨"NineDaysModel", "take", "(I)V"⟩ : MethodName) ∈ lw_ok := in_s 51 rfl rfl
theorem ts_52 : Cond.selects "NineDaysModel" (⟨"NineDaysModel", "begin", "(I)V"⟩ : MethodName) (⟨"NineDaysModel", "begin", "(I)V"⟩ : MethodName) ∈ lw_ok := in_s 52 rfl rfl
theorem ts_53 : Cond.selects "NineDaysModel" (⟨"NineDaysModel", "noLoad", "(I)Z"⟩ : MethodName) (⟨"NineDaysModel", "noLoad", "(I)Z"⟩ : MethodName) ∈ lw_ok := in_s 53 rfl rfl
theorem ts_54 : Cond.selects "NineDaysModel" (⟨"NineDaysModel", "doHour", "(I)I"⟩ : MethodName) (⟨"NineDaysModel", "doHour", "(I)I"⟩ : MethodName) ∈ lw_ok := in_s 54 rfl rfl
theorem ts_55 : Cond.selects "NineDaysModel" (⟨"NineDaysModel", "arrive", "(I)V"⟩ : MethodName) (⟨"NineDaysModel", "arrive", "(I)V"⟩ : MethodName) ∈ lw_ok := in_s 55 rfl rfl
theorem ts_56 : Cond.selects "NineDaysModel" (⟨"NineDaysModel", "callOut", "(I)V"⟩ : MethodName) (⟨"NineDaysModel", "callOut", "(I)V"⟩ : MethodName) ∈ lw_ok := in_s 56 rfl rfl
theorem ts_57 : Cond.selects "NineDaysModel" (⟨"NineDaysModel", "payOut", "(II)V"⟩ : MethodName) (⟨"NineDaysModel", "payOut", "(II)V"⟩ : MethodName) ∈ lw_ok := in_s 57 rfl rfl
theorem ts_58 : Cond.selects "NineDaysModel" (⟨"NineDaysModel", "sendOff", "(I)V"⟩ : MethodName) (⟨"NineDaysModel", "sendOff", "(I)V"⟩ : MethodName) ∈ lw_ok := in_s 58 rfl rfl
theorem ts_59 : Cond.selects "NineDaysModel" (⟨"NineDaysModel", "useUp", "(I)I"⟩ : MethodName) (⟨"NineDaysModel", "useUp", "(I)I"⟩ : MethodName) ∈ lw_ok := in_s 59 rfl rfl
theorem ts_60 : Cond.selects "NineDaysModel" (⟨"NineDaysModel", "loadsIn", "(I)I"⟩ : MethodName) (⟨"NineDaysModel", "loadsIn", "(I)I"⟩ : MethodName) ∈ lw_ok := in_s 60 rfl rfl
theorem ts_61 : Cond.selects "NineDaysModel" (⟨"NineDaysModel", "outAll", "(Z)I"⟩ : MethodName) (⟨"NineDaysModel", "outAll", "(Z)I"⟩ : MethodName) ∈ lw_ok := in_s 61 rfl rfl
theorem ts_62 : Cond.selects "NineDaysModel" (⟨"NineDaysModel", "hungerAll", "()I"⟩ : MethodName) (⟨"NineDaysModel", "hungerAll", "()I"⟩ : MethodName) ∈ lw_ok := in_s 62 rfl rfl
theorem ts_63 : Cond.selects "NineDaysModel" (⟨"NineDaysModel", "ledTo", "(IIZ)I"⟩ : MethodName) (⟨"NineDaysModel", "ledTo", "(IIZ)I"⟩ : MethodName) ∈ lw_ok := in_s 63 rfl rfl
theorem ts_64 : Cond.selects "NineDaysModel" (⟨"NineDaysModel", "lastOf", "(I)I"⟩ : MethodName) (⟨"NineDaysModel", "lastOf", "(I)I"⟩ : MethodName) ∈ lw_ok := in_s 64 rfl rfl
theorem ts_65 : Cond.selects "NineDaysModel" (⟨"NineDaysModel", "findWorths", "(II)V"⟩ : MethodName) (⟨"NineDaysModel", "findWorths", "(II)V"⟩ : MethodName) ∈ lw_ok := in_s 65 rfl rfl
theorem ts_66 : Cond.selects "NineDaysModel" (⟨"NineDaysModel", "worthOf", "(III)I"⟩ : MethodName) (⟨"NineDaysModel", "worthOf", "(III)I"⟩ : MethodName) ∈ lw_ok := in_s 66 rfl rfl
theorem ts_67 : Cond.selects "NineDaysModel" (⟨"NineDaysModel", "keepAll", "(Z)V"⟩ : MethodName) (⟨"NineDaysModel", "keepAll", "(Z)V"⟩ : MethodName) ∈ lw_ok := in_s 67 rfl rfl
theorem ts_68 : Cond.selects "NineDaysModel" (⟨"NineDaysModel", "keep", "(IIZ)I"⟩ : MethodName) (⟨"NineDaysModel", "keep", "(IIZ)I"⟩ : MethodName) ∈ lw_ok := in_s 68 rfl rfl
set_option maxRecDepth 100000 in
theorem kc_J0_charAt_5068e : Cond.code yJ0_charAt_5068e cJ0_charAt_5068e 2 (some .char) ∈ lw_ok := in_t 573 rfl rfl
set_option maxRecDepth 100000 in
theorem kc_J0_checkIndex_df160 : Cond.code yJ0_checkIndex_df160 cJ0_checkIndex_df160 2 (none) ∈ lw_ok := in_t 583 rfl rfl
set_option maxRecDepth 100000 in
theorem kc_J0_coder_7d493 : Cond.code yJ0_coder_7d493 cJ0_coder_7d493 1 (some .byte) ∈ lw_ok := in_t 567 rfl rfl
set_option maxRecDepth 100000 in
theorem kc_J0_isLatin1_aae02 : Cond.code yJ0_isLatin1_aae02 cJ0_isLatin1_aae02 1 (some .boolean) ∈ lw_ok := in_t 577 rfl rfl
set_option maxRecDepth 100000 in
theorem kc_J0_length_8abf5 : Cond.code yJ0_length_8abf5 cJ0_length_8abf5 1 (some .int) ∈ lw_ok := in_t 563 rfl rfl
set_option maxRecDepth 100000 in
theorem kc_J1_charAt_3b067 : Cond.code yJ1_charAt_3b067 cJ1_charAt_3b067 2 (some .char) ∈ lw_ok := in_t 580 rfl rfl
set_option maxRecDepth 100000 in
theorem kc_J3_checkIndex_8e157 : Cond.code yJ3_checkIndex_8e157 cJ3_checkIndex_8e157 3 (some .int) ∈ lw_ok := in_t 588 rfl rfl
set_option maxRecDepth 100000 in
theorem kc_J7_fill_53178 : Cond.code yJ7_fill_53178 cJ7_fill_53178 4 (none) ∈ lw_ok := in_t 35 rfl rfl
set_option maxRecDepth 100000 in
theorem kc_X0_arrive : Cond.code yX0_arrive cX0_arrive 4 (none) ∈ lw_ok := in_t 752 rfl rfl
set_option maxRecDepth 100000 in
theorem kc_X0_beginAnew : Cond.code yX0_beginAnew cX0_beginAnew 2 (none) ∈ lw_ok := in_t 228 rfl rfl
set_option maxRecDepth 100000 in
theorem kc_X0_callOut : Cond.code yX0_callOut cX0_callOut 3 (none) ∈ lw_ok := in_t 757 rfl rfl
set_option maxRecDepth 100000 in
theorem kc_X0_init : Cond.code yX0_init cX0_init 6 (none) ∈ lw_ok := in_t 223 rfl rfl
set_option maxRecDepth 100000 in
theorem kc_X0_listenAhead : Cond.code yX0_listenAhead cX0_listenAhead 4 (none) ∈ lw_ok := in_t 741 rfl rfl
set_option maxRecDepth 100000 in
theorem kc_X0_loadsThatAre : Cond.code yX0_loadsThatAre cX0_loadsThatAre 4 (some .int) ∈ lw_ok := in_t 462 rfl rfl
set_option maxRecDepth 100000 in
theorem kc_X0_payAll : Cond.code yX0_payAll cX0_payAll 2 (none) ∈ lw_ok := in_t 761 rfl rfl
set_option maxRecDepth 100000 in
theorem kc_X0_payDay : Cond.code yX0_payDay cX0_payDay 7 (none) ∈ lw_ok := in_t 765 rfl rfl
set_option maxRecDepth 100000 in
theorem kc_X0_run : Cond.code yX0_run cX0_run 6 (some .int) ∈ lw_ok := in_t 737 rfl rfl
set_option maxRecDepth 100000 in
theorem kc_X0_send : Cond.code yX0_send cX0_send 6 (none) ∈ lw_ok := in_t 772 rfl rfl
set_option maxRecDepth 100000 in
theorem kc_X0_step : Cond.code yX0_step cX0_step 4 (some .int) ∈ lw_ok := in_t 747 rfl rfl
set_option maxRecDepth 100000 in
theorem kc_X0_use : Cond.code yX0_use cX0_use 5 (some .int) ∈ lw_ok := in_t 778 rfl rfl
set_option maxRecDepth 100000 in
theorem kc_X10_arrive : Cond.code yX10_arrive cX10_arrive 4 (none) ∈ lw_ok := in_t 1268 rfl rfl
set_option maxRecDepth 100000 in
theorem kc_X10_away : Cond.code yX10_away cX10_away 3 (some .int) ∈ lw_ok := in_t 1064 rfl rfl
set_option maxRecDepth 100000 in
theorem kc_X10_awayOf : Cond.code yX10_awayOf cX10_awayOf 3 (some .int) ∈ lw_ok := in_t 1068 rfl rfl
set_option maxRecDepth 100000 in
theorem kc_X10_begin : Cond.code yX10_begin cX10_begin 2 (none) ∈ lw_ok := in_t 1235 rfl rfl
set_option maxRecDepth 100000 in
theorem kc_X10_beside : Cond.code yX10_beside cX10_beside 5 (some .int) ∈ lw_ok := in_t 1356 rfl rfl
set_option maxRecDepth 100000 in
theorem kc_X10_binds : Cond.code yX10_binds cX10_binds 4 (some .int) ∈ lw_ok := in_t 1308 rfl rfl
set_option maxRecDepth 100000 in
theorem kc_X10_callOut : Cond.code yX10_callOut cX10_callOut 7 (none) ∈ lw_ok := in_t 1272 rfl rfl
set_option maxRecDepth 100000 in
theorem kc_X10_called : Cond.code yX10_called cX10_called 4 (some .int) ∈ lw_ok := in_t 1142 rfl rfl
set_option maxRecDepth 100000 in
theorem kc_X10_clash : Cond.code yX10_clash cX10_clash 6 (some .int) ∈ lw_ok := in_t 1251 rfl rfl
set_option maxRecDepth 100000 in
theorem kc_X10_clauseOf : Cond.code yX10_clauseOf cX10_clauseOf 1 (some .int) ∈ lw_ok := in_t 1180 rfl rfl
set_option maxRecDepth 100000 in
theorem kc_X10_count : Cond.code yX10_count cX10_count 2 (some .int) ∈ lw_ok := in_t 1288 rfl rfl
set_option maxRecDepth 100000 in
theorem kc_X10_doHour : Cond.code yX10_doHour cX10_doHour 4 (some .int) ∈ lw_ok := in_t 1264 rfl rfl
set_option maxRecDepth 100000 in
theorem kc_X10_fault : Cond.code yX10_fault cX10_fault 1 (some .int) ∈ lw_ok := in_t 1214 rfl rfl
set_option maxRecDepth 100000 in
theorem kc_X10_feed : Cond.code yX10_feed cX10_feed 5 (some .int) ∈ lw_ok := in_t 1161 rfl rfl
set_option maxRecDepth 100000 in
theorem kc_X10_findRules : Cond.code yX10_findRules cX10_findRules 5 (none) ∈ lw_ok := in_t 1223 rfl rfl
set_option maxRecDepth 100000 in
theorem kc_X10_findWorths : Cond.code yX10_findWorths cX10_findWorths 8 (none) ∈ lw_ok := in_t 1341 rfl rfl
set_option maxRecDepth 100000 in
theorem kc_X10_force : Cond.code yX10_force cX10_force 3 (some .int) ∈ lw_ok := in_t 1218 rfl rfl
set_option maxRecDepth 100000 in
theorem kc_X10_fund : Cond.code yX10_fund cX10_fund 4 (some .int) ∈ lw_ok := in_t 1099 rfl rfl
set_option maxRecDepth 100000 in
theorem kc_X10_game : Cond.code yX10_game cX10_game 8 (some .int) ∈ lw_ok := in_t 1334 rfl rfl
set_option maxRecDepth 100000 in
theorem kc_X10_go : Cond.code yX10_go cX10_go 4 (some .int) ∈ lw_ok := in_t 1259 rfl rfl
set_option maxRecDepth 100000 in
theorem kc_X10_goodOf : Cond.code yX10_goodOf cX10_goodOf 1 (some .int) ∈ lw_ok := in_t 1200 rfl rfl
set_option maxRecDepth 100000 in
theorem kc_X10_here : Cond.code yX10_here cX10_here 1 (some .int) ∈ lw_ok := in_t 1170 rfl rfl
set_option maxRecDepth 100000 in
theorem kc_X10_holds : Cond.code yX10_holds cX10_holds 5 (some .int) ∈ lw_ok := in_t 1157 rfl rfl
set_option maxRecDepth 100000 in
theorem kc_X10_holdsOf : Cond.code yX10_holdsOf cX10_holdsOf 9 (some .int) ∈ lw_ok := in_t 1153 rfl rfl
set_option maxRecDepth 100000 in
theorem kc_X10_hourOf : Cond.code yX10_hourOf cX10_hourOf 2 (some .int) ∈ lw_ok := in_t 1131 rfl rfl
set_option maxRecDepth 100000 in
theorem kc_X10_hungerAll : Cond.code yX10_hungerAll cX10_hungerAll 3 (some .int) ∈ lw_ok := in_t 1300 rfl rfl
set_option maxRecDepth 100000 in
theorem kc_X10_in : Cond.code yX10_in cX10_in 6 (some .boolean) ∈ lw_ok := in_t 1056 rfl rfl
set_option maxRecDepth 100000 in
theorem kc_X10_init : Cond.code yX10_init cX10_init 3 (none) ∈ lw_ok := in_t 862 rfl rfl
set_option maxRecDepth 100000 in
theorem kc_X10_isCalled : Cond.code yX10_isCalled cX10_isCalled 6 (some .boolean) ∈ lw_ok := in_t 1149 rfl rfl
set_option maxRecDepth 100000 in
theorem kc_X10_isGame : Cond.code yX10_isGame cX10_isGame 2 (some .boolean) ∈ lw_ok := in_t 1337 rfl rfl
set_option maxRecDepth 100000 in
theorem kc_X10_isGood : Cond.code yX10_isGood cX10_isGood 1 (some .boolean) ∈ lw_ok := in_t 1075 rfl rfl
set_option maxRecDepth 100000 in
theorem kc_X10_isHour : Cond.code yX10_isHour cX10_isHour 1 (some .boolean) ∈ lw_ok := in_t 1145 rfl rfl
set_option maxRecDepth 100000 in
theorem kc_X10_isTown : Cond.code yX10_isTown cX10_isTown 1 (some .boolean) ∈ lw_ok := in_t 1052 rfl rfl
set_option maxRecDepth 100000 in
theorem kc_X10_isUnion : Cond.code yX10_isUnion cX10_isUnion 1 (some .boolean) ∈ lw_ok := in_t 1089 rfl rfl
set_option maxRecDepth 100000 in
theorem kc_X10_isWord : Cond.code yX10_isWord cX10_isWord 10 (some .boolean) ∈ lw_ok := in_t 1184 rfl rfl
set_option maxRecDepth 100000 in
theorem kc_X10_judge : Cond.code yX10_judge cX10_judge 9 (some .int) ∈ lw_ok := in_t 1352 rfl rfl
set_option maxRecDepth 100000 in
theorem kc_X10_keep : Cond.code yX10_keep cX10_keep 5 (some .int) ∈ lw_ok := in_t 1364 rfl rfl
set_option maxRecDepth 100000 in
theorem kc_X10_keepAll : Cond.code yX10_keepAll cX10_keepAll 3 (none) ∈ lw_ok := in_t 1360 rfl rfl
set_option maxRecDepth 100000 in
theorem kc_X10_last : Cond.code yX10_last cX10_last 2 (some .int) ∈ lw_ok := in_t 1316 rfl rfl
set_option maxRecDepth 100000 in
theorem kc_X10_lastOf : Cond.code yX10_lastOf cX10_lastOf 8 (some .int) ∈ lw_ok := in_t 1320 rfl rfl
set_option maxRecDepth 100000 in
theorem kc_X10_late : Cond.code yX10_late cX10_late 8 (some .int) ∈ lw_ok := in_t 1135 rfl rfl
set_option maxRecDepth 100000 in
theorem kc_X10_least : Cond.code yX10_least cX10_least 2 (some .int) ∈ lw_ok := in_t 1060 rfl rfl
set_option maxRecDepth 100000 in
theorem kc_X10_leave : Cond.code yX10_leave cX10_leave 6 (some .int) ∈ lw_ok := in_t 1304 rfl rfl
set_option maxRecDepth 100000 in
theorem kc_X10_ledTo : Cond.code yX10_ledTo cX10_ledTo 8 (some .int) ∈ lw_ok := in_t 1312 rfl rfl
set_option maxRecDepth 100000 in
theorem kc_X10_lending : Cond.code yX10_lending cX10_lending 2 (some .int) ∈ lw_ok := in_t 1324 rfl rfl
set_option maxRecDepth 100000 in
theorem kc_X10_load : Cond.code yX10_load cX10_load 6 (some .int) ∈ lw_ok := in_t 1231 rfl rfl
set_option maxRecDepth 100000 in
theorem kc_X10_loadsIn : Cond.code yX10_loadsIn cX10_loadsIn 4 (some .int) ∈ lw_ok := in_t 1292 rfl rfl
set_option maxRecDepth 100000 in
theorem kc_X10_members : Cond.code yX10_members cX10_members 6 (some .int) ∈ lw_ok := in_t 1086 rfl rfl
set_option maxRecDepth 100000 in
theorem kc_X10_need : Cond.code yX10_need cX10_need 5 (some .int) ∈ lw_ok := in_t 1081 rfl rfl
set_option maxRecDepth 100000 in
theorem kc_X10_noLoad : Cond.code yX10_noLoad cX10_noLoad 2 (some .boolean) ∈ lw_ok := in_t 1243 rfl rfl
set_option maxRecDepth 100000 in
theorem kc_X10_noOrder : Cond.code yX10_noOrder cX10_noOrder 2 (some .boolean) ∈ lw_ok := in_t 1123 rfl rfl
set_option maxRecDepth 100000 in
theorem kc_X10_one : Cond.code yX10_one cX10_one 1 (some .int) ∈ lw_ok := in_t 1138 rfl rfl
set_option maxRecDepth 100000 in
theorem kc_X10_order : Cond.code yX10_order cX10_order 5 (some .int) ∈ lw_ok := in_t 1113 rfl rfl
set_option maxRecDepth 100000 in
theorem kc_X10_out : Cond.code yX10_out cX10_out 5 (some .int) ∈ lw_ok := in_t 1104 rfl rfl
set_option maxRecDepth 100000 in
theorem kc_X10_outAll : Cond.code yX10_outAll cX10_outAll 4 (some .int) ∈ lw_ok := in_t 1296 rfl rfl
set_option maxRecDepth 100000 in
theorem kc_X10_payOut : Cond.code yX10_payOut cX10_payOut 7 (none) ∈ lw_ok := in_t 1276 rfl rfl
set_option maxRecDepth 100000 in
theorem kc_X10_purse : Cond.code yX10_purse cX10_purse 4 (some .int) ∈ lw_ok := in_t 1095 rfl rfl
set_option maxRecDepth 100000 in
theorem kc_X10_reach : Cond.code yX10_reach cX10_reach 3 (some .int) ∈ lw_ok := in_t 1119 rfl rfl
set_option maxRecDepth 100000 in
theorem kc_X10_reachOf : Cond.code yX10_reachOf cX10_reachOf 4 (some .int) ∈ lw_ok := in_t 1127 rfl rfl
set_option maxRecDepth 100000 in
theorem kc_X10_readClause : Cond.code yX10_readClause cX10_readClause 4 (none) ∈ lw_ok := in_t 1192 rfl rfl
set_option maxRecDepth 100000 in
theorem kc_X10_readNeed : Cond.code yX10_readNeed cX10_readNeed 5 (none) ∈ lw_ok := in_t 1196 rfl rfl
set_option maxRecDepth 100000 in
theorem kc_X10_road : Cond.code yX10_road cX10_road 8 (some .int) ∈ lw_ok := in_t 1049 rfl rfl
set_option maxRecDepth 100000 in
theorem kc_X10_rule : Cond.code yX10_rule cX10_rule 4 (some .int) ∈ lw_ok := in_t 1166 rfl rfl
set_option maxRecDepth 100000 in
theorem kc_X10_sendOff : Cond.code yX10_sendOff cX10_sendOff 6 (none) ∈ lw_ok := in_t 1280 rfl rfl
set_option maxRecDepth 100000 in
theorem kc_X10_stamp : Cond.code yX10_stamp cX10_stamp 3 (some .int) ∈ lw_ok := in_t 1239 rfl rfl
set_option maxRecDepth 100000 in
theorem kc_X10_stampOf : Cond.code yX10_stampOf cX10_stampOf 1 (some .int) ∈ lw_ok := in_t 1204 rfl rfl
set_option maxRecDepth 100000 in
theorem kc_X10_store : Cond.code yX10_store cX10_store 5 (some .int) ∈ lw_ok := in_t 1072 rfl rfl
set_option maxRecDepth 100000 in
theorem kc_X10_table : Cond.code yX10_table cX10_table 5 (some .int) ∈ lw_ok := in_t 1329 rfl rfl
set_option maxRecDepth 100000 in
theorem kc_X10_take : Cond.code yX10_take cX10_take 2 (none) ∈ lw_ok := in_t 1227 rfl rfl
set_option maxRecDepth 100000 in
theorem kc_X10_takeNumber : Cond.code yX10_takeNumber cX10_takeNumber 6 (some .int) ∈ lw_ok := in_t 1208 rfl rfl
set_option maxRecDepth 100000 in
theorem kc_X10_takeWord : Cond.code yX10_takeWord cX10_takeWord 2 (none) ∈ lw_ok := in_t 1174 rfl rfl
set_option maxRecDepth 100000 in
theorem kc_X10_told : Cond.code yX10_told cX10_told 3 (some .int) ∈ lw_ok := in_t 1247 rfl rfl
set_option maxRecDepth 100000 in
theorem kc_X10_town : Cond.code yX10_town cX10_town 4 (some .int) ∈ lw_ok := in_t 1108 rfl rfl
set_option maxRecDepth 100000 in
theorem kc_X10_useUp : Cond.code yX10_useUp cX10_useUp 6 (some .int) ∈ lw_ok := in_t 1284 rfl rfl
set_option maxRecDepth 100000 in
theorem kc_X10_want : Cond.code yX10_want cX10_want 4 (some .boolean) ∈ lw_ok := in_t 1188 rfl rfl
set_option maxRecDepth 100000 in
theorem kc_X10_words : Cond.code yX10_words cX10_words 3 (some .int) ∈ lw_ok := in_t 1255 rfl rfl
set_option maxRecDepth 100000 in
theorem kc_X10_worthOf : Cond.code yX10_worthOf cX10_worthOf 6 (some .int) ∈ lw_ok := in_t 1348 rfl rfl
set_option maxRecDepth 100000 in
theorem kc_X1_answer : Cond.code yX1_answer cX1_answer 6 (some .int) ∈ lw_ok := in_t 834 rfl rfl
set_option maxRecDepth 100000 in
theorem kc_X1_init : Cond.code yX1_init cX1_init 1 (none) ∈ lw_ok := in_t 326 rfl rfl
set_option maxRecDepth 100000 in
theorem kc_X1_outcome : Cond.code yX1_outcome cX1_outcome 3 (some .int) ∈ lw_ok := in_t 838 rfl rfl
set_option maxRecDepth 100000 in
theorem kc_X1_rows : Cond.code yX1_rows cX1_rows 3 (some .int) ∈ lw_ok := in_t 848 rfl rfl
set_option maxRecDepth 100000 in
theorem kc_X1_score : Cond.code yX1_score cX1_score 9 (some .int) ∈ lw_ok := in_t 852 rfl rfl
set_option maxRecDepth 100000 in
theorem kc_X1_solve : Cond.code yX1_solve cX1_solve 9 (none) ∈ lw_ok := in_t 824 rfl rfl
set_option maxRecDepth 100000 in
theorem kc_X1_solveDay : Cond.code yX1_solveDay cX1_solveDay 10 (none) ∈ lw_ok := in_t 830 rfl rfl
set_option maxRecDepth 100000 in
theorem kc_X2_init : Cond.code yX2_init cX2_init 1 (none) ∈ lw_ok := in_t 49 rfl rfl
set_option maxRecDepth 100000 in
theorem kc_X3_init : Cond.code yX3_init cX3_init 2 (none) ∈ lw_ok := in_t 31 rfl rfl
set_option maxRecDepth 100000 in
theorem kc_X3_join : Cond.code yX3_join cX3_join 6 (none) ∈ lw_ok := in_t 403 rfl rfl
set_option maxRecDepth 100000 in
theorem kc_X3_shorten : Cond.code yX3_shorten cX3_shorten 8 (none) ∈ lw_ok := in_t 411 rfl rfl
set_option maxRecDepth 100000 in
theorem kc_X3_way : Cond.code yX3_way cX3_way 3 (some .int) ∈ lw_ok := in_t 407 rfl rfl
set_option maxRecDepth 100000 in
theorem kc_X4_bound : Cond.code yX4_bound cX4_bound 8 (some .int) ∈ lw_ok := in_t 794 rfl rfl
set_option maxRecDepth 100000 in
theorem kc_X4_give : Cond.code yX4_give cX4_give 6 (some .int) ∈ lw_ok := in_t 786 rfl rfl
set_option maxRecDepth 100000 in
theorem kc_X4_inForce : Cond.code yX4_inForce cX4_inForce 3 (some .boolean) ∈ lw_ok := in_t 798 rfl rfl
set_option maxRecDepth 100000 in
theorem kc_X4_init : Cond.code yX4_init cX4_init 1 (none) ∈ lw_ok := in_t 300 rfl rfl
set_option maxRecDepth 100000 in
theorem kc_X5_add : Cond.code yX5_add cX5_add 6 (some .int) ∈ lw_ok := in_t 704 rfl rfl
set_option maxRecDepth 100000 in
theorem kc_X5_clashes : Cond.code yX5_clashes cX5_clashes 3 (some .boolean) ∈ lw_ok := in_t 720 rfl rfl
set_option maxRecDepth 100000 in
theorem kc_X5_init : Cond.code yX5_init cX5_init 1 (none) ∈ lw_ok := in_t 182 rfl rfl
set_option maxRecDepth 100000 in
theorem kc_X5_missing : Cond.code yX5_missing cX5_missing 3 (some .int) ∈ lw_ok := in_t 724 rfl rfl
set_option maxRecDepth 100000 in
theorem kc_X6_calls : Cond.code yX6_calls cX6_calls 4 (some .boolean) ∈ lw_ok := in_t 517 rfl rfl
set_option maxRecDepth 100000 in
theorem kc_X6_comes : Cond.code yX6_comes cX6_comes 5 (some .int) ∈ lw_ok := in_t 481 rfl rfl
set_option maxRecDepth 100000 in
theorem kc_X6_firstCallHour : Cond.code yX6_firstCallHour cX6_firstCallHour 3 (some .int) ∈ lw_ok := in_t 508 rfl rfl
set_option maxRecDepth 100000 in
theorem kc_X6_give : Cond.code yX6_give cX6_give 5 (some .int) ∈ lw_ok := in_t 473 rfl rfl
set_option maxRecDepth 100000 in
theorem kc_X6_init : Cond.code yX6_init cX6_init 2 (none) ∈ lw_ok := in_t 82 rfl rfl
set_option maxRecDepth 100000 in
theorem kc_X6_lateTowns : Cond.code yX6_lateTowns cX6_lateTowns 5 (some .int) ∈ lw_ok := in_t 490 rfl rfl
set_option maxRecDepth 100000 in
theorem kc_X6_listen : Cond.code yX6_listen cX6_listen 6 (none) ∈ lw_ok := in_t 503 rfl rfl
set_option maxRecDepth 100000 in
theorem kc_X6_overtaken : Cond.code yX6_overtaken cX6_overtaken 5 (some .boolean) ∈ lw_ok := in_t 495 rfl rfl
set_option maxRecDepth 100000 in
theorem kc_X6_spread : Cond.code yX6_spread cX6_spread 7 (none) ∈ lw_ok := in_t 513 rfl rfl
set_option maxRecDepth 100000 in
theorem kc_X7_append : Cond.code yX7_append cX7_append 5 (none) ∈ lw_ok := in_t 529 rfl rfl
set_option maxRecDepth 100000 in
theorem kc_X7_blame : Cond.code yX7_blame cX7_blame 3 (none) ∈ lw_ok := in_t 619 rfl rfl
set_option maxRecDepth 100000 in
theorem kc_X7_close : Cond.code yX7_close cX7_close 3 (none) ∈ lw_ok := in_t 649 rfl rfl
set_option maxRecDepth 100000 in
theorem kc_X7_committee : Cond.code yX7_committee cX7_committee 1 (some .int) ∈ lw_ok := in_t 634 rfl rfl
set_option maxRecDepth 100000 in
theorem kc_X7_good : Cond.code yX7_good cX7_good 1 (some .int) ∈ lw_ok := in_t 623 rfl rfl
set_option maxRecDepth 100000 in
theorem kc_X7_init : Cond.code yX7_init cX7_init 1 (none) ∈ lw_ok := in_t 142 rfl rfl
set_option maxRecDepth 100000 in
theorem kc_X7_more : Cond.code yX7_more cX7_more 1 (some .boolean) ∈ lw_ok := in_t 542 rfl rfl
set_option maxRecDepth 100000 in
theorem kc_X7_read : Cond.code yX7_read cX7_read 3 (none) ∈ lw_ok := in_t 538 rfl rfl
set_option maxRecDepth 100000 in
theorem kc_X7_readClause : Cond.code yX7_readClause cX7_readClause 2 (none) ∈ lw_ok := in_t 550 rfl rfl
set_option maxRecDepth 100000 in
theorem kc_X7_readNeed : Cond.code yX7_readNeed cX7_readNeed 5 (none) ∈ lw_ok := in_t 611 rfl rfl
set_option maxRecDepth 100000 in
theorem kc_X7_readNumber : Cond.code yX7_readNumber cX7_readNumber 6 (none) ∈ lw_ok := in_t 654 rfl rfl
set_option maxRecDepth 100000 in
theorem kc_X7_readStamp : Cond.code yX7_readStamp cX7_readStamp 3 (some .int) ∈ lw_ok := in_t 630 rfl rfl
set_option maxRecDepth 100000 in
theorem kc_X7_refuseNinth : Cond.code yX7_refuseNinth cX7_refuseNinth 1 (none) ∈ lw_ok := in_t 615 rfl rfl
set_option maxRecDepth 100000 in
theorem kc_X7_skipBlanks : Cond.code yX7_skipBlanks cX7_skipBlanks 1 (none) ∈ lw_ok := in_t 546 rfl rfl
set_option maxRecDepth 100000 in
theorem kc_X7_spells : Cond.code yX7_spells cX7_spells 3 (some .boolean) ∈ lw_ok := in_t 559 rfl rfl
set_option maxRecDepth 100000 in
theorem kc_X7_takeWord : Cond.code yX7_takeWord cX7_takeWord 1 (none) ∈ lw_ok := in_t 554 rfl rfl
set_option maxRecDepth 100000 in
theorem kc_X7_takes : Cond.code yX7_takes cX7_takes 2 (some .boolean) ∈ lw_ok := in_t 645 rfl rfl
set_option maxRecDepth 100000 in
theorem kc_X8_apply : Cond.code yX8_apply cX8_apply 4 (none) ∈ lw_ok := in_t 696 rfl rfl
set_option maxRecDepth 100000 in
theorem kc_X8_countingIn : Cond.code yX8_countingIn cX8_countingIn 5 (some .int) ∈ lw_ok := in_t 687 rfl rfl
set_option maxRecDepth 100000 in
theorem kc_X8_enact : Cond.code yX8_enact cX8_enact 4 (some .int) ∈ lw_ok := in_t 667 rfl rfl
set_option maxRecDepth 100000 in
theorem kc_X8_holdIn : Cond.code yX8_holdIn cX8_holdIn 5 (none) ∈ lw_ok := in_t 681 rfl rfl
set_option maxRecDepth 100000 in
theorem kc_X8_init : Cond.code yX8_init cX8_init 1 (none) ∈ lw_ok := in_t 116 rfl rfl
set_option maxRecDepth 100000 in
theorem kc_X8_struckBy : Cond.code yX8_struckBy cX8_struckBy 4 (some .int) ∈ lw_ok := in_t 692 rfl rfl
set_option maxRecDepth 100000 in
theorem kc_X9_away : Cond.code yX9_away cX9_away 3 (some .int) ∈ lw_ok := in_t 415 rfl rfl
set_option maxRecDepth 100000 in
theorem kc_X9_beside : Cond.code yX9_beside cX9_beside 2 (some .int) ∈ lw_ok := in_t 856 rfl rfl
set_option maxRecDepth 100000 in
theorem kc_X9_beyond : Cond.code yX9_beyond cX9_beyond 3 (some .boolean) ∈ lw_ok := in_t 399 rfl rfl
set_option maxRecDepth 100000 in
theorem kc_X9_binds : Cond.code yX9_binds cX9_binds 4 (some .int) ∈ lw_ok := in_t 790 rfl rfl
set_option maxRecDepth 100000 in
theorem kc_X9_called : Cond.code yX9_called cX9_called 4 (some .int) ∈ lw_ok := in_t 499 rfl rfl
set_option maxRecDepth 100000 in
theorem kc_X9_clash : Cond.code yX9_clash cX9_clash 4 (some .int) ∈ lw_ok := in_t 716 rfl rfl
set_option maxRecDepth 100000 in
theorem kc_X9_count : Cond.code yX9_count cX9_count 2 (some .int) ∈ lw_ok := in_t 458 rfl rfl
set_option maxRecDepth 100000 in
theorem kc_X9_daysPaid : Cond.code yX9_daysPaid cX9_daysPaid 6 (some .int) ∈ lw_ok := in_t 808 rfl rfl
set_option maxRecDepth 100000 in
theorem kc_X9_fault : Cond.code yX9_fault cX9_fault 1 (some .int) ∈ lw_ok := in_t 673 rfl rfl
set_option maxRecDepth 100000 in
theorem kc_X9_feed : Cond.code yX9_feed cX9_feed 4 (some .int) ∈ lw_ok := in_t 525 rfl rfl
set_option maxRecDepth 100000 in
theorem kc_X9_force : Cond.code yX9_force cX9_force 3 (some .int) ∈ lw_ok := in_t 677 rfl rfl
set_option maxRecDepth 100000 in
theorem kc_X9_fund : Cond.code yX9_fund cX9_fund 4 (some .int) ∈ lw_ok := in_t 445 rfl rfl
set_option maxRecDepth 100000 in
theorem kc_X9_game : Cond.code yX9_game cX9_game 4 (some .int) ∈ lw_ok := in_t 820 rfl rfl
set_option maxRecDepth 100000 in
theorem kc_X9_go : Cond.code yX9_go cX9_go 3 (some .int) ∈ lw_ok := in_t 733 rfl rfl
set_option maxRecDepth 100000 in
theorem kc_X9_has : Cond.code yX9_has cX9_has 2 (some .boolean) ∈ lw_ok := in_t 641 rfl rfl
set_option maxRecDepth 100000 in
theorem kc_X9_holds : Cond.code yX9_holds cX9_holds 5 (some .int) ∈ lw_ok := in_t 521 rfl rfl
set_option maxRecDepth 100000 in
theorem kc_X9_init : Cond.code yX9_init cX9_init 1 (none) ∈ lw_ok := in_t 23 rfl rfl
set_option maxRecDepth 100000 in
theorem kc_X9_judge : Cond.code yX9_judge cX9_judge 4 (some .int) ∈ lw_ok := in_t 845 rfl rfl
set_option maxRecDepth 100000 in
theorem kc_X9_last : Cond.code yX9_last cX9_last 2 (some .int) ∈ lw_ok := in_t 804 rfl rfl
set_option maxRecDepth 100000 in
theorem kc_X9_late : Cond.code yX9_late cX9_late 2 (some .int) ∈ lw_ok := in_t 486 rfl rfl
set_option maxRecDepth 100000 in
theorem kc_X9_leave : Cond.code yX9_leave cX9_leave 6 (some .int) ∈ lw_ok := in_t 782 rfl rfl
set_option maxRecDepth 100000 in
theorem kc_X9_lending : Cond.code yX9_lending cX9_lending 2 (some .int) ∈ lw_ok := in_t 812 rfl rfl
set_option maxRecDepth 100000 in
theorem kc_X9_load : Cond.code yX9_load cX9_load 6 (some .int) ∈ lw_ok := in_t 700 rfl rfl
set_option maxRecDepth 100000 in
theorem kc_X9_members : Cond.code yX9_members cX9_members 6 (some .int) ∈ lw_ok := in_t 431 rfl rfl
set_option maxRecDepth 100000 in
theorem kc_X9_need : Cond.code yX9_need cX9_need 6 (some .int) ∈ lw_ok := in_t 427 rfl rfl
set_option maxRecDepth 100000 in
theorem kc_X9_noGood : Cond.code yX9_noGood cX9_noGood 1 (some .boolean) ∈ lw_ok := in_t 423 rfl rfl
set_option maxRecDepth 100000 in
theorem kc_X9_noNumber : Cond.code yX9_noNumber cX9_noNumber 2 (some .boolean) ∈ lw_ok := in_t 396 rfl rfl
set_option maxRecDepth 100000 in
theorem kc_X9_noTown : Cond.code yX9_noTown cX9_noTown 1 (some .boolean) ∈ lw_ok := in_t 393 rfl rfl
set_option maxRecDepth 100000 in
theorem kc_X9_noUnion : Cond.code yX9_noUnion cX9_noUnion 1 (some .boolean) ∈ lw_ok := in_t 434 rfl rfl
set_option maxRecDepth 100000 in
theorem kc_X9_order : Cond.code yX9_order cX9_order 5 (some .int) ∈ lw_ok := in_t 469 rfl rfl
set_option maxRecDepth 100000 in
theorem kc_X9_out : Cond.code yX9_out cX9_out 5 (some .int) ∈ lw_ok := in_t 450 rfl rfl
set_option maxRecDepth 100000 in
theorem kc_X9_purse : Cond.code yX9_purse cX9_purse 4 (some .int) ∈ lw_ok := in_t 441 rfl rfl
set_option maxRecDepth 100000 in
theorem kc_X9_reach : Cond.code yX9_reach cX9_reach 3 (some .int) ∈ lw_ok := in_t 477 rfl rfl
set_option maxRecDepth 100000 in
theorem kc_X9_road : Cond.code yX9_road cX9_road 4 (some .int) ∈ lw_ok := in_t 390 rfl rfl
set_option maxRecDepth 100000 in
theorem kc_X9_rule : Cond.code yX9_rule cX9_rule 2 (some .int) ∈ lw_ok := in_t 534 rfl rfl
set_option maxRecDepth 100000 in
theorem kc_X9_stamp : Cond.code yX9_stamp cX9_stamp 4 (some .int) ∈ lw_ok := in_t 708 rfl rfl
set_option maxRecDepth 100000 in
theorem kc_X9_store : Cond.code yX9_store cX9_store 6 (some .int) ∈ lw_ok := in_t 420 rfl rfl
set_option maxRecDepth 100000 in
theorem kc_X9_sum : Cond.code yX9_sum cX9_sum 6 (some .int) ∈ lw_ok := in_t 465 rfl rfl
set_option maxRecDepth 100000 in
theorem kc_X9_table : Cond.code yX9_table cX9_table 5 (some .int) ∈ lw_ok := in_t 816 rfl rfl
set_option maxRecDepth 100000 in
theorem kc_X9_told : Cond.code yX9_told cX9_told 3 (some .int) ∈ lw_ok := in_t 712 rfl rfl
set_option maxRecDepth 100000 in
theorem kc_X9_town : Cond.code yX9_town cX9_town 4 (some .int) ∈ lw_ok := in_t 454 rfl rfl
set_option maxRecDepth 100000 in
theorem kc_X9_words : Cond.code yX9_words cX9_words 3 (some .int) ∈ lw_ok := in_t 728 rfl rfl
theorem pM_0 : okM ((12, 1059), (1, 3, mJ3_checkIndex_8e157)) := ⟨rfl, by decide, by decide +kernel, kc_J3_checkIndex_8e157, tw_17, by decide, tw_586, tw_587⟩
theorem pM_1 : okM ((12, 335), (6, 0, mJ0_coder_7d493)) := ⟨rfl, by decide, by decide +kernel, kc_J0_coder_7d493, tw_15, by decide, tw_564, tw_565, tw_566⟩
theorem pM_2 : okM ((0, 83), (1, 2, mJ7_fill_53178)) := ⟨rfl, by decide, by decide +kernel, kc_J7_fill_53178, tw_3, by decide, tw_232, tw_34⟩
theorem pM_3 : okM ((0, 108), (0, 1, mX6_calls)) := ⟨rfl, by decide, by decide +kernel, kc_X6_calls, tw_5, by decide, tw_743, tw_515, tw_516⟩
theorem pM_4 : okM ((0, 163), (0, 2, mX5_missing)) := ⟨rfl, by decide, by decide +kernel, kc_X5_missing, tw_8, by decide, tw_773, tw_722, tw_723⟩
theorem pM_5 : okM ((0, 170), (0, 2, mX3_way)) := ⟨rfl, by decide, by decide +kernel, kc_X3_way, tw_2, by decide, tw_774, tw_405, tw_406⟩
theorem pM_6 : okM ((10, 167), (1, 2, mX10_least)) := ⟨rfl, by decide, by decide +kernel, kc_X10_least, tw_13, by decide, tw_1058, tw_1059⟩
theorem pM_7 : okM ((10, 258), (0, 7, mX10_isWord)) := ⟨rfl, by decide, by decide +kernel, kc_X10_isWord, tw_13, by decide, tw_1181, tw_1183, ts_43⟩
theorem pM_8 : okM ((10, 150), (1, 3, mX10_in)) := ⟨rfl, by decide, by decide +kernel, kc_X10_in, tw_13, by decide, tw_1054, tw_1055⟩
theorem pM_9 : okM ((10, 300), (0, 1, mX10_take)) := ⟨rfl, by decide, by decide +kernel, kc_X10_take, tw_13, by decide, tw_1224, tw_1226, ts_51⟩
theorem pM_10 : okM ((10, 376), (0, 3, mX10_keep)) := ⟨rfl, by decide, by decide +kernel, kc_X10_keep, tw_13, by decide, tw_1361, tw_1363, ts_68⟩
theorem pM_11 : okM ((10, 210), (1, 1, mX10_one)) := ⟨rfl, by decide, by decide +kernel, kc_X10_one, tw_13, by decide, tw_1136, tw_1137⟩
theorem pM_12 : okM ((10, 171), (0, 2, mX10_awayOf)) := ⟨rfl, by decide, by decide +kernel, kc_X10_awayOf, tw_13, by decide, tw_1065, tw_1067, ts_34⟩
theorem pM_13 : okM ((10, 200), (0, 1, mX10_hourOf)) := ⟨rfl, by decide, by decide +kernel, kc_X10_hourOf, tw_13, by decide, tw_1128, tw_1130, ts_37⟩
theorem pM_14 : okM ((10, 236), (0, 0, mX10_here)) := ⟨rfl, by decide, by decide +kernel, kc_X10_here, tw_13, by decide, tw_1167, tw_1169, ts_40⟩
theorem pM_15 : okM ((10, 254), (0, 3, mX10_want)) := ⟨rfl, by decide, by decide +kernel, kc_X10_want, tw_13, by decide, tw_1185, tw_1187, ts_44⟩
theorem pM_16 : okM ((2, 27), (1, 2, mJ7_fill_53178)) := ⟨rfl, by decide, by decide +kernel, kc_J7_fill_53178, tw_3, by decide, tw_51, tw_34⟩
theorem pM_17 : okM ((3, 19), (1, 2, mJ7_fill_53178)) := ⟨rfl, by decide, by decide +kernel, kc_J7_fill_53178, tw_3, by decide, tw_33, tw_34⟩
theorem pM_18 : okM ((3, 25), (0, 2, mX3_way)) := ⟨rfl, by decide, by decide +kernel, kc_X3_way, tw_2, by decide, tw_404, tw_405, tw_406⟩
theorem pM_19 : okM ((4, 32), (0, 2, mX4_inForce)) := ⟨rfl, by decide, by decide +kernel, kc_X4_inForce, tw_11, by decide, tw_795, tw_797, ts_29⟩
theorem pM_20 : okM ((4, 36), (4, 2, mX9_has)) := ⟨rfl, by decide, by decide +kernel, kc_X9_has, tw_1, by decide, ⟨_, tw_799⟩, tw_640⟩
theorem pM_21 : okM ((5, 34), (0, 2, mX5_missing)) := ⟨rfl, by decide, by decide +kernel, kc_X5_missing, tw_8, by decide, tw_721, tw_722, tw_723⟩
theorem pM_22 : okM ((6, 38), (0, 2, mX3_way)) := ⟨rfl, by decide, by decide +kernel, kc_X3_way, tw_2, by decide, tw_482, tw_405, tw_406⟩
theorem pM_23 : okM ((7, 50), (0, 0, mX7_skipBlanks)) := ⟨rfl, by decide, by decide +kernel, kc_X7_skipBlanks, tw_7, by decide, tw_543, tw_545, ts_5⟩
theorem pM_24 : okM ((7, 93), (0, 1, mX7_takes)) := ⟨rfl, by decide, by decide +kernel, kc_X7_takes, tw_7, by decide, tw_642, tw_644, ts_15⟩
theorem pM_25 : okM ((7, 79), (0, 2, mX7_blame)) := ⟨rfl, by decide, by decide +kernel, kc_X7_blame, tw_7, by decide, tw_616, tw_618, ts_11⟩
theorem pM_26 : okM ((8, 51), (4, 2, mX9_has)) := ⟨rfl, by decide, by decide +kernel, kc_X9_has, tw_1, by decide, ⟨_, tw_688⟩, tw_640⟩
theorem pM_27 : okM ((8, 59), (0, 1, mX8_struckBy)) := ⟨rfl, by decide, by decide +kernel, kc_X8_struckBy, tw_6, by decide, tw_689, tw_691, ts_19⟩
theorem pM_28 : okM ((9, 152), (0, 1, mX0_loadsThatAre)) := ⟨rfl, by decide, by decide +kernel, kc_X0_loadsThatAre, tw_9, by decide, tw_459, tw_460, tw_461⟩
theorem pM_29 : okM ((9, 157), (1, 1, mX9_sum)) := ⟨rfl, by decide, by decide +kernel, kc_X9_sum, tw_1, by decide, tw_463, tw_464⟩
theorem pM_30 : okM ((9, 91), (1, 3, mX9_beyond)) := ⟨rfl, by decide, by decide +kernel, kc_X9_beyond, tw_1, by decide, tw_397, tw_398⟩
theorem pM_31 : okM ((9, 193), (0, 2, mX7_append)) := ⟨rfl, by decide, by decide +kernel, kc_X7_append, tw_7, by decide, tw_526, tw_527, tw_528⟩
theorem pM_32 : okM ((9, 256), (0, 5, mX4_give)) := ⟨rfl, by decide, by decide +kernel, kc_X4_give, tw_11, by decide, tw_783, tw_784, tw_785⟩
theorem pM_33 : okM ((9, 169), (1, 2, mX9_noNumber)) := ⟨rfl, by decide, by decide +kernel, kc_X9_noNumber, tw_1, by decide, tw_394, tw_395⟩
theorem pM_34 : okM ((13, 9), (1, 2, mJ0_checkIndex_df160)) := ⟨rfl, by decide, by decide +kernel, kc_J0_checkIndex_df160, tw_15, by decide, tw_581, tw_582⟩
theorem pM_35 : okM ((0, 69), (0, 0, mX0_beginAnew)) := ⟨rfl, by decide, by decide +kernel, kc_X0_beginAnew, tw_9, by decide, tw_225, tw_226, tw_227⟩
theorem pM_36 : okM ((0, 157), (0, 1, mX0_payDay)) := ⟨rfl, by decide, by decide +kernel, kc_X0_payDay, tw_9, by decide, tw_762, tw_764, ts_26⟩
theorem pM_37 : okM ((10, 158), (1, 1, mX10_isTown)) := ⟨rfl, by decide, by decide +kernel, kc_X10_isTown, tw_13, by decide, tw_1050, tw_1051⟩
theorem pM_38 : okM ((10, 218), (1, 1, mX10_isHour)) := ⟨rfl, by decide, by decide +kernel, kc_X10_isHour, tw_13, by decide, tw_1143, tw_1144⟩
theorem pM_39 : okM ((10, 349), (0, 3, mX10_ledTo)) := ⟨rfl, by decide, by decide +kernel, kc_X10_ledTo, tw_13, by decide, tw_1309, tw_1311, ts_63⟩
theorem pM_40 : okM ((10, 305), (0, 1, mX10_findRules)) := ⟨rfl, by decide, by decide +kernel, kc_X10_findRules, tw_13, by decide, tw_1220, tw_1222, ts_50⟩
theorem pM_41 : okM ((10, 337), (0, 1, mX10_loadsIn)) := ⟨rfl, by decide, by decide +kernel, kc_X10_loadsIn, tw_13, by decide, tw_1289, tw_1291, ts_60⟩
theorem pM_42 : okM ((10, 340), (0, 1, mX10_outAll)) := ⟨rfl, by decide, by decide +kernel, kc_X10_outAll, tw_13, by decide, tw_1293, tw_1295, ts_61⟩
theorem pM_43 : okM ((10, 343), (0, 0, mX10_hungerAll)) := ⟨rfl, by decide, by decide +kernel, kc_X10_hungerAll, tw_13, by decide, tw_1297, tw_1299, ts_62⟩
theorem pM_44 : okM ((10, 365), (0, 3, mX10_worthOf)) := ⟨rfl, by decide, by decide +kernel, kc_X10_worthOf, tw_13, by decide, tw_1345, tw_1347, ts_66⟩
theorem pM_45 : okM ((10, 183), (1, 1, mX10_isUnion)) := ⟨rfl, by decide, by decide +kernel, kc_X10_isUnion, tw_13, by decide, tw_1087, tw_1088⟩
theorem pM_46 : okM ((10, 207), (0, 2, mX10_reachOf)) := ⟨rfl, by decide, by decide +kernel, kc_X10_reachOf, tw_13, by decide, tw_1124, tw_1126, ts_36⟩
theorem pM_47 : okM ((10, 369), (1, 2, mX10_isGame)) := ⟨rfl, by decide, by decide +kernel, kc_X10_isGame, tw_13, by decide, tw_1335, tw_1336⟩
theorem pM_48 : okM ((10, 204), (0, 1, mX10_noOrder)) := ⟨rfl, by decide, by decide +kernel, kc_X10_noOrder, tw_13, by decide, tw_1120, tw_1122, ts_35⟩
theorem pM_49 : okM ((10, 176), (1, 1, mX10_isGood)) := ⟨rfl, by decide, by decide +kernel, kc_X10_isGood, tw_13, by decide, tw_1073, tw_1074⟩
theorem pM_50 : okM ((10, 311), (0, 1, mX10_begin)) := ⟨rfl, by decide, by decide +kernel, kc_X10_begin, tw_13, by decide, tw_1232, tw_1234, ts_52⟩
theorem pM_51 : okM ((10, 262), (0, 0, mX10_takeWord)) := ⟨rfl, by decide, by decide +kernel, kc_X10_takeWord, tw_13, by decide, tw_1171, tw_1173, ts_41⟩
theorem pM_52 : okM ((10, 265), (0, 0, mX10_goodOf)) := ⟨rfl, by decide, by decide +kernel, kc_X10_goodOf, tw_13, by decide, tw_1197, tw_1199, ts_47⟩
theorem pM_53 : okM ((10, 268), (0, 0, mX10_stampOf)) := ⟨rfl, by decide, by decide +kernel, kc_X10_stampOf, tw_13, by decide, tw_1201, tw_1203, ts_48⟩
theorem pM_54 : okM ((10, 314), (0, 1, mX10_noLoad)) := ⟨rfl, by decide, by decide +kernel, kc_X10_noLoad, tw_13, by decide, tw_1240, tw_1242, ts_53⟩
theorem pM_55 : okM ((1, 52), (0, 2, mX1_outcome)) := ⟨rfl, by decide, by decide +kernel, kc_X1_outcome, tw_12, by decide, tw_835, tw_837, ts_33⟩
theorem pM_56 : okM ((3, 29), (0, 5, mX3_shorten)) := ⟨rfl, by decide, by decide +kernel, kc_X3_shorten, tw_2, by decide, tw_408, tw_410, ts_0⟩
theorem pM_57 : okM ((6, 44), (0, 3, mX6_comes)) := ⟨rfl, by decide, by decide +kernel, kc_X6_comes, tw_5, by decide, tw_491, tw_479, tw_480⟩
theorem pM_58 : okM ((6, 48), (0, 2, mX6_overtaken)) := ⟨rfl, by decide, by decide +kernel, kc_X6_overtaken, tw_5, by decide, tw_492, tw_494, ts_1⟩
theorem pM_59 : okM ((7, 82), (0, 0, mX7_refuseNinth)) := ⟨rfl, by decide, by decide +kernel, kc_X7_refuseNinth, tw_7, by decide, tw_612, tw_614, ts_10⟩
theorem pM_60 : okM ((7, 113), (4, 3, mX9_beyond)) := ⟨rfl, by decide, by decide +kernel, kc_X9_beyond, tw_1, by decide, ⟨_, tw_659⟩, tw_398⟩
theorem pM_61 : okM ((7, 97), (0, 2, mX7_close)) := ⟨rfl, by decide, by decide +kernel, kc_X7_close, tw_7, by decide, tw_646, tw_648, ts_16⟩
theorem pM_62 : okM ((8, 47), (0, 1, mX8_countingIn)) := ⟨rfl, by decide, by decide +kernel, kc_X8_countingIn, tw_6, by decide, tw_684, tw_686, ts_18⟩
theorem pM_63 : okM ((8, 55), (0, 2, mX8_apply)) := ⟨rfl, by decide, by decide +kernel, kc_X8_apply, tw_6, by decide, tw_693, tw_695, ts_20⟩
theorem pM_64 : okM ((9, 87), (1, 1, mX9_noTown)) := ⟨rfl, by decide, by decide +kernel, kc_X9_noTown, tw_1, by decide, tw_391, tw_392⟩
theorem pM_65 : okM ((9, 102), (0, 2, mX3_way)) := ⟨rfl, by decide, by decide +kernel, kc_X3_way, tw_2, by decide, tw_416, tw_405, tw_406⟩
theorem pM_66 : okM ((9, 259), (0, 3, mX4_bound)) := ⟨rfl, by decide, by decide +kernel, kc_X4_bound, tw_11, by decide, tw_791, tw_792, tw_793⟩
theorem pM_67 : okM ((9, 262), (1, 2, mX9_has)) := ⟨rfl, by decide, by decide +kernel, kc_X9_has, tw_1, by decide, tw_800, tw_640⟩
theorem pM_68 : okM ((9, 116), (1, 1, mX9_noUnion)) := ⟨rfl, by decide, by decide +kernel, kc_X9_noUnion, tw_1, by decide, tw_432, tw_433⟩
theorem pM_69 : okM ((9, 281), (1, 1, mX1_rows)) := ⟨rfl, by decide, by decide +kernel, kc_X1_rows, tw_12, by decide, tw_846, tw_847⟩
theorem pM_70 : okM ((9, 284), (0, 3, mX1_score)) := ⟨rfl, by decide, by decide +kernel, kc_X1_score, tw_12, by decide, tw_849, tw_850, tw_851⟩
theorem pM_71 : okM ((9, 106), (1, 1, mX9_noGood)) := ⟨rfl, by decide, by decide +kernel, kc_X9_noGood, tw_1, by decide, tw_421, tw_422⟩
theorem pM_72 : okM ((9, 215), (0, 5, mX5_add)) := ⟨rfl, by decide, by decide +kernel, kc_X5_add, tw_8, by decide, tw_701, tw_702, tw_703⟩
theorem pM_73 : okM ((9, 165), (0, 4, mX6_give)) := ⟨rfl, by decide, by decide +kernel, kc_X6_give, tw_5, by decide, tw_470, tw_471, tw_472⟩
theorem pM_74 : okM ((9, 176), (0, 3, mX6_comes)) := ⟨rfl, by decide, by decide +kernel, kc_X6_comes, tw_5, by decide, tw_478, tw_479, tw_480⟩
theorem pM_75 : okM ((12, 492), (6, 0, mJ0_isLatin1_aae02)) := ⟨rfl, by decide, by decide +kernel, kc_J0_isLatin1_aae02, tw_15, by decide, tw_574, tw_575, tw_576⟩
theorem pM_76 : okM ((12, 495), (1, 2, mJ1_charAt_3b067)) := ⟨rfl, by decide, by decide +kernel, kc_J1_charAt_3b067, tw_16, by decide, tw_578, tw_579⟩
theorem pM_77 : okM ((10, 373), (0, 2, mX10_findWorths)) := ⟨rfl, by decide, by decide +kernel, kc_X10_findWorths, tw_13, by decide, tw_1338, tw_1340, ts_65⟩
theorem pM_78 : okM ((10, 214), (0, 4, mX10_holdsOf)) := ⟨rfl, by decide, by decide +kernel, kc_X10_holdsOf, tw_13, by decide, tw_1150, tw_1152, ts_39⟩
theorem pM_79 : okM ((10, 353), (0, 1, mX10_lastOf)) := ⟨rfl, by decide, by decide +kernel, kc_X10_lastOf, tw_13, by decide, tw_1317, tw_1319, ts_64⟩
theorem pM_80 : okM ((10, 271), (0, 1, mX10_readNeed)) := ⟨rfl, by decide, by decide +kernel, kc_X10_readNeed, tw_13, by decide, tw_1193, tw_1195, ts_46⟩
theorem pM_81 : okM ((10, 275), (0, 2, mX10_takeNumber)) := ⟨rfl, by decide, by decide +kernel, kc_X10_takeNumber, tw_13, by decide, tw_1205, tw_1207, ts_49⟩
theorem pM_82 : okM ((1, 48), (0, 3, mX1_answer)) := ⟨rfl, by decide, by decide +kernel, kc_X1_answer, tw_12, by decide, tw_831, tw_833, ts_32⟩
theorem pM_83 : okM ((6, 52), (1, 2, mJ7_fill_53178)) := ⟨rfl, by decide, by decide +kernel, kc_J7_fill_53178, tw_3, by decide, tw_504, tw_34⟩
theorem pM_84 : okM ((6, 58), (0, 0, mX6_firstCallHour)) := ⟨rfl, by decide, by decide +kernel, kc_X6_firstCallHour, tw_5, by decide, tw_505, tw_507, ts_2⟩
theorem pM_85 : okM ((6, 62), (0, 3, mX6_spread)) := ⟨rfl, by decide, by decide +kernel, kc_X6_spread, tw_5, by decide, tw_510, tw_512, ts_3⟩
theorem pM_86 : okM ((9, 211), (0, 2, mX8_holdIn)) := ⟨rfl, by decide, by decide +kernel, kc_X8_holdIn, tw_6, by decide, tw_678, tw_679, tw_680⟩
theorem pM_87 : okM ((9, 244), (0, 2, mX5_clashes)) := ⟨rfl, by decide, by decide +kernel, kc_X5_clashes, tw_8, by decide, tw_717, tw_718, tw_719⟩
theorem pM_88 : okM ((9, 11), (2, 0, mX3_init)) := ⟨rfl, by decide, by decide +kernel, kc_X3_init, tw_2, by decide, tw_29, tw_30, rfl⟩
theorem pM_89 : okM ((9, 18), (2, 0, mX2_init)) := ⟨rfl, by decide, by decide +kernel, kc_X2_init, tw_4, by decide, tw_47, tw_48, rfl⟩
theorem pM_90 : okM ((9, 25), (2, 1, mX6_init)) := ⟨rfl, by decide, by decide +kernel, kc_X6_init, tw_5, by decide, tw_80, tw_81, rfl⟩
theorem pM_91 : okM ((9, 34), (5, 0, mX8_init)) := ⟨rfl, by decide, by decide +kernel, kc_X8_init, tw_6, by decide, ⟨_, tw_114⟩, tw_115, rfl⟩
theorem pM_92 : okM ((9, 41), (5, 0, mX7_init)) := ⟨rfl, by decide, by decide +kernel, kc_X7_init, tw_7, by decide, ⟨_, tw_140⟩, tw_141, rfl⟩
theorem pM_93 : okM ((9, 48), (5, 0, mX5_init)) := ⟨rfl, by decide, by decide +kernel, kc_X5_init, tw_8, by decide, ⟨_, tw_180⟩, tw_181, rfl⟩
theorem pM_94 : okM ((9, 55), (2, 5, mX0_init)) := ⟨rfl, by decide, by decide +kernel, kc_X0_init, tw_9, by decide, tw_221, tw_222, rfl⟩
theorem pM_95 : okM ((9, 67), (5, 0, mX4_init)) := ⟨rfl, by decide, by decide +kernel, kc_X4_init, tw_11, by decide, ⟨_, tw_298⟩, tw_299, rfl⟩
theorem pM_96 : okM ((9, 74), (5, 0, mX1_init)) := ⟨rfl, by decide, by decide +kernel, kc_X1_init, tw_12, by decide, ⟨_, tw_324⟩, tw_325, rfl⟩
theorem pM_97 : okM ((9, 180), (0, 1, mX6_lateTowns)) := ⟨rfl, by decide, by decide +kernel, kc_X6_lateTowns, tw_5, by decide, tw_487, tw_488, tw_489⟩
theorem pM_98 : okM ((9, 98), (0, 3, mX3_join)) := ⟨rfl, by decide, by decide +kernel, kc_X3_join, tw_2, by decide, tw_400, tw_401, tw_402⟩
theorem pM_99 : okM ((9, 248), (0, 2, mX5_missing)) := ⟨rfl, by decide, by decide +kernel, kc_X5_missing, tw_8, by decide, tw_729, tw_722, tw_723⟩
theorem pM_100 : okM ((0, 103), (0, 2, mX6_listen)) := ⟨rfl, by decide, by decide +kernel, kc_X6_listen, tw_5, by decide, tw_742, tw_501, tw_502⟩
theorem pM_101 : okM ((0, 112), (0, 2, mX8_holdIn)) := ⟨rfl, by decide, by decide +kernel, kc_X8_holdIn, tw_6, by decide, tw_748, tw_679, tw_680⟩
theorem pM_102 : okM ((0, 118), (0, 1, mX0_arrive)) := ⟨rfl, by decide, by decide +kernel, kc_X0_arrive, tw_9, by decide, tw_749, tw_751, ts_23⟩
theorem pM_103 : okM ((0, 122), (0, 0, mX0_callOut)) := ⟨rfl, by decide, by decide +kernel, kc_X0_callOut, tw_9, by decide, tw_754, tw_756, ts_24⟩
theorem pM_104 : okM ((0, 125), (0, 0, mX0_payAll)) := ⟨rfl, by decide, by decide +kernel, kc_X0_payAll, tw_9, by decide, tw_758, tw_760, ts_25⟩
theorem pM_105 : okM ((0, 131), (0, 2, mX0_send)) := ⟨rfl, by decide, by decide +kernel, kc_X0_send, tw_9, by decide, tw_769, tw_771, ts_27⟩
theorem pM_106 : okM ((0, 135), (0, 1, mX0_use)) := ⟨rfl, by decide, by decide +kernel, kc_X0_use, tw_9, by decide, tw_775, tw_777, ts_28⟩
theorem pM_107 : okM ((10, 221), (0, 3, mX10_isCalled)) := ⟨rfl, by decide, by decide +kernel, kc_X10_isCalled, tw_13, by decide, tw_1146, tw_1148, ts_38⟩
theorem pM_108 : okM ((10, 281), (0, 0, mX10_clauseOf)) := ⟨rfl, by decide, by decide +kernel, kc_X10_clauseOf, tw_13, by decide, tw_1177, tw_1179, ts_42⟩
theorem pM_109 : okM ((10, 284), (0, 2, mX10_readClause)) := ⟨rfl, by decide, by decide +kernel, kc_X10_readClause, tw_13, by decide, tw_1189, tw_1191, ts_45⟩
theorem pM_110 : okM ((1, 44), (0, 4, mX1_solveDay)) := ⟨rfl, by decide, by decide +kernel, kc_X1_solveDay, tw_12, by decide, tw_827, tw_829, ts_31⟩
theorem pM_111 : okM ((7, 117), (6, 0, mJ0_length_8abf5)) := ⟨rfl, by decide, by decide +kernel, kc_J0_length_8abf5, tw_15, by decide, tw_560, tw_561, tw_562⟩
theorem pM_112 : okM ((7, 121), (6, 1, mJ0_charAt_5068e)) := ⟨rfl, by decide, by decide +kernel, kc_J0_charAt_5068e, tw_15, by decide, tw_570, tw_571, tw_572⟩
theorem pM_113 : okM ((9, 183), (0, 2, mX6_listen)) := ⟨rfl, by decide, by decide +kernel, kc_X6_listen, tw_5, by decide, tw_500, tw_501, tw_502⟩
theorem pM_114 : okM ((9, 187), (0, 1, mX6_calls)) := ⟨rfl, by decide, by decide +kernel, kc_X6_calls, tw_5, by decide, tw_514, tw_515, tw_516⟩
theorem pM_115 : okM ((9, 265), (0, 1, mX9_daysPaid)) := ⟨rfl, by decide, by decide +kernel, kc_X9_daysPaid, tw_1, by decide, tw_805, tw_807, ts_30⟩
theorem pM_116 : okM ((0, 95), (0, 2, mX0_listenAhead)) := ⟨rfl, by decide, by decide +kernel, kc_X0_listenAhead, tw_9, by decide, tw_738, tw_740, ts_21⟩
theorem pM_117 : okM ((0, 99), (0, 2, mX0_step)) := ⟨rfl, by decide, by decide +kernel, kc_X0_step, tw_9, by decide, tw_744, tw_746, ts_22⟩
theorem pM_118 : okM ((10, 317), (0, 1, mX10_arrive)) := ⟨rfl, by decide, by decide +kernel, kc_X10_arrive, tw_13, by decide, tw_1265, tw_1267, ts_55⟩
theorem pM_119 : okM ((10, 320), (0, 1, mX10_callOut)) := ⟨rfl, by decide, by decide +kernel, kc_X10_callOut, tw_13, by decide, tw_1269, tw_1271, ts_56⟩
theorem pM_120 : okM ((10, 323), (0, 2, mX10_payOut)) := ⟨rfl, by decide, by decide +kernel, kc_X10_payOut, tw_13, by decide, tw_1273, tw_1275, ts_57⟩
theorem pM_121 : okM ((10, 326), (0, 1, mX10_sendOff)) := ⟨rfl, by decide, by decide +kernel, kc_X10_sendOff, tw_13, by decide, tw_1277, tw_1279, ts_58⟩
theorem pM_122 : okM ((10, 329), (0, 1, mX10_useUp)) := ⟨rfl, by decide, by decide +kernel, kc_X10_useUp, tw_13, by decide, tw_1281, tw_1283, ts_59⟩
theorem pM_123 : okM ((7, 58), (0, 1, mX7_spells)) := ⟨rfl, by decide, by decide +kernel, kc_X7_spells, tw_7, by decide, tw_556, tw_558, ts_8⟩
theorem pM_124 : okM ((9, 271), (0, 2, mX1_solve)) := ⟨rfl, by decide, by decide +kernel, kc_X1_solve, tw_12, by decide, tw_821, tw_822, tw_823⟩
theorem pM_125 : okM ((10, 379), (0, 1, mX10_keepAll)) := ⟨rfl, by decide, by decide +kernel, kc_X10_keepAll, tw_13, by decide, tw_1357, tw_1359, ts_67⟩
theorem pM_126 : okM ((10, 334), (0, 1, mX10_doHour)) := ⟨rfl, by decide, by decide +kernel, kc_X10_doHour, tw_13, by decide, tw_1261, tw_1263, ts_54⟩
theorem pM_127 : okM ((7, 53), (0, 0, mX7_takeWord)) := ⟨rfl, by decide, by decide +kernel, kc_X7_takeWord, tw_7, by decide, tw_551, tw_553, ts_7⟩
theorem pM_128 : okM ((7, 100), (0, 0, mX7_committee)) := ⟨rfl, by decide, by decide +kernel, kc_X7_committee, tw_7, by decide, tw_631, tw_633, ts_14⟩
theorem pM_129 : okM ((7, 103), (4, 2, mX9_has)) := ⟨rfl, by decide, by decide +kernel, kc_X9_has, tw_1, by decide, ⟨_, tw_639⟩, tw_640⟩
theorem pM_130 : okM ((9, 287), (0, 0, mX0_beginAnew)) := ⟨rfl, by decide, by decide +kernel, kc_X0_beginAnew, tw_9, by decide, tw_857, tw_226, tw_227⟩
theorem pM_131 : okM ((9, 252), (0, 3, mX0_run)) := ⟨rfl, by decide, by decide +kernel, kc_X0_run, tw_9, by decide, tw_734, tw_735, tw_736⟩
theorem pM_132 : okM ((7, 85), (0, 0, mX7_good)) := ⟨rfl, by decide, by decide +kernel, kc_X7_good, tw_7, by decide, tw_620, tw_622, ts_12⟩
theorem pM_133 : okM ((7, 89), (0, 1, mX7_readStamp)) := ⟨rfl, by decide, by decide +kernel, kc_X7_readStamp, tw_7, by decide, tw_627, tw_629, ts_13⟩
theorem pM_134 : okM ((7, 62), (0, 0, mX7_readNeed)) := ⟨rfl, by decide, by decide +kernel, kc_X7_readNeed, tw_7, by decide, tw_608, tw_610, ts_9⟩
theorem pM_135 : okM ((7, 67), (0, 2, mX7_readNumber)) := ⟨rfl, by decide, by decide +kernel, kc_X7_readNumber, tw_7, by decide, tw_651, tw_653, ts_17⟩
theorem pM_136 : okM ((7, 42), (0, 0, mX7_more)) := ⟨rfl, by decide, by decide +kernel, kc_X7_more, tw_7, by decide, tw_539, tw_541, ts_4⟩
theorem pM_137 : okM ((7, 46), (0, 1, mX7_readClause)) := ⟨rfl, by decide, by decide +kernel, kc_X7_readClause, tw_7, by decide, tw_547, tw_549, ts_6⟩
theorem pM_138 : okM ((9, 197), (0, 1, mX7_read)) := ⟨rfl, by decide, by decide +kernel, kc_X7_read, tw_7, by decide, tw_535, tw_536, tw_537⟩
theorem pM_139 : okM ((9, 204), (0, 2, mX8_enact)) := ⟨rfl, by decide, by decide +kernel, kc_X8_enact, tw_6, by decide, tw_664, tw_665, tw_666⟩
theorem pM_140 : okM ((11, 9), (2, 0, mX9_init)) := ⟨rfl, by decide, by decide +kernel, kc_X9_init, tw_1, by decide, tw_21, tw_22, rfl⟩
theorem pM_141 : okM ((11, 12), (2, 0, mX10_init)) := ⟨rfl, by decide, by decide +kernel, kc_X10_init, tw_13, by decide, tw_860, tw_861, rfl⟩
theorem pM_142 : okM ((11, 13), (0, 3, mX9_road)) := ⟨rfl, by decide, by decide +kernel, kc_X9_road, tw_1, by decide, tw_387, tw_388, tw_389⟩
theorem pM_143 : okM ((11, 17), (0, 3, mX10_road)) := ⟨rfl, by decide, by decide +kernel, kc_X10_road, tw_13, by decide, tw_1046, tw_1047, tw_1048⟩
theorem pM_144 : okM ((11, 18), (0, 2, mX9_away)) := ⟨rfl, by decide, by decide +kernel, kc_X9_away, tw_1, by decide, tw_412, tw_413, tw_414⟩
theorem pM_145 : okM ((11, 22), (0, 2, mX10_away)) := ⟨rfl, by decide, by decide +kernel, kc_X10_away, tw_13, by decide, tw_1061, tw_1062, tw_1063⟩
theorem pM_146 : okM ((11, 23), (0, 3, mX9_store)) := ⟨rfl, by decide, by decide +kernel, kc_X9_store, tw_1, by decide, tw_417, tw_418, tw_419⟩
theorem pM_147 : okM ((11, 26), (0, 3, mX10_store)) := ⟨rfl, by decide, by decide +kernel, kc_X10_store, tw_13, by decide, tw_1069, tw_1070, tw_1071⟩
theorem pM_148 : okM ((11, 27), (0, 3, mX9_need)) := ⟨rfl, by decide, by decide +kernel, kc_X9_need, tw_1, by decide, tw_424, tw_425, tw_426⟩
theorem pM_149 : okM ((11, 30), (0, 3, mX10_need)) := ⟨rfl, by decide, by decide +kernel, kc_X10_need, tw_13, by decide, tw_1078, tw_1079, tw_1080⟩
theorem pM_150 : okM ((11, 31), (0, 3, mX9_members)) := ⟨rfl, by decide, by decide +kernel, kc_X9_members, tw_1, by decide, tw_428, tw_429, tw_430⟩
theorem pM_151 : okM ((11, 34), (0, 3, mX10_members)) := ⟨rfl, by decide, by decide +kernel, kc_X10_members, tw_13, by decide, tw_1083, tw_1084, tw_1085⟩
theorem pM_152 : okM ((11, 35), (0, 2, mX9_purse)) := ⟨rfl, by decide, by decide +kernel, kc_X9_purse, tw_1, by decide, tw_438, tw_439, tw_440⟩
theorem pM_153 : okM ((11, 38), (0, 2, mX10_purse)) := ⟨rfl, by decide, by decide +kernel, kc_X10_purse, tw_13, by decide, tw_1092, tw_1093, tw_1094⟩
theorem pM_154 : okM ((11, 39), (0, 2, mX9_fund)) := ⟨rfl, by decide, by decide +kernel, kc_X9_fund, tw_1, by decide, tw_442, tw_443, tw_444⟩
theorem pM_155 : okM ((11, 42), (0, 2, mX10_fund)) := ⟨rfl, by decide, by decide +kernel, kc_X10_fund, tw_13, by decide, tw_1096, tw_1097, tw_1098⟩
theorem pM_156 : okM ((11, 43), (0, 3, mX9_out)) := ⟨rfl, by decide, by decide +kernel, kc_X9_out, tw_1, by decide, tw_447, tw_448, tw_449⟩
theorem pM_157 : okM ((11, 46), (0, 3, mX10_out)) := ⟨rfl, by decide, by decide +kernel, kc_X10_out, tw_13, by decide, tw_1101, tw_1102, tw_1103⟩
theorem pM_158 : okM ((11, 47), (0, 2, mX9_town)) := ⟨rfl, by decide, by decide +kernel, kc_X9_town, tw_1, by decide, tw_451, tw_452, tw_453⟩
theorem pM_159 : okM ((11, 50), (0, 2, mX10_town)) := ⟨rfl, by decide, by decide +kernel, kc_X10_town, tw_13, by decide, tw_1105, tw_1106, tw_1107⟩
theorem pM_160 : okM ((11, 51), (0, 1, mX9_count)) := ⟨rfl, by decide, by decide +kernel, kc_X9_count, tw_1, by decide, tw_455, tw_456, tw_457⟩
theorem pM_161 : okM ((11, 55), (0, 1, mX10_count)) := ⟨rfl, by decide, by decide +kernel, kc_X10_count, tw_13, by decide, tw_1285, tw_1286, tw_1287⟩
theorem pM_162 : okM ((11, 56), (0, 4, mX9_order)) := ⟨rfl, by decide, by decide +kernel, kc_X9_order, tw_1, by decide, tw_466, tw_467, tw_468⟩
theorem pM_163 : okM ((11, 60), (0, 4, mX10_order)) := ⟨rfl, by decide, by decide +kernel, kc_X10_order, tw_13, by decide, tw_1110, tw_1111, tw_1112⟩
theorem pM_164 : okM ((11, 61), (0, 2, mX9_reach)) := ⟨rfl, by decide, by decide +kernel, kc_X9_reach, tw_1, by decide, tw_474, tw_475, tw_476⟩
theorem pM_165 : okM ((11, 64), (0, 2, mX10_reach)) := ⟨rfl, by decide, by decide +kernel, kc_X10_reach, tw_13, by decide, tw_1116, tw_1117, tw_1118⟩
theorem pM_166 : okM ((11, 65), (0, 1, mX9_late)) := ⟨rfl, by decide, by decide +kernel, kc_X9_late, tw_1, by decide, tw_483, tw_484, tw_485⟩
theorem pM_167 : okM ((11, 68), (0, 1, mX10_late)) := ⟨rfl, by decide, by decide +kernel, kc_X10_late, tw_13, by decide, tw_1132, tw_1133, tw_1134⟩
theorem pM_168 : okM ((11, 69), (0, 3, mX9_called)) := ⟨rfl, by decide, by decide +kernel, kc_X9_called, tw_1, by decide, tw_496, tw_497, tw_498⟩
theorem pM_169 : okM ((11, 72), (0, 3, mX10_called)) := ⟨rfl, by decide, by decide +kernel, kc_X10_called, tw_13, by decide, tw_1139, tw_1140, tw_1141⟩
theorem pM_170 : okM ((11, 73), (0, 4, mX9_holds)) := ⟨rfl, by decide, by decide +kernel, kc_X9_holds, tw_1, by decide, tw_518, tw_519, tw_520⟩
theorem pM_171 : okM ((11, 76), (0, 4, mX10_holds)) := ⟨rfl, by decide, by decide +kernel, kc_X10_holds, tw_13, by decide, tw_1154, tw_1155, tw_1156⟩
theorem pM_172 : okM ((11, 79), (0, 2, mX9_feed)) := ⟨rfl, by decide, by decide +kernel, kc_X9_feed, tw_1, by decide, tw_522, tw_523, tw_524⟩
theorem pM_173 : okM ((11, 83), (0, 2, mX10_feed)) := ⟨rfl, by decide, by decide +kernel, kc_X10_feed, tw_13, by decide, tw_1158, tw_1159, tw_1160⟩
theorem pM_174 : okM ((11, 84), (0, 1, mX9_rule)) := ⟨rfl, by decide, by decide +kernel, kc_X9_rule, tw_1, by decide, tw_531, tw_532, tw_533⟩
theorem pM_175 : okM ((11, 87), (0, 1, mX10_rule)) := ⟨rfl, by decide, by decide +kernel, kc_X10_rule, tw_13, by decide, tw_1163, tw_1164, tw_1165⟩
theorem pM_176 : okM ((11, 88), (0, 0, mX9_fault)) := ⟨rfl, by decide, by decide +kernel, kc_X9_fault, tw_1, by decide, tw_670, tw_671, tw_672⟩
theorem pM_177 : okM ((11, 92), (0, 0, mX10_fault)) := ⟨rfl, by decide, by decide +kernel, kc_X10_fault, tw_13, by decide, tw_1211, tw_1212, tw_1213⟩
theorem pM_178 : okM ((11, 93), (0, 2, mX9_force)) := ⟨rfl, by decide, by decide +kernel, kc_X9_force, tw_1, by decide, tw_674, tw_675, tw_676⟩
theorem pM_179 : okM ((11, 96), (0, 2, mX10_force)) := ⟨rfl, by decide, by decide +kernel, kc_X10_force, tw_13, by decide, tw_1215, tw_1216, tw_1217⟩
theorem pM_180 : okM ((11, 97), (0, 5, mX9_load)) := ⟨rfl, by decide, by decide +kernel, kc_X9_load, tw_1, by decide, tw_697, tw_698, tw_699⟩
theorem pM_181 : okM ((11, 101), (0, 5, mX10_load)) := ⟨rfl, by decide, by decide +kernel, kc_X10_load, tw_13, by decide, tw_1228, tw_1229, tw_1230⟩
theorem pM_182 : okM ((11, 102), (0, 2, mX9_stamp)) := ⟨rfl, by decide, by decide +kernel, kc_X9_stamp, tw_1, by decide, tw_705, tw_706, tw_707⟩
theorem pM_183 : okM ((11, 105), (0, 2, mX10_stamp)) := ⟨rfl, by decide, by decide +kernel, kc_X10_stamp, tw_13, by decide, tw_1236, tw_1237, tw_1238⟩
theorem pM_184 : okM ((11, 106), (0, 2, mX9_told)) := ⟨rfl, by decide, by decide +kernel, kc_X9_told, tw_1, by decide, tw_709, tw_710, tw_711⟩
theorem pM_185 : okM ((11, 109), (0, 2, mX10_told)) := ⟨rfl, by decide, by decide +kernel, kc_X10_told, tw_13, by decide, tw_1244, tw_1245, tw_1246⟩
theorem pM_186 : okM ((11, 110), (0, 1, mX9_clash)) := ⟨rfl, by decide, by decide +kernel, kc_X9_clash, tw_1, by decide, tw_713, tw_714, tw_715⟩
theorem pM_187 : okM ((11, 113), (0, 1, mX10_clash)) := ⟨rfl, by decide, by decide +kernel, kc_X10_clash, tw_13, by decide, tw_1248, tw_1249, tw_1250⟩
theorem pM_188 : okM ((11, 114), (0, 0, mX9_words)) := ⟨rfl, by decide, by decide +kernel, kc_X9_words, tw_1, by decide, tw_725, tw_726, tw_727⟩
theorem pM_189 : okM ((11, 117), (0, 0, mX10_words)) := ⟨rfl, by decide, by decide +kernel, kc_X10_words, tw_13, by decide, tw_1252, tw_1253, tw_1254⟩
theorem pM_190 : okM ((11, 118), (0, 1, mX9_go)) := ⟨rfl, by decide, by decide +kernel, kc_X9_go, tw_1, by decide, tw_730, tw_731, tw_732⟩
theorem pM_191 : okM ((11, 121), (0, 1, mX10_go)) := ⟨rfl, by decide, by decide +kernel, kc_X10_go, tw_13, by decide, tw_1256, tw_1257, tw_1258⟩
theorem pM_192 : okM ((11, 122), (0, 5, mX9_leave)) := ⟨rfl, by decide, by decide +kernel, kc_X9_leave, tw_1, by decide, tw_779, tw_780, tw_781⟩
theorem pM_193 : okM ((11, 126), (0, 5, mX10_leave)) := ⟨rfl, by decide, by decide +kernel, kc_X10_leave, tw_13, by decide, tw_1301, tw_1302, tw_1303⟩
theorem pM_194 : okM ((11, 127), (0, 3, mX9_binds)) := ⟨rfl, by decide, by decide +kernel, kc_X9_binds, tw_1, by decide, tw_787, tw_788, tw_789⟩
theorem pM_195 : okM ((11, 130), (0, 3, mX10_binds)) := ⟨rfl, by decide, by decide +kernel, kc_X10_binds, tw_13, by decide, tw_1305, tw_1306, tw_1307⟩
theorem pM_196 : okM ((11, 131), (0, 1, mX9_last)) := ⟨rfl, by decide, by decide +kernel, kc_X9_last, tw_1, by decide, tw_801, tw_802, tw_803⟩
theorem pM_197 : okM ((11, 134), (0, 1, mX10_last)) := ⟨rfl, by decide, by decide +kernel, kc_X10_last, tw_13, by decide, tw_1313, tw_1314, tw_1315⟩
theorem pM_198 : okM ((11, 135), (0, 1, mX9_lending)) := ⟨rfl, by decide, by decide +kernel, kc_X9_lending, tw_1, by decide, tw_809, tw_810, tw_811⟩
theorem pM_199 : okM ((11, 138), (0, 1, mX10_lending)) := ⟨rfl, by decide, by decide +kernel, kc_X10_lending, tw_13, by decide, tw_1321, tw_1322, tw_1323⟩
theorem pM_200 : okM ((11, 139), (0, 3, mX9_table)) := ⟨rfl, by decide, by decide +kernel, kc_X9_table, tw_1, by decide, tw_813, tw_814, tw_815⟩
theorem pM_201 : okM ((11, 142), (0, 3, mX10_table)) := ⟨rfl, by decide, by decide +kernel, kc_X10_table, tw_13, by decide, tw_1326, tw_1327, tw_1328⟩
theorem pM_202 : okM ((11, 143), (0, 3, mX9_game)) := ⟨rfl, by decide, by decide +kernel, kc_X9_game, tw_1, by decide, tw_817, tw_818, tw_819⟩
theorem pM_203 : okM ((11, 146), (0, 3, mX10_game)) := ⟨rfl, by decide, by decide +kernel, kc_X10_game, tw_13, by decide, tw_1331, tw_1332, tw_1333⟩
theorem pM_204 : okM ((11, 147), (0, 3, mX9_judge)) := ⟨rfl, by decide, by decide +kernel, kc_X9_judge, tw_1, by decide, tw_842, tw_843, tw_844⟩
theorem pM_205 : okM ((11, 150), (0, 3, mX10_judge)) := ⟨rfl, by decide, by decide +kernel, kc_X10_judge, tw_13, by decide, tw_1349, tw_1350, tw_1351⟩
theorem pM_206 : okM ((11, 151), (0, 1, mX9_beside)) := ⟨rfl, by decide, by decide +kernel, kc_X9_beside, tw_1, by decide, tw_853, tw_854, tw_855⟩
theorem pM_207 : okM ((11, 155), (0, 1, mX10_beside)) := ⟨rfl, by decide, by decide +kernel, kc_X10_beside, tw_13, by decide, tw_1353, tw_1354, tw_1355⟩
theorem pF_0 : okF ((0, 65), (0, 4, 17, false, true, true)) := ⟨_, _, _, rfl, rfl, by decide, rfl, rfl, tw_237⟩
theorem pF_1 : okF ((0, 89), (5, 6, 7, false, false, false)) := ⟨_, _, _, rfl, rfl, by decide, rfl, rfl, tw_202⟩
theorem pF_2 : okF ((0, 33), (0, 12, 17, false, true, true)) := ⟨_, _, _, rfl, rfl, by decide, rfl, rfl, tw_252⟩
theorem pF_3 : okF ((10, 7), (10, 2, 60, false, true, true)) := ⟨_, _, _, rfl, rfl, by decide, rfl, rfl, tw_867⟩
theorem pF_4 : okF ((10, 114), (10, 48, 60, false, true, true)) := ⟨_, _, _, rfl, rfl, by decide, rfl, rfl, tw_913⟩
theorem pF_5 : okF ((10, 117), (10, 49, 60, false, true, true)) := ⟨_, _, _, rfl, rfl, by decide, rfl, rfl, tw_914⟩
theorem pF_6 : okF ((10, 120), (10, 50, 60, false, true, true)) := ⟨_, _, _, rfl, rfl, by decide, rfl, rfl, tw_915⟩
theorem pF_7 : okF ((10, 83), (10, 31, 60, false, false, false)) := ⟨_, _, _, rfl, rfl, by decide, rfl, rfl, tw_896⟩
theorem pF_8 : okF ((10, 230), (10, 29, 60, false, false, false)) := ⟨_, _, _, rfl, rfl, by decide, rfl, rfl, tw_894⟩
theorem pF_9 : okF ((10, 225), (10, 28, 60, false, false, false)) := ⟨_, _, _, rfl, rfl, by decide, rfl, rfl, tw_893⟩
theorem pF_10 : okF ((10, 80), (10, 27, 60, false, true, true)) := ⟨_, _, _, rfl, rfl, by decide, rfl, rfl, tw_892⟩
theorem pF_11 : okF ((10, 61), (10, 20, 60, false, false, false)) := ⟨_, _, _, rfl, rfl, by decide, rfl, rfl, tw_885⟩
theorem pF_12 : okF ((10, 49), (10, 16, 60, false, true, true)) := ⟨_, _, _, rfl, rfl, by decide, rfl, rfl, tw_881⟩
theorem pF_13 : okF ((10, 58), (10, 19, 60, false, true, true)) := ⟨_, _, _, rfl, rfl, by decide, rfl, rfl, tw_884⟩
theorem pF_14 : okF ((10, 22), (10, 6, 60, false, true, true)) := ⟨_, _, _, rfl, rfl, by decide, rfl, rfl, tw_871⟩
theorem pF_15 : okF ((10, 247), (10, 33, 60, false, false, false)) := ⟨_, _, _, rfl, rfl, by decide, rfl, rfl, tw_898⟩
theorem pF_16 : okF ((10, 240), (10, 32, 60, false, false, false)) := ⟨_, _, _, rfl, rfl, by decide, rfl, rfl, tw_897⟩
theorem pF_17 : okF ((10, 144), (10, 59, 60, false, true, true)) := ⟨_, _, _, rfl, rfl, by decide, rfl, rfl, tw_924⟩
theorem pF_18 : okF ((10, 37), (10, 11, 60, false, true, true)) := ⟨_, _, _, rfl, rfl, by decide, rfl, rfl, tw_876⟩
theorem pF_19 : okF ((10, 31), (10, 9, 60, false, true, true)) := ⟨_, _, _, rfl, rfl, by decide, rfl, rfl, tw_874⟩
theorem pF_20 : okF ((10, 71), (10, 24, 60, false, true, true)) := ⟨_, _, _, rfl, rfl, by decide, rfl, rfl, tw_889⟩
theorem pF_21 : okF ((10, 93), (10, 36, 60, false, true, true)) := ⟨_, _, _, rfl, rfl, by decide, rfl, rfl, tw_901⟩
theorem pF_22 : okF ((10, 74), (10, 25, 60, false, true, true)) := ⟨_, _, _, rfl, rfl, by decide, rfl, rfl, tw_890⟩
theorem pF_23 : okF ((10, 77), (10, 26, 60, false, true, true)) := ⟨_, _, _, rfl, rfl, by decide, rfl, rfl, tw_891⟩
theorem pF_24 : okF ((10, 288), (10, 37, 60, false, false, false)) := ⟨_, _, _, rfl, rfl, by decide, rfl, rfl, tw_902⟩
theorem pF_25 : okF ((10, 291), (10, 38, 60, false, false, false)) := ⟨_, _, _, rfl, rfl, by decide, rfl, rfl, tw_903⟩
theorem pF_26 : okF ((10, 294), (10, 39, 60, false, false, false)) := ⟨_, _, _, rfl, rfl, by decide, rfl, rfl, tw_904⟩
theorem pF_27 : okF ((10, 297), (10, 40, 60, false, false, false)) := ⟨_, _, _, rfl, rfl, by decide, rfl, rfl, tw_905⟩
theorem pF_28 : okF ((10, 233), (10, 30, 60, false, false, false)) := ⟨_, _, _, rfl, rfl, by decide, rfl, rfl, tw_895⟩
theorem pF_29 : okF ((3, 9), (3, 0, 2, false, true, true)) := ⟨_, _, _, rfl, rfl, by decide, rfl, rfl, tw_36⟩
theorem pF_30 : okF ((4, 9), (4, 0, 6, false, true, true)) := ⟨_, _, _, rfl, rfl, by decide, rfl, rfl, tw_302⟩
theorem pF_31 : okF ((4, 28), (4, 5, 6, false, false, false)) := ⟨_, _, _, rfl, rfl, by decide, rfl, rfl, tw_307⟩
theorem pF_32 : okF ((4, 15), (4, 1, 6, false, true, true)) := ⟨_, _, _, rfl, rfl, by decide, rfl, rfl, tw_303⟩
theorem pF_33 : okF ((4, 18), (4, 2, 6, false, true, true)) := ⟨_, _, _, rfl, rfl, by decide, rfl, rfl, tw_304⟩
theorem pF_34 : okF ((4, 21), (4, 3, 6, false, true, true)) := ⟨_, _, _, rfl, rfl, by decide, rfl, rfl, tw_305⟩
theorem pF_35 : okF ((4, 24), (4, 4, 6, false, true, true)) := ⟨_, _, _, rfl, rfl, by decide, rfl, rfl, tw_306⟩
theorem pF_36 : okF ((5, 9), (5, 0, 7, false, true, true)) := ⟨_, _, _, rfl, rfl, by decide, rfl, rfl, tw_184⟩
theorem pF_37 : okF ((5, 30), (5, 6, 7, false, false, false)) := ⟨_, _, _, rfl, rfl, by decide, rfl, rfl, tw_201⟩
theorem pF_38 : okF ((5, 15), (5, 1, 7, false, true, true)) := ⟨_, _, _, rfl, rfl, by decide, rfl, rfl, tw_187⟩
theorem pF_39 : okF ((5, 18), (5, 2, 7, false, true, true)) := ⟨_, _, _, rfl, rfl, by decide, rfl, rfl, tw_190⟩
theorem pF_40 : okF ((5, 21), (5, 3, 7, false, true, true)) := ⟨_, _, _, rfl, rfl, by decide, rfl, rfl, tw_193⟩
theorem pF_41 : okF ((5, 24), (5, 4, 7, false, true, true)) := ⟨_, _, _, rfl, rfl, by decide, rfl, rfl, tw_196⟩
theorem pF_42 : okF ((5, 27), (5, 5, 7, false, true, true)) := ⟨_, _, _, rfl, rfl, by decide, rfl, rfl, tw_199⟩
theorem pF_43 : okF ((6, 24), (6, 5, 8, false, true, true)) := ⟨_, _, _, rfl, rfl, by decide, rfl, rfl, tw_90⟩
theorem pF_44 : okF ((6, 9), (6, 1, 8, false, true, true)) := ⟨_, _, _, rfl, rfl, by decide, rfl, rfl, tw_85⟩
theorem pF_45 : okF ((6, 30), (6, 7, 8, false, false, false)) := ⟨_, _, _, rfl, rfl, by decide, rfl, rfl, tw_93⟩
theorem pF_46 : okF ((6, 15), (6, 2, 8, false, true, true)) := ⟨_, _, _, rfl, rfl, by decide, rfl, rfl, tw_86⟩
theorem pF_47 : okF ((6, 18), (6, 3, 8, false, true, true)) := ⟨_, _, _, rfl, rfl, by decide, rfl, rfl, tw_87⟩
theorem pF_48 : okF ((6, 21), (6, 4, 8, false, true, true)) := ⟨_, _, _, rfl, rfl, by decide, rfl, rfl, tw_88⟩
theorem pF_49 : okF ((7, 9), (7, 0, 9, false, true, true)) := ⟨_, _, _, rfl, rfl, by decide, rfl, rfl, tw_144⟩
theorem pF_50 : okF ((7, 21), (7, 3, 9, false, false, false)) := ⟨_, _, _, rfl, rfl, by decide, rfl, rfl, tw_149⟩
theorem pF_51 : okF ((7, 28), (7, 5, 9, false, false, false)) := ⟨_, _, _, rfl, rfl, by decide, rfl, rfl, tw_153⟩
theorem pF_52 : okF ((7, 31), (7, 6, 9, false, false, false)) := ⟨_, _, _, rfl, rfl, by decide, rfl, rfl, tw_155⟩
theorem pF_53 : okF ((7, 34), (7, 7, 9, false, false, false)) := ⟨_, _, _, rfl, rfl, by decide, rfl, rfl, tw_157⟩
theorem pF_54 : okF ((8, 15), (8, 1, 6, false, true, true)) := ⟨_, _, _, rfl, rfl, by decide, rfl, rfl, tw_119⟩
theorem pF_55 : okF ((8, 21), (8, 3, 6, false, true, true)) := ⟨_, _, _, rfl, rfl, by decide, rfl, rfl, tw_121⟩
theorem pF_56 : okF ((8, 24), (8, 4, 6, false, true, true)) := ⟨_, _, _, rfl, rfl, by decide, rfl, rfl, tw_122⟩
theorem pF_57 : okF ((9, 42), (9, 4, 12, false, true, true)) := ⟨_, _, _, rfl, rfl, by decide, rfl, rfl, tw_354⟩
theorem pF_58 : okF ((9, 208), (7, 6, 9, false, false, false)) := ⟨_, _, _, rfl, rfl, by decide, rfl, rfl, tw_156⟩
theorem pF_59 : okF ((0, 39), (0, 14, 17, false, true, true)) := ⟨_, _, _, rfl, rfl, by decide, rfl, rfl, tw_256⟩
theorem pF_60 : okF ((0, 139), (5, 3, 7, false, true, true)) := ⟨_, _, _, rfl, rfl, by decide, rfl, rfl, tw_194⟩
theorem pF_61 : okF ((0, 142), (5, 0, 7, false, true, true)) := ⟨_, _, _, rfl, rfl, by decide, rfl, rfl, tw_185⟩
theorem pF_62 : okF ((0, 9), (0, 5, 17, false, true, true)) := ⟨_, _, _, rfl, rfl, by decide, rfl, rfl, tw_238⟩
theorem pF_63 : okF ((0, 145), (5, 1, 7, false, true, true)) := ⟨_, _, _, rfl, rfl, by decide, rfl, rfl, tw_188⟩
theorem pF_64 : okF ((0, 53), (0, 1, 17, false, true, true)) := ⟨_, _, _, rfl, rfl, by decide, rfl, rfl, tw_234⟩
theorem pF_65 : okF ((0, 72), (2, 0, 5, false, true, true)) := ⟨_, _, _, rfl, rfl, by decide, rfl, rfl, tw_53⟩
theorem pF_66 : okF ((0, 81), (2, 4, 5, false, true, true)) := ⟨_, _, _, rfl, rfl, by decide, rfl, rfl, tw_65⟩
theorem pF_67 : okF ((0, 30), (0, 11, 17, false, true, true)) := ⟨_, _, _, rfl, rfl, by decide, rfl, rfl, tw_250⟩
theorem pF_68 : okF ((0, 24), (0, 9, 17, false, true, true)) := ⟨_, _, _, rfl, rfl, by decide, rfl, rfl, tw_246⟩
theorem pF_69 : okF ((0, 82), (2, 3, 5, false, true, true)) := ⟨_, _, _, rfl, rfl, by decide, rfl, rfl, tw_62⟩
theorem pF_70 : okF ((0, 15), (0, 6, 17, false, true, true)) := ⟨_, _, _, rfl, rfl, by decide, rfl, rfl, tw_240⟩
theorem pF_71 : okF ((0, 18), (0, 7, 17, false, true, true)) := ⟨_, _, _, rfl, rfl, by decide, rfl, rfl, tw_242⟩
theorem pF_72 : okF ((0, 21), (0, 8, 17, false, true, true)) := ⟨_, _, _, rfl, rfl, by decide, rfl, rfl, tw_244⟩
theorem pF_73 : okF ((0, 27), (0, 10, 17, false, true, true)) := ⟨_, _, _, rfl, rfl, by decide, rfl, rfl, tw_248⟩
theorem pF_74 : okF ((0, 36), (0, 13, 17, false, true, true)) := ⟨_, _, _, rfl, rfl, by decide, rfl, rfl, tw_254⟩
theorem pF_75 : okF ((0, 57), (0, 2, 17, false, true, true)) := ⟨_, _, _, rfl, rfl, by decide, rfl, rfl, tw_235⟩
theorem pF_76 : okF ((0, 42), (0, 15, 17, false, true, true)) := ⟨_, _, _, rfl, rfl, by decide, rfl, rfl, tw_258⟩
theorem pF_77 : okF ((0, 154), (2, 2, 5, false, true, true)) := ⟨_, _, _, rfl, rfl, by decide, rfl, rfl, tw_60⟩
theorem pF_78 : okF ((0, 46), (0, 16, 17, false, true, true)) := ⟨_, _, _, rfl, rfl, by decide, rfl, rfl, tw_259⟩
theorem pF_79 : okF ((0, 167), (5, 2, 7, false, true, true)) := ⟨_, _, _, rfl, rfl, by decide, rfl, rfl, tw_191⟩
theorem pF_80 : okF ((0, 49), (0, 0, 17, false, true, true)) := ⟨_, _, _, rfl, rfl, by decide, rfl, rfl, tw_233⟩
theorem pF_81 : okF ((0, 175), (2, 1, 5, false, true, true)) := ⟨_, _, _, rfl, rfl, by decide, rfl, rfl, tw_57⟩
theorem pF_82 : okF ((10, 308), (10, 41, 60, false, false, false)) := ⟨_, _, _, rfl, rfl, by decide, rfl, rfl, tw_906⟩
theorem pF_83 : okF ((10, 105), (10, 45, 60, false, true, true)) := ⟨_, _, _, rfl, rfl, by decide, rfl, rfl, tw_910⟩
theorem pF_84 : okF ((10, 96), (10, 42, 60, false, true, true)) := ⟨_, _, _, rfl, rfl, by decide, rfl, rfl, tw_907⟩
theorem pF_85 : okF ((10, 13), (10, 3, 60, false, true, true)) := ⟨_, _, _, rfl, rfl, by decide, rfl, rfl, tw_868⟩
theorem pF_86 : okF ((10, 99), (10, 43, 60, false, true, true)) := ⟨_, _, _, rfl, rfl, by decide, rfl, rfl, tw_908⟩
theorem pF_87 : okF ((10, 278), (10, 21, 60, false, false, false)) := ⟨_, _, _, rfl, rfl, by decide, rfl, rfl, tw_886⟩
theorem pF_88 : okF ((10, 86), (10, 34, 60, false, true, true)) := ⟨_, _, _, rfl, rfl, by decide, rfl, rfl, tw_899⟩
theorem pF_89 : okF ((10, 65), (10, 22, 60, false, true, true)) := ⟨_, _, _, rfl, rfl, by decide, rfl, rfl, tw_887⟩
theorem pF_90 : okF ((10, 68), (10, 23, 60, false, true, true)) := ⟨_, _, _, rfl, rfl, by decide, rfl, rfl, tw_888⟩
theorem pF_91 : okF ((10, 90), (10, 35, 60, false, true, true)) := ⟨_, _, _, rfl, rfl, by decide, rfl, rfl, tw_900⟩
theorem pF_92 : okF ((10, 16), (10, 4, 60, false, true, true)) := ⟨_, _, _, rfl, rfl, by decide, rfl, rfl, tw_869⟩
theorem pF_93 : okF ((10, 19), (10, 5, 60, false, true, true)) := ⟨_, _, _, rfl, rfl, by decide, rfl, rfl, tw_870⟩
theorem pF_94 : okF ((10, 25), (10, 7, 60, false, true, true)) := ⟨_, _, _, rfl, rfl, by decide, rfl, rfl, tw_872⟩
theorem pF_95 : okF ((10, 28), (10, 8, 60, false, true, true)) := ⟨_, _, _, rfl, rfl, by decide, rfl, rfl, tw_873⟩
theorem pF_96 : okF ((10, 34), (10, 10, 60, false, true, true)) := ⟨_, _, _, rfl, rfl, by decide, rfl, rfl, tw_875⟩
theorem pF_97 : okF ((10, 40), (10, 12, 60, false, true, true)) := ⟨_, _, _, rfl, rfl, by decide, rfl, rfl, tw_877⟩
theorem pF_98 : okF ((10, 43), (10, 13, 60, false, true, true)) := ⟨_, _, _, rfl, rfl, by decide, rfl, rfl, tw_878⟩
theorem pF_99 : okF ((10, 46), (10, 14, 60, false, true, true)) := ⟨_, _, _, rfl, rfl, by decide, rfl, rfl, tw_879⟩
theorem pF_100 : okF ((10, 52), (10, 17, 60, false, true, true)) := ⟨_, _, _, rfl, rfl, by decide, rfl, rfl, tw_882⟩
theorem pF_101 : okF ((10, 55), (10, 18, 60, false, true, true)) := ⟨_, _, _, rfl, rfl, by decide, rfl, rfl, tw_883⟩
theorem pF_102 : okF ((10, 102), (10, 44, 60, false, true, true)) := ⟨_, _, _, rfl, rfl, by decide, rfl, rfl, tw_909⟩
theorem pF_103 : okF ((10, 108), (10, 46, 60, false, true, true)) := ⟨_, _, _, rfl, rfl, by decide, rfl, rfl, tw_911⟩
theorem pF_104 : okF ((10, 111), (10, 47, 60, false, true, true)) := ⟨_, _, _, rfl, rfl, by decide, rfl, rfl, tw_912⟩
theorem pF_105 : okF ((10, 123), (10, 52, 60, false, true, true)) := ⟨_, _, _, rfl, rfl, by decide, rfl, rfl, tw_917⟩
theorem pF_106 : okF ((10, 126), (10, 53, 60, false, true, true)) := ⟨_, _, _, rfl, rfl, by decide, rfl, rfl, tw_918⟩
theorem pF_107 : okF ((10, 129), (10, 54, 60, false, true, true)) := ⟨_, _, _, rfl, rfl, by decide, rfl, rfl, tw_919⟩
theorem pF_108 : okF ((10, 132), (10, 55, 60, false, true, true)) := ⟨_, _, _, rfl, rfl, by decide, rfl, rfl, tw_920⟩
theorem pF_109 : okF ((10, 135), (10, 56, 60, false, true, true)) := ⟨_, _, _, rfl, rfl, by decide, rfl, rfl, tw_921⟩
theorem pF_110 : okF ((10, 138), (10, 57, 60, false, true, true)) := ⟨_, _, _, rfl, rfl, by decide, rfl, rfl, tw_922⟩
theorem pF_111 : okF ((10, 141), (10, 58, 60, false, true, true)) := ⟨_, _, _, rfl, rfl, by decide, rfl, rfl, tw_923⟩
theorem pF_112 : okF ((10, 346), (10, 51, 60, false, false, false)) := ⟨_, _, _, rfl, rfl, by decide, rfl, rfl, tw_916⟩
theorem pF_113 : okF ((10, 192), (10, 15, 60, false, false, false)) := ⟨_, _, _, rfl, rfl, by decide, rfl, rfl, tw_880⟩
theorem pF_114 : okF ((1, 9), (1, 0, 6, false, true, true)) := ⟨_, _, _, rfl, rfl, by decide, rfl, rfl, tw_328⟩
theorem pF_115 : okF ((1, 15), (1, 1, 6, false, false, false)) := ⟨_, _, _, rfl, rfl, by decide, rfl, rfl, tw_330⟩
theorem pF_116 : okF ((1, 19), (1, 2, 6, false, false, false)) := ⟨_, _, _, rfl, rfl, by decide, rfl, rfl, tw_332⟩
theorem pF_117 : okF ((1, 22), (1, 3, 6, false, true, false)) := ⟨_, _, _, rfl, rfl, by decide, rfl, rfl, tw_334⟩
theorem pF_118 : okF ((1, 25), (1, 4, 6, false, true, false)) := ⟨_, _, _, rfl, rfl, by decide, rfl, rfl, tw_335⟩
theorem pF_119 : okF ((1, 28), (1, 5, 6, false, false, false)) := ⟨_, _, _, rfl, rfl, by decide, rfl, rfl, tw_336⟩
theorem pF_120 : okF ((2, 9), (2, 0, 5, false, true, true)) := ⟨_, _, _, rfl, rfl, by decide, rfl, rfl, tw_52⟩
theorem pF_121 : okF ((2, 15), (2, 1, 5, false, true, true)) := ⟨_, _, _, rfl, rfl, by decide, rfl, rfl, tw_55⟩
theorem pF_122 : okF ((2, 18), (2, 2, 5, false, true, true)) := ⟨_, _, _, rfl, rfl, by decide, rfl, rfl, tw_58⟩
theorem pF_123 : okF ((2, 21), (2, 3, 5, false, true, true)) := ⟨_, _, _, rfl, rfl, by decide, rfl, rfl, tw_61⟩
theorem pF_124 : okF ((2, 24), (2, 4, 5, false, true, true)) := ⟨_, _, _, rfl, rfl, by decide, rfl, rfl, tw_64⟩
theorem pF_125 : okF ((3, 15), (3, 1, 2, false, false, false)) := ⟨_, _, _, rfl, rfl, by decide, rfl, rfl, tw_37⟩
theorem pF_126 : okF ((6, 34), (6, 0, 8, false, true, true)) := ⟨_, _, _, rfl, rfl, by decide, rfl, rfl, tw_84⟩
theorem pF_127 : okF ((6, 27), (6, 6, 8, false, true, true)) := ⟨_, _, _, rfl, rfl, by decide, rfl, rfl, tw_92⟩
theorem pF_128 : okF ((7, 25), (7, 4, 9, false, false, false)) := ⟨_, _, _, rfl, rfl, by decide, rfl, rfl, tw_151⟩
theorem pF_129 : okF ((7, 15), (7, 1, 9, false, true, true)) := ⟨_, _, _, rfl, rfl, by decide, rfl, rfl, tw_145⟩
theorem pF_130 : okF ((7, 18), (7, 2, 9, false, true, true)) := ⟨_, _, _, rfl, rfl, by decide, rfl, rfl, tw_147⟩
theorem pF_131 : okF ((7, 37), (7, 8, 9, false, false, false)) := ⟨_, _, _, rfl, rfl, by decide, rfl, rfl, tw_158⟩
theorem pF_132 : okF ((8, 27), (8, 5, 6, false, false, false)) := ⟨_, _, _, rfl, rfl, by decide, rfl, rfl, tw_123⟩
theorem pF_133 : okF ((8, 9), (8, 0, 6, false, true, true)) := ⟨_, _, _, rfl, rfl, by decide, rfl, rfl, tw_118⟩
theorem pF_134 : okF ((8, 31), (7, 4, 9, false, false, false)) := ⟨_, _, _, rfl, rfl, by decide, rfl, rfl, tw_152⟩
theorem pF_135 : okF ((8, 36), (7, 1, 9, false, true, true)) := ⟨_, _, _, rfl, rfl, by decide, rfl, rfl, tw_146⟩
theorem pF_136 : okF ((8, 43), (7, 2, 9, false, true, true)) := ⟨_, _, _, rfl, rfl, by decide, rfl, rfl, tw_148⟩
theorem pF_137 : okF ((8, 18), (8, 2, 6, false, true, true)) := ⟨_, _, _, rfl, rfl, by decide, rfl, rfl, tw_120⟩
theorem pF_138 : okF ((9, 83), (9, 11, 12, false, false, false)) := ⟨_, _, _, rfl, rfl, by decide, rfl, rfl, tw_361⟩
theorem pF_139 : okF ((9, 12), (9, 0, 12, false, true, true)) := ⟨_, _, _, rfl, rfl, by decide, rfl, rfl, tw_350⟩
theorem pF_140 : okF ((9, 95), (3, 1, 2, false, false, false)) := ⟨_, _, _, rfl, rfl, by decide, rfl, rfl, tw_38⟩
theorem pF_141 : okF ((9, 28), (9, 2, 12, false, true, true)) := ⟨_, _, _, rfl, rfl, by decide, rfl, rfl, tw_352⟩
theorem pF_142 : okF ((9, 148), (6, 7, 8, false, false, false)) := ⟨_, _, _, rfl, rfl, by decide, rfl, rfl, tw_94⟩
theorem pF_143 : okF ((9, 49), (9, 5, 12, false, true, true)) := ⟨_, _, _, rfl, rfl, by decide, rfl, rfl, tw_355⟩
theorem pF_144 : okF ((9, 151), (5, 6, 7, false, false, false)) := ⟨_, _, _, rfl, rfl, by decide, rfl, rfl, tw_203⟩
theorem pF_145 : okF ((9, 58), (9, 6, 12, false, true, true)) := ⟨_, _, _, rfl, rfl, by decide, rfl, rfl, tw_356⟩
theorem pF_146 : okF ((9, 35), (9, 3, 12, false, true, true)) := ⟨_, _, _, rfl, rfl, by decide, rfl, rfl, tw_353⟩
theorem pF_147 : okF ((9, 156), (8, 5, 6, false, false, false)) := ⟨_, _, _, rfl, rfl, by decide, rfl, rfl, tw_124⟩
theorem pF_148 : okF ((9, 122), (0, 8, 17, false, true, true)) := ⟨_, _, _, rfl, rfl, by decide, rfl, rfl, tw_245⟩
theorem pF_149 : okF ((9, 142), (0, 6, 17, false, true, true)) := ⟨_, _, _, rfl, rfl, by decide, rfl, rfl, tw_241⟩
theorem pF_150 : okF ((9, 68), (9, 8, 12, false, true, true)) := ⟨_, _, _, rfl, rfl, by decide, rfl, rfl, tw_358⟩
theorem pF_151 : okF ((9, 161), (4, 5, 6, false, false, false)) := ⟨_, _, _, rfl, rfl, by decide, rfl, rfl, tw_308⟩
theorem pF_152 : okF ((9, 162), (7, 3, 9, false, false, false)) := ⟨_, _, _, rfl, rfl, by decide, rfl, rfl, tw_150⟩
theorem pF_153 : okF ((9, 139), (0, 10, 17, false, true, true)) := ⟨_, _, _, rfl, rfl, by decide, rfl, rfl, tw_249⟩
theorem pF_154 : okF ((9, 219), (5, 5, 7, false, true, true)) := ⟨_, _, _, rfl, rfl, by decide, rfl, rfl, tw_200⟩
theorem pF_155 : okF ((9, 222), (0, 12, 17, false, true, true)) := ⟨_, _, _, rfl, rfl, by decide, rfl, rfl, tw_253⟩
theorem pF_156 : okF ((9, 75), (9, 9, 12, false, true, true)) := ⟨_, _, _, rfl, rfl, by decide, rfl, rfl, tw_359⟩
theorem pF_157 : okF ((9, 268), (1, 0, 6, false, true, true)) := ⟨_, _, _, rfl, rfl, by decide, rfl, rfl, tw_329⟩
theorem pF_158 : okF ((9, 225), (5, 0, 7, false, true, true)) := ⟨_, _, _, rfl, rfl, by decide, rfl, rfl, tw_186⟩
theorem pF_159 : okF ((9, 228), (5, 1, 7, false, true, true)) := ⟨_, _, _, rfl, rfl, by decide, rfl, rfl, tw_189⟩
theorem pF_160 : okF ((9, 231), (5, 2, 7, false, true, true)) := ⟨_, _, _, rfl, rfl, by decide, rfl, rfl, tw_192⟩
theorem pF_161 : okF ((9, 234), (5, 3, 7, false, true, true)) := ⟨_, _, _, rfl, rfl, by decide, rfl, rfl, tw_195⟩
theorem pF_162 : okF ((9, 237), (5, 4, 7, false, true, true)) := ⟨_, _, _, rfl, rfl, by decide, rfl, rfl, tw_198⟩
theorem pF_163 : okF ((9, 238), (0, 13, 17, false, true, true)) := ⟨_, _, _, rfl, rfl, by decide, rfl, rfl, tw_255⟩
theorem pF_164 : okF ((9, 241), (0, 14, 17, false, true, true)) := ⟨_, _, _, rfl, rfl, by decide, rfl, rfl, tw_257⟩
theorem pF_165 : okF ((0, 61), (0, 3, 17, false, true, true)) := ⟨_, _, _, rfl, rfl, by decide, rfl, rfl, tw_236⟩
theorem pF_166 : okF ((10, 197), (10, 0, 60, false, false, false)) := ⟨_, _, _, rfl, rfl, by decide, rfl, rfl, tw_865⟩
theorem pF_167 : okF ((10, 164), (10, 1, 60, false, false, false)) := ⟨_, _, _, rfl, rfl, by decide, rfl, rfl, tw_866⟩
theorem pF_168 : okF ((9, 135), (0, 11, 17, false, true, true)) := ⟨_, _, _, rfl, rfl, by decide, rfl, rfl, tw_251⟩
theorem pF_169 : okF ((9, 19), (9, 1, 12, false, true, true)) := ⟨_, _, _, rfl, rfl, by decide, rfl, rfl, tw_351⟩
theorem pF_170 : okF ((9, 138), (2, 4, 5, false, true, true)) := ⟨_, _, _, rfl, rfl, by decide, rfl, rfl, tw_66⟩
theorem pF_171 : okF ((9, 119), (2, 2, 5, false, true, true)) := ⟨_, _, _, rfl, rfl, by decide, rfl, rfl, tw_59⟩
theorem pF_172 : okF ((9, 113), (2, 1, 5, false, true, true)) := ⟨_, _, _, rfl, rfl, by decide, rfl, rfl, tw_56⟩
theorem pF_173 : okF ((9, 133), (0, 9, 17, false, true, true)) := ⟨_, _, _, rfl, rfl, by decide, rfl, rfl, tw_247⟩
theorem pF_174 : okF ((9, 130), (2, 3, 5, false, true, true)) := ⟨_, _, _, rfl, rfl, by decide, rfl, rfl, tw_63⟩
theorem pF_175 : okF ((9, 173), (6, 4, 8, false, true, true)) := ⟨_, _, _, rfl, rfl, by decide, rfl, rfl, tw_89⟩
theorem pF_176 : okF ((9, 109), (0, 5, 17, false, true, true)) := ⟨_, _, _, rfl, rfl, by decide, rfl, rfl, tw_239⟩
theorem pF_177 : okF ((9, 112), (2, 0, 5, false, true, true)) := ⟨_, _, _, rfl, rfl, by decide, rfl, rfl, tw_54⟩
theorem pF_178 : okF ((9, 145), (0, 7, 17, false, true, true)) := ⟨_, _, _, rfl, rfl, by decide, rfl, rfl, tw_243⟩
theorem pF_179 : okF ((9, 79), (9, 10, 12, false, true, true)) := ⟨_, _, _, rfl, rfl, by decide, rfl, rfl, tw_360⟩
theorem pF_180 : okF ((9, 62), (9, 7, 12, false, true, true)) := ⟨_, _, _, rfl, rfl, by decide, rfl, rfl, tw_357⟩
theorem pF_181 : okF ((0, 128), (5, 4, 7, false, true, true)) := ⟨_, _, _, rfl, rfl, by decide, rfl, rfl, tw_197⟩
theorem pF_182 : okF ((9, 190), (6, 5, 8, false, true, true)) := ⟨_, _, _, rfl, rfl, by decide, rfl, rfl, tw_91⟩
theorem pF_183 : okF ((9, 275), (1, 1, 6, false, false, false)) := ⟨_, _, _, rfl, rfl, by decide, rfl, rfl, tw_331⟩
theorem pF_184 : okF ((9, 278), (1, 2, 6, false, false, false)) := ⟨_, _, _, rfl, rfl, by decide, rfl, rfl, tw_333⟩
theorem pF_185 : okF ((9, 201), (7, 5, 9, false, false, false)) := ⟨_, _, _, rfl, rfl, by decide, rfl, rfl, tw_154⟩
set_option maxRecDepth 20000 in
theorem tM_r0 : ∀ e ∈ tM_0, okM e := List.forall_mem_cons.mpr ⟨pM_0, List.forall_mem_cons.mpr ⟨pM_1, List.forall_mem_cons.mpr ⟨pM_2, List.forall_mem_cons.mpr ⟨pM_3, List.forall_mem_cons.mpr ⟨pM_4, List.forall_mem_cons.mpr ⟨pM_5, List.forall_mem_cons.mpr ⟨pM_6, List.forall_mem_cons.mpr ⟨pM_7, List.forall_mem_cons.mpr ⟨pM_8, List.forall_mem_cons.mpr ⟨pM_9, List.forall_mem_cons.mpr ⟨pM_10, List.forall_mem_cons.mpr ⟨pM_11, List.forall_mem_cons.mpr ⟨pM_12, List.forall_mem_cons.mpr ⟨pM_13, List.forall_mem_cons.mpr ⟨pM_14, List.forall_mem_cons.mpr ⟨pM_15, List.forall_mem_cons.mpr ⟨pM_16, List.forall_mem_cons.mpr ⟨pM_17, List.forall_mem_cons.mpr ⟨pM_18, List.forall_mem_cons.mpr ⟨pM_19, List.forall_mem_cons.mpr ⟨pM_20, List.forall_mem_cons.mpr ⟨pM_21, List.forall_mem_cons.mpr ⟨pM_22, List.forall_mem_cons.mpr ⟨pM_23, List.forall_mem_cons.mpr ⟨pM_24, List.forall_mem_cons.mpr ⟨pM_25, List.forall_mem_cons.mpr ⟨pM_26, List.forall_mem_cons.mpr ⟨pM_27, List.forall_mem_cons.mpr ⟨pM_28, List.forall_mem_cons.mpr ⟨pM_29, List.forall_mem_cons.mpr ⟨pM_30, List.forall_mem_cons.mpr ⟨pM_31, List.forall_mem_cons.mpr ⟨pM_32, List.forall_mem_cons.mpr ⟨pM_33, List.forall_mem_cons.mpr ⟨pM_34, List.forall_mem_cons.mpr ⟨pM_35, List.forall_mem_cons.mpr ⟨pM_36, List.forall_mem_cons.mpr ⟨pM_37, List.forall_mem_cons.mpr ⟨pM_38, List.forall_mem_cons.mpr ⟨pM_39, fun _ h => absurd h List.not_mem_nil⟩⟩⟩⟩⟩⟩⟩⟩⟩⟩⟩⟩⟩⟩⟩⟩⟩⟩⟩⟩⟩⟩⟩⟩⟩⟩⟩⟩⟩⟩⟩⟩⟩⟩⟩⟩⟩⟩⟩⟩
set_option maxRecDepth 20000 in
theorem tM_r1 : ∀ e ∈ tM_1, okM e := List.forall_mem_cons.mpr ⟨pM_40, List.forall_mem_cons.mpr ⟨pM_41, List.forall_mem_cons.mpr ⟨pM_42, List.forall_mem_cons.mpr ⟨pM_43, List.forall_mem_cons.mpr ⟨pM_44, List.forall_mem_cons.mpr ⟨pM_45, List.forall_mem_cons.mpr ⟨pM_46, List.forall_mem_cons.mpr ⟨pM_47, List.forall_mem_cons.mpr ⟨pM_48, List.forall_mem_cons.mpr ⟨pM_49, List.forall_mem_cons.mpr ⟨pM_50, List.forall_mem_cons.mpr ⟨pM_51, List.forall_mem_cons.mpr ⟨pM_52, List.forall_mem_cons.mpr ⟨pM_53, List.forall_mem_cons.mpr ⟨pM_54, List.forall_mem_cons.mpr ⟨pM_55, List.forall_mem_cons.mpr ⟨pM_56, List.forall_mem_cons.mpr ⟨pM_57, List.forall_mem_cons.mpr ⟨pM_58, List.forall_mem_cons.mpr ⟨pM_59, List.forall_mem_cons.mpr ⟨pM_60, List.forall_mem_cons.mpr ⟨pM_61, List.forall_mem_cons.mpr ⟨pM_62, List.forall_mem_cons.mpr ⟨pM_63, List.forall_mem_cons.mpr ⟨pM_64, List.forall_mem_cons.mpr ⟨pM_65, List.forall_mem_cons.mpr ⟨pM_66, List.forall_mem_cons.mpr ⟨pM_67, List.forall_mem_cons.mpr ⟨pM_68, List.forall_mem_cons.mpr ⟨pM_69, List.forall_mem_cons.mpr ⟨pM_70, List.forall_mem_cons.mpr ⟨pM_71, List.forall_mem_cons.mpr ⟨pM_72, List.forall_mem_cons.mpr ⟨pM_73, List.forall_mem_cons.mpr ⟨pM_74, List.forall_mem_cons.mpr ⟨pM_75, List.forall_mem_cons.mpr ⟨pM_76, List.forall_mem_cons.mpr ⟨pM_77, List.forall_mem_cons.mpr ⟨pM_78, List.forall_mem_cons.mpr ⟨pM_79, fun _ h => absurd h List.not_mem_nil⟩⟩⟩⟩⟩⟩⟩⟩⟩⟩⟩⟩⟩⟩⟩⟩⟩⟩⟩⟩⟩⟩⟩⟩⟩⟩⟩⟩⟩⟩⟩⟩⟩⟩⟩⟩⟩⟩⟩⟩
set_option maxRecDepth 20000 in
theorem tM_r2 : ∀ e ∈ tM_2, okM e := List.forall_mem_cons.mpr ⟨pM_80, List.forall_mem_cons.mpr ⟨pM_81, List.forall_mem_cons.mpr ⟨pM_82, List.forall_mem_cons.mpr ⟨pM_83, List.forall_mem_cons.mpr ⟨pM_84, List.forall_mem_cons.mpr ⟨pM_85, List.forall_mem_cons.mpr ⟨pM_86, List.forall_mem_cons.mpr ⟨pM_87, List.forall_mem_cons.mpr ⟨pM_88, List.forall_mem_cons.mpr ⟨pM_89, List.forall_mem_cons.mpr ⟨pM_90, List.forall_mem_cons.mpr ⟨pM_91, List.forall_mem_cons.mpr ⟨pM_92, List.forall_mem_cons.mpr ⟨pM_93, List.forall_mem_cons.mpr ⟨pM_94, List.forall_mem_cons.mpr ⟨pM_95, List.forall_mem_cons.mpr ⟨pM_96, List.forall_mem_cons.mpr ⟨pM_97, List.forall_mem_cons.mpr ⟨pM_98, List.forall_mem_cons.mpr ⟨pM_99, List.forall_mem_cons.mpr ⟨pM_100, List.forall_mem_cons.mpr ⟨pM_101, List.forall_mem_cons.mpr ⟨pM_102, List.forall_mem_cons.mpr ⟨pM_103, List.forall_mem_cons.mpr ⟨pM_104, List.forall_mem_cons.mpr ⟨pM_105, List.forall_mem_cons.mpr ⟨pM_106, List.forall_mem_cons.mpr ⟨pM_107, List.forall_mem_cons.mpr ⟨pM_108, List.forall_mem_cons.mpr ⟨pM_109, List.forall_mem_cons.mpr ⟨pM_110, List.forall_mem_cons.mpr ⟨pM_111, List.forall_mem_cons.mpr ⟨pM_112, List.forall_mem_cons.mpr ⟨pM_113, List.forall_mem_cons.mpr ⟨pM_114, List.forall_mem_cons.mpr ⟨pM_115, List.forall_mem_cons.mpr ⟨pM_116, List.forall_mem_cons.mpr ⟨pM_117, List.forall_mem_cons.mpr ⟨pM_118, List.forall_mem_cons.mpr ⟨pM_119, fun _ h => absurd h List.not_mem_nil⟩⟩⟩⟩⟩⟩⟩⟩⟩⟩⟩⟩⟩⟩⟩⟩⟩⟩⟩⟩⟩⟩⟩⟩⟩⟩⟩⟩⟩⟩⟩⟩⟩⟩⟩⟩⟩⟩⟩⟩
set_option maxRecDepth 20000 in
theorem tM_r3 : ∀ e ∈ tM_3, okM e := List.forall_mem_cons.mpr ⟨pM_120, List.forall_mem_cons.mpr ⟨pM_121, List.forall_mem_cons.mpr ⟨pM_122, List.forall_mem_cons.mpr ⟨pM_123, List.forall_mem_cons.mpr ⟨pM_124, List.forall_mem_cons.mpr ⟨pM_125, List.forall_mem_cons.mpr ⟨pM_126, List.forall_mem_cons.mpr ⟨pM_127, List.forall_mem_cons.mpr ⟨pM_128, List.forall_mem_cons.mpr ⟨pM_129, List.forall_mem_cons.mpr ⟨pM_130, List.forall_mem_cons.mpr ⟨pM_131, List.forall_mem_cons.mpr ⟨pM_132, List.forall_mem_cons.mpr ⟨pM_133, List.forall_mem_cons.mpr ⟨pM_134, List.forall_mem_cons.mpr ⟨pM_135, List.forall_mem_cons.mpr ⟨pM_136, List.forall_mem_cons.mpr ⟨pM_137, List.forall_mem_cons.mpr ⟨pM_138, List.forall_mem_cons.mpr ⟨pM_139, List.forall_mem_cons.mpr ⟨pM_140, List.forall_mem_cons.mpr ⟨pM_141, List.forall_mem_cons.mpr ⟨pM_142, List.forall_mem_cons.mpr ⟨pM_143, List.forall_mem_cons.mpr ⟨pM_144, List.forall_mem_cons.mpr ⟨pM_145, List.forall_mem_cons.mpr ⟨pM_146, List.forall_mem_cons.mpr ⟨pM_147, List.forall_mem_cons.mpr ⟨pM_148, List.forall_mem_cons.mpr ⟨pM_149, List.forall_mem_cons.mpr ⟨pM_150, List.forall_mem_cons.mpr ⟨pM_151, List.forall_mem_cons.mpr ⟨pM_152, List.forall_mem_cons.mpr ⟨pM_153, List.forall_mem_cons.mpr ⟨pM_154, List.forall_mem_cons.mpr ⟨pM_155, List.forall_mem_cons.mpr ⟨pM_156, List.forall_mem_cons.mpr ⟨pM_157, List.forall_mem_cons.mpr ⟨pM_158, List.forall_mem_cons.mpr ⟨pM_159, fun _ h => absurd h List.not_mem_nil⟩⟩⟩⟩⟩⟩⟩⟩⟩⟩⟩⟩⟩⟩⟩⟩⟩⟩⟩⟩⟩⟩⟩⟩⟩⟩⟩⟩⟩⟩⟩⟩⟩⟩⟩⟩⟩⟩⟩⟩
set_option maxRecDepth 20000 in
theorem tM_r4 : ∀ e ∈ tM_4, okM e := List.forall_mem_cons.mpr ⟨pM_160, List.forall_mem_cons.mpr ⟨pM_161, List.forall_mem_cons.mpr ⟨pM_162, List.forall_mem_cons.mpr ⟨pM_163, List.forall_mem_cons.mpr ⟨pM_164, List.forall_mem_cons.mpr ⟨pM_165, List.forall_mem_cons.mpr ⟨pM_166, List.forall_mem_cons.mpr ⟨pM_167, List.forall_mem_cons.mpr ⟨pM_168, List.forall_mem_cons.mpr ⟨pM_169, List.forall_mem_cons.mpr ⟨pM_170, List.forall_mem_cons.mpr ⟨pM_171, List.forall_mem_cons.mpr ⟨pM_172, List.forall_mem_cons.mpr ⟨pM_173, List.forall_mem_cons.mpr ⟨pM_174, List.forall_mem_cons.mpr ⟨pM_175, List.forall_mem_cons.mpr ⟨pM_176, List.forall_mem_cons.mpr ⟨pM_177, List.forall_mem_cons.mpr ⟨pM_178, List.forall_mem_cons.mpr ⟨pM_179, List.forall_mem_cons.mpr ⟨pM_180, List.forall_mem_cons.mpr ⟨pM_181, List.forall_mem_cons.mpr ⟨pM_182, List.forall_mem_cons.mpr ⟨pM_183, List.forall_mem_cons.mpr ⟨pM_184, List.forall_mem_cons.mpr ⟨pM_185, List.forall_mem_cons.mpr ⟨pM_186, List.forall_mem_cons.mpr ⟨pM_187, List.forall_mem_cons.mpr ⟨pM_188, List.forall_mem_cons.mpr ⟨pM_189, List.forall_mem_cons.mpr ⟨pM_190, List.forall_mem_cons.mpr ⟨pM_191, List.forall_mem_cons.mpr ⟨pM_192, List.forall_mem_cons.mpr ⟨pM_193, List.forall_mem_cons.mpr ⟨pM_194, List.forall_mem_cons.mpr ⟨pM_195, List.forall_mem_cons.mpr ⟨pM_196, List.forall_mem_cons.mpr ⟨pM_197, List.forall_mem_cons.mpr ⟨pM_198, List.forall_mem_cons.mpr ⟨pM_199, fun _ h => absurd h List.not_mem_nil⟩⟩⟩⟩⟩⟩⟩⟩⟩⟩⟩⟩⟩⟩⟩⟩⟩⟩⟩⟩⟩⟩⟩⟩⟩⟩⟩⟩⟩⟩⟩⟩⟩⟩⟩⟩⟩⟩⟩⟩
set_option maxRecDepth 20000 in
theorem tM_r5 : ∀ e ∈ tM_5, okM e := List.forall_mem_cons.mpr ⟨pM_200, List.forall_mem_cons.mpr ⟨pM_201, List.forall_mem_cons.mpr ⟨pM_202, List.forall_mem_cons.mpr ⟨pM_203, List.forall_mem_cons.mpr ⟨pM_204, List.forall_mem_cons.mpr ⟨pM_205, List.forall_mem_cons.mpr ⟨pM_206, List.forall_mem_cons.mpr ⟨pM_207, fun _ h => absurd h List.not_mem_nil⟩⟩⟩⟩⟩⟩⟩⟩
theorem tM_ok : ∀ e ∈ tM, okM e := List.forall_mem_append.mpr ⟨tM_r0, List.forall_mem_append.mpr ⟨tM_r1, List.forall_mem_append.mpr ⟨tM_r2, List.forall_mem_append.mpr ⟨tM_r3, List.forall_mem_append.mpr ⟨tM_r4, tM_r5⟩⟩⟩⟩⟩
set_option maxRecDepth 20000 in
theorem tF_r0 : ∀ e ∈ tF_0, okF e := List.forall_mem_cons.mpr ⟨pF_0, List.forall_mem_cons.mpr ⟨pF_1, List.forall_mem_cons.mpr ⟨pF_2, List.forall_mem_cons.mpr ⟨pF_3, List.forall_mem_cons.mpr ⟨pF_4, List.forall_mem_cons.mpr ⟨pF_5, List.forall_mem_cons.mpr ⟨pF_6, List.forall_mem_cons.mpr ⟨pF_7, List.forall_mem_cons.mpr ⟨pF_8, List.forall_mem_cons.mpr ⟨pF_9, List.forall_mem_cons.mpr ⟨pF_10, List.forall_mem_cons.mpr ⟨pF_11, List.forall_mem_cons.mpr ⟨pF_12, List.forall_mem_cons.mpr ⟨pF_13, List.forall_mem_cons.mpr ⟨pF_14, List.forall_mem_cons.mpr ⟨pF_15, List.forall_mem_cons.mpr ⟨pF_16, List.forall_mem_cons.mpr ⟨pF_17, List.forall_mem_cons.mpr ⟨pF_18, List.forall_mem_cons.mpr ⟨pF_19, List.forall_mem_cons.mpr ⟨pF_20, List.forall_mem_cons.mpr ⟨pF_21, List.forall_mem_cons.mpr ⟨pF_22, List.forall_mem_cons.mpr ⟨pF_23, List.forall_mem_cons.mpr ⟨pF_24, List.forall_mem_cons.mpr ⟨pF_25, List.forall_mem_cons.mpr ⟨pF_26, List.forall_mem_cons.mpr ⟨pF_27, List.forall_mem_cons.mpr ⟨pF_28, List.forall_mem_cons.mpr ⟨pF_29, List.forall_mem_cons.mpr ⟨pF_30, List.forall_mem_cons.mpr ⟨pF_31, List.forall_mem_cons.mpr ⟨pF_32, List.forall_mem_cons.mpr ⟨pF_33, List.forall_mem_cons.mpr ⟨pF_34, List.forall_mem_cons.mpr ⟨pF_35, List.forall_mem_cons.mpr ⟨pF_36, List.forall_mem_cons.mpr ⟨pF_37, List.forall_mem_cons.mpr ⟨pF_38, List.forall_mem_cons.mpr ⟨pF_39, fun _ h => absurd h List.not_mem_nil⟩⟩⟩⟩⟩⟩⟩⟩⟩⟩⟩⟩⟩⟩⟩⟩⟩⟩⟩⟩⟩⟩⟩⟩⟩⟩⟩⟩⟩⟩⟩⟩⟩⟩⟩⟩⟩⟩⟩⟩
set_option maxRecDepth 20000 in
theorem tF_r1 : ∀ e ∈ tF_1, okF e := List.forall_mem_cons.mpr ⟨pF_40, List.forall_mem_cons.mpr ⟨pF_41, List.forall_mem_cons.mpr ⟨pF_42, List.forall_mem_cons.mpr ⟨pF_43, List.forall_mem_cons.mpr ⟨pF_44, List.forall_mem_cons.mpr ⟨pF_45, List.forall_mem_cons.mpr ⟨pF_46, List.forall_mem_cons.mpr ⟨pF_47, List.forall_mem_cons.mpr ⟨pF_48, List.forall_mem_cons.mpr ⟨pF_49, List.forall_mem_cons.mpr ⟨pF_50, List.forall_mem_cons.mpr ⟨pF_51, List.forall_mem_cons.mpr ⟨pF_52, List.forall_mem_cons.mpr ⟨pF_53, List.forall_mem_cons.mpr ⟨pF_54, List.forall_mem_cons.mpr ⟨pF_55, List.forall_mem_cons.mpr ⟨pF_56, List.forall_mem_cons.mpr ⟨pF_57, List.forall_mem_cons.mpr ⟨pF_58, List.forall_mem_cons.mpr ⟨pF_59, List.forall_mem_cons.mpr ⟨pF_60, List.forall_mem_cons.mpr ⟨pF_61, List.forall_mem_cons.mpr ⟨pF_62, List.forall_mem_cons.mpr ⟨pF_63, List.forall_mem_cons.mpr ⟨pF_64, List.forall_mem_cons.mpr ⟨pF_65, List.forall_mem_cons.mpr ⟨pF_66, List.forall_mem_cons.mpr ⟨pF_67, List.forall_mem_cons.mpr ⟨pF_68, List.forall_mem_cons.mpr ⟨pF_69, List.forall_mem_cons.mpr ⟨pF_70, List.forall_mem_cons.mpr ⟨pF_71, List.forall_mem_cons.mpr ⟨pF_72, List.forall_mem_cons.mpr ⟨pF_73, List.forall_mem_cons.mpr ⟨pF_74, List.forall_mem_cons.mpr ⟨pF_75, List.forall_mem_cons.mpr ⟨pF_76, List.forall_mem_cons.mpr ⟨pF_77, List.forall_mem_cons.mpr ⟨pF_78, List.forall_mem_cons.mpr ⟨pF_79, fun _ h => absurd h List.not_mem_nil⟩⟩⟩⟩⟩⟩⟩⟩⟩⟩⟩⟩⟩⟩⟩⟩⟩⟩⟩⟩⟩⟩⟩⟩⟩⟩⟩⟩⟩⟩⟩⟩⟩⟩⟩⟩⟩⟩⟩⟩
set_option maxRecDepth 20000 in
theorem tF_r2 : ∀ e ∈ tF_2, okF e := List.forall_mem_cons.mpr ⟨pF_80, List.forall_mem_cons.mpr ⟨pF_81, List.forall_mem_cons.mpr ⟨pF_82, List.forall_mem_cons.mpr ⟨pF_83, List.forall_mem_cons.mpr ⟨pF_84, List.forall_mem_cons.mpr ⟨pF_85, List.forall_mem_cons.mpr ⟨pF_86, List.forall_mem_cons.mpr ⟨pF_87, List.forall_mem_cons.mpr ⟨pF_88, List.forall_mem_cons.mpr ⟨pF_89, List.forall_mem_cons.mpr ⟨pF_90, List.forall_mem_cons.mpr ⟨pF_91, List.forall_mem_cons.mpr ⟨pF_92, List.forall_mem_cons.mpr ⟨pF_93, List.forall_mem_cons.mpr ⟨pF_94, List.forall_mem_cons.mpr ⟨pF_95, List.forall_mem_cons.mpr ⟨pF_96, List.forall_mem_cons.mpr ⟨pF_97, List.forall_mem_cons.mpr ⟨pF_98, List.forall_mem_cons.mpr ⟨pF_99, List.forall_mem_cons.mpr ⟨pF_100, List.forall_mem_cons.mpr ⟨pF_101, List.forall_mem_cons.mpr ⟨pF_102, List.forall_mem_cons.mpr ⟨pF_103, List.forall_mem_cons.mpr ⟨pF_104, List.forall_mem_cons.mpr ⟨pF_105, List.forall_mem_cons.mpr ⟨pF_106, List.forall_mem_cons.mpr ⟨pF_107, List.forall_mem_cons.mpr ⟨pF_108, List.forall_mem_cons.mpr ⟨pF_109, List.forall_mem_cons.mpr ⟨pF_110, List.forall_mem_cons.mpr ⟨pF_111, List.forall_mem_cons.mpr ⟨pF_112, List.forall_mem_cons.mpr ⟨pF_113, List.forall_mem_cons.mpr ⟨pF_114, List.forall_mem_cons.mpr ⟨pF_115, List.forall_mem_cons.mpr ⟨pF_116, List.forall_mem_cons.mpr ⟨pF_117, List.forall_mem_cons.mpr ⟨pF_118, List.forall_mem_cons.mpr ⟨pF_119, fun _ h => absurd h List.not_mem_nil⟩⟩⟩⟩⟩⟩⟩⟩⟩⟩⟩⟩⟩⟩⟩⟩⟩⟩⟩⟩⟩⟩⟩⟩⟩⟩⟩⟩⟩⟩⟩⟩⟩⟩⟩⟩⟩⟩⟩⟩
set_option maxRecDepth 20000 in
theorem tF_r3 : ∀ e ∈ tF_3, okF e := List.forall_mem_cons.mpr ⟨pF_120, List.forall_mem_cons.mpr ⟨pF_121, List.forall_mem_cons.mpr ⟨pF_122, List.forall_mem_cons.mpr ⟨pF_123, List.forall_mem_cons.mpr ⟨pF_124, List.forall_mem_cons.mpr ⟨pF_125, List.forall_mem_cons.mpr ⟨pF_126, List.forall_mem_cons.mpr ⟨pF_127, List.forall_mem_cons.mpr ⟨pF_128, List.forall_mem_cons.mpr ⟨pF_129, List.forall_mem_cons.mpr ⟨pF_130, List.forall_mem_cons.mpr ⟨pF_131, List.forall_mem_cons.mpr ⟨pF_132, List.forall_mem_cons.mpr ⟨pF_133, List.forall_mem_cons.mpr ⟨pF_134, List.forall_mem_cons.mpr ⟨pF_135, List.forall_mem_cons.mpr ⟨pF_136, List.forall_mem_cons.mpr ⟨pF_137, List.forall_mem_cons.mpr ⟨pF_138, List.forall_mem_cons.mpr ⟨pF_139, List.forall_mem_cons.mpr ⟨pF_140, List.forall_mem_cons.mpr ⟨pF_141, List.forall_mem_cons.mpr ⟨pF_142, List.forall_mem_cons.mpr ⟨pF_143, List.forall_mem_cons.mpr ⟨pF_144, List.forall_mem_cons.mpr ⟨pF_145, List.forall_mem_cons.mpr ⟨pF_146, List.forall_mem_cons.mpr ⟨pF_147, List.forall_mem_cons.mpr ⟨pF_148, List.forall_mem_cons.mpr ⟨pF_149, List.forall_mem_cons.mpr ⟨pF_150, List.forall_mem_cons.mpr ⟨pF_151, List.forall_mem_cons.mpr ⟨pF_152, List.forall_mem_cons.mpr ⟨pF_153, List.forall_mem_cons.mpr ⟨pF_154, List.forall_mem_cons.mpr ⟨pF_155, List.forall_mem_cons.mpr ⟨pF_156, List.forall_mem_cons.mpr ⟨pF_157, List.forall_mem_cons.mpr ⟨pF_158, List.forall_mem_cons.mpr ⟨pF_159, fun _ h => absurd h List.not_mem_nil⟩⟩⟩⟩⟩⟩⟩⟩⟩⟩⟩⟩⟩⟩⟩⟩⟩⟩⟩⟩⟩⟩⟩⟩⟩⟩⟩⟩⟩⟩⟩⟩⟩⟩⟩⟩⟩⟩⟩⟩
set_option maxRecDepth 20000 in
theorem tF_r4 : ∀ e ∈ tF_4, okF e := List.forall_mem_cons.mpr ⟨pF_160, List.forall_mem_cons.mpr ⟨pF_161, List.forall_mem_cons.mpr ⟨pF_162, List.forall_mem_cons.mpr ⟨pF_163, List.forall_mem_cons.mpr ⟨pF_164, List.forall_mem_cons.mpr ⟨pF_165, List.forall_mem_cons.mpr ⟨pF_166, List.forall_mem_cons.mpr ⟨pF_167, List.forall_mem_cons.mpr ⟨pF_168, List.forall_mem_cons.mpr ⟨pF_169, List.forall_mem_cons.mpr ⟨pF_170, List.forall_mem_cons.mpr ⟨pF_171, List.forall_mem_cons.mpr ⟨pF_172, List.forall_mem_cons.mpr ⟨pF_173, List.forall_mem_cons.mpr ⟨pF_174, List.forall_mem_cons.mpr ⟨pF_175, List.forall_mem_cons.mpr ⟨pF_176, List.forall_mem_cons.mpr ⟨pF_177, List.forall_mem_cons.mpr ⟨pF_178, List.forall_mem_cons.mpr ⟨pF_179, List.forall_mem_cons.mpr ⟨pF_180, List.forall_mem_cons.mpr ⟨pF_181, List.forall_mem_cons.mpr ⟨pF_182, List.forall_mem_cons.mpr ⟨pF_183, List.forall_mem_cons.mpr ⟨pF_184, List.forall_mem_cons.mpr ⟨pF_185, fun _ h => absurd h List.not_mem_nil⟩⟩⟩⟩⟩⟩⟩⟩⟩⟩⟩⟩⟩⟩⟩⟩⟩⟩⟩⟩⟩⟩⟩⟩⟩⟩
theorem tF_ok : ∀ e ∈ tF, okF e := List.forall_mem_append.mpr ⟨tF_r0, List.forall_mem_append.mpr ⟨tF_r1, List.forall_mem_append.mpr ⟨tF_r2, List.forall_mem_append.mpr ⟨tF_r3, tF_r4⟩⟩⟩⟩
set_option maxRecDepth 20000 in
theorem tB_r0 : ∀ e ∈ tB_0, okB e := List.forall_mem_cons.mpr ⟨tw_753, List.forall_mem_cons.mpr ⟨tw_229, List.forall_mem_cons.mpr ⟨tw_766, List.forall_mem_cons.mpr ⟨tw_863, List.forall_mem_cons.mpr ⟨tw_327, List.forall_mem_cons.mpr ⟨tw_839, List.forall_mem_cons.mpr ⟨tw_50, List.forall_mem_cons.mpr ⟨tw_32, List.forall_mem_cons.mpr ⟨tw_301, List.forall_mem_cons.mpr ⟨tw_183, List.forall_mem_cons.mpr ⟨tw_509, List.forall_mem_cons.mpr ⟨tw_83, List.forall_mem_cons.mpr ⟨tw_143, List.forall_mem_cons.mpr ⟨tw_668, List.forall_mem_cons.mpr ⟨tw_117, List.forall_mem_cons.mpr ⟨tw_224, List.forall_mem_cons.mpr ⟨tw_825, List.forall_mem_cons.mpr ⟨tw_435, List.forall_mem_cons.mpr ⟨tw_826, List.forall_mem_cons.mpr ⟨tw_24, fun _ h => absurd h List.not_mem_nil⟩⟩⟩⟩⟩⟩⟩⟩⟩⟩⟩⟩⟩⟩⟩⟩⟩⟩⟩⟩
theorem tB_ok : ∀ e ∈ tB, okB e := tB_r0
set_option maxRecDepth 20000 in
theorem tU_r0 : ∀ e ∈ tU_0, okU e := List.forall_mem_cons.mpr ⟨tw_1367, List.forall_mem_cons.mpr ⟨tw_1366, fun _ h => absurd h List.not_mem_nil⟩⟩
theorem tU_ok : ∀ e ∈ tU, okU e := tU_r0
set_option maxRecDepth 20000 in
theorem tC_r0 : ∀ e ∈ tC_0, okC e := List.forall_mem_cons.mpr ⟨⟨_, _, rfl, tw_27, tw_28, tw_2⟩, List.forall_mem_cons.mpr ⟨⟨_, _, rfl, tw_45, tw_46, tw_4⟩, List.forall_mem_cons.mpr ⟨⟨_, _, rfl, tw_78, tw_79, tw_5⟩, List.forall_mem_cons.mpr ⟨⟨_, _, rfl, tw_112, tw_113, tw_6⟩, List.forall_mem_cons.mpr ⟨⟨_, _, rfl, tw_138, tw_139, tw_7⟩, List.forall_mem_cons.mpr ⟨⟨_, _, rfl, tw_178, tw_179, tw_8⟩, List.forall_mem_cons.mpr ⟨⟨_, _, rfl, tw_219, tw_220, tw_9⟩, List.forall_mem_cons.mpr ⟨⟨_, _, rfl, tw_296, tw_297, tw_11⟩, List.forall_mem_cons.mpr ⟨⟨_, _, rfl, tw_322, tw_323, tw_12⟩, List.forall_mem_cons.mpr ⟨⟨_, _, rfl, tw_19, tw_20, tw_1⟩, List.forall_mem_cons.mpr ⟨⟨_, _, rfl, tw_858, tw_859, tw_13⟩, fun _ h => absurd h List.not_mem_nil⟩⟩⟩⟩⟩⟩⟩⟩⟩⟩⟩
theorem tC_ok : ∀ e ∈ tC, okC e := tC_r0
set_option maxRecDepth 20000 in
theorem tI_r0 : ∀ e ∈ tI_0, okI e := List.forall_mem_cons.mpr ⟨tw_864, List.forall_mem_cons.mpr ⟨tw_1344, List.forall_mem_cons.mpr ⟨tw_446, fun _ h => absurd h List.not_mem_nil⟩⟩⟩
theorem tI_ok : ∀ e ∈ tI, okI e := tI_r0
set_option maxRecDepth 20000 in
theorem tJ_r0 : ∀ e ∈ tJ_0, okJ e := List.forall_mem_cons.mpr ⟨tw_530, List.forall_mem_cons.mpr ⟨tw_1109, List.forall_mem_cons.mpr ⟨tw_1162, List.forall_mem_cons.mpr ⟨tw_1219, List.forall_mem_cons.mpr ⟨tw_1091, List.forall_mem_cons.mpr ⟨tw_1076, List.forall_mem_cons.mpr ⟨tw_1115, List.forall_mem_cons.mpr ⟨tw_1053, List.forall_mem_cons.mpr ⟨tw_1090, List.forall_mem_cons.mpr ⟨tw_1330, List.forall_mem_cons.mpr ⟨tw_1082, List.forall_mem_cons.mpr ⟨tw_1209, List.forall_mem_cons.mpr ⟨tw_1210, List.forall_mem_cons.mpr ⟨tw_1175, List.forall_mem_cons.mpr ⟨tw_1176, List.forall_mem_cons.mpr ⟨tw_1342, List.forall_mem_cons.mpr ⟨tw_1343, List.forall_mem_cons.mpr ⟨tw_1100, List.forall_mem_cons.mpr ⟨tw_1114, List.forall_mem_cons.mpr ⟨tw_1057, List.forall_mem_cons.mpr ⟨tw_1077, List.forall_mem_cons.mpr ⟨tw_1325, List.forall_mem_cons.mpr ⟨tw_1260, List.forall_mem_cons.mpr ⟨tw_1365, fun _ h => absurd h List.not_mem_nil⟩⟩⟩⟩⟩⟩⟩⟩⟩⟩⟩⟩⟩⟩⟩⟩⟩⟩⟩⟩⟩⟩⟩⟩
theorem tJ_ok : ∀ e ∈ tJ, okJ e := tJ_r0
set_option maxRecDepth 20000 in
theorem tT_r0 : ∀ e ∈ tT_0, okT e := List.forall_mem_cons.mpr ⟨⟨by decide, rfl⟩, List.forall_mem_cons.mpr ⟨⟨by decide, rfl⟩, List.forall_mem_cons.mpr ⟨⟨by decide, rfl⟩, List.forall_mem_cons.mpr ⟨⟨by decide, rfl⟩, List.forall_mem_cons.mpr ⟨⟨by decide, rfl⟩, List.forall_mem_cons.mpr ⟨⟨by decide, rfl⟩, List.forall_mem_cons.mpr ⟨⟨by decide, rfl⟩, List.forall_mem_cons.mpr ⟨⟨by decide, rfl⟩, List.forall_mem_cons.mpr ⟨⟨by decide, rfl⟩, List.forall_mem_cons.mpr ⟨⟨by decide, rfl⟩, List.forall_mem_cons.mpr ⟨⟨by decide, rfl⟩, List.forall_mem_cons.mpr ⟨⟨by decide, rfl⟩, List.forall_mem_cons.mpr ⟨⟨by decide, rfl⟩, fun _ h => absurd h List.not_mem_nil⟩⟩⟩⟩⟩⟩⟩⟩⟩⟩⟩⟩⟩
theorem tT_ok : ∀ e ∈ tT, okT e := tT_r0
set_option maxRecDepth 20000 in
theorem tG_r0 : ∀ e ∈ tG_0, okG e := List.forall_mem_cons.mpr ⟨tw_568, List.forall_mem_cons.mpr ⟨⟨_, tw_655⟩, List.forall_mem_cons.mpr ⟨⟨_, tw_657⟩, List.forall_mem_cons.mpr ⟨⟨_, tw_682⟩, fun _ h => absurd h List.not_mem_nil⟩⟩⟩⟩
theorem tG_ok : ∀ e ∈ tG, okG e := tG_r0
