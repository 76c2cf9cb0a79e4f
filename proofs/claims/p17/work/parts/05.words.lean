theorem tp_of {y : MethodName} {n : Nat} (i : Nat) (h : lw_privs[i]? = some (y, n)) : Cond.selects y.cls y y ∈ gt := gt_of (List.mem_append_left _ (List.mem_map.mpr ⟨(y, n), List.mem_of_getElem? h, rfl⟩)) rfl
theorem sg_1 {w : Cond} (i : Nat) (hi : tables_1_1[i]? = some w) (g : goodWord w = true) : w ∈ gt := by
  have h := List.mem_of_getElem? hi
  exact gt_of (List.mem_append_right _ (List.mem_append_left _ h)) g
theorem sg_2 {w : Cond} (i : Nat) (hi : tables_1_2[i]? = some w) (g : goodWord w = true) : w ∈ gt := by
  have h := List.mem_of_getElem? hi
  exact gt_of (List.mem_append_right _ (List.mem_append_right _ (List.mem_append_left _ h))) g
theorem sg_3 {w : Cond} (i : Nat) (hi : tables_1_3[i]? = some w) (g : goodWord w = true) : w ∈ gt := by
  have h := List.mem_of_getElem? hi
  exact gt_of (List.mem_append_right _ (List.mem_append_right _ (List.mem_append_right _ (List.mem_append_left _ h)))) g
theorem sg_4 {w : Cond} (i : Nat) (hi : tables_1_4[i]? = some w) (g : goodWord w = true) : w ∈ gt := by
  have h := List.mem_of_getElem? hi
  exact gt_of (List.mem_append_right _ (List.mem_append_right _ (List.mem_append_right _ (List.mem_append_right _ (List.mem_append_left _ h))))) g
theorem sg_5 {w : Cond} (i : Nat) (hi : tables_1_5[i]? = some w) (g : goodWord w = true) : w ∈ gt := by
  have h := List.mem_of_getElem? hi
  exact gt_of (List.mem_append_right _ (List.mem_append_right _ (List.mem_append_right _ (List.mem_append_right _ (List.mem_append_right _ (List.mem_append_left _ h)))))) g
theorem sg_6 {w : Cond} (i : Nat) (hi : tables_1_6[i]? = some w) (g : goodWord w = true) : w ∈ gt := by
  have h := List.mem_of_getElem? hi
  exact gt_of (List.mem_append_right _ (List.mem_append_right _ (List.mem_append_right _ (List.mem_append_right _ (List.mem_append_right _ (List.mem_append_right _ (List.mem_append_left _ h))))))) g
theorem sg_7 {w : Cond} (i : Nat) (hi : tables_1_7[i]? = some w) (g : goodWord w = true) : w ∈ gt := by
  have h := List.mem_of_getElem? hi
  exact gt_of (List.mem_append_right _ (List.mem_append_right _ (List.mem_append_right _ (List.mem_append_right _ (List.mem_append_right _ (List.mem_append_right _ (List.mem_append_right _ (List.mem_append_left _ h)))))))) g
theorem sg_8 {w : Cond} (i : Nat) (hi : tables_1_8[i]? = some w) (g : goodWord w = true) : w ∈ gt := by
  have h := List.mem_of_getElem? hi
  exact gt_of (List.mem_append_right _ (List.mem_append_right _ (List.mem_append_right _ (List.mem_append_right _ (List.mem_append_right _ (List.mem_append_right _ (List.mem_append_right _ (List.mem_append_right _ h)))))))) g
set_option maxRecDepth 8000 in
theorem tb_1 : (Cond.initialized "OneSunbeam") ∈ gt := sg_1 1 rfl rfl
set_option maxRecDepth 8000 in
theorem tb_2 : (Cond.initialized "OneSunbeam$Town") ∈ gt := sg_1 2 rfl rfl
set_option maxRecDepth 8000 in
theorem tb_3 : (Cond.initialized "OneSunbeam$Beams") ∈ gt := sg_1 3 rfl rfl
set_option maxRecDepth 8000 in
theorem tb_4 : (Cond.initialized "OneSunbeam$Keepers") ∈ gt := sg_1 4 rfl rfl
set_option maxRecDepth 8000 in
theorem tb_5 : (Cond.initialized "OneSunbeam$Aiming") ∈ gt := sg_1 5 rfl rfl
set_option maxRecDepth 8000 in
theorem tb_6 : (Cond.initialized "OneSunbeam$Mending") ∈ gt := sg_1 6 rfl rfl
set_option maxRecDepth 8000 in
theorem tb_7 : (Cond.initialized "OneSunbeam$Opening") ∈ gt := sg_1 7 rfl rfl
set_option maxRecDepth 8000 in
theorem tb_8 : (Cond.initialized "OneSunbeam$Theft") ∈ gt := sg_1 8 rfl rfl
set_option maxRecDepth 8000 in
theorem tb_9 : (Cond.initialized "OneSunbeam$LawReader") ∈ gt := sg_1 9 rfl rfl
set_option maxRecDepth 8000 in
theorem tb_10 : (Cond.initialized "OneSunbeam$Law") ∈ gt := sg_1 10 rfl rfl
set_option maxRecDepth 8000 in
theorem tb_11 : (Cond.initialized "OneSunbeamModel") ∈ gt := sg_1 11 rfl rfl
set_option maxRecDepth 8000 in
theorem tb_12 : (Cond.initialized "java/util/Arrays") ∈ gt := sg_1 12 rfl rfl
set_option maxRecDepth 8000 in
theorem tb_13 : (Cond.initialized "java/lang/System") ∈ gt := sg_1 13 rfl rfl
set_option maxRecDepth 8000 in
theorem tb_14 : (Cond.initialized "java/lang/String") ∈ gt := sg_1 14 rfl rfl
set_option maxRecDepth 8000 in
theorem tb_15 : (Cond.initialized "java/lang/StringLatin1") ∈ gt := sg_1 15 rfl rfl
set_option maxRecDepth 8000 in
theorem tb_16 : (Cond.initialized "jdk/internal/util/Preconditions") ∈ gt := sg_1 16 rfl rfl
set_option maxRecDepth 8000 in
theorem tb_18 : (Cond.initialized "java/lang/Math") ∈ gt := sg_1 18 rfl rfl
set_option maxRecDepth 8000 in
theorem tb_19 : (Cond.initialized "java/lang/Integer") ∈ gt := sg_1 19 rfl rfl
set_option maxRecDepth 8000 in
theorem tb_20 : (Cond.classLink "OneSunbeamLaw" (7 : Nat) "OneSunbeam") ∈ gt := sg_1 20 rfl rfl
set_option maxRecDepth 8000 in
theorem tb_21 : (Cond.instantiable "OneSunbeam" (16 : Nat)) ∈ gt := sg_1 21 rfl rfl
set_option maxRecDepth 8000 in
theorem tb_22 : (Cond.methodLink "OneSunbeamLaw" (9 : Nat) ({ cls := "OneSunbeam", name := "<init>", desc := "()V" } : MethodName)) ∈ gt := sg_1 22 rfl rfl
set_option maxRecDepth 8000 in
theorem tb_23 : (Cond.instanceMethod ({ cls := "OneSunbeam", name := "<init>", desc := "()V" } : MethodName)) ∈ gt := sg_1 23 rfl rfl
set_option maxRecDepth 8000 in
theorem tb_24 : (Cond.code ({ cls := "OneSunbeam", name := "<init>", desc := "()V" } : MethodName) prog_1_method_1_code (1 : Nat) (Option.none : Option FieldType)) ∈ gt := sg_1 24 rfl rfl
set_option maxRecDepth 8000 in
theorem tb_25 : (Cond.methodLink "OneSunbeam" (1 : Nat) ({ cls := "java/lang/Object", name := "<init>", desc := "()V" } : MethodName)) ∈ gt := sg_1 25 rfl rfl
set_option maxRecDepth 8000 in
theorem tb_26 : (Cond.instanceMethod ({ cls := "java/lang/Object", name := "<init>", desc := "()V" } : MethodName)) ∈ gt := sg_1 26 rfl rfl
set_option maxRecDepth 8000 in
theorem tb_27 : (Cond.code ({ cls := "java/lang/Object", name := "<init>", desc := "()V" } : MethodName) object_method_1_code (1 : Nat) (Option.none : Option FieldType)) ∈ gt := sg_1 27 rfl rfl
set_option maxRecDepth 8000 in
theorem tb_28 : (Cond.classLink "OneSunbeam" (7 : Nat) "OneSunbeam$Town") ∈ gt := sg_1 28 rfl rfl
set_option maxRecDepth 8000 in
theorem tb_29 : (Cond.instantiable "OneSunbeam$Town" (18 : Nat)) ∈ gt := sg_1 29 rfl rfl
set_option maxRecDepth 8000 in
theorem tb_31 : (Cond.instanceMethod ({ cls := "OneSunbeam$Town", name := "<init>", desc := "()V" } : MethodName)) ∈ gt := sg_1 31 rfl rfl
set_option maxRecDepth 8000 in
theorem tb_32 : (Cond.code ({ cls := "OneSunbeam$Town", name := "<init>", desc := "()V" } : MethodName) prog_10_method_1_code (1 : Nat) (Option.none : Option FieldType)) ∈ gt := sg_1 32 rfl rfl
set_option maxRecDepth 8000 in
theorem tb_33 : (Cond.methodLink "OneSunbeam$Town" (3 : Nat) ({ cls := "java/lang/Object", name := "<init>", desc := "()V" } : MethodName)) ∈ gt := sg_1 33 rfl rfl
set_option maxRecDepth 8000 in
theorem tb_34 : (Cond.fieldLink "OneSunbeam$Town" (36 : Nat) "OneSunbeam$Town" "columns" "I") ∈ gt := sg_1 34 rfl rfl
set_option maxRecDepth 8000 in
theorem tb_35 : (Cond.fieldLink "OneSunbeam$Opening" (40 : Nat) "OneSunbeam$Town" "columns" "I") ∈ gt := sg_1 35 rfl rfl
set_option maxRecDepth 8000 in
theorem tb_36 : (Cond.fieldLink "OneSunbeam" (351 : Nat) "OneSunbeam$Town" "columns" "I") ∈ gt := sg_1 36 rfl rfl
set_option maxRecDepth 8000 in
theorem tb_37 : (Cond.fieldLink "OneSunbeam$Town" (40 : Nat) "OneSunbeam$Town" "rows" "I") ∈ gt := sg_1 37 rfl rfl
set_option maxRecDepth 8000 in
theorem tb_38 : (Cond.fieldLink "OneSunbeam$Opening" (37 : Nat) "OneSunbeam$Town" "rows" "I") ∈ gt := sg_1 38 rfl rfl
set_option maxRecDepth 8000 in
theorem tb_39 : (Cond.fieldLink "OneSunbeam" (354 : Nat) "OneSunbeam$Town" "rows" "I") ∈ gt := sg_1 39 rfl rfl
set_option maxRecDepth 8000 in
theorem tb_40 : (Cond.fieldLink "OneSunbeam$Beams" (27 : Nat) "OneSunbeam$Town" "gapX" "I") ∈ gt := sg_1 40 rfl rfl
set_option maxRecDepth 8000 in
theorem tb_41 : (Cond.fieldLink "OneSunbeam$Town" (43 : Nat) "OneSunbeam$Town" "gapX" "I") ∈ gt := sg_1 41 rfl rfl
set_option maxRecDepth 8000 in
theorem tb_42 : (Cond.fieldLink "OneSunbeam$Opening" (25 : Nat) "OneSunbeam$Town" "gapX" "I") ∈ gt := sg_1 42 rfl rfl
set_option maxRecDepth 8000 in
theorem tb_43 : (Cond.fieldLink "OneSunbeam$Theft" (51 : Nat) "OneSunbeam$Town" "gapX" "I") ∈ gt := sg_1 43 rfl rfl
set_option maxRecDepth 8000 in
theorem tb_44 : (Cond.fieldLink "OneSunbeam$Beams" (33 : Nat) "OneSunbeam$Town" "gapY" "I") ∈ gt := sg_1 44 rfl rfl
set_option maxRecDepth 8000 in
theorem tb_45 : (Cond.fieldLink "OneSunbeam$Town" (46 : Nat) "OneSunbeam$Town" "gapY" "I") ∈ gt := sg_1 45 rfl rfl
set_option maxRecDepth 8000 in
theorem tb_46 : (Cond.fieldLink "OneSunbeam$Opening" (30 : Nat) "OneSunbeam$Town" "gapY" "I") ∈ gt := sg_1 46 rfl rfl
set_option maxRecDepth 8000 in
theorem tb_47 : (Cond.fieldLink "OneSunbeam$Theft" (54 : Nat) "OneSunbeam$Town" "gapY" "I") ∈ gt := sg_1 47 rfl rfl
set_option maxRecDepth 8000 in
theorem tb_48 : (Cond.fieldLink "OneSunbeam$Town" (49 : Nat) "OneSunbeam$Town" "air" "I") ∈ gt := sg_1 48 rfl rfl
set_option maxRecDepth 8000 in
theorem tb_49 : (Cond.fieldLink "OneSunbeam$Theft" (70 : Nat) "OneSunbeam$Town" "air" "I") ∈ gt := sg_1 49 rfl rfl
set_option maxRecDepth 8000 in
theorem tb_50 : (Cond.fieldLink "OneSunbeam$Beams" (130 : Nat) "OneSunbeam$Town" "air" "I") ∈ gt := sg_1 50 rfl rfl
set_option maxRecDepth 8000 in
theorem tb_51 : (Cond.fieldLink "OneSunbeam$Town" (52 : Nat) "OneSunbeam$Town" "month" "I") ∈ gt := sg_1 51 rfl rfl
set_option maxRecDepth 8000 in
theorem tb_52 : (Cond.fieldLink "OneSunbeam$Keepers" (111 : Nat) "OneSunbeam$Town" "month" "I") ∈ gt := sg_1 52 rfl rfl
set_option maxRecDepth 8000 in
theorem tb_53 : (Cond.fieldLink "OneSunbeam" (166 : Nat) "OneSunbeam$Town" "month" "I") ∈ gt := sg_1 53 rfl rfl
set_option maxRecDepth 8000 in
theorem tb_54 : (Cond.fieldLink "OneSunbeam$Town" (55 : Nat) "OneSunbeam$Town" "day" "I") ∈ gt := sg_1 54 rfl rfl
set_option maxRecDepth 8000 in
theorem tb_55 : (Cond.fieldLink "OneSunbeam$Keepers" (114 : Nat) "OneSunbeam$Town" "day" "I") ∈ gt := sg_1 55 rfl rfl
set_option maxRecDepth 8000 in
theorem tb_56 : (Cond.fieldLink "OneSunbeam" (190 : Nat) "OneSunbeam$Town" "day" "I") ∈ gt := sg_1 56 rfl rfl
set_option maxRecDepth 8000 in
theorem tb_57 : (Cond.fieldLink "OneSunbeam$Town" (58 : Nat) "OneSunbeam$Town" "fall" "I") ∈ gt := sg_1 57 rfl rfl
set_option maxRecDepth 8000 in
theorem tb_58 : (Cond.fieldLink "OneSunbeam" (169 : Nat) "OneSunbeam$Town" "fall" "I") ∈ gt := sg_1 58 rfl rfl
set_option maxRecDepth 8000 in
theorem tb_59 : (Cond.fieldLink "OneSunbeam$Town" (61 : Nat) "OneSunbeam$Town" "mirrorCount" "I") ∈ gt := sg_1 59 rfl rfl
set_option maxRecDepth 8000 in
theorem tb_60 : (Cond.fieldLink "OneSunbeam$Aiming" (73 : Nat) "OneSunbeam$Town" "mirrorCount" "I") ∈ gt := sg_1 60 rfl rfl
set_option maxRecDepth 8000 in
theorem tb_61 : (Cond.fieldLink "OneSunbeam$Mending" (75 : Nat) "OneSunbeam$Town" "mirrorCount" "I") ∈ gt := sg_1 61 rfl rfl
set_option maxRecDepth 8000 in
theorem tb_62 : (Cond.fieldLink "OneSunbeam" (133 : Nat) "OneSunbeam$Town" "mirrorCount" "I") ∈ gt := sg_1 62 rfl rfl
set_option maxRecDepth 8000 in
theorem tb_63 : (Cond.fieldLink "OneSunbeam$Town" (64 : Nat) "OneSunbeam$Town" "yardCount" "I") ∈ gt := sg_1 63 rfl rfl
set_option maxRecDepth 8000 in
theorem tb_64 : (Cond.fieldLink "OneSunbeam" (152 : Nat) "OneSunbeam$Town" "yardCount" "I") ∈ gt := sg_1 64 rfl rfl
set_option maxRecDepth 8000 in
theorem tb_65 : (Cond.fieldLink "OneSunbeam$Aiming" (89 : Nat) "OneSunbeam$Town" "yardCount" "I") ∈ gt := sg_1 65 rfl rfl
set_option maxRecDepth 8000 in
theorem tb_66 : (Cond.fieldLink "OneSunbeam$Town" (9 : Nat) "OneSunbeam$Town" "rock" "[I") ∈ gt := sg_1 66 rfl rfl
set_option maxRecDepth 8000 in
theorem tb_67 : (Cond.fieldLink "OneSunbeam" (210 : Nat) "OneSunbeam$Town" "rock" "[I") ∈ gt := sg_1 67 rfl rfl
set_option maxRecDepth 8000 in
theorem tb_68 : (Cond.fieldLink "OneSunbeam$Town" (15 : Nat) "OneSunbeam$Town" "eyes" "[I") ∈ gt := sg_1 68 rfl rfl
set_option maxRecDepth 8000 in
theorem tb_69 : (Cond.fieldLink "OneSunbeam" (163 : Nat) "OneSunbeam$Town" "eyes" "[I") ∈ gt := sg_1 69 rfl rfl
set_option maxRecDepth 8000 in
theorem tb_70 : (Cond.fieldLink "OneSunbeam$Beams" (80 : Nat) "OneSunbeam$Town" "eyes" "[I") ∈ gt := sg_1 70 rfl rfl
set_option maxRecDepth 8000 in
theorem tb_71 : (Cond.fieldLink "OneSunbeam$Town" (18 : Nat) "OneSunbeam$Town" "mirrorAt" "[I") ∈ gt := sg_1 71 rfl rfl
set_option maxRecDepth 8000 in
theorem tb_72 : (Cond.fieldLink "OneSunbeam$Theft" (82 : Nat) "OneSunbeam$Town" "mirrorAt" "[I") ∈ gt := sg_1 72 rfl rfl
set_option maxRecDepth 8000 in
theorem tb_73 : (Cond.fieldLink "OneSunbeam" (126 : Nat) "OneSunbeam$Town" "mirrorAt" "[I") ∈ gt := sg_1 73 rfl rfl
set_option maxRecDepth 8000 in
theorem tb_74 : (Cond.fieldLink "OneSunbeam$Beams" (116 : Nat) "OneSunbeam$Town" "mirrorAt" "[I") ∈ gt := sg_1 74 rfl rfl
set_option maxRecDepth 8000 in
theorem tb_75 : (Cond.fieldLink "OneSunbeam$Town" (21 : Nat) "OneSunbeam$Town" "yardAt" "[I") ∈ gt := sg_1 75 rfl rfl
set_option maxRecDepth 8000 in
theorem tb_76 : (Cond.fieldLink "OneSunbeam$Beams" (110 : Nat) "OneSunbeam$Town" "yardAt" "[I") ∈ gt := sg_1 76 rfl rfl
set_option maxRecDepth 8000 in
theorem tb_77 : (Cond.fieldLink "OneSunbeam" (213 : Nat) "OneSunbeam$Town" "yardAt" "[I") ∈ gt := sg_1 77 rfl rfl
set_option maxRecDepth 8000 in
theorem tb_78 : (Cond.fieldLink "OneSunbeam$Town" (24 : Nat) "OneSunbeam$Town" "sunWay" "[I") ∈ gt := sg_1 78 rfl rfl
set_option maxRecDepth 8000 in
theorem tb_79 : (Cond.fieldLink "OneSunbeam" (116 : Nat) "OneSunbeam$Town" "sunWay" "[I") ∈ gt := sg_1 79 rfl rfl
set_option maxRecDepth 8000 in
theorem tb_80 : (Cond.fieldLink "OneSunbeam$Town" (27 : Nat) "OneSunbeam$Town" "sunStrength" "[I") ∈ gt := sg_1 80 rfl rfl
set_option maxRecDepth 8000 in
theorem tb_81 : (Cond.fieldLink "OneSunbeam" (119 : Nat) "OneSunbeam$Town" "sunStrength" "[I") ∈ gt := sg_1 81 rfl rfl
set_option maxRecDepth 8000 in
theorem tb_82 : (Cond.fieldLink "OneSunbeam$Town" (30 : Nat) "OneSunbeam$Town" "mirrorTable" "[I") ∈ gt := sg_1 82 rfl rfl
set_option maxRecDepth 8000 in
theorem tb_83 : (Cond.fieldLink "OneSunbeam$Town" (33 : Nat) "OneSunbeam$Town" "yardTable" "[I") ∈ gt := sg_1 83 rfl rfl
set_option maxRecDepth 8000 in
theorem tb_121 : (Cond.arrayClass FieldType.int) ∈ gt := sg_1 121 rfl rfl
set_option maxRecDepth 8000 in
theorem tb_123 : (Cond.classLink "OneSunbeam" (23 : Nat) "OneSunbeam$Beams") ∈ gt := sg_1 123 rfl rfl
set_option maxRecDepth 8000 in
theorem tb_124 : (Cond.instantiable "OneSunbeam$Beams" (13 : Nat)) ∈ gt := sg_1 124 rfl rfl
set_option maxRecDepth 8000 in
theorem tb_126 : (Cond.instanceMethod ({ cls := "OneSunbeam$Beams", name := "<init>", desc := "()V" } : MethodName)) ∈ gt := sg_1 126 rfl rfl
set_option maxRecDepth 8000 in
theorem tb_127 : (Cond.code ({ cls := "OneSunbeam$Beams", name := "<init>", desc := "()V" } : MethodName) prog_3_method_1_code (1 : Nat) (Option.none : Option FieldType)) ∈ gt := sg_1 127 rfl rfl
set_option maxRecDepth 8000 in
theorem tb_128 : (Cond.methodLink "OneSunbeam$Beams" (3 : Nat) ({ cls := "java/lang/Object", name := "<init>", desc := "()V" } : MethodName)) ∈ gt := sg_1 128 rfl rfl
set_option maxRecDepth 8000 in
theorem tb_129 : (Cond.fieldLink "OneSunbeam$Beams" (9 : Nat) "OneSunbeam$Beams" "got" "[I") ∈ gt := sg_1 129 rfl rfl
set_option maxRecDepth 8000 in
theorem tb_130 : (Cond.fieldLink "OneSunbeam$Mending" (57 : Nat) "OneSunbeam$Beams" "got" "[I") ∈ gt := sg_1 130 rfl rfl
set_option maxRecDepth 8000 in
theorem tb_131 : (Cond.fieldLink "OneSunbeam$Aiming" (56 : Nat) "OneSunbeam$Beams" "got" "[I") ∈ gt := sg_1 131 rfl rfl
set_option maxRecDepth 8000 in
theorem tb_132 : (Cond.fieldLink "OneSunbeam$Keepers" (94 : Nat) "OneSunbeam$Beams" "got" "[I") ∈ gt := sg_1 132 rfl rfl
set_option maxRecDepth 8000 in
theorem tb_133 : (Cond.fieldLink "OneSunbeam" (223 : Nat) "OneSunbeam$Beams" "got" "[I") ∈ gt := sg_1 133 rfl rfl
set_option maxRecDepth 8000 in
theorem tb_134 : (Cond.fieldLink "OneSunbeam$Beams" (15 : Nat) "OneSunbeam$Beams" "passed" "[I") ∈ gt := sg_1 134 rfl rfl
set_option maxRecDepth 8000 in
theorem tb_135 : (Cond.fieldLink "OneSunbeam" (251 : Nat) "OneSunbeam$Beams" "passed" "[I") ∈ gt := sg_1 135 rfl rfl
set_option maxRecDepth 8000 in
theorem tb_136 : (Cond.fieldLink "OneSunbeam$Beams" (83 : Nat) "OneSunbeam$Beams" "lost" "I") ∈ gt := sg_1 136 rfl rfl
set_option maxRecDepth 8000 in
theorem tb_137 : (Cond.fieldLink "OneSunbeam" (232 : Nat) "OneSunbeam$Beams" "lost" "I") ∈ gt := sg_1 137 rfl rfl
set_option maxRecDepth 8000 in
theorem tb_138 : (Cond.fieldLink "OneSunbeam$Beams" (86 : Nat) "OneSunbeam$Beams" "spilt" "I") ∈ gt := sg_1 138 rfl rfl
set_option maxRecDepth 8000 in
theorem tb_139 : (Cond.fieldLink "OneSunbeam" (235 : Nat) "OneSunbeam$Beams" "spilt" "I") ∈ gt := sg_1 139 rfl rfl
set_option maxRecDepth 8000 in
theorem tb_140 : (Cond.fieldLink "OneSunbeam$Beams" (89 : Nat) "OneSunbeam$Beams" "cellCount" "I") ∈ gt := sg_1 140 rfl rfl
set_option maxRecDepth 8000 in
theorem tb_141 : (Cond.fieldLink "OneSunbeam" (238 : Nat) "OneSunbeam$Beams" "cellCount" "I") ∈ gt := sg_1 141 rfl rfl
set_option maxRecDepth 8000 in
theorem tb_142 : (Cond.fieldLink "OneSunbeam$Beams" (92 : Nat) "OneSunbeam$Beams" "beamCount" "I") ∈ gt := sg_1 142 rfl rfl
set_option maxRecDepth 8000 in
theorem tb_143 : (Cond.fieldLink "OneSunbeam" (241 : Nat) "OneSunbeam$Beams" "beamCount" "I") ∈ gt := sg_1 143 rfl rfl
set_option maxRecDepth 8000 in
theorem tb_144 : (Cond.fieldLink "OneSunbeam$Beams" (95 : Nat) "OneSunbeam$Beams" "isCut" "Z") ∈ gt := sg_1 144 rfl rfl
set_option maxRecDepth 8000 in
theorem tb_145 : (Cond.fieldLink "OneSunbeam" (341 : Nat) "OneSunbeam$Beams" "isCut" "Z") ∈ gt := sg_1 145 rfl rfl
set_option maxRecDepth 8000 in
theorem tb_146 : (Cond.fieldLink "OneSunbeam$Beams" (73 : Nat) "OneSunbeam$Beams" "touched" "I") ∈ gt := sg_1 146 rfl rfl
set_option maxRecDepth 8000 in
theorem tb_147 : (Cond.fieldLink "OneSunbeam$Beams" (59 : Nat) "OneSunbeam$Beams" "isWatching" "Z") ∈ gt := sg_1 147 rfl rfl
set_option maxRecDepth 8000 in
theorem tb_148 : (Cond.fieldLink "OneSunbeam$Beams" (18 : Nat) "OneSunbeam$Beams" "waitingFrom" "[I") ∈ gt := sg_1 148 rfl rfl
set_option maxRecDepth 8000 in
theorem tb_149 : (Cond.fieldLink "OneSunbeam$Beams" (21 : Nat) "OneSunbeam$Beams" "waitingLight" "[I") ∈ gt := sg_1 149 rfl rfl
set_option maxRecDepth 8000 in
theorem tb_150 : (Cond.fieldLink "OneSunbeam$Beams" (50 : Nat) "OneSunbeam$Beams" "waitingHead" "I") ∈ gt := sg_1 150 rfl rfl
set_option maxRecDepth 8000 in
theorem tb_151 : (Cond.fieldLink "OneSunbeam$Beams" (47 : Nat) "OneSunbeam$Beams" "waitingCount" "I") ∈ gt := sg_1 151 rfl rfl
set_option maxRecDepth 8000 in
theorem tb_179 : (Cond.classLink "OneSunbeam" (30 : Nat) "OneSunbeam$Keepers") ∈ gt := sg_1 179 rfl rfl
set_option maxRecDepth 8000 in
theorem tb_180 : (Cond.instantiable "OneSunbeam$Keepers" (4 : Nat)) ∈ gt := sg_1 180 rfl rfl
set_option maxRecDepth 8000 in
theorem tb_181 : (Cond.methodLink "OneSunbeam" (32 : Nat) ({ cls := "OneSunbeam$Keepers", name := "<init>", desc := "(LOneSunbeam$Beams;)V" } : MethodName)) ∈ gt := sg_1 181 rfl rfl
set_option maxRecDepth 8000 in
theorem tb_182 : (Cond.instanceMethod ({ cls := "OneSunbeam$Keepers", name := "<init>", desc := "(LOneSunbeam$Beams;)V" } : MethodName)) ∈ gt := sg_1 182 rfl rfl
set_option maxRecDepth 8000 in
theorem tb_183 : (Cond.code ({ cls := "OneSunbeam$Keepers", name := "<init>", desc := "(LOneSunbeam$Beams;)V" } : MethodName) prog_4_method_1_code (2 : Nat) (Option.none : Option FieldType)) ∈ gt := sg_1 183 rfl rfl
set_option maxRecDepth 8000 in
theorem tb_184 : (Cond.methodLink "OneSunbeam$Keepers" (3 : Nat) ({ cls := "java/lang/Object", name := "<init>", desc := "()V" } : MethodName)) ∈ gt := sg_1 184 rfl rfl
set_option maxRecDepth 8000 in
theorem tb_185 : (Cond.fieldLink "OneSunbeam$Keepers" (19 : Nat) "OneSunbeam$Keepers" "beams" "LOneSunbeam$Beams;") ∈ gt := sg_1 185 rfl rfl
set_option maxRecDepth 8000 in
theorem tb_186 : (Cond.fieldLink "OneSunbeam$Keepers" (9 : Nat) "OneSunbeam$Keepers" "gotToday" "[I") ∈ gt := sg_1 186 rfl rfl
set_option maxRecDepth 8000 in
theorem tb_187 : (Cond.fieldLink "OneSunbeam$Keepers" (15 : Nat) "OneSunbeam$Keepers" "stack" "[J") ∈ gt := sg_1 187 rfl rfl
set_option maxRecDepth 8000 in
theorem tb_188 : (Cond.fieldLink "OneSunbeam$Keepers" (29 : Nat) "OneSunbeam$Keepers" "hour" "I") ∈ gt := sg_1 188 rfl rfl
set_option maxRecDepth 8000 in
theorem tb_198 : (Cond.arrayClass FieldType.long) ∈ gt := sg_1 198 rfl rfl
set_option maxRecDepth 8000 in
theorem tb_199 : (Cond.classLink "OneSunbeam" (39 : Nat) "OneSunbeam$Aiming") ∈ gt := sg_1 199 rfl rfl
set_option maxRecDepth 8000 in
theorem tb_200 : (Cond.instantiable "OneSunbeam$Aiming" (7 : Nat)) ∈ gt := sg_1 200 rfl rfl
set_option maxRecDepth 8000 in
theorem tb_201 : (Cond.methodLink "OneSunbeam" (41 : Nat) ({ cls := "OneSunbeam$Aiming", name := "<init>", desc := "(LOneSunbeam$Beams;)V" } : MethodName)) ∈ gt := sg_1 201 rfl rfl
set_option maxRecDepth 8000 in
theorem tb_202 : (Cond.instanceMethod ({ cls := "OneSunbeam$Aiming", name := "<init>", desc := "(LOneSunbeam$Beams;)V" } : MethodName)) ∈ gt := sg_1 202 rfl rfl
set_option maxRecDepth 8000 in
theorem tb_203 : (Cond.code ({ cls := "OneSunbeam$Aiming", name := "<init>", desc := "(LOneSunbeam$Beams;)V" } : MethodName) prog_2_method_1_code (2 : Nat) (Option.none : Option FieldType)) ∈ gt := sg_1 203 rfl rfl
set_option maxRecDepth 8000 in
theorem tb_204 : (Cond.methodLink "OneSunbeam$Aiming" (3 : Nat) ({ cls := "java/lang/Object", name := "<init>", desc := "()V" } : MethodName)) ∈ gt := sg_1 204 rfl rfl
set_option maxRecDepth 8000 in
theorem tb_205 : (Cond.fieldLink "OneSunbeam$Aiming" (24 : Nat) "OneSunbeam$Aiming" "beams" "LOneSunbeam$Beams;") ∈ gt := sg_1 205 rfl rfl
set_option maxRecDepth 8000 in
theorem tb_206 : (Cond.fieldLink "OneSunbeam$Aiming" (9 : Nat) "OneSunbeam$Aiming" "members" "[I") ∈ gt := sg_1 206 rfl rfl
set_option maxRecDepth 8000 in
theorem tb_207 : (Cond.fieldLink "OneSunbeam$Aiming" (15 : Nat) "OneSunbeam$Aiming" "before" "[I") ∈ gt := sg_1 207 rfl rfl
set_option maxRecDepth 8000 in
theorem tb_208 : (Cond.fieldLink "OneSunbeam$Aiming" (18 : Nat) "OneSunbeam$Aiming" "tried" "[I") ∈ gt := sg_1 208 rfl rfl
set_option maxRecDepth 8000 in
theorem tb_209 : (Cond.fieldLink "OneSunbeam$Aiming" (21 : Nat) "OneSunbeam$Aiming" "best" "[I") ∈ gt := sg_1 209 rfl rfl
set_option maxRecDepth 8000 in
theorem tb_210 : (Cond.fieldLink "OneSunbeam$Aiming" (28 : Nat) "OneSunbeam$Aiming" "size" "I") ∈ gt := sg_1 210 rfl rfl
set_option maxRecDepth 8000 in
theorem tb_211 : (Cond.fieldLink "OneSunbeam$Aiming" (36 : Nat) "OneSunbeam$Aiming" "most" "I") ∈ gt := sg_1 211 rfl rfl
set_option maxRecDepth 8000 in
theorem tb_227 : (Cond.classLink "OneSunbeam" (46 : Nat) "OneSunbeam$Mending") ∈ gt := sg_1 227 rfl rfl
set_option maxRecDepth 8000 in
theorem tb_228 : (Cond.instantiable "OneSunbeam$Mending" (9 : Nat)) ∈ gt := sg_1 228 rfl rfl
set_option maxRecDepth 8000 in
theorem tb_229 : (Cond.methodLink "OneSunbeam" (48 : Nat) ({ cls := "OneSunbeam$Mending", name := "<init>", desc := "(LOneSunbeam$Town;LOneSunbeam$Beams;)V" } : MethodName)) ∈ gt := sg_1 229 rfl rfl
set_option maxRecDepth 8000 in
theorem tb_230 : (Cond.instanceMethod ({ cls := "OneSunbeam$Mending", name := "<init>", desc := "(LOneSunbeam$Town;LOneSunbeam$Beams;)V" } : MethodName)) ∈ gt := sg_1 230 rfl rfl
set_option maxRecDepth 8000 in
theorem tb_231 : (Cond.code ({ cls := "OneSunbeam$Mending", name := "<init>", desc := "(LOneSunbeam$Town;LOneSunbeam$Beams;)V" } : MethodName) prog_7_method_1_code (3 : Nat) (Option.none : Option FieldType)) ∈ gt := sg_1 231 rfl rfl
set_option maxRecDepth 8000 in
theorem tb_232 : (Cond.methodLink "OneSunbeam$Mending" (3 : Nat) ({ cls := "java/lang/Object", name := "<init>", desc := "()V" } : MethodName)) ∈ gt := sg_1 232 rfl rfl
set_option maxRecDepth 8000 in
theorem tb_233 : (Cond.fieldLink "OneSunbeam$Mending" (11 : Nat) "OneSunbeam$Mending" "answers" "[I") ∈ gt := sg_1 233 rfl rfl
set_option maxRecDepth 8000 in
theorem tb_234 : (Cond.fieldLink "OneSunbeam" (293 : Nat) "OneSunbeam$Mending" "answers" "[I") ∈ gt := sg_1 234 rfl rfl
set_option maxRecDepth 8000 in
theorem tb_235 : (Cond.fieldLink "OneSunbeam$Mending" (21 : Nat) "OneSunbeam$Mending" "town" "LOneSunbeam$Town;") ∈ gt := sg_1 235 rfl rfl
set_option maxRecDepth 8000 in
theorem tb_236 : (Cond.fieldLink "OneSunbeam$Mending" (25 : Nat) "OneSunbeam$Mending" "beams" "LOneSunbeam$Beams;") ∈ gt := sg_1 236 rfl rfl
set_option maxRecDepth 8000 in
theorem tb_237 : (Cond.fieldLink "OneSunbeam$Mending" (15 : Nat) "OneSunbeam$Mending" "needed" "[I") ∈ gt := sg_1 237 rfl rfl
set_option maxRecDepth 8000 in
theorem tb_238 : (Cond.fieldLink "OneSunbeam$Mending" (18 : Nat) "OneSunbeam$Mending" "touchedWith" "[I") ∈ gt := sg_1 238 rfl rfl
set_option maxRecDepth 8000 in
theorem tb_239 : (Cond.fieldLink "OneSunbeam$Mending" (29 : Nat) "OneSunbeam$Mending" "hour" "I") ∈ gt := sg_1 239 rfl rfl
set_option maxRecDepth 8000 in
theorem tb_240 : (Cond.fieldLink "OneSunbeam$Mending" (33 : Nat) "OneSunbeam$Mending" "breaking" "I") ∈ gt := sg_2 0 rfl rfl
set_option maxRecDepth 8000 in
theorem tb_241 : (Cond.fieldLink "OneSunbeam$Mending" (42 : Nat) "OneSunbeam$Mending" "brokenBefore" "I") ∈ gt := sg_2 1 rfl rfl
set_option maxRecDepth 8000 in
theorem tb_242 : (Cond.fieldLink "OneSunbeam$Mending" (72 : Nat) "OneSunbeam$Mending" "touchedNow" "I") ∈ gt := sg_2 2 rfl rfl
set_option maxRecDepth 8000 in
theorem tb_262 : (Cond.classLink "OneSunbeam" (55 : Nat) "OneSunbeam$Opening") ∈ gt := sg_2 22 rfl rfl
set_option maxRecDepth 8000 in
theorem tb_263 : (Cond.instantiable "OneSunbeam$Opening" (4 : Nat)) ∈ gt := sg_2 23 rfl rfl
set_option maxRecDepth 8000 in
theorem tb_264 : (Cond.methodLink "OneSunbeam" (57 : Nat) ({ cls := "OneSunbeam$Opening", name := "<init>", desc := "(LOneSunbeam$Beams;)V" } : MethodName)) ∈ gt := sg_2 24 rfl rfl
set_option maxRecDepth 8000 in
theorem tb_265 : (Cond.instanceMethod ({ cls := "OneSunbeam$Opening", name := "<init>", desc := "(LOneSunbeam$Beams;)V" } : MethodName)) ∈ gt := sg_2 25 rfl rfl
set_option maxRecDepth 8000 in
theorem tb_266 : (Cond.code ({ cls := "OneSunbeam$Opening", name := "<init>", desc := "(LOneSunbeam$Beams;)V" } : MethodName) prog_8_method_1_code (2 : Nat) (Option.none : Option FieldType)) ∈ gt := sg_2 26 rfl rfl
set_option maxRecDepth 8000 in
theorem tb_267 : (Cond.methodLink "OneSunbeam$Opening" (3 : Nat) ({ cls := "java/lang/Object", name := "<init>", desc := "()V" } : MethodName)) ∈ gt := sg_2 27 rfl rfl
set_option maxRecDepth 8000 in
theorem tb_268 : (Cond.fieldLink "OneSunbeam$Opening" (15 : Nat) "OneSunbeam$Opening" "cell" "I") ∈ gt := sg_2 28 rfl rfl
set_option maxRecDepth 8000 in
theorem tb_269 : (Cond.fieldLink "OneSunbeam" (298 : Nat) "OneSunbeam$Opening" "cell" "I") ∈ gt := sg_2 29 rfl rfl
set_option maxRecDepth 8000 in
theorem tb_270 : (Cond.fieldLink "OneSunbeam$Opening" (19 : Nat) "OneSunbeam$Opening" "way" "I") ∈ gt := sg_2 30 rfl rfl
set_option maxRecDepth 8000 in
theorem tb_271 : (Cond.fieldLink "OneSunbeam" (301 : Nat) "OneSunbeam$Opening" "way" "I") ∈ gt := sg_2 31 rfl rfl
set_option maxRecDepth 8000 in
theorem tb_272 : (Cond.fieldLink "OneSunbeam$Opening" (22 : Nat) "OneSunbeam$Opening" "most" "I") ∈ gt := sg_2 32 rfl rfl
set_option maxRecDepth 8000 in
theorem tb_273 : (Cond.fieldLink "OneSunbeam" (304 : Nat) "OneSunbeam$Opening" "most" "I") ∈ gt := sg_2 33 rfl rfl
set_option maxRecDepth 8000 in
theorem tb_274 : (Cond.fieldLink "OneSunbeam$Opening" (9 : Nat) "OneSunbeam$Opening" "beams" "LOneSunbeam$Beams;") ∈ gt := sg_2 34 rfl rfl
set_option maxRecDepth 8000 in
theorem tb_284 : (Cond.classLink "OneSunbeam" (62 : Nat) "OneSunbeam$Theft") ∈ gt := sg_2 44 rfl rfl
set_option maxRecDepth 8000 in
theorem tb_285 : (Cond.instantiable "OneSunbeam$Theft" (6 : Nat)) ∈ gt := sg_2 45 rfl rfl
set_option maxRecDepth 8000 in
theorem tb_287 : (Cond.instanceMethod ({ cls := "OneSunbeam$Theft", name := "<init>", desc := "()V" } : MethodName)) ∈ gt := sg_2 47 rfl rfl
set_option maxRecDepth 8000 in
theorem tb_288 : (Cond.code ({ cls := "OneSunbeam$Theft", name := "<init>", desc := "()V" } : MethodName) prog_9_method_1_code (1 : Nat) (Option.none : Option FieldType)) ∈ gt := sg_2 48 rfl rfl
set_option maxRecDepth 8000 in
theorem tb_289 : (Cond.methodLink "OneSunbeam$Theft" (3 : Nat) ({ cls := "java/lang/Object", name := "<init>", desc := "()V" } : MethodName)) ∈ gt := sg_2 49 rfl rfl
set_option maxRecDepth 8000 in
theorem tb_290 : (Cond.fieldLink "OneSunbeam$Theft" (18 : Nat) "OneSunbeam$Theft" "mirror" "I") ∈ gt := sg_2 50 rfl rfl
set_option maxRecDepth 8000 in
theorem tb_291 : (Cond.fieldLink "OneSunbeam" (308 : Nat) "OneSunbeam$Theft" "mirror" "I") ∈ gt := sg_2 51 rfl rfl
set_option maxRecDepth 8000 in
theorem tb_292 : (Cond.fieldLink "OneSunbeam$Theft" (22 : Nat) "OneSunbeam$Theft" "missing" "I") ∈ gt := sg_2 52 rfl rfl
set_option maxRecDepth 8000 in
theorem tb_293 : (Cond.fieldLink "OneSunbeam" (311 : Nat) "OneSunbeam$Theft" "missing" "I") ∈ gt := sg_2 53 rfl rfl
set_option maxRecDepth 8000 in
theorem tb_294 : (Cond.fieldLink "OneSunbeam$Theft" (25 : Nat) "OneSunbeam$Theft" "explains" "I") ∈ gt := sg_2 54 rfl rfl
set_option maxRecDepth 8000 in
theorem tb_295 : (Cond.fieldLink "OneSunbeam" (314 : Nat) "OneSunbeam$Theft" "explains" "I") ∈ gt := sg_2 55 rfl rfl
set_option maxRecDepth 8000 in
theorem tb_296 : (Cond.fieldLink "OneSunbeam$Theft" (9 : Nat) "OneSunbeam$Theft" "order" "[I") ∈ gt := sg_2 56 rfl rfl
set_option maxRecDepth 8000 in
theorem tb_297 : (Cond.fieldLink "OneSunbeam$Theft" (15 : Nat) "OneSunbeam$Theft" "comes" "[I") ∈ gt := sg_2 57 rfl rfl
set_option maxRecDepth 8000 in
theorem tb_298 : (Cond.fieldLink "OneSunbeam$Theft" (32 : Nat) "OneSunbeam$Theft" "metCount" "I") ∈ gt := sg_2 58 rfl rfl
set_option maxRecDepth 8000 in
theorem tb_312 : (Cond.classLink "OneSunbeam" (69 : Nat) "OneSunbeam$LawReader") ∈ gt := sg_2 72 rfl rfl
set_option maxRecDepth 8000 in
theorem tb_313 : (Cond.instantiable "OneSunbeam$LawReader" (14 : Nat)) ∈ gt := sg_2 73 rfl rfl
set_option maxRecDepth 8000 in
theorem tb_315 : (Cond.instanceMethod ({ cls := "OneSunbeam$LawReader", name := "<init>", desc := "()V" } : MethodName)) ∈ gt := sg_2 75 rfl rfl
set_option maxRecDepth 8000 in
theorem tb_316 : (Cond.code ({ cls := "OneSunbeam$LawReader", name := "<init>", desc := "()V" } : MethodName) prog_6_method_1_code (1 : Nat) (Option.none : Option FieldType)) ∈ gt := sg_2 76 rfl rfl
set_option maxRecDepth 8000 in
theorem tb_317 : (Cond.methodLink "OneSunbeam$LawReader" (3 : Nat) ({ cls := "java/lang/Object", name := "<init>", desc := "()V" } : MethodName)) ∈ gt := sg_2 77 rfl rfl
set_option maxRecDepth 8000 in
theorem tb_318 : (Cond.fieldLink "OneSunbeam$LawReader" (9 : Nat) "OneSunbeam$LawReader" "text" "[B") ∈ gt := sg_2 78 rfl rfl
set_option maxRecDepth 8000 in
theorem tb_319 : (Cond.fieldLink "OneSunbeam$LawReader" (15 : Nat) "OneSunbeam$LawReader" "open" "[I") ∈ gt := sg_2 79 rfl rfl
set_option maxRecDepth 8000 in
theorem tb_320 : (Cond.fieldLink "OneSunbeam$LawReader" (32 : Nat) "OneSunbeam$LawReader" "openCount" "I") ∈ gt := sg_2 80 rfl rfl
set_option maxRecDepth 8000 in
theorem tb_321 : (Cond.fieldLink "OneSunbeam$LawReader" (25 : Nat) "OneSunbeam$LawReader" "length" "I") ∈ gt := sg_2 81 rfl rfl
set_option maxRecDepth 8000 in
theorem tb_322 : (Cond.fieldLink "OneSunbeam$LawReader" (29 : Nat) "OneSunbeam$LawReader" "place" "I") ∈ gt := sg_2 82 rfl rfl
set_option maxRecDepth 8000 in
theorem tb_323 : (Cond.fieldLink "OneSunbeam$LawReader" (83 : Nat) "OneSunbeam$LawReader" "token" "I") ∈ gt := sg_2 83 rfl rfl
set_option maxRecDepth 8000 in
theorem tb_324 : (Cond.fieldLink "OneSunbeam$LawReader" (65 : Nat) "OneSunbeam$LawReader" "tokenLength" "I") ∈ gt := sg_2 84 rfl rfl
set_option maxRecDepth 8000 in
theorem tb_325 : (Cond.fieldLink "OneSunbeam$LawReader" (47 : Nat) "OneSunbeam$LawReader" "awaited" "I") ∈ gt := sg_2 85 rfl rfl
set_option maxRecDepth 8000 in
theorem tb_326 : (Cond.fieldLink "OneSunbeam$LawReader" (96 : Nat) "OneSunbeam$LawReader" "part" "I") ∈ gt := sg_2 86 rfl rfl
set_option maxRecDepth 8000 in
theorem tb_327 : (Cond.fieldLink "OneSunbeam$LawReader" (35 : Nat) "OneSunbeam$LawReader" "depth" "I") ∈ gt := sg_2 87 rfl rfl
set_option maxRecDepth 8000 in
theorem tb_328 : (Cond.fieldLink "OneSunbeam$LawReader" (38 : Nat) "OneSunbeam$LawReader" "brackets" "I") ∈ gt := sg_2 88 rfl rfl
set_option maxRecDepth 8000 in
theorem tb_329 : (Cond.fieldLink "OneSunbeam$LawReader" (41 : Nat) "OneSunbeam$LawReader" "valueCount" "I") ∈ gt := sg_2 89 rfl rfl
set_option maxRecDepth 8000 in
theorem tb_330 : (Cond.fieldLink "OneSunbeam$LawReader" (44 : Nat) "OneSunbeam$LawReader" "fault" "I") ∈ gt := sg_2 90 rfl rfl
set_option maxRecDepth 8000 in
theorem tb_331 : (Cond.fieldLink "OneSunbeam$LawReader" (50 : Nat) "OneSunbeam$LawReader" "draft" "LOneSunbeam$Law;") ∈ gt := sg_2 91 rfl rfl
set_option maxRecDepth 8000 in
theorem tb_361 : (Cond.arrayClass FieldType.byte) ∈ gt := sg_2 121 rfl rfl
set_option maxRecDepth 8000 in
theorem tb_362 : (Cond.classLink "OneSunbeam" (76 : Nat) "OneSunbeam$Law") ∈ gt := sg_2 122 rfl rfl
set_option maxRecDepth 8000 in
theorem tb_364 : (Cond.instantiable "OneSunbeam$Law" (7 : Nat)) ∈ gt := sg_2 124 rfl rfl
set_option maxRecDepth 8000 in
theorem tb_366 : (Cond.instanceMethod ({ cls := "OneSunbeam$Law", name := "<init>", desc := "()V" } : MethodName)) ∈ gt := sg_2 126 rfl rfl
set_option maxRecDepth 8000 in
theorem tb_367 : (Cond.code ({ cls := "OneSunbeam$Law", name := "<init>", desc := "()V" } : MethodName) prog_5_method_1_code (1 : Nat) (Option.none : Option FieldType)) ∈ gt := sg_2 127 rfl rfl
set_option maxRecDepth 8000 in
theorem tb_368 : (Cond.methodLink "OneSunbeam$Law" (3 : Nat) ({ cls := "java/lang/Object", name := "<init>", desc := "()V" } : MethodName)) ∈ gt := sg_2 128 rfl rfl
set_option maxRecDepth 8000 in
theorem tb_369 : (Cond.fieldLink "OneSunbeam$Law" (9 : Nat) "OneSunbeam$Law" "code" "[I") ∈ gt := sg_2 129 rfl rfl
set_option maxRecDepth 8000 in
theorem tb_370 : (Cond.fieldLink "OneSunbeam$Keepers" (100 : Nat) "OneSunbeam$Law" "code" "[I") ∈ gt := sg_2 130 rfl rfl
set_option maxRecDepth 8000 in
theorem tb_371 : (Cond.fieldLink "OneSunbeam$Law" (15 : Nat) "OneSunbeam$Law" "mirror" "[I") ∈ gt := sg_2 131 rfl rfl
set_option maxRecDepth 8000 in
theorem tb_372 : (Cond.fieldLink "OneSunbeam$Keepers" (68 : Nat) "OneSunbeam$Law" "mirror" "[I") ∈ gt := sg_2 132 rfl rfl
set_option maxRecDepth 8000 in
theorem tb_373 : (Cond.fieldLink "OneSunbeam$Law" (18 : Nat) "OneSunbeam$Law" "sumFrom" "[I") ∈ gt := sg_2 133 rfl rfl
set_option maxRecDepth 8000 in
theorem tb_374 : (Cond.fieldLink "OneSunbeam$Keepers" (78 : Nat) "OneSunbeam$Law" "sumFrom" "[I") ∈ gt := sg_2 134 rfl rfl
set_option maxRecDepth 8000 in
theorem tb_375 : (Cond.fieldLink "OneSunbeam$Law" (21 : Nat) "OneSunbeam$Law" "testFrom" "[I") ∈ gt := sg_2 135 rfl rfl
set_option maxRecDepth 8000 in
theorem tb_376 : (Cond.fieldLink "OneSunbeam$Keepers" (81 : Nat) "OneSunbeam$Law" "testFrom" "[I") ∈ gt := sg_2 136 rfl rfl
set_option maxRecDepth 8000 in
theorem tb_377 : (Cond.fieldLink "OneSunbeam$Law" (24 : Nat) "OneSunbeam$Law" "testTo" "[I") ∈ gt := sg_2 137 rfl rfl
set_option maxRecDepth 8000 in
theorem tb_378 : (Cond.fieldLink "OneSunbeam$Keepers" (97 : Nat) "OneSunbeam$Law" "testTo" "[I") ∈ gt := sg_2 138 rfl rfl
set_option maxRecDepth 8000 in
theorem tb_379 : (Cond.fieldLink "OneSunbeam$Law" (27 : Nat) "OneSunbeam$Law" "clauseCount" "I") ∈ gt := sg_2 139 rfl rfl
set_option maxRecDepth 8000 in
theorem tb_380 : (Cond.fieldLink "OneSunbeam$Keepers" (63 : Nat) "OneSunbeam$Law" "clauseCount" "I") ∈ gt := sg_2 140 rfl rfl
set_option maxRecDepth 8000 in
theorem tb_381 : (Cond.fieldLink "OneSunbeam$LawReader" (90 : Nat) "OneSunbeam$Law" "clauseCount" "I") ∈ gt := sg_2 141 rfl rfl
set_option maxRecDepth 8000 in
theorem tb_382 : (Cond.fieldLink "OneSunbeam$Law" (31 : Nat) "OneSunbeam$Law" "length" "I") ∈ gt := sg_2 142 rfl rfl
set_option maxRecDepth 8000 in
theorem tb_398 : (Cond.fieldLink "OneSunbeam" (10 : Nat) "OneSunbeam" "town" "LOneSunbeam$Town;") ∈ gt := sg_2 158 rfl rfl
set_option maxRecDepth 8000 in
theorem tb_399 : (Cond.fieldLink "OneSunbeam" (16 : Nat) "OneSunbeam" "trial" "LOneSunbeam$Town;") ∈ gt := sg_2 159 rfl rfl
set_option maxRecDepth 8000 in
theorem tb_400 : (Cond.fieldLink "OneSunbeam" (19 : Nat) "OneSunbeam" "images" "[LOneSunbeam$Town;") ∈ gt := sg_2 160 rfl rfl
set_option maxRecDepth 8000 in
theorem tb_401 : (Cond.fieldLink "OneSunbeam" (26 : Nat) "OneSunbeam" "beams" "LOneSunbeam$Beams;") ∈ gt := sg_2 161 rfl rfl
set_option maxRecDepth 8000 in
theorem tb_402 : (Cond.fieldLink "OneSunbeam" (35 : Nat) "OneSunbeam" "keepers" "LOneSunbeam$Keepers;") ∈ gt := sg_2 162 rfl rfl
set_option maxRecDepth 8000 in
theorem tb_403 : (Cond.fieldLink "OneSunbeam" (42 : Nat) "OneSunbeam" "aiming" "LOneSunbeam$Aiming;") ∈ gt := sg_2 163 rfl rfl
set_option maxRecDepth 8000 in
theorem tb_404 : (Cond.fieldLink "OneSunbeam" (51 : Nat) "OneSunbeam" "mending" "LOneSunbeam$Mending;") ∈ gt := sg_2 164 rfl rfl
set_option maxRecDepth 8000 in
theorem tb_405 : (Cond.fieldLink "OneSunbeam" (58 : Nat) "OneSunbeam" "opening" "LOneSunbeam$Opening;") ∈ gt := sg_2 165 rfl rfl
set_option maxRecDepth 8000 in
theorem tb_406 : (Cond.fieldLink "OneSunbeam" (65 : Nat) "OneSunbeam" "theft" "LOneSunbeam$Theft;") ∈ gt := sg_2 166 rfl rfl
set_option maxRecDepth 8000 in
theorem tb_407 : (Cond.fieldLink "OneSunbeam" (72 : Nat) "OneSunbeam" "reader" "LOneSunbeam$LawReader;") ∈ gt := sg_2 167 rfl rfl
set_option maxRecDepth 8000 in
theorem tb_408 : (Cond.fieldLink "OneSunbeam" (78 : Nat) "OneSunbeam" "laws" "[LOneSunbeam$Law;") ∈ gt := sg_2 168 rfl rfl
set_option maxRecDepth 8000 in
theorem tb_409 : (Cond.fieldLink "OneSunbeam" (82 : Nat) "OneSunbeam" "tape" "[B") ∈ gt := sg_2 169 rfl rfl
set_option maxRecDepth 8000 in
theorem tb_410 : (Cond.fieldLink "OneSunbeam" (86 : Nat) "OneSunbeam" "gotNow" "[I") ∈ gt := sg_2 170 rfl rfl
set_option maxRecDepth 8000 in
theorem tb_411 : (Cond.fieldLink "OneSunbeam" (91 : Nat) "OneSunbeam" "draft" "LOneSunbeam$Law;") ∈ gt := sg_2 171 rfl rfl
set_option maxRecDepth 8000 in
theorem tb_412 : (Cond.fieldLink "OneSunbeam" (179 : Nat) "OneSunbeam" "lawCount" "I") ∈ gt := sg_2 172 rfl rfl
set_option maxRecDepth 8000 in
theorem tb_413 : (Cond.fieldLink "OneSunbeam" (172 : Nat) "OneSunbeam" "tapeLength" "I") ∈ gt := sg_2 173 rfl rfl
set_option maxRecDepth 8000 in
theorem tb_447 : (Cond.methodLink "OneSunbeamLaw" (13 : Nat) ({ cls := "OneSunbeam", name := "town", desc := "(IIIII)Z" } : MethodName)) ∈ gt := sg_2 207 rfl rfl
set_option maxRecDepth 8000 in
theorem tb_448 : (Cond.instanceMethod ({ cls := "OneSunbeam", name := "town", desc := "(IIIII)Z" } : MethodName)) ∈ gt := sg_2 208 rfl rfl
set_option maxRecDepth 8000 in
theorem tb_449 : (Cond.selects "OneSunbeam" ({ cls := "OneSunbeam", name := "town", desc := "(IIIII)Z" } : MethodName) ({ cls := "OneSunbeam", name := "town", desc := "(IIIII)Z" } : MethodName)) ∈ gt := sg_2 209 rfl rfl
set_option maxRecDepth 8000 in
theorem tb_450 : (Cond.code ({ cls := "OneSunbeam", name := "town", desc := "(IIIII)Z" } : MethodName) prog_1_method_2_code (6 : Nat) (Option.some FieldType.boolean)) ∈ gt := sg_2 210 rfl rfl
set_option maxRecDepth 8000 in
theorem tb_451 : (Cond.methodLink "OneSunbeam" (95 : Nat) ({ cls := "OneSunbeam", name := "isWithin", desc := "(III)Z" } : MethodName)) ∈ gt := sg_2 211 rfl rfl
set_option maxRecDepth 8000 in
theorem tb_452 : (Cond.static ({ cls := "OneSunbeam", name := "isWithin", desc := "(III)Z" } : MethodName)) ∈ gt := sg_2 212 rfl rfl
set_option maxRecDepth 8000 in
theorem tb_453 : (Cond.code ({ cls := "OneSunbeam", name := "isWithin", desc := "(III)Z" } : MethodName) prog_1_method_35_code (3 : Nat) (Option.some FieldType.boolean)) ∈ gt := sg_2 213 rfl rfl
set_option maxRecDepth 8000 in
theorem tb_454 : (Cond.methodLink "OneSunbeam" (99 : Nat) ({ cls := "OneSunbeam$Town", name := "begin", desc := "(IIIII)V" } : MethodName)) ∈ gt := sg_2 214 rfl rfl
set_option maxRecDepth 8000 in
theorem tb_455 : (Cond.instanceMethod ({ cls := "OneSunbeam$Town", name := "begin", desc := "(IIIII)V" } : MethodName)) ∈ gt := sg_2 215 rfl rfl
set_option maxRecDepth 8000 in
theorem tb_456 : (Cond.selects "OneSunbeam$Town" ({ cls := "OneSunbeam$Town", name := "begin", desc := "(IIIII)V" } : MethodName) ({ cls := "OneSunbeam$Town", name := "begin", desc := "(IIIII)V" } : MethodName)) ∈ gt := sg_2 216 rfl rfl
set_option maxRecDepth 8000 in
theorem tb_457 : (Cond.code ({ cls := "OneSunbeam$Town", name := "begin", desc := "(IIIII)V" } : MethodName) prog_10_method_2_code (6 : Nat) (Option.none : Option FieldType)) ∈ gt := sg_2 217 rfl rfl
set_option maxRecDepth 8000 in
theorem tb_458 : (Cond.methodLink "OneSunbeam$Town" (67 : Nat) ({ cls := "java/util/Arrays", name := "fill", desc := "([II)V" } : MethodName)) ∈ gt := sg_2 218 rfl rfl
set_option maxRecDepth 8000 in
theorem tb_459 : (Cond.static ({ cls := "java/util/Arrays", name := "fill", desc := "([II)V" } : MethodName)) ∈ gt := sg_2 219 rfl rfl
set_option maxRecDepth 8000 in
theorem tb_460 : (Cond.code ({ cls := "java/util/Arrays", name := "fill", desc := "([II)V" } : MethodName) prog_19_method_103_code (4 : Nat) (Option.none : Option FieldType)) ∈ gt := sg_2 220 rfl rfl
set_option maxRecDepth 8000 in
theorem tb_461 : (Cond.methodLink "OneSunbeamLaw" (18 : Nat) ({ cls := "OneSunbeam", name := "rock", desc := "(IIIIZ)I" } : MethodName)) ∈ gt := sg_2 221 rfl rfl
set_option maxRecDepth 8000 in
theorem tb_462 : (Cond.instanceMethod ({ cls := "OneSunbeam", name := "rock", desc := "(IIIIZ)I" } : MethodName)) ∈ gt := sg_2 222 rfl rfl
set_option maxRecDepth 8000 in
theorem tb_463 : (Cond.selects "OneSunbeam" ({ cls := "OneSunbeam", name := "rock", desc := "(IIIIZ)I" } : MethodName) ({ cls := "OneSunbeam", name := "rock", desc := "(IIIIZ)I" } : MethodName)) ∈ gt := sg_2 223 rfl rfl
set_option maxRecDepth 8000 in
theorem tb_464 : (Cond.code ({ cls := "OneSunbeam", name := "rock", desc := "(IIIIZ)I" } : MethodName) prog_1_method_3_code (6 : Nat) (Option.some FieldType.int)) ∈ gt := sg_2 224 rfl rfl
set_option maxRecDepth 8000 in
theorem tb_465 : (Cond.methodLink "OneSunbeam" (103 : Nat) ({ cls := "OneSunbeam$Town", name := "hasRectangle", desc := "(IIII)Z" } : MethodName)) ∈ gt := sg_2 225 rfl rfl
set_option maxRecDepth 8000 in
theorem tb_466 : (Cond.instanceMethod ({ cls := "OneSunbeam$Town", name := "hasRectangle", desc := "(IIII)Z" } : MethodName)) ∈ gt := sg_2 226 rfl rfl
set_option maxRecDepth 8000 in
theorem tb_467 : (Cond.selects "OneSunbeam$Town" ({ cls := "OneSunbeam$Town", name := "hasRectangle", desc := "(IIII)Z" } : MethodName) ({ cls := "OneSunbeam$Town", name := "hasRectangle", desc := "(IIII)Z" } : MethodName)) ∈ gt := sg_2 227 rfl rfl
set_option maxRecDepth 8000 in
theorem tb_468 : (Cond.code ({ cls := "OneSunbeam$Town", name := "hasRectangle", desc := "(IIII)Z" } : MethodName) prog_10_method_7_code (5 : Nat) (Option.some FieldType.boolean)) ∈ gt := sg_2 228 rfl rfl
set_option maxRecDepth 8000 in
theorem tb_469 : (Cond.methodLink "OneSunbeam$Town" (79 : Nat) ({ cls := "OneSunbeam$Town", name := "hasCell", desc := "(II)Z" } : MethodName)) ∈ gt := sg_2 229 rfl rfl
set_option maxRecDepth 8000 in
theorem tb_470 : (Cond.instanceMethod ({ cls := "OneSunbeam$Town", name := "hasCell", desc := "(II)Z" } : MethodName)) ∈ gt := sg_2 230 rfl rfl
set_option maxRecDepth 8000 in
theorem tb_471 : (Cond.selects "OneSunbeam$Town" ({ cls := "OneSunbeam$Town", name := "hasCell", desc := "(II)Z" } : MethodName) ({ cls := "OneSunbeam$Town", name := "hasCell", desc := "(II)Z" } : MethodName)) ∈ gt := sg_2 231 rfl rfl
set_option maxRecDepth 8000 in
theorem tb_472 : (Cond.code ({ cls := "OneSunbeam$Town", name := "hasCell", desc := "(II)Z" } : MethodName) prog_10_method_5_code (3 : Nat) (Option.some FieldType.boolean)) ∈ gt := sg_2 232 rfl rfl
set_option maxRecDepth 8000 in
theorem tb_473 : (Cond.methodLink "OneSunbeam" (107 : Nat) ({ cls := "OneSunbeam$Town", name := "setRock", desc := "(IIIII)I" } : MethodName)) ∈ gt := sg_2 233 rfl rfl
set_option maxRecDepth 8000 in
theorem tb_474 : (Cond.instanceMethod ({ cls := "OneSunbeam$Town", name := "setRock", desc := "(IIIII)I" } : MethodName)) ∈ gt := sg_2 234 rfl rfl
set_option maxRecDepth 8000 in
theorem tb_475 : (Cond.selects "OneSunbeam$Town" ({ cls := "OneSunbeam$Town", name := "setRock", desc := "(IIIII)I" } : MethodName) ({ cls := "OneSunbeam$Town", name := "setRock", desc := "(IIIII)I" } : MethodName)) ∈ gt := sg_2 235 rfl rfl
set_option maxRecDepth 8000 in
theorem tb_476 : (Cond.code ({ cls := "OneSunbeam$Town", name := "setRock", desc := "(IIIII)I" } : MethodName) prog_10_method_18_code (9 : Nat) (Option.some FieldType.int)) ∈ gt := sg_2 236 rfl rfl
set_option maxRecDepth 8000 in
theorem tb_478 : (Cond.static ({ cls := "OneSunbeam", name := "cellOf", desc := "(II)I" } : MethodName)) ∈ gt := sg_2 238 rfl rfl
set_option maxRecDepth 8000 in
theorem tb_479 : (Cond.code ({ cls := "OneSunbeam", name := "cellOf", desc := "(II)I" } : MethodName) prog_1_method_36_code (2 : Nat) (Option.some FieldType.int)) ∈ gt := sg_2 239 rfl rfl
set_option maxRecDepth 8000 in
theorem tb_480 : (Cond.methodLink "OneSunbeamLaw" (23 : Nat) ({ cls := "OneSunbeam", name := "sun", desc := "(IIII)Z" } : MethodName)) ∈ gt := sg_3 0 rfl rfl
set_option maxRecDepth 8000 in
theorem tb_481 : (Cond.instanceMethod ({ cls := "OneSunbeam", name := "sun", desc := "(IIII)Z" } : MethodName)) ∈ gt := sg_3 1 rfl rfl
set_option maxRecDepth 8000 in
theorem tb_482 : (Cond.selects "OneSunbeam" ({ cls := "OneSunbeam", name := "sun", desc := "(IIII)Z" } : MethodName) ({ cls := "OneSunbeam", name := "sun", desc := "(IIII)Z" } : MethodName)) ∈ gt := sg_3 2 rfl rfl
set_option maxRecDepth 8000 in
theorem tb_483 : (Cond.code ({ cls := "OneSunbeam", name := "sun", desc := "(IIII)Z" } : MethodName) prog_1_method_4_code (6 : Nat) (Option.some FieldType.boolean)) ∈ gt := sg_3 3 rfl rfl
set_option maxRecDepth 8000 in
theorem tb_484 : (Cond.methodLink "OneSunbeam" (111 : Nat) ({ cls := "OneSunbeam$Town", name := "isBegun", desc := "()Z" } : MethodName)) ∈ gt := sg_3 4 rfl rfl
set_option maxRecDepth 8000 in
theorem tb_485 : (Cond.instanceMethod ({ cls := "OneSunbeam$Town", name := "isBegun", desc := "()Z" } : MethodName)) ∈ gt := sg_3 5 rfl rfl
set_option maxRecDepth 8000 in
theorem tb_486 : (Cond.selects "OneSunbeam$Town" ({ cls := "OneSunbeam$Town", name := "isBegun", desc := "()Z" } : MethodName) ({ cls := "OneSunbeam$Town", name := "isBegun", desc := "()Z" } : MethodName)) ∈ gt := sg_3 6 rfl rfl
set_option maxRecDepth 8000 in
theorem tb_487 : (Cond.code ({ cls := "OneSunbeam$Town", name := "isBegun", desc := "()Z" } : MethodName) prog_10_method_4_code (1 : Nat) (Option.some FieldType.boolean)) ∈ gt := sg_3 7 rfl rfl
set_option maxRecDepth 8000 in
theorem tb_488 : (Cond.constant "OneSunbeam" (115 : Nat) (99999 : Int32)) ∈ gt := sg_3 8 rfl rfl
set_option maxRecDepth 8000 in
theorem tb_489 : (Cond.methodLink "OneSunbeamLaw" (28 : Nat) ({ cls := "OneSunbeam", name := "mirror", desc := "(IIIIIII)I" } : MethodName)) ∈ gt := sg_3 9 rfl rfl
set_option maxRecDepth 8000 in
theorem tb_490 : (Cond.instanceMethod ({ cls := "OneSunbeam", name := "mirror", desc := "(IIIIIII)I" } : MethodName)) ∈ gt := sg_3 10 rfl rfl
set_option maxRecDepth 8000 in
theorem tb_491 : (Cond.selects "OneSunbeam" ({ cls := "OneSunbeam", name := "mirror", desc := "(IIIIIII)I" } : MethodName) ({ cls := "OneSunbeam", name := "mirror", desc := "(IIIIIII)I" } : MethodName)) ∈ gt := sg_3 11 rfl rfl
set_option maxRecDepth 8000 in
theorem tb_492 : (Cond.code ({ cls := "OneSunbeam", name := "mirror", desc := "(IIIIIII)I" } : MethodName) prog_1_method_5_code (9 : Nat) (Option.some FieldType.int)) ∈ gt := sg_3 12 rfl rfl
set_option maxRecDepth 8000 in
theorem tb_493 : (Cond.methodLink "OneSunbeam" (122 : Nat) ({ cls := "OneSunbeam$Town", name := "hasCell", desc := "(II)Z" } : MethodName)) ∈ gt := sg_3 13 rfl rfl
set_option maxRecDepth 8000 in
theorem tb_494 : (Cond.methodLink "OneSunbeam" (129 : Nat) ({ cls := "OneSunbeam", name := "cellOf", desc := "(II)I" } : MethodName)) ∈ gt := sg_3 14 rfl rfl
set_option maxRecDepth 8000 in
theorem tb_495 : (Cond.methodLink "OneSunbeam" (137 : Nat) ({ cls := "OneSunbeam$Town", name := "addMirror", desc := "(II)I" } : MethodName)) ∈ gt := sg_3 15 rfl rfl
set_option maxRecDepth 8000 in
theorem tb_496 : (Cond.instanceMethod ({ cls := "OneSunbeam$Town", name := "addMirror", desc := "(II)I" } : MethodName)) ∈ gt := sg_3 16 rfl rfl
set_option maxRecDepth 8000 in
theorem tb_497 : (Cond.selects "OneSunbeam$Town" ({ cls := "OneSunbeam$Town", name := "addMirror", desc := "(II)I" } : MethodName) ({ cls := "OneSunbeam$Town", name := "addMirror", desc := "(II)I" } : MethodName)) ∈ gt := sg_3 17 rfl rfl
set_option maxRecDepth 8000 in
theorem tb_498 : (Cond.code ({ cls := "OneSunbeam$Town", name := "addMirror", desc := "(II)I" } : MethodName) prog_10_method_19_code (4 : Nat) (Option.some FieldType.int)) ∈ gt := sg_3 18 rfl rfl
set_option maxRecDepth 8000 in
theorem tb_499 : (Cond.methodLink "OneSunbeam$Town" (87 : Nat) ({ cls := "OneSunbeam$Town", name := "setMirror", desc := "(III)V" } : MethodName)) ∈ gt := sg_3 19 rfl rfl
set_option maxRecDepth 8000 in
theorem tb_500 : (Cond.instanceMethod ({ cls := "OneSunbeam$Town", name := "setMirror", desc := "(III)V" } : MethodName)) ∈ gt := sg_3 20 rfl rfl
set_option maxRecDepth 8000 in
theorem tb_501 : (Cond.selects "OneSunbeam$Town" ({ cls := "OneSunbeam$Town", name := "setMirror", desc := "(III)V" } : MethodName) ({ cls := "OneSunbeam$Town", name := "setMirror", desc := "(III)V" } : MethodName)) ∈ gt := sg_3 21 rfl rfl
set_option maxRecDepth 8000 in
theorem tb_502 : (Cond.code ({ cls := "OneSunbeam$Town", name := "setMirror", desc := "(III)V" } : MethodName) prog_10_method_15_code (4 : Nat) (Option.none : Option FieldType)) ∈ gt := sg_3 22 rfl rfl
set_option maxRecDepth 8000 in
theorem tb_503 : (Cond.methodLink "OneSunbeam" (140 : Nat) ({ cls := "OneSunbeam$Town", name := "setMirror", desc := "(III)V" } : MethodName)) ∈ gt := sg_3 23 rfl rfl
set_option maxRecDepth 8000 in
theorem tb_504 : (Cond.methodLink "OneSunbeamLaw" (33 : Nat) ({ cls := "OneSunbeam", name := "sets", desc := "(III)I" } : MethodName)) ∈ gt := sg_3 24 rfl rfl
set_option maxRecDepth 8000 in
theorem tb_505 : (Cond.instanceMethod ({ cls := "OneSunbeam", name := "sets", desc := "(III)I" } : MethodName)) ∈ gt := sg_3 25 rfl rfl
set_option maxRecDepth 8000 in
theorem tb_506 : (Cond.selects "OneSunbeam" ({ cls := "OneSunbeam", name := "sets", desc := "(III)I" } : MethodName) ({ cls := "OneSunbeam", name := "sets", desc := "(III)I" } : MethodName)) ∈ gt := sg_3 26 rfl rfl
set_option maxRecDepth 8000 in
theorem tb_507 : (Cond.code ({ cls := "OneSunbeam", name := "sets", desc := "(III)I" } : MethodName) prog_1_method_6_code (4 : Nat) (Option.some FieldType.int)) ∈ gt := sg_3 27 rfl rfl
set_option maxRecDepth 8000 in
theorem tb_508 : (Cond.methodLink "OneSunbeam" (144 : Nat) ({ cls := "OneSunbeam$Town", name := "hasMirror", desc := "(I)Z" } : MethodName)) ∈ gt := sg_3 28 rfl rfl
set_option maxRecDepth 8000 in
theorem tb_509 : (Cond.instanceMethod ({ cls := "OneSunbeam$Town", name := "hasMirror", desc := "(I)Z" } : MethodName)) ∈ gt := sg_3 29 rfl rfl
set_option maxRecDepth 8000 in
theorem tb_510 : (Cond.selects "OneSunbeam$Town" ({ cls := "OneSunbeam$Town", name := "hasMirror", desc := "(I)Z" } : MethodName) ({ cls := "OneSunbeam$Town", name := "hasMirror", desc := "(I)Z" } : MethodName)) ∈ gt := sg_3 30 rfl rfl
set_option maxRecDepth 8000 in
theorem tb_511 : (Cond.code ({ cls := "OneSunbeam$Town", name := "hasMirror", desc := "(I)Z" } : MethodName) prog_10_method_8_code (2 : Nat) (Option.some FieldType.boolean)) ∈ gt := sg_3 31 rfl rfl
set_option maxRecDepth 8000 in
theorem tb_512 : (Cond.methodLink "OneSunbeam" (148 : Nat) ({ cls := "OneSunbeam", name := "changeMirror", desc := "(IIIZ)I" } : MethodName)) ∈ gt := sg_3 32 rfl rfl
set_option maxRecDepth 8000 in
theorem tb_514 : (Cond.instanceMethod ({ cls := "OneSunbeam", name := "changeMirror", desc := "(IIIZ)I" } : MethodName)) ∈ gt := sg_3 34 rfl rfl
set_option maxRecDepth 8000 in
theorem tb_515 : (Cond.code ({ cls := "OneSunbeam", name := "changeMirror", desc := "(IIIZ)I" } : MethodName) prog_1_method_38_code (6 : Nat) (Option.some FieldType.int)) ∈ gt := sg_3 35 rfl rfl
set_option maxRecDepth 8000 in
theorem tb_516 : (Cond.methodLink "OneSunbeam" (201 : Nat) ({ cls := "OneSunbeam$Town", name := "ofMirror", desc := "(II)I" } : MethodName)) ∈ gt := sg_3 36 rfl rfl
set_option maxRecDepth 8000 in
theorem tb_517 : (Cond.instanceMethod ({ cls := "OneSunbeam$Town", name := "ofMirror", desc := "(II)I" } : MethodName)) ∈ gt := sg_3 37 rfl rfl
set_option maxRecDepth 8000 in
theorem tb_518 : (Cond.selects "OneSunbeam$Town" ({ cls := "OneSunbeam$Town", name := "ofMirror", desc := "(II)I" } : MethodName) ({ cls := "OneSunbeam$Town", name := "ofMirror", desc := "(II)I" } : MethodName)) ∈ gt := sg_3 38 rfl rfl
set_option maxRecDepth 8000 in
theorem tb_519 : (Cond.code ({ cls := "OneSunbeam$Town", name := "ofMirror", desc := "(II)I" } : MethodName) prog_10_method_14_code (3 : Nat) (Option.some FieldType.int)) ∈ gt := sg_3 39 rfl rfl
set_option maxRecDepth 8000 in
theorem tb_520 : (Cond.methodLink "OneSunbeamLaw" (38 : Nat) ({ cls := "OneSunbeam", name := "yard", desc := "(IIIIII)I" } : MethodName)) ∈ gt := sg_3 40 rfl rfl
set_option maxRecDepth 8000 in
theorem tb_521 : (Cond.instanceMethod ({ cls := "OneSunbeam", name := "yard", desc := "(IIIIII)I" } : MethodName)) ∈ gt := sg_3 41 rfl rfl
set_option maxRecDepth 8000 in
theorem tb_522 : (Cond.selects "OneSunbeam" ({ cls := "OneSunbeam", name := "yard", desc := "(IIIIII)I" } : MethodName) ({ cls := "OneSunbeam", name := "yard", desc := "(IIIIII)I" } : MethodName)) ∈ gt := sg_3 42 rfl rfl
set_option maxRecDepth 8000 in
theorem tb_523 : (Cond.code ({ cls := "OneSunbeam", name := "yard", desc := "(IIIIII)I" } : MethodName) prog_1_method_7_code (8 : Nat) (Option.some FieldType.int)) ∈ gt := sg_3 43 rfl rfl
set_option maxRecDepth 8000 in
theorem tb_524 : (Cond.constant "OneSunbeam" (155 : Nat) (9999999 : Int32)) ∈ gt := sg_3 44 rfl rfl
set_option maxRecDepth 8000 in
theorem tb_525 : (Cond.methodLink "OneSunbeam" (156 : Nat) ({ cls := "OneSunbeam$Town", name := "addYard", desc := "(IIII)I" } : MethodName)) ∈ gt := sg_3 45 rfl rfl
set_option maxRecDepth 8000 in
theorem tb_526 : (Cond.instanceMethod ({ cls := "OneSunbeam$Town", name := "addYard", desc := "(IIII)I" } : MethodName)) ∈ gt := sg_3 46 rfl rfl
set_option maxRecDepth 8000 in
theorem tb_527 : (Cond.selects "OneSunbeam$Town" ({ cls := "OneSunbeam$Town", name := "addYard", desc := "(IIII)I" } : MethodName) ({ cls := "OneSunbeam$Town", name := "addYard", desc := "(IIII)I" } : MethodName)) ∈ gt := sg_3 47 rfl rfl
set_option maxRecDepth 8000 in
theorem tb_528 : (Cond.code ({ cls := "OneSunbeam$Town", name := "addYard", desc := "(IIII)I" } : MethodName) prog_10_method_20_code (8 : Nat) (Option.some FieldType.int)) ∈ gt := sg_3 48 rfl rfl
set_option maxRecDepth 8000 in
theorem tb_529 : (Cond.methodLink "OneSunbeam$Town" (91 : Nat) ({ cls := "OneSunbeam$Town", name := "setYard", desc := "(III)V" } : MethodName)) ∈ gt := sg_3 49 rfl rfl
set_option maxRecDepth 8000 in
theorem tb_530 : (Cond.instanceMethod ({ cls := "OneSunbeam$Town", name := "setYard", desc := "(III)V" } : MethodName)) ∈ gt := sg_3 50 rfl rfl
set_option maxRecDepth 8000 in
theorem tb_531 : (Cond.selects "OneSunbeam$Town" ({ cls := "OneSunbeam$Town", name := "setYard", desc := "(III)V" } : MethodName) ({ cls := "OneSunbeam$Town", name := "setYard", desc := "(III)V" } : MethodName)) ∈ gt := sg_3 51 rfl rfl
set_option maxRecDepth 8000 in
theorem tb_532 : (Cond.code ({ cls := "OneSunbeam$Town", name := "setYard", desc := "(III)V" } : MethodName) prog_10_method_17_code (4 : Nat) (Option.none : Option FieldType)) ∈ gt := sg_3 52 rfl rfl
set_option maxRecDepth 8000 in
theorem tb_533 : (Cond.methodLink "OneSunbeam" (160 : Nat) ({ cls := "OneSunbeam$Town", name := "setYard", desc := "(III)V" } : MethodName)) ∈ gt := sg_3 53 rfl rfl
set_option maxRecDepth 8000 in
theorem tb_534 : (Cond.methodLink "OneSunbeamLaw" (43 : Nat) ({ cls := "OneSunbeam", name := "eyes", desc := "(III)I" } : MethodName)) ∈ gt := sg_3 54 rfl rfl
set_option maxRecDepth 8000 in
theorem tb_535 : (Cond.instanceMethod ({ cls := "OneSunbeam", name := "eyes", desc := "(III)I" } : MethodName)) ∈ gt := sg_3 55 rfl rfl
set_option maxRecDepth 8000 in
theorem tb_536 : (Cond.selects "OneSunbeam" ({ cls := "OneSunbeam", name := "eyes", desc := "(III)I" } : MethodName) ({ cls := "OneSunbeam", name := "eyes", desc := "(III)I" } : MethodName)) ∈ gt := sg_3 56 rfl rfl
set_option maxRecDepth 8000 in
theorem tb_537 : (Cond.code ({ cls := "OneSunbeam", name := "eyes", desc := "(III)I" } : MethodName) prog_1_method_8_code (5 : Nat) (Option.some FieldType.int)) ∈ gt := sg_3 57 rfl rfl
set_option maxRecDepth 8000 in
theorem tb_538 : (Cond.methodLink "OneSunbeamLaw" (47 : Nat) ({ cls := "OneSunbeam", name := "month", desc := "(I)I" } : MethodName)) ∈ gt := sg_3 58 rfl rfl
set_option maxRecDepth 8000 in
theorem tb_539 : (Cond.instanceMethod ({ cls := "OneSunbeam", name := "month", desc := "(I)I" } : MethodName)) ∈ gt := sg_3 59 rfl rfl
set_option maxRecDepth 8000 in
theorem tb_540 : (Cond.selects "OneSunbeam" ({ cls := "OneSunbeam", name := "month", desc := "(I)I" } : MethodName) ({ cls := "OneSunbeam", name := "month", desc := "(I)I" } : MethodName)) ∈ gt := sg_3 60 rfl rfl
set_option maxRecDepth 8000 in
theorem tb_541 : (Cond.code ({ cls := "OneSunbeam", name := "month", desc := "(I)I" } : MethodName) prog_1_method_9_code (3 : Nat) (Option.some FieldType.int)) ∈ gt := sg_3 61 rfl rfl
set_option maxRecDepth 8000 in
theorem tb_542 : (Cond.methodLink "OneSunbeamLaw" (52 : Nat) ({ cls := "OneSunbeam", name := "falls", desc := "(I)I" } : MethodName)) ∈ gt := sg_3 62 rfl rfl
set_option maxRecDepth 8000 in
theorem tb_543 : (Cond.instanceMethod ({ cls := "OneSunbeam", name := "falls", desc := "(I)I" } : MethodName)) ∈ gt := sg_3 63 rfl rfl
set_option maxRecDepth 8000 in
theorem tb_544 : (Cond.selects "OneSunbeam" ({ cls := "OneSunbeam", name := "falls", desc := "(I)I" } : MethodName) ({ cls := "OneSunbeam", name := "falls", desc := "(I)I" } : MethodName)) ∈ gt := sg_3 64 rfl rfl
set_option maxRecDepth 8000 in
theorem tb_545 : (Cond.code ({ cls := "OneSunbeam", name := "falls", desc := "(I)I" } : MethodName) prog_1_method_10_code (3 : Nat) (Option.some FieldType.int)) ∈ gt := sg_3 65 rfl rfl
set_option maxRecDepth 8000 in
theorem tb_546 : (Cond.methodLink "OneSunbeamLaw" (56 : Nat) ({ cls := "OneSunbeam", name := "feed", desc := "(IIIII)I" } : MethodName)) ∈ gt := sg_3 66 rfl rfl
set_option maxRecDepth 8000 in
theorem tb_547 : (Cond.instanceMethod ({ cls := "OneSunbeam", name := "feed", desc := "(IIIII)I" } : MethodName)) ∈ gt := sg_3 67 rfl rfl
set_option maxRecDepth 8000 in
theorem tb_548 : (Cond.selects "OneSunbeam" ({ cls := "OneSunbeam", name := "feed", desc := "(IIIII)I" } : MethodName) ({ cls := "OneSunbeam", name := "feed", desc := "(IIIII)I" } : MethodName)) ∈ gt := sg_3 68 rfl rfl
set_option maxRecDepth 8000 in
theorem tb_549 : (Cond.code ({ cls := "OneSunbeam", name := "feed", desc := "(IIIII)I" } : MethodName) prog_1_method_11_code (6 : Nat) (Option.some FieldType.int)) ∈ gt := sg_3 69 rfl rfl
set_option maxRecDepth 8000 in
theorem tb_550 : (Cond.methodLink "OneSunbeam" (175 : Nat) ({ cls := "OneSunbeam", name := "putOnTape", desc := "(I)V" } : MethodName)) ∈ gt := sg_3 70 rfl rfl
set_option maxRecDepth 8000 in
theorem tb_552 : (Cond.instanceMethod ({ cls := "OneSunbeam", name := "putOnTape", desc := "(I)V" } : MethodName)) ∈ gt := sg_3 72 rfl rfl
set_option maxRecDepth 8000 in
theorem tb_553 : (Cond.code ({ cls := "OneSunbeam", name := "putOnTape", desc := "(I)V" } : MethodName) prog_1_method_39_code (3 : Nat) (Option.none : Option FieldType)) ∈ gt := sg_3 73 rfl rfl
set_option maxRecDepth 8000 in
theorem tb_554 : (Cond.methodLink "OneSunbeamLaw" (61 : Nat) ({ cls := "OneSunbeam", name := "end", desc := "(I)I" } : MethodName)) ∈ gt := sg_3 74 rfl rfl
set_option maxRecDepth 8000 in
theorem tb_555 : (Cond.instanceMethod ({ cls := "OneSunbeam", name := "end", desc := "(I)I" } : MethodName)) ∈ gt := sg_3 75 rfl rfl
set_option maxRecDepth 8000 in
theorem tb_556 : (Cond.selects "OneSunbeam" ({ cls := "OneSunbeam", name := "end", desc := "(I)I" } : MethodName) ({ cls := "OneSunbeam", name := "end", desc := "(I)I" } : MethodName)) ∈ gt := sg_3 76 rfl rfl
set_option maxRecDepth 8000 in
theorem tb_557 : (Cond.code ({ cls := "OneSunbeam", name := "end", desc := "(I)I" } : MethodName) prog_1_method_12_code (2 : Nat) (Option.some FieldType.int)) ∈ gt := sg_3 77 rfl rfl
set_option maxRecDepth 8000 in
theorem tb_558 : (Cond.methodLink "OneSunbeamLaw" (65 : Nat) ({ cls := "OneSunbeam", name := "law", desc := "()I" } : MethodName)) ∈ gt := sg_3 78 rfl rfl
set_option maxRecDepth 8000 in
theorem tb_559 : (Cond.instanceMethod ({ cls := "OneSunbeam", name := "law", desc := "()I" } : MethodName)) ∈ gt := sg_3 79 rfl rfl
set_option maxRecDepth 8000 in
theorem tb_560 : (Cond.selects "OneSunbeam" ({ cls := "OneSunbeam", name := "law", desc := "()I" } : MethodName) ({ cls := "OneSunbeam", name := "law", desc := "()I" } : MethodName)) ∈ gt := sg_3 80 rfl rfl
set_option maxRecDepth 8000 in
theorem tb_561 : (Cond.code ({ cls := "OneSunbeam", name := "law", desc := "()I" } : MethodName) prog_1_method_13_code (2 : Nat) (Option.some FieldType.int)) ∈ gt := sg_3 81 rfl rfl
set_option maxRecDepth 8000 in
theorem tb_562 : (Cond.methodLink "OneSunbeam" (182 : Nat) ({ cls := "OneSunbeam$LawReader", name := "read", desc := "([BILOneSunbeam$Law;)I" } : MethodName)) ∈ gt := sg_3 82 rfl rfl
set_option maxRecDepth 8000 in
theorem tb_563 : (Cond.instanceMethod ({ cls := "OneSunbeam$LawReader", name := "read", desc := "([BILOneSunbeam$Law;)I" } : MethodName)) ∈ gt := sg_3 83 rfl rfl
set_option maxRecDepth 8000 in
theorem tb_564 : (Cond.selects "OneSunbeam$LawReader" ({ cls := "OneSunbeam$LawReader", name := "read", desc := "([BILOneSunbeam$Law;)I" } : MethodName) ({ cls := "OneSunbeam$LawReader", name := "read", desc := "([BILOneSunbeam$Law;)I" } : MethodName)) ∈ gt := sg_3 84 rfl rfl
set_option maxRecDepth 8000 in
theorem tb_565 : (Cond.code ({ cls := "OneSunbeam$LawReader", name := "read", desc := "([BILOneSunbeam$Law;)I" } : MethodName) prog_6_method_2_code (5 : Nat) (Option.some FieldType.int)) ∈ gt := sg_3 85 rfl rfl
set_option maxRecDepth 8000 in
theorem tb_566 : (Cond.methodLink "OneSunbeam$LawReader" (19 : Nat) ({ cls := "java/lang/System", name := "arraycopy", desc := "(Ljava/lang/Object;ILjava/lang/Object;II)V" } : MethodName)) ∈ gt := sg_3 86 rfl rfl
set_option maxRecDepth 8000 in
theorem tb_567 : (Cond.static ({ cls := "java/lang/System", name := "arraycopy", desc := "(Ljava/lang/Object;ILjava/lang/Object;II)V" } : MethodName)) ∈ gt := sg_3 87 rfl rfl
set_option maxRecDepth 8000 in
theorem tb_568 : (Cond.native ({ cls := "java/lang/System", name := "arraycopy", desc := "(Ljava/lang/Object;ILjava/lang/Object;II)V" } : MethodName)) ∈ gt := sg_3 88 rfl rfl
set_option maxRecDepth 8000 in
theorem tb_569 : (Cond.methodLink "OneSunbeam$LawReader" (54 : Nat) ({ cls := "OneSunbeam$Law", name := "clear", desc := "()V" } : MethodName)) ∈ gt := sg_3 89 rfl rfl
set_option maxRecDepth 8000 in
theorem tb_570 : (Cond.instanceMethod ({ cls := "OneSunbeam$Law", name := "clear", desc := "()V" } : MethodName)) ∈ gt := sg_3 90 rfl rfl
set_option maxRecDepth 8000 in
theorem tb_571 : (Cond.selects "OneSunbeam$Law" ({ cls := "OneSunbeam$Law", name := "clear", desc := "()V" } : MethodName) ({ cls := "OneSunbeam$Law", name := "clear", desc := "()V" } : MethodName)) ∈ gt := sg_3 91 rfl rfl
set_option maxRecDepth 8000 in
theorem tb_572 : (Cond.code ({ cls := "OneSunbeam$Law", name := "clear", desc := "()V" } : MethodName) prog_5_method_2_code (1 : Nat) (Option.none : Option FieldType)) ∈ gt := sg_3 92 rfl rfl
set_option maxRecDepth 8000 in
theorem tb_573 : (Cond.methodLink "OneSunbeam$LawReader" (59 : Nat) ({ cls := "OneSunbeam$LawReader", name := "readToken", desc := "()V" } : MethodName)) ∈ gt := sg_3 93 rfl rfl
set_option maxRecDepth 8000 in
theorem tb_575 : (Cond.instanceMethod ({ cls := "OneSunbeam$LawReader", name := "readToken", desc := "()V" } : MethodName)) ∈ gt := sg_3 95 rfl rfl
set_option maxRecDepth 8000 in
theorem tb_576 : (Cond.code ({ cls := "OneSunbeam$LawReader", name := "readToken", desc := "()V" } : MethodName) prog_6_method_17_code (1 : Nat) (Option.none : Option FieldType)) ∈ gt := sg_3 96 rfl rfl
set_option maxRecDepth 8000 in
theorem tb_577 : (Cond.methodLink "OneSunbeam$LawReader" (132 : Nat) ({ cls := "OneSunbeam$LawReader", name := "byteAt", desc := "(I)I" } : MethodName)) ∈ gt := sg_3 97 rfl rfl
set_option maxRecDepth 8000 in
theorem tb_579 : (Cond.instanceMethod ({ cls := "OneSunbeam$LawReader", name := "byteAt", desc := "(I)I" } : MethodName)) ∈ gt := sg_3 99 rfl rfl
set_option maxRecDepth 8000 in
theorem tb_580 : (Cond.code ({ cls := "OneSunbeam$LawReader", name := "byteAt", desc := "(I)I" } : MethodName) prog_6_method_23_code (2 : Nat) (Option.some FieldType.int)) ∈ gt := sg_3 100 rfl rfl
set_option maxRecDepth 8000 in
theorem tb_581 : (Cond.methodLink "OneSunbeam$LawReader" (135 : Nat) ({ cls := "OneSunbeam$LawReader", name := "isDigit", desc := "(I)Z" } : MethodName)) ∈ gt := sg_3 101 rfl rfl
set_option maxRecDepth 8000 in
theorem tb_582 : (Cond.static ({ cls := "OneSunbeam$LawReader", name := "isDigit", desc := "(I)Z" } : MethodName)) ∈ gt := sg_3 102 rfl rfl
set_option maxRecDepth 8000 in
theorem tb_583 : (Cond.code ({ cls := "OneSunbeam$LawReader", name := "isDigit", desc := "(I)Z" } : MethodName) prog_6_method_24_code (1 : Nat) (Option.some FieldType.boolean)) ∈ gt := sg_3 103 rfl rfl
set_option maxRecDepth 8000 in
theorem tb_584 : (Cond.methodLink "OneSunbeam$LawReader" (139 : Nat) ({ cls := "OneSunbeam$LawReader", name := "readNumber", desc := "()V" } : MethodName)) ∈ gt := sg_3 104 rfl rfl
set_option maxRecDepth 8000 in
theorem tb_586 : (Cond.instanceMethod ({ cls := "OneSunbeam$LawReader", name := "readNumber", desc := "()V" } : MethodName)) ∈ gt := sg_3 106 rfl rfl
set_option maxRecDepth 8000 in
theorem tb_587 : (Cond.code ({ cls := "OneSunbeam$LawReader", name := "readNumber", desc := "()V" } : MethodName) prog_6_method_18_code (2 : Nat) (Option.none : Option FieldType)) ∈ gt := sg_3 107 rfl rfl
set_option maxRecDepth 8000 in
theorem tb_588 : (Cond.methodLink "OneSunbeam$LawReader" (142 : Nat) ({ cls := "OneSunbeam$LawReader", name := "isLetter", desc := "(I)Z" } : MethodName)) ∈ gt := sg_3 108 rfl rfl
set_option maxRecDepth 8000 in
theorem tb_589 : (Cond.static ({ cls := "OneSunbeam$LawReader", name := "isLetter", desc := "(I)Z" } : MethodName)) ∈ gt := sg_3 109 rfl rfl
set_option maxRecDepth 8000 in
theorem tb_590 : (Cond.code ({ cls := "OneSunbeam$LawReader", name := "isLetter", desc := "(I)Z" } : MethodName) prog_6_method_25_code (1 : Nat) (Option.some FieldType.boolean)) ∈ gt := sg_3 110 rfl rfl
set_option maxRecDepth 8000 in
theorem tb_591 : (Cond.methodLink "OneSunbeam$LawReader" (145 : Nat) ({ cls := "OneSunbeam$LawReader", name := "yardHere", desc := "()I" } : MethodName)) ∈ gt := sg_3 111 rfl rfl
set_option maxRecDepth 8000 in
theorem tb_593 : (Cond.instanceMethod ({ cls := "OneSunbeam$LawReader", name := "yardHere", desc := "()I" } : MethodName)) ∈ gt := sg_3 113 rfl rfl
set_option maxRecDepth 8000 in
theorem tb_594 : (Cond.code ({ cls := "OneSunbeam$LawReader", name := "yardHere", desc := "()I" } : MethodName) prog_6_method_19_code (2 : Nat) (Option.some FieldType.int)) ∈ gt := sg_3 114 rfl rfl
set_option maxRecDepth 8000 in
theorem tb_595 : (Cond.methodLink "OneSunbeam$LawReader" (149 : Nat) ({ cls := "OneSunbeam$LawReader", name := "wordHere", desc := "()I" } : MethodName)) ∈ gt := sg_3 115 rfl rfl
set_option maxRecDepth 8000 in
theorem tb_597 : (Cond.instanceMethod ({ cls := "OneSunbeam$LawReader", name := "wordHere", desc := "()I" } : MethodName)) ∈ gt := sg_3 117 rfl rfl
set_option maxRecDepth 8000 in
theorem tb_598 : (Cond.code ({ cls := "OneSunbeam$LawReader", name := "wordHere", desc := "()I" } : MethodName) prog_6_method_20_code (1 : Nat) (Option.some FieldType.int)) ∈ gt := sg_3 118 rfl rfl
set_option maxRecDepth 8000 in
theorem tb_600 : (Cond.methodLink "OneSunbeam$LawReader" (157 : Nat) ({ cls := "OneSunbeam$LawReader", name := "isWord", desc := "(Ljava/lang/String;)Z" } : MethodName)) ∈ gt := sg_3 120 rfl rfl
set_option maxRecDepth 8000 in
theorem tb_602 : (Cond.instanceMethod ({ cls := "OneSunbeam$LawReader", name := "isWord", desc := "(Ljava/lang/String;)Z" } : MethodName)) ∈ gt := sg_3 122 rfl rfl
set_option maxRecDepth 8000 in
theorem tb_603 : (Cond.code ({ cls := "OneSunbeam$LawReader", name := "isWord", desc := "(Ljava/lang/String;)Z" } : MethodName) prog_6_method_21_code (3 : Nat) (Option.some FieldType.boolean)) ∈ gt := sg_3 123 rfl rfl
set_option maxRecDepth 8000 in
theorem tb_604 : (Cond.methodLink "OneSunbeam$LawReader" (179 : Nat) ({ cls := "java/lang/String", name := "length", desc := "()I" } : MethodName)) ∈ gt := sg_3 124 rfl rfl
set_option maxRecDepth 8000 in
theorem tb_605 : (Cond.instanceMethod ({ cls := "java/lang/String", name := "length", desc := "()I" } : MethodName)) ∈ gt := sg_3 125 rfl rfl
set_option maxRecDepth 8000 in
theorem tb_606 : (Cond.selects "java/lang/String" ({ cls := "java/lang/String", name := "length", desc := "()I" } : MethodName) ({ cls := "java/lang/String", name := "length", desc := "()I" } : MethodName)) ∈ gt := sg_3 126 rfl rfl
set_option maxRecDepth 8000 in
theorem tb_607 : (Cond.code ({ cls := "java/lang/String", name := "length", desc := "()I" } : MethodName) prog_15_method_54_code (1 : Nat) (Option.some FieldType.int)) ∈ gt := sg_3 127 rfl rfl
set_option maxRecDepth 8000 in
theorem tb_608 : (Cond.methodLink "java/lang/String" (335 : Nat) ({ cls := "java/lang/String", name := "coder", desc := "()B" } : MethodName)) ∈ gt := sg_3 128 rfl rfl
set_option maxRecDepth 8000 in
theorem tb_609 : (Cond.instanceMethod ({ cls := "java/lang/String", name := "coder", desc := "()B" } : MethodName)) ∈ gt := sg_3 129 rfl rfl
set_option maxRecDepth 8000 in
theorem tb_610 : (Cond.selects "java/lang/String" ({ cls := "java/lang/String", name := "coder", desc := "()B" } : MethodName) ({ cls := "java/lang/String", name := "coder", desc := "()B" } : MethodName)) ∈ gt := sg_3 130 rfl rfl
set_option maxRecDepth 8000 in
theorem tb_611 : (Cond.code ({ cls := "java/lang/String", name := "coder", desc := "()B" } : MethodName) prog_15_method_152_code (1 : Nat) (Option.some FieldType.byte)) ∈ gt := sg_3 131 rfl rfl
set_option maxRecDepth 8000 in
theorem tb_612 : (Cond.fieldLink "java/lang/String" (38 : Nat) "java/lang/String" "COMPACT_STRINGS" "Z") ∈ gt := sg_3 132 rfl rfl
set_option maxRecDepth 8000 in
theorem tb_614 : (Cond.methodLink "OneSunbeam$LawReader" (183 : Nat) ({ cls := "java/lang/String", name := "charAt", desc := "(I)C" } : MethodName)) ∈ gt := sg_3 134 rfl rfl
set_option maxRecDepth 8000 in
theorem tb_615 : (Cond.instanceMethod ({ cls := "java/lang/String", name := "charAt", desc := "(I)C" } : MethodName)) ∈ gt := sg_3 135 rfl rfl
set_option maxRecDepth 8000 in
theorem tb_616 : (Cond.selects "java/lang/String" ({ cls := "java/lang/String", name := "charAt", desc := "(I)C" } : MethodName) ({ cls := "java/lang/String", name := "charAt", desc := "(I)C" } : MethodName)) ∈ gt := sg_3 136 rfl rfl
set_option maxRecDepth 8000 in
theorem tb_617 : (Cond.code ({ cls := "java/lang/String", name := "charAt", desc := "(I)C" } : MethodName) prog_15_method_56_code (2 : Nat) (Option.some FieldType.char)) ∈ gt := sg_3 137 rfl rfl
set_option maxRecDepth 8000 in
theorem tb_618 : (Cond.methodLink "java/lang/String" (492 : Nat) ({ cls := "java/lang/String", name := "isLatin1", desc := "()Z" } : MethodName)) ∈ gt := sg_3 138 rfl rfl
set_option maxRecDepth 8000 in
theorem tb_619 : (Cond.instanceMethod ({ cls := "java/lang/String", name := "isLatin1", desc := "()Z" } : MethodName)) ∈ gt := sg_3 139 rfl rfl
set_option maxRecDepth 8000 in
theorem tb_620 : (Cond.selects "java/lang/String" ({ cls := "java/lang/String", name := "isLatin1", desc := "()Z" } : MethodName) ({ cls := "java/lang/String", name := "isLatin1", desc := "()Z" } : MethodName)) ∈ gt := sg_3 140 rfl rfl
set_option maxRecDepth 8000 in
theorem tb_621 : (Cond.code ({ cls := "java/lang/String", name := "isLatin1", desc := "()Z" } : MethodName) prog_15_method_154_code (1 : Nat) (Option.some FieldType.boolean)) ∈ gt := sg_3 141 rfl rfl
set_option maxRecDepth 8000 in
theorem tb_622 : (Cond.methodLink "java/lang/String" (495 : Nat) ({ cls := "java/lang/StringLatin1", name := "charAt", desc := "([BI)C" } : MethodName)) ∈ gt := sg_3 142 rfl rfl
set_option maxRecDepth 8000 in
theorem tb_623 : (Cond.static ({ cls := "java/lang/StringLatin1", name := "charAt", desc := "([BI)C" } : MethodName)) ∈ gt := sg_3 143 rfl rfl
set_option maxRecDepth 8000 in
theorem tb_624 : (Cond.code ({ cls := "java/lang/StringLatin1", name := "charAt", desc := "([BI)C" } : MethodName) prog_16_method_2_code (2 : Nat) (Option.some FieldType.char)) ∈ gt := sg_3 144 rfl rfl
set_option maxRecDepth 8000 in
theorem tb_625 : (Cond.methodLink "java/lang/StringLatin1" (9 : Nat) ({ cls := "java/lang/String", name := "checkIndex", desc := "(II)V" } : MethodName)) ∈ gt := sg_3 145 rfl rfl
set_option maxRecDepth 8000 in
theorem tb_626 : (Cond.static ({ cls := "java/lang/String", name := "checkIndex", desc := "(II)V" } : MethodName)) ∈ gt := sg_3 146 rfl rfl
set_option maxRecDepth 8000 in
theorem tb_627 : (Cond.code ({ cls := "java/lang/String", name := "checkIndex", desc := "(II)V" } : MethodName) prog_15_method_155_code (2 : Nat) (Option.none : Option FieldType)) ∈ gt := sg_3 147 rfl rfl
set_option maxRecDepth 8000 in
theorem tb_628 : (Cond.fieldLink "java/lang/String" (1053 : Nat) "jdk/internal/util/Preconditions" "SIOOBE_FORMATTER" "Ljava/util/function/BiFunction;") ∈ gt := sg_3 148 rfl rfl
set_option maxRecDepth 8000 in
theorem tb_630 : (Cond.methodLink "java/lang/String" (1059 : Nat) ({ cls := "jdk/internal/util/Preconditions", name := "checkIndex", desc := "(IILjava/util/function/BiFunction;)I" } : MethodName)) ∈ gt := sg_3 150 rfl rfl
set_option maxRecDepth 8000 in
theorem tb_631 : (Cond.static ({ cls := "jdk/internal/util/Preconditions", name := "checkIndex", desc := "(IILjava/util/function/BiFunction;)I" } : MethodName)) ∈ gt := sg_3 151 rfl rfl
set_option maxRecDepth 8000 in
theorem tb_632 : (Cond.code ({ cls := "jdk/internal/util/Preconditions", name := "checkIndex", desc := "(IILjava/util/function/BiFunction;)I" } : MethodName) prog_20_method_11_code (3 : Nat) (Option.some FieldType.int)) ∈ gt := sg_3 152 rfl rfl
set_option maxRecDepth 8000 in
theorem tb_661 : (Cond.methodLink "OneSunbeam$LawReader" (152 : Nat) ({ cls := "OneSunbeam$LawReader", name := "signHere", desc := "()I" } : MethodName)) ∈ gt := sg_3 181 rfl rfl
set_option maxRecDepth 8000 in
theorem tb_663 : (Cond.instanceMethod ({ cls := "OneSunbeam$LawReader", name := "signHere", desc := "()I" } : MethodName)) ∈ gt := sg_3 183 rfl rfl
set_option maxRecDepth 8000 in
theorem tb_664 : (Cond.code ({ cls := "OneSunbeam$LawReader", name := "signHere", desc := "()I" } : MethodName) prog_6_method_22_code (2 : Nat) (Option.some FieldType.int)) ∈ gt := sg_3 184 rfl rfl
set_option maxRecDepth 8000 in
theorem tb_665 : (Cond.methodLink "OneSunbeam$LawReader" (62 : Nat) ({ cls := "OneSunbeam$LawReader", name := "takeToken", desc := "()V" } : MethodName)) ∈ gt := sg_3 185 rfl rfl
set_option maxRecDepth 8000 in
theorem tb_667 : (Cond.instanceMethod ({ cls := "OneSunbeam$LawReader", name := "takeToken", desc := "()V" } : MethodName)) ∈ gt := sg_3 187 rfl rfl
set_option maxRecDepth 8000 in
theorem tb_668 : (Cond.code ({ cls := "OneSunbeam$LawReader", name := "takeToken", desc := "()V" } : MethodName) prog_6_method_4_code (1 : Nat) (Option.none : Option FieldType)) ∈ gt := sg_3 188 rfl rfl
set_option maxRecDepth 8000 in
theorem tb_669 : (Cond.methodLink "OneSunbeam$LawReader" (68 : Nat) ({ cls := "OneSunbeam$LawReader", name := "takeTurn", desc := "()V" } : MethodName)) ∈ gt := sg_3 189 rfl rfl
set_option maxRecDepth 8000 in
theorem tb_671 : (Cond.instanceMethod ({ cls := "OneSunbeam$LawReader", name := "takeTurn", desc := "()V" } : MethodName)) ∈ gt := sg_3 191 rfl rfl
set_option maxRecDepth 8000 in
theorem tb_672 : (Cond.code ({ cls := "OneSunbeam$LawReader", name := "takeTurn", desc := "()V" } : MethodName) prog_6_method_5_code (1 : Nat) (Option.none : Option FieldType)) ∈ gt := sg_3 192 rfl rfl
set_option maxRecDepth 8000 in
theorem tb_673 : (Cond.methodLink "OneSunbeam$LawReader" (86 : Nat) ({ cls := "OneSunbeam$LawReader", name := "fail", desc := "(I)V" } : MethodName)) ∈ gt := sg_3 193 rfl rfl
set_option maxRecDepth 8000 in
theorem tb_675 : (Cond.instanceMethod ({ cls := "OneSunbeam$LawReader", name := "fail", desc := "(I)V" } : MethodName)) ∈ gt := sg_3 195 rfl rfl
set_option maxRecDepth 8000 in
theorem tb_676 : (Cond.code ({ cls := "OneSunbeam$LawReader", name := "fail", desc := "(I)V" } : MethodName) prog_6_method_3_code (2 : Nat) (Option.none : Option FieldType)) ∈ gt := sg_3 196 rfl rfl
set_option maxRecDepth 8000 in
theorem tb_677 : (Cond.methodLink "OneSunbeam$LawReader" (71 : Nat) ({ cls := "OneSunbeam$LawReader", name := "takeMirror", desc := "()V" } : MethodName)) ∈ gt := sg_3 197 rfl rfl
set_option maxRecDepth 8000 in
theorem tb_679 : (Cond.instanceMethod ({ cls := "OneSunbeam$LawReader", name := "takeMirror", desc := "()V" } : MethodName)) ∈ gt := sg_3 199 rfl rfl
set_option maxRecDepth 8000 in
theorem tb_680 : (Cond.code ({ cls := "OneSunbeam$LawReader", name := "takeMirror", desc := "()V" } : MethodName) prog_6_method_6_code (1 : Nat) (Option.none : Option FieldType)) ∈ gt := sg_3 200 rfl rfl
set_option maxRecDepth 8000 in
theorem tb_681 : (Cond.methodLink "OneSunbeam$LawReader" (93 : Nat) ({ cls := "OneSunbeam$Law", name := "beginClause", desc := "(I)V" } : MethodName)) ∈ gt := sg_3 201 rfl rfl
set_option maxRecDepth 8000 in
theorem tb_682 : (Cond.instanceMethod ({ cls := "OneSunbeam$Law", name := "beginClause", desc := "(I)V" } : MethodName)) ∈ gt := sg_3 202 rfl rfl
set_option maxRecDepth 8000 in
theorem tb_683 : (Cond.selects "OneSunbeam$Law" ({ cls := "OneSunbeam$Law", name := "beginClause", desc := "(I)V" } : MethodName) ({ cls := "OneSunbeam$Law", name := "beginClause", desc := "(I)V" } : MethodName)) ∈ gt := sg_3 203 rfl rfl
set_option maxRecDepth 8000 in
theorem tb_684 : (Cond.code ({ cls := "OneSunbeam$Law", name := "beginClause", desc := "(I)V" } : MethodName) prog_5_method_4_code (2 : Nat) (Option.none : Option FieldType)) ∈ gt := sg_3 204 rfl rfl
set_option maxRecDepth 8000 in
theorem tb_685 : (Cond.methodLink "OneSunbeam$LawReader" (74 : Nat) ({ cls := "OneSunbeam$LawReader", name := "takeFact", desc := "()V" } : MethodName)) ∈ gt := sg_3 205 rfl rfl
set_option maxRecDepth 8000 in
theorem tb_687 : (Cond.instanceMethod ({ cls := "OneSunbeam$LawReader", name := "takeFact", desc := "()V" } : MethodName)) ∈ gt := sg_3 207 rfl rfl
set_option maxRecDepth 8000 in
theorem tb_688 : (Cond.code ({ cls := "OneSunbeam$LawReader", name := "takeFact", desc := "()V" } : MethodName) prog_6_method_7_code (1 : Nat) (Option.none : Option FieldType)) ∈ gt := sg_3 208 rfl rfl
set_option maxRecDepth 8000 in
theorem tb_689 : (Cond.methodLink "OneSunbeam$LawReader" (77 : Nat) ({ cls := "OneSunbeam$LawReader", name := "takeValue", desc := "()V" } : MethodName)) ∈ gt := sg_3 209 rfl rfl
set_option maxRecDepth 8000 in
theorem tb_691 : (Cond.instanceMethod ({ cls := "OneSunbeam$LawReader", name := "takeValue", desc := "()V" } : MethodName)) ∈ gt := sg_3 211 rfl rfl
set_option maxRecDepth 8000 in
theorem tb_692 : (Cond.code ({ cls := "OneSunbeam$LawReader", name := "takeValue", desc := "()V" } : MethodName) prog_6_method_8_code (1 : Nat) (Option.none : Option FieldType)) ∈ gt := sg_3 212 rfl rfl
set_option maxRecDepth 8000 in
theorem tb_693 : (Cond.methodLink "OneSunbeam$LawReader" (102 : Nat) ({ cls := "OneSunbeam$LawReader", name := "countsOneMore", desc := "()Z" } : MethodName)) ∈ gt := sg_3 213 rfl rfl
set_option maxRecDepth 8000 in
theorem tb_695 : (Cond.instanceMethod ({ cls := "OneSunbeam$LawReader", name := "countsOneMore", desc := "()Z" } : MethodName)) ∈ gt := sg_3 215 rfl rfl
set_option maxRecDepth 8000 in
theorem tb_696 : (Cond.code ({ cls := "OneSunbeam$LawReader", name := "countsOneMore", desc := "()Z" } : MethodName) prog_6_method_13_code (1 : Nat) (Option.some FieldType.boolean)) ∈ gt := sg_3 216 rfl rfl
set_option maxRecDepth 8000 in
theorem tb_697 : (Cond.methodLink "OneSunbeam$LawReader" (106 : Nat) ({ cls := "OneSunbeam$Law", name := "add", desc := "(I)V" } : MethodName)) ∈ gt := sg_3 217 rfl rfl
set_option maxRecDepth 8000 in
theorem tb_698 : (Cond.instanceMethod ({ cls := "OneSunbeam$Law", name := "add", desc := "(I)V" } : MethodName)) ∈ gt := sg_3 218 rfl rfl
set_option maxRecDepth 8000 in
theorem tb_699 : (Cond.selects "OneSunbeam$Law" ({ cls := "OneSunbeam$Law", name := "add", desc := "(I)V" } : MethodName) ({ cls := "OneSunbeam$Law", name := "add", desc := "(I)V" } : MethodName)) ∈ gt := sg_3 219 rfl rfl
set_option maxRecDepth 8000 in
theorem tb_700 : (Cond.code ({ cls := "OneSunbeam$Law", name := "add", desc := "(I)V" } : MethodName) prog_5_method_3_code (2 : Nat) (Option.none : Option FieldType)) ∈ gt := sg_3 220 rfl rfl
set_option maxRecDepth 8000 in
theorem tb_701 : (Cond.methodLink "OneSunbeam$LawReader" (99 : Nat) ({ cls := "OneSunbeam$LawReader", name := "push", desc := "(I)V" } : MethodName)) ∈ gt := sg_3 221 rfl rfl
set_option maxRecDepth 8000 in
theorem tb_703 : (Cond.instanceMethod ({ cls := "OneSunbeam$LawReader", name := "push", desc := "(I)V" } : MethodName)) ∈ gt := sg_3 223 rfl rfl
set_option maxRecDepth 8000 in
theorem tb_704 : (Cond.code ({ cls := "OneSunbeam$LawReader", name := "push", desc := "(I)V" } : MethodName) prog_6_method_14_code (2 : Nat) (Option.none : Option FieldType)) ∈ gt := sg_3 224 rfl rfl
set_option maxRecDepth 8000 in
theorem tb_705 : (Cond.methodLink "OneSunbeam$LawReader" (80 : Nat) ({ cls := "OneSunbeam$LawReader", name := "takeBehind", desc := "()V" } : MethodName)) ∈ gt := sg_3 225 rfl rfl
set_option maxRecDepth 8000 in
theorem tb_707 : (Cond.instanceMethod ({ cls := "OneSunbeam$LawReader", name := "takeBehind", desc := "()V" } : MethodName)) ∈ gt := sg_3 227 rfl rfl
set_option maxRecDepth 8000 in
theorem tb_708 : (Cond.code ({ cls := "OneSunbeam$LawReader", name := "takeBehind", desc := "()V" } : MethodName) prog_6_method_9_code (2 : Nat) (Option.none : Option FieldType)) ∈ gt := sg_3 228 rfl rfl
set_option maxRecDepth 8000 in
theorem tb_709 : (Cond.methodLink "OneSunbeam$LawReader" (109 : Nat) ({ cls := "OneSunbeam$LawReader", name := "takeSign", desc := "(II)V" } : MethodName)) ∈ gt := sg_3 229 rfl rfl
set_option maxRecDepth 8000 in
theorem tb_711 : (Cond.instanceMethod ({ cls := "OneSunbeam$LawReader", name := "takeSign", desc := "(II)V" } : MethodName)) ∈ gt := sg_3 231 rfl rfl
set_option maxRecDepth 8000 in
theorem tb_712 : (Cond.code ({ cls := "OneSunbeam$LawReader", name := "takeSign", desc := "(II)V" } : MethodName) prog_6_method_10_code (3 : Nat) (Option.none : Option FieldType)) ∈ gt := sg_3 232 rfl rfl
set_option maxRecDepth 8000 in
theorem tb_713 : (Cond.methodLink "OneSunbeam$LawReader" (125 : Nat) ({ cls := "OneSunbeam$LawReader", name := "rankOf", desc := "(I)I" } : MethodName)) ∈ gt := sg_3 233 rfl rfl
set_option maxRecDepth 8000 in
theorem tb_714 : (Cond.static ({ cls := "OneSunbeam$LawReader", name := "rankOf", desc := "(I)I" } : MethodName)) ∈ gt := sg_3 234 rfl rfl
set_option maxRecDepth 8000 in
theorem tb_715 : (Cond.code ({ cls := "OneSunbeam$LawReader", name := "rankOf", desc := "(I)I" } : MethodName) prog_6_method_16_code (1 : Nat) (Option.some FieldType.int)) ∈ gt := sg_3 235 rfl rfl
set_option maxRecDepth 8000 in
theorem tb_716 : (Cond.methodLink "OneSunbeam$LawReader" (116 : Nat) ({ cls := "OneSunbeam$LawReader", name := "popDownTo", desc := "(I)V" } : MethodName)) ∈ gt := sg_3 236 rfl rfl
set_option maxRecDepth 8000 in
theorem tb_718 : (Cond.instanceMethod ({ cls := "OneSunbeam$LawReader", name := "popDownTo", desc := "(I)V" } : MethodName)) ∈ gt := sg_3 238 rfl rfl
set_option maxRecDepth 8000 in
theorem tb_719 : (Cond.code ({ cls := "OneSunbeam$LawReader", name := "popDownTo", desc := "(I)V" } : MethodName) prog_6_method_15_code (2 : Nat) (Option.none : Option FieldType)) ∈ gt := sg_3 239 rfl rfl
set_option maxRecDepth 8000 in
theorem tb_720 : (Cond.methodLink "OneSunbeam$LawReader" (113 : Nat) ({ cls := "OneSunbeam$LawReader", name := "closeBracket", desc := "()V" } : MethodName)) ∈ gt := sg_4 0 rfl rfl
set_option maxRecDepth 8000 in
theorem tb_722 : (Cond.instanceMethod ({ cls := "OneSunbeam$LawReader", name := "closeBracket", desc := "()V" } : MethodName)) ∈ gt := sg_4 2 rfl rfl
set_option maxRecDepth 8000 in
theorem tb_723 : (Cond.code ({ cls := "OneSunbeam$LawReader", name := "closeBracket", desc := "()V" } : MethodName) prog_6_method_11_code (1 : Nat) (Option.none : Option FieldType)) ∈ gt := sg_4 3 rfl rfl
set_option maxRecDepth 8000 in
theorem tb_724 : (Cond.methodLink "OneSunbeam$LawReader" (119 : Nat) ({ cls := "OneSunbeam$Law", name := "beginTest", desc := "()V" } : MethodName)) ∈ gt := sg_4 4 rfl rfl
set_option maxRecDepth 8000 in
theorem tb_725 : (Cond.instanceMethod ({ cls := "OneSunbeam$Law", name := "beginTest", desc := "()V" } : MethodName)) ∈ gt := sg_4 5 rfl rfl
set_option maxRecDepth 8000 in
theorem tb_726 : (Cond.selects "OneSunbeam$Law" ({ cls := "OneSunbeam$Law", name := "beginTest", desc := "()V" } : MethodName) ({ cls := "OneSunbeam$Law", name := "beginTest", desc := "()V" } : MethodName)) ∈ gt := sg_4 6 rfl rfl
set_option maxRecDepth 8000 in
theorem tb_727 : (Cond.code ({ cls := "OneSunbeam$Law", name := "beginTest", desc := "()V" } : MethodName) prog_5_method_5_code (1 : Nat) (Option.none : Option FieldType)) ∈ gt := sg_4 7 rfl rfl
set_option maxRecDepth 8000 in
theorem tb_728 : (Cond.methodLink "OneSunbeam$LawReader" (122 : Nat) ({ cls := "OneSunbeam$LawReader", name := "takeClauseEnd", desc := "()V" } : MethodName)) ∈ gt := sg_4 8 rfl rfl
set_option maxRecDepth 8000 in
theorem tb_730 : (Cond.instanceMethod ({ cls := "OneSunbeam$LawReader", name := "takeClauseEnd", desc := "()V" } : MethodName)) ∈ gt := sg_4 10 rfl rfl
set_option maxRecDepth 8000 in
theorem tb_731 : (Cond.code ({ cls := "OneSunbeam$LawReader", name := "takeClauseEnd", desc := "()V" } : MethodName) prog_6_method_12_code (1 : Nat) (Option.none : Option FieldType)) ∈ gt := sg_4 11 rfl rfl
set_option maxRecDepth 8000 in
theorem tb_732 : (Cond.methodLink "OneSunbeam$LawReader" (129 : Nat) ({ cls := "OneSunbeam$Law", name := "endClause", desc := "()V" } : MethodName)) ∈ gt := sg_4 12 rfl rfl
set_option maxRecDepth 8000 in
theorem tb_733 : (Cond.instanceMethod ({ cls := "OneSunbeam$Law", name := "endClause", desc := "()V" } : MethodName)) ∈ gt := sg_4 13 rfl rfl
set_option maxRecDepth 8000 in
theorem tb_734 : (Cond.selects "OneSunbeam$Law" ({ cls := "OneSunbeam$Law", name := "endClause", desc := "()V" } : MethodName) ({ cls := "OneSunbeam$Law", name := "endClause", desc := "()V" } : MethodName)) ∈ gt := sg_4 14 rfl rfl
set_option maxRecDepth 8000 in
theorem tb_735 : (Cond.code ({ cls := "OneSunbeam$Law", name := "endClause", desc := "()V" } : MethodName) prog_5_method_6_code (1 : Nat) (Option.none : Option FieldType)) ∈ gt := sg_4 15 rfl rfl
set_option maxRecDepth 8000 in
theorem tb_736 : (Cond.methodLink "OneSunbeamLaw" (70 : Nat) ({ cls := "OneSunbeam", name := "days", desc := "(II)I" } : MethodName)) ∈ gt := sg_4 16 rfl rfl
set_option maxRecDepth 8000 in
theorem tb_737 : (Cond.instanceMethod ({ cls := "OneSunbeam", name := "days", desc := "(II)I" } : MethodName)) ∈ gt := sg_4 17 rfl rfl
set_option maxRecDepth 8000 in
theorem tb_738 : (Cond.selects "OneSunbeam" ({ cls := "OneSunbeam", name := "days", desc := "(II)I" } : MethodName) ({ cls := "OneSunbeam", name := "days", desc := "(II)I" } : MethodName)) ∈ gt := sg_4 18 rfl rfl
set_option maxRecDepth 8000 in
theorem tb_739 : (Cond.code ({ cls := "OneSunbeam", name := "days", desc := "(II)I" } : MethodName) prog_1_method_14_code (5 : Nat) (Option.some FieldType.int)) ∈ gt := sg_4 19 rfl rfl
set_option maxRecDepth 8000 in
theorem tb_740 : (Cond.methodLink "OneSunbeam" (186 : Nat) ({ cls := "OneSunbeam", name := "findLaw", desc := "(I)LOneSunbeam$Law;" } : MethodName)) ∈ gt := sg_4 20 rfl rfl
set_option maxRecDepth 8000 in
theorem tb_742 : (Cond.instanceMethod ({ cls := "OneSunbeam", name := "findLaw", desc := "(I)LOneSunbeam$Law;" } : MethodName)) ∈ gt := sg_4 22 rfl rfl
set_option maxRecDepth 8000 in
theorem tb_743 : (Cond.code ({ cls := "OneSunbeam", name := "findLaw", desc := "(I)LOneSunbeam$Law;" } : MethodName) prog_1_method_40_code (2 : Nat) (Option.some (FieldType.object "OneSunbeam$Law"))) ∈ gt := sg_4 23 rfl rfl
set_option maxRecDepth 8000 in
theorem tb_744 : (Cond.methodLink "OneSunbeam" (193 : Nat) ({ cls := "OneSunbeam$Keepers", name := "passDay", desc := "(LOneSunbeam$Town;LOneSunbeam$Law;Z)I" } : MethodName)) ∈ gt := sg_4 24 rfl rfl
set_option maxRecDepth 8000 in
theorem tb_745 : (Cond.instanceMethod ({ cls := "OneSunbeam$Keepers", name := "passDay", desc := "(LOneSunbeam$Town;LOneSunbeam$Law;Z)I" } : MethodName)) ∈ gt := sg_4 25 rfl rfl
set_option maxRecDepth 8000 in
theorem tb_746 : (Cond.selects "OneSunbeam$Keepers" ({ cls := "OneSunbeam$Keepers", name := "passDay", desc := "(LOneSunbeam$Town;LOneSunbeam$Law;Z)I" } : MethodName) ({ cls := "OneSunbeam$Keepers", name := "passDay", desc := "(LOneSunbeam$Town;LOneSunbeam$Law;Z)I" } : MethodName)) ∈ gt := sg_4 26 rfl rfl
set_option maxRecDepth 8000 in
theorem tb_747 : (Cond.code ({ cls := "OneSunbeam$Keepers", name := "passDay", desc := "(LOneSunbeam$Town;LOneSunbeam$Law;Z)I" } : MethodName) prog_4_method_2_code (6 : Nat) (Option.some FieldType.int)) ∈ gt := sg_4 27 rfl rfl
set_option maxRecDepth 8000 in
theorem tb_748 : (Cond.methodLink "OneSunbeam$Keepers" (23 : Nat) ({ cls := "java/util/Arrays", name := "fill", desc := "([II)V" } : MethodName)) ∈ gt := sg_4 28 rfl rfl
set_option maxRecDepth 8000 in
theorem tb_749 : (Cond.methodLink "OneSunbeam$Keepers" (33 : Nat) ({ cls := "OneSunbeam$Keepers", name := "turnMirrors", desc := "(LOneSunbeam$Town;LOneSunbeam$Law;)V" } : MethodName)) ∈ gt := sg_4 29 rfl rfl
set_option maxRecDepth 8000 in
theorem tb_751 : (Cond.instanceMethod ({ cls := "OneSunbeam$Keepers", name := "turnMirrors", desc := "(LOneSunbeam$Town;LOneSunbeam$Law;)V" } : MethodName)) ∈ gt := sg_4 31 rfl rfl
set_option maxRecDepth 8000 in
theorem tb_752 : (Cond.code ({ cls := "OneSunbeam$Keepers", name := "turnMirrors", desc := "(LOneSunbeam$Town;LOneSunbeam$Law;)V" } : MethodName) prog_4_method_3_code (8 : Nat) (Option.none : Option FieldType)) ∈ gt := sg_4 32 rfl rfl
set_option maxRecDepth 8000 in
theorem tb_753 : (Cond.methodLink "OneSunbeam$Keepers" (71 : Nat) ({ cls := "OneSunbeam$Town", name := "hasMirror", desc := "(I)Z" } : MethodName)) ∈ gt := sg_4 33 rfl rfl
set_option maxRecDepth 8000 in
theorem tb_754 : (Cond.methodLink "OneSunbeam$Keepers" (74 : Nat) ({ cls := "OneSunbeam$Keepers", name := "holds", desc := "(LOneSunbeam$Town;LOneSunbeam$Law;I)Z" } : MethodName)) ∈ gt := sg_4 34 rfl rfl
set_option maxRecDepth 8000 in
theorem tb_756 : (Cond.instanceMethod ({ cls := "OneSunbeam$Keepers", name := "holds", desc := "(LOneSunbeam$Town;LOneSunbeam$Law;I)Z" } : MethodName)) ∈ gt := sg_4 36 rfl rfl
set_option maxRecDepth 8000 in
theorem tb_757 : (Cond.code ({ cls := "OneSunbeam$Keepers", name := "holds", desc := "(LOneSunbeam$Town;LOneSunbeam$Law;I)Z" } : MethodName) prog_4_method_5_code (6 : Nat) (Option.some FieldType.boolean)) ∈ gt := sg_4 37 rfl rfl
set_option maxRecDepth 8000 in
theorem tb_758 : (Cond.methodLink "OneSunbeam$Keepers" (84 : Nat) ({ cls := "OneSunbeam$Keepers", name := "valueOf", desc := "(LOneSunbeam$Town;LOneSunbeam$Law;III)J" } : MethodName)) ∈ gt := sg_4 38 rfl rfl
set_option maxRecDepth 8000 in
theorem tb_760 : (Cond.instanceMethod ({ cls := "OneSunbeam$Keepers", name := "valueOf", desc := "(LOneSunbeam$Town;LOneSunbeam$Law;III)J" } : MethodName)) ∈ gt := sg_4 40 rfl rfl
set_option maxRecDepth 8000 in
theorem tb_761 : (Cond.code ({ cls := "OneSunbeam$Keepers", name := "valueOf", desc := "(LOneSunbeam$Town;LOneSunbeam$Law;III)J" } : MethodName) prog_4_method_6_code (9 : Nat) (Option.some FieldType.long)) ∈ gt := sg_4 41 rfl rfl
set_option maxRecDepth 8000 in
theorem tb_762 : (Cond.methodLink "OneSunbeam$Keepers" (103 : Nat) ({ cls := "OneSunbeam$Keepers", name := "wordValue", desc := "(LOneSunbeam$Town;II)J" } : MethodName)) ∈ gt := sg_4 42 rfl rfl
set_option maxRecDepth 8000 in
theorem tb_764 : (Cond.instanceMethod ({ cls := "OneSunbeam$Keepers", name := "wordValue", desc := "(LOneSunbeam$Town;II)J" } : MethodName)) ∈ gt := sg_4 44 rfl rfl
set_option maxRecDepth 8000 in
theorem tb_765 : (Cond.code ({ cls := "OneSunbeam$Keepers", name := "wordValue", desc := "(LOneSunbeam$Town;II)J" } : MethodName) prog_4_method_7_code (4 : Nat) (Option.some FieldType.long)) ∈ gt := sg_4 45 rfl rfl
set_option maxRecDepth 8000 in
theorem tb_766 : (Cond.methodLink "OneSunbeam$Keepers" (117 : Nat) ({ cls := "OneSunbeam$Town", name := "ofMirror", desc := "(II)I" } : MethodName)) ∈ gt := sg_4 46 rfl rfl
set_option maxRecDepth 8000 in
theorem tb_767 : (Cond.methodLink "OneSunbeam$Keepers" (37 : Nat) ({ cls := "OneSunbeam$Town", name := "isLit", desc := "(I)Z" } : MethodName)) ∈ gt := sg_4 47 rfl rfl
set_option maxRecDepth 8000 in
theorem tb_768 : (Cond.instanceMethod ({ cls := "OneSunbeam$Town", name := "isLit", desc := "(I)Z" } : MethodName)) ∈ gt := sg_4 48 rfl rfl
set_option maxRecDepth 8000 in
theorem tb_769 : (Cond.selects "OneSunbeam$Town" ({ cls := "OneSunbeam$Town", name := "isLit", desc := "(I)Z" } : MethodName) ({ cls := "OneSunbeam$Town", name := "isLit", desc := "(I)Z" } : MethodName)) ∈ gt := sg_4 49 rfl rfl
set_option maxRecDepth 8000 in
theorem tb_770 : (Cond.code ({ cls := "OneSunbeam$Town", name := "isLit", desc := "(I)Z" } : MethodName) prog_10_method_10_code (2 : Nat) (Option.some FieldType.boolean)) ∈ gt := sg_4 50 rfl rfl
set_option maxRecDepth 8000 in
theorem tb_771 : (Cond.methodLink "OneSunbeam$Keepers" (121 : Nat) ({ cls := "OneSunbeam$Town", name := "wayOf", desc := "(I)I" } : MethodName)) ∈ gt := sg_4 51 rfl rfl
set_option maxRecDepth 8000 in
theorem tb_772 : (Cond.instanceMethod ({ cls := "OneSunbeam$Town", name := "wayOf", desc := "(I)I" } : MethodName)) ∈ gt := sg_4 52 rfl rfl
set_option maxRecDepth 8000 in
theorem tb_773 : (Cond.selects "OneSunbeam$Town" ({ cls := "OneSunbeam$Town", name := "wayOf", desc := "(I)I" } : MethodName) ({ cls := "OneSunbeam$Town", name := "wayOf", desc := "(I)I" } : MethodName)) ∈ gt := sg_4 53 rfl rfl
set_option maxRecDepth 8000 in
theorem tb_774 : (Cond.code ({ cls := "OneSunbeam$Town", name := "wayOf", desc := "(I)I" } : MethodName) prog_10_method_11_code (2 : Nat) (Option.some FieldType.int)) ∈ gt := sg_4 54 rfl rfl
set_option maxRecDepth 8000 in
theorem tb_775 : (Cond.constantLong "OneSunbeam$Keepers" (125 : Nat) (8 : Int64)) ∈ gt := sg_4 55 rfl rfl
set_option maxRecDepth 8000 in
theorem tb_776 : (Cond.methodLink "OneSunbeam$Keepers" (127 : Nat) ({ cls := "OneSunbeam$Keepers", name := "gotByYard", desc := "(I)J" } : MethodName)) ∈ gt := sg_4 56 rfl rfl
set_option maxRecDepth 8000 in
theorem tb_778 : (Cond.instanceMethod ({ cls := "OneSunbeam$Keepers", name := "gotByYard", desc := "(I)J" } : MethodName)) ∈ gt := sg_4 58 rfl rfl
set_option maxRecDepth 8000 in
theorem tb_779 : (Cond.code ({ cls := "OneSunbeam$Keepers", name := "gotByYard", desc := "(I)J" } : MethodName) prog_4_method_8_code (2 : Nat) (Option.some FieldType.long)) ∈ gt := sg_4 59 rfl rfl
set_option maxRecDepth 8000 in
theorem tb_781 : (Cond.methodLink "OneSunbeam$Keepers" (107 : Nat) ({ cls := "OneSunbeam$Keepers", name := "join", desc := "(IJJ)J" } : MethodName)) ∈ gt := sg_4 61 rfl rfl
set_option maxRecDepth 8000 in
theorem tb_782 : (Cond.static ({ cls := "OneSunbeam$Keepers", name := "join", desc := "(IJJ)J" } : MethodName)) ∈ gt := sg_4 62 rfl rfl
set_option maxRecDepth 8000 in
theorem tb_783 : (Cond.code ({ cls := "OneSunbeam$Keepers", name := "join", desc := "(IJJ)J" } : MethodName) prog_4_method_9_code (5 : Nat) (Option.some FieldType.long)) ∈ gt := sg_4 63 rfl rfl
set_option maxRecDepth 8000 in
theorem tb_784 : (Cond.methodLink "OneSunbeam$Keepers" (135 : Nat) ({ cls := "OneSunbeam$Keepers", name := "joinTruth", desc := "(IJJ)Z" } : MethodName)) ∈ gt := sg_4 64 rfl rfl
set_option maxRecDepth 8000 in
theorem tb_785 : (Cond.static ({ cls := "OneSunbeam$Keepers", name := "joinTruth", desc := "(IJJ)Z" } : MethodName)) ∈ gt := sg_4 65 rfl rfl
set_option maxRecDepth 8000 in
theorem tb_786 : (Cond.code ({ cls := "OneSunbeam$Keepers", name := "joinTruth", desc := "(IJJ)Z" } : MethodName) prog_4_method_10_code (5 : Nat) (Option.some FieldType.boolean)) ∈ gt := sg_4 66 rfl rfl
set_option maxRecDepth 8000 in
theorem tb_787 : (Cond.constantLong "OneSunbeam$Keepers" (88 : Nat) (7 : Int64)) ∈ gt := sg_4 67 rfl rfl
set_option maxRecDepth 8000 in
theorem tb_788 : (Cond.methodLink "OneSunbeam$Keepers" (90 : Nat) ({ cls := "OneSunbeam$Town", name := "turnTowards", desc := "(II)V" } : MethodName)) ∈ gt := sg_4 68 rfl rfl
set_option maxRecDepth 8000 in
theorem tb_789 : (Cond.instanceMethod ({ cls := "OneSunbeam$Town", name := "turnTowards", desc := "(II)V" } : MethodName)) ∈ gt := sg_4 69 rfl rfl
set_option maxRecDepth 8000 in
theorem tb_790 : (Cond.selects "OneSunbeam$Town" ({ cls := "OneSunbeam$Town", name := "turnTowards", desc := "(II)V" } : MethodName) ({ cls := "OneSunbeam$Town", name := "turnTowards", desc := "(II)V" } : MethodName)) ∈ gt := sg_4 70 rfl rfl
set_option maxRecDepth 8000 in
theorem tb_791 : (Cond.code ({ cls := "OneSunbeam$Town", name := "turnTowards", desc := "(II)V" } : MethodName) prog_10_method_27_code (7 : Nat) (Option.none : Option FieldType)) ∈ gt := sg_4 71 rfl rfl
set_option maxRecDepth 8000 in
theorem tb_792 : (Cond.methodLink "OneSunbeam$Town" (97 : Nat) ({ cls := "OneSunbeam$Town", name := "ofMirror", desc := "(II)I" } : MethodName)) ∈ gt := sg_4 72 rfl rfl
set_option maxRecDepth 8000 in
theorem tb_793 : (Cond.methodLink "OneSunbeam$Town" (100 : Nat) ({ cls := "java/lang/Math", name := "min", desc := "(II)I" } : MethodName)) ∈ gt := sg_4 73 rfl rfl
set_option maxRecDepth 8000 in
theorem tb_794 : (Cond.static ({ cls := "java/lang/Math", name := "min", desc := "(II)I" } : MethodName)) ∈ gt := sg_4 74 rfl rfl
set_option maxRecDepth 8000 in
theorem tb_795 : (Cond.code ({ cls := "java/lang/Math", name := "min", desc := "(II)I" } : MethodName) prog_14_method_69_code (2 : Nat) (Option.some FieldType.int)) ∈ gt := sg_4 75 rfl rfl
set_option maxRecDepth 8000 in
theorem tb_796 : (Cond.methodLink "OneSunbeam$Keepers" (43 : Nat) ({ cls := "OneSunbeam$Beams", name := "shineWatched", desc := "(LOneSunbeam$Town;I)V" } : MethodName)) ∈ gt := sg_4 76 rfl rfl
set_option maxRecDepth 8000 in
theorem tb_797 : (Cond.instanceMethod ({ cls := "OneSunbeam$Beams", name := "shineWatched", desc := "(LOneSunbeam$Town;I)V" } : MethodName)) ∈ gt := sg_4 77 rfl rfl
set_option maxRecDepth 8000 in
theorem tb_798 : (Cond.selects "OneSunbeam$Beams" ({ cls := "OneSunbeam$Beams", name := "shineWatched", desc := "(LOneSunbeam$Town;I)V" } : MethodName) ({ cls := "OneSunbeam$Beams", name := "shineWatched", desc := "(LOneSunbeam$Town;I)V" } : MethodName)) ∈ gt := sg_4 78 rfl rfl
set_option maxRecDepth 8000 in
theorem tb_799 : (Cond.code ({ cls := "OneSunbeam$Beams", name := "shineWatched", desc := "(LOneSunbeam$Town;I)V" } : MethodName) prog_3_method_3_code (3 : Nat) (Option.none : Option FieldType)) ∈ gt := sg_4 79 rfl rfl
set_option maxRecDepth 8000 in
theorem tb_800 : (Cond.methodLink "OneSunbeam$Beams" (63 : Nat) ({ cls := "java/util/Arrays", name := "fill", desc := "([II)V" } : MethodName)) ∈ gt := sg_4 80 rfl rfl
set_option maxRecDepth 8000 in
theorem tb_801 : (Cond.methodLink "OneSunbeam$Beams" (69 : Nat) ({ cls := "OneSunbeam$Beams", name := "shine", desc := "(LOneSunbeam$Town;I)V" } : MethodName)) ∈ gt := sg_4 81 rfl rfl
set_option maxRecDepth 8000 in
theorem tb_802 : (Cond.instanceMethod ({ cls := "OneSunbeam$Beams", name := "shine", desc := "(LOneSunbeam$Town;I)V" } : MethodName)) ∈ gt := sg_4 82 rfl rfl
set_option maxRecDepth 8000 in
theorem tb_803 : (Cond.selects "OneSunbeam$Beams" ({ cls := "OneSunbeam$Beams", name := "shine", desc := "(LOneSunbeam$Town;I)V" } : MethodName) ({ cls := "OneSunbeam$Beams", name := "shine", desc := "(LOneSunbeam$Town;I)V" } : MethodName)) ∈ gt := sg_4 83 rfl rfl
set_option maxRecDepth 8000 in
theorem tb_804 : (Cond.code ({ cls := "OneSunbeam$Beams", name := "shine", desc := "(LOneSunbeam$Town;I)V" } : MethodName) prog_3_method_2_code (8 : Nat) (Option.none : Option FieldType)) ∈ gt := sg_4 84 rfl rfl
set_option maxRecDepth 8000 in
theorem tb_805 : (Cond.methodLink "OneSunbeam$Beams" (24 : Nat) ({ cls := "OneSunbeam$Beams", name := "clear", desc := "()V" } : MethodName)) ∈ gt := sg_4 85 rfl rfl
set_option maxRecDepth 8000 in
theorem tb_807 : (Cond.instanceMethod ({ cls := "OneSunbeam$Beams", name := "clear", desc := "()V" } : MethodName)) ∈ gt := sg_4 87 rfl rfl
set_option maxRecDepth 8000 in
theorem tb_808 : (Cond.code ({ cls := "OneSunbeam$Beams", name := "clear", desc := "()V" } : MethodName) prog_3_method_10_code (1 : Nat) (Option.none : Option FieldType)) ∈ gt := sg_4 88 rfl rfl
set_option maxRecDepth 8000 in
theorem tb_809 : (Cond.methodLink "OneSunbeam$Beams" (36 : Nat) ({ cls := "OneSunbeam$Town", name := "wayOf", desc := "(I)I" } : MethodName)) ∈ gt := sg_4 89 rfl rfl
set_option maxRecDepth 8000 in
theorem tb_810 : (Cond.methodLink "OneSunbeam$Beams" (40 : Nat) ({ cls := "OneSunbeam$Town", name := "strengthOf", desc := "(I)I" } : MethodName)) ∈ gt := sg_4 90 rfl rfl
set_option maxRecDepth 8000 in
theorem tb_811 : (Cond.instanceMethod ({ cls := "OneSunbeam$Town", name := "strengthOf", desc := "(I)I" } : MethodName)) ∈ gt := sg_4 91 rfl rfl
set_option maxRecDepth 8000 in
theorem tb_812 : (Cond.selects "OneSunbeam$Town" ({ cls := "OneSunbeam$Town", name := "strengthOf", desc := "(I)I" } : MethodName) ({ cls := "OneSunbeam$Town", name := "strengthOf", desc := "(I)I" } : MethodName)) ∈ gt := sg_4 92 rfl rfl
set_option maxRecDepth 8000 in
theorem tb_813 : (Cond.code ({ cls := "OneSunbeam$Town", name := "strengthOf", desc := "(I)I" } : MethodName) prog_10_method_12_code (2 : Nat) (Option.some FieldType.int)) ∈ gt := sg_4 93 rfl rfl
set_option maxRecDepth 8000 in
theorem tb_814 : (Cond.methodLink "OneSunbeam$Beams" (43 : Nat) ({ cls := "OneSunbeam$Beams", name := "follow", desc := "(LOneSunbeam$Town;IIII)V" } : MethodName)) ∈ gt := sg_4 94 rfl rfl
set_option maxRecDepth 8000 in
theorem tb_816 : (Cond.instanceMethod ({ cls := "OneSunbeam$Beams", name := "follow", desc := "(LOneSunbeam$Town;IIII)V" } : MethodName)) ∈ gt := sg_4 96 rfl rfl
set_option maxRecDepth 8000 in
theorem tb_817 : (Cond.code ({ cls := "OneSunbeam$Beams", name := "follow", desc := "(LOneSunbeam$Town;IIII)V" } : MethodName) prog_3_method_11_code (12 : Nat) (Option.none : Option FieldType)) ∈ gt := sg_4 97 rfl rfl
set_option maxRecDepth 8000 in
theorem tb_818 : (Cond.methodLink "OneSunbeam$Beams" (98 : Nat) ({ cls := "OneSunbeam$Town", name := "isOpen", desc := "(II)Z" } : MethodName)) ∈ gt := sg_4 98 rfl rfl
set_option maxRecDepth 8000 in
theorem tb_819 : (Cond.instanceMethod ({ cls := "OneSunbeam$Town", name := "isOpen", desc := "(II)Z" } : MethodName)) ∈ gt := sg_4 99 rfl rfl
set_option maxRecDepth 8000 in
theorem tb_820 : (Cond.selects "OneSunbeam$Town" ({ cls := "OneSunbeam$Town", name := "isOpen", desc := "(II)Z" } : MethodName) ({ cls := "OneSunbeam$Town", name := "isOpen", desc := "(II)Z" } : MethodName)) ∈ gt := sg_4 100 rfl rfl
set_option maxRecDepth 8000 in
theorem tb_821 : (Cond.code ({ cls := "OneSunbeam$Town", name := "isOpen", desc := "(II)Z" } : MethodName) prog_10_method_6_code (3 : Nat) (Option.some FieldType.boolean)) ∈ gt := sg_4 101 rfl rfl
set_option maxRecDepth 8000 in
theorem tb_823 : (Cond.methodLink "OneSunbeam$Beams" (106 : Nat) ({ cls := "OneSunbeam$Beams", name := "passAir", desc := "(LOneSunbeam$Town;II)I" } : MethodName)) ∈ gt := sg_4 103 rfl rfl
set_option maxRecDepth 8000 in
theorem tb_825 : (Cond.instanceMethod ({ cls := "OneSunbeam$Beams", name := "passAir", desc := "(LOneSunbeam$Town;II)I" } : MethodName)) ∈ gt := sg_4 105 rfl rfl
set_option maxRecDepth 8000 in
theorem tb_826 : (Cond.code ({ cls := "OneSunbeam$Beams", name := "passAir", desc := "(LOneSunbeam$Town;II)I" } : MethodName) prog_3_method_12_code (6 : Nat) (Option.some FieldType.int)) ∈ gt := sg_4 106 rfl rfl
set_option maxRecDepth 8000 in
theorem tb_828 : (Cond.static ({ cls := "OneSunbeam", name := "shareOf", desc := "(II)I" } : MethodName)) ∈ gt := sg_4 108 rfl rfl
set_option maxRecDepth 8000 in
theorem tb_829 : (Cond.code ({ cls := "OneSunbeam", name := "shareOf", desc := "(II)I" } : MethodName) prog_1_method_37_code (2 : Nat) (Option.some FieldType.int)) ∈ gt := sg_4 109 rfl rfl
set_option maxRecDepth 8000 in
theorem tb_830 : (Cond.methodLink "OneSunbeam$Beams" (113 : Nat) ({ cls := "OneSunbeam$Beams", name := "passYard", desc := "(LOneSunbeam$Town;II)I" } : MethodName)) ∈ gt := sg_4 110 rfl rfl
set_option maxRecDepth 8000 in
theorem tb_832 : (Cond.instanceMethod ({ cls := "OneSunbeam$Beams", name := "passYard", desc := "(LOneSunbeam$Town;II)I" } : MethodName)) ∈ gt := sg_4 112 rfl rfl
set_option maxRecDepth 8000 in
theorem tb_833 : (Cond.code ({ cls := "OneSunbeam$Beams", name := "passYard", desc := "(LOneSunbeam$Town;II)I" } : MethodName) prog_3_method_13_code (5 : Nat) (Option.some FieldType.int)) ∈ gt := sg_4 113 rfl rfl
set_option maxRecDepth 8000 in
theorem tb_834 : (Cond.methodLink "OneSunbeam$Beams" (136 : Nat) ({ cls := "OneSunbeam$Town", name := "ofYard", desc := "(II)I" } : MethodName)) ∈ gt := sg_4 114 rfl rfl
set_option maxRecDepth 8000 in
theorem tb_835 : (Cond.instanceMethod ({ cls := "OneSunbeam$Town", name := "ofYard", desc := "(II)I" } : MethodName)) ∈ gt := sg_4 115 rfl rfl
set_option maxRecDepth 8000 in
theorem tb_836 : (Cond.selects "OneSunbeam$Town" ({ cls := "OneSunbeam$Town", name := "ofYard", desc := "(II)I" } : MethodName) ({ cls := "OneSunbeam$Town", name := "ofYard", desc := "(II)I" } : MethodName)) ∈ gt := sg_4 116 rfl rfl
set_option maxRecDepth 8000 in
theorem tb_837 : (Cond.code ({ cls := "OneSunbeam$Town", name := "ofYard", desc := "(II)I" } : MethodName) prog_10_method_16_code (3 : Nat) (Option.some FieldType.int)) ∈ gt := sg_4 117 rfl rfl
set_option maxRecDepth 8000 in
theorem tb_838 : (Cond.methodLink "OneSunbeam$Beams" (119 : Nat) ({ cls := "OneSunbeam$Town", name := "isWhole", desc := "(I)Z" } : MethodName)) ∈ gt := sg_4 118 rfl rfl
set_option maxRecDepth 8000 in
theorem tb_839 : (Cond.instanceMethod ({ cls := "OneSunbeam$Town", name := "isWhole", desc := "(I)Z" } : MethodName)) ∈ gt := sg_4 119 rfl rfl
set_option maxRecDepth 8000 in
theorem tb_840 : (Cond.selects "OneSunbeam$Town" ({ cls := "OneSunbeam$Town", name := "isWhole", desc := "(I)Z" } : MethodName) ({ cls := "OneSunbeam$Town", name := "isWhole", desc := "(I)Z" } : MethodName)) ∈ gt := sg_4 120 rfl rfl
set_option maxRecDepth 8000 in
theorem tb_841 : (Cond.code ({ cls := "OneSunbeam$Town", name := "isWhole", desc := "(I)Z" } : MethodName) prog_10_method_21_code (2 : Nat) (Option.some FieldType.boolean)) ∈ gt := sg_4 121 rfl rfl
set_option maxRecDepth 8000 in
theorem tb_842 : (Cond.methodLink "OneSunbeam$Beams" (123 : Nat) ({ cls := "OneSunbeam$Beams", name := "passMirror", desc := "(LOneSunbeam$Town;III)I" } : MethodName)) ∈ gt := sg_4 122 rfl rfl
set_option maxRecDepth 8000 in
theorem tb_844 : (Cond.instanceMethod ({ cls := "OneSunbeam$Beams", name := "passMirror", desc := "(LOneSunbeam$Town;III)I" } : MethodName)) ∈ gt := sg_4 124 rfl rfl
set_option maxRecDepth 8000 in
theorem tb_845 : (Cond.code ({ cls := "OneSunbeam$Beams", name := "passMirror", desc := "(LOneSunbeam$Town;III)I" } : MethodName) prog_3_method_14_code (7 : Nat) (Option.some FieldType.int)) ∈ gt := sg_4 125 rfl rfl
set_option maxRecDepth 8000 in
theorem tb_846 : (Cond.methodLink "OneSunbeam$Beams" (139 : Nat) ({ cls := "OneSunbeam$Town", name := "lossOf", desc := "(I)I" } : MethodName)) ∈ gt := sg_4 126 rfl rfl
set_option maxRecDepth 8000 in
theorem tb_847 : (Cond.instanceMethod ({ cls := "OneSunbeam$Town", name := "lossOf", desc := "(I)I" } : MethodName)) ∈ gt := sg_4 127 rfl rfl
set_option maxRecDepth 8000 in
theorem tb_848 : (Cond.selects "OneSunbeam$Town" ({ cls := "OneSunbeam$Town", name := "lossOf", desc := "(I)I" } : MethodName) ({ cls := "OneSunbeam$Town", name := "lossOf", desc := "(I)I" } : MethodName)) ∈ gt := sg_4 128 rfl rfl
set_option maxRecDepth 8000 in
theorem tb_849 : (Cond.code ({ cls := "OneSunbeam$Town", name := "lossOf", desc := "(I)I" } : MethodName) prog_10_method_23_code (3 : Nat) (Option.some FieldType.int)) ∈ gt := sg_4 129 rfl rfl
set_option maxRecDepth 8000 in
theorem tb_850 : (Cond.methodLink "OneSunbeam$Beams" (142 : Nat) ({ cls := "OneSunbeam$Town", name := "ofMirror", desc := "(II)I" } : MethodName)) ∈ gt := sg_4 130 rfl rfl
set_option maxRecDepth 8000 in
theorem tb_851 : (Cond.methodLink "OneSunbeam$Beams" (145 : Nat) ({ cls := "OneSunbeam$Beams", name := "letWait", desc := "(II)V" } : MethodName)) ∈ gt := sg_4 131 rfl rfl
set_option maxRecDepth 8000 in
theorem tb_853 : (Cond.instanceMethod ({ cls := "OneSunbeam$Beams", name := "letWait", desc := "(II)V" } : MethodName)) ∈ gt := sg_4 133 rfl rfl
set_option maxRecDepth 8000 in
theorem tb_854 : (Cond.code ({ cls := "OneSunbeam$Beams", name := "letWait", desc := "(II)V" } : MethodName) prog_3_method_15_code (4 : Nat) (Option.none : Option FieldType)) ∈ gt := sg_4 134 rfl rfl
set_option maxRecDepth 8000 in
theorem tb_855 : (Cond.methodLink "OneSunbeam$Beams" (127 : Nat) ({ cls := "OneSunbeam$Town", name := "wayFrom", desc := "(II)I" } : MethodName)) ∈ gt := sg_4 135 rfl rfl
set_option maxRecDepth 8000 in
theorem tb_856 : (Cond.instanceMethod ({ cls := "OneSunbeam$Town", name := "wayFrom", desc := "(II)I" } : MethodName)) ∈ gt := sg_4 136 rfl rfl
set_option maxRecDepth 8000 in
theorem tb_857 : (Cond.selects "OneSunbeam$Town" ({ cls := "OneSunbeam$Town", name := "wayFrom", desc := "(II)I" } : MethodName) ({ cls := "OneSunbeam$Town", name := "wayFrom", desc := "(II)I" } : MethodName)) ∈ gt := sg_4 137 rfl rfl
set_option maxRecDepth 8000 in
theorem tb_858 : (Cond.code ({ cls := "OneSunbeam$Town", name := "wayFrom", desc := "(II)I" } : MethodName) prog_10_method_24_code (3 : Nat) (Option.some FieldType.int)) ∈ gt := sg_4 138 rfl rfl
set_option maxRecDepth 8000 in
theorem tb_863 : (Cond.methodLink "OneSunbeam$Keepers" (49 : Nat) ({ cls := "OneSunbeam$Beams", name := "firstBlind", desc := "(LOneSunbeam$Town;)I" } : MethodName)) ∈ gt := sg_4 143 rfl rfl
set_option maxRecDepth 8000 in
theorem tb_864 : (Cond.instanceMethod ({ cls := "OneSunbeam$Beams", name := "firstBlind", desc := "(LOneSunbeam$Town;)I" } : MethodName)) ∈ gt := sg_4 144 rfl rfl
set_option maxRecDepth 8000 in
theorem tb_865 : (Cond.selects "OneSunbeam$Beams" ({ cls := "OneSunbeam$Beams", name := "firstBlind", desc := "(LOneSunbeam$Town;)I" } : MethodName) ({ cls := "OneSunbeam$Beams", name := "firstBlind", desc := "(LOneSunbeam$Town;)I" } : MethodName)) ∈ gt := sg_4 145 rfl rfl
set_option maxRecDepth 8000 in
theorem tb_866 : (Cond.code ({ cls := "OneSunbeam$Beams", name := "firstBlind", desc := "(LOneSunbeam$Town;)I" } : MethodName) prog_3_method_8_code (3 : Nat) (Option.some FieldType.int)) ∈ gt := sg_4 146 rfl rfl
set_option maxRecDepth 8000 in
theorem tb_867 : (Cond.methodLink "OneSunbeam$Beams" (76 : Nat) ({ cls := "OneSunbeam$Beams", name := "isBlind", desc := "(LOneSunbeam$Town;I)Z" } : MethodName)) ∈ gt := sg_4 147 rfl rfl
set_option maxRecDepth 8000 in
theorem tb_869 : (Cond.instanceMethod ({ cls := "OneSunbeam$Beams", name := "isBlind", desc := "(LOneSunbeam$Town;I)Z" } : MethodName)) ∈ gt := sg_4 149 rfl rfl
set_option maxRecDepth 8000 in
theorem tb_870 : (Cond.code ({ cls := "OneSunbeam$Beams", name := "isBlind", desc := "(LOneSunbeam$Town;I)Z" } : MethodName) prog_3_method_9_code (3 : Nat) (Option.some FieldType.boolean)) ∈ gt := sg_4 150 rfl rfl
set_option maxRecDepth 8000 in
theorem tb_871 : (Cond.methodLink "OneSunbeam$Keepers" (53 : Nat) ({ cls := "OneSunbeam$Beams", name := "shine", desc := "(LOneSunbeam$Town;I)V" } : MethodName)) ∈ gt := sg_4 151 rfl rfl
set_option maxRecDepth 8000 in
theorem tb_872 : (Cond.methodLink "OneSunbeam$Keepers" (56 : Nat) ({ cls := "OneSunbeam$Keepers", name := "addToday", desc := "()V" } : MethodName)) ∈ gt := sg_4 152 rfl rfl
set_option maxRecDepth 8000 in
theorem tb_874 : (Cond.instanceMethod ({ cls := "OneSunbeam$Keepers", name := "addToday", desc := "()V" } : MethodName)) ∈ gt := sg_4 154 rfl rfl
set_option maxRecDepth 8000 in
theorem tb_875 : (Cond.code ({ cls := "OneSunbeam$Keepers", name := "addToday", desc := "()V" } : MethodName) prog_4_method_4_code (2 : Nat) (Option.none : Option FieldType)) ∈ gt := sg_4 155 rfl rfl
set_option maxRecDepth 8000 in
theorem tb_876 : (Cond.methodLink "OneSunbeam$Keepers" (59 : Nat) ({ cls := "OneSunbeam$Town", name := "endDay", desc := "([I)V" } : MethodName)) ∈ gt := sg_4 156 rfl rfl
set_option maxRecDepth 8000 in
theorem tb_877 : (Cond.instanceMethod ({ cls := "OneSunbeam$Town", name := "endDay", desc := "([I)V" } : MethodName)) ∈ gt := sg_4 157 rfl rfl
set_option maxRecDepth 8000 in
theorem tb_878 : (Cond.selects "OneSunbeam$Town" ({ cls := "OneSunbeam$Town", name := "endDay", desc := "([I)V" } : MethodName) ({ cls := "OneSunbeam$Town", name := "endDay", desc := "([I)V" } : MethodName)) ∈ gt := sg_4 158 rfl rfl
set_option maxRecDepth 8000 in
theorem tb_879 : (Cond.code ({ cls := "OneSunbeam$Town", name := "endDay", desc := "([I)V" } : MethodName) prog_10_method_28_code (3 : Nat) (Option.none : Option FieldType)) ∈ gt := sg_4 159 rfl rfl
set_option maxRecDepth 8000 in
theorem tb_880 : (Cond.methodLink "OneSunbeam" (197 : Nat) ({ cls := "OneSunbeam$Town", name := "metCount", desc := "()I" } : MethodName)) ∈ gt := sg_4 160 rfl rfl
set_option maxRecDepth 8000 in
theorem tb_881 : (Cond.instanceMethod ({ cls := "OneSunbeam$Town", name := "metCount", desc := "()I" } : MethodName)) ∈ gt := sg_4 161 rfl rfl
set_option maxRecDepth 8000 in
theorem tb_882 : (Cond.selects "OneSunbeam$Town" ({ cls := "OneSunbeam$Town", name := "metCount", desc := "()I" } : MethodName) ({ cls := "OneSunbeam$Town", name := "metCount", desc := "()I" } : MethodName)) ∈ gt := sg_4 162 rfl rfl
set_option maxRecDepth 8000 in
theorem tb_883 : (Cond.code ({ cls := "OneSunbeam$Town", name := "metCount", desc := "()I" } : MethodName) prog_10_method_29_code (3 : Nat) (Option.some FieldType.int)) ∈ gt := sg_4 163 rfl rfl
set_option maxRecDepth 8000 in
theorem tb_884 : (Cond.methodLink "OneSunbeam$Town" (94 : Nat) ({ cls := "OneSunbeam$Town", name := "ofYard", desc := "(II)I" } : MethodName)) ∈ gt := sg_4 164 rfl rfl
set_option maxRecDepth 8000 in
theorem tb_885 : (Cond.methodLink "OneSunbeamLaw" (75 : Nat) ({ cls := "OneSunbeam", name := "mirrors", desc := "(II)I" } : MethodName)) ∈ gt := sg_4 165 rfl rfl
set_option maxRecDepth 8000 in
theorem tb_886 : (Cond.instanceMethod ({ cls := "OneSunbeam", name := "mirrors", desc := "(II)I" } : MethodName)) ∈ gt := sg_4 166 rfl rfl
set_option maxRecDepth 8000 in
theorem tb_887 : (Cond.selects "OneSunbeam" ({ cls := "OneSunbeam", name := "mirrors", desc := "(II)I" } : MethodName) ({ cls := "OneSunbeam", name := "mirrors", desc := "(II)I" } : MethodName)) ∈ gt := sg_4 167 rfl rfl
set_option maxRecDepth 8000 in
theorem tb_888 : (Cond.code ({ cls := "OneSunbeam", name := "mirrors", desc := "(II)I" } : MethodName) prog_1_method_15_code (3 : Nat) (Option.some FieldType.int)) ∈ gt := sg_4 168 rfl rfl
set_option maxRecDepth 8000 in
theorem tb_889 : (Cond.methodLink "OneSunbeamLaw" (79 : Nat) ({ cls := "OneSunbeam", name := "yards", desc := "(II)I" } : MethodName)) ∈ gt := sg_4 169 rfl rfl
set_option maxRecDepth 8000 in
theorem tb_890 : (Cond.instanceMethod ({ cls := "OneSunbeam", name := "yards", desc := "(II)I" } : MethodName)) ∈ gt := sg_4 170 rfl rfl
set_option maxRecDepth 8000 in
theorem tb_891 : (Cond.selects "OneSunbeam" ({ cls := "OneSunbeam", name := "yards", desc := "(II)I" } : MethodName) ({ cls := "OneSunbeam", name := "yards", desc := "(II)I" } : MethodName)) ∈ gt := sg_4 171 rfl rfl
set_option maxRecDepth 8000 in
theorem tb_892 : (Cond.code ({ cls := "OneSunbeam", name := "yards", desc := "(II)I" } : MethodName) prog_1_method_16_code (3 : Nat) (Option.some FieldType.int)) ∈ gt := sg_4 172 rfl rfl
set_option maxRecDepth 8000 in
theorem tb_893 : (Cond.methodLink "OneSunbeam" (204 : Nat) ({ cls := "OneSunbeam$Town", name := "hasYard", desc := "(I)Z" } : MethodName)) ∈ gt := sg_4 173 rfl rfl
set_option maxRecDepth 8000 in
theorem tb_894 : (Cond.instanceMethod ({ cls := "OneSunbeam$Town", name := "hasYard", desc := "(I)Z" } : MethodName)) ∈ gt := sg_4 174 rfl rfl
set_option maxRecDepth 8000 in
theorem tb_895 : (Cond.selects "OneSunbeam$Town" ({ cls := "OneSunbeam$Town", name := "hasYard", desc := "(I)Z" } : MethodName) ({ cls := "OneSunbeam$Town", name := "hasYard", desc := "(I)Z" } : MethodName)) ∈ gt := sg_4 175 rfl rfl
set_option maxRecDepth 8000 in
theorem tb_896 : (Cond.code ({ cls := "OneSunbeam$Town", name := "hasYard", desc := "(I)Z" } : MethodName) prog_10_method_9_code (2 : Nat) (Option.some FieldType.boolean)) ∈ gt := sg_4 176 rfl rfl
set_option maxRecDepth 8000 in
theorem tb_897 : (Cond.methodLink "OneSunbeam" (207 : Nat) ({ cls := "OneSunbeam$Town", name := "ofYard", desc := "(II)I" } : MethodName)) ∈ gt := sg_4 177 rfl rfl
set_option maxRecDepth 8000 in
theorem tb_898 : (Cond.methodLink "OneSunbeamLaw" (83 : Nat) ({ cls := "OneSunbeam", name := "cell", desc := "(III)I" } : MethodName)) ∈ gt := sg_4 178 rfl rfl
set_option maxRecDepth 8000 in
theorem tb_899 : (Cond.instanceMethod ({ cls := "OneSunbeam", name := "cell", desc := "(III)I" } : MethodName)) ∈ gt := sg_4 179 rfl rfl
set_option maxRecDepth 8000 in
theorem tb_900 : (Cond.selects "OneSunbeam" ({ cls := "OneSunbeam", name := "cell", desc := "(III)I" } : MethodName) ({ cls := "OneSunbeam", name := "cell", desc := "(III)I" } : MethodName)) ∈ gt := sg_4 180 rfl rfl
set_option maxRecDepth 8000 in
theorem tb_901 : (Cond.code ({ cls := "OneSunbeam", name := "cell", desc := "(III)I" } : MethodName) prog_1_method_17_code (5 : Nat) (Option.some FieldType.int)) ∈ gt := sg_4 181 rfl rfl
set_option maxRecDepth 8000 in
theorem tb_902 : (Cond.methodLink "OneSunbeamLaw" (87 : Nat) ({ cls := "OneSunbeam", name := "gets", desc := "(II)I" } : MethodName)) ∈ gt := sg_4 182 rfl rfl
set_option maxRecDepth 8000 in
theorem tb_903 : (Cond.instanceMethod ({ cls := "OneSunbeam", name := "gets", desc := "(II)I" } : MethodName)) ∈ gt := sg_4 183 rfl rfl
set_option maxRecDepth 8000 in
theorem tb_904 : (Cond.selects "OneSunbeam" ({ cls := "OneSunbeam", name := "gets", desc := "(II)I" } : MethodName) ({ cls := "OneSunbeam", name := "gets", desc := "(II)I" } : MethodName)) ∈ gt := sg_4 184 rfl rfl
set_option maxRecDepth 8000 in
theorem tb_905 : (Cond.code ({ cls := "OneSunbeam", name := "gets", desc := "(II)I" } : MethodName) prog_1_method_18_code (3 : Nat) (Option.some FieldType.int)) ∈ gt := sg_4 185 rfl rfl
set_option maxRecDepth 8000 in
theorem tb_906 : (Cond.methodLink "OneSunbeam" (216 : Nat) ({ cls := "OneSunbeam$Town", name := "isLit", desc := "(I)Z" } : MethodName)) ∈ gt := sg_4 186 rfl rfl
set_option maxRecDepth 8000 in
theorem tb_907 : (Cond.methodLink "OneSunbeam" (219 : Nat) ({ cls := "OneSunbeam$Beams", name := "shine", desc := "(LOneSunbeam$Town;I)V" } : MethodName)) ∈ gt := sg_4 187 rfl rfl
set_option maxRecDepth 8000 in
theorem tb_908 : (Cond.methodLink "OneSunbeamLaw" (91 : Nat) ({ cls := "OneSunbeam", name := "light", desc := "(II)I" } : MethodName)) ∈ gt := sg_4 188 rfl rfl
set_option maxRecDepth 8000 in
theorem tb_909 : (Cond.instanceMethod ({ cls := "OneSunbeam", name := "light", desc := "(II)I" } : MethodName)) ∈ gt := sg_4 189 rfl rfl
set_option maxRecDepth 8000 in
theorem tb_910 : (Cond.selects "OneSunbeam" ({ cls := "OneSunbeam", name := "light", desc := "(II)I" } : MethodName) ({ cls := "OneSunbeam", name := "light", desc := "(II)I" } : MethodName)) ∈ gt := sg_4 190 rfl rfl
set_option maxRecDepth 8000 in
theorem tb_911 : (Cond.code ({ cls := "OneSunbeam", name := "light", desc := "(II)I" } : MethodName) prog_1_method_19_code (3 : Nat) (Option.some FieldType.int)) ∈ gt := sg_4 191 rfl rfl
set_option maxRecDepth 8000 in
theorem tb_912 : (Cond.methodLink "OneSunbeam" (226 : Nat) ({ cls := "OneSunbeam$Beams", name := "shineWatched", desc := "(LOneSunbeam$Town;I)V" } : MethodName)) ∈ gt := sg_4 192 rfl rfl
set_option maxRecDepth 8000 in
theorem tb_913 : (Cond.methodLink "OneSunbeam" (229 : Nat) ({ cls := "OneSunbeam$Beams", name := "total", desc := "()I" } : MethodName)) ∈ gt := sg_4 193 rfl rfl
set_option maxRecDepth 8000 in
theorem tb_914 : (Cond.instanceMethod ({ cls := "OneSunbeam$Beams", name := "total", desc := "()I" } : MethodName)) ∈ gt := sg_4 194 rfl rfl
set_option maxRecDepth 8000 in
theorem tb_915 : (Cond.selects "OneSunbeam$Beams" ({ cls := "OneSunbeam$Beams", name := "total", desc := "()I" } : MethodName) ({ cls := "OneSunbeam$Beams", name := "total", desc := "()I" } : MethodName)) ∈ gt := sg_4 195 rfl rfl
set_option maxRecDepth 8000 in
theorem tb_916 : (Cond.code ({ cls := "OneSunbeam$Beams", name := "total", desc := "()I" } : MethodName) prog_3_method_4_code (3 : Nat) (Option.some FieldType.int)) ∈ gt := sg_4 196 rfl rfl
set_option maxRecDepth 8000 in
theorem tb_917 : (Cond.methodLink "OneSunbeam" (244 : Nat) ({ cls := "OneSunbeam$Beams", name := "blindCount", desc := "(LOneSunbeam$Town;)I" } : MethodName)) ∈ gt := sg_4 197 rfl rfl
set_option maxRecDepth 8000 in
theorem tb_918 : (Cond.instanceMethod ({ cls := "OneSunbeam$Beams", name := "blindCount", desc := "(LOneSunbeam$Town;)I" } : MethodName)) ∈ gt := sg_4 198 rfl rfl
set_option maxRecDepth 8000 in
theorem tb_919 : (Cond.selects "OneSunbeam$Beams" ({ cls := "OneSunbeam$Beams", name := "blindCount", desc := "(LOneSunbeam$Town;)I" } : MethodName) ({ cls := "OneSunbeam$Beams", name := "blindCount", desc := "(LOneSunbeam$Town;)I" } : MethodName)) ∈ gt := sg_4 199 rfl rfl
set_option maxRecDepth 8000 in
theorem tb_920 : (Cond.code ({ cls := "OneSunbeam$Beams", name := "blindCount", desc := "(LOneSunbeam$Town;)I" } : MethodName) prog_3_method_7_code (4 : Nat) (Option.some FieldType.int)) ∈ gt := sg_4 200 rfl rfl
set_option maxRecDepth 8000 in
theorem tb_921 : (Cond.methodLink "OneSunbeam" (248 : Nat) ({ cls := "OneSunbeam$Beams", name := "firstBlind", desc := "(LOneSunbeam$Town;)I" } : MethodName)) ∈ gt := sg_4 201 rfl rfl
set_option maxRecDepth 8000 in
theorem tb_922 : (Cond.methodLink "OneSunbeamLaw" (95 : Nat) ({ cls := "OneSunbeam", name := "passes", desc := "(III)I" } : MethodName)) ∈ gt := sg_4 202 rfl rfl
set_option maxRecDepth 8000 in
theorem tb_923 : (Cond.instanceMethod ({ cls := "OneSunbeam", name := "passes", desc := "(III)I" } : MethodName)) ∈ gt := sg_4 203 rfl rfl
set_option maxRecDepth 8000 in
theorem tb_924 : (Cond.selects "OneSunbeam" ({ cls := "OneSunbeam", name := "passes", desc := "(III)I" } : MethodName) ({ cls := "OneSunbeam", name := "passes", desc := "(III)I" } : MethodName)) ∈ gt := sg_4 204 rfl rfl
set_option maxRecDepth 8000 in
theorem tb_925 : (Cond.code ({ cls := "OneSunbeam", name := "passes", desc := "(III)I" } : MethodName) prog_1_method_20_code (4 : Nat) (Option.some FieldType.int)) ∈ gt := sg_4 205 rfl rfl
set_option maxRecDepth 8000 in
theorem tb_926 : (Cond.methodLink "OneSunbeamLaw" (99 : Nat) ({ cls := "OneSunbeam", name := "sees", desc := "(II)I" } : MethodName)) ∈ gt := sg_4 206 rfl rfl
set_option maxRecDepth 8000 in
theorem tb_927 : (Cond.instanceMethod ({ cls := "OneSunbeam", name := "sees", desc := "(II)I" } : MethodName)) ∈ gt := sg_4 207 rfl rfl
set_option maxRecDepth 8000 in
theorem tb_928 : (Cond.selects "OneSunbeam" ({ cls := "OneSunbeam", name := "sees", desc := "(II)I" } : MethodName) ({ cls := "OneSunbeam", name := "sees", desc := "(II)I" } : MethodName)) ∈ gt := sg_4 208 rfl rfl
set_option maxRecDepth 8000 in
theorem tb_929 : (Cond.code ({ cls := "OneSunbeam", name := "sees", desc := "(II)I" } : MethodName) prog_1_method_21_code (6 : Nat) (Option.some FieldType.int)) ∈ gt := sg_4 209 rfl rfl
set_option maxRecDepth 8000 in
theorem tb_930 : (Cond.methodLink "OneSunbeam" (254 : Nat) ({ cls := "java/lang/System", name := "arraycopy", desc := "(Ljava/lang/Object;ILjava/lang/Object;II)V" } : MethodName)) ∈ gt := sg_4 210 rfl rfl
set_option maxRecDepth 8000 in
theorem tb_931 : (Cond.methodLink "OneSunbeamLaw" (103 : Nat) ({ cls := "OneSunbeam", name := "worth", desc := "(II)I" } : MethodName)) ∈ gt := sg_4 211 rfl rfl
set_option maxRecDepth 8000 in
theorem tb_932 : (Cond.instanceMethod ({ cls := "OneSunbeam", name := "worth", desc := "(II)I" } : MethodName)) ∈ gt := sg_4 212 rfl rfl
set_option maxRecDepth 8000 in
theorem tb_933 : (Cond.selects "OneSunbeam" ({ cls := "OneSunbeam", name := "worth", desc := "(II)I" } : MethodName) ({ cls := "OneSunbeam", name := "worth", desc := "(II)I" } : MethodName)) ∈ gt := sg_4 213 rfl rfl
set_option maxRecDepth 8000 in
theorem tb_934 : (Cond.code ({ cls := "OneSunbeam", name := "worth", desc := "(II)I" } : MethodName) prog_1_method_22_code (3 : Nat) (Option.some FieldType.int)) ∈ gt := sg_4 214 rfl rfl
set_option maxRecDepth 8000 in
theorem tb_935 : (Cond.constant "OneSunbeam" (260 : Nat) (-1000000 : Int32)) ∈ gt := sg_4 215 rfl rfl
set_option maxRecDepth 8000 in
theorem tb_936 : (Cond.methodLink "OneSunbeam" (261 : Nat) ({ cls := "OneSunbeam", name := "worthOfSet", desc := "(II)I" } : MethodName)) ∈ gt := sg_4 216 rfl rfl
set_option maxRecDepth 8000 in
theorem tb_938 : (Cond.instanceMethod ({ cls := "OneSunbeam", name := "worthOfSet", desc := "(II)I" } : MethodName)) ∈ gt := sg_4 218 rfl rfl
set_option maxRecDepth 8000 in
theorem tb_939 : (Cond.code ({ cls := "OneSunbeam", name := "worthOfSet", desc := "(II)I" } : MethodName) prog_1_method_42_code (5 : Nat) (Option.some FieldType.int)) ∈ gt := sg_4 219 rfl rfl
set_option maxRecDepth 8000 in
theorem tb_940 : (Cond.methodLink "OneSunbeam" (264 : Nat) ({ cls := "OneSunbeam$Town", name := "mirrorsWith", desc := "(II)I" } : MethodName)) ∈ gt := sg_4 220 rfl rfl
set_option maxRecDepth 8000 in
theorem tb_941 : (Cond.instanceMethod ({ cls := "OneSunbeam$Town", name := "mirrorsWith", desc := "(II)I" } : MethodName)) ∈ gt := sg_4 221 rfl rfl
set_option maxRecDepth 8000 in
theorem tb_942 : (Cond.selects "OneSunbeam$Town" ({ cls := "OneSunbeam$Town", name := "mirrorsWith", desc := "(II)I" } : MethodName) ({ cls := "OneSunbeam$Town", name := "mirrorsWith", desc := "(II)I" } : MethodName)) ∈ gt := sg_4 222 rfl rfl
set_option maxRecDepth 8000 in
theorem tb_943 : (Cond.code ({ cls := "OneSunbeam$Town", name := "mirrorsWith", desc := "(II)I" } : MethodName) prog_10_method_25_code (5 : Nat) (Option.some FieldType.int)) ∈ gt := sg_4 223 rfl rfl
set_option maxRecDepth 8000 in
theorem tb_944 : (Cond.methodLink "OneSunbeam" (332 : Nat) ({ cls := "OneSunbeam$Town", name := "setBroken", desc := "(II)V" } : MethodName)) ∈ gt := sg_4 224 rfl rfl
set_option maxRecDepth 8000 in
theorem tb_945 : (Cond.instanceMethod ({ cls := "OneSunbeam$Town", name := "setBroken", desc := "(II)V" } : MethodName)) ∈ gt := sg_4 225 rfl rfl
set_option maxRecDepth 8000 in
theorem tb_946 : (Cond.selects "OneSunbeam$Town" ({ cls := "OneSunbeam$Town", name := "setBroken", desc := "(II)V" } : MethodName) ({ cls := "OneSunbeam$Town", name := "setBroken", desc := "(II)V" } : MethodName)) ∈ gt := sg_4 226 rfl rfl
set_option maxRecDepth 8000 in
theorem tb_947 : (Cond.code ({ cls := "OneSunbeam$Town", name := "setBroken", desc := "(II)V" } : MethodName) prog_10_method_26_code (4 : Nat) (Option.none : Option FieldType)) ∈ gt := sg_4 227 rfl rfl
set_option maxRecDepth 8000 in
theorem tb_948 : (Cond.methodLink "OneSunbeamLaw" (107 : Nat) ({ cls := "OneSunbeam", name := "owned", desc := "(II)I" } : MethodName)) ∈ gt := sg_4 228 rfl rfl
set_option maxRecDepth 8000 in
theorem tb_949 : (Cond.instanceMethod ({ cls := "OneSunbeam", name := "owned", desc := "(II)I" } : MethodName)) ∈ gt := sg_4 229 rfl rfl
set_option maxRecDepth 8000 in
theorem tb_950 : (Cond.selects "OneSunbeam" ({ cls := "OneSunbeam", name := "owned", desc := "(II)I" } : MethodName) ({ cls := "OneSunbeam", name := "owned", desc := "(II)I" } : MethodName)) ∈ gt := sg_4 230 rfl rfl
set_option maxRecDepth 8000 in
theorem tb_951 : (Cond.code ({ cls := "OneSunbeam", name := "owned", desc := "(II)I" } : MethodName) prog_1_method_23_code (3 : Nat) (Option.some FieldType.int)) ∈ gt := sg_4 231 rfl rfl
set_option maxRecDepth 8000 in
theorem tb_952 : (Cond.methodLink "OneSunbeamLaw" (111 : Nat) ({ cls := "OneSunbeam", name := "aim", desc := "(IIII)I" } : MethodName)) ∈ gt := sg_4 232 rfl rfl
set_option maxRecDepth 8000 in
theorem tb_953 : (Cond.instanceMethod ({ cls := "OneSunbeam", name := "aim", desc := "(IIII)I" } : MethodName)) ∈ gt := sg_4 233 rfl rfl
set_option maxRecDepth 8000 in
theorem tb_954 : (Cond.selects "OneSunbeam" ({ cls := "OneSunbeam", name := "aim", desc := "(IIII)I" } : MethodName) ({ cls := "OneSunbeam", name := "aim", desc := "(IIII)I" } : MethodName)) ∈ gt := sg_4 234 rfl rfl
set_option maxRecDepth 8000 in
theorem tb_955 : (Cond.code ({ cls := "OneSunbeam", name := "aim", desc := "(IIII)I" } : MethodName) prog_1_method_24_code (5 : Nat) (Option.some FieldType.int)) ∈ gt := sg_4 235 rfl rfl
set_option maxRecDepth 8000 in
theorem tb_956 : (Cond.methodLink "OneSunbeam" (267 : Nat) ({ cls := "OneSunbeam", name := "isPlaceOfSet", desc := "(II)Z" } : MethodName)) ∈ gt := sg_4 236 rfl rfl
set_option maxRecDepth 8000 in
theorem tb_958 : (Cond.instanceMethod ({ cls := "OneSunbeam", name := "isPlaceOfSet", desc := "(II)Z" } : MethodName)) ∈ gt := sg_4 238 rfl rfl
set_option maxRecDepth 8000 in
theorem tb_959 : (Cond.code ({ cls := "OneSunbeam", name := "isPlaceOfSet", desc := "(II)Z" } : MethodName) prog_1_method_41_code (4 : Nat) (Option.some FieldType.boolean)) ∈ gt := sg_4 239 rfl rfl
set_option maxRecDepth 8000 in
theorem tb_960 : (Cond.methodLink "OneSunbeam" (327 : Nat) ({ cls := "java/lang/Integer", name := "bitCount", desc := "(I)I" } : MethodName)) ∈ gt := sg_5 0 rfl rfl
set_option maxRecDepth 8000 in
theorem tb_961 : (Cond.static ({ cls := "java/lang/Integer", name := "bitCount", desc := "(I)I" } : MethodName)) ∈ gt := sg_5 1 rfl rfl
set_option maxRecDepth 8000 in
theorem tb_962 : (Cond.code ({ cls := "java/lang/Integer", name := "bitCount", desc := "(I)I" } : MethodName) prog_13_method_49_code (1 : Nat) (Option.some FieldType.int)) ∈ gt := sg_5 2 rfl rfl
set_option maxRecDepth 8000 in
theorem tb_963 : (Cond.constant "java/lang/Integer" (265 : Nat) (1431655765 : Int32)) ∈ gt := sg_5 3 rfl rfl
set_option maxRecDepth 8000 in
theorem tb_964 : (Cond.constant "java/lang/Integer" (266 : Nat) (858993459 : Int32)) ∈ gt := sg_5 4 rfl rfl
set_option maxRecDepth 8000 in
theorem tb_965 : (Cond.constant "java/lang/Integer" (267 : Nat) (252645135 : Int32)) ∈ gt := sg_5 5 rfl rfl
set_option maxRecDepth 8000 in
theorem tb_966 : (Cond.methodLink "OneSunbeam" (270 : Nat) ({ cls := "OneSunbeam$Aiming", name := "search", desc := "(LOneSunbeam$Town;III)V" } : MethodName)) ∈ gt := sg_5 6 rfl rfl
set_option maxRecDepth 8000 in
theorem tb_967 : (Cond.instanceMethod ({ cls := "OneSunbeam$Aiming", name := "search", desc := "(LOneSunbeam$Town;III)V" } : MethodName)) ∈ gt := sg_5 7 rfl rfl
set_option maxRecDepth 8000 in
theorem tb_968 : (Cond.selects "OneSunbeam$Aiming" ({ cls := "OneSunbeam$Aiming", name := "search", desc := "(LOneSunbeam$Town;III)V" } : MethodName) ({ cls := "OneSunbeam$Aiming", name := "search", desc := "(LOneSunbeam$Town;III)V" } : MethodName)) ∈ gt := sg_5 8 rfl rfl
set_option maxRecDepth 8000 in
theorem tb_969 : (Cond.code ({ cls := "OneSunbeam$Aiming", name := "search", desc := "(LOneSunbeam$Town;III)V" } : MethodName) prog_2_method_3_code (8 : Nat) (Option.none : Option FieldType)) ∈ gt := sg_5 9 rfl rfl
set_option maxRecDepth 8000 in
theorem tb_970 : (Cond.methodLink "OneSunbeam$Aiming" (39 : Nat) ({ cls := "OneSunbeam$Aiming", name := "gather", desc := "(LOneSunbeam$Town;I)V" } : MethodName)) ∈ gt := sg_5 10 rfl rfl
set_option maxRecDepth 8000 in
theorem tb_972 : (Cond.instanceMethod ({ cls := "OneSunbeam$Aiming", name := "gather", desc := "(LOneSunbeam$Town;I)V" } : MethodName)) ∈ gt := sg_5 12 rfl rfl
set_option maxRecDepth 8000 in
theorem tb_973 : (Cond.code ({ cls := "OneSunbeam$Aiming", name := "gather", desc := "(LOneSunbeam$Town;I)V" } : MethodName) prog_2_method_4_code (4 : Nat) (Option.none : Option FieldType)) ∈ gt := sg_5 13 rfl rfl
set_option maxRecDepth 8000 in
theorem tb_974 : (Cond.methodLink "OneSunbeam$Aiming" (78 : Nat) ({ cls := "OneSunbeam$Town", name := "ofMirror", desc := "(II)I" } : MethodName)) ∈ gt := sg_5 14 rfl rfl
set_option maxRecDepth 8000 in
theorem tb_975 : (Cond.methodLink "OneSunbeam$Aiming" (43 : Nat) ({ cls := "OneSunbeam$Aiming", name := "putSlants", desc := "(LOneSunbeam$Town;[I)V" } : MethodName)) ∈ gt := sg_5 15 rfl rfl
set_option maxRecDepth 8000 in
theorem tb_977 : (Cond.instanceMethod ({ cls := "OneSunbeam$Aiming", name := "putSlants", desc := "(LOneSunbeam$Town;[I)V" } : MethodName)) ∈ gt := sg_5 17 rfl rfl
set_option maxRecDepth 8000 in
theorem tb_978 : (Cond.code ({ cls := "OneSunbeam$Aiming", name := "putSlants", desc := "(LOneSunbeam$Town;[I)V" } : MethodName) prog_2_method_5_code (4 : Nat) (Option.none : Option FieldType)) ∈ gt := sg_5 18 rfl rfl
set_option maxRecDepth 8000 in
theorem tb_979 : (Cond.methodLink "OneSunbeam$Aiming" (82 : Nat) ({ cls := "OneSunbeam$Town", name := "setMirror", desc := "(III)V" } : MethodName)) ∈ gt := sg_5 19 rfl rfl
set_option maxRecDepth 8000 in
theorem tb_980 : (Cond.methodLink "OneSunbeam$Aiming" (47 : Nat) ({ cls := "OneSunbeam$Beams", name := "shine", desc := "(LOneSunbeam$Town;I)V" } : MethodName)) ∈ gt := sg_5 20 rfl rfl
set_option maxRecDepth 8000 in
theorem tb_981 : (Cond.methodLink "OneSunbeam$Aiming" (52 : Nat) ({ cls := "OneSunbeam$Aiming", name := "leastGot", desc := "(LOneSunbeam$Town;)I" } : MethodName)) ∈ gt := sg_5 21 rfl rfl
set_option maxRecDepth 8000 in
theorem tb_983 : (Cond.instanceMethod ({ cls := "OneSunbeam$Aiming", name := "leastGot", desc := "(LOneSunbeam$Town;)I" } : MethodName)) ∈ gt := sg_5 23 rfl rfl
set_option maxRecDepth 8000 in
theorem tb_984 : (Cond.code ({ cls := "OneSunbeam$Aiming", name := "leastGot", desc := "(LOneSunbeam$Town;)I" } : MethodName) prog_2_method_8_code (7 : Nat) (Option.some FieldType.int)) ∈ gt := sg_5 24 rfl rfl
set_option maxRecDepth 8000 in
theorem tb_985 : (Cond.methodLink "OneSunbeam$Aiming" (92 : Nat) ({ cls := "OneSunbeam$Town", name := "ofYard", desc := "(II)I" } : MethodName)) ∈ gt := sg_5 25 rfl rfl
set_option maxRecDepth 8000 in
theorem tb_986 : (Cond.methodLink "OneSunbeam$Aiming" (59 : Nat) ({ cls := "java/lang/System", name := "arraycopy", desc := "(Ljava/lang/Object;ILjava/lang/Object;II)V" } : MethodName)) ∈ gt := sg_5 26 rfl rfl
set_option maxRecDepth 8000 in
theorem tb_987 : (Cond.methodLink "OneSunbeam$Aiming" (65 : Nat) ({ cls := "OneSunbeam$Aiming", name := "lastTouched", desc := "()I" } : MethodName)) ∈ gt := sg_5 27 rfl rfl
set_option maxRecDepth 8000 in
theorem tb_989 : (Cond.instanceMethod ({ cls := "OneSunbeam$Aiming", name := "lastTouched", desc := "()I" } : MethodName)) ∈ gt := sg_5 29 rfl rfl
set_option maxRecDepth 8000 in
theorem tb_990 : (Cond.code ({ cls := "OneSunbeam$Aiming", name := "lastTouched", desc := "()I" } : MethodName) prog_2_method_6_code (2 : Nat) (Option.some FieldType.int)) ∈ gt := sg_5 30 rfl rfl
set_option maxRecDepth 8000 in
theorem tb_991 : (Cond.methodLink "OneSunbeam$Aiming" (86 : Nat) ({ cls := "OneSunbeam$Beams", name := "touches", desc := "(I)Z" } : MethodName)) ∈ gt := sg_5 31 rfl rfl
set_option maxRecDepth 8000 in
theorem tb_992 : (Cond.instanceMethod ({ cls := "OneSunbeam$Beams", name := "touches", desc := "(I)Z" } : MethodName)) ∈ gt := sg_5 32 rfl rfl
set_option maxRecDepth 8000 in
theorem tb_993 : (Cond.selects "OneSunbeam$Beams" ({ cls := "OneSunbeam$Beams", name := "touches", desc := "(I)Z" } : MethodName) ({ cls := "OneSunbeam$Beams", name := "touches", desc := "(I)Z" } : MethodName)) ∈ gt := sg_5 33 rfl rfl
set_option maxRecDepth 8000 in
theorem tb_994 : (Cond.code ({ cls := "OneSunbeam$Beams", name := "touches", desc := "(I)Z" } : MethodName) prog_3_method_5_code (2 : Nat) (Option.some FieldType.boolean)) ∈ gt := sg_5 34 rfl rfl
set_option maxRecDepth 8000 in
theorem tb_995 : (Cond.methodLink "OneSunbeam$Aiming" (69 : Nat) ({ cls := "OneSunbeam$Aiming", name := "goOn", desc := "(I)Z" } : MethodName)) ∈ gt := sg_5 35 rfl rfl
set_option maxRecDepth 8000 in
theorem tb_997 : (Cond.instanceMethod ({ cls := "OneSunbeam$Aiming", name := "goOn", desc := "(I)Z" } : MethodName)) ∈ gt := sg_5 37 rfl rfl
set_option maxRecDepth 8000 in
theorem tb_998 : (Cond.code ({ cls := "OneSunbeam$Aiming", name := "goOn", desc := "(I)Z" } : MethodName) prog_2_method_7_code (3 : Nat) (Option.some FieldType.boolean)) ∈ gt := sg_5 38 rfl rfl
set_option maxRecDepth 8000 in
theorem tb_999 : (Cond.methodLink "OneSunbeam" (274 : Nat) ({ cls := "OneSunbeam$Aiming", name := "answer", desc := "(I)I" } : MethodName)) ∈ gt := sg_5 39 rfl rfl
set_option maxRecDepth 8000 in
theorem tb_1000 : (Cond.instanceMethod ({ cls := "OneSunbeam$Aiming", name := "answer", desc := "(I)I" } : MethodName)) ∈ gt := sg_5 40 rfl rfl
set_option maxRecDepth 8000 in
theorem tb_1001 : (Cond.selects "OneSunbeam$Aiming" ({ cls := "OneSunbeam$Aiming", name := "answer", desc := "(I)I" } : MethodName) ({ cls := "OneSunbeam$Aiming", name := "answer", desc := "(I)I" } : MethodName)) ∈ gt := sg_5 41 rfl rfl
set_option maxRecDepth 8000 in
theorem tb_1002 : (Cond.code ({ cls := "OneSunbeam$Aiming", name := "answer", desc := "(I)I" } : MethodName) prog_2_method_2_code (2 : Nat) (Option.some FieldType.int)) ∈ gt := sg_5 42 rfl rfl
set_option maxRecDepth 8000 in
theorem tb_1004 : (Cond.methodLink "OneSunbeamLaw" (116 : Nat) ({ cls := "OneSunbeam", name := "fair", desc := "(III)I" } : MethodName)) ∈ gt := sg_5 44 rfl rfl
set_option maxRecDepth 8000 in
theorem tb_1005 : (Cond.instanceMethod ({ cls := "OneSunbeam", name := "fair", desc := "(III)I" } : MethodName)) ∈ gt := sg_5 45 rfl rfl
set_option maxRecDepth 8000 in
theorem tb_1006 : (Cond.selects "OneSunbeam" ({ cls := "OneSunbeam", name := "fair", desc := "(III)I" } : MethodName) ({ cls := "OneSunbeam", name := "fair", desc := "(III)I" } : MethodName)) ∈ gt := sg_5 46 rfl rfl
set_option maxRecDepth 8000 in
theorem tb_1007 : (Cond.code ({ cls := "OneSunbeam", name := "fair", desc := "(III)I" } : MethodName) prog_1_method_25_code (4 : Nat) (Option.some FieldType.int)) ∈ gt := sg_5 47 rfl rfl
set_option maxRecDepth 8000 in
theorem tb_1008 : (Cond.methodLink "OneSunbeamLaw" (120 : Nat) ({ cls := "OneSunbeam", name := "mends", desc := "(III)I" } : MethodName)) ∈ gt := sg_5 48 rfl rfl
set_option maxRecDepth 8000 in
theorem tb_1009 : (Cond.instanceMethod ({ cls := "OneSunbeam", name := "mends", desc := "(III)I" } : MethodName)) ∈ gt := sg_5 49 rfl rfl
set_option maxRecDepth 8000 in
theorem tb_1010 : (Cond.selects "OneSunbeam" ({ cls := "OneSunbeam", name := "mends", desc := "(III)I" } : MethodName) ({ cls := "OneSunbeam", name := "mends", desc := "(III)I" } : MethodName)) ∈ gt := sg_5 50 rfl rfl
set_option maxRecDepth 8000 in
theorem tb_1011 : (Cond.code ({ cls := "OneSunbeam", name := "mends", desc := "(III)I" } : MethodName) prog_1_method_26_code (4 : Nat) (Option.some FieldType.int)) ∈ gt := sg_5 51 rfl rfl
set_option maxRecDepth 8000 in
theorem tb_1012 : (Cond.methodLink "OneSunbeam" (278 : Nat) ({ cls := "OneSunbeam$Mending", name := "begin", desc := "(II)V" } : MethodName)) ∈ gt := sg_5 52 rfl rfl
set_option maxRecDepth 8000 in
theorem tb_1013 : (Cond.instanceMethod ({ cls := "OneSunbeam$Mending", name := "begin", desc := "(II)V" } : MethodName)) ∈ gt := sg_5 53 rfl rfl
set_option maxRecDepth 8000 in
theorem tb_1014 : (Cond.selects "OneSunbeam$Mending" ({ cls := "OneSunbeam$Mending", name := "begin", desc := "(II)V" } : MethodName) ({ cls := "OneSunbeam$Mending", name := "begin", desc := "(II)V" } : MethodName)) ∈ gt := sg_5 54 rfl rfl
set_option maxRecDepth 8000 in
theorem tb_1015 : (Cond.code ({ cls := "OneSunbeam$Mending", name := "begin", desc := "(II)V" } : MethodName) prog_7_method_2_code (4 : Nat) (Option.none : Option FieldType)) ∈ gt := sg_5 55 rfl rfl
set_option maxRecDepth 8000 in
theorem tb_1016 : (Cond.methodLink "OneSunbeam$Mending" (36 : Nat) ({ cls := "OneSunbeam$Town", name := "ofMirror", desc := "(II)I" } : MethodName)) ∈ gt := sg_5 56 rfl rfl
set_option maxRecDepth 8000 in
theorem tb_1017 : (Cond.methodLink "OneSunbeam$Mending" (45 : Nat) ({ cls := "java/util/Arrays", name := "fill", desc := "([II)V" } : MethodName)) ∈ gt := sg_5 57 rfl rfl
set_option maxRecDepth 8000 in
theorem tb_1018 : (Cond.methodLink "OneSunbeam$Mending" (51 : Nat) ({ cls := "OneSunbeam$Beams", name := "shine", desc := "(LOneSunbeam$Town;I)V" } : MethodName)) ∈ gt := sg_5 58 rfl rfl
set_option maxRecDepth 8000 in
theorem tb_1019 : (Cond.methodLink "OneSunbeam$Mending" (60 : Nat) ({ cls := "OneSunbeam$Town", name := "setMirror", desc := "(III)V" } : MethodName)) ∈ gt := sg_5 59 rfl rfl
set_option maxRecDepth 8000 in
theorem tb_1020 : (Cond.methodLink "OneSunbeam" (281 : Nat) ({ cls := "OneSunbeam$Mending", name := "needsNone", desc := "()Z" } : MethodName)) ∈ gt := sg_5 60 rfl rfl
set_option maxRecDepth 8000 in
theorem tb_1021 : (Cond.instanceMethod ({ cls := "OneSunbeam$Mending", name := "needsNone", desc := "()Z" } : MethodName)) ∈ gt := sg_5 61 rfl rfl
set_option maxRecDepth 8000 in
theorem tb_1022 : (Cond.selects "OneSunbeam$Mending" ({ cls := "OneSunbeam$Mending", name := "needsNone", desc := "()Z" } : MethodName) ({ cls := "OneSunbeam$Mending", name := "needsNone", desc := "()Z" } : MethodName)) ∈ gt := sg_5 62 rfl rfl
set_option maxRecDepth 8000 in
theorem tb_1023 : (Cond.code ({ cls := "OneSunbeam$Mending", name := "needsNone", desc := "()Z" } : MethodName) prog_7_method_4_code (2 : Nat) (Option.some FieldType.boolean)) ∈ gt := sg_5 63 rfl rfl
set_option maxRecDepth 8000 in
theorem tb_1024 : (Cond.methodLink "OneSunbeam$Mending" (64 : Nat) ({ cls := "OneSunbeam$Mending", name := "isEnough", desc := "()Z" } : MethodName)) ∈ gt := sg_5 64 rfl rfl
set_option maxRecDepth 8000 in
theorem tb_1026 : (Cond.instanceMethod ({ cls := "OneSunbeam$Mending", name := "isEnough", desc := "()Z" } : MethodName)) ∈ gt := sg_5 66 rfl rfl
set_option maxRecDepth 8000 in
theorem tb_1027 : (Cond.code ({ cls := "OneSunbeam$Mending", name := "isEnough", desc := "()Z" } : MethodName) prog_7_method_7_code (2 : Nat) (Option.some FieldType.boolean)) ∈ gt := sg_5 67 rfl rfl
set_option maxRecDepth 8000 in
theorem tb_1028 : (Cond.methodLink "OneSunbeam$Mending" (68 : Nat) ({ cls := "OneSunbeam$Beams", name := "touchedSet", desc := "()I" } : MethodName)) ∈ gt := sg_5 68 rfl rfl
set_option maxRecDepth 8000 in
theorem tb_1029 : (Cond.instanceMethod ({ cls := "OneSunbeam$Beams", name := "touchedSet", desc := "()I" } : MethodName)) ∈ gt := sg_5 69 rfl rfl
set_option maxRecDepth 8000 in
theorem tb_1030 : (Cond.selects "OneSunbeam$Beams" ({ cls := "OneSunbeam$Beams", name := "touchedSet", desc := "()I" } : MethodName) ({ cls := "OneSunbeam$Beams", name := "touchedSet", desc := "()I" } : MethodName)) ∈ gt := sg_5 70 rfl rfl
set_option maxRecDepth 8000 in
theorem tb_1031 : (Cond.code ({ cls := "OneSunbeam$Beams", name := "touchedSet", desc := "()I" } : MethodName) prog_3_method_6_code (1 : Nat) (Option.some FieldType.int)) ∈ gt := sg_5 71 rfl rfl
set_option maxRecDepth 8000 in
theorem tb_1032 : (Cond.methodLink "OneSunbeam" (284 : Nat) ({ cls := "OneSunbeam$Mending", name := "findOne", desc := "()Z" } : MethodName)) ∈ gt := sg_5 72 rfl rfl
set_option maxRecDepth 8000 in
theorem tb_1033 : (Cond.instanceMethod ({ cls := "OneSunbeam$Mending", name := "findOne", desc := "()Z" } : MethodName)) ∈ gt := sg_5 73 rfl rfl
set_option maxRecDepth 8000 in
theorem tb_1034 : (Cond.selects "OneSunbeam$Mending" ({ cls := "OneSunbeam$Mending", name := "findOne", desc := "()Z" } : MethodName) ({ cls := "OneSunbeam$Mending", name := "findOne", desc := "()Z" } : MethodName)) ∈ gt := sg_5 74 rfl rfl
set_option maxRecDepth 8000 in
theorem tb_1035 : (Cond.code ({ cls := "OneSunbeam$Mending", name := "findOne", desc := "()Z" } : MethodName) prog_7_method_5_code (4 : Nat) (Option.some FieldType.boolean)) ∈ gt := sg_5 75 rfl rfl
set_option maxRecDepth 8000 in
theorem tb_1036 : (Cond.methodLink "OneSunbeam$Mending" (78 : Nat) ({ cls := "OneSunbeam$Mending", name := "isIn", desc := "(II)Z" } : MethodName)) ∈ gt := sg_5 76 rfl rfl
set_option maxRecDepth 8000 in
theorem tb_1037 : (Cond.static ({ cls := "OneSunbeam$Mending", name := "isIn", desc := "(II)Z" } : MethodName)) ∈ gt := sg_5 77 rfl rfl
set_option maxRecDepth 8000 in
theorem tb_1038 : (Cond.code ({ cls := "OneSunbeam$Mending", name := "isIn", desc := "(II)Z" } : MethodName) prog_7_method_11_code (2 : Nat) (Option.some FieldType.boolean)) ∈ gt := sg_5 78 rfl rfl
set_option maxRecDepth 8000 in
theorem tb_1039 : (Cond.methodLink "OneSunbeam$Mending" (82 : Nat) ({ cls := "OneSunbeam$Mending", name := "isMendedBy", desc := "(II)Z" } : MethodName)) ∈ gt := sg_5 79 rfl rfl
set_option maxRecDepth 8000 in
theorem tb_1041 : (Cond.instanceMethod ({ cls := "OneSunbeam$Mending", name := "isMendedBy", desc := "(II)Z" } : MethodName)) ∈ gt := sg_5 81 rfl rfl
set_option maxRecDepth 8000 in
theorem tb_1042 : (Cond.code ({ cls := "OneSunbeam$Mending", name := "isMendedBy", desc := "(II)Z" } : MethodName) prog_7_method_8_code (5 : Nat) (Option.some FieldType.boolean)) ∈ gt := sg_5 82 rfl rfl
set_option maxRecDepth 8000 in
theorem tb_1043 : (Cond.methodLink "OneSunbeam" (287 : Nat) ({ cls := "OneSunbeam$Mending", name := "findTwo", desc := "()V" } : MethodName)) ∈ gt := sg_5 83 rfl rfl
set_option maxRecDepth 8000 in
theorem tb_1044 : (Cond.instanceMethod ({ cls := "OneSunbeam$Mending", name := "findTwo", desc := "()V" } : MethodName)) ∈ gt := sg_5 84 rfl rfl
set_option maxRecDepth 8000 in
theorem tb_1045 : (Cond.selects "OneSunbeam$Mending" ({ cls := "OneSunbeam$Mending", name := "findTwo", desc := "()V" } : MethodName) ({ cls := "OneSunbeam$Mending", name := "findTwo", desc := "()V" } : MethodName)) ∈ gt := sg_5 85 rfl rfl
set_option maxRecDepth 8000 in
theorem tb_1046 : (Cond.code ({ cls := "OneSunbeam$Mending", name := "findTwo", desc := "()V" } : MethodName) prog_7_method_6_code (3 : Nat) (Option.none : Option FieldType)) ∈ gt := sg_5 86 rfl rfl
set_option maxRecDepth 8000 in
theorem tb_1047 : (Cond.methodLink "OneSunbeam$Mending" (85 : Nat) ({ cls := "OneSunbeam$Mending", name := "findSlants", desc := "(II)Z" } : MethodName)) ∈ gt := sg_5 87 rfl rfl
set_option maxRecDepth 8000 in
theorem tb_1049 : (Cond.instanceMethod ({ cls := "OneSunbeam$Mending", name := "findSlants", desc := "(II)Z" } : MethodName)) ∈ gt := sg_5 89 rfl rfl
set_option maxRecDepth 8000 in
theorem tb_1050 : (Cond.code ({ cls := "OneSunbeam$Mending", name := "findSlants", desc := "(II)Z" } : MethodName) prog_7_method_9_code (9 : Nat) (Option.some FieldType.boolean)) ∈ gt := sg_5 90 rfl rfl
set_option maxRecDepth 8000 in
theorem tb_1051 : (Cond.methodLink "OneSunbeam$Mending" (88 : Nat) ({ cls := "OneSunbeam$Mending", name := "doesPairMatter", desc := "(IIII)Z" } : MethodName)) ∈ gt := sg_5 91 rfl rfl
set_option maxRecDepth 8000 in
theorem tb_1053 : (Cond.instanceMethod ({ cls := "OneSunbeam$Mending", name := "doesPairMatter", desc := "(IIII)Z" } : MethodName)) ∈ gt := sg_5 93 rfl rfl
set_option maxRecDepth 8000 in
theorem tb_1054 : (Cond.code ({ cls := "OneSunbeam$Mending", name := "doesPairMatter", desc := "(IIII)Z" } : MethodName) prog_7_method_10_code (5 : Nat) (Option.some FieldType.boolean)) ∈ gt := sg_5 94 rfl rfl
set_option maxRecDepth 8000 in
theorem tb_1055 : (Cond.methodLink "OneSunbeam" (290 : Nat) ({ cls := "OneSunbeam$Mending", name := "restore", desc := "()V" } : MethodName)) ∈ gt := sg_5 95 rfl rfl
set_option maxRecDepth 8000 in
theorem tb_1056 : (Cond.instanceMethod ({ cls := "OneSunbeam$Mending", name := "restore", desc := "()V" } : MethodName)) ∈ gt := sg_5 96 rfl rfl
set_option maxRecDepth 8000 in
theorem tb_1057 : (Cond.selects "OneSunbeam$Mending" ({ cls := "OneSunbeam$Mending", name := "restore", desc := "()V" } : MethodName) ({ cls := "OneSunbeam$Mending", name := "restore", desc := "()V" } : MethodName)) ∈ gt := sg_5 97 rfl rfl
set_option maxRecDepth 8000 in
theorem tb_1058 : (Cond.code ({ cls := "OneSunbeam$Mending", name := "restore", desc := "()V" } : MethodName) prog_7_method_3_code (1 : Nat) (Option.none : Option FieldType)) ∈ gt := sg_5 98 rfl rfl
set_option maxRecDepth 8000 in
theorem tb_1059 : (Cond.methodLink "OneSunbeamLaw" (124 : Nat) ({ cls := "OneSunbeam", name := "second", desc := "(II)I" } : MethodName)) ∈ gt := sg_5 99 rfl rfl
set_option maxRecDepth 8000 in
theorem tb_1060 : (Cond.instanceMethod ({ cls := "OneSunbeam", name := "second", desc := "(II)I" } : MethodName)) ∈ gt := sg_5 100 rfl rfl
set_option maxRecDepth 8000 in
theorem tb_1061 : (Cond.selects "OneSunbeam" ({ cls := "OneSunbeam", name := "second", desc := "(II)I" } : MethodName) ({ cls := "OneSunbeam", name := "second", desc := "(II)I" } : MethodName)) ∈ gt := sg_5 101 rfl rfl
set_option maxRecDepth 8000 in
theorem tb_1062 : (Cond.code ({ cls := "OneSunbeam", name := "second", desc := "(II)I" } : MethodName) prog_1_method_27_code (3 : Nat) (Option.some FieldType.int)) ∈ gt := sg_5 102 rfl rfl
set_option maxRecDepth 8000 in
theorem tb_1063 : (Cond.methodLink "OneSunbeam" (296 : Nat) ({ cls := "OneSunbeam$Opening", name := "search", desc := "(LOneSunbeam$Town;I)V" } : MethodName)) ∈ gt := sg_5 103 rfl rfl
set_option maxRecDepth 8000 in
theorem tb_1064 : (Cond.instanceMethod ({ cls := "OneSunbeam$Opening", name := "search", desc := "(LOneSunbeam$Town;I)V" } : MethodName)) ∈ gt := sg_5 104 rfl rfl
set_option maxRecDepth 8000 in
theorem tb_1065 : (Cond.selects "OneSunbeam$Opening" ({ cls := "OneSunbeam$Opening", name := "search", desc := "(LOneSunbeam$Town;I)V" } : MethodName) ({ cls := "OneSunbeam$Opening", name := "search", desc := "(LOneSunbeam$Town;I)V" } : MethodName)) ∈ gt := sg_5 105 rfl rfl
set_option maxRecDepth 8000 in
theorem tb_1066 : (Cond.code ({ cls := "OneSunbeam$Opening", name := "search", desc := "(LOneSunbeam$Town;I)V" } : MethodName) prog_8_method_2_code (9 : Nat) (Option.none : Option FieldType)) ∈ gt := sg_5 106 rfl rfl
set_option maxRecDepth 8000 in
theorem tb_1067 : (Cond.methodLink "OneSunbeam$Opening" (33 : Nat) ({ cls := "OneSunbeam$Town", name := "wayOf", desc := "(I)I" } : MethodName)) ∈ gt := sg_5 107 rfl rfl
set_option maxRecDepth 8000 in
theorem tb_1068 : (Cond.methodLink "OneSunbeam$Opening" (43 : Nat) ({ cls := "OneSunbeam$Opening", name := "isEdge", desc := "(LOneSunbeam$Town;II)Z" } : MethodName)) ∈ gt := sg_5 108 rfl rfl
set_option maxRecDepth 8000 in
theorem tb_1069 : (Cond.static ({ cls := "OneSunbeam$Opening", name := "isEdge", desc := "(LOneSunbeam$Town;II)Z" } : MethodName)) ∈ gt := sg_5 109 rfl rfl
set_option maxRecDepth 8000 in
theorem tb_1070 : (Cond.code ({ cls := "OneSunbeam$Opening", name := "isEdge", desc := "(LOneSunbeam$Town;II)Z" } : MethodName) prog_8_method_3_code (3 : Nat) (Option.some FieldType.boolean)) ∈ gt := sg_5 110 rfl rfl
set_option maxRecDepth 8000 in
theorem tb_1071 : (Cond.methodLink "OneSunbeam$Opening" (47 : Nat) ({ cls := "OneSunbeam$Town", name := "isOpen", desc := "(II)Z" } : MethodName)) ∈ gt := sg_5 111 rfl rfl
set_option maxRecDepth 8000 in
theorem tb_1072 : (Cond.methodLink "OneSunbeam$Opening" (51 : Nat) ({ cls := "OneSunbeam$Opening", name := "tryWays", desc := "(LOneSunbeam$Town;I)V" } : MethodName)) ∈ gt := sg_5 112 rfl rfl
set_option maxRecDepth 8000 in
theorem tb_1074 : (Cond.instanceMethod ({ cls := "OneSunbeam$Opening", name := "tryWays", desc := "(LOneSunbeam$Town;I)V" } : MethodName)) ∈ gt := sg_5 114 rfl rfl
set_option maxRecDepth 8000 in
theorem tb_1075 : (Cond.code ({ cls := "OneSunbeam$Opening", name := "tryWays", desc := "(LOneSunbeam$Town;I)V" } : MethodName) prog_8_method_4_code (4 : Nat) (Option.none : Option FieldType)) ∈ gt := sg_5 115 rfl rfl
set_option maxRecDepth 8000 in
theorem tb_1078 : (Cond.methodLink "OneSunbeam$Opening" (66 : Nat) ({ cls := "OneSunbeam$Town", name := "hasCell", desc := "(II)Z" } : MethodName)) ∈ gt := sg_5 118 rfl rfl
set_option maxRecDepth 8000 in
theorem tb_1079 : (Cond.methodLink "OneSunbeam$Opening" (55 : Nat) ({ cls := "OneSunbeam$Town", name := "setWay", desc := "(II)V" } : MethodName)) ∈ gt := sg_5 119 rfl rfl
set_option maxRecDepth 8000 in
theorem tb_1080 : (Cond.instanceMethod ({ cls := "OneSunbeam$Town", name := "setWay", desc := "(II)V" } : MethodName)) ∈ gt := sg_5 120 rfl rfl
set_option maxRecDepth 8000 in
theorem tb_1081 : (Cond.selects "OneSunbeam$Town" ({ cls := "OneSunbeam$Town", name := "setWay", desc := "(II)V" } : MethodName) ({ cls := "OneSunbeam$Town", name := "setWay", desc := "(II)V" } : MethodName)) ∈ gt := sg_5 121 rfl rfl
set_option maxRecDepth 8000 in
theorem tb_1082 : (Cond.code ({ cls := "OneSunbeam$Town", name := "setWay", desc := "(II)V" } : MethodName) prog_10_method_13_code (3 : Nat) (Option.none : Option FieldType)) ∈ gt := sg_5 122 rfl rfl
set_option maxRecDepth 8000 in
theorem tb_1083 : (Cond.methodLink "OneSunbeam$Opening" (69 : Nat) ({ cls := "OneSunbeam$Beams", name := "shine", desc := "(LOneSunbeam$Town;I)V" } : MethodName)) ∈ gt := sg_5 123 rfl rfl
set_option maxRecDepth 8000 in
theorem tb_1084 : (Cond.methodLink "OneSunbeam$Opening" (74 : Nat) ({ cls := "OneSunbeam$Beams", name := "total", desc := "()I" } : MethodName)) ∈ gt := sg_5 124 rfl rfl
set_option maxRecDepth 8000 in
theorem tb_1086 : (Cond.methodLink "OneSunbeamLaw" (128 : Nat) ({ cls := "OneSunbeam", name := "thief", desc := "(II)I" } : MethodName)) ∈ gt := sg_5 126 rfl rfl
set_option maxRecDepth 8000 in
theorem tb_1087 : (Cond.instanceMethod ({ cls := "OneSunbeam", name := "thief", desc := "(II)I" } : MethodName)) ∈ gt := sg_5 127 rfl rfl
set_option maxRecDepth 8000 in
theorem tb_1088 : (Cond.selects "OneSunbeam" ({ cls := "OneSunbeam", name := "thief", desc := "(II)I" } : MethodName) ({ cls := "OneSunbeam", name := "thief", desc := "(II)I" } : MethodName)) ∈ gt := sg_5 128 rfl rfl
set_option maxRecDepth 8000 in
theorem tb_1089 : (Cond.code ({ cls := "OneSunbeam", name := "thief", desc := "(II)I" } : MethodName) prog_1_method_28_code (3 : Nat) (Option.some FieldType.int)) ∈ gt := sg_5 129 rfl rfl
set_option maxRecDepth 8000 in
theorem tb_1090 : (Cond.methodLink "OneSunbeam" (307 : Nat) ({ cls := "OneSunbeam$Theft", name := "search", desc := "(LOneSunbeam$Town;I)V" } : MethodName)) ∈ gt := sg_5 130 rfl rfl
set_option maxRecDepth 8000 in
theorem tb_1091 : (Cond.instanceMethod ({ cls := "OneSunbeam$Theft", name := "search", desc := "(LOneSunbeam$Town;I)V" } : MethodName)) ∈ gt := sg_5 131 rfl rfl
set_option maxRecDepth 8000 in
theorem tb_1092 : (Cond.selects "OneSunbeam$Theft" ({ cls := "OneSunbeam$Theft", name := "search", desc := "(LOneSunbeam$Town;I)V" } : MethodName) ({ cls := "OneSunbeam$Theft", name := "search", desc := "(LOneSunbeam$Town;I)V" } : MethodName)) ∈ gt := sg_5 132 rfl rfl
set_option maxRecDepth 8000 in
theorem tb_1093 : (Cond.code ({ cls := "OneSunbeam$Theft", name := "search", desc := "(LOneSunbeam$Town;I)V" } : MethodName) prog_9_method_2_code (5 : Nat) (Option.none : Option FieldType)) ∈ gt := sg_5 133 rfl rfl
set_option maxRecDepth 8000 in
theorem tb_1094 : (Cond.methodLink "OneSunbeam$Theft" (28 : Nat) ({ cls := "OneSunbeam$Theft", name := "walk", desc := "(LOneSunbeam$Town;I)V" } : MethodName)) ∈ gt := sg_5 134 rfl rfl
set_option maxRecDepth 8000 in
theorem tb_1096 : (Cond.instanceMethod ({ cls := "OneSunbeam$Theft", name := "walk", desc := "(LOneSunbeam$Town;I)V" } : MethodName)) ∈ gt := sg_5 136 rfl rfl
set_option maxRecDepth 8000 in
theorem tb_1097 : (Cond.code ({ cls := "OneSunbeam$Theft", name := "walk", desc := "(LOneSunbeam$Town;I)V" } : MethodName) prog_9_method_4_code (10 : Nat) (Option.none : Option FieldType)) ∈ gt := sg_5 137 rfl rfl
set_option maxRecDepth 8000 in
theorem tb_1098 : (Cond.methodLink "OneSunbeam$Theft" (57 : Nat) ({ cls := "OneSunbeam$Town", name := "wayOf", desc := "(I)I" } : MethodName)) ∈ gt := sg_5 138 rfl rfl
set_option maxRecDepth 8000 in
theorem tb_1099 : (Cond.methodLink "OneSunbeam$Theft" (61 : Nat) ({ cls := "OneSunbeam$Town", name := "strengthOf", desc := "(I)I" } : MethodName)) ∈ gt := sg_5 139 rfl rfl
set_option maxRecDepth 8000 in
theorem tb_1100 : (Cond.methodLink "OneSunbeam$Theft" (66 : Nat) ({ cls := "OneSunbeam$Town", name := "isOpen", desc := "(II)Z" } : MethodName)) ∈ gt := sg_5 140 rfl rfl
set_option maxRecDepth 8000 in
theorem tb_1103 : (Cond.methodLink "OneSunbeam$Theft" (79 : Nat) ({ cls := "OneSunbeam$Town", name := "takeAt", desc := "(I)I" } : MethodName)) ∈ gt := sg_5 143 rfl rfl
set_option maxRecDepth 8000 in
theorem tb_1104 : (Cond.instanceMethod ({ cls := "OneSunbeam$Town", name := "takeAt", desc := "(I)I" } : MethodName)) ∈ gt := sg_5 144 rfl rfl
set_option maxRecDepth 8000 in
theorem tb_1105 : (Cond.selects "OneSunbeam$Town" ({ cls := "OneSunbeam$Town", name := "takeAt", desc := "(I)I" } : MethodName) ({ cls := "OneSunbeam$Town", name := "takeAt", desc := "(I)I" } : MethodName)) ∈ gt := sg_5 145 rfl rfl
set_option maxRecDepth 8000 in
theorem tb_1106 : (Cond.code ({ cls := "OneSunbeam$Town", name := "takeAt", desc := "(I)I" } : MethodName) prog_10_method_22_code (3 : Nat) (Option.some FieldType.int)) ∈ gt := sg_5 146 rfl rfl
set_option maxRecDepth 8000 in
theorem tb_1107 : (Cond.methodLink "OneSunbeam$Theft" (85 : Nat) ({ cls := "OneSunbeam$Town", name := "isWhole", desc := "(I)Z" } : MethodName)) ∈ gt := sg_5 147 rfl rfl
set_option maxRecDepth 8000 in
theorem tb_1108 : (Cond.methodLink "OneSunbeam$Theft" (89 : Nat) ({ cls := "OneSunbeam$Theft", name := "meet", desc := "(II)I" } : MethodName)) ∈ gt := sg_5 148 rfl rfl
set_option maxRecDepth 8000 in
theorem tb_1110 : (Cond.instanceMethod ({ cls := "OneSunbeam$Theft", name := "meet", desc := "(II)I" } : MethodName)) ∈ gt := sg_5 150 rfl rfl
set_option maxRecDepth 8000 in
theorem tb_1111 : (Cond.code ({ cls := "OneSunbeam$Theft", name := "meet", desc := "(II)I" } : MethodName) prog_9_method_5_code (3 : Nat) (Option.some FieldType.int)) ∈ gt := sg_5 151 rfl rfl
set_option maxRecDepth 8000 in
theorem tb_1112 : (Cond.methodLink "OneSunbeam$Theft" (92 : Nat) ({ cls := "OneSunbeam$Town", name := "lossOf", desc := "(I)I" } : MethodName)) ∈ gt := sg_5 152 rfl rfl
set_option maxRecDepth 8000 in
theorem tb_1113 : (Cond.methodLink "OneSunbeam$Theft" (35 : Nat) ({ cls := "OneSunbeam$Town", name := "ofMirror", desc := "(II)I" } : MethodName)) ∈ gt := sg_5 153 rfl rfl
set_option maxRecDepth 8000 in
theorem tb_1114 : (Cond.methodLink "OneSunbeam$Theft" (95 : Nat) ({ cls := "OneSunbeam$Town", name := "wayFrom", desc := "(II)I" } : MethodName)) ∈ gt := sg_5 154 rfl rfl
set_option maxRecDepth 8000 in
theorem tb_1117 : (Cond.methodLink "OneSunbeam$Theft" (41 : Nat) ({ cls := "OneSunbeam$Theft", name := "isExplainedBehind", desc := "(LOneSunbeam$Town;II)Z" } : MethodName)) ∈ gt := sg_5 157 rfl rfl
set_option maxRecDepth 8000 in
theorem tb_1119 : (Cond.instanceMethod ({ cls := "OneSunbeam$Theft", name := "isExplainedBehind", desc := "(LOneSunbeam$Town;II)Z" } : MethodName)) ∈ gt := sg_5 159 rfl rfl
set_option maxRecDepth 8000 in
theorem tb_1120 : (Cond.code ({ cls := "OneSunbeam$Theft", name := "isExplainedBehind", desc := "(LOneSunbeam$Town;II)Z" } : MethodName) prog_9_method_3_code (7 : Nat) (Option.some FieldType.boolean)) ∈ gt := sg_5 160 rfl rfl
set_option maxRecDepth 8000 in
theorem tb_1121 : (Cond.methodLink "OneSunbeam$Theft" (45 : Nat) ({ cls := "java/util/Arrays", name := "fill", desc := "([II)V" } : MethodName)) ∈ gt := sg_5 161 rfl rfl
set_option maxRecDepth 8000 in
theorem tb_1122 : (Cond.methodLink "OneSunbeamLaw" (132 : Nat) ({ cls := "OneSunbeam", name := "dusty", desc := "(IIII)I" } : MethodName)) ∈ gt := sg_5 162 rfl rfl
set_option maxRecDepth 8000 in
theorem tb_1123 : (Cond.instanceMethod ({ cls := "OneSunbeam", name := "dusty", desc := "(IIII)I" } : MethodName)) ∈ gt := sg_5 163 rfl rfl
set_option maxRecDepth 8000 in
theorem tb_1124 : (Cond.selects "OneSunbeam" ({ cls := "OneSunbeam", name := "dusty", desc := "(IIII)I" } : MethodName) ({ cls := "OneSunbeam", name := "dusty", desc := "(IIII)I" } : MethodName)) ∈ gt := sg_5 164 rfl rfl
set_option maxRecDepth 8000 in
theorem tb_1125 : (Cond.code ({ cls := "OneSunbeam", name := "dusty", desc := "(IIII)I" } : MethodName) prog_1_method_29_code (7 : Nat) (Option.some FieldType.int)) ∈ gt := sg_5 165 rfl rfl
set_option maxRecDepth 8000 in
theorem tb_1126 : (Cond.methodLink "OneSunbeam" (317 : Nat) ({ cls := "OneSunbeam", name := "leastDust", desc := "(IIII)I" } : MethodName)) ∈ gt := sg_5 166 rfl rfl
set_option maxRecDepth 8000 in
theorem tb_1128 : (Cond.instanceMethod ({ cls := "OneSunbeam", name := "leastDust", desc := "(IIII)I" } : MethodName)) ∈ gt := sg_5 168 rfl rfl
set_option maxRecDepth 8000 in
theorem tb_1129 : (Cond.code ({ cls := "OneSunbeam", name := "leastDust", desc := "(IIII)I" } : MethodName) prog_1_method_43_code (5 : Nat) (Option.some FieldType.int)) ∈ gt := sg_5 169 rfl rfl
set_option maxRecDepth 8000 in
theorem tb_1130 : (Cond.methodLink "OneSunbeam" (335 : Nat) ({ cls := "OneSunbeam", name := "getWithDust", desc := "(IIII)I" } : MethodName)) ∈ gt := sg_5 170 rfl rfl
set_option maxRecDepth 8000 in
theorem tb_1132 : (Cond.instanceMethod ({ cls := "OneSunbeam", name := "getWithDust", desc := "(IIII)I" } : MethodName)) ∈ gt := sg_5 172 rfl rfl
set_option maxRecDepth 8000 in
theorem tb_1133 : (Cond.code ({ cls := "OneSunbeam", name := "getWithDust", desc := "(IIII)I" } : MethodName) prog_1_method_46_code (5 : Nat) (Option.some FieldType.int)) ∈ gt := sg_5 173 rfl rfl
set_option maxRecDepth 8000 in
theorem tb_1134 : (Cond.methodLink "OneSunbeam" (338 : Nat) ({ cls := "OneSunbeam$Beams", name := "touches", desc := "(I)Z" } : MethodName)) ∈ gt := sg_5 174 rfl rfl
set_option maxRecDepth 8000 in
theorem tb_1135 : (Cond.methodLink "OneSunbeam" (345 : Nat) ({ cls := "OneSunbeam", name := "leastDustOneByOne", desc := "(IIII)I" } : MethodName)) ∈ gt := sg_5 175 rfl rfl
set_option maxRecDepth 8000 in
theorem tb_1137 : (Cond.instanceMethod ({ cls := "OneSunbeam", name := "leastDustOneByOne", desc := "(IIII)I" } : MethodName)) ∈ gt := sg_5 177 rfl rfl
set_option maxRecDepth 8000 in
theorem tb_1138 : (Cond.code ({ cls := "OneSunbeam", name := "leastDustOneByOne", desc := "(IIII)I" } : MethodName) prog_1_method_44_code (6 : Nat) (Option.some FieldType.int)) ∈ gt := sg_5 178 rfl rfl
set_option maxRecDepth 8000 in
theorem tb_1139 : (Cond.methodLink "OneSunbeam" (348 : Nat) ({ cls := "OneSunbeam", name := "leastDustByHalves", desc := "(IIII)I" } : MethodName)) ∈ gt := sg_5 179 rfl rfl
set_option maxRecDepth 8000 in
theorem tb_1141 : (Cond.instanceMethod ({ cls := "OneSunbeam", name := "leastDustByHalves", desc := "(IIII)I" } : MethodName)) ∈ gt := sg_5 181 rfl rfl
set_option maxRecDepth 8000 in
theorem tb_1142 : (Cond.code ({ cls := "OneSunbeam", name := "leastDustByHalves", desc := "(IIII)I" } : MethodName) prog_1_method_45_code (9 : Nat) (Option.some FieldType.int)) ∈ gt := sg_5 182 rfl rfl
set_option maxRecDepth 8000 in
theorem tb_1143 : (Cond.methodLink "OneSunbeamLaw" (136 : Nat) ({ cls := "OneSunbeam", name := "dark", desc := "(III)I" } : MethodName)) ∈ gt := sg_5 183 rfl rfl
set_option maxRecDepth 8000 in
theorem tb_1144 : (Cond.instanceMethod ({ cls := "OneSunbeam", name := "dark", desc := "(III)I" } : MethodName)) ∈ gt := sg_5 184 rfl rfl
set_option maxRecDepth 8000 in
theorem tb_1145 : (Cond.selects "OneSunbeam" ({ cls := "OneSunbeam", name := "dark", desc := "(III)I" } : MethodName) ({ cls := "OneSunbeam", name := "dark", desc := "(III)I" } : MethodName)) ∈ gt := sg_5 185 rfl rfl
set_option maxRecDepth 8000 in
theorem tb_1146 : (Cond.code ({ cls := "OneSunbeam", name := "dark", desc := "(III)I" } : MethodName) prog_1_method_30_code (7 : Nat) (Option.some FieldType.int)) ∈ gt := sg_5 186 rfl rfl
set_option maxRecDepth 8000 in
theorem tb_1147 : (Cond.methodLink "OneSunbeam" (320 : Nat) ({ cls := "OneSunbeam$Town", name := "copyFrom", desc := "(LOneSunbeam$Town;)V" } : MethodName)) ∈ gt := sg_5 187 rfl rfl
set_option maxRecDepth 8000 in
theorem tb_1148 : (Cond.instanceMethod ({ cls := "OneSunbeam$Town", name := "copyFrom", desc := "(LOneSunbeam$Town;)V" } : MethodName)) ∈ gt := sg_5 188 rfl rfl
set_option maxRecDepth 8000 in
theorem tb_1149 : (Cond.selects "OneSunbeam$Town" ({ cls := "OneSunbeam$Town", name := "copyFrom", desc := "(LOneSunbeam$Town;)V" } : MethodName) ({ cls := "OneSunbeam$Town", name := "copyFrom", desc := "(LOneSunbeam$Town;)V" } : MethodName)) ∈ gt := sg_5 189 rfl rfl
set_option maxRecDepth 8000 in
theorem tb_1150 : (Cond.code ({ cls := "OneSunbeam$Town", name := "copyFrom", desc := "(LOneSunbeam$Town;)V" } : MethodName) prog_10_method_3_code (2 : Nat) (Option.none : Option FieldType)) ∈ gt := sg_5 190 rfl rfl
set_option maxRecDepth 8000 in
theorem tb_1151 : (Cond.methodLink "OneSunbeam$Town" (73 : Nat) ({ cls := "java/lang/System", name := "arraycopy", desc := "(Ljava/lang/Object;ILjava/lang/Object;II)V" } : MethodName)) ∈ gt := sg_5 191 rfl rfl
set_option maxRecDepth 8000 in
theorem tb_1152 : (Cond.methodLink "OneSunbeamLaw" (140 : Nat) ({ cls := "OneSunbeam", name := "ahead", desc := "(III)I" } : MethodName)) ∈ gt := sg_5 192 rfl rfl
set_option maxRecDepth 8000 in
theorem tb_1153 : (Cond.instanceMethod ({ cls := "OneSunbeam", name := "ahead", desc := "(III)I" } : MethodName)) ∈ gt := sg_5 193 rfl rfl
set_option maxRecDepth 8000 in
theorem tb_1154 : (Cond.selects "OneSunbeam" ({ cls := "OneSunbeam", name := "ahead", desc := "(III)I" } : MethodName) ({ cls := "OneSunbeam", name := "ahead", desc := "(III)I" } : MethodName)) ∈ gt := sg_5 194 rfl rfl
set_option maxRecDepth 8000 in
theorem tb_1155 : (Cond.code ({ cls := "OneSunbeam", name := "ahead", desc := "(III)I" } : MethodName) prog_1_method_31_code (7 : Nat) (Option.some FieldType.int)) ∈ gt := sg_5 195 rfl rfl
set_option maxRecDepth 8000 in
theorem tb_1156 : (Cond.methodLink "OneSunbeamLaw" (144 : Nat) ({ cls := "OneSunbeam", name := "count", desc := "(I)I" } : MethodName)) ∈ gt := sg_5 196 rfl rfl
set_option maxRecDepth 8000 in
theorem tb_1157 : (Cond.instanceMethod ({ cls := "OneSunbeam", name := "count", desc := "(I)I" } : MethodName)) ∈ gt := sg_5 197 rfl rfl
set_option maxRecDepth 8000 in
theorem tb_1158 : (Cond.selects "OneSunbeam" ({ cls := "OneSunbeam", name := "count", desc := "(I)I" } : MethodName) ({ cls := "OneSunbeam", name := "count", desc := "(I)I" } : MethodName)) ∈ gt := sg_5 198 rfl rfl
set_option maxRecDepth 8000 in
theorem tb_1159 : (Cond.code ({ cls := "OneSunbeam", name := "count", desc := "(I)I" } : MethodName) prog_1_method_32_code (2 : Nat) (Option.some FieldType.int)) ∈ gt := sg_5 199 rfl rfl
set_option maxRecDepth 8000 in
theorem tb_1160 : (Cond.methodLink "OneSunbeam" (324 : Nat) ({ cls := "OneSunbeam", name := "countOfTown", desc := "(I)I" } : MethodName)) ∈ gt := sg_5 200 rfl rfl
set_option maxRecDepth 8000 in
theorem tb_1162 : (Cond.instanceMethod ({ cls := "OneSunbeam", name := "countOfTown", desc := "(I)I" } : MethodName)) ∈ gt := sg_5 202 rfl rfl
set_option maxRecDepth 8000 in
theorem tb_1163 : (Cond.code ({ cls := "OneSunbeam", name := "countOfTown", desc := "(I)I" } : MethodName) prog_1_method_47_code (2 : Nat) (Option.some FieldType.int)) ∈ gt := sg_5 203 rfl rfl
set_option maxRecDepth 8000 in
theorem tb_1164 : (Cond.methodLink "OneSunbeamLaw" (148 : Nat) ({ cls := "OneSunbeam", name := "image", desc := "(I)I" } : MethodName)) ∈ gt := sg_5 204 rfl rfl
set_option maxRecDepth 8000 in
theorem tb_1165 : (Cond.instanceMethod ({ cls := "OneSunbeam", name := "image", desc := "(I)I" } : MethodName)) ∈ gt := sg_5 205 rfl rfl
set_option maxRecDepth 8000 in
theorem tb_1166 : (Cond.selects "OneSunbeam" ({ cls := "OneSunbeam", name := "image", desc := "(I)I" } : MethodName) ({ cls := "OneSunbeam", name := "image", desc := "(I)I" } : MethodName)) ∈ gt := sg_5 206 rfl rfl
set_option maxRecDepth 8000 in
theorem tb_1167 : (Cond.code ({ cls := "OneSunbeam", name := "image", desc := "(I)I" } : MethodName) prog_1_method_33_code (3 : Nat) (Option.some FieldType.int)) ∈ gt := sg_5 207 rfl rfl
set_option maxRecDepth 8000 in
theorem tb_1168 : (Cond.methodLink "OneSunbeamLaw" (152 : Nat) ({ cls := "OneSunbeam", name := "back", desc := "(I)I" } : MethodName)) ∈ gt := sg_5 208 rfl rfl
set_option maxRecDepth 8000 in
theorem tb_1169 : (Cond.instanceMethod ({ cls := "OneSunbeam", name := "back", desc := "(I)I" } : MethodName)) ∈ gt := sg_5 209 rfl rfl
set_option maxRecDepth 8000 in
theorem tb_1170 : (Cond.selects "OneSunbeam" ({ cls := "OneSunbeam", name := "back", desc := "(I)I" } : MethodName) ({ cls := "OneSunbeam", name := "back", desc := "(I)I" } : MethodName)) ∈ gt := sg_5 210 rfl rfl
set_option maxRecDepth 8000 in
theorem tb_1171 : (Cond.code ({ cls := "OneSunbeam", name := "back", desc := "(I)I" } : MethodName) prog_1_method_34_code (3 : Nat) (Option.some FieldType.int)) ∈ gt := sg_5 211 rfl rfl
set_option maxRecDepth 8000 in
theorem tb_1172 : (Cond.classLink "OneSunbeamLaw" (10 : Nat) "OneSunbeamModel") ∈ gt := sg_5 212 rfl rfl
set_option maxRecDepth 8000 in
theorem tb_1173 : (Cond.instantiable "OneSunbeamModel" (80 : Nat)) ∈ gt := sg_5 213 rfl rfl
set_option maxRecDepth 8000 in
theorem tb_1174 : (Cond.methodLink "OneSunbeamLaw" (12 : Nat) ({ cls := "OneSunbeamModel", name := "<init>", desc := "()V" } : MethodName)) ∈ gt := sg_5 214 rfl rfl
set_option maxRecDepth 8000 in
theorem tb_1175 : (Cond.instanceMethod ({ cls := "OneSunbeamModel", name := "<init>", desc := "()V" } : MethodName)) ∈ gt := sg_5 215 rfl rfl
set_option maxRecDepth 8000 in
theorem tb_1176 : (Cond.code ({ cls := "OneSunbeamModel", name := "<init>", desc := "()V" } : MethodName) prog_12_method_1_code (1 : Nat) (Option.none : Option FieldType)) ∈ gt := sg_5 216 rfl rfl
set_option maxRecDepth 8000 in
theorem tb_1177 : (Cond.methodLink "OneSunbeamModel" (1 : Nat) ({ cls := "java/lang/Object", name := "<init>", desc := "()V" } : MethodName)) ∈ gt := sg_5 217 rfl rfl
set_option maxRecDepth 8000 in
theorem tb_1178 : (Cond.fieldLink "OneSunbeamModel" (7 : Nat) "OneSunbeamModel" "scalar" "[I") ∈ gt := sg_5 218 rfl rfl
set_option maxRecDepth 8000 in
theorem tb_1179 : (Cond.fieldLink "OneSunbeamModel" (13 : Nat) "OneSunbeamModel" "rocky" "[I") ∈ gt := sg_5 219 rfl rfl
set_option maxRecDepth 8000 in
theorem tb_1180 : (Cond.fieldLink "OneSunbeamModel" (16 : Nat) "OneSunbeamModel" "eyed" "[I") ∈ gt := sg_5 220 rfl rfl
set_option maxRecDepth 8000 in
theorem tb_1181 : (Cond.fieldLink "OneSunbeamModel" (19 : Nat) "OneSunbeamModel" "sunWay" "[I") ∈ gt := sg_5 221 rfl rfl
set_option maxRecDepth 8000 in
theorem tb_1182 : (Cond.fieldLink "OneSunbeamModel" (22 : Nat) "OneSunbeamModel" "sunStrong" "[I") ∈ gt := sg_5 222 rfl rfl
set_option maxRecDepth 8000 in
theorem tb_1183 : (Cond.fieldLink "OneSunbeamModel" (25 : Nat) "OneSunbeamModel" "mirrorAt" "[I") ∈ gt := sg_5 223 rfl rfl
set_option maxRecDepth 8000 in
theorem tb_1184 : (Cond.fieldLink "OneSunbeamModel" (28 : Nat) "OneSunbeamModel" "mx" "[I") ∈ gt := sg_5 224 rfl rfl
set_option maxRecDepth 8000 in
theorem tb_1185 : (Cond.fieldLink "OneSunbeamModel" (31 : Nat) "OneSunbeamModel" "my" "[I") ∈ gt := sg_5 225 rfl rfl
set_option maxRecDepth 8000 in
theorem tb_1186 : (Cond.fieldLink "OneSunbeamModel" (34 : Nat) "OneSunbeamModel" "slant" "[I") ∈ gt := sg_5 226 rfl rfl
set_option maxRecDepth 8000 in
theorem tb_1187 : (Cond.fieldLink "OneSunbeamModel" (37 : Nat) "OneSunbeamModel" "loss" "[I") ∈ gt := sg_5 227 rfl rfl
set_option maxRecDepth 8000 in
theorem tb_1188 : (Cond.fieldLink "OneSunbeamModel" (40 : Nat) "OneSunbeamModel" "through" "[I") ∈ gt := sg_5 228 rfl rfl
set_option maxRecDepth 8000 in
theorem tb_1189 : (Cond.fieldLink "OneSunbeamModel" (43 : Nat) "OneSunbeamModel" "reach" "[I") ∈ gt := sg_5 229 rfl rfl
set_option maxRecDepth 8000 in
theorem tb_1190 : (Cond.fieldLink "OneSunbeamModel" (46 : Nat) "OneSunbeamModel" "owner" "[I") ∈ gt := sg_5 230 rfl rfl
set_option maxRecDepth 8000 in
theorem tb_1191 : (Cond.fieldLink "OneSunbeamModel" (49 : Nat) "OneSunbeamModel" "dust" "[I") ∈ gt := sg_5 231 rfl rfl
set_option maxRecDepth 8000 in
theorem tb_1192 : (Cond.fieldLink "OneSunbeamModel" (52 : Nat) "OneSunbeamModel" "broken" "[I") ∈ gt := sg_5 232 rfl rfl
set_option maxRecDepth 8000 in
theorem tb_1193 : (Cond.fieldLink "OneSunbeamModel" (55 : Nat) "OneSunbeamModel" "reading" "[I") ∈ gt := sg_5 233 rfl rfl
set_option maxRecDepth 8000 in
theorem tb_1194 : (Cond.fieldLink "OneSunbeamModel" (58 : Nat) "OneSunbeamModel" "yx" "[I") ∈ gt := sg_5 234 rfl rfl
set_option maxRecDepth 8000 in
theorem tb_1195 : (Cond.fieldLink "OneSunbeamModel" (61 : Nat) "OneSunbeamModel" "yy" "[I") ∈ gt := sg_5 235 rfl rfl
set_option maxRecDepth 8000 in
theorem tb_1196 : (Cond.fieldLink "OneSunbeamModel" (64 : Nat) "OneSunbeamModel" "yToX" "[I") ∈ gt := sg_5 236 rfl rfl
set_option maxRecDepth 8000 in
theorem tb_1197 : (Cond.fieldLink "OneSunbeamModel" (67 : Nat) "OneSunbeamModel" "yToY" "[I") ∈ gt := sg_5 237 rfl rfl
set_option maxRecDepth 8000 in
theorem tb_1198 : (Cond.fieldLink "OneSunbeamModel" (70 : Nat) "OneSunbeamModel" "take" "[I") ∈ gt := sg_5 238 rfl rfl
set_option maxRecDepth 8000 in
theorem tb_1199 : (Cond.fieldLink "OneSunbeamModel" (73 : Nat) "OneSunbeamModel" "want" "[I") ∈ gt := sg_5 239 rfl rfl
set_option maxRecDepth 8000 in
theorem tb_1200 : (Cond.fieldLink "OneSunbeamModel" (76 : Nat) "OneSunbeamModel" "lit" "[I") ∈ gt := sg_6 0 rfl rfl
set_option maxRecDepth 8000 in
theorem tb_1201 : (Cond.fieldLink "OneSunbeamModel" (232 : Nat) "OneSunbeamModel" "taped" "I") ∈ gt := sg_6 1 rfl rfl
set_option maxRecDepth 8000 in
theorem tb_1202 : (Cond.fieldLink "OneSunbeamModel" (267 : Nat) "OneSunbeamModel" "p" "I") ∈ gt := sg_6 2 rfl rfl
set_option maxRecDepth 8000 in
theorem tb_1203 : (Cond.fieldLink "OneSunbeamModel" (264 : Nat) "OneSunbeamModel" "fault" "I") ∈ gt := sg_6 3 rfl rfl
set_option maxRecDepth 8000 in
theorem tb_1204 : (Cond.fieldLink "OneSunbeamModel" (294 : Nat) "OneSunbeamModel" "slot" "I") ∈ gt := sg_6 4 rfl rfl
set_option maxRecDepth 8000 in
theorem tb_1205 : (Cond.fieldLink "OneSunbeamModel" (371 : Nat) "OneSunbeamModel" "laws" "I") ∈ gt := sg_6 5 rfl rfl
set_option maxRecDepth 8000 in
theorem tb_1206 : (Cond.fieldLink "OneSunbeamModel" (297 : Nat) "OneSunbeamModel" "entries" "I") ∈ gt := sg_6 6 rfl rfl
set_option maxRecDepth 8000 in
theorem tb_1207 : (Cond.fieldLink "OneSunbeamModel" (337 : Nat) "OneSunbeamModel" "deep" "I") ∈ gt := sg_6 7 rfl rfl
set_option maxRecDepth 8000 in
theorem tb_1208 : (Cond.fieldLink "OneSunbeamModel" (300 : Nat) "OneSunbeamModel" "counted" "I") ∈ gt := sg_6 8 rfl rfl
set_option maxRecDepth 8000 in
theorem tb_1209 : (Cond.fieldLink "OneSunbeamModel" (334 : Nat) "OneSunbeamModel" "opened" "I") ∈ gt := sg_6 9 rfl rfl
set_option maxRecDepth 8000 in
theorem tb_1210 : (Cond.fieldLink "OneSunbeamModel" (79 : Nat) "OneSunbeamModel" "words" "I") ∈ gt := sg_6 10 rfl rfl
set_option maxRecDepth 8000 in
theorem tb_1211 : (Cond.fieldLink "OneSunbeamModel" (83 : Nat) "OneSunbeamModel" "tape" "[B") ∈ gt := sg_6 11 rfl rfl
set_option maxRecDepth 8000 in
theorem tb_1212 : (Cond.fieldLink "OneSunbeamModel" (87 : Nat) "OneSunbeamModel" "sort" "[I") ∈ gt := sg_6 12 rfl rfl
set_option maxRecDepth 8000 in
theorem tb_1213 : (Cond.fieldLink "OneSunbeamModel" (90 : Nat) "OneSunbeamModel" "number" "[I") ∈ gt := sg_6 13 rfl rfl
set_option maxRecDepth 8000 in
theorem tb_1214 : (Cond.fieldLink "OneSunbeamModel" (93 : Nat) "OneSunbeamModel" "clauses" "[I") ∈ gt := sg_6 14 rfl rfl
set_option maxRecDepth 8000 in
theorem tb_1215 : (Cond.fieldLink "OneSunbeamModel" (96 : Nat) "OneSunbeamModel" "turned" "[I") ∈ gt := sg_6 15 rfl rfl
set_option maxRecDepth 8000 in
theorem tb_1216 : (Cond.fieldLink "OneSunbeamModel" (99 : Nat) "OneSunbeamModel" "sumAt" "[I") ∈ gt := sg_6 16 rfl rfl
set_option maxRecDepth 8000 in
theorem tb_1217 : (Cond.fieldLink "OneSunbeamModel" (102 : Nat) "OneSunbeamModel" "testAt" "[I") ∈ gt := sg_6 17 rfl rfl
set_option maxRecDepth 8000 in
theorem tb_1218 : (Cond.fieldLink "OneSunbeamModel" (105 : Nat) "OneSunbeamModel" "endAt" "[I") ∈ gt := sg_6 18 rfl rfl
set_option maxRecDepth 8000 in
theorem tb_1219 : (Cond.fieldLink "OneSunbeamModel" (108 : Nat) "OneSunbeamModel" "open" "[I") ∈ gt := sg_6 19 rfl rfl
set_option maxRecDepth 8000 in
theorem tb_1220 : (Cond.fieldLink "OneSunbeamModel" (111 : Nat) "OneSunbeamModel" "asked" "[J") ∈ gt := sg_6 20 rfl rfl
set_option maxRecDepth 8000 in
theorem tb_1221 : (Cond.fieldLink "OneSunbeamModel" (115 : Nat) "OneSunbeamModel" "stack" "[J") ∈ gt := sg_6 21 rfl rfl
set_option maxRecDepth 8000 in
theorem tb_1222 : (Cond.fieldLink "OneSunbeamModel" (118 : Nat) "OneSunbeamModel" "waitX" "[I") ∈ gt := sg_6 22 rfl rfl
set_option maxRecDepth 8000 in
theorem tb_1223 : (Cond.fieldLink "OneSunbeamModel" (121 : Nat) "OneSunbeamModel" "waitY" "[I") ∈ gt := sg_6 23 rfl rfl
set_option maxRecDepth 8000 in
theorem tb_1224 : (Cond.fieldLink "OneSunbeamModel" (124 : Nat) "OneSunbeamModel" "waitWay" "[I") ∈ gt := sg_6 24 rfl rfl
set_option maxRecDepth 8000 in
theorem tb_1225 : (Cond.fieldLink "OneSunbeamModel" (127 : Nat) "OneSunbeamModel" "waitStrong" "[I") ∈ gt := sg_6 25 rfl rfl
set_option maxRecDepth 8000 in
theorem tb_1226 : (Cond.fieldLink "OneSunbeamModel" (130 : Nat) "OneSunbeamModel" "passing" "[I") ∈ gt := sg_6 26 rfl rfl
set_option maxRecDepth 8000 in
theorem tb_1227 : (Cond.fieldLink "OneSunbeamModel" (133 : Nat) "OneSunbeamModel" "got" "[I") ∈ gt := sg_6 27 rfl rfl
set_option maxRecDepth 8000 in
theorem tb_1228 : (Cond.fieldLink "OneSunbeamModel" (391 : Nat) "OneSunbeamModel" "firstWaits" "I") ∈ gt := sg_6 28 rfl rfl
set_option maxRecDepth 8000 in
theorem tb_1229 : (Cond.fieldLink "OneSunbeamModel" (385 : Nat) "OneSunbeamModel" "waits" "I") ∈ gt := sg_6 29 rfl rfl
set_option maxRecDepth 8000 in
theorem tb_1230 : (Cond.fieldLink "OneSunbeamModel" (410 : Nat) "OneSunbeamModel" "lost" "I") ∈ gt := sg_6 30 rfl rfl
set_option maxRecDepth 8000 in
theorem tb_1231 : (Cond.fieldLink "OneSunbeamModel" (388 : Nat) "OneSunbeamModel" "spilt" "I") ∈ gt := sg_6 31 rfl rfl
set_option maxRecDepth 8000 in
theorem tb_1232 : (Cond.fieldLink "OneSunbeamModel" (407 : Nat) "OneSunbeamModel" "entered" "I") ∈ gt := sg_6 32 rfl rfl
set_option maxRecDepth 8000 in
theorem tb_1233 : (Cond.fieldLink "OneSunbeamModel" (394 : Nat) "OneSunbeamModel" "beams" "I") ∈ gt := sg_6 33 rfl rfl
set_option maxRecDepth 8000 in
theorem tb_1234 : (Cond.fieldLink "OneSunbeamModel" (136 : Nat) "OneSunbeamModel" "thief" "I") ∈ gt := sg_6 34 rfl rfl
set_option maxRecDepth 8000 in
theorem tb_1235 : (Cond.fieldLink "OneSunbeamModel" (139 : Nat) "OneSunbeamModel" "isMet" "[Z") ∈ gt := sg_6 35 rfl rfl
set_option maxRecDepth 8000 in
theorem tb_1236 : (Cond.fieldLink "OneSunbeamModel" (397 : Nat) "OneSunbeamModel" "seeks" "Z") ∈ gt := sg_6 36 rfl rfl
set_option maxRecDepth 8000 in
theorem tb_1237 : (Cond.fieldLink "OneSunbeamModel" (143 : Nat) "OneSunbeamModel" "order" "[I") ∈ gt := sg_6 37 rfl rfl
set_option maxRecDepth 8000 in
theorem tb_1238 : (Cond.fieldLink "OneSunbeamModel" (146 : Nat) "OneSunbeamModel" "comes" "[I") ∈ gt := sg_6 38 rfl rfl
set_option maxRecDepth 8000 in
theorem tb_1239 : (Cond.fieldLink "OneSunbeamModel" (149 : Nat) "OneSunbeamModel" "comesAt" "[I") ∈ gt := sg_6 39 rfl rfl
set_option maxRecDepth 8000 in
theorem tb_1240 : (Cond.fieldLink "OneSunbeamModel" (401 : Nat) "OneSunbeamModel" "manyMet" "I") ∈ gt := sg_6 40 rfl rfl
set_option maxRecDepth 8000 in
theorem tb_1241 : (Cond.fieldLink "OneSunbeamModel" (152 : Nat) "OneSunbeamModel" "dayGot" "[I") ∈ gt := sg_6 41 rfl rfl
set_option maxRecDepth 8000 in
theorem tb_1242 : (Cond.fieldLink "OneSunbeamModel" (452 : Nat) "OneSunbeamModel" "blindHours" "I") ∈ gt := sg_6 42 rfl rfl
set_option maxRecDepth 8000 in
theorem tb_1243 : (Cond.fieldLink "OneSunbeamModel" (155 : Nat) "OneSunbeamModel" "before" "[I") ∈ gt := sg_6 43 rfl rfl
set_option maxRecDepth 8000 in
theorem tb_1244 : (Cond.fieldLink "OneSunbeamModel" (158 : Nat) "OneSunbeamModel" "keptSlant" "[I") ∈ gt := sg_6 44 rfl rfl
set_option maxRecDepth 8000 in
theorem tb_1245 : (Cond.fieldLink "OneSunbeamModel" (161 : Nat) "OneSunbeamModel" "keptBroken" "[I") ∈ gt := sg_6 45 rfl rfl
set_option maxRecDepth 8000 in
theorem tb_1246 : (Cond.fieldLink "OneSunbeamModel" (164 : Nat) "OneSunbeamModel" "keptDust" "[I") ∈ gt := sg_6 46 rfl rfl
set_option maxRecDepth 8000 in
theorem tb_1247 : (Cond.fieldLink "OneSunbeamModel" (167 : Nat) "OneSunbeamModel" "keptLit" "[I") ∈ gt := sg_6 47 rfl rfl
set_option maxRecDepth 8000 in
theorem tb_1248 : (Cond.fieldLink "OneSunbeamModel" (170 : Nat) "OneSunbeamModel" "row" "[I") ∈ gt := sg_6 48 rfl rfl
set_option maxRecDepth 8000 in
theorem tb_1249 : (Cond.fieldLink "OneSunbeamModel" (173 : Nat) "OneSunbeamModel" "bestRow" "[I") ∈ gt := sg_6 49 rfl rfl
set_option maxRecDepth 8000 in
theorem tb_1250 : (Cond.fieldLink "OneSunbeamModel" (176 : Nat) "OneSunbeamModel" "mended" "[I") ∈ gt := sg_6 50 rfl rfl
set_option maxRecDepth 8000 in
theorem tb_1251 : (Cond.fieldLink "OneSunbeamModel" (526 : Nat) "OneSunbeamModel" "keptDay" "I") ∈ gt := sg_6 51 rfl rfl
set_option maxRecDepth 8000 in
theorem tb_1252 : (Cond.fieldLink "OneSunbeamModel" (529 : Nat) "OneSunbeamModel" "keptMonth" "I") ∈ gt := sg_6 52 rfl rfl
set_option maxRecDepth 8000 in
theorem tb_1253 : (Cond.fieldLink "OneSunbeamModel" (179 : Nat) "OneSunbeamModel" "images" "[I") ∈ gt := sg_6 53 rfl rfl
set_option maxRecDepth 8000 in
theorem tb_1254 : (Cond.fieldLink "OneSunbeamModel" (182 : Nat) "OneSunbeamModel" "isMade" "[Z") ∈ gt := sg_6 54 rfl rfl
set_option maxRecDepth 8000 in
theorem tb_1255 : (Cond.fieldLink "OneSunbeamModel" (545 : Nat) "OneSunbeamModel" "imageAt" "I") ∈ gt := sg_6 55 rfl rfl
set_option maxRecDepth 8000 in
theorem tb_1256 : (Cond.fieldLink "OneSunbeamModel" (542 : Nat) "OneSunbeamModel" "goesBack" "Z") ∈ gt := sg_6 56 rfl rfl
set_option maxRecDepth 8000 in
theorem tb_1418 : (Cond.arrayClass FieldType.boolean) ∈ gt := sg_6 218 rfl rfl
set_option maxRecDepth 8000 in
theorem tb_1419 : (Cond.methodLink "OneSunbeamLaw" (17 : Nat) ({ cls := "OneSunbeamModel", name := "town", desc := "(IIIII)Z" } : MethodName)) ∈ gt := sg_6 219 rfl rfl
set_option maxRecDepth 8000 in
theorem tb_1420 : (Cond.instanceMethod ({ cls := "OneSunbeamModel", name := "town", desc := "(IIIII)Z" } : MethodName)) ∈ gt := sg_6 220 rfl rfl
set_option maxRecDepth 8000 in
theorem tb_1421 : (Cond.selects "OneSunbeamModel" ({ cls := "OneSunbeamModel", name := "town", desc := "(IIIII)Z" } : MethodName) ({ cls := "OneSunbeamModel", name := "town", desc := "(IIIII)Z" } : MethodName)) ∈ gt := sg_6 221 rfl rfl
set_option maxRecDepth 8000 in
theorem tb_1422 : (Cond.code ({ cls := "OneSunbeamModel", name := "town", desc := "(IIIII)Z" } : MethodName) prog_12_method_11_code (7 : Nat) (Option.some FieldType.boolean)) ∈ gt := sg_6 222 rfl rfl
set_option maxRecDepth 8000 in
theorem tb_1423 : (Cond.constantLong "OneSunbeamModel" (200 : Nat) (4 : Int64)) ∈ gt := sg_6 223 rfl rfl
set_option maxRecDepth 8000 in
theorem tb_1424 : (Cond.constantLong "OneSunbeamModel" (202 : Nat) (24 : Int64)) ∈ gt := sg_6 224 rfl rfl
set_option maxRecDepth 8000 in
theorem tb_1425 : (Cond.methodLink "OneSunbeamModel" (192 : Nat) ({ cls := "OneSunbeamModel", name := "in", desc := "(JJJ)Z" } : MethodName)) ∈ gt := sg_6 225 rfl rfl
set_option maxRecDepth 8000 in
theorem tb_1426 : (Cond.static ({ cls := "OneSunbeamModel", name := "in", desc := "(JJJ)Z" } : MethodName)) ∈ gt := sg_6 226 rfl rfl
set_option maxRecDepth 8000 in
theorem tb_1427 : (Cond.code ({ cls := "OneSunbeamModel", name := "in", desc := "(JJJ)Z" } : MethodName) prog_12_method_3_code (6 : Nat) (Option.some FieldType.boolean)) ∈ gt := sg_6 227 rfl rfl
set_option maxRecDepth 8000 in
theorem tb_1428 : (Cond.constantLong "OneSunbeamModel" (204 : Nat) (1000 : Int64)) ∈ gt := sg_6 228 rfl rfl
set_option maxRecDepth 8000 in
theorem tb_1429 : (Cond.methodLink "OneSunbeamLaw" (22 : Nat) ({ cls := "OneSunbeamModel", name := "rock", desc := "(IIIIZ)I" } : MethodName)) ∈ gt := sg_6 229 rfl rfl
set_option maxRecDepth 8000 in
theorem tb_1430 : (Cond.instanceMethod ({ cls := "OneSunbeamModel", name := "rock", desc := "(IIIIZ)I" } : MethodName)) ∈ gt := sg_6 230 rfl rfl
set_option maxRecDepth 8000 in
theorem tb_1431 : (Cond.selects "OneSunbeamModel" ({ cls := "OneSunbeamModel", name := "rock", desc := "(IIIIZ)I" } : MethodName) ({ cls := "OneSunbeamModel", name := "rock", desc := "(IIIIZ)I" } : MethodName)) ∈ gt := sg_6 231 rfl rfl
set_option maxRecDepth 8000 in
theorem tb_1432 : (Cond.code ({ cls := "OneSunbeamModel", name := "rock", desc := "(IIIIZ)I" } : MethodName) prog_12_method_12_code (9 : Nat) (Option.some FieldType.int)) ∈ gt := sg_6 232 rfl rfl
set_option maxRecDepth 8000 in
theorem tb_1433 : (Cond.methodLink "OneSunbeamModel" (206 : Nat) ({ cls := "OneSunbeamModel", name := "isArea", desc := "(IIII)Z" } : MethodName)) ∈ gt := sg_6 233 rfl rfl
set_option maxRecDepth 8000 in
theorem tb_1435 : (Cond.instanceMethod ({ cls := "OneSunbeamModel", name := "isArea", desc := "(IIII)Z" } : MethodName)) ∈ gt := sg_6 235 rfl rfl
set_option maxRecDepth 8000 in
theorem tb_1436 : (Cond.code ({ cls := "OneSunbeamModel", name := "isArea", desc := "(IIII)Z" } : MethodName) prog_12_method_8_code (5 : Nat) (Option.some FieldType.boolean)) ∈ gt := sg_6 236 rfl rfl
set_option maxRecDepth 8000 in
theorem tb_1437 : (Cond.methodLink "OneSunbeamModel" (196 : Nat) ({ cls := "OneSunbeamModel", name := "isCell", desc := "(II)Z" } : MethodName)) ∈ gt := sg_6 237 rfl rfl
set_option maxRecDepth 8000 in
theorem tb_1439 : (Cond.instanceMethod ({ cls := "OneSunbeamModel", name := "isCell", desc := "(II)Z" } : MethodName)) ∈ gt := sg_6 239 rfl rfl
set_option maxRecDepth 8000 in
theorem tb_1440 : (Cond.code ({ cls := "OneSunbeamModel", name := "isCell", desc := "(II)Z" } : MethodName) prog_12_method_7_code (3 : Nat) (Option.some FieldType.boolean)) ∈ gt := sg_7 0 rfl rfl
set_option maxRecDepth 8000 in
theorem tb_1441 : (Cond.methodLink "OneSunbeamModel" (188 : Nat) ({ cls := "OneSunbeamModel", name := "isTown", desc := "()Z" } : MethodName)) ∈ gt := sg_7 1 rfl rfl
set_option maxRecDepth 8000 in
theorem tb_1443 : (Cond.instanceMethod ({ cls := "OneSunbeamModel", name := "isTown", desc := "()Z" } : MethodName)) ∈ gt := sg_7 3 rfl rfl
set_option maxRecDepth 8000 in
theorem tb_1444 : (Cond.code ({ cls := "OneSunbeamModel", name := "isTown", desc := "()Z" } : MethodName) prog_12_method_6_code (1 : Nat) (Option.some FieldType.boolean)) ∈ gt := sg_7 4 rfl rfl
set_option maxRecDepth 8000 in
theorem tb_1445 : (Cond.methodLink "OneSunbeamLaw" (27 : Nat) ({ cls := "OneSunbeamModel", name := "sun", desc := "(IIII)Z" } : MethodName)) ∈ gt := sg_7 5 rfl rfl
set_option maxRecDepth 8000 in
theorem tb_1446 : (Cond.instanceMethod ({ cls := "OneSunbeamModel", name := "sun", desc := "(IIII)Z" } : MethodName)) ∈ gt := sg_7 6 rfl rfl
set_option maxRecDepth 8000 in
theorem tb_1447 : (Cond.selects "OneSunbeamModel" ({ cls := "OneSunbeamModel", name := "sun", desc := "(IIII)Z" } : MethodName) ({ cls := "OneSunbeamModel", name := "sun", desc := "(IIII)Z" } : MethodName)) ∈ gt := sg_7 7 rfl rfl
set_option maxRecDepth 8000 in
theorem tb_1448 : (Cond.code ({ cls := "OneSunbeamModel", name := "sun", desc := "(IIII)Z" } : MethodName) prog_12_method_13_code (6 : Nat) (Option.some FieldType.boolean)) ∈ gt := sg_7 8 rfl rfl
set_option maxRecDepth 8000 in
theorem tb_1449 : (Cond.constantLong "OneSunbeamModel" (210 : Nat) (11 : Int64)) ∈ gt := sg_7 9 rfl rfl
set_option maxRecDepth 8000 in
theorem tb_1450 : (Cond.constantLong "OneSunbeamModel" (212 : Nat) (23 : Int64)) ∈ gt := sg_7 10 rfl rfl
set_option maxRecDepth 8000 in
theorem tb_1451 : (Cond.constantLong "OneSunbeamModel" (214 : Nat) (7 : Int64)) ∈ gt := sg_7 11 rfl rfl
set_option maxRecDepth 8000 in
theorem tb_1452 : (Cond.constantLong "OneSunbeamModel" (216 : Nat) (99999 : Int64)) ∈ gt := sg_7 12 rfl rfl
set_option maxRecDepth 8000 in
theorem tb_1453 : (Cond.methodLink "OneSunbeamLaw" (32 : Nat) ({ cls := "OneSunbeamModel", name := "mirror", desc := "(IIIIIII)I" } : MethodName)) ∈ gt := sg_7 13 rfl rfl
set_option maxRecDepth 8000 in
theorem tb_1454 : (Cond.instanceMethod ({ cls := "OneSunbeamModel", name := "mirror", desc := "(IIIIIII)I" } : MethodName)) ∈ gt := sg_7 14 rfl rfl
set_option maxRecDepth 8000 in
theorem tb_1455 : (Cond.selects "OneSunbeamModel" ({ cls := "OneSunbeamModel", name := "mirror", desc := "(IIIIIII)I" } : MethodName) ({ cls := "OneSunbeamModel", name := "mirror", desc := "(IIIIIII)I" } : MethodName)) ∈ gt := sg_7 15 rfl rfl
set_option maxRecDepth 8000 in
theorem tb_1456 : (Cond.code ({ cls := "OneSunbeamModel", name := "mirror", desc := "(IIIIIII)I" } : MethodName) prog_12_method_14_code (9 : Nat) (Option.some FieldType.int)) ∈ gt := sg_7 16 rfl rfl
set_option maxRecDepth 8000 in
theorem tb_1457 : (Cond.constantLong "OneSunbeamModel" (218 : Nat) (9 : Int64)) ∈ gt := sg_7 17 rfl rfl
set_option maxRecDepth 8000 in
theorem tb_1458 : (Cond.methodLink "OneSunbeamLaw" (37 : Nat) ({ cls := "OneSunbeamModel", name := "sets", desc := "(III)I" } : MethodName)) ∈ gt := sg_7 18 rfl rfl
set_option maxRecDepth 8000 in
theorem tb_1459 : (Cond.instanceMethod ({ cls := "OneSunbeamModel", name := "sets", desc := "(III)I" } : MethodName)) ∈ gt := sg_7 19 rfl rfl
set_option maxRecDepth 8000 in
theorem tb_1460 : (Cond.selects "OneSunbeamModel" ({ cls := "OneSunbeamModel", name := "sets", desc := "(III)I" } : MethodName) ({ cls := "OneSunbeamModel", name := "sets", desc := "(III)I" } : MethodName)) ∈ gt := sg_7 20 rfl rfl
set_option maxRecDepth 8000 in
theorem tb_1461 : (Cond.code ({ cls := "OneSunbeamModel", name := "sets", desc := "(III)I" } : MethodName) prog_12_method_15_code (5 : Nat) (Option.some FieldType.int)) ∈ gt := sg_7 21 rfl rfl
set_option maxRecDepth 8000 in
theorem tb_1462 : (Cond.methodLink "OneSunbeamModel" (220 : Nat) ({ cls := "OneSunbeamModel", name := "isMirror", desc := "(I)Z" } : MethodName)) ∈ gt := sg_7 22 rfl rfl
set_option maxRecDepth 8000 in
theorem tb_1464 : (Cond.instanceMethod ({ cls := "OneSunbeamModel", name := "isMirror", desc := "(I)Z" } : MethodName)) ∈ gt := sg_7 24 rfl rfl
set_option maxRecDepth 8000 in
theorem tb_1465 : (Cond.code ({ cls := "OneSunbeamModel", name := "isMirror", desc := "(I)Z" } : MethodName) prog_12_method_9_code (2 : Nat) (Option.some FieldType.boolean)) ∈ gt := sg_7 25 rfl rfl
set_option maxRecDepth 8000 in
theorem tb_1466 : (Cond.constantLong "OneSunbeamModel" (224 : Nat) (3 : Int64)) ∈ gt := sg_7 26 rfl rfl
set_option maxRecDepth 8000 in
theorem tb_1467 : (Cond.constantLong "OneSunbeamModel" (226 : Nat) (-1 : Int64)) ∈ gt := sg_7 27 rfl rfl
set_option maxRecDepth 8000 in
theorem tb_1468 : (Cond.methodLink "OneSunbeamLaw" (42 : Nat) ({ cls := "OneSunbeamModel", name := "yard", desc := "(IIIIII)I" } : MethodName)) ∈ gt := sg_7 28 rfl rfl
set_option maxRecDepth 8000 in
theorem tb_1469 : (Cond.instanceMethod ({ cls := "OneSunbeamModel", name := "yard", desc := "(IIIIII)I" } : MethodName)) ∈ gt := sg_7 29 rfl rfl
set_option maxRecDepth 8000 in
theorem tb_1470 : (Cond.selects "OneSunbeamModel" ({ cls := "OneSunbeamModel", name := "yard", desc := "(IIIIII)I" } : MethodName) ({ cls := "OneSunbeamModel", name := "yard", desc := "(IIIIII)I" } : MethodName)) ∈ gt := sg_7 30 rfl rfl
set_option maxRecDepth 8000 in
theorem tb_1471 : (Cond.code ({ cls := "OneSunbeamModel", name := "yard", desc := "(IIIIII)I" } : MethodName) prog_12_method_16_code (8 : Nat) (Option.some FieldType.int)) ∈ gt := sg_7 31 rfl rfl
set_option maxRecDepth 8000 in
theorem tb_1472 : (Cond.constantLong "OneSunbeamModel" (228 : Nat) (9999999 : Int64)) ∈ gt := sg_7 32 rfl rfl
set_option maxRecDepth 8000 in
theorem tb_1473 : (Cond.methodLink "OneSunbeamLaw" (46 : Nat) ({ cls := "OneSunbeamModel", name := "eyes", desc := "(III)I" } : MethodName)) ∈ gt := sg_7 33 rfl rfl
set_option maxRecDepth 8000 in
theorem tb_1474 : (Cond.instanceMethod ({ cls := "OneSunbeamModel", name := "eyes", desc := "(III)I" } : MethodName)) ∈ gt := sg_7 34 rfl rfl
set_option maxRecDepth 8000 in
theorem tb_1475 : (Cond.selects "OneSunbeamModel" ({ cls := "OneSunbeamModel", name := "eyes", desc := "(III)I" } : MethodName) ({ cls := "OneSunbeamModel", name := "eyes", desc := "(III)I" } : MethodName)) ∈ gt := sg_7 35 rfl rfl
set_option maxRecDepth 8000 in
theorem tb_1476 : (Cond.code ({ cls := "OneSunbeamModel", name := "eyes", desc := "(III)I" } : MethodName) prog_12_method_17_code (5 : Nat) (Option.some FieldType.int)) ∈ gt := sg_7 36 rfl rfl
set_option maxRecDepth 8000 in
theorem tb_1477 : (Cond.methodLink "OneSunbeamLaw" (51 : Nat) ({ cls := "OneSunbeamModel", name := "month", desc := "(I)I" } : MethodName)) ∈ gt := sg_7 37 rfl rfl
set_option maxRecDepth 8000 in
theorem tb_1478 : (Cond.instanceMethod ({ cls := "OneSunbeamModel", name := "month", desc := "(I)I" } : MethodName)) ∈ gt := sg_7 38 rfl rfl
set_option maxRecDepth 8000 in
theorem tb_1479 : (Cond.selects "OneSunbeamModel" ({ cls := "OneSunbeamModel", name := "month", desc := "(I)I" } : MethodName) ({ cls := "OneSunbeamModel", name := "month", desc := "(I)I" } : MethodName)) ∈ gt := sg_7 39 rfl rfl
set_option maxRecDepth 8000 in
theorem tb_1480 : (Cond.code ({ cls := "OneSunbeamModel", name := "month", desc := "(I)I" } : MethodName) prog_12_method_18_code (3 : Nat) (Option.some FieldType.int)) ∈ gt := sg_7 40 rfl rfl
set_option maxRecDepth 8000 in
theorem tb_1481 : (Cond.methodLink "OneSunbeamLaw" (55 : Nat) ({ cls := "OneSunbeamModel", name := "falls", desc := "(I)I" } : MethodName)) ∈ gt := sg_7 41 rfl rfl
set_option maxRecDepth 8000 in
theorem tb_1482 : (Cond.instanceMethod ({ cls := "OneSunbeamModel", name := "falls", desc := "(I)I" } : MethodName)) ∈ gt := sg_7 42 rfl rfl
set_option maxRecDepth 8000 in
theorem tb_1483 : (Cond.selects "OneSunbeamModel" ({ cls := "OneSunbeamModel", name := "falls", desc := "(I)I" } : MethodName) ({ cls := "OneSunbeamModel", name := "falls", desc := "(I)I" } : MethodName)) ∈ gt := sg_7 43 rfl rfl
set_option maxRecDepth 8000 in
theorem tb_1484 : (Cond.code ({ cls := "OneSunbeamModel", name := "falls", desc := "(I)I" } : MethodName) prog_12_method_19_code (3 : Nat) (Option.some FieldType.int)) ∈ gt := sg_7 44 rfl rfl
set_option maxRecDepth 8000 in
theorem tb_1485 : (Cond.constantLong "OneSunbeamModel" (230 : Nat) (99 : Int64)) ∈ gt := sg_7 45 rfl rfl
set_option maxRecDepth 8000 in
theorem tb_1486 : (Cond.methodLink "OneSunbeamLaw" (60 : Nat) ({ cls := "OneSunbeamModel", name := "feed", desc := "(IIIII)I" } : MethodName)) ∈ gt := sg_7 46 rfl rfl
set_option maxRecDepth 8000 in
theorem tb_1487 : (Cond.instanceMethod ({ cls := "OneSunbeamModel", name := "feed", desc := "(IIIII)I" } : MethodName)) ∈ gt := sg_7 47 rfl rfl
set_option maxRecDepth 8000 in
theorem tb_1488 : (Cond.selects "OneSunbeamModel" ({ cls := "OneSunbeamModel", name := "feed", desc := "(IIIII)I" } : MethodName) ({ cls := "OneSunbeamModel", name := "feed", desc := "(IIIII)I" } : MethodName)) ∈ gt := sg_7 48 rfl rfl
set_option maxRecDepth 8000 in
theorem tb_1489 : (Cond.code ({ cls := "OneSunbeamModel", name := "feed", desc := "(IIIII)I" } : MethodName) prog_12_method_20_code (6 : Nat) (Option.some FieldType.int)) ∈ gt := sg_7 49 rfl rfl
set_option maxRecDepth 8000 in
theorem tb_1490 : (Cond.methodLink "OneSunbeamModel" (235 : Nat) ({ cls := "OneSunbeamModel", name := "put", desc := "(I)V" } : MethodName)) ∈ gt := sg_7 50 rfl rfl
set_option maxRecDepth 8000 in
theorem tb_1492 : (Cond.instanceMethod ({ cls := "OneSunbeamModel", name := "put", desc := "(I)V" } : MethodName)) ∈ gt := sg_7 52 rfl rfl
set_option maxRecDepth 8000 in
theorem tb_1493 : (Cond.code ({ cls := "OneSunbeamModel", name := "put", desc := "(I)V" } : MethodName) prog_12_method_21_code (3 : Nat) (Option.none : Option FieldType)) ∈ gt := sg_7 53 rfl rfl
set_option maxRecDepth 8000 in
theorem tb_1494 : (Cond.methodLink "OneSunbeamLaw" (64 : Nat) ({ cls := "OneSunbeamModel", name := "end", desc := "(I)I" } : MethodName)) ∈ gt := sg_7 54 rfl rfl
set_option maxRecDepth 8000 in
theorem tb_1495 : (Cond.instanceMethod ({ cls := "OneSunbeamModel", name := "end", desc := "(I)I" } : MethodName)) ∈ gt := sg_7 55 rfl rfl
set_option maxRecDepth 8000 in
theorem tb_1496 : (Cond.selects "OneSunbeamModel" ({ cls := "OneSunbeamModel", name := "end", desc := "(I)I" } : MethodName) ({ cls := "OneSunbeamModel", name := "end", desc := "(I)I" } : MethodName)) ∈ gt := sg_7 56 rfl rfl
set_option maxRecDepth 8000 in
theorem tb_1497 : (Cond.code ({ cls := "OneSunbeamModel", name := "end", desc := "(I)I" } : MethodName) prog_12_method_22_code (2 : Nat) (Option.some FieldType.int)) ∈ gt := sg_7 57 rfl rfl
set_option maxRecDepth 8000 in
theorem tb_1498 : (Cond.methodLink "OneSunbeamLaw" (69 : Nat) ({ cls := "OneSunbeamModel", name := "law", desc := "()I" } : MethodName)) ∈ gt := sg_7 58 rfl rfl
set_option maxRecDepth 8000 in
theorem tb_1499 : (Cond.instanceMethod ({ cls := "OneSunbeamModel", name := "law", desc := "()I" } : MethodName)) ∈ gt := sg_7 59 rfl rfl
set_option maxRecDepth 8000 in
theorem tb_1500 : (Cond.selects "OneSunbeamModel" ({ cls := "OneSunbeamModel", name := "law", desc := "()I" } : MethodName) ({ cls := "OneSunbeamModel", name := "law", desc := "()I" } : MethodName)) ∈ gt := sg_7 60 rfl rfl
set_option maxRecDepth 8000 in
theorem tb_1501 : (Cond.code ({ cls := "OneSunbeamModel", name := "law", desc := "()I" } : MethodName) prog_12_method_43_code (3 : Nat) (Option.some FieldType.int)) ∈ gt := sg_7 61 rfl rfl
set_option maxRecDepth 8000 in
theorem tb_1502 : (Cond.methodLink "OneSunbeamModel" (374 : Nat) ({ cls := "OneSunbeamModel", name := "clause", desc := "(I)V" } : MethodName)) ∈ gt := sg_7 62 rfl rfl
set_option maxRecDepth 8000 in
theorem tb_1504 : (Cond.instanceMethod ({ cls := "OneSunbeamModel", name := "clause", desc := "(I)V" } : MethodName)) ∈ gt := sg_7 64 rfl rfl
set_option maxRecDepth 8000 in
theorem tb_1505 : (Cond.code ({ cls := "OneSunbeamModel", name := "clause", desc := "(I)V" } : MethodName) prog_12_method_42_code (4 : Nat) (Option.none : Option FieldType)) ∈ gt := sg_7 65 rfl rfl
set_option maxRecDepth 8000 in
theorem tb_1506 : (Cond.methodLink "OneSunbeamModel" (287 : Nat) ({ cls := "OneSunbeamModel", name := "blanks", desc := "()V" } : MethodName)) ∈ gt := sg_7 66 rfl rfl
set_option maxRecDepth 8000 in
theorem tb_1508 : (Cond.instanceMethod ({ cls := "OneSunbeamModel", name := "blanks", desc := "()V" } : MethodName)) ∈ gt := sg_7 68 rfl rfl
set_option maxRecDepth 8000 in
theorem tb_1509 : (Cond.code ({ cls := "OneSunbeamModel", name := "blanks", desc := "()V" } : MethodName) prog_12_method_26_code (1 : Nat) (Option.none : Option FieldType)) ∈ gt := sg_7 69 rfl rfl
set_option maxRecDepth 8000 in
theorem tb_1510 : (Cond.methodLink "OneSunbeamModel" (270 : Nat) ({ cls := "OneSunbeamModel", name := "sign", desc := "()I" } : MethodName)) ∈ gt := sg_7 70 rfl rfl
set_option maxRecDepth 8000 in
theorem tb_1512 : (Cond.instanceMethod ({ cls := "OneSunbeamModel", name := "sign", desc := "()I" } : MethodName)) ∈ gt := sg_7 72 rfl rfl
set_option maxRecDepth 8000 in
theorem tb_1513 : (Cond.code ({ cls := "OneSunbeamModel", name := "sign", desc := "()I" } : MethodName) prog_12_method_25_code (1 : Nat) (Option.some FieldType.int)) ∈ gt := sg_7 73 rfl rfl
set_option maxRecDepth 8000 in
theorem tb_1515 : (Cond.methodLink "OneSunbeamModel" (290 : Nat) ({ cls := "OneSunbeamModel", name := "stands", desc := "(Ljava/lang/String;)Z" } : MethodName)) ∈ gt := sg_7 75 rfl rfl
set_option maxRecDepth 8000 in
theorem tb_1517 : (Cond.instanceMethod ({ cls := "OneSunbeamModel", name := "stands", desc := "(Ljava/lang/String;)Z" } : MethodName)) ∈ gt := sg_7 77 rfl rfl
set_option maxRecDepth 8000 in
theorem tb_1518 : (Cond.code ({ cls := "OneSunbeamModel", name := "stands", desc := "(Ljava/lang/String;)Z" } : MethodName) prog_12_method_28_code (5 : Nat) (Option.some FieldType.boolean)) ∈ gt := sg_7 78 rfl rfl
set_option maxRecDepth 8000 in
theorem tb_1519 : (Cond.methodLink "OneSunbeamModel" (278 : Nat) ({ cls := "java/lang/String", name := "length", desc := "()I" } : MethodName)) ∈ gt := sg_7 79 rfl rfl
set_option maxRecDepth 8000 in
theorem tb_1520 : (Cond.methodLink "OneSunbeamModel" (283 : Nat) ({ cls := "java/lang/String", name := "charAt", desc := "(I)C" } : MethodName)) ∈ gt := sg_7 80 rfl rfl
set_option maxRecDepth 8000 in
theorem tb_1521 : (Cond.methodLink "OneSunbeamModel" (303 : Nat) ({ cls := "OneSunbeamModel", name := "fails", desc := "(II)V" } : MethodName)) ∈ gt := sg_7 81 rfl rfl
set_option maxRecDepth 8000 in
theorem tb_1523 : (Cond.instanceMethod ({ cls := "OneSunbeamModel", name := "fails", desc := "(II)V" } : MethodName)) ∈ gt := sg_7 83 rfl rfl
set_option maxRecDepth 8000 in
theorem tb_1524 : (Cond.code ({ cls := "OneSunbeamModel", name := "fails", desc := "(II)V" } : MethodName) prog_12_method_24_code (3 : Nat) (Option.none : Option FieldType)) ∈ gt := sg_7 84 rfl rfl
set_option maxRecDepth 8000 in
theorem tb_1525 : (Cond.methodLink "OneSunbeamModel" (311 : Nat) ({ cls := "OneSunbeamModel", name := "digits", desc := "(I)I" } : MethodName)) ∈ gt := sg_7 85 rfl rfl
set_option maxRecDepth 8000 in
theorem tb_1527 : (Cond.instanceMethod ({ cls := "OneSunbeamModel", name := "digits", desc := "(I)I" } : MethodName)) ∈ gt := sg_7 87 rfl rfl
set_option maxRecDepth 8000 in
theorem tb_1528 : (Cond.code ({ cls := "OneSunbeamModel", name := "digits", desc := "(I)I" } : MethodName) prog_12_method_32_code (4 : Nat) (Option.some FieldType.int)) ∈ gt := sg_7 88 rfl rfl
set_option maxRecDepth 8000 in
theorem tb_1529 : (Cond.methodLink "OneSunbeamModel" (307 : Nat) ({ cls := "OneSunbeamModel", name := "isDigit", desc := "()Z" } : MethodName)) ∈ gt := sg_7 89 rfl rfl
set_option maxRecDepth 8000 in
theorem tb_1531 : (Cond.instanceMethod ({ cls := "OneSunbeamModel", name := "isDigit", desc := "()Z" } : MethodName)) ∈ gt := sg_7 91 rfl rfl
set_option maxRecDepth 8000 in
theorem tb_1532 : (Cond.code ({ cls := "OneSunbeamModel", name := "isDigit", desc := "()Z" } : MethodName) prog_12_method_27_code (1 : Nat) (Option.some FieldType.boolean)) ∈ gt := sg_7 92 rfl rfl
set_option maxRecDepth 8000 in
theorem tb_1533 : (Cond.constantLong "OneSunbeamModel" (274 : Nat) (48 : Int64)) ∈ gt := sg_7 93 rfl rfl
set_option maxRecDepth 8000 in
theorem tb_1534 : (Cond.constantLong "OneSunbeamModel" (276 : Nat) (57 : Int64)) ∈ gt := sg_7 94 rfl rfl
set_option maxRecDepth 8000 in
theorem tb_1535 : (Cond.methodLink "OneSunbeamModel" (331 : Nat) ({ cls := "OneSunbeamModel", name := "sum", desc := "()V" } : MethodName)) ∈ gt := sg_7 95 rfl rfl
set_option maxRecDepth 8000 in
theorem tb_1537 : (Cond.instanceMethod ({ cls := "OneSunbeamModel", name := "sum", desc := "()V" } : MethodName)) ∈ gt := sg_7 97 rfl rfl
set_option maxRecDepth 8000 in
theorem tb_1538 : (Cond.code ({ cls := "OneSunbeamModel", name := "sum", desc := "()V" } : MethodName) prog_12_method_35_code (2 : Nat) (Option.none : Option FieldType)) ∈ gt := sg_7 98 rfl rfl
set_option maxRecDepth 8000 in
theorem tb_1539 : (Cond.methodLink "OneSunbeamModel" (328 : Nat) ({ cls := "OneSunbeamModel", name := "term", desc := "()V" } : MethodName)) ∈ gt := sg_7 99 rfl rfl
set_option maxRecDepth 8000 in
theorem tb_1541 : (Cond.instanceMethod ({ cls := "OneSunbeamModel", name := "term", desc := "()V" } : MethodName)) ∈ gt := sg_7 101 rfl rfl
set_option maxRecDepth 8000 in
theorem tb_1542 : (Cond.code ({ cls := "OneSunbeamModel", name := "term", desc := "()V" } : MethodName) prog_12_method_34_code (2 : Nat) (Option.none : Option FieldType)) ∈ gt := sg_7 102 rfl rfl
set_option maxRecDepth 8000 in
theorem tb_1543 : (Cond.methodLink "OneSunbeamModel" (325 : Nat) ({ cls := "OneSunbeamModel", name := "value", desc := "()V" } : MethodName)) ∈ gt := sg_7 103 rfl rfl
set_option maxRecDepth 8000 in
theorem tb_1545 : (Cond.instanceMethod ({ cls := "OneSunbeamModel", name := "value", desc := "()V" } : MethodName)) ∈ gt := sg_7 105 rfl rfl
set_option maxRecDepth 8000 in
theorem tb_1546 : (Cond.code ({ cls := "OneSunbeamModel", name := "value", desc := "()V" } : MethodName) prog_12_method_33_code (3 : Nat) (Option.none : Option FieldType)) ∈ gt := sg_7 106 rfl rfl
set_option maxRecDepth 8000 in
theorem tb_1547 : (Cond.constant "OneSunbeamModel" (310 : Nat) (99999 : Int32)) ∈ gt := sg_7 107 rfl rfl
set_option maxRecDepth 8000 in
theorem tb_1548 : (Cond.methodLink "OneSunbeamModel" (315 : Nat) ({ cls := "OneSunbeamModel", name := "isCounted", desc := "(I)V" } : MethodName)) ∈ gt := sg_7 108 rfl rfl
set_option maxRecDepth 8000 in
theorem tb_1550 : (Cond.instanceMethod ({ cls := "OneSunbeamModel", name := "isCounted", desc := "(I)V" } : MethodName)) ∈ gt := sg_7 110 rfl rfl
set_option maxRecDepth 8000 in
theorem tb_1551 : (Cond.code ({ cls := "OneSunbeamModel", name := "isCounted", desc := "(I)V" } : MethodName) prog_12_method_31_code (2 : Nat) (Option.none : Option FieldType)) ∈ gt := sg_7 111 rfl rfl
set_option maxRecDepth 8000 in
theorem tb_1552 : (Cond.methodLink "OneSunbeamModel" (318 : Nat) ({ cls := "OneSunbeamModel", name := "entry", desc := "(II)V" } : MethodName)) ∈ gt := sg_7 112 rfl rfl
set_option maxRecDepth 8000 in
theorem tb_1554 : (Cond.instanceMethod ({ cls := "OneSunbeamModel", name := "entry", desc := "(II)V" } : MethodName)) ∈ gt := sg_7 114 rfl rfl
set_option maxRecDepth 8000 in
theorem tb_1555 : (Cond.code ({ cls := "OneSunbeamModel", name := "entry", desc := "(II)V" } : MethodName) prog_12_method_30_code (3 : Nat) (Option.none : Option FieldType)) ∈ gt := sg_7 115 rfl rfl
set_option maxRecDepth 8000 in
theorem tb_1556 : (Cond.methodLink "OneSunbeamModel" (321 : Nat) ({ cls := "OneSunbeamModel", name := "wordOf", desc := "(I)Ljava/lang/String;" } : MethodName)) ∈ gt := sg_7 116 rfl rfl
set_option maxRecDepth 8000 in
theorem tb_1557 : (Cond.static ({ cls := "OneSunbeamModel", name := "wordOf", desc := "(I)Ljava/lang/String;" } : MethodName)) ∈ gt := sg_7 117 rfl rfl
set_option maxRecDepth 8000 in
theorem tb_1558 : (Cond.code ({ cls := "OneSunbeamModel", name := "wordOf", desc := "(I)Ljava/lang/String;" } : MethodName) prog_12_method_23_code (1 : Nat) (Option.some (FieldType.object "java/lang/String"))) ∈ gt := sg_7 118 rfl rfl
set_option maxRecDepth 8000 in
theorem tb_1573 : (Cond.methodLink "OneSunbeamModel" (365 : Nat) ({ cls := "OneSunbeamModel", name := "takes", desc := "(Ljava/lang/String;)Z" } : MethodName)) ∈ gt := sg_7 133 rfl rfl
set_option maxRecDepth 8000 in
theorem tb_1575 : (Cond.instanceMethod ({ cls := "OneSunbeamModel", name := "takes", desc := "(Ljava/lang/String;)Z" } : MethodName)) ∈ gt := sg_7 135 rfl rfl
set_option maxRecDepth 8000 in
theorem tb_1576 : (Cond.code ({ cls := "OneSunbeamModel", name := "takes", desc := "(Ljava/lang/String;)Z" } : MethodName) prog_12_method_29_code (3 : Nat) (Option.some FieldType.boolean)) ∈ gt := sg_7 136 rfl rfl
set_option maxRecDepth 8000 in
theorem tb_1577 : (Cond.methodLink "OneSunbeamModel" (368 : Nat) ({ cls := "OneSunbeamModel", name := "test", desc := "()V" } : MethodName)) ∈ gt := sg_7 137 rfl rfl
set_option maxRecDepth 8000 in
theorem tb_1579 : (Cond.instanceMethod ({ cls := "OneSunbeamModel", name := "test", desc := "()V" } : MethodName)) ∈ gt := sg_7 139 rfl rfl
set_option maxRecDepth 8000 in
theorem tb_1580 : (Cond.code ({ cls := "OneSunbeamModel", name := "test", desc := "()V" } : MethodName) prog_12_method_41_code (5 : Nat) (Option.none : Option FieldType)) ∈ gt := sg_7 140 rfl rfl
set_option maxRecDepth 8000 in
theorem tb_1581 : (Cond.methodLink "OneSunbeamModel" (351 : Nat) ({ cls := "OneSunbeamModel", name := "fact", desc := "()Z" } : MethodName)) ∈ gt := sg_7 141 rfl rfl
set_option maxRecDepth 8000 in
theorem tb_1583 : (Cond.instanceMethod ({ cls := "OneSunbeamModel", name := "fact", desc := "()Z" } : MethodName)) ∈ gt := sg_7 143 rfl rfl
set_option maxRecDepth 8000 in
theorem tb_1584 : (Cond.code ({ cls := "OneSunbeamModel", name := "fact", desc := "()Z" } : MethodName) prog_12_method_40_code (1 : Nat) (Option.some FieldType.boolean)) ∈ gt := sg_7 144 rfl rfl
set_option maxRecDepth 8000 in
theorem tb_1586 : (Cond.methodLink "OneSunbeamModel" (345 : Nat) ({ cls := "OneSunbeamModel", name := "opens", desc := "(I)V" } : MethodName)) ∈ gt := sg_7 146 rfl rfl
set_option maxRecDepth 8000 in
theorem tb_1588 : (Cond.instanceMethod ({ cls := "OneSunbeamModel", name := "opens", desc := "(I)V" } : MethodName)) ∈ gt := sg_7 148 rfl rfl
set_option maxRecDepth 8000 in
theorem tb_1589 : (Cond.code ({ cls := "OneSunbeamModel", name := "opens", desc := "(I)V" } : MethodName) prog_12_method_38_code (2 : Nat) (Option.none : Option FieldType)) ∈ gt := sg_7 149 rfl rfl
set_option maxRecDepth 8000 in
theorem tb_1590 : (Cond.methodLink "OneSunbeamModel" (348 : Nat) ({ cls := "OneSunbeamModel", name := "compared", desc := "()V" } : MethodName)) ∈ gt := sg_7 150 rfl rfl
set_option maxRecDepth 8000 in
theorem tb_1592 : (Cond.instanceMethod ({ cls := "OneSunbeamModel", name := "compared", desc := "()V" } : MethodName)) ∈ gt := sg_7 152 rfl rfl
set_option maxRecDepth 8000 in
theorem tb_1593 : (Cond.code ({ cls := "OneSunbeamModel", name := "compared", desc := "()V" } : MethodName) prog_12_method_36_code (3 : Nat) (Option.none : Option FieldType)) ∈ gt := sg_7 153 rfl rfl
set_option maxRecDepth 8000 in
theorem tb_1594 : (Cond.methodLink "OneSunbeamModel" (354 : Nat) ({ cls := "OneSunbeamModel", name := "answers", desc := "(I)V" } : MethodName)) ∈ gt := sg_7 154 rfl rfl
set_option maxRecDepth 8000 in
theorem tb_1596 : (Cond.instanceMethod ({ cls := "OneSunbeamModel", name := "answers", desc := "(I)V" } : MethodName)) ∈ gt := sg_7 156 rfl rfl
set_option maxRecDepth 8000 in
theorem tb_1597 : (Cond.code ({ cls := "OneSunbeamModel", name := "answers", desc := "(I)V" } : MethodName) prog_12_method_39_code (2 : Nat) (Option.none : Option FieldType)) ∈ gt := sg_7 157 rfl rfl
set_option maxRecDepth 8000 in
theorem tb_1598 : (Cond.methodLink "OneSunbeamModel" (340 : Nat) ({ cls := "OneSunbeamModel", name := "top", desc := "()I" } : MethodName)) ∈ gt := sg_7 158 rfl rfl
set_option maxRecDepth 8000 in
theorem tb_1600 : (Cond.instanceMethod ({ cls := "OneSunbeamModel", name := "top", desc := "()I" } : MethodName)) ∈ gt := sg_7 160 rfl rfl
set_option maxRecDepth 8000 in
theorem tb_1601 : (Cond.code ({ cls := "OneSunbeamModel", name := "top", desc := "()I" } : MethodName) prog_12_method_37_code (1 : Nat) (Option.some FieldType.int)) ∈ gt := sg_7 161 rfl rfl
set_option maxRecDepth 8000 in
theorem tb_1604 : (Cond.methodLink "OneSunbeamLaw" (74 : Nat) ({ cls := "OneSunbeamModel", name := "days", desc := "(II)I" } : MethodName)) ∈ gt := sg_7 164 rfl rfl
set_option maxRecDepth 8000 in
theorem tb_1605 : (Cond.instanceMethod ({ cls := "OneSunbeamModel", name := "days", desc := "(II)I" } : MethodName)) ∈ gt := sg_7 165 rfl rfl
set_option maxRecDepth 8000 in
theorem tb_1606 : (Cond.selects "OneSunbeamModel" ({ cls := "OneSunbeamModel", name := "days", desc := "(II)I" } : MethodName) ({ cls := "OneSunbeamModel", name := "days", desc := "(II)I" } : MethodName)) ∈ gt := sg_7 166 rfl rfl
set_option maxRecDepth 8000 in
theorem tb_1607 : (Cond.code ({ cls := "OneSunbeamModel", name := "days", desc := "(II)I" } : MethodName) prog_12_method_65_code (4 : Nat) (Option.some FieldType.int)) ∈ gt := sg_7 167 rfl rfl
set_option maxRecDepth 8000 in
theorem tb_1608 : (Cond.methodLink "OneSunbeamModel" (458 : Nat) ({ cls := "OneSunbeamModel", name := "isLaw", desc := "(I)Z" } : MethodName)) ∈ gt := sg_7 168 rfl rfl
set_option maxRecDepth 8000 in
theorem tb_1610 : (Cond.instanceMethod ({ cls := "OneSunbeamModel", name := "isLaw", desc := "(I)Z" } : MethodName)) ∈ gt := sg_7 170 rfl rfl
set_option maxRecDepth 8000 in
theorem tb_1611 : (Cond.code ({ cls := "OneSunbeamModel", name := "isLaw", desc := "(I)Z" } : MethodName) prog_12_method_44_code (2 : Nat) (Option.some FieldType.boolean)) ∈ gt := sg_7 171 rfl rfl
set_option maxRecDepth 8000 in
theorem tb_1612 : (Cond.constantLong "OneSunbeamModel" (461 : Nat) (30 : Int64)) ∈ gt := sg_7 172 rfl rfl
set_option maxRecDepth 8000 in
theorem tb_1613 : (Cond.methodLink "OneSunbeamModel" (463 : Nat) ({ cls := "OneSunbeamModel", name := "goesDay", desc := "(I)V" } : MethodName)) ∈ gt := sg_7 173 rfl rfl
set_option maxRecDepth 8000 in
theorem tb_1615 : (Cond.instanceMethod ({ cls := "OneSunbeamModel", name := "goesDay", desc := "(I)V" } : MethodName)) ∈ gt := sg_7 175 rfl rfl
set_option maxRecDepth 8000 in
theorem tb_1616 : (Cond.code ({ cls := "OneSunbeamModel", name := "goesDay", desc := "(I)V" } : MethodName) prog_12_method_63_code (4 : Nat) (Option.none : Option FieldType)) ∈ gt := sg_7 176 rfl rfl
set_option maxRecDepth 8000 in
theorem tb_1617 : (Cond.methodLink "OneSunbeamModel" (449 : Nat) ({ cls := "OneSunbeamModel", name := "turns", desc := "(III)V" } : MethodName)) ∈ gt := sg_7 177 rfl rfl
set_option maxRecDepth 8000 in
theorem tb_1619 : (Cond.instanceMethod ({ cls := "OneSunbeamModel", name := "turns", desc := "(III)V" } : MethodName)) ∈ gt := sg_7 179 rfl rfl
set_option maxRecDepth 8000 in
theorem tb_1620 : (Cond.code ({ cls := "OneSunbeamModel", name := "turns", desc := "(III)V" } : MethodName) prog_12_method_62_code (9 : Nat) (Option.none : Option FieldType)) ∈ gt := sg_7 180 rfl rfl
set_option maxRecDepth 8000 in
theorem tb_1621 : (Cond.methodLink "OneSunbeamModel" (442 : Nat) ({ cls := "OneSunbeamModel", name := "asks", desc := "(II)V" } : MethodName)) ∈ gt := sg_7 181 rfl rfl
set_option maxRecDepth 8000 in
theorem tb_1623 : (Cond.instanceMethod ({ cls := "OneSunbeamModel", name := "asks", desc := "(II)V" } : MethodName)) ∈ gt := sg_7 183 rfl rfl
set_option maxRecDepth 8000 in
theorem tb_1624 : (Cond.code ({ cls := "OneSunbeamModel", name := "asks", desc := "(II)V" } : MethodName) prog_12_method_61_code (4 : Nat) (Option.none : Option FieldType)) ∈ gt := sg_7 184 rfl rfl
set_option maxRecDepth 8000 in
theorem tb_1625 : (Cond.methodLink "OneSunbeamModel" (433 : Nat) ({ cls := "OneSunbeamModel", name := "sunOf", desc := "(I)I" } : MethodName)) ∈ gt := sg_7 185 rfl rfl
set_option maxRecDepth 8000 in
theorem tb_1627 : (Cond.instanceMethod ({ cls := "OneSunbeamModel", name := "sunOf", desc := "(I)I" } : MethodName)) ∈ gt := sg_7 187 rfl rfl
set_option maxRecDepth 8000 in
theorem tb_1628 : (Cond.code ({ cls := "OneSunbeamModel", name := "sunOf", desc := "(I)I" } : MethodName) prog_12_method_56_code (2 : Nat) (Option.some FieldType.int)) ∈ gt := sg_7 188 rfl rfl
set_option maxRecDepth 8000 in
theorem tb_1629 : (Cond.constantLong "OneSunbeamModel" (440 : Nat) (8 : Int64)) ∈ gt := sg_7 189 rfl rfl
set_option maxRecDepth 8000 in
theorem tb_1630 : (Cond.methodLink "OneSunbeamModel" (445 : Nat) ({ cls := "OneSunbeamModel", name := "answer", desc := "(III)J" } : MethodName)) ∈ gt := sg_7 190 rfl rfl
set_option maxRecDepth 8000 in
theorem tb_1632 : (Cond.instanceMethod ({ cls := "OneSunbeamModel", name := "answer", desc := "(III)J" } : MethodName)) ∈ gt := sg_7 192 rfl rfl
set_option maxRecDepth 8000 in
theorem tb_1633 : (Cond.code ({ cls := "OneSunbeamModel", name := "answer", desc := "(III)J" } : MethodName) prog_12_method_47_code (8 : Nat) (Option.some FieldType.long)) ∈ gt := sg_7 193 rfl rfl
set_option maxRecDepth 8000 in
theorem tb_1634 : (Cond.methodLink "OneSunbeamModel" (381 : Nat) ({ cls := "OneSunbeamModel", name := "both", desc := "(IJJ)J" } : MethodName)) ∈ gt := sg_7 194 rfl rfl
set_option maxRecDepth 8000 in
theorem tb_1635 : (Cond.static ({ cls := "OneSunbeamModel", name := "both", desc := "(IJJ)J" } : MethodName)) ∈ gt := sg_7 195 rfl rfl
set_option maxRecDepth 8000 in
theorem tb_1636 : (Cond.code ({ cls := "OneSunbeamModel", name := "both", desc := "(IJJ)J" } : MethodName) prog_12_method_46_code (5 : Nat) (Option.some FieldType.long)) ∈ gt := sg_7 196 rfl rfl
set_option maxRecDepth 8000 in
theorem tb_1637 : (Cond.methodLink "OneSunbeamModel" (377 : Nat) ({ cls := "OneSunbeamModel", name := "truth", desc := "(Z)J" } : MethodName)) ∈ gt := sg_7 197 rfl rfl
set_option maxRecDepth 8000 in
theorem tb_1638 : (Cond.static ({ cls := "OneSunbeamModel", name := "truth", desc := "(Z)J" } : MethodName)) ∈ gt := sg_7 198 rfl rfl
set_option maxRecDepth 8000 in
theorem tb_1639 : (Cond.code ({ cls := "OneSunbeamModel", name := "truth", desc := "(Z)J" } : MethodName) prog_12_method_45_code (1 : Nat) (Option.some FieldType.long)) ∈ gt := sg_7 199 rfl rfl
set_option maxRecDepth 8000 in
theorem tb_1640 : (Cond.methodLink "OneSunbeamModel" (404 : Nat) ({ cls := "OneSunbeamModel", name := "shines", desc := "(I)V" } : MethodName)) ∈ gt := sg_7 200 rfl rfl
set_option maxRecDepth 8000 in
theorem tb_1642 : (Cond.instanceMethod ({ cls := "OneSunbeamModel", name := "shines", desc := "(I)V" } : MethodName)) ∈ gt := sg_7 202 rfl rfl
set_option maxRecDepth 8000 in
theorem tb_1643 : (Cond.code ({ cls := "OneSunbeamModel", name := "shines", desc := "(I)V" } : MethodName) prog_12_method_57_code (3 : Nat) (Option.none : Option FieldType)) ∈ gt := sg_7 203 rfl rfl
set_option maxRecDepth 8000 in
theorem tb_1644 : (Cond.methodLink "OneSunbeamModel" (436 : Nat) ({ cls := "OneSunbeamModel", name := "traces", desc := "(III)V" } : MethodName)) ∈ gt := sg_7 204 rfl rfl
set_option maxRecDepth 8000 in
theorem tb_1646 : (Cond.instanceMethod ({ cls := "OneSunbeamModel", name := "traces", desc := "(III)V" } : MethodName)) ∈ gt := sg_7 206 rfl rfl
set_option maxRecDepth 8000 in
theorem tb_1647 : (Cond.code ({ cls := "OneSunbeamModel", name := "traces", desc := "(III)V" } : MethodName) prog_12_method_55_code (5 : Nat) (Option.none : Option FieldType)) ∈ gt := sg_7 207 rfl rfl
set_option maxRecDepth 8000 in
theorem tb_1648 : (Cond.methodLink "OneSunbeamModel" (430 : Nat) ({ cls := "OneSunbeamModel", name := "goes", desc := "(IIII)V" } : MethodName)) ∈ gt := sg_7 208 rfl rfl
set_option maxRecDepth 8000 in
theorem tb_1650 : (Cond.instanceMethod ({ cls := "OneSunbeamModel", name := "goes", desc := "(IIII)V" } : MethodName)) ∈ gt := sg_7 210 rfl rfl
set_option maxRecDepth 8000 in
theorem tb_1651 : (Cond.code ({ cls := "OneSunbeamModel", name := "goes", desc := "(IIII)V" } : MethodName) prog_12_method_54_code (15 : Nat) (Option.none : Option FieldType)) ∈ gt := sg_7 211 rfl rfl
set_option maxRecDepth 8000 in
theorem tb_1652 : (Cond.methodLink "OneSunbeamModel" (413 : Nat) ({ cls := "OneSunbeamModel", name := "yardOf", desc := "(II)I" } : MethodName)) ∈ gt := sg_7 212 rfl rfl
set_option maxRecDepth 8000 in
theorem tb_1654 : (Cond.instanceMethod ({ cls := "OneSunbeamModel", name := "yardOf", desc := "(II)I" } : MethodName)) ∈ gt := sg_7 214 rfl rfl
set_option maxRecDepth 8000 in
theorem tb_1655 : (Cond.code ({ cls := "OneSunbeamModel", name := "yardOf", desc := "(II)I" } : MethodName) prog_12_method_50_code (4 : Nat) (Option.some FieldType.int)) ∈ gt := sg_7 215 rfl rfl
set_option maxRecDepth 8000 in
theorem tb_1656 : (Cond.methodLink "OneSunbeamModel" (417 : Nat) ({ cls := "OneSunbeamModel", name := "told", desc := "(II)I" } : MethodName)) ∈ gt := sg_7 216 rfl rfl
set_option maxRecDepth 8000 in
theorem tb_1658 : (Cond.instanceMethod ({ cls := "OneSunbeamModel", name := "told", desc := "(II)I" } : MethodName)) ∈ gt := sg_7 218 rfl rfl
set_option maxRecDepth 8000 in
theorem tb_1659 : (Cond.code ({ cls := "OneSunbeamModel", name := "told", desc := "(II)I" } : MethodName) prog_12_method_52_code (3 : Nat) (Option.some FieldType.int)) ∈ gt := sg_7 219 rfl rfl
set_option maxRecDepth 8000 in
theorem tb_1660 : (Cond.methodLink "OneSunbeamModel" (420 : Nat) ({ cls := "OneSunbeamModel", name := "stepX", desc := "(I)I" } : MethodName)) ∈ gt := sg_7 220 rfl rfl
set_option maxRecDepth 8000 in
theorem tb_1661 : (Cond.static ({ cls := "OneSunbeamModel", name := "stepX", desc := "(I)I" } : MethodName)) ∈ gt := sg_7 221 rfl rfl
set_option maxRecDepth 8000 in
theorem tb_1662 : (Cond.code ({ cls := "OneSunbeamModel", name := "stepX", desc := "(I)I" } : MethodName) prog_12_method_48_code (1 : Nat) (Option.some FieldType.int)) ∈ gt := sg_7 222 rfl rfl
set_option maxRecDepth 8000 in
theorem tb_1663 : (Cond.methodLink "OneSunbeamModel" (423 : Nat) ({ cls := "OneSunbeamModel", name := "stepY", desc := "(I)I" } : MethodName)) ∈ gt := sg_7 223 rfl rfl
set_option maxRecDepth 8000 in
theorem tb_1664 : (Cond.static ({ cls := "OneSunbeamModel", name := "stepY", desc := "(I)I" } : MethodName)) ∈ gt := sg_7 224 rfl rfl
set_option maxRecDepth 8000 in
theorem tb_1665 : (Cond.code ({ cls := "OneSunbeamModel", name := "stepY", desc := "(I)I" } : MethodName) prog_12_method_49_code (1 : Nat) (Option.some FieldType.int)) ∈ gt := sg_7 225 rfl rfl
set_option maxRecDepth 8000 in
theorem tb_1666 : (Cond.methodLink "OneSunbeamModel" (426 : Nat) ({ cls := "OneSunbeamModel", name := "waitsFor", desc := "(IIII)V" } : MethodName)) ∈ gt := sg_7 226 rfl rfl
set_option maxRecDepth 8000 in
theorem tb_1668 : (Cond.instanceMethod ({ cls := "OneSunbeamModel", name := "waitsFor", desc := "(IIII)V" } : MethodName)) ∈ gt := sg_7 228 rfl rfl
set_option maxRecDepth 8000 in
theorem tb_1669 : (Cond.code ({ cls := "OneSunbeamModel", name := "waitsFor", desc := "(IIII)V" } : MethodName) prog_12_method_51_code (6 : Nat) (Option.none : Option FieldType)) ∈ gt := sg_7 229 rfl rfl
set_option maxRecDepth 8000 in
theorem tb_1670 : (Cond.methodLink "OneSunbeamModel" (455 : Nat) ({ cls := "OneSunbeamModel", name := "blindCells", desc := "()I" } : MethodName)) ∈ gt := sg_7 230 rfl rfl
set_option maxRecDepth 8000 in
theorem tb_1672 : (Cond.instanceMethod ({ cls := "OneSunbeamModel", name := "blindCells", desc := "()I" } : MethodName)) ∈ gt := sg_7 232 rfl rfl
set_option maxRecDepth 8000 in
theorem tb_1673 : (Cond.code ({ cls := "OneSunbeamModel", name := "blindCells", desc := "()I" } : MethodName) prog_12_method_59_code (3 : Nat) (Option.some FieldType.int)) ∈ gt := sg_7 233 rfl rfl
set_option maxRecDepth 8000 in
theorem tb_1674 : (Cond.methodLink "OneSunbeamModel" (466 : Nat) ({ cls := "OneSunbeamModel", name := "met", desc := "()I" } : MethodName)) ∈ gt := sg_7 234 rfl rfl
set_option maxRecDepth 8000 in
theorem tb_1676 : (Cond.instanceMethod ({ cls := "OneSunbeamModel", name := "met", desc := "()I" } : MethodName)) ∈ gt := sg_7 236 rfl rfl
set_option maxRecDepth 8000 in
theorem tb_1677 : (Cond.code ({ cls := "OneSunbeamModel", name := "met", desc := "()I" } : MethodName) prog_12_method_64_code (3 : Nat) (Option.some FieldType.int)) ∈ gt := sg_7 237 rfl rfl
set_option maxRecDepth 8000 in
theorem tb_1678 : (Cond.methodLink "OneSunbeamLaw" (78 : Nat) ({ cls := "OneSunbeamModel", name := "mirrors", desc := "(II)I" } : MethodName)) ∈ gt := sg_7 238 rfl rfl
set_option maxRecDepth 8000 in
theorem tb_1679 : (Cond.instanceMethod ({ cls := "OneSunbeamModel", name := "mirrors", desc := "(II)I" } : MethodName)) ∈ gt := sg_7 239 rfl rfl
set_option maxRecDepth 8000 in
theorem tb_1680 : (Cond.selects "OneSunbeamModel" ({ cls := "OneSunbeamModel", name := "mirrors", desc := "(II)I" } : MethodName) ({ cls := "OneSunbeamModel", name := "mirrors", desc := "(II)I" } : MethodName)) ∈ gt := sg_8 0 rfl rfl
set_option maxRecDepth 8000 in
theorem tb_1681 : (Cond.code ({ cls := "OneSunbeamModel", name := "mirrors", desc := "(II)I" } : MethodName) prog_12_method_66_code (3 : Nat) (Option.some FieldType.int)) ∈ gt := sg_8 1 rfl rfl
set_option maxRecDepth 8000 in
theorem tb_1682 : (Cond.methodLink "OneSunbeamLaw" (82 : Nat) ({ cls := "OneSunbeamModel", name := "yards", desc := "(II)I" } : MethodName)) ∈ gt := sg_8 2 rfl rfl
set_option maxRecDepth 8000 in
theorem tb_1683 : (Cond.instanceMethod ({ cls := "OneSunbeamModel", name := "yards", desc := "(II)I" } : MethodName)) ∈ gt := sg_8 3 rfl rfl
set_option maxRecDepth 8000 in
theorem tb_1684 : (Cond.selects "OneSunbeamModel" ({ cls := "OneSunbeamModel", name := "yards", desc := "(II)I" } : MethodName) ({ cls := "OneSunbeamModel", name := "yards", desc := "(II)I" } : MethodName)) ∈ gt := sg_8 4 rfl rfl
set_option maxRecDepth 8000 in
theorem tb_1685 : (Cond.code ({ cls := "OneSunbeamModel", name := "yards", desc := "(II)I" } : MethodName) prog_12_method_67_code (3 : Nat) (Option.some FieldType.int)) ∈ gt := sg_8 5 rfl rfl
set_option maxRecDepth 8000 in
theorem tb_1686 : (Cond.methodLink "OneSunbeamModel" (469 : Nat) ({ cls := "OneSunbeamModel", name := "isYard", desc := "(I)Z" } : MethodName)) ∈ gt := sg_8 6 rfl rfl
set_option maxRecDepth 8000 in
theorem tb_1688 : (Cond.instanceMethod ({ cls := "OneSunbeamModel", name := "isYard", desc := "(I)Z" } : MethodName)) ∈ gt := sg_8 8 rfl rfl
set_option maxRecDepth 8000 in
theorem tb_1689 : (Cond.code ({ cls := "OneSunbeamModel", name := "isYard", desc := "(I)Z" } : MethodName) prog_12_method_10_code (2 : Nat) (Option.some FieldType.boolean)) ∈ gt := sg_8 9 rfl rfl
set_option maxRecDepth 8000 in
theorem tb_1690 : (Cond.methodLink "OneSunbeamLaw" (86 : Nat) ({ cls := "OneSunbeamModel", name := "cell", desc := "(III)I" } : MethodName)) ∈ gt := sg_8 10 rfl rfl
set_option maxRecDepth 8000 in
theorem tb_1691 : (Cond.instanceMethod ({ cls := "OneSunbeamModel", name := "cell", desc := "(III)I" } : MethodName)) ∈ gt := sg_8 11 rfl rfl
set_option maxRecDepth 8000 in
theorem tb_1692 : (Cond.selects "OneSunbeamModel" ({ cls := "OneSunbeamModel", name := "cell", desc := "(III)I" } : MethodName) ({ cls := "OneSunbeamModel", name := "cell", desc := "(III)I" } : MethodName)) ∈ gt := sg_8 12 rfl rfl
set_option maxRecDepth 8000 in
theorem tb_1693 : (Cond.code ({ cls := "OneSunbeamModel", name := "cell", desc := "(III)I" } : MethodName) prog_12_method_68_code (5 : Nat) (Option.some FieldType.int)) ∈ gt := sg_8 13 rfl rfl
set_option maxRecDepth 8000 in
theorem tb_1694 : (Cond.methodLink "OneSunbeamLaw" (90 : Nat) ({ cls := "OneSunbeamModel", name := "gets", desc := "(II)I" } : MethodName)) ∈ gt := sg_8 14 rfl rfl
set_option maxRecDepth 8000 in
theorem tb_1695 : (Cond.instanceMethod ({ cls := "OneSunbeamModel", name := "gets", desc := "(II)I" } : MethodName)) ∈ gt := sg_8 15 rfl rfl
set_option maxRecDepth 8000 in
theorem tb_1696 : (Cond.selects "OneSunbeamModel" ({ cls := "OneSunbeamModel", name := "gets", desc := "(II)I" } : MethodName) ({ cls := "OneSunbeamModel", name := "gets", desc := "(II)I" } : MethodName)) ∈ gt := sg_8 16 rfl rfl
set_option maxRecDepth 8000 in
theorem tb_1697 : (Cond.code ({ cls := "OneSunbeamModel", name := "gets", desc := "(II)I" } : MethodName) prog_12_method_70_code (3 : Nat) (Option.some FieldType.int)) ∈ gt := sg_8 17 rfl rfl
set_option maxRecDepth 8000 in
theorem tb_1698 : (Cond.methodLink "OneSunbeamModel" (472 : Nat) ({ cls := "OneSunbeamModel", name := "isBright", desc := "(I)Z" } : MethodName)) ∈ gt := sg_8 18 rfl rfl
set_option maxRecDepth 8000 in
theorem tb_1700 : (Cond.instanceMethod ({ cls := "OneSunbeamModel", name := "isBright", desc := "(I)Z" } : MethodName)) ∈ gt := sg_8 20 rfl rfl
set_option maxRecDepth 8000 in
theorem tb_1701 : (Cond.code ({ cls := "OneSunbeamModel", name := "isBright", desc := "(I)Z" } : MethodName) prog_12_method_69_code (2 : Nat) (Option.some FieldType.boolean)) ∈ gt := sg_8 21 rfl rfl
set_option maxRecDepth 8000 in
theorem tb_1702 : (Cond.methodLink "OneSunbeamLaw" (94 : Nat) ({ cls := "OneSunbeamModel", name := "light", desc := "(II)I" } : MethodName)) ∈ gt := sg_8 22 rfl rfl
set_option maxRecDepth 8000 in
theorem tb_1703 : (Cond.instanceMethod ({ cls := "OneSunbeamModel", name := "light", desc := "(II)I" } : MethodName)) ∈ gt := sg_8 23 rfl rfl
set_option maxRecDepth 8000 in
theorem tb_1704 : (Cond.selects "OneSunbeamModel" ({ cls := "OneSunbeamModel", name := "light", desc := "(II)I" } : MethodName) ({ cls := "OneSunbeamModel", name := "light", desc := "(II)I" } : MethodName)) ∈ gt := sg_8 24 rfl rfl
set_option maxRecDepth 8000 in
theorem tb_1705 : (Cond.code ({ cls := "OneSunbeamModel", name := "light", desc := "(II)I" } : MethodName) prog_12_method_71_code (3 : Nat) (Option.some FieldType.int)) ∈ gt := sg_8 25 rfl rfl
set_option maxRecDepth 8000 in
theorem tb_1706 : (Cond.constantLong "OneSunbeamModel" (475 : Nat) (6 : Int64)) ∈ gt := sg_8 26 rfl rfl
set_option maxRecDepth 8000 in
theorem tb_1707 : (Cond.methodLink "OneSunbeamModel" (477 : Nat) ({ cls := "OneSunbeamModel", name := "allGot", desc := "()I" } : MethodName)) ∈ gt := sg_8 27 rfl rfl
set_option maxRecDepth 8000 in
theorem tb_1709 : (Cond.instanceMethod ({ cls := "OneSunbeamModel", name := "allGot", desc := "()I" } : MethodName)) ∈ gt := sg_8 29 rfl rfl
set_option maxRecDepth 8000 in
theorem tb_1710 : (Cond.code ({ cls := "OneSunbeamModel", name := "allGot", desc := "()I" } : MethodName) prog_12_method_58_code (3 : Nat) (Option.some FieldType.int)) ∈ gt := sg_8 30 rfl rfl
set_option maxRecDepth 8000 in
theorem tb_1711 : (Cond.methodLink "OneSunbeamModel" (480 : Nat) ({ cls := "OneSunbeamModel", name := "firstBlind", desc := "()I" } : MethodName)) ∈ gt := sg_8 31 rfl rfl
set_option maxRecDepth 8000 in
theorem tb_1713 : (Cond.instanceMethod ({ cls := "OneSunbeamModel", name := "firstBlind", desc := "()I" } : MethodName)) ∈ gt := sg_8 33 rfl rfl
set_option maxRecDepth 8000 in
theorem tb_1714 : (Cond.code ({ cls := "OneSunbeamModel", name := "firstBlind", desc := "()I" } : MethodName) prog_12_method_60_code (2 : Nat) (Option.some FieldType.int)) ∈ gt := sg_8 34 rfl rfl
set_option maxRecDepth 8000 in
theorem tb_1715 : (Cond.methodLink "OneSunbeamLaw" (98 : Nat) ({ cls := "OneSunbeamModel", name := "passes", desc := "(III)I" } : MethodName)) ∈ gt := sg_8 35 rfl rfl
set_option maxRecDepth 8000 in
theorem tb_1716 : (Cond.instanceMethod ({ cls := "OneSunbeamModel", name := "passes", desc := "(III)I" } : MethodName)) ∈ gt := sg_8 36 rfl rfl
set_option maxRecDepth 8000 in
theorem tb_1717 : (Cond.selects "OneSunbeamModel" ({ cls := "OneSunbeamModel", name := "passes", desc := "(III)I" } : MethodName) ({ cls := "OneSunbeamModel", name := "passes", desc := "(III)I" } : MethodName)) ∈ gt := sg_8 37 rfl rfl
set_option maxRecDepth 8000 in
theorem tb_1718 : (Cond.code ({ cls := "OneSunbeamModel", name := "passes", desc := "(III)I" } : MethodName) prog_12_method_72_code (4 : Nat) (Option.some FieldType.int)) ∈ gt := sg_8 38 rfl rfl
set_option maxRecDepth 8000 in
theorem tb_1719 : (Cond.methodLink "OneSunbeamLaw" (102 : Nat) ({ cls := "OneSunbeamModel", name := "sees", desc := "(II)I" } : MethodName)) ∈ gt := sg_8 39 rfl rfl
set_option maxRecDepth 8000 in
theorem tb_1720 : (Cond.instanceMethod ({ cls := "OneSunbeamModel", name := "sees", desc := "(II)I" } : MethodName)) ∈ gt := sg_8 40 rfl rfl
set_option maxRecDepth 8000 in
theorem tb_1721 : (Cond.selects "OneSunbeamModel" ({ cls := "OneSunbeamModel", name := "sees", desc := "(II)I" } : MethodName) ({ cls := "OneSunbeamModel", name := "sees", desc := "(II)I" } : MethodName)) ∈ gt := sg_8 41 rfl rfl
set_option maxRecDepth 8000 in
theorem tb_1722 : (Cond.code ({ cls := "OneSunbeamModel", name := "sees", desc := "(II)I" } : MethodName) prog_12_method_74_code (6 : Nat) (Option.some FieldType.int)) ∈ gt := sg_8 42 rfl rfl
set_option maxRecDepth 8000 in
theorem tb_1723 : (Cond.methodLink "OneSunbeamModel" (483 : Nat) ({ cls := "OneSunbeamModel", name := "copy", desc := "([I[I)V" } : MethodName)) ∈ gt := sg_8 43 rfl rfl
set_option maxRecDepth 8000 in
theorem tb_1724 : (Cond.static ({ cls := "OneSunbeamModel", name := "copy", desc := "([I[I)V" } : MethodName)) ∈ gt := sg_8 44 rfl rfl
set_option maxRecDepth 8000 in
theorem tb_1725 : (Cond.code ({ cls := "OneSunbeamModel", name := "copy", desc := "([I[I)V" } : MethodName) prog_12_method_73_code (3 : Nat) (Option.none : Option FieldType)) ∈ gt := sg_8 45 rfl rfl
set_option maxRecDepth 8000 in
theorem tb_1726 : (Cond.methodLink "OneSunbeamLaw" (106 : Nat) ({ cls := "OneSunbeamModel", name := "worth", desc := "(II)I" } : MethodName)) ∈ gt := sg_8 46 rfl rfl
set_option maxRecDepth 8000 in
theorem tb_1727 : (Cond.instanceMethod ({ cls := "OneSunbeamModel", name := "worth", desc := "(II)I" } : MethodName)) ∈ gt := sg_8 47 rfl rfl
set_option maxRecDepth 8000 in
theorem tb_1728 : (Cond.selects "OneSunbeamModel" ({ cls := "OneSunbeamModel", name := "worth", desc := "(II)I" } : MethodName) ({ cls := "OneSunbeamModel", name := "worth", desc := "(II)I" } : MethodName)) ∈ gt := sg_8 48 rfl rfl
set_option maxRecDepth 8000 in
theorem tb_1729 : (Cond.code ({ cls := "OneSunbeamModel", name := "worth", desc := "(II)I" } : MethodName) prog_12_method_75_code (5 : Nat) (Option.some FieldType.int)) ∈ gt := sg_8 49 rfl rfl
set_option maxRecDepth 8000 in
theorem tb_1730 : (Cond.constant "OneSunbeamModel" (487 : Nat) (-1000000 : Int32)) ∈ gt := sg_8 50 rfl rfl
set_option maxRecDepth 8000 in
theorem tb_1731 : (Cond.methodLink "OneSunbeamLaw" (110 : Nat) ({ cls := "OneSunbeamModel", name := "owned", desc := "(II)I" } : MethodName)) ∈ gt := sg_8 51 rfl rfl
set_option maxRecDepth 8000 in
theorem tb_1732 : (Cond.instanceMethod ({ cls := "OneSunbeamModel", name := "owned", desc := "(II)I" } : MethodName)) ∈ gt := sg_8 52 rfl rfl
set_option maxRecDepth 8000 in
theorem tb_1733 : (Cond.selects "OneSunbeamModel" ({ cls := "OneSunbeamModel", name := "owned", desc := "(II)I" } : MethodName) ({ cls := "OneSunbeamModel", name := "owned", desc := "(II)I" } : MethodName)) ∈ gt := sg_8 53 rfl rfl
set_option maxRecDepth 8000 in
theorem tb_1734 : (Cond.code ({ cls := "OneSunbeamModel", name := "owned", desc := "(II)I" } : MethodName) prog_12_method_76_code (5 : Nat) (Option.some FieldType.int)) ∈ gt := sg_8 54 rfl rfl
set_option maxRecDepth 8000 in
theorem tb_1735 : (Cond.methodLink "OneSunbeamLaw" (115 : Nat) ({ cls := "OneSunbeamModel", name := "aim", desc := "(IIII)I" } : MethodName)) ∈ gt := sg_8 55 rfl rfl
set_option maxRecDepth 8000 in
theorem tb_1736 : (Cond.instanceMethod ({ cls := "OneSunbeamModel", name := "aim", desc := "(IIII)I" } : MethodName)) ∈ gt := sg_8 56 rfl rfl
set_option maxRecDepth 8000 in
theorem tb_1737 : (Cond.selects "OneSunbeamModel" ({ cls := "OneSunbeamModel", name := "aim", desc := "(IIII)I" } : MethodName) ({ cls := "OneSunbeamModel", name := "aim", desc := "(IIII)I" } : MethodName)) ∈ gt := sg_8 57 rfl rfl
set_option maxRecDepth 8000 in
theorem tb_1738 : (Cond.code ({ cls := "OneSunbeamModel", name := "aim", desc := "(IIII)I" } : MethodName) prog_12_method_80_code (6 : Nat) (Option.some FieldType.int)) ∈ gt := sg_8 58 rfl rfl
set_option maxRecDepth 8000 in
theorem tb_1739 : (Cond.methodLink "OneSunbeamModel" (497 : Nat) ({ cls := "OneSunbeamModel", name := "isSet", desc := "(I)Z" } : MethodName)) ∈ gt := sg_8 59 rfl rfl
set_option maxRecDepth 8000 in
theorem tb_1741 : (Cond.instanceMethod ({ cls := "OneSunbeamModel", name := "isSet", desc := "(I)Z" } : MethodName)) ∈ gt := sg_8 61 rfl rfl
set_option maxRecDepth 8000 in
theorem tb_1742 : (Cond.code ({ cls := "OneSunbeamModel", name := "isSet", desc := "(I)Z" } : MethodName) prog_12_method_77_code (2 : Nat) (Option.some FieldType.boolean)) ∈ gt := sg_8 62 rfl rfl
set_option maxRecDepth 8000 in
theorem tb_1743 : (Cond.methodLink "OneSunbeamModel" (488 : Nat) ({ cls := "OneSunbeamModel", name := "bits", desc := "(I)I" } : MethodName)) ∈ gt := sg_8 63 rfl rfl
set_option maxRecDepth 8000 in
theorem tb_1744 : (Cond.static ({ cls := "OneSunbeamModel", name := "bits", desc := "(I)I" } : MethodName)) ∈ gt := sg_8 64 rfl rfl
set_option maxRecDepth 8000 in
theorem tb_1745 : (Cond.code ({ cls := "OneSunbeamModel", name := "bits", desc := "(I)I" } : MethodName) prog_12_method_5_code (3 : Nat) (Option.some FieldType.int)) ∈ gt := sg_8 65 rfl rfl
set_option maxRecDepth 8000 in
theorem tb_1746 : (Cond.methodLink "OneSunbeamModel" (500 : Nat) ({ cls := "OneSunbeamModel", name := "searches", desc := "(III)I" } : MethodName)) ∈ gt := sg_8 66 rfl rfl
set_option maxRecDepth 8000 in
theorem tb_1748 : (Cond.instanceMethod ({ cls := "OneSunbeamModel", name := "searches", desc := "(III)I" } : MethodName)) ∈ gt := sg_8 68 rfl rfl
set_option maxRecDepth 8000 in
theorem tb_1749 : (Cond.code ({ cls := "OneSunbeamModel", name := "searches", desc := "(III)I" } : MethodName) prog_12_method_79_code (10 : Nat) (Option.some FieldType.int)) ∈ gt := sg_8 69 rfl rfl
set_option maxRecDepth 8000 in
theorem tb_1750 : (Cond.methodLink "OneSunbeamModel" (491 : Nat) ({ cls := "OneSunbeamModel", name := "has", desc := "(II)Z" } : MethodName)) ∈ gt := sg_8 70 rfl rfl
set_option maxRecDepth 8000 in
theorem tb_1751 : (Cond.static ({ cls := "OneSunbeamModel", name := "has", desc := "(II)Z" } : MethodName)) ∈ gt := sg_8 71 rfl rfl
set_option maxRecDepth 8000 in
theorem tb_1752 : (Cond.code ({ cls := "OneSunbeamModel", name := "has", desc := "(II)Z" } : MethodName) prog_12_method_4_code (2 : Nat) (Option.some FieldType.boolean)) ∈ gt := sg_8 72 rfl rfl
set_option maxRecDepth 8000 in
theorem tb_1753 : (Cond.methodLink "OneSunbeamModel" (494 : Nat) ({ cls := "OneSunbeamModel", name := "fairest", desc := "()I" } : MethodName)) ∈ gt := sg_8 73 rfl rfl
set_option maxRecDepth 8000 in
theorem tb_1755 : (Cond.instanceMethod ({ cls := "OneSunbeamModel", name := "fairest", desc := "()I" } : MethodName)) ∈ gt := sg_8 75 rfl rfl
set_option maxRecDepth 8000 in
theorem tb_1756 : (Cond.code ({ cls := "OneSunbeamModel", name := "fairest", desc := "()I" } : MethodName) prog_12_method_78_code (5 : Nat) (Option.some FieldType.int)) ∈ gt := sg_8 76 rfl rfl
set_option maxRecDepth 8000 in
theorem tb_1757 : (Cond.methodLink "OneSunbeamLaw" (119 : Nat) ({ cls := "OneSunbeamModel", name := "fair", desc := "(III)I" } : MethodName)) ∈ gt := sg_8 77 rfl rfl
set_option maxRecDepth 8000 in
theorem tb_1758 : (Cond.instanceMethod ({ cls := "OneSunbeamModel", name := "fair", desc := "(III)I" } : MethodName)) ∈ gt := sg_8 78 rfl rfl
set_option maxRecDepth 8000 in
theorem tb_1759 : (Cond.selects "OneSunbeamModel" ({ cls := "OneSunbeamModel", name := "fair", desc := "(III)I" } : MethodName) ({ cls := "OneSunbeamModel", name := "fair", desc := "(III)I" } : MethodName)) ∈ gt := sg_8 79 rfl rfl
set_option maxRecDepth 8000 in
theorem tb_1760 : (Cond.code ({ cls := "OneSunbeamModel", name := "fair", desc := "(III)I" } : MethodName) prog_12_method_81_code (5 : Nat) (Option.some FieldType.int)) ∈ gt := sg_8 80 rfl rfl
set_option maxRecDepth 8000 in
theorem tb_1761 : (Cond.methodLink "OneSunbeamLaw" (123 : Nat) ({ cls := "OneSunbeamModel", name := "mends", desc := "(III)I" } : MethodName)) ∈ gt := sg_8 81 rfl rfl
set_option maxRecDepth 8000 in
theorem tb_1762 : (Cond.instanceMethod ({ cls := "OneSunbeamModel", name := "mends", desc := "(III)I" } : MethodName)) ∈ gt := sg_8 82 rfl rfl
set_option maxRecDepth 8000 in
theorem tb_1763 : (Cond.selects "OneSunbeamModel" ({ cls := "OneSunbeamModel", name := "mends", desc := "(III)I" } : MethodName) ({ cls := "OneSunbeamModel", name := "mends", desc := "(III)I" } : MethodName)) ∈ gt := sg_8 83 rfl rfl
set_option maxRecDepth 8000 in
theorem tb_1764 : (Cond.code ({ cls := "OneSunbeamModel", name := "mends", desc := "(III)I" } : MethodName) prog_12_method_87_code (5 : Nat) (Option.some FieldType.int)) ∈ gt := sg_8 84 rfl rfl
set_option maxRecDepth 8000 in
theorem tb_1765 : (Cond.methodLink "OneSunbeamModel" (507 : Nat) ({ cls := "OneSunbeamModel", name := "isMended", desc := "(IIIII)V" } : MethodName)) ∈ gt := sg_8 85 rfl rfl
set_option maxRecDepth 8000 in
theorem tb_1767 : (Cond.instanceMethod ({ cls := "OneSunbeamModel", name := "isMended", desc := "(IIIII)V" } : MethodName)) ∈ gt := sg_8 87 rfl rfl
set_option maxRecDepth 8000 in
theorem tb_1768 : (Cond.code ({ cls := "OneSunbeamModel", name := "isMended", desc := "(IIIII)V" } : MethodName) prog_12_method_83_code (6 : Nat) (Option.none : Option FieldType)) ∈ gt := sg_8 88 rfl rfl
set_option maxRecDepth 8000 in
theorem tb_1769 : (Cond.methodLink "OneSunbeamModel" (504 : Nat) ({ cls := "OneSunbeamModel", name := "isHalf", desc := "(I)Z" } : MethodName)) ∈ gt := sg_8 89 rfl rfl
set_option maxRecDepth 8000 in
theorem tb_1771 : (Cond.instanceMethod ({ cls := "OneSunbeamModel", name := "isHalf", desc := "(I)Z" } : MethodName)) ∈ gt := sg_8 91 rfl rfl
set_option maxRecDepth 8000 in
theorem tb_1772 : (Cond.code ({ cls := "OneSunbeamModel", name := "isHalf", desc := "(I)Z" } : MethodName) prog_12_method_82_code (4 : Nat) (Option.some FieldType.boolean)) ∈ gt := sg_8 92 rfl rfl
set_option maxRecDepth 8000 in
theorem tb_1773 : (Cond.methodLink "OneSunbeamModel" (515 : Nat) ({ cls := "OneSunbeamModel", name := "mendsOne", desc := "(I)Z" } : MethodName)) ∈ gt := sg_8 93 rfl rfl
set_option maxRecDepth 8000 in
theorem tb_1775 : (Cond.instanceMethod ({ cls := "OneSunbeamModel", name := "mendsOne", desc := "(I)Z" } : MethodName)) ∈ gt := sg_8 95 rfl rfl
set_option maxRecDepth 8000 in
theorem tb_1776 : (Cond.code ({ cls := "OneSunbeamModel", name := "mendsOne", desc := "(I)Z" } : MethodName) prog_12_method_84_code (5 : Nat) (Option.some FieldType.boolean)) ∈ gt := sg_8 96 rfl rfl
set_option maxRecDepth 8000 in
theorem tb_1777 : (Cond.methodLink "OneSunbeamModel" (518 : Nat) ({ cls := "OneSunbeamModel", name := "mendsTwo", desc := "(I)Z" } : MethodName)) ∈ gt := sg_8 97 rfl rfl
set_option maxRecDepth 8000 in
theorem tb_1779 : (Cond.instanceMethod ({ cls := "OneSunbeamModel", name := "mendsTwo", desc := "(I)Z" } : MethodName)) ∈ gt := sg_8 99 rfl rfl
set_option maxRecDepth 8000 in
theorem tb_1780 : (Cond.code ({ cls := "OneSunbeamModel", name := "mendsTwo", desc := "(I)Z" } : MethodName) prog_12_method_86_code (4 : Nat) (Option.some FieldType.boolean)) ∈ gt := sg_8 100 rfl rfl
set_option maxRecDepth 8000 in
theorem tb_1781 : (Cond.methodLink "OneSunbeamModel" (511 : Nat) ({ cls := "OneSunbeamModel", name := "mendsPair", desc := "(III)Z" } : MethodName)) ∈ gt := sg_8 101 rfl rfl
set_option maxRecDepth 8000 in
theorem tb_1783 : (Cond.instanceMethod ({ cls := "OneSunbeamModel", name := "mendsPair", desc := "(III)Z" } : MethodName)) ∈ gt := sg_8 103 rfl rfl
set_option maxRecDepth 8000 in
theorem tb_1784 : (Cond.code ({ cls := "OneSunbeamModel", name := "mendsPair", desc := "(III)Z" } : MethodName) prog_12_method_85_code (7 : Nat) (Option.some FieldType.boolean)) ∈ gt := sg_8 104 rfl rfl
set_option maxRecDepth 8000 in
theorem tb_1785 : (Cond.methodLink "OneSunbeamLaw" (127 : Nat) ({ cls := "OneSunbeamModel", name := "second", desc := "(II)I" } : MethodName)) ∈ gt := sg_8 105 rfl rfl
set_option maxRecDepth 8000 in
theorem tb_1786 : (Cond.instanceMethod ({ cls := "OneSunbeamModel", name := "second", desc := "(II)I" } : MethodName)) ∈ gt := sg_8 106 rfl rfl
set_option maxRecDepth 8000 in
theorem tb_1787 : (Cond.selects "OneSunbeamModel" ({ cls := "OneSunbeamModel", name := "second", desc := "(II)I" } : MethodName) ({ cls := "OneSunbeamModel", name := "second", desc := "(II)I" } : MethodName)) ∈ gt := sg_8 107 rfl rfl
set_option maxRecDepth 8000 in
theorem tb_1788 : (Cond.code ({ cls := "OneSunbeamModel", name := "second", desc := "(II)I" } : MethodName) prog_12_method_88_code (12 : Nat) (Option.some FieldType.int)) ∈ gt := sg_8 108 rfl rfl
set_option maxRecDepth 8000 in
theorem tb_1789 : (Cond.constantLong "OneSunbeamModel" (521 : Nat) (2 : Int64)) ∈ gt := sg_8 109 rfl rfl
set_option maxRecDepth 8000 in
theorem tb_1790 : (Cond.methodLink "OneSunbeamLaw" (131 : Nat) ({ cls := "OneSunbeamModel", name := "thief", desc := "(II)I" } : MethodName)) ∈ gt := sg_8 110 rfl rfl
set_option maxRecDepth 8000 in
theorem tb_1791 : (Cond.instanceMethod ({ cls := "OneSunbeamModel", name := "thief", desc := "(II)I" } : MethodName)) ∈ gt := sg_8 111 rfl rfl
set_option maxRecDepth 8000 in
theorem tb_1792 : (Cond.selects "OneSunbeamModel" ({ cls := "OneSunbeamModel", name := "thief", desc := "(II)I" } : MethodName) ({ cls := "OneSunbeamModel", name := "thief", desc := "(II)I" } : MethodName)) ∈ gt := sg_8 112 rfl rfl
set_option maxRecDepth 8000 in
theorem tb_1793 : (Cond.code ({ cls := "OneSunbeamModel", name := "thief", desc := "(II)I" } : MethodName) prog_12_method_89_code (7 : Nat) (Option.some FieldType.int)) ∈ gt := sg_8 113 rfl rfl
set_option maxRecDepth 8000 in
theorem tb_1794 : (Cond.methodLink "OneSunbeamModel" (523 : Nat) ({ cls := "OneSunbeamModel", name := "follows", desc := "(I)V" } : MethodName)) ∈ gt := sg_8 114 rfl rfl
set_option maxRecDepth 8000 in
theorem tb_1796 : (Cond.instanceMethod ({ cls := "OneSunbeamModel", name := "follows", desc := "(I)V" } : MethodName)) ∈ gt := sg_8 116 rfl rfl
set_option maxRecDepth 8000 in
theorem tb_1797 : (Cond.code ({ cls := "OneSunbeamModel", name := "follows", desc := "(I)V" } : MethodName) prog_12_method_53_code (3 : Nat) (Option.none : Option FieldType)) ∈ gt := sg_8 117 rfl rfl
set_option maxRecDepth 8000 in
theorem tb_1798 : (Cond.methodLink "OneSunbeamLaw" (135 : Nat) ({ cls := "OneSunbeamModel", name := "dusty", desc := "(IIII)I" } : MethodName)) ∈ gt := sg_8 118 rfl rfl
set_option maxRecDepth 8000 in
theorem tb_1799 : (Cond.instanceMethod ({ cls := "OneSunbeamModel", name := "dusty", desc := "(IIII)I" } : MethodName)) ∈ gt := sg_8 119 rfl rfl
set_option maxRecDepth 8000 in
theorem tb_1800 : (Cond.selects "OneSunbeamModel" ({ cls := "OneSunbeamModel", name := "dusty", desc := "(IIII)I" } : MethodName) ({ cls := "OneSunbeamModel", name := "dusty", desc := "(IIII)I" } : MethodName)) ∈ gt := sg_8 120 rfl rfl
set_option maxRecDepth 8000 in
theorem tb_1801 : (Cond.code ({ cls := "OneSunbeamModel", name := "dusty", desc := "(IIII)I" } : MethodName) prog_12_method_90_code (8 : Nat) (Option.some FieldType.int)) ∈ gt := sg_8 121 rfl rfl
set_option maxRecDepth 8000 in
theorem tb_1802 : (Cond.methodLink "OneSunbeamLaw" (139 : Nat) ({ cls := "OneSunbeamModel", name := "dark", desc := "(III)I" } : MethodName)) ∈ gt := sg_8 122 rfl rfl
set_option maxRecDepth 8000 in
theorem tb_1803 : (Cond.instanceMethod ({ cls := "OneSunbeamModel", name := "dark", desc := "(III)I" } : MethodName)) ∈ gt := sg_8 123 rfl rfl
set_option maxRecDepth 8000 in
theorem tb_1804 : (Cond.selects "OneSunbeamModel" ({ cls := "OneSunbeamModel", name := "dark", desc := "(III)I" } : MethodName) ({ cls := "OneSunbeamModel", name := "dark", desc := "(III)I" } : MethodName)) ∈ gt := sg_8 124 rfl rfl
set_option maxRecDepth 8000 in
theorem tb_1805 : (Cond.code ({ cls := "OneSunbeamModel", name := "dark", desc := "(III)I" } : MethodName) prog_12_method_93_code (6 : Nat) (Option.some FieldType.int)) ∈ gt := sg_8 125 rfl rfl
set_option maxRecDepth 8000 in
theorem tb_1806 : (Cond.methodLink "OneSunbeamModel" (532 : Nat) ({ cls := "OneSunbeamModel", name := "keeps", desc := "()V" } : MethodName)) ∈ gt := sg_8 126 rfl rfl
set_option maxRecDepth 8000 in
theorem tb_1808 : (Cond.instanceMethod ({ cls := "OneSunbeamModel", name := "keeps", desc := "()V" } : MethodName)) ∈ gt := sg_8 128 rfl rfl
set_option maxRecDepth 8000 in
theorem tb_1809 : (Cond.code ({ cls := "OneSunbeamModel", name := "keeps", desc := "()V" } : MethodName) prog_12_method_91_code (1 : Nat) (Option.none : Option FieldType)) ∈ gt := sg_8 129 rfl rfl
set_option maxRecDepth 8000 in
theorem tb_1810 : (Cond.methodLink "OneSunbeamModel" (535 : Nat) ({ cls := "OneSunbeamModel", name := "putsBack", desc := "()V" } : MethodName)) ∈ gt := sg_8 130 rfl rfl
set_option maxRecDepth 8000 in
theorem tb_1812 : (Cond.instanceMethod ({ cls := "OneSunbeamModel", name := "putsBack", desc := "()V" } : MethodName)) ∈ gt := sg_8 132 rfl rfl
set_option maxRecDepth 8000 in
theorem tb_1813 : (Cond.code ({ cls := "OneSunbeamModel", name := "putsBack", desc := "()V" } : MethodName) prog_12_method_92_code (1 : Nat) (Option.none : Option FieldType)) ∈ gt := sg_8 133 rfl rfl
set_option maxRecDepth 8000 in
theorem tb_1814 : (Cond.methodLink "OneSunbeamLaw" (143 : Nat) ({ cls := "OneSunbeamModel", name := "ahead", desc := "(III)I" } : MethodName)) ∈ gt := sg_8 134 rfl rfl
set_option maxRecDepth 8000 in
theorem tb_1815 : (Cond.instanceMethod ({ cls := "OneSunbeamModel", name := "ahead", desc := "(III)I" } : MethodName)) ∈ gt := sg_8 135 rfl rfl
set_option maxRecDepth 8000 in
theorem tb_1816 : (Cond.selects "OneSunbeamModel" ({ cls := "OneSunbeamModel", name := "ahead", desc := "(III)I" } : MethodName) ({ cls := "OneSunbeamModel", name := "ahead", desc := "(III)I" } : MethodName)) ∈ gt := sg_8 136 rfl rfl
set_option maxRecDepth 8000 in
theorem tb_1817 : (Cond.code ({ cls := "OneSunbeamModel", name := "ahead", desc := "(III)I" } : MethodName) prog_12_method_94_code (5 : Nat) (Option.some FieldType.int)) ∈ gt := sg_8 137 rfl rfl
set_option maxRecDepth 8000 in
theorem tb_1818 : (Cond.constantLong "OneSunbeamModel" (538 : Nat) (10 : Int64)) ∈ gt := sg_8 138 rfl rfl
set_option maxRecDepth 8000 in
theorem tb_1819 : (Cond.constantLong "OneSunbeamModel" (540 : Nat) (-2 : Int64)) ∈ gt := sg_8 139 rfl rfl
set_option maxRecDepth 8000 in
theorem tb_1820 : (Cond.methodLink "OneSunbeamLaw" (147 : Nat) ({ cls := "OneSunbeamModel", name := "count", desc := "(I)I" } : MethodName)) ∈ gt := sg_8 140 rfl rfl
set_option maxRecDepth 8000 in
theorem tb_1821 : (Cond.instanceMethod ({ cls := "OneSunbeamModel", name := "count", desc := "(I)I" } : MethodName)) ∈ gt := sg_8 141 rfl rfl
set_option maxRecDepth 8000 in
theorem tb_1822 : (Cond.selects "OneSunbeamModel" ({ cls := "OneSunbeamModel", name := "count", desc := "(I)I" } : MethodName) ({ cls := "OneSunbeamModel", name := "count", desc := "(I)I" } : MethodName)) ∈ gt := sg_8 142 rfl rfl
set_option maxRecDepth 8000 in
theorem tb_1823 : (Cond.code ({ cls := "OneSunbeamModel", name := "count", desc := "(I)I" } : MethodName) prog_12_method_95_code (2 : Nat) (Option.some FieldType.int)) ∈ gt := sg_8 143 rfl rfl
set_option maxRecDepth 8000 in
theorem tb_1824 : (Cond.methodLink "OneSunbeamLaw" (151 : Nat) ({ cls := "OneSunbeamModel", name := "image", desc := "(I)I" } : MethodName)) ∈ gt := sg_8 144 rfl rfl
set_option maxRecDepth 8000 in
theorem tb_1825 : (Cond.instanceMethod ({ cls := "OneSunbeamModel", name := "image", desc := "(I)I" } : MethodName)) ∈ gt := sg_8 145 rfl rfl
set_option maxRecDepth 8000 in
theorem tb_1826 : (Cond.selects "OneSunbeamModel" ({ cls := "OneSunbeamModel", name := "image", desc := "(I)I" } : MethodName) ({ cls := "OneSunbeamModel", name := "image", desc := "(I)I" } : MethodName)) ∈ gt := sg_8 146 rfl rfl
set_option maxRecDepth 8000 in
theorem tb_1827 : (Cond.code ({ cls := "OneSunbeamModel", name := "image", desc := "(I)I" } : MethodName) prog_12_method_98_code (2 : Nat) (Option.some FieldType.int)) ∈ gt := sg_8 147 rfl rfl
set_option maxRecDepth 8000 in
theorem tb_1828 : (Cond.methodLink "OneSunbeamModel" (552 : Nat) ({ cls := "OneSunbeamModel", name := "carriesAll", desc := "(IZ)V" } : MethodName)) ∈ gt := sg_8 148 rfl rfl
set_option maxRecDepth 8000 in
theorem tb_1830 : (Cond.instanceMethod ({ cls := "OneSunbeamModel", name := "carriesAll", desc := "(IZ)V" } : MethodName)) ∈ gt := sg_8 150 rfl rfl
set_option maxRecDepth 8000 in
theorem tb_1831 : (Cond.code ({ cls := "OneSunbeamModel", name := "carriesAll", desc := "(IZ)V" } : MethodName) prog_12_method_97_code (3 : Nat) (Option.none : Option FieldType)) ∈ gt := sg_8 151 rfl rfl
set_option maxRecDepth 8000 in
theorem tb_1832 : (Cond.methodLink "OneSunbeamModel" (548 : Nat) ({ cls := "OneSunbeamModel", name := "carry", desc := "([I)V" } : MethodName)) ∈ gt := sg_8 152 rfl rfl
set_option maxRecDepth 8000 in
theorem tb_1834 : (Cond.instanceMethod ({ cls := "OneSunbeamModel", name := "carry", desc := "([I)V" } : MethodName)) ∈ gt := sg_8 154 rfl rfl
set_option maxRecDepth 8000 in
theorem tb_1835 : (Cond.code ({ cls := "OneSunbeamModel", name := "carry", desc := "([I)V" } : MethodName) prog_12_method_96_code (3 : Nat) (Option.none : Option FieldType)) ∈ gt := sg_8 155 rfl rfl
set_option maxRecDepth 8000 in
theorem tb_1836 : (Cond.methodLink "OneSunbeamLaw" (155 : Nat) ({ cls := "OneSunbeamModel", name := "back", desc := "(I)I" } : MethodName)) ∈ gt := sg_8 156 rfl rfl
set_option maxRecDepth 8000 in
theorem tb_1837 : (Cond.instanceMethod ({ cls := "OneSunbeamModel", name := "back", desc := "(I)I" } : MethodName)) ∈ gt := sg_8 157 rfl rfl
set_option maxRecDepth 8000 in
theorem tb_1838 : (Cond.selects "OneSunbeamModel" ({ cls := "OneSunbeamModel", name := "back", desc := "(I)I" } : MethodName) ({ cls := "OneSunbeamModel", name := "back", desc := "(I)I" } : MethodName)) ∈ gt := sg_8 158 rfl rfl
set_option maxRecDepth 8000 in
theorem tb_1839 : (Cond.code ({ cls := "OneSunbeamModel", name := "back", desc := "(I)I" } : MethodName) prog_12_method_99_code (2 : Nat) (Option.some FieldType.int)) ∈ gt := sg_8 159 rfl rfl
set_option maxRecDepth 8000 in
theorem tb_1840 : (Cond.fieldLink "java/lang/String" (9 : Nat) "java/lang/String" "value" "[B") ∈ gt := sg_8 160 rfl rfl
set_option maxRecDepth 8000 in
theorem tb_1841 : (Cond.fieldLink "java/lang/String" (15 : Nat) "java/lang/String" "coder" "B") ∈ gt := sg_8 161 rfl rfl
theorem tp_0 : Cond.selects "OneSunbeam" ⟨"OneSunbeam", "changeMirror", "(IIIZ)I"⟩ ⟨"OneSunbeam", "changeMirror", "(IIIZ)I"⟩ ∈ gt := tp_of (y := ⟨"OneSunbeam", "changeMirror", "(IIIZ)I"⟩) (n := 16) 0 (by decide +kernel)
theorem tp_1 : Cond.selects "OneSunbeam" ⟨"OneSunbeam", "putOnTape", "(I)V"⟩ ⟨"OneSunbeam", "putOnTape", "(I)V"⟩ ∈ gt := tp_of (y := ⟨"OneSunbeam", "putOnTape", "(I)V"⟩) (n := 16) 1 (by decide +kernel)
theorem tp_2 : Cond.selects "OneSunbeam$LawReader" ⟨"OneSunbeam$LawReader", "readToken", "()V"⟩ ⟨"OneSunbeam$LawReader", "readToken", "()V"⟩ ∈ gt := tp_of (y := ⟨"OneSunbeam$LawReader", "readToken", "()V"⟩) (n := 14) 2 (by decide +kernel)
theorem tp_3 : Cond.selects "OneSunbeam$LawReader" ⟨"OneSunbeam$LawReader", "byteAt", "(I)I"⟩ ⟨"OneSunbeam$LawReader", "byteAt", "(I)I"⟩ ∈ gt := tp_of (y := ⟨"OneSunbeam$LawReader", "byteAt", "(I)I"⟩) (n := 14) 3 (by decide +kernel)
theorem tp_4 : Cond.selects "OneSunbeam$LawReader" ⟨"OneSunbeam$LawReader", "readNumber", "()V"⟩ ⟨"OneSunbeam$LawReader", "readNumber", "()V"⟩ ∈ gt := tp_of (y := ⟨"OneSunbeam$LawReader", "readNumber", "()V"⟩) (n := 14) 4 (by decide +kernel)
theorem tp_5 : Cond.selects "OneSunbeam$LawReader" ⟨"OneSunbeam$LawReader", "yardHere", "()I"⟩ ⟨"OneSunbeam$LawReader", "yardHere", "()I"⟩ ∈ gt := tp_of (y := ⟨"OneSunbeam$LawReader", "yardHere", "()I"⟩) (n := 14) 5 (by decide +kernel)
theorem tp_6 : Cond.selects "OneSunbeam$LawReader" ⟨"OneSunbeam$LawReader", "wordHere", "()I"⟩ ⟨"OneSunbeam$LawReader", "wordHere", "()I"⟩ ∈ gt := tp_of (y := ⟨"OneSunbeam$LawReader", "wordHere", "()I"⟩) (n := 14) 6 (by decide +kernel)
theorem tp_7 : Cond.selects "OneSunbeam$LawReader" ⟨"OneSunbeam$LawReader", "isWord", "(Ljava/lang/String;)Z"⟩ ⟨"OneSunbeam$LawReader", "isWord", "(Ljava/lang/String;)Z"⟩ ∈ gt := tp_of (y := ⟨"OneSunbeam$LawReader", "isWord", "(Ljava/lang/String;)Z"⟩) (n := 14) 7 (by decide +kernel)
theorem tp_8 : Cond.selects "OneSunbeam$LawReader" ⟨"OneSunbeam$LawReader", "signHere", "()I"⟩ ⟨"OneSunbeam$LawReader", "signHere", "()I"⟩ ∈ gt := tp_of (y := ⟨"OneSunbeam$LawReader", "signHere", "()I"⟩) (n := 14) 8 (by decide +kernel)
theorem tp_9 : Cond.selects "OneSunbeam$LawReader" ⟨"OneSunbeam$LawReader", "takeToken", "()V"⟩ ⟨"OneSunbeam$LawReader", "takeToken", "()V"⟩ ∈ gt := tp_of (y := ⟨"OneSunbeam$LawReader", "takeToken", "()V"⟩) (n := 14) 9 (by decide +kernel)
theorem tp_10 : Cond.selects "OneSunbeam$LawReader" ⟨"OneSunbeam$LawReader", "takeTurn", "()V"⟩ ⟨"OneSunbeam$LawReader", "takeTurn", "()V"⟩ ∈ gt := tp_of (y := ⟨"OneSunbeam$LawReader", "takeTurn", "()V"⟩) (n := 14) 10 (by decide +kernel)
theorem tp_11 : Cond.selects "OneSunbeam$LawReader" ⟨"OneSunbeam$LawReader", "fail", "(I)V"⟩ ⟨"OneSunbeam$LawReader", "fail", "(I)V"⟩ ∈ gt := tp_of (y := ⟨"OneSunbeam$LawReader", "fail", "(I)V"⟩) (n := 14) 11 (by decide +kernel)
theorem tp_12 : Cond.selects "OneSunbeam$LawReader" ⟨"OneSunbeam$LawReader", "takeMirror", "()V"⟩ ⟨"OneSunbeam$LawReader", "takeMirror", "()V"⟩ ∈ gt := tp_of (y := ⟨"OneSunbeam$LawReader", "takeMirror", "()V"⟩) (n := 14) 12 (by decide +kernel)
theorem tp_13 : Cond.selects "OneSunbeam$LawReader" ⟨"OneSunbeam$LawReader", "takeFact", "()V"⟩ ⟨"OneSunbeam$LawReader", "takeFact", "()V"⟩ ∈ gt := tp_of (y := ⟨"OneSunbeam$LawReader", "takeFact", "()V"⟩) (n := 14) 13 (by decide +kernel)
theorem tp_14 : Cond.selects "OneSunbeam$LawReader" ⟨"OneSunbeam$LawReader", "takeValue", "()V"⟩ ⟨"OneSunbeam$LawReader", "takeValue", "()V"⟩ ∈ gt := tp_of (y := ⟨"OneSunbeam$LawReader", "takeValue", "()V"⟩) (n := 14) 14 (by decide +kernel)
theorem tp_15 : Cond.selects "OneSunbeam$LawReader" ⟨"OneSunbeam$LawReader", "countsOneMore", "()Z"⟩ ⟨"OneSunbeam$LawReader", "countsOneMore", "()Z"⟩ ∈ gt := tp_of (y := ⟨"OneSunbeam$LawReader", "countsOneMore", "()Z"⟩) (n := 14) 15 (by decide +kernel)
theorem tp_16 : Cond.selects "OneSunbeam$LawReader" ⟨"OneSunbeam$LawReader", "push", "(I)V"⟩ ⟨"OneSunbeam$LawReader", "push", "(I)V"⟩ ∈ gt := tp_of (y := ⟨"OneSunbeam$LawReader", "push", "(I)V"⟩) (n := 14) 16 (by decide +kernel)
theorem tp_17 : Cond.selects "OneSunbeam$LawReader" ⟨"OneSunbeam$LawReader", "takeBehind", "()V"⟩ ⟨"OneSunbeam$LawReader", "takeBehind", "()V"⟩ ∈ gt := tp_of (y := ⟨"OneSunbeam$LawReader", "takeBehind", "()V"⟩) (n := 14) 17 (by decide +kernel)
theorem tp_18 : Cond.selects "OneSunbeam$LawReader" ⟨"OneSunbeam$LawReader", "takeSign", "(II)V"⟩ ⟨"OneSunbeam$LawReader", "takeSign", "(II)V"⟩ ∈ gt := tp_of (y := ⟨"OneSunbeam$LawReader", "takeSign", "(II)V"⟩) (n := 14) 18 (by decide +kernel)
theorem tp_19 : Cond.selects "OneSunbeam$LawReader" ⟨"OneSunbeam$LawReader", "popDownTo", "(I)V"⟩ ⟨"OneSunbeam$LawReader", "popDownTo", "(I)V"⟩ ∈ gt := tp_of (y := ⟨"OneSunbeam$LawReader", "popDownTo", "(I)V"⟩) (n := 14) 19 (by decide +kernel)
theorem tp_20 : Cond.selects "OneSunbeam$LawReader" ⟨"OneSunbeam$LawReader", "closeBracket", "()V"⟩ ⟨"OneSunbeam$LawReader", "closeBracket", "()V"⟩ ∈ gt := tp_of (y := ⟨"OneSunbeam$LawReader", "closeBracket", "()V"⟩) (n := 14) 20 (by decide +kernel)
theorem tp_21 : Cond.selects "OneSunbeam$LawReader" ⟨"OneSunbeam$LawReader", "takeClauseEnd", "()V"⟩ ⟨"OneSunbeam$LawReader", "takeClauseEnd", "()V"⟩ ∈ gt := tp_of (y := ⟨"OneSunbeam$LawReader", "takeClauseEnd", "()V"⟩) (n := 14) 21 (by decide +kernel)
theorem tp_22 : Cond.selects "OneSunbeam" ⟨"OneSunbeam", "findLaw", "(I)LOneSunbeam$Law;"⟩ ⟨"OneSunbeam", "findLaw", "(I)LOneSunbeam$Law;"⟩ ∈ gt := tp_of (y := ⟨"OneSunbeam", "findLaw", "(I)LOneSunbeam$Law;"⟩) (n := 16) 22 (by decide +kernel)
theorem tp_23 : Cond.selects "OneSunbeam$Keepers" ⟨"OneSunbeam$Keepers", "turnMirrors", "(LOneSunbeam$Town;LOneSunbeam$Law;)V"⟩ ⟨"OneSunbeam$Keepers", "turnMirrors", "(LOneSunbeam$Town;LOneSunbeam$Law;)V"⟩ ∈ gt := tp_of (y := ⟨"OneSunbeam$Keepers", "turnMirrors", "(LOneSunbeam$Town;LOneSunbeam$Law;)V"⟩) (n := 4) 23 (by decide +kernel)
theorem tp_24 : Cond.selects "OneSunbeam$Keepers" ⟨"OneSunbeam$Keepers", "holds", "(LOneSunbeam$Town;LOneSunbeam$Law;I)Z"⟩ ⟨"OneSunbeam$Keepers", "holds", "(LOneSunbeam$Town;LOneSunbeam$Law;I)Z"⟩ ∈ gt := tp_of (y := ⟨"OneSunbeam$Keepers", "holds", "(LOneSunbeam$Town;LOneSunbeam$Law;I)Z"⟩) (n := 4) 24 (by decide +kernel)
theorem tp_25 : Cond.selects "OneSunbeam$Keepers" ⟨"OneSunbeam$Keepers", "valueOf", "(LOneSunbeam$Town;LOneSunbeam$Law;III)J"⟩ ⟨"OneSunbeam$Keepers", "valueOf", "(LOneSunbeam$Town;LOneSunbeam$Law;III)J"⟩ ∈ gt := tp_of (y := ⟨"OneSunbeam$Keepers", "valueOf", "(LOneSunbeam$Town;LOneSunbeam$Law;III)J"⟩) (n := 4) 25 (by decide +kernel)
theorem tp_26 : Cond.selects "OneSunbeam$Keepers" ⟨"OneSunbeam$Keepers", "wordValue", "(LOneSunbeam$Town;II)J"⟩ ⟨"OneSunbeam$Keepers", "wordValue", "(LOneSunbeam$Town;II)J"⟩ ∈ gt := tp_of (y := ⟨"OneSunbeam$Keepers", "wordValue", "(LOneSunbeam$Town;II)J"⟩) (n := 4) 26 (by decide +kernel)
theorem tp_27 : Cond.selects "OneSunbeam$Keepers" ⟨"OneSunbeam$Keepers", "gotByYard", "(I)J"⟩ ⟨"OneSunbeam$Keepers", "gotByYard", "(I)J"⟩ ∈ gt := tp_of (y := ⟨"OneSunbeam$Keepers", "gotByYard", "(I)J"⟩) (n := 4) 27 (by decide +kernel)
theorem tp_28 : Cond.selects "OneSunbeam$Beams" ⟨"OneSunbeam$Beams", "clear", "()V"⟩ ⟨"OneSunbeam$Beams", "clear", "()V"⟩ ∈ gt := tp_of (y := ⟨"OneSunbeam$Beams", "clear", "()V"⟩) (n := 13) 28 (by decide +kernel)
theorem tp_29 : Cond.selects "OneSunbeam$Beams" ⟨"OneSunbeam$Beams", "follow", "(LOneSunbeam$Town;IIII)V"⟩ ⟨"OneSunbeam$Beams", "follow", "(LOneSunbeam$Town;IIII)V"⟩ ∈ gt := tp_of (y := ⟨"OneSunbeam$Beams", "follow", "(LOneSunbeam$Town;IIII)V"⟩) (n := 13) 29 (by decide +kernel)
theorem tp_30 : Cond.selects "OneSunbeam$Beams" ⟨"OneSunbeam$Beams", "passAir", "(LOneSunbeam$Town;II)I"⟩ ⟨"OneSunbeam$Beams", "passAir", "(LOneSunbeam$Town;II)I"⟩ ∈ gt := tp_of (y := ⟨"OneSunbeam$Beams", "passAir", "(LOneSunbeam$Town;II)I"⟩) (n := 13) 30 (by decide +kernel)
theorem tp_31 : Cond.selects "OneSunbeam$Beams" ⟨"OneSunbeam$Beams", "passYard", "(LOneSunbeam$Town;II)I"⟩ ⟨"OneSunbeam$Beams", "passYard", "(LOneSunbeam$Town;II)I"⟩ ∈ gt := tp_of (y := ⟨"OneSunbeam$Beams", "passYard", "(LOneSunbeam$Town;II)I"⟩) (n := 13) 31 (by decide +kernel)
theorem tp_32 : Cond.selects "OneSunbeam$Beams" ⟨"OneSunbeam$Beams", "passMirror", "(LOneSunbeam$Town;III)I"⟩ ⟨"OneSunbeam$Beams", "passMirror", "(LOneSunbeam$Town;III)I"⟩ ∈ gt := tp_of (y := ⟨"OneSunbeam$Beams", "passMirror", "(LOneSunbeam$Town;III)I"⟩) (n := 13) 32 (by decide +kernel)
theorem tp_33 : Cond.selects "OneSunbeam$Beams" ⟨"OneSunbeam$Beams", "letWait", "(II)V"⟩ ⟨"OneSunbeam$Beams", "letWait", "(II)V"⟩ ∈ gt := tp_of (y := ⟨"OneSunbeam$Beams", "letWait", "(II)V"⟩) (n := 13) 33 (by decide +kernel)
theorem tp_34 : Cond.selects "OneSunbeam$Beams" ⟨"OneSunbeam$Beams", "isBlind", "(LOneSunbeam$Town;I)Z"⟩ ⟨"OneSunbeam$Beams", "isBlind", "(LOneSunbeam$Town;I)Z"⟩ ∈ gt := tp_of (y := ⟨"OneSunbeam$Beams", "isBlind", "(LOneSunbeam$Town;I)Z"⟩) (n := 13) 34 (by decide +kernel)
theorem tp_35 : Cond.selects "OneSunbeam$Keepers" ⟨"OneSunbeam$Keepers", "addToday", "()V"⟩ ⟨"OneSunbeam$Keepers", "addToday", "()V"⟩ ∈ gt := tp_of (y := ⟨"OneSunbeam$Keepers", "addToday", "()V"⟩) (n := 4) 35 (by decide +kernel)
theorem tp_36 : Cond.selects "OneSunbeam" ⟨"OneSunbeam", "worthOfSet", "(II)I"⟩ ⟨"OneSunbeam", "worthOfSet", "(II)I"⟩ ∈ gt := tp_of (y := ⟨"OneSunbeam", "worthOfSet", "(II)I"⟩) (n := 16) 36 (by decide +kernel)
theorem tp_37 : Cond.selects "OneSunbeam" ⟨"OneSunbeam", "isPlaceOfSet", "(II)Z"⟩ ⟨"OneSunbeam", "isPlaceOfSet", "(II)Z"⟩ ∈ gt := tp_of (y := ⟨"OneSunbeam", "isPlaceOfSet", "(II)Z"⟩) (n := 16) 37 (by decide +kernel)
theorem tp_38 : Cond.selects "OneSunbeam$Aiming" ⟨"OneSunbeam$Aiming", "gather", "(LOneSunbeam$Town;I)V"⟩ ⟨"OneSunbeam$Aiming", "gather", "(LOneSunbeam$Town;I)V"⟩ ∈ gt := tp_of (y := ⟨"OneSunbeam$Aiming", "gather", "(LOneSunbeam$Town;I)V"⟩) (n := 7) 38 (by decide +kernel)
theorem tp_39 : Cond.selects "OneSunbeam$Aiming" ⟨"OneSunbeam$Aiming", "putSlants", "(LOneSunbeam$Town;[I)V"⟩ ⟨"OneSunbeam$Aiming", "putSlants", "(LOneSunbeam$Town;[I)V"⟩ ∈ gt := tp_of (y := ⟨"OneSunbeam$Aiming", "putSlants", "(LOneSunbeam$Town;[I)V"⟩) (n := 7) 39 (by decide +kernel)
theorem tp_40 : Cond.selects "OneSunbeam$Aiming" ⟨"OneSunbeam$Aiming", "leastGot", "(LOneSunbeam$Town;)I"⟩ ⟨"OneSunbeam$Aiming", "leastGot", "(LOneSunbeam$Town;)I"⟩ ∈ gt := tp_of (y := ⟨"OneSunbeam$Aiming", "leastGot", "(LOneSunbeam$Town;)I"⟩) (n := 7) 40 (by decide +kernel)
theorem tp_41 : Cond.selects "OneSunbeam$Aiming" ⟨"OneSunbeam$Aiming", "lastTouched", "()I"⟩ ⟨"OneSunbeam$Aiming", "lastTouched", "()I"⟩ ∈ gt := tp_of (y := ⟨"OneSunbeam$Aiming", "lastTouched", "()I"⟩) (n := 7) 41 (by decide +kernel)
theorem tp_42 : Cond.selects "OneSunbeam$Aiming" ⟨"OneSunbeam$Aiming", "goOn", "(I)Z"⟩ ⟨"OneSunbeam$Aiming", "goOn", "(I)Z"⟩ ∈ gt := tp_of (y := ⟨"OneSunbeam$Aiming", "goOn", "(I)Z"⟩) (n := 7) 42 (by decide +kernel)
theorem tp_43 : Cond.selects "OneSunbeam$Mending" ⟨"OneSunbeam$Mending", "isEnough", "()Z"⟩ ⟨"OneSunbeam$Mending", "isEnough", "()Z"⟩ ∈ gt := tp_of (y := ⟨"OneSunbeam$Mending", "isEnough", "()Z"⟩) (n := 9) 43 (by decide +kernel)
theorem tp_44 : Cond.selects "OneSunbeam$Mending" ⟨"OneSunbeam$Mending", "isMendedBy", "(II)Z"⟩ ⟨"OneSunbeam$Mending", "isMendedBy", "(II)Z"⟩ ∈ gt := tp_of (y := ⟨"OneSunbeam$Mending", "isMendedBy", "(II)Z"⟩) (n := 9) 44 (by decide +kernel)
theorem tp_45 : Cond.selects "OneSunbeam$Mending" ⟨"OneSunbeam$Mending", "findSlants", "(II)Z"⟩ ⟨"OneSunbeam$Mending", "findSlants", "(II)Z"⟩ ∈ gt := tp_of (y := ⟨"OneSunbeam$Mending", "findSlants", "(II)Z"⟩) (n := 9) 45 (by decide +kernel)
theorem tp_46 : Cond.selects "OneSunbeam$Mending" ⟨"OneSunbeam$Mending", "doesPairMatter", "(IIII)Z"⟩ ⟨"OneSunbeam$Mending", "doesPairMatter", "(IIII)Z"⟩ ∈ gt := tp_of (y := ⟨"OneSunbeam$Mending", "doesPairMatter", "(IIII)Z"⟩) (n := 9) 46 (by decide +kernel)
theorem tp_47 : Cond.selects "OneSunbeam$Opening" ⟨"OneSunbeam$Opening", "tryWays", "(LOneSunbeam$Town;I)V"⟩ ⟨"OneSunbeam$Opening", "tryWays", "(LOneSunbeam$Town;I)V"⟩ ∈ gt := tp_of (y := ⟨"OneSunbeam$Opening", "tryWays", "(LOneSunbeam$Town;I)V"⟩) (n := 4) 47 (by decide +kernel)
theorem tp_48 : Cond.selects "OneSunbeam$Theft" ⟨"OneSunbeam$Theft", "walk", "(LOneSunbeam$Town;I)V"⟩ ⟨"OneSunbeam$Theft", "walk", "(LOneSunbeam$Town;I)V"⟩ ∈ gt := tp_of (y := ⟨"OneSunbeam$Theft", "walk", "(LOneSunbeam$Town;I)V"⟩) (n := 6) 48 (by decide +kernel)
theorem tp_49 : Cond.selects "OneSunbeam$Theft" ⟨"OneSunbeam$Theft", "meet", "(II)I"⟩ ⟨"OneSunbeam$Theft", "meet", "(II)I"⟩ ∈ gt := tp_of (y := ⟨"OneSunbeam$Theft", "meet", "(II)I"⟩) (n := 6) 49 (by decide +kernel)
theorem tp_50 : Cond.selects "OneSunbeam$Theft" ⟨"OneSunbeam$Theft", "isExplainedBehind", "(LOneSunbeam$Town;II)Z"⟩ ⟨"OneSunbeam$Theft", "isExplainedBehind", "(LOneSunbeam$Town;II)Z"⟩ ∈ gt := tp_of (y := ⟨"OneSunbeam$Theft", "isExplainedBehind", "(LOneSunbeam$Town;II)Z"⟩) (n := 6) 50 (by decide +kernel)
theorem tp_51 : Cond.selects "OneSunbeam" ⟨"OneSunbeam", "leastDust", "(IIII)I"⟩ ⟨"OneSunbeam", "leastDust", "(IIII)I"⟩ ∈ gt := tp_of (y := ⟨"OneSunbeam", "leastDust", "(IIII)I"⟩) (n := 16) 51 (by decide +kernel)
theorem tp_52 : Cond.selects "OneSunbeam" ⟨"OneSunbeam", "getWithDust", "(IIII)I"⟩ ⟨"OneSunbeam", "getWithDust", "(IIII)I"⟩ ∈ gt := tp_of (y := ⟨"OneSunbeam", "getWithDust", "(IIII)I"⟩) (n := 16) 52 (by decide +kernel)
theorem tp_53 : Cond.selects "OneSunbeam" ⟨"OneSunbeam", "leastDustOneByOne", "(IIII)I"⟩ ⟨"OneSunbeam", "leastDustOneByOne", "(IIII)I"⟩ ∈ gt := tp_of (y := ⟨"OneSunbeam", "leastDustOneByOne", "(IIII)I"⟩) (n := 16) 53 (by decide +kernel)
theorem tp_54 : Cond.selects "OneSunbeam" ⟨"OneSunbeam", "leastDustByHalves", "(IIII)I"⟩ ⟨"OneSunbeam", "leastDustByHalves", "(IIII)I"⟩ ∈ gt := tp_of (y := ⟨"OneSunbeam", "leastDustByHalves", "(IIII)I"⟩) (n := 16) 54 (by decide +kernel)
theorem tp_55 : Cond.selects "OneSunbeam" ⟨"OneSunbeam", "countOfTown", "(I)I"⟩ ⟨"OneSunbeam", "countOfTown", "(I)I"⟩ ∈ gt := tp_of (y := ⟨"OneSunbeam", "countOfTown", "(I)I"⟩) (n := 16) 55 (by decide +kernel)
theorem tp_56 : Cond.selects "OneSunbeamModel" ⟨"OneSunbeamModel", "isArea", "(IIII)Z"⟩ ⟨"OneSunbeamModel", "isArea", "(IIII)Z"⟩ ∈ gt := tp_of (y := ⟨"OneSunbeamModel", "isArea", "(IIII)Z"⟩) (n := 80) 56 (by decide +kernel)
theorem tp_57 : Cond.selects "OneSunbeamModel" ⟨"OneSunbeamModel", "isCell", "(II)Z"⟩ ⟨"OneSunbeamModel", "isCell", "(II)Z"⟩ ∈ gt := tp_of (y := ⟨"OneSunbeamModel", "isCell", "(II)Z"⟩) (n := 80) 57 (by decide +kernel)
theorem tp_58 : Cond.selects "OneSunbeamModel" ⟨"OneSunbeamModel", "isTown", "()Z"⟩ ⟨"OneSunbeamModel", "isTown", "()Z"⟩ ∈ gt := tp_of (y := ⟨"OneSunbeamModel", "isTown", "()Z"⟩) (n := 80) 58 (by decide +kernel)
theorem tp_59 : Cond.selects "OneSunbeamModel" ⟨"OneSunbeamModel", "isMirror", "(I)Z"⟩ ⟨"OneSunbeamModel", "isMirror", "(I)Z"⟩ ∈ gt := tp_of (y := ⟨"OneSunbeamModel", "isMirror", "(I)Z"⟩) (n := 80) 59 (by decide +kernel)
theorem tp_60 : Cond.selects "OneSunbeamModel" ⟨"OneSunbeamModel", "put", "(I)V"⟩ ⟨"OneSunbeamModel", "put", "(I)V"⟩ ∈ gt := tp_of (y := ⟨"OneSunbeamModel", "put", "(I)V"⟩) (n := 80) 60 (by decide +kernel)
theorem tp_61 : Cond.selects "OneSunbeamModel" ⟨"OneSunbeamModel", "clause", "(I)V"⟩ ⟨"OneSunbeamModel", "clause", "(I)V"⟩ ∈ gt := tp_of (y := ⟨"OneSunbeamModel", "clause", "(I)V"⟩) (n := 80) 61 (by decide +kernel)
theorem tp_62 : Cond.selects "OneSunbeamModel" ⟨"OneSunbeamModel", "blanks", "()V"⟩ ⟨"OneSunbeamModel", "blanks", "()V"⟩ ∈ gt := tp_of (y := ⟨"OneSunbeamModel", "blanks", "()V"⟩) (n := 80) 62 (by decide +kernel)
theorem tp_63 : Cond.selects "OneSunbeamModel" ⟨"OneSunbeamModel", "sign", "()I"⟩ ⟨"OneSunbeamModel", "sign", "()I"⟩ ∈ gt := tp_of (y := ⟨"OneSunbeamModel", "sign", "()I"⟩) (n := 80) 63 (by decide +kernel)
theorem tp_64 : Cond.selects "OneSunbeamModel" ⟨"OneSunbeamModel", "stands", "(Ljava/lang/String;)Z"⟩ ⟨"OneSunbeamModel", "stands", "(Ljava/lang/String;)Z"⟩ ∈ gt := tp_of (y := ⟨"OneSunbeamModel", "stands", "(Ljava/lang/String;)Z"⟩) (n := 80) 64 (by decide +kernel)
theorem tp_65 : Cond.selects "OneSunbeamModel" ⟨"OneSunbeamModel", "fails", "(II)V"⟩ ⟨"OneSunbeamModel", "fails", "(II)V"⟩ ∈ gt := tp_of (y := ⟨"OneSunbeamModel", "fails", "(II)V"⟩) (n := 80) 65 (by decide +kernel)
theorem tp_66 : Cond.selects "OneSunbeamModel" ⟨"OneSunbeamModel", "digits", "(I)I"⟩ ⟨"OneSunbeamModel", "digits", "(I)I"⟩ ∈ gt := tp_of (y := ⟨"OneSunbeamModel", "digits", "(I)I"⟩) (n := 80) 66 (by decide +kernel)
theorem tp_67 : Cond.selects "OneSunbeamModel" ⟨"OneSunbeamModel", "isDigit", "()Z"⟩ ⟨"OneSunbeamModel", "isDigit", "()Z"⟩ ∈ gt := tp_of (y := ⟨"OneSunbeamModel", "isDigit", "()Z"⟩) (n := 80) 67 (by decide +kernel)
theorem tp_68 : Cond.selects "OneSunbeamModel" ⟨"OneSunbeamModel", "sum", "()V"⟩ ⟨"OneSunbeamModel", "sum", "()V"⟩ ∈ gt := tp_of (y := ⟨"OneSunbeamModel", "sum", "()V"⟩) (n := 80) 68 (by decide +kernel)
theorem tp_69 : Cond.selects "OneSunbeamModel" ⟨"OneSunbeamModel", "term", "()V"⟩ ⟨"OneSunbeamModel", "term", "()V"⟩ ∈ gt := tp_of (y := ⟨"OneSunbeamModel", "term", "()V"⟩) (n := 80) 69 (by decide +kernel)
theorem tp_70 : Cond.selects "OneSunbeamModel" ⟨"OneSunbeamModel", "value", "()V"⟩ ⟨"OneSunbeamModel", "value", "()V"⟩ ∈ gt := tp_of (y := ⟨"OneSunbeamModel", "value", "()V"⟩) (n := 80) 70 (by decide +kernel)
theorem tp_71 : Cond.selects "OneSunbeamModel" ⟨"OneSunbeamModel", "isCounted", "(I)V"⟩ ⟨"OneSunbeamModel", "isCounted", "(I)V"⟩ ∈ gt := tp_of (y := ⟨"OneSunbeamModel", "isCounted", "(I)V"⟩) (n := 80) 71 (by decide +kernel)
theorem tp_72 : Cond.selects "OneSunbeamModel" ⟨"OneSunbeamModel", "entry", "(II)V"⟩ ⟨"OneSunbeamModel", "entry", "(II)V"⟩ ∈ gt := tp_of (y := ⟨"OneSunbeamModel", "entry", "(II)V"⟩) (n := 80) 72 (by decide +kernel)
theorem tp_73 : Cond.selects "OneSunbeamModel" ⟨"OneSunbeamModel", "takes", "(Ljava/lang/String;)Z"⟩ ⟨"OneSunbeamModel", "takes", "(Ljava/lang/String;)Z"⟩ ∈ gt := tp_of (y := ⟨"OneSunbeamModel", "takes", "(Ljava/lang/String;)Z"⟩) (n := 80) 73 (by decide +kernel)
theorem tp_74 : Cond.selects "OneSunbeamModel" ⟨"OneSunbeamModel", "test", "()V"⟩ ⟨"OneSunbeamModel", "test", "()V"⟩ ∈ gt := tp_of (y := ⟨"OneSunbeamModel", "test", "()V"⟩) (n := 80) 74 (by decide +kernel)
theorem tp_75 : Cond.selects "OneSunbeamModel" ⟨"OneSunbeamModel", "fact", "()Z"⟩ ⟨"OneSunbeamModel", "fact", "()Z"⟩ ∈ gt := tp_of (y := ⟨"OneSunbeamModel", "fact", "()Z"⟩) (n := 80) 75 (by decide +kernel)
theorem tp_76 : Cond.selects "OneSunbeamModel" ⟨"OneSunbeamModel", "opens", "(I)V"⟩ ⟨"OneSunbeamModel", "opens", "(I)V"⟩ ∈ gt := tp_of (y := ⟨"OneSunbeamModel", "opens", "(I)V"⟩) (n := 80) 76 (by decide +kernel)
theorem tp_77 : Cond.selects "OneSunbeamModel" ⟨"OneSunbeamModel", "compared", "()V"⟩ ⟨"OneSunbeamModel", "compared", "()V"⟩ ∈ gt := tp_of (y := ⟨"OneSunbeamModel", "compared", "()V"⟩) (n := 80) 77 (by decide +kernel)
theorem tp_78 : Cond.selects "OneSunbeamModel" ⟨"OneSunbeamModel", "answers", "(I)V"⟩ ⟨"OneSunbeamModel", "answers", "(I)V"⟩ ∈ gt := tp_of (y := ⟨"OneSunbeamModel", "answers", "(I)V"⟩) (n := 80) 78 (by decide +kernel)
theorem tp_79 : Cond.selects "OneSunbeamModel" ⟨"OneSunbeamModel", "top", "()I"⟩ ⟨"OneSunbeamModel", "top", "()I"⟩ ∈ gt := tp_of (y := ⟨"OneSunbeamModel", "top", "()I"⟩) (n := 80) 79 (by decide +kernel)
theorem tp_80 : Cond.selects "OneSunbeamModel" ⟨"OneSunbeamModel", "isLaw", "(I)Z"⟩ ⟨"OneSunbeamModel", "isLaw", "(I)Z"⟩ ∈ gt := tp_of (y := ⟨"OneSunbeamModel", "isLaw", "(I)Z"⟩) (n := 80) 80 (by decide +kernel)
theorem tp_81 : Cond.selects "OneSunbeamModel" ⟨"OneSunbeamModel", "goesDay", "(I)V"⟩ ⟨"OneSunbeamModel", "goesDay", "(I)V"⟩ ∈ gt := tp_of (y := ⟨"OneSunbeamModel", "goesDay", "(I)V"⟩) (n := 80) 81 (by decide +kernel)
theorem tp_82 : Cond.selects "OneSunbeamModel" ⟨"OneSunbeamModel", "turns", "(III)V"⟩ ⟨"OneSunbeamModel", "turns", "(III)V"⟩ ∈ gt := tp_of (y := ⟨"OneSunbeamModel", "turns", "(III)V"⟩) (n := 80) 82 (by decide +kernel)
theorem tp_83 : Cond.selects "OneSunbeamModel" ⟨"OneSunbeamModel", "asks", "(II)V"⟩ ⟨"OneSunbeamModel", "asks", "(II)V"⟩ ∈ gt := tp_of (y := ⟨"OneSunbeamModel", "asks", "(II)V"⟩) (n := 80) 83 (by decide +kernel)
theorem tp_84 : Cond.selects "OneSunbeamModel" ⟨"OneSunbeamModel", "sunOf", "(I)I"⟩ ⟨"OneSunbeamModel", "sunOf", "(I)I"⟩ ∈ gt := tp_of (y := ⟨"OneSunbeamModel", "sunOf", "(I)I"⟩) (n := 80) 84 (by decide +kernel)
theorem tp_85 : Cond.selects "OneSunbeamModel" ⟨"OneSunbeamModel", "answer", "(III)J"⟩ ⟨"OneSunbeamModel", "answer", "(III)J"⟩ ∈ gt := tp_of (y := ⟨"OneSunbeamModel", "answer", "(III)J"⟩) (n := 80) 85 (by decide +kernel)
theorem tp_86 : Cond.selects "OneSunbeamModel" ⟨"OneSunbeamModel", "shines", "(I)V"⟩ ⟨"OneSunbeamModel", "shines", "(I)V"⟩ ∈ gt := tp_of (y := ⟨"OneSunbeamModel", "shines", "(I)V"⟩) (n := 80) 86 (by decide +kernel)
theorem tp_87 : Cond.selects "OneSunbeamModel" ⟨"OneSunbeamModel", "traces", "(III)V"⟩ ⟨"OneSunbeamModel", "traces", "(III)V"⟩ ∈ gt := tp_of (y := ⟨"OneSunbeamModel", "traces", "(III)V"⟩) (n := 80) 87 (by decide +kernel)
theorem tp_88 : Cond.selects "OneSunbeamModel" ⟨"OneSunbeamModel", "goes", "(IIII)V"⟩ ⟨"OneSunbeamModel", "goes", "(IIII)V"⟩ ∈ gt := tp_of (y := ⟨"OneSunbeamModel", "goes", "(IIII)V"⟩) (n := 80) 88 (by decide +kernel)
theorem tp_89 : Cond.selects "OneSunbeamModel" ⟨"OneSunbeamModel", "yardOf", "(II)I"⟩ ⟨"OneSunbeamModel", "yardOf", "(II)I"⟩ ∈ gt := tp_of (y := ⟨"OneSunbeamModel", "yardOf", "(II)I"⟩) (n := 80) 89 (by decide +kernel)
theorem tp_90 : Cond.selects "OneSunbeamModel" ⟨"OneSunbeamModel", "told", "(II)I"⟩ ⟨"OneSunbeamModel", "told", "(II)I"⟩ ∈ gt := tp_of (y := ⟨"OneSunbeamModel", "told", "(II)I"⟩) (n := 80) 90 (by decide +kernel)
theorem tp_91 : Cond.selects "OneSunbeamModel" ⟨"OneSunbeamModel", "waitsFor", "(IIII)V"⟩ ⟨"OneSunbeamModel", "waitsFor", "(IIII)V"⟩ ∈ gt := tp_of (y := ⟨"OneSunbeamModel", "waitsFor", "(IIII)V"⟩) (n := 80) 91 (by decide +kernel)
theorem tp_92 : Cond.selects "OneSunbeamModel" ⟨"OneSunbeamModel", "blindCells", "()I"⟩ ⟨"OneSunbeamModel", "blindCells", "()I"⟩ ∈ gt := tp_of (y := ⟨"OneSunbeamModel", "blindCells", "()I"⟩) (n := 80) 92 (by decide +kernel)
theorem tp_93 : Cond.selects "OneSunbeamModel" ⟨"OneSunbeamModel", "met", "()I"⟩ ⟨"OneSunbeamModel", "met", "()I"⟩ ∈ gt := tp_of (y := ⟨"OneSunbeamModel", "met", "()I"⟩) (n := 80) 93 (by decide +kernel)
theorem tp_94 : Cond.selects "OneSunbeamModel" ⟨"OneSunbeamModel", "isYard", "(I)Z"⟩ ⟨"OneSunbeamModel", "isYard", "(I)Z"⟩ ∈ gt := tp_of (y := ⟨"OneSunbeamModel", "isYard", "(I)Z"⟩) (n := 80) 94 (by decide +kernel)
theorem tp_95 : Cond.selects "OneSunbeamModel" ⟨"OneSunbeamModel", "isBright", "(I)Z"⟩ ⟨"OneSunbeamModel", "isBright", "(I)Z"⟩ ∈ gt := tp_of (y := ⟨"OneSunbeamModel", "isBright", "(I)Z"⟩) (n := 80) 95 (by decide +kernel)
theorem tp_96 : Cond.selects "OneSunbeamModel" ⟨"OneSunbeamModel", "allGot", "()I"⟩ ⟨"OneSunbeamModel", "allGot", "()I"⟩ ∈ gt := tp_of (y := ⟨"OneSunbeamModel", "allGot", "()I"⟩) (n := 80) 96 (by decide +kernel)
theorem tp_97 : Cond.selects "OneSunbeamModel" ⟨"OneSunbeamModel", "firstBlind", "()I"⟩ ⟨"OneSunbeamModel", "firstBlind", "()I"⟩ ∈ gt := tp_of (y := ⟨"OneSunbeamModel", "firstBlind", "()I"⟩) (n := 80) 97 (by decide +kernel)
theorem tp_98 : Cond.selects "OneSunbeamModel" ⟨"OneSunbeamModel", "isSet", "(I)Z"⟩ ⟨"OneSunbeamModel", "isSet", "(I)Z"⟩ ∈ gt := tp_of (y := ⟨"OneSunbeamModel", "isSet", "(I)Z"⟩) (n := 80) 98 (by decide +kernel)
theorem tp_99 : Cond.selects "OneSunbeamModel" ⟨"OneSunbeamModel", "searches", "(III)I"⟩ ⟨"OneSunbeamModel", "searches", "(III)I"⟩ ∈ gt := tp_of (y := ⟨"OneSunbeamModel", "searches", "(III)I"⟩) (n := 80) 99 (by decide +kernel)
theorem tp_100 : Cond.selects "OneSunbeamModel" ⟨"OneSunbeamModel", "fairest", "()I"⟩ ⟨"OneSunbeamModel", "fairest", "()I"⟩ ∈ gt := tp_of (y := ⟨"OneSunbeamModel", "fairest", "()I"⟩) (n := 80) 100 (by decide +kernel)
theorem tp_101 : Cond.selects "OneSunbeamModel" ⟨"OneSunbeamModel", "isMended", "(IIIII)V"⟩ ⟨"OneSunbeamModel", "isMended", "(IIIII)V"⟩ ∈ gt := tp_of (y := ⟨"OneSunbeamModel", "isMended", "(IIIII)V"⟩) (n := 80) 101 (by decide +kernel)
theorem tp_102 : Cond.selects "OneSunbeamModel" ⟨"OneSunbeamModel", "isHalf", "(I)Z"⟩ ⟨"OneSunbeamModel", "isHalf", "(I)Z"⟩ ∈ gt := tp_of (y := ⟨"OneSunbeamModel", "isHalf", "(I)Z"⟩) (n := 80) 102 (by decide +kernel)
theorem tp_103 : Cond.selects "OneSunbeamModel" ⟨"OneSunbeamModel", "mendsOne", "(I)Z"⟩ ⟨"OneSunbeamModel", "mendsOne", "(I)Z"⟩ ∈ gt := tp_of (y := ⟨"OneSunbeamModel", "mendsOne", "(I)Z"⟩) (n := 80) 103 (by decide +kernel)
theorem tp_104 : Cond.selects "OneSunbeamModel" ⟨"OneSunbeamModel", "mendsTwo", "(I)Z"⟩ ⟨"OneSunbeamModel", "mendsTwo", "(I)Z"⟩ ∈ gt := tp_of (y := ⟨"OneSunbeamModel", "mendsTwo", "(I)Z"⟩) (n := 80) 104 (by decide +kernel)
theorem tp_105 : Cond.selects "OneSunbeamModel" ⟨"OneSunbeamModel", "mendsPair", "(III)Z"⟩ ⟨"OneSunbeamModel", "mendsPair", "(III)Z"⟩ ∈ gt := tp_of (y := ⟨"OneSunbeamModel", "mendsPair", "(III)Z"⟩) (n := 80) 105 (by decide +kernel)
theorem tp_106 : Cond.selects "OneSunbeamModel" ⟨"OneSunbeamModel", "follows", "(I)V"⟩ ⟨"OneSunbeamModel", "follows", "(I)V"⟩ ∈ gt := tp_of (y := ⟨"OneSunbeamModel", "follows", "(I)V"⟩) (n := 80) 106 (by decide +kernel)
theorem tp_107 : Cond.selects "OneSunbeamModel" ⟨"OneSunbeamModel", "keeps", "()V"⟩ ⟨"OneSunbeamModel", "keeps", "()V"⟩ ∈ gt := tp_of (y := ⟨"OneSunbeamModel", "keeps", "()V"⟩) (n := 80) 107 (by decide +kernel)
theorem tp_108 : Cond.selects "OneSunbeamModel" ⟨"OneSunbeamModel", "putsBack", "()V"⟩ ⟨"OneSunbeamModel", "putsBack", "()V"⟩ ∈ gt := tp_of (y := ⟨"OneSunbeamModel", "putsBack", "()V"⟩) (n := 80) 108 (by decide +kernel)
theorem tp_109 : Cond.selects "OneSunbeamModel" ⟨"OneSunbeamModel", "carriesAll", "(IZ)V"⟩ ⟨"OneSunbeamModel", "carriesAll", "(IZ)V"⟩ ∈ gt := tp_of (y := ⟨"OneSunbeamModel", "carriesAll", "(IZ)V"⟩) (n := 80) 109 (by decide +kernel)
theorem tp_110 : Cond.selects "OneSunbeamModel" ⟨"OneSunbeamModel", "carry", "([I)V"⟩ ⟨"OneSunbeamModel", "carry", "([I)V"⟩ ∈ gt := tp_of (y := ⟨"OneSunbeamModel", "carry", "([I)V"⟩) (n := 80) 110 (by decide +kernel)
theorem oc_s {P : Nat → Prop} {n : Nat} (h : ∀ k, k < n → P k) (hn : P n) : ∀ k, k < n + 1 → P k := fun k hk => (Nat.lt_succ_iff_lt_or_eq.mp hk).elim (h k) (fun e => by rw [e]; exact hn)
theorem oc_a {f : Nat → Cond} {n : Nat} (h : ∀ k, k < n → f k ∈ gt) : ∀ w ∈ (List.range n).map f, w ∈ gt := fun w hw => by
  obtain ⟨k, hk, rfl⟩ := List.mem_map.mp hw
  exact h k (List.mem_range.mp hk)
set_option maxRecDepth 8000 in
theorem oc0_l0 : u_lay RX0 TX0 0 ∈ gt := sg_1 212 rfl rfl
set_option maxRecDepth 8000 in
theorem oc0_l1 : u_lay RX0 TX0 1 ∈ gt := sg_1 214 rfl rfl
set_option maxRecDepth 8000 in
theorem oc0_l2 : u_lay RX0 TX0 2 ∈ gt := sg_1 216 rfl rfl
set_option maxRecDepth 8000 in
theorem oc0_l3 : u_lay RX0 TX0 3 ∈ gt := sg_1 218 rfl rfl
set_option maxRecDepth 8000 in
theorem oc0_l4 : u_lay RX0 TX0 4 ∈ gt := sg_1 220 rfl rfl
set_option maxRecDepth 8000 in
theorem oc0_l5 : u_lay RX0 TX0 5 ∈ gt := sg_1 222 rfl rfl
set_option maxRecDepth 8000 in
theorem oc0_l6 : u_lay RX0 TX0 6 ∈ gt := sg_1 224 rfl rfl
set_option maxRecDepth 8000 in
theorem oc0_w : ∀ w ∈ u_ws RX0 TX0 7, w ∈ gt := oc_a (oc_s (oc_s (oc_s (oc_s (oc_s (oc_s (oc_s (fun k hk => absurd hk (Nat.not_lt_zero k)) oc0_l0) oc0_l1) oc0_l2) oc0_l3) oc0_l4) oc0_l5) oc0_l6)
theorem oc0 : OC 0 RX0 TX0 tyX0 7 := ⟨rfl, by decide, oc0_w, tyX0_ok, nmX0⟩
theorem df0 : ∀ j, j < 7 → defaultValue (tyX0 j) = if sk 0 j = true then .null else .int 0 := by decide +kernel
set_option maxRecDepth 8000 in
theorem oc1_l0 : u_lay RX1 TX1 0 ∈ gt := sg_1 152 rfl rfl
set_option maxRecDepth 8000 in
theorem oc1_l1 : u_lay RX1 TX1 1 ∈ gt := sg_1 154 rfl rfl
set_option maxRecDepth 8000 in
theorem oc1_l2 : u_lay RX1 TX1 2 ∈ gt := sg_1 156 rfl rfl
set_option maxRecDepth 8000 in
theorem oc1_l3 : u_lay RX1 TX1 3 ∈ gt := sg_1 158 rfl rfl
set_option maxRecDepth 8000 in
theorem oc1_l4 : u_lay RX1 TX1 4 ∈ gt := sg_1 160 rfl rfl
set_option maxRecDepth 8000 in
theorem oc1_l5 : u_lay RX1 TX1 5 ∈ gt := sg_1 162 rfl rfl
set_option maxRecDepth 8000 in
theorem oc1_l6 : u_lay RX1 TX1 6 ∈ gt := sg_1 164 rfl rfl
set_option maxRecDepth 8000 in
theorem oc1_l7 : u_lay RX1 TX1 7 ∈ gt := sg_1 166 rfl rfl
set_option maxRecDepth 8000 in
theorem oc1_l8 : u_lay RX1 TX1 8 ∈ gt := sg_1 168 rfl rfl
set_option maxRecDepth 8000 in
theorem oc1_l9 : u_lay RX1 TX1 9 ∈ gt := sg_1 170 rfl rfl
set_option maxRecDepth 8000 in
theorem oc1_l10 : u_lay RX1 TX1 10 ∈ gt := sg_1 172 rfl rfl
set_option maxRecDepth 8000 in
theorem oc1_l11 : u_lay RX1 TX1 11 ∈ gt := sg_1 174 rfl rfl
set_option maxRecDepth 8000 in
theorem oc1_l12 : u_lay RX1 TX1 12 ∈ gt := sg_1 176 rfl rfl
set_option maxRecDepth 8000 in
theorem oc1_w : ∀ w ∈ u_ws RX1 TX1 13, w ∈ gt := oc_a (oc_s (oc_s (oc_s (oc_s (oc_s (oc_s (oc_s (oc_s (oc_s (oc_s (oc_s (oc_s (oc_s (fun k hk => absurd hk (Nat.not_lt_zero k)) oc1_l0) oc1_l1) oc1_l2) oc1_l3) oc1_l4) oc1_l5) oc1_l6) oc1_l7) oc1_l8) oc1_l9) oc1_l10) oc1_l11) oc1_l12)
theorem oc1 : OC 1 RX1 TX1 tyX1 13 := ⟨rfl, by decide, oc1_w, tyX1_ok, nmX1⟩
theorem df1 : ∀ j, j < 13 → defaultValue (tyX1 j) = if sk 1 j = true then .null else .int 0 := by decide +kernel
set_option maxRecDepth 8000 in
theorem oc2_l0 : u_lay RX2 TX2 0 ∈ gt := sg_1 189 rfl rfl
set_option maxRecDepth 8000 in
theorem oc2_l1 : u_lay RX2 TX2 1 ∈ gt := sg_1 191 rfl rfl
set_option maxRecDepth 8000 in
theorem oc2_l2 : u_lay RX2 TX2 2 ∈ gt := sg_1 193 rfl rfl
set_option maxRecDepth 8000 in
theorem oc2_l3 : u_lay RX2 TX2 3 ∈ gt := sg_1 195 rfl rfl
set_option maxRecDepth 8000 in
theorem oc2_w : ∀ w ∈ u_ws RX2 TX2 4, w ∈ gt := oc_a (oc_s (oc_s (oc_s (oc_s (fun k hk => absurd hk (Nat.not_lt_zero k)) oc2_l0) oc2_l1) oc2_l2) oc2_l3)
theorem oc2 : OC 2 RX2 TX2 tyX2 4 := ⟨rfl, by decide, oc2_w, tyX2_ok, nmX2⟩
theorem df2 : ∀ j, j < 4 → defaultValue (tyX2 j) = if sk 2 j = true then .null else .int 0 := by decide +kernel
set_option maxRecDepth 8000 in
theorem oc3_l0 : u_lay RX3 TX3 0 ∈ gt := sg_2 143 rfl rfl
set_option maxRecDepth 8000 in
theorem oc3_l1 : u_lay RX3 TX3 1 ∈ gt := sg_2 145 rfl rfl
set_option maxRecDepth 8000 in
theorem oc3_l2 : u_lay RX3 TX3 2 ∈ gt := sg_2 147 rfl rfl
set_option maxRecDepth 8000 in
theorem oc3_l3 : u_lay RX3 TX3 3 ∈ gt := sg_2 149 rfl rfl
set_option maxRecDepth 8000 in
theorem oc3_l4 : u_lay RX3 TX3 4 ∈ gt := sg_2 151 rfl rfl
set_option maxRecDepth 8000 in
theorem oc3_l5 : u_lay RX3 TX3 5 ∈ gt := sg_2 153 rfl rfl
set_option maxRecDepth 8000 in
theorem oc3_l6 : u_lay RX3 TX3 6 ∈ gt := sg_2 155 rfl rfl
set_option maxRecDepth 8000 in
theorem oc3_w : ∀ w ∈ u_ws RX3 TX3 7, w ∈ gt := oc_a (oc_s (oc_s (oc_s (oc_s (oc_s (oc_s (oc_s (fun k hk => absurd hk (Nat.not_lt_zero k)) oc3_l0) oc3_l1) oc3_l2) oc3_l3) oc3_l4) oc3_l5) oc3_l6)
theorem oc3 : OC 3 RX3 TX3 tyX3 7 := ⟨rfl, by decide, oc3_w, tyX3_ok, nmX3⟩
theorem df3 : ∀ j, j < 7 → defaultValue (tyX3 j) = if sk 3 j = true then .null else .int 0 := by decide +kernel
set_option maxRecDepth 8000 in
theorem oc4_l0 : u_lay RX4 TX4 0 ∈ gt := sg_2 92 rfl rfl
set_option maxRecDepth 8000 in
theorem oc4_l1 : u_lay RX4 TX4 1 ∈ gt := sg_2 94 rfl rfl
set_option maxRecDepth 8000 in
theorem oc4_l2 : u_lay RX4 TX4 2 ∈ gt := sg_2 96 rfl rfl
set_option maxRecDepth 8000 in
theorem oc4_l3 : u_lay RX4 TX4 3 ∈ gt := sg_2 98 rfl rfl
set_option maxRecDepth 8000 in
theorem oc4_l4 : u_lay RX4 TX4 4 ∈ gt := sg_2 100 rfl rfl
set_option maxRecDepth 8000 in
theorem oc4_l5 : u_lay RX4 TX4 5 ∈ gt := sg_2 102 rfl rfl
set_option maxRecDepth 8000 in
theorem oc4_l6 : u_lay RX4 TX4 6 ∈ gt := sg_2 104 rfl rfl
set_option maxRecDepth 8000 in
theorem oc4_l7 : u_lay RX4 TX4 7 ∈ gt := sg_2 106 rfl rfl
set_option maxRecDepth 8000 in
theorem oc4_l8 : u_lay RX4 TX4 8 ∈ gt := sg_2 108 rfl rfl
set_option maxRecDepth 8000 in
theorem oc4_l9 : u_lay RX4 TX4 9 ∈ gt := sg_2 110 rfl rfl
set_option maxRecDepth 8000 in
theorem oc4_l10 : u_lay RX4 TX4 10 ∈ gt := sg_2 112 rfl rfl
set_option maxRecDepth 8000 in
theorem oc4_l11 : u_lay RX4 TX4 11 ∈ gt := sg_2 114 rfl rfl
set_option maxRecDepth 8000 in
theorem oc4_l12 : u_lay RX4 TX4 12 ∈ gt := sg_2 116 rfl rfl
set_option maxRecDepth 8000 in
theorem oc4_l13 : u_lay RX4 TX4 13 ∈ gt := sg_2 118 rfl rfl
set_option maxRecDepth 8000 in
theorem oc4_w : ∀ w ∈ u_ws RX4 TX4 14, w ∈ gt := oc_a (oc_s (oc_s (oc_s (oc_s (oc_s (oc_s (oc_s (oc_s (oc_s (oc_s (oc_s (oc_s (oc_s (oc_s (fun k hk => absurd hk (Nat.not_lt_zero k)) oc4_l0) oc4_l1) oc4_l2) oc4_l3) oc4_l4) oc4_l5) oc4_l6) oc4_l7) oc4_l8) oc4_l9) oc4_l10) oc4_l11) oc4_l12) oc4_l13)
theorem oc4 : OC 4 RX4 TX4 tyX4 14 := ⟨rfl, by decide, oc4_w, tyX4_ok, nmX4⟩
theorem df4 : ∀ j, j < 14 → defaultValue (tyX4 j) = if sk 4 j = true then .null else .int 0 := by decide +kernel
set_option maxRecDepth 8000 in
theorem oc5_l0 : u_lay RX5 TX5 0 ∈ gt := sg_2 3 rfl rfl
set_option maxRecDepth 8000 in
theorem oc5_l1 : u_lay RX5 TX5 1 ∈ gt := sg_2 5 rfl rfl
set_option maxRecDepth 8000 in
theorem oc5_l2 : u_lay RX5 TX5 2 ∈ gt := sg_2 7 rfl rfl
set_option maxRecDepth 8000 in
theorem oc5_l3 : u_lay RX5 TX5 3 ∈ gt := sg_2 9 rfl rfl
set_option maxRecDepth 8000 in
theorem oc5_l4 : u_lay RX5 TX5 4 ∈ gt := sg_2 11 rfl rfl
set_option maxRecDepth 8000 in
theorem oc5_l5 : u_lay RX5 TX5 5 ∈ gt := sg_2 13 rfl rfl
set_option maxRecDepth 8000 in
theorem oc5_l6 : u_lay RX5 TX5 6 ∈ gt := sg_2 15 rfl rfl
set_option maxRecDepth 8000 in
theorem oc5_l7 : u_lay RX5 TX5 7 ∈ gt := sg_2 17 rfl rfl
set_option maxRecDepth 8000 in
theorem oc5_l8 : u_lay RX5 TX5 8 ∈ gt := sg_2 19 rfl rfl
set_option maxRecDepth 8000 in
theorem oc5_w : ∀ w ∈ u_ws RX5 TX5 9, w ∈ gt := oc_a (oc_s (oc_s (oc_s (oc_s (oc_s (oc_s (oc_s (oc_s (oc_s (fun k hk => absurd hk (Nat.not_lt_zero k)) oc5_l0) oc5_l1) oc5_l2) oc5_l3) oc5_l4) oc5_l5) oc5_l6) oc5_l7) oc5_l8)
theorem oc5 : OC 5 RX5 TX5 tyX5 9 := ⟨rfl, by decide, oc5_w, tyX5_ok, nmX5⟩
theorem df5 : ∀ j, j < 9 → defaultValue (tyX5 j) = if sk 5 j = true then .null else .int 0 := by decide +kernel
set_option maxRecDepth 8000 in
theorem oc6_l0 : u_lay RX6 TX6 0 ∈ gt := sg_2 35 rfl rfl
set_option maxRecDepth 8000 in
theorem oc6_l1 : u_lay RX6 TX6 1 ∈ gt := sg_2 37 rfl rfl
set_option maxRecDepth 8000 in
theorem oc6_l2 : u_lay RX6 TX6 2 ∈ gt := sg_2 39 rfl rfl
set_option maxRecDepth 8000 in
theorem oc6_l3 : u_lay RX6 TX6 3 ∈ gt := sg_2 41 rfl rfl
set_option maxRecDepth 8000 in
theorem oc6_w : ∀ w ∈ u_ws RX6 TX6 4, w ∈ gt := oc_a (oc_s (oc_s (oc_s (oc_s (fun k hk => absurd hk (Nat.not_lt_zero k)) oc6_l0) oc6_l1) oc6_l2) oc6_l3)
theorem oc6 : OC 6 RX6 TX6 tyX6 4 := ⟨rfl, by decide, oc6_w, tyX6_ok, nmX6⟩
theorem df6 : ∀ j, j < 4 → defaultValue (tyX6 j) = if sk 6 j = true then .null else .int 0 := by decide +kernel
set_option maxRecDepth 8000 in
theorem oc7_l0 : u_lay RX7 TX7 0 ∈ gt := sg_2 59 rfl rfl
set_option maxRecDepth 8000 in
theorem oc7_l1 : u_lay RX7 TX7 1 ∈ gt := sg_2 61 rfl rfl
set_option maxRecDepth 8000 in
theorem oc7_l2 : u_lay RX7 TX7 2 ∈ gt := sg_2 63 rfl rfl
set_option maxRecDepth 8000 in
theorem oc7_l3 : u_lay RX7 TX7 3 ∈ gt := sg_2 65 rfl rfl
set_option maxRecDepth 8000 in
theorem oc7_l4 : u_lay RX7 TX7 4 ∈ gt := sg_2 67 rfl rfl
set_option maxRecDepth 8000 in
theorem oc7_l5 : u_lay RX7 TX7 5 ∈ gt := sg_2 69 rfl rfl
set_option maxRecDepth 8000 in
theorem oc7_w : ∀ w ∈ u_ws RX7 TX7 6, w ∈ gt := oc_a (oc_s (oc_s (oc_s (oc_s (oc_s (oc_s (fun k hk => absurd hk (Nat.not_lt_zero k)) oc7_l0) oc7_l1) oc7_l2) oc7_l3) oc7_l4) oc7_l5)
theorem oc7 : OC 7 RX7 TX7 tyX7 6 := ⟨rfl, by decide, oc7_w, tyX7_ok, nmX7⟩
theorem df7 : ∀ j, j < 6 → defaultValue (tyX7 j) = if sk 7 j = true then .null else .int 0 := by decide +kernel
set_option maxRecDepth 8000 in
theorem oc8_l0 : u_lay RX8 TX8 0 ∈ gt := sg_1 84 rfl rfl
set_option maxRecDepth 8000 in
theorem oc8_l1 : u_lay RX8 TX8 1 ∈ gt := sg_1 86 rfl rfl
set_option maxRecDepth 8000 in
theorem oc8_l2 : u_lay RX8 TX8 2 ∈ gt := sg_1 88 rfl rfl
set_option maxRecDepth 8000 in
theorem oc8_l3 : u_lay RX8 TX8 3 ∈ gt := sg_1 90 rfl rfl
set_option maxRecDepth 8000 in
theorem oc8_l4 : u_lay RX8 TX8 4 ∈ gt := sg_1 92 rfl rfl
set_option maxRecDepth 8000 in
theorem oc8_l5 : u_lay RX8 TX8 5 ∈ gt := sg_1 94 rfl rfl
set_option maxRecDepth 8000 in
theorem oc8_l6 : u_lay RX8 TX8 6 ∈ gt := sg_1 96 rfl rfl
set_option maxRecDepth 8000 in
theorem oc8_l7 : u_lay RX8 TX8 7 ∈ gt := sg_1 98 rfl rfl
set_option maxRecDepth 8000 in
theorem oc8_l8 : u_lay RX8 TX8 8 ∈ gt := sg_1 100 rfl rfl
set_option maxRecDepth 8000 in
theorem oc8_l9 : u_lay RX8 TX8 9 ∈ gt := sg_1 102 rfl rfl
set_option maxRecDepth 8000 in
theorem oc8_l10 : u_lay RX8 TX8 10 ∈ gt := sg_1 104 rfl rfl
set_option maxRecDepth 8000 in
theorem oc8_l11 : u_lay RX8 TX8 11 ∈ gt := sg_1 106 rfl rfl
set_option maxRecDepth 8000 in
theorem oc8_l12 : u_lay RX8 TX8 12 ∈ gt := sg_1 108 rfl rfl
set_option maxRecDepth 8000 in
theorem oc8_l13 : u_lay RX8 TX8 13 ∈ gt := sg_1 110 rfl rfl
set_option maxRecDepth 8000 in
theorem oc8_l14 : u_lay RX8 TX8 14 ∈ gt := sg_1 112 rfl rfl
set_option maxRecDepth 8000 in
theorem oc8_l15 : u_lay RX8 TX8 15 ∈ gt := sg_1 114 rfl rfl
set_option maxRecDepth 8000 in
theorem oc8_l16 : u_lay RX8 TX8 16 ∈ gt := sg_1 116 rfl rfl
set_option maxRecDepth 8000 in
theorem oc8_l17 : u_lay RX8 TX8 17 ∈ gt := sg_1 118 rfl rfl
set_option maxRecDepth 8000 in
theorem oc8_w : ∀ w ∈ u_ws RX8 TX8 18, w ∈ gt := oc_a (oc_s (oc_s (oc_s (oc_s (oc_s (oc_s (oc_s (oc_s (oc_s (oc_s (oc_s (oc_s (oc_s (oc_s (oc_s (oc_s (oc_s (oc_s (fun k hk => absurd hk (Nat.not_lt_zero k)) oc8_l0) oc8_l1) oc8_l2) oc8_l3) oc8_l4) oc8_l5) oc8_l6) oc8_l7) oc8_l8) oc8_l9) oc8_l10) oc8_l11) oc8_l12) oc8_l13) oc8_l14) oc8_l15) oc8_l16) oc8_l17)
theorem oc8 : OC 8 RX8 TX8 tyX8 18 := ⟨rfl, by decide, oc8_w, tyX8_ok, nmX8⟩
theorem df8 : ∀ j, j < 18 → defaultValue (tyX8 j) = if sk 8 j = true then .null else .int 0 := by decide +kernel
set_option maxRecDepth 8000 in
theorem oc9_l0 : u_lay RX9 TX9 0 ∈ gt := sg_2 174 rfl rfl
set_option maxRecDepth 8000 in
theorem oc9_l1 : u_lay RX9 TX9 1 ∈ gt := sg_2 176 rfl rfl
set_option maxRecDepth 8000 in
theorem oc9_l2 : u_lay RX9 TX9 2 ∈ gt := sg_2 178 rfl rfl
set_option maxRecDepth 8000 in
theorem oc9_l3 : u_lay RX9 TX9 3 ∈ gt := sg_2 180 rfl rfl
set_option maxRecDepth 8000 in
theorem oc9_l4 : u_lay RX9 TX9 4 ∈ gt := sg_2 182 rfl rfl
set_option maxRecDepth 8000 in
theorem oc9_l5 : u_lay RX9 TX9 5 ∈ gt := sg_2 184 rfl rfl
set_option maxRecDepth 8000 in
theorem oc9_l6 : u_lay RX9 TX9 6 ∈ gt := sg_2 186 rfl rfl
set_option maxRecDepth 8000 in
theorem oc9_l7 : u_lay RX9 TX9 7 ∈ gt := sg_2 188 rfl rfl
set_option maxRecDepth 8000 in
theorem oc9_l8 : u_lay RX9 TX9 8 ∈ gt := sg_2 190 rfl rfl
set_option maxRecDepth 8000 in
theorem oc9_l9 : u_lay RX9 TX9 9 ∈ gt := sg_2 192 rfl rfl
set_option maxRecDepth 8000 in
theorem oc9_l10 : u_lay RX9 TX9 10 ∈ gt := sg_2 194 rfl rfl
set_option maxRecDepth 8000 in
theorem oc9_l11 : u_lay RX9 TX9 11 ∈ gt := sg_2 196 rfl rfl
set_option maxRecDepth 8000 in
theorem oc9_l12 : u_lay RX9 TX9 12 ∈ gt := sg_2 198 rfl rfl
set_option maxRecDepth 8000 in
theorem oc9_l13 : u_lay RX9 TX9 13 ∈ gt := sg_2 200 rfl rfl
set_option maxRecDepth 8000 in
theorem oc9_l14 : u_lay RX9 TX9 14 ∈ gt := sg_2 202 rfl rfl
set_option maxRecDepth 8000 in
theorem oc9_l15 : u_lay RX9 TX9 15 ∈ gt := sg_2 204 rfl rfl
set_option maxRecDepth 8000 in
theorem oc9_w : ∀ w ∈ u_ws RX9 TX9 16, w ∈ gt := oc_a (oc_s (oc_s (oc_s (oc_s (oc_s (oc_s (oc_s (oc_s (oc_s (oc_s (oc_s (oc_s (oc_s (oc_s (oc_s (oc_s (fun k hk => absurd hk (Nat.not_lt_zero k)) oc9_l0) oc9_l1) oc9_l2) oc9_l3) oc9_l4) oc9_l5) oc9_l6) oc9_l7) oc9_l8) oc9_l9) oc9_l10) oc9_l11) oc9_l12) oc9_l13) oc9_l14) oc9_l15)
theorem oc9 : OC 9 RX9 TX9 tyX9 16 := ⟨rfl, by decide, oc9_w, tyX9_ok, nmX9⟩
theorem df9 : ∀ j, j < 16 → defaultValue (tyX9 j) = if sk 9 j = true then .null else .int 0 := by decide +kernel
set_option maxRecDepth 8000 in
theorem oc10_l0 : u_lay RX10 TX10 0 ∈ gt := sg_6 57 rfl rfl
set_option maxRecDepth 8000 in
theorem oc10_l1 : u_lay RX10 TX10 1 ∈ gt := sg_6 59 rfl rfl
set_option maxRecDepth 8000 in
theorem oc10_l2 : u_lay RX10 TX10 2 ∈ gt := sg_6 61 rfl rfl
set_option maxRecDepth 8000 in
theorem oc10_l3 : u_lay RX10 TX10 3 ∈ gt := sg_6 63 rfl rfl
set_option maxRecDepth 8000 in
theorem oc10_l4 : u_lay RX10 TX10 4 ∈ gt := sg_6 65 rfl rfl
set_option maxRecDepth 8000 in
theorem oc10_l5 : u_lay RX10 TX10 5 ∈ gt := sg_6 67 rfl rfl
set_option maxRecDepth 8000 in
theorem oc10_l6 : u_lay RX10 TX10 6 ∈ gt := sg_6 69 rfl rfl
set_option maxRecDepth 8000 in
theorem oc10_l7 : u_lay RX10 TX10 7 ∈ gt := sg_6 71 rfl rfl
set_option maxRecDepth 8000 in
theorem oc10_l8 : u_lay RX10 TX10 8 ∈ gt := sg_6 73 rfl rfl
set_option maxRecDepth 8000 in
theorem oc10_l9 : u_lay RX10 TX10 9 ∈ gt := sg_6 75 rfl rfl
set_option maxRecDepth 8000 in
theorem oc10_l10 : u_lay RX10 TX10 10 ∈ gt := sg_6 77 rfl rfl
set_option maxRecDepth 8000 in
theorem oc10_l11 : u_lay RX10 TX10 11 ∈ gt := sg_6 79 rfl rfl
set_option maxRecDepth 8000 in
theorem oc10_l12 : u_lay RX10 TX10 12 ∈ gt := sg_6 81 rfl rfl
set_option maxRecDepth 8000 in
theorem oc10_l13 : u_lay RX10 TX10 13 ∈ gt := sg_6 83 rfl rfl
set_option maxRecDepth 8000 in
theorem oc10_l14 : u_lay RX10 TX10 14 ∈ gt := sg_6 85 rfl rfl
set_option maxRecDepth 8000 in
theorem oc10_l15 : u_lay RX10 TX10 15 ∈ gt := sg_6 87 rfl rfl
set_option maxRecDepth 8000 in
theorem oc10_l16 : u_lay RX10 TX10 16 ∈ gt := sg_6 89 rfl rfl
set_option maxRecDepth 8000 in
theorem oc10_l17 : u_lay RX10 TX10 17 ∈ gt := sg_6 91 rfl rfl
set_option maxRecDepth 8000 in
theorem oc10_l18 : u_lay RX10 TX10 18 ∈ gt := sg_6 93 rfl rfl
set_option maxRecDepth 8000 in
theorem oc10_l19 : u_lay RX10 TX10 19 ∈ gt := sg_6 95 rfl rfl
set_option maxRecDepth 8000 in
theorem oc10_l20 : u_lay RX10 TX10 20 ∈ gt := sg_6 97 rfl rfl
set_option maxRecDepth 8000 in
theorem oc10_l21 : u_lay RX10 TX10 21 ∈ gt := sg_6 99 rfl rfl
set_option maxRecDepth 8000 in
theorem oc10_l22 : u_lay RX10 TX10 22 ∈ gt := sg_6 101 rfl rfl
set_option maxRecDepth 8000 in
theorem oc10_l23 : u_lay RX10 TX10 23 ∈ gt := sg_6 103 rfl rfl
set_option maxRecDepth 8000 in
theorem oc10_l24 : u_lay RX10 TX10 24 ∈ gt := sg_6 105 rfl rfl
set_option maxRecDepth 8000 in
theorem oc10_l25 : u_lay RX10 TX10 25 ∈ gt := sg_6 107 rfl rfl
set_option maxRecDepth 8000 in
theorem oc10_l26 : u_lay RX10 TX10 26 ∈ gt := sg_6 109 rfl rfl
set_option maxRecDepth 8000 in
theorem oc10_l27 : u_lay RX10 TX10 27 ∈ gt := sg_6 111 rfl rfl
set_option maxRecDepth 8000 in
theorem oc10_l28 : u_lay RX10 TX10 28 ∈ gt := sg_6 113 rfl rfl
set_option maxRecDepth 8000 in
theorem oc10_l29 : u_lay RX10 TX10 29 ∈ gt := sg_6 115 rfl rfl
set_option maxRecDepth 8000 in
theorem oc10_l30 : u_lay RX10 TX10 30 ∈ gt := sg_6 117 rfl rfl
set_option maxRecDepth 8000 in
theorem oc10_l31 : u_lay RX10 TX10 31 ∈ gt := sg_6 119 rfl rfl
set_option maxRecDepth 8000 in
theorem oc10_l32 : u_lay RX10 TX10 32 ∈ gt := sg_6 121 rfl rfl
set_option maxRecDepth 8000 in
theorem oc10_l33 : u_lay RX10 TX10 33 ∈ gt := sg_6 123 rfl rfl
set_option maxRecDepth 8000 in
theorem oc10_l34 : u_lay RX10 TX10 34 ∈ gt := sg_6 125 rfl rfl
set_option maxRecDepth 8000 in
theorem oc10_l35 : u_lay RX10 TX10 35 ∈ gt := sg_6 127 rfl rfl
set_option maxRecDepth 8000 in
theorem oc10_l36 : u_lay RX10 TX10 36 ∈ gt := sg_6 129 rfl rfl
set_option maxRecDepth 8000 in
theorem oc10_l37 : u_lay RX10 TX10 37 ∈ gt := sg_6 131 rfl rfl
set_option maxRecDepth 8000 in
theorem oc10_l38 : u_lay RX10 TX10 38 ∈ gt := sg_6 133 rfl rfl
set_option maxRecDepth 8000 in
theorem oc10_l39 : u_lay RX10 TX10 39 ∈ gt := sg_6 135 rfl rfl
set_option maxRecDepth 8000 in
theorem oc10_l40 : u_lay RX10 TX10 40 ∈ gt := sg_6 137 rfl rfl
set_option maxRecDepth 8000 in
theorem oc10_l41 : u_lay RX10 TX10 41 ∈ gt := sg_6 139 rfl rfl
set_option maxRecDepth 8000 in
theorem oc10_l42 : u_lay RX10 TX10 42 ∈ gt := sg_6 141 rfl rfl
set_option maxRecDepth 8000 in
theorem oc10_l43 : u_lay RX10 TX10 43 ∈ gt := sg_6 143 rfl rfl
set_option maxRecDepth 8000 in
theorem oc10_l44 : u_lay RX10 TX10 44 ∈ gt := sg_6 145 rfl rfl
set_option maxRecDepth 8000 in
theorem oc10_l45 : u_lay RX10 TX10 45 ∈ gt := sg_6 147 rfl rfl
set_option maxRecDepth 8000 in
theorem oc10_l46 : u_lay RX10 TX10 46 ∈ gt := sg_6 149 rfl rfl
set_option maxRecDepth 8000 in
theorem oc10_l47 : u_lay RX10 TX10 47 ∈ gt := sg_6 151 rfl rfl
set_option maxRecDepth 8000 in
theorem oc10_l48 : u_lay RX10 TX10 48 ∈ gt := sg_6 153 rfl rfl
set_option maxRecDepth 8000 in
theorem oc10_l49 : u_lay RX10 TX10 49 ∈ gt := sg_6 155 rfl rfl
set_option maxRecDepth 8000 in
theorem oc10_l50 : u_lay RX10 TX10 50 ∈ gt := sg_6 157 rfl rfl
set_option maxRecDepth 8000 in
theorem oc10_l51 : u_lay RX10 TX10 51 ∈ gt := sg_6 159 rfl rfl
set_option maxRecDepth 8000 in
theorem oc10_l52 : u_lay RX10 TX10 52 ∈ gt := sg_6 161 rfl rfl
set_option maxRecDepth 8000 in
theorem oc10_l53 : u_lay RX10 TX10 53 ∈ gt := sg_6 163 rfl rfl
set_option maxRecDepth 8000 in
theorem oc10_l54 : u_lay RX10 TX10 54 ∈ gt := sg_6 165 rfl rfl
set_option maxRecDepth 8000 in
theorem oc10_l55 : u_lay RX10 TX10 55 ∈ gt := sg_6 167 rfl rfl
set_option maxRecDepth 8000 in
theorem oc10_l56 : u_lay RX10 TX10 56 ∈ gt := sg_6 169 rfl rfl
set_option maxRecDepth 8000 in
theorem oc10_l57 : u_lay RX10 TX10 57 ∈ gt := sg_6 171 rfl rfl
set_option maxRecDepth 8000 in
theorem oc10_l58 : u_lay RX10 TX10 58 ∈ gt := sg_6 173 rfl rfl
set_option maxRecDepth 8000 in
theorem oc10_l59 : u_lay RX10 TX10 59 ∈ gt := sg_6 175 rfl rfl
set_option maxRecDepth 8000 in
theorem oc10_l60 : u_lay RX10 TX10 60 ∈ gt := sg_6 177 rfl rfl
set_option maxRecDepth 8000 in
theorem oc10_l61 : u_lay RX10 TX10 61 ∈ gt := sg_6 179 rfl rfl
set_option maxRecDepth 8000 in
theorem oc10_l62 : u_lay RX10 TX10 62 ∈ gt := sg_6 181 rfl rfl
set_option maxRecDepth 8000 in
theorem oc10_l63 : u_lay RX10 TX10 63 ∈ gt := sg_6 183 rfl rfl
set_option maxRecDepth 8000 in
theorem oc10_l64 : u_lay RX10 TX10 64 ∈ gt := sg_6 185 rfl rfl
set_option maxRecDepth 8000 in
theorem oc10_l65 : u_lay RX10 TX10 65 ∈ gt := sg_6 187 rfl rfl
set_option maxRecDepth 8000 in
theorem oc10_l66 : u_lay RX10 TX10 66 ∈ gt := sg_6 189 rfl rfl
set_option maxRecDepth 8000 in
theorem oc10_l67 : u_lay RX10 TX10 67 ∈ gt := sg_6 191 rfl rfl
set_option maxRecDepth 8000 in
theorem oc10_l68 : u_lay RX10 TX10 68 ∈ gt := sg_6 193 rfl rfl
set_option maxRecDepth 8000 in
theorem oc10_l69 : u_lay RX10 TX10 69 ∈ gt := sg_6 195 rfl rfl
set_option maxRecDepth 8000 in
theorem oc10_l70 : u_lay RX10 TX10 70 ∈ gt := sg_6 197 rfl rfl
set_option maxRecDepth 8000 in
theorem oc10_l71 : u_lay RX10 TX10 71 ∈ gt := sg_6 199 rfl rfl
set_option maxRecDepth 8000 in
theorem oc10_l72 : u_lay RX10 TX10 72 ∈ gt := sg_6 201 rfl rfl
set_option maxRecDepth 8000 in
theorem oc10_l73 : u_lay RX10 TX10 73 ∈ gt := sg_6 203 rfl rfl
set_option maxRecDepth 8000 in
theorem oc10_l74 : u_lay RX10 TX10 74 ∈ gt := sg_6 205 rfl rfl
set_option maxRecDepth 8000 in
theorem oc10_l75 : u_lay RX10 TX10 75 ∈ gt := sg_6 207 rfl rfl
set_option maxRecDepth 8000 in
theorem oc10_l76 : u_lay RX10 TX10 76 ∈ gt := sg_6 209 rfl rfl
set_option maxRecDepth 8000 in
theorem oc10_l77 : u_lay RX10 TX10 77 ∈ gt := sg_6 211 rfl rfl
set_option maxRecDepth 8000 in
theorem oc10_l78 : u_lay RX10 TX10 78 ∈ gt := sg_6 213 rfl rfl
set_option maxRecDepth 8000 in
theorem oc10_l79 : u_lay RX10 TX10 79 ∈ gt := sg_6 215 rfl rfl
set_option maxRecDepth 8000 in
theorem oc10_w : ∀ w ∈ u_ws RX10 TX10 80, w ∈ gt := oc_a (oc_s (oc_s (oc_s (oc_s (oc_s (oc_s (oc_s (oc_s (oc_s (oc_s (oc_s (oc_s (oc_s (oc_s (oc_s (oc_s (oc_s (oc_s (oc_s (oc_s (oc_s (oc_s (oc_s (oc_s (oc_s (oc_s (oc_s (oc_s (oc_s (oc_s (oc_s (oc_s (oc_s (oc_s (oc_s (oc_s (oc_s (oc_s (oc_s (oc_s (oc_s (oc_s (oc_s (oc_s (oc_s (oc_s (oc_s (oc_s (oc_s (oc_s (oc_s (oc_s (oc_s (oc_s (oc_s (oc_s (oc_s (oc_s (oc_s (oc_s (oc_s (oc_s (oc_s (oc_s (oc_s (oc_s (oc_s (oc_s (oc_s (oc_s (oc_s (oc_s (oc_s (oc_s (oc_s (oc_s (oc_s (oc_s (oc_s (oc_s (fun k hk => absurd hk (Nat.not_lt_zero k)) oc10_l0) oc10_l1) oc10_l2) oc10_l3) oc10_l4) oc10_l5) oc10_l6) oc10_l7) oc10_l8) oc10_l9) oc10_l10) oc10_l11) oc10_l12) oc10_l13) oc10_l14) oc10_l15) oc10_l16) oc10_l17) oc10_l18) oc10_l19) oc10_l20) oc10_l21) oc10_l22) oc10_l23) oc10_l24) oc10_l25) oc10_l26) oc10_l27) oc10_l28) oc10_l29) oc10_l30) oc10_l31) oc10_l32) oc10_l33) oc10_l34) oc10_l35) oc10_l36) oc10_l37) oc10_l38) oc10_l39) oc10_l40) oc10_l41) oc10_l42) oc10_l43) oc10_l44) oc10_l45) oc10_l46) oc10_l47) oc10_l48) oc10_l49) oc10_l50) oc10_l51) oc10_l52) oc10_l53) oc10_l54) oc10_l55) oc10_l56) oc10_l57) oc10_l58) oc10_l59) oc10_l60) oc10_l61) oc10_l62) oc10_l63) oc10_l64) oc10_l65) oc10_l66) oc10_l67) oc10_l68) oc10_l69) oc10_l70) oc10_l71) oc10_l72) oc10_l73) oc10_l74) oc10_l75) oc10_l76) oc10_l77) oc10_l78) oc10_l79)
theorem oc10 : OC 10 RX10 TX10 tyX10 80 := ⟨rfl, by decide, oc10_w, tyX10_ok, nmX10⟩
theorem df10 : ∀ j, j < 80 → defaultValue (tyX10 j) = if sk 10 j = true then .null else .int 0 := by decide +kernel
