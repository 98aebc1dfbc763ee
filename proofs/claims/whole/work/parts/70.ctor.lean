/-! The constructors. -/
theorem d_C_init_0 : decode b_C_init 0 = .ok (.aload_n 0, 1) := by decide +kernel
theorem d_C_init_1 : decode b_C_init 1 = .ok (.invokespecial 3, 3) := by decide +kernel
theorem d_C_init_12 : decode b_C_init 12 = .ok (.aload_n 0, 1) := by decide +kernel
theorem d_C_init_13 : decode b_C_init 13 = .ok (.bipush 48, 2) := by decide +kernel
theorem d_C_init_15 : decode b_C_init 15 = .ok (.newarray .int, 2) := by decide +kernel
theorem d_C_init_17 : decode b_C_init 17 = .ok (.putfield 15, 3) := by decide +kernel
theorem d_C_init_20 : decode b_C_init 20 = .ok (.aload_n 0, 1) := by decide +kernel
theorem d_C_init_21 : decode b_C_init 21 = .ok (.bipush 48, 2) := by decide +kernel
theorem d_C_init_23 : decode b_C_init 23 = .ok (.newarray .long, 2) := by decide +kernel
theorem d_C_init_25 : decode b_C_init 25 = .ok (.putfield 18, 3) := by decide +kernel
theorem d_C_init_28 : decode b_C_init 28 = .ok (.aload_n 0, 1) := by decide +kernel
theorem d_C_init_29 : decode b_C_init 29 = .ok (.bipush 6, 2) := by decide +kernel
theorem d_C_init_31 : decode b_C_init 31 = .ok (.newarray .int, 2) := by decide +kernel
theorem d_C_init_33 : decode b_C_init 33 = .ok (.putfield 22, 3) := by decide +kernel
theorem d_C_init_36 : decode b_C_init 36 = .ok (.aload_n 0, 1) := by decide +kernel
theorem d_C_init_37 : decode b_C_init 37 = .ok (.bipush 6, 2) := by decide +kernel
theorem d_C_init_39 : decode b_C_init 39 = .ok (.newarray .int, 2) := by decide +kernel
theorem d_C_init_4 : decode b_C_init 4 = .ok (.aload_n 0, 1) := by decide +kernel
theorem d_C_init_41 : decode b_C_init 41 = .ok (.putfield 25, 3) := by decide +kernel
theorem d_C_init_44 : decode b_C_init 44 = .ok (.aload_n 0, 1) := by decide +kernel
theorem d_C_init_45 : decode b_C_init 45 = .ok (.bipush 6, 2) := by decide +kernel
theorem d_C_init_47 : decode b_C_init 47 = .ok (.newarray .boolean, 2) := by decide +kernel
theorem d_C_init_49 : decode b_C_init 49 = .ok (.putfield 28, 3) := by decide +kernel
theorem d_C_init_5 : decode b_C_init 5 = .ok (.bipush 48, 2) := by decide +kernel
theorem d_C_init_52 : decode b_C_init 52 = .ok (.aload_n 0, 1) := by decide +kernel
theorem d_C_init_53 : decode b_C_init 53 = .ok (.bipush 6, 2) := by decide +kernel
theorem d_C_init_55 : decode b_C_init 55 = .ok (.newarray .boolean, 2) := by decide +kernel
theorem d_C_init_57 : decode b_C_init 57 = .ok (.putfield 32, 3) := by decide +kernel
theorem d_C_init_60 : decode b_C_init 60 = .ok (.aload_n 0, 1) := by decide +kernel
theorem d_C_init_61 : decode b_C_init 61 = .ok (.bipush 6, 2) := by decide +kernel
theorem d_C_init_63 : decode b_C_init 63 = .ok (.newarray .boolean, 2) := by decide +kernel
theorem d_C_init_65 : decode b_C_init 65 = .ok (.putfield 35, 3) := by decide +kernel
theorem d_C_init_68 : decode b_C_init 68 = .ok (.aload_n 0, 1) := by decide +kernel
theorem d_C_init_69 : decode b_C_init 69 = .ok (.iconst 0, 1) := by decide +kernel
theorem d_C_init_7 : decode b_C_init 7 = .ok (.newarray .int, 2) := by decide +kernel
theorem d_C_init_70 : decode b_C_init 70 = .ok (.putfield 38, 3) := by decide +kernel
theorem d_C_init_73 : decode b_C_init 73 = .ok (.aload_n 0, 1) := by decide +kernel
theorem d_C_init_74 : decode b_C_init 74 = .ok (.iconst 0, 1) := by decide +kernel
theorem d_C_init_75 : decode b_C_init 75 = .ok (.putfield 42, 3) := by decide +kernel
theorem d_C_init_78 : decode b_C_init 78 = .ok (.aload_n 0, 1) := by decide +kernel
theorem d_C_init_79 : decode b_C_init 79 = .ok (.iconst (-1), 1) := by decide +kernel
theorem d_C_init_80 : decode b_C_init 80 = .ok (.putfield 46, 3) := by decide +kernel
theorem d_C_init_83 : decode b_C_init 83 = .ok (.return_, 1) := by decide +kernel
theorem d_C_init_9 : decode b_C_init 9 = .ok (.putfield 9, 3) := by decide +kernel
theorem d_M_init_0 : decode b_M_init 0 = .ok (.aload_n 0, 1) := by decide +kernel
theorem d_M_init_1 : decode b_M_init 1 = .ok (.invokespecial 1, 3) := by decide +kernel
theorem d_M_init_100 : decode b_M_init 100 = .ok (.aload_n 0, 1) := by decide +kernel
theorem d_M_init_101 : decode b_M_init 101 = .ok (.bipush 6, 2) := by decide +kernel
theorem d_M_init_103 : decode b_M_init 103 = .ok (.newarray .boolean, 2) := by decide +kernel
theorem d_M_init_105 : decode b_M_init 105 = .ok (.putfield 47, 3) := by decide +kernel
theorem d_M_init_108 : decode b_M_init 108 = .ok (.aload_n 0, 1) := by decide +kernel
theorem d_M_init_109 : decode b_M_init 109 = .ok (.bipush 6, 2) := by decide +kernel
theorem d_M_init_111 : decode b_M_init 111 = .ok (.newarray .boolean, 2) := by decide +kernel
theorem d_M_init_113 : decode b_M_init 113 = .ok (.putfield 50, 3) := by decide +kernel
theorem d_M_init_116 : decode b_M_init 116 = .ok (.aload_n 0, 1) := by decide +kernel
theorem d_M_init_117 : decode b_M_init 117 = .ok (.bipush 6, 2) := by decide +kernel
theorem d_M_init_119 : decode b_M_init 119 = .ok (.newarray .int, 2) := by decide +kernel
theorem d_M_init_12 : decode b_M_init 12 = .ok (.aload_n 0, 1) := by decide +kernel
theorem d_M_init_121 : decode b_M_init 121 = .ok (.putfield 53, 3) := by decide +kernel
theorem d_M_init_124 : decode b_M_init 124 = .ok (.aload_n 0, 1) := by decide +kernel
theorem d_M_init_125 : decode b_M_init 125 = .ok (.iconst 1, 1) := by decide +kernel
theorem d_M_init_126 : decode b_M_init 126 = .ok (.putfield 56, 3) := by decide +kernel
theorem d_M_init_129 : decode b_M_init 129 = .ok (.aload_n 0, 1) := by decide +kernel
theorem d_M_init_13 : decode b_M_init 13 = .ok (.bipush 48, 2) := by decide +kernel
theorem d_M_init_130 : decode b_M_init 130 = .ok (.iconst (-1), 1) := by decide +kernel
theorem d_M_init_131 : decode b_M_init 131 = .ok (.putfield 60, 3) := by decide +kernel
theorem d_M_init_134 : decode b_M_init 134 = .ok (.return_, 1) := by decide +kernel
theorem d_M_init_15 : decode b_M_init 15 = .ok (.newarray .int, 2) := by decide +kernel
theorem d_M_init_17 : decode b_M_init 17 = .ok (.putfield 13, 3) := by decide +kernel
theorem d_M_init_20 : decode b_M_init 20 = .ok (.aload_n 0, 1) := by decide +kernel
theorem d_M_init_21 : decode b_M_init 21 = .ok (.bipush 48, 2) := by decide +kernel
theorem d_M_init_23 : decode b_M_init 23 = .ok (.newarray .int, 2) := by decide +kernel
theorem d_M_init_25 : decode b_M_init 25 = .ok (.putfield 16, 3) := by decide +kernel
theorem d_M_init_28 : decode b_M_init 28 = .ok (.aload_n 0, 1) := by decide +kernel
theorem d_M_init_29 : decode b_M_init 29 = .ok (.bipush 48, 2) := by decide +kernel
theorem d_M_init_31 : decode b_M_init 31 = .ok (.newarray .int, 2) := by decide +kernel
theorem d_M_init_33 : decode b_M_init 33 = .ok (.putfield 19, 3) := by decide +kernel
theorem d_M_init_36 : decode b_M_init 36 = .ok (.aload_n 0, 1) := by decide +kernel
theorem d_M_init_37 : decode b_M_init 37 = .ok (.bipush 48, 2) := by decide +kernel
theorem d_M_init_39 : decode b_M_init 39 = .ok (.newarray .int, 2) := by decide +kernel
theorem d_M_init_4 : decode b_M_init 4 = .ok (.aload_n 0, 1) := by decide +kernel
theorem d_M_init_41 : decode b_M_init 41 = .ok (.putfield 22, 3) := by decide +kernel
theorem d_M_init_44 : decode b_M_init 44 = .ok (.aload_n 0, 1) := by decide +kernel
theorem d_M_init_45 : decode b_M_init 45 = .ok (.bipush 48, 2) := by decide +kernel
theorem d_M_init_47 : decode b_M_init 47 = .ok (.newarray .int, 2) := by decide +kernel
theorem d_M_init_49 : decode b_M_init 49 = .ok (.putfield 25, 3) := by decide +kernel
theorem d_M_init_5 : decode b_M_init 5 = .ok (.bipush 48, 2) := by decide +kernel
theorem d_M_init_52 : decode b_M_init 52 = .ok (.aload_n 0, 1) := by decide +kernel
theorem d_M_init_53 : decode b_M_init 53 = .ok (.bipush 48, 2) := by decide +kernel
theorem d_M_init_55 : decode b_M_init 55 = .ok (.newarray .int, 2) := by decide +kernel
theorem d_M_init_57 : decode b_M_init 57 = .ok (.putfield 28, 3) := by decide +kernel
theorem d_M_init_60 : decode b_M_init 60 = .ok (.aload_n 0, 1) := by decide +kernel
theorem d_M_init_61 : decode b_M_init 61 = .ok (.bipush 48, 2) := by decide +kernel
theorem d_M_init_63 : decode b_M_init 63 = .ok (.newarray .boolean, 2) := by decide +kernel
theorem d_M_init_65 : decode b_M_init 65 = .ok (.putfield 31, 3) := by decide +kernel
theorem d_M_init_68 : decode b_M_init 68 = .ok (.aload_n 0, 1) := by decide +kernel
theorem d_M_init_69 : decode b_M_init 69 = .ok (.bipush 48, 2) := by decide +kernel
theorem d_M_init_7 : decode b_M_init 7 = .ok (.newarray .int, 2) := by decide +kernel
theorem d_M_init_71 : decode b_M_init 71 = .ok (.newarray .int, 2) := by decide +kernel
theorem d_M_init_73 : decode b_M_init 73 = .ok (.putfield 35, 3) := by decide +kernel
theorem d_M_init_76 : decode b_M_init 76 = .ok (.aload_n 0, 1) := by decide +kernel
theorem d_M_init_77 : decode b_M_init 77 = .ok (.bipush 48, 2) := by decide +kernel
theorem d_M_init_79 : decode b_M_init 79 = .ok (.newarray .int, 2) := by decide +kernel
theorem d_M_init_81 : decode b_M_init 81 = .ok (.putfield 38, 3) := by decide +kernel
theorem d_M_init_84 : decode b_M_init 84 = .ok (.aload_n 0, 1) := by decide +kernel
theorem d_M_init_85 : decode b_M_init 85 = .ok (.bipush 48, 2) := by decide +kernel
theorem d_M_init_87 : decode b_M_init 87 = .ok (.newarray .boolean, 2) := by decide +kernel
theorem d_M_init_89 : decode b_M_init 89 = .ok (.putfield 41, 3) := by decide +kernel
theorem d_M_init_9 : decode b_M_init 9 = .ok (.putfield 7, 3) := by decide +kernel
theorem d_M_init_92 : decode b_M_init 92 = .ok (.aload_n 0, 1) := by decide +kernel
theorem d_M_init_93 : decode b_M_init 93 = .ok (.bipush 6, 2) := by decide +kernel
theorem d_M_init_95 : decode b_M_init 95 = .ok (.newarray .boolean, 2) := by decide +kernel
theorem d_M_init_97 : decode b_M_init 97 = .ok (.putfield 44, 3) := by decide +kernel
theorem d_S_init_0 : decode b_S_init 0 = .ok (.aload_n 0, 1) := by decide +kernel
theorem d_S_init_1 : decode b_S_init 1 = .ok (.invokespecial 3, 3) := by decide +kernel
theorem d_S_init_12 : decode b_S_init 12 = .ok (.putfield 12, 3) := by decide +kernel
theorem d_S_init_15 : decode b_S_init 15 = .ok (.aload_n 0, 1) := by decide +kernel
theorem d_S_init_16 : decode b_S_init 16 = .ok (.bipush 48, 2) := by decide +kernel
theorem d_S_init_18 : decode b_S_init 18 = .ok (.newarray .boolean, 2) := by decide +kernel
theorem d_S_init_20 : decode b_S_init 20 = .ok (.putfield 16, 3) := by decide +kernel
theorem d_S_init_23 : decode b_S_init 23 = .ok (.aload_n 0, 1) := by decide +kernel
theorem d_S_init_24 : decode b_S_init 24 = .ok (.iconst 1, 1) := by decide +kernel
theorem d_S_init_25 : decode b_S_init 25 = .ok (.putfield 20, 3) := by decide +kernel
theorem d_S_init_28 : decode b_S_init 28 = .ok (.return_, 1) := by decide +kernel
theorem d_S_init_4 : decode b_S_init 4 = .ok (.aload_n 0, 1) := by decide +kernel
theorem d_S_init_5 : decode b_S_init 5 = .ok (.new 9, 3) := by decide +kernel
theorem d_S_init_8 : decode b_S_init 8 = .ok (.dup, 1) := by decide +kernel
theorem d_S_init_9 : decode b_S_init 9 = .ok (.invokespecial 11, 3) := by decide +kernel
abbrev kC (g : Nat → ClassId) (a : Nat → Nat) : va_W := [(a 1, .inr (1, [.ref (a 2), .ref (a 3), .ref (a 4), .ref (a 5), .ref (a 6), .ref (a 7), .ref (a 8), .ref (a 9), .int 0, .int 0, .int (-1)])), (a 2, .inl (g 2, 48, .inl (fun _ => 0))), (a 3, .inl (g 3, 48, .inl (fun _ => 0))), (a 4, .inl (g 4, 48, .inr (.inl (fun _ => 0)))), (a 5, .inl (g 5, 6, .inl (fun _ => 0))), (a 6, .inl (g 6, 6, .inl (fun _ => 0))), (a 7, .inl (g 7, 6, .inl (fun _ => 0))), (a 8, .inl (g 8, 6, .inl (fun _ => 0))), (a 9, .inl (g 9, 6, .inl (fun _ => 0)))]
abbrev kyC (g : Nat → ClassId) : List (ClassId × FieldType) := [(g 2, .int), (g 3, .int), (g 4, .long), (g 5, .int), (g 6, .int), (g 7, .boolean), (g 8, .boolean), (g 9, .boolean)]
def w_i0 : List Cond := [.instanceMethod objectInit, .code objectInit ⟨#[0xb1]⟩ 1 none, .code y_C_init b_C_init 1 none, .methodLink R_C 3 objectInit, .arrayClass .int, .fieldLink R_C 9 "SpareTagFlash$Chip" "tagsOf" "[I", .fieldLink R_C 15 "SpareTagFlash$Chip" "words" "[I", .arrayClass .long, .fieldLink R_C 18 "SpareTagFlash$Chip" "turnedBits" "[J", .fieldLink R_C 22 "SpareTagFlash$Chip" "programmed" "[I", .fieldLink R_C 25 "SpareTagFlash$Chip" "timesErased" "[I", .arrayClass .boolean, .fieldLink R_C 28 "SpareTagFlash$Chip" "worn" "[Z", .fieldLink R_C 32 "SpareTagFlash$Chip" "bad" "[Z", .fieldLink R_C 35 "SpareTagFlash$Chip" "touched" "[Z", .fieldLink R_C 38 "SpareTagFlash$Chip" "regionValid" "Z", .fieldLink R_C 42 "SpareTagFlash$Chip" "stepsDone" "I", .fieldLink R_C 46 "SpareTagFlash$Chip" "stepsLeft" "I", .methodLink R_M 1 objectInit, .fieldLink R_M 7 "SpareTagFlashModel" "state" "[I", .fieldLink R_M 13 "SpareTagFlashModel" "object" "[I", .fieldLink R_M 16 "SpareTagFlashModel" "chunk" "[I", .fieldLink R_M 19 "SpareTagFlashModel" "serial" "[I", .fieldLink R_M 22 "SpareTagFlashModel" "word" "[I", .fieldLink R_M 25 "SpareTagFlashModel" "parent" "[I", .fieldLink R_M 28 "SpareTagFlashModel" "length" "[I", .fieldLink R_M 31 "SpareTagFlashModel" "folder" "[Z", .fieldLink R_M 35 "SpareTagFlashModel" "first" "[I", .fieldLink R_M 38 "SpareTagFlashModel" "second" "[I", .fieldLink R_M 41 "SpareTagFlashModel" "stale" "[Z", .fieldLink R_M 44 "SpareTagFlashModel" "bad" "[Z", .fieldLink R_M 47 "SpareTagFlashModel" "worn" "[Z", .fieldLink R_M 50 "SpareTagFlashModel" "touched" "[Z", .fieldLink R_M 53 "SpareTagFlashModel" "erased" "[I", .fieldLink R_M 56 "SpareTagFlashModel" "on" "Z", .fieldLink R_M 60 "SpareTagFlashModel" "left" "I", .methodLink R_S 3 objectInit, .classLink R_S 9 R_C, .instantiable R_C 11, .initialized R_C, .instanceMethod y_C_init, .fieldLink R_S 12 "SpareTagFlash" "chip" "LSpareTagFlash$Chip;", .fieldLink R_S 16 "SpareTagFlash" "stale" "[Z", .fieldLink R_S 20 "SpareTagFlash" "on" "Z"]
def w_ini : List Cond := w_i0 ++ (w_S ++ (w_C ++ w_M))
set_option maxRecDepth 20000 in
theorem im_0 : (Cond.instanceMethod objectInit) ∈ w_ini := List.mem_append_left _ (List.mem_of_getElem? (i := 0) rfl)
set_option maxRecDepth 20000 in
theorem im_1 : (Cond.code objectInit ⟨#[0xb1]⟩ 1 none) ∈ w_ini := List.mem_append_left _ (List.mem_of_getElem? (i := 1) rfl)
set_option maxRecDepth 20000 in
theorem im_2 : (Cond.code y_C_init b_C_init 1 none) ∈ w_ini := List.mem_append_left _ (List.mem_of_getElem? (i := 2) rfl)
set_option maxRecDepth 20000 in
theorem im_3 : (Cond.methodLink R_C 3 objectInit) ∈ w_ini := List.mem_append_left _ (List.mem_of_getElem? (i := 3) rfl)
set_option maxRecDepth 20000 in
theorem im_4 : (Cond.arrayClass .int) ∈ w_ini := List.mem_append_left _ (List.mem_of_getElem? (i := 4) rfl)
set_option maxRecDepth 20000 in
theorem im_5 : (Cond.fieldLink R_C 9 "SpareTagFlash$Chip" "tagsOf" "[I") ∈ w_ini := List.mem_append_left _ (List.mem_of_getElem? (i := 5) rfl)
set_option maxRecDepth 20000 in
theorem im_6 : (Cond.fieldLink R_C 15 "SpareTagFlash$Chip" "words" "[I") ∈ w_ini := List.mem_append_left _ (List.mem_of_getElem? (i := 6) rfl)
set_option maxRecDepth 20000 in
theorem im_7 : (Cond.arrayClass .long) ∈ w_ini := List.mem_append_left _ (List.mem_of_getElem? (i := 7) rfl)
set_option maxRecDepth 20000 in
theorem im_8 : (Cond.fieldLink R_C 18 "SpareTagFlash$Chip" "turnedBits" "[J") ∈ w_ini := List.mem_append_left _ (List.mem_of_getElem? (i := 8) rfl)
set_option maxRecDepth 20000 in
theorem im_9 : (Cond.fieldLink R_C 22 "SpareTagFlash$Chip" "programmed" "[I") ∈ w_ini := List.mem_append_left _ (List.mem_of_getElem? (i := 9) rfl)
set_option maxRecDepth 20000 in
theorem im_10 : (Cond.fieldLink R_C 25 "SpareTagFlash$Chip" "timesErased" "[I") ∈ w_ini := List.mem_append_left _ (List.mem_of_getElem? (i := 10) rfl)
set_option maxRecDepth 20000 in
theorem im_11 : (Cond.arrayClass .boolean) ∈ w_ini := List.mem_append_left _ (List.mem_of_getElem? (i := 11) rfl)
set_option maxRecDepth 20000 in
theorem im_12 : (Cond.fieldLink R_C 28 "SpareTagFlash$Chip" "worn" "[Z") ∈ w_ini := List.mem_append_left _ (List.mem_of_getElem? (i := 12) rfl)
set_option maxRecDepth 20000 in
theorem im_13 : (Cond.fieldLink R_C 32 "SpareTagFlash$Chip" "bad" "[Z") ∈ w_ini := List.mem_append_left _ (List.mem_of_getElem? (i := 13) rfl)
set_option maxRecDepth 20000 in
theorem im_14 : (Cond.fieldLink R_C 35 "SpareTagFlash$Chip" "touched" "[Z") ∈ w_ini := List.mem_append_left _ (List.mem_of_getElem? (i := 14) rfl)
set_option maxRecDepth 20000 in
theorem im_15 : (Cond.fieldLink R_C 38 "SpareTagFlash$Chip" "regionValid" "Z") ∈ w_ini := List.mem_append_left _ (List.mem_of_getElem? (i := 15) rfl)
set_option maxRecDepth 20000 in
theorem im_16 : (Cond.fieldLink R_C 42 "SpareTagFlash$Chip" "stepsDone" "I") ∈ w_ini := List.mem_append_left _ (List.mem_of_getElem? (i := 16) rfl)
set_option maxRecDepth 20000 in
theorem im_17 : (Cond.fieldLink R_C 46 "SpareTagFlash$Chip" "stepsLeft" "I") ∈ w_ini := List.mem_append_left _ (List.mem_of_getElem? (i := 17) rfl)
set_option maxRecDepth 20000 in
theorem im_18 : (Cond.methodLink R_M 1 objectInit) ∈ w_ini := List.mem_append_left _ (List.mem_of_getElem? (i := 18) rfl)
set_option maxRecDepth 20000 in
theorem im_19 : (Cond.fieldLink R_M 7 "SpareTagFlashModel" "state" "[I") ∈ w_ini := List.mem_append_left _ (List.mem_of_getElem? (i := 19) rfl)
set_option maxRecDepth 20000 in
theorem im_20 : (Cond.fieldLink R_M 13 "SpareTagFlashModel" "object" "[I") ∈ w_ini := List.mem_append_left _ (List.mem_of_getElem? (i := 20) rfl)
set_option maxRecDepth 20000 in
theorem im_21 : (Cond.fieldLink R_M 16 "SpareTagFlashModel" "chunk" "[I") ∈ w_ini := List.mem_append_left _ (List.mem_of_getElem? (i := 21) rfl)
set_option maxRecDepth 20000 in
theorem im_22 : (Cond.fieldLink R_M 19 "SpareTagFlashModel" "serial" "[I") ∈ w_ini := List.mem_append_left _ (List.mem_of_getElem? (i := 22) rfl)
set_option maxRecDepth 20000 in
theorem im_23 : (Cond.fieldLink R_M 22 "SpareTagFlashModel" "word" "[I") ∈ w_ini := List.mem_append_left _ (List.mem_of_getElem? (i := 23) rfl)
set_option maxRecDepth 20000 in
theorem im_24 : (Cond.fieldLink R_M 25 "SpareTagFlashModel" "parent" "[I") ∈ w_ini := List.mem_append_left _ (List.mem_of_getElem? (i := 24) rfl)
set_option maxRecDepth 20000 in
theorem im_25 : (Cond.fieldLink R_M 28 "SpareTagFlashModel" "length" "[I") ∈ w_ini := List.mem_append_left _ (List.mem_of_getElem? (i := 25) rfl)
set_option maxRecDepth 20000 in
theorem im_26 : (Cond.fieldLink R_M 31 "SpareTagFlashModel" "folder" "[Z") ∈ w_ini := List.mem_append_left _ (List.mem_of_getElem? (i := 26) rfl)
set_option maxRecDepth 20000 in
theorem im_27 : (Cond.fieldLink R_M 35 "SpareTagFlashModel" "first" "[I") ∈ w_ini := List.mem_append_left _ (List.mem_of_getElem? (i := 27) rfl)
set_option maxRecDepth 20000 in
theorem im_28 : (Cond.fieldLink R_M 38 "SpareTagFlashModel" "second" "[I") ∈ w_ini := List.mem_append_left _ (List.mem_of_getElem? (i := 28) rfl)
set_option maxRecDepth 20000 in
theorem im_29 : (Cond.fieldLink R_M 41 "SpareTagFlashModel" "stale" "[Z") ∈ w_ini := List.mem_append_left _ (List.mem_of_getElem? (i := 29) rfl)
set_option maxRecDepth 20000 in
theorem im_30 : (Cond.fieldLink R_M 44 "SpareTagFlashModel" "bad" "[Z") ∈ w_ini := List.mem_append_left _ (List.mem_of_getElem? (i := 30) rfl)
set_option maxRecDepth 20000 in
theorem im_31 : (Cond.fieldLink R_M 47 "SpareTagFlashModel" "worn" "[Z") ∈ w_ini := List.mem_append_left _ (List.mem_of_getElem? (i := 31) rfl)
set_option maxRecDepth 20000 in
theorem im_32 : (Cond.fieldLink R_M 50 "SpareTagFlashModel" "touched" "[Z") ∈ w_ini := List.mem_append_left _ (List.mem_of_getElem? (i := 32) rfl)
set_option maxRecDepth 20000 in
theorem im_33 : (Cond.fieldLink R_M 53 "SpareTagFlashModel" "erased" "[I") ∈ w_ini := List.mem_append_left _ (List.mem_of_getElem? (i := 33) rfl)
set_option maxRecDepth 20000 in
theorem im_34 : (Cond.fieldLink R_M 56 "SpareTagFlashModel" "on" "Z") ∈ w_ini := List.mem_append_left _ (List.mem_of_getElem? (i := 34) rfl)
set_option maxRecDepth 20000 in
theorem im_35 : (Cond.fieldLink R_M 60 "SpareTagFlashModel" "left" "I") ∈ w_ini := List.mem_append_left _ (List.mem_of_getElem? (i := 35) rfl)
set_option maxRecDepth 20000 in
theorem im_36 : (Cond.methodLink R_S 3 objectInit) ∈ w_ini := List.mem_append_left _ (List.mem_of_getElem? (i := 36) rfl)
set_option maxRecDepth 20000 in
theorem im_37 : (Cond.classLink R_S 9 R_C) ∈ w_ini := List.mem_append_left _ (List.mem_of_getElem? (i := 37) rfl)
set_option maxRecDepth 20000 in
theorem im_38 : (Cond.instantiable R_C 11) ∈ w_ini := List.mem_append_left _ (List.mem_of_getElem? (i := 38) rfl)
set_option maxRecDepth 20000 in
theorem im_39 : (Cond.initialized R_C) ∈ w_ini := List.mem_append_left _ (List.mem_of_getElem? (i := 39) rfl)
set_option maxRecDepth 20000 in
theorem im_40 : (Cond.instanceMethod y_C_init) ∈ w_ini := List.mem_append_left _ (List.mem_of_getElem? (i := 40) rfl)
set_option maxRecDepth 20000 in
theorem im_41 : (Cond.fieldLink R_S 12 "SpareTagFlash" "chip" "LSpareTagFlash$Chip;") ∈ w_ini := List.mem_append_left _ (List.mem_of_getElem? (i := 41) rfl)
set_option maxRecDepth 20000 in
theorem im_42 : (Cond.fieldLink R_S 16 "SpareTagFlash" "stale" "[Z") ∈ w_ini := List.mem_append_left _ (List.mem_of_getElem? (i := 42) rfl)
set_option maxRecDepth 20000 in
theorem im_43 : (Cond.fieldLink R_S 20 "SpareTagFlash" "on" "Z") ∈ w_ini := List.mem_append_left _ (List.mem_of_getElem? (i := 43) rfl)
theorem ui_S : ∀ w ∈ u_ws R_S F_S 3, w ∈ w_ini := fun w hw => List.mem_append_right _ (List.mem_append_left _ hw)
theorem ui_C : ∀ w ∈ u_ws R_C F_C 11, w ∈ w_ini := fun w hw => List.mem_append_right _ (List.mem_append_right _ (List.mem_append_left _ hw))
theorem ui_M : ∀ w ∈ u_ws R_M F_M 27, w ∈ w_ini := fun w hw => List.mem_append_right _ (List.mem_append_right _ (List.mem_append_right _ hw))
theorem i_good : ∀ w ∈ w_ini, (w.onTables && w.keeps) = true ∨ ∃ ty, w = .arrayClass ty := by
  intro w hw
  have h : w_ini.all goodWord = true := by decide +kernel
  exact good_of_word (List.all_eq_true.mp h w hw)
theorem gi_C : GoodIn w_ini (Cond.code y_C_init b_C_init 1 none :: w_ini) := by
  intro w hw
  rcases List.mem_cons.mp hw with h | h
  · subst h; exact ⟨im_2, i_good _ im_2⟩
  · exact ⟨h, i_good _ h⟩
set_option maxRecDepth 100000 in
set_option maxHeartbeats 4000000 in
theorem c_C_init (l : Launch) (D : va_G) (h0 sz : Nat) : Met l y_C_init (Cond.code y_C_init b_C_init 1 none :: w_ini) { frames := 1, cells := 8, slots := 174, locals := 12 } (va_Pc [.ref h0] (fun U => U.heap.size = sz ∧ va_P D classes [(h0, .inr (1, [.null, .null, .null, .null, .null, .null, .null, .null, .int 0, .int 0, .int 0]))] U.heap ∧ va_K D classes [] U ∧ va_D (fun _ => True) [(h0, .inr (1, [.null, .null, .null, .null, .null, .null, .null, .null, .int 0, .int 0, .int 0]))])) (va_Qv (fun u : (Nat → ClassId) × (Nat → Nat) => u.2 1 = h0) (fun u t => va_P D classes (kC u.1 u.2) t.heap ∧ va_K D classes (kyC u.1) t ∧ va_D (va_A [(h0, .inr (1, [.null, .null, .null, .null, .null, .null, .null, .null, .int 0, .int 0, .int 0]))] sz) (kC u.1 u.2)) (va_A [(h0, .inr (1, [.null, .null, .null, .null, .null, .null, .null, .null, .int 0, .int 0, .int 0]))] sz)) 8 174 (va_A [(h0, .inr (1, [.null, .null, .null, .null, .null, .null, .null, .null, .int 0, .int 0, .int 0]))] sz) := by
  refine Met.ofW (cc := b_C_init) (maxL := 1) (ret := none) (by decide) rfl ?_
  intro p e s m args below meth c s₁ B hml hv
  obtain ⟨rfl, hsz, hP, hK, hD0⟩ := hv
  have hx := B.exec
  have hb := B.bytes
  have hr := B.returns
  have hts0 := atoms_spec (ws := Cond.code y_C_init b_C_init 1 none :: w_ini) B.pre
  have hts : ∀ w ∈ w_ini, w.before #[Value.ref h0] s = true := fun w hw => hts0 w (List.mem_cons_of_mem _ hw)
  have hown : s.vm.findClass R_C = some m.cls := findClass_of_methodNamed B.named
  have hlocks := B.notSynchronized
  have hin : meth.name = "<init>" := (name_of_methodNamed B.named B.method).1
  subst hsz
  have hD := hD0.self (sz := s.heap.size)
  generalize hAe : va_A [(h0, .inr (1, [.null, .null, .null, .null, .null, .null, .null, .null, .int 0, .int 0, .int 0]))] s.heap.size = A at hD ⊢
  have hA : ∀ q : Nat, s.heap.size ≤ q → A q := fun q h => by rw [← hAe]; exact Or.inr h
  have hS : va_S A s.heap s.heap [] := va_S.rf
  have hP : va_P D classes [(h0, .inr (1, [.null, .null, .null, .null, .null, .null, .null, .null, .int 0, .int 0, .int 0]))] s.heap := hP
  have hl := lv_entry ([.ref h0]) (n := 1) (Nat.le_of_ble_eq_true rfl)
  rw [lg_entry_eq]
  generalize (lg_sl ([.ref h0]) ++ List.replicate (1 - (lg_sl ([.ref h0])).length) Slot.unset).toArray = ls at hl ⊢
  have hl : lv_has ls 1 [(0, .ref h0)] := hl
  refine lv_aload_n hx hb d_C_init_0 rfl (lv_at hl 0 rfl) ?_
  refine W.objInit hx hb hown (hts _ im_3) (hts _ im_0) (hts _ im_1) rfl (by rw [hml]; exact hl.1) rfl d_C_init_1 (Nat.le_of_ble_eq_true rfl) (Nat.le_of_ble_eq_true rfl) ?_
  refine W.eq (g2 := F0 m 4 ls []) rfl ?_
  refine lv_aload_n hx hb d_C_init_4 rfl (lv_at hl 0 rfl) ?_
  refine lv_bipush (v := (48 : Int32)) hx hb d_C_init_5 (by decide) ?_
  refine va_newa (D := D) (atype := .int) (ty := .int) (N' := 48) (a0 := (48, .inl (fun _ => 0))) hx hb (hts _ im_4) rfl hK hP hD hS hA (fun _ => rfl) (by decide) (by decide) (by decide) (show 1 ≤ 8 by decide) (show 48 ≤ 174 by decide) d_C_init_7 (fun q7 g7 H hK hP hD hS => ?_)
  have hP : va_P D classes [(h0, .inr (1, [.null, .null, .null, .null, .null, .null, .null, .null, .int 0, .int 0, .int 0])), (q7, .inl (g7, 48, .inl (fun _ => 0)))] H := hP
  have hD : va_D A [(h0, .inr (1, [.null, .null, .null, .null, .null, .null, .null, .null, .int 0, .int 0, .int 0])), (q7, .inl (g7, 48, .inl (fun _ => 0)))] := hD
  have hK : va_K D classes [(g7, .int)] s := hK
  refine W.widen (k := 1) (n := 48) (by omega) (by omega) ?_
  refine va_putF (D := D) (ci := 1) (v := .ref q7) (ty := .array .int) (C := R_C) (T := F_C) (N := 11) hx hb hts ui_C t_C t_C_ok n_C hown hK hP hD hS 0 rfl rfl 0 (by decide) (hts _ im_5) (fun _ h9 => h9) rfl hin rfl (by decide +kernel) rfl rfl (Nat.le_of_ble_eq_true rfl) d_C_init_9 (fun H locs hP hD hS => ?_)
  have hP : va_P D classes [(h0, .inr (1, [.ref q7, .null, .null, .null, .null, .null, .null, .null, .int 0, .int 0, .int 0])), (q7, .inl (g7, 48, .inl (fun _ => 0)))] H := hP
  have hD : va_D A [(h0, .inr (1, [.ref q7, .null, .null, .null, .null, .null, .null, .null, .int 0, .int 0, .int 0])), (q7, .inl (g7, 48, .inl (fun _ => 0)))] := hD
  refine lv_aload_n hx hb d_C_init_12 rfl (lv_at hl 0 rfl) ?_
  refine lv_bipush (v := (48 : Int32)) hx hb d_C_init_13 (by decide) ?_
  refine va_newa (D := D) (atype := .int) (ty := .int) (N' := 48) (a0 := (48, .inl (fun _ => 0))) hx hb (hts _ im_4) rfl hK hP hD hS hA (fun _ => rfl) (by decide) (by decide) (by decide) (show 2 ≤ 8 by decide) (show 96 ≤ 174 by decide) d_C_init_15 (fun q15 g15 H hK hP hD hS => ?_)
  have hP : va_P D classes [(h0, .inr (1, [.ref q7, .null, .null, .null, .null, .null, .null, .null, .int 0, .int 0, .int 0])), (q7, .inl (g7, 48, .inl (fun _ => 0))), (q15, .inl (g15, 48, .inl (fun _ => 0)))] H := hP
  have hD : va_D A [(h0, .inr (1, [.ref q7, .null, .null, .null, .null, .null, .null, .null, .int 0, .int 0, .int 0])), (q7, .inl (g7, 48, .inl (fun _ => 0))), (q15, .inl (g15, 48, .inl (fun _ => 0)))] := hD
  have hK : va_K D classes [(g7, .int), (g15, .int)] s := hK
  refine W.widen (k := 2) (n := 96) (by omega) (by omega) ?_
  refine va_putF (D := D) (ci := 1) (v := .ref q15) (ty := .array .int) (C := R_C) (T := F_C) (N := 11) hx hb hts ui_C t_C t_C_ok n_C hown hK hP hD hS 0 rfl rfl 1 (by decide) (hts _ im_6) (fun _ h9 => h9) rfl hin rfl (by decide +kernel) rfl rfl (Nat.le_of_ble_eq_true rfl) d_C_init_17 (fun H locs hP hD hS => ?_)
  have hP : va_P D classes [(h0, .inr (1, [.ref q7, .ref q15, .null, .null, .null, .null, .null, .null, .int 0, .int 0, .int 0])), (q7, .inl (g7, 48, .inl (fun _ => 0))), (q15, .inl (g15, 48, .inl (fun _ => 0)))] H := hP
  have hD : va_D A [(h0, .inr (1, [.ref q7, .ref q15, .null, .null, .null, .null, .null, .null, .int 0, .int 0, .int 0])), (q7, .inl (g7, 48, .inl (fun _ => 0))), (q15, .inl (g15, 48, .inl (fun _ => 0)))] := hD
  refine lv_aload_n hx hb d_C_init_20 rfl (lv_at hl 0 rfl) ?_
  refine lv_bipush (v := (48 : Int32)) hx hb d_C_init_21 (by decide) ?_
  refine va_newa (D := D) (atype := .long) (ty := .long) (N' := 48) (a0 := (48, .inr (.inl (fun _ => 0)))) hx hb (hts _ im_7) rfl hK hP hD hS hA (fun _ => rfl) (by decide) (by decide) (by decide) (show 3 ≤ 8 by decide) (show 144 ≤ 174 by decide) d_C_init_23 (fun q23 g23 H hK hP hD hS => ?_)
  have hP : va_P D classes [(h0, .inr (1, [.ref q7, .ref q15, .null, .null, .null, .null, .null, .null, .int 0, .int 0, .int 0])), (q7, .inl (g7, 48, .inl (fun _ => 0))), (q15, .inl (g15, 48, .inl (fun _ => 0))), (q23, .inl (g23, 48, .inr (.inl (fun _ => 0))))] H := hP
  have hD : va_D A [(h0, .inr (1, [.ref q7, .ref q15, .null, .null, .null, .null, .null, .null, .int 0, .int 0, .int 0])), (q7, .inl (g7, 48, .inl (fun _ => 0))), (q15, .inl (g15, 48, .inl (fun _ => 0))), (q23, .inl (g23, 48, .inr (.inl (fun _ => 0))))] := hD
  have hK : va_K D classes [(g7, .int), (g15, .int), (g23, .long)] s := hK
  refine W.widen (k := 3) (n := 144) (by omega) (by omega) ?_
  refine va_putF (D := D) (ci := 1) (v := .ref q23) (ty := .array .long) (C := R_C) (T := F_C) (N := 11) hx hb hts ui_C t_C t_C_ok n_C hown hK hP hD hS 0 rfl rfl 2 (by decide) (hts _ im_8) (fun _ h9 => h9) rfl hin rfl (by decide +kernel) rfl rfl (Nat.le_of_ble_eq_true rfl) d_C_init_25 (fun H locs hP hD hS => ?_)
  have hP : va_P D classes [(h0, .inr (1, [.ref q7, .ref q15, .ref q23, .null, .null, .null, .null, .null, .int 0, .int 0, .int 0])), (q7, .inl (g7, 48, .inl (fun _ => 0))), (q15, .inl (g15, 48, .inl (fun _ => 0))), (q23, .inl (g23, 48, .inr (.inl (fun _ => 0))))] H := hP
  have hD : va_D A [(h0, .inr (1, [.ref q7, .ref q15, .ref q23, .null, .null, .null, .null, .null, .int 0, .int 0, .int 0])), (q7, .inl (g7, 48, .inl (fun _ => 0))), (q15, .inl (g15, 48, .inl (fun _ => 0))), (q23, .inl (g23, 48, .inr (.inl (fun _ => 0))))] := hD
  refine lv_aload_n hx hb d_C_init_28 rfl (lv_at hl 0 rfl) ?_
  refine lv_bipush (v := (6 : Int32)) hx hb d_C_init_29 (by decide) ?_
  refine va_newa (D := D) (atype := .int) (ty := .int) (N' := 6) (a0 := (6, .inl (fun _ => 0))) hx hb (hts _ im_4) rfl hK hP hD hS hA (fun _ => rfl) (by decide) (by decide) (by decide) (show 4 ≤ 8 by decide) (show 150 ≤ 174 by decide) d_C_init_31 (fun q31 g31 H hK hP hD hS => ?_)
  have hP : va_P D classes [(h0, .inr (1, [.ref q7, .ref q15, .ref q23, .null, .null, .null, .null, .null, .int 0, .int 0, .int 0])), (q7, .inl (g7, 48, .inl (fun _ => 0))), (q15, .inl (g15, 48, .inl (fun _ => 0))), (q23, .inl (g23, 48, .inr (.inl (fun _ => 0)))), (q31, .inl (g31, 6, .inl (fun _ => 0)))] H := hP
  have hD : va_D A [(h0, .inr (1, [.ref q7, .ref q15, .ref q23, .null, .null, .null, .null, .null, .int 0, .int 0, .int 0])), (q7, .inl (g7, 48, .inl (fun _ => 0))), (q15, .inl (g15, 48, .inl (fun _ => 0))), (q23, .inl (g23, 48, .inr (.inl (fun _ => 0)))), (q31, .inl (g31, 6, .inl (fun _ => 0)))] := hD
  have hK : va_K D classes [(g7, .int), (g15, .int), (g23, .long), (g31, .int)] s := hK
  refine W.widen (k := 4) (n := 150) (by omega) (by omega) ?_
  refine va_putF (D := D) (ci := 1) (v := .ref q31) (ty := .array .int) (C := R_C) (T := F_C) (N := 11) hx hb hts ui_C t_C t_C_ok n_C hown hK hP hD hS 0 rfl rfl 3 (by decide) (hts _ im_9) (fun _ h9 => h9) rfl hin rfl (by decide +kernel) rfl rfl (Nat.le_of_ble_eq_true rfl) d_C_init_33 (fun H locs hP hD hS => ?_)
  have hP : va_P D classes [(h0, .inr (1, [.ref q7, .ref q15, .ref q23, .ref q31, .null, .null, .null, .null, .int 0, .int 0, .int 0])), (q7, .inl (g7, 48, .inl (fun _ => 0))), (q15, .inl (g15, 48, .inl (fun _ => 0))), (q23, .inl (g23, 48, .inr (.inl (fun _ => 0)))), (q31, .inl (g31, 6, .inl (fun _ => 0)))] H := hP
  have hD : va_D A [(h0, .inr (1, [.ref q7, .ref q15, .ref q23, .ref q31, .null, .null, .null, .null, .int 0, .int 0, .int 0])), (q7, .inl (g7, 48, .inl (fun _ => 0))), (q15, .inl (g15, 48, .inl (fun _ => 0))), (q23, .inl (g23, 48, .inr (.inl (fun _ => 0)))), (q31, .inl (g31, 6, .inl (fun _ => 0)))] := hD
  refine lv_aload_n hx hb d_C_init_36 rfl (lv_at hl 0 rfl) ?_
  refine lv_bipush (v := (6 : Int32)) hx hb d_C_init_37 (by decide) ?_
  refine va_newa (D := D) (atype := .int) (ty := .int) (N' := 6) (a0 := (6, .inl (fun _ => 0))) hx hb (hts _ im_4) rfl hK hP hD hS hA (fun _ => rfl) (by decide) (by decide) (by decide) (show 5 ≤ 8 by decide) (show 156 ≤ 174 by decide) d_C_init_39 (fun q39 g39 H hK hP hD hS => ?_)
  have hP : va_P D classes [(h0, .inr (1, [.ref q7, .ref q15, .ref q23, .ref q31, .null, .null, .null, .null, .int 0, .int 0, .int 0])), (q7, .inl (g7, 48, .inl (fun _ => 0))), (q15, .inl (g15, 48, .inl (fun _ => 0))), (q23, .inl (g23, 48, .inr (.inl (fun _ => 0)))), (q31, .inl (g31, 6, .inl (fun _ => 0))), (q39, .inl (g39, 6, .inl (fun _ => 0)))] H := hP
  have hD : va_D A [(h0, .inr (1, [.ref q7, .ref q15, .ref q23, .ref q31, .null, .null, .null, .null, .int 0, .int 0, .int 0])), (q7, .inl (g7, 48, .inl (fun _ => 0))), (q15, .inl (g15, 48, .inl (fun _ => 0))), (q23, .inl (g23, 48, .inr (.inl (fun _ => 0)))), (q31, .inl (g31, 6, .inl (fun _ => 0))), (q39, .inl (g39, 6, .inl (fun _ => 0)))] := hD
  have hK : va_K D classes [(g7, .int), (g15, .int), (g23, .long), (g31, .int), (g39, .int)] s := hK
  refine W.widen (k := 5) (n := 156) (by omega) (by omega) ?_
  refine va_putF (D := D) (ci := 1) (v := .ref q39) (ty := .array .int) (C := R_C) (T := F_C) (N := 11) hx hb hts ui_C t_C t_C_ok n_C hown hK hP hD hS 0 rfl rfl 4 (by decide) (hts _ im_10) (fun _ h9 => h9) rfl hin rfl (by decide +kernel) rfl rfl (Nat.le_of_ble_eq_true rfl) d_C_init_41 (fun H locs hP hD hS => ?_)
  have hP : va_P D classes [(h0, .inr (1, [.ref q7, .ref q15, .ref q23, .ref q31, .ref q39, .null, .null, .null, .int 0, .int 0, .int 0])), (q7, .inl (g7, 48, .inl (fun _ => 0))), (q15, .inl (g15, 48, .inl (fun _ => 0))), (q23, .inl (g23, 48, .inr (.inl (fun _ => 0)))), (q31, .inl (g31, 6, .inl (fun _ => 0))), (q39, .inl (g39, 6, .inl (fun _ => 0)))] H := hP
  have hD : va_D A [(h0, .inr (1, [.ref q7, .ref q15, .ref q23, .ref q31, .ref q39, .null, .null, .null, .int 0, .int 0, .int 0])), (q7, .inl (g7, 48, .inl (fun _ => 0))), (q15, .inl (g15, 48, .inl (fun _ => 0))), (q23, .inl (g23, 48, .inr (.inl (fun _ => 0)))), (q31, .inl (g31, 6, .inl (fun _ => 0))), (q39, .inl (g39, 6, .inl (fun _ => 0)))] := hD
  refine lv_aload_n hx hb d_C_init_44 rfl (lv_at hl 0 rfl) ?_
  refine lv_bipush (v := (6 : Int32)) hx hb d_C_init_45 (by decide) ?_
  refine va_newa (D := D) (atype := .boolean) (ty := .boolean) (N' := 6) (a0 := (6, .inl (fun _ => 0))) hx hb (hts _ im_11) rfl hK hP hD hS hA (fun _ => rfl) (by decide) (by decide) (by decide) (show 6 ≤ 8 by decide) (show 162 ≤ 174 by decide) d_C_init_47 (fun q47 g47 H hK hP hD hS => ?_)
  have hP : va_P D classes [(h0, .inr (1, [.ref q7, .ref q15, .ref q23, .ref q31, .ref q39, .null, .null, .null, .int 0, .int 0, .int 0])), (q7, .inl (g7, 48, .inl (fun _ => 0))), (q15, .inl (g15, 48, .inl (fun _ => 0))), (q23, .inl (g23, 48, .inr (.inl (fun _ => 0)))), (q31, .inl (g31, 6, .inl (fun _ => 0))), (q39, .inl (g39, 6, .inl (fun _ => 0))), (q47, .inl (g47, 6, .inl (fun _ => 0)))] H := hP
  have hD : va_D A [(h0, .inr (1, [.ref q7, .ref q15, .ref q23, .ref q31, .ref q39, .null, .null, .null, .int 0, .int 0, .int 0])), (q7, .inl (g7, 48, .inl (fun _ => 0))), (q15, .inl (g15, 48, .inl (fun _ => 0))), (q23, .inl (g23, 48, .inr (.inl (fun _ => 0)))), (q31, .inl (g31, 6, .inl (fun _ => 0))), (q39, .inl (g39, 6, .inl (fun _ => 0))), (q47, .inl (g47, 6, .inl (fun _ => 0)))] := hD
  have hK : va_K D classes [(g7, .int), (g15, .int), (g23, .long), (g31, .int), (g39, .int), (g47, .boolean)] s := hK
  refine W.widen (k := 6) (n := 162) (by omega) (by omega) ?_
  refine va_putF (D := D) (ci := 1) (v := .ref q47) (ty := .array .boolean) (C := R_C) (T := F_C) (N := 11) hx hb hts ui_C t_C t_C_ok n_C hown hK hP hD hS 0 rfl rfl 5 (by decide) (hts _ im_12) (fun _ h9 => h9) rfl hin rfl (by decide +kernel) rfl rfl (Nat.le_of_ble_eq_true rfl) d_C_init_49 (fun H locs hP hD hS => ?_)
  have hP : va_P D classes [(h0, .inr (1, [.ref q7, .ref q15, .ref q23, .ref q31, .ref q39, .ref q47, .null, .null, .int 0, .int 0, .int 0])), (q7, .inl (g7, 48, .inl (fun _ => 0))), (q15, .inl (g15, 48, .inl (fun _ => 0))), (q23, .inl (g23, 48, .inr (.inl (fun _ => 0)))), (q31, .inl (g31, 6, .inl (fun _ => 0))), (q39, .inl (g39, 6, .inl (fun _ => 0))), (q47, .inl (g47, 6, .inl (fun _ => 0)))] H := hP
  have hD : va_D A [(h0, .inr (1, [.ref q7, .ref q15, .ref q23, .ref q31, .ref q39, .ref q47, .null, .null, .int 0, .int 0, .int 0])), (q7, .inl (g7, 48, .inl (fun _ => 0))), (q15, .inl (g15, 48, .inl (fun _ => 0))), (q23, .inl (g23, 48, .inr (.inl (fun _ => 0)))), (q31, .inl (g31, 6, .inl (fun _ => 0))), (q39, .inl (g39, 6, .inl (fun _ => 0))), (q47, .inl (g47, 6, .inl (fun _ => 0)))] := hD
  refine lv_aload_n hx hb d_C_init_52 rfl (lv_at hl 0 rfl) ?_
  refine lv_bipush (v := (6 : Int32)) hx hb d_C_init_53 (by decide) ?_
  refine va_newa (D := D) (atype := .boolean) (ty := .boolean) (N' := 6) (a0 := (6, .inl (fun _ => 0))) hx hb (hts _ im_11) rfl hK hP hD hS hA (fun _ => rfl) (by decide) (by decide) (by decide) (show 7 ≤ 8 by decide) (show 168 ≤ 174 by decide) d_C_init_55 (fun q55 g55 H hK hP hD hS => ?_)
  have hP : va_P D classes [(h0, .inr (1, [.ref q7, .ref q15, .ref q23, .ref q31, .ref q39, .ref q47, .null, .null, .int 0, .int 0, .int 0])), (q7, .inl (g7, 48, .inl (fun _ => 0))), (q15, .inl (g15, 48, .inl (fun _ => 0))), (q23, .inl (g23, 48, .inr (.inl (fun _ => 0)))), (q31, .inl (g31, 6, .inl (fun _ => 0))), (q39, .inl (g39, 6, .inl (fun _ => 0))), (q47, .inl (g47, 6, .inl (fun _ => 0))), (q55, .inl (g55, 6, .inl (fun _ => 0)))] H := hP
  have hD : va_D A [(h0, .inr (1, [.ref q7, .ref q15, .ref q23, .ref q31, .ref q39, .ref q47, .null, .null, .int 0, .int 0, .int 0])), (q7, .inl (g7, 48, .inl (fun _ => 0))), (q15, .inl (g15, 48, .inl (fun _ => 0))), (q23, .inl (g23, 48, .inr (.inl (fun _ => 0)))), (q31, .inl (g31, 6, .inl (fun _ => 0))), (q39, .inl (g39, 6, .inl (fun _ => 0))), (q47, .inl (g47, 6, .inl (fun _ => 0))), (q55, .inl (g55, 6, .inl (fun _ => 0)))] := hD
  have hK : va_K D classes [(g7, .int), (g15, .int), (g23, .long), (g31, .int), (g39, .int), (g47, .boolean), (g55, .boolean)] s := hK
  refine W.widen (k := 7) (n := 168) (by omega) (by omega) ?_
  refine va_putF (D := D) (ci := 1) (v := .ref q55) (ty := .array .boolean) (C := R_C) (T := F_C) (N := 11) hx hb hts ui_C t_C t_C_ok n_C hown hK hP hD hS 0 rfl rfl 6 (by decide) (hts _ im_13) (fun _ h9 => h9) rfl hin rfl (by decide +kernel) rfl rfl (Nat.le_of_ble_eq_true rfl) d_C_init_57 (fun H locs hP hD hS => ?_)
  have hP : va_P D classes [(h0, .inr (1, [.ref q7, .ref q15, .ref q23, .ref q31, .ref q39, .ref q47, .ref q55, .null, .int 0, .int 0, .int 0])), (q7, .inl (g7, 48, .inl (fun _ => 0))), (q15, .inl (g15, 48, .inl (fun _ => 0))), (q23, .inl (g23, 48, .inr (.inl (fun _ => 0)))), (q31, .inl (g31, 6, .inl (fun _ => 0))), (q39, .inl (g39, 6, .inl (fun _ => 0))), (q47, .inl (g47, 6, .inl (fun _ => 0))), (q55, .inl (g55, 6, .inl (fun _ => 0)))] H := hP
  have hD : va_D A [(h0, .inr (1, [.ref q7, .ref q15, .ref q23, .ref q31, .ref q39, .ref q47, .ref q55, .null, .int 0, .int 0, .int 0])), (q7, .inl (g7, 48, .inl (fun _ => 0))), (q15, .inl (g15, 48, .inl (fun _ => 0))), (q23, .inl (g23, 48, .inr (.inl (fun _ => 0)))), (q31, .inl (g31, 6, .inl (fun _ => 0))), (q39, .inl (g39, 6, .inl (fun _ => 0))), (q47, .inl (g47, 6, .inl (fun _ => 0))), (q55, .inl (g55, 6, .inl (fun _ => 0)))] := hD
  refine lv_aload_n hx hb d_C_init_60 rfl (lv_at hl 0 rfl) ?_
  refine lv_bipush (v := (6 : Int32)) hx hb d_C_init_61 (by decide) ?_
  refine va_newa (D := D) (atype := .boolean) (ty := .boolean) (N' := 6) (a0 := (6, .inl (fun _ => 0))) hx hb (hts _ im_11) rfl hK hP hD hS hA (fun _ => rfl) (by decide) (by decide) (by decide) (show 8 ≤ 8 by decide) (show 174 ≤ 174 by decide) d_C_init_63 (fun q63 g63 H hK hP hD hS => ?_)
  have hP : va_P D classes [(h0, .inr (1, [.ref q7, .ref q15, .ref q23, .ref q31, .ref q39, .ref q47, .ref q55, .null, .int 0, .int 0, .int 0])), (q7, .inl (g7, 48, .inl (fun _ => 0))), (q15, .inl (g15, 48, .inl (fun _ => 0))), (q23, .inl (g23, 48, .inr (.inl (fun _ => 0)))), (q31, .inl (g31, 6, .inl (fun _ => 0))), (q39, .inl (g39, 6, .inl (fun _ => 0))), (q47, .inl (g47, 6, .inl (fun _ => 0))), (q55, .inl (g55, 6, .inl (fun _ => 0))), (q63, .inl (g63, 6, .inl (fun _ => 0)))] H := hP
  have hD : va_D A [(h0, .inr (1, [.ref q7, .ref q15, .ref q23, .ref q31, .ref q39, .ref q47, .ref q55, .null, .int 0, .int 0, .int 0])), (q7, .inl (g7, 48, .inl (fun _ => 0))), (q15, .inl (g15, 48, .inl (fun _ => 0))), (q23, .inl (g23, 48, .inr (.inl (fun _ => 0)))), (q31, .inl (g31, 6, .inl (fun _ => 0))), (q39, .inl (g39, 6, .inl (fun _ => 0))), (q47, .inl (g47, 6, .inl (fun _ => 0))), (q55, .inl (g55, 6, .inl (fun _ => 0))), (q63, .inl (g63, 6, .inl (fun _ => 0)))] := hD
  have hK : va_K D classes [(g7, .int), (g15, .int), (g23, .long), (g31, .int), (g39, .int), (g47, .boolean), (g55, .boolean), (g63, .boolean)] s := hK
  refine W.widen (k := 8) (n := 174) (by omega) (by omega) ?_
  refine va_putF (D := D) (ci := 1) (v := .ref q63) (ty := .array .boolean) (C := R_C) (T := F_C) (N := 11) hx hb hts ui_C t_C t_C_ok n_C hown hK hP hD hS 0 rfl rfl 7 (by decide) (hts _ im_14) (fun _ h9 => h9) rfl hin rfl (by decide +kernel) rfl rfl (Nat.le_of_ble_eq_true rfl) d_C_init_65 (fun H locs hP hD hS => ?_)
  have hP : va_P D classes [(h0, .inr (1, [.ref q7, .ref q15, .ref q23, .ref q31, .ref q39, .ref q47, .ref q55, .ref q63, .int 0, .int 0, .int 0])), (q7, .inl (g7, 48, .inl (fun _ => 0))), (q15, .inl (g15, 48, .inl (fun _ => 0))), (q23, .inl (g23, 48, .inr (.inl (fun _ => 0)))), (q31, .inl (g31, 6, .inl (fun _ => 0))), (q39, .inl (g39, 6, .inl (fun _ => 0))), (q47, .inl (g47, 6, .inl (fun _ => 0))), (q55, .inl (g55, 6, .inl (fun _ => 0))), (q63, .inl (g63, 6, .inl (fun _ => 0)))] H := hP
  have hD : va_D A [(h0, .inr (1, [.ref q7, .ref q15, .ref q23, .ref q31, .ref q39, .ref q47, .ref q55, .ref q63, .int 0, .int 0, .int 0])), (q7, .inl (g7, 48, .inl (fun _ => 0))), (q15, .inl (g15, 48, .inl (fun _ => 0))), (q23, .inl (g23, 48, .inr (.inl (fun _ => 0)))), (q31, .inl (g31, 6, .inl (fun _ => 0))), (q39, .inl (g39, 6, .inl (fun _ => 0))), (q47, .inl (g47, 6, .inl (fun _ => 0))), (q55, .inl (g55, 6, .inl (fun _ => 0))), (q63, .inl (g63, 6, .inl (fun _ => 0)))] := hD
  refine lv_aload_n hx hb d_C_init_68 rfl (lv_at hl 0 rfl) ?_
  refine lv_iconst (v := (0 : Int32)) hx hb d_C_init_69 (by decide) ?_
  refine va_put (D := D) (ci := 1) (v := .int (0 : Int32)) (ty := .boolean) (C := R_C) (T := F_C) (N := 11) hx hb hts ui_C t_C t_C_ok n_C hown hK hP hD hS 0 rfl rfl 8 (by decide) (hts _ im_15) (fun _ h9 => h9) rfl (by decide +kernel) rfl rfl (Nat.le_of_ble_eq_true rfl) d_C_init_70 (fun H locs hP hD hS => ?_)
  have hP : va_P D classes [(h0, .inr (1, [.ref q7, .ref q15, .ref q23, .ref q31, .ref q39, .ref q47, .ref q55, .ref q63, .int (0 : Int32), .int 0, .int 0])), (q7, .inl (g7, 48, .inl (fun _ => 0))), (q15, .inl (g15, 48, .inl (fun _ => 0))), (q23, .inl (g23, 48, .inr (.inl (fun _ => 0)))), (q31, .inl (g31, 6, .inl (fun _ => 0))), (q39, .inl (g39, 6, .inl (fun _ => 0))), (q47, .inl (g47, 6, .inl (fun _ => 0))), (q55, .inl (g55, 6, .inl (fun _ => 0))), (q63, .inl (g63, 6, .inl (fun _ => 0)))] H := hP
  have hD : va_D A [(h0, .inr (1, [.ref q7, .ref q15, .ref q23, .ref q31, .ref q39, .ref q47, .ref q55, .ref q63, .int (0 : Int32), .int 0, .int 0])), (q7, .inl (g7, 48, .inl (fun _ => 0))), (q15, .inl (g15, 48, .inl (fun _ => 0))), (q23, .inl (g23, 48, .inr (.inl (fun _ => 0)))), (q31, .inl (g31, 6, .inl (fun _ => 0))), (q39, .inl (g39, 6, .inl (fun _ => 0))), (q47, .inl (g47, 6, .inl (fun _ => 0))), (q55, .inl (g55, 6, .inl (fun _ => 0))), (q63, .inl (g63, 6, .inl (fun _ => 0)))] := hD
  refine lv_aload_n hx hb d_C_init_73 rfl (lv_at hl 0 rfl) ?_
  refine lv_iconst (v := (0 : Int32)) hx hb d_C_init_74 (by decide) ?_
  refine va_put (D := D) (ci := 1) (v := .int (0 : Int32)) (ty := .int) (C := R_C) (T := F_C) (N := 11) hx hb hts ui_C t_C t_C_ok n_C hown hK hP hD hS 0 rfl rfl 9 (by decide) (hts _ im_16) (fun _ h9 => h9) rfl (by decide +kernel) rfl rfl (Nat.le_of_ble_eq_true rfl) d_C_init_75 (fun H locs hP hD hS => ?_)
  have hP : va_P D classes [(h0, .inr (1, [.ref q7, .ref q15, .ref q23, .ref q31, .ref q39, .ref q47, .ref q55, .ref q63, .int (0 : Int32), .int (0 : Int32), .int 0])), (q7, .inl (g7, 48, .inl (fun _ => 0))), (q15, .inl (g15, 48, .inl (fun _ => 0))), (q23, .inl (g23, 48, .inr (.inl (fun _ => 0)))), (q31, .inl (g31, 6, .inl (fun _ => 0))), (q39, .inl (g39, 6, .inl (fun _ => 0))), (q47, .inl (g47, 6, .inl (fun _ => 0))), (q55, .inl (g55, 6, .inl (fun _ => 0))), (q63, .inl (g63, 6, .inl (fun _ => 0)))] H := hP
  have hD : va_D A [(h0, .inr (1, [.ref q7, .ref q15, .ref q23, .ref q31, .ref q39, .ref q47, .ref q55, .ref q63, .int (0 : Int32), .int (0 : Int32), .int 0])), (q7, .inl (g7, 48, .inl (fun _ => 0))), (q15, .inl (g15, 48, .inl (fun _ => 0))), (q23, .inl (g23, 48, .inr (.inl (fun _ => 0)))), (q31, .inl (g31, 6, .inl (fun _ => 0))), (q39, .inl (g39, 6, .inl (fun _ => 0))), (q47, .inl (g47, 6, .inl (fun _ => 0))), (q55, .inl (g55, 6, .inl (fun _ => 0))), (q63, .inl (g63, 6, .inl (fun _ => 0)))] := hD
  refine lv_aload_n hx hb d_C_init_78 rfl (lv_at hl 0 rfl) ?_
  refine lv_iconst (v := (-1 : Int32)) hx hb d_C_init_79 (by decide) ?_
  refine va_put (D := D) (ci := 1) (v := .int (-1 : Int32)) (ty := .int) (C := R_C) (T := F_C) (N := 11) hx hb hts ui_C t_C t_C_ok n_C hown hK hP hD hS 0 rfl rfl 10 (by decide) (hts _ im_17) (fun _ h9 => h9) rfl (by decide +kernel) rfl rfl (Nat.le_of_ble_eq_true rfl) d_C_init_80 (fun H locs hP hD hS => ?_)
  have hP : va_P D classes [(h0, .inr (1, [.ref q7, .ref q15, .ref q23, .ref q31, .ref q39, .ref q47, .ref q55, .ref q63, .int (0 : Int32), .int (0 : Int32), .int (-1 : Int32)])), (q7, .inl (g7, 48, .inl (fun _ => 0))), (q15, .inl (g15, 48, .inl (fun _ => 0))), (q23, .inl (g23, 48, .inr (.inl (fun _ => 0)))), (q31, .inl (g31, 6, .inl (fun _ => 0))), (q39, .inl (g39, 6, .inl (fun _ => 0))), (q47, .inl (g47, 6, .inl (fun _ => 0))), (q55, .inl (g55, 6, .inl (fun _ => 0))), (q63, .inl (g63, 6, .inl (fun _ => 0)))] H := hP
  have hD : va_D A [(h0, .inr (1, [.ref q7, .ref q15, .ref q23, .ref q31, .ref q39, .ref q47, .ref q55, .ref q63, .int (0 : Int32), .int (0 : Int32), .int (-1 : Int32)])), (q7, .inl (g7, 48, .inl (fun _ => 0))), (q15, .inl (g15, 48, .inl (fun _ => 0))), (q23, .inl (g23, 48, .inr (.inl (fun _ => 0)))), (q31, .inl (g31, 6, .inl (fun _ => 0))), (q39, .inl (g39, 6, .inl (fun _ => 0))), (q47, .inl (g47, 6, .inl (fun _ => 0))), (q55, .inl (g55, 6, .inl (fun _ => 0))), (q63, .inl (g63, 6, .inl (fun _ => 0)))] := hD
  have hP9 : va_P D classes (kC (fun k => match k with | 2 => g7 | 3 => g15 | 4 => g23 | 5 => g31 | 6 => g39 | 7 => g47 | 8 => g55 | 9 => g63 | _ => 0) (fun k => match k with | 1 => h0 | 2 => q7 | 3 => q15 | 4 => q23 | 5 => q31 | 6 => q39 | 7 => q47 | 8 => q55 | 9 => q63 | _ => 0)) H := hP
  have hD9 : va_D A (kC (fun k => match k with | 2 => g7 | 3 => g15 | 4 => g23 | 5 => g31 | 6 => g39 | 7 => g47 | 8 => g55 | 9 => g63 | _ => 0) (fun k => match k with | 1 => h0 | 2 => q7 | 3 => q15 | 4 => q23 | 5 => q31 | 6 => q39 | 7 => q47 | 8 => q55 | 9 => q63 | _ => 0)) := hD
  have hK9 : va_K D classes (kyC (fun k => match k with | 2 => g7 | 3 => g15 | 4 => g23 | 5 => g31 | 6 => g39 | 7 => g47 | 8 => g55 | 9 => g63 | _ => 0)) s := hK
  exact W.vret hx hb hr (fun t ht hW => ⟨⟨((fun k => match k with | 2 => g7 | 3 => g15 | 4 => g23 | 5 => g31 | 6 => g39 | 7 => g47 | 8 => g55 | 9 => g63 | _ => 0), (fun k => match k with | 1 => h0 | 2 => q7 | 3 => q15 | 4 => q23 | 5 => q31 | 6 => q39 | 7 => q47 | 8 => q55 | 9 => q63 | _ => 0)), rfl, rfl, by rw [ht]; exact hP9, va_K.moved hW.alike hK9, hD9⟩, hS.F ht⟩) hS.2.2 d_C_init_83
set_option maxRecDepth 100000 in
set_option maxHeartbeats 4000000 in
theorem c_M_init (l : Launch) (D : va_G) (h0 sz : Nat) : Met l y_M_init (Cond.code y_M_init b_M_init 1 none :: w_ini) { frames := 1, cells := 15, slots := 552, locals := 12 } (va_Pc [.ref h0] (fun U => U.heap.size = sz ∧ va_P D classes [(h0, .inr (2, [.null, .null, .null, .null, .null, .null, .null, .null, .null, .null, .null, .null, .null, .null, .null, .int 0, .int 0, .int 0, .int 0, .int 0, .int 0, .int 0, .int 0, .int 0, .int 0, .int 0, .int 0]))] U.heap ∧ va_K D classes [] U ∧ va_D (fun _ => True) [(h0, .inr (2, [.null, .null, .null, .null, .null, .null, .null, .null, .null, .null, .null, .null, .null, .null, .null, .int 0, .int 0, .int 0, .int 0, .int 0, .int 0, .int 0, .int 0, .int 0, .int 0, .int 0, .int 0]))])) (va_Qv (fun u : (Nat → ClassId) × (Nat → Nat) => u.2 0 = h0) (fun u t => va_P D classes (wR u.1 u.2 R00) t.heap ∧ va_K D classes (tyR u.1) t ∧ va_D (va_A [(h0, .inr (2, [.null, .null, .null, .null, .null, .null, .null, .null, .null, .null, .null, .null, .null, .null, .null, .int 0, .int 0, .int 0, .int 0, .int 0, .int 0, .int 0, .int 0, .int 0, .int 0, .int 0, .int 0]))] sz) (wR u.1 u.2 R00)) (va_A [(h0, .inr (2, [.null, .null, .null, .null, .null, .null, .null, .null, .null, .null, .null, .null, .null, .null, .null, .int 0, .int 0, .int 0, .int 0, .int 0, .int 0, .int 0, .int 0, .int 0, .int 0, .int 0, .int 0]))] sz)) 15 552 (va_A [(h0, .inr (2, [.null, .null, .null, .null, .null, .null, .null, .null, .null, .null, .null, .null, .null, .null, .null, .int 0, .int 0, .int 0, .int 0, .int 0, .int 0, .int 0, .int 0, .int 0, .int 0, .int 0, .int 0]))] sz) := by
  refine Met.ofW (cc := b_M_init) (maxL := 1) (ret := none) (by decide) rfl ?_
  intro p e s m args below meth c s₁ B hml hv
  obtain ⟨rfl, hsz, hP, hK, hD0⟩ := hv
  have hx := B.exec
  have hb := B.bytes
  have hr := B.returns
  have hts0 := atoms_spec (ws := Cond.code y_M_init b_M_init 1 none :: w_ini) B.pre
  have hts : ∀ w ∈ w_ini, w.before #[Value.ref h0] s = true := fun w hw => hts0 w (List.mem_cons_of_mem _ hw)
  have hown : s.vm.findClass R_M = some m.cls := findClass_of_methodNamed B.named
  have hlocks := B.notSynchronized
  have hin : meth.name = "<init>" := (name_of_methodNamed B.named B.method).1
  subst hsz
  have hD := hD0.self (sz := s.heap.size)
  generalize hAe : va_A [(h0, .inr (2, [.null, .null, .null, .null, .null, .null, .null, .null, .null, .null, .null, .null, .null, .null, .null, .int 0, .int 0, .int 0, .int 0, .int 0, .int 0, .int 0, .int 0, .int 0, .int 0, .int 0, .int 0]))] s.heap.size = A at hD ⊢
  have hA : ∀ q : Nat, s.heap.size ≤ q → A q := fun q h => by rw [← hAe]; exact Or.inr h
  have hS : va_S A s.heap s.heap [] := va_S.rf
  have hP : va_P D classes [(h0, .inr (2, [.null, .null, .null, .null, .null, .null, .null, .null, .null, .null, .null, .null, .null, .null, .null, .int 0, .int 0, .int 0, .int 0, .int 0, .int 0, .int 0, .int 0, .int 0, .int 0, .int 0, .int 0]))] s.heap := hP
  have hl := lv_entry ([.ref h0]) (n := 1) (Nat.le_of_ble_eq_true rfl)
  rw [lg_entry_eq]
  generalize (lg_sl ([.ref h0]) ++ List.replicate (1 - (lg_sl ([.ref h0])).length) Slot.unset).toArray = ls at hl ⊢
  have hl : lv_has ls 1 [(0, .ref h0)] := hl
  refine lv_aload_n hx hb d_M_init_0 rfl (lv_at hl 0 rfl) ?_
  refine W.objInit hx hb hown (hts _ im_18) (hts _ im_0) (hts _ im_1) rfl (by rw [hml]; exact hl.1) rfl d_M_init_1 (Nat.le_of_ble_eq_true rfl) (Nat.le_of_ble_eq_true rfl) ?_
  refine W.eq (g2 := F0 m 4 ls []) rfl ?_
  refine lv_aload_n hx hb d_M_init_4 rfl (lv_at hl 0 rfl) ?_
  refine lv_bipush (v := (48 : Int32)) hx hb d_M_init_5 (by decide) ?_
  refine va_newa (D := D) (atype := .int) (ty := .int) (N' := 48) (a0 := (48, .inl (fun _ => 0))) hx hb (hts _ im_4) rfl hK hP hD hS hA (fun _ => rfl) (by decide) (by decide) (by decide) (show 1 ≤ 15 by decide) (show 48 ≤ 552 by decide) d_M_init_7 (fun q7 g7 H hK hP hD hS => ?_)
  have hP : va_P D classes [(h0, .inr (2, [.null, .null, .null, .null, .null, .null, .null, .null, .null, .null, .null, .null, .null, .null, .null, .int 0, .int 0, .int 0, .int 0, .int 0, .int 0, .int 0, .int 0, .int 0, .int 0, .int 0, .int 0])), (q7, .inl (g7, 48, .inl (fun _ => 0)))] H := hP
  have hD : va_D A [(h0, .inr (2, [.null, .null, .null, .null, .null, .null, .null, .null, .null, .null, .null, .null, .null, .null, .null, .int 0, .int 0, .int 0, .int 0, .int 0, .int 0, .int 0, .int 0, .int 0, .int 0, .int 0, .int 0])), (q7, .inl (g7, 48, .inl (fun _ => 0)))] := hD
  have hK : va_K D classes [(g7, .int)] s := hK
  refine W.widen (k := 1) (n := 48) (by omega) (by omega) ?_
  refine va_putF (D := D) (ci := 2) (v := .ref q7) (ty := .array .int) (C := R_M) (T := F_M) (N := 27) hx hb hts ui_M t_M t_M_ok n_M hown hK hP hD hS 0 rfl rfl 0 (by decide) (hts _ im_19) (fun _ h9 => h9) rfl hin rfl (by decide +kernel) rfl rfl (Nat.le_of_ble_eq_true rfl) d_M_init_9 (fun H locs hP hD hS => ?_)
  have hP : va_P D classes [(h0, .inr (2, [.ref q7, .null, .null, .null, .null, .null, .null, .null, .null, .null, .null, .null, .null, .null, .null, .int 0, .int 0, .int 0, .int 0, .int 0, .int 0, .int 0, .int 0, .int 0, .int 0, .int 0, .int 0])), (q7, .inl (g7, 48, .inl (fun _ => 0)))] H := hP
  have hD : va_D A [(h0, .inr (2, [.ref q7, .null, .null, .null, .null, .null, .null, .null, .null, .null, .null, .null, .null, .null, .null, .int 0, .int 0, .int 0, .int 0, .int 0, .int 0, .int 0, .int 0, .int 0, .int 0, .int 0, .int 0])), (q7, .inl (g7, 48, .inl (fun _ => 0)))] := hD
  refine lv_aload_n hx hb d_M_init_12 rfl (lv_at hl 0 rfl) ?_
  refine lv_bipush (v := (48 : Int32)) hx hb d_M_init_13 (by decide) ?_
  refine va_newa (D := D) (atype := .int) (ty := .int) (N' := 48) (a0 := (48, .inl (fun _ => 0))) hx hb (hts _ im_4) rfl hK hP hD hS hA (fun _ => rfl) (by decide) (by decide) (by decide) (show 2 ≤ 15 by decide) (show 96 ≤ 552 by decide) d_M_init_15 (fun q15 g15 H hK hP hD hS => ?_)
  have hP : va_P D classes [(h0, .inr (2, [.ref q7, .null, .null, .null, .null, .null, .null, .null, .null, .null, .null, .null, .null, .null, .null, .int 0, .int 0, .int 0, .int 0, .int 0, .int 0, .int 0, .int 0, .int 0, .int 0, .int 0, .int 0])), (q7, .inl (g7, 48, .inl (fun _ => 0))), (q15, .inl (g15, 48, .inl (fun _ => 0)))] H := hP
  have hD : va_D A [(h0, .inr (2, [.ref q7, .null, .null, .null, .null, .null, .null, .null, .null, .null, .null, .null, .null, .null, .null, .int 0, .int 0, .int 0, .int 0, .int 0, .int 0, .int 0, .int 0, .int 0, .int 0, .int 0, .int 0])), (q7, .inl (g7, 48, .inl (fun _ => 0))), (q15, .inl (g15, 48, .inl (fun _ => 0)))] := hD
  have hK : va_K D classes [(g7, .int), (g15, .int)] s := hK
  refine W.widen (k := 2) (n := 96) (by omega) (by omega) ?_
  refine va_putF (D := D) (ci := 2) (v := .ref q15) (ty := .array .int) (C := R_M) (T := F_M) (N := 27) hx hb hts ui_M t_M t_M_ok n_M hown hK hP hD hS 0 rfl rfl 1 (by decide) (hts _ im_20) (fun _ h9 => h9) rfl hin rfl (by decide +kernel) rfl rfl (Nat.le_of_ble_eq_true rfl) d_M_init_17 (fun H locs hP hD hS => ?_)
  have hP : va_P D classes [(h0, .inr (2, [.ref q7, .ref q15, .null, .null, .null, .null, .null, .null, .null, .null, .null, .null, .null, .null, .null, .int 0, .int 0, .int 0, .int 0, .int 0, .int 0, .int 0, .int 0, .int 0, .int 0, .int 0, .int 0])), (q7, .inl (g7, 48, .inl (fun _ => 0))), (q15, .inl (g15, 48, .inl (fun _ => 0)))] H := hP
  have hD : va_D A [(h0, .inr (2, [.ref q7, .ref q15, .null, .null, .null, .null, .null, .null, .null, .null, .null, .null, .null, .null, .null, .int 0, .int 0, .int 0, .int 0, .int 0, .int 0, .int 0, .int 0, .int 0, .int 0, .int 0, .int 0])), (q7, .inl (g7, 48, .inl (fun _ => 0))), (q15, .inl (g15, 48, .inl (fun _ => 0)))] := hD
  refine lv_aload_n hx hb d_M_init_20 rfl (lv_at hl 0 rfl) ?_
  refine lv_bipush (v := (48 : Int32)) hx hb d_M_init_21 (by decide) ?_
  refine va_newa (D := D) (atype := .int) (ty := .int) (N' := 48) (a0 := (48, .inl (fun _ => 0))) hx hb (hts _ im_4) rfl hK hP hD hS hA (fun _ => rfl) (by decide) (by decide) (by decide) (show 3 ≤ 15 by decide) (show 144 ≤ 552 by decide) d_M_init_23 (fun q23 g23 H hK hP hD hS => ?_)
  have hP : va_P D classes [(h0, .inr (2, [.ref q7, .ref q15, .null, .null, .null, .null, .null, .null, .null, .null, .null, .null, .null, .null, .null, .int 0, .int 0, .int 0, .int 0, .int 0, .int 0, .int 0, .int 0, .int 0, .int 0, .int 0, .int 0])), (q7, .inl (g7, 48, .inl (fun _ => 0))), (q15, .inl (g15, 48, .inl (fun _ => 0))), (q23, .inl (g23, 48, .inl (fun _ => 0)))] H := hP
  have hD : va_D A [(h0, .inr (2, [.ref q7, .ref q15, .null, .null, .null, .null, .null, .null, .null, .null, .null, .null, .null, .null, .null, .int 0, .int 0, .int 0, .int 0, .int 0, .int 0, .int 0, .int 0, .int 0, .int 0, .int 0, .int 0])), (q7, .inl (g7, 48, .inl (fun _ => 0))), (q15, .inl (g15, 48, .inl (fun _ => 0))), (q23, .inl (g23, 48, .inl (fun _ => 0)))] := hD
  have hK : va_K D classes [(g7, .int), (g15, .int), (g23, .int)] s := hK
  refine W.widen (k := 3) (n := 144) (by omega) (by omega) ?_
  refine va_putF (D := D) (ci := 2) (v := .ref q23) (ty := .array .int) (C := R_M) (T := F_M) (N := 27) hx hb hts ui_M t_M t_M_ok n_M hown hK hP hD hS 0 rfl rfl 2 (by decide) (hts _ im_21) (fun _ h9 => h9) rfl hin rfl (by decide +kernel) rfl rfl (Nat.le_of_ble_eq_true rfl) d_M_init_25 (fun H locs hP hD hS => ?_)
  have hP : va_P D classes [(h0, .inr (2, [.ref q7, .ref q15, .ref q23, .null, .null, .null, .null, .null, .null, .null, .null, .null, .null, .null, .null, .int 0, .int 0, .int 0, .int 0, .int 0, .int 0, .int 0, .int 0, .int 0, .int 0, .int 0, .int 0])), (q7, .inl (g7, 48, .inl (fun _ => 0))), (q15, .inl (g15, 48, .inl (fun _ => 0))), (q23, .inl (g23, 48, .inl (fun _ => 0)))] H := hP
  have hD : va_D A [(h0, .inr (2, [.ref q7, .ref q15, .ref q23, .null, .null, .null, .null, .null, .null, .null, .null, .null, .null, .null, .null, .int 0, .int 0, .int 0, .int 0, .int 0, .int 0, .int 0, .int 0, .int 0, .int 0, .int 0, .int 0])), (q7, .inl (g7, 48, .inl (fun _ => 0))), (q15, .inl (g15, 48, .inl (fun _ => 0))), (q23, .inl (g23, 48, .inl (fun _ => 0)))] := hD
  refine lv_aload_n hx hb d_M_init_28 rfl (lv_at hl 0 rfl) ?_
  refine lv_bipush (v := (48 : Int32)) hx hb d_M_init_29 (by decide) ?_
  refine va_newa (D := D) (atype := .int) (ty := .int) (N' := 48) (a0 := (48, .inl (fun _ => 0))) hx hb (hts _ im_4) rfl hK hP hD hS hA (fun _ => rfl) (by decide) (by decide) (by decide) (show 4 ≤ 15 by decide) (show 192 ≤ 552 by decide) d_M_init_31 (fun q31 g31 H hK hP hD hS => ?_)
  have hP : va_P D classes [(h0, .inr (2, [.ref q7, .ref q15, .ref q23, .null, .null, .null, .null, .null, .null, .null, .null, .null, .null, .null, .null, .int 0, .int 0, .int 0, .int 0, .int 0, .int 0, .int 0, .int 0, .int 0, .int 0, .int 0, .int 0])), (q7, .inl (g7, 48, .inl (fun _ => 0))), (q15, .inl (g15, 48, .inl (fun _ => 0))), (q23, .inl (g23, 48, .inl (fun _ => 0))), (q31, .inl (g31, 48, .inl (fun _ => 0)))] H := hP
  have hD : va_D A [(h0, .inr (2, [.ref q7, .ref q15, .ref q23, .null, .null, .null, .null, .null, .null, .null, .null, .null, .null, .null, .null, .int 0, .int 0, .int 0, .int 0, .int 0, .int 0, .int 0, .int 0, .int 0, .int 0, .int 0, .int 0])), (q7, .inl (g7, 48, .inl (fun _ => 0))), (q15, .inl (g15, 48, .inl (fun _ => 0))), (q23, .inl (g23, 48, .inl (fun _ => 0))), (q31, .inl (g31, 48, .inl (fun _ => 0)))] := hD
  have hK : va_K D classes [(g7, .int), (g15, .int), (g23, .int), (g31, .int)] s := hK
  refine W.widen (k := 4) (n := 192) (by omega) (by omega) ?_
  refine va_putF (D := D) (ci := 2) (v := .ref q31) (ty := .array .int) (C := R_M) (T := F_M) (N := 27) hx hb hts ui_M t_M t_M_ok n_M hown hK hP hD hS 0 rfl rfl 3 (by decide) (hts _ im_22) (fun _ h9 => h9) rfl hin rfl (by decide +kernel) rfl rfl (Nat.le_of_ble_eq_true rfl) d_M_init_33 (fun H locs hP hD hS => ?_)
  have hP : va_P D classes [(h0, .inr (2, [.ref q7, .ref q15, .ref q23, .ref q31, .null, .null, .null, .null, .null, .null, .null, .null, .null, .null, .null, .int 0, .int 0, .int 0, .int 0, .int 0, .int 0, .int 0, .int 0, .int 0, .int 0, .int 0, .int 0])), (q7, .inl (g7, 48, .inl (fun _ => 0))), (q15, .inl (g15, 48, .inl (fun _ => 0))), (q23, .inl (g23, 48, .inl (fun _ => 0))), (q31, .inl (g31, 48, .inl (fun _ => 0)))] H := hP
  have hD : va_D A [(h0, .inr (2, [.ref q7, .ref q15, .ref q23, .ref q31, .null, .null, .null, .null, .null, .null, .null, .null, .null, .null, .null, .int 0, .int 0, .int 0, .int 0, .int 0, .int 0, .int 0, .int 0, .int 0, .int 0, .int 0, .int 0])), (q7, .inl (g7, 48, .inl (fun _ => 0))), (q15, .inl (g15, 48, .inl (fun _ => 0))), (q23, .inl (g23, 48, .inl (fun _ => 0))), (q31, .inl (g31, 48, .inl (fun _ => 0)))] := hD
  refine lv_aload_n hx hb d_M_init_36 rfl (lv_at hl 0 rfl) ?_
  refine lv_bipush (v := (48 : Int32)) hx hb d_M_init_37 (by decide) ?_
  refine va_newa (D := D) (atype := .int) (ty := .int) (N' := 48) (a0 := (48, .inl (fun _ => 0))) hx hb (hts _ im_4) rfl hK hP hD hS hA (fun _ => rfl) (by decide) (by decide) (by decide) (show 5 ≤ 15 by decide) (show 240 ≤ 552 by decide) d_M_init_39 (fun q39 g39 H hK hP hD hS => ?_)
  have hP : va_P D classes [(h0, .inr (2, [.ref q7, .ref q15, .ref q23, .ref q31, .null, .null, .null, .null, .null, .null, .null, .null, .null, .null, .null, .int 0, .int 0, .int 0, .int 0, .int 0, .int 0, .int 0, .int 0, .int 0, .int 0, .int 0, .int 0])), (q7, .inl (g7, 48, .inl (fun _ => 0))), (q15, .inl (g15, 48, .inl (fun _ => 0))), (q23, .inl (g23, 48, .inl (fun _ => 0))), (q31, .inl (g31, 48, .inl (fun _ => 0))), (q39, .inl (g39, 48, .inl (fun _ => 0)))] H := hP
  have hD : va_D A [(h0, .inr (2, [.ref q7, .ref q15, .ref q23, .ref q31, .null, .null, .null, .null, .null, .null, .null, .null, .null, .null, .null, .int 0, .int 0, .int 0, .int 0, .int 0, .int 0, .int 0, .int 0, .int 0, .int 0, .int 0, .int 0])), (q7, .inl (g7, 48, .inl (fun _ => 0))), (q15, .inl (g15, 48, .inl (fun _ => 0))), (q23, .inl (g23, 48, .inl (fun _ => 0))), (q31, .inl (g31, 48, .inl (fun _ => 0))), (q39, .inl (g39, 48, .inl (fun _ => 0)))] := hD
  have hK : va_K D classes [(g7, .int), (g15, .int), (g23, .int), (g31, .int), (g39, .int)] s := hK
  refine W.widen (k := 5) (n := 240) (by omega) (by omega) ?_
  refine va_putF (D := D) (ci := 2) (v := .ref q39) (ty := .array .int) (C := R_M) (T := F_M) (N := 27) hx hb hts ui_M t_M t_M_ok n_M hown hK hP hD hS 0 rfl rfl 4 (by decide) (hts _ im_23) (fun _ h9 => h9) rfl hin rfl (by decide +kernel) rfl rfl (Nat.le_of_ble_eq_true rfl) d_M_init_41 (fun H locs hP hD hS => ?_)
  have hP : va_P D classes [(h0, .inr (2, [.ref q7, .ref q15, .ref q23, .ref q31, .ref q39, .null, .null, .null, .null, .null, .null, .null, .null, .null, .null, .int 0, .int 0, .int 0, .int 0, .int 0, .int 0, .int 0, .int 0, .int 0, .int 0, .int 0, .int 0])), (q7, .inl (g7, 48, .inl (fun _ => 0))), (q15, .inl (g15, 48, .inl (fun _ => 0))), (q23, .inl (g23, 48, .inl (fun _ => 0))), (q31, .inl (g31, 48, .inl (fun _ => 0))), (q39, .inl (g39, 48, .inl (fun _ => 0)))] H := hP
  have hD : va_D A [(h0, .inr (2, [.ref q7, .ref q15, .ref q23, .ref q31, .ref q39, .null, .null, .null, .null, .null, .null, .null, .null, .null, .null, .int 0, .int 0, .int 0, .int 0, .int 0, .int 0, .int 0, .int 0, .int 0, .int 0, .int 0, .int 0])), (q7, .inl (g7, 48, .inl (fun _ => 0))), (q15, .inl (g15, 48, .inl (fun _ => 0))), (q23, .inl (g23, 48, .inl (fun _ => 0))), (q31, .inl (g31, 48, .inl (fun _ => 0))), (q39, .inl (g39, 48, .inl (fun _ => 0)))] := hD
  refine lv_aload_n hx hb d_M_init_44 rfl (lv_at hl 0 rfl) ?_
  refine lv_bipush (v := (48 : Int32)) hx hb d_M_init_45 (by decide) ?_
  refine va_newa (D := D) (atype := .int) (ty := .int) (N' := 48) (a0 := (48, .inl (fun _ => 0))) hx hb (hts _ im_4) rfl hK hP hD hS hA (fun _ => rfl) (by decide) (by decide) (by decide) (show 6 ≤ 15 by decide) (show 288 ≤ 552 by decide) d_M_init_47 (fun q47 g47 H hK hP hD hS => ?_)
  have hP : va_P D classes [(h0, .inr (2, [.ref q7, .ref q15, .ref q23, .ref q31, .ref q39, .null, .null, .null, .null, .null, .null, .null, .null, .null, .null, .int 0, .int 0, .int 0, .int 0, .int 0, .int 0, .int 0, .int 0, .int 0, .int 0, .int 0, .int 0])), (q7, .inl (g7, 48, .inl (fun _ => 0))), (q15, .inl (g15, 48, .inl (fun _ => 0))), (q23, .inl (g23, 48, .inl (fun _ => 0))), (q31, .inl (g31, 48, .inl (fun _ => 0))), (q39, .inl (g39, 48, .inl (fun _ => 0))), (q47, .inl (g47, 48, .inl (fun _ => 0)))] H := hP
  have hD : va_D A [(h0, .inr (2, [.ref q7, .ref q15, .ref q23, .ref q31, .ref q39, .null, .null, .null, .null, .null, .null, .null, .null, .null, .null, .int 0, .int 0, .int 0, .int 0, .int 0, .int 0, .int 0, .int 0, .int 0, .int 0, .int 0, .int 0])), (q7, .inl (g7, 48, .inl (fun _ => 0))), (q15, .inl (g15, 48, .inl (fun _ => 0))), (q23, .inl (g23, 48, .inl (fun _ => 0))), (q31, .inl (g31, 48, .inl (fun _ => 0))), (q39, .inl (g39, 48, .inl (fun _ => 0))), (q47, .inl (g47, 48, .inl (fun _ => 0)))] := hD
  have hK : va_K D classes [(g7, .int), (g15, .int), (g23, .int), (g31, .int), (g39, .int), (g47, .int)] s := hK
  refine W.widen (k := 6) (n := 288) (by omega) (by omega) ?_
  refine va_putF (D := D) (ci := 2) (v := .ref q47) (ty := .array .int) (C := R_M) (T := F_M) (N := 27) hx hb hts ui_M t_M t_M_ok n_M hown hK hP hD hS 0 rfl rfl 5 (by decide) (hts _ im_24) (fun _ h9 => h9) rfl hin rfl (by decide +kernel) rfl rfl (Nat.le_of_ble_eq_true rfl) d_M_init_49 (fun H locs hP hD hS => ?_)
  have hP : va_P D classes [(h0, .inr (2, [.ref q7, .ref q15, .ref q23, .ref q31, .ref q39, .ref q47, .null, .null, .null, .null, .null, .null, .null, .null, .null, .int 0, .int 0, .int 0, .int 0, .int 0, .int 0, .int 0, .int 0, .int 0, .int 0, .int 0, .int 0])), (q7, .inl (g7, 48, .inl (fun _ => 0))), (q15, .inl (g15, 48, .inl (fun _ => 0))), (q23, .inl (g23, 48, .inl (fun _ => 0))), (q31, .inl (g31, 48, .inl (fun _ => 0))), (q39, .inl (g39, 48, .inl (fun _ => 0))), (q47, .inl (g47, 48, .inl (fun _ => 0)))] H := hP
  have hD : va_D A [(h0, .inr (2, [.ref q7, .ref q15, .ref q23, .ref q31, .ref q39, .ref q47, .null, .null, .null, .null, .null, .null, .null, .null, .null, .int 0, .int 0, .int 0, .int 0, .int 0, .int 0, .int 0, .int 0, .int 0, .int 0, .int 0, .int 0])), (q7, .inl (g7, 48, .inl (fun _ => 0))), (q15, .inl (g15, 48, .inl (fun _ => 0))), (q23, .inl (g23, 48, .inl (fun _ => 0))), (q31, .inl (g31, 48, .inl (fun _ => 0))), (q39, .inl (g39, 48, .inl (fun _ => 0))), (q47, .inl (g47, 48, .inl (fun _ => 0)))] := hD
  refine lv_aload_n hx hb d_M_init_52 rfl (lv_at hl 0 rfl) ?_
  refine lv_bipush (v := (48 : Int32)) hx hb d_M_init_53 (by decide) ?_
  refine va_newa (D := D) (atype := .int) (ty := .int) (N' := 48) (a0 := (48, .inl (fun _ => 0))) hx hb (hts _ im_4) rfl hK hP hD hS hA (fun _ => rfl) (by decide) (by decide) (by decide) (show 7 ≤ 15 by decide) (show 336 ≤ 552 by decide) d_M_init_55 (fun q55 g55 H hK hP hD hS => ?_)
  have hP : va_P D classes [(h0, .inr (2, [.ref q7, .ref q15, .ref q23, .ref q31, .ref q39, .ref q47, .null, .null, .null, .null, .null, .null, .null, .null, .null, .int 0, .int 0, .int 0, .int 0, .int 0, .int 0, .int 0, .int 0, .int 0, .int 0, .int 0, .int 0])), (q7, .inl (g7, 48, .inl (fun _ => 0))), (q15, .inl (g15, 48, .inl (fun _ => 0))), (q23, .inl (g23, 48, .inl (fun _ => 0))), (q31, .inl (g31, 48, .inl (fun _ => 0))), (q39, .inl (g39, 48, .inl (fun _ => 0))), (q47, .inl (g47, 48, .inl (fun _ => 0))), (q55, .inl (g55, 48, .inl (fun _ => 0)))] H := hP
  have hD : va_D A [(h0, .inr (2, [.ref q7, .ref q15, .ref q23, .ref q31, .ref q39, .ref q47, .null, .null, .null, .null, .null, .null, .null, .null, .null, .int 0, .int 0, .int 0, .int 0, .int 0, .int 0, .int 0, .int 0, .int 0, .int 0, .int 0, .int 0])), (q7, .inl (g7, 48, .inl (fun _ => 0))), (q15, .inl (g15, 48, .inl (fun _ => 0))), (q23, .inl (g23, 48, .inl (fun _ => 0))), (q31, .inl (g31, 48, .inl (fun _ => 0))), (q39, .inl (g39, 48, .inl (fun _ => 0))), (q47, .inl (g47, 48, .inl (fun _ => 0))), (q55, .inl (g55, 48, .inl (fun _ => 0)))] := hD
  have hK : va_K D classes [(g7, .int), (g15, .int), (g23, .int), (g31, .int), (g39, .int), (g47, .int), (g55, .int)] s := hK
  refine W.widen (k := 7) (n := 336) (by omega) (by omega) ?_
  refine va_putF (D := D) (ci := 2) (v := .ref q55) (ty := .array .int) (C := R_M) (T := F_M) (N := 27) hx hb hts ui_M t_M t_M_ok n_M hown hK hP hD hS 0 rfl rfl 6 (by decide) (hts _ im_25) (fun _ h9 => h9) rfl hin rfl (by decide +kernel) rfl rfl (Nat.le_of_ble_eq_true rfl) d_M_init_57 (fun H locs hP hD hS => ?_)
  have hP : va_P D classes [(h0, .inr (2, [.ref q7, .ref q15, .ref q23, .ref q31, .ref q39, .ref q47, .ref q55, .null, .null, .null, .null, .null, .null, .null, .null, .int 0, .int 0, .int 0, .int 0, .int 0, .int 0, .int 0, .int 0, .int 0, .int 0, .int 0, .int 0])), (q7, .inl (g7, 48, .inl (fun _ => 0))), (q15, .inl (g15, 48, .inl (fun _ => 0))), (q23, .inl (g23, 48, .inl (fun _ => 0))), (q31, .inl (g31, 48, .inl (fun _ => 0))), (q39, .inl (g39, 48, .inl (fun _ => 0))), (q47, .inl (g47, 48, .inl (fun _ => 0))), (q55, .inl (g55, 48, .inl (fun _ => 0)))] H := hP
  have hD : va_D A [(h0, .inr (2, [.ref q7, .ref q15, .ref q23, .ref q31, .ref q39, .ref q47, .ref q55, .null, .null, .null, .null, .null, .null, .null, .null, .int 0, .int 0, .int 0, .int 0, .int 0, .int 0, .int 0, .int 0, .int 0, .int 0, .int 0, .int 0])), (q7, .inl (g7, 48, .inl (fun _ => 0))), (q15, .inl (g15, 48, .inl (fun _ => 0))), (q23, .inl (g23, 48, .inl (fun _ => 0))), (q31, .inl (g31, 48, .inl (fun _ => 0))), (q39, .inl (g39, 48, .inl (fun _ => 0))), (q47, .inl (g47, 48, .inl (fun _ => 0))), (q55, .inl (g55, 48, .inl (fun _ => 0)))] := hD
  refine lv_aload_n hx hb d_M_init_60 rfl (lv_at hl 0 rfl) ?_
  refine lv_bipush (v := (48 : Int32)) hx hb d_M_init_61 (by decide) ?_
  refine va_newa (D := D) (atype := .boolean) (ty := .boolean) (N' := 48) (a0 := (48, .inl (fun _ => 0))) hx hb (hts _ im_11) rfl hK hP hD hS hA (fun _ => rfl) (by decide) (by decide) (by decide) (show 8 ≤ 15 by decide) (show 384 ≤ 552 by decide) d_M_init_63 (fun q63 g63 H hK hP hD hS => ?_)
  have hP : va_P D classes [(h0, .inr (2, [.ref q7, .ref q15, .ref q23, .ref q31, .ref q39, .ref q47, .ref q55, .null, .null, .null, .null, .null, .null, .null, .null, .int 0, .int 0, .int 0, .int 0, .int 0, .int 0, .int 0, .int 0, .int 0, .int 0, .int 0, .int 0])), (q7, .inl (g7, 48, .inl (fun _ => 0))), (q15, .inl (g15, 48, .inl (fun _ => 0))), (q23, .inl (g23, 48, .inl (fun _ => 0))), (q31, .inl (g31, 48, .inl (fun _ => 0))), (q39, .inl (g39, 48, .inl (fun _ => 0))), (q47, .inl (g47, 48, .inl (fun _ => 0))), (q55, .inl (g55, 48, .inl (fun _ => 0))), (q63, .inl (g63, 48, .inl (fun _ => 0)))] H := hP
  have hD : va_D A [(h0, .inr (2, [.ref q7, .ref q15, .ref q23, .ref q31, .ref q39, .ref q47, .ref q55, .null, .null, .null, .null, .null, .null, .null, .null, .int 0, .int 0, .int 0, .int 0, .int 0, .int 0, .int 0, .int 0, .int 0, .int 0, .int 0, .int 0])), (q7, .inl (g7, 48, .inl (fun _ => 0))), (q15, .inl (g15, 48, .inl (fun _ => 0))), (q23, .inl (g23, 48, .inl (fun _ => 0))), (q31, .inl (g31, 48, .inl (fun _ => 0))), (q39, .inl (g39, 48, .inl (fun _ => 0))), (q47, .inl (g47, 48, .inl (fun _ => 0))), (q55, .inl (g55, 48, .inl (fun _ => 0))), (q63, .inl (g63, 48, .inl (fun _ => 0)))] := hD
  have hK : va_K D classes [(g7, .int), (g15, .int), (g23, .int), (g31, .int), (g39, .int), (g47, .int), (g55, .int), (g63, .boolean)] s := hK
  refine W.widen (k := 8) (n := 384) (by omega) (by omega) ?_
  refine va_putF (D := D) (ci := 2) (v := .ref q63) (ty := .array .boolean) (C := R_M) (T := F_M) (N := 27) hx hb hts ui_M t_M t_M_ok n_M hown hK hP hD hS 0 rfl rfl 7 (by decide) (hts _ im_26) (fun _ h9 => h9) rfl hin rfl (by decide +kernel) rfl rfl (Nat.le_of_ble_eq_true rfl) d_M_init_65 (fun H locs hP hD hS => ?_)
  have hP : va_P D classes [(h0, .inr (2, [.ref q7, .ref q15, .ref q23, .ref q31, .ref q39, .ref q47, .ref q55, .ref q63, .null, .null, .null, .null, .null, .null, .null, .int 0, .int 0, .int 0, .int 0, .int 0, .int 0, .int 0, .int 0, .int 0, .int 0, .int 0, .int 0])), (q7, .inl (g7, 48, .inl (fun _ => 0))), (q15, .inl (g15, 48, .inl (fun _ => 0))), (q23, .inl (g23, 48, .inl (fun _ => 0))), (q31, .inl (g31, 48, .inl (fun _ => 0))), (q39, .inl (g39, 48, .inl (fun _ => 0))), (q47, .inl (g47, 48, .inl (fun _ => 0))), (q55, .inl (g55, 48, .inl (fun _ => 0))), (q63, .inl (g63, 48, .inl (fun _ => 0)))] H := hP
  have hD : va_D A [(h0, .inr (2, [.ref q7, .ref q15, .ref q23, .ref q31, .ref q39, .ref q47, .ref q55, .ref q63, .null, .null, .null, .null, .null, .null, .null, .int 0, .int 0, .int 0, .int 0, .int 0, .int 0, .int 0, .int 0, .int 0, .int 0, .int 0, .int 0])), (q7, .inl (g7, 48, .inl (fun _ => 0))), (q15, .inl (g15, 48, .inl (fun _ => 0))), (q23, .inl (g23, 48, .inl (fun _ => 0))), (q31, .inl (g31, 48, .inl (fun _ => 0))), (q39, .inl (g39, 48, .inl (fun _ => 0))), (q47, .inl (g47, 48, .inl (fun _ => 0))), (q55, .inl (g55, 48, .inl (fun _ => 0))), (q63, .inl (g63, 48, .inl (fun _ => 0)))] := hD
  refine lv_aload_n hx hb d_M_init_68 rfl (lv_at hl 0 rfl) ?_
  refine lv_bipush (v := (48 : Int32)) hx hb d_M_init_69 (by decide) ?_
  refine va_newa (D := D) (atype := .int) (ty := .int) (N' := 48) (a0 := (48, .inl (fun _ => 0))) hx hb (hts _ im_4) rfl hK hP hD hS hA (fun _ => rfl) (by decide) (by decide) (by decide) (show 9 ≤ 15 by decide) (show 432 ≤ 552 by decide) d_M_init_71 (fun q71 g71 H hK hP hD hS => ?_)
  have hP : va_P D classes [(h0, .inr (2, [.ref q7, .ref q15, .ref q23, .ref q31, .ref q39, .ref q47, .ref q55, .ref q63, .null, .null, .null, .null, .null, .null, .null, .int 0, .int 0, .int 0, .int 0, .int 0, .int 0, .int 0, .int 0, .int 0, .int 0, .int 0, .int 0])), (q7, .inl (g7, 48, .inl (fun _ => 0))), (q15, .inl (g15, 48, .inl (fun _ => 0))), (q23, .inl (g23, 48, .inl (fun _ => 0))), (q31, .inl (g31, 48, .inl (fun _ => 0))), (q39, .inl (g39, 48, .inl (fun _ => 0))), (q47, .inl (g47, 48, .inl (fun _ => 0))), (q55, .inl (g55, 48, .inl (fun _ => 0))), (q63, .inl (g63, 48, .inl (fun _ => 0))), (q71, .inl (g71, 48, .inl (fun _ => 0)))] H := hP
  have hD : va_D A [(h0, .inr (2, [.ref q7, .ref q15, .ref q23, .ref q31, .ref q39, .ref q47, .ref q55, .ref q63, .null, .null, .null, .null, .null, .null, .null, .int 0, .int 0, .int 0, .int 0, .int 0, .int 0, .int 0, .int 0, .int 0, .int 0, .int 0, .int 0])), (q7, .inl (g7, 48, .inl (fun _ => 0))), (q15, .inl (g15, 48, .inl (fun _ => 0))), (q23, .inl (g23, 48, .inl (fun _ => 0))), (q31, .inl (g31, 48, .inl (fun _ => 0))), (q39, .inl (g39, 48, .inl (fun _ => 0))), (q47, .inl (g47, 48, .inl (fun _ => 0))), (q55, .inl (g55, 48, .inl (fun _ => 0))), (q63, .inl (g63, 48, .inl (fun _ => 0))), (q71, .inl (g71, 48, .inl (fun _ => 0)))] := hD
  have hK : va_K D classes [(g7, .int), (g15, .int), (g23, .int), (g31, .int), (g39, .int), (g47, .int), (g55, .int), (g63, .boolean), (g71, .int)] s := hK
  refine W.widen (k := 9) (n := 432) (by omega) (by omega) ?_
  refine va_putF (D := D) (ci := 2) (v := .ref q71) (ty := .array .int) (C := R_M) (T := F_M) (N := 27) hx hb hts ui_M t_M t_M_ok n_M hown hK hP hD hS 0 rfl rfl 8 (by decide) (hts _ im_27) (fun _ h9 => h9) rfl hin rfl (by decide +kernel) rfl rfl (Nat.le_of_ble_eq_true rfl) d_M_init_73 (fun H locs hP hD hS => ?_)
  have hP : va_P D classes [(h0, .inr (2, [.ref q7, .ref q15, .ref q23, .ref q31, .ref q39, .ref q47, .ref q55, .ref q63, .ref q71, .null, .null, .null, .null, .null, .null, .int 0, .int 0, .int 0, .int 0, .int 0, .int 0, .int 0, .int 0, .int 0, .int 0, .int 0, .int 0])), (q7, .inl (g7, 48, .inl (fun _ => 0))), (q15, .inl (g15, 48, .inl (fun _ => 0))), (q23, .inl (g23, 48, .inl (fun _ => 0))), (q31, .inl (g31, 48, .inl (fun _ => 0))), (q39, .inl (g39, 48, .inl (fun _ => 0))), (q47, .inl (g47, 48, .inl (fun _ => 0))), (q55, .inl (g55, 48, .inl (fun _ => 0))), (q63, .inl (g63, 48, .inl (fun _ => 0))), (q71, .inl (g71, 48, .inl (fun _ => 0)))] H := hP
  have hD : va_D A [(h0, .inr (2, [.ref q7, .ref q15, .ref q23, .ref q31, .ref q39, .ref q47, .ref q55, .ref q63, .ref q71, .null, .null, .null, .null, .null, .null, .int 0, .int 0, .int 0, .int 0, .int 0, .int 0, .int 0, .int 0, .int 0, .int 0, .int 0, .int 0])), (q7, .inl (g7, 48, .inl (fun _ => 0))), (q15, .inl (g15, 48, .inl (fun _ => 0))), (q23, .inl (g23, 48, .inl (fun _ => 0))), (q31, .inl (g31, 48, .inl (fun _ => 0))), (q39, .inl (g39, 48, .inl (fun _ => 0))), (q47, .inl (g47, 48, .inl (fun _ => 0))), (q55, .inl (g55, 48, .inl (fun _ => 0))), (q63, .inl (g63, 48, .inl (fun _ => 0))), (q71, .inl (g71, 48, .inl (fun _ => 0)))] := hD
  refine lv_aload_n hx hb d_M_init_76 rfl (lv_at hl 0 rfl) ?_
  refine lv_bipush (v := (48 : Int32)) hx hb d_M_init_77 (by decide) ?_
  refine va_newa (D := D) (atype := .int) (ty := .int) (N' := 48) (a0 := (48, .inl (fun _ => 0))) hx hb (hts _ im_4) rfl hK hP hD hS hA (fun _ => rfl) (by decide) (by decide) (by decide) (show 10 ≤ 15 by decide) (show 480 ≤ 552 by decide) d_M_init_79 (fun q79 g79 H hK hP hD hS => ?_)
  have hP : va_P D classes [(h0, .inr (2, [.ref q7, .ref q15, .ref q23, .ref q31, .ref q39, .ref q47, .ref q55, .ref q63, .ref q71, .null, .null, .null, .null, .null, .null, .int 0, .int 0, .int 0, .int 0, .int 0, .int 0, .int 0, .int 0, .int 0, .int 0, .int 0, .int 0])), (q7, .inl (g7, 48, .inl (fun _ => 0))), (q15, .inl (g15, 48, .inl (fun _ => 0))), (q23, .inl (g23, 48, .inl (fun _ => 0))), (q31, .inl (g31, 48, .inl (fun _ => 0))), (q39, .inl (g39, 48, .inl (fun _ => 0))), (q47, .inl (g47, 48, .inl (fun _ => 0))), (q55, .inl (g55, 48, .inl (fun _ => 0))), (q63, .inl (g63, 48, .inl (fun _ => 0))), (q71, .inl (g71, 48, .inl (fun _ => 0))), (q79, .inl (g79, 48, .inl (fun _ => 0)))] H := hP
  have hD : va_D A [(h0, .inr (2, [.ref q7, .ref q15, .ref q23, .ref q31, .ref q39, .ref q47, .ref q55, .ref q63, .ref q71, .null, .null, .null, .null, .null, .null, .int 0, .int 0, .int 0, .int 0, .int 0, .int 0, .int 0, .int 0, .int 0, .int 0, .int 0, .int 0])), (q7, .inl (g7, 48, .inl (fun _ => 0))), (q15, .inl (g15, 48, .inl (fun _ => 0))), (q23, .inl (g23, 48, .inl (fun _ => 0))), (q31, .inl (g31, 48, .inl (fun _ => 0))), (q39, .inl (g39, 48, .inl (fun _ => 0))), (q47, .inl (g47, 48, .inl (fun _ => 0))), (q55, .inl (g55, 48, .inl (fun _ => 0))), (q63, .inl (g63, 48, .inl (fun _ => 0))), (q71, .inl (g71, 48, .inl (fun _ => 0))), (q79, .inl (g79, 48, .inl (fun _ => 0)))] := hD
  have hK : va_K D classes [(g7, .int), (g15, .int), (g23, .int), (g31, .int), (g39, .int), (g47, .int), (g55, .int), (g63, .boolean), (g71, .int), (g79, .int)] s := hK
  refine W.widen (k := 10) (n := 480) (by omega) (by omega) ?_
  refine va_putF (D := D) (ci := 2) (v := .ref q79) (ty := .array .int) (C := R_M) (T := F_M) (N := 27) hx hb hts ui_M t_M t_M_ok n_M hown hK hP hD hS 0 rfl rfl 9 (by decide) (hts _ im_28) (fun _ h9 => h9) rfl hin rfl (by decide +kernel) rfl rfl (Nat.le_of_ble_eq_true rfl) d_M_init_81 (fun H locs hP hD hS => ?_)
  have hP : va_P D classes [(h0, .inr (2, [.ref q7, .ref q15, .ref q23, .ref q31, .ref q39, .ref q47, .ref q55, .ref q63, .ref q71, .ref q79, .null, .null, .null, .null, .null, .int 0, .int 0, .int 0, .int 0, .int 0, .int 0, .int 0, .int 0, .int 0, .int 0, .int 0, .int 0])), (q7, .inl (g7, 48, .inl (fun _ => 0))), (q15, .inl (g15, 48, .inl (fun _ => 0))), (q23, .inl (g23, 48, .inl (fun _ => 0))), (q31, .inl (g31, 48, .inl (fun _ => 0))), (q39, .inl (g39, 48, .inl (fun _ => 0))), (q47, .inl (g47, 48, .inl (fun _ => 0))), (q55, .inl (g55, 48, .inl (fun _ => 0))), (q63, .inl (g63, 48, .inl (fun _ => 0))), (q71, .inl (g71, 48, .inl (fun _ => 0))), (q79, .inl (g79, 48, .inl (fun _ => 0)))] H := hP
  have hD : va_D A [(h0, .inr (2, [.ref q7, .ref q15, .ref q23, .ref q31, .ref q39, .ref q47, .ref q55, .ref q63, .ref q71, .ref q79, .null, .null, .null, .null, .null, .int 0, .int 0, .int 0, .int 0, .int 0, .int 0, .int 0, .int 0, .int 0, .int 0, .int 0, .int 0])), (q7, .inl (g7, 48, .inl (fun _ => 0))), (q15, .inl (g15, 48, .inl (fun _ => 0))), (q23, .inl (g23, 48, .inl (fun _ => 0))), (q31, .inl (g31, 48, .inl (fun _ => 0))), (q39, .inl (g39, 48, .inl (fun _ => 0))), (q47, .inl (g47, 48, .inl (fun _ => 0))), (q55, .inl (g55, 48, .inl (fun _ => 0))), (q63, .inl (g63, 48, .inl (fun _ => 0))), (q71, .inl (g71, 48, .inl (fun _ => 0))), (q79, .inl (g79, 48, .inl (fun _ => 0)))] := hD
  refine lv_aload_n hx hb d_M_init_84 rfl (lv_at hl 0 rfl) ?_
  refine lv_bipush (v := (48 : Int32)) hx hb d_M_init_85 (by decide) ?_
  refine va_newa (D := D) (atype := .boolean) (ty := .boolean) (N' := 48) (a0 := (48, .inl (fun _ => 0))) hx hb (hts _ im_11) rfl hK hP hD hS hA (fun _ => rfl) (by decide) (by decide) (by decide) (show 11 ≤ 15 by decide) (show 528 ≤ 552 by decide) d_M_init_87 (fun q87 g87 H hK hP hD hS => ?_)
  have hP : va_P D classes [(h0, .inr (2, [.ref q7, .ref q15, .ref q23, .ref q31, .ref q39, .ref q47, .ref q55, .ref q63, .ref q71, .ref q79, .null, .null, .null, .null, .null, .int 0, .int 0, .int 0, .int 0, .int 0, .int 0, .int 0, .int 0, .int 0, .int 0, .int 0, .int 0])), (q7, .inl (g7, 48, .inl (fun _ => 0))), (q15, .inl (g15, 48, .inl (fun _ => 0))), (q23, .inl (g23, 48, .inl (fun _ => 0))), (q31, .inl (g31, 48, .inl (fun _ => 0))), (q39, .inl (g39, 48, .inl (fun _ => 0))), (q47, .inl (g47, 48, .inl (fun _ => 0))), (q55, .inl (g55, 48, .inl (fun _ => 0))), (q63, .inl (g63, 48, .inl (fun _ => 0))), (q71, .inl (g71, 48, .inl (fun _ => 0))), (q79, .inl (g79, 48, .inl (fun _ => 0))), (q87, .inl (g87, 48, .inl (fun _ => 0)))] H := hP
  have hD : va_D A [(h0, .inr (2, [.ref q7, .ref q15, .ref q23, .ref q31, .ref q39, .ref q47, .ref q55, .ref q63, .ref q71, .ref q79, .null, .null, .null, .null, .null, .int 0, .int 0, .int 0, .int 0, .int 0, .int 0, .int 0, .int 0, .int 0, .int 0, .int 0, .int 0])), (q7, .inl (g7, 48, .inl (fun _ => 0))), (q15, .inl (g15, 48, .inl (fun _ => 0))), (q23, .inl (g23, 48, .inl (fun _ => 0))), (q31, .inl (g31, 48, .inl (fun _ => 0))), (q39, .inl (g39, 48, .inl (fun _ => 0))), (q47, .inl (g47, 48, .inl (fun _ => 0))), (q55, .inl (g55, 48, .inl (fun _ => 0))), (q63, .inl (g63, 48, .inl (fun _ => 0))), (q71, .inl (g71, 48, .inl (fun _ => 0))), (q79, .inl (g79, 48, .inl (fun _ => 0))), (q87, .inl (g87, 48, .inl (fun _ => 0)))] := hD
  have hK : va_K D classes [(g7, .int), (g15, .int), (g23, .int), (g31, .int), (g39, .int), (g47, .int), (g55, .int), (g63, .boolean), (g71, .int), (g79, .int), (g87, .boolean)] s := hK
  refine W.widen (k := 11) (n := 528) (by omega) (by omega) ?_
  refine va_putF (D := D) (ci := 2) (v := .ref q87) (ty := .array .boolean) (C := R_M) (T := F_M) (N := 27) hx hb hts ui_M t_M t_M_ok n_M hown hK hP hD hS 0 rfl rfl 10 (by decide) (hts _ im_29) (fun _ h9 => h9) rfl hin rfl (by decide +kernel) rfl rfl (Nat.le_of_ble_eq_true rfl) d_M_init_89 (fun H locs hP hD hS => ?_)
  have hP : va_P D classes [(h0, .inr (2, [.ref q7, .ref q15, .ref q23, .ref q31, .ref q39, .ref q47, .ref q55, .ref q63, .ref q71, .ref q79, .ref q87, .null, .null, .null, .null, .int 0, .int 0, .int 0, .int 0, .int 0, .int 0, .int 0, .int 0, .int 0, .int 0, .int 0, .int 0])), (q7, .inl (g7, 48, .inl (fun _ => 0))), (q15, .inl (g15, 48, .inl (fun _ => 0))), (q23, .inl (g23, 48, .inl (fun _ => 0))), (q31, .inl (g31, 48, .inl (fun _ => 0))), (q39, .inl (g39, 48, .inl (fun _ => 0))), (q47, .inl (g47, 48, .inl (fun _ => 0))), (q55, .inl (g55, 48, .inl (fun _ => 0))), (q63, .inl (g63, 48, .inl (fun _ => 0))), (q71, .inl (g71, 48, .inl (fun _ => 0))), (q79, .inl (g79, 48, .inl (fun _ => 0))), (q87, .inl (g87, 48, .inl (fun _ => 0)))] H := hP
  have hD : va_D A [(h0, .inr (2, [.ref q7, .ref q15, .ref q23, .ref q31, .ref q39, .ref q47, .ref q55, .ref q63, .ref q71, .ref q79, .ref q87, .null, .null, .null, .null, .int 0, .int 0, .int 0, .int 0, .int 0, .int 0, .int 0, .int 0, .int 0, .int 0, .int 0, .int 0])), (q7, .inl (g7, 48, .inl (fun _ => 0))), (q15, .inl (g15, 48, .inl (fun _ => 0))), (q23, .inl (g23, 48, .inl (fun _ => 0))), (q31, .inl (g31, 48, .inl (fun _ => 0))), (q39, .inl (g39, 48, .inl (fun _ => 0))), (q47, .inl (g47, 48, .inl (fun _ => 0))), (q55, .inl (g55, 48, .inl (fun _ => 0))), (q63, .inl (g63, 48, .inl (fun _ => 0))), (q71, .inl (g71, 48, .inl (fun _ => 0))), (q79, .inl (g79, 48, .inl (fun _ => 0))), (q87, .inl (g87, 48, .inl (fun _ => 0)))] := hD
  refine lv_aload_n hx hb d_M_init_92 rfl (lv_at hl 0 rfl) ?_
  refine lv_bipush (v := (6 : Int32)) hx hb d_M_init_93 (by decide) ?_
  refine va_newa (D := D) (atype := .boolean) (ty := .boolean) (N' := 6) (a0 := (6, .inl (fun _ => 0))) hx hb (hts _ im_11) rfl hK hP hD hS hA (fun _ => rfl) (by decide) (by decide) (by decide) (show 12 ≤ 15 by decide) (show 534 ≤ 552 by decide) d_M_init_95 (fun q95 g95 H hK hP hD hS => ?_)
  have hP : va_P D classes [(h0, .inr (2, [.ref q7, .ref q15, .ref q23, .ref q31, .ref q39, .ref q47, .ref q55, .ref q63, .ref q71, .ref q79, .ref q87, .null, .null, .null, .null, .int 0, .int 0, .int 0, .int 0, .int 0, .int 0, .int 0, .int 0, .int 0, .int 0, .int 0, .int 0])), (q7, .inl (g7, 48, .inl (fun _ => 0))), (q15, .inl (g15, 48, .inl (fun _ => 0))), (q23, .inl (g23, 48, .inl (fun _ => 0))), (q31, .inl (g31, 48, .inl (fun _ => 0))), (q39, .inl (g39, 48, .inl (fun _ => 0))), (q47, .inl (g47, 48, .inl (fun _ => 0))), (q55, .inl (g55, 48, .inl (fun _ => 0))), (q63, .inl (g63, 48, .inl (fun _ => 0))), (q71, .inl (g71, 48, .inl (fun _ => 0))), (q79, .inl (g79, 48, .inl (fun _ => 0))), (q87, .inl (g87, 48, .inl (fun _ => 0))), (q95, .inl (g95, 6, .inl (fun _ => 0)))] H := hP
  have hD : va_D A [(h0, .inr (2, [.ref q7, .ref q15, .ref q23, .ref q31, .ref q39, .ref q47, .ref q55, .ref q63, .ref q71, .ref q79, .ref q87, .null, .null, .null, .null, .int 0, .int 0, .int 0, .int 0, .int 0, .int 0, .int 0, .int 0, .int 0, .int 0, .int 0, .int 0])), (q7, .inl (g7, 48, .inl (fun _ => 0))), (q15, .inl (g15, 48, .inl (fun _ => 0))), (q23, .inl (g23, 48, .inl (fun _ => 0))), (q31, .inl (g31, 48, .inl (fun _ => 0))), (q39, .inl (g39, 48, .inl (fun _ => 0))), (q47, .inl (g47, 48, .inl (fun _ => 0))), (q55, .inl (g55, 48, .inl (fun _ => 0))), (q63, .inl (g63, 48, .inl (fun _ => 0))), (q71, .inl (g71, 48, .inl (fun _ => 0))), (q79, .inl (g79, 48, .inl (fun _ => 0))), (q87, .inl (g87, 48, .inl (fun _ => 0))), (q95, .inl (g95, 6, .inl (fun _ => 0)))] := hD
  have hK : va_K D classes [(g7, .int), (g15, .int), (g23, .int), (g31, .int), (g39, .int), (g47, .int), (g55, .int), (g63, .boolean), (g71, .int), (g79, .int), (g87, .boolean), (g95, .boolean)] s := hK
  refine W.widen (k := 12) (n := 534) (by omega) (by omega) ?_
  refine va_putF (D := D) (ci := 2) (v := .ref q95) (ty := .array .boolean) (C := R_M) (T := F_M) (N := 27) hx hb hts ui_M t_M t_M_ok n_M hown hK hP hD hS 0 rfl rfl 11 (by decide) (hts _ im_30) (fun _ h9 => h9) rfl hin rfl (by decide +kernel) rfl rfl (Nat.le_of_ble_eq_true rfl) d_M_init_97 (fun H locs hP hD hS => ?_)
  have hP : va_P D classes [(h0, .inr (2, [.ref q7, .ref q15, .ref q23, .ref q31, .ref q39, .ref q47, .ref q55, .ref q63, .ref q71, .ref q79, .ref q87, .ref q95, .null, .null, .null, .int 0, .int 0, .int 0, .int 0, .int 0, .int 0, .int 0, .int 0, .int 0, .int 0, .int 0, .int 0])), (q7, .inl (g7, 48, .inl (fun _ => 0))), (q15, .inl (g15, 48, .inl (fun _ => 0))), (q23, .inl (g23, 48, .inl (fun _ => 0))), (q31, .inl (g31, 48, .inl (fun _ => 0))), (q39, .inl (g39, 48, .inl (fun _ => 0))), (q47, .inl (g47, 48, .inl (fun _ => 0))), (q55, .inl (g55, 48, .inl (fun _ => 0))), (q63, .inl (g63, 48, .inl (fun _ => 0))), (q71, .inl (g71, 48, .inl (fun _ => 0))), (q79, .inl (g79, 48, .inl (fun _ => 0))), (q87, .inl (g87, 48, .inl (fun _ => 0))), (q95, .inl (g95, 6, .inl (fun _ => 0)))] H := hP
  have hD : va_D A [(h0, .inr (2, [.ref q7, .ref q15, .ref q23, .ref q31, .ref q39, .ref q47, .ref q55, .ref q63, .ref q71, .ref q79, .ref q87, .ref q95, .null, .null, .null, .int 0, .int 0, .int 0, .int 0, .int 0, .int 0, .int 0, .int 0, .int 0, .int 0, .int 0, .int 0])), (q7, .inl (g7, 48, .inl (fun _ => 0))), (q15, .inl (g15, 48, .inl (fun _ => 0))), (q23, .inl (g23, 48, .inl (fun _ => 0))), (q31, .inl (g31, 48, .inl (fun _ => 0))), (q39, .inl (g39, 48, .inl (fun _ => 0))), (q47, .inl (g47, 48, .inl (fun _ => 0))), (q55, .inl (g55, 48, .inl (fun _ => 0))), (q63, .inl (g63, 48, .inl (fun _ => 0))), (q71, .inl (g71, 48, .inl (fun _ => 0))), (q79, .inl (g79, 48, .inl (fun _ => 0))), (q87, .inl (g87, 48, .inl (fun _ => 0))), (q95, .inl (g95, 6, .inl (fun _ => 0)))] := hD
  refine lv_aload_n hx hb d_M_init_100 rfl (lv_at hl 0 rfl) ?_
  refine lv_bipush (v := (6 : Int32)) hx hb d_M_init_101 (by decide) ?_
  refine va_newa (D := D) (atype := .boolean) (ty := .boolean) (N' := 6) (a0 := (6, .inl (fun _ => 0))) hx hb (hts _ im_11) rfl hK hP hD hS hA (fun _ => rfl) (by decide) (by decide) (by decide) (show 13 ≤ 15 by decide) (show 540 ≤ 552 by decide) d_M_init_103 (fun q103 g103 H hK hP hD hS => ?_)
  have hP : va_P D classes [(h0, .inr (2, [.ref q7, .ref q15, .ref q23, .ref q31, .ref q39, .ref q47, .ref q55, .ref q63, .ref q71, .ref q79, .ref q87, .ref q95, .null, .null, .null, .int 0, .int 0, .int 0, .int 0, .int 0, .int 0, .int 0, .int 0, .int 0, .int 0, .int 0, .int 0])), (q7, .inl (g7, 48, .inl (fun _ => 0))), (q15, .inl (g15, 48, .inl (fun _ => 0))), (q23, .inl (g23, 48, .inl (fun _ => 0))), (q31, .inl (g31, 48, .inl (fun _ => 0))), (q39, .inl (g39, 48, .inl (fun _ => 0))), (q47, .inl (g47, 48, .inl (fun _ => 0))), (q55, .inl (g55, 48, .inl (fun _ => 0))), (q63, .inl (g63, 48, .inl (fun _ => 0))), (q71, .inl (g71, 48, .inl (fun _ => 0))), (q79, .inl (g79, 48, .inl (fun _ => 0))), (q87, .inl (g87, 48, .inl (fun _ => 0))), (q95, .inl (g95, 6, .inl (fun _ => 0))), (q103, .inl (g103, 6, .inl (fun _ => 0)))] H := hP
  have hD : va_D A [(h0, .inr (2, [.ref q7, .ref q15, .ref q23, .ref q31, .ref q39, .ref q47, .ref q55, .ref q63, .ref q71, .ref q79, .ref q87, .ref q95, .null, .null, .null, .int 0, .int 0, .int 0, .int 0, .int 0, .int 0, .int 0, .int 0, .int 0, .int 0, .int 0, .int 0])), (q7, .inl (g7, 48, .inl (fun _ => 0))), (q15, .inl (g15, 48, .inl (fun _ => 0))), (q23, .inl (g23, 48, .inl (fun _ => 0))), (q31, .inl (g31, 48, .inl (fun _ => 0))), (q39, .inl (g39, 48, .inl (fun _ => 0))), (q47, .inl (g47, 48, .inl (fun _ => 0))), (q55, .inl (g55, 48, .inl (fun _ => 0))), (q63, .inl (g63, 48, .inl (fun _ => 0))), (q71, .inl (g71, 48, .inl (fun _ => 0))), (q79, .inl (g79, 48, .inl (fun _ => 0))), (q87, .inl (g87, 48, .inl (fun _ => 0))), (q95, .inl (g95, 6, .inl (fun _ => 0))), (q103, .inl (g103, 6, .inl (fun _ => 0)))] := hD
  have hK : va_K D classes [(g7, .int), (g15, .int), (g23, .int), (g31, .int), (g39, .int), (g47, .int), (g55, .int), (g63, .boolean), (g71, .int), (g79, .int), (g87, .boolean), (g95, .boolean), (g103, .boolean)] s := hK
  refine W.widen (k := 13) (n := 540) (by omega) (by omega) ?_
  refine va_putF (D := D) (ci := 2) (v := .ref q103) (ty := .array .boolean) (C := R_M) (T := F_M) (N := 27) hx hb hts ui_M t_M t_M_ok n_M hown hK hP hD hS 0 rfl rfl 12 (by decide) (hts _ im_31) (fun _ h9 => h9) rfl hin rfl (by decide +kernel) rfl rfl (Nat.le_of_ble_eq_true rfl) d_M_init_105 (fun H locs hP hD hS => ?_)
  have hP : va_P D classes [(h0, .inr (2, [.ref q7, .ref q15, .ref q23, .ref q31, .ref q39, .ref q47, .ref q55, .ref q63, .ref q71, .ref q79, .ref q87, .ref q95, .ref q103, .null, .null, .int 0, .int 0, .int 0, .int 0, .int 0, .int 0, .int 0, .int 0, .int 0, .int 0, .int 0, .int 0])), (q7, .inl (g7, 48, .inl (fun _ => 0))), (q15, .inl (g15, 48, .inl (fun _ => 0))), (q23, .inl (g23, 48, .inl (fun _ => 0))), (q31, .inl (g31, 48, .inl (fun _ => 0))), (q39, .inl (g39, 48, .inl (fun _ => 0))), (q47, .inl (g47, 48, .inl (fun _ => 0))), (q55, .inl (g55, 48, .inl (fun _ => 0))), (q63, .inl (g63, 48, .inl (fun _ => 0))), (q71, .inl (g71, 48, .inl (fun _ => 0))), (q79, .inl (g79, 48, .inl (fun _ => 0))), (q87, .inl (g87, 48, .inl (fun _ => 0))), (q95, .inl (g95, 6, .inl (fun _ => 0))), (q103, .inl (g103, 6, .inl (fun _ => 0)))] H := hP
  have hD : va_D A [(h0, .inr (2, [.ref q7, .ref q15, .ref q23, .ref q31, .ref q39, .ref q47, .ref q55, .ref q63, .ref q71, .ref q79, .ref q87, .ref q95, .ref q103, .null, .null, .int 0, .int 0, .int 0, .int 0, .int 0, .int 0, .int 0, .int 0, .int 0, .int 0, .int 0, .int 0])), (q7, .inl (g7, 48, .inl (fun _ => 0))), (q15, .inl (g15, 48, .inl (fun _ => 0))), (q23, .inl (g23, 48, .inl (fun _ => 0))), (q31, .inl (g31, 48, .inl (fun _ => 0))), (q39, .inl (g39, 48, .inl (fun _ => 0))), (q47, .inl (g47, 48, .inl (fun _ => 0))), (q55, .inl (g55, 48, .inl (fun _ => 0))), (q63, .inl (g63, 48, .inl (fun _ => 0))), (q71, .inl (g71, 48, .inl (fun _ => 0))), (q79, .inl (g79, 48, .inl (fun _ => 0))), (q87, .inl (g87, 48, .inl (fun _ => 0))), (q95, .inl (g95, 6, .inl (fun _ => 0))), (q103, .inl (g103, 6, .inl (fun _ => 0)))] := hD
  refine lv_aload_n hx hb d_M_init_108 rfl (lv_at hl 0 rfl) ?_
  refine lv_bipush (v := (6 : Int32)) hx hb d_M_init_109 (by decide) ?_
  refine va_newa (D := D) (atype := .boolean) (ty := .boolean) (N' := 6) (a0 := (6, .inl (fun _ => 0))) hx hb (hts _ im_11) rfl hK hP hD hS hA (fun _ => rfl) (by decide) (by decide) (by decide) (show 14 ≤ 15 by decide) (show 546 ≤ 552 by decide) d_M_init_111 (fun q111 g111 H hK hP hD hS => ?_)
  have hP : va_P D classes [(h0, .inr (2, [.ref q7, .ref q15, .ref q23, .ref q31, .ref q39, .ref q47, .ref q55, .ref q63, .ref q71, .ref q79, .ref q87, .ref q95, .ref q103, .null, .null, .int 0, .int 0, .int 0, .int 0, .int 0, .int 0, .int 0, .int 0, .int 0, .int 0, .int 0, .int 0])), (q7, .inl (g7, 48, .inl (fun _ => 0))), (q15, .inl (g15, 48, .inl (fun _ => 0))), (q23, .inl (g23, 48, .inl (fun _ => 0))), (q31, .inl (g31, 48, .inl (fun _ => 0))), (q39, .inl (g39, 48, .inl (fun _ => 0))), (q47, .inl (g47, 48, .inl (fun _ => 0))), (q55, .inl (g55, 48, .inl (fun _ => 0))), (q63, .inl (g63, 48, .inl (fun _ => 0))), (q71, .inl (g71, 48, .inl (fun _ => 0))), (q79, .inl (g79, 48, .inl (fun _ => 0))), (q87, .inl (g87, 48, .inl (fun _ => 0))), (q95, .inl (g95, 6, .inl (fun _ => 0))), (q103, .inl (g103, 6, .inl (fun _ => 0))), (q111, .inl (g111, 6, .inl (fun _ => 0)))] H := hP
  have hD : va_D A [(h0, .inr (2, [.ref q7, .ref q15, .ref q23, .ref q31, .ref q39, .ref q47, .ref q55, .ref q63, .ref q71, .ref q79, .ref q87, .ref q95, .ref q103, .null, .null, .int 0, .int 0, .int 0, .int 0, .int 0, .int 0, .int 0, .int 0, .int 0, .int 0, .int 0, .int 0])), (q7, .inl (g7, 48, .inl (fun _ => 0))), (q15, .inl (g15, 48, .inl (fun _ => 0))), (q23, .inl (g23, 48, .inl (fun _ => 0))), (q31, .inl (g31, 48, .inl (fun _ => 0))), (q39, .inl (g39, 48, .inl (fun _ => 0))), (q47, .inl (g47, 48, .inl (fun _ => 0))), (q55, .inl (g55, 48, .inl (fun _ => 0))), (q63, .inl (g63, 48, .inl (fun _ => 0))), (q71, .inl (g71, 48, .inl (fun _ => 0))), (q79, .inl (g79, 48, .inl (fun _ => 0))), (q87, .inl (g87, 48, .inl (fun _ => 0))), (q95, .inl (g95, 6, .inl (fun _ => 0))), (q103, .inl (g103, 6, .inl (fun _ => 0))), (q111, .inl (g111, 6, .inl (fun _ => 0)))] := hD
  have hK : va_K D classes [(g7, .int), (g15, .int), (g23, .int), (g31, .int), (g39, .int), (g47, .int), (g55, .int), (g63, .boolean), (g71, .int), (g79, .int), (g87, .boolean), (g95, .boolean), (g103, .boolean), (g111, .boolean)] s := hK
  refine W.widen (k := 14) (n := 546) (by omega) (by omega) ?_
  refine va_putF (D := D) (ci := 2) (v := .ref q111) (ty := .array .boolean) (C := R_M) (T := F_M) (N := 27) hx hb hts ui_M t_M t_M_ok n_M hown hK hP hD hS 0 rfl rfl 13 (by decide) (hts _ im_32) (fun _ h9 => h9) rfl hin rfl (by decide +kernel) rfl rfl (Nat.le_of_ble_eq_true rfl) d_M_init_113 (fun H locs hP hD hS => ?_)
  have hP : va_P D classes [(h0, .inr (2, [.ref q7, .ref q15, .ref q23, .ref q31, .ref q39, .ref q47, .ref q55, .ref q63, .ref q71, .ref q79, .ref q87, .ref q95, .ref q103, .ref q111, .null, .int 0, .int 0, .int 0, .int 0, .int 0, .int 0, .int 0, .int 0, .int 0, .int 0, .int 0, .int 0])), (q7, .inl (g7, 48, .inl (fun _ => 0))), (q15, .inl (g15, 48, .inl (fun _ => 0))), (q23, .inl (g23, 48, .inl (fun _ => 0))), (q31, .inl (g31, 48, .inl (fun _ => 0))), (q39, .inl (g39, 48, .inl (fun _ => 0))), (q47, .inl (g47, 48, .inl (fun _ => 0))), (q55, .inl (g55, 48, .inl (fun _ => 0))), (q63, .inl (g63, 48, .inl (fun _ => 0))), (q71, .inl (g71, 48, .inl (fun _ => 0))), (q79, .inl (g79, 48, .inl (fun _ => 0))), (q87, .inl (g87, 48, .inl (fun _ => 0))), (q95, .inl (g95, 6, .inl (fun _ => 0))), (q103, .inl (g103, 6, .inl (fun _ => 0))), (q111, .inl (g111, 6, .inl (fun _ => 0)))] H := hP
  have hD : va_D A [(h0, .inr (2, [.ref q7, .ref q15, .ref q23, .ref q31, .ref q39, .ref q47, .ref q55, .ref q63, .ref q71, .ref q79, .ref q87, .ref q95, .ref q103, .ref q111, .null, .int 0, .int 0, .int 0, .int 0, .int 0, .int 0, .int 0, .int 0, .int 0, .int 0, .int 0, .int 0])), (q7, .inl (g7, 48, .inl (fun _ => 0))), (q15, .inl (g15, 48, .inl (fun _ => 0))), (q23, .inl (g23, 48, .inl (fun _ => 0))), (q31, .inl (g31, 48, .inl (fun _ => 0))), (q39, .inl (g39, 48, .inl (fun _ => 0))), (q47, .inl (g47, 48, .inl (fun _ => 0))), (q55, .inl (g55, 48, .inl (fun _ => 0))), (q63, .inl (g63, 48, .inl (fun _ => 0))), (q71, .inl (g71, 48, .inl (fun _ => 0))), (q79, .inl (g79, 48, .inl (fun _ => 0))), (q87, .inl (g87, 48, .inl (fun _ => 0))), (q95, .inl (g95, 6, .inl (fun _ => 0))), (q103, .inl (g103, 6, .inl (fun _ => 0))), (q111, .inl (g111, 6, .inl (fun _ => 0)))] := hD
  refine lv_aload_n hx hb d_M_init_116 rfl (lv_at hl 0 rfl) ?_
  refine lv_bipush (v := (6 : Int32)) hx hb d_M_init_117 (by decide) ?_
  refine va_newa (D := D) (atype := .int) (ty := .int) (N' := 6) (a0 := (6, .inl (fun _ => 0))) hx hb (hts _ im_4) rfl hK hP hD hS hA (fun _ => rfl) (by decide) (by decide) (by decide) (show 15 ≤ 15 by decide) (show 552 ≤ 552 by decide) d_M_init_119 (fun q119 g119 H hK hP hD hS => ?_)
  have hP : va_P D classes [(h0, .inr (2, [.ref q7, .ref q15, .ref q23, .ref q31, .ref q39, .ref q47, .ref q55, .ref q63, .ref q71, .ref q79, .ref q87, .ref q95, .ref q103, .ref q111, .null, .int 0, .int 0, .int 0, .int 0, .int 0, .int 0, .int 0, .int 0, .int 0, .int 0, .int 0, .int 0])), (q7, .inl (g7, 48, .inl (fun _ => 0))), (q15, .inl (g15, 48, .inl (fun _ => 0))), (q23, .inl (g23, 48, .inl (fun _ => 0))), (q31, .inl (g31, 48, .inl (fun _ => 0))), (q39, .inl (g39, 48, .inl (fun _ => 0))), (q47, .inl (g47, 48, .inl (fun _ => 0))), (q55, .inl (g55, 48, .inl (fun _ => 0))), (q63, .inl (g63, 48, .inl (fun _ => 0))), (q71, .inl (g71, 48, .inl (fun _ => 0))), (q79, .inl (g79, 48, .inl (fun _ => 0))), (q87, .inl (g87, 48, .inl (fun _ => 0))), (q95, .inl (g95, 6, .inl (fun _ => 0))), (q103, .inl (g103, 6, .inl (fun _ => 0))), (q111, .inl (g111, 6, .inl (fun _ => 0))), (q119, .inl (g119, 6, .inl (fun _ => 0)))] H := hP
  have hD : va_D A [(h0, .inr (2, [.ref q7, .ref q15, .ref q23, .ref q31, .ref q39, .ref q47, .ref q55, .ref q63, .ref q71, .ref q79, .ref q87, .ref q95, .ref q103, .ref q111, .null, .int 0, .int 0, .int 0, .int 0, .int 0, .int 0, .int 0, .int 0, .int 0, .int 0, .int 0, .int 0])), (q7, .inl (g7, 48, .inl (fun _ => 0))), (q15, .inl (g15, 48, .inl (fun _ => 0))), (q23, .inl (g23, 48, .inl (fun _ => 0))), (q31, .inl (g31, 48, .inl (fun _ => 0))), (q39, .inl (g39, 48, .inl (fun _ => 0))), (q47, .inl (g47, 48, .inl (fun _ => 0))), (q55, .inl (g55, 48, .inl (fun _ => 0))), (q63, .inl (g63, 48, .inl (fun _ => 0))), (q71, .inl (g71, 48, .inl (fun _ => 0))), (q79, .inl (g79, 48, .inl (fun _ => 0))), (q87, .inl (g87, 48, .inl (fun _ => 0))), (q95, .inl (g95, 6, .inl (fun _ => 0))), (q103, .inl (g103, 6, .inl (fun _ => 0))), (q111, .inl (g111, 6, .inl (fun _ => 0))), (q119, .inl (g119, 6, .inl (fun _ => 0)))] := hD
  have hK : va_K D classes [(g7, .int), (g15, .int), (g23, .int), (g31, .int), (g39, .int), (g47, .int), (g55, .int), (g63, .boolean), (g71, .int), (g79, .int), (g87, .boolean), (g95, .boolean), (g103, .boolean), (g111, .boolean), (g119, .int)] s := hK
  refine W.widen (k := 15) (n := 552) (by omega) (by omega) ?_
  refine va_putF (D := D) (ci := 2) (v := .ref q119) (ty := .array .int) (C := R_M) (T := F_M) (N := 27) hx hb hts ui_M t_M t_M_ok n_M hown hK hP hD hS 0 rfl rfl 14 (by decide) (hts _ im_33) (fun _ h9 => h9) rfl hin rfl (by decide +kernel) rfl rfl (Nat.le_of_ble_eq_true rfl) d_M_init_121 (fun H locs hP hD hS => ?_)
  have hP : va_P D classes [(h0, .inr (2, [.ref q7, .ref q15, .ref q23, .ref q31, .ref q39, .ref q47, .ref q55, .ref q63, .ref q71, .ref q79, .ref q87, .ref q95, .ref q103, .ref q111, .ref q119, .int 0, .int 0, .int 0, .int 0, .int 0, .int 0, .int 0, .int 0, .int 0, .int 0, .int 0, .int 0])), (q7, .inl (g7, 48, .inl (fun _ => 0))), (q15, .inl (g15, 48, .inl (fun _ => 0))), (q23, .inl (g23, 48, .inl (fun _ => 0))), (q31, .inl (g31, 48, .inl (fun _ => 0))), (q39, .inl (g39, 48, .inl (fun _ => 0))), (q47, .inl (g47, 48, .inl (fun _ => 0))), (q55, .inl (g55, 48, .inl (fun _ => 0))), (q63, .inl (g63, 48, .inl (fun _ => 0))), (q71, .inl (g71, 48, .inl (fun _ => 0))), (q79, .inl (g79, 48, .inl (fun _ => 0))), (q87, .inl (g87, 48, .inl (fun _ => 0))), (q95, .inl (g95, 6, .inl (fun _ => 0))), (q103, .inl (g103, 6, .inl (fun _ => 0))), (q111, .inl (g111, 6, .inl (fun _ => 0))), (q119, .inl (g119, 6, .inl (fun _ => 0)))] H := hP
  have hD : va_D A [(h0, .inr (2, [.ref q7, .ref q15, .ref q23, .ref q31, .ref q39, .ref q47, .ref q55, .ref q63, .ref q71, .ref q79, .ref q87, .ref q95, .ref q103, .ref q111, .ref q119, .int 0, .int 0, .int 0, .int 0, .int 0, .int 0, .int 0, .int 0, .int 0, .int 0, .int 0, .int 0])), (q7, .inl (g7, 48, .inl (fun _ => 0))), (q15, .inl (g15, 48, .inl (fun _ => 0))), (q23, .inl (g23, 48, .inl (fun _ => 0))), (q31, .inl (g31, 48, .inl (fun _ => 0))), (q39, .inl (g39, 48, .inl (fun _ => 0))), (q47, .inl (g47, 48, .inl (fun _ => 0))), (q55, .inl (g55, 48, .inl (fun _ => 0))), (q63, .inl (g63, 48, .inl (fun _ => 0))), (q71, .inl (g71, 48, .inl (fun _ => 0))), (q79, .inl (g79, 48, .inl (fun _ => 0))), (q87, .inl (g87, 48, .inl (fun _ => 0))), (q95, .inl (g95, 6, .inl (fun _ => 0))), (q103, .inl (g103, 6, .inl (fun _ => 0))), (q111, .inl (g111, 6, .inl (fun _ => 0))), (q119, .inl (g119, 6, .inl (fun _ => 0)))] := hD
  refine lv_aload_n hx hb d_M_init_124 rfl (lv_at hl 0 rfl) ?_
  refine lv_iconst (v := (1 : Int32)) hx hb d_M_init_125 (by decide) ?_
  refine va_put (D := D) (ci := 2) (v := .int (1 : Int32)) (ty := .boolean) (C := R_M) (T := F_M) (N := 27) hx hb hts ui_M t_M t_M_ok n_M hown hK hP hD hS 0 rfl rfl 15 (by decide) (hts _ im_34) (fun _ h9 => h9) rfl (by decide +kernel) rfl rfl (Nat.le_of_ble_eq_true rfl) d_M_init_126 (fun H locs hP hD hS => ?_)
  have hP : va_P D classes [(h0, .inr (2, [.ref q7, .ref q15, .ref q23, .ref q31, .ref q39, .ref q47, .ref q55, .ref q63, .ref q71, .ref q79, .ref q87, .ref q95, .ref q103, .ref q111, .ref q119, .int (1 : Int32), .int 0, .int 0, .int 0, .int 0, .int 0, .int 0, .int 0, .int 0, .int 0, .int 0, .int 0])), (q7, .inl (g7, 48, .inl (fun _ => 0))), (q15, .inl (g15, 48, .inl (fun _ => 0))), (q23, .inl (g23, 48, .inl (fun _ => 0))), (q31, .inl (g31, 48, .inl (fun _ => 0))), (q39, .inl (g39, 48, .inl (fun _ => 0))), (q47, .inl (g47, 48, .inl (fun _ => 0))), (q55, .inl (g55, 48, .inl (fun _ => 0))), (q63, .inl (g63, 48, .inl (fun _ => 0))), (q71, .inl (g71, 48, .inl (fun _ => 0))), (q79, .inl (g79, 48, .inl (fun _ => 0))), (q87, .inl (g87, 48, .inl (fun _ => 0))), (q95, .inl (g95, 6, .inl (fun _ => 0))), (q103, .inl (g103, 6, .inl (fun _ => 0))), (q111, .inl (g111, 6, .inl (fun _ => 0))), (q119, .inl (g119, 6, .inl (fun _ => 0)))] H := hP
  have hD : va_D A [(h0, .inr (2, [.ref q7, .ref q15, .ref q23, .ref q31, .ref q39, .ref q47, .ref q55, .ref q63, .ref q71, .ref q79, .ref q87, .ref q95, .ref q103, .ref q111, .ref q119, .int (1 : Int32), .int 0, .int 0, .int 0, .int 0, .int 0, .int 0, .int 0, .int 0, .int 0, .int 0, .int 0])), (q7, .inl (g7, 48, .inl (fun _ => 0))), (q15, .inl (g15, 48, .inl (fun _ => 0))), (q23, .inl (g23, 48, .inl (fun _ => 0))), (q31, .inl (g31, 48, .inl (fun _ => 0))), (q39, .inl (g39, 48, .inl (fun _ => 0))), (q47, .inl (g47, 48, .inl (fun _ => 0))), (q55, .inl (g55, 48, .inl (fun _ => 0))), (q63, .inl (g63, 48, .inl (fun _ => 0))), (q71, .inl (g71, 48, .inl (fun _ => 0))), (q79, .inl (g79, 48, .inl (fun _ => 0))), (q87, .inl (g87, 48, .inl (fun _ => 0))), (q95, .inl (g95, 6, .inl (fun _ => 0))), (q103, .inl (g103, 6, .inl (fun _ => 0))), (q111, .inl (g111, 6, .inl (fun _ => 0))), (q119, .inl (g119, 6, .inl (fun _ => 0)))] := hD
  refine lv_aload_n hx hb d_M_init_129 rfl (lv_at hl 0 rfl) ?_
  refine lv_iconst (v := (-1 : Int32)) hx hb d_M_init_130 (by decide) ?_
  refine va_put (D := D) (ci := 2) (v := .int (-1 : Int32)) (ty := .int) (C := R_M) (T := F_M) (N := 27) hx hb hts ui_M t_M t_M_ok n_M hown hK hP hD hS 0 rfl rfl 17 (by decide) (hts _ im_35) (fun _ h9 => h9) rfl (by decide +kernel) rfl rfl (Nat.le_of_ble_eq_true rfl) d_M_init_131 (fun H locs hP hD hS => ?_)
  have hP : va_P D classes [(h0, .inr (2, [.ref q7, .ref q15, .ref q23, .ref q31, .ref q39, .ref q47, .ref q55, .ref q63, .ref q71, .ref q79, .ref q87, .ref q95, .ref q103, .ref q111, .ref q119, .int (1 : Int32), .int 0, .int (-1 : Int32), .int 0, .int 0, .int 0, .int 0, .int 0, .int 0, .int 0, .int 0, .int 0])), (q7, .inl (g7, 48, .inl (fun _ => 0))), (q15, .inl (g15, 48, .inl (fun _ => 0))), (q23, .inl (g23, 48, .inl (fun _ => 0))), (q31, .inl (g31, 48, .inl (fun _ => 0))), (q39, .inl (g39, 48, .inl (fun _ => 0))), (q47, .inl (g47, 48, .inl (fun _ => 0))), (q55, .inl (g55, 48, .inl (fun _ => 0))), (q63, .inl (g63, 48, .inl (fun _ => 0))), (q71, .inl (g71, 48, .inl (fun _ => 0))), (q79, .inl (g79, 48, .inl (fun _ => 0))), (q87, .inl (g87, 48, .inl (fun _ => 0))), (q95, .inl (g95, 6, .inl (fun _ => 0))), (q103, .inl (g103, 6, .inl (fun _ => 0))), (q111, .inl (g111, 6, .inl (fun _ => 0))), (q119, .inl (g119, 6, .inl (fun _ => 0)))] H := hP
  have hD : va_D A [(h0, .inr (2, [.ref q7, .ref q15, .ref q23, .ref q31, .ref q39, .ref q47, .ref q55, .ref q63, .ref q71, .ref q79, .ref q87, .ref q95, .ref q103, .ref q111, .ref q119, .int (1 : Int32), .int 0, .int (-1 : Int32), .int 0, .int 0, .int 0, .int 0, .int 0, .int 0, .int 0, .int 0, .int 0])), (q7, .inl (g7, 48, .inl (fun _ => 0))), (q15, .inl (g15, 48, .inl (fun _ => 0))), (q23, .inl (g23, 48, .inl (fun _ => 0))), (q31, .inl (g31, 48, .inl (fun _ => 0))), (q39, .inl (g39, 48, .inl (fun _ => 0))), (q47, .inl (g47, 48, .inl (fun _ => 0))), (q55, .inl (g55, 48, .inl (fun _ => 0))), (q63, .inl (g63, 48, .inl (fun _ => 0))), (q71, .inl (g71, 48, .inl (fun _ => 0))), (q79, .inl (g79, 48, .inl (fun _ => 0))), (q87, .inl (g87, 48, .inl (fun _ => 0))), (q95, .inl (g95, 6, .inl (fun _ => 0))), (q103, .inl (g103, 6, .inl (fun _ => 0))), (q111, .inl (g111, 6, .inl (fun _ => 0))), (q119, .inl (g119, 6, .inl (fun _ => 0)))] := hD
  have hP9 : va_P D classes (wR (fun k => match k with | 1 => g7 | 2 => g15 | 3 => g23 | 4 => g31 | 5 => g39 | 6 => g47 | 7 => g55 | 8 => g63 | 9 => g71 | 10 => g79 | 11 => g87 | 12 => g95 | 13 => g103 | 14 => g111 | 15 => g119 | _ => 0) (fun k => match k with | 0 => h0 | 1 => q7 | 2 => q15 | 3 => q23 | 4 => q31 | 5 => q39 | 6 => q47 | 7 => q55 | 8 => q63 | 9 => q71 | 10 => q79 | 11 => q87 | 12 => q95 | 13 => q103 | 14 => q111 | 15 => q119 | _ => 0) R00) H := hP
  have hD9 : va_D A (wR (fun k => match k with | 1 => g7 | 2 => g15 | 3 => g23 | 4 => g31 | 5 => g39 | 6 => g47 | 7 => g55 | 8 => g63 | 9 => g71 | 10 => g79 | 11 => g87 | 12 => g95 | 13 => g103 | 14 => g111 | 15 => g119 | _ => 0) (fun k => match k with | 0 => h0 | 1 => q7 | 2 => q15 | 3 => q23 | 4 => q31 | 5 => q39 | 6 => q47 | 7 => q55 | 8 => q63 | 9 => q71 | 10 => q79 | 11 => q87 | 12 => q95 | 13 => q103 | 14 => q111 | 15 => q119 | _ => 0) R00) := hD
  have hK9 : va_K D classes (tyR (fun k => match k with | 1 => g7 | 2 => g15 | 3 => g23 | 4 => g31 | 5 => g39 | 6 => g47 | 7 => g55 | 8 => g63 | 9 => g71 | 10 => g79 | 11 => g87 | 12 => g95 | 13 => g103 | 14 => g111 | 15 => g119 | _ => 0)) s := hK
  exact W.vret hx hb hr (fun t ht hW => ⟨⟨((fun k => match k with | 1 => g7 | 2 => g15 | 3 => g23 | 4 => g31 | 5 => g39 | 6 => g47 | 7 => g55 | 8 => g63 | 9 => g71 | 10 => g79 | 11 => g87 | 12 => g95 | 13 => g103 | 14 => g111 | 15 => g119 | _ => 0), (fun k => match k with | 0 => h0 | 1 => q7 | 2 => q15 | 3 => q23 | 4 => q31 | 5 => q39 | 6 => q47 | 7 => q55 | 8 => q63 | 9 => q71 | 10 => q79 | 11 => q87 | 12 => q95 | 13 => q103 | 14 => q111 | 15 => q119 | _ => 0)), rfl, rfl, by rw [ht]; exact hP9, va_K.moved hW.alike hK9, hD9⟩, hS.F ht⟩) hS.2.2 d_M_init_134
set_option maxRecDepth 100000 in
set_option maxHeartbeats 4000000 in
theorem c_S_init (l : Launch) (D : va_G) (h0 sz : Nat) : Met l y_S_init (Cond.code y_S_init b_S_init 1 none :: w_ini) { frames := 2, cells := 10, slots := 233, locals := 32 } (va_Pc [.ref h0] (fun U => U.heap.size = sz ∧ va_P D classes [(h0, .inr (0, [.null, .null, .int 0]))] U.heap ∧ va_K D classes [] U ∧ va_D (fun _ => True) [(h0, .inr (0, [.null, .null, .int 0]))] ∧ va_Nw (.methodLinkNest R_S 11 y_C_init "SpareTagFlash") U)) (va_Qv (fun u : (Nat → ClassId) × (Nat → Nat) => u.2 0 = h0) (fun u t => va_P D classes (wC u.1 u.2 C00) t.heap ∧ va_K D classes (tyC u.1) t ∧ va_D (va_A [(h0, .inr (0, [.null, .null, .int 0]))] sz) (wC u.1 u.2 C00)) (va_A [(h0, .inr (0, [.null, .null, .int 0]))] sz)) 10 233 (va_A [(h0, .inr (0, [.null, .null, .int 0]))] sz) := by
  refine Met.ofW (cc := b_S_init) (maxL := 1) (ret := none) (by decide) rfl ?_
  intro p e s m args below meth c s₁ B hml hv
  obtain ⟨rfl, hsz, hP, hK, hD0, hNw⟩ := hv
  have hx := B.exec
  have hb := B.bytes
  have hr := B.returns
  have hts0 := atoms_spec (ws := Cond.code y_S_init b_S_init 1 none :: w_ini) B.pre
  have hts : ∀ w ∈ w_ini, w.before #[Value.ref h0] s = true := fun w hw => hts0 w (List.mem_cons_of_mem _ hw)
  have hown : s.vm.findClass R_S = some m.cls := findClass_of_methodNamed B.named
  have hlocks := B.notSynchronized
  have hin : meth.name = "<init>" := (name_of_methodNamed B.named B.method).1
  subst hsz
  have hD := hD0.self (sz := s.heap.size)
  generalize hAe : va_A [(h0, .inr (0, [.null, .null, .int 0]))] s.heap.size = A at hD ⊢
  have hA : ∀ q : Nat, s.heap.size ≤ q → A q := fun q h => by rw [← hAe]; exact Or.inr h
  have hS : va_S A s.heap s.heap [] := va_S.rf
  have hP : va_P D classes [(h0, .inr (0, [.null, .null, .int 0]))] s.heap := hP
  have hl := lv_entry ([.ref h0]) (n := 1) (Nat.le_of_ble_eq_true rfl)
  rw [lg_entry_eq]
  generalize (lg_sl ([.ref h0]) ++ List.replicate (1 - (lg_sl ([.ref h0])).length) Slot.unset).toArray = ls at hl ⊢
  have hl : lv_has ls 1 [(0, .ref h0)] := hl
  refine lv_aload_n hx hb d_S_init_0 rfl (lv_at hl 0 rfl) ?_
  refine W.objInit hx hb hown (hts _ im_36) (hts _ im_0) (hts _ im_1) rfl (by rw [hml]; exact hl.1) rfl d_S_init_1 (Nat.le_of_ble_eq_true rfl) (Nat.le_of_ble_eq_true rfl) ?_
  refine W.eq (g2 := F0 m 4 ls []) rfl ?_
  refine lv_aload_n hx hb d_S_init_4 rfl (lv_at hl 0 rfl) ?_
  refine va_new (ci := 1) (fs := [.null, .null, .null, .null, .null, .null, .null, .null, .int 0, .int 0, .int 0]) (C := R_C) (T := F_C) (N := 11) hx hb hts ui_C t_C t_C_ok hown (hts _ im_37) (hts _ im_38) (hts _ im_39) hK hP hD hS hA rfl (fun j hj => by rcases (show j = 0 ∨ j = 1 ∨ j = 2 ∨ j = 3 ∨ j = 4 ∨ j = 5 ∨ j = 6 ∨ j = 7 ∨ j = 8 ∨ j = 9 ∨ j = 10 by omega) with e | e | e | e | e | e | e | e | e | e | e <;> subst e <;> rfl) (show 1 ≤ 10 by decide) (show 11 ≤ 233 by decide) d_S_init_5 (fun q5 H hP hD hS => ?_)
  have hP : va_P D classes [(h0, .inr (0, [.null, .null, .int 0])), (q5, .inr (1, [.null, .null, .null, .null, .null, .null, .null, .null, .int 0, .int 0, .int 0]))] H := hP
  have hD : va_D A [(h0, .inr (0, [.null, .null, .int 0])), (q5, .inr (1, [.null, .null, .null, .null, .null, .null, .null, .null, .int 0, .int 0, .int 0]))] := hD
  refine W.widen (k := 1) (n := 11) (by omega) (by omega) ?_
  refine lv_dup hx hb d_S_init_8 rfl ?_
  have hPc := hP.sub (ws' := [(q5, .inr (1, [.null, .null, .null, .null, .null, .null, .null, .null, .int 0, .int 0, .int 0]))]) [1] rfl
  have hDc := hD.sub (ws' := [(q5, .inr (1, [.null, .null, .null, .null, .null, .null, .null, .null, .int 0, .int 0, .int 0]))]) [1] (by decide) rfl
  have hKc := hK.sub (tys' := []) [] rfl
  have hFc := va_free (wc := [(q5, .inr (1, [.null, .null, .null, .null, .null, .null, .null, .null, .int 0, .int 0, .int 0]))]) hD hS hA [1] rfl
  refine va_callv (va_runIN (host := "SpareTagFlash") (As := []) (rest := [.ref q5, .ref h0]) ⟨hx, hb, hml, hown, hts⟩ (c_C_init l D q5 H.size) ⟨va_cnB 0 hts gi_C rfl rfl rfl hNw (hts _ im_39) (by decide +kernel) ⟨Nat.le_of_ble_eq_true rfl, Nat.le_of_ble_eq_true rfl⟩, rfl, hts _ im_40⟩ ⟨fun a U g mk q => by obtain ⟨q0, q1, qP, qK, qD⟩ := q; exact ⟨q0, q1, qP, va_K.moved (u := U) (U := U.calling g mk a) (Vm.Alike.refl U.vm) qK, qD⟩, fun U hU hW => ⟨rfl, by rw [hU], by rw [hU]; exact hPc, va_K.moved hW.alike hKc, hDc.weaken (fun _ _ _ _ => trivial)⟩⟩ rfl rfl hl.1 rfl (lv_room (Nat.le_of_ble_eq_true rfl)) d_S_init_9 ⟨show 1 + 8 ≤ 10 by decide, show 11 + 174 ≤ 233 by decide⟩) hS (fun q _ h => hFc q h) hFc (fun u t H1 locs ht hvm hu hB hz1 hk1 hS => ?_)
  obtain ⟨g, a⟩ := u
  obtain ⟨hP1, hK1, hD1⟩ := hB
  rw [ht] at hP1
  have hK1 := va_K.moved hvm.symm hK1
  have hu : a 1 = q5 := hu
  subst hu
  obtain ⟨hP, hD⟩ := va_join (wr := [(h0, .inr (0, [.null, .null, .int 0]))]) (w1 := kC g a) hP hD [1] [0] rfl rfl (by decide) (by decide) hk1 hFc hP1 hD1
  have hK : va_K D classes (kyC g) s := hK1
  generalize H1 = H at hP hS ⊢
  refine W.widen (k := 9) (n := 185) (by omega) (by omega) ?_
  have hP : va_P D classes [(h0, .inr (0, [.null, .null, .int 0])), (a 1, .inr (1, [.ref (a 2), .ref (a 3), .ref (a 4), .ref (a 5), .ref (a 6), .ref (a 7), .ref (a 8), .ref (a 9), .int 0, .int 0, .int (-1)])), (a 2, .inl (g 2, 48, .inl (fun _ => 0))), (a 3, .inl (g 3, 48, .inl (fun _ => 0))), (a 4, .inl (g 4, 48, .inr (.inl (fun _ => 0)))), (a 5, .inl (g 5, 6, .inl (fun _ => 0))), (a 6, .inl (g 6, 6, .inl (fun _ => 0))), (a 7, .inl (g 7, 6, .inl (fun _ => 0))), (a 8, .inl (g 8, 6, .inl (fun _ => 0))), (a 9, .inl (g 9, 6, .inl (fun _ => 0)))] H := hP
  have hD : va_D A [(h0, .inr (0, [.null, .null, .int 0])), (a 1, .inr (1, [.ref (a 2), .ref (a 3), .ref (a 4), .ref (a 5), .ref (a 6), .ref (a 7), .ref (a 8), .ref (a 9), .int 0, .int 0, .int (-1)])), (a 2, .inl (g 2, 48, .inl (fun _ => 0))), (a 3, .inl (g 3, 48, .inl (fun _ => 0))), (a 4, .inl (g 4, 48, .inr (.inl (fun _ => 0)))), (a 5, .inl (g 5, 6, .inl (fun _ => 0))), (a 6, .inl (g 6, 6, .inl (fun _ => 0))), (a 7, .inl (g 7, 6, .inl (fun _ => 0))), (a 8, .inl (g 8, 6, .inl (fun _ => 0))), (a 9, .inl (g 9, 6, .inl (fun _ => 0)))] := hD
  refine va_putF (D := D) (ci := 0) (v := .ref (a 1)) (ty := .object "SpareTagFlash$Chip") (C := R_S) (T := F_S) (N := 3) hx hb hts ui_S t_S t_S_ok n_S hown hK hP hD hS 0 rfl rfl 0 (by decide) (hts _ im_41) (fun _ h9 => h9) rfl hin rfl (by decide +kernel) rfl rfl (Nat.le_of_ble_eq_true rfl) d_S_init_12 (fun H locs hP hD hS => ?_)
  have hP : va_P D classes [(h0, .inr (0, [.ref (a 1), .null, .int 0])), (a 1, .inr (1, [.ref (a 2), .ref (a 3), .ref (a 4), .ref (a 5), .ref (a 6), .ref (a 7), .ref (a 8), .ref (a 9), .int 0, .int 0, .int (-1)])), (a 2, .inl (g 2, 48, .inl (fun _ => 0))), (a 3, .inl (g 3, 48, .inl (fun _ => 0))), (a 4, .inl (g 4, 48, .inr (.inl (fun _ => 0)))), (a 5, .inl (g 5, 6, .inl (fun _ => 0))), (a 6, .inl (g 6, 6, .inl (fun _ => 0))), (a 7, .inl (g 7, 6, .inl (fun _ => 0))), (a 8, .inl (g 8, 6, .inl (fun _ => 0))), (a 9, .inl (g 9, 6, .inl (fun _ => 0)))] H := hP
  have hD : va_D A [(h0, .inr (0, [.ref (a 1), .null, .int 0])), (a 1, .inr (1, [.ref (a 2), .ref (a 3), .ref (a 4), .ref (a 5), .ref (a 6), .ref (a 7), .ref (a 8), .ref (a 9), .int 0, .int 0, .int (-1)])), (a 2, .inl (g 2, 48, .inl (fun _ => 0))), (a 3, .inl (g 3, 48, .inl (fun _ => 0))), (a 4, .inl (g 4, 48, .inr (.inl (fun _ => 0)))), (a 5, .inl (g 5, 6, .inl (fun _ => 0))), (a 6, .inl (g 6, 6, .inl (fun _ => 0))), (a 7, .inl (g 7, 6, .inl (fun _ => 0))), (a 8, .inl (g 8, 6, .inl (fun _ => 0))), (a 9, .inl (g 9, 6, .inl (fun _ => 0)))] := hD
  refine lv_aload_n hx hb d_S_init_15 rfl (lv_at hl 0 rfl) ?_
  refine lv_bipush (v := (48 : Int32)) hx hb d_S_init_16 (by decide) ?_
  refine va_newa (D := D) (atype := .boolean) (ty := .boolean) (N' := 48) (a0 := (48, .inl (fun _ => 0))) hx hb (hts _ im_11) rfl hK hP hD hS hA (fun _ => rfl) (by decide) (by decide) (by decide) (show 10 ≤ 10 by decide) (show 233 ≤ 233 by decide) d_S_init_18 (fun q18 g18 H hK hP hD hS => ?_)
  have hP : va_P D classes [(h0, .inr (0, [.ref (a 1), .null, .int 0])), (a 1, .inr (1, [.ref (a 2), .ref (a 3), .ref (a 4), .ref (a 5), .ref (a 6), .ref (a 7), .ref (a 8), .ref (a 9), .int 0, .int 0, .int (-1)])), (a 2, .inl (g 2, 48, .inl (fun _ => 0))), (a 3, .inl (g 3, 48, .inl (fun _ => 0))), (a 4, .inl (g 4, 48, .inr (.inl (fun _ => 0)))), (a 5, .inl (g 5, 6, .inl (fun _ => 0))), (a 6, .inl (g 6, 6, .inl (fun _ => 0))), (a 7, .inl (g 7, 6, .inl (fun _ => 0))), (a 8, .inl (g 8, 6, .inl (fun _ => 0))), (a 9, .inl (g 9, 6, .inl (fun _ => 0))), (q18, .inl (g18, 48, .inl (fun _ => 0)))] H := hP
  have hD : va_D A [(h0, .inr (0, [.ref (a 1), .null, .int 0])), (a 1, .inr (1, [.ref (a 2), .ref (a 3), .ref (a 4), .ref (a 5), .ref (a 6), .ref (a 7), .ref (a 8), .ref (a 9), .int 0, .int 0, .int (-1)])), (a 2, .inl (g 2, 48, .inl (fun _ => 0))), (a 3, .inl (g 3, 48, .inl (fun _ => 0))), (a 4, .inl (g 4, 48, .inr (.inl (fun _ => 0)))), (a 5, .inl (g 5, 6, .inl (fun _ => 0))), (a 6, .inl (g 6, 6, .inl (fun _ => 0))), (a 7, .inl (g 7, 6, .inl (fun _ => 0))), (a 8, .inl (g 8, 6, .inl (fun _ => 0))), (a 9, .inl (g 9, 6, .inl (fun _ => 0))), (q18, .inl (g18, 48, .inl (fun _ => 0)))] := hD
  have hK : va_K D classes (kyC g ++ [(g18, .boolean)]) s := hK
  refine W.widen (k := 10) (n := 233) (by omega) (by omega) ?_
  refine va_putF (D := D) (ci := 0) (v := .ref q18) (ty := .array .boolean) (C := R_S) (T := F_S) (N := 3) hx hb hts ui_S t_S t_S_ok n_S hown hK hP hD hS 0 rfl rfl 1 (by decide) (hts _ im_42) (fun _ h9 => h9) rfl hin rfl (by decide +kernel) rfl rfl (Nat.le_of_ble_eq_true rfl) d_S_init_20 (fun H locs hP hD hS => ?_)
  have hP : va_P D classes [(h0, .inr (0, [.ref (a 1), .ref q18, .int 0])), (a 1, .inr (1, [.ref (a 2), .ref (a 3), .ref (a 4), .ref (a 5), .ref (a 6), .ref (a 7), .ref (a 8), .ref (a 9), .int 0, .int 0, .int (-1)])), (a 2, .inl (g 2, 48, .inl (fun _ => 0))), (a 3, .inl (g 3, 48, .inl (fun _ => 0))), (a 4, .inl (g 4, 48, .inr (.inl (fun _ => 0)))), (a 5, .inl (g 5, 6, .inl (fun _ => 0))), (a 6, .inl (g 6, 6, .inl (fun _ => 0))), (a 7, .inl (g 7, 6, .inl (fun _ => 0))), (a 8, .inl (g 8, 6, .inl (fun _ => 0))), (a 9, .inl (g 9, 6, .inl (fun _ => 0))), (q18, .inl (g18, 48, .inl (fun _ => 0)))] H := hP
  have hD : va_D A [(h0, .inr (0, [.ref (a 1), .ref q18, .int 0])), (a 1, .inr (1, [.ref (a 2), .ref (a 3), .ref (a 4), .ref (a 5), .ref (a 6), .ref (a 7), .ref (a 8), .ref (a 9), .int 0, .int 0, .int (-1)])), (a 2, .inl (g 2, 48, .inl (fun _ => 0))), (a 3, .inl (g 3, 48, .inl (fun _ => 0))), (a 4, .inl (g 4, 48, .inr (.inl (fun _ => 0)))), (a 5, .inl (g 5, 6, .inl (fun _ => 0))), (a 6, .inl (g 6, 6, .inl (fun _ => 0))), (a 7, .inl (g 7, 6, .inl (fun _ => 0))), (a 8, .inl (g 8, 6, .inl (fun _ => 0))), (a 9, .inl (g 9, 6, .inl (fun _ => 0))), (q18, .inl (g18, 48, .inl (fun _ => 0)))] := hD
  refine lv_aload_n hx hb d_S_init_23 rfl (lv_at hl 0 rfl) ?_
  refine lv_iconst (v := (1 : Int32)) hx hb d_S_init_24 (by decide) ?_
  refine va_put (D := D) (ci := 0) (v := .int 1) (ty := .boolean) (C := R_S) (T := F_S) (N := 3) hx hb hts ui_S t_S t_S_ok n_S hown hK hP hD hS 0 rfl rfl 2 (by decide) (hts _ im_43) (fun _ h9 => h9) rfl (by decide +kernel) rfl rfl (Nat.le_of_ble_eq_true rfl) d_S_init_25 (fun H locs hP hD hS => ?_)
  have hP9 : va_P D classes (wC (fun k => cond (Nat.beq k 10) g18 (g k)) (fun k => cond (Nat.beq k 0) h0 (cond (Nat.beq k 10) q18 (a k))) C00) H := hP
  have hD9 : va_D A (wC (fun k => cond (Nat.beq k 10) g18 (g k)) (fun k => cond (Nat.beq k 0) h0 (cond (Nat.beq k 10) q18 (a k))) C00) := hD
  have hK9 : va_K D classes (tyC (fun k => cond (Nat.beq k 10) g18 (g k))) s := hK
  exact W.vret hx hb hr (fun t ht hW => ⟨⟨((fun k => cond (Nat.beq k 10) g18 (g k)), (fun k => cond (Nat.beq k 0) h0 (cond (Nat.beq k 10) q18 (a k)))), rfl, rfl, by rw [ht]; exact hP9, va_K.moved hW.alike hK9, hD9⟩, hS.F ht⟩) hS.2.2 d_S_init_28
