def R_S : String := "SpareTagFlash"
def R_C : String := "SpareTagFlash$Chip"
def R_T : String := "SpareTagFlash$Tags"
def R_M : String := "SpareTagFlashModel"
def R_J : String := "java/lang/Long"
def F_S : u_T := fun k => match k with
  | 0 => ("SpareTagFlash", "chip", "LSpareTagFlash$Chip;", true)
  | 1 => ("SpareTagFlash", "stale", "[Z", true)
  | _ => ("SpareTagFlash", "on", "Z", false)
def t_S : Nat → FieldType := fun k => match k with
  | 0 => .object "SpareTagFlash$Chip"
  | 1 => .array .boolean
  | _ => .boolean
abbrev w_S : List Cond := u_ws R_S F_S 3
theorem n_S : ∀ a, a < 3 → ∀ b, b < 3 → a ≠ b → (F_S a).2.1 ≠ (F_S b).2.1 := by decide +kernel
theorem t_S_ok : ∀ k, k < 3 → parseFieldDescriptor (F_S k).2.2.1 = some (t_S k) := by decide +kernel
def F_C : u_T := fun k => match k with
  | 0 => ("SpareTagFlash$Chip", "tagsOf", "[I", true)
  | 1 => ("SpareTagFlash$Chip", "words", "[I", true)
  | 2 => ("SpareTagFlash$Chip", "turnedBits", "[J", true)
  | 3 => ("SpareTagFlash$Chip", "programmed", "[I", true)
  | 4 => ("SpareTagFlash$Chip", "timesErased", "[I", true)
  | 5 => ("SpareTagFlash$Chip", "worn", "[Z", true)
  | 6 => ("SpareTagFlash$Chip", "bad", "[Z", true)
  | 7 => ("SpareTagFlash$Chip", "touched", "[Z", true)
  | 8 => ("SpareTagFlash$Chip", "regionValid", "Z", false)
  | 9 => ("SpareTagFlash$Chip", "stepsDone", "I", false)
  | _ => ("SpareTagFlash$Chip", "stepsLeft", "I", false)
def t_C : Nat → FieldType := fun k => match k with
  | 0 => .array .int
  | 1 => .array .int
  | 2 => .array .long
  | 3 => .array .int
  | 4 => .array .int
  | 5 => .array .boolean
  | 6 => .array .boolean
  | 7 => .array .boolean
  | 8 => .boolean
  | 9 => .int
  | _ => .int
abbrev w_C : List Cond := u_ws R_C F_C 11
theorem n_C : ∀ a, a < 11 → ∀ b, b < 11 → a ≠ b → (F_C a).2.1 ≠ (F_C b).2.1 := by decide +kernel
theorem t_C_ok : ∀ k, k < 11 → parseFieldDescriptor (F_C k).2.2.1 = some (t_C k) := by decide +kernel
def F_M : u_T := fun k => match k with
  | 0 => ("SpareTagFlashModel", "state", "[I", true)
  | 1 => ("SpareTagFlashModel", "object", "[I", true)
  | 2 => ("SpareTagFlashModel", "chunk", "[I", true)
  | 3 => ("SpareTagFlashModel", "serial", "[I", true)
  | 4 => ("SpareTagFlashModel", "word", "[I", true)
  | 5 => ("SpareTagFlashModel", "parent", "[I", true)
  | 6 => ("SpareTagFlashModel", "length", "[I", true)
  | 7 => ("SpareTagFlashModel", "folder", "[Z", true)
  | 8 => ("SpareTagFlashModel", "first", "[I", true)
  | 9 => ("SpareTagFlashModel", "second", "[I", true)
  | 10 => ("SpareTagFlashModel", "stale", "[Z", true)
  | 11 => ("SpareTagFlashModel", "bad", "[Z", true)
  | 12 => ("SpareTagFlashModel", "worn", "[Z", true)
  | 13 => ("SpareTagFlashModel", "touched", "[Z", true)
  | 14 => ("SpareTagFlashModel", "erased", "[I", true)
  | 15 => ("SpareTagFlashModel", "on", "Z", false)
  | 16 => ("SpareTagFlashModel", "valid", "Z", false)
  | 17 => ("SpareTagFlashModel", "left", "I", false)
  | 18 => ("SpareTagFlashModel", "done", "I", false)
  | 19 => ("SpareTagFlashModel", "newObject", "I", false)
  | 20 => ("SpareTagFlashModel", "newChunk", "I", false)
  | 21 => ("SpareTagFlashModel", "newWord", "I", false)
  | 22 => ("SpareTagFlashModel", "newParent", "I", false)
  | 23 => ("SpareTagFlashModel", "newLength", "I", false)
  | 24 => ("SpareTagFlashModel", "newFolder", "Z", false)
  | 25 => ("SpareTagFlashModel", "newFirst", "I", false)
  | _ => ("SpareTagFlashModel", "newSecond", "I", false)
def t_M : Nat → FieldType := fun k => match k with
  | 0 => .array .int
  | 1 => .array .int
  | 2 => .array .int
  | 3 => .array .int
  | 4 => .array .int
  | 5 => .array .int
  | 6 => .array .int
  | 7 => .array .boolean
  | 8 => .array .int
  | 9 => .array .int
  | 10 => .array .boolean
  | 11 => .array .boolean
  | 12 => .array .boolean
  | 13 => .array .boolean
  | 14 => .array .int
  | 15 => .boolean
  | 16 => .boolean
  | 17 => .int
  | 18 => .int
  | 19 => .int
  | 20 => .int
  | 21 => .int
  | 22 => .int
  | 23 => .int
  | 24 => .boolean
  | 25 => .int
  | _ => .int
abbrev w_M : List Cond := u_ws R_M F_M 27
theorem n_M : ∀ a, a < 27 → ∀ b, b < 27 → a ≠ b → (F_M a).2.1 ≠ (F_M b).2.1 := by decide +kernel
theorem t_M_ok : ∀ k, k < 27 → parseFieldDescriptor (F_M k).2.2.1 = some (t_M k) := by decide +kernel
abbrev classes : List vw_C := [(R_S, F_S, 3), (R_C, F_C, 11), (R_M, F_M, 27)]
abbrev b_C_isProgrammed : ByteArray := prog_2_method_2_code
def y_C_isProgrammed : MethodName := ⟨R_C, "isProgrammed", "(I)Z"⟩
abbrev b_T_isMarked : ByteArray := prog_3_method_7_code
def y_T_isMarked : MethodName := ⟨R_T, "isMarked", "(I)Z"⟩
abbrev b_C_isLive : ByteArray := prog_2_method_3_code
def y_C_isLive : MethodName := ⟨R_C, "isLive", "(I)Z"⟩
abbrev b_T_ofChunk : ByteArray := prog_3_method_2_code
def y_T_ofChunk : MethodName := ⟨R_T, "ofChunk", "(II)I"⟩
abbrev b_T_areOf : ByteArray := prog_3_method_14_code
def y_T_areOf : MethodName := ⟨R_T, "areOf", "(III)Z"⟩
abbrev b_C_livePage : ByteArray := prog_2_method_6_code
def y_C_livePage : MethodName := ⟨R_C, "livePage", "(II)I"⟩
abbrev b_S_isThere : ByteArray := prog_1_method_27_code
def y_S_isThere : MethodName := ⟨R_S, "isThere", "(I)Z"⟩
abbrev b_S_lowestAbsentObject : ByteArray := prog_1_method_34_code
def y_S_lowestAbsentObject : MethodName := ⟨R_S, "lowestAbsentObject", "()I"⟩
abbrev b_C_countFree : ByteArray := prog_2_method_11_code
def y_C_countFree : MethodName := ⟨R_C, "countFree", "()I"⟩
abbrev b_C_countLiveIn : ByteArray := prog_2_method_9_code
def y_C_countLiveIn : MethodName := ⟨R_C, "countLiveIn", "(I)I"⟩
abbrev b_S_blockToCollect : ByteArray := prog_1_method_41_code
def y_S_blockToCollect : MethodName := ⟨R_S, "blockToCollect", "()I"⟩
abbrev b_C_takeStep : ByteArray := prog_2_method_21_code
def y_C_takeStep : MethodName := ⟨R_C, "takeStep", "()Z"⟩
abbrev b_C_erase : ByteArray := prog_2_method_17_code
def y_C_erase : MethodName := ⟨R_C, "erase", "(I)Z"⟩
abbrev b_J_bitCount : ByteArray := prog_6_method_50_code
def y_J_bitCount : MethodName := ⟨R_J, "bitCount", "(J)I"⟩
abbrev b_C_isUnreadable : ByteArray := prog_2_method_4_code
def y_C_isUnreadable : MethodName := ⟨R_C, "isUnreadable", "(I)Z"⟩
abbrev b_C_mark : ByteArray := prog_2_method_16_code
def y_C_mark : MethodName := ⟨R_C, "mark", "(I)Z"⟩
abbrev b_C_blockOfNextPage : ByteArray := prog_2_method_20_code
def y_C_blockOfNextPage : MethodName := ⟨R_C, "blockOfNextPage", "()I"⟩
abbrev b_C_program : ByteArray := prog_2_method_15_code
def y_C_program : MethodName := ⟨R_C, "program", "(IIJ)Z"⟩
abbrev b_T_serialAfter : ByteArray := prog_3_method_6_code
def y_T_serialAfter : MethodName := ⟨R_T, "serialAfter", "(I)I"⟩
abbrev b_T_withSerial : ByteArray := prog_3_method_11_code
def y_T_withSerial : MethodName := ⟨R_T, "withSerial", "(II)I"⟩
abbrev b_S_put : ByteArray := prog_1_method_36_code
def y_S_put : MethodName := ⟨R_S, "put", "(IIIJ)Z"⟩
abbrev b_S_putWordOf : ByteArray := prog_1_method_37_code
def y_S_putWordOf : MethodName := ⟨R_S, "putWordOf", "(II)Z"⟩
abbrev b_S_collect : ByteArray := prog_1_method_42_code
def y_S_collect : MethodName := ⟨R_S, "collect", "(I)Z"⟩
abbrev b_S_switchOff : ByteArray := prog_1_method_23_code
def y_S_switchOff : MethodName := ⟨R_S, "switchOff", "()I"⟩
abbrev b_S_makeRoom : ByteArray := prog_1_method_40_code
def y_S_makeRoom : MethodName := ⟨R_S, "makeRoom", "(I)I"⟩
abbrev b_S_headerTags : ByteArray := prog_1_method_29_code
def y_S_headerTags : MethodName := ⟨R_S, "headerTags", "(I)I"⟩
abbrev b_T_parent : ByteArray := prog_3_method_8_code
def y_T_parent : MethodName := ⟨R_T, "parent", "(I)I"⟩
abbrev b_S_isIn : ByteArray := prog_1_method_31_code
def y_S_isIn : MethodName := ⟨R_S, "isIn", "(II)Z"⟩
abbrev b_C_wordRead : ByteArray := prog_2_method_5_code
def y_C_wordRead : MethodName := ⟨R_C, "wordRead", "(I)J"⟩
abbrev b_S_nameRead : ByteArray := prog_1_method_30_code
def y_S_nameRead : MethodName := ⟨R_S, "nameRead", "(I)J"⟩
abbrev b_S_objectNamed : ByteArray := prog_1_method_32_code
def y_S_objectNamed : MethodName := ⟨R_S, "objectNamed", "(II)I"⟩
abbrev b_T_isOfDirectory : ByteArray := prog_3_method_10_code
def y_T_isOfDirectory : MethodName := ⟨R_T, "isOfDirectory", "(I)Z"⟩
abbrev b_S_isDirectory : ByteArray := prog_1_method_28_code
def y_S_isDirectory : MethodName := ⟨R_S, "isDirectory", "(I)Z"⟩
abbrev b_S_refusalOfDirectory : ByteArray := prog_1_method_26_code
def y_S_refusalOfDirectory : MethodName := ⟨R_S, "refusalOfDirectory", "(I)I"⟩
abbrev b_T_ofHeader : ByteArray := prog_3_method_3_code
def y_T_ofHeader : MethodName := ⟨R_T, "ofHeader", "(IIZ)I"⟩
abbrev b_S_create : ByteArray := prog_1_method_2_code
def y_S_create : MethodName := ⟨R_S, "create", "(IIZ)I"⟩
abbrev b_T_withLength : ByteArray := prog_3_method_13_code
def y_T_withLength : MethodName := ⟨R_T, "withLength", "(II)I"⟩
abbrev b_S_putLength : ByteArray := prog_1_method_38_code
def y_S_putLength : MethodName := ⟨R_S, "putLength", "(II)Z"⟩
abbrev b_S_refusalOfObject : ByteArray := prog_1_method_24_code
def y_S_refusalOfObject : MethodName := ⟨R_S, "refusalOfObject", "(I)I"⟩
abbrev b_S_refusalOfFile : ByteArray := prog_1_method_25_code
def y_S_refusalOfFile : MethodName := ⟨R_S, "refusalOfFile", "(I)I"⟩
abbrev b_T_length : ByteArray := prog_3_method_9_code
def y_T_length : MethodName := ⟨R_T, "length", "(I)I"⟩
abbrev b_S_write : ByteArray := prog_1_method_3_code
def y_S_write : MethodName := ⟨R_S, "write", "(III)I"⟩
abbrev b_S_read : ByteArray := prog_1_method_4_code
def y_S_read : MethodName := ⟨R_S, "read", "(II)J"⟩
abbrev b_S_markChunks : ByteArray := prog_1_method_39_code
def y_S_markChunks : MethodName := ⟨R_S, "markChunks", "(II)Z"⟩
abbrev b_S_truncate : ByteArray := prog_1_method_5_code
def y_S_truncate : MethodName := ⟨R_S, "truncate", "(II)I"⟩
abbrev b_S_liesIn : ByteArray := prog_1_method_35_code
def y_S_liesIn : MethodName := ⟨R_S, "liesIn", "(II)Z"⟩
abbrev b_T_withParent : ByteArray := prog_3_method_12_code
def y_T_withParent : MethodName := ⟨R_T, "withParent", "(II)I"⟩
abbrev b_S_move : ByteArray := prog_1_method_6_code
def y_S_move : MethodName := ⟨R_S, "move", "(III)I"⟩
abbrev b_S_objectsIn : ByteArray := prog_1_method_33_code
def y_S_objectsIn : MethodName := ⟨R_S, "objectsIn", "(I)I"⟩
abbrev b_S_remove : ByteArray := prog_1_method_7_code
def y_S_remove : MethodName := ⟨R_S, "remove", "(I)I"⟩
abbrev b_S_find : ByteArray := prog_1_method_8_code
def y_S_find : MethodName := ⟨R_S, "find", "(II)I"⟩
abbrev b_S_size : ByteArray := prog_1_method_9_code
def y_S_size : MethodName := ⟨R_S, "size", "(I)I"⟩
abbrev b_S_parentOf : ByteArray := prog_1_method_10_code
def y_S_parentOf : MethodName := ⟨R_S, "parentOf", "(I)I"⟩
abbrev b_S_nameOf : ByteArray := prog_1_method_11_code
def y_S_nameOf : MethodName := ⟨R_S, "nameOf", "(I)J"⟩
abbrev b_C_countLive : ByteArray := prog_2_method_10_code
def y_C_countLive : MethodName := ⟨R_C, "countLive", "()I"⟩
abbrev b_C_dropRegion : ByteArray := prog_2_method_18_code
def y_C_dropRegion : MethodName := ⟨R_C, "dropRegion", "()Z"⟩
abbrev b_C_fillRegion : ByteArray := prog_2_method_19_code
def y_C_fillRegion : MethodName := ⟨R_C, "fillRegion", "()Z"⟩
abbrev b_S_checkpoint : ByteArray := prog_1_method_12_code
def y_S_checkpoint : MethodName := ⟨R_S, "checkpoint", "()I"⟩
abbrev b_C_countGood : ByteArray := prog_2_method_12_code
def y_C_countGood : MethodName := ⟨R_C, "countGood", "()I"⟩
abbrev b_C_countGoodTouched : ByteArray := prog_2_method_13_code
def y_C_countGoodTouched : MethodName := ⟨R_C, "countGoodTouched", "()I"⟩
abbrev b_S_markStale : ByteArray := prog_1_method_45_code
def y_S_markStale : MethodName := ⟨R_S, "markStale", "()Z"⟩
abbrev b_T_follow : ByteArray := prog_3_method_15_code
def y_T_follow : MethodName := ⟨R_T, "follow", "(II)Z"⟩
abbrev b_C_hasSuccessor : ByteArray := prog_2_method_8_code
def y_C_hasSuccessor : MethodName := ⟨R_C, "hasSuccessor", "(I)Z"⟩
abbrev b_C_latestHeader : ByteArray := prog_2_method_7_code
def y_C_latestHeader : MethodName := ⟨R_C, "latestHeader", "(I)I"⟩
abbrev b_T_chunk : ByteArray := prog_3_method_5_code
def y_T_chunk : MethodName := ⟨R_T, "chunk", "(I)I"⟩
abbrev b_T_object : ByteArray := prog_3_method_4_code
def y_T_object : MethodName := ⟨R_T, "object", "(I)I"⟩
abbrev b_S_isBeyondFile : ByteArray := prog_1_method_44_code
def y_S_isBeyondFile : MethodName := ⟨R_S, "isBeyondFile", "(I)Z"⟩
abbrev b_S_settleStale : ByteArray := prog_1_method_43_code
def y_S_settleStale : MethodName := ⟨R_S, "settleStale", "()V"⟩
abbrev b_S_mount : ByteArray := prog_1_method_13_code
def y_S_mount : MethodName := ⟨R_S, "mount", "(Z)I"⟩
abbrev b_S_cut : ByteArray := prog_1_method_14_code
def y_S_cut : MethodName := ⟨R_S, "cut", "(I)V"⟩
abbrev b_C_turnBit : ByteArray := prog_2_method_14_code
def y_C_turnBit : MethodName := ⟨R_C, "turnBit", "(II)Z"⟩
abbrev b_S_isBlock : ByteArray := prog_1_method_21_code
def y_S_isBlock : MethodName := ⟨R_S, "isBlock", "(I)Z"⟩
abbrev b_S_isPage : ByteArray := prog_1_method_22_code
def y_S_isPage : MethodName := ⟨R_S, "isPage", "(II)Z"⟩
abbrev b_S_flip : ByteArray := prog_1_method_15_code
def y_S_flip : MethodName := ⟨R_S, "flip", "(III)Z"⟩
abbrev b_S_wear : ByteArray := prog_1_method_16_code
def y_S_wear : MethodName := ⟨R_S, "wear", "(I)Z"⟩
abbrev b_S_tags : ByteArray := prog_1_method_17_code
def y_S_tags : MethodName := ⟨R_S, "tags", "(II)I"⟩
abbrev b_S_free : ByteArray := prog_1_method_18_code
def y_S_free : MethodName := ⟨R_S, "free", "()I"⟩
abbrev b_S_erases : ByteArray := prog_1_method_19_code
def y_S_erases : MethodName := ⟨R_S, "erases", "(I)I"⟩
abbrev b_S_steps : ByteArray := prog_1_method_20_code
def y_S_steps : MethodName := ⟨R_S, "steps", "()I"⟩
abbrev b_M_step : ByteArray := prog_5_method_2_code
def y_M_step : MethodName := ⟨R_M, "step", "()Z"⟩
abbrev b_M_programmed : ByteArray := prog_5_method_3_code
def y_M_programmed : MethodName := ⟨R_M, "programmed", "(I)I"⟩
abbrev b_M_lives : ByteArray := prog_5_method_4_code
def y_M_lives : MethodName := ⟨R_M, "lives", "(I)I"⟩
abbrev b_M_nextPage : ByteArray := prog_5_method_5_code
def y_M_nextPage : MethodName := ⟨R_M, "nextPage", "()I"⟩
abbrev b_M_page : ByteArray := prog_5_method_6_code
def y_M_page : MethodName := ⟨R_M, "page", "(II)I"⟩
abbrev b_M_mark : ByteArray := prog_5_method_7_code
def y_M_mark : MethodName := ⟨R_M, "mark", "(I)Z"⟩
abbrev b_M_put : ByteArray := prog_5_method_8_code
def y_M_put : MethodName := ⟨R_M, "put", "()Z"⟩
abbrev b_M_fresh : ByteArray := prog_5_method_9_code
def y_M_fresh : MethodName := ⟨R_M, "fresh", "(III)V"⟩
abbrev b_M_like : ByteArray := prog_5_method_10_code
def y_M_like : MethodName := ⟨R_M, "like", "(I)V"⟩
abbrev b_M_collect : ByteArray := prog_5_method_11_code
def y_M_collect : MethodName := ⟨R_M, "collect", "(I)Z"⟩
abbrev b_M_free : ByteArray := prog_5_method_40_code
def y_M_free : MethodName := ⟨R_M, "free", "()I"⟩
abbrev b_M_poorest : ByteArray := prog_5_method_12_code
def y_M_poorest : MethodName := ⟨R_M, "poorest", "()I"⟩
abbrev b_M_room : ByteArray := prog_5_method_13_code
def y_M_room : MethodName := ⟨R_M, "room", "(I)I"⟩
abbrev b_M_header : ByteArray := prog_5_method_14_code
def y_M_header : MethodName := ⟨R_M, "header", "(I)I"⟩
abbrev b_M_directory : ByteArray := prog_5_method_15_code
def y_M_directory : MethodName := ⟨R_M, "directory", "(I)Z"⟩
abbrev b_M_there : ByteArray := prog_5_method_16_code
def y_M_there : MethodName := ⟨R_M, "there", "(I)Z"⟩
abbrev b_M_named : ByteArray := prog_5_method_17_code
def y_M_named : MethodName := ⟨R_M, "named", "(III)I"⟩
abbrev b_M_inside : ByteArray := prog_5_method_18_code
def y_M_inside : MethodName := ⟨R_M, "inside", "(I)I"⟩
abbrev b_M_create : ByteArray := prog_5_method_19_code
def y_M_create : MethodName := ⟨R_M, "create", "(IIZ)I"⟩
abbrev b_M_write : ByteArray := prog_5_method_20_code
def y_M_write : MethodName := ⟨R_M, "write", "(III)I"⟩
abbrev b_M_read : ByteArray := prog_5_method_21_code
def y_M_read : MethodName := ⟨R_M, "read", "(II)J"⟩
abbrev b_M_drop : ByteArray := prog_5_method_22_code
def y_M_drop : MethodName := ⟨R_M, "drop", "(II)Z"⟩
abbrev b_M_truncate : ByteArray := prog_5_method_23_code
def y_M_truncate : MethodName := ⟨R_M, "truncate", "(II)I"⟩
abbrev b_M_lies : ByteArray := prog_5_method_24_code
def y_M_lies : MethodName := ⟨R_M, "lies", "(II)Z"⟩
abbrev b_M_move : ByteArray := prog_5_method_25_code
def y_M_move : MethodName := ⟨R_M, "move", "(III)I"⟩
abbrev b_M_remove : ByteArray := prog_5_method_26_code
def y_M_remove : MethodName := ⟨R_M, "remove", "(I)I"⟩
abbrev b_M_find : ByteArray := prog_5_method_27_code
def y_M_find : MethodName := ⟨R_M, "find", "(II)I"⟩
abbrev b_M_size : ByteArray := prog_5_method_28_code
def y_M_size : MethodName := ⟨R_M, "size", "(I)I"⟩
abbrev b_M_parentOf : ByteArray := prog_5_method_29_code
def y_M_parentOf : MethodName := ⟨R_M, "parentOf", "(I)I"⟩
abbrev b_M_nameOf : ByteArray := prog_5_method_30_code
def y_M_nameOf : MethodName := ⟨R_M, "nameOf", "(I)J"⟩
abbrev b_M_checkpoint : ByteArray := prog_5_method_31_code
def y_M_checkpoint : MethodName := ⟨R_M, "checkpoint", "()I"⟩
abbrev b_M_followed : ByteArray := prog_5_method_32_code
def y_M_followed : MethodName := ⟨R_M, "followed", "(I)Z"⟩
abbrev b_M_sizeOf : ByteArray := prog_5_method_33_code
def y_M_sizeOf : MethodName := ⟨R_M, "sizeOf", "(I)I"⟩
abbrev b_M_mount : ByteArray := prog_5_method_34_code
def y_M_mount : MethodName := ⟨R_M, "mount", "(Z)I"⟩
abbrev b_M_cut : ByteArray := prog_5_method_35_code
def y_M_cut : MethodName := ⟨R_M, "cut", "(I)V"⟩
abbrev b_M_outside : ByteArray := prog_5_method_36_code
def y_M_outside : MethodName := ⟨R_M, "outside", "(II)Z"⟩
abbrev b_M_flip : ByteArray := prog_5_method_37_code
def y_M_flip : MethodName := ⟨R_M, "flip", "(III)Z"⟩
abbrev b_M_wear : ByteArray := prog_5_method_38_code
def y_M_wear : MethodName := ⟨R_M, "wear", "(I)Z"⟩
abbrev b_M_tags : ByteArray := prog_5_method_39_code
def y_M_tags : MethodName := ⟨R_M, "tags", "(II)I"⟩
abbrev b_M_erases : ByteArray := prog_5_method_41_code
def y_M_erases : MethodName := ⟨R_M, "erases", "(I)I"⟩
abbrev b_M_steps : ByteArray := prog_5_method_42_code
def y_M_steps : MethodName := ⟨R_M, "steps", "()I"⟩
abbrev b_S_init : ByteArray := prog_1_method_1_code
def y_S_init : MethodName := ⟨R_S, "<init>", "()V"⟩
abbrev b_C_init : ByteArray := prog_2_method_1_code
def y_C_init : MethodName := ⟨R_C, "<init>", "()V"⟩
abbrev b_M_init : ByteArray := prog_5_method_1_code
def y_M_init : MethodName := ⟨R_M, "<init>", "()V"⟩
def w_l0 : List Cond := [.constantLong R_J 314 6148914691236517205, .constantLong R_J 316 3689348814741910323, .constantLong R_J 318 1085102592571150095, .constantLong R_C 67 4294967296, .constantLong R_S 170 4294967296, .constant R_T 9 32768, .constantLong R_S 73 8589934585, .constantLong R_S 71 8589934592, .constantLong R_M 156 8589934585, .constantLong R_M 158 4294967296, .constantLong R_M 154 8589934589, .constantLong R_M 152 8589934591, .constantLong R_M 150 8589934583, .constant R_M 182 32768, .fieldLink R_C 9 "SpareTagFlash$Chip" "tagsOf" "[I", .fieldLink R_C 15 "SpareTagFlash$Chip" "words" "[I", .fieldLink R_C 18 "SpareTagFlash$Chip" "turnedBits" "[J", .fieldLink R_C 22 "SpareTagFlash$Chip" "programmed" "[I", .fieldLink R_C 25 "SpareTagFlash$Chip" "timesErased" "[I", .fieldLink R_C 28 "SpareTagFlash$Chip" "worn" "[Z", .fieldLink R_C 32 "SpareTagFlash$Chip" "bad" "[Z", .fieldLink R_C 35 "SpareTagFlash$Chip" "touched" "[Z", .fieldLink R_C 42 "SpareTagFlash$Chip" "stepsDone" "I", .fieldLink R_C 46 "SpareTagFlash$Chip" "stepsLeft" "I", .fieldLink R_S 12 "SpareTagFlash" "chip" "LSpareTagFlash$Chip;", .fieldLink R_S 16 "SpareTagFlash" "stale" "[Z", .fieldLink R_S 20 "SpareTagFlash" "on" "Z", .fieldLink R_S 117 "SpareTagFlash$Chip" "regionValid" "Z", .fieldLink R_S 145 "SpareTagFlash$Chip" "bad" "[Z", .fieldLink R_S 148 "SpareTagFlash$Chip" "worn" "[Z", .fieldLink R_S 154 "SpareTagFlash$Chip" "tagsOf" "[I", .fieldLink R_S 161 "SpareTagFlash$Chip" "timesErased" "[I", .fieldLink R_S 164 "SpareTagFlash$Chip" "stepsDone" "I", .fieldLink R_S 191 "SpareTagFlash$Chip" "turnedBits" "[J", .fieldLink R_S 195 "SpareTagFlash$Chip" "words" "[I", .fieldLink R_S 210 "SpareTagFlash$Chip" "programmed" "[I", .fieldLink R_C 38 "SpareTagFlash$Chip" "regionValid" "Z", .fieldLink R_S 132 "SpareTagFlash$Chip" "stepsLeft" "I", .fieldLink R_M 7 "SpareTagFlashModel" "state" "[I", .fieldLink R_M 13 "SpareTagFlashModel" "object" "[I"]
def w_l1 : List Cond := [.fieldLink R_M 16 "SpareTagFlashModel" "chunk" "[I", .fieldLink R_M 19 "SpareTagFlashModel" "serial" "[I", .fieldLink R_M 22 "SpareTagFlashModel" "word" "[I", .fieldLink R_M 25 "SpareTagFlashModel" "parent" "[I", .fieldLink R_M 28 "SpareTagFlashModel" "length" "[I", .fieldLink R_M 31 "SpareTagFlashModel" "folder" "[Z", .fieldLink R_M 35 "SpareTagFlashModel" "first" "[I", .fieldLink R_M 38 "SpareTagFlashModel" "second" "[I", .fieldLink R_M 41 "SpareTagFlashModel" "stale" "[Z", .fieldLink R_M 44 "SpareTagFlashModel" "bad" "[Z", .fieldLink R_M 47 "SpareTagFlashModel" "worn" "[Z", .fieldLink R_M 50 "SpareTagFlashModel" "touched" "[Z", .fieldLink R_M 53 "SpareTagFlashModel" "erased" "[I", .fieldLink R_M 56 "SpareTagFlashModel" "on" "Z", .fieldLink R_M 60 "SpareTagFlashModel" "left" "I", .fieldLink R_M 64 "SpareTagFlashModel" "done" "I", .fieldLink R_M 75 "SpareTagFlashModel" "newObject" "I", .fieldLink R_M 78 "SpareTagFlashModel" "newChunk" "I", .fieldLink R_M 89 "SpareTagFlashModel" "newWord" "I", .fieldLink R_M 92 "SpareTagFlashModel" "newParent" "I", .fieldLink R_M 95 "SpareTagFlashModel" "newLength" "I", .fieldLink R_M 98 "SpareTagFlashModel" "newFolder" "Z", .fieldLink R_M 101 "SpareTagFlashModel" "newFirst" "I", .fieldLink R_M 104 "SpareTagFlashModel" "newSecond" "I", .fieldLink R_M 170 "SpareTagFlashModel" "valid" "Z", .code y_C_isProgrammed b_C_isProgrammed 2 (some .boolean), .methodLink R_C 49 y_C_isProgrammed, .instanceMethod y_C_isProgrammed, .selects R_C y_C_isProgrammed y_C_isProgrammed, .initialized R_C, .code y_T_isMarked b_T_isMarked 1 (some .boolean), .methodLink R_C 53 y_T_isMarked, .static y_T_isMarked, .initialized R_T, .code y_J_bitCount b_J_bitCount 2 (some .int), .methodLink R_C 58 y_J_bitCount, .static y_J_bitCount, .initialized R_J, .code y_C_isUnreadable b_C_isUnreadable 2 (some .boolean), .methodLink R_C 64 y_C_isUnreadable]
def w_l2 : List Cond := [.instanceMethod y_C_isUnreadable, .selects R_C y_C_isUnreadable y_C_isUnreadable, .code y_C_isLive b_C_isLive 2 (some .boolean), .methodLink R_C 69 y_C_isLive, .instanceMethod y_C_isLive, .selects R_C y_C_isLive y_C_isLive, .code y_T_areOf b_T_areOf 3 (some .boolean), .methodLink R_C 72 y_T_areOf, .static y_T_areOf, .code y_C_hasSuccessor b_C_hasSuccessor 3 (some .boolean), .methodLink R_C 76 y_C_hasSuccessor, .instanceMethod y_C_hasSuccessor, .selects R_C y_C_hasSuccessor y_C_hasSuccessor, .code y_T_follow b_T_follow 2 (some .boolean), .methodLink R_C 79 y_T_follow, .static y_T_follow, .code y_C_countLiveIn b_C_countLiveIn 5 (some .int), .methodLink R_C 83 y_C_countLiveIn, .instanceMethod y_C_countLiveIn, .selects R_C y_C_countLiveIn y_C_countLiveIn, .code y_C_blockOfNextPage b_C_blockOfNextPage 3 (some .int), .methodLink R_C 87 y_C_blockOfNextPage, .instanceMethod y_C_blockOfNextPage, .selects R_C y_C_blockOfNextPage y_C_blockOfNextPage, .code y_C_takeStep b_C_takeStep 1 (some .boolean), .methodLink R_C 91 y_C_takeStep, .instanceMethod y_C_takeStep, .selects R_C y_C_takeStep y_C_takeStep, .code y_M_programmed b_M_programmed 4 (some .int), .methodLink R_M 67 y_M_programmed, .instanceMethod y_M_programmed, .selects R_M y_M_programmed y_M_programmed, .initialized R_M, .code y_M_step b_M_step 1 (some .boolean), .methodLink R_M 71 y_M_step, .instanceMethod y_M_step, .selects R_M y_M_step y_M_step, .code y_M_page b_M_page 4 (some .int), .methodLink R_M 81 y_M_page, .instanceMethod y_M_page]
def w_l3 : List Cond := [.selects R_M y_M_page y_M_page, .code y_M_nextPage b_M_nextPage 3 (some .int), .methodLink R_M 85 y_M_nextPage, .instanceMethod y_M_nextPage, .selects R_M y_M_nextPage y_M_nextPage, .code y_M_mark b_M_mark 2 (some .boolean), .methodLink R_M 107 y_M_mark, .instanceMethod y_M_mark, .selects R_M y_M_mark y_M_mark, .code y_M_fresh b_M_fresh 4 none, .methodLink R_M 111 y_M_fresh, .instanceMethod y_M_fresh, .selects R_M y_M_fresh y_M_fresh, .code y_M_like b_M_like 2 none, .methodLink R_M 115 y_M_like, .instanceMethod y_M_like, .selects R_M y_M_like y_M_like, .code y_M_put b_M_put 3 (some .boolean), .methodLink R_M 119 y_M_put, .instanceMethod y_M_put, .selects R_M y_M_put y_M_put, .code y_M_free b_M_free 3 (some .int), .methodLink R_M 122 y_M_free, .instanceMethod y_M_free, .selects R_M y_M_free y_M_free, .code y_M_lives b_M_lives 4 (some .int), .methodLink R_M 125 y_M_lives, .instanceMethod y_M_lives, .selects R_M y_M_lives y_M_lives, .code y_M_poorest b_M_poorest 6 (some .int), .methodLink R_M 128 y_M_poorest, .instanceMethod y_M_poorest, .selects R_M y_M_poorest y_M_poorest, .code y_M_collect b_M_collect 3 (some .boolean), .methodLink R_M 131 y_M_collect, .instanceMethod y_M_collect, .selects R_M y_M_collect y_M_collect, .code y_M_header b_M_header 2 (some .int), .methodLink R_M 134 y_M_header, .instanceMethod y_M_header]
def w_l4 : List Cond := [.selects R_M y_M_header y_M_header, .code y_M_there b_M_there 2 (some .boolean), .methodLink R_M 137 y_M_there, .instanceMethod y_M_there, .selects R_M y_M_there y_M_there, .code y_M_directory b_M_directory 3 (some .boolean), .methodLink R_M 140 y_M_directory, .instanceMethod y_M_directory, .selects R_M y_M_directory y_M_directory, .code y_M_named b_M_named 6 (some .int), .methodLink R_M 143 y_M_named, .instanceMethod y_M_named, .selects R_M y_M_named y_M_named, .code y_M_room b_M_room 4 (some .int), .methodLink R_M 147 y_M_room, .instanceMethod y_M_room, .selects R_M y_M_room y_M_room, .code y_M_drop b_M_drop 5 (some .boolean), .methodLink R_M 160 y_M_drop, .instanceMethod y_M_drop, .selects R_M y_M_drop y_M_drop, .code y_M_lies b_M_lies 6 (some .boolean), .methodLink R_M 164 y_M_lies, .instanceMethod y_M_lies, .selects R_M y_M_lies y_M_lies, .code y_M_inside b_M_inside 5 (some .int), .methodLink R_M 167 y_M_inside, .instanceMethod y_M_inside, .selects R_M y_M_inside y_M_inside, .code y_M_followed b_M_followed 3 (some .boolean), .methodLink R_M 173 y_M_followed, .instanceMethod y_M_followed, .selects R_M y_M_followed y_M_followed, .code y_M_sizeOf b_M_sizeOf 4 (some .int), .methodLink R_M 176 y_M_sizeOf, .instanceMethod y_M_sizeOf, .selects R_M y_M_sizeOf y_M_sizeOf, .code y_M_outside b_M_outside 2 (some .boolean), .methodLink R_M 179 y_M_outside, .static y_M_outside]
def w_l5 : List Cond := [.code y_S_refusalOfDirectory b_S_refusalOfDirectory 2 (some .int), .methodLink R_S 24 y_S_refusalOfDirectory, .instanceMethod y_S_refusalOfDirectory, .selects R_S y_S_refusalOfDirectory y_S_refusalOfDirectory, .initialized R_S, .code y_S_objectNamed b_S_objectNamed 4 (some .int), .methodLink R_S 28 y_S_objectNamed, .instanceMethod y_S_objectNamed, .selects R_S y_S_objectNamed y_S_objectNamed, .code y_S_lowestAbsentObject b_S_lowestAbsentObject 2 (some .int), .methodLink R_S 32 y_S_lowestAbsentObject, .instanceMethod y_S_lowestAbsentObject, .selects R_S y_S_lowestAbsentObject y_S_lowestAbsentObject, .code y_S_makeRoom b_S_makeRoom 5 (some .int), .methodLink R_S 36 y_S_makeRoom, .instanceMethod y_S_makeRoom, .selects R_S y_S_makeRoom y_S_makeRoom, .code y_T_ofHeader b_T_ofHeader 3 (some .int), .methodLink R_S 39 y_T_ofHeader, .static y_T_ofHeader, .code y_S_put b_S_put 7 (some .boolean), .methodLink R_S 45 y_S_put, .instanceMethod y_S_put, .selects R_S y_S_put y_S_put, .code y_S_switchOff b_S_switchOff 1 (some .int), .methodLink R_S 49 y_S_switchOff, .instanceMethod y_S_switchOff, .selects R_S y_S_switchOff y_S_switchOff, .code y_S_refusalOfFile b_S_refusalOfFile 3 (some .int), .methodLink R_S 52 y_S_refusalOfFile, .instanceMethod y_S_refusalOfFile, .selects R_S y_S_refusalOfFile y_S_refusalOfFile, .code y_S_headerTags b_S_headerTags 3 (some .int), .methodLink R_S 55 y_S_headerTags, .instanceMethod y_S_headerTags, .selects R_S y_S_headerTags y_S_headerTags, .code y_T_length b_T_length 1 (some .int), .methodLink R_S 58 y_T_length, .static y_T_length, .code y_C_livePage b_C_livePage 4 (some .int)]
def w_l6 : List Cond := [.methodLink R_S 61 y_C_livePage, .instanceMethod y_C_livePage, .selects R_C y_C_livePage y_C_livePage, .code y_T_ofChunk b_T_ofChunk 2 (some .int), .methodLink R_S 64 y_T_ofChunk, .static y_T_ofChunk, .code y_S_putLength b_S_putLength 4 (some .boolean), .methodLink R_S 67 y_S_putLength, .instanceMethod y_S_putLength, .selects R_S y_S_putLength y_S_putLength, .code y_C_wordRead b_C_wordRead 2 (some .long), .methodLink R_S 75 y_C_wordRead, .instanceMethod y_C_wordRead, .selects R_C y_C_wordRead y_C_wordRead, .code y_S_markChunks b_S_markChunks 5 (some .boolean), .methodLink R_S 79 y_S_markChunks, .instanceMethod y_S_markChunks, .selects R_S y_S_markChunks y_S_markChunks, .code y_S_refusalOfObject b_S_refusalOfObject 2 (some .int), .methodLink R_S 82 y_S_refusalOfObject, .instanceMethod y_S_refusalOfObject, .selects R_S y_S_refusalOfObject y_S_refusalOfObject, .code y_S_liesIn b_S_liesIn 5 (some .boolean), .methodLink R_S 85 y_S_liesIn, .instanceMethod y_S_liesIn, .selects R_S y_S_liesIn y_S_liesIn, .code y_T_withParent b_T_withParent 2 (some .int), .methodLink R_S 88 y_T_withParent, .static y_T_withParent, .code y_S_objectsIn b_S_objectsIn 4 (some .int), .methodLink R_S 91 y_S_objectsIn, .instanceMethod y_S_objectsIn, .selects R_S y_S_objectsIn y_S_objectsIn, .code y_S_isThere b_S_isThere 2 (some .boolean), .methodLink R_S 94 y_S_isThere, .instanceMethod y_S_isThere, .selects R_S y_S_isThere y_S_isThere, .code y_S_isDirectory b_S_isDirectory 2 (some .boolean), .methodLink R_S 98 y_S_isDirectory, .instanceMethod y_S_isDirectory]
def w_l7 : List Cond := [.selects R_S y_S_isDirectory y_S_isDirectory, .code y_T_parent b_T_parent 1 (some .int), .methodLink R_S 101 y_T_parent, .static y_T_parent, .code y_S_nameRead b_S_nameRead 3 (some .long), .methodLink R_S 104 y_S_nameRead, .instanceMethod y_S_nameRead, .selects R_S y_S_nameRead y_S_nameRead, .code y_C_dropRegion b_C_dropRegion 1 (some .boolean), .methodLink R_S 107 y_C_dropRegion, .instanceMethod y_C_dropRegion, .selects R_C y_C_dropRegion y_C_dropRegion, .code y_C_fillRegion b_C_fillRegion 2 (some .boolean), .methodLink R_S 111 y_C_fillRegion, .instanceMethod y_C_fillRegion, .selects R_C y_C_fillRegion y_C_fillRegion, .code y_C_countLive b_C_countLive 3 (some .int), .methodLink R_S 114 y_C_countLive, .instanceMethod y_C_countLive, .selects R_C y_C_countLive y_C_countLive, .code y_C_countGood b_C_countGood 3 (some .int), .methodLink R_S 120 y_C_countGood, .instanceMethod y_C_countGood, .selects R_C y_C_countGood y_C_countGood, .code y_C_countGoodTouched b_C_countGoodTouched 3 (some .int), .methodLink R_S 123 y_C_countGoodTouched, .instanceMethod y_C_countGoodTouched, .selects R_C y_C_countGoodTouched y_C_countGoodTouched, .code y_S_settleStale b_S_settleStale 2 none, .methodLink R_S 126 y_S_settleStale, .instanceMethod y_S_settleStale, .selects R_S y_S_settleStale y_S_settleStale, .code y_S_markStale b_S_markStale 2 (some .boolean), .methodLink R_S 129 y_S_markStale, .instanceMethod y_S_markStale, .selects R_S y_S_markStale y_S_markStale, .code y_S_isPage b_S_isPage 2 (some .boolean), .methodLink R_S 136 y_S_isPage, .static y_S_isPage, .code y_C_turnBit b_C_turnBit 3 (some .boolean)]
def w_l8 : List Cond := [.methodLink R_S 139 y_C_turnBit, .instanceMethod y_C_turnBit, .selects R_C y_C_turnBit y_C_turnBit, .code y_S_isBlock b_S_isBlock 1 (some .boolean), .methodLink R_S 142 y_S_isBlock, .static y_S_isBlock, .methodLink R_S 151 y_C_isProgrammed, .code y_C_countFree b_C_countFree 3 (some .int), .methodLink R_S 158 y_C_countFree, .instanceMethod y_C_countFree, .selects R_C y_C_countFree y_C_countFree, .code y_T_isOfDirectory b_T_isOfDirectory 1 (some .boolean), .methodLink R_S 167 y_T_isOfDirectory, .static y_T_isOfDirectory, .code y_S_isIn b_S_isIn 3 (some .boolean), .methodLink R_S 172 y_S_isIn, .instanceMethod y_S_isIn, .selects R_S y_S_isIn y_S_isIn, .code y_T_withSerial b_T_withSerial 2 (some .int), .methodLink R_S 175 y_T_withSerial, .static y_T_withSerial, .code y_C_program b_C_program 7 (some .boolean), .methodLink R_S 178 y_C_program, .instanceMethod y_C_program, .selects R_C y_C_program y_C_program, .code y_T_serialAfter b_T_serialAfter 1 (some .int), .methodLink R_S 182 y_T_serialAfter, .static y_T_serialAfter, .code y_C_mark b_C_mark 2 (some .boolean), .methodLink R_S 185 y_C_mark, .instanceMethod y_C_mark, .selects R_C y_C_mark y_C_mark, .methodLink R_S 188 y_C_isUnreadable, .code y_T_withLength b_T_withLength 2 (some .int), .methodLink R_S 198 y_T_withLength, .static y_T_withLength, .code y_S_putWordOf b_S_putWordOf 5 (some .boolean), .methodLink R_S 201 y_S_putWordOf, .instanceMethod y_S_putWordOf, .selects R_S y_S_putWordOf y_S_putWordOf]
def w_l9 : List Cond := [.code y_S_blockToCollect b_S_blockToCollect 6 (some .int), .methodLink R_S 204 y_S_blockToCollect, .instanceMethod y_S_blockToCollect, .selects R_S y_S_blockToCollect y_S_blockToCollect, .code y_S_collect b_S_collect 4 (some .boolean), .methodLink R_S 207 y_S_collect, .instanceMethod y_S_collect, .selects R_S y_S_collect y_S_collect, .methodLink R_S 213 y_C_countLiveIn, .methodLink R_S 216 y_C_isLive, .code y_C_erase b_C_erase 2 (some .boolean), .methodLink R_S 219 y_C_erase, .instanceMethod y_C_erase, .selects R_C y_C_erase y_C_erase, .methodLink R_S 222 y_C_hasSuccessor, .code y_S_isBeyondFile b_S_isBeyondFile 4 (some .boolean), .methodLink R_S 225 y_S_isBeyondFile, .instanceMethod y_S_isBeyondFile, .selects R_S y_S_isBeyondFile y_S_isBeyondFile, .code y_T_chunk b_T_chunk 1 (some .int), .methodLink R_S 228 y_T_chunk, .static y_T_chunk, .code y_T_object b_T_object 1 (some .int), .methodLink R_S 231 y_T_object, .static y_T_object, .code y_C_latestHeader b_C_latestHeader 3 (some .int), .methodLink R_S 234 y_C_latestHeader, .instanceMethod y_C_latestHeader, .selects R_C y_C_latestHeader y_C_latestHeader, .methodLink R_T 10 y_T_ofChunk, .methodLink R_T 14 y_T_serialAfter, .code y_S_create b_S_create 7 (some .int), .code y_S_write b_S_write 8 (some .int), .code y_S_read b_S_read 5 (some .long), .code y_S_truncate b_S_truncate 6 (some .int), .code y_S_move b_S_move 8 (some .int), .code y_S_remove b_S_remove 3 (some .int), .code y_S_find b_S_find 4 (some .int), .code y_S_size b_S_size 2 (some .int), .code y_S_parentOf b_S_parentOf 3 (some .int)]
def w_l10 : List Cond := [.code y_S_nameOf b_S_nameOf 3 (some .long), .code y_S_checkpoint b_S_checkpoint 1 (some .int), .code y_S_mount b_S_mount 3 (some .int), .code y_S_cut b_S_cut 2 none, .code y_S_flip b_S_flip 4 (some .boolean), .code y_S_wear b_S_wear 2 (some .boolean), .code y_S_tags b_S_tags 4 (some .int), .code y_S_free b_S_free 1 (some .int), .code y_S_erases b_S_erases 2 (some .int), .code y_S_steps b_S_steps 1 (some .int), .code y_M_create b_M_create 6 (some .int), .code y_M_write b_M_write 8 (some .int), .code y_M_read b_M_read 5 (some .long), .code y_M_truncate b_M_truncate 6 (some .int), .code y_M_move b_M_move 6 (some .int), .code y_M_remove b_M_remove 3 (some .int), .code y_M_find b_M_find 3 (some .int), .code y_M_size b_M_size 2 (some .int), .code y_M_parentOf b_M_parentOf 3 (some .int), .code y_M_nameOf b_M_nameOf 3 (some .long), .code y_M_checkpoint b_M_checkpoint 3 (some .int), .code y_M_mount b_M_mount 6 (some .int), .code y_M_cut b_M_cut 2 none, .code y_M_flip b_M_flip 5 (some .boolean), .code y_M_wear b_M_wear 2 (some .boolean), .code y_M_tags b_M_tags 5 (some .int), .code y_M_erases b_M_erases 2 (some .int), .code y_M_steps b_M_steps 1 (some .int)]
def w_all : List Cond := w_l0 ++ (w_l1 ++ (w_l2 ++ (w_l3 ++ (w_l4 ++ (w_l5 ++ (w_l6 ++ (w_l7 ++ (w_l8 ++ (w_l9 ++ (w_l10 ++ (w_S ++ (w_C ++ (w_M)))))))))))))
set_option maxRecDepth 20000 in
theorem wm_0 : (Cond.constantLong R_J 314 6148914691236517205) ∈ w_all := List.mem_append_left _ (List.mem_of_getElem? (i := 0) rfl)
set_option maxRecDepth 20000 in
theorem wm_1 : (Cond.constantLong R_J 316 3689348814741910323) ∈ w_all := List.mem_append_left _ (List.mem_of_getElem? (i := 1) rfl)
set_option maxRecDepth 20000 in
theorem wm_2 : (Cond.constantLong R_J 318 1085102592571150095) ∈ w_all := List.mem_append_left _ (List.mem_of_getElem? (i := 2) rfl)
set_option maxRecDepth 20000 in
theorem wm_3 : (Cond.constantLong R_C 67 4294967296) ∈ w_all := List.mem_append_left _ (List.mem_of_getElem? (i := 3) rfl)
set_option maxRecDepth 20000 in
theorem wm_4 : (Cond.constantLong R_S 170 4294967296) ∈ w_all := List.mem_append_left _ (List.mem_of_getElem? (i := 4) rfl)
set_option maxRecDepth 20000 in
theorem wm_5 : (Cond.constant R_T 9 32768) ∈ w_all := List.mem_append_left _ (List.mem_of_getElem? (i := 5) rfl)
set_option maxRecDepth 20000 in
theorem wm_6 : (Cond.constantLong R_S 73 8589934585) ∈ w_all := List.mem_append_left _ (List.mem_of_getElem? (i := 6) rfl)
set_option maxRecDepth 20000 in
theorem wm_7 : (Cond.constantLong R_S 71 8589934592) ∈ w_all := List.mem_append_left _ (List.mem_of_getElem? (i := 7) rfl)
set_option maxRecDepth 20000 in
theorem wm_8 : (Cond.constantLong R_M 156 8589934585) ∈ w_all := List.mem_append_left _ (List.mem_of_getElem? (i := 8) rfl)
set_option maxRecDepth 20000 in
theorem wm_9 : (Cond.constantLong R_M 158 4294967296) ∈ w_all := List.mem_append_left _ (List.mem_of_getElem? (i := 9) rfl)
set_option maxRecDepth 20000 in
theorem wm_10 : (Cond.constantLong R_M 154 8589934589) ∈ w_all := List.mem_append_left _ (List.mem_of_getElem? (i := 10) rfl)
set_option maxRecDepth 20000 in
theorem wm_11 : (Cond.constantLong R_M 152 8589934591) ∈ w_all := List.mem_append_left _ (List.mem_of_getElem? (i := 11) rfl)
set_option maxRecDepth 20000 in
theorem wm_12 : (Cond.constantLong R_M 150 8589934583) ∈ w_all := List.mem_append_left _ (List.mem_of_getElem? (i := 12) rfl)
set_option maxRecDepth 20000 in
theorem wm_13 : (Cond.constant R_M 182 32768) ∈ w_all := List.mem_append_left _ (List.mem_of_getElem? (i := 13) rfl)
set_option maxRecDepth 20000 in
theorem wm_14 : (Cond.fieldLink R_C 9 "SpareTagFlash$Chip" "tagsOf" "[I") ∈ w_all := List.mem_append_left _ (List.mem_of_getElem? (i := 14) rfl)
set_option maxRecDepth 20000 in
theorem wm_15 : (Cond.fieldLink R_C 15 "SpareTagFlash$Chip" "words" "[I") ∈ w_all := List.mem_append_left _ (List.mem_of_getElem? (i := 15) rfl)
set_option maxRecDepth 20000 in
theorem wm_16 : (Cond.fieldLink R_C 18 "SpareTagFlash$Chip" "turnedBits" "[J") ∈ w_all := List.mem_append_left _ (List.mem_of_getElem? (i := 16) rfl)
set_option maxRecDepth 20000 in
theorem wm_17 : (Cond.fieldLink R_C 22 "SpareTagFlash$Chip" "programmed" "[I") ∈ w_all := List.mem_append_left _ (List.mem_of_getElem? (i := 17) rfl)
set_option maxRecDepth 20000 in
theorem wm_18 : (Cond.fieldLink R_C 25 "SpareTagFlash$Chip" "timesErased" "[I") ∈ w_all := List.mem_append_left _ (List.mem_of_getElem? (i := 18) rfl)
set_option maxRecDepth 20000 in
theorem wm_19 : (Cond.fieldLink R_C 28 "SpareTagFlash$Chip" "worn" "[Z") ∈ w_all := List.mem_append_left _ (List.mem_of_getElem? (i := 19) rfl)
set_option maxRecDepth 20000 in
theorem wm_20 : (Cond.fieldLink R_C 32 "SpareTagFlash$Chip" "bad" "[Z") ∈ w_all := List.mem_append_left _ (List.mem_of_getElem? (i := 20) rfl)
set_option maxRecDepth 20000 in
theorem wm_21 : (Cond.fieldLink R_C 35 "SpareTagFlash$Chip" "touched" "[Z") ∈ w_all := List.mem_append_left _ (List.mem_of_getElem? (i := 21) rfl)
set_option maxRecDepth 20000 in
theorem wm_22 : (Cond.fieldLink R_C 42 "SpareTagFlash$Chip" "stepsDone" "I") ∈ w_all := List.mem_append_left _ (List.mem_of_getElem? (i := 22) rfl)
set_option maxRecDepth 20000 in
theorem wm_23 : (Cond.fieldLink R_C 46 "SpareTagFlash$Chip" "stepsLeft" "I") ∈ w_all := List.mem_append_left _ (List.mem_of_getElem? (i := 23) rfl)
set_option maxRecDepth 20000 in
theorem wm_24 : (Cond.fieldLink R_S 12 "SpareTagFlash" "chip" "LSpareTagFlash$Chip;") ∈ w_all := List.mem_append_left _ (List.mem_of_getElem? (i := 24) rfl)
set_option maxRecDepth 20000 in
theorem wm_25 : (Cond.fieldLink R_S 16 "SpareTagFlash" "stale" "[Z") ∈ w_all := List.mem_append_left _ (List.mem_of_getElem? (i := 25) rfl)
set_option maxRecDepth 20000 in
theorem wm_26 : (Cond.fieldLink R_S 20 "SpareTagFlash" "on" "Z") ∈ w_all := List.mem_append_left _ (List.mem_of_getElem? (i := 26) rfl)
set_option maxRecDepth 20000 in
theorem wm_27 : (Cond.fieldLink R_S 117 "SpareTagFlash$Chip" "regionValid" "Z") ∈ w_all := List.mem_append_left _ (List.mem_of_getElem? (i := 27) rfl)
set_option maxRecDepth 20000 in
theorem wm_28 : (Cond.fieldLink R_S 145 "SpareTagFlash$Chip" "bad" "[Z") ∈ w_all := List.mem_append_left _ (List.mem_of_getElem? (i := 28) rfl)
set_option maxRecDepth 20000 in
theorem wm_29 : (Cond.fieldLink R_S 148 "SpareTagFlash$Chip" "worn" "[Z") ∈ w_all := List.mem_append_left _ (List.mem_of_getElem? (i := 29) rfl)
set_option maxRecDepth 20000 in
theorem wm_30 : (Cond.fieldLink R_S 154 "SpareTagFlash$Chip" "tagsOf" "[I") ∈ w_all := List.mem_append_left _ (List.mem_of_getElem? (i := 30) rfl)
set_option maxRecDepth 20000 in
theorem wm_31 : (Cond.fieldLink R_S 161 "SpareTagFlash$Chip" "timesErased" "[I") ∈ w_all := List.mem_append_left _ (List.mem_of_getElem? (i := 31) rfl)
set_option maxRecDepth 20000 in
theorem wm_32 : (Cond.fieldLink R_S 164 "SpareTagFlash$Chip" "stepsDone" "I") ∈ w_all := List.mem_append_left _ (List.mem_of_getElem? (i := 32) rfl)
set_option maxRecDepth 20000 in
theorem wm_33 : (Cond.fieldLink R_S 191 "SpareTagFlash$Chip" "turnedBits" "[J") ∈ w_all := List.mem_append_left _ (List.mem_of_getElem? (i := 33) rfl)
set_option maxRecDepth 20000 in
theorem wm_34 : (Cond.fieldLink R_S 195 "SpareTagFlash$Chip" "words" "[I") ∈ w_all := List.mem_append_left _ (List.mem_of_getElem? (i := 34) rfl)
set_option maxRecDepth 20000 in
theorem wm_35 : (Cond.fieldLink R_S 210 "SpareTagFlash$Chip" "programmed" "[I") ∈ w_all := List.mem_append_left _ (List.mem_of_getElem? (i := 35) rfl)
set_option maxRecDepth 20000 in
theorem wm_36 : (Cond.fieldLink R_C 38 "SpareTagFlash$Chip" "regionValid" "Z") ∈ w_all := List.mem_append_left _ (List.mem_of_getElem? (i := 36) rfl)
set_option maxRecDepth 20000 in
theorem wm_37 : (Cond.fieldLink R_S 132 "SpareTagFlash$Chip" "stepsLeft" "I") ∈ w_all := List.mem_append_left _ (List.mem_of_getElem? (i := 37) rfl)
set_option maxRecDepth 20000 in
theorem wm_38 : (Cond.fieldLink R_M 7 "SpareTagFlashModel" "state" "[I") ∈ w_all := List.mem_append_left _ (List.mem_of_getElem? (i := 38) rfl)
set_option maxRecDepth 20000 in
theorem wm_39 : (Cond.fieldLink R_M 13 "SpareTagFlashModel" "object" "[I") ∈ w_all := List.mem_append_left _ (List.mem_of_getElem? (i := 39) rfl)
set_option maxRecDepth 20000 in
theorem wm_40 : (Cond.fieldLink R_M 16 "SpareTagFlashModel" "chunk" "[I") ∈ w_all := List.mem_append_right _ (List.mem_append_left _ (List.mem_of_getElem? (i := 0) rfl))
set_option maxRecDepth 20000 in
theorem wm_41 : (Cond.fieldLink R_M 19 "SpareTagFlashModel" "serial" "[I") ∈ w_all := List.mem_append_right _ (List.mem_append_left _ (List.mem_of_getElem? (i := 1) rfl))
set_option maxRecDepth 20000 in
theorem wm_42 : (Cond.fieldLink R_M 22 "SpareTagFlashModel" "word" "[I") ∈ w_all := List.mem_append_right _ (List.mem_append_left _ (List.mem_of_getElem? (i := 2) rfl))
set_option maxRecDepth 20000 in
theorem wm_43 : (Cond.fieldLink R_M 25 "SpareTagFlashModel" "parent" "[I") ∈ w_all := List.mem_append_right _ (List.mem_append_left _ (List.mem_of_getElem? (i := 3) rfl))
set_option maxRecDepth 20000 in
theorem wm_44 : (Cond.fieldLink R_M 28 "SpareTagFlashModel" "length" "[I") ∈ w_all := List.mem_append_right _ (List.mem_append_left _ (List.mem_of_getElem? (i := 4) rfl))
set_option maxRecDepth 20000 in
theorem wm_45 : (Cond.fieldLink R_M 31 "SpareTagFlashModel" "folder" "[Z") ∈ w_all := List.mem_append_right _ (List.mem_append_left _ (List.mem_of_getElem? (i := 5) rfl))
set_option maxRecDepth 20000 in
theorem wm_46 : (Cond.fieldLink R_M 35 "SpareTagFlashModel" "first" "[I") ∈ w_all := List.mem_append_right _ (List.mem_append_left _ (List.mem_of_getElem? (i := 6) rfl))
set_option maxRecDepth 20000 in
theorem wm_47 : (Cond.fieldLink R_M 38 "SpareTagFlashModel" "second" "[I") ∈ w_all := List.mem_append_right _ (List.mem_append_left _ (List.mem_of_getElem? (i := 7) rfl))
set_option maxRecDepth 20000 in
theorem wm_48 : (Cond.fieldLink R_M 41 "SpareTagFlashModel" "stale" "[Z") ∈ w_all := List.mem_append_right _ (List.mem_append_left _ (List.mem_of_getElem? (i := 8) rfl))
set_option maxRecDepth 20000 in
theorem wm_49 : (Cond.fieldLink R_M 44 "SpareTagFlashModel" "bad" "[Z") ∈ w_all := List.mem_append_right _ (List.mem_append_left _ (List.mem_of_getElem? (i := 9) rfl))
set_option maxRecDepth 20000 in
theorem wm_50 : (Cond.fieldLink R_M 47 "SpareTagFlashModel" "worn" "[Z") ∈ w_all := List.mem_append_right _ (List.mem_append_left _ (List.mem_of_getElem? (i := 10) rfl))
set_option maxRecDepth 20000 in
theorem wm_51 : (Cond.fieldLink R_M 50 "SpareTagFlashModel" "touched" "[Z") ∈ w_all := List.mem_append_right _ (List.mem_append_left _ (List.mem_of_getElem? (i := 11) rfl))
set_option maxRecDepth 20000 in
theorem wm_52 : (Cond.fieldLink R_M 53 "SpareTagFlashModel" "erased" "[I") ∈ w_all := List.mem_append_right _ (List.mem_append_left _ (List.mem_of_getElem? (i := 12) rfl))
set_option maxRecDepth 20000 in
theorem wm_53 : (Cond.fieldLink R_M 56 "SpareTagFlashModel" "on" "Z") ∈ w_all := List.mem_append_right _ (List.mem_append_left _ (List.mem_of_getElem? (i := 13) rfl))
set_option maxRecDepth 20000 in
theorem wm_54 : (Cond.fieldLink R_M 60 "SpareTagFlashModel" "left" "I") ∈ w_all := List.mem_append_right _ (List.mem_append_left _ (List.mem_of_getElem? (i := 14) rfl))
set_option maxRecDepth 20000 in
theorem wm_55 : (Cond.fieldLink R_M 64 "SpareTagFlashModel" "done" "I") ∈ w_all := List.mem_append_right _ (List.mem_append_left _ (List.mem_of_getElem? (i := 15) rfl))
set_option maxRecDepth 20000 in
theorem wm_56 : (Cond.fieldLink R_M 75 "SpareTagFlashModel" "newObject" "I") ∈ w_all := List.mem_append_right _ (List.mem_append_left _ (List.mem_of_getElem? (i := 16) rfl))
set_option maxRecDepth 20000 in
theorem wm_57 : (Cond.fieldLink R_M 78 "SpareTagFlashModel" "newChunk" "I") ∈ w_all := List.mem_append_right _ (List.mem_append_left _ (List.mem_of_getElem? (i := 17) rfl))
set_option maxRecDepth 20000 in
theorem wm_58 : (Cond.fieldLink R_M 89 "SpareTagFlashModel" "newWord" "I") ∈ w_all := List.mem_append_right _ (List.mem_append_left _ (List.mem_of_getElem? (i := 18) rfl))
set_option maxRecDepth 20000 in
theorem wm_59 : (Cond.fieldLink R_M 92 "SpareTagFlashModel" "newParent" "I") ∈ w_all := List.mem_append_right _ (List.mem_append_left _ (List.mem_of_getElem? (i := 19) rfl))
set_option maxRecDepth 20000 in
theorem wm_60 : (Cond.fieldLink R_M 95 "SpareTagFlashModel" "newLength" "I") ∈ w_all := List.mem_append_right _ (List.mem_append_left _ (List.mem_of_getElem? (i := 20) rfl))
set_option maxRecDepth 20000 in
theorem wm_61 : (Cond.fieldLink R_M 98 "SpareTagFlashModel" "newFolder" "Z") ∈ w_all := List.mem_append_right _ (List.mem_append_left _ (List.mem_of_getElem? (i := 21) rfl))
set_option maxRecDepth 20000 in
theorem wm_62 : (Cond.fieldLink R_M 101 "SpareTagFlashModel" "newFirst" "I") ∈ w_all := List.mem_append_right _ (List.mem_append_left _ (List.mem_of_getElem? (i := 22) rfl))
set_option maxRecDepth 20000 in
theorem wm_63 : (Cond.fieldLink R_M 104 "SpareTagFlashModel" "newSecond" "I") ∈ w_all := List.mem_append_right _ (List.mem_append_left _ (List.mem_of_getElem? (i := 23) rfl))
set_option maxRecDepth 20000 in
theorem wm_64 : (Cond.fieldLink R_M 170 "SpareTagFlashModel" "valid" "Z") ∈ w_all := List.mem_append_right _ (List.mem_append_left _ (List.mem_of_getElem? (i := 24) rfl))
set_option maxRecDepth 20000 in
theorem wm_65 : (Cond.code y_C_isProgrammed b_C_isProgrammed 2 (some .boolean)) ∈ w_all := List.mem_append_right _ (List.mem_append_left _ (List.mem_of_getElem? (i := 25) rfl))
set_option maxRecDepth 20000 in
theorem wm_66 : (Cond.methodLink R_C 49 y_C_isProgrammed) ∈ w_all := List.mem_append_right _ (List.mem_append_left _ (List.mem_of_getElem? (i := 26) rfl))
set_option maxRecDepth 20000 in
theorem wm_67 : (Cond.instanceMethod y_C_isProgrammed) ∈ w_all := List.mem_append_right _ (List.mem_append_left _ (List.mem_of_getElem? (i := 27) rfl))
set_option maxRecDepth 20000 in
theorem wm_68 : (Cond.selects R_C y_C_isProgrammed y_C_isProgrammed) ∈ w_all := List.mem_append_right _ (List.mem_append_left _ (List.mem_of_getElem? (i := 28) rfl))
set_option maxRecDepth 20000 in
theorem wm_69 : (Cond.initialized R_C) ∈ w_all := List.mem_append_right _ (List.mem_append_left _ (List.mem_of_getElem? (i := 29) rfl))
set_option maxRecDepth 20000 in
theorem wm_70 : (Cond.code y_T_isMarked b_T_isMarked 1 (some .boolean)) ∈ w_all := List.mem_append_right _ (List.mem_append_left _ (List.mem_of_getElem? (i := 30) rfl))
set_option maxRecDepth 20000 in
theorem wm_71 : (Cond.methodLink R_C 53 y_T_isMarked) ∈ w_all := List.mem_append_right _ (List.mem_append_left _ (List.mem_of_getElem? (i := 31) rfl))
set_option maxRecDepth 20000 in
theorem wm_72 : (Cond.static y_T_isMarked) ∈ w_all := List.mem_append_right _ (List.mem_append_left _ (List.mem_of_getElem? (i := 32) rfl))
set_option maxRecDepth 20000 in
theorem wm_73 : (Cond.initialized R_T) ∈ w_all := List.mem_append_right _ (List.mem_append_left _ (List.mem_of_getElem? (i := 33) rfl))
set_option maxRecDepth 20000 in
theorem wm_74 : (Cond.code y_J_bitCount b_J_bitCount 2 (some .int)) ∈ w_all := List.mem_append_right _ (List.mem_append_left _ (List.mem_of_getElem? (i := 34) rfl))
set_option maxRecDepth 20000 in
theorem wm_75 : (Cond.methodLink R_C 58 y_J_bitCount) ∈ w_all := List.mem_append_right _ (List.mem_append_left _ (List.mem_of_getElem? (i := 35) rfl))
set_option maxRecDepth 20000 in
theorem wm_76 : (Cond.static y_J_bitCount) ∈ w_all := List.mem_append_right _ (List.mem_append_left _ (List.mem_of_getElem? (i := 36) rfl))
set_option maxRecDepth 20000 in
theorem wm_77 : (Cond.initialized R_J) ∈ w_all := List.mem_append_right _ (List.mem_append_left _ (List.mem_of_getElem? (i := 37) rfl))
set_option maxRecDepth 20000 in
theorem wm_78 : (Cond.code y_C_isUnreadable b_C_isUnreadable 2 (some .boolean)) ∈ w_all := List.mem_append_right _ (List.mem_append_left _ (List.mem_of_getElem? (i := 38) rfl))
set_option maxRecDepth 20000 in
theorem wm_79 : (Cond.methodLink R_C 64 y_C_isUnreadable) ∈ w_all := List.mem_append_right _ (List.mem_append_left _ (List.mem_of_getElem? (i := 39) rfl))
set_option maxRecDepth 20000 in
theorem wm_80 : (Cond.instanceMethod y_C_isUnreadable) ∈ w_all := List.mem_append_right _ (List.mem_append_right _ (List.mem_append_left _ (List.mem_of_getElem? (i := 0) rfl)))
set_option maxRecDepth 20000 in
theorem wm_81 : (Cond.selects R_C y_C_isUnreadable y_C_isUnreadable) ∈ w_all := List.mem_append_right _ (List.mem_append_right _ (List.mem_append_left _ (List.mem_of_getElem? (i := 1) rfl)))
set_option maxRecDepth 20000 in
theorem wm_82 : (Cond.code y_C_isLive b_C_isLive 2 (some .boolean)) ∈ w_all := List.mem_append_right _ (List.mem_append_right _ (List.mem_append_left _ (List.mem_of_getElem? (i := 2) rfl)))
set_option maxRecDepth 20000 in
theorem wm_83 : (Cond.methodLink R_C 69 y_C_isLive) ∈ w_all := List.mem_append_right _ (List.mem_append_right _ (List.mem_append_left _ (List.mem_of_getElem? (i := 3) rfl)))
set_option maxRecDepth 20000 in
theorem wm_84 : (Cond.instanceMethod y_C_isLive) ∈ w_all := List.mem_append_right _ (List.mem_append_right _ (List.mem_append_left _ (List.mem_of_getElem? (i := 4) rfl)))
set_option maxRecDepth 20000 in
theorem wm_85 : (Cond.selects R_C y_C_isLive y_C_isLive) ∈ w_all := List.mem_append_right _ (List.mem_append_right _ (List.mem_append_left _ (List.mem_of_getElem? (i := 5) rfl)))
set_option maxRecDepth 20000 in
theorem wm_86 : (Cond.code y_T_areOf b_T_areOf 3 (some .boolean)) ∈ w_all := List.mem_append_right _ (List.mem_append_right _ (List.mem_append_left _ (List.mem_of_getElem? (i := 6) rfl)))
set_option maxRecDepth 20000 in
theorem wm_87 : (Cond.methodLink R_C 72 y_T_areOf) ∈ w_all := List.mem_append_right _ (List.mem_append_right _ (List.mem_append_left _ (List.mem_of_getElem? (i := 7) rfl)))
set_option maxRecDepth 20000 in
theorem wm_88 : (Cond.static y_T_areOf) ∈ w_all := List.mem_append_right _ (List.mem_append_right _ (List.mem_append_left _ (List.mem_of_getElem? (i := 8) rfl)))
set_option maxRecDepth 20000 in
theorem wm_89 : (Cond.code y_C_hasSuccessor b_C_hasSuccessor 3 (some .boolean)) ∈ w_all := List.mem_append_right _ (List.mem_append_right _ (List.mem_append_left _ (List.mem_of_getElem? (i := 9) rfl)))
set_option maxRecDepth 20000 in
theorem wm_90 : (Cond.methodLink R_C 76 y_C_hasSuccessor) ∈ w_all := List.mem_append_right _ (List.mem_append_right _ (List.mem_append_left _ (List.mem_of_getElem? (i := 10) rfl)))
set_option maxRecDepth 20000 in
theorem wm_91 : (Cond.instanceMethod y_C_hasSuccessor) ∈ w_all := List.mem_append_right _ (List.mem_append_right _ (List.mem_append_left _ (List.mem_of_getElem? (i := 11) rfl)))
set_option maxRecDepth 20000 in
theorem wm_92 : (Cond.selects R_C y_C_hasSuccessor y_C_hasSuccessor) ∈ w_all := List.mem_append_right _ (List.mem_append_right _ (List.mem_append_left _ (List.mem_of_getElem? (i := 12) rfl)))
set_option maxRecDepth 20000 in
theorem wm_93 : (Cond.code y_T_follow b_T_follow 2 (some .boolean)) ∈ w_all := List.mem_append_right _ (List.mem_append_right _ (List.mem_append_left _ (List.mem_of_getElem? (i := 13) rfl)))
set_option maxRecDepth 20000 in
theorem wm_94 : (Cond.methodLink R_C 79 y_T_follow) ∈ w_all := List.mem_append_right _ (List.mem_append_right _ (List.mem_append_left _ (List.mem_of_getElem? (i := 14) rfl)))
set_option maxRecDepth 20000 in
theorem wm_95 : (Cond.static y_T_follow) ∈ w_all := List.mem_append_right _ (List.mem_append_right _ (List.mem_append_left _ (List.mem_of_getElem? (i := 15) rfl)))
set_option maxRecDepth 20000 in
theorem wm_96 : (Cond.code y_C_countLiveIn b_C_countLiveIn 5 (some .int)) ∈ w_all := List.mem_append_right _ (List.mem_append_right _ (List.mem_append_left _ (List.mem_of_getElem? (i := 16) rfl)))
set_option maxRecDepth 20000 in
theorem wm_97 : (Cond.methodLink R_C 83 y_C_countLiveIn) ∈ w_all := List.mem_append_right _ (List.mem_append_right _ (List.mem_append_left _ (List.mem_of_getElem? (i := 17) rfl)))
set_option maxRecDepth 20000 in
theorem wm_98 : (Cond.instanceMethod y_C_countLiveIn) ∈ w_all := List.mem_append_right _ (List.mem_append_right _ (List.mem_append_left _ (List.mem_of_getElem? (i := 18) rfl)))
set_option maxRecDepth 20000 in
theorem wm_99 : (Cond.selects R_C y_C_countLiveIn y_C_countLiveIn) ∈ w_all := List.mem_append_right _ (List.mem_append_right _ (List.mem_append_left _ (List.mem_of_getElem? (i := 19) rfl)))
set_option maxRecDepth 20000 in
theorem wm_100 : (Cond.code y_C_blockOfNextPage b_C_blockOfNextPage 3 (some .int)) ∈ w_all := List.mem_append_right _ (List.mem_append_right _ (List.mem_append_left _ (List.mem_of_getElem? (i := 20) rfl)))
set_option maxRecDepth 20000 in
theorem wm_101 : (Cond.methodLink R_C 87 y_C_blockOfNextPage) ∈ w_all := List.mem_append_right _ (List.mem_append_right _ (List.mem_append_left _ (List.mem_of_getElem? (i := 21) rfl)))
set_option maxRecDepth 20000 in
theorem wm_102 : (Cond.instanceMethod y_C_blockOfNextPage) ∈ w_all := List.mem_append_right _ (List.mem_append_right _ (List.mem_append_left _ (List.mem_of_getElem? (i := 22) rfl)))
set_option maxRecDepth 20000 in
theorem wm_103 : (Cond.selects R_C y_C_blockOfNextPage y_C_blockOfNextPage) ∈ w_all := List.mem_append_right _ (List.mem_append_right _ (List.mem_append_left _ (List.mem_of_getElem? (i := 23) rfl)))
set_option maxRecDepth 20000 in
theorem wm_104 : (Cond.code y_C_takeStep b_C_takeStep 1 (some .boolean)) ∈ w_all := List.mem_append_right _ (List.mem_append_right _ (List.mem_append_left _ (List.mem_of_getElem? (i := 24) rfl)))
set_option maxRecDepth 20000 in
theorem wm_105 : (Cond.methodLink R_C 91 y_C_takeStep) ∈ w_all := List.mem_append_right _ (List.mem_append_right _ (List.mem_append_left _ (List.mem_of_getElem? (i := 25) rfl)))
set_option maxRecDepth 20000 in
theorem wm_106 : (Cond.instanceMethod y_C_takeStep) ∈ w_all := List.mem_append_right _ (List.mem_append_right _ (List.mem_append_left _ (List.mem_of_getElem? (i := 26) rfl)))
set_option maxRecDepth 20000 in
theorem wm_107 : (Cond.selects R_C y_C_takeStep y_C_takeStep) ∈ w_all := List.mem_append_right _ (List.mem_append_right _ (List.mem_append_left _ (List.mem_of_getElem? (i := 27) rfl)))
set_option maxRecDepth 20000 in
theorem wm_108 : (Cond.code y_M_programmed b_M_programmed 4 (some .int)) ∈ w_all := List.mem_append_right _ (List.mem_append_right _ (List.mem_append_left _ (List.mem_of_getElem? (i := 28) rfl)))
set_option maxRecDepth 20000 in
theorem wm_109 : (Cond.methodLink R_M 67 y_M_programmed) ∈ w_all := List.mem_append_right _ (List.mem_append_right _ (List.mem_append_left _ (List.mem_of_getElem? (i := 29) rfl)))
set_option maxRecDepth 20000 in
theorem wm_110 : (Cond.instanceMethod y_M_programmed) ∈ w_all := List.mem_append_right _ (List.mem_append_right _ (List.mem_append_left _ (List.mem_of_getElem? (i := 30) rfl)))
set_option maxRecDepth 20000 in
theorem wm_111 : (Cond.selects R_M y_M_programmed y_M_programmed) ∈ w_all := List.mem_append_right _ (List.mem_append_right _ (List.mem_append_left _ (List.mem_of_getElem? (i := 31) rfl)))
set_option maxRecDepth 20000 in
theorem wm_112 : (Cond.initialized R_M) ∈ w_all := List.mem_append_right _ (List.mem_append_right _ (List.mem_append_left _ (List.mem_of_getElem? (i := 32) rfl)))
set_option maxRecDepth 20000 in
theorem wm_113 : (Cond.code y_M_step b_M_step 1 (some .boolean)) ∈ w_all := List.mem_append_right _ (List.mem_append_right _ (List.mem_append_left _ (List.mem_of_getElem? (i := 33) rfl)))
set_option maxRecDepth 20000 in
theorem wm_114 : (Cond.methodLink R_M 71 y_M_step) ∈ w_all := List.mem_append_right _ (List.mem_append_right _ (List.mem_append_left _ (List.mem_of_getElem? (i := 34) rfl)))
set_option maxRecDepth 20000 in
theorem wm_115 : (Cond.instanceMethod y_M_step) ∈ w_all := List.mem_append_right _ (List.mem_append_right _ (List.mem_append_left _ (List.mem_of_getElem? (i := 35) rfl)))
set_option maxRecDepth 20000 in
theorem wm_116 : (Cond.selects R_M y_M_step y_M_step) ∈ w_all := List.mem_append_right _ (List.mem_append_right _ (List.mem_append_left _ (List.mem_of_getElem? (i := 36) rfl)))
set_option maxRecDepth 20000 in
theorem wm_117 : (Cond.code y_M_page b_M_page 4 (some .int)) ∈ w_all := List.mem_append_right _ (List.mem_append_right _ (List.mem_append_left _ (List.mem_of_getElem? (i := 37) rfl)))
set_option maxRecDepth 20000 in
theorem wm_118 : (Cond.methodLink R_M 81 y_M_page) ∈ w_all := List.mem_append_right _ (List.mem_append_right _ (List.mem_append_left _ (List.mem_of_getElem? (i := 38) rfl)))
set_option maxRecDepth 20000 in
theorem wm_119 : (Cond.instanceMethod y_M_page) ∈ w_all := List.mem_append_right _ (List.mem_append_right _ (List.mem_append_left _ (List.mem_of_getElem? (i := 39) rfl)))
set_option maxRecDepth 20000 in
theorem wm_120 : (Cond.selects R_M y_M_page y_M_page) ∈ w_all := List.mem_append_right _ (List.mem_append_right _ (List.mem_append_right _ (List.mem_append_left _ (List.mem_of_getElem? (i := 0) rfl))))
set_option maxRecDepth 20000 in
theorem wm_121 : (Cond.code y_M_nextPage b_M_nextPage 3 (some .int)) ∈ w_all := List.mem_append_right _ (List.mem_append_right _ (List.mem_append_right _ (List.mem_append_left _ (List.mem_of_getElem? (i := 1) rfl))))
set_option maxRecDepth 20000 in
theorem wm_122 : (Cond.methodLink R_M 85 y_M_nextPage) ∈ w_all := List.mem_append_right _ (List.mem_append_right _ (List.mem_append_right _ (List.mem_append_left _ (List.mem_of_getElem? (i := 2) rfl))))
set_option maxRecDepth 20000 in
theorem wm_123 : (Cond.instanceMethod y_M_nextPage) ∈ w_all := List.mem_append_right _ (List.mem_append_right _ (List.mem_append_right _ (List.mem_append_left _ (List.mem_of_getElem? (i := 3) rfl))))
set_option maxRecDepth 20000 in
theorem wm_124 : (Cond.selects R_M y_M_nextPage y_M_nextPage) ∈ w_all := List.mem_append_right _ (List.mem_append_right _ (List.mem_append_right _ (List.mem_append_left _ (List.mem_of_getElem? (i := 4) rfl))))
set_option maxRecDepth 20000 in
theorem wm_125 : (Cond.code y_M_mark b_M_mark 2 (some .boolean)) ∈ w_all := List.mem_append_right _ (List.mem_append_right _ (List.mem_append_right _ (List.mem_append_left _ (List.mem_of_getElem? (i := 5) rfl))))
set_option maxRecDepth 20000 in
theorem wm_126 : (Cond.methodLink R_M 107 y_M_mark) ∈ w_all := List.mem_append_right _ (List.mem_append_right _ (List.mem_append_right _ (List.mem_append_left _ (List.mem_of_getElem? (i := 6) rfl))))
set_option maxRecDepth 20000 in
theorem wm_127 : (Cond.instanceMethod y_M_mark) ∈ w_all := List.mem_append_right _ (List.mem_append_right _ (List.mem_append_right _ (List.mem_append_left _ (List.mem_of_getElem? (i := 7) rfl))))
set_option maxRecDepth 20000 in
theorem wm_128 : (Cond.selects R_M y_M_mark y_M_mark) ∈ w_all := List.mem_append_right _ (List.mem_append_right _ (List.mem_append_right _ (List.mem_append_left _ (List.mem_of_getElem? (i := 8) rfl))))
set_option maxRecDepth 20000 in
theorem wm_129 : (Cond.code y_M_fresh b_M_fresh 4 none) ∈ w_all := List.mem_append_right _ (List.mem_append_right _ (List.mem_append_right _ (List.mem_append_left _ (List.mem_of_getElem? (i := 9) rfl))))
set_option maxRecDepth 20000 in
theorem wm_130 : (Cond.methodLink R_M 111 y_M_fresh) ∈ w_all := List.mem_append_right _ (List.mem_append_right _ (List.mem_append_right _ (List.mem_append_left _ (List.mem_of_getElem? (i := 10) rfl))))
set_option maxRecDepth 20000 in
theorem wm_131 : (Cond.instanceMethod y_M_fresh) ∈ w_all := List.mem_append_right _ (List.mem_append_right _ (List.mem_append_right _ (List.mem_append_left _ (List.mem_of_getElem? (i := 11) rfl))))
set_option maxRecDepth 20000 in
theorem wm_132 : (Cond.selects R_M y_M_fresh y_M_fresh) ∈ w_all := List.mem_append_right _ (List.mem_append_right _ (List.mem_append_right _ (List.mem_append_left _ (List.mem_of_getElem? (i := 12) rfl))))
set_option maxRecDepth 20000 in
theorem wm_133 : (Cond.code y_M_like b_M_like 2 none) ∈ w_all := List.mem_append_right _ (List.mem_append_right _ (List.mem_append_right _ (List.mem_append_left _ (List.mem_of_getElem? (i := 13) rfl))))
set_option maxRecDepth 20000 in
theorem wm_134 : (Cond.methodLink R_M 115 y_M_like) ∈ w_all := List.mem_append_right _ (List.mem_append_right _ (List.mem_append_right _ (List.mem_append_left _ (List.mem_of_getElem? (i := 14) rfl))))
set_option maxRecDepth 20000 in
theorem wm_135 : (Cond.instanceMethod y_M_like) ∈ w_all := List.mem_append_right _ (List.mem_append_right _ (List.mem_append_right _ (List.mem_append_left _ (List.mem_of_getElem? (i := 15) rfl))))
set_option maxRecDepth 20000 in
theorem wm_136 : (Cond.selects R_M y_M_like y_M_like) ∈ w_all := List.mem_append_right _ (List.mem_append_right _ (List.mem_append_right _ (List.mem_append_left _ (List.mem_of_getElem? (i := 16) rfl))))
set_option maxRecDepth 20000 in
theorem wm_137 : (Cond.code y_M_put b_M_put 3 (some .boolean)) ∈ w_all := List.mem_append_right _ (List.mem_append_right _ (List.mem_append_right _ (List.mem_append_left _ (List.mem_of_getElem? (i := 17) rfl))))
set_option maxRecDepth 20000 in
theorem wm_138 : (Cond.methodLink R_M 119 y_M_put) ∈ w_all := List.mem_append_right _ (List.mem_append_right _ (List.mem_append_right _ (List.mem_append_left _ (List.mem_of_getElem? (i := 18) rfl))))
set_option maxRecDepth 20000 in
theorem wm_139 : (Cond.instanceMethod y_M_put) ∈ w_all := List.mem_append_right _ (List.mem_append_right _ (List.mem_append_right _ (List.mem_append_left _ (List.mem_of_getElem? (i := 19) rfl))))
set_option maxRecDepth 20000 in
theorem wm_140 : (Cond.selects R_M y_M_put y_M_put) ∈ w_all := List.mem_append_right _ (List.mem_append_right _ (List.mem_append_right _ (List.mem_append_left _ (List.mem_of_getElem? (i := 20) rfl))))
set_option maxRecDepth 20000 in
theorem wm_141 : (Cond.code y_M_free b_M_free 3 (some .int)) ∈ w_all := List.mem_append_right _ (List.mem_append_right _ (List.mem_append_right _ (List.mem_append_left _ (List.mem_of_getElem? (i := 21) rfl))))
set_option maxRecDepth 20000 in
theorem wm_142 : (Cond.methodLink R_M 122 y_M_free) ∈ w_all := List.mem_append_right _ (List.mem_append_right _ (List.mem_append_right _ (List.mem_append_left _ (List.mem_of_getElem? (i := 22) rfl))))
set_option maxRecDepth 20000 in
theorem wm_143 : (Cond.instanceMethod y_M_free) ∈ w_all := List.mem_append_right _ (List.mem_append_right _ (List.mem_append_right _ (List.mem_append_left _ (List.mem_of_getElem? (i := 23) rfl))))
set_option maxRecDepth 20000 in
theorem wm_144 : (Cond.selects R_M y_M_free y_M_free) ∈ w_all := List.mem_append_right _ (List.mem_append_right _ (List.mem_append_right _ (List.mem_append_left _ (List.mem_of_getElem? (i := 24) rfl))))
set_option maxRecDepth 20000 in
theorem wm_145 : (Cond.code y_M_lives b_M_lives 4 (some .int)) ∈ w_all := List.mem_append_right _ (List.mem_append_right _ (List.mem_append_right _ (List.mem_append_left _ (List.mem_of_getElem? (i := 25) rfl))))
set_option maxRecDepth 20000 in
theorem wm_146 : (Cond.methodLink R_M 125 y_M_lives) ∈ w_all := List.mem_append_right _ (List.mem_append_right _ (List.mem_append_right _ (List.mem_append_left _ (List.mem_of_getElem? (i := 26) rfl))))
set_option maxRecDepth 20000 in
theorem wm_147 : (Cond.instanceMethod y_M_lives) ∈ w_all := List.mem_append_right _ (List.mem_append_right _ (List.mem_append_right _ (List.mem_append_left _ (List.mem_of_getElem? (i := 27) rfl))))
set_option maxRecDepth 20000 in
theorem wm_148 : (Cond.selects R_M y_M_lives y_M_lives) ∈ w_all := List.mem_append_right _ (List.mem_append_right _ (List.mem_append_right _ (List.mem_append_left _ (List.mem_of_getElem? (i := 28) rfl))))
set_option maxRecDepth 20000 in
theorem wm_149 : (Cond.code y_M_poorest b_M_poorest 6 (some .int)) ∈ w_all := List.mem_append_right _ (List.mem_append_right _ (List.mem_append_right _ (List.mem_append_left _ (List.mem_of_getElem? (i := 29) rfl))))
set_option maxRecDepth 20000 in
theorem wm_150 : (Cond.methodLink R_M 128 y_M_poorest) ∈ w_all := List.mem_append_right _ (List.mem_append_right _ (List.mem_append_right _ (List.mem_append_left _ (List.mem_of_getElem? (i := 30) rfl))))
set_option maxRecDepth 20000 in
theorem wm_151 : (Cond.instanceMethod y_M_poorest) ∈ w_all := List.mem_append_right _ (List.mem_append_right _ (List.mem_append_right _ (List.mem_append_left _ (List.mem_of_getElem? (i := 31) rfl))))
set_option maxRecDepth 20000 in
theorem wm_152 : (Cond.selects R_M y_M_poorest y_M_poorest) ∈ w_all := List.mem_append_right _ (List.mem_append_right _ (List.mem_append_right _ (List.mem_append_left _ (List.mem_of_getElem? (i := 32) rfl))))
set_option maxRecDepth 20000 in
theorem wm_153 : (Cond.code y_M_collect b_M_collect 3 (some .boolean)) ∈ w_all := List.mem_append_right _ (List.mem_append_right _ (List.mem_append_right _ (List.mem_append_left _ (List.mem_of_getElem? (i := 33) rfl))))
set_option maxRecDepth 20000 in
theorem wm_154 : (Cond.methodLink R_M 131 y_M_collect) ∈ w_all := List.mem_append_right _ (List.mem_append_right _ (List.mem_append_right _ (List.mem_append_left _ (List.mem_of_getElem? (i := 34) rfl))))
set_option maxRecDepth 20000 in
theorem wm_155 : (Cond.instanceMethod y_M_collect) ∈ w_all := List.mem_append_right _ (List.mem_append_right _ (List.mem_append_right _ (List.mem_append_left _ (List.mem_of_getElem? (i := 35) rfl))))
set_option maxRecDepth 20000 in
theorem wm_156 : (Cond.selects R_M y_M_collect y_M_collect) ∈ w_all := List.mem_append_right _ (List.mem_append_right _ (List.mem_append_right _ (List.mem_append_left _ (List.mem_of_getElem? (i := 36) rfl))))
set_option maxRecDepth 20000 in
theorem wm_157 : (Cond.code y_M_header b_M_header 2 (some .int)) ∈ w_all := List.mem_append_right _ (List.mem_append_right _ (List.mem_append_right _ (List.mem_append_left _ (List.mem_of_getElem? (i := 37) rfl))))
set_option maxRecDepth 20000 in
theorem wm_158 : (Cond.methodLink R_M 134 y_M_header) ∈ w_all := List.mem_append_right _ (List.mem_append_right _ (List.mem_append_right _ (List.mem_append_left _ (List.mem_of_getElem? (i := 38) rfl))))
set_option maxRecDepth 20000 in
theorem wm_159 : (Cond.instanceMethod y_M_header) ∈ w_all := List.mem_append_right _ (List.mem_append_right _ (List.mem_append_right _ (List.mem_append_left _ (List.mem_of_getElem? (i := 39) rfl))))
set_option maxRecDepth 20000 in
theorem wm_160 : (Cond.selects R_M y_M_header y_M_header) ∈ w_all := List.mem_append_right _ (List.mem_append_right _ (List.mem_append_right _ (List.mem_append_right _ (List.mem_append_left _ (List.mem_of_getElem? (i := 0) rfl)))))
set_option maxRecDepth 20000 in
theorem wm_161 : (Cond.code y_M_there b_M_there 2 (some .boolean)) ∈ w_all := List.mem_append_right _ (List.mem_append_right _ (List.mem_append_right _ (List.mem_append_right _ (List.mem_append_left _ (List.mem_of_getElem? (i := 1) rfl)))))
set_option maxRecDepth 20000 in
theorem wm_162 : (Cond.methodLink R_M 137 y_M_there) ∈ w_all := List.mem_append_right _ (List.mem_append_right _ (List.mem_append_right _ (List.mem_append_right _ (List.mem_append_left _ (List.mem_of_getElem? (i := 2) rfl)))))
set_option maxRecDepth 20000 in
theorem wm_163 : (Cond.instanceMethod y_M_there) ∈ w_all := List.mem_append_right _ (List.mem_append_right _ (List.mem_append_right _ (List.mem_append_right _ (List.mem_append_left _ (List.mem_of_getElem? (i := 3) rfl)))))
set_option maxRecDepth 20000 in
theorem wm_164 : (Cond.selects R_M y_M_there y_M_there) ∈ w_all := List.mem_append_right _ (List.mem_append_right _ (List.mem_append_right _ (List.mem_append_right _ (List.mem_append_left _ (List.mem_of_getElem? (i := 4) rfl)))))
set_option maxRecDepth 20000 in
theorem wm_165 : (Cond.code y_M_directory b_M_directory 3 (some .boolean)) ∈ w_all := List.mem_append_right _ (List.mem_append_right _ (List.mem_append_right _ (List.mem_append_right _ (List.mem_append_left _ (List.mem_of_getElem? (i := 5) rfl)))))
set_option maxRecDepth 20000 in
theorem wm_166 : (Cond.methodLink R_M 140 y_M_directory) ∈ w_all := List.mem_append_right _ (List.mem_append_right _ (List.mem_append_right _ (List.mem_append_right _ (List.mem_append_left _ (List.mem_of_getElem? (i := 6) rfl)))))
set_option maxRecDepth 20000 in
theorem wm_167 : (Cond.instanceMethod y_M_directory) ∈ w_all := List.mem_append_right _ (List.mem_append_right _ (List.mem_append_right _ (List.mem_append_right _ (List.mem_append_left _ (List.mem_of_getElem? (i := 7) rfl)))))
set_option maxRecDepth 20000 in
theorem wm_168 : (Cond.selects R_M y_M_directory y_M_directory) ∈ w_all := List.mem_append_right _ (List.mem_append_right _ (List.mem_append_right _ (List.mem_append_right _ (List.mem_append_left _ (List.mem_of_getElem? (i := 8) rfl)))))
set_option maxRecDepth 20000 in
theorem wm_169 : (Cond.code y_M_named b_M_named 6 (some .int)) ∈ w_all := List.mem_append_right _ (List.mem_append_right _ (List.mem_append_right _ (List.mem_append_right _ (List.mem_append_left _ (List.mem_of_getElem? (i := 9) rfl)))))
set_option maxRecDepth 20000 in
theorem wm_170 : (Cond.methodLink R_M 143 y_M_named) ∈ w_all := List.mem_append_right _ (List.mem_append_right _ (List.mem_append_right _ (List.mem_append_right _ (List.mem_append_left _ (List.mem_of_getElem? (i := 10) rfl)))))
set_option maxRecDepth 20000 in
theorem wm_171 : (Cond.instanceMethod y_M_named) ∈ w_all := List.mem_append_right _ (List.mem_append_right _ (List.mem_append_right _ (List.mem_append_right _ (List.mem_append_left _ (List.mem_of_getElem? (i := 11) rfl)))))
set_option maxRecDepth 20000 in
theorem wm_172 : (Cond.selects R_M y_M_named y_M_named) ∈ w_all := List.mem_append_right _ (List.mem_append_right _ (List.mem_append_right _ (List.mem_append_right _ (List.mem_append_left _ (List.mem_of_getElem? (i := 12) rfl)))))
set_option maxRecDepth 20000 in
theorem wm_173 : (Cond.code y_M_room b_M_room 4 (some .int)) ∈ w_all := List.mem_append_right _ (List.mem_append_right _ (List.mem_append_right _ (List.mem_append_right _ (List.mem_append_left _ (List.mem_of_getElem? (i := 13) rfl)))))
set_option maxRecDepth 20000 in
theorem wm_174 : (Cond.methodLink R_M 147 y_M_room) ∈ w_all := List.mem_append_right _ (List.mem_append_right _ (List.mem_append_right _ (List.mem_append_right _ (List.mem_append_left _ (List.mem_of_getElem? (i := 14) rfl)))))
set_option maxRecDepth 20000 in
theorem wm_175 : (Cond.instanceMethod y_M_room) ∈ w_all := List.mem_append_right _ (List.mem_append_right _ (List.mem_append_right _ (List.mem_append_right _ (List.mem_append_left _ (List.mem_of_getElem? (i := 15) rfl)))))
set_option maxRecDepth 20000 in
theorem wm_176 : (Cond.selects R_M y_M_room y_M_room) ∈ w_all := List.mem_append_right _ (List.mem_append_right _ (List.mem_append_right _ (List.mem_append_right _ (List.mem_append_left _ (List.mem_of_getElem? (i := 16) rfl)))))
set_option maxRecDepth 20000 in
theorem wm_177 : (Cond.code y_M_drop b_M_drop 5 (some .boolean)) ∈ w_all := List.mem_append_right _ (List.mem_append_right _ (List.mem_append_right _ (List.mem_append_right _ (List.mem_append_left _ (List.mem_of_getElem? (i := 17) rfl)))))
set_option maxRecDepth 20000 in
theorem wm_178 : (Cond.methodLink R_M 160 y_M_drop) ∈ w_all := List.mem_append_right _ (List.mem_append_right _ (List.mem_append_right _ (List.mem_append_right _ (List.mem_append_left _ (List.mem_of_getElem? (i := 18) rfl)))))
set_option maxRecDepth 20000 in
theorem wm_179 : (Cond.instanceMethod y_M_drop) ∈ w_all := List.mem_append_right _ (List.mem_append_right _ (List.mem_append_right _ (List.mem_append_right _ (List.mem_append_left _ (List.mem_of_getElem? (i := 19) rfl)))))
set_option maxRecDepth 20000 in
theorem wm_180 : (Cond.selects R_M y_M_drop y_M_drop) ∈ w_all := List.mem_append_right _ (List.mem_append_right _ (List.mem_append_right _ (List.mem_append_right _ (List.mem_append_left _ (List.mem_of_getElem? (i := 20) rfl)))))
set_option maxRecDepth 20000 in
theorem wm_181 : (Cond.code y_M_lies b_M_lies 6 (some .boolean)) ∈ w_all := List.mem_append_right _ (List.mem_append_right _ (List.mem_append_right _ (List.mem_append_right _ (List.mem_append_left _ (List.mem_of_getElem? (i := 21) rfl)))))
set_option maxRecDepth 20000 in
theorem wm_182 : (Cond.methodLink R_M 164 y_M_lies) ∈ w_all := List.mem_append_right _ (List.mem_append_right _ (List.mem_append_right _ (List.mem_append_right _ (List.mem_append_left _ (List.mem_of_getElem? (i := 22) rfl)))))
set_option maxRecDepth 20000 in
theorem wm_183 : (Cond.instanceMethod y_M_lies) ∈ w_all := List.mem_append_right _ (List.mem_append_right _ (List.mem_append_right _ (List.mem_append_right _ (List.mem_append_left _ (List.mem_of_getElem? (i := 23) rfl)))))
set_option maxRecDepth 20000 in
theorem wm_184 : (Cond.selects R_M y_M_lies y_M_lies) ∈ w_all := List.mem_append_right _ (List.mem_append_right _ (List.mem_append_right _ (List.mem_append_right _ (List.mem_append_left _ (List.mem_of_getElem? (i := 24) rfl)))))
set_option maxRecDepth 20000 in
theorem wm_185 : (Cond.code y_M_inside b_M_inside 5 (some .int)) ∈ w_all := List.mem_append_right _ (List.mem_append_right _ (List.mem_append_right _ (List.mem_append_right _ (List.mem_append_left _ (List.mem_of_getElem? (i := 25) rfl)))))
set_option maxRecDepth 20000 in
theorem wm_186 : (Cond.methodLink R_M 167 y_M_inside) ∈ w_all := List.mem_append_right _ (List.mem_append_right _ (List.mem_append_right _ (List.mem_append_right _ (List.mem_append_left _ (List.mem_of_getElem? (i := 26) rfl)))))
set_option maxRecDepth 20000 in
theorem wm_187 : (Cond.instanceMethod y_M_inside) ∈ w_all := List.mem_append_right _ (List.mem_append_right _ (List.mem_append_right _ (List.mem_append_right _ (List.mem_append_left _ (List.mem_of_getElem? (i := 27) rfl)))))
set_option maxRecDepth 20000 in
theorem wm_188 : (Cond.selects R_M y_M_inside y_M_inside) ∈ w_all := List.mem_append_right _ (List.mem_append_right _ (List.mem_append_right _ (List.mem_append_right _ (List.mem_append_left _ (List.mem_of_getElem? (i := 28) rfl)))))
set_option maxRecDepth 20000 in
theorem wm_189 : (Cond.code y_M_followed b_M_followed 3 (some .boolean)) ∈ w_all := List.mem_append_right _ (List.mem_append_right _ (List.mem_append_right _ (List.mem_append_right _ (List.mem_append_left _ (List.mem_of_getElem? (i := 29) rfl)))))
set_option maxRecDepth 20000 in
theorem wm_190 : (Cond.methodLink R_M 173 y_M_followed) ∈ w_all := List.mem_append_right _ (List.mem_append_right _ (List.mem_append_right _ (List.mem_append_right _ (List.mem_append_left _ (List.mem_of_getElem? (i := 30) rfl)))))
set_option maxRecDepth 20000 in
theorem wm_191 : (Cond.instanceMethod y_M_followed) ∈ w_all := List.mem_append_right _ (List.mem_append_right _ (List.mem_append_right _ (List.mem_append_right _ (List.mem_append_left _ (List.mem_of_getElem? (i := 31) rfl)))))
set_option maxRecDepth 20000 in
theorem wm_192 : (Cond.selects R_M y_M_followed y_M_followed) ∈ w_all := List.mem_append_right _ (List.mem_append_right _ (List.mem_append_right _ (List.mem_append_right _ (List.mem_append_left _ (List.mem_of_getElem? (i := 32) rfl)))))
set_option maxRecDepth 20000 in
theorem wm_193 : (Cond.code y_M_sizeOf b_M_sizeOf 4 (some .int)) ∈ w_all := List.mem_append_right _ (List.mem_append_right _ (List.mem_append_right _ (List.mem_append_right _ (List.mem_append_left _ (List.mem_of_getElem? (i := 33) rfl)))))
set_option maxRecDepth 20000 in
theorem wm_194 : (Cond.methodLink R_M 176 y_M_sizeOf) ∈ w_all := List.mem_append_right _ (List.mem_append_right _ (List.mem_append_right _ (List.mem_append_right _ (List.mem_append_left _ (List.mem_of_getElem? (i := 34) rfl)))))
set_option maxRecDepth 20000 in
theorem wm_195 : (Cond.instanceMethod y_M_sizeOf) ∈ w_all := List.mem_append_right _ (List.mem_append_right _ (List.mem_append_right _ (List.mem_append_right _ (List.mem_append_left _ (List.mem_of_getElem? (i := 35) rfl)))))
set_option maxRecDepth 20000 in
theorem wm_196 : (Cond.selects R_M y_M_sizeOf y_M_sizeOf) ∈ w_all := List.mem_append_right _ (List.mem_append_right _ (List.mem_append_right _ (List.mem_append_right _ (List.mem_append_left _ (List.mem_of_getElem? (i := 36) rfl)))))
set_option maxRecDepth 20000 in
theorem wm_197 : (Cond.code y_M_outside b_M_outside 2 (some .boolean)) ∈ w_all := List.mem_append_right _ (List.mem_append_right _ (List.mem_append_right _ (List.mem_append_right _ (List.mem_append_left _ (List.mem_of_getElem? (i := 37) rfl)))))
set_option maxRecDepth 20000 in
theorem wm_198 : (Cond.methodLink R_M 179 y_M_outside) ∈ w_all := List.mem_append_right _ (List.mem_append_right _ (List.mem_append_right _ (List.mem_append_right _ (List.mem_append_left _ (List.mem_of_getElem? (i := 38) rfl)))))
set_option maxRecDepth 20000 in
theorem wm_199 : (Cond.static y_M_outside) ∈ w_all := List.mem_append_right _ (List.mem_append_right _ (List.mem_append_right _ (List.mem_append_right _ (List.mem_append_left _ (List.mem_of_getElem? (i := 39) rfl)))))
set_option maxRecDepth 20000 in
theorem wm_200 : (Cond.code y_S_refusalOfDirectory b_S_refusalOfDirectory 2 (some .int)) ∈ w_all := List.mem_append_right _ (List.mem_append_right _ (List.mem_append_right _ (List.mem_append_right _ (List.mem_append_right _ (List.mem_append_left _ (List.mem_of_getElem? (i := 0) rfl))))))
set_option maxRecDepth 20000 in
theorem wm_201 : (Cond.methodLink R_S 24 y_S_refusalOfDirectory) ∈ w_all := List.mem_append_right _ (List.mem_append_right _ (List.mem_append_right _ (List.mem_append_right _ (List.mem_append_right _ (List.mem_append_left _ (List.mem_of_getElem? (i := 1) rfl))))))
set_option maxRecDepth 20000 in
theorem wm_202 : (Cond.instanceMethod y_S_refusalOfDirectory) ∈ w_all := List.mem_append_right _ (List.mem_append_right _ (List.mem_append_right _ (List.mem_append_right _ (List.mem_append_right _ (List.mem_append_left _ (List.mem_of_getElem? (i := 2) rfl))))))
set_option maxRecDepth 20000 in
theorem wm_203 : (Cond.selects R_S y_S_refusalOfDirectory y_S_refusalOfDirectory) ∈ w_all := List.mem_append_right _ (List.mem_append_right _ (List.mem_append_right _ (List.mem_append_right _ (List.mem_append_right _ (List.mem_append_left _ (List.mem_of_getElem? (i := 3) rfl))))))
set_option maxRecDepth 20000 in
theorem wm_204 : (Cond.initialized R_S) ∈ w_all := List.mem_append_right _ (List.mem_append_right _ (List.mem_append_right _ (List.mem_append_right _ (List.mem_append_right _ (List.mem_append_left _ (List.mem_of_getElem? (i := 4) rfl))))))
set_option maxRecDepth 20000 in
theorem wm_205 : (Cond.code y_S_objectNamed b_S_objectNamed 4 (some .int)) ∈ w_all := List.mem_append_right _ (List.mem_append_right _ (List.mem_append_right _ (List.mem_append_right _ (List.mem_append_right _ (List.mem_append_left _ (List.mem_of_getElem? (i := 5) rfl))))))
set_option maxRecDepth 20000 in
theorem wm_206 : (Cond.methodLink R_S 28 y_S_objectNamed) ∈ w_all := List.mem_append_right _ (List.mem_append_right _ (List.mem_append_right _ (List.mem_append_right _ (List.mem_append_right _ (List.mem_append_left _ (List.mem_of_getElem? (i := 6) rfl))))))
set_option maxRecDepth 20000 in
theorem wm_207 : (Cond.instanceMethod y_S_objectNamed) ∈ w_all := List.mem_append_right _ (List.mem_append_right _ (List.mem_append_right _ (List.mem_append_right _ (List.mem_append_right _ (List.mem_append_left _ (List.mem_of_getElem? (i := 7) rfl))))))
set_option maxRecDepth 20000 in
theorem wm_208 : (Cond.selects R_S y_S_objectNamed y_S_objectNamed) ∈ w_all := List.mem_append_right _ (List.mem_append_right _ (List.mem_append_right _ (List.mem_append_right _ (List.mem_append_right _ (List.mem_append_left _ (List.mem_of_getElem? (i := 8) rfl))))))
set_option maxRecDepth 20000 in
theorem wm_209 : (Cond.code y_S_lowestAbsentObject b_S_lowestAbsentObject 2 (some .int)) ∈ w_all := List.mem_append_right _ (List.mem_append_right _ (List.mem_append_right _ (List.mem_append_right _ (List.mem_append_right _ (List.mem_append_left _ (List.mem_of_getElem? (i := 9) rfl))))))
set_option maxRecDepth 20000 in
theorem wm_210 : (Cond.methodLink R_S 32 y_S_lowestAbsentObject) ∈ w_all := List.mem_append_right _ (List.mem_append_right _ (List.mem_append_right _ (List.mem_append_right _ (List.mem_append_right _ (List.mem_append_left _ (List.mem_of_getElem? (i := 10) rfl))))))
set_option maxRecDepth 20000 in
theorem wm_211 : (Cond.instanceMethod y_S_lowestAbsentObject) ∈ w_all := List.mem_append_right _ (List.mem_append_right _ (List.mem_append_right _ (List.mem_append_right _ (List.mem_append_right _ (List.mem_append_left _ (List.mem_of_getElem? (i := 11) rfl))))))
set_option maxRecDepth 20000 in
theorem wm_212 : (Cond.selects R_S y_S_lowestAbsentObject y_S_lowestAbsentObject) ∈ w_all := List.mem_append_right _ (List.mem_append_right _ (List.mem_append_right _ (List.mem_append_right _ (List.mem_append_right _ (List.mem_append_left _ (List.mem_of_getElem? (i := 12) rfl))))))
set_option maxRecDepth 20000 in
theorem wm_213 : (Cond.code y_S_makeRoom b_S_makeRoom 5 (some .int)) ∈ w_all := List.mem_append_right _ (List.mem_append_right _ (List.mem_append_right _ (List.mem_append_right _ (List.mem_append_right _ (List.mem_append_left _ (List.mem_of_getElem? (i := 13) rfl))))))
set_option maxRecDepth 20000 in
theorem wm_214 : (Cond.methodLink R_S 36 y_S_makeRoom) ∈ w_all := List.mem_append_right _ (List.mem_append_right _ (List.mem_append_right _ (List.mem_append_right _ (List.mem_append_right _ (List.mem_append_left _ (List.mem_of_getElem? (i := 14) rfl))))))
set_option maxRecDepth 20000 in
theorem wm_215 : (Cond.instanceMethod y_S_makeRoom) ∈ w_all := List.mem_append_right _ (List.mem_append_right _ (List.mem_append_right _ (List.mem_append_right _ (List.mem_append_right _ (List.mem_append_left _ (List.mem_of_getElem? (i := 15) rfl))))))
set_option maxRecDepth 20000 in
theorem wm_216 : (Cond.selects R_S y_S_makeRoom y_S_makeRoom) ∈ w_all := List.mem_append_right _ (List.mem_append_right _ (List.mem_append_right _ (List.mem_append_right _ (List.mem_append_right _ (List.mem_append_left _ (List.mem_of_getElem? (i := 16) rfl))))))
set_option maxRecDepth 20000 in
theorem wm_217 : (Cond.code y_T_ofHeader b_T_ofHeader 3 (some .int)) ∈ w_all := List.mem_append_right _ (List.mem_append_right _ (List.mem_append_right _ (List.mem_append_right _ (List.mem_append_right _ (List.mem_append_left _ (List.mem_of_getElem? (i := 17) rfl))))))
set_option maxRecDepth 20000 in
theorem wm_218 : (Cond.methodLink R_S 39 y_T_ofHeader) ∈ w_all := List.mem_append_right _ (List.mem_append_right _ (List.mem_append_right _ (List.mem_append_right _ (List.mem_append_right _ (List.mem_append_left _ (List.mem_of_getElem? (i := 18) rfl))))))
set_option maxRecDepth 20000 in
theorem wm_219 : (Cond.static y_T_ofHeader) ∈ w_all := List.mem_append_right _ (List.mem_append_right _ (List.mem_append_right _ (List.mem_append_right _ (List.mem_append_right _ (List.mem_append_left _ (List.mem_of_getElem? (i := 19) rfl))))))
set_option maxRecDepth 20000 in
theorem wm_220 : (Cond.code y_S_put b_S_put 7 (some .boolean)) ∈ w_all := List.mem_append_right _ (List.mem_append_right _ (List.mem_append_right _ (List.mem_append_right _ (List.mem_append_right _ (List.mem_append_left _ (List.mem_of_getElem? (i := 20) rfl))))))
set_option maxRecDepth 20000 in
theorem wm_221 : (Cond.methodLink R_S 45 y_S_put) ∈ w_all := List.mem_append_right _ (List.mem_append_right _ (List.mem_append_right _ (List.mem_append_right _ (List.mem_append_right _ (List.mem_append_left _ (List.mem_of_getElem? (i := 21) rfl))))))
set_option maxRecDepth 20000 in
theorem wm_222 : (Cond.instanceMethod y_S_put) ∈ w_all := List.mem_append_right _ (List.mem_append_right _ (List.mem_append_right _ (List.mem_append_right _ (List.mem_append_right _ (List.mem_append_left _ (List.mem_of_getElem? (i := 22) rfl))))))
set_option maxRecDepth 20000 in
theorem wm_223 : (Cond.selects R_S y_S_put y_S_put) ∈ w_all := List.mem_append_right _ (List.mem_append_right _ (List.mem_append_right _ (List.mem_append_right _ (List.mem_append_right _ (List.mem_append_left _ (List.mem_of_getElem? (i := 23) rfl))))))
set_option maxRecDepth 20000 in
theorem wm_224 : (Cond.code y_S_switchOff b_S_switchOff 1 (some .int)) ∈ w_all := List.mem_append_right _ (List.mem_append_right _ (List.mem_append_right _ (List.mem_append_right _ (List.mem_append_right _ (List.mem_append_left _ (List.mem_of_getElem? (i := 24) rfl))))))
set_option maxRecDepth 20000 in
theorem wm_225 : (Cond.methodLink R_S 49 y_S_switchOff) ∈ w_all := List.mem_append_right _ (List.mem_append_right _ (List.mem_append_right _ (List.mem_append_right _ (List.mem_append_right _ (List.mem_append_left _ (List.mem_of_getElem? (i := 25) rfl))))))
set_option maxRecDepth 20000 in
theorem wm_226 : (Cond.instanceMethod y_S_switchOff) ∈ w_all := List.mem_append_right _ (List.mem_append_right _ (List.mem_append_right _ (List.mem_append_right _ (List.mem_append_right _ (List.mem_append_left _ (List.mem_of_getElem? (i := 26) rfl))))))
set_option maxRecDepth 20000 in
theorem wm_227 : (Cond.selects R_S y_S_switchOff y_S_switchOff) ∈ w_all := List.mem_append_right _ (List.mem_append_right _ (List.mem_append_right _ (List.mem_append_right _ (List.mem_append_right _ (List.mem_append_left _ (List.mem_of_getElem? (i := 27) rfl))))))
set_option maxRecDepth 20000 in
theorem wm_228 : (Cond.code y_S_refusalOfFile b_S_refusalOfFile 3 (some .int)) ∈ w_all := List.mem_append_right _ (List.mem_append_right _ (List.mem_append_right _ (List.mem_append_right _ (List.mem_append_right _ (List.mem_append_left _ (List.mem_of_getElem? (i := 28) rfl))))))
set_option maxRecDepth 20000 in
theorem wm_229 : (Cond.methodLink R_S 52 y_S_refusalOfFile) ∈ w_all := List.mem_append_right _ (List.mem_append_right _ (List.mem_append_right _ (List.mem_append_right _ (List.mem_append_right _ (List.mem_append_left _ (List.mem_of_getElem? (i := 29) rfl))))))
set_option maxRecDepth 20000 in
theorem wm_230 : (Cond.instanceMethod y_S_refusalOfFile) ∈ w_all := List.mem_append_right _ (List.mem_append_right _ (List.mem_append_right _ (List.mem_append_right _ (List.mem_append_right _ (List.mem_append_left _ (List.mem_of_getElem? (i := 30) rfl))))))
set_option maxRecDepth 20000 in
theorem wm_231 : (Cond.selects R_S y_S_refusalOfFile y_S_refusalOfFile) ∈ w_all := List.mem_append_right _ (List.mem_append_right _ (List.mem_append_right _ (List.mem_append_right _ (List.mem_append_right _ (List.mem_append_left _ (List.mem_of_getElem? (i := 31) rfl))))))
set_option maxRecDepth 20000 in
theorem wm_232 : (Cond.code y_S_headerTags b_S_headerTags 3 (some .int)) ∈ w_all := List.mem_append_right _ (List.mem_append_right _ (List.mem_append_right _ (List.mem_append_right _ (List.mem_append_right _ (List.mem_append_left _ (List.mem_of_getElem? (i := 32) rfl))))))
set_option maxRecDepth 20000 in
theorem wm_233 : (Cond.methodLink R_S 55 y_S_headerTags) ∈ w_all := List.mem_append_right _ (List.mem_append_right _ (List.mem_append_right _ (List.mem_append_right _ (List.mem_append_right _ (List.mem_append_left _ (List.mem_of_getElem? (i := 33) rfl))))))
set_option maxRecDepth 20000 in
theorem wm_234 : (Cond.instanceMethod y_S_headerTags) ∈ w_all := List.mem_append_right _ (List.mem_append_right _ (List.mem_append_right _ (List.mem_append_right _ (List.mem_append_right _ (List.mem_append_left _ (List.mem_of_getElem? (i := 34) rfl))))))
set_option maxRecDepth 20000 in
theorem wm_235 : (Cond.selects R_S y_S_headerTags y_S_headerTags) ∈ w_all := List.mem_append_right _ (List.mem_append_right _ (List.mem_append_right _ (List.mem_append_right _ (List.mem_append_right _ (List.mem_append_left _ (List.mem_of_getElem? (i := 35) rfl))))))
set_option maxRecDepth 20000 in
theorem wm_236 : (Cond.code y_T_length b_T_length 1 (some .int)) ∈ w_all := List.mem_append_right _ (List.mem_append_right _ (List.mem_append_right _ (List.mem_append_right _ (List.mem_append_right _ (List.mem_append_left _ (List.mem_of_getElem? (i := 36) rfl))))))
set_option maxRecDepth 20000 in
theorem wm_237 : (Cond.methodLink R_S 58 y_T_length) ∈ w_all := List.mem_append_right _ (List.mem_append_right _ (List.mem_append_right _ (List.mem_append_right _ (List.mem_append_right _ (List.mem_append_left _ (List.mem_of_getElem? (i := 37) rfl))))))
set_option maxRecDepth 20000 in
theorem wm_238 : (Cond.static y_T_length) ∈ w_all := List.mem_append_right _ (List.mem_append_right _ (List.mem_append_right _ (List.mem_append_right _ (List.mem_append_right _ (List.mem_append_left _ (List.mem_of_getElem? (i := 38) rfl))))))
set_option maxRecDepth 20000 in
theorem wm_239 : (Cond.code y_C_livePage b_C_livePage 4 (some .int)) ∈ w_all := List.mem_append_right _ (List.mem_append_right _ (List.mem_append_right _ (List.mem_append_right _ (List.mem_append_right _ (List.mem_append_left _ (List.mem_of_getElem? (i := 39) rfl))))))
set_option maxRecDepth 20000 in
theorem wm_240 : (Cond.methodLink R_S 61 y_C_livePage) ∈ w_all := List.mem_append_right _ (List.mem_append_right _ (List.mem_append_right _ (List.mem_append_right _ (List.mem_append_right _ (List.mem_append_right _ (List.mem_append_left _ (List.mem_of_getElem? (i := 0) rfl)))))))
set_option maxRecDepth 20000 in
theorem wm_241 : (Cond.instanceMethod y_C_livePage) ∈ w_all := List.mem_append_right _ (List.mem_append_right _ (List.mem_append_right _ (List.mem_append_right _ (List.mem_append_right _ (List.mem_append_right _ (List.mem_append_left _ (List.mem_of_getElem? (i := 1) rfl)))))))
set_option maxRecDepth 20000 in
theorem wm_242 : (Cond.selects R_C y_C_livePage y_C_livePage) ∈ w_all := List.mem_append_right _ (List.mem_append_right _ (List.mem_append_right _ (List.mem_append_right _ (List.mem_append_right _ (List.mem_append_right _ (List.mem_append_left _ (List.mem_of_getElem? (i := 2) rfl)))))))
set_option maxRecDepth 20000 in
theorem wm_243 : (Cond.code y_T_ofChunk b_T_ofChunk 2 (some .int)) ∈ w_all := List.mem_append_right _ (List.mem_append_right _ (List.mem_append_right _ (List.mem_append_right _ (List.mem_append_right _ (List.mem_append_right _ (List.mem_append_left _ (List.mem_of_getElem? (i := 3) rfl)))))))
set_option maxRecDepth 20000 in
theorem wm_244 : (Cond.methodLink R_S 64 y_T_ofChunk) ∈ w_all := List.mem_append_right _ (List.mem_append_right _ (List.mem_append_right _ (List.mem_append_right _ (List.mem_append_right _ (List.mem_append_right _ (List.mem_append_left _ (List.mem_of_getElem? (i := 4) rfl)))))))
set_option maxRecDepth 20000 in
theorem wm_245 : (Cond.static y_T_ofChunk) ∈ w_all := List.mem_append_right _ (List.mem_append_right _ (List.mem_append_right _ (List.mem_append_right _ (List.mem_append_right _ (List.mem_append_right _ (List.mem_append_left _ (List.mem_of_getElem? (i := 5) rfl)))))))
set_option maxRecDepth 20000 in
theorem wm_246 : (Cond.code y_S_putLength b_S_putLength 4 (some .boolean)) ∈ w_all := List.mem_append_right _ (List.mem_append_right _ (List.mem_append_right _ (List.mem_append_right _ (List.mem_append_right _ (List.mem_append_right _ (List.mem_append_left _ (List.mem_of_getElem? (i := 6) rfl)))))))
set_option maxRecDepth 20000 in
theorem wm_247 : (Cond.methodLink R_S 67 y_S_putLength) ∈ w_all := List.mem_append_right _ (List.mem_append_right _ (List.mem_append_right _ (List.mem_append_right _ (List.mem_append_right _ (List.mem_append_right _ (List.mem_append_left _ (List.mem_of_getElem? (i := 7) rfl)))))))
set_option maxRecDepth 20000 in
theorem wm_248 : (Cond.instanceMethod y_S_putLength) ∈ w_all := List.mem_append_right _ (List.mem_append_right _ (List.mem_append_right _ (List.mem_append_right _ (List.mem_append_right _ (List.mem_append_right _ (List.mem_append_left _ (List.mem_of_getElem? (i := 8) rfl)))))))
set_option maxRecDepth 20000 in
theorem wm_249 : (Cond.selects R_S y_S_putLength y_S_putLength) ∈ w_all := List.mem_append_right _ (List.mem_append_right _ (List.mem_append_right _ (List.mem_append_right _ (List.mem_append_right _ (List.mem_append_right _ (List.mem_append_left _ (List.mem_of_getElem? (i := 9) rfl)))))))
set_option maxRecDepth 20000 in
theorem wm_250 : (Cond.code y_C_wordRead b_C_wordRead 2 (some .long)) ∈ w_all := List.mem_append_right _ (List.mem_append_right _ (List.mem_append_right _ (List.mem_append_right _ (List.mem_append_right _ (List.mem_append_right _ (List.mem_append_left _ (List.mem_of_getElem? (i := 10) rfl)))))))
set_option maxRecDepth 20000 in
theorem wm_251 : (Cond.methodLink R_S 75 y_C_wordRead) ∈ w_all := List.mem_append_right _ (List.mem_append_right _ (List.mem_append_right _ (List.mem_append_right _ (List.mem_append_right _ (List.mem_append_right _ (List.mem_append_left _ (List.mem_of_getElem? (i := 11) rfl)))))))
set_option maxRecDepth 20000 in
theorem wm_252 : (Cond.instanceMethod y_C_wordRead) ∈ w_all := List.mem_append_right _ (List.mem_append_right _ (List.mem_append_right _ (List.mem_append_right _ (List.mem_append_right _ (List.mem_append_right _ (List.mem_append_left _ (List.mem_of_getElem? (i := 12) rfl)))))))
set_option maxRecDepth 20000 in
theorem wm_253 : (Cond.selects R_C y_C_wordRead y_C_wordRead) ∈ w_all := List.mem_append_right _ (List.mem_append_right _ (List.mem_append_right _ (List.mem_append_right _ (List.mem_append_right _ (List.mem_append_right _ (List.mem_append_left _ (List.mem_of_getElem? (i := 13) rfl)))))))
set_option maxRecDepth 20000 in
theorem wm_254 : (Cond.code y_S_markChunks b_S_markChunks 5 (some .boolean)) ∈ w_all := List.mem_append_right _ (List.mem_append_right _ (List.mem_append_right _ (List.mem_append_right _ (List.mem_append_right _ (List.mem_append_right _ (List.mem_append_left _ (List.mem_of_getElem? (i := 14) rfl)))))))
set_option maxRecDepth 20000 in
theorem wm_255 : (Cond.methodLink R_S 79 y_S_markChunks) ∈ w_all := List.mem_append_right _ (List.mem_append_right _ (List.mem_append_right _ (List.mem_append_right _ (List.mem_append_right _ (List.mem_append_right _ (List.mem_append_left _ (List.mem_of_getElem? (i := 15) rfl)))))))
set_option maxRecDepth 20000 in
theorem wm_256 : (Cond.instanceMethod y_S_markChunks) ∈ w_all := List.mem_append_right _ (List.mem_append_right _ (List.mem_append_right _ (List.mem_append_right _ (List.mem_append_right _ (List.mem_append_right _ (List.mem_append_left _ (List.mem_of_getElem? (i := 16) rfl)))))))
set_option maxRecDepth 20000 in
theorem wm_257 : (Cond.selects R_S y_S_markChunks y_S_markChunks) ∈ w_all := List.mem_append_right _ (List.mem_append_right _ (List.mem_append_right _ (List.mem_append_right _ (List.mem_append_right _ (List.mem_append_right _ (List.mem_append_left _ (List.mem_of_getElem? (i := 17) rfl)))))))
set_option maxRecDepth 20000 in
theorem wm_258 : (Cond.code y_S_refusalOfObject b_S_refusalOfObject 2 (some .int)) ∈ w_all := List.mem_append_right _ (List.mem_append_right _ (List.mem_append_right _ (List.mem_append_right _ (List.mem_append_right _ (List.mem_append_right _ (List.mem_append_left _ (List.mem_of_getElem? (i := 18) rfl)))))))
set_option maxRecDepth 20000 in
theorem wm_259 : (Cond.methodLink R_S 82 y_S_refusalOfObject) ∈ w_all := List.mem_append_right _ (List.mem_append_right _ (List.mem_append_right _ (List.mem_append_right _ (List.mem_append_right _ (List.mem_append_right _ (List.mem_append_left _ (List.mem_of_getElem? (i := 19) rfl)))))))
set_option maxRecDepth 20000 in
theorem wm_260 : (Cond.instanceMethod y_S_refusalOfObject) ∈ w_all := List.mem_append_right _ (List.mem_append_right _ (List.mem_append_right _ (List.mem_append_right _ (List.mem_append_right _ (List.mem_append_right _ (List.mem_append_left _ (List.mem_of_getElem? (i := 20) rfl)))))))
set_option maxRecDepth 20000 in
theorem wm_261 : (Cond.selects R_S y_S_refusalOfObject y_S_refusalOfObject) ∈ w_all := List.mem_append_right _ (List.mem_append_right _ (List.mem_append_right _ (List.mem_append_right _ (List.mem_append_right _ (List.mem_append_right _ (List.mem_append_left _ (List.mem_of_getElem? (i := 21) rfl)))))))
set_option maxRecDepth 20000 in
theorem wm_262 : (Cond.code y_S_liesIn b_S_liesIn 5 (some .boolean)) ∈ w_all := List.mem_append_right _ (List.mem_append_right _ (List.mem_append_right _ (List.mem_append_right _ (List.mem_append_right _ (List.mem_append_right _ (List.mem_append_left _ (List.mem_of_getElem? (i := 22) rfl)))))))
set_option maxRecDepth 20000 in
theorem wm_263 : (Cond.methodLink R_S 85 y_S_liesIn) ∈ w_all := List.mem_append_right _ (List.mem_append_right _ (List.mem_append_right _ (List.mem_append_right _ (List.mem_append_right _ (List.mem_append_right _ (List.mem_append_left _ (List.mem_of_getElem? (i := 23) rfl)))))))
set_option maxRecDepth 20000 in
theorem wm_264 : (Cond.instanceMethod y_S_liesIn) ∈ w_all := List.mem_append_right _ (List.mem_append_right _ (List.mem_append_right _ (List.mem_append_right _ (List.mem_append_right _ (List.mem_append_right _ (List.mem_append_left _ (List.mem_of_getElem? (i := 24) rfl)))))))
set_option maxRecDepth 20000 in
theorem wm_265 : (Cond.selects R_S y_S_liesIn y_S_liesIn) ∈ w_all := List.mem_append_right _ (List.mem_append_right _ (List.mem_append_right _ (List.mem_append_right _ (List.mem_append_right _ (List.mem_append_right _ (List.mem_append_left _ (List.mem_of_getElem? (i := 25) rfl)))))))
set_option maxRecDepth 20000 in
theorem wm_266 : (Cond.code y_T_withParent b_T_withParent 2 (some .int)) ∈ w_all := List.mem_append_right _ (List.mem_append_right _ (List.mem_append_right _ (List.mem_append_right _ (List.mem_append_right _ (List.mem_append_right _ (List.mem_append_left _ (List.mem_of_getElem? (i := 26) rfl)))))))
set_option maxRecDepth 20000 in
theorem wm_267 : (Cond.methodLink R_S 88 y_T_withParent) ∈ w_all := List.mem_append_right _ (List.mem_append_right _ (List.mem_append_right _ (List.mem_append_right _ (List.mem_append_right _ (List.mem_append_right _ (List.mem_append_left _ (List.mem_of_getElem? (i := 27) rfl)))))))
set_option maxRecDepth 20000 in
theorem wm_268 : (Cond.static y_T_withParent) ∈ w_all := List.mem_append_right _ (List.mem_append_right _ (List.mem_append_right _ (List.mem_append_right _ (List.mem_append_right _ (List.mem_append_right _ (List.mem_append_left _ (List.mem_of_getElem? (i := 28) rfl)))))))
set_option maxRecDepth 20000 in
theorem wm_269 : (Cond.code y_S_objectsIn b_S_objectsIn 4 (some .int)) ∈ w_all := List.mem_append_right _ (List.mem_append_right _ (List.mem_append_right _ (List.mem_append_right _ (List.mem_append_right _ (List.mem_append_right _ (List.mem_append_left _ (List.mem_of_getElem? (i := 29) rfl)))))))
set_option maxRecDepth 20000 in
theorem wm_270 : (Cond.methodLink R_S 91 y_S_objectsIn) ∈ w_all := List.mem_append_right _ (List.mem_append_right _ (List.mem_append_right _ (List.mem_append_right _ (List.mem_append_right _ (List.mem_append_right _ (List.mem_append_left _ (List.mem_of_getElem? (i := 30) rfl)))))))
set_option maxRecDepth 20000 in
theorem wm_271 : (Cond.instanceMethod y_S_objectsIn) ∈ w_all := List.mem_append_right _ (List.mem_append_right _ (List.mem_append_right _ (List.mem_append_right _ (List.mem_append_right _ (List.mem_append_right _ (List.mem_append_left _ (List.mem_of_getElem? (i := 31) rfl)))))))
set_option maxRecDepth 20000 in
theorem wm_272 : (Cond.selects R_S y_S_objectsIn y_S_objectsIn) ∈ w_all := List.mem_append_right _ (List.mem_append_right _ (List.mem_append_right _ (List.mem_append_right _ (List.mem_append_right _ (List.mem_append_right _ (List.mem_append_left _ (List.mem_of_getElem? (i := 32) rfl)))))))
set_option maxRecDepth 20000 in
theorem wm_273 : (Cond.code y_S_isThere b_S_isThere 2 (some .boolean)) ∈ w_all := List.mem_append_right _ (List.mem_append_right _ (List.mem_append_right _ (List.mem_append_right _ (List.mem_append_right _ (List.mem_append_right _ (List.mem_append_left _ (List.mem_of_getElem? (i := 33) rfl)))))))
set_option maxRecDepth 20000 in
theorem wm_274 : (Cond.methodLink R_S 94 y_S_isThere) ∈ w_all := List.mem_append_right _ (List.mem_append_right _ (List.mem_append_right _ (List.mem_append_right _ (List.mem_append_right _ (List.mem_append_right _ (List.mem_append_left _ (List.mem_of_getElem? (i := 34) rfl)))))))
set_option maxRecDepth 20000 in
theorem wm_275 : (Cond.instanceMethod y_S_isThere) ∈ w_all := List.mem_append_right _ (List.mem_append_right _ (List.mem_append_right _ (List.mem_append_right _ (List.mem_append_right _ (List.mem_append_right _ (List.mem_append_left _ (List.mem_of_getElem? (i := 35) rfl)))))))
set_option maxRecDepth 20000 in
theorem wm_276 : (Cond.selects R_S y_S_isThere y_S_isThere) ∈ w_all := List.mem_append_right _ (List.mem_append_right _ (List.mem_append_right _ (List.mem_append_right _ (List.mem_append_right _ (List.mem_append_right _ (List.mem_append_left _ (List.mem_of_getElem? (i := 36) rfl)))))))
set_option maxRecDepth 20000 in
theorem wm_277 : (Cond.code y_S_isDirectory b_S_isDirectory 2 (some .boolean)) ∈ w_all := List.mem_append_right _ (List.mem_append_right _ (List.mem_append_right _ (List.mem_append_right _ (List.mem_append_right _ (List.mem_append_right _ (List.mem_append_left _ (List.mem_of_getElem? (i := 37) rfl)))))))
set_option maxRecDepth 20000 in
theorem wm_278 : (Cond.methodLink R_S 98 y_S_isDirectory) ∈ w_all := List.mem_append_right _ (List.mem_append_right _ (List.mem_append_right _ (List.mem_append_right _ (List.mem_append_right _ (List.mem_append_right _ (List.mem_append_left _ (List.mem_of_getElem? (i := 38) rfl)))))))
set_option maxRecDepth 20000 in
theorem wm_279 : (Cond.instanceMethod y_S_isDirectory) ∈ w_all := List.mem_append_right _ (List.mem_append_right _ (List.mem_append_right _ (List.mem_append_right _ (List.mem_append_right _ (List.mem_append_right _ (List.mem_append_left _ (List.mem_of_getElem? (i := 39) rfl)))))))
set_option maxRecDepth 20000 in
theorem wm_280 : (Cond.selects R_S y_S_isDirectory y_S_isDirectory) ∈ w_all := List.mem_append_right _ (List.mem_append_right _ (List.mem_append_right _ (List.mem_append_right _ (List.mem_append_right _ (List.mem_append_right _ (List.mem_append_right _ (List.mem_append_left _ (List.mem_of_getElem? (i := 0) rfl))))))))
set_option maxRecDepth 20000 in
theorem wm_281 : (Cond.code y_T_parent b_T_parent 1 (some .int)) ∈ w_all := List.mem_append_right _ (List.mem_append_right _ (List.mem_append_right _ (List.mem_append_right _ (List.mem_append_right _ (List.mem_append_right _ (List.mem_append_right _ (List.mem_append_left _ (List.mem_of_getElem? (i := 1) rfl))))))))
set_option maxRecDepth 20000 in
theorem wm_282 : (Cond.methodLink R_S 101 y_T_parent) ∈ w_all := List.mem_append_right _ (List.mem_append_right _ (List.mem_append_right _ (List.mem_append_right _ (List.mem_append_right _ (List.mem_append_right _ (List.mem_append_right _ (List.mem_append_left _ (List.mem_of_getElem? (i := 2) rfl))))))))
set_option maxRecDepth 20000 in
theorem wm_283 : (Cond.static y_T_parent) ∈ w_all := List.mem_append_right _ (List.mem_append_right _ (List.mem_append_right _ (List.mem_append_right _ (List.mem_append_right _ (List.mem_append_right _ (List.mem_append_right _ (List.mem_append_left _ (List.mem_of_getElem? (i := 3) rfl))))))))
set_option maxRecDepth 20000 in
theorem wm_284 : (Cond.code y_S_nameRead b_S_nameRead 3 (some .long)) ∈ w_all := List.mem_append_right _ (List.mem_append_right _ (List.mem_append_right _ (List.mem_append_right _ (List.mem_append_right _ (List.mem_append_right _ (List.mem_append_right _ (List.mem_append_left _ (List.mem_of_getElem? (i := 4) rfl))))))))
set_option maxRecDepth 20000 in
theorem wm_285 : (Cond.methodLink R_S 104 y_S_nameRead) ∈ w_all := List.mem_append_right _ (List.mem_append_right _ (List.mem_append_right _ (List.mem_append_right _ (List.mem_append_right _ (List.mem_append_right _ (List.mem_append_right _ (List.mem_append_left _ (List.mem_of_getElem? (i := 5) rfl))))))))
set_option maxRecDepth 20000 in
theorem wm_286 : (Cond.instanceMethod y_S_nameRead) ∈ w_all := List.mem_append_right _ (List.mem_append_right _ (List.mem_append_right _ (List.mem_append_right _ (List.mem_append_right _ (List.mem_append_right _ (List.mem_append_right _ (List.mem_append_left _ (List.mem_of_getElem? (i := 6) rfl))))))))
set_option maxRecDepth 20000 in
theorem wm_287 : (Cond.selects R_S y_S_nameRead y_S_nameRead) ∈ w_all := List.mem_append_right _ (List.mem_append_right _ (List.mem_append_right _ (List.mem_append_right _ (List.mem_append_right _ (List.mem_append_right _ (List.mem_append_right _ (List.mem_append_left _ (List.mem_of_getElem? (i := 7) rfl))))))))
set_option maxRecDepth 20000 in
theorem wm_288 : (Cond.code y_C_dropRegion b_C_dropRegion 1 (some .boolean)) ∈ w_all := List.mem_append_right _ (List.mem_append_right _ (List.mem_append_right _ (List.mem_append_right _ (List.mem_append_right _ (List.mem_append_right _ (List.mem_append_right _ (List.mem_append_left _ (List.mem_of_getElem? (i := 8) rfl))))))))
set_option maxRecDepth 20000 in
theorem wm_289 : (Cond.methodLink R_S 107 y_C_dropRegion) ∈ w_all := List.mem_append_right _ (List.mem_append_right _ (List.mem_append_right _ (List.mem_append_right _ (List.mem_append_right _ (List.mem_append_right _ (List.mem_append_right _ (List.mem_append_left _ (List.mem_of_getElem? (i := 9) rfl))))))))
set_option maxRecDepth 20000 in
theorem wm_290 : (Cond.instanceMethod y_C_dropRegion) ∈ w_all := List.mem_append_right _ (List.mem_append_right _ (List.mem_append_right _ (List.mem_append_right _ (List.mem_append_right _ (List.mem_append_right _ (List.mem_append_right _ (List.mem_append_left _ (List.mem_of_getElem? (i := 10) rfl))))))))
set_option maxRecDepth 20000 in
theorem wm_291 : (Cond.selects R_C y_C_dropRegion y_C_dropRegion) ∈ w_all := List.mem_append_right _ (List.mem_append_right _ (List.mem_append_right _ (List.mem_append_right _ (List.mem_append_right _ (List.mem_append_right _ (List.mem_append_right _ (List.mem_append_left _ (List.mem_of_getElem? (i := 11) rfl))))))))
set_option maxRecDepth 20000 in
theorem wm_292 : (Cond.code y_C_fillRegion b_C_fillRegion 2 (some .boolean)) ∈ w_all := List.mem_append_right _ (List.mem_append_right _ (List.mem_append_right _ (List.mem_append_right _ (List.mem_append_right _ (List.mem_append_right _ (List.mem_append_right _ (List.mem_append_left _ (List.mem_of_getElem? (i := 12) rfl))))))))
set_option maxRecDepth 20000 in
theorem wm_293 : (Cond.methodLink R_S 111 y_C_fillRegion) ∈ w_all := List.mem_append_right _ (List.mem_append_right _ (List.mem_append_right _ (List.mem_append_right _ (List.mem_append_right _ (List.mem_append_right _ (List.mem_append_right _ (List.mem_append_left _ (List.mem_of_getElem? (i := 13) rfl))))))))
set_option maxRecDepth 20000 in
theorem wm_294 : (Cond.instanceMethod y_C_fillRegion) ∈ w_all := List.mem_append_right _ (List.mem_append_right _ (List.mem_append_right _ (List.mem_append_right _ (List.mem_append_right _ (List.mem_append_right _ (List.mem_append_right _ (List.mem_append_left _ (List.mem_of_getElem? (i := 14) rfl))))))))
set_option maxRecDepth 20000 in
theorem wm_295 : (Cond.selects R_C y_C_fillRegion y_C_fillRegion) ∈ w_all := List.mem_append_right _ (List.mem_append_right _ (List.mem_append_right _ (List.mem_append_right _ (List.mem_append_right _ (List.mem_append_right _ (List.mem_append_right _ (List.mem_append_left _ (List.mem_of_getElem? (i := 15) rfl))))))))
set_option maxRecDepth 20000 in
theorem wm_296 : (Cond.code y_C_countLive b_C_countLive 3 (some .int)) ∈ w_all := List.mem_append_right _ (List.mem_append_right _ (List.mem_append_right _ (List.mem_append_right _ (List.mem_append_right _ (List.mem_append_right _ (List.mem_append_right _ (List.mem_append_left _ (List.mem_of_getElem? (i := 16) rfl))))))))
set_option maxRecDepth 20000 in
theorem wm_297 : (Cond.methodLink R_S 114 y_C_countLive) ∈ w_all := List.mem_append_right _ (List.mem_append_right _ (List.mem_append_right _ (List.mem_append_right _ (List.mem_append_right _ (List.mem_append_right _ (List.mem_append_right _ (List.mem_append_left _ (List.mem_of_getElem? (i := 17) rfl))))))))
set_option maxRecDepth 20000 in
theorem wm_298 : (Cond.instanceMethod y_C_countLive) ∈ w_all := List.mem_append_right _ (List.mem_append_right _ (List.mem_append_right _ (List.mem_append_right _ (List.mem_append_right _ (List.mem_append_right _ (List.mem_append_right _ (List.mem_append_left _ (List.mem_of_getElem? (i := 18) rfl))))))))
set_option maxRecDepth 20000 in
theorem wm_299 : (Cond.selects R_C y_C_countLive y_C_countLive) ∈ w_all := List.mem_append_right _ (List.mem_append_right _ (List.mem_append_right _ (List.mem_append_right _ (List.mem_append_right _ (List.mem_append_right _ (List.mem_append_right _ (List.mem_append_left _ (List.mem_of_getElem? (i := 19) rfl))))))))
set_option maxRecDepth 20000 in
theorem wm_300 : (Cond.code y_C_countGood b_C_countGood 3 (some .int)) ∈ w_all := List.mem_append_right _ (List.mem_append_right _ (List.mem_append_right _ (List.mem_append_right _ (List.mem_append_right _ (List.mem_append_right _ (List.mem_append_right _ (List.mem_append_left _ (List.mem_of_getElem? (i := 20) rfl))))))))
set_option maxRecDepth 20000 in
theorem wm_301 : (Cond.methodLink R_S 120 y_C_countGood) ∈ w_all := List.mem_append_right _ (List.mem_append_right _ (List.mem_append_right _ (List.mem_append_right _ (List.mem_append_right _ (List.mem_append_right _ (List.mem_append_right _ (List.mem_append_left _ (List.mem_of_getElem? (i := 21) rfl))))))))
set_option maxRecDepth 20000 in
theorem wm_302 : (Cond.instanceMethod y_C_countGood) ∈ w_all := List.mem_append_right _ (List.mem_append_right _ (List.mem_append_right _ (List.mem_append_right _ (List.mem_append_right _ (List.mem_append_right _ (List.mem_append_right _ (List.mem_append_left _ (List.mem_of_getElem? (i := 22) rfl))))))))
set_option maxRecDepth 20000 in
theorem wm_303 : (Cond.selects R_C y_C_countGood y_C_countGood) ∈ w_all := List.mem_append_right _ (List.mem_append_right _ (List.mem_append_right _ (List.mem_append_right _ (List.mem_append_right _ (List.mem_append_right _ (List.mem_append_right _ (List.mem_append_left _ (List.mem_of_getElem? (i := 23) rfl))))))))
set_option maxRecDepth 20000 in
theorem wm_304 : (Cond.code y_C_countGoodTouched b_C_countGoodTouched 3 (some .int)) ∈ w_all := List.mem_append_right _ (List.mem_append_right _ (List.mem_append_right _ (List.mem_append_right _ (List.mem_append_right _ (List.mem_append_right _ (List.mem_append_right _ (List.mem_append_left _ (List.mem_of_getElem? (i := 24) rfl))))))))
set_option maxRecDepth 20000 in
theorem wm_305 : (Cond.methodLink R_S 123 y_C_countGoodTouched) ∈ w_all := List.mem_append_right _ (List.mem_append_right _ (List.mem_append_right _ (List.mem_append_right _ (List.mem_append_right _ (List.mem_append_right _ (List.mem_append_right _ (List.mem_append_left _ (List.mem_of_getElem? (i := 25) rfl))))))))
set_option maxRecDepth 20000 in
theorem wm_306 : (Cond.instanceMethod y_C_countGoodTouched) ∈ w_all := List.mem_append_right _ (List.mem_append_right _ (List.mem_append_right _ (List.mem_append_right _ (List.mem_append_right _ (List.mem_append_right _ (List.mem_append_right _ (List.mem_append_left _ (List.mem_of_getElem? (i := 26) rfl))))))))
set_option maxRecDepth 20000 in
theorem wm_307 : (Cond.selects R_C y_C_countGoodTouched y_C_countGoodTouched) ∈ w_all := List.mem_append_right _ (List.mem_append_right _ (List.mem_append_right _ (List.mem_append_right _ (List.mem_append_right _ (List.mem_append_right _ (List.mem_append_right _ (List.mem_append_left _ (List.mem_of_getElem? (i := 27) rfl))))))))
set_option maxRecDepth 20000 in
theorem wm_308 : (Cond.code y_S_settleStale b_S_settleStale 2 none) ∈ w_all := List.mem_append_right _ (List.mem_append_right _ (List.mem_append_right _ (List.mem_append_right _ (List.mem_append_right _ (List.mem_append_right _ (List.mem_append_right _ (List.mem_append_left _ (List.mem_of_getElem? (i := 28) rfl))))))))
set_option maxRecDepth 20000 in
theorem wm_309 : (Cond.methodLink R_S 126 y_S_settleStale) ∈ w_all := List.mem_append_right _ (List.mem_append_right _ (List.mem_append_right _ (List.mem_append_right _ (List.mem_append_right _ (List.mem_append_right _ (List.mem_append_right _ (List.mem_append_left _ (List.mem_of_getElem? (i := 29) rfl))))))))
set_option maxRecDepth 20000 in
theorem wm_310 : (Cond.instanceMethod y_S_settleStale) ∈ w_all := List.mem_append_right _ (List.mem_append_right _ (List.mem_append_right _ (List.mem_append_right _ (List.mem_append_right _ (List.mem_append_right _ (List.mem_append_right _ (List.mem_append_left _ (List.mem_of_getElem? (i := 30) rfl))))))))
set_option maxRecDepth 20000 in
theorem wm_311 : (Cond.selects R_S y_S_settleStale y_S_settleStale) ∈ w_all := List.mem_append_right _ (List.mem_append_right _ (List.mem_append_right _ (List.mem_append_right _ (List.mem_append_right _ (List.mem_append_right _ (List.mem_append_right _ (List.mem_append_left _ (List.mem_of_getElem? (i := 31) rfl))))))))
set_option maxRecDepth 20000 in
theorem wm_312 : (Cond.code y_S_markStale b_S_markStale 2 (some .boolean)) ∈ w_all := List.mem_append_right _ (List.mem_append_right _ (List.mem_append_right _ (List.mem_append_right _ (List.mem_append_right _ (List.mem_append_right _ (List.mem_append_right _ (List.mem_append_left _ (List.mem_of_getElem? (i := 32) rfl))))))))
set_option maxRecDepth 20000 in
theorem wm_313 : (Cond.methodLink R_S 129 y_S_markStale) ∈ w_all := List.mem_append_right _ (List.mem_append_right _ (List.mem_append_right _ (List.mem_append_right _ (List.mem_append_right _ (List.mem_append_right _ (List.mem_append_right _ (List.mem_append_left _ (List.mem_of_getElem? (i := 33) rfl))))))))
set_option maxRecDepth 20000 in
theorem wm_314 : (Cond.instanceMethod y_S_markStale) ∈ w_all := List.mem_append_right _ (List.mem_append_right _ (List.mem_append_right _ (List.mem_append_right _ (List.mem_append_right _ (List.mem_append_right _ (List.mem_append_right _ (List.mem_append_left _ (List.mem_of_getElem? (i := 34) rfl))))))))
set_option maxRecDepth 20000 in
theorem wm_315 : (Cond.selects R_S y_S_markStale y_S_markStale) ∈ w_all := List.mem_append_right _ (List.mem_append_right _ (List.mem_append_right _ (List.mem_append_right _ (List.mem_append_right _ (List.mem_append_right _ (List.mem_append_right _ (List.mem_append_left _ (List.mem_of_getElem? (i := 35) rfl))))))))
set_option maxRecDepth 20000 in
theorem wm_316 : (Cond.code y_S_isPage b_S_isPage 2 (some .boolean)) ∈ w_all := List.mem_append_right _ (List.mem_append_right _ (List.mem_append_right _ (List.mem_append_right _ (List.mem_append_right _ (List.mem_append_right _ (List.mem_append_right _ (List.mem_append_left _ (List.mem_of_getElem? (i := 36) rfl))))))))
set_option maxRecDepth 20000 in
theorem wm_317 : (Cond.methodLink R_S 136 y_S_isPage) ∈ w_all := List.mem_append_right _ (List.mem_append_right _ (List.mem_append_right _ (List.mem_append_right _ (List.mem_append_right _ (List.mem_append_right _ (List.mem_append_right _ (List.mem_append_left _ (List.mem_of_getElem? (i := 37) rfl))))))))
set_option maxRecDepth 20000 in
theorem wm_318 : (Cond.static y_S_isPage) ∈ w_all := List.mem_append_right _ (List.mem_append_right _ (List.mem_append_right _ (List.mem_append_right _ (List.mem_append_right _ (List.mem_append_right _ (List.mem_append_right _ (List.mem_append_left _ (List.mem_of_getElem? (i := 38) rfl))))))))
set_option maxRecDepth 20000 in
theorem wm_319 : (Cond.code y_C_turnBit b_C_turnBit 3 (some .boolean)) ∈ w_all := List.mem_append_right _ (List.mem_append_right _ (List.mem_append_right _ (List.mem_append_right _ (List.mem_append_right _ (List.mem_append_right _ (List.mem_append_right _ (List.mem_append_left _ (List.mem_of_getElem? (i := 39) rfl))))))))
set_option maxRecDepth 20000 in
theorem wm_320 : (Cond.methodLink R_S 139 y_C_turnBit) ∈ w_all := List.mem_append_right _ (List.mem_append_right _ (List.mem_append_right _ (List.mem_append_right _ (List.mem_append_right _ (List.mem_append_right _ (List.mem_append_right _ (List.mem_append_right _ (List.mem_append_left _ (List.mem_of_getElem? (i := 0) rfl)))))))))
set_option maxRecDepth 20000 in
theorem wm_321 : (Cond.instanceMethod y_C_turnBit) ∈ w_all := List.mem_append_right _ (List.mem_append_right _ (List.mem_append_right _ (List.mem_append_right _ (List.mem_append_right _ (List.mem_append_right _ (List.mem_append_right _ (List.mem_append_right _ (List.mem_append_left _ (List.mem_of_getElem? (i := 1) rfl)))))))))
set_option maxRecDepth 20000 in
theorem wm_322 : (Cond.selects R_C y_C_turnBit y_C_turnBit) ∈ w_all := List.mem_append_right _ (List.mem_append_right _ (List.mem_append_right _ (List.mem_append_right _ (List.mem_append_right _ (List.mem_append_right _ (List.mem_append_right _ (List.mem_append_right _ (List.mem_append_left _ (List.mem_of_getElem? (i := 2) rfl)))))))))
set_option maxRecDepth 20000 in
theorem wm_323 : (Cond.code y_S_isBlock b_S_isBlock 1 (some .boolean)) ∈ w_all := List.mem_append_right _ (List.mem_append_right _ (List.mem_append_right _ (List.mem_append_right _ (List.mem_append_right _ (List.mem_append_right _ (List.mem_append_right _ (List.mem_append_right _ (List.mem_append_left _ (List.mem_of_getElem? (i := 3) rfl)))))))))
set_option maxRecDepth 20000 in
theorem wm_324 : (Cond.methodLink R_S 142 y_S_isBlock) ∈ w_all := List.mem_append_right _ (List.mem_append_right _ (List.mem_append_right _ (List.mem_append_right _ (List.mem_append_right _ (List.mem_append_right _ (List.mem_append_right _ (List.mem_append_right _ (List.mem_append_left _ (List.mem_of_getElem? (i := 4) rfl)))))))))
set_option maxRecDepth 20000 in
theorem wm_325 : (Cond.static y_S_isBlock) ∈ w_all := List.mem_append_right _ (List.mem_append_right _ (List.mem_append_right _ (List.mem_append_right _ (List.mem_append_right _ (List.mem_append_right _ (List.mem_append_right _ (List.mem_append_right _ (List.mem_append_left _ (List.mem_of_getElem? (i := 5) rfl)))))))))
set_option maxRecDepth 20000 in
theorem wm_326 : (Cond.methodLink R_S 151 y_C_isProgrammed) ∈ w_all := List.mem_append_right _ (List.mem_append_right _ (List.mem_append_right _ (List.mem_append_right _ (List.mem_append_right _ (List.mem_append_right _ (List.mem_append_right _ (List.mem_append_right _ (List.mem_append_left _ (List.mem_of_getElem? (i := 6) rfl)))))))))
set_option maxRecDepth 20000 in
theorem wm_327 : (Cond.code y_C_countFree b_C_countFree 3 (some .int)) ∈ w_all := List.mem_append_right _ (List.mem_append_right _ (List.mem_append_right _ (List.mem_append_right _ (List.mem_append_right _ (List.mem_append_right _ (List.mem_append_right _ (List.mem_append_right _ (List.mem_append_left _ (List.mem_of_getElem? (i := 7) rfl)))))))))
set_option maxRecDepth 20000 in
theorem wm_328 : (Cond.methodLink R_S 158 y_C_countFree) ∈ w_all := List.mem_append_right _ (List.mem_append_right _ (List.mem_append_right _ (List.mem_append_right _ (List.mem_append_right _ (List.mem_append_right _ (List.mem_append_right _ (List.mem_append_right _ (List.mem_append_left _ (List.mem_of_getElem? (i := 8) rfl)))))))))
set_option maxRecDepth 20000 in
theorem wm_329 : (Cond.instanceMethod y_C_countFree) ∈ w_all := List.mem_append_right _ (List.mem_append_right _ (List.mem_append_right _ (List.mem_append_right _ (List.mem_append_right _ (List.mem_append_right _ (List.mem_append_right _ (List.mem_append_right _ (List.mem_append_left _ (List.mem_of_getElem? (i := 9) rfl)))))))))
set_option maxRecDepth 20000 in
theorem wm_330 : (Cond.selects R_C y_C_countFree y_C_countFree) ∈ w_all := List.mem_append_right _ (List.mem_append_right _ (List.mem_append_right _ (List.mem_append_right _ (List.mem_append_right _ (List.mem_append_right _ (List.mem_append_right _ (List.mem_append_right _ (List.mem_append_left _ (List.mem_of_getElem? (i := 10) rfl)))))))))
set_option maxRecDepth 20000 in
theorem wm_331 : (Cond.code y_T_isOfDirectory b_T_isOfDirectory 1 (some .boolean)) ∈ w_all := List.mem_append_right _ (List.mem_append_right _ (List.mem_append_right _ (List.mem_append_right _ (List.mem_append_right _ (List.mem_append_right _ (List.mem_append_right _ (List.mem_append_right _ (List.mem_append_left _ (List.mem_of_getElem? (i := 11) rfl)))))))))
set_option maxRecDepth 20000 in
theorem wm_332 : (Cond.methodLink R_S 167 y_T_isOfDirectory) ∈ w_all := List.mem_append_right _ (List.mem_append_right _ (List.mem_append_right _ (List.mem_append_right _ (List.mem_append_right _ (List.mem_append_right _ (List.mem_append_right _ (List.mem_append_right _ (List.mem_append_left _ (List.mem_of_getElem? (i := 12) rfl)))))))))
set_option maxRecDepth 20000 in
theorem wm_333 : (Cond.static y_T_isOfDirectory) ∈ w_all := List.mem_append_right _ (List.mem_append_right _ (List.mem_append_right _ (List.mem_append_right _ (List.mem_append_right _ (List.mem_append_right _ (List.mem_append_right _ (List.mem_append_right _ (List.mem_append_left _ (List.mem_of_getElem? (i := 13) rfl)))))))))
set_option maxRecDepth 20000 in
theorem wm_334 : (Cond.code y_S_isIn b_S_isIn 3 (some .boolean)) ∈ w_all := List.mem_append_right _ (List.mem_append_right _ (List.mem_append_right _ (List.mem_append_right _ (List.mem_append_right _ (List.mem_append_right _ (List.mem_append_right _ (List.mem_append_right _ (List.mem_append_left _ (List.mem_of_getElem? (i := 14) rfl)))))))))
set_option maxRecDepth 20000 in
theorem wm_335 : (Cond.methodLink R_S 172 y_S_isIn) ∈ w_all := List.mem_append_right _ (List.mem_append_right _ (List.mem_append_right _ (List.mem_append_right _ (List.mem_append_right _ (List.mem_append_right _ (List.mem_append_right _ (List.mem_append_right _ (List.mem_append_left _ (List.mem_of_getElem? (i := 15) rfl)))))))))
set_option maxRecDepth 20000 in
theorem wm_336 : (Cond.instanceMethod y_S_isIn) ∈ w_all := List.mem_append_right _ (List.mem_append_right _ (List.mem_append_right _ (List.mem_append_right _ (List.mem_append_right _ (List.mem_append_right _ (List.mem_append_right _ (List.mem_append_right _ (List.mem_append_left _ (List.mem_of_getElem? (i := 16) rfl)))))))))
set_option maxRecDepth 20000 in
theorem wm_337 : (Cond.selects R_S y_S_isIn y_S_isIn) ∈ w_all := List.mem_append_right _ (List.mem_append_right _ (List.mem_append_right _ (List.mem_append_right _ (List.mem_append_right _ (List.mem_append_right _ (List.mem_append_right _ (List.mem_append_right _ (List.mem_append_left _ (List.mem_of_getElem? (i := 17) rfl)))))))))
set_option maxRecDepth 20000 in
theorem wm_338 : (Cond.code y_T_withSerial b_T_withSerial 2 (some .int)) ∈ w_all := List.mem_append_right _ (List.mem_append_right _ (List.mem_append_right _ (List.mem_append_right _ (List.mem_append_right _ (List.mem_append_right _ (List.mem_append_right _ (List.mem_append_right _ (List.mem_append_left _ (List.mem_of_getElem? (i := 18) rfl)))))))))
set_option maxRecDepth 20000 in
theorem wm_339 : (Cond.methodLink R_S 175 y_T_withSerial) ∈ w_all := List.mem_append_right _ (List.mem_append_right _ (List.mem_append_right _ (List.mem_append_right _ (List.mem_append_right _ (List.mem_append_right _ (List.mem_append_right _ (List.mem_append_right _ (List.mem_append_left _ (List.mem_of_getElem? (i := 19) rfl)))))))))
set_option maxRecDepth 20000 in
theorem wm_340 : (Cond.static y_T_withSerial) ∈ w_all := List.mem_append_right _ (List.mem_append_right _ (List.mem_append_right _ (List.mem_append_right _ (List.mem_append_right _ (List.mem_append_right _ (List.mem_append_right _ (List.mem_append_right _ (List.mem_append_left _ (List.mem_of_getElem? (i := 20) rfl)))))))))
set_option maxRecDepth 20000 in
theorem wm_341 : (Cond.code y_C_program b_C_program 7 (some .boolean)) ∈ w_all := List.mem_append_right _ (List.mem_append_right _ (List.mem_append_right _ (List.mem_append_right _ (List.mem_append_right _ (List.mem_append_right _ (List.mem_append_right _ (List.mem_append_right _ (List.mem_append_left _ (List.mem_of_getElem? (i := 21) rfl)))))))))
set_option maxRecDepth 20000 in
theorem wm_342 : (Cond.methodLink R_S 178 y_C_program) ∈ w_all := List.mem_append_right _ (List.mem_append_right _ (List.mem_append_right _ (List.mem_append_right _ (List.mem_append_right _ (List.mem_append_right _ (List.mem_append_right _ (List.mem_append_right _ (List.mem_append_left _ (List.mem_of_getElem? (i := 22) rfl)))))))))
set_option maxRecDepth 20000 in
theorem wm_343 : (Cond.instanceMethod y_C_program) ∈ w_all := List.mem_append_right _ (List.mem_append_right _ (List.mem_append_right _ (List.mem_append_right _ (List.mem_append_right _ (List.mem_append_right _ (List.mem_append_right _ (List.mem_append_right _ (List.mem_append_left _ (List.mem_of_getElem? (i := 23) rfl)))))))))
set_option maxRecDepth 20000 in
theorem wm_344 : (Cond.selects R_C y_C_program y_C_program) ∈ w_all := List.mem_append_right _ (List.mem_append_right _ (List.mem_append_right _ (List.mem_append_right _ (List.mem_append_right _ (List.mem_append_right _ (List.mem_append_right _ (List.mem_append_right _ (List.mem_append_left _ (List.mem_of_getElem? (i := 24) rfl)))))))))
set_option maxRecDepth 20000 in
theorem wm_345 : (Cond.code y_T_serialAfter b_T_serialAfter 1 (some .int)) ∈ w_all := List.mem_append_right _ (List.mem_append_right _ (List.mem_append_right _ (List.mem_append_right _ (List.mem_append_right _ (List.mem_append_right _ (List.mem_append_right _ (List.mem_append_right _ (List.mem_append_left _ (List.mem_of_getElem? (i := 25) rfl)))))))))
set_option maxRecDepth 20000 in
theorem wm_346 : (Cond.methodLink R_S 182 y_T_serialAfter) ∈ w_all := List.mem_append_right _ (List.mem_append_right _ (List.mem_append_right _ (List.mem_append_right _ (List.mem_append_right _ (List.mem_append_right _ (List.mem_append_right _ (List.mem_append_right _ (List.mem_append_left _ (List.mem_of_getElem? (i := 26) rfl)))))))))
set_option maxRecDepth 20000 in
theorem wm_347 : (Cond.static y_T_serialAfter) ∈ w_all := List.mem_append_right _ (List.mem_append_right _ (List.mem_append_right _ (List.mem_append_right _ (List.mem_append_right _ (List.mem_append_right _ (List.mem_append_right _ (List.mem_append_right _ (List.mem_append_left _ (List.mem_of_getElem? (i := 27) rfl)))))))))
set_option maxRecDepth 20000 in
theorem wm_348 : (Cond.code y_C_mark b_C_mark 2 (some .boolean)) ∈ w_all := List.mem_append_right _ (List.mem_append_right _ (List.mem_append_right _ (List.mem_append_right _ (List.mem_append_right _ (List.mem_append_right _ (List.mem_append_right _ (List.mem_append_right _ (List.mem_append_left _ (List.mem_of_getElem? (i := 28) rfl)))))))))
set_option maxRecDepth 20000 in
theorem wm_349 : (Cond.methodLink R_S 185 y_C_mark) ∈ w_all := List.mem_append_right _ (List.mem_append_right _ (List.mem_append_right _ (List.mem_append_right _ (List.mem_append_right _ (List.mem_append_right _ (List.mem_append_right _ (List.mem_append_right _ (List.mem_append_left _ (List.mem_of_getElem? (i := 29) rfl)))))))))
set_option maxRecDepth 20000 in
theorem wm_350 : (Cond.instanceMethod y_C_mark) ∈ w_all := List.mem_append_right _ (List.mem_append_right _ (List.mem_append_right _ (List.mem_append_right _ (List.mem_append_right _ (List.mem_append_right _ (List.mem_append_right _ (List.mem_append_right _ (List.mem_append_left _ (List.mem_of_getElem? (i := 30) rfl)))))))))
set_option maxRecDepth 20000 in
theorem wm_351 : (Cond.selects R_C y_C_mark y_C_mark) ∈ w_all := List.mem_append_right _ (List.mem_append_right _ (List.mem_append_right _ (List.mem_append_right _ (List.mem_append_right _ (List.mem_append_right _ (List.mem_append_right _ (List.mem_append_right _ (List.mem_append_left _ (List.mem_of_getElem? (i := 31) rfl)))))))))
set_option maxRecDepth 20000 in
theorem wm_352 : (Cond.methodLink R_S 188 y_C_isUnreadable) ∈ w_all := List.mem_append_right _ (List.mem_append_right _ (List.mem_append_right _ (List.mem_append_right _ (List.mem_append_right _ (List.mem_append_right _ (List.mem_append_right _ (List.mem_append_right _ (List.mem_append_left _ (List.mem_of_getElem? (i := 32) rfl)))))))))
set_option maxRecDepth 20000 in
theorem wm_353 : (Cond.code y_T_withLength b_T_withLength 2 (some .int)) ∈ w_all := List.mem_append_right _ (List.mem_append_right _ (List.mem_append_right _ (List.mem_append_right _ (List.mem_append_right _ (List.mem_append_right _ (List.mem_append_right _ (List.mem_append_right _ (List.mem_append_left _ (List.mem_of_getElem? (i := 33) rfl)))))))))
set_option maxRecDepth 20000 in
theorem wm_354 : (Cond.methodLink R_S 198 y_T_withLength) ∈ w_all := List.mem_append_right _ (List.mem_append_right _ (List.mem_append_right _ (List.mem_append_right _ (List.mem_append_right _ (List.mem_append_right _ (List.mem_append_right _ (List.mem_append_right _ (List.mem_append_left _ (List.mem_of_getElem? (i := 34) rfl)))))))))
set_option maxRecDepth 20000 in
theorem wm_355 : (Cond.static y_T_withLength) ∈ w_all := List.mem_append_right _ (List.mem_append_right _ (List.mem_append_right _ (List.mem_append_right _ (List.mem_append_right _ (List.mem_append_right _ (List.mem_append_right _ (List.mem_append_right _ (List.mem_append_left _ (List.mem_of_getElem? (i := 35) rfl)))))))))
set_option maxRecDepth 20000 in
theorem wm_356 : (Cond.code y_S_putWordOf b_S_putWordOf 5 (some .boolean)) ∈ w_all := List.mem_append_right _ (List.mem_append_right _ (List.mem_append_right _ (List.mem_append_right _ (List.mem_append_right _ (List.mem_append_right _ (List.mem_append_right _ (List.mem_append_right _ (List.mem_append_left _ (List.mem_of_getElem? (i := 36) rfl)))))))))
set_option maxRecDepth 20000 in
theorem wm_357 : (Cond.methodLink R_S 201 y_S_putWordOf) ∈ w_all := List.mem_append_right _ (List.mem_append_right _ (List.mem_append_right _ (List.mem_append_right _ (List.mem_append_right _ (List.mem_append_right _ (List.mem_append_right _ (List.mem_append_right _ (List.mem_append_left _ (List.mem_of_getElem? (i := 37) rfl)))))))))
set_option maxRecDepth 20000 in
theorem wm_358 : (Cond.instanceMethod y_S_putWordOf) ∈ w_all := List.mem_append_right _ (List.mem_append_right _ (List.mem_append_right _ (List.mem_append_right _ (List.mem_append_right _ (List.mem_append_right _ (List.mem_append_right _ (List.mem_append_right _ (List.mem_append_left _ (List.mem_of_getElem? (i := 38) rfl)))))))))
set_option maxRecDepth 20000 in
theorem wm_359 : (Cond.selects R_S y_S_putWordOf y_S_putWordOf) ∈ w_all := List.mem_append_right _ (List.mem_append_right _ (List.mem_append_right _ (List.mem_append_right _ (List.mem_append_right _ (List.mem_append_right _ (List.mem_append_right _ (List.mem_append_right _ (List.mem_append_left _ (List.mem_of_getElem? (i := 39) rfl)))))))))
set_option maxRecDepth 20000 in
theorem wm_360 : (Cond.code y_S_blockToCollect b_S_blockToCollect 6 (some .int)) ∈ w_all := List.mem_append_right _ (List.mem_append_right _ (List.mem_append_right _ (List.mem_append_right _ (List.mem_append_right _ (List.mem_append_right _ (List.mem_append_right _ (List.mem_append_right _ (List.mem_append_right _ (List.mem_append_left _ (List.mem_of_getElem? (i := 0) rfl))))))))))
set_option maxRecDepth 20000 in
theorem wm_361 : (Cond.methodLink R_S 204 y_S_blockToCollect) ∈ w_all := List.mem_append_right _ (List.mem_append_right _ (List.mem_append_right _ (List.mem_append_right _ (List.mem_append_right _ (List.mem_append_right _ (List.mem_append_right _ (List.mem_append_right _ (List.mem_append_right _ (List.mem_append_left _ (List.mem_of_getElem? (i := 1) rfl))))))))))
set_option maxRecDepth 20000 in
theorem wm_362 : (Cond.instanceMethod y_S_blockToCollect) ∈ w_all := List.mem_append_right _ (List.mem_append_right _ (List.mem_append_right _ (List.mem_append_right _ (List.mem_append_right _ (List.mem_append_right _ (List.mem_append_right _ (List.mem_append_right _ (List.mem_append_right _ (List.mem_append_left _ (List.mem_of_getElem? (i := 2) rfl))))))))))
set_option maxRecDepth 20000 in
theorem wm_363 : (Cond.selects R_S y_S_blockToCollect y_S_blockToCollect) ∈ w_all := List.mem_append_right _ (List.mem_append_right _ (List.mem_append_right _ (List.mem_append_right _ (List.mem_append_right _ (List.mem_append_right _ (List.mem_append_right _ (List.mem_append_right _ (List.mem_append_right _ (List.mem_append_left _ (List.mem_of_getElem? (i := 3) rfl))))))))))
set_option maxRecDepth 20000 in
theorem wm_364 : (Cond.code y_S_collect b_S_collect 4 (some .boolean)) ∈ w_all := List.mem_append_right _ (List.mem_append_right _ (List.mem_append_right _ (List.mem_append_right _ (List.mem_append_right _ (List.mem_append_right _ (List.mem_append_right _ (List.mem_append_right _ (List.mem_append_right _ (List.mem_append_left _ (List.mem_of_getElem? (i := 4) rfl))))))))))
set_option maxRecDepth 20000 in
theorem wm_365 : (Cond.methodLink R_S 207 y_S_collect) ∈ w_all := List.mem_append_right _ (List.mem_append_right _ (List.mem_append_right _ (List.mem_append_right _ (List.mem_append_right _ (List.mem_append_right _ (List.mem_append_right _ (List.mem_append_right _ (List.mem_append_right _ (List.mem_append_left _ (List.mem_of_getElem? (i := 5) rfl))))))))))
set_option maxRecDepth 20000 in
theorem wm_366 : (Cond.instanceMethod y_S_collect) ∈ w_all := List.mem_append_right _ (List.mem_append_right _ (List.mem_append_right _ (List.mem_append_right _ (List.mem_append_right _ (List.mem_append_right _ (List.mem_append_right _ (List.mem_append_right _ (List.mem_append_right _ (List.mem_append_left _ (List.mem_of_getElem? (i := 6) rfl))))))))))
set_option maxRecDepth 20000 in
theorem wm_367 : (Cond.selects R_S y_S_collect y_S_collect) ∈ w_all := List.mem_append_right _ (List.mem_append_right _ (List.mem_append_right _ (List.mem_append_right _ (List.mem_append_right _ (List.mem_append_right _ (List.mem_append_right _ (List.mem_append_right _ (List.mem_append_right _ (List.mem_append_left _ (List.mem_of_getElem? (i := 7) rfl))))))))))
set_option maxRecDepth 20000 in
theorem wm_368 : (Cond.methodLink R_S 213 y_C_countLiveIn) ∈ w_all := List.mem_append_right _ (List.mem_append_right _ (List.mem_append_right _ (List.mem_append_right _ (List.mem_append_right _ (List.mem_append_right _ (List.mem_append_right _ (List.mem_append_right _ (List.mem_append_right _ (List.mem_append_left _ (List.mem_of_getElem? (i := 8) rfl))))))))))
set_option maxRecDepth 20000 in
theorem wm_369 : (Cond.methodLink R_S 216 y_C_isLive) ∈ w_all := List.mem_append_right _ (List.mem_append_right _ (List.mem_append_right _ (List.mem_append_right _ (List.mem_append_right _ (List.mem_append_right _ (List.mem_append_right _ (List.mem_append_right _ (List.mem_append_right _ (List.mem_append_left _ (List.mem_of_getElem? (i := 9) rfl))))))))))
set_option maxRecDepth 20000 in
theorem wm_370 : (Cond.code y_C_erase b_C_erase 2 (some .boolean)) ∈ w_all := List.mem_append_right _ (List.mem_append_right _ (List.mem_append_right _ (List.mem_append_right _ (List.mem_append_right _ (List.mem_append_right _ (List.mem_append_right _ (List.mem_append_right _ (List.mem_append_right _ (List.mem_append_left _ (List.mem_of_getElem? (i := 10) rfl))))))))))
set_option maxRecDepth 20000 in
theorem wm_371 : (Cond.methodLink R_S 219 y_C_erase) ∈ w_all := List.mem_append_right _ (List.mem_append_right _ (List.mem_append_right _ (List.mem_append_right _ (List.mem_append_right _ (List.mem_append_right _ (List.mem_append_right _ (List.mem_append_right _ (List.mem_append_right _ (List.mem_append_left _ (List.mem_of_getElem? (i := 11) rfl))))))))))
set_option maxRecDepth 20000 in
theorem wm_372 : (Cond.instanceMethod y_C_erase) ∈ w_all := List.mem_append_right _ (List.mem_append_right _ (List.mem_append_right _ (List.mem_append_right _ (List.mem_append_right _ (List.mem_append_right _ (List.mem_append_right _ (List.mem_append_right _ (List.mem_append_right _ (List.mem_append_left _ (List.mem_of_getElem? (i := 12) rfl))))))))))
set_option maxRecDepth 20000 in
theorem wm_373 : (Cond.selects R_C y_C_erase y_C_erase) ∈ w_all := List.mem_append_right _ (List.mem_append_right _ (List.mem_append_right _ (List.mem_append_right _ (List.mem_append_right _ (List.mem_append_right _ (List.mem_append_right _ (List.mem_append_right _ (List.mem_append_right _ (List.mem_append_left _ (List.mem_of_getElem? (i := 13) rfl))))))))))
set_option maxRecDepth 20000 in
theorem wm_374 : (Cond.methodLink R_S 222 y_C_hasSuccessor) ∈ w_all := List.mem_append_right _ (List.mem_append_right _ (List.mem_append_right _ (List.mem_append_right _ (List.mem_append_right _ (List.mem_append_right _ (List.mem_append_right _ (List.mem_append_right _ (List.mem_append_right _ (List.mem_append_left _ (List.mem_of_getElem? (i := 14) rfl))))))))))
set_option maxRecDepth 20000 in
theorem wm_375 : (Cond.code y_S_isBeyondFile b_S_isBeyondFile 4 (some .boolean)) ∈ w_all := List.mem_append_right _ (List.mem_append_right _ (List.mem_append_right _ (List.mem_append_right _ (List.mem_append_right _ (List.mem_append_right _ (List.mem_append_right _ (List.mem_append_right _ (List.mem_append_right _ (List.mem_append_left _ (List.mem_of_getElem? (i := 15) rfl))))))))))
set_option maxRecDepth 20000 in
theorem wm_376 : (Cond.methodLink R_S 225 y_S_isBeyondFile) ∈ w_all := List.mem_append_right _ (List.mem_append_right _ (List.mem_append_right _ (List.mem_append_right _ (List.mem_append_right _ (List.mem_append_right _ (List.mem_append_right _ (List.mem_append_right _ (List.mem_append_right _ (List.mem_append_left _ (List.mem_of_getElem? (i := 16) rfl))))))))))
set_option maxRecDepth 20000 in
theorem wm_377 : (Cond.instanceMethod y_S_isBeyondFile) ∈ w_all := List.mem_append_right _ (List.mem_append_right _ (List.mem_append_right _ (List.mem_append_right _ (List.mem_append_right _ (List.mem_append_right _ (List.mem_append_right _ (List.mem_append_right _ (List.mem_append_right _ (List.mem_append_left _ (List.mem_of_getElem? (i := 17) rfl))))))))))
set_option maxRecDepth 20000 in
theorem wm_378 : (Cond.selects R_S y_S_isBeyondFile y_S_isBeyondFile) ∈ w_all := List.mem_append_right _ (List.mem_append_right _ (List.mem_append_right _ (List.mem_append_right _ (List.mem_append_right _ (List.mem_append_right _ (List.mem_append_right _ (List.mem_append_right _ (List.mem_append_right _ (List.mem_append_left _ (List.mem_of_getElem? (i := 18) rfl))))))))))
set_option maxRecDepth 20000 in
theorem wm_379 : (Cond.code y_T_chunk b_T_chunk 1 (some .int)) ∈ w_all := List.mem_append_right _ (List.mem_append_right _ (List.mem_append_right _ (List.mem_append_right _ (List.mem_append_right _ (List.mem_append_right _ (List.mem_append_right _ (List.mem_append_right _ (List.mem_append_right _ (List.mem_append_left _ (List.mem_of_getElem? (i := 19) rfl))))))))))
set_option maxRecDepth 20000 in
theorem wm_380 : (Cond.methodLink R_S 228 y_T_chunk) ∈ w_all := List.mem_append_right _ (List.mem_append_right _ (List.mem_append_right _ (List.mem_append_right _ (List.mem_append_right _ (List.mem_append_right _ (List.mem_append_right _ (List.mem_append_right _ (List.mem_append_right _ (List.mem_append_left _ (List.mem_of_getElem? (i := 20) rfl))))))))))
set_option maxRecDepth 20000 in
theorem wm_381 : (Cond.static y_T_chunk) ∈ w_all := List.mem_append_right _ (List.mem_append_right _ (List.mem_append_right _ (List.mem_append_right _ (List.mem_append_right _ (List.mem_append_right _ (List.mem_append_right _ (List.mem_append_right _ (List.mem_append_right _ (List.mem_append_left _ (List.mem_of_getElem? (i := 21) rfl))))))))))
set_option maxRecDepth 20000 in
theorem wm_382 : (Cond.code y_T_object b_T_object 1 (some .int)) ∈ w_all := List.mem_append_right _ (List.mem_append_right _ (List.mem_append_right _ (List.mem_append_right _ (List.mem_append_right _ (List.mem_append_right _ (List.mem_append_right _ (List.mem_append_right _ (List.mem_append_right _ (List.mem_append_left _ (List.mem_of_getElem? (i := 22) rfl))))))))))
set_option maxRecDepth 20000 in
theorem wm_383 : (Cond.methodLink R_S 231 y_T_object) ∈ w_all := List.mem_append_right _ (List.mem_append_right _ (List.mem_append_right _ (List.mem_append_right _ (List.mem_append_right _ (List.mem_append_right _ (List.mem_append_right _ (List.mem_append_right _ (List.mem_append_right _ (List.mem_append_left _ (List.mem_of_getElem? (i := 23) rfl))))))))))
set_option maxRecDepth 20000 in
theorem wm_384 : (Cond.static y_T_object) ∈ w_all := List.mem_append_right _ (List.mem_append_right _ (List.mem_append_right _ (List.mem_append_right _ (List.mem_append_right _ (List.mem_append_right _ (List.mem_append_right _ (List.mem_append_right _ (List.mem_append_right _ (List.mem_append_left _ (List.mem_of_getElem? (i := 24) rfl))))))))))
set_option maxRecDepth 20000 in
theorem wm_385 : (Cond.code y_C_latestHeader b_C_latestHeader 3 (some .int)) ∈ w_all := List.mem_append_right _ (List.mem_append_right _ (List.mem_append_right _ (List.mem_append_right _ (List.mem_append_right _ (List.mem_append_right _ (List.mem_append_right _ (List.mem_append_right _ (List.mem_append_right _ (List.mem_append_left _ (List.mem_of_getElem? (i := 25) rfl))))))))))
set_option maxRecDepth 20000 in
theorem wm_386 : (Cond.methodLink R_S 234 y_C_latestHeader) ∈ w_all := List.mem_append_right _ (List.mem_append_right _ (List.mem_append_right _ (List.mem_append_right _ (List.mem_append_right _ (List.mem_append_right _ (List.mem_append_right _ (List.mem_append_right _ (List.mem_append_right _ (List.mem_append_left _ (List.mem_of_getElem? (i := 26) rfl))))))))))
set_option maxRecDepth 20000 in
theorem wm_387 : (Cond.instanceMethod y_C_latestHeader) ∈ w_all := List.mem_append_right _ (List.mem_append_right _ (List.mem_append_right _ (List.mem_append_right _ (List.mem_append_right _ (List.mem_append_right _ (List.mem_append_right _ (List.mem_append_right _ (List.mem_append_right _ (List.mem_append_left _ (List.mem_of_getElem? (i := 27) rfl))))))))))
set_option maxRecDepth 20000 in
theorem wm_388 : (Cond.selects R_C y_C_latestHeader y_C_latestHeader) ∈ w_all := List.mem_append_right _ (List.mem_append_right _ (List.mem_append_right _ (List.mem_append_right _ (List.mem_append_right _ (List.mem_append_right _ (List.mem_append_right _ (List.mem_append_right _ (List.mem_append_right _ (List.mem_append_left _ (List.mem_of_getElem? (i := 28) rfl))))))))))
set_option maxRecDepth 20000 in
theorem wm_389 : (Cond.methodLink R_T 10 y_T_ofChunk) ∈ w_all := List.mem_append_right _ (List.mem_append_right _ (List.mem_append_right _ (List.mem_append_right _ (List.mem_append_right _ (List.mem_append_right _ (List.mem_append_right _ (List.mem_append_right _ (List.mem_append_right _ (List.mem_append_left _ (List.mem_of_getElem? (i := 29) rfl))))))))))
set_option maxRecDepth 20000 in
theorem wm_390 : (Cond.methodLink R_T 14 y_T_serialAfter) ∈ w_all := List.mem_append_right _ (List.mem_append_right _ (List.mem_append_right _ (List.mem_append_right _ (List.mem_append_right _ (List.mem_append_right _ (List.mem_append_right _ (List.mem_append_right _ (List.mem_append_right _ (List.mem_append_left _ (List.mem_of_getElem? (i := 30) rfl))))))))))
set_option maxRecDepth 20000 in
theorem wm_391 : (Cond.code y_S_create b_S_create 7 (some .int)) ∈ w_all := List.mem_append_right _ (List.mem_append_right _ (List.mem_append_right _ (List.mem_append_right _ (List.mem_append_right _ (List.mem_append_right _ (List.mem_append_right _ (List.mem_append_right _ (List.mem_append_right _ (List.mem_append_left _ (List.mem_of_getElem? (i := 31) rfl))))))))))
set_option maxRecDepth 20000 in
theorem wm_392 : (Cond.code y_S_write b_S_write 8 (some .int)) ∈ w_all := List.mem_append_right _ (List.mem_append_right _ (List.mem_append_right _ (List.mem_append_right _ (List.mem_append_right _ (List.mem_append_right _ (List.mem_append_right _ (List.mem_append_right _ (List.mem_append_right _ (List.mem_append_left _ (List.mem_of_getElem? (i := 32) rfl))))))))))
set_option maxRecDepth 20000 in
theorem wm_393 : (Cond.code y_S_read b_S_read 5 (some .long)) ∈ w_all := List.mem_append_right _ (List.mem_append_right _ (List.mem_append_right _ (List.mem_append_right _ (List.mem_append_right _ (List.mem_append_right _ (List.mem_append_right _ (List.mem_append_right _ (List.mem_append_right _ (List.mem_append_left _ (List.mem_of_getElem? (i := 33) rfl))))))))))
set_option maxRecDepth 20000 in
theorem wm_394 : (Cond.code y_S_truncate b_S_truncate 6 (some .int)) ∈ w_all := List.mem_append_right _ (List.mem_append_right _ (List.mem_append_right _ (List.mem_append_right _ (List.mem_append_right _ (List.mem_append_right _ (List.mem_append_right _ (List.mem_append_right _ (List.mem_append_right _ (List.mem_append_left _ (List.mem_of_getElem? (i := 34) rfl))))))))))
set_option maxRecDepth 20000 in
theorem wm_395 : (Cond.code y_S_move b_S_move 8 (some .int)) ∈ w_all := List.mem_append_right _ (List.mem_append_right _ (List.mem_append_right _ (List.mem_append_right _ (List.mem_append_right _ (List.mem_append_right _ (List.mem_append_right _ (List.mem_append_right _ (List.mem_append_right _ (List.mem_append_left _ (List.mem_of_getElem? (i := 35) rfl))))))))))
set_option maxRecDepth 20000 in
theorem wm_396 : (Cond.code y_S_remove b_S_remove 3 (some .int)) ∈ w_all := List.mem_append_right _ (List.mem_append_right _ (List.mem_append_right _ (List.mem_append_right _ (List.mem_append_right _ (List.mem_append_right _ (List.mem_append_right _ (List.mem_append_right _ (List.mem_append_right _ (List.mem_append_left _ (List.mem_of_getElem? (i := 36) rfl))))))))))
set_option maxRecDepth 20000 in
theorem wm_397 : (Cond.code y_S_find b_S_find 4 (some .int)) ∈ w_all := List.mem_append_right _ (List.mem_append_right _ (List.mem_append_right _ (List.mem_append_right _ (List.mem_append_right _ (List.mem_append_right _ (List.mem_append_right _ (List.mem_append_right _ (List.mem_append_right _ (List.mem_append_left _ (List.mem_of_getElem? (i := 37) rfl))))))))))
set_option maxRecDepth 20000 in
theorem wm_398 : (Cond.code y_S_size b_S_size 2 (some .int)) ∈ w_all := List.mem_append_right _ (List.mem_append_right _ (List.mem_append_right _ (List.mem_append_right _ (List.mem_append_right _ (List.mem_append_right _ (List.mem_append_right _ (List.mem_append_right _ (List.mem_append_right _ (List.mem_append_left _ (List.mem_of_getElem? (i := 38) rfl))))))))))
set_option maxRecDepth 20000 in
theorem wm_399 : (Cond.code y_S_parentOf b_S_parentOf 3 (some .int)) ∈ w_all := List.mem_append_right _ (List.mem_append_right _ (List.mem_append_right _ (List.mem_append_right _ (List.mem_append_right _ (List.mem_append_right _ (List.mem_append_right _ (List.mem_append_right _ (List.mem_append_right _ (List.mem_append_left _ (List.mem_of_getElem? (i := 39) rfl))))))))))
set_option maxRecDepth 20000 in
theorem wm_400 : (Cond.code y_S_nameOf b_S_nameOf 3 (some .long)) ∈ w_all := List.mem_append_right _ (List.mem_append_right _ (List.mem_append_right _ (List.mem_append_right _ (List.mem_append_right _ (List.mem_append_right _ (List.mem_append_right _ (List.mem_append_right _ (List.mem_append_right _ (List.mem_append_right _ (List.mem_append_left _ (List.mem_of_getElem? (i := 0) rfl)))))))))))
set_option maxRecDepth 20000 in
theorem wm_401 : (Cond.code y_S_checkpoint b_S_checkpoint 1 (some .int)) ∈ w_all := List.mem_append_right _ (List.mem_append_right _ (List.mem_append_right _ (List.mem_append_right _ (List.mem_append_right _ (List.mem_append_right _ (List.mem_append_right _ (List.mem_append_right _ (List.mem_append_right _ (List.mem_append_right _ (List.mem_append_left _ (List.mem_of_getElem? (i := 1) rfl)))))))))))
set_option maxRecDepth 20000 in
theorem wm_402 : (Cond.code y_S_mount b_S_mount 3 (some .int)) ∈ w_all := List.mem_append_right _ (List.mem_append_right _ (List.mem_append_right _ (List.mem_append_right _ (List.mem_append_right _ (List.mem_append_right _ (List.mem_append_right _ (List.mem_append_right _ (List.mem_append_right _ (List.mem_append_right _ (List.mem_append_left _ (List.mem_of_getElem? (i := 2) rfl)))))))))))
set_option maxRecDepth 20000 in
theorem wm_403 : (Cond.code y_S_cut b_S_cut 2 none) ∈ w_all := List.mem_append_right _ (List.mem_append_right _ (List.mem_append_right _ (List.mem_append_right _ (List.mem_append_right _ (List.mem_append_right _ (List.mem_append_right _ (List.mem_append_right _ (List.mem_append_right _ (List.mem_append_right _ (List.mem_append_left _ (List.mem_of_getElem? (i := 3) rfl)))))))))))
set_option maxRecDepth 20000 in
theorem wm_404 : (Cond.code y_S_flip b_S_flip 4 (some .boolean)) ∈ w_all := List.mem_append_right _ (List.mem_append_right _ (List.mem_append_right _ (List.mem_append_right _ (List.mem_append_right _ (List.mem_append_right _ (List.mem_append_right _ (List.mem_append_right _ (List.mem_append_right _ (List.mem_append_right _ (List.mem_append_left _ (List.mem_of_getElem? (i := 4) rfl)))))))))))
set_option maxRecDepth 20000 in
theorem wm_405 : (Cond.code y_S_wear b_S_wear 2 (some .boolean)) ∈ w_all := List.mem_append_right _ (List.mem_append_right _ (List.mem_append_right _ (List.mem_append_right _ (List.mem_append_right _ (List.mem_append_right _ (List.mem_append_right _ (List.mem_append_right _ (List.mem_append_right _ (List.mem_append_right _ (List.mem_append_left _ (List.mem_of_getElem? (i := 5) rfl)))))))))))
set_option maxRecDepth 20000 in
theorem wm_406 : (Cond.code y_S_tags b_S_tags 4 (some .int)) ∈ w_all := List.mem_append_right _ (List.mem_append_right _ (List.mem_append_right _ (List.mem_append_right _ (List.mem_append_right _ (List.mem_append_right _ (List.mem_append_right _ (List.mem_append_right _ (List.mem_append_right _ (List.mem_append_right _ (List.mem_append_left _ (List.mem_of_getElem? (i := 6) rfl)))))))))))
set_option maxRecDepth 20000 in
theorem wm_407 : (Cond.code y_S_free b_S_free 1 (some .int)) ∈ w_all := List.mem_append_right _ (List.mem_append_right _ (List.mem_append_right _ (List.mem_append_right _ (List.mem_append_right _ (List.mem_append_right _ (List.mem_append_right _ (List.mem_append_right _ (List.mem_append_right _ (List.mem_append_right _ (List.mem_append_left _ (List.mem_of_getElem? (i := 7) rfl)))))))))))
set_option maxRecDepth 20000 in
theorem wm_408 : (Cond.code y_S_erases b_S_erases 2 (some .int)) ∈ w_all := List.mem_append_right _ (List.mem_append_right _ (List.mem_append_right _ (List.mem_append_right _ (List.mem_append_right _ (List.mem_append_right _ (List.mem_append_right _ (List.mem_append_right _ (List.mem_append_right _ (List.mem_append_right _ (List.mem_append_left _ (List.mem_of_getElem? (i := 8) rfl)))))))))))
set_option maxRecDepth 20000 in
theorem wm_409 : (Cond.code y_S_steps b_S_steps 1 (some .int)) ∈ w_all := List.mem_append_right _ (List.mem_append_right _ (List.mem_append_right _ (List.mem_append_right _ (List.mem_append_right _ (List.mem_append_right _ (List.mem_append_right _ (List.mem_append_right _ (List.mem_append_right _ (List.mem_append_right _ (List.mem_append_left _ (List.mem_of_getElem? (i := 9) rfl)))))))))))
set_option maxRecDepth 20000 in
theorem wm_410 : (Cond.code y_M_create b_M_create 6 (some .int)) ∈ w_all := List.mem_append_right _ (List.mem_append_right _ (List.mem_append_right _ (List.mem_append_right _ (List.mem_append_right _ (List.mem_append_right _ (List.mem_append_right _ (List.mem_append_right _ (List.mem_append_right _ (List.mem_append_right _ (List.mem_append_left _ (List.mem_of_getElem? (i := 10) rfl)))))))))))
set_option maxRecDepth 20000 in
theorem wm_411 : (Cond.code y_M_write b_M_write 8 (some .int)) ∈ w_all := List.mem_append_right _ (List.mem_append_right _ (List.mem_append_right _ (List.mem_append_right _ (List.mem_append_right _ (List.mem_append_right _ (List.mem_append_right _ (List.mem_append_right _ (List.mem_append_right _ (List.mem_append_right _ (List.mem_append_left _ (List.mem_of_getElem? (i := 11) rfl)))))))))))
set_option maxRecDepth 20000 in
theorem wm_412 : (Cond.code y_M_read b_M_read 5 (some .long)) ∈ w_all := List.mem_append_right _ (List.mem_append_right _ (List.mem_append_right _ (List.mem_append_right _ (List.mem_append_right _ (List.mem_append_right _ (List.mem_append_right _ (List.mem_append_right _ (List.mem_append_right _ (List.mem_append_right _ (List.mem_append_left _ (List.mem_of_getElem? (i := 12) rfl)))))))))))
set_option maxRecDepth 20000 in
theorem wm_413 : (Cond.code y_M_truncate b_M_truncate 6 (some .int)) ∈ w_all := List.mem_append_right _ (List.mem_append_right _ (List.mem_append_right _ (List.mem_append_right _ (List.mem_append_right _ (List.mem_append_right _ (List.mem_append_right _ (List.mem_append_right _ (List.mem_append_right _ (List.mem_append_right _ (List.mem_append_left _ (List.mem_of_getElem? (i := 13) rfl)))))))))))
set_option maxRecDepth 20000 in
theorem wm_414 : (Cond.code y_M_move b_M_move 6 (some .int)) ∈ w_all := List.mem_append_right _ (List.mem_append_right _ (List.mem_append_right _ (List.mem_append_right _ (List.mem_append_right _ (List.mem_append_right _ (List.mem_append_right _ (List.mem_append_right _ (List.mem_append_right _ (List.mem_append_right _ (List.mem_append_left _ (List.mem_of_getElem? (i := 14) rfl)))))))))))
set_option maxRecDepth 20000 in
theorem wm_415 : (Cond.code y_M_remove b_M_remove 3 (some .int)) ∈ w_all := List.mem_append_right _ (List.mem_append_right _ (List.mem_append_right _ (List.mem_append_right _ (List.mem_append_right _ (List.mem_append_right _ (List.mem_append_right _ (List.mem_append_right _ (List.mem_append_right _ (List.mem_append_right _ (List.mem_append_left _ (List.mem_of_getElem? (i := 15) rfl)))))))))))
set_option maxRecDepth 20000 in
theorem wm_416 : (Cond.code y_M_find b_M_find 3 (some .int)) ∈ w_all := List.mem_append_right _ (List.mem_append_right _ (List.mem_append_right _ (List.mem_append_right _ (List.mem_append_right _ (List.mem_append_right _ (List.mem_append_right _ (List.mem_append_right _ (List.mem_append_right _ (List.mem_append_right _ (List.mem_append_left _ (List.mem_of_getElem? (i := 16) rfl)))))))))))
set_option maxRecDepth 20000 in
theorem wm_417 : (Cond.code y_M_size b_M_size 2 (some .int)) ∈ w_all := List.mem_append_right _ (List.mem_append_right _ (List.mem_append_right _ (List.mem_append_right _ (List.mem_append_right _ (List.mem_append_right _ (List.mem_append_right _ (List.mem_append_right _ (List.mem_append_right _ (List.mem_append_right _ (List.mem_append_left _ (List.mem_of_getElem? (i := 17) rfl)))))))))))
set_option maxRecDepth 20000 in
theorem wm_418 : (Cond.code y_M_parentOf b_M_parentOf 3 (some .int)) ∈ w_all := List.mem_append_right _ (List.mem_append_right _ (List.mem_append_right _ (List.mem_append_right _ (List.mem_append_right _ (List.mem_append_right _ (List.mem_append_right _ (List.mem_append_right _ (List.mem_append_right _ (List.mem_append_right _ (List.mem_append_left _ (List.mem_of_getElem? (i := 18) rfl)))))))))))
set_option maxRecDepth 20000 in
theorem wm_419 : (Cond.code y_M_nameOf b_M_nameOf 3 (some .long)) ∈ w_all := List.mem_append_right _ (List.mem_append_right _ (List.mem_append_right _ (List.mem_append_right _ (List.mem_append_right _ (List.mem_append_right _ (List.mem_append_right _ (List.mem_append_right _ (List.mem_append_right _ (List.mem_append_right _ (List.mem_append_left _ (List.mem_of_getElem? (i := 19) rfl)))))))))))
set_option maxRecDepth 20000 in
theorem wm_420 : (Cond.code y_M_checkpoint b_M_checkpoint 3 (some .int)) ∈ w_all := List.mem_append_right _ (List.mem_append_right _ (List.mem_append_right _ (List.mem_append_right _ (List.mem_append_right _ (List.mem_append_right _ (List.mem_append_right _ (List.mem_append_right _ (List.mem_append_right _ (List.mem_append_right _ (List.mem_append_left _ (List.mem_of_getElem? (i := 20) rfl)))))))))))
set_option maxRecDepth 20000 in
theorem wm_421 : (Cond.code y_M_mount b_M_mount 6 (some .int)) ∈ w_all := List.mem_append_right _ (List.mem_append_right _ (List.mem_append_right _ (List.mem_append_right _ (List.mem_append_right _ (List.mem_append_right _ (List.mem_append_right _ (List.mem_append_right _ (List.mem_append_right _ (List.mem_append_right _ (List.mem_append_left _ (List.mem_of_getElem? (i := 21) rfl)))))))))))
set_option maxRecDepth 20000 in
theorem wm_422 : (Cond.code y_M_cut b_M_cut 2 none) ∈ w_all := List.mem_append_right _ (List.mem_append_right _ (List.mem_append_right _ (List.mem_append_right _ (List.mem_append_right _ (List.mem_append_right _ (List.mem_append_right _ (List.mem_append_right _ (List.mem_append_right _ (List.mem_append_right _ (List.mem_append_left _ (List.mem_of_getElem? (i := 22) rfl)))))))))))
set_option maxRecDepth 20000 in
theorem wm_423 : (Cond.code y_M_flip b_M_flip 5 (some .boolean)) ∈ w_all := List.mem_append_right _ (List.mem_append_right _ (List.mem_append_right _ (List.mem_append_right _ (List.mem_append_right _ (List.mem_append_right _ (List.mem_append_right _ (List.mem_append_right _ (List.mem_append_right _ (List.mem_append_right _ (List.mem_append_left _ (List.mem_of_getElem? (i := 23) rfl)))))))))))
set_option maxRecDepth 20000 in
theorem wm_424 : (Cond.code y_M_wear b_M_wear 2 (some .boolean)) ∈ w_all := List.mem_append_right _ (List.mem_append_right _ (List.mem_append_right _ (List.mem_append_right _ (List.mem_append_right _ (List.mem_append_right _ (List.mem_append_right _ (List.mem_append_right _ (List.mem_append_right _ (List.mem_append_right _ (List.mem_append_left _ (List.mem_of_getElem? (i := 24) rfl)))))))))))
set_option maxRecDepth 20000 in
theorem wm_425 : (Cond.code y_M_tags b_M_tags 5 (some .int)) ∈ w_all := List.mem_append_right _ (List.mem_append_right _ (List.mem_append_right _ (List.mem_append_right _ (List.mem_append_right _ (List.mem_append_right _ (List.mem_append_right _ (List.mem_append_right _ (List.mem_append_right _ (List.mem_append_right _ (List.mem_append_left _ (List.mem_of_getElem? (i := 25) rfl)))))))))))
set_option maxRecDepth 20000 in
theorem wm_426 : (Cond.code y_M_erases b_M_erases 2 (some .int)) ∈ w_all := List.mem_append_right _ (List.mem_append_right _ (List.mem_append_right _ (List.mem_append_right _ (List.mem_append_right _ (List.mem_append_right _ (List.mem_append_right _ (List.mem_append_right _ (List.mem_append_right _ (List.mem_append_right _ (List.mem_append_left _ (List.mem_of_getElem? (i := 26) rfl)))))))))))
set_option maxRecDepth 20000 in
theorem wm_427 : (Cond.code y_M_steps b_M_steps 1 (some .int)) ∈ w_all := List.mem_append_right _ (List.mem_append_right _ (List.mem_append_right _ (List.mem_append_right _ (List.mem_append_right _ (List.mem_append_right _ (List.mem_append_right _ (List.mem_append_right _ (List.mem_append_right _ (List.mem_append_right _ (List.mem_append_left _ (List.mem_of_getElem? (i := 27) rfl)))))))))))
theorem us_S : ∀ w ∈ u_ws R_S F_S 3, w ∈ w_all := fun w hw => List.mem_append_right _ (List.mem_append_right _ (List.mem_append_right _ (List.mem_append_right _ (List.mem_append_right _ (List.mem_append_right _ (List.mem_append_right _ (List.mem_append_right _ (List.mem_append_right _ (List.mem_append_right _ (List.mem_append_right _ (List.mem_append_left _ hw)))))))))))
theorem us_C : ∀ w ∈ u_ws R_C F_C 11, w ∈ w_all := fun w hw => List.mem_append_right _ (List.mem_append_right _ (List.mem_append_right _ (List.mem_append_right _ (List.mem_append_right _ (List.mem_append_right _ (List.mem_append_right _ (List.mem_append_right _ (List.mem_append_right _ (List.mem_append_right _ (List.mem_append_right _ (List.mem_append_right _ (List.mem_append_left _ hw))))))))))))
theorem us_M : ∀ w ∈ u_ws R_M F_M 27, w ∈ w_all := fun w hw => List.mem_append_right _ (List.mem_append_right _ (List.mem_append_right _ (List.mem_append_right _ (List.mem_append_right _ (List.mem_append_right _ (List.mem_append_right _ (List.mem_append_right _ (List.mem_append_right _ (List.mem_append_right _ (List.mem_append_right _ (List.mem_append_right _ (List.mem_append_right _ (hw)))))))))))))
theorem w_good : ∀ w ∈ w_all, (w.onTables && w.keeps) = true ∨ ∃ ty, w = .arrayClass ty := by
  intro w hw
  have h : w_all.all goodWord = true := by decide +kernel
  exact good_of_word (List.all_eq_true.mp h w hw)
