section
-- ===== PART A: goes FIRST, ahead of the names: the tables' words, and 'selects' of the private methods out of them =====
/-- a private method of a class that the tables say can be made, by its rows of tables_1 -/
def lw_okq (q : MethodName × Nat) : Prop := (q.1.cls ≠ "java/lang/invoke/MethodHandle" ∧ q.1.cls ≠ "java/lang/invoke/VarHandle") ∧ Cond.instantiable q.1.cls q.2 ∈ tables_1 ∧ Cond.privateMethod q.1 ∈ tables_1 ∧ Cond.instanceMethod q.1 ∈ tables_1
theorem lw_p0 : lw_okq (⟨"SpareTagFlash", "refusalOfDirectory", "(I)I"⟩, 3) := ⟨⟨by decide +kernel, by decide +kernel⟩, List.mem_of_getElem? (i := 7) (by decide +kernel), List.mem_of_getElem? (i := 82) (by decide +kernel), List.mem_of_getElem? (i := 83) (by decide +kernel)⟩
theorem lw_p1 : lw_okq (⟨"SpareTagFlash", "isThere", "(I)Z"⟩, 3) := ⟨⟨by decide +kernel, by decide +kernel⟩, List.mem_of_getElem? (i := 7) (by decide +kernel), List.mem_of_getElem? (i := 86) (by decide +kernel), List.mem_of_getElem? (i := 87) (by decide +kernel)⟩
theorem lw_p2 : lw_okq (⟨"SpareTagFlash", "isDirectory", "(I)Z"⟩, 3) := ⟨⟨by decide +kernel, by decide +kernel⟩, List.mem_of_getElem? (i := 7) (by decide +kernel), List.mem_of_getElem? (i := 111) (by decide +kernel), List.mem_of_getElem? (i := 112) (by decide +kernel)⟩
theorem lw_p3 : lw_okq (⟨"SpareTagFlash", "headerTags", "(I)I"⟩, 3) := ⟨⟨by decide +kernel, by decide +kernel⟩, List.mem_of_getElem? (i := 7) (by decide +kernel), List.mem_of_getElem? (i := 115) (by decide +kernel), List.mem_of_getElem? (i := 116) (by decide +kernel)⟩
theorem lw_p4 : lw_okq (⟨"SpareTagFlash", "objectNamed", "(II)I"⟩, 3) := ⟨⟨by decide +kernel, by decide +kernel⟩, List.mem_of_getElem? (i := 7) (by decide +kernel), List.mem_of_getElem? (i := 123) (by decide +kernel), List.mem_of_getElem? (i := 124) (by decide +kernel)⟩
theorem lw_p5 : lw_okq (⟨"SpareTagFlash", "isIn", "(II)Z"⟩, 3) := ⟨⟨by decide +kernel, by decide +kernel⟩, List.mem_of_getElem? (i := 7) (by decide +kernel), List.mem_of_getElem? (i := 127) (by decide +kernel), List.mem_of_getElem? (i := 128) (by decide +kernel)⟩
theorem lw_p6 : lw_okq (⟨"SpareTagFlash", "nameRead", "(I)J"⟩, 3) := ⟨⟨by decide +kernel, by decide +kernel⟩, List.mem_of_getElem? (i := 7) (by decide +kernel), List.mem_of_getElem? (i := 134) (by decide +kernel), List.mem_of_getElem? (i := 135) (by decide +kernel)⟩
theorem lw_p7 : lw_okq (⟨"SpareTagFlash", "lowestAbsentObject", "()I"⟩, 3) := ⟨⟨by decide +kernel, by decide +kernel⟩, List.mem_of_getElem? (i := 7) (by decide +kernel), List.mem_of_getElem? (i := 154) (by decide +kernel), List.mem_of_getElem? (i := 155) (by decide +kernel)⟩
theorem lw_p8 : lw_okq (⟨"SpareTagFlash", "makeRoom", "(I)I"⟩, 3) := ⟨⟨by decide +kernel, by decide +kernel⟩, List.mem_of_getElem? (i := 7) (by decide +kernel), List.mem_of_getElem? (i := 158) (by decide +kernel), List.mem_of_getElem? (i := 159) (by decide +kernel)⟩
theorem lw_p9 : lw_okq (⟨"SpareTagFlash", "blockToCollect", "()I"⟩, 3) := ⟨⟨by decide +kernel, by decide +kernel⟩, List.mem_of_getElem? (i := 7) (by decide +kernel), List.mem_of_getElem? (i := 166) (by decide +kernel), List.mem_of_getElem? (i := 167) (by decide +kernel)⟩
theorem lw_p10 : lw_okq (⟨"SpareTagFlash", "collect", "(I)Z"⟩, 3) := ⟨⟨by decide +kernel, by decide +kernel⟩, List.mem_of_getElem? (i := 7) (by decide +kernel), List.mem_of_getElem? (i := 174) (by decide +kernel), List.mem_of_getElem? (i := 175) (by decide +kernel)⟩
theorem lw_p11 : lw_okq (⟨"SpareTagFlash", "putWordOf", "(II)Z"⟩, 3) := ⟨⟨by decide +kernel, by decide +kernel⟩, List.mem_of_getElem? (i := 7) (by decide +kernel), List.mem_of_getElem? (i := 179) (by decide +kernel), List.mem_of_getElem? (i := 180) (by decide +kernel)⟩
theorem lw_p12 : lw_okq (⟨"SpareTagFlash", "put", "(IIIJ)Z"⟩, 3) := ⟨⟨by decide +kernel, by decide +kernel⟩, List.mem_of_getElem? (i := 7) (by decide +kernel), List.mem_of_getElem? (i := 184) (by decide +kernel), List.mem_of_getElem? (i := 185) (by decide +kernel)⟩
theorem lw_p13 : lw_okq (⟨"SpareTagFlash$Chip", "blockOfNextPage", "()I"⟩, 11) := ⟨⟨by decide +kernel, by decide +kernel⟩, List.mem_of_getElem? (i := 15) (by decide +kernel), List.mem_of_getElem? (i := 195) (by decide +kernel), List.mem_of_getElem? (i := 196) (by decide +kernel)⟩
theorem lw_p14 : lw_okq (⟨"SpareTagFlash$Chip", "takeStep", "()Z"⟩, 11) := ⟨⟨by decide +kernel, by decide +kernel⟩, List.mem_of_getElem? (i := 15) (by decide +kernel), List.mem_of_getElem? (i := 199) (by decide +kernel), List.mem_of_getElem? (i := 200) (by decide +kernel)⟩
theorem lw_p15 : lw_okq (⟨"SpareTagFlash", "switchOff", "()I"⟩, 3) := ⟨⟨by decide +kernel, by decide +kernel⟩, List.mem_of_getElem? (i := 7) (by decide +kernel), List.mem_of_getElem? (i := 214) (by decide +kernel), List.mem_of_getElem? (i := 215) (by decide +kernel)⟩
def lw_privs_1 : List (MethodName × Nat) := [(⟨"SpareTagFlash", "refusalOfDirectory", "(I)I"⟩, 3), (⟨"SpareTagFlash", "isThere", "(I)Z"⟩, 3), (⟨"SpareTagFlash", "isDirectory", "(I)Z"⟩, 3), (⟨"SpareTagFlash", "headerTags", "(I)I"⟩, 3), (⟨"SpareTagFlash", "objectNamed", "(II)I"⟩, 3), (⟨"SpareTagFlash", "isIn", "(II)Z"⟩, 3), (⟨"SpareTagFlash", "nameRead", "(I)J"⟩, 3), (⟨"SpareTagFlash", "lowestAbsentObject", "()I"⟩, 3), (⟨"SpareTagFlash", "makeRoom", "(I)I"⟩, 3), (⟨"SpareTagFlash", "blockToCollect", "()I"⟩, 3), (⟨"SpareTagFlash", "collect", "(I)Z"⟩, 3), (⟨"SpareTagFlash", "putWordOf", "(II)Z"⟩, 3), (⟨"SpareTagFlash", "put", "(IIIJ)Z"⟩, 3), (⟨"SpareTagFlash$Chip", "blockOfNextPage", "()I"⟩, 11), (⟨"SpareTagFlash$Chip", "takeStep", "()Z"⟩, 11), (⟨"SpareTagFlash", "switchOff", "()I"⟩, 3)]
theorem lw_r1 : ∀ q ∈ lw_privs_1, lw_okq q := List.forall_mem_cons.mpr ⟨lw_p0, List.forall_mem_cons.mpr ⟨lw_p1, List.forall_mem_cons.mpr ⟨lw_p2, List.forall_mem_cons.mpr ⟨lw_p3, List.forall_mem_cons.mpr ⟨lw_p4, List.forall_mem_cons.mpr ⟨lw_p5, List.forall_mem_cons.mpr ⟨lw_p6, List.forall_mem_cons.mpr ⟨lw_p7, List.forall_mem_cons.mpr ⟨lw_p8, List.forall_mem_cons.mpr ⟨lw_p9, List.forall_mem_cons.mpr ⟨lw_p10, List.forall_mem_cons.mpr ⟨lw_p11, List.forall_mem_cons.mpr ⟨lw_p12, List.forall_mem_cons.mpr ⟨lw_p13, List.forall_mem_cons.mpr ⟨lw_p14, List.forall_mem_cons.mpr ⟨lw_p15, fun _ h => absurd h List.not_mem_nil⟩⟩⟩⟩⟩⟩⟩⟩⟩⟩⟩⟩⟩⟩⟩⟩
theorem lw_p16 : lw_okq (⟨"SpareTagFlash", "refusalOfFile", "(I)I"⟩, 3) := ⟨⟨by decide +kernel, by decide +kernel⟩, List.mem_of_getElem? (i := 7) (by decide +kernel), List.mem_of_getElem? (i := 225) (by decide +kernel), List.mem_of_getElem? (i := 226) (by decide +kernel)⟩
theorem lw_p17 : lw_okq (⟨"SpareTagFlash", "refusalOfObject", "(I)I"⟩, 3) := ⟨⟨by decide +kernel, by decide +kernel⟩, List.mem_of_getElem? (i := 7) (by decide +kernel), List.mem_of_getElem? (i := 229) (by decide +kernel), List.mem_of_getElem? (i := 230) (by decide +kernel)⟩
theorem lw_p18 : lw_okq (⟨"SpareTagFlash", "putLength", "(II)Z"⟩, 3) := ⟨⟨by decide +kernel, by decide +kernel⟩, List.mem_of_getElem? (i := 7) (by decide +kernel), List.mem_of_getElem? (i := 237) (by decide +kernel), List.mem_of_getElem? (i := 238) (by decide +kernel)⟩
theorem lw_p19 : lw_okq (⟨"SpareTagFlash", "markChunks", "(II)Z"⟩, 3) := ⟨⟨by decide +kernel, by decide +kernel⟩, List.mem_of_getElem? (i := 7) (by decide +kernel), List.mem_of_getElem? (i := 254) (by decide +kernel), List.mem_of_getElem? (i := 255) (by decide +kernel)⟩
theorem lw_p20 : lw_okq (⟨"SpareTagFlash", "liesIn", "(II)Z"⟩, 3) := ⟨⟨by decide +kernel, by decide +kernel⟩, List.mem_of_getElem? (i := 7) (by decide +kernel), List.mem_of_getElem? (i := 262) (by decide +kernel), List.mem_of_getElem? (i := 263) (by decide +kernel)⟩
theorem lw_p21 : lw_okq (⟨"SpareTagFlash", "objectsIn", "(I)I"⟩, 3) := ⟨⟨by decide +kernel, by decide +kernel⟩, List.mem_of_getElem? (i := 7) (by decide +kernel), List.mem_of_getElem? (i := 273) (by decide +kernel), List.mem_of_getElem? (i := 274) (by decide +kernel)⟩
theorem lw_p22 : lw_okq (⟨"SpareTagFlash", "settleStale", "()V"⟩, 3) := ⟨⟨by decide +kernel, by decide +kernel⟩, List.mem_of_getElem? (i := 7) (by decide +kernel), List.mem_of_getElem? (i := 322) (by decide +kernel), List.mem_of_getElem? (i := 323) (by decide +kernel)⟩
theorem lw_p23 : lw_okq (⟨"SpareTagFlash", "isBeyondFile", "(I)Z"⟩, 3) := ⟨⟨by decide +kernel, by decide +kernel⟩, List.mem_of_getElem? (i := 7) (by decide +kernel), List.mem_of_getElem? (i := 334) (by decide +kernel), List.mem_of_getElem? (i := 335) (by decide +kernel)⟩
theorem lw_p24 : lw_okq (⟨"SpareTagFlash", "markStale", "()Z"⟩, 3) := ⟨⟨by decide +kernel, by decide +kernel⟩, List.mem_of_getElem? (i := 7) (by decide +kernel), List.mem_of_getElem? (i := 349) (by decide +kernel), List.mem_of_getElem? (i := 350) (by decide +kernel)⟩
theorem lw_p25 : lw_okq (⟨"SpareTagFlashModel", "there", "(I)Z"⟩, 27) := ⟨⟨by decide +kernel, by decide +kernel⟩, List.mem_of_getElem? (i := 392) (by decide +kernel), List.mem_of_getElem? (i := 484) (by decide +kernel), List.mem_of_getElem? (i := 485) (by decide +kernel)⟩
theorem lw_p26 : lw_okq (⟨"SpareTagFlashModel", "header", "(I)I"⟩, 27) := ⟨⟨by decide +kernel, by decide +kernel⟩, List.mem_of_getElem? (i := 392) (by decide +kernel), List.mem_of_getElem? (i := 488) (by decide +kernel), List.mem_of_getElem? (i := 489) (by decide +kernel)⟩
theorem lw_p27 : lw_okq (⟨"SpareTagFlashModel", "page", "(II)I"⟩, 27) := ⟨⟨by decide +kernel, by decide +kernel⟩, List.mem_of_getElem? (i := 392) (by decide +kernel), List.mem_of_getElem? (i := 492) (by decide +kernel), List.mem_of_getElem? (i := 493) (by decide +kernel)⟩
theorem lw_p28 : lw_okq (⟨"SpareTagFlashModel", "directory", "(I)Z"⟩, 27) := ⟨⟨by decide +kernel, by decide +kernel⟩, List.mem_of_getElem? (i := 392) (by decide +kernel), List.mem_of_getElem? (i := 496) (by decide +kernel), List.mem_of_getElem? (i := 497) (by decide +kernel)⟩
theorem lw_p29 : lw_okq (⟨"SpareTagFlashModel", "named", "(III)I"⟩, 27) := ⟨⟨by decide +kernel, by decide +kernel⟩, List.mem_of_getElem? (i := 392) (by decide +kernel), List.mem_of_getElem? (i := 500) (by decide +kernel), List.mem_of_getElem? (i := 501) (by decide +kernel)⟩
theorem lw_p30 : lw_okq (⟨"SpareTagFlashModel", "room", "(I)I"⟩, 27) := ⟨⟨by decide +kernel, by decide +kernel⟩, List.mem_of_getElem? (i := 392) (by decide +kernel), List.mem_of_getElem? (i := 504) (by decide +kernel), List.mem_of_getElem? (i := 505) (by decide +kernel)⟩
theorem lw_p31 : lw_okq (⟨"SpareTagFlashModel", "programmed", "(I)I"⟩, 27) := ⟨⟨by decide +kernel, by decide +kernel⟩, List.mem_of_getElem? (i := 392) (by decide +kernel), List.mem_of_getElem? (i := 512) (by decide +kernel), List.mem_of_getElem? (i := 513) (by decide +kernel)⟩
def lw_privs_2 : List (MethodName × Nat) := [(⟨"SpareTagFlash", "refusalOfFile", "(I)I"⟩, 3), (⟨"SpareTagFlash", "refusalOfObject", "(I)I"⟩, 3), (⟨"SpareTagFlash", "putLength", "(II)Z"⟩, 3), (⟨"SpareTagFlash", "markChunks", "(II)Z"⟩, 3), (⟨"SpareTagFlash", "liesIn", "(II)Z"⟩, 3), (⟨"SpareTagFlash", "objectsIn", "(I)I"⟩, 3), (⟨"SpareTagFlash", "settleStale", "()V"⟩, 3), (⟨"SpareTagFlash", "isBeyondFile", "(I)Z"⟩, 3), (⟨"SpareTagFlash", "markStale", "()Z"⟩, 3), (⟨"SpareTagFlashModel", "there", "(I)Z"⟩, 27), (⟨"SpareTagFlashModel", "header", "(I)I"⟩, 27), (⟨"SpareTagFlashModel", "page", "(II)I"⟩, 27), (⟨"SpareTagFlashModel", "directory", "(I)Z"⟩, 27), (⟨"SpareTagFlashModel", "named", "(III)I"⟩, 27), (⟨"SpareTagFlashModel", "room", "(I)I"⟩, 27), (⟨"SpareTagFlashModel", "programmed", "(I)I"⟩, 27)]
theorem lw_r2 : ∀ q ∈ lw_privs_2, lw_okq q := List.forall_mem_cons.mpr ⟨lw_p16, List.forall_mem_cons.mpr ⟨lw_p17, List.forall_mem_cons.mpr ⟨lw_p18, List.forall_mem_cons.mpr ⟨lw_p19, List.forall_mem_cons.mpr ⟨lw_p20, List.forall_mem_cons.mpr ⟨lw_p21, List.forall_mem_cons.mpr ⟨lw_p22, List.forall_mem_cons.mpr ⟨lw_p23, List.forall_mem_cons.mpr ⟨lw_p24, List.forall_mem_cons.mpr ⟨lw_p25, List.forall_mem_cons.mpr ⟨lw_p26, List.forall_mem_cons.mpr ⟨lw_p27, List.forall_mem_cons.mpr ⟨lw_p28, List.forall_mem_cons.mpr ⟨lw_p29, List.forall_mem_cons.mpr ⟨lw_p30, List.forall_mem_cons.mpr ⟨lw_p31, fun _ h => absurd h List.not_mem_nil⟩⟩⟩⟩⟩⟩⟩⟩⟩⟩⟩⟩⟩⟩⟩⟩
theorem lw_p32 : lw_okq (⟨"SpareTagFlashModel", "poorest", "()I"⟩, 27) := ⟨⟨by decide +kernel, by decide +kernel⟩, List.mem_of_getElem? (i := 392) (by decide +kernel), List.mem_of_getElem? (i := 516) (by decide +kernel), List.mem_of_getElem? (i := 517) (by decide +kernel)⟩
theorem lw_p33 : lw_okq (⟨"SpareTagFlashModel", "lives", "(I)I"⟩, 27) := ⟨⟨by decide +kernel, by decide +kernel⟩, List.mem_of_getElem? (i := 392) (by decide +kernel), List.mem_of_getElem? (i := 520) (by decide +kernel), List.mem_of_getElem? (i := 521) (by decide +kernel)⟩
theorem lw_p34 : lw_okq (⟨"SpareTagFlashModel", "collect", "(I)Z"⟩, 27) := ⟨⟨by decide +kernel, by decide +kernel⟩, List.mem_of_getElem? (i := 392) (by decide +kernel), List.mem_of_getElem? (i := 524) (by decide +kernel), List.mem_of_getElem? (i := 525) (by decide +kernel)⟩
theorem lw_p35 : lw_okq (⟨"SpareTagFlashModel", "like", "(I)V"⟩, 27) := ⟨⟨by decide +kernel, by decide +kernel⟩, List.mem_of_getElem? (i := 392) (by decide +kernel), List.mem_of_getElem? (i := 528) (by decide +kernel), List.mem_of_getElem? (i := 529) (by decide +kernel)⟩
theorem lw_p36 : lw_okq (⟨"SpareTagFlashModel", "fresh", "(III)V"⟩, 27) := ⟨⟨by decide +kernel, by decide +kernel⟩, List.mem_of_getElem? (i := 392) (by decide +kernel), List.mem_of_getElem? (i := 532) (by decide +kernel), List.mem_of_getElem? (i := 533) (by decide +kernel)⟩
theorem lw_p37 : lw_okq (⟨"SpareTagFlashModel", "put", "()Z"⟩, 27) := ⟨⟨by decide +kernel, by decide +kernel⟩, List.mem_of_getElem? (i := 392) (by decide +kernel), List.mem_of_getElem? (i := 536) (by decide +kernel), List.mem_of_getElem? (i := 537) (by decide +kernel)⟩
theorem lw_p38 : lw_okq (⟨"SpareTagFlashModel", "nextPage", "()I"⟩, 27) := ⟨⟨by decide +kernel, by decide +kernel⟩, List.mem_of_getElem? (i := 392) (by decide +kernel), List.mem_of_getElem? (i := 540) (by decide +kernel), List.mem_of_getElem? (i := 541) (by decide +kernel)⟩
theorem lw_p39 : lw_okq (⟨"SpareTagFlashModel", "step", "()Z"⟩, 27) := ⟨⟨by decide +kernel, by decide +kernel⟩, List.mem_of_getElem? (i := 392) (by decide +kernel), List.mem_of_getElem? (i := 544) (by decide +kernel), List.mem_of_getElem? (i := 545) (by decide +kernel)⟩
theorem lw_p40 : lw_okq (⟨"SpareTagFlashModel", "mark", "(I)Z"⟩, 27) := ⟨⟨by decide +kernel, by decide +kernel⟩, List.mem_of_getElem? (i := 392) (by decide +kernel), List.mem_of_getElem? (i := 548) (by decide +kernel), List.mem_of_getElem? (i := 549) (by decide +kernel)⟩
theorem lw_p41 : lw_okq (⟨"SpareTagFlashModel", "drop", "(II)Z"⟩, 27) := ⟨⟨by decide +kernel, by decide +kernel⟩, List.mem_of_getElem? (i := 392) (by decide +kernel), List.mem_of_getElem? (i := 569) (by decide +kernel), List.mem_of_getElem? (i := 570) (by decide +kernel)⟩
theorem lw_p42 : lw_okq (⟨"SpareTagFlashModel", "lies", "(II)Z"⟩, 27) := ⟨⟨by decide +kernel, by decide +kernel⟩, List.mem_of_getElem? (i := 392) (by decide +kernel), List.mem_of_getElem? (i := 577) (by decide +kernel), List.mem_of_getElem? (i := 578) (by decide +kernel)⟩
theorem lw_p43 : lw_okq (⟨"SpareTagFlashModel", "inside", "(I)I"⟩, 27) := ⟨⟨by decide +kernel, by decide +kernel⟩, List.mem_of_getElem? (i := 392) (by decide +kernel), List.mem_of_getElem? (i := 585) (by decide +kernel), List.mem_of_getElem? (i := 586) (by decide +kernel)⟩
theorem lw_p44 : lw_okq (⟨"SpareTagFlashModel", "sizeOf", "(I)I"⟩, 27) := ⟨⟨by decide +kernel, by decide +kernel⟩, List.mem_of_getElem? (i := 392) (by decide +kernel), List.mem_of_getElem? (i := 613) (by decide +kernel), List.mem_of_getElem? (i := 614) (by decide +kernel)⟩
theorem lw_p45 : lw_okq (⟨"SpareTagFlashModel", "followed", "(I)Z"⟩, 27) := ⟨⟨by decide +kernel, by decide +kernel⟩, List.mem_of_getElem? (i := 392) (by decide +kernel), List.mem_of_getElem? (i := 617) (by decide +kernel), List.mem_of_getElem? (i := 618) (by decide +kernel)⟩
def lw_privs_3 : List (MethodName × Nat) := [(⟨"SpareTagFlashModel", "poorest", "()I"⟩, 27), (⟨"SpareTagFlashModel", "lives", "(I)I"⟩, 27), (⟨"SpareTagFlashModel", "collect", "(I)Z"⟩, 27), (⟨"SpareTagFlashModel", "like", "(I)V"⟩, 27), (⟨"SpareTagFlashModel", "fresh", "(III)V"⟩, 27), (⟨"SpareTagFlashModel", "put", "()Z"⟩, 27), (⟨"SpareTagFlashModel", "nextPage", "()I"⟩, 27), (⟨"SpareTagFlashModel", "step", "()Z"⟩, 27), (⟨"SpareTagFlashModel", "mark", "(I)Z"⟩, 27), (⟨"SpareTagFlashModel", "drop", "(II)Z"⟩, 27), (⟨"SpareTagFlashModel", "lies", "(II)Z"⟩, 27), (⟨"SpareTagFlashModel", "inside", "(I)I"⟩, 27), (⟨"SpareTagFlashModel", "sizeOf", "(I)I"⟩, 27), (⟨"SpareTagFlashModel", "followed", "(I)Z"⟩, 27)]
theorem lw_r3 : ∀ q ∈ lw_privs_3, lw_okq q := List.forall_mem_cons.mpr ⟨lw_p32, List.forall_mem_cons.mpr ⟨lw_p33, List.forall_mem_cons.mpr ⟨lw_p34, List.forall_mem_cons.mpr ⟨lw_p35, List.forall_mem_cons.mpr ⟨lw_p36, List.forall_mem_cons.mpr ⟨lw_p37, List.forall_mem_cons.mpr ⟨lw_p38, List.forall_mem_cons.mpr ⟨lw_p39, List.forall_mem_cons.mpr ⟨lw_p40, List.forall_mem_cons.mpr ⟨lw_p41, List.forall_mem_cons.mpr ⟨lw_p42, List.forall_mem_cons.mpr ⟨lw_p43, List.forall_mem_cons.mpr ⟨lw_p44, List.forall_mem_cons.mpr ⟨lw_p45, fun _ h => absurd h List.not_mem_nil⟩⟩⟩⟩⟩⟩⟩⟩⟩⟩⟩⟩⟩⟩
def lw_privs : List (MethodName × Nat) := lw_privs_1 ++ (lw_privs_2 ++ (lw_privs_3))
def lw_tbl : List Cond := k2_sels lw_privs ++ tables_1
theorem lw_privs_ok : ∀ q ∈ lw_privs, lw_okq q := by
  show ∀ q ∈ lw_privs_1 ++ (lw_privs_2 ++ (lw_privs_3)), lw_okq q
  exact List.forall_mem_append.mpr ⟨lw_r1, List.forall_mem_append.mpr ⟨lw_r2, lw_r3⟩⟩
end
section
def R_S : String := "SpareTagFlash"
def R_C : String := "SpareTagFlash$Chip"
def R_T : String := "SpareTagFlash$Tags"
def R_M : String := "SpareTagFlashModel"
def R_J : String := "java/lang/Long"
def F_S : u_T := fun k => match k with
  | 0 => ("SpareTagFlash", "chip", "LSpareTagFlash$Chip;", true)
  | 1 => ("SpareTagFlash", "stale", "[Z", true)
  | _ => ("SpareTagFlash", "on", "Z", false)
def t_S : Nat → FieldType := fun k => match k with
  | 0 => .object "SpareTagFlash$Chip"
  | 1 => .array .boolean
  | _ => .boolean
abbrev w_S : List Cond := u_ws R_S F_S 3
theorem n_S : ∀ a, a < 3 → ∀ b, b < 3 → a ≠ b → (F_S a).2.1 ≠ (F_S b).2.1 := by decide +kernel
theorem t_S_ok : ∀ k, k < 3 → parseFieldDescriptor (F_S k).2.2.1 = some (t_S k) := by decide +kernel
def F_C : u_T := fun k => match k with
  | 0 => ("SpareTagFlash$Chip", "tagsOf", "[I", true)
  | 1 => ("SpareTagFlash$Chip", "words", "[I", true)
  | 2 => ("SpareTagFlash$Chip", "turnedBits", "[J", true)
  | 3 => ("SpareTagFlash$Chip", "programmed", "[I", true)
  | 4 => ("SpareTagFlash$Chip", "timesErased", "[I", true)
  | 5 => ("SpareTagFlash$Chip", "worn", "[Z", true)
  | 6 => ("SpareTagFlash$Chip", "bad", "[Z", true)
  | 7 => ("SpareTagFlash$Chip", "touched", "[Z", true)
  | 8 => ("SpareTagFlash$Chip", "regionValid", "Z", false)
  | 9 => ("SpareTagFlash$Chip", "stepsDone", "I", false)
  | _ => ("SpareTagFlash$Chip", "stepsLeft", "I", false)
def t_C : Nat → FieldType := fun k => match k with
  | 0 => .array .int
  | 1 => .array .int
  | 2 => .array .long
  | 3 => .array .int
  | 4 => .array .int
  | 5 => .array .boolean
  | 6 => .array .boolean
  | 7 => .array .boolean
  | 8 => .boolean
  | 9 => .int
  | _ => .int
abbrev w_C : List Cond := u_ws R_C F_C 11
theorem n_C : ∀ a, a < 11 → ∀ b, b < 11 → a ≠ b → (F_C a).2.1 ≠ (F_C b).2.1 := by decide +kernel
theorem t_C_ok : ∀ k, k < 11 → parseFieldDescriptor (F_C k).2.2.1 = some (t_C k) := by decide +kernel
def F_M : u_T := fun k => match k with
  | 0 => ("SpareTagFlashModel", "state", "[I", true)
  | 1 => ("SpareTagFlashModel", "object", "[I", true)
  | 2 => ("SpareTagFlashModel", "chunk", "[I", true)
  | 3 => ("SpareTagFlashModel", "serial", "[I", true)
  | 4 => ("SpareTagFlashModel", "word", "[I", true)
  | 5 => ("SpareTagFlashModel", "parent", "[I", true)
  | 6 => ("SpareTagFlashModel", "length", "[I", true)
  | 7 => ("SpareTagFlashModel", "folder", "[Z", true)
  | 8 => ("SpareTagFlashModel", "first", "[I", true)
  | 9 => ("SpareTagFlashModel", "second", "[I", true)
  | 10 => ("SpareTagFlashModel", "stale", "[Z", true)
  | 11 => ("SpareTagFlashModel", "bad", "[Z", true)
  | 12 => ("SpareTagFlashModel", "worn", "[Z", true)
  | 13 => ("SpareTagFlashModel", "touched", "[Z", true)
  | 14 => ("SpareTagFlashModel", "erased", "[I", true)
  | 15 => ("SpareTagFlashModel", "on", "Z", false)
  | 16 => ("SpareTagFlashModel", "valid", "Z", false)
  | 17 => ("SpareTagFlashModel", "left", "I", false)
  | 18 => ("SpareTagFlashModel", "done", "I", false)
  | 19 => ("SpareTagFlashModel", "newObject", "I", false)
  | 20 => ("SpareTagFlashModel", "newChunk", "I", false)
  | 21 => ("SpareTagFlashModel", "newWord", "I", false)
  | 22 => ("SpareTagFlashModel", "newParent", "I", false)
  | 23 => ("SpareTagFlashModel", "newLength", "I", false)
  | 24 => ("SpareTagFlashModel", "newFolder", "Z", false)
  | 25 => ("SpareTagFlashModel", "newFirst", "I", false)
  | _ => ("SpareTagFlashModel", "newSecond", "I", false)
def t_M : Nat → FieldType := fun k => match k with
  | 0 => .array .int
  | 1 => .array .int
  | 2 => .array .int
  | 3 => .array .int
  | 4 => .array .int
  | 5 => .array .int
  | 6 => .array .int
  | 7 => .array .boolean
  | 8 => .array .int
  | 9 => .array .int
  | 10 => .array .boolean
  | 11 => .array .boolean
  | 12 => .array .boolean
  | 13 => .array .boolean
  | 14 => .array .int
  | 15 => .boolean
  | 16 => .boolean
  | 17 => .int
  | 18 => .int
  | 19 => .int
  | 20 => .int
  | 21 => .int
  | 22 => .int
  | 23 => .int
  | 24 => .boolean
  | 25 => .int
  | _ => .int
abbrev w_M : List Cond := u_ws R_M F_M 27
theorem n_M : ∀ a, a < 27 → ∀ b, b < 27 → a ≠ b → (F_M a).2.1 ≠ (F_M b).2.1 := by decide +kernel
theorem t_M_ok : ∀ k, k < 27 → parseFieldDescriptor (F_M k).2.2.1 = some (t_M k) := by decide +kernel
abbrev classes : List vw_C := [(R_S, F_S, 3), (R_C, F_C, 11), (R_M, F_M, 27)]
abbrev b_C_isProgrammed : ByteArray := prog_2_method_2_code
def y_C_isProgrammed : MethodName := ⟨R_C, "isProgrammed", "(I)Z"⟩
abbrev b_T_isMarked : ByteArray := prog_3_method_7_code
def y_T_isMarked : MethodName := ⟨R_T, "isMarked", "(I)Z"⟩
abbrev b_C_isLive : ByteArray := prog_2_method_3_code
def y_C_isLive : MethodName := ⟨R_C, "isLive", "(I)Z"⟩
abbrev b_T_ofChunk : ByteArray := prog_3_method_2_code
def y_T_ofChunk : MethodName := ⟨R_T, "ofChunk", "(II)I"⟩
abbrev b_T_areOf : ByteArray := prog_3_method_14_code
def y_T_areOf : MethodName := ⟨R_T, "areOf", "(III)Z"⟩
abbrev b_C_livePage : ByteArray := prog_2_method_6_code
def y_C_livePage : MethodName := ⟨R_C, "livePage", "(II)I"⟩
abbrev b_S_isThere : ByteArray := prog_1_method_27_code
def y_S_isThere : MethodName := ⟨R_S, "isThere", "(I)Z"⟩
abbrev b_S_lowestAbsentObject : ByteArray := prog_1_method_34_code
def y_S_lowestAbsentObject : MethodName := ⟨R_S, "lowestAbsentObject", "()I"⟩
abbrev b_C_countFree : ByteArray := prog_2_method_11_code
def y_C_countFree : MethodName := ⟨R_C, "countFree", "()I"⟩
abbrev b_C_countLiveIn : ByteArray := prog_2_method_9_code
def y_C_countLiveIn : MethodName := ⟨R_C, "countLiveIn", "(I)I"⟩
abbrev b_S_blockToCollect : ByteArray := prog_1_method_41_code
def y_S_blockToCollect : MethodName := ⟨R_S, "blockToCollect", "()I"⟩
abbrev b_C_takeStep : ByteArray := prog_2_method_21_code
def y_C_takeStep : MethodName := ⟨R_C, "takeStep", "()Z"⟩
abbrev b_C_erase : ByteArray := prog_2_method_17_code
def y_C_erase : MethodName := ⟨R_C, "erase", "(I)Z"⟩
abbrev b_J_bitCount : ByteArray := prog_6_method_50_code
def y_J_bitCount : MethodName := ⟨R_J, "bitCount", "(J)I"⟩
abbrev b_C_isUnreadable : ByteArray := prog_2_method_4_code
def y_C_isUnreadable : MethodName := ⟨R_C, "isUnreadable", "(I)Z"⟩
abbrev b_C_mark : ByteArray := prog_2_method_16_code
def y_C_mark : MethodName := ⟨R_C, "mark", "(I)Z"⟩
abbrev b_C_blockOfNextPage : ByteArray := prog_2_method_20_code
def y_C_blockOfNextPage : MethodName := ⟨R_C, "blockOfNextPage", "()I"⟩
abbrev b_C_program : ByteArray := prog_2_method_15_code
def y_C_program : MethodName := ⟨R_C, "program", "(IIJ)Z"⟩
abbrev b_T_serialAfter : ByteArray := prog_3_method_6_code
def y_T_serialAfter : MethodName := ⟨R_T, "serialAfter", "(I)I"⟩
abbrev b_T_withSerial : ByteArray := prog_3_method_11_code
def y_T_withSerial : MethodName := ⟨R_T, "withSerial", "(II)I"⟩
abbrev b_S_put : ByteArray := prog_1_method_36_code
def y_S_put : MethodName := ⟨R_S, "put", "(IIIJ)Z"⟩
abbrev b_S_putWordOf : ByteArray := prog_1_method_37_code
def y_S_putWordOf : MethodName := ⟨R_S, "putWordOf", "(II)Z"⟩
abbrev b_S_collect : ByteArray := prog_1_method_42_code
def y_S_collect : MethodName := ⟨R_S, "collect", "(I)Z"⟩
abbrev b_S_switchOff : ByteArray := prog_1_method_23_code
def y_S_switchOff : MethodName := ⟨R_S, "switchOff", "()I"⟩
abbrev b_S_makeRoom : ByteArray := prog_1_method_40_code
def y_S_makeRoom : MethodName := ⟨R_S, "makeRoom", "(I)I"⟩
abbrev b_S_headerTags : ByteArray := prog_1_method_29_code
def y_S_headerTags : MethodName := ⟨R_S, "headerTags", "(I)I"⟩
abbrev b_T_parent : ByteArray := prog_3_method_8_code
def y_T_parent : MethodName := ⟨R_T, "parent", "(I)I"⟩
abbrev b_S_isIn : ByteArray := prog_1_method_31_code
def y_S_isIn : MethodName := ⟨R_S, "isIn", "(II)Z"⟩
abbrev b_C_wordRead : ByteArray := prog_2_method_5_code
def y_C_wordRead : MethodName := ⟨R_C, "wordRead", "(I)J"⟩
abbrev b_S_nameRead : ByteArray := prog_1_method_30_code
def y_S_nameRead : MethodName := ⟨R_S, "nameRead", "(I)J"⟩
abbrev b_S_objectNamed : ByteArray := prog_1_method_32_code
def y_S_objectNamed : MethodName := ⟨R_S, "objectNamed", "(II)I"⟩
abbrev b_T_isOfDirectory : ByteArray := prog_3_method_10_code
def y_T_isOfDirectory : MethodName := ⟨R_T, "isOfDirectory", "(I)Z"⟩
abbrev b_S_isDirectory : ByteArray := prog_1_method_28_code
def y_S_isDirectory : MethodName := ⟨R_S, "isDirectory", "(I)Z"⟩
abbrev b_S_refusalOfDirectory : ByteArray := prog_1_method_26_code
def y_S_refusalOfDirectory : MethodName := ⟨R_S, "refusalOfDirectory", "(I)I"⟩
abbrev b_T_ofHeader : ByteArray := prog_3_method_3_code
def y_T_ofHeader : MethodName := ⟨R_T, "ofHeader", "(IIZ)I"⟩
abbrev b_S_create : ByteArray := prog_1_method_2_code
def y_S_create : MethodName := ⟨R_S, "create", "(IIZ)I"⟩
abbrev b_T_withLength : ByteArray := prog_3_method_13_code
def y_T_withLength : MethodName := ⟨R_T, "withLength", "(II)I"⟩
abbrev b_S_putLength : ByteArray := prog_1_method_38_code
def y_S_putLength : MethodName := ⟨R_S, "putLength", "(II)Z"⟩
abbrev b_S_refusalOfObject : ByteArray := prog_1_method_24_code
def y_S_refusalOfObject : MethodName := ⟨R_S, "refusalOfObject", "(I)I"⟩
abbrev b_S_refusalOfFile : ByteArray := prog_1_method_25_code
def y_S_refusalOfFile : MethodName := ⟨R_S, "refusalOfFile", "(I)I"⟩
abbrev b_T_length : ByteArray := prog_3_method_9_code
def y_T_length : MethodName := ⟨R_T, "length", "(I)I"⟩
abbrev b_S_write : ByteArray := prog_1_method_3_code
def y_S_write : MethodName := ⟨R_S, "write", "(III)I"⟩
abbrev b_S_read : ByteArray := prog_1_method_4_code
def y_S_read : MethodName := ⟨R_S, "read", "(II)J"⟩
abbrev b_S_markChunks : ByteArray := prog_1_method_39_code
def y_S_markChunks : MethodName := ⟨R_S, "markChunks", "(II)Z"⟩
abbrev b_S_truncate : ByteArray := prog_1_method_5_code
def y_S_truncate : MethodName := ⟨R_S, "truncate", "(II)I"⟩
abbrev b_S_liesIn : ByteArray := prog_1_method_35_code
def y_S_liesIn : MethodName := ⟨R_S, "liesIn", "(II)Z"⟩
abbrev b_T_withParent : ByteArray := prog_3_method_12_code
def y_T_withParent : MethodName := ⟨R_T, "withParent", "(II)I"⟩
abbrev b_S_move : ByteArray := prog_1_method_6_code
def y_S_move : MethodName := ⟨R_S, "move", "(III)I"⟩
abbrev b_S_objectsIn : ByteArray := prog_1_method_33_code
def y_S_objectsIn : MethodName := ⟨R_S, "objectsIn", "(I)I"⟩
abbrev b_S_remove : ByteArray := prog_1_method_7_code
def y_S_remove : MethodName := ⟨R_S, "remove", "(I)I"⟩
abbrev b_S_find : ByteArray := prog_1_method_8_code
def y_S_find : MethodName := ⟨R_S, "find", "(II)I"⟩
abbrev b_S_size : ByteArray := prog_1_method_9_code
def y_S_size : MethodName := ⟨R_S, "size", "(I)I"⟩
abbrev b_S_parentOf : ByteArray := prog_1_method_10_code
def y_S_parentOf : MethodName := ⟨R_S, "parentOf", "(I)I"⟩
abbrev b_S_nameOf : ByteArray := prog_1_method_11_code
def y_S_nameOf : MethodName := ⟨R_S, "nameOf", "(I)J"⟩
abbrev b_C_countLive : ByteArray := prog_2_method_10_code
def y_C_countLive : MethodName := ⟨R_C, "countLive", "()I"⟩
abbrev b_C_dropRegion : ByteArray := prog_2_method_18_code
def y_C_dropRegion : MethodName := ⟨R_C, "dropRegion", "()Z"⟩
abbrev b_C_fillRegion : ByteArray := prog_2_method_19_code
def y_C_fillRegion : MethodName := ⟨R_C, "fillRegion", "()Z"⟩
abbrev b_S_checkpoint : ByteArray := prog_1_method_12_code
def y_S_checkpoint : MethodName := ⟨R_S, "checkpoint", "()I"⟩
abbrev b_C_countGood : ByteArray := prog_2_method_12_code
def y_C_countGood : MethodName := ⟨R_C, "countGood", "()I"⟩
abbrev b_C_countGoodTouched : ByteArray := prog_2_method_13_code
def y_C_countGoodTouched : MethodName := ⟨R_C, "countGoodTouched", "()I"⟩
abbrev b_S_markStale : ByteArray := prog_1_method_45_code
def y_S_markStale : MethodName := ⟨R_S, "markStale", "()Z"⟩
abbrev b_T_follow : ByteArray := prog_3_method_15_code
def y_T_follow : MethodName := ⟨R_T, "follow", "(II)Z"⟩
abbrev b_C_hasSuccessor : ByteArray := prog_2_method_8_code
def y_C_hasSuccessor : MethodName := ⟨R_C, "hasSuccessor", "(I)Z"⟩
abbrev b_C_latestHeader : ByteArray := prog_2_method_7_code
def y_C_latestHeader : MethodName := ⟨R_C, "latestHeader", "(I)I"⟩
abbrev b_T_chunk : ByteArray := prog_3_method_5_code
def y_T_chunk : MethodName := ⟨R_T, "chunk", "(I)I"⟩
abbrev b_T_object : ByteArray := prog_3_method_4_code
def y_T_object : MethodName := ⟨R_T, "object", "(I)I"⟩
abbrev b_S_isBeyondFile : ByteArray := prog_1_method_44_code
def y_S_isBeyondFile : MethodName := ⟨R_S, "isBeyondFile", "(I)Z"⟩
abbrev b_S_settleStale : ByteArray := prog_1_method_43_code
def y_S_settleStale : MethodName := ⟨R_S, "settleStale", "()V"⟩
abbrev b_S_mount : ByteArray := prog_1_method_13_code
def y_S_mount : MethodName := ⟨R_S, "mount", "(Z)I"⟩
abbrev b_S_cut : ByteArray := prog_1_method_14_code
def y_S_cut : MethodName := ⟨R_S, "cut", "(I)V"⟩
abbrev b_C_turnBit : ByteArray := prog_2_method_14_code
def y_C_turnBit : MethodName := ⟨R_C, "turnBit", "(II)Z"⟩
abbrev b_S_isBlock : ByteArray := prog_1_method_21_code
def y_S_isBlock : MethodName := ⟨R_S, "isBlock", "(I)Z"⟩
abbrev b_S_isPage : ByteArray := prog_1_method_22_code
def y_S_isPage : MethodName := ⟨R_S, "isPage", "(II)Z"⟩
abbrev b_S_flip : ByteArray := prog_1_method_15_code
def y_S_flip : MethodName := ⟨R_S, "flip", "(III)Z"⟩
abbrev b_S_wear : ByteArray := prog_1_method_16_code
def y_S_wear : MethodName := ⟨R_S, "wear", "(I)Z"⟩
abbrev b_S_tags : ByteArray := prog_1_method_17_code
def y_S_tags : MethodName := ⟨R_S, "tags", "(II)I"⟩
abbrev b_S_free : ByteArray := prog_1_method_18_code
def y_S_free : MethodName := ⟨R_S, "free", "()I"⟩
abbrev b_S_erases : ByteArray := prog_1_method_19_code
def y_S_erases : MethodName := ⟨R_S, "erases", "(I)I"⟩
abbrev b_S_steps : ByteArray := prog_1_method_20_code
def y_S_steps : MethodName := ⟨R_S, "steps", "()I"⟩
abbrev b_M_step : ByteArray := prog_5_method_2_code
def y_M_step : MethodName := ⟨R_M, "step", "()Z"⟩
abbrev b_M_programmed : ByteArray := prog_5_method_3_code
def y_M_programmed : MethodName := ⟨R_M, "programmed", "(I)I"⟩
abbrev b_M_lives : ByteArray := prog_5_method_4_code
def y_M_lives : MethodName := ⟨R_M, "lives", "(I)I"⟩
abbrev b_M_nextPage : ByteArray := prog_5_method_5_code
def y_M_nextPage : MethodName := ⟨R_M, "nextPage", "()I"⟩
abbrev b_M_page : ByteArray := prog_5_method_6_code
def y_M_page : MethodName := ⟨R_M, "page", "(II)I"⟩
abbrev b_M_mark : ByteArray := prog_5_method_7_code
def y_M_mark : MethodName := ⟨R_M, "mark", "(I)Z"⟩
abbrev b_M_put : ByteArray := prog_5_method_8_code
def y_M_put : MethodName := ⟨R_M, "put", "()Z"⟩
abbrev b_M_fresh : ByteArray := prog_5_method_9_code
def y_M_fresh : MethodName := ⟨R_M, "fresh", "(III)V"⟩
abbrev b_M_like : ByteArray := prog_5_method_10_code
def y_M_like : MethodName := ⟨R_M, "like", "(I)V"⟩
abbrev b_M_collect : ByteArray := prog_5_method_11_code
def y_M_collect : MethodName := ⟨R_M, "collect", "(I)Z"⟩
abbrev b_M_free : ByteArray := prog_5_method_40_code
def y_M_free : MethodName := ⟨R_M, "free", "()I"⟩
abbrev b_M_poorest : ByteArray := prog_5_method_12_code
def y_M_poorest : MethodName := ⟨R_M, "poorest", "()I"⟩
abbrev b_M_room : ByteArray := prog_5_method_13_code
def y_M_room : MethodName := ⟨R_M, "room", "(I)I"⟩
abbrev b_M_header : ByteArray := prog_5_method_14_code
def y_M_header : MethodName := ⟨R_M, "header", "(I)I"⟩
abbrev b_M_directory : ByteArray := prog_5_method_15_code
def y_M_directory : MethodName := ⟨R_M, "directory", "(I)Z"⟩
abbrev b_M_there : ByteArray := prog_5_method_16_code
def y_M_there : MethodName := ⟨R_M, "there", "(I)Z"⟩
abbrev b_M_named : ByteArray := prog_5_method_17_code
def y_M_named : MethodName := ⟨R_M, "named", "(III)I"⟩
abbrev b_M_inside : ByteArray := prog_5_method_18_code
def y_M_inside : MethodName := ⟨R_M, "inside", "(I)I"⟩
abbrev b_M_create : ByteArray := prog_5_method_19_code
def y_M_create : MethodName := ⟨R_M, "create", "(IIZ)I"⟩
abbrev b_M_write : ByteArray := prog_5_method_20_code
def y_M_write : MethodName := ⟨R_M, "write", "(III)I"⟩
abbrev b_M_read : ByteArray := prog_5_method_21_code
def y_M_read : MethodName := ⟨R_M, "read", "(II)J"⟩
abbrev b_M_drop : ByteArray := prog_5_method_22_code
def y_M_drop : MethodName := ⟨R_M, "drop", "(II)Z"⟩
abbrev b_M_truncate : ByteArray := prog_5_method_23_code
def y_M_truncate : MethodName := ⟨R_M, "truncate", "(II)I"⟩
abbrev b_M_lies : ByteArray := prog_5_method_24_code
def y_M_lies : MethodName := ⟨R_M, "lies", "(II)Z"⟩
abbrev b_M_move : ByteArray := prog_5_method_25_code
def y_M_move : MethodName := ⟨R_M, "move", "(III)I"⟩
abbrev b_M_remove : ByteArray := prog_5_method_26_code
def y_M_remove : MethodName := ⟨R_M, "remove", "(I)I"⟩
abbrev b_M_find : ByteArray := prog_5_method_27_code
def y_M_find : MethodName := ⟨R_M, "find", "(II)I"⟩
abbrev b_M_size : ByteArray := prog_5_method_28_code
def y_M_size : MethodName := ⟨R_M, "size", "(I)I"⟩
abbrev b_M_parentOf : ByteArray := prog_5_method_29_code
def y_M_parentOf : MethodName := ⟨R_M, "parentOf", "(I)I"⟩
abbrev b_M_nameOf : ByteArray := prog_5_method_30_code
def y_M_nameOf : MethodName := ⟨R_M, "nameOf", "(I)J"⟩
abbrev b_M_checkpoint : ByteArray := prog_5_method_31_code
def y_M_checkpoint : MethodName := ⟨R_M, "checkpoint", "()I"⟩
abbrev b_M_followed : ByteArray := prog_5_method_32_code
def y_M_followed : MethodName := ⟨R_M, "followed", "(I)Z"⟩
abbrev b_M_sizeOf : ByteArray := prog_5_method_33_code
def y_M_sizeOf : MethodName := ⟨R_M, "sizeOf", "(I)I"⟩
abbrev b_M_mount : ByteArray := prog_5_method_34_code
def y_M_mount : MethodName := ⟨R_M, "mount", "(Z)I"⟩
abbrev b_M_cut : ByteArray := prog_5_method_35_code
def y_M_cut : MethodName := ⟨R_M, "cut", "(I)V"⟩
abbrev b_M_outside : ByteArray := prog_5_method_36_code
def y_M_outside : MethodName := ⟨R_M, "outside", "(II)Z"⟩
abbrev b_M_flip : ByteArray := prog_5_method_37_code
def y_M_flip : MethodName := ⟨R_M, "flip", "(III)Z"⟩
abbrev b_M_wear : ByteArray := prog_5_method_38_code
def y_M_wear : MethodName := ⟨R_M, "wear", "(I)Z"⟩
abbrev b_M_tags : ByteArray := prog_5_method_39_code
def y_M_tags : MethodName := ⟨R_M, "tags", "(II)I"⟩
abbrev b_M_erases : ByteArray := prog_5_method_41_code
def y_M_erases : MethodName := ⟨R_M, "erases", "(I)I"⟩
abbrev b_M_steps : ByteArray := prog_5_method_42_code
def y_M_steps : MethodName := ⟨R_M, "steps", "()I"⟩
abbrev b_S_init : ByteArray := prog_1_method_1_code
def y_S_init : MethodName := ⟨R_S, "<init>", "()V"⟩
abbrev b_C_init : ByteArray := prog_2_method_1_code
def y_C_init : MethodName := ⟨R_C, "<init>", "()V"⟩
abbrev b_M_init : ByteArray := prog_5_method_1_code
def y_M_init : MethodName := ⟨R_M, "<init>", "()V"⟩
def w_l0 : List Cond := [.constantLong R_J 314 6148914691236517205, .constantLong R_J 316 3689348814741910323, .constantLong R_J 318 1085102592571150095, .constantLong R_C 67 4294967296, .constantLong R_S 170 4294967296, .constant R_T 9 32768, .constantLong R_S 73 8589934585, .constantLong R_S 71 8589934592, .constantLong R_M 156 8589934585, .constantLong R_M 158 4294967296, .constantLong R_M 154 8589934589, .constantLong R_M 152 8589934591, .constantLong R_M 150 8589934583, .constant R_M 182 32768, .fieldLink R_C 9 "SpareTagFlash$Chip" "tagsOf" "[I", .fieldLink R_C 15 "SpareTagFlash$Chip" "words" "[I", .fieldLink R_C 18 "SpareTagFlash$Chip" "turnedBits" "[J", .fieldLink R_C 22 "SpareTagFlash$Chip" "programmed" "[I", .fieldLink R_C 25 "SpareTagFlash$Chip" "timesErased" "[I", .fieldLink R_C 28 "SpareTagFlash$Chip" "worn" "[Z", .fieldLink R_C 32 "SpareTagFlash$Chip" "bad" "[Z", .fieldLink R_C 35 "SpareTagFlash$Chip" "touched" "[Z", .fieldLink R_C 42 "SpareTagFlash$Chip" "stepsDone" "I", .fieldLink R_C 46 "SpareTagFlash$Chip" "stepsLeft" "I", .fieldLink R_S 12 "SpareTagFlash" "chip" "LSpareTagFlash$Chip;", .fieldLink R_S 16 "SpareTagFlash" "stale" "[Z", .fieldLink R_S 20 "SpareTagFlash" "on" "Z", .fieldLink R_S 117 "SpareTagFlash$Chip" "regionValid" "Z", .fieldLink R_S 145 "SpareTagFlash$Chip" "bad" "[Z", .fieldLink R_S 148 "SpareTagFlash$Chip" "worn" "[Z", .fieldLink R_S 154 "SpareTagFlash$Chip" "tagsOf" "[I", .fieldLink R_S 161 "SpareTagFlash$Chip" "timesErased" "[I", .fieldLink R_S 164 "SpareTagFlash$Chip" "stepsDone" "I", .fieldLink R_S 191 "SpareTagFlash$Chip" "turnedBits" "[J", .fieldLink R_S 195 "SpareTagFlash$Chip" "words" "[I", .fieldLink R_S 210 "SpareTagFlash$Chip" "programmed" "[I", .fieldLink R_C 38 "SpareTagFlash$Chip" "regionValid" "Z", .fieldLink R_S 132 "SpareTagFlash$Chip" "stepsLeft" "I", .fieldLink R_M 7 "SpareTagFlashModel" "state" "[I", .fieldLink R_M 13 "SpareTagFlashModel" "object" "[I"]
def w_l1 : List Cond := [.fieldLink R_M 16 "SpareTagFlashModel" "chunk" "[I", .fieldLink R_M 19 "SpareTagFlashModel" "serial" "[I", .fieldLink R_M 22 "SpareTagFlashModel" "word" "[I", .fieldLink R_M 25 "SpareTagFlashModel" "parent" "[I", .fieldLink R_M 28 "SpareTagFlashModel" "length" "[I", .fieldLink R_M 31 "SpareTagFlashModel" "folder" "[Z", .fieldLink R_M 35 "SpareTagFlashModel" "first" "[I", .fieldLink R_M 38 "SpareTagFlashModel" "second" "[I", .fieldLink R_M 41 "SpareTagFlashModel" "stale" "[Z", .fieldLink R_M 44 "SpareTagFlashModel" "bad" "[Z", .fieldLink R_M 47 "SpareTagFlashModel" "worn" "[Z", .fieldLink R_M 50 "SpareTagFlashModel" "touched" "[Z", .fieldLink R_M 53 "SpareTagFlashModel" "erased" "[I", .fieldLink R_M 56 "SpareTagFlashModel" "on" "Z", .fieldLink R_M 60 "SpareTagFlashModel" "left" "I", .fieldLink R_M 64 "SpareTagFlashModel" "done" "I", .fieldLink R_M 75 "SpareTagFlashModel" "newObject" "I", .fieldLink R_M 78 "SpareTagFlashModel" "newChunk" "I", .fieldLink R_M 89 "SpareTagFlashModel" "newWord" "I", .fieldLink R_M 92 "SpareTagFlashModel" "newParent" "I", .fieldLink R_M 95 "SpareTagFlashModel" "newLength" "I", .fieldLink R_M 98 "SpareTagFlashModel" "newFolder" "Z", .fieldLink R_M 101 "SpareTagFlashModel" "newFirst" "I", .fieldLink R_M 104 "SpareTagFlashModel" "newSecond" "I", .fieldLink R_M 170 "SpareTagFlashModel" "valid" "Z", .code y_C_isProgrammed b_C_isProgrammed 2 (some .boolean), .methodLink R_C 49 y_C_isProgrammed, .instanceMethod y_C_isProgrammed, .selects R_C y_C_isProgrammed y_C_isProgrammed, .initialized R_C, .code y_T_isMarked b_T_isMarked 1 (some .boolean), .methodLink R_C 53 y_T_isMarked, .static y_T_isMarked, .initialized R_T, .code y_J_bitCount b_J_bitCount 2 (some .int), .methodLink R_C 58 y_J_bitCount, .static y_J_bitCount, .initialized R_J, .code y_C_isUnreadable b_C_isUnreadable 2 (some .boolean), .methodLink R_C 64 y_C_isUnreadable]
def w_l2 : List Cond := [.instanceMethod y_C_isUnreadable, .selects R_C y_C_isUnreadable y_C_isUnreadable, .code y_C_isLive b_C_isLive 2 (some .boolean), .methodLink R_C 69 y_C_isLive, .instanceMethod y_C_isLive, .selects R_C y_C_isLive y_C_isLive, .code y_T_areOf b_T_areOf 3 (some .boolean), .methodLink R_C 72 y_T_areOf, .static y_T_areOf, .code y_C_hasSuccessor b_C_hasSuccessor 3 (some .boolean), .methodLink R_C 76 y_C_hasSuccessor, .instanceMethod y_C_hasSuccessor, .selects R_C y_C_hasSuccessor y_C_hasSuccessor, .code y_T_follow b_T_follow 2 (some .boolean), .methodLink R_C 79 y_T_follow, .static y_T_follow, .code y_C_countLiveIn b_C_countLiveIn 5 (some .int), .methodLink R_C 83 y_C_countLiveIn, .instanceMethod y_C_countLiveIn, .selects R_C y_C_countLiveIn y_C_countLiveIn, .code y_C_blockOfNextPage b_C_blockOfNextPage 3 (some .int), .methodLink R_C 87 y_C_blockOfNextPage, .instanceMethod y_C_blockOfNextPage, .selects R_C y_C_blockOfNextPage y_C_blockOfNextPage, .code y_C_takeStep b_C_takeStep 1 (some .boolean), .methodLink R_C 91 y_C_takeStep, .instanceMethod y_C_takeStep, .selects R_C y_C_takeStep y_C_takeStep, .code y_M_programmed b_M_programmed 4 (some .int), .methodLink R_M 67 y_M_programmed, .instanceMethod y_M_programmed, .selects R_M y_M_programmed y_M_programmed, .initialized R_M, .code y_M_step b_M_step 1 (some .boolean), .methodLink R_M 71 y_M_step, .instanceMethod y_M_step, .selects R_M y_M_step y_M_step, .code y_M_page b_M_page 4 (some .int), .methodLink R_M 81 y_M_page, .instanceMethod y_M_page]
def w_l3 : List Cond := [.selects R_M y_M_page y_M_page, .code y_M_nextPage b_M_nextPage 3 (some .int), .methodLink R_M 85 y_M_nextPage, .instanceMethod y_M_nextPage, .selects R_M y_M_nextPage y_M_nextPage, .code y_M_mark b_M_mark 2 (some .boolean), .methodLink R_M 107 y_M_mark, .instanceMethod y_M_mark, .selects R_M y_M_mark y_M_mark, .code y_M_fresh b_M_fresh 4 none, .methodLink R_M 111 y_M_fresh, .instanceMethod y_M_fresh, .selects R_M y_M_fresh y_M_fresh, .code y_M_like b_M_like 2 none, .methodLink R_M 115 y_M_like, .instanceMethod y_M_like, .selects R_M y_M_like y_M_like, .code y_M_put b_M_put 3 (some .boolean), .methodLink R_M 119 y_M_put, .instanceMethod y_M_put, .selects R_M y_M_put y_M_put, .code y_M_free b_M_free 3 (some .int), .methodLink R_M 122 y_M_free, .instanceMethod y_M_free, .selects R_M y_M_free y_M_free, .code y_M_lives b_M_lives 4 (some .int), .methodLink R_M 125 y_M_lives, .instanceMethod y_M_lives, .selects R_M y_M_lives y_M_lives, .code y_M_poorest b_M_poorest 6 (some .int), .methodLink R_M 128 y_M_poorest, .instanceMethod y_M_poorest, .selects R_M y_M_poorest y_M_poorest, .code y_M_collect b_M_collect 3 (some .boolean), .methodLink R_M 131 y_M_collect, .instanceMethod y_M_collect, .selects R_M y_M_collect y_M_collect, .code y_M_header b_M_header 2 (some .int), .methodLink R_M 134 y_M_header, .instanceMethod y_M_header]
def w_l4 : List Cond := [.selects R_M y_M_header y_M_header, .code y_M_there b_M_there 2 (some .boolean), .methodLink R_M 137 y_M_there, .instanceMethod y_M_there, .selects R_M y_M_there y_M_there, .code y_M_directory b_M_directory 3 (some .boolean), .methodLink R_M 140 y_M_directory, .instanceMethod y_M_directory, .selects R_M y_M_directory y_M_directory, .code y_M_named b_M_named 6 (some .int), .methodLink R_M 143 y_M_named, .instanceMethod y_M_named, .selects R_M y_M_named y_M_named, .code y_M_room b_M_room 4 (some .int), .methodLink R_M 147 y_M_room, .instanceMethod y_M_room, .selects R_M y_M_room y_M_room, .code y_M_drop b_M_drop 5 (some .boolean), .methodLink R_M 160 y_M_drop, .instanceMethod y_M_drop, .selects R_M y_M_drop y_M_drop, .code y_M_lies b_M_lies 6 (some .boolean), .methodLink R_M 164 y_M_lies, .instanceMethod y_M_lies, .selects R_M y_M_lies y_M_lies, .code y_M_inside b_M_inside 5 (some .int), .methodLink R_M 167 y_M_inside, .instanceMethod y_M_inside, .selects R_M y_M_inside y_M_inside, .code y_M_followed b_M_followed 3 (some .boolean), .methodLink R_M 173 y_M_followed, .instanceMethod y_M_followed, .selects R_M y_M_followed y_M_followed, .code y_M_sizeOf b_M_sizeOf 4 (some .int), .methodLink R_M 176 y_M_sizeOf, .instanceMethod y_M_sizeOf, .selects R_M y_M_sizeOf y_M_sizeOf, .code y_M_outside b_M_outside 2 (some .boolean), .methodLink R_M 179 y_M_outside, .static y_M_outside]
def w_l5 : List Cond := [.code y_S_refusalOfDirectory b_S_refusalOfDirectory 2 (some .int), .methodLink R_S 24 y_S_refusalOfDirectory, .instanceMethod y_S_refusalOfDirectory, .selects R_S y_S_refusalOfDirectory y_S_refusalOfDirectory, .initialized R_S, .code y_S_objectNamed b_S_objectNamed 4 (some .int), .methodLink R_S 28 y_S_objectNamed, .instanceMethod y_S_objectNamed, .selects R_S y_S_objectNamed y_S_objectNamed, .code y_S_lowestAbsentObject b_S_lowestAbsentObject 2 (some .int), .methodLink R_S 32 y_S_lowestAbsentObject, .instanceMethod y_S_lowestAbsentObject, .selects R_S y_S_lowestAbsentObject y_S_lowestAbsentObject, .code y_S_makeRoom b_S_makeRoom 5 (some .int), .methodLink R_S 36 y_S_makeRoom, .instanceMethod y_S_makeRoom, .selects R_S y_S_makeRoom y_S_makeRoom, .code y_T_ofHeader b_T_ofHeader 3 (some .int), .methodLink R_S 39 y_T_ofHeader, .static y_T_ofHeader, .code y_S_put b_S_put 7 (some .boolean), .methodLink R_S 45 y_S_put, .instanceMethod y_S_put, .selects R_S y_S_put y_S_put, .code y_S_switchOff b_S_switchOff 1 (some .int), .methodLink R_S 49 y_S_switchOff, .instanceMethod y_S_switchOff, .selects R_S y_S_switchOff y_S_switchOff, .code y_S_refusalOfFile b_S_refusalOfFile 3 (some .int), .methodLink R_S 52 y_S_refusalOfFile, .instanceMethod y_S_refusalOfFile, .selects R_S y_S_refusalOfFile y_S_refusalOfFile, .code y_S_headerTags b_S_headerTags 3 (some .int), .methodLink R_S 55 y_S_headerTags, .instanceMethod y_S_headerTags, .selects R_S y_S_headerTags y_S_headerTags, .code y_T_length b_T_length 1 (some .int), .methodLink R_S 58 y_T_length, .static y_T_length, .code y_C_livePage b_C_livePage 4 (some .int)]
def w_l6 : List Cond := [.methodLink R_S 61 y_C_livePage, .instanceMethod y_C_livePage, .selects R_C y_C_livePage y_C_livePage, .code y_T_ofChunk b_T_ofChunk 2 (some .int), .methodLink R_S 64 y_T_ofChunk, .static y_T_ofChunk, .code y_S_putLength b_S_putLength 4 (some .boolean), .methodLink R_S 67 y_S_putLength, .instanceMethod y_S_putLength, .selects R_S y_S_putLength y_S_putLength, .code y_C_wordRead b_C_wordRead 2 (some .long), .methodLink R_S 75 y_C_wordRead, .instanceMethod y_C_wordRead, .selects R_C y_C_wordRead y_C_wordRead, .code y_S_markChunks b_S_markChunks 5 (some .boolean), .methodLink R_S 79 y_S_markChunks, .instanceMethod y_S_markChunks, .selects R_S y_S_markChunks y_S_markChunks, .code y_S_refusalOfObject b_S_refusalOfObject 2 (some .int), .methodLink R_S 82 y_S_refusalOfObject, .instanceMethod y_S_refusalOfObject, .selects R_S y_S_refusalOfObject y_S_refusalOfObject, .code y_S_liesIn b_S_liesIn 5 (some .boolean), .methodLink R_S 85 y_S_liesIn, .instanceMethod y_S_liesIn, .selects R_S y_S_liesIn y_S_liesIn, .code y_T_withParent b_T_withParent 2 (some .int), .methodLink R_S 88 y_T_withParent, .static y_T_withParent, .code y_S_objectsIn b_S_objectsIn 4 (some .int), .methodLink R_S 91 y_S_objectsIn, .instanceMethod y_S_objectsIn, .selects R_S y_S_objectsIn y_S_objectsIn, .code y_S_isThere b_S_isThere 2 (some .boolean), .methodLink R_S 94 y_S_isThere, .instanceMethod y_S_isThere, .selects R_S y_S_isThere y_S_isThere, .code y_S_isDirectory b_S_isDirectory 2 (some .boolean), .methodLink R_S 98 y_S_isDirectory, .instanceMethod y_S_isDirectory]
def w_l7 : List Cond := [.selects R_S y_S_isDirectory y_S_isDirectory, .code y_T_parent b_T_parent 1 (some .int), .methodLink R_S 101 y_T_parent, .static y_T_parent, .code y_S_nameRead b_S_nameRead 3 (some .long), .methodLink R_S 104 y_S_nameRead, .instanceMethod y_S_nameRead, .selects R_S y_S_nameRead y_S_nameRead, .code y_C_dropRegion b_C_dropRegion 1 (some .boolean), .methodLink R_S 107 y_C_dropRegion, .instanceMethod y_C_dropRegion, .selects R_C y_C_dropRegion y_C_dropRegion, .code y_C_fillRegion b_C_fillRegion 2 (some .boolean), .methodLink R_S 111 y_C_fillRegion, .instanceMethod y_C_fillRegion, .selects R_C y_C_fillRegion y_C_fillRegion, .code y_C_countLive b_C_countLive 3 (some .int), .methodLink R_S 114 y_C_countLive, .instanceMethod y_C_countLive, .selects R_C y_C_countLive y_C_countLive, .code y_C_countGood b_C_countGood 3 (some .int), .methodLink R_S 120 y_C_countGood, .instanceMethod y_C_countGood, .selects R_C y_C_countGood y_C_countGood, .code y_C_countGoodTouched b_C_countGoodTouched 3 (some .int), .methodLink R_S 123 y_C_countGoodTouched, .instanceMethod y_C_countGoodTouched, .selects R_C y_C_countGoodTouched y_C_countGoodTouched, .code y_S_settleStale b_S_settleStale 2 none, .methodLink R_S 126 y_S_settleStale, .instanceMethod y_S_settleStale, .selects R_S y_S_settleStale y_S_settleStale, .code y_S_markStale b_S_markStale 2 (some .boolean), .methodLink R_S 129 y_S_markStale, .instanceMethod y_S_markStale, .selects R_S y_S_markStale y_S_markStale, .code y_S_isPage b_S_isPage 2 (some .boolean), .methodLink R_S 136 y_S_isPage, .static y_S_isPage, .code y_C_turnBit b_C_turnBit 3 (some .boolean)]
def w_l8 : List Cond := [.methodLink R_S 139 y_C_turnBit, .instanceMethod y_C_turnBit, .selects R_C y_C_turnBit y_C_turnBit, .code y_S_isBlock b_S_isBlock 1 (some .boolean), .methodLink R_S 142 y_S_isBlock, .static y_S_isBlock, .methodLink R_S 151 y_C_isProgrammed, .code y_C_countFree b_C_countFree 3 (some .int), .methodLink R_S 158 y_C_countFree, .instanceMethod y_C_countFree, .selects R_C y_C_countFree y_C_countFree, .code y_T_isOfDirectory b_T_isOfDirectory 1 (some .boolean), .methodLink R_S 167 y_T_isOfDirectory, .static y_T_isOfDirectory, .code y_S_isIn b_S_isIn 3 (some .boolean), .methodLink R_S 172 y_S_isIn, .instanceMethod y_S_isIn, .selects R_S y_S_isIn y_S_isIn, .code y_T_withSerial b_T_withSerial 2 (some .int), .methodLink R_S 175 y_T_withSerial, .static y_T_withSerial, .code y_C_program b_C_program 7 (some .boolean), .methodLink R_S 178 y_C_program, .instanceMethod y_C_program, .selects R_C y_C_program y_C_program, .code y_T_serialAfter b_T_serialAfter 1 (some .int), .methodLink R_S 182 y_T_serialAfter, .static y_T_serialAfter, .code y_C_mark b_C_mark 2 (some .boolean), .methodLink R_S 185 y_C_mark, .instanceMethod y_C_mark, .selects R_C y_C_mark y_C_mark, .methodLink R_S 188 y_C_isUnreadable, .code y_T_withLength b_T_withLength 2 (some .int), .methodLink R_S 198 y_T_withLength, .static y_T_withLength, .code y_S_putWordOf b_S_putWordOf 5 (some .boolean), .methodLink R_S 201 y_S_putWordOf, .instanceMethod y_S_putWordOf, .selects R_S y_S_putWordOf y_S_putWordOf]
def w_l9 : List Cond := [.code y_S_blockToCollect b_S_blockToCollect 6 (some .int), .methodLink R_S 204 y_S_blockToCollect, .instanceMethod y_S_blockToCollect, .selects R_S y_S_blockToCollect y_S_blockToCollect, .code y_S_collect b_S_collect 4 (some .boolean), .methodLink R_S 207 y_S_collect, .instanceMethod y_S_collect, .selects R_S y_S_collect y_S_collect, .methodLink R_S 213 y_C_countLiveIn, .methodLink R_S 216 y_C_isLive, .code y_C_erase b_C_erase 2 (some .boolean), .methodLink R_S 219 y_C_erase, .instanceMethod y_C_erase, .selects R_C y_C_erase y_C_erase, .methodLink R_S 222 y_C_hasSuccessor, .code y_S_isBeyondFile b_S_isBeyondFile 4 (some .boolean), .methodLink R_S 225 y_S_isBeyondFile, .instanceMethod y_S_isBeyondFile, .selects R_S y_S_isBeyondFile y_S_isBeyondFile, .code y_T_chunk b_T_chunk 1 (some .int), .methodLink R_S 228 y_T_chunk, .static y_T_chunk, .code y_T_object b_T_object 1 (some .int), .methodLink R_S 231 y_T_object, .static y_T_object, .code y_C_latestHeader b_C_latestHeader 3 (some .int), .methodLink R_S 234 y_C_latestHeader, .instanceMethod y_C_latestHeader, .selects R_C y_C_latestHeader y_C_latestHeader, .methodLink R_T 10 y_T_ofChunk, .methodLink R_T 14 y_T_serialAfter, .code y_S_create b_S_create 7 (some .int), .code y_S_write b_S_write 8 (some .int), .code y_S_read b_S_read 5 (some .long), .code y_S_truncate b_S_truncate 6 (some .int), .code y_S_move b_S_move 8 (some .int), .code y_S_remove b_S_remove 3 (some .int), .code y_S_find b_S_find 4 (some .int), .code y_S_size b_S_size 2 (some .int), .code y_S_parentOf b_S_parentOf 3 (some .int)]
def w_l10 : List Cond := [.code y_S_nameOf b_S_nameOf 3 (some .long), .code y_S_checkpoint b_S_checkpoint 1 (some .int), .code y_S_mount b_S_mount 3 (some .int), .code y_S_cut b_S_cut 2 none, .code y_S_flip b_S_flip 4 (some .boolean), .code y_S_wear b_S_wear 2 (some .boolean), .code y_S_tags b_S_tags 4 (some .int), .code y_S_free b_S_free 1 (some .int), .code y_S_erases b_S_erases 2 (some .int), .code y_S_steps b_S_steps 1 (some .int), .code y_M_create b_M_create 6 (some .int), .code y_M_write b_M_write 8 (some .int), .code y_M_read b_M_read 5 (some .long), .code y_M_truncate b_M_truncate 6 (some .int), .code y_M_move b_M_move 6 (some .int), .code y_M_remove b_M_remove 3 (some .int), .code y_M_find b_M_find 3 (some .int), .code y_M_size b_M_size 2 (some .int), .code y_M_parentOf b_M_parentOf 3 (some .int), .code y_M_nameOf b_M_nameOf 3 (some .long), .code y_M_checkpoint b_M_checkpoint 3 (some .int), .code y_M_mount b_M_mount 6 (some .int), .code y_M_cut b_M_cut 2 none, .code y_M_flip b_M_flip 5 (some .boolean), .code y_M_wear b_M_wear 2 (some .boolean), .code y_M_tags b_M_tags 5 (some .int), .code y_M_erases b_M_erases 2 (some .int), .code y_M_steps b_M_steps 1 (some .int)]
def w_all : List Cond := w_l0 ++ (w_l1 ++ (w_l2 ++ (w_l3 ++ (w_l4 ++ (w_l5 ++ (w_l6 ++ (w_l7 ++ (w_l8 ++ (w_l9 ++ (w_l10 ++ (w_S ++ (w_C ++ (w_M)))))))))))))
set_option maxRecDepth 20000 in
theorem wm_0 : (Cond.constantLong R_J 314 6148914691236517205) ∈ w_all := List.mem_append_left _ (List.mem_of_getElem? (i := 0) rfl)
set_option maxRecDepth 20000 in
theorem wm_1 : (Cond.constantLong R_J 316 3689348814741910323) ∈ w_all := List.mem_append_left _ (List.mem_of_getElem? (i := 1) rfl)
set_option maxRecDepth 20000 in
theorem wm_2 : (Cond.constantLong R_J 318 1085102592571150095) ∈ w_all := List.mem_append_left _ (List.mem_of_getElem? (i := 2) rfl)
set_option maxRecDepth 20000 in
theorem wm_3 : (Cond.constantLong R_C 67 4294967296) ∈ w_all := List.mem_append_left _ (List.mem_of_getElem? (i := 3) rfl)
set_option maxRecDepth 20000 in
theorem wm_4 : (Cond.constantLong R_S 170 4294967296) ∈ w_all := List.mem_append_left _ (List.mem_of_getElem? (i := 4) rfl)
set_option maxRecDepth 20000 in
theorem wm_5 : (Cond.constant R_T 9 32768) ∈ w_all := List.mem_append_left _ (List.mem_of_getElem? (i := 5) rfl)
set_option maxRecDepth 20000 in
theorem wm_6 : (Cond.constantLong R_S 73 8589934585) ∈ w_all := List.mem_append_left _ (List.mem_of_getElem? (i := 6) rfl)
set_option maxRecDepth 20000 in
theorem wm_7 : (Cond.constantLong R_S 71 8589934592) ∈ w_all := List.mem_append_left _ (List.mem_of_getElem? (i := 7) rfl)
set_option maxRecDepth 20000 in
theorem wm_8 : (Cond.constantLong R_M 156 8589934585) ∈ w_all := List.mem_append_left _ (List.mem_of_getElem? (i := 8) rfl)
set_option maxRecDepth 20000 in
theorem wm_9 : (Cond.constantLong R_M 158 4294967296) ∈ w_all := List.mem_append_left _ (List.mem_of_getElem? (i := 9) rfl)
set_option maxRecDepth 20000 in
theorem wm_10 : (Cond.constantLong R_M 154 8589934589) ∈ w_all := List.mem_append_left _ (List.mem_of_getElem? (i := 10) rfl)
set_option maxRecDepth 20000 in
theorem wm_11 : (Cond.constantLong R_M 152 8589934591) ∈ w_all := List.mem_append_left _ (List.mem_of_getElem? (i := 11) rfl)
set_option maxRecDepth 20000 in
theorem wm_12 : (Cond.constantLong R_M 150 8589934583) ∈ w_all := List.mem_append_left _ (List.mem_of_getElem? (i := 12) rfl)
set_option maxRecDepth 20000 in
theorem wm_13 : (Cond.constant R_M 182 32768) ∈ w_all := List.mem_append_left _ (List.mem_of_getElem? (i := 13) rfl)
set_option maxRecDepth 20000 in
theorem wm_14 : (Cond.fieldLink R_C 9 "SpareTagFlash$Chip" "tagsOf" "[I") ∈ w_all := List.mem_append_left _ (List.mem_of_getElem? (i := 14) rfl)
set_option maxRecDepth 20000 in
theorem wm_15 : (Cond.fieldLink R_C 15 "SpareTagFlash$Chip" "words" "[I") ∈ w_all := List.mem_append_left _ (List.mem_of_getElem? (i := 15) rfl)
set_option maxRecDepth 20000 in
theorem wm_16 : (Cond.fieldLink R_C 18 "SpareTagFlash$Chip" "turnedBits" "[J") ∈ w_all := List.mem_append_left _ (List.mem_of_getElem? (i := 16) rfl)
set_option maxRecDepth 20000 in
theorem wm_17 : (Cond.fieldLink R_C 22 "SpareTagFlash$Chip" "programmed" "[I") ∈ w_all := List.mem_append_left _ (List.mem_of_getElem? (i := 17) rfl)
set_option maxRecDepth 20000 in
theorem wm_18 : (Cond.fieldLink R_C 25 "SpareTagFlash$Chip" "timesErased" "[I") ∈ w_all := List.mem_append_left _ (List.mem_of_getElem? (i := 18) rfl)
set_option maxRecDepth 20000 in
theorem wm_19 : (Cond.fieldLink R_C 28 "SpareTagFlash$Chip" "worn" "[Z") ∈ w_all := List.mem_append_left _ (List.mem_of_getElem? (i := 19) rfl)
set_option maxRecDepth 20000 in
theorem wm_20 : (Cond.fieldLink R_C 32 "SpareTagFlash$Chip" "bad" "[Z") ∈ w_all := List.mem_append_left _ (List.mem_of_getElem? (i := 20) rfl)
set_option maxRecDepth 20000 in
theorem wm_21 : (Cond.fieldLink R_C 35 "SpareTagFlash$Chip" "touched" "[Z") ∈ w_all := List.mem_append_left _ (List.mem_of_getElem? (i := 21) rfl)
set_option maxRecDepth 20000 in
theorem wm_22 : (Cond.fieldLink R_C 42 "SpareTagFlash$Chip" "stepsDone" "I") ∈ w_all := List.mem_append_left _ (List.mem_of_getElem? (i := 22) rfl)
set_option maxRecDepth 20000 in
theorem wm_23 : (Cond.fieldLink R_C 46 "SpareTagFlash$Chip" "stepsLeft" "I") ∈ w_all := List.mem_append_left _ (List.mem_of_getElem? (i := 23) rfl)
set_option maxRecDepth 20000 in
theorem wm_24 : (Cond.fieldLink R_S 12 "SpareTagFlash" "chip" "LSpareTagFlash$Chip;") ∈ w_all := List.mem_append_left _ (List.mem_of_getElem? (i := 24) rfl)
set_option maxRecDepth 20000 in
theorem wm_25 : (Cond.fieldLink R_S 16 "SpareTagFlash" "stale" "[Z") ∈ w_all := List.mem_append_left _ (List.mem_of_getElem? (i := 25) rfl)
set_option maxRecDepth 20000 in
theorem wm_26 : (Cond.fieldLink R_S 20 "SpareTagFlash" "on" "Z") ∈ w_all := List.mem_append_left _ (List.mem_of_getElem? (i := 26) rfl)
set_option maxRecDepth 20000 in
theorem wm_27 : (Cond.fieldLink R_S 117 "SpareTagFlash$Chip" "regionValid" "Z") ∈ w_all := List.mem_append_left _ (List.mem_of_getElem? (i := 27) rfl)
set_option maxRecDepth 20000 in
theorem wm_28 : (Cond.fieldLink R_S 145 "SpareTagFlash$Chip" "bad" "[Z") ∈ w_all := List.mem_append_left _ (List.mem_of_getElem? (i := 28) rfl)
set_option maxRecDepth 20000 in
theorem wm_29 : (Cond.fieldLink R_S 148 "SpareTagFlash$Chip" "worn" "[Z") ∈ w_all := List.mem_append_left _ (List.mem_of_getElem? (i := 29) rfl)
set_option maxRecDepth 20000 in
theorem wm_30 : (Cond.fieldLink R_S 154 "SpareTagFlash$Chip" "tagsOf" "[I") ∈ w_all := List.mem_append_left _ (List.mem_of_getElem? (i := 30) rfl)
set_option maxRecDepth 20000 in
theorem wm_31 : (Cond.fieldLink R_S 161 "SpareTagFlash$Chip" "timesErased" "[I") ∈ w_all := List.mem_append_left _ (List.mem_of_getElem? (i := 31) rfl)
set_option maxRecDepth 20000 in
theorem wm_32 : (Cond.fieldLink R_S 164 "SpareTagFlash$Chip" "stepsDone" "I") ∈ w_all := List.mem_append_left _ (List.mem_of_getElem? (i := 32) rfl)
set_option maxRecDepth 20000 in
theorem wm_33 : (Cond.fieldLink R_S 191 "SpareTagFlash$Chip" "turnedBits" "[J") ∈ w_all := List.mem_append_left _ (List.mem_of_getElem? (i := 33) rfl)
set_option maxRecDepth 20000 in
theorem wm_34 : (Cond.fieldLink R_S 195 "SpareTagFlash$Chip" "words" "[I") ∈ w_all := List.mem_append_left _ (List.mem_of_getElem? (i := 34) rfl)
set_option maxRecDepth 20000 in
theorem wm_35 : (Cond.fieldLink R_S 210 "SpareTagFlash$Chip" "programmed" "[I") ∈ w_all := List.mem_append_left _ (List.mem_of_getElem? (i := 35) rfl)
set_option maxRecDepth 20000 in
theorem wm_36 : (Cond.fieldLink R_C 38 "SpareTagFlash$Chip" "regionValid" "Z") ∈ w_all := List.mem_append_left _ (List.mem_of_getElem? (i := 36) rfl)
set_option maxRecDepth 20000 in
theorem wm_37 : (Cond.fieldLink R_S 132 "SpareTagFlash$Chip" "stepsLeft" "I") ∈ w_all := List.mem_append_left _ (List.mem_of_getElem? (i := 37) rfl)
set_option maxRecDepth 20000 in
theorem wm_38 : (Cond.fieldLink R_M 7 "SpareTagFlashModel" "state" "[I") ∈ w_all := List.mem_append_left _ (List.mem_of_getElem? (i := 38) rfl)
set_option maxRecDepth 20000 in
theorem wm_39 : (Cond.fieldLink R_M 13 "SpareTagFlashModel" "object" "[I") ∈ w_all := List.mem_append_left _ (List.mem_of_getElem? (i := 39) rfl)
set_option maxRecDepth 20000 in
theorem wm_40 : (Cond.fieldLink R_M 16 "SpareTagFlashModel" "chunk" "[I") ∈ w_all := List.mem_append_right _ (List.mem_append_left _ (List.mem_of_getElem? (i := 0) rfl))
set_option maxRecDepth 20000 in
theorem wm_41 : (Cond.fieldLink R_M 19 "SpareTagFlashModel" "serial" "[I") ∈ w_all := List.mem_append_right _ (List.mem_append_left _ (List.mem_of_getElem? (i := 1) rfl))
set_option maxRecDepth 20000 in
theorem wm_42 : (Cond.fieldLink R_M 22 "SpareTagFlashModel" "word" "[I") ∈ w_all := List.mem_append_right _ (List.mem_append_left _ (List.mem_of_getElem? (i := 2) rfl))
set_option maxRecDepth 20000 in
theorem wm_43 : (Cond.fieldLink R_M 25 "SpareTagFlashModel" "parent" "[I") ∈ w_all := List.mem_append_right _ (List.mem_append_left _ (List.mem_of_getElem? (i := 3) rfl))
set_option maxRecDepth 20000 in
theorem wm_44 : (Cond.fieldLink R_M 28 "SpareTagFlashModel" "length" "[I") ∈ w_all := List.mem_append_right _ (List.mem_append_left _ (List.mem_of_getElem? (i := 4) rfl))
set_option maxRecDepth 20000 in
theorem wm_45 : (Cond.fieldLink R_M 31 "SpareTagFlashModel" "folder" "[Z") ∈ w_all := List.mem_append_right _ (List.mem_append_left _ (List.mem_of_getElem? (i := 5) rfl))
set_option maxRecDepth 20000 in
theorem wm_46 : (Cond.fieldLink R_M 35 "SpareTagFlashModel" "first" "[I") ∈ w_all := List.mem_append_right _ (List.mem_append_left _ (List.mem_of_getElem? (i := 6) rfl))
set_option maxRecDepth 20000 in
theorem wm_47 : (Cond.fieldLink R_M 38 "SpareTagFlashModel" "second" "[I") ∈ w_all := List.mem_append_right _ (List.mem_append_left _ (List.mem_of_getElem? (i := 7) rfl))
set_option maxRecDepth 20000 in
theorem wm_48 : (Cond.fieldLink R_M 41 "SpareTagFlashModel" "stale" "[Z") ∈ w_all := List.mem_append_right _ (List.mem_append_left _ (List.mem_of_getElem? (i := 8) rfl))
set_option maxRecDepth 20000 in
theorem wm_49 : (Cond.fieldLink R_M 44 "SpareTagFlashModel" "bad" "[Z") ∈ w_all := List.mem_append_right _ (List.mem_append_left _ (List.mem_of_getElem? (i := 9) rfl))
set_option maxRecDepth 20000 in
theorem wm_50 : (Cond.fieldLink R_M 47 "SpareTagFlashModel" "worn" "[Z") ∈ w_all := List.mem_append_right _ (List.mem_append_left _ (List.mem_of_getElem? (i := 10) rfl))
set_option maxRecDepth 20000 in
theorem wm_51 : (Cond.fieldLink R_M 50 "SpareTagFlashModel" "touched" "[Z") ∈ w_all := List.mem_append_right _ (List.mem_append_left _ (List.mem_of_getElem? (i := 11) rfl))
set_option maxRecDepth 20000 in
theorem wm_52 : (Cond.fieldLink R_M 53 "SpareTagFlashModel" "erased" "[I") ∈ w_all := List.mem_append_right _ (List.mem_append_left _ (List.mem_of_getElem? (i := 12) rfl))
set_option maxRecDepth 20000 in
theorem wm_53 : (Cond.fieldLink R_M 56 "SpareTagFlashModel" "on" "Z") ∈ w_all := List.mem_append_right _ (List.mem_append_left _ (List.mem_of_getElem? (i := 13) rfl))
set_option maxRecDepth 20000 in
theorem wm_54 : (Cond.fieldLink R_M 60 "SpareTagFlashModel" "left" "I") ∈ w_all := List.mem_append_right _ (List.mem_append_left _ (List.mem_of_getElem? (i := 14) rfl))
set_option maxRecDepth 20000 in
theorem wm_55 : (Cond.fieldLink R_M 64 "SpareTagFlashModel" "done" "I") ∈ w_all := List.mem_append_right _ (List.mem_append_left _ (List.mem_of_getElem? (i := 15) rfl))
set_option maxRecDepth 20000 in
theorem wm_56 : (Cond.fieldLink R_M 75 "SpareTagFlashModel" "newObject" "I") ∈ w_all := List.mem_append_right _ (List.mem_append_left _ (List.mem_of_getElem? (i := 16) rfl))
set_option maxRecDepth 20000 in
theorem wm_57 : (Cond.fieldLink R_M 78 "SpareTagFlashModel" "newChunk" "I") ∈ w_all := List.mem_append_right _ (List.mem_append_left _ (List.mem_of_getElem? (i := 17) rfl))
set_option maxRecDepth 20000 in
theorem wm_58 : (Cond.fieldLink R_M 89 "SpareTagFlashModel" "newWord" "I") ∈ w_all := List.mem_append_right _ (List.mem_append_left _ (List.mem_of_getElem? (i := 18) rfl))
set_option maxRecDepth 20000 in
theorem wm_59 : (Cond.fieldLink R_M 92 "SpareTagFlashModel" "newParent" "I") ∈ w_all := List.mem_append_right _ (List.mem_append_left _ (List.mem_of_getElem? (i := 19) rfl))
set_option maxRecDepth 20000 in
theorem wm_60 : (Cond.fieldLink R_M 95 "SpareTagFlashModel" "newLength" "I") ∈ w_all := List.mem_append_right _ (List.mem_append_left _ (List.mem_of_getElem? (i := 20) rfl))
set_option maxRecDepth 20000 in
theorem wm_61 : (Cond.fieldLink R_M 98 "SpareTagFlashModel" "newFolder" "Z") ∈ w_all := List.mem_append_right _ (List.mem_append_left _ (List.mem_of_getElem? (i := 21) rfl))
set_option maxRecDepth 20000 in
theorem wm_62 : (Cond.fieldLink R_M 101 "SpareTagFlashModel" "newFirst" "I") ∈ w_all := List.mem_append_right _ (List.mem_append_left _ (List.mem_of_getElem? (i := 22) rfl))
set_option maxRecDepth 20000 in
theorem wm_63 : (Cond.fieldLink R_M 104 "SpareTagFlashModel" "newSecond" "I") ∈ w_all := List.mem_append_right _ (List.mem_append_left _ (List.mem_of_getElem? (i := 23) rfl))
set_option maxRecDepth 20000 in
theorem wm_64 : (Cond.fieldLink R_M 170 "SpareTagFlashModel" "valid" "Z") ∈ w_all := List.mem_append_right _ (List.mem_append_left _ (List.mem_of_getElem? (i := 24) rfl))
set_option maxRecDepth 20000 in
theorem wm_65 : (Cond.code y_C_isProgrammed b_C_isProgrammed 2 (some .boolean)) ∈ w_all := List.mem_append_right _ (List.mem_append_left _ (List.mem_of_getElem? (i := 25) rfl))
set_option maxRecDepth 20000 in
theorem wm_66 : (Cond.methodLink R_C 49 y_C_isProgrammed) ∈ w_all := List.mem_append_right _ (List.mem_append_left _ (List.mem_of_getElem? (i := 26) rfl))
set_option maxRecDepth 20000 in
theorem wm_67 : (Cond.instanceMethod y_C_isProgrammed) ∈ w_all := List.mem_append_right _ (List.mem_append_left _ (List.mem_of_getElem? (i := 27) rfl))
set_option maxRecDepth 20000 in
theorem wm_68 : (Cond.selects R_C y_C_isProgrammed y_C_isProgrammed) ∈ w_all := List.mem_append_right _ (List.mem_append_left _ (List.mem_of_getElem? (i := 28) rfl))
set_option maxRecDepth 20000 in
theorem wm_69 : (Cond.initialized R_C) ∈ w_all := List.mem_append_right _ (List.mem_append_left _ (List.mem_of_getElem? (i := 29) rfl))
set_option maxRecDepth 20000 in
theorem wm_70 : (Cond.code y_T_isMarked b_T_isMarked 1 (some .boolean)) ∈ w_all := List.mem_append_right _ (List.mem_append_left _ (List.mem_of_getElem? (i := 30) rfl))
set_option maxRecDepth 20000 in
theorem wm_71 : (Cond.methodLink R_C 53 y_T_isMarked) ∈ w_all := List.mem_append_right _ (List.mem_append_left _ (List.mem_of_getElem? (i := 31) rfl))
set_option maxRecDepth 20000 in
theorem wm_72 : (Cond.static y_T_isMarked) ∈ w_all := List.mem_append_right _ (List.mem_append_left _ (List.mem_of_getElem? (i := 32) rfl))
set_option maxRecDepth 20000 in
theorem wm_73 : (Cond.initialized R_T) ∈ w_all := List.mem_append_right _ (List.mem_append_left _ (List.mem_of_getElem? (i := 33) rfl))
set_option maxRecDepth 20000 in
theorem wm_74 : (Cond.code y_J_bitCount b_J_bitCount 2 (some .int)) ∈ w_all := List.mem_append_right _ (List.mem_append_left _ (List.mem_of_getElem? (i := 34) rfl))
set_option maxRecDepth 20000 in
theorem wm_75 : (Cond.methodLink R_C 58 y_J_bitCount) ∈ w_all := List.mem_append_right _ (List.mem_append_left _ (List.mem_of_getElem? (i := 35) rfl))
set_option maxRecDepth 20000 in
theorem wm_76 : (Cond.static y_J_bitCount) ∈ w_all := List.mem_append_right _ (List.mem_append_left _ (List.mem_of_getElem? (i := 36) rfl))
set_option maxRecDepth 20000 in
theorem wm_77 : (Cond.initialized R_J) ∈ w_all := List.mem_append_right _ (List.mem_append_left _ (List.mem_of_getElem? (i := 37) rfl))
set_option maxRecDepth 20000 in
theorem wm_78 : (Cond.code y_C_isUnreadable b_C_isUnreadable 2 (some .boolean)) ∈ w_all := List.mem_append_right _ (List.mem_append_left _ (List.mem_of_getElem? (i := 38) rfl))
set_option maxRecDepth 20000 in
theorem wm_79 : (Cond.methodLink R_C 64 y_C_isUnreadable) ∈ w_all := List.mem_append_right _ (List.mem_append_left _ (List.mem_of_getElem? (i := 39) rfl))
set_option maxRecDepth 20000 in
theorem wm_80 : (Cond.instanceMethod y_C_isUnreadable) ∈ w_all := List.mem_append_right _ (List.mem_append_right _ (List.mem_append_left _ (List.mem_of_getElem? (i := 0) rfl)))
set_option maxRecDepth 20000 in
theorem wm_81 : (Cond.selects R_C y_C_isUnreadable y_C_isUnreadable) ∈ w_all := List.mem_append_right _ (List.mem_append_right _ (List.mem_append_left _ (List.mem_of_getElem? (i := 1) rfl)))
set_option maxRecDepth 20000 in
theorem wm_82 : (Cond.code y_C_isLive b_C_isLive 2 (some .boolean)) ∈ w_all := List.mem_append_right _ (List.mem_append_right _ (List.mem_append_left _ (List.mem_of_getElem? (i := 2) rfl)))
set_option maxRecDepth 20000 in
theorem wm_83 : (Cond.methodLink R_C 69 y_C_isLive) ∈ w_all := List.mem_append_right _ (List.mem_append_right _ (List.mem_append_left _ (List.mem_of_getElem? (i := 3) rfl)))
set_option maxRecDepth 20000 in
theorem wm_84 : (Cond.instanceMethod y_C_isLive) ∈ w_all := List.mem_append_right _ (List.mem_append_right _ (List.mem_append_left _ (List.mem_of_getElem? (i := 4) rfl)))
set_option maxRecDepth 20000 in
theorem wm_85 : (Cond.selects R_C y_C_isLive y_C_isLive) ∈ w_all := List.mem_append_right _ (List.mem_append_right _ (List.mem_append_left _ (List.mem_of_getElem? (i := 5) rfl)))
set_option maxRecDepth 20000 in
theorem wm_86 : (Cond.code y_T_areOf b_T_areOf 3 (some .boolean)) ∈ w_all := List.mem_append_right _ (List.mem_append_right _ (List.mem_append_left _ (List.mem_of_getElem? (i := 6) rfl)))
set_option maxRecDepth 20000 in
theorem wm_87 : (Cond.methodLink R_C 72 y_T_areOf) ∈ w_all := List.mem_append_right _ (List.mem_append_right _ (List.mem_append_left _ (List.mem_of_getElem? (i := 7) rfl)))
set_option maxRecDepth 20000 in
theorem wm_88 : (Cond.static y_T_areOf) ∈ w_all := List.mem_append_right _ (List.mem_append_right _ (List.mem_append_left _ (List.mem_of_getElem? (i := 8) rfl)))
set_option maxRecDepth 20000 in
theorem wm_89 : (Cond.code y_C_hasSuccessor b_C_hasSuccessor 3 (some .boolean)) ∈ w_all := List.mem_append_right _ (List.mem_append_right _ (List.mem_append_left _ (List.mem_of_getElem? (i := 9) rfl)))
set_option maxRecDepth 20000 in
theorem wm_90 : (Cond.methodLink R_C 76 y_C_hasSuccessor) ∈ w_all := List.mem_append_right _ (List.mem_append_right _ (List.mem_append_left _ (List.mem_of_getElem? (i := 10) rfl)))
set_option maxRecDepth 20000 in
theorem wm_91 : (Cond.instanceMethod y_C_hasSuccessor) ∈ w_all := List.mem_append_right _ (List.mem_append_right _ (List.mem_append_left _ (List.mem_of_getElem? (i := 11) rfl)))
set_option maxRecDepth 20000 in
theorem wm_92 : (Cond.selects R_C y_C_hasSuccessor y_C_hasSuccessor) ∈ w_all := List.mem_append_right _ (List.mem_append_right _ (List.mem_append_left _ (List.mem_of_getElem? (i := 12) rfl)))
set_option maxRecDepth 20000 in
theorem wm_93 : (Cond.code y_T_follow b_T_follow 2 (some .boolean)) ∈ w_all := List.mem_append_right _ (List.mem_append_right _ (List.mem_append_left _ (List.mem_of_getElem? (i := 13) rfl)))
set_option maxRecDepth 20000 in
theorem wm_94 : (Cond.methodLink R_C 79 y_T_follow) ∈ w_all := List.mem_append_right _ (List.mem_append_right _ (List.mem_append_left _ (List.mem_of_getElem? (i := 14) rfl)))
set_option maxRecDepth 20000 in
theorem wm_95 : (Cond.static y_T_follow) ∈ w_all := List.mem_append_right _ (List.mem_append_right _ (List.mem_append_left _ (List.mem_of_getElem? (i := 15) rfl)))
set_option maxRecDepth 20000 in
theorem wm_96 : (Cond.code y_C_countLiveIn b_C_countLiveIn 5 (some .int)) ∈ w_all := List.mem_append_right _ (List.mem_append_right _ (List.mem_append_left _ (List.mem_of_getElem? (i := 16) rfl)))
set_option maxRecDepth 20000 in
theorem wm_97 : (Cond.methodLink R_C 83 y_C_countLiveIn) ∈ w_all := List.mem_append_right _ (List.mem_append_right _ (List.mem_append_left _ (List.mem_of_getElem? (i := 17) rfl)))
set_option maxRecDepth 20000 in
theorem wm_98 : (Cond.instanceMethod y_C_countLiveIn) ∈ w_all := List.mem_append_right _ (List.mem_append_right _ (List.mem_append_left _ (List.mem_of_getElem? (i := 18) rfl)))
set_option maxRecDepth 20000 in
theorem wm_99 : (Cond.selects R_C y_C_countLiveIn y_C_countLiveIn) ∈ w_all := List.mem_append_right _ (List.mem_append_right _ (List.mem_append_left _ (List.mem_of_getElem? (i := 19) rfl)))
set_option maxRecDepth 20000 in
theorem wm_100 : (Cond.code y_C_blockOfNextPage b_C_blockOfNextPage 3 (some .int)) ∈ w_all := List.mem_append_right _ (List.mem_append_right _ (List.mem_append_left _ (List.mem_of_getElem? (i := 20) rfl)))
set_option maxRecDepth 20000 in
theorem wm_101 : (Cond.methodLink R_C 87 y_C_blockOfNextPage) ∈ w_all := List.mem_append_right _ (List.mem_append_right _ (List.mem_append_left _ (List.mem_of_getElem? (i := 21) rfl)))
set_option maxRecDepth 20000 in
theorem wm_102 : (Cond.instanceMethod y_C_blockOfNextPage) ∈ w_all := List.mem_append_right _ (List.mem_append_right _ (List.mem_append_left _ (List.mem_of_getElem? (i := 22) rfl)))
set_option maxRecDepth 20000 in
theorem wm_103 : (Cond.selects R_C y_C_blockOfNextPage y_C_blockOfNextPage) ∈ w_all := List.mem_append_right _ (List.mem_append_right _ (List.mem_append_left _ (List.mem_of_getElem? (i := 23) rfl)))
set_option maxRecDepth 20000 in
theorem wm_104 : (Cond.code y_C_takeStep b_C_takeStep 1 (some .boolean)) ∈ w_all := List.mem_append_right _ (List.mem_append_right _ (List.mem_append_left _ (List.mem_of_getElem? (i := 24) rfl)))
set_option maxRecDepth 20000 in
theorem wm_105 : (Cond.methodLink R_C 91 y_C_takeStep) ∈ w_all := List.mem_append_right _ (List.mem_append_right _ (List.mem_append_left _ (List.mem_of_getElem? (i := 25) rfl)))
set_option maxRecDepth 20000 in
theorem wm_106 : (Cond.instanceMethod y_C_takeStep) ∈ w_all := List.mem_append_right _ (List.mem_append_right _ (List.mem_append_left _ (List.mem_of_getElem? (i := 26) rfl)))
set_option maxRecDepth 20000 in
theorem wm_107 : (Cond.selects R_C y_C_takeStep y_C_takeStep) ∈ w_all := List.mem_append_right _ (List.mem_append_right _ (List.mem_append_left _ (List.mem_of_getElem? (i := 27) rfl)))
set_option maxRecDepth 20000 in
theorem wm_108 : (Cond.code y_M_programmed b_M_programmed 4 (some .int)) ∈ w_all := List.mem_append_right _ (List.mem_append_right _ (List.mem_append_left _ (List.mem_of_getElem? (i := 28) rfl)))
set_option maxRecDepth 20000 in
theorem wm_109 : (Cond.methodLink R_M 67 y_M_programmed) ∈ w_all := List.mem_append_right _ (List.mem_append_right _ (List.mem_append_left _ (List.mem_of_getElem? (i := 29) rfl)))
set_option maxRecDepth 20000 in
theorem wm_110 : (Cond.instanceMethod y_M_programmed) ∈ w_all := List.mem_append_right _ (List.mem_append_right _ (List.mem_append_left _ (List.mem_of_getElem? (i := 30) rfl)))
set_option maxRecDepth 20000 in
theorem wm_111 : (Cond.selects R_M y_M_programmed y_M_programmed) ∈ w_all := List.mem_append_right _ (List.mem_append_right _ (List.mem_append_left _ (List.mem_of_getElem? (i := 31) rfl)))
set_option maxRecDepth 20000 in
theorem wm_112 : (Cond.initialized R_M) ∈ w_all := List.mem_append_right _ (List.mem_append_right _ (List.mem_append_left _ (List.mem_of_getElem? (i := 32) rfl)))
set_option maxRecDepth 20000 in
theorem wm_113 : (Cond.code y_M_step b_M_step 1 (some .boolean)) ∈ w_all := List.mem_append_right _ (List.mem_append_right _ (List.mem_append_left _ (List.mem_of_getElem? (i := 33) rfl)))
set_option maxRecDepth 20000 in
theorem wm_114 : (Cond.methodLink R_M 71 y_M_step) ∈ w_all := List.mem_append_right _ (List.mem_append_right _ (List.mem_append_left _ (List.mem_of_getElem? (i := 34) rfl)))
set_option maxRecDepth 20000 in
theorem wm_115 : (Cond.instanceMethod y_M_step) ∈ w_all := List.mem_append_right _ (List.mem_append_right _ (List.mem_append_left _ (List.mem_of_getElem? (i := 35) rfl)))
set_option maxRecDepth 20000 in
theorem wm_116 : (Cond.selects R_M y_M_step y_M_step) ∈ w_all := List.mem_append_right _ (List.mem_append_right _ (List.mem_append_left _ (List.mem_of_getElem? (i := 36) rfl)))
set_option maxRecDepth 20000 in
theorem wm_117 : (Cond.code y_M_page b_M_page 4 (some .int)) ∈ w_all := List.mem_append_right _ (List.mem_append_right _ (List.mem_append_left _ (List.mem_of_getElem? (i := 37) rfl)))
set_option maxRecDepth 20000 in
theorem wm_118 : (Cond.methodLink R_M 81 y_M_page) ∈ w_all := List.mem_append_right _ (List.mem_append_right _ (List.mem_append_left _ (List.mem_of_getElem? (i := 38) rfl)))
set_option maxRecDepth 20000 in
theorem wm_119 : (Cond.instanceMethod y_M_page) ∈ w_all := List.mem_append_right _ (List.mem_append_right _ (List.mem_append_left _ (List.mem_of_getElem? (i := 39) rfl)))
set_option maxRecDepth 20000 in
theorem wm_120 : (Cond.selects R_M y_M_page y_M_page) ∈ w_all := List.mem_append_right _ (List.mem_append_right _ (List.mem_append_right _ (List.mem_append_left _ (List.mem_of_getElem? (i := 0) rfl))))
set_option maxRecDepth 20000 in
theorem wm_121 : (Cond.code y_M_nextPage b_M_nextPage 3 (some .int)) ∈ w_all := List.mem_append_right _ (List.mem_append_right _ (List.mem_append_right _ (List.mem_append_left _ (List.mem_of_getElem? (i := 1) rfl))))
set_option maxRecDepth 20000 in
theorem wm_122 : (Cond.methodLink R_M 85 y_M_nextPage) ∈ w_all := List.mem_append_right _ (List.mem_append_right _ (List.mem_append_right _ (List.mem_append_left _ (List.mem_of_getElem? (i := 2) rfl))))
set_option maxRecDepth 20000 in
theorem wm_123 : (Cond.instanceMethod y_M_nextPage) ∈ w_all := List.mem_append_right _ (List.mem_append_right _ (List.mem_append_right _ (List.mem_append_left _ (List.mem_of_getElem? (i := 3) rfl))))
set_option maxRecDepth 20000 in
theorem wm_124 : (Cond.selects R_M y_M_nextPage y_M_nextPage) ∈ w_all := List.mem_append_right _ (List.mem_append_right _ (List.mem_append_right _ (List.mem_append_left _ (List.mem_of_getElem? (i := 4) rfl))))
set_option maxRecDepth 20000 in
theorem wm_125 : (Cond.code y_M_mark b_M_mark 2 (some .boolean)) ∈ w_all := List.mem_append_right _ (List.mem_append_right _ (List.mem_append_right _ (List.mem_append_left _ (List.mem_of_getElem? (i := 5) rfl))))
set_option maxRecDepth 20000 in
theorem wm_126 : (Cond.methodLink R_M 107 y_M_mark) ∈ w_all := List.mem_append_right _ (List.mem_append_right _ (List.mem_append_right _ (List.mem_append_left _ (List.mem_of_getElem? (i := 6) rfl))))
set_option maxRecDepth 20000 in
theorem wm_127 : (Cond.instanceMethod y_M_mark) ∈ w_all := List.mem_append_right _ (List.mem_append_right _ (List.mem_append_right _ (List.mem_append_left _ (List.mem_of_getElem? (i := 7) rfl))))
set_option maxRecDepth 20000 in
theorem wm_128 : (Cond.selects R_M y_M_mark y_M_mark) ∈ w_all := List.mem_append_right _ (List.mem_append_right _ (List.mem_append_right _ (List.mem_append_left _ (List.mem_of_getElem? (i := 8) rfl))))
set_option maxRecDepth 20000 in
theorem wm_129 : (Cond.code y_M_fresh b_M_fresh 4 none) ∈ w_all := List.mem_append_right _ (List.mem_append_right _ (List.mem_append_right _ (List.mem_append_left _ (List.mem_of_getElem? (i := 9) rfl))))
set_option maxRecDepth 20000 in
theorem wm_130 : (Cond.methodLink R_M 111 y_M_fresh) ∈ w_all := List.mem_append_right _ (List.mem_append_right _ (List.mem_append_right _ (List.mem_append_left _ (List.mem_of_getElem? (i := 10) rfl))))
set_option maxRecDepth 20000 in
theorem wm_131 : (Cond.instanceMethod y_M_fresh) ∈ w_all := List.mem_append_right _ (List.mem_append_right _ (List.mem_append_right _ (List.mem_append_left _ (List.mem_of_getElem? (i := 11) rfl))))
set_option maxRecDepth 20000 in
theorem wm_132 : (Cond.selects R_M y_M_fresh y_M_fresh) ∈ w_all := List.mem_append_right _ (List.mem_append_right _ (List.mem_append_right _ (List.mem_append_left _ (List.mem_of_getElem? (i := 12) rfl))))
set_option maxRecDepth 20000 in
theorem wm_133 : (Cond.code y_M_like b_M_like 2 none) ∈ w_all := List.mem_append_right _ (List.mem_append_right _ (List.mem_append_right _ (List.mem_append_left _ (List.mem_of_getElem? (i := 13) rfl))))
set_option maxRecDepth 20000 in
theorem wm_134 : (Cond.methodLink R_M 115 y_M_like) ∈ w_all := List.mem_append_right _ (List.mem_append_right _ (List.mem_append_right _ (List.mem_append_left _ (List.mem_of_getElem? (i := 14) rfl))))
set_option maxRecDepth 20000 in
theorem wm_135 : (Cond.instanceMethod y_M_like) ∈ w_all := List.mem_append_right _ (List.mem_append_right _ (List.mem_append_right _ (List.mem_append_left _ (List.mem_of_getElem? (i := 15) rfl))))
set_option maxRecDepth 20000 in
theorem wm_136 : (Cond.selects R_M y_M_like y_M_like) ∈ w_all := List.mem_append_right _ (List.mem_append_right _ (List.mem_append_right _ (List.mem_append_left _ (List.mem_of_getElem? (i := 16) rfl))))
set_option maxRecDepth 20000 in
theorem wm_137 : (Cond.code y_M_put b_M_put 3 (some .boolean)) ∈ w_all := List.mem_append_right _ (List.mem_append_right _ (List.mem_append_right _ (List.mem_append_left _ (List.mem_of_getElem? (i := 17) rfl))))
set_option maxRecDepth 20000 in
theorem wm_138 : (Cond.methodLink R_M 119 y_M_put) ∈ w_all := List.mem_append_right _ (List.mem_append_right _ (List.mem_append_right _ (List.mem_append_left _ (List.mem_of_getElem? (i := 18) rfl))))
set_option maxRecDepth 20000 in
theorem wm_139 : (Cond.instanceMethod y_M_put) ∈ w_all := List.mem_append_right _ (List.mem_append_right _ (List.mem_append_right _ (List.mem_append_left _ (List.mem_of_getElem? (i := 19) rfl))))
set_option maxRecDepth 20000 in
theorem wm_140 : (Cond.selects R_M y_M_put y_M_put) ∈ w_all := List.mem_append_right _ (List.mem_append_right _ (List.mem_append_right _ (List.mem_append_left _ (List.mem_of_getElem? (i := 20) rfl))))
set_option maxRecDepth 20000 in
theorem wm_141 : (Cond.code y_M_free b_M_free 3 (some .int)) ∈ w_all := List.mem_append_right _ (List.mem_append_right _ (List.mem_append_right _ (List.mem_append_left _ (List.mem_of_getElem? (i := 21) rfl))))
set_option maxRecDepth 20000 in
theorem wm_142 : (Cond.methodLink R_M 122 y_M_free) ∈ w_all := List.mem_append_right _ (List.mem_append_right _ (List.mem_append_right _ (List.mem_append_left _ (List.mem_of_getElem? (i := 22) rfl))))
set_option maxRecDepth 20000 in
theorem wm_143 : (Cond.instanceMethod y_M_free) ∈ w_all := List.mem_append_right _ (List.mem_append_right _ (List.mem_append_right _ (List.mem_append_left _ (List.mem_of_getElem? (i := 23) rfl))))
set_option maxRecDepth 20000 in
theorem wm_144 : (Cond.selects R_M y_M_free y_M_free) ∈ w_all := List.mem_append_right _ (List.mem_append_right _ (List.mem_append_right _ (List.mem_append_left _ (List.mem_of_getElem? (i := 24) rfl))))
set_option maxRecDepth 20000 in
theorem wm_145 : (Cond.code y_M_lives b_M_lives 4 (some .int)) ∈ w_all := List.mem_append_right _ (List.mem_append_right _ (List.mem_append_right _ (List.mem_append_left _ (List.mem_of_getElem? (i := 25) rfl))))
set_option maxRecDepth 20000 in
theorem wm_146 : (Cond.methodLink R_M 125 y_M_lives) ∈ w_all := List.mem_append_right _ (List.mem_append_right _ (List.mem_append_right _ (List.mem_append_left _ (List.mem_of_getElem? (i := 26) rfl))))
set_option maxRecDepth 20000 in
theorem wm_147 : (Cond.instanceMethod y_M_lives) ∈ w_all := List.mem_append_right _ (List.mem_append_right _ (List.mem_append_right _ (List.mem_append_left _ (List.mem_of_getElem? (i := 27) rfl))))
set_option maxRecDepth 20000 in
theorem wm_148 : (Cond.selects R_M y_M_lives y_M_lives) ∈ w_all := List.mem_append_right _ (List.mem_append_right _ (List.mem_append_right _ (List.mem_append_left _ (List.mem_of_getElem? (i := 28) rfl))))
set_option maxRecDepth 20000 in
theorem wm_149 : (Cond.code y_M_poorest b_M_poorest 6 (some .int)) ∈ w_all := List.mem_append_right _ (List.mem_append_right _ (List.mem_append_right _ (List.mem_append_left _ (List.mem_of_getElem? (i := 29) rfl))))
set_option maxRecDepth 20000 in
theorem wm_150 : (Cond.methodLink R_M 128 y_M_poorest) ∈ w_all := List.mem_append_right _ (List.mem_append_right _ (List.mem_append_right _ (List.mem_append_left _ (List.mem_of_getElem? (i := 30) rfl))))
set_option maxRecDepth 20000 in
theorem wm_151 : (Cond.instanceMethod y_M_poorest) ∈ w_all := List.mem_append_right _ (List.mem_append_right _ (List.mem_append_right _ (List.mem_append_left _ (List.mem_of_getElem? (i := 31) rfl))))
set_option maxRecDepth 20000 in
theorem wm_152 : (Cond.selects R_M y_M_poorest y_M_poorest) ∈ w_all := List.mem_append_right _ (List.mem_append_right _ (List.mem_append_right _ (List.mem_append_left _ (List.mem_of_getElem? (i := 32) rfl))))
set_option maxRecDepth 20000 in
theorem wm_153 : (Cond.code y_M_collect b_M_collect 3 (some .boolean)) ∈ w_all := List.mem_append_right _ (List.mem_append_right _ (List.mem_append_right _ (List.mem_append_left _ (List.mem_of_getElem? (i := 33) rfl))))
set_option maxRecDepth 20000 in
theorem wm_154 : (Cond.methodLink R_M 131 y_M_collect) ∈ w_all := List.mem_append_right _ (List.mem_append_right _ (List.mem_append_right _ (List.mem_append_left _ (List.mem_of_getElem? (i := 34) rfl))))
set_option maxRecDepth 20000 in
theorem wm_155 : (Cond.instanceMethod y_M_collect) ∈ w_all := List.mem_append_right _ (List.mem_append_right _ (List.mem_append_right _ (List.mem_append_left _ (List.mem_of_getElem? (i := 35) rfl))))
set_option maxRecDepth 20000 in
theorem wm_156 : (Cond.selects R_M y_M_collect y_M_collect) ∈ w_all := List.mem_append_right _ (List.mem_append_right _ (List.mem_append_right _ (List.mem_append_left _ (List.mem_of_getElem? (i := 36) rfl))))
set_option maxRecDepth 20000 in
theorem wm_157 : (Cond.code y_M_header b_M_header 2 (some .int)) ∈ w_all := List.mem_append_right _ (List.mem_append_right _ (List.mem_append_right _ (List.mem_append_left _ (List.mem_of_getElem? (i := 37) rfl))))
set_option maxRecDepth 20000 in
theorem wm_158 : (Cond.methodLink R_M 134 y_M_header) ∈ w_all := List.mem_append_right _ (List.mem_append_right _ (List.mem_append_right _ (List.mem_append_left _ (List.mem_of_getElem? (i := 38) rfl))))
set_option maxRecDepth 20000 in
theorem wm_159 : (Cond.instanceMethod y_M_header) ∈ w_all := List.mem_append_right _ (List.mem_append_right _ (List.mem_append_right _ (List.mem_append_left _ (List.mem_of_getElem? (i := 39) rfl))))
set_option maxRecDepth 20000 in
theorem wm_160 : (Cond.selects R_M y_M_header y_M_header) ∈ w_all := List.mem_append_right _ (List.mem_append_right _ (List.mem_append_right _ (List.mem_append_right _ (List.mem_append_left _ (List.mem_of_getElem? (i := 0) rfl)))))
set_option maxRecDepth 20000 in
theorem wm_161 : (Cond.code y_M_there b_M_there 2 (some .boolean)) ∈ w_all := List.mem_append_right _ (List.mem_append_right _ (List.mem_append_right _ (List.mem_append_right _ (List.mem_append_left _ (List.mem_of_getElem? (i := 1) rfl)))))
set_option maxRecDepth 20000 in
theorem wm_162 : (Cond.methodLink R_M 137 y_M_there) ∈ w_all := List.mem_append_right _ (List.mem_append_right _ (List.mem_append_right _ (List.mem_append_right _ (List.mem_append_left _ (List.mem_of_getElem? (i := 2) rfl)))))
set_option maxRecDepth 20000 in
theorem wm_163 : (Cond.instanceMethod y_M_there) ∈ w_all := List.mem_append_right _ (List.mem_append_right _ (List.mem_append_right _ (List.mem_append_right _ (List.mem_append_left _ (List.mem_of_getElem? (i := 3) rfl)))))
set_option maxRecDepth 20000 in
theorem wm_164 : (Cond.selects R_M y_M_there y_M_there) ∈ w_all := List.mem_append_right _ (List.mem_append_right _ (List.mem_append_right _ (List.mem_append_right _ (List.mem_append_left _ (List.mem_of_getElem? (i := 4) rfl)))))
set_option maxRecDepth 20000 in
theorem wm_165 : (Cond.code y_M_directory b_M_directory 3 (some .boolean)) ∈ w_all := List.mem_append_right _ (List.mem_append_right _ (List.mem_append_right _ (List.mem_append_right _ (List.mem_append_left _ (List.mem_of_getElem? (i := 5) rfl)))))
set_option maxRecDepth 20000 in
theorem wm_166 : (Cond.methodLink R_M 140 y_M_directory) ∈ w_all := List.mem_append_right _ (List.mem_append_right _ (List.mem_append_right _ (List.mem_append_right _ (List.mem_append_left _ (List.mem_of_getElem? (i := 6) rfl)))))
set_option maxRecDepth 20000 in
theorem wm_167 : (Cond.instanceMethod y_M_directory) ∈ w_all := List.mem_append_right _ (List.mem_append_right _ (List.mem_append_right _ (List.mem_append_right _ (List.mem_append_left _ (List.mem_of_getElem? (i := 7) rfl)))))
set_option maxRecDepth 20000 in
theorem wm_168 : (Cond.selects R_M y_M_directory y_M_directory) ∈ w_all := List.mem_append_right _ (List.mem_append_right _ (List.mem_append_right _ (List.mem_append_right _ (List.mem_append_left _ (List.mem_of_getElem? (i := 8) rfl)))))
set_option maxRecDepth 20000 in
theorem wm_169 : (Cond.code y_M_named b_M_named 6 (some .int)) ∈ w_all := List.mem_append_right _ (List.mem_append_right _ (List.mem_append_right _ (List.mem_append_right _ (List.mem_append_left _ (List.mem_of_getElem? (i := 9) rfl)))))
set_option maxRecDepth 20000 in
theorem wm_170 : (Cond.methodLink R_M 143 y_M_named) ∈ w_all := List.mem_append_right _ (List.mem_append_right _ (List.mem_append_right _ (List.mem_append_right _ (List.mem_append_left _ (List.mem_of_getElem? (i := 10) rfl)))))
set_option maxRecDepth 20000 in
theorem wm_171 : (Cond.instanceMethod y_M_named) ∈ w_all := List.mem_append_right _ (List.mem_append_right _ (List.mem_append_right _ (List.mem_append_right _ (List.mem_append_left _ (List.mem_of_getElem? (i := 11) rfl)))))
set_option maxRecDepth 20000 in
theorem wm_172 : (Cond.selects R_M y_M_named y_M_named) ∈ w_all := List.mem_append_right _ (List.mem_append_right _ (List.mem_append_right _ (List.mem_append_right _ (List.mem_append_left _ (List.mem_of_getElem? (i := 12) rfl)))))
set_option maxRecDepth 20000 in
theorem wm_173 : (Cond.code y_M_room b_M_room 4 (some .int)) ∈ w_all := List.mem_append_right _ (List.mem_append_right _ (List.mem_append_right _ (List.mem_append_right _ (List.mem_append_left _ (List.mem_of_getElem? (i := 13) rfl)))))
set_option maxRecDepth 20000 in
theorem wm_174 : (Cond.methodLink R_M 147 y_M_room) ∈ w_all := List.mem_append_right _ (List.mem_append_right _ (List.mem_append_right _ (List.mem_append_right _ (List.mem_append_left _ (List.mem_of_getElem? (i := 14) rfl)))))
set_option maxRecDepth 20000 in
theorem wm_175 : (Cond.instanceMethod y_M_room) ∈ w_all := List.mem_append_right _ (List.mem_append_right _ (List.mem_append_right _ (List.mem_append_right _ (List.mem_append_left _ (List.mem_of_getElem? (i := 15) rfl)))))
set_option maxRecDepth 20000 in
theorem wm_176 : (Cond.selects R_M y_M_room y_M_room) ∈ w_all := List.mem_append_right _ (List.mem_append_right _ (List.mem_append_right _ (List.mem_append_right _ (List.mem_append_left _ (List.mem_of_getElem? (i := 16) rfl)))))
set_option maxRecDepth 20000 in
theorem wm_177 : (Cond.code y_M_drop b_M_drop 5 (some .boolean)) ∈ w_all := List.mem_append_right _ (List.mem_append_right _ (List.mem_append_right _ (List.mem_append_right _ (List.mem_append_left _ (List.mem_of_getElem? (i := 17) rfl)))))
set_option maxRecDepth 20000 in
theorem wm_178 : (Cond.methodLink R_M 160 y_M_drop) ∈ w_all := List.mem_append_right _ (List.mem_append_right _ (List.mem_append_right _ (List.mem_append_right _ (List.mem_append_left _ (List.mem_of_getElem? (i := 18) rfl)))))
set_option maxRecDepth 20000 in
theorem wm_179 : (Cond.instanceMethod y_M_drop) ∈ w_all := List.mem_append_right _ (List.mem_append_right _ (List.mem_append_right _ (List.mem_append_right _ (List.mem_append_left _ (List.mem_of_getElem? (i := 19) rfl)))))
set_option maxRecDepth 20000 in
theorem wm_180 : (Cond.selects R_M y_M_drop y_M_drop) ∈ w_all := List.mem_append_right _ (List.mem_append_right _ (List.mem_append_right _ (List.mem_append_right _ (List.mem_append_left _ (List.mem_of_getElem? (i := 20) rfl)))))
set_option maxRecDepth 20000 in
theorem wm_181 : (Cond.code y_M_lies b_M_lies 6 (some .boolean)) ∈ w_all := List.mem_append_right _ (List.mem_append_right _ (List.mem_append_right _ (List.mem_append_right _ (List.mem_append_left _ (List.mem_of_getElem? (i := 21) rfl)))))
set_option maxRecDepth 20000 in
theorem wm_182 : (Cond.methodLink R_M 164 y_M_lies) ∈ w_all := List.mem_append_right _ (List.mem_append_right _ (List.mem_append_right _ (List.mem_append_right _ (List.mem_append_left _ (List.mem_of_getElem? (i := 22) rfl)))))
set_option maxRecDepth 20000 in
theorem wm_183 : (Cond.instanceMethod y_M_lies) ∈ w_all := List.mem_append_right _ (List.mem_append_right _ (List.mem_append_right _ (List.mem_append_right _ (List.mem_append_left _ (List.mem_of_getElem? (i := 23) rfl)))))
set_option maxRecDepth 20000 in
theorem wm_184 : (Cond.selects R_M y_M_lies y_M_lies) ∈ w_all := List.mem_append_right _ (List.mem_append_right _ (List.mem_append_right _ (List.mem_append_right _ (List.mem_append_left _ (List.mem_of_getElem? (i := 24) rfl)))))
set_option maxRecDepth 20000 in
theorem wm_185 : (Cond.code y_M_inside b_M_inside 5 (some .int)) ∈ w_all := List.mem_append_right _ (List.mem_append_right _ (List.mem_append_right _ (List.mem_append_right _ (List.mem_append_left _ (List.mem_of_getElem? (i := 25) rfl)))))
set_option maxRecDepth 20000 in
theorem wm_186 : (Cond.methodLink R_M 167 y_M_inside) ∈ w_all := List.mem_append_right _ (List.mem_append_right _ (List.mem_append_right _ (List.mem_append_right _ (List.mem_append_left _ (List.mem_of_getElem? (i := 26) rfl)))))
set_option maxRecDepth 20000 in
theorem wm_187 : (Cond.instanceMethod y_M_inside) ∈ w_all := List.mem_append_right _ (List.mem_append_right _ (List.mem_append_right _ (List.mem_append_right _ (List.mem_append_left _ (List.mem_of_getElem? (i := 27) rfl)))))
set_option maxRecDepth 20000 in
theorem wm_188 : (Cond.selects R_M y_M_inside y_M_inside) ∈ w_all := List.mem_append_right _ (List.mem_append_right _ (List.mem_append_right _ (List.mem_append_right _ (List.mem_append_left _ (List.mem_of_getElem? (i := 28) rfl)))))
set_option maxRecDepth 20000 in
theorem wm_189 : (Cond.code y_M_followed b_M_followed 3 (some .boolean)) ∈ w_all := List.mem_append_right _ (List.mem_append_right _ (List.mem_append_right _ (List.mem_append_right _ (List.mem_append_left _ (List.mem_of_getElem? (i := 29) rfl)))))
set_option maxRecDepth 20000 in
theorem wm_190 : (Cond.methodLink R_M 173 y_M_followed) ∈ w_all := List.mem_append_right _ (List.mem_append_right _ (List.mem_append_right _ (List.mem_append_right _ (List.mem_append_left _ (List.mem_of_getElem? (i := 30) rfl)))))
set_option maxRecDepth 20000 in
theorem wm_191 : (Cond.instanceMethod y_M_followed) ∈ w_all := List.mem_append_right _ (List.mem_append_right _ (List.mem_append_right _ (List.mem_append_right _ (List.mem_append_left _ (List.mem_of_getElem? (i := 31) rfl)))))
set_option maxRecDepth 20000 in
theorem wm_192 : (Cond.selects R_M y_M_followed y_M_followed) ∈ w_all := List.mem_append_right _ (List.mem_append_right _ (List.mem_append_right _ (List.mem_append_right _ (List.mem_append_left _ (List.mem_of_getElem? (i := 32) rfl)))))
set_option maxRecDepth 20000 in
theorem wm_193 : (Cond.code y_M_sizeOf b_M_sizeOf 4 (some .int)) ∈ w_all := List.mem_append_right _ (List.mem_append_right _ (List.mem_append_right _ (List.mem_append_right _ (List.mem_append_left _ (List.mem_of_getElem? (i := 33) rfl)))))
set_option maxRecDepth 20000 in
theorem wm_194 : (Cond.methodLink R_M 176 y_M_sizeOf) ∈ w_all := List.mem_append_right _ (List.mem_append_right _ (List.mem_append_right _ (List.mem_append_right _ (List.mem_append_left _ (List.mem_of_getElem? (i := 34) rfl)))))
set_option maxRecDepth 20000 in
theorem wm_195 : (Cond.instanceMethod y_M_sizeOf) ∈ w_all := List.mem_append_right _ (List.mem_append_right _ (List.mem_append_right _ (List.mem_append_right _ (List.mem_append_left _ (List.mem_of_getElem? (i := 35) rfl)))))
set_option maxRecDepth 20000 in
theorem wm_196 : (Cond.selects R_M y_M_sizeOf y_M_sizeOf) ∈ w_all := List.mem_append_right _ (List.mem_append_right _ (List.mem_append_right _ (List.mem_append_right _ (List.mem_append_left _ (List.mem_of_getElem? (i := 36) rfl)))))
set_option maxRecDepth 20000 in
theorem wm_197 : (Cond.code y_M_outside b_M_outside 2 (some .boolean)) ∈ w_all := List.mem_append_right _ (List.mem_append_right _ (List.mem_append_right _ (List.mem_append_right _ (List.mem_append_left _ (List.mem_of_getElem? (i := 37) rfl)))))
set_option maxRecDepth 20000 in
theorem wm_198 : (Cond.methodLink R_M 179 y_M_outside) ∈ w_all := List.mem_append_right _ (List.mem_append_right _ (List.mem_append_right _ (List.mem_append_right _ (List.mem_append_left _ (List.mem_of_getElem? (i := 38) rfl)))))
set_option maxRecDepth 20000 in
theorem wm_199 : (Cond.static y_M_outside) ∈ w_all := List.mem_append_right _ (List.mem_append_right _ (List.mem_append_right _ (List.mem_append_right _ (List.mem_append_left _ (List.mem_of_getElem? (i := 39) rfl)))))
set_option maxRecDepth 20000 in
theorem wm_200 : (Cond.code y_S_refusalOfDirectory b_S_refusalOfDirectory 2 (some .int)) ∈ w_all := List.mem_append_right _ (List.mem_append_right _ (List.mem_append_right _ (List.mem_append_right _ (List.mem_append_right _ (List.mem_append_left _ (List.mem_of_getElem? (i := 0) rfl))))))
set_option maxRecDepth 20000 in
theorem wm_201 : (Cond.methodLink R_S 24 y_S_refusalOfDirectory) ∈ w_all := List.mem_append_right _ (List.mem_append_right _ (List.mem_append_right _ (List.mem_append_right _ (List.mem_append_right _ (List.mem_append_left _ (List.mem_of_getElem? (i := 1) rfl))))))
set_option maxRecDepth 20000 in
theorem wm_202 : (Cond.instanceMethod y_S_refusalOfDirectory) ∈ w_all := List.mem_append_right _ (List.mem_append_right _ (List.mem_append_right _ (List.mem_append_right _ (List.mem_append_right _ (List.mem_append_left _ (List.mem_of_getElem? (i := 2) rfl))))))
set_option maxRecDepth 20000 in
theorem wm_203 : (Cond.selects R_S y_S_refusalOfDirectory y_S_refusalOfDirectory) ∈ w_all := List.mem_append_right _ (List.mem_append_right _ (List.mem_append_right _ (List.mem_append_right _ (List.mem_append_right _ (List.mem_append_left _ (List.mem_of_getElem? (i := 3) rfl))))))
set_option maxRecDepth 20000 in
theorem wm_204 : (Cond.initialized R_S) ∈ w_all := List.mem_append_right _ (List.mem_append_right _ (List.mem_append_right _ (List.mem_append_right _ (List.mem_append_right _ (List.mem_append_left _ (List.mem_of_getElem? (i := 4) rfl))))))
set_option maxRecDepth 20000 in
theorem wm_205 : (Cond.code y_S_objectNamed b_S_objectNamed 4 (some .int)) ∈ w_all := List.mem_append_right _ (List.mem_append_right _ (List.mem_append_right _ (List.mem_append_right _ (List.mem_append_right _ (List.mem_append_left _ (List.mem_of_getElem? (i := 5) rfl))))))
set_option maxRecDepth 20000 in
theorem wm_206 : (Cond.methodLink R_S 28 y_S_objectNamed) ∈ w_all := List.mem_append_right _ (List.mem_append_right _ (List.mem_append_right _ (List.mem_append_right _ (List.mem_append_right _ (List.mem_append_left _ (List.mem_of_getElem? (i := 6) rfl))))))
set_option maxRecDepth 20000 in
theorem wm_207 : (Cond.instanceMethod y_S_objectNamed) ∈ w_all := List.mem_append_right _ (List.mem_append_right _ (List.mem_append_right _ (List.mem_append_right _ (List.mem_append_right _ (List.mem_append_left _ (List.mem_of_getElem? (i := 7) rfl))))))
set_option maxRecDepth 20000 in
theorem wm_208 : (Cond.selects R_S y_S_objectNamed y_S_objectNamed) ∈ w_all := List.mem_append_right _ (List.mem_append_right _ (List.mem_append_right _ (List.mem_append_right _ (List.mem_append_right _ (List.mem_append_left _ (List.mem_of_getElem? (i := 8) rfl))))))
set_option maxRecDepth 20000 in
theorem wm_209 : (Cond.code y_S_lowestAbsentObject b_S_lowestAbsentObject 2 (some .int)) ∈ w_all := List.mem_append_right _ (List.mem_append_right _ (List.mem_append_right _ (List.mem_append_right _ (List.mem_append_right _ (List.mem_append_left _ (List.mem_of_getElem? (i := 9) rfl))))))
set_option maxRecDepth 20000 in
theorem wm_210 : (Cond.methodLink R_S 32 y_S_lowestAbsentObject) ∈ w_all := List.mem_append_right _ (List.mem_append_right _ (List.mem_append_right _ (List.mem_append_right _ (List.mem_append_right _ (List.mem_append_left _ (List.mem_of_getElem? (i := 10) rfl))))))
set_option maxRecDepth 20000 in
theorem wm_211 : (Cond.instanceMethod y_S_lowestAbsentObject) ∈ w_all := List.mem_append_right _ (List.mem_append_right _ (List.mem_append_right _ (List.mem_append_right _ (List.mem_append_right _ (List.mem_append_left _ (List.mem_of_getElem? (i := 11) rfl))))))
set_option maxRecDepth 20000 in
theorem wm_212 : (Cond.selects R_S y_S_lowestAbsentObject y_S_lowestAbsentObject) ∈ w_all := List.mem_append_right _ (List.mem_append_right _ (List.mem_append_right _ (List.mem_append_right _ (List.mem_append_right _ (List.mem_append_left _ (List.mem_of_getElem? (i := 12) rfl))))))
set_option maxRecDepth 20000 in
theorem wm_213 : (Cond.code y_S_makeRoom b_S_makeRoom 5 (some .int)) ∈ w_all := List.mem_append_right _ (List.mem_append_right _ (List.mem_append_right _ (List.mem_append_right _ (List.mem_append_right _ (List.mem_append_left _ (List.mem_of_getElem? (i := 13) rfl))))))
set_option maxRecDepth 20000 in
theorem wm_214 : (Cond.methodLink R_S 36 y_S_makeRoom) ∈ w_all := List.mem_append_right _ (List.mem_append_right _ (List.mem_append_right _ (List.mem_append_right _ (List.mem_append_right _ (List.mem_append_left _ (List.mem_of_getElem? (i := 14) rfl))))))
set_option maxRecDepth 20000 in
theorem wm_215 : (Cond.instanceMethod y_S_makeRoom) ∈ w_all := List.mem_append_right _ (List.mem_append_right _ (List.mem_append_right _ (List.mem_append_right _ (List.mem_append_right _ (List.mem_append_left _ (List.mem_of_getElem? (i := 15) rfl))))))
set_option maxRecDepth 20000 in
theorem wm_216 : (Cond.selects R_S y_S_makeRoom y_S_makeRoom) ∈ w_all := List.mem_append_right _ (List.mem_append_right _ (List.mem_append_right _ (List.mem_append_right _ (List.mem_append_right _ (List.mem_append_left _ (List.mem_of_getElem? (i := 16) rfl))))))
set_option maxRecDepth 20000 in
theorem wm_217 : (Cond.code y_T_ofHeader b_T_ofHeader 3 (some .int)) ∈ w_all := List.mem_append_right _ (List.mem_append_right _ (List.mem_append_right _ (List.mem_append_right _ (List.mem_append_right _ (List.mem_append_left _ (List.mem_of_getElem? (i := 17) rfl))))))
set_option maxRecDepth 20000 in
theorem wm_218 : (Cond.methodLink R_S 39 y_T_ofHeader) ∈ w_all := List.mem_append_right _ (List.mem_append_right _ (List.mem_append_right _ (List.mem_append_right _ (List.mem_append_right _ (List.mem_append_left _ (List.mem_of_getElem? (i := 18) rfl))))))
set_option maxRecDepth 20000 in
theorem wm_219 : (Cond.static y_T_ofHeader) ∈ w_all := List.mem_append_right _ (List.mem_append_right _ (List.mem_append_right _ (List.mem_append_right _ (List.mem_append_right _ (List.mem_append_left _ (List.mem_of_getElem? (i := 19) rfl))))))
set_option maxRecDepth 20000 in
theorem wm_220 : (Cond.code y_S_put b_S_put 7 (some .boolean)) ∈ w_all := List.mem_append_right _ (List.mem_append_right _ (List.mem_append_right _ (List.mem_append_right _ (List.mem_append_right _ (List.mem_append_left _ (List.mem_of_getElem? (i := 20) rfl))))))
set_option maxRecDepth 20000 in
theorem wm_221 : (Cond.methodLink R_S 45 y_S_put) ∈ w_all := List.mem_append_right _ (List.mem_append_right _ (List.mem_append_right _ (List.mem_append_right _ (List.mem_append_right _ (List.mem_append_left _ (List.mem_of_getElem? (i := 21) rfl))))))
set_option maxRecDepth 20000 in
theorem wm_222 : (Cond.instanceMethod y_S_put) ∈ w_all := List.mem_append_right _ (List.mem_append_right _ (List.mem_append_right _ (List.mem_append_right _ (List.mem_append_right _ (List.mem_append_left _ (List.mem_of_getElem? (i := 22) rfl))))))
set_option maxRecDepth 20000 in
theorem wm_223 : (Cond.selects R_S y_S_put y_S_put) ∈ w_all := List.mem_append_right _ (List.mem_append_right _ (List.mem_append_right _ (List.mem_append_right _ (List.mem_append_right _ (List.mem_append_left _ (List.mem_of_getElem? (i := 23) rfl))))))
set_option maxRecDepth 20000 in
theorem wm_224 : (Cond.code y_S_switchOff b_S_switchOff 1 (some .int)) ∈ w_all := List.mem_append_right _ (List.mem_append_right _ (List.mem_append_right _ (List.mem_append_right _ (List.mem_append_right _ (List.mem_append_left _ (List.mem_of_getElem? (i := 24) rfl))))))
set_option maxRecDepth 20000 in
theorem wm_225 : (Cond.methodLink R_S 49 y_S_switchOff) ∈ w_all := List.mem_append_right _ (List.mem_append_right _ (List.mem_append_right _ (List.mem_append_right _ (List.mem_append_right _ (List.mem_append_left _ (List.mem_of_getElem? (i := 25) rfl))))))
set_option maxRecDepth 20000 in
theorem wm_226 : (Cond.instanceMethod y_S_switchOff) ∈ w_all := List.mem_append_right _ (List.mem_append_right _ (List.mem_append_right _ (List.mem_append_right _ (List.mem_append_right _ (List.mem_append_left _ (List.mem_of_getElem? (i := 26) rfl))))))
set_option maxRecDepth 20000 in
theorem wm_227 : (Cond.selects R_S y_S_switchOff y_S_switchOff) ∈ w_all := List.mem_append_right _ (List.mem_append_right _ (List.mem_append_right _ (List.mem_append_right _ (List.mem_append_right _ (List.mem_append_left _ (List.mem_of_getElem? (i := 27) rfl))))))
set_option maxRecDepth 20000 in
theorem wm_228 : (Cond.code y_S_refusalOfFile b_S_refusalOfFile 3 (some .int)) ∈ w_all := List.mem_append_right _ (List.mem_append_right _ (List.mem_append_right _ (List.mem_append_right _ (List.mem_append_right _ (List.mem_append_left _ (List.mem_of_getElem? (i := 28) rfl))))))
set_option maxRecDepth 20000 in
theorem wm_229 : (Cond.methodLink R_S 52 y_S_refusalOfFile) ∈ w_all := List.mem_append_right _ (List.mem_append_right _ (List.mem_append_right _ (List.mem_append_right _ (List.mem_append_right _ (List.mem_append_left _ (List.mem_of_getElem? (i := 29) rfl))))))
set_option maxRecDepth 20000 in
theorem wm_230 : (Cond.instanceMethod y_S_refusalOfFile) ∈ w_all := List.mem_append_right _ (List.mem_append_right _ (List.mem_append_right _ (List.mem_append_right _ (List.mem_append_right _ (List.mem_append_left _ (List.mem_of_getElem? (i := 30) rfl))))))
set_option maxRecDepth 20000 in
theorem wm_231 : (Cond.selects R_S y_S_refusalOfFile y_S_refusalOfFile) ∈ w_all := List.mem_append_right _ (List.mem_append_right _ (List.mem_append_right _ (List.mem_append_right _ (List.mem_append_right _ (List.mem_append_left _ (List.mem_of_getElem? (i := 31) rfl))))))
set_option maxRecDepth 20000 in
theorem wm_232 : (Cond.code y_S_headerTags b_S_headerTags 3 (some .int)) ∈ w_all := List.mem_append_right _ (List.mem_append_right _ (List.mem_append_right _ (List.mem_append_right _ (List.mem_append_right _ (List.mem_append_left _ (List.mem_of_getElem? (i := 32) rfl))))))
set_option maxRecDepth 20000 in
theorem wm_233 : (Cond.methodLink R_S 55 y_S_headerTags) ∈ w_all := List.mem_append_right _ (List.mem_append_right _ (List.mem_append_right _ (List.mem_append_right _ (List.mem_append_right _ (List.mem_append_left _ (List.mem_of_getElem? (i := 33) rfl))))))
set_option maxRecDepth 20000 in
theorem wm_234 : (Cond.instanceMethod y_S_headerTags) ∈ w_all := List.mem_append_right _ (List.mem_append_right _ (List.mem_append_right _ (List.mem_append_right _ (List.mem_append_right _ (List.mem_append_left _ (List.mem_of_getElem? (i := 34) rfl))))))
set_option maxRecDepth 20000 in
theorem wm_235 : (Cond.selects R_S y_S_headerTags y_S_headerTags) ∈ w_all := List.mem_append_right _ (List.mem_append_right _ (List.mem_append_right _ (List.mem_append_right _ (List.mem_append_right _ (List.mem_append_left _ (List.mem_of_getElem? (i := 35) rfl))))))
set_option maxRecDepth 20000 in
theorem wm_236 : (Cond.code y_T_length b_T_length 1 (some .int)) ∈ w_all := List.mem_append_right _ (List.mem_append_right _ (List.mem_append_right _ (List.mem_append_right _ (List.mem_append_right _ (List.mem_append_left _ (List.mem_of_getElem? (i := 36) rfl))))))
set_option maxRecDepth 20000 in
theorem wm_237 : (Cond.methodLink R_S 58 y_T_length) ∈ w_all := List.mem_append_right _ (List.mem_append_right _ (List.mem_append_right _ (List.mem_append_right _ (List.mem_append_right _ (List.mem_append_left _ (List.mem_of_getElem? (i := 37) rfl))))))
set_option maxRecDepth 20000 in
theorem wm_238 : (Cond.static y_T_length) ∈ w_all := List.mem_append_right _ (List.mem_append_right _ (List.mem_append_right _ (List.mem_append_right _ (List.mem_append_right _ (List.mem_append_left _ (List.mem_of_getElem? (i := 38) rfl))))))
set_option maxRecDepth 20000 in
theorem wm_239 : (Cond.code y_C_livePage b_C_livePage 4 (some .int)) ∈ w_all := List.mem_append_right _ (List.mem_append_right _ (List.mem_append_right _ (List.mem_append_right _ (List.mem_append_right _ (List.mem_append_left _ (List.mem_of_getElem? (i := 39) rfl))))))
set_option maxRecDepth 20000 in
theorem wm_240 : (Cond.methodLink R_S 61 y_C_livePage) ∈ w_all := List.mem_append_right _ (List.mem_append_right _ (List.mem_append_right _ (List.mem_append_right _ (List.mem_append_right _ (List.mem_append_right _ (List.mem_append_left _ (List.mem_of_getElem? (i := 0) rfl)))))))
set_option maxRecDepth 20000 in
theorem wm_241 : (Cond.instanceMethod y_C_livePage) ∈ w_all := List.mem_append_right _ (List.mem_append_right _ (List.mem_append_right _ (List.mem_append_right _ (List.mem_append_right _ (List.mem_append_right _ (List.mem_append_left _ (List.mem_of_getElem? (i := 1) rfl)))))))
set_option maxRecDepth 20000 in
theorem wm_242 : (Cond.selects R_C y_C_livePage y_C_livePage) ∈ w_all := List.mem_append_right _ (List.mem_append_right _ (List.mem_append_right _ (List.mem_append_right _ (List.mem_append_right _ (List.mem_append_right _ (List.mem_append_left _ (List.mem_of_getElem? (i := 2) rfl)))))))
set_option maxRecDepth 20000 in
theorem wm_243 : (Cond.code y_T_ofChunk b_T_ofChunk 2 (some .int)) ∈ w_all := List.mem_append_right _ (List.mem_append_right _ (List.mem_append_right _ (List.mem_append_right _ (List.mem_append_right _ (List.mem_append_right _ (List.mem_append_left _ (List.mem_of_getElem? (i := 3) rfl)))))))
set_option maxRecDepth 20000 in
theorem wm_244 : (Cond.methodLink R_S 64 y_T_ofChunk) ∈ w_all := List.mem_append_right _ (List.mem_append_right _ (List.mem_append_right _ (List.mem_append_right _ (List.mem_append_right _ (List.mem_append_right _ (List.mem_append_left _ (List.mem_of_getElem? (i := 4) rfl)))))))
set_option maxRecDepth 20000 in
theorem wm_245 : (Cond.static y_T_ofChunk) ∈ w_all := List.mem_append_right _ (List.mem_append_right _ (List.mem_append_right _ (List.mem_append_right _ (List.mem_append_right _ (List.mem_append_right _ (List.mem_append_left _ (List.mem_of_getElem? (i := 5) rfl)))))))
set_option maxRecDepth 20000 in
theorem wm_246 : (Cond.code y_S_putLength b_S_putLength 4 (some .boolean)) ∈ w_all := List.mem_append_right _ (List.mem_append_right _ (List.mem_append_right _ (List.mem_append_right _ (List.mem_append_right _ (List.mem_append_right _ (List.mem_append_left _ (List.mem_of_getElem? (i := 6) rfl)))))))
set_option maxRecDepth 20000 in
theorem wm_247 : (Cond.methodLink R_S 67 y_S_putLength) ∈ w_all := List.mem_append_right _ (List.mem_append_right _ (List.mem_append_right _ (List.mem_append_right _ (List.mem_append_right _ (List.mem_append_right _ (List.mem_append_left _ (List.mem_of_getElem? (i := 7) rfl)))))))
set_option maxRecDepth 20000 in
theorem wm_248 : (Cond.instanceMethod y_S_putLength) ∈ w_all := List.mem_append_right _ (List.mem_append_right _ (List.mem_append_right _ (List.mem_append_right _ (List.mem_append_right _ (List.mem_append_right _ (List.mem_append_left _ (List.mem_of_getElem? (i := 8) rfl)))))))
set_option maxRecDepth 20000 in
theorem wm_249 : (Cond.selects R_S y_S_putLength y_S_putLength) ∈ w_all := List.mem_append_right _ (List.mem_append_right _ (List.mem_append_right _ (List.mem_append_right _ (List.mem_append_right _ (List.mem_append_right _ (List.mem_append_left _ (List.mem_of_getElem? (i := 9) rfl)))))))
set_option maxRecDepth 20000 in
theorem wm_250 : (Cond.code y_C_wordRead b_C_wordRead 2 (some .long)) ∈ w_all := List.mem_append_right _ (List.mem_append_right _ (List.mem_append_right _ (List.mem_append_right _ (List.mem_append_right _ (List.mem_append_right _ (List.mem_append_left _ (List.mem_of_getElem? (i := 10) rfl)))))))
set_option maxRecDepth 20000 in
theorem wm_251 : (Cond.methodLink R_S 75 y_C_wordRead) ∈ w_all := List.mem_append_right _ (List.mem_append_right _ (List.mem_append_right _ (List.mem_append_right _ (List.mem_append_right _ (List.mem_append_right _ (List.mem_append_left _ (List.mem_of_getElem? (i := 11) rfl)))))))
set_option maxRecDepth 20000 in
theorem wm_252 : (Cond.instanceMethod y_C_wordRead) ∈ w_all := List.mem_append_right _ (List.mem_append_right _ (List.mem_append_right _ (List.mem_append_right _ (List.mem_append_right _ (List.mem_append_right _ (List.mem_append_left _ (List.mem_of_getElem? (i := 12) rfl)))))))
set_option maxRecDepth 20000 in
theorem wm_253 : (Cond.selects R_C y_C_wordRead y_C_wordRead) ∈ w_all := List.mem_append_right _ (List.mem_append_right _ (List.mem_append_right _ (List.mem_append_right _ (List.mem_append_right _ (List.mem_append_right _ (List.mem_append_left _ (List.mem_of_getElem? (i := 13) rfl)))))))
set_option maxRecDepth 20000 in
theorem wm_254 : (Cond.code y_S_markChunks b_S_markChunks 5 (some .boolean)) ∈ w_all := List.mem_append_right _ (List.mem_append_right _ (List.mem_append_right _ (List.mem_append_right _ (List.mem_append_right _ (List.mem_append_right _ (List.mem_append_left _ (List.mem_of_getElem? (i := 14) rfl)))))))
set_option maxRecDepth 20000 in
theorem wm_255 : (Cond.methodLink R_S 79 y_S_markChunks) ∈ w_all := List.mem_append_right _ (List.mem_append_right _ (List.mem_append_right _ (List.mem_append_right _ (List.mem_append_right _ (List.mem_append_right _ (List.mem_append_left _ (List.mem_of_getElem? (i := 15) rfl)))))))
set_option maxRecDepth 20000 in
theorem wm_256 : (Cond.instanceMethod y_S_markChunks) ∈ w_all := List.mem_append_right _ (List.mem_append_right _ (List.mem_append_right _ (List.mem_append_right _ (List.mem_append_right _ (List.mem_append_right _ (List.mem_append_left _ (List.mem_of_getElem? (i := 16) rfl)))))))
set_option maxRecDepth 20000 in
theorem wm_257 : (Cond.selects R_S y_S_markChunks y_S_markChunks) ∈ w_all := List.mem_append_right _ (List.mem_append_right _ (List.mem_append_right _ (List.mem_append_right _ (List.mem_append_right _ (List.mem_append_right _ (List.mem_append_left _ (List.mem_of_getElem? (i := 17) rfl)))))))
set_option maxRecDepth 20000 in
theorem wm_258 : (Cond.code y_S_refusalOfObject b_S_refusalOfObject 2 (some .int)) ∈ w_all := List.mem_append_right _ (List.mem_append_right _ (List.mem_append_right _ (List.mem_append_right _ (List.mem_append_right _ (List.mem_append_right _ (List.mem_append_left _ (List.mem_of_getElem? (i := 18) rfl)))))))
set_option maxRecDepth 20000 in
theorem wm_259 : (Cond.methodLink R_S 82 y_S_refusalOfObject) ∈ w_all := List.mem_append_right _ (List.mem_append_right _ (List.mem_append_right _ (List.mem_append_right _ (List.mem_append_right _ (List.mem_append_right _ (List.mem_append_left _ (List.mem_of_getElem? (i := 19) rfl)))))))
set_option maxRecDepth 20000 in
theorem wm_260 : (Cond.instanceMethod y_S_refusalOfObject) ∈ w_all := List.mem_append_right _ (List.mem_append_right _ (List.mem_append_right _ (List.mem_append_right _ (List.mem_append_right _ (List.mem_append_right _ (List.mem_append_left _ (List.mem_of_getElem? (i := 20) rfl)))))))
set_option maxRecDepth 20000 in
theorem wm_261 : (Cond.selects R_S y_S_refusalOfObject y_S_refusalOfObject) ∈ w_all := List.mem_append_right _ (List.mem_append_right _ (List.mem_append_right _ (List.mem_append_right _ (List.mem_append_right _ (List.mem_append_right _ (List.mem_append_left _ (List.mem_of_getElem? (i := 21) rfl)))))))
set_option maxRecDepth 20000 in
theorem wm_262 : (Cond.code y_S_liesIn b_S_liesIn 5 (some .boolean)) ∈ w_all := List.mem_append_right _ (List.mem_append_right _ (List.mem_append_right _ (List.mem_append_right _ (List.mem_append_right _ (List.mem_append_right _ (List.mem_append_left _ (List.mem_of_getElem? (i := 22) rfl)))))))
set_option maxRecDepth 20000 in
theorem wm_263 : (Cond.methodLink R_S 85 y_S_liesIn) ∈ w_all := List.mem_append_right _ (List.mem_append_right _ (List.mem_append_right _ (List.mem_append_right _ (List.mem_append_right _ (List.mem_append_right _ (List.mem_append_left _ (List.mem_of_getElem? (i := 23) rfl)))))))
set_option maxRecDepth 20000 in
theorem wm_264 : (Cond.instanceMethod y_S_liesIn) ∈ w_all := List.mem_append_right _ (List.mem_append_right _ (List.mem_append_right _ (List.mem_append_right _ (List.mem_append_right _ (List.mem_append_right _ (List.mem_append_left _ (List.mem_of_getElem? (i := 24) rfl)))))))
set_option maxRecDepth 20000 in
theorem wm_265 : (Cond.selects R_S y_S_liesIn y_S_liesIn) ∈ w_all := List.mem_append_right _ (List.mem_append_right _ (List.mem_append_right _ (List.mem_append_right _ (List.mem_append_right _ (List.mem_append_right _ (List.mem_append_left _ (List.mem_of_getElem? (i := 25) rfl)))))))
set_option maxRecDepth 20000 in
theorem wm_266 : (Cond.code y_T_withParent b_T_withParent 2 (some .int)) ∈ w_all := List.mem_append_right _ (List.mem_append_right _ (List.mem_append_right _ (List.mem_append_right _ (List.mem_append_right _ (List.mem_append_right _ (List.mem_append_left _ (List.mem_of_getElem? (i := 26) rfl)))))))
set_option maxRecDepth 20000 in
theorem wm_267 : (Cond.methodLink R_S 88 y_T_withParent) ∈ w_all := List.mem_append_right _ (List.mem_append_right _ (List.mem_append_right _ (List.mem_append_right _ (List.mem_append_right _ (List.mem_append_right _ (List.mem_append_left _ (List.mem_of_getElem? (i := 27) rfl)))))))
set_option maxRecDepth 20000 in
theorem wm_268 : (Cond.static y_T_withParent) ∈ w_all := List.mem_append_right _ (List.mem_append_right _ (List.mem_append_right _ (List.mem_append_right _ (List.mem_append_right _ (List.mem_append_right _ (List.mem_append_left _ (List.mem_of_getElem? (i := 28) rfl)))))))
set_option maxRecDepth 20000 in
theorem wm_269 : (Cond.code y_S_objectsIn b_S_objectsIn 4 (some .int)) ∈ w_all := List.mem_append_right _ (List.mem_append_right _ (List.mem_append_right _ (List.mem_append_right _ (List.mem_append_right _ (List.mem_append_right _ (List.mem_append_left _ (List.mem_of_getElem? (i := 29) rfl)))))))
set_option maxRecDepth 20000 in
theorem wm_270 : (Cond.methodLink R_S 91 y_S_objectsIn) ∈ w_all := List.mem_append_right _ (List.mem_append_right _ (List.mem_append_right _ (List.mem_append_right _ (List.mem_append_right _ (List.mem_append_right _ (List.mem_append_left _ (List.mem_of_getElem? (i := 30) rfl)))))))
set_option maxRecDepth 20000 in
theorem wm_271 : (Cond.instanceMethod y_S_objectsIn) ∈ w_all := List.mem_append_right _ (List.mem_append_right _ (List.mem_append_right _ (List.mem_append_right _ (List.mem_append_right _ (List.mem_append_right _ (List.mem_append_left _ (List.mem_of_getElem? (i := 31) rfl)))))))
set_option maxRecDepth 20000 in
theorem wm_272 : (Cond.selects R_S y_S_objectsIn y_S_objectsIn) ∈ w_all := List.mem_append_right _ (List.mem_append_right _ (List.mem_append_right _ (List.mem_append_right _ (List.mem_append_right _ (List.mem_append_right _ (List.mem_append_left _ (List.mem_of_getElem? (i := 32) rfl)))))))
set_option maxRecDepth 20000 in
theorem wm_273 : (Cond.code y_S_isThere b_S_isThere 2 (some .boolean)) ∈ w_all := List.mem_append_right _ (List.mem_append_right _ (List.mem_append_right _ (List.mem_append_right _ (List.mem_append_right _ (List.mem_append_right _ (List.mem_append_left _ (List.mem_of_getElem? (i := 33) rfl)))))))
set_option maxRecDepth 20000 in
theorem wm_274 : (Cond.methodLink R_S 94 y_S_isThere) ∈ w_all := List.mem_append_right _ (List.mem_append_right _ (List.mem_append_right _ (List.mem_append_right _ (List.mem_append_right _ (List.mem_append_right _ (List.mem_append_left _ (List.mem_of_getElem? (i := 34) rfl)))))))
set_option maxRecDepth 20000 in
theorem wm_275 : (Cond.instanceMethod y_S_isThere) ∈ w_all := List.mem_append_right _ (List.mem_append_right _ (List.mem_append_right _ (List.mem_append_right _ (List.mem_append_right _ (List.mem_append_right _ (List.mem_append_left _ (List.mem_of_getElem? (i := 35) rfl)))))))
set_option maxRecDepth 20000 in
theorem wm_276 : (Cond.selects R_S y_S_isThere y_S_isThere) ∈ w_all := List.mem_append_right _ (List.mem_append_right _ (List.mem_append_right _ (List.mem_append_right _ (List.mem_append_right _ (List.mem_append_right _ (List.mem_append_left _ (List.mem_of_getElem? (i := 36) rfl)))))))
set_option maxRecDepth 20000 in
theorem wm_277 : (Cond.code y_S_isDirectory b_S_isDirectory 2 (some .boolean)) ∈ w_all := List.mem_append_right _ (List.mem_append_right _ (List.mem_append_right _ (List.mem_append_right _ (List.mem_append_right _ (List.mem_append_right _ (List.mem_append_left _ (List.mem_of_getElem? (i := 37) rfl)))))))
set_option maxRecDepth 20000 in
theorem wm_278 : (Cond.methodLink R_S 98 y_S_isDirectory) ∈ w_all := List.mem_append_right _ (List.mem_append_right _ (List.mem_append_right _ (List.mem_append_right _ (List.mem_append_right _ (List.mem_append_right _ (List.mem_append_left _ (List.mem_of_getElem? (i := 38) rfl)))))))
set_option maxRecDepth 20000 in
theorem wm_279 : (Cond.instanceMethod y_S_isDirectory) ∈ w_all := List.mem_append_right _ (List.mem_append_right _ (List.mem_append_right _ (List.mem_append_right _ (List.mem_append_right _ (List.mem_append_right _ (List.mem_append_left _ (List.mem_of_getElem? (i := 39) rfl)))))))
set_option maxRecDepth 20000 in
theorem wm_280 : (Cond.selects R_S y_S_isDirectory y_S_isDirectory) ∈ w_all := List.mem_append_right _ (List.mem_append_right _ (List.mem_append_right _ (List.mem_append_right _ (List.mem_append_right _ (List.mem_append_right _ (List.mem_append_right _ (List.mem_append_left _ (List.mem_of_getElem? (i := 0) rfl))))))))
set_option maxRecDepth 20000 in
theorem wm_281 : (Cond.code y_T_parent b_T_parent 1 (some .int)) ∈ w_all := List.mem_append_right _ (List.mem_append_right _ (List.mem_append_right _ (List.mem_append_right _ (List.mem_append_right _ (List.mem_append_right _ (List.mem_append_right _ (List.mem_append_left _ (List.mem_of_getElem? (i := 1) rfl))))))))
set_option maxRecDepth 20000 in
theorem wm_282 : (Cond.methodLink R_S 101 y_T_parent) ∈ w_all := List.mem_append_right _ (List.mem_append_right _ (List.mem_append_right _ (List.mem_append_right _ (List.mem_append_right _ (List.mem_append_right _ (List.mem_append_right _ (List.mem_append_left _ (List.mem_of_getElem? (i := 2) rfl))))))))
set_option maxRecDepth 20000 in
theorem wm_283 : (Cond.static y_T_parent) ∈ w_all := List.mem_append_right _ (List.mem_append_right _ (List.mem_append_right _ (List.mem_append_right _ (List.mem_append_right _ (List.mem_append_right _ (List.mem_append_right _ (List.mem_append_left _ (List.mem_of_getElem? (i := 3) rfl))))))))
set_option maxRecDepth 20000 in
theorem wm_284 : (Cond.code y_S_nameRead b_S_nameRead 3 (some .long)) ∈ w_all := List.mem_append_right _ (List.mem_append_right _ (List.mem_append_right _ (List.mem_append_right _ (List.mem_append_right _ (List.mem_append_right _ (List.mem_append_right _ (List.mem_append_left _ (List.mem_of_getElem? (i := 4) rfl))))))))
set_option maxRecDepth 20000 in
theorem wm_285 : (Cond.methodLink R_S 104 y_S_nameRead) ∈ w_all := List.mem_append_right _ (List.mem_append_right _ (List.mem_append_right _ (List.mem_append_right _ (List.mem_append_right _ (List.mem_append_right _ (List.mem_append_right _ (List.mem_append_left _ (List.mem_of_getElem? (i := 5) rfl))))))))
set_option maxRecDepth 20000 in
theorem wm_286 : (Cond.instanceMethod y_S_nameRead) ∈ w_all := List.mem_append_right _ (List.mem_append_right _ (List.mem_append_right _ (List.mem_append_right _ (List.mem_append_right _ (List.mem_append_right _ (List.mem_append_right _ (List.mem_append_left _ (List.mem_of_getElem? (i := 6) rfl))))))))
set_option maxRecDepth 20000 in
theorem wm_287 : (Cond.selects R_S y_S_nameRead y_S_nameRead) ∈ w_all := List.mem_append_right _ (List.mem_append_right _ (List.mem_append_right _ (List.mem_append_right _ (List.mem_append_right _ (List.mem_append_right _ (List.mem_append_right _ (List.mem_append_left _ (List.mem_of_getElem? (i := 7) rfl))))))))
set_option maxRecDepth 20000 in
theorem wm_288 : (Cond.code y_C_dropRegion b_C_dropRegion 1 (some .boolean)) ∈ w_all := List.mem_append_right _ (List.mem_append_right _ (List.mem_append_right _ (List.mem_append_right _ (List.mem_append_right _ (List.mem_append_right _ (List.mem_append_right _ (List.mem_append_left _ (List.mem_of_getElem? (i := 8) rfl))))))))
set_option maxRecDepth 20000 in
theorem wm_289 : (Cond.methodLink R_S 107 y_C_dropRegion) ∈ w_all := List.mem_append_right _ (List.mem_append_right _ (List.mem_append_right _ (List.mem_append_right _ (List.mem_append_right _ (List.mem_append_right _ (List.mem_append_right _ (List.mem_append_left _ (List.mem_of_getElem? (i := 9) rfl))))))))
set_option maxRecDepth 20000 in
theorem wm_290 : (Cond.instanceMethod y_C_dropRegion) ∈ w_all := List.mem_append_right _ (List.mem_append_right _ (List.mem_append_right _ (List.mem_append_right _ (List.mem_append_right _ (List.mem_append_right _ (List.mem_append_right _ (List.mem_append_left _ (List.mem_of_getElem? (i := 10) rfl))))))))
set_option maxRecDepth 20000 in
theorem wm_291 : (Cond.selects R_C y_C_dropRegion y_C_dropRegion) ∈ w_all := List.mem_append_right _ (List.mem_append_right _ (List.mem_append_right _ (List.mem_append_right _ (List.mem_append_right _ (List.mem_append_right _ (List.mem_append_right _ (List.mem_append_left _ (List.mem_of_getElem? (i := 11) rfl))))))))
set_option maxRecDepth 20000 in
theorem wm_292 : (Cond.code y_C_fillRegion b_C_fillRegion 2 (some .boolean)) ∈ w_all := List.mem_append_right _ (List.mem_append_right _ (List.mem_append_right _ (List.mem_append_right _ (List.mem_append_right _ (List.mem_append_right _ (List.mem_append_right _ (List.mem_append_left _ (List.mem_of_getElem? (i := 12) rfl))))))))
set_option maxRecDepth 20000 in
theorem wm_293 : (Cond.methodLink R_S 111 y_C_fillRegion) ∈ w_all := List.mem_append_right _ (List.mem_append_right _ (List.mem_append_right _ (List.mem_append_right _ (List.mem_append_right _ (List.mem_append_right _ (List.mem_append_right _ (List.mem_append_left _ (List.mem_of_getElem? (i := 13) rfl))))))))
set_option maxRecDepth 20000 in
theorem wm_294 : (Cond.instanceMethod y_C_fillRegion) ∈ w_all := List.mem_append_right _ (List.mem_append_right _ (List.mem_append_right _ (List.mem_append_right _ (List.mem_append_right _ (List.mem_append_right _ (List.mem_append_right _ (List.mem_append_left _ (List.mem_of_getElem? (i := 14) rfl))))))))
set_option maxRecDepth 20000 in
theorem wm_295 : (Cond.selects R_C y_C_fillRegion y_C_fillRegion) ∈ w_all := List.mem_append_right _ (List.mem_append_right _ (List.mem_append_right _ (List.mem_append_right _ (List.mem_append_right _ (List.mem_append_right _ (List.mem_append_right _ (List.mem_append_left _ (List.mem_of_getElem? (i := 15) rfl))))))))
set_option maxRecDepth 20000 in
theorem wm_296 : (Cond.code y_C_countLive b_C_countLive 3 (some .int)) ∈ w_all := List.mem_append_right _ (List.mem_append_right _ (List.mem_append_right _ (List.mem_append_right _ (List.mem_append_right _ (List.mem_append_right _ (List.mem_append_right _ (List.mem_append_left _ (List.mem_of_getElem? (i := 16) rfl))))))))
set_option maxRecDepth 20000 in
theorem wm_297 : (Cond.methodLink R_S 114 y_C_countLive) ∈ w_all := List.mem_append_right _ (List.mem_append_right _ (List.mem_append_right _ (List.mem_append_right _ (List.mem_append_right _ (List.mem_append_right _ (List.mem_append_right _ (List.mem_append_left _ (List.mem_of_getElem? (i := 17) rfl))))))))
set_option maxRecDepth 20000 in
theorem wm_298 : (Cond.instanceMethod y_C_countLive) ∈ w_all := List.mem_append_right _ (List.mem_append_right _ (List.mem_append_right _ (List.mem_append_right _ (List.mem_append_right _ (List.mem_append_right _ (List.mem_append_right _ (List.mem_append_left _ (List.mem_of_getElem? (i := 18) rfl))))))))
set_option maxRecDepth 20000 in
theorem wm_299 : (Cond.selects R_C y_C_countLive y_C_countLive) ∈ w_all := List.mem_append_right _ (List.mem_append_right _ (List.mem_append_right _ (List.mem_append_right _ (List.mem_append_right _ (List.mem_append_right _ (List.mem_append_right _ (List.mem_append_left _ (List.mem_of_getElem? (i := 19) rfl))))))))
set_option maxRecDepth 20000 in
theorem wm_300 : (Cond.code y_C_countGood b_C_countGood 3 (some .int)) ∈ w_all := List.mem_append_right _ (List.mem_append_right _ (List.mem_append_right _ (List.mem_append_right _ (List.mem_append_right _ (List.mem_append_right _ (List.mem_append_right _ (List.mem_append_left _ (List.mem_of_getElem? (i := 20) rfl))))))))
set_option maxRecDepth 20000 in
theorem wm_301 : (Cond.methodLink R_S 120 y_C_countGood) ∈ w_all := List.mem_append_right _ (List.mem_append_right _ (List.mem_append_right _ (List.mem_append_right _ (List.mem_append_right _ (List.mem_append_right _ (List.mem_append_right _ (List.mem_append_left _ (List.mem_of_getElem? (i := 21) rfl))))))))
set_option maxRecDepth 20000 in
theorem wm_302 : (Cond.instanceMethod y_C_countGood) ∈ w_all := List.mem_append_right _ (List.mem_append_right _ (List.mem_append_right _ (List.mem_append_right _ (List.mem_append_right _ (List.mem_append_right _ (List.mem_append_right _ (List.mem_append_left _ (List.mem_of_getElem? (i := 22) rfl))))))))
set_option maxRecDepth 20000 in
theorem wm_303 : (Cond.selects R_C y_C_countGood y_C_countGood) ∈ w_all := List.mem_append_right _ (List.mem_append_right _ (List.mem_append_right _ (List.mem_append_right _ (List.mem_append_right _ (List.mem_append_right _ (List.mem_append_right _ (List.mem_append_left _ (List.mem_of_getElem? (i := 23) rfl))))))))
set_option maxRecDepth 20000 in
theorem wm_304 : (Cond.code y_C_countGoodTouched b_C_countGoodTouched 3 (some .int)) ∈ w_all := List.mem_append_right _ (List.mem_append_right _ (List.mem_append_right _ (List.mem_append_right _ (List.mem_append_right _ (List.mem_append_right _ (List.mem_append_right _ (List.mem_append_left _ (List.mem_of_getElem? (i := 24) rfl))))))))
set_option maxRecDepth 20000 in
theorem wm_305 : (Cond.methodLink R_S 123 y_C_countGoodTouched) ∈ w_all := List.mem_append_right _ (List.mem_append_right _ (List.mem_append_right _ (List.mem_append_right _ (List.mem_append_right _ (List.mem_append_right _ (List.mem_append_right _ (List.mem_append_left _ (List.mem_of_getElem? (i := 25) rfl))))))))
set_option maxRecDepth 20000 in
theorem wm_306 : (Cond.instanceMethod y_C_countGoodTouched) ∈ w_all := List.mem_append_right _ (List.mem_append_right _ (List.mem_append_right _ (List.mem_append_right _ (List.mem_append_right _ (List.mem_append_right _ (List.mem_append_right _ (List.mem_append_left _ (List.mem_of_getElem? (i := 26) rfl))))))))
set_option maxRecDepth 20000 in
theorem wm_307 : (Cond.selects R_C y_C_countGoodTouched y_C_countGoodTouched) ∈ w_all := List.mem_append_right _ (List.mem_append_right _ (List.mem_append_right _ (List.mem_append_right _ (List.mem_append_right _ (List.mem_append_right _ (List.mem_append_right _ (List.mem_append_left _ (List.mem_of_getElem? (i := 27) rfl))))))))
set_option maxRecDepth 20000 in
theorem wm_308 : (Cond.code y_S_settleStale b_S_settleStale 2 none) ∈ w_all := List.mem_append_right _ (List.mem_append_right _ (List.mem_append_right _ (List.mem_append_right _ (List.mem_append_right _ (List.mem_append_right _ (List.mem_append_right _ (List.mem_append_left _ (List.mem_of_getElem? (i := 28) rfl))))))))
set_option maxRecDepth 20000 in
theorem wm_309 : (Cond.methodLink R_S 126 y_S_settleStale) ∈ w_all := List.mem_append_right _ (List.mem_append_right _ (List.mem_append_right _ (List.mem_append_right _ (List.mem_append_right _ (List.mem_append_right _ (List.mem_append_right _ (List.mem_append_left _ (List.mem_of_getElem? (i := 29) rfl))))))))
set_option maxRecDepth 20000 in
theorem wm_310 : (Cond.instanceMethod y_S_settleStale) ∈ w_all := List.mem_append_right _ (List.mem_append_right _ (List.mem_append_right _ (List.mem_append_right _ (List.mem_append_right _ (List.mem_append_right _ (List.mem_append_right _ (List.mem_append_left _ (List.mem_of_getElem? (i := 30) rfl))))))))
set_option maxRecDepth 20000 in
theorem wm_311 : (Cond.selects R_S y_S_settleStale y_S_settleStale) ∈ w_all := List.mem_append_right _ (List.mem_append_right _ (List.mem_append_right _ (List.mem_append_right _ (List.mem_append_right _ (List.mem_append_right _ (List.mem_append_right _ (List.mem_append_left _ (List.mem_of_getElem? (i := 31) rfl))))))))
set_option maxRecDepth 20000 in
theorem wm_312 : (Cond.code y_S_markStale b_S_markStale 2 (some .boolean)) ∈ w_all := List.mem_append_right _ (List.mem_append_right _ (List.mem_append_right _ (List.mem_append_right _ (List.mem_append_right _ (List.mem_append_right _ (List.mem_append_right _ (List.mem_append_left _ (List.mem_of_getElem? (i := 32) rfl))))))))
set_option maxRecDepth 20000 in
theorem wm_313 : (Cond.methodLink R_S 129 y_S_markStale) ∈ w_all := List.mem_append_right _ (List.mem_append_right _ (List.mem_append_right _ (List.mem_append_right _ (List.mem_append_right _ (List.mem_append_right _ (List.mem_append_right _ (List.mem_append_left _ (List.mem_of_getElem? (i := 33) rfl))))))))
set_option maxRecDepth 20000 in
theorem wm_314 : (Cond.instanceMethod y_S_markStale) ∈ w_all := List.mem_append_right _ (List.mem_append_right _ (List.mem_append_right _ (List.mem_append_right _ (List.mem_append_right _ (List.mem_append_right _ (List.mem_append_right _ (List.mem_append_left _ (List.mem_of_getElem? (i := 34) rfl))))))))
set_option maxRecDepth 20000 in
theorem wm_315 : (Cond.selects R_S y_S_markStale y_S_markStale) ∈ w_all := List.mem_append_right _ (List.mem_append_right _ (List.mem_append_right _ (List.mem_append_right _ (List.mem_append_right _ (List.mem_append_right _ (List.mem_append_right _ (List.mem_append_left _ (List.mem_of_getElem? (i := 35) rfl))))))))
set_option maxRecDepth 20000 in
theorem wm_316 : (Cond.code y_S_isPage b_S_isPage 2 (some .boolean)) ∈ w_all := List.mem_append_right _ (List.mem_append_right _ (List.mem_append_right _ (List.mem_append_right _ (List.mem_append_right _ (List.mem_append_right _ (List.mem_append_right _ (List.mem_append_left _ (List.mem_of_getElem? (i := 36) rfl))))))))
set_option maxRecDepth 20000 in
theorem wm_317 : (Cond.methodLink R_S 136 y_S_isPage) ∈ w_all := List.mem_append_right _ (List.mem_append_right _ (List.mem_append_right _ (List.mem_append_right _ (List.mem_append_right _ (List.mem_append_right _ (List.mem_append_right _ (List.mem_append_left _ (List.mem_of_getElem? (i := 37) rfl))))))))
set_option maxRecDepth 20000 in
theorem wm_318 : (Cond.static y_S_isPage) ∈ w_all := List.mem_append_right _ (List.mem_append_right _ (List.mem_append_right _ (List.mem_append_right _ (List.mem_append_right _ (List.mem_append_right _ (List.mem_append_right _ (List.mem_append_left _ (List.mem_of_getElem? (i := 38) rfl))))))))
set_option maxRecDepth 20000 in
theorem wm_319 : (Cond.code y_C_turnBit b_C_turnBit 3 (some .boolean)) ∈ w_all := List.mem_append_right _ (List.mem_append_right _ (List.mem_append_right _ (List.mem_append_right _ (List.mem_append_right _ (List.mem_append_right _ (List.mem_append_right _ (List.mem_append_left _ (List.mem_of_getElem? (i := 39) rfl))))))))
set_option maxRecDepth 20000 in
theorem wm_320 : (Cond.methodLink R_S 139 y_C_turnBit) ∈ w_all := List.mem_append_right _ (List.mem_append_right _ (List.mem_append_right _ (List.mem_append_right _ (List.mem_append_right _ (List.mem_append_right _ (List.mem_append_right _ (List.mem_append_right _ (List.mem_append_left _ (List.mem_of_getElem? (i := 0) rfl)))))))))
set_option maxRecDepth 20000 in
theorem wm_321 : (Cond.instanceMethod y_C_turnBit) ∈ w_all := List.mem_append_right _ (List.mem_append_right _ (List.mem_append_right _ (List.mem_append_right _ (List.mem_append_right _ (List.mem_append_right _ (List.mem_append_right _ (List.mem_append_right _ (List.mem_append_left _ (List.mem_of_getElem? (i := 1) rfl)))))))))
set_option maxRecDepth 20000 in
theorem wm_322 : (Cond.selects R_C y_C_turnBit y_C_turnBit) ∈ w_all := List.mem_append_right _ (List.mem_append_right _ (List.mem_append_right _ (List.mem_append_right _ (List.mem_append_right _ (List.mem_append_right _ (List.mem_append_right _ (List.mem_append_right _ (List.mem_append_left _ (List.mem_of_getElem? (i := 2) rfl)))))))))
set_option maxRecDepth 20000 in
theorem wm_323 : (Cond.code y_S_isBlock b_S_isBlock 1 (some .boolean)) ∈ w_all := List.mem_append_right _ (List.mem_append_right _ (List.mem_append_right _ (List.mem_append_right _ (List.mem_append_right _ (List.mem_append_right _ (List.mem_append_right _ (List.mem_append_right _ (List.mem_append_left _ (List.mem_of_getElem? (i := 3) rfl)))))))))
set_option maxRecDepth 20000 in
theorem wm_324 : (Cond.methodLink R_S 142 y_S_isBlock) ∈ w_all := List.mem_append_right _ (List.mem_append_right _ (List.mem_append_right _ (List.mem_append_right _ (List.mem_append_right _ (List.mem_append_right _ (List.mem_append_right _ (List.mem_append_right _ (List.mem_append_left _ (List.mem_of_getElem? (i := 4) rfl)))))))))
set_option maxRecDepth 20000 in
theorem wm_325 : (Cond.static y_S_isBlock) ∈ w_all := List.mem_append_right _ (List.mem_append_right _ (List.mem_append_right _ (List.mem_append_right _ (List.mem_append_right _ (List.mem_append_right _ (List.mem_append_right _ (List.mem_append_right _ (List.mem_append_left _ (List.mem_of_getElem? (i := 5) rfl)))))))))
set_option maxRecDepth 20000 in
theorem wm_326 : (Cond.methodLink R_S 151 y_C_isProgrammed) ∈ w_all := List.mem_append_right _ (List.mem_append_right _ (List.mem_append_right _ (List.mem_append_right _ (List.mem_append_right _ (List.mem_append_right _ (List.mem_append_right _ (List.mem_append_right _ (List.mem_append_left _ (List.mem_of_getElem? (i := 6) rfl)))))))))
set_option maxRecDepth 20000 in
theorem wm_327 : (Cond.code y_C_countFree b_C_countFree 3 (some .int)) ∈ w_all := List.mem_append_right _ (List.mem_append_right _ (List.mem_append_right _ (List.mem_append_right _ (List.mem_append_right _ (List.mem_append_right _ (List.mem_append_right _ (List.mem_append_right _ (List.mem_append_left _ (List.mem_of_getElem? (i := 7) rfl)))))))))
set_option maxRecDepth 20000 in
theorem wm_328 : (Cond.methodLink R_S 158 y_C_countFree) ∈ w_all := List.mem_append_right _ (List.mem_append_right _ (List.mem_append_right _ (List.mem_append_right _ (List.mem_append_right _ (List.mem_append_right _ (List.mem_append_right _ (List.mem_append_right _ (List.mem_append_left _ (List.mem_of_getElem? (i := 8) rfl)))))))))
set_option maxRecDepth 20000 in
theorem wm_329 : (Cond.instanceMethod y_C_countFree) ∈ w_all := List.mem_append_right _ (List.mem_append_right _ (List.mem_append_right _ (List.mem_append_right _ (List.mem_append_right _ (List.mem_append_right _ (List.mem_append_right _ (List.mem_append_right _ (List.mem_append_left _ (List.mem_of_getElem? (i := 9) rfl)))))))))
set_option maxRecDepth 20000 in
theorem wm_330 : (Cond.selects R_C y_C_countFree y_C_countFree) ∈ w_all := List.mem_append_right _ (List.mem_append_right _ (List.mem_append_right _ (List.mem_append_right _ (List.mem_append_right _ (List.mem_append_right _ (List.mem_append_right _ (List.mem_append_right _ (List.mem_append_left _ (List.mem_of_getElem? (i := 10) rfl)))))))))
set_option maxRecDepth 20000 in
theorem wm_331 : (Cond.code y_T_isOfDirectory b_T_isOfDirectory 1 (some .boolean)) ∈ w_all := List.mem_append_right _ (List.mem_append_right _ (List.mem_append_right _ (List.mem_append_right _ (List.mem_append_right _ (List.mem_append_right _ (List.mem_append_right _ (List.mem_append_right _ (List.mem_append_left _ (List.mem_of_getElem? (i := 11) rfl)))))))))
set_option maxRecDepth 20000 in
theorem wm_332 : (Cond.methodLink R_S 167 y_T_isOfDirectory) ∈ w_all := List.mem_append_right _ (List.mem_append_right _ (List.mem_append_right _ (List.mem_append_right _ (List.mem_append_right _ (List.mem_append_right _ (List.mem_append_right _ (List.mem_append_right _ (List.mem_append_left _ (List.mem_of_getElem? (i := 12) rfl)))))))))
set_option maxRecDepth 20000 in
theorem wm_333 : (Cond.static y_T_isOfDirectory) ∈ w_all := List.mem_append_right _ (List.mem_append_right _ (List.mem_append_right _ (List.mem_append_right _ (List.mem_append_right _ (List.mem_append_right _ (List.mem_append_right _ (List.mem_append_right _ (List.mem_append_left _ (List.mem_of_getElem? (i := 13) rfl)))))))))
set_option maxRecDepth 20000 in
theorem wm_334 : (Cond.code y_S_isIn b_S_isIn 3 (some .boolean)) ∈ w_all := List.mem_append_right _ (List.mem_append_right _ (List.mem_append_right _ (List.mem_append_right _ (List.mem_append_right _ (List.mem_append_right _ (List.mem_append_right _ (List.mem_append_right _ (List.mem_append_left _ (List.mem_of_getElem? (i := 14) rfl)))))))))
set_option maxRecDepth 20000 in
theorem wm_335 : (Cond.methodLink R_S 172 y_S_isIn) ∈ w_all := List.mem_append_right _ (List.mem_append_right _ (List.mem_append_right _ (List.mem_append_right _ (List.mem_append_right _ (List.mem_append_right _ (List.mem_append_right _ (List.mem_append_right _ (List.mem_append_left _ (List.mem_of_getElem? (i := 15) rfl)))))))))
set_option maxRecDepth 20000 in
theorem wm_336 : (Cond.instanceMethod y_S_isIn) ∈ w_all := List.mem_append_right _ (List.mem_append_right _ (List.mem_append_right _ (List.mem_append_right _ (List.mem_append_right _ (List.mem_append_right _ (List.mem_append_right _ (List.mem_append_right _ (List.mem_append_left _ (List.mem_of_getElem? (i := 16) rfl)))))))))
set_option maxRecDepth 20000 in
theorem wm_337 : (Cond.selects R_S y_S_isIn y_S_isIn) ∈ w_all := List.mem_append_right _ (List.mem_append_right _ (List.mem_append_right _ (List.mem_append_right _ (List.mem_append_right _ (List.mem_append_right _ (List.mem_append_right _ (List.mem_append_right _ (List.mem_append_left _ (List.mem_of_getElem? (i := 17) rfl)))))))))
set_option maxRecDepth 20000 in
theorem wm_338 : (Cond.code y_T_withSerial b_T_withSerial 2 (some .int)) ∈ w_all := List.mem_append_right _ (List.mem_append_right _ (List.mem_append_right _ (List.mem_append_right _ (List.mem_append_right _ (List.mem_append_right _ (List.mem_append_right _ (List.mem_append_right _ (List.mem_append_left _ (List.mem_of_getElem? (i := 18) rfl)))))))))
set_option maxRecDepth 20000 in
theorem wm_339 : (Cond.methodLink R_S 175 y_T_withSerial) ∈ w_all := List.mem_append_right _ (List.mem_append_right _ (List.mem_append_right _ (List.mem_append_right _ (List.mem_append_right _ (List.mem_append_right _ (List.mem_append_right _ (List.mem_append_right _ (List.mem_append_left _ (List.mem_of_getElem? (i := 19) rfl)))))))))
set_option maxRecDepth 20000 in
theorem wm_340 : (Cond.static y_T_withSerial) ∈ w_all := List.mem_append_right _ (List.mem_append_right _ (List.mem_append_right _ (List.mem_append_right _ (List.mem_append_right _ (List.mem_append_right _ (List.mem_append_right _ (List.mem_append_right _ (List.mem_append_left _ (List.mem_of_getElem? (i := 20) rfl)))))))))
set_option maxRecDepth 20000 in
theorem wm_341 : (Cond.code y_C_program b_C_program 7 (some .boolean)) ∈ w_all := List.mem_append_right _ (List.mem_append_right _ (List.mem_append_right _ (List.mem_append_right _ (List.mem_append_right _ (List.mem_append_right _ (List.mem_append_right _ (List.mem_append_right _ (List.mem_append_left _ (List.mem_of_getElem? (i := 21) rfl)))))))))
set_option maxRecDepth 20000 in
theorem wm_342 : (Cond.methodLink R_S 178 y_C_program) ∈ w_all := List.mem_append_right _ (List.mem_append_right _ (List.mem_append_right _ (List.mem_append_right _ (List.mem_append_right _ (List.mem_append_right _ (List.mem_append_right _ (List.mem_append_right _ (List.mem_append_left _ (List.mem_of_getElem? (i := 22) rfl)))))))))
set_option maxRecDepth 20000 in
theorem wm_343 : (Cond.instanceMethod y_C_program) ∈ w_all := List.mem_append_right _ (List.mem_append_right _ (List.mem_append_right _ (List.mem_append_right _ (List.mem_append_right _ (List.mem_append_right _ (List.mem_append_right _ (List.mem_append_right _ (List.mem_append_left _ (List.mem_of_getElem? (i := 23) rfl)))))))))
set_option maxRecDepth 20000 in
theorem wm_344 : (Cond.selects R_C y_C_program y_C_program) ∈ w_all := List.mem_append_right _ (List.mem_append_right _ (List.mem_append_right _ (List.mem_append_right _ (List.mem_append_right _ (List.mem_append_right _ (List.mem_append_right _ (List.mem_append_right _ (List.mem_append_left _ (List.mem_of_getElem? (i := 24) rfl)))))))))
set_option maxRecDepth 20000 in
theorem wm_345 : (Cond.code y_T_serialAfter b_T_serialAfter 1 (some .int)) ∈ w_all := List.mem_append_right _ (List.mem_append_right _ (List.mem_append_right _ (List.mem_append_right _ (List.mem_append_right _ (List.mem_append_right _ (List.mem_append_right _ (List.mem_append_right _ (List.mem_append_left _ (List.mem_of_getElem? (i := 25) rfl)))))))))
set_option maxRecDepth 20000 in
theorem wm_346 : (Cond.methodLink R_S 182 y_T_serialAfter) ∈ w_all := List.mem_append_right _ (List.mem_append_right _ (List.mem_append_right _ (List.mem_append_right _ (List.mem_append_right _ (List.mem_append_right _ (List.mem_append_right _ (List.mem_append_right _ (List.mem_append_left _ (List.mem_of_getElem? (i := 26) rfl)))))))))
set_option maxRecDepth 20000 in
theorem wm_347 : (Cond.static y_T_serialAfter) ∈ w_all := List.mem_append_right _ (List.mem_append_right _ (List.mem_append_right _ (List.mem_append_right _ (List.mem_append_right _ (List.mem_append_right _ (List.mem_append_right _ (List.mem_append_right _ (List.mem_append_left _ (List.mem_of_getElem? (i := 27) rfl)))))))))
set_option maxRecDepth 20000 in
theorem wm_348 : (Cond.code y_C_mark b_C_mark 2 (some .boolean)) ∈ w_all := List.mem_append_right _ (List.mem_append_right _ (List.mem_append_right _ (List.mem_append_right _ (List.mem_append_right _ (List.mem_append_right _ (List.mem_append_right _ (List.mem_append_right _ (List.mem_append_left _ (List.mem_of_getElem? (i := 28) rfl)))))))))
set_option maxRecDepth 20000 in
theorem wm_349 : (Cond.methodLink R_S 185 y_C_mark) ∈ w_all := List.mem_append_right _ (List.mem_append_right _ (List.mem_append_right _ (List.mem_append_right _ (List.mem_append_right _ (List.mem_append_right _ (List.mem_append_right _ (List.mem_append_right _ (List.mem_append_left _ (List.mem_of_getElem? (i := 29) rfl)))))))))
set_option maxRecDepth 20000 in
theorem wm_350 : (Cond.instanceMethod y_C_mark) ∈ w_all := List.mem_append_right _ (List.mem_append_right _ (List.mem_append_right _ (List.mem_append_right _ (List.mem_append_right _ (List.mem_append_right _ (List.mem_append_right _ (List.mem_append_right _ (List.mem_append_left _ (List.mem_of_getElem? (i := 30) rfl)))))))))
set_option maxRecDepth 20000 in
theorem wm_351 : (Cond.selects R_C y_C_mark y_C_mark) ∈ w_all := List.mem_append_right _ (List.mem_append_right _ (List.mem_append_right _ (List.mem_append_right _ (List.mem_append_right _ (List.mem_append_right _ (List.mem_append_right _ (List.mem_append_right _ (List.mem_append_left _ (List.mem_of_getElem? (i := 31) rfl)))))))))
set_option maxRecDepth 20000 in
theorem wm_352 : (Cond.methodLink R_S 188 y_C_isUnreadable) ∈ w_all := List.mem_append_right _ (List.mem_append_right _ (List.mem_append_right _ (List.mem_append_right _ (List.mem_append_right _ (List.mem_append_right _ (List.mem_append_right _ (List.mem_append_right _ (List.mem_append_left _ (List.mem_of_getElem? (i := 32) rfl)))))))))
set_option maxRecDepth 20000 in
theorem wm_353 : (Cond.code y_T_withLength b_T_withLength 2 (some .int)) ∈ w_all := List.mem_append_right _ (List.mem_append_right _ (List.mem_append_right _ (List.mem_append_right _ (List.mem_append_right _ (List.mem_append_right _ (List.mem_append_right _ (List.mem_append_right _ (List.mem_append_left _ (List.mem_of_getElem? (i := 33) rfl)))))))))
set_option maxRecDepth 20000 in
theorem wm_354 : (Cond.methodLink R_S 198 y_T_withLength) ∈ w_all := List.mem_append_right _ (List.mem_append_right _ (List.mem_append_right _ (List.mem_append_right _ (List.mem_append_right _ (List.mem_append_right _ (List.mem_append_right _ (List.mem_append_right _ (List.mem_append_left _ (List.mem_of_getElem? (i := 34) rfl)))))))))
set_option maxRecDepth 20000 in
theorem wm_355 : (Cond.static y_T_withLength) ∈ w_all := List.mem_append_right _ (List.mem_append_right _ (List.mem_append_right _ (List.mem_append_right _ (List.mem_append_right _ (List.mem_append_right _ (List.mem_append_right _ (List.mem_append_right _ (List.mem_append_left _ (List.mem_of_getElem? (i := 35) rfl)))))))))
set_option maxRecDepth 20000 in
theorem wm_356 : (Cond.code y_S_putWordOf b_S_putWordOf 5 (some .boolean)) ∈ w_all := List.mem_append_right _ (List.mem_append_right _ (List.mem_append_right _ (List.mem_append_right _ (List.mem_append_right _ (List.mem_append_right _ (List.mem_append_right _ (List.mem_append_right _ (List.mem_append_left _ (List.mem_of_getElem? (i := 36) rfl)))))))))
set_option maxRecDepth 20000 in
theorem wm_357 : (Cond.methodLink R_S 201 y_S_putWordOf) ∈ w_all := List.mem_append_right _ (List.mem_append_right _ (List.mem_append_right _ (List.mem_append_right _ (List.mem_append_right _ (List.mem_append_right _ (List.mem_append_right _ (List.mem_append_right _ (List.mem_append_left _ (List.mem_of_getElem? (i := 37) rfl)))))))))
set_option maxRecDepth 20000 in
theorem wm_358 : (Cond.instanceMethod y_S_putWordOf) ∈ w_all := List.mem_append_right _ (List.mem_append_right _ (List.mem_append_right _ (List.mem_append_right _ (List.mem_append_right _ (List.mem_append_right _ (List.mem_append_right _ (List.mem_append_right _ (List.mem_append_left _ (List.mem_of_getElem? (i := 38) rfl)))))))))
set_option maxRecDepth 20000 in
theorem wm_359 : (Cond.selects R_S y_S_putWordOf y_S_putWordOf) ∈ w_all := List.mem_append_right _ (List.mem_append_right _ (List.mem_append_right _ (List.mem_append_right _ (List.mem_append_right _ (List.mem_append_right _ (List.mem_append_right _ (List.mem_append_right _ (List.mem_append_left _ (List.mem_of_getElem? (i := 39) rfl)))))))))
set_option maxRecDepth 20000 in
theorem wm_360 : (Cond.code y_S_blockToCollect b_S_blockToCollect 6 (some .int)) ∈ w_all := List.mem_append_right _ (List.mem_append_right _ (List.mem_append_right _ (List.mem_append_right _ (List.mem_append_right _ (List.mem_append_right _ (List.mem_append_right _ (List.mem_append_right _ (List.mem_append_right _ (List.mem_append_left _ (List.mem_of_getElem? (i := 0) rfl))))))))))
set_option maxRecDepth 20000 in
theorem wm_361 : (Cond.methodLink R_S 204 y_S_blockToCollect) ∈ w_all := List.mem_append_right _ (List.mem_append_right _ (List.mem_append_right _ (List.mem_append_right _ (List.mem_append_right _ (List.mem_append_right _ (List.mem_append_right _ (List.mem_append_right _ (List.mem_append_right _ (List.mem_append_left _ (List.mem_of_getElem? (i := 1) rfl))))))))))
set_option maxRecDepth 20000 in
theorem wm_362 : (Cond.instanceMethod y_S_blockToCollect) ∈ w_all := List.mem_append_right _ (List.mem_append_right _ (List.mem_append_right _ (List.mem_append_right _ (List.mem_append_right _ (List.mem_append_right _ (List.mem_append_right _ (List.mem_append_right _ (List.mem_append_right _ (List.mem_append_left _ (List.mem_of_getElem? (i := 2) rfl))))))))))
set_option maxRecDepth 20000 in
theorem wm_363 : (Cond.selects R_S y_S_blockToCollect y_S_blockToCollect) ∈ w_all := List.mem_append_right _ (List.mem_append_right _ (List.mem_append_right _ (List.mem_append_right _ (List.mem_append_right _ (List.mem_append_right _ (List.mem_append_right _ (List.mem_append_right _ (List.mem_append_right _ (List.mem_append_left _ (List.mem_of_getElem? (i := 3) rfl))))))))))
set_option maxRecDepth 20000 in
theorem wm_364 : (Cond.code y_S_collect b_S_collect 4 (some .boolean)) ∈ w_all := List.mem_append_right _ (List.mem_append_right _ (List.mem_append_right _ (List.mem_append_right _ (List.mem_append_right _ (List.mem_append_right _ (List.mem_append_right _ (List.mem_append_right _ (List.mem_append_right _ (List.mem_append_left _ (List.mem_of_getElem? (i := 4) rfl))))))))))
set_option maxRecDepth 20000 in
theorem wm_365 : (Cond.methodLink R_S 207 y_S_collect) ∈ w_all := List.mem_append_right _ (List.mem_append_right _ (List.mem_append_right _ (List.mem_append_right _ (List.mem_append_right _ (List.mem_append_right _ (List.mem_append_right _ (List.mem_append_right _ (List.mem_append_right _ (List.mem_append_left _ (List.mem_of_getElem? (i := 5) rfl))))))))))
set_option maxRecDepth 20000 in
theorem wm_366 : (Cond.instanceMethod y_S_collect) ∈ w_all := List.mem_append_right _ (List.mem_append_right _ (List.mem_append_right _ (List.mem_append_right _ (List.mem_append_right _ (List.mem_append_right _ (List.mem_append_right _ (List.mem_append_right _ (List.mem_append_right _ (List.mem_append_left _ (List.mem_of_getElem? (i := 6) rfl))))))))))
set_option maxRecDepth 20000 in
theorem wm_367 : (Cond.selects R_S y_S_collect y_S_collect) ∈ w_all := List.mem_append_right _ (List.mem_append_right _ (List.mem_append_right _ (List.mem_append_right _ (List.mem_append_right _ (List.mem_append_right _ (List.mem_append_right _ (List.mem_append_right _ (List.mem_append_right _ (List.mem_append_left _ (List.mem_of_getElem? (i := 7) rfl))))))))))
set_option maxRecDepth 20000 in
theorem wm_368 : (Cond.methodLink R_S 213 y_C_countLiveIn) ∈ w_all := List.mem_append_right _ (List.mem_append_right _ (List.mem_append_right _ (List.mem_append_right _ (List.mem_append_right _ (List.mem_append_right _ (List.mem_append_right _ (List.mem_append_right _ (List.mem_append_right _ (List.mem_append_left _ (List.mem_of_getElem? (i := 8) rfl))))))))))
set_option maxRecDepth 20000 in
theorem wm_369 : (Cond.methodLink R_S 216 y_C_isLive) ∈ w_all := List.mem_append_right _ (List.mem_append_right _ (List.mem_append_right _ (List.mem_append_right _ (List.mem_append_right _ (List.mem_append_right _ (List.mem_append_right _ (List.mem_append_right _ (List.mem_append_right _ (List.mem_append_left _ (List.mem_of_getElem? (i := 9) rfl))))))))))
set_option maxRecDepth 20000 in
theorem wm_370 : (Cond.code y_C_erase b_C_erase 2 (some .boolean)) ∈ w_all := List.mem_append_right _ (List.mem_append_right _ (List.mem_append_right _ (List.mem_append_right _ (List.mem_append_right _ (List.mem_append_right _ (List.mem_append_right _ (List.mem_append_right _ (List.mem_append_right _ (List.mem_append_left _ (List.mem_of_getElem? (i := 10) rfl))))))))))
set_option maxRecDepth 20000 in
theorem wm_371 : (Cond.methodLink R_S 219 y_C_erase) ∈ w_all := List.mem_append_right _ (List.mem_append_right _ (List.mem_append_right _ (List.mem_append_right _ (List.mem_append_right _ (List.mem_append_right _ (List.mem_append_right _ (List.mem_append_right _ (List.mem_append_right _ (List.mem_append_left _ (List.mem_of_getElem? (i := 11) rfl))))))))))
set_option maxRecDepth 20000 in
theorem wm_372 : (Cond.instanceMethod y_C_erase) ∈ w_all := List.mem_append_right _ (List.mem_append_right _ (List.mem_append_right _ (List.mem_append_right _ (List.mem_append_right _ (List.mem_append_right _ (List.mem_append_right _ (List.mem_append_right _ (List.mem_append_right _ (List.mem_append_left _ (List.mem_of_getElem? (i := 12) rfl))))))))))
set_option maxRecDepth 20000 in
theorem wm_373 : (Cond.selects R_C y_C_erase y_C_erase) ∈ w_all := List.mem_append_right _ (List.mem_append_right _ (List.mem_append_right _ (List.mem_append_right _ (List.mem_append_right _ (List.mem_append_right _ (List.mem_append_right _ (List.mem_append_right _ (List.mem_append_right _ (List.mem_append_left _ (List.mem_of_getElem? (i := 13) rfl))))))))))
set_option maxRecDepth 20000 in
theorem wm_374 : (Cond.methodLink R_S 222 y_C_hasSuccessor) ∈ w_all := List.mem_append_right _ (List.mem_append_right _ (List.mem_append_right _ (List.mem_append_right _ (List.mem_append_right _ (List.mem_append_right _ (List.mem_append_right _ (List.mem_append_right _ (List.mem_append_right _ (List.mem_append_left _ (List.mem_of_getElem? (i := 14) rfl))))))))))
set_option maxRecDepth 20000 in
theorem wm_375 : (Cond.code y_S_isBeyondFile b_S_isBeyondFile 4 (some .boolean)) ∈ w_all := List.mem_append_right _ (List.mem_append_right _ (List.mem_append_right _ (List.mem_append_right _ (List.mem_append_right _ (List.mem_append_right _ (List.mem_append_right _ (List.mem_append_right _ (List.mem_append_right _ (List.mem_append_left _ (List.mem_of_getElem? (i := 15) rfl))))))))))
set_option maxRecDepth 20000 in
theorem wm_376 : (Cond.methodLink R_S 225 y_S_isBeyondFile) ∈ w_all := List.mem_append_right _ (List.mem_append_right _ (List.mem_append_right _ (List.mem_append_right _ (List.mem_append_right _ (List.mem_append_right _ (List.mem_append_right _ (List.mem_append_right _ (List.mem_append_right _ (List.mem_append_left _ (List.mem_of_getElem? (i := 16) rfl))))))))))
set_option maxRecDepth 20000 in
theorem wm_377 : (Cond.instanceMethod y_S_isBeyondFile) ∈ w_all := List.mem_append_right _ (List.mem_append_right _ (List.mem_append_right _ (List.mem_append_right _ (List.mem_append_right _ (List.mem_append_right _ (List.mem_append_right _ (List.mem_append_right _ (List.mem_append_right _ (List.mem_append_left _ (List.mem_of_getElem? (i := 17) rfl))))))))))
set_option maxRecDepth 20000 in
theorem wm_378 : (Cond.selects R_S y_S_isBeyondFile y_S_isBeyondFile) ∈ w_all := List.mem_append_right _ (List.mem_append_right _ (List.mem_append_right _ (List.mem_append_right _ (List.mem_append_right _ (List.mem_append_right _ (List.mem_append_right _ (List.mem_append_right _ (List.mem_append_right _ (List.mem_append_left _ (List.mem_of_getElem? (i := 18) rfl))))))))))
set_option maxRecDepth 20000 in
theorem wm_379 : (Cond.code y_T_chunk b_T_chunk 1 (some .int)) ∈ w_all := List.mem_append_right _ (List.mem_append_right _ (List.mem_append_right _ (List.mem_append_right _ (List.mem_append_right _ (List.mem_append_right _ (List.mem_append_right _ (List.mem_append_right _ (List.mem_append_right _ (List.mem_append_left _ (List.mem_of_getElem? (i := 19) rfl))))))))))
set_option maxRecDepth 20000 in
theorem wm_380 : (Cond.methodLink R_S 228 y_T_chunk) ∈ w_all := List.mem_append_right _ (List.mem_append_right _ (List.mem_append_right _ (List.mem_append_right _ (List.mem_append_right _ (List.mem_append_right _ (List.mem_append_right _ (List.mem_append_right _ (List.mem_append_right _ (List.mem_append_left _ (List.mem_of_getElem? (i := 20) rfl))))))))))
set_option maxRecDepth 20000 in
theorem wm_381 : (Cond.static y_T_chunk) ∈ w_all := List.mem_append_right _ (List.mem_append_right _ (List.mem_append_right _ (List.mem_append_right _ (List.mem_append_right _ (List.mem_append_right _ (List.mem_append_right _ (List.mem_append_right _ (List.mem_append_right _ (List.mem_append_left _ (List.mem_of_getElem? (i := 21) rfl))))))))))
set_option maxRecDepth 20000 in
theorem wm_382 : (Cond.code y_T_object b_T_object 1 (some .int)) ∈ w_all := List.mem_append_right _ (List.mem_append_right _ (List.mem_append_right _ (List.mem_append_right _ (List.mem_append_right _ (List.mem_append_right _ (List.mem_append_right _ (List.mem_append_right _ (List.mem_append_right _ (List.mem_append_left _ (List.mem_of_getElem? (i := 22) rfl))))))))))
set_option maxRecDepth 20000 in
theorem wm_383 : (Cond.methodLink R_S 231 y_T_object) ∈ w_all := List.mem_append_right _ (List.mem_append_right _ (List.mem_append_right _ (List.mem_append_right _ (List.mem_append_right _ (List.mem_append_right _ (List.mem_append_right _ (List.mem_append_right _ (List.mem_append_right _ (List.mem_append_left _ (List.mem_of_getElem? (i := 23) rfl))))))))))
set_option maxRecDepth 20000 in
theorem wm_384 : (Cond.static y_T_object) ∈ w_all := List.mem_append_right _ (List.mem_append_right _ (List.mem_append_right _ (List.mem_append_right _ (List.mem_append_right _ (List.mem_append_right _ (List.mem_append_right _ (List.mem_append_right _ (List.mem_append_right _ (List.mem_append_left _ (List.mem_of_getElem? (i := 24) rfl))))))))))
set_option maxRecDepth 20000 in
theorem wm_385 : (Cond.code y_C_latestHeader b_C_latestHeader 3 (some .int)) ∈ w_all := List.mem_append_right _ (List.mem_append_right _ (List.mem_append_right _ (List.mem_append_right _ (List.mem_append_right _ (List.mem_append_right _ (List.mem_append_right _ (List.mem_append_right _ (List.mem_append_right _ (List.mem_append_left _ (List.mem_of_getElem? (i := 25) rfl))))))))))
set_option maxRecDepth 20000 in
theorem wm_386 : (Cond.methodLink R_S 234 y_C_latestHeader) ∈ w_all := List.mem_append_right _ (List.mem_append_right _ (List.mem_append_right _ (List.mem_append_right _ (List.mem_append_right _ (List.mem_append_right _ (List.mem_append_right _ (List.mem_append_right _ (List.mem_append_right _ (List.mem_append_left _ (List.mem_of_getElem? (i := 26) rfl))))))))))
set_option maxRecDepth 20000 in
theorem wm_387 : (Cond.instanceMethod y_C_latestHeader) ∈ w_all := List.mem_append_right _ (List.mem_append_right _ (List.mem_append_right _ (List.mem_append_right _ (List.mem_append_right _ (List.mem_append_right _ (List.mem_append_right _ (List.mem_append_right _ (List.mem_append_right _ (List.mem_append_left _ (List.mem_of_getElem? (i := 27) rfl))))))))))
set_option maxRecDepth 20000 in
theorem wm_388 : (Cond.selects R_C y_C_latestHeader y_C_latestHeader) ∈ w_all := List.mem_append_right _ (List.mem_append_right _ (List.mem_append_right _ (List.mem_append_right _ (List.mem_append_right _ (List.mem_append_right _ (List.mem_append_right _ (List.mem_append_right _ (List.mem_append_right _ (List.mem_append_left _ (List.mem_of_getElem? (i := 28) rfl))))))))))
set_option maxRecDepth 20000 in
theorem wm_389 : (Cond.methodLink R_T 10 y_T_ofChunk) ∈ w_all := List.mem_append_right _ (List.mem_append_right _ (List.mem_append_right _ (List.mem_append_right _ (List.mem_append_right _ (List.mem_append_right _ (List.mem_append_right _ (List.mem_append_right _ (List.mem_append_right _ (List.mem_append_left _ (List.mem_of_getElem? (i := 29) rfl))))))))))
set_option maxRecDepth 20000 in
theorem wm_390 : (Cond.methodLink R_T 14 y_T_serialAfter) ∈ w_all := List.mem_append_right _ (List.mem_append_right _ (List.mem_append_right _ (List.mem_append_right _ (List.mem_append_right _ (List.mem_append_right _ (List.mem_append_right _ (List.mem_append_right _ (List.mem_append_right _ (List.mem_append_left _ (List.mem_of_getElem? (i := 30) rfl))))))))))
set_option maxRecDepth 20000 in
theorem wm_391 : (Cond.code y_S_create b_S_create 7 (some .int)) ∈ w_all := List.mem_append_right _ (List.mem_append_right _ (List.mem_append_right _ (List.mem_append_right _ (List.mem_append_right _ (List.mem_append_right _ (List.mem_append_right _ (List.mem_append_right _ (List.mem_append_right _ (List.mem_append_left _ (List.mem_of_getElem? (i := 31) rfl))))))))))
set_option maxRecDepth 20000 in
theorem wm_392 : (Cond.code y_S_write b_S_write 8 (some .int)) ∈ w_all := List.mem_append_right _ (List.mem_append_right _ (List.mem_append_right _ (List.mem_append_right _ (List.mem_append_right _ (List.mem_append_right _ (List.mem_append_right _ (List.mem_append_right _ (List.mem_append_right _ (List.mem_append_left _ (List.mem_of_getElem? (i := 32) rfl))))))))))
set_option maxRecDepth 20000 in
theorem wm_393 : (Cond.code y_S_read b_S_read 5 (some .long)) ∈ w_all := List.mem_append_right _ (List.mem_append_right _ (List.mem_append_right _ (List.mem_append_right _ (List.mem_append_right _ (List.mem_append_right _ (List.mem_append_right _ (List.mem_append_right _ (List.mem_append_right _ (List.mem_append_left _ (List.mem_of_getElem? (i := 33) rfl))))))))))
set_option maxRecDepth 20000 in
theorem wm_394 : (Cond.code y_S_truncate b_S_truncate 6 (some .int)) ∈ w_all := List.mem_append_right _ (List.mem_append_right _ (List.mem_append_right _ (List.mem_append_right _ (List.mem_append_right _ (List.mem_append_right _ (List.mem_append_right _ (List.mem_append_right _ (List.mem_append_right _ (List.mem_append_left _ (List.mem_of_getElem? (i := 34) rfl))))))))))
set_option maxRecDepth 20000 in
theorem wm_395 : (Cond.code y_S_move b_S_move 8 (some .int)) ∈ w_all := List.mem_append_right _ (List.mem_append_right _ (List.mem_append_right _ (List.mem_append_right _ (List.mem_append_right _ (List.mem_append_right _ (List.mem_append_right _ (List.mem_append_right _ (List.mem_append_right _ (List.mem_append_left _ (List.mem_of_getElem? (i := 35) rfl))))))))))
set_option maxRecDepth 20000 in
theorem wm_396 : (Cond.code y_S_remove b_S_remove 3 (some .int)) ∈ w_all := List.mem_append_right _ (List.mem_append_right _ (List.mem_append_right _ (List.mem_append_right _ (List.mem_append_right _ (List.mem_append_right _ (List.mem_append_right _ (List.mem_append_right _ (List.mem_append_right _ (List.mem_append_left _ (List.mem_of_getElem? (i := 36) rfl))))))))))
set_option maxRecDepth 20000 in
theorem wm_397 : (Cond.code y_S_find b_S_find 4 (some .int)) ∈ w_all := List.mem_append_right _ (List.mem_append_right _ (List.mem_append_right _ (List.mem_append_right _ (List.mem_append_right _ (List.mem_append_right _ (List.mem_append_right _ (List.mem_append_right _ (List.mem_append_right _ (List.mem_append_left _ (List.mem_of_getElem? (i := 37) rfl))))))))))
set_option maxRecDepth 20000 in
theorem wm_398 : (Cond.code y_S_size b_S_size 2 (some .int)) ∈ w_all := List.mem_append_right _ (List.mem_append_right _ (List.mem_append_right _ (List.mem_append_right _ (List.mem_append_right _ (List.mem_append_right _ (List.mem_append_right _ (List.mem_append_right _ (List.mem_append_right _ (List.mem_append_left _ (List.mem_of_getElem? (i := 38) rfl))))))))))
set_option maxRecDepth 20000 in
theorem wm_399 : (Cond.code y_S_parentOf b_S_parentOf 3 (some .int)) ∈ w_all := List.mem_append_right _ (List.mem_append_right _ (List.mem_append_right _ (List.mem_append_right _ (List.mem_append_right _ (List.mem_append_right _ (List.mem_append_right _ (List.mem_append_right _ (List.mem_append_right _ (List.mem_append_left _ (List.mem_of_getElem? (i := 39) rfl))))))))))
set_option maxRecDepth 20000 in
theorem wm_400 : (Cond.code y_S_nameOf b_S_nameOf 3 (some .long)) ∈ w_all := List.mem_append_right _ (List.mem_append_right _ (List.mem_append_right _ (List.mem_append_right _ (List.mem_append_right _ (List.mem_append_right _ (List.mem_append_right _ (List.mem_append_right _ (List.mem_append_right _ (List.mem_append_right _ (List.mem_append_left _ (List.mem_of_getElem? (i := 0) rfl)))))))))))
set_option maxRecDepth 20000 in
theorem wm_401 : (Cond.code y_S_checkpoint b_S_checkpoint 1 (some .int)) ∈ w_all := List.mem_append_right _ (List.mem_append_right _ (List.mem_append_right _ (List.mem_append_right _ (List.mem_append_right _ (List.mem_append_right _ (List.mem_append_right _ (List.mem_append_right _ (List.mem_append_right _ (List.mem_append_right _ (List.mem_append_left _ (List.mem_of_getElem? (i := 1) rfl)))))))))))
set_option maxRecDepth 20000 in
theorem wm_402 : (Cond.code y_S_mount b_S_mount 3 (some .int)) ∈ w_all := List.mem_append_right _ (List.mem_append_right _ (List.mem_append_right _ (List.mem_append_right _ (List.mem_append_right _ (List.mem_append_right _ (List.mem_append_right _ (List.mem_append_right _ (List.mem_append_right _ (List.mem_append_right _ (List.mem_append_left _ (List.mem_of_getElem? (i := 2) rfl)))))))))))
set_option maxRecDepth 20000 in
theorem wm_403 : (Cond.code y_S_cut b_S_cut 2 none) ∈ w_all := List.mem_append_right _ (List.mem_append_right _ (List.mem_append_right _ (List.mem_append_right _ (List.mem_append_right _ (List.mem_append_right _ (List.mem_append_right _ (List.mem_append_right _ (List.mem_append_right _ (List.mem_append_right _ (List.mem_append_left _ (List.mem_of_getElem? (i := 3) rfl)))))))))))
set_option maxRecDepth 20000 in
theorem wm_404 : (Cond.code y_S_flip b_S_flip 4 (some .boolean)) ∈ w_all := List.mem_append_right _ (List.mem_append_right _ (List.mem_append_right _ (List.mem_append_right _ (List.mem_append_right _ (List.mem_append_right _ (List.mem_append_right _ (List.mem_append_right _ (List.mem_append_right _ (List.mem_append_right _ (List.mem_append_left _ (List.mem_of_getElem? (i := 4) rfl)))))))))))
set_option maxRecDepth 20000 in
theorem wm_405 : (Cond.code y_S_wear b_S_wear 2 (some .boolean)) ∈ w_all := List.mem_append_right _ (List.mem_append_right _ (List.mem_append_right _ (List.mem_append_right _ (List.mem_append_right _ (List.mem_append_right _ (List.mem_append_right _ (List.mem_append_right _ (List.mem_append_right _ (List.mem_append_right _ (List.mem_append_left _ (List.mem_of_getElem? (i := 5) rfl)))))))))))
set_option maxRecDepth 20000 in
theorem wm_406 : (Cond.code y_S_tags b_S_tags 4 (some .int)) ∈ w_all := List.mem_append_right _ (List.mem_append_right _ (List.mem_append_right _ (List.mem_append_right _ (List.mem_append_right _ (List.mem_append_right _ (List.mem_append_right _ (List.mem_append_right _ (List.mem_append_right _ (List.mem_append_right _ (List.mem_append_left _ (List.mem_of_getElem? (i := 6) rfl)))))))))))
set_option maxRecDepth 20000 in
theorem wm_407 : (Cond.code y_S_free b_S_free 1 (some .int)) ∈ w_all := List.mem_append_right _ (List.mem_append_right _ (List.mem_append_right _ (List.mem_append_right _ (List.mem_append_right _ (List.mem_append_right _ (List.mem_append_right _ (List.mem_append_right _ (List.mem_append_right _ (List.mem_append_right _ (List.mem_append_left _ (List.mem_of_getElem? (i := 7) rfl)))))))))))
set_option maxRecDepth 20000 in
theorem wm_408 : (Cond.code y_S_erases b_S_erases 2 (some .int)) ∈ w_all := List.mem_append_right _ (List.mem_append_right _ (List.mem_append_right _ (List.mem_append_right _ (List.mem_append_right _ (List.mem_append_right _ (List.mem_append_right _ (List.mem_append_right _ (List.mem_append_right _ (List.mem_append_right _ (List.mem_append_left _ (List.mem_of_getElem? (i := 8) rfl)))))))))))
set_option maxRecDepth 20000 in
theorem wm_409 : (Cond.code y_S_steps b_S_steps 1 (some .int)) ∈ w_all := List.mem_append_right _ (List.mem_append_right _ (List.mem_append_right _ (List.mem_append_right _ (List.mem_append_right _ (List.mem_append_right _ (List.mem_append_right _ (List.mem_append_right _ (List.mem_append_right _ (List.mem_append_right _ (List.mem_append_left _ (List.mem_of_getElem? (i := 9) rfl)))))))))))
set_option maxRecDepth 20000 in
theorem wm_410 : (Cond.code y_M_create b_M_create 6 (some .int)) ∈ w_all := List.mem_append_right _ (List.mem_append_right _ (List.mem_append_right _ (List.mem_append_right _ (List.mem_append_right _ (List.mem_append_right _ (List.mem_append_right _ (List.mem_append_right _ (List.mem_append_right _ (List.mem_append_right _ (List.mem_append_left _ (List.mem_of_getElem? (i := 10) rfl)))))))))))
set_option maxRecDepth 20000 in
theorem wm_411 : (Cond.code y_M_write b_M_write 8 (some .int)) ∈ w_all := List.mem_append_right _ (List.mem_append_right _ (List.mem_append_right _ (List.mem_append_right _ (List.mem_append_right _ (List.mem_append_right _ (List.mem_append_right _ (List.mem_append_right _ (List.mem_append_right _ (List.mem_append_right _ (List.mem_append_left _ (List.mem_of_getElem? (i := 11) rfl)))))))))))
set_option maxRecDepth 20000 in
theorem wm_412 : (Cond.code y_M_read b_M_read 5 (some .long)) ∈ w_all := List.mem_append_right _ (List.mem_append_right _ (List.mem_append_right _ (List.mem_append_right _ (List.mem_append_right _ (List.mem_append_right _ (List.mem_append_right _ (List.mem_append_right _ (List.mem_append_right _ (List.mem_append_right _ (List.mem_append_left _ (List.mem_of_getElem? (i := 12) rfl)))))))))))
set_option maxRecDepth 20000 in
theorem wm_413 : (Cond.code y_M_truncate b_M_truncate 6 (some .int)) ∈ w_all := List.mem_append_right _ (List.mem_append_right _ (List.mem_append_right _ (List.mem_append_right _ (List.mem_append_right _ (List.mem_append_right _ (List.mem_append_right _ (List.mem_append_right _ (List.mem_append_right _ (List.mem_append_right _ (List.mem_append_left _ (List.mem_of_getElem? (i := 13) rfl)))))))))))
set_option maxRecDepth 20000 in
theorem wm_414 : (Cond.code y_M_move b_M_move 6 (some .int)) ∈ w_all := List.mem_append_right _ (List.mem_append_right _ (List.mem_append_right _ (List.mem_append_right _ (List.mem_append_right _ (List.mem_append_right _ (List.mem_append_right _ (List.mem_append_right _ (List.mem_append_right _ (List.mem_append_right _ (List.mem_append_left _ (List.mem_of_getElem? (i := 14) rfl)))))))))))
set_option maxRecDepth 20000 in
theorem wm_415 : (Cond.code y_M_remove b_M_remove 3 (some .int)) ∈ w_all := List.mem_append_right _ (List.mem_append_right _ (List.mem_append_right _ (List.mem_append_right _ (List.mem_append_right _ (List.mem_append_right _ (List.mem_append_right _ (List.mem_append_right _ (List.mem_append_right _ (List.mem_append_right _ (List.mem_append_left _ (List.mem_of_getElem? (i := 15) rfl)))))))))))
set_option maxRecDepth 20000 in
theorem wm_416 : (Cond.code y_M_find b_M_find 3 (some .int)) ∈ w_all := List.mem_append_right _ (List.mem_append_right _ (List.mem_append_right _ (List.mem_append_right _ (List.mem_append_right _ (List.mem_append_right _ (List.mem_append_right _ (List.mem_append_right _ (List.mem_append_right _ (List.mem_append_right _ (List.mem_append_left _ (List.mem_of_getElem? (i := 16) rfl)))))))))))
set_option maxRecDepth 20000 in
theorem wm_417 : (Cond.code y_M_size b_M_size 2 (some .int)) ∈ w_all := List.mem_append_right _ (List.mem_append_right _ (List.mem_append_right _ (List.mem_append_right _ (List.mem_append_right _ (List.mem_append_right _ (List.mem_append_right _ (List.mem_append_right _ (List.mem_append_right _ (List.mem_append_right _ (List.mem_append_left _ (List.mem_of_getElem? (i := 17) rfl)))))))))))
set_option maxRecDepth 20000 in
theorem wm_418 : (Cond.code y_M_parentOf b_M_parentOf 3 (some .int)) ∈ w_all := List.mem_append_right _ (List.mem_append_right _ (List.mem_append_right _ (List.mem_append_right _ (List.mem_append_right _ (List.mem_append_right _ (List.mem_append_right _ (List.mem_append_right _ (List.mem_append_right _ (List.mem_append_right _ (List.mem_append_left _ (List.mem_of_getElem? (i := 18) rfl)))))))))))
set_option maxRecDepth 20000 in
theorem wm_419 : (Cond.code y_M_nameOf b_M_nameOf 3 (some .long)) ∈ w_all := List.mem_append_right _ (List.mem_append_right _ (List.mem_append_right _ (List.mem_append_right _ (List.mem_append_right _ (List.mem_append_right _ (List.mem_append_right _ (List.mem_append_right _ (List.mem_append_right _ (List.mem_append_right _ (List.mem_append_left _ (List.mem_of_getElem? (i := 19) rfl)))))))))))
set_option maxRecDepth 20000 in
theorem wm_420 : (Cond.code y_M_checkpoint b_M_checkpoint 3 (some .int)) ∈ w_all := List.mem_append_right _ (List.mem_append_right _ (List.mem_append_right _ (List.mem_append_right _ (List.mem_append_right _ (List.mem_append_right _ (List.mem_append_right _ (List.mem_append_right _ (List.mem_append_right _ (List.mem_append_right _ (List.mem_append_left _ (List.mem_of_getElem? (i := 20) rfl)))))))))))
set_option maxRecDepth 20000 in
theorem wm_421 : (Cond.code y_M_mount b_M_mount 6 (some .int)) ∈ w_all := List.mem_append_right _ (List.mem_append_right _ (List.mem_append_right _ (List.mem_append_right _ (List.mem_append_right _ (List.mem_append_right _ (List.mem_append_right _ (List.mem_append_right _ (List.mem_append_right _ (List.mem_append_right _ (List.mem_append_left _ (List.mem_of_getElem? (i := 21) rfl)))))))))))
set_option maxRecDepth 20000 in
theorem wm_422 : (Cond.code y_M_cut b_M_cut 2 none) ∈ w_all := List.mem_append_right _ (List.mem_append_right _ (List.mem_append_right _ (List.mem_append_right _ (List.mem_append_right _ (List.mem_append_right _ (List.mem_append_right _ (List.mem_append_right _ (List.mem_append_right _ (List.mem_append_right _ (List.mem_append_left _ (List.mem_of_getElem? (i := 22) rfl)))))))))))
set_option maxRecDepth 20000 in
theorem wm_423 : (Cond.code y_M_flip b_M_flip 5 (some .boolean)) ∈ w_all := List.mem_append_right _ (List.mem_append_right _ (List.mem_append_right _ (List.mem_append_right _ (List.mem_append_right _ (List.mem_append_right _ (List.mem_append_right _ (List.mem_append_right _ (List.mem_append_right _ (List.mem_append_right _ (List.mem_append_left _ (List.mem_of_getElem? (i := 23) rfl)))))))))))
set_option maxRecDepth 20000 in
theorem wm_424 : (Cond.code y_M_wear b_M_wear 2 (some .boolean)) ∈ w_all := List.mem_append_right _ (List.mem_append_right _ (List.mem_append_right _ (List.mem_append_right _ (List.mem_append_right _ (List.mem_append_right _ (List.mem_append_right _ (List.mem_append_right _ (List.mem_append_right _ (List.mem_append_right _ (List.mem_append_left _ (List.mem_of_getElem? (i := 24) rfl)))))))))))
set_option maxRecDepth 20000 in
theorem wm_425 : (Cond.code y_M_tags b_M_tags 5 (some .int)) ∈ w_all := List.mem_append_right _ (List.mem_append_right _ (List.mem_append_right _ (List.mem_append_right _ (List.mem_append_right _ (List.mem_append_right _ (List.mem_append_right _ (List.mem_append_right _ (List.mem_append_right _ (List.mem_append_right _ (List.mem_append_left _ (List.mem_of_getElem? (i := 25) rfl)))))))))))
set_option maxRecDepth 20000 in
theorem wm_426 : (Cond.code y_M_erases b_M_erases 2 (some .int)) ∈ w_all := List.mem_append_right _ (List.mem_append_right _ (List.mem_append_right _ (List.mem_append_right _ (List.mem_append_right _ (List.mem_append_right _ (List.mem_append_right _ (List.mem_append_right _ (List.mem_append_right _ (List.mem_append_right _ (List.mem_append_left _ (List.mem_of_getElem? (i := 26) rfl)))))))))))
set_option maxRecDepth 20000 in
theorem wm_427 : (Cond.code y_M_steps b_M_steps 1 (some .int)) ∈ w_all := List.mem_append_right _ (List.mem_append_right _ (List.mem_append_right _ (List.mem_append_right _ (List.mem_append_right _ (List.mem_append_right _ (List.mem_append_right _ (List.mem_append_right _ (List.mem_append_right _ (List.mem_append_right _ (List.mem_append_left _ (List.mem_of_getElem? (i := 27) rfl)))))))))))
theorem us_S : ∀ w ∈ u_ws R_S F_S 3, w ∈ w_all := fun w hw => List.mem_append_right _ (List.mem_append_right _ (List.mem_append_right _ (List.mem_append_right _ (List.mem_append_right _ (List.mem_append_right _ (List.mem_append_right _ (List.mem_append_right _ (List.mem_append_right _ (List.mem_append_right _ (List.mem_append_right _ (List.mem_append_left _ hw)))))))))))
theorem us_C : ∀ w ∈ u_ws R_C F_C 11, w ∈ w_all := fun w hw => List.mem_append_right _ (List.mem_append_right _ (List.mem_append_right _ (List.mem_append_right _ (List.mem_append_right _ (List.mem_append_right _ (List.mem_append_right _ (List.mem_append_right _ (List.mem_append_right _ (List.mem_append_right _ (List.mem_append_right _ (List.mem_append_right _ (List.mem_append_left _ hw))))))))))))
theorem us_M : ∀ w ∈ u_ws R_M F_M 27, w ∈ w_all := fun w hw => List.mem_append_right _ (List.mem_append_right _ (List.mem_append_right _ (List.mem_append_right _ (List.mem_append_right _ (List.mem_append_right _ (List.mem_append_right _ (List.mem_append_right _ (List.mem_append_right _ (List.mem_append_right _ (List.mem_append_right _ (List.mem_append_right _ (List.mem_append_right _ (hw)))))))))))))
theorem w_good : ∀ w ∈ w_all, (w.onTables && w.keeps) = true ∨ ∃ ty, w = .arrayClass ty := by
  intro w hw
  have h : w_all.all goodWord = true := by decide +kernel
  exact good_of_word (List.all_eq_true.mp h w hw)
end
section
/-! The judgement Ok: from here a method of a world's side comes to its end, and answers as Post says. One row an instruction. -/
abbrev TC : Type := (Nat → Nat → Int32) × (Nat → Int64)
abbrev TR : Type := Nat → Nat → Int32
def up2 (f : Nat → Nat → Int32) (k j : Nat) (x : Int32) : Nat → Nat → Int32 := fun i => cond (Nat.beq i k) (upd (f k) j x) (f i)
def rc (S : TC) (k : Nat) (j : Int32) : Int32 := S.1 k j.toNatClampNeg
def rl (S : TC) (j : Int32) : Int64 := S.2 j.toNatClampNeg
def rr (S : TR) (k : Nat) (j : Int32) : Int32 := S k j.toNatClampNeg
def wc (S : TC) (k : Nat) (j x : Int32) : TC := (up2 S.1 k j.toNatClampNeg x, S.2)
def wl (S : TC) (j : Int32) (x : Int64) : TC := (S.1, vp_updL S.2 j.toNatClampNeg x)
def wr (S : TR) (k : Nat) (j x : Int32) : TR := up2 S k j.toNatClampNeg x
def fc (S : TC) (k j : Nat) (x : Int32) : TC := (up2 S.1 k j x, S.2)
def fr (S : TR) (k j : Nat) (x : Int32) : TR := up2 S k j x
abbrev inB (j : Int32) (n : Nat) : Prop := 0 ≤ j.toInt ∧ j.toInt < n
abbrev isB (x : Int32) : Prop := x = 0 ∨ x = 1
def st {α β : Type} (e : α) (k : α → β) : β := k e
def gd {β : Type} (c : Prop) [Decidable c] (k : Option β) : Option β := if c then k else none
def bd {α σ β : Type} (o : Option (α × σ)) (k : α → σ → Option β) : Option β := match o with
  | none => none
  | some z => k z.1 z.2
theorem st_e {α β : Type} {e : α} {k : α → β} {z : β} (h : st e k = z) : ∃ x, x = e ∧ k x = z := ⟨e, rfl, h⟩
theorem gd_e {β : Type} {c : Prop} [Decidable c] {k : Option β} {z : β} (h : gd c k = some z) : c ∧ k = some z := by
  unfold gd at h
  by_cases hc : c
  · rw [if_pos hc] at h; exact ⟨hc, h⟩
  · rw [if_neg hc] at h; cases h
theorem bd_e {α σ β : Type} {o : Option (α × σ)} {k : α → σ → Option β} {z : β} (h : bd o k = some z) : ∃ x s, o = some (x, s) ∧ k x s = some z := by
  cases o with
  | none => cases h
  | some w => exact ⟨w.1, w.2, rfl, h⟩
theorem so_e {α σ : Type} {x z : α} {s t : σ} (h : some (x, s) = some (z, t)) : x = z ∧ s = t := by
  cases h; exact ⟨rfl, rfl⟩
theorem if_t {α : Type} {c : Prop} [Decidable c] {a b z : α} (hc : c) (h : (if c then a else b) = z) : a = z := by rw [if_pos hc] at h; exact h
theorem if_f {α : Type} {c : Prop} [Decidable c] {a b z : α} (hc : ¬ c) (h : (if c then a else b) = z) : b = z := by rw [if_neg hc] at h; exact h
theorem ib_in {j : Int32} {n : Nat} (h : inB j n) : vp_in j n := vp_in_iff.mpr h
theorem ib_nar {x : Int32} (h : isB x) : narrow .boolean (.int x) = .int x := by rcases h with h | h <;> subst h <;> rfl
theorem ib_vp {x : Int32} (h : isB x) : vp_nar .boolean x = x := by rcases h with h | h <;> subst h <;> rfl
theorem ib_fit {x : Int32} (h : isB x) : fits .boolean (.int x) = true := by rcases h with h | h <;> subst h <;> rfl
def pI {σ : Type} (z : Int32) (S : σ) : Option Value → σ → Prop := fun v u => v = some (.int z) ∧ u = S
def pL {σ : Type} (z : Int64) (S : σ) : Option Value → σ → Prop := fun v u => v = some (.long z) ∧ u = S
def pV {σ : Type} (_z : Unit) (S : σ) : Option Value → σ → Prop := fun v u => v = none ∧ u = S
def ok_F (D : va_G) (tys : List (ClassId × FieldType)) (own : String) (b : ByteArray) (nL : Nat) (ret : Option FieldType) (p : Program) (s : State) (m : MethodId) (args : Array Value) (meth : Method) (c : Code) : Prop :=
  p.tables.exec = Jvm.exec ∧ c.code = b ∧ meth.sig.returnType = ret ∧ meth.locks = false ∧ c.maxLocals = nL ∧ s.vm.findClass own = some m.cls ∧ (∀ w ∈ w_all, w.before args s = true) ∧ va_K D classes tys s
def ok_Y (D : va_G) (A : Nat → Prop) (w : va_W) (s : State) (H : Heap) (locs : List Loc) (ls : Array Slot) (nL : Nat) (Lc : List (Nat × Value)) : Prop :=
  va_P D classes w H ∧ va_D A w ∧ va_S A s.heap H locs ∧ lv_has ls nL Lc ∧ ∀ q : Nat, s.heap.size ≤ q → A q
def ok_Q {σ : Type} (wd : σ → va_W) (D : va_G) (tys : List (ClassId × FieldType)) (A : Nat → Prop) (Post : Option Value → σ → Prop) : Array Value → State → Outcome → State → Prop := fun _ st oc t =>
  (∃ (v : Option Value) (u : σ), oc = .returned v ∧ Post v u ∧ va_P D classes (wd u) t.heap ∧ va_K D classes tys t ∧ va_D A (wd u)) ∧ va_F A st t
abbrev og_X : Type := State → Array Value → (Nat → Prop) → Prop
abbrev og_Q : Type := List Frame → Array Value → State → (Nat → Prop) → State → Prop
def Og {σ : Type} (wd : σ → va_W) (D : va_G) (tys : List (ClassId × FieldType)) (l : Launch) (rm : Room) (own : String) (b : ByteArray) (nL : Nat) (ret : Option FieldType) (X : og_X) (nc ns : Nat) (QQ : og_Q) (S : σ) (pc : Nat) (Lc : List (Nat × Value)) (St : List Value) : Prop :=
  ∀ (p : Program) (e : Env) (s : State) (m : MethodId) (args : Array Value) (below : List Frame) (meth : Method) (c : Code) (A : Nat → Prop) (H : Heap) (locs : List Loc) (ls : Array Slot),
    ok_F D tys own b nL ret p s m args meth c ∧ X s args A → ok_Y D A (wd S) s H locs ls nL Lc →
    W p l e rm s m args below meth c H locs nc ns (QQ below args s A) (F0 m pc ls St)
def og_T : og_X := fun _ _ _ => True
def og_M {σ : Type} (wd : σ → va_W) (D : va_G) (tys : List (ClassId × FieldType)) (Post : Option Value → σ → Prop) : og_Q := fun below args s A => MQ below (ok_Q wd D tys A Post) args s 0 0 A
abbrev Ok {σ : Type} (wd : σ → va_W) (D : va_G) (tys : List (ClassId × FieldType)) (l : Launch) (rm : Room) (own : String) (b : ByteArray) (nL : Nat) (ret : Option FieldType) (S : σ) (pc : Nat) (Lc : List (Nat × Value)) (St : List Value) (Post : Option Value → σ → Prop) : Prop :=
  Og wd D tys l rm own b nL ret og_T 0 0 (og_M wd D tys Post) S pc Lc St
def ok_B {σ : Type} (wd : σ → va_W) (D : va_G) (tys : List (ClassId × FieldType)) (S : σ) (sz : Nat) : State → Prop := fun U => U.heap.size = sz ∧ va_P D classes (wd S) U.heap ∧ va_K D classes tys U ∧ va_D (fun _ => True) (wd S)
def Ct {σ : Type} (wd : σ → va_W) (D : va_G) (tys : List (ClassId × FieldType)) (l : Launch) (y : MethodName) (bc : ByteArray) (nc : Nat) (rt : Option FieldType) (rmc : Room) (av : List Value) (S : σ) (Post : Option Value → σ → Prop) : Prop :=
  ∀ sz : Nat, Met l y (Cond.code y bc nc rt :: w_all) rmc (va_Pc av (ok_B wd D tys S sz)) (ok_Q wd D tys (va_A (wd S) sz) Post) 0 0 (va_A (wd S) sz)
theorem ok_bl {σ : Type} {wd : σ → va_W} {D : va_G} {tys : List (ClassId × FieldType)} {S : σ} {sz : Nat} {av : List Value} : FrameBlind (va_Pc av (ok_B wd D tys S sz)) := fun a U g mk q => by
  obtain ⟨q0, q1, qP, qK, qD⟩ := q
  exact ⟨q0, q1, qP, va_K.moved (u := U) (U := U.calling g mk a) (Vm.Alike.refl U.vm) qK, qD⟩
theorem ok_gi {ws : List Cond} (h : ∀ w ∈ ws, w ∈ w_all) : GoodIn w_all ws := fun w hw => ⟨h w hw, w_good w (h w hw)⟩
section OKR
variable {σ : Type} {wd : σ → va_W} {D : va_G} {tys : List (ClassId × FieldType)} {l : Launch} {rm : Room} {own : String} {b : ByteArray} {nL : Nat} {ret : Option FieldType} {S : σ} {pc q : Nat} {Lc : List (Nat × Value)} {St : List Value} {Post : Option Value → σ → Prop} {X : og_X} {nc0 ns0 : Nat} {QQ : og_Q}
theorem ct_of {y : MethodName} {bc : ByteArray} {nc : Nat} {rt : Option FieldType} {rmc : Room} {av : List Value} (hy : plainName y.cls = true) (hl : (lg_sl av).length ≤ nc) (hLc : lv_args 0 av = Lc) (k : Ok wd D tys l rmc y.cls bc nc rt S 0 Lc [] Post) : Ct wd D tys l y bc nc rt rmc av S Post := by
  intro sz
  refine Met.ofW (cc := bc) (maxL := nc) (ret := rt) hy rfl ?_
  intro p e s m args below meth c s₁ B hml hv
  obtain ⟨rfl, hsz, hP, hK, hD0⟩ := hv
  have hts := atoms_spec (ws := Cond.code y bc nc rt :: w_all) B.pre
  subst hLc
  rw [lg_entry_eq]
  exact k p e s m _ below meth c (va_A (wd S) sz) s.heap [] _ ⟨⟨B.exec, B.bytes, B.returns, B.notSynchronized, hml, findClass_of_methodNamed B.named, fun w hw => hts w (List.mem_cons_of_mem _ hw), hK⟩, trivial⟩ ⟨hP, hD0.self, va_S.rf, lv_entry av hl, fun q h => Or.inr (hsz ▸ h)⟩
theorem ok_sub {Lc' : List (Nat × Value)} (ks : List Nat) (hl : lv_pick Lc ks = Lc') (k : Og wd D tys l rm own b nL ret X nc0 ns0 QQ S pc Lc' St) : Og wd D tys l rm own b nL ret X nc0 ns0 QQ S pc Lc St :=
  fun p e s m args below meth c A H locs ls hF hY => k p e s m args below meth c A H locs ls hF ⟨hY.1, hY.2.1, hY.2.2.1, lv_sub hY.2.2.2.1 ks hl, hY.2.2.2.2⟩
theorem ok_topi {x x' : Int32} (hx : x' = x) (k : Og wd D tys l rm own b nL ret X nc0 ns0 QQ S pc Lc (.int x' :: St)) : Og wd D tys l rm own b nL ret X nc0 ns0 QQ S pc Lc (.int x :: St) := hx ▸ k
theorem ok_topl {x x' : Int64} (hx : x' = x) (k : Og wd D tys l rm own b nL ret X nc0 ns0 QQ S pc Lc (.long x' :: St)) : Og wd D tys l rm own b nL ret X nc0 ns0 QQ S pc Lc (.long x :: St) := hx ▸ k

theorem ok_iadd {x y : Int32} (hd : decode b pc = .ok (.iadd, 1)) (hq : pc + 1 = q) (k : Og wd D tys l rm own b nL ret X nc0 ns0 QQ S q Lc (.int (x + y) :: St)) : Og wd D tys l rm own b nL ret X nc0 ns0 QQ S pc Lc (.int y :: .int x :: St) := by
  subst hq
  intro p e s m args below meth c A H locs ls hF hY
  exact lv_iadd hF.1.1 hF.1.2.1 hd (k p e s m args below meth c A H locs ls hF hY)
theorem ok_isub {x y : Int32} (hd : decode b pc = .ok (.isub, 1)) (hq : pc + 1 = q) (k : Og wd D tys l rm own b nL ret X nc0 ns0 QQ S q Lc (.int (x - y) :: St)) : Og wd D tys l rm own b nL ret X nc0 ns0 QQ S pc Lc (.int y :: .int x :: St) := by
  subst hq
  intro p e s m args below meth c A H locs ls hF hY
  exact lv_isub hF.1.1 hF.1.2.1 hd (k p e s m args below meth c A H locs ls hF hY)
theorem ok_imul {x y : Int32} (hd : decode b pc = .ok (.imul, 1)) (hq : pc + 1 = q) (k : Og wd D tys l rm own b nL ret X nc0 ns0 QQ S q Lc (.int (x * y) :: St)) : Og wd D tys l rm own b nL ret X nc0 ns0 QQ S pc Lc (.int y :: .int x :: St) := by
  subst hq
  intro p e s m args below meth c A H locs ls hF hY
  exact lv_imul hF.1.1 hF.1.2.1 hd (k p e s m args below meth c A H locs ls hF hY)
theorem ok_iand {x y : Int32} (hd : decode b pc = .ok (.iand, 1)) (hq : pc + 1 = q) (k : Og wd D tys l rm own b nL ret X nc0 ns0 QQ S q Lc (.int (x &&& y) :: St)) : Og wd D tys l rm own b nL ret X nc0 ns0 QQ S pc Lc (.int y :: .int x :: St) := by
  subst hq
  intro p e s m args below meth c A H locs ls hF hY
  exact lv_iand hF.1.1 hF.1.2.1 hd (k p e s m args below meth c A H locs ls hF hY)
theorem ok_ior {x y : Int32} (hd : decode b pc = .ok (.ior, 1)) (hq : pc + 1 = q) (k : Og wd D tys l rm own b nL ret X nc0 ns0 QQ S q Lc (.int (x ||| y) :: St)) : Og wd D tys l rm own b nL ret X nc0 ns0 QQ S pc Lc (.int y :: .int x :: St) := by
  subst hq
  intro p e s m args below meth c A H locs ls hF hY
  exact lv_ior hF.1.1 hF.1.2.1 hd (k p e s m args below meth c A H locs ls hF hY)
theorem ok_ixor {x y : Int32} (hd : decode b pc = .ok (.ixor, 1)) (hq : pc + 1 = q) (k : Og wd D tys l rm own b nL ret X nc0 ns0 QQ S q Lc (.int (x ^^^ y) :: St)) : Og wd D tys l rm own b nL ret X nc0 ns0 QQ S pc Lc (.int y :: .int x :: St) := by
  subst hq
  intro p e s m args below meth c A H locs ls hF hY
  exact lv_ixor hF.1.1 hF.1.2.1 hd (k p e s m args below meth c A H locs ls hF hY)
theorem ok_ishl {x y : Int32} (hd : decode b pc = .ok (.ishl, 1)) (hq : pc + 1 = q) (k : Og wd D tys l rm own b nL ret X nc0 ns0 QQ S q Lc (.int (x <<< (y &&& 31)) :: St)) : Og wd D tys l rm own b nL ret X nc0 ns0 QQ S pc Lc (.int y :: .int x :: St) := by
  subst hq
  intro p e s m args below meth c A H locs ls hF hY
  exact lv_ishl hF.1.1 hF.1.2.1 hd (k p e s m args below meth c A H locs ls hF hY)
theorem ok_ishr {x y : Int32} (hd : decode b pc = .ok (.ishr, 1)) (hq : pc + 1 = q) (k : Og wd D tys l rm own b nL ret X nc0 ns0 QQ S q Lc (.int (x >>> (y &&& 31)) :: St)) : Og wd D tys l rm own b nL ret X nc0 ns0 QQ S pc Lc (.int y :: .int x :: St) := by
  subst hq
  intro p e s m args below meth c A H locs ls hF hY
  exact lv_ishr hF.1.1 hF.1.2.1 hd (k p e s m args below meth c A H locs ls hF hY)
theorem ok_idiv {x y : Int32} (hd : decode b pc = .ok (.idiv, 1)) (hne : ¬ y = 0) (hq : pc + 1 = q) (k : Og wd D tys l rm own b nL ret X nc0 ns0 QQ S q Lc (.int (x / y) :: St)) : Og wd D tys l rm own b nL ret X nc0 ns0 QQ S pc Lc (.int y :: .int x :: St) := by
  subst hq
  intro p e s m args below meth c A H locs ls hF hY
  exact lv_idiv hF.1.1 hF.1.2.1 hd hne (k p e s m args below meth c A H locs ls hF hY)
theorem ok_irem {x y : Int32} (hd : decode b pc = .ok (.irem, 1)) (hne : ¬ y = 0) (hq : pc + 1 = q) (k : Og wd D tys l rm own b nL ret X nc0 ns0 QQ S q Lc (.int (x - x / y * y) :: St)) : Og wd D tys l rm own b nL ret X nc0 ns0 QQ S pc Lc (.int y :: .int x :: St) := by
  subst hq
  intro p e s m args below meth c A H locs ls hF hY
  exact lv_irem hF.1.1 hF.1.2.1 hd hne (k p e s m args below meth c A H locs ls hF hY)
theorem ok_ladd {x y : Int64} (hd : decode b pc = .ok (.ladd, 1)) (hq : pc + 1 = q) (k : Og wd D tys l rm own b nL ret X nc0 ns0 QQ S q Lc (.long (x + y) :: St)) : Og wd D tys l rm own b nL ret X nc0 ns0 QQ S pc Lc (.long y :: .long x :: St) := by
  subst hq
  intro p e s m args below meth c A H locs ls hF hY
  exact lv_ladd hF.1.1 hF.1.2.1 hd (k p e s m args below meth c A H locs ls hF hY)
theorem ok_lsub {x y : Int64} (hd : decode b pc = .ok (.lsub, 1)) (hq : pc + 1 = q) (k : Og wd D tys l rm own b nL ret X nc0 ns0 QQ S q Lc (.long (x - y) :: St)) : Og wd D tys l rm own b nL ret X nc0 ns0 QQ S pc Lc (.long y :: .long x :: St) := by
  subst hq
  intro p e s m args below meth c A H locs ls hF hY
  exact lv_lsub hF.1.1 hF.1.2.1 hd (k p e s m args below meth c A H locs ls hF hY)
theorem ok_land {x y : Int64} (hd : decode b pc = .ok (.land, 1)) (hq : pc + 1 = q) (k : Og wd D tys l rm own b nL ret X nc0 ns0 QQ S q Lc (.long (x &&& y) :: St)) : Og wd D tys l rm own b nL ret X nc0 ns0 QQ S pc Lc (.long y :: .long x :: St) := by
  subst hq
  intro p e s m args below meth c A H locs ls hF hY
  exact lv_land hF.1.1 hF.1.2.1 hd (k p e s m args below meth c A H locs ls hF hY)
theorem ok_lor {x y : Int64} (hd : decode b pc = .ok (.lor, 1)) (hq : pc + 1 = q) (k : Og wd D tys l rm own b nL ret X nc0 ns0 QQ S q Lc (.long (x ||| y) :: St)) : Og wd D tys l rm own b nL ret X nc0 ns0 QQ S pc Lc (.long y :: .long x :: St) := by
  subst hq
  intro p e s m args below meth c A H locs ls hF hY
  exact lv_lor hF.1.1 hF.1.2.1 hd (k p e s m args below meth c A H locs ls hF hY)
theorem ok_lxor {x y : Int64} (hd : decode b pc = .ok (.lxor, 1)) (hq : pc + 1 = q) (k : Og wd D tys l rm own b nL ret X nc0 ns0 QQ S q Lc (.long (x ^^^ y) :: St)) : Og wd D tys l rm own b nL ret X nc0 ns0 QQ S pc Lc (.long y :: .long x :: St) := by
  subst hq
  intro p e s m args below meth c A H locs ls hF hY
  exact lv_lxor hF.1.1 hF.1.2.1 hd (k p e s m args below meth c A H locs ls hF hY)
theorem ok_lshl {x : Int64} {y : Int32} (hd : decode b pc = .ok (.lshl, 1)) (hq : pc + 1 = q) (k : Og wd D tys l rm own b nL ret X nc0 ns0 QQ S q Lc (.long (x <<< (y.toInt64 &&& 63)) :: St)) : Og wd D tys l rm own b nL ret X nc0 ns0 QQ S pc Lc (.int y :: .long x :: St) := by
  subst hq
  intro p e s m args below meth c A H locs ls hF hY
  exact lv_lshl hF.1.1 hF.1.2.1 hd rfl (k p e s m args below meth c A H locs ls hF hY)
theorem ok_lushr {x : Int64} {y : Int32} (hd : decode b pc = .ok (.lushr, 1)) (hq : pc + 1 = q) (k : Og wd D tys l rm own b nL ret X nc0 ns0 QQ S q Lc (.long ((x.toUInt64 >>> (y.toInt64.toUInt64 &&& Int64.toUInt64 63)).toInt64) :: St)) : Og wd D tys l rm own b nL ret X nc0 ns0 QQ S pc Lc (.int y :: .long x :: St) := by
  subst hq
  intro p e s m args below meth c A H locs ls hF hY
  exact lv_lushr hF.1.1 hF.1.2.1 hd rfl (k p e s m args below meth c A H locs ls hF hY)
theorem ok_i2l {x : Int32} (hd : decode b pc = .ok (.i2l, 1)) (hq : pc + 1 = q) (k : Og wd D tys l rm own b nL ret X nc0 ns0 QQ S q Lc (.long x.toInt64 :: St)) : Og wd D tys l rm own b nL ret X nc0 ns0 QQ S pc Lc (.int x :: St) := by
  subst hq
  intro p e s m args below meth c A H locs ls hF hY
  exact lv_i2l hF.1.1 hF.1.2.1 hd rfl (k p e s m args below meth c A H locs ls hF hY)
theorem ok_l2i {x : Int64} (hd : decode b pc = .ok (.l2i, 1)) (hq : pc + 1 = q) (k : Og wd D tys l rm own b nL ret X nc0 ns0 QQ S q Lc (.int x.toInt32 :: St)) : Og wd D tys l rm own b nL ret X nc0 ns0 QQ S pc Lc (.long x :: St) := by
  subst hq
  intro p e s m args below meth c A H locs ls hF hY
  exact lv_l2i hF.1.1 hF.1.2.1 hd rfl (k p e s m args below meth c A H locs ls hF hY)
theorem ok_lcmp {x y : Int64} (hd : decode b pc = .ok (.lcmp, 1)) (hq : pc + 1 = q) (k : Og wd D tys l rm own b nL ret X nc0 ns0 QQ S q Lc (.int (lg_cmp x y) :: St)) : Og wd D tys l rm own b nL ret X nc0 ns0 QQ S pc Lc (.long y :: .long x :: St) := by
  subst hq
  intro p e s m args below meth c A H locs ls hF hY
  exact W.lcmp hF.1.1 hF.1.2.1 hd (k p e s m args below meth c A H locs ls hF hY)
theorem ok_dup {va : Value} (hd : decode b pc = .ok (.dup, 1)) (hva : va.category = 1) (hq : pc + 1 = q) (k : Og wd D tys l rm own b nL ret X nc0 ns0 QQ S q Lc (va :: va :: St)) : Og wd D tys l rm own b nL ret X nc0 ns0 QQ S pc Lc (va :: St) := by
  subst hq
  intro p e s m args below meth c A H locs ls hF hY
  exact lv_dup hF.1.1 hF.1.2.1 hd hva (k p e s m args below meth c A H locs ls hF hY)
theorem ok_pop {va : Value} (hd : decode b pc = .ok (.pop, 1)) (hva : va.category = 1) (hq : pc + 1 = q) (k : Og wd D tys l rm own b nL ret X nc0 ns0 QQ S q Lc (St)) : Og wd D tys l rm own b nL ret X nc0 ns0 QQ S pc Lc (va :: St) := by
  subst hq
  intro p e s m args below meth c A H locs ls hF hY
  exact lv_pop hF.1.1 hF.1.2.1 hd hva (k p e s m args below meth c A H locs ls hF hY)
theorem ok_dup2 {va vb : Value} (hd : decode b pc = .ok (.dup2, 1)) (hva : va.category = 1) (hvb : vb.category = 1) (hq : pc + 1 = q) (k : Og wd D tys l rm own b nL ret X nc0 ns0 QQ S q Lc (va :: vb :: va :: vb :: St)) : Og wd D tys l rm own b nL ret X nc0 ns0 QQ S pc Lc (va :: vb :: St) := by
  subst hq
  intro p e s m args below meth c A H locs ls hF hY
  exact lv_dup2_11 hF.1.1 hF.1.2.1 hd hva hvb (k p e s m args below meth c A H locs ls hF hY)
theorem ok_iconst {n : Int} {v : Int32} (hd : decode b pc = .ok (.iconst n, 1)) (hv : Int32.ofInt n = v) (hq : pc + 1 = q) (k : Og wd D tys l rm own b nL ret X nc0 ns0 QQ S q Lc (.int v :: St)) : Og wd D tys l rm own b nL ret X nc0 ns0 QQ S pc Lc (St) := by
  subst hq
  intro p e s m args below meth c A H locs ls hF hY
  exact lv_iconst hF.1.1 hF.1.2.1 hd hv (k p e s m args below meth c A H locs ls hF hY)
theorem ok_bipush {n : Int} {v : Int32} (hd : decode b pc = .ok (.bipush n, 2)) (hv : (Int8.ofInt n).toInt32 = v) (hq : pc + 2 = q) (k : Og wd D tys l rm own b nL ret X nc0 ns0 QQ S q Lc (.int v :: St)) : Og wd D tys l rm own b nL ret X nc0 ns0 QQ S pc Lc (St) := by
  subst hq
  intro p e s m args below meth c A H locs ls hF hY
  exact lv_bipush hF.1.1 hF.1.2.1 hd hv (k p e s m args below meth c A H locs ls hF hY)
theorem ok_sipush {n : Int} {v : Int32} (hd : decode b pc = .ok (.sipush n, 3)) (hv : (Int16.ofInt n).toInt32 = v) (hq : pc + 3 = q) (k : Og wd D tys l rm own b nL ret X nc0 ns0 QQ S q Lc (.int v :: St)) : Og wd D tys l rm own b nL ret X nc0 ns0 QQ S pc Lc (St) := by
  subst hq
  intro p e s m args below meth c A H locs ls hF hY
  exact lv_sipush hF.1.1 hF.1.2.1 hd hv (k p e s m args below meth c A H locs ls hF hY)
theorem ok_lconst {n : Fin 2} {v : Int64} (hd : decode b pc = .ok (.lconst n, 1)) (hv : Int64.ofNat (n : Nat) = v) (hq : pc + 1 = q) (k : Og wd D tys l rm own b nL ret X nc0 ns0 QQ S q Lc (.long v :: St)) : Og wd D tys l rm own b nL ret X nc0 ns0 QQ S pc Lc (St) := by
  subst hq
  intro p e s m args below meth c A H locs ls hF hY
  exact lv_lconst hF.1.1 hF.1.2.1 hd hv (k p e s m args below meth c A H locs ls hF hY)
theorem ok_ldc {index : Nat} {v : Int32} (hc : Cond.constant own index v ∈ w_all) (hd : decode b pc = .ok (.ldc index, 2)) (hq : pc + 2 = q) (k : Og wd D tys l rm own b nL ret X nc0 ns0 QQ S q Lc (.int v :: St)) : Og wd D tys l rm own b nL ret X nc0 ns0 QQ S pc Lc (St) := by
  subst hq
  intro p e s m args below meth c A H locs ls hF hY
  exact lv_ldc hF.1.1 hF.1.2.1 hF.1.2.2.2.2.2.1 (hF.1.2.2.2.2.2.2.1 _ hc) hd (k p e s m args below meth c A H locs ls hF hY)
theorem ok_ldc2 {index : Nat} {v : Int64} (hc : Cond.constantLong own index v ∈ w_all) (hd : decode b pc = .ok (.ldc2_w index, 3)) (hq : pc + 3 = q) (k : Og wd D tys l rm own b nL ret X nc0 ns0 QQ S q Lc (.long v :: St)) : Og wd D tys l rm own b nL ret X nc0 ns0 QQ S pc Lc (St) := by
  subst hq
  intro p e s m args below meth c A H locs ls hF hY
  exact lv_ldc2 hF.1.1 hF.1.2.1 hF.1.2.2.2.2.2.1 (hF.1.2.2.2.2.2.2.1 _ hc) hd (k p e s m args below meth c A H locs ls hF hY)
theorem ok_iload_n {k4 : Fin 4} {i : Nat} {x : Int32} (k0 : Nat) (hd : decode b pc = .ok (.iload_n k4, 1)) (hi : (k4 : Nat) = i) (hk : Lc[k0]? = some (i, .int x)) (hq : pc + 1 = q) (k : Og wd D tys l rm own b nL ret X nc0 ns0 QQ S q Lc (.int x :: St)) : Og wd D tys l rm own b nL ret X nc0 ns0 QQ S pc Lc (St) := by
  subst hq
  intro p e s m args below meth c A H locs ls hF hY
  exact lv_iload_n hF.1.1 hF.1.2.1 hd hi (lv_at hY.2.2.2.1 k0 hk) (k p e s m args below meth c A H locs ls hF hY)
theorem ok_iload {i : Nat} {x : Int32} (k0 : Nat) (hd : decode b pc = .ok (.iload i, 2)) (hk : Lc[k0]? = some (i, .int x)) (hq : pc + 2 = q) (k : Og wd D tys l rm own b nL ret X nc0 ns0 QQ S q Lc (.int x :: St)) : Og wd D tys l rm own b nL ret X nc0 ns0 QQ S pc Lc (St) := by
  subst hq
  intro p e s m args below meth c A H locs ls hF hY
  exact lv_iload hF.1.1 hF.1.2.1 hd (lv_at hY.2.2.2.1 k0 hk) (k p e s m args below meth c A H locs ls hF hY)
theorem ok_lload_n {k4 : Fin 4} {i : Nat} {x : Int64} (k0 : Nat) (hd : decode b pc = .ok (.lload_n k4, 1)) (hi : (k4 : Nat) = i) (hk : Lc[k0]? = some (i, .long x)) (hq : pc + 1 = q) (k : Og wd D tys l rm own b nL ret X nc0 ns0 QQ S q Lc (.long x :: St)) : Og wd D tys l rm own b nL ret X nc0 ns0 QQ S pc Lc (St) := by
  subst hq
  intro p e s m args below meth c A H locs ls hF hY
  exact lv_lload_n hF.1.1 hF.1.2.1 hd hi (lv_at hY.2.2.2.1 k0 hk) (k p e s m args below meth c A H locs ls hF hY)
theorem ok_lload {i : Nat} {x : Int64} (k0 : Nat) (hd : decode b pc = .ok (.lload i, 2)) (hk : Lc[k0]? = some (i, .long x)) (hq : pc + 2 = q) (k : Og wd D tys l rm own b nL ret X nc0 ns0 QQ S q Lc (.long x :: St)) : Og wd D tys l rm own b nL ret X nc0 ns0 QQ S pc Lc (St) := by
  subst hq
  intro p e s m args below meth c A H locs ls hF hY
  exact lv_lload hF.1.1 hF.1.2.1 hd (lv_at hY.2.2.2.1 k0 hk) (k p e s m args below meth c A H locs ls hF hY)
theorem ok_aload_n {k4 : Fin 4} {i : Nat} {x : Nat} (k0 : Nat) (hd : decode b pc = .ok (.aload_n k4, 1)) (hi : (k4 : Nat) = i) (hk : Lc[k0]? = some (i, .ref x)) (hq : pc + 1 = q) (k : Og wd D tys l rm own b nL ret X nc0 ns0 QQ S q Lc (.ref x :: St)) : Og wd D tys l rm own b nL ret X nc0 ns0 QQ S pc Lc (St) := by
  subst hq
  intro p e s m args below meth c A H locs ls hF hY
  exact lv_aload_n hF.1.1 hF.1.2.1 hd hi (lv_at hY.2.2.2.1 k0 hk) (k p e s m args below meth c A H locs ls hF hY)
theorem ok_aload {i : Nat} {x : Nat} (k0 : Nat) (hd : decode b pc = .ok (.aload i, 2)) (hk : Lc[k0]? = some (i, .ref x)) (hq : pc + 2 = q) (k : Og wd D tys l rm own b nL ret X nc0 ns0 QQ S q Lc (.ref x :: St)) : Og wd D tys l rm own b nL ret X nc0 ns0 QQ S pc Lc (St) := by
  subst hq
  intro p e s m args below meth c A H locs ls hF hY
  exact lv_aload hF.1.1 hF.1.2.1 hd (lv_at hY.2.2.2.1 k0 hk) (k p e s m args below meth c A H locs ls hF hY)
theorem ok_istore_n {k4 : Fin 4} {i : Nat} {x : Int32} {lv : List (Nat × Value)} (hd : decode b pc = .ok (.istore_n k4, 1)) (hi : (k4 : Nat) = i) (hn : i < nL) (hl : (i, Value.int x) :: Lc.filter (fun q => !(q.1 == i) && !(q.1 + 1 == i && q.2.category == 2)) = lv) (hq : pc + 1 = q) (k : Og wd D tys l rm own b nL ret X nc0 ns0 QQ S q lv St) : Og wd D tys l rm own b nL ret X nc0 ns0 QQ S pc Lc (.int x :: St) := by
  subst hq
  intro p e s m args below meth c A H locs ls hF hY
  exact lv_istore_n hF.1.1 hF.1.2.1 hd hi hY.2.2.2.1 hn hl (fun ls2 hl2 => k p e s m args below meth c A H locs ls2 hF ⟨hY.1, hY.2.1, hY.2.2.1, hl2, hY.2.2.2.2⟩)
theorem ok_istore {i : Nat} {x : Int32} {lv : List (Nat × Value)} (hd : decode b pc = .ok (.istore i, 2)) (hn : i < nL) (hl : (i, Value.int x) :: Lc.filter (fun q => !(q.1 == i) && !(q.1 + 1 == i && q.2.category == 2)) = lv) (hq : pc + 2 = q) (k : Og wd D tys l rm own b nL ret X nc0 ns0 QQ S q lv St) : Og wd D tys l rm own b nL ret X nc0 ns0 QQ S pc Lc (.int x :: St) := by
  subst hq
  intro p e s m args below meth c A H locs ls hF hY
  exact lv_istore hF.1.1 hF.1.2.1 hd hY.2.2.2.1 hn hl (fun ls2 hl2 => k p e s m args below meth c A H locs ls2 hF ⟨hY.1, hY.2.1, hY.2.2.1, hl2, hY.2.2.2.2⟩)
theorem ok_lstore_n {k4 : Fin 4} {i : Nat} {x : Int64} {lv : List (Nat × Value)} (hd : decode b pc = .ok (.lstore_n k4, 1)) (hi : (k4 : Nat) = i) (hn : i + 1 < nL) (hl : (i, Value.long x) :: Lc.filter (fun q => !(q.1 == i) && (!(q.1 == i + 1) && !(q.1 + 1 == i && q.2.category == 2))) = lv) (hq : pc + 1 = q) (k : Og wd D tys l rm own b nL ret X nc0 ns0 QQ S q lv St) : Og wd D tys l rm own b nL ret X nc0 ns0 QQ S pc Lc (.long x :: St) := by
  subst hq
  intro p e s m args below meth c A H locs ls hF hY
  exact lv_lstore_n hF.1.1 hF.1.2.1 hd hi hY.2.2.2.1 hn hl (fun ls2 hl2 => k p e s m args below meth c A H locs ls2 hF ⟨hY.1, hY.2.1, hY.2.2.1, hl2, hY.2.2.2.2⟩)
theorem ok_lstore {i : Nat} {x : Int64} {lv : List (Nat × Value)} (hd : decode b pc = .ok (.lstore i, 2)) (hn : i + 1 < nL) (hl : (i, Value.long x) :: Lc.filter (fun q => !(q.1 == i) && (!(q.1 == i + 1) && !(q.1 + 1 == i && q.2.category == 2))) = lv) (hq : pc + 2 = q) (k : Og wd D tys l rm own b nL ret X nc0 ns0 QQ S q lv St) : Og wd D tys l rm own b nL ret X nc0 ns0 QQ S pc Lc (.long x :: St) := by
  subst hq
  intro p e s m args below meth c A H locs ls hF hY
  exact lv_lstore hF.1.1 hF.1.2.1 hd hY.2.2.2.1 hn hl (fun ls2 hl2 => k p e s m args below meth c A H locs ls2 hF ⟨hY.1, hY.2.1, hY.2.2.1, hl2, hY.2.2.2.2⟩)
theorem ok_iinc {i : Nat} {n : Int} {x v d : Int32} {lv : List (Nat × Value)} (k0 : Nat) (hd : decode b pc = .ok (.iinc i n, 3)) (hk : Lc[k0]? = some (i, .int x)) (hdn : Int32.ofInt n = d) (hv : v = x + d) (hn : i < nL) (hl : (i, Value.int v) :: Lc.filter (fun q => !(q.1 == i) && !(q.1 + 1 == i && q.2.category == 2)) = lv) (hq : pc + 3 = q) (k : Og wd D tys l rm own b nL ret X nc0 ns0 QQ S q lv St) : Og wd D tys l rm own b nL ret X nc0 ns0 QQ S pc Lc St := by
  subst hq
  subst hdn
  intro p e s m args below meth c A H locs ls hF hY
  exact lv_iinc hF.1.1 hF.1.2.1 hd hY.2.2.2.1 hk hv.symm hn hl (fun ls2 hl2 => k p e s m args below meth c A H locs ls2 hF ⟨hY.1, hY.2.1, hY.2.2.1, hl2, hY.2.2.2.2⟩)
theorem ok_if_eq {x : Int32} {off : Int} {t : Nat} (hd : decode b pc = .ok (.ifCond .eq off, 3)) (ht : (pc : Int) + off = (t : Int)) (hq : pc + 3 = q) (kt : x = 0 → Og wd D tys l rm own b nL ret X nc0 ns0 QQ S t Lc St) (kf : ¬ x = 0 → Og wd D tys l rm own b nL ret X nc0 ns0 QQ S q Lc St) : Og wd D tys l rm own b nL ret X nc0 ns0 QQ S pc Lc (.int x :: St) := by
  subst hq
  intro p e s m args below meth c A H locs ls hF hY
  exact lv_if_eq hF.1.1 hF.1.2.1 hd ht (fun hc => kt hc p e s m args below meth c A H locs ls hF hY) (fun hc => kf hc p e s m args below meth c A H locs ls hF hY)
theorem ok_if_ne {x : Int32} {off : Int} {t : Nat} (hd : decode b pc = .ok (.ifCond .ne off, 3)) (ht : (pc : Int) + off = (t : Int)) (hq : pc + 3 = q) (kt : ¬ x = 0 → Og wd D tys l rm own b nL ret X nc0 ns0 QQ S t Lc St) (kf : x = 0 → Og wd D tys l rm own b nL ret X nc0 ns0 QQ S q Lc St) : Og wd D tys l rm own b nL ret X nc0 ns0 QQ S pc Lc (.int x :: St) := by
  subst hq
  intro p e s m args below meth c A H locs ls hF hY
  exact lv_if_ne hF.1.1 hF.1.2.1 hd ht (fun hc => kt hc p e s m args below meth c A H locs ls hF hY) (fun hc => kf hc p e s m args below meth c A H locs ls hF hY)
theorem ok_if_lt {x : Int32} {off : Int} {t : Nat} (hd : decode b pc = .ok (.ifCond .lt off, 3)) (ht : (pc : Int) + off = (t : Int)) (hq : pc + 3 = q) (kt : x < 0 → Og wd D tys l rm own b nL ret X nc0 ns0 QQ S t Lc St) (kf : ¬ x < 0 → Og wd D tys l rm own b nL ret X nc0 ns0 QQ S q Lc St) : Og wd D tys l rm own b nL ret X nc0 ns0 QQ S pc Lc (.int x :: St) := by
  subst hq
  intro p e s m args below meth c A H locs ls hF hY
  exact lv_if_lt hF.1.1 hF.1.2.1 hd ht (fun hc => kt hc p e s m args below meth c A H locs ls hF hY) (fun hc => kf hc p e s m args below meth c A H locs ls hF hY)
theorem ok_if_ge {x : Int32} {off : Int} {t : Nat} (hd : decode b pc = .ok (.ifCond .ge off, 3)) (ht : (pc : Int) + off = (t : Int)) (hq : pc + 3 = q) (kt : 0 ≤ x → Og wd D tys l rm own b nL ret X nc0 ns0 QQ S t Lc St) (kf : ¬ 0 ≤ x → Og wd D tys l rm own b nL ret X nc0 ns0 QQ S q Lc St) : Og wd D tys l rm own b nL ret X nc0 ns0 QQ S pc Lc (.int x :: St) := by
  subst hq
  intro p e s m args below meth c A H locs ls hF hY
  exact lv_if_ge hF.1.1 hF.1.2.1 hd ht (fun hc => kt hc p e s m args below meth c A H locs ls hF hY) (fun hc => kf hc p e s m args below meth c A H locs ls hF hY)
theorem ok_if_gt {x : Int32} {off : Int} {t : Nat} (hd : decode b pc = .ok (.ifCond .gt off, 3)) (ht : (pc : Int) + off = (t : Int)) (hq : pc + 3 = q) (kt : 0 < x → Og wd D tys l rm own b nL ret X nc0 ns0 QQ S t Lc St) (kf : ¬ 0 < x → Og wd D tys l rm own b nL ret X nc0 ns0 QQ S q Lc St) : Og wd D tys l rm own b nL ret X nc0 ns0 QQ S pc Lc (.int x :: St) := by
  subst hq
  intro p e s m args below meth c A H locs ls hF hY
  exact lv_if_gt hF.1.1 hF.1.2.1 hd ht (fun hc => kt hc p e s m args below meth c A H locs ls hF hY) (fun hc => kf hc p e s m args below meth c A H locs ls hF hY)
theorem ok_if_le {x : Int32} {off : Int} {t : Nat} (hd : decode b pc = .ok (.ifCond .le off, 3)) (ht : (pc : Int) + off = (t : Int)) (hq : pc + 3 = q) (kt : x ≤ 0 → Og wd D tys l rm own b nL ret X nc0 ns0 QQ S t Lc St) (kf : ¬ x ≤ 0 → Og wd D tys l rm own b nL ret X nc0 ns0 QQ S q Lc St) : Og wd D tys l rm own b nL ret X nc0 ns0 QQ S pc Lc (.int x :: St) := by
  subst hq
  intro p e s m args below meth c A H locs ls hF hY
  exact lv_if_le hF.1.1 hF.1.2.1 hd ht (fun hc => kt hc p e s m args below meth c A H locs ls hF hY) (fun hc => kf hc p e s m args below meth c A H locs ls hF hY)
theorem ok_icmp_eq {x y : Int32} {off : Int} {t : Nat} (hd : decode b pc = .ok (.if_icmp .eq off, 3)) (ht : (pc : Int) + off = (t : Int)) (hq : pc + 3 = q) (kt : x = y → Og wd D tys l rm own b nL ret X nc0 ns0 QQ S t Lc St) (kf : ¬ x = y → Og wd D tys l rm own b nL ret X nc0 ns0 QQ S q Lc St) : Og wd D tys l rm own b nL ret X nc0 ns0 QQ S pc Lc (.int y :: .int x :: St) := by
  subst hq
  intro p e s m args below meth c A H locs ls hF hY
  exact lv_icmp_eq hF.1.1 hF.1.2.1 hd ht (fun hc => kt hc p e s m args below meth c A H locs ls hF hY) (fun hc => kf hc p e s m args below meth c A H locs ls hF hY)
theorem ok_icmp_ne {x y : Int32} {off : Int} {t : Nat} (hd : decode b pc = .ok (.if_icmp .ne off, 3)) (ht : (pc : Int) + off = (t : Int)) (hq : pc + 3 = q) (kt : ¬ x = y → Og wd D tys l rm own b nL ret X nc0 ns0 QQ S t Lc St) (kf : x = y → Og wd D tys l rm own b nL ret X nc0 ns0 QQ S q Lc St) : Og wd D tys l rm own b nL ret X nc0 ns0 QQ S pc Lc (.int y :: .int x :: St) := by
  subst hq
  intro p e s m args below meth c A H locs ls hF hY
  exact lv_icmp_ne hF.1.1 hF.1.2.1 hd ht (fun hc => kt hc p e s m args below meth c A H locs ls hF hY) (fun hc => kf hc p e s m args below meth c A H locs ls hF hY)
theorem ok_icmp_lt {x y : Int32} {off : Int} {t : Nat} (hd : decode b pc = .ok (.if_icmp .lt off, 3)) (ht : (pc : Int) + off = (t : Int)) (hq : pc + 3 = q) (kt : x < y → Og wd D tys l rm own b nL ret X nc0 ns0 QQ S t Lc St) (kf : ¬ x < y → Og wd D tys l rm own b nL ret X nc0 ns0 QQ S q Lc St) : Og wd D tys l rm own b nL ret X nc0 ns0 QQ S pc Lc (.int y :: .int x :: St) := by
  subst hq
  intro p e s m args below meth c A H locs ls hF hY
  exact lv_icmp_lt hF.1.1 hF.1.2.1 hd ht (fun hc => kt hc p e s m args below meth c A H locs ls hF hY) (fun hc => kf hc p e s m args below meth c A H locs ls hF hY)
theorem ok_icmp_ge {x y : Int32} {off : Int} {t : Nat} (hd : decode b pc = .ok (.if_icmp .ge off, 3)) (ht : (pc : Int) + off = (t : Int)) (hq : pc + 3 = q) (kt : y ≤ x → Og wd D tys l rm own b nL ret X nc0 ns0 QQ S t Lc St) (kf : ¬ y ≤ x → Og wd D tys l rm own b nL ret X nc0 ns0 QQ S q Lc St) : Og wd D tys l rm own b nL ret X nc0 ns0 QQ S pc Lc (.int y :: .int x :: St) := by
  subst hq
  intro p e s m args below meth c A H locs ls hF hY
  exact lv_icmp_ge hF.1.1 hF.1.2.1 hd ht (fun hc => kt hc p e s m args below meth c A H locs ls hF hY) (fun hc => kf hc p e s m args below meth c A H locs ls hF hY)
theorem ok_icmp_gt {x y : Int32} {off : Int} {t : Nat} (hd : decode b pc = .ok (.if_icmp .gt off, 3)) (ht : (pc : Int) + off = (t : Int)) (hq : pc + 3 = q) (kt : y < x → Og wd D tys l rm own b nL ret X nc0 ns0 QQ S t Lc St) (kf : ¬ y < x → Og wd D tys l rm own b nL ret X nc0 ns0 QQ S q Lc St) : Og wd D tys l rm own b nL ret X nc0 ns0 QQ S pc Lc (.int y :: .int x :: St) := by
  subst hq
  intro p e s m args below meth c A H locs ls hF hY
  exact lv_icmp_gt hF.1.1 hF.1.2.1 hd ht (fun hc => kt hc p e s m args below meth c A H locs ls hF hY) (fun hc => kf hc p e s m args below meth c A H locs ls hF hY)
theorem ok_icmp_le {x y : Int32} {off : Int} {t : Nat} (hd : decode b pc = .ok (.if_icmp .le off, 3)) (ht : (pc : Int) + off = (t : Int)) (hq : pc + 3 = q) (kt : x ≤ y → Og wd D tys l rm own b nL ret X nc0 ns0 QQ S t Lc St) (kf : ¬ x ≤ y → Og wd D tys l rm own b nL ret X nc0 ns0 QQ S q Lc St) : Og wd D tys l rm own b nL ret X nc0 ns0 QQ S pc Lc (.int y :: .int x :: St) := by
  subst hq
  intro p e s m args below meth c A H locs ls hF hY
  exact lv_icmp_le hF.1.1 hF.1.2.1 hd ht (fun hc => kt hc p e s m args below meth c A H locs ls hF hY) (fun hc => kf hc p e s m args below meth c A H locs ls hF hY)
theorem ok_goto {off : Int} (hd : decode b pc = .ok (.goto off, 3)) (ht : (pc : Int) + off = (q : Int)) (k : Og wd D tys l rm own b nL ret X nc0 ns0 QQ S q Lc St) : Og wd D tys l rm own b nL ret X nc0 ns0 QQ S pc Lc St := fun p e s m args below meth c A H locs ls hF hY => lv_goto hF.1.1 hF.1.2.1 hd ht (k p e s m args below meth c A H locs ls hF hY)
theorem ok_iret {x : Int32} (hd : decode b pc = .ok (.ireturn, 1)) (hp : Post (some (.int x)) S) : Ok wd D tys l rm own b nL (some .int) S pc Lc [.int x] Post := fun p e s m args below meth c A H locs ls hF hY => W.iret hF.1.1 hF.1.2.1 hF.1.2.2.1 (fun t ht hW => ⟨⟨some (.int x), S, rfl, hp, by rw [ht]; exact hY.1, va_K.moved hW.alike hF.1.2.2.2.2.2.2.2, hY.2.1⟩, hY.2.2.1.F ht⟩) hY.2.2.1.2.2 hd hF.1.2.2.2.1
theorem ok_zret {x : Int32} (hd : decode b pc = .ok (.ireturn, 1)) (hb : isB x) (hp : Post (some (.int x)) S) : Ok wd D tys l rm own b nL (some .boolean) S pc Lc [.int x] Post := fun p e s m args below meth c A H locs ls hF hY => W.zret hF.1.1 hF.1.2.1 hF.1.2.2.1 (ib_nar hb) (fun t ht hW => ⟨⟨some (.int x), S, rfl, hp, by rw [ht]; exact hY.1, va_K.moved hW.alike hF.1.2.2.2.2.2.2.2, hY.2.1⟩, hY.2.2.1.F ht⟩) hY.2.2.1.2.2 hd hF.1.2.2.2.1
theorem ok_lret {x : Int64} (hd : decode b pc = .ok (.lreturn, 1)) (hp : Post (some (.long x)) S) : Ok wd D tys l rm own b nL (some .long) S pc Lc [.long x] Post := fun p e s m args below meth c A H locs ls hF hY => W.lret hF.1.1 hF.1.2.1 hF.1.2.2.1 (fun t ht hW => ⟨⟨some (.long x), S, rfl, hp, by rw [ht]; exact hY.1, va_K.moved hW.alike hF.1.2.2.2.2.2.2.2, hY.2.1⟩, hY.2.2.1.F ht⟩) hY.2.2.1.2.2 hd hF.1.2.2.2.1
theorem ok_vret  (hd : decode b pc = .ok (.return_, 1)) (hp : Post (none) S) : Ok wd D tys l rm own b nL none S pc Lc [] Post := fun p e s m args below meth c A H locs ls hF hY => W.vret hF.1.1 hF.1.2.1 hF.1.2.2.1 (fun t ht hW => ⟨⟨none, S, rfl, hp, by rw [ht]; exact hY.1, va_K.moved hW.alike hF.1.2.2.2.2.2.2.2, hY.2.1⟩, hY.2.2.1.F ht⟩) hY.2.2.1.2.2 hd hF.1.2.2.2.1
theorem ok_after {p : Program} {e : Env} {s : State} {m : MethodId} {args : Array Value} {below : List Frame} {meth : Method} {c : Code} {A : Nat → Prop} {H : Heap} {locs : List Loc} {ls : Array Slot} {st0 : List Value} {P1 : Option Value → σ → Prop} {av : Array Value}
    (hr : va_Run p l e rm s m args below meth c H locs nc0 ns0 0 0 (F0 m pc ls st0) St (ok_Q wd D tys (va_A (wd S) H.size) P1 av) (va_A (wd S) H.size))
    (hF : ok_F D tys own b nL ret p s m args meth c ∧ X s args A) (hY : ok_Y D A (wd S) s H locs ls nL Lc) (kk : ∀ v u, P1 v u → Og wd D tys l rm own b nL ret X nc0 ns0 QQ u (pc + 3) Lc (v.toList ++ St)) :
    W p l e rm s m args below meth c H locs nc0 ns0 (QQ below args s A) (F0 m pc ls st0) := by
  intro T hT X0
  obtain ⟨v, st₀, t, T', L, h0, X', hL, e1, e2, ⟨⟨v', u, hv, hp, hP1, hK1, hD1⟩, hz, hk⟩, st⟩ := hr T hT X0
  cases hv
  rw [h0] at hz hk
  obtain ⟨hP, hD, hS, hls, hA⟩ := hY
  have hsub : ∀ q, va_A (wd S) H.size q → A q := fun q h => by
    rcases h with ⟨k, e, h⟩ | h
    · exact hD.2 k (q, e) h
    · exact hA q (Nat.le_trans hS.1 h)
  have hS2 : va_S A s.heap T'.heap (locs ++ L) := ⟨Nat.le_trans hS.1 (by rw [e1]; exact hz), fun q h1 h2 => by rw [e1, hk q (Nat.lt_of_lt_of_le h1 hS.1) (fun z => h2 (hsub q z))]; exact hS.2.1 q h1 h2, fun q hq => by
      rcases List.mem_append.mp hq with h | h
      · exact hS.2.2 q h
      · exact hsub _ (hL q h)⟩
  obtain ⟨t2, a1, b1⟩ := kk v u hp p e s m args below meth c A T'.heap (locs ++ L) ls hF ⟨by rw [e1]; exact hP1, hD1.weaken (fun k q _ h => hsub q.1 h), hS2, hls, hA⟩ T' rfl X'
  exact ⟨t2, st t2 a1, b1⟩
theorem ok_cV {y : MethodName} {bc : ByteArray} {nc n index : Nat} {rt : Option FieldType} {rmc : Room} {As : List Value} {P1 : Option Value → σ → Prop} {st0 : List Value} {C : String} {T : u_T} {N ci q0 ab : Nat} {fs : List Value} (hct : Ct wd D tys l y bc nc rt rmc (.ref ab :: As) S P1) (hd : decode b pc = .ok (.invokevirtual index, 3))
    (hcode : Cond.code y bc nc rt ∈ w_all) (hws : Cond.methodLink own index y ∈ w_all ∧ Cond.instanceMethod y ∈ w_all ∧ Cond.selects C y y ∈ w_all ∧ Cond.initialized C ∈ w_all)
    (hyd : y.cls = C ∧ y.cls ≠ "java/lang/invoke/MethodHandle" ∧ y.cls ≠ "java/lang/invoke/VarHandle" ∧ (parseMethodDescriptor y.desc).map (fun d => d.parameters.length) = some n) (hrm : (rmc.cells = 0 ∧ rmc.slots = 0) ∧ rmc.frames + 1 ≤ rm.frames ∧ 8 + (nc + 11) + rmc.locals ≤ rm.locals) (hn : As.length = n)
    (hrc : (wd S)[q0]? = some (ab, .inr (ci, fs))) (hcl : classes[ci]? = some (C, T, N)) (hst : st0 = As.reverse ++ .ref ab :: St) (hroom : (St.map fun v => v.category).sum ≤ 8)
    (hcs : nc0 ≤ rm.cells ∧ ns0 ≤ rm.slots) (kk : ∀ v u, P1 v u → Og wd D tys l rm own b nL ret X nc0 ns0 QQ u (pc + 3) Lc (v.toList ++ St)) : Og wd D tys l rm own b nL ret X nc0 ns0 QQ S pc Lc st0 := by
  intro p e s m args below meth c A H locs ls hF hY
  have hG : GoodIn w_all (wsV own index C y (Cond.code y bc nc rt :: w_all)) := ok_gi (fun w hw => by
    unfold wsV at hw
    rcases List.mem_append.mp hw with h | h
    · simp only [List.mem_cons, List.not_mem_nil, or_false] at h
      rcases h with h | h | h | h <;> subst h
      · exact hws.1
      · exact hws.2.1
      · exact hws.2.2.1
      · exact hws.2.2.2
    · rcases List.mem_cons.mp h with h | h
      · subst h; exact hcode
      · exact h)
  exact ok_after (va_runV (As := As) (rest := St) (C := C) ⟨hF.1.1, hF.1.2.1, hF.1.2.2.2.2.1, hF.1.2.2.2.2.2.1, hF.1.2.2.2.2.2.2.1⟩ (hct H.size) (cwV n hF.1.2.2.2.2.2.2.1 hG rfl hrm.1.1 hrm.1.2 hyd hrm.2) ⟨ok_bl, va_recv hF.1.2.2.2.2.2.2.2 hY.1 hcl hrc, fun U hU hW => ⟨rfl, by rw [hU], by rw [hU]; exact hY.1, va_K.moved hW.alike hF.1.2.2.2.2.2.2.2, hY.2.1.weaken (fun _ _ _ _ => trivial)⟩⟩ rfl hn hY.2.2.2.1.1 hst (lv_room hroom) hd hcs) hF hY kk
theorem ok_cS {y : MethodName} {bc : ByteArray} {nc n index : Nat} {rt : Option FieldType} {rmc : Room} {As : List Value} {P1 : Option Value → σ → Prop} {st0 : List Value} (hct : Ct wd D tys l y bc nc rt rmc As S P1) (hd : decode b pc = .ok (.invokestatic index, 3))
    (hcode : Cond.code y bc nc rt ∈ w_all) (hws : Cond.methodLink own index y ∈ w_all ∧ Cond.static y ∈ w_all ∧ Cond.initialized y.cls ∈ w_all)
    (hyd : y.cls ≠ "java/lang/invoke/MethodHandle" ∧ y.cls ≠ "java/lang/invoke/VarHandle" ∧ (parseMethodDescriptor y.desc).map (fun d => d.parameters.length) = some n) (hrm : (rmc.cells = 0 ∧ rmc.slots = 0) ∧ rmc.frames + 1 ≤ rm.frames ∧ 8 + (nc + 11) + rmc.locals ≤ rm.locals) (hn : As.length = n)
    (hst : st0 = As.reverse ++ St) (hroom : (St.map fun v => v.category).sum ≤ 8)
    (hcs : nc0 ≤ rm.cells ∧ ns0 ≤ rm.slots) (kk : ∀ v u, P1 v u → Og wd D tys l rm own b nL ret X nc0 ns0 QQ u (pc + 3) Lc (v.toList ++ St)) : Og wd D tys l rm own b nL ret X nc0 ns0 QQ S pc Lc st0 := by
  intro p e s m args below meth c A H locs ls hF hY
  have hts := hF.1.2.2.2.2.2.2.1
  have hG : GoodIn w_all (Cond.code y bc nc rt :: w_all) := ok_gi (fun w hw => by
    rcases List.mem_cons.mp hw with h | h
    · subst h; exact hcode
    · exact h)
  exact ok_after (va_runS (As := As) (rest := St) ⟨hF.1.1, hF.1.2.1, hF.1.2.2.2.2.1, hF.1.2.2.2.2.2.1, hts⟩ (hct H.size) ⟨callB_of n hts hG rfl hrm.1.1 hrm.1.2 (hts _ hws.2.2) (hts _ hws.1) hyd hrm.2, hts _ hws.2.1⟩ ⟨ok_bl, fun U hU hW => ⟨rfl, by rw [hU], by rw [hU]; exact hY.1, va_K.moved hW.alike hF.1.2.2.2.2.2.2.2, hY.2.1.weaken (fun _ _ _ _ => trivial)⟩⟩ rfl hn hY.2.2.2.1.1 hst (lv_room hroom) hd hcs) hF hY kk
end OKR
end
