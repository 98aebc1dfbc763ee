section
-- ===== PART A: goes FIRST, ahead of the names: the tables' words, and 'selects' of the private methods out of them =====
/-- a private method of a class that the tables say can be made, by its rows of tables_1 -/
def lw_okq (q : MethodName × Nat) : Prop := (q.1.cls ≠ "java/lang/invoke/MethodHandle" ∧ q.1.cls ≠ "java/lang/invoke/VarHandle") ∧ Cond.instantiable q.1.cls q.2 ∈ tables_1 ∧ Cond.privateMethod q.1 ∈ tables_1 ∧ Cond.instanceMethod q.1 ∈ tables_1
theorem lw_p0 : lw_okq (⟨"SpareTagFlash", "refusalOfDirectory", "(I)I"⟩, 3) := ⟨⟨by decide +kernel, by decide +kernel⟩, List.mem_of_getElem? (i := 7) (by decide +kernel), List.mem_of_getElem? (i := 82) (by decide +kernel), List.mem_of_getElem? (i := 83) (by decide +kernel)⟩
theorem lw_p1 : lw_okq (⟨"SpareTagFlash", "isThere", "(I)Z"⟩, 3) := ⟨⟨by decide +kernel, by decide +kernel⟩, List.mem_of_getElem? (i := 7) (by decide +kernel), List.mem_of_getElem? (i := 86) (by decide +kernel), List.mem_of_getElem? (i := 87) (by decide +kernel)⟩
theorem lw_p2 : lw_okq (⟨"SpareTagFlash", "isDirectory", "(I)Z"⟩, 3) := ⟨⟨by decide +kernel, by decide +kernel⟩, List.mem_of_getElem? (i := 7) (by decide +kernel), List.mem_of_getElem? (i := 111) (by decide +kernel), List.mem_of_getElem? (i := 112) (by decide +kernel)⟩
theorem lw_p3 : lw_okq (⟨"SpareTagFlash", "headerTags", "(I)I"⟩, 3) := ⟨⟨by decide +kernel, by decide +kernel⟩, List.mem_of_getElem? (i := 7) (by decide +kernel), List.mem_of_getElem? (i := 115) (by decide +kernel), List.mem_of_getElem? (i := 116) (by decide +kernel)⟩
theorem lw_p4 : lw_okq (⟨"SpareTagFlash", "objectNamed", "(II)I"⟩, 3) := ⟨⟨by decide +kernel, by decide +kernel⟩, List.mem_of_getElem? (i := 7) (by decide +kernel), List.mem_of_getElem? (i := 123) (by decide +kernel), List.mem_of_getElem? (i := 124) (by decide +kernel)⟩
theorem lw_p5 : lw_okq (⟨"SpareTagFlash", "isIn", "(II)Z"⟩, 3) := ⟨⟨by decide +kernel, by decide +kernel⟩, List.mem_of_getElem? (i := 7) (by decide +kernel), List.mem_of_getElem? (i := 127) (by decide +kernel), List.mem_of_getElem? (i := 128) (by decide +kernel)⟩
theorem lw_p6 : lw_okq (⟨"SpareTagFlash", "nameRead", "(I)J"⟩, 3) := ⟨⟨by decide +kernel, by decide +kernel⟩, List.mem_of_getElem? (i := 7) (by decide +kernel), List.mem_of_getElem? (i := 134) (by decide +kernel), List.mem_of_getElem? (i := 135) (by decide +kernel)⟩
theorem lw_p7 : lw_okq (⟨"SpareTagFlash", "lowestAbsentObject", "()I"⟩, 3) := ⟨⟨by decide +kernel, by decide +kernel⟩, List.mem_of_getElem? (i := 7) (by decide +kernel), List.mem_of_getElem? (i := 154) (by decide +kernel), List.mem_of_getElem? (i := 155) (by decide +kernel)⟩
theorem lw_p8 : lw_okq (⟨"SpareTagFlash", "makeRoom", "(I)I"⟩, 3) := ⟨⟨by decide +kernel, by decide +kernel⟩, List.mem_of_getElem? (i := 7) (by decide +kernel), List.mem_of_getElem? (i := 158) (by decide +kernel), List.mem_of_getElem? (i := 159) (by decide +kernel)⟩
theorem lw_p9 : lw_okq (⟨"SpareTagFlash", "blockToCollect", "()I"⟩, 3) := ⟨⟨by decide +kernel, by decide +kernel⟩, List.mem_of_getElem? (i := 7) (by decide +kernel), List.mem_of_getElem? (i := 166) (by decide +kernel), List.mem_of_getElem? (i := 167) (by decide +kernel)⟩
theorem lw_p10 : lw_okq (⟨"SpareTagFlash", "collect", "(I)Z"⟩, 3) := ⟨⟨by decide +kernel, by decide +kernel⟩, List.mem_of_getElem? (i := 7) (by decide +kernel), List.mem_of_getElem? (i := 174) (by decide +kernel), List.mem_of_getElem? (i := 175) (by decide +kernel)⟩
theorem lw_p11 : lw_okq (⟨"SpareTagFlash", "putWordOf", "(II)Z"⟩, 3) := ⟨⟨by decide +kernel, by decide +kernel⟩, List.mem_of_getElem? (i := 7) (by decide +kernel), List.mem_of_getElem? (i := 179) (by decide +kernel), List.mem_of_getElem? (i := 180) (by decide +kernel)⟩
theorem lw_p12 : lw_okq (⟨"SpareTagFlash", "put", "(IIIJ)Z"⟩, 3) := ⟨⟨by decide +kernel, by decide +kernel⟩, List.mem_of_getElem? (i := 7) (by decide +kernel), List.mem_of_getElem? (i := 184) (by decide +kernel), List.mem_of_getElem? (i := 185) (by decide +kernel)⟩
theorem lw_p13 : lw_okq (⟨"SpareTagFlash$Chip", "blockOfNextPage", "()I"⟩, 11) := ⟨⟨by decide +kernel, by decide +kernel⟩, List.mem_of_getElem? (i := 15) (by decide +kernel), List.mem_of_getElem? (i := 195) (by decide +kernel), List.mem_of_getElem? (i := 196) (by decide +kernel)⟩
theorem lw_p14 : lw_okq (⟨"SpareTagFlash$Chip", "takeStep", "()Z"⟩, 11) := ⟨⟨by decide +kernel, by decide +kernel⟩, List.mem_of_getElem? (i := 15) (by decide +kernel), List.mem_of_getElem? (i := 199) (by decide +kernel), List.mem_of_getElem? (i := 200) (by decide +kernel)⟩
theorem lw_p15 : lw_okq (⟨"SpareTagFlash", "switchOff", "()I"⟩, 3) := ⟨⟨by decide +kernel, by decide +kernel⟩, List.mem_of_getElem? (i := 7) (by decide +kernel), List.mem_of_getElem? (i := 214) (by decide +kernel), List.mem_of_getElem? (i := 215) (by decide +kernel)⟩
def lw_privs_1 : List (MethodName × Nat) := [(⟨"SpareTagFlash", "refusalOfDirectory", "(I)I"⟩, 3), (⟨"SpareTagFlash", "isThere", "(I)Z"⟩, 3), (⟨"SpareTagFlash", "isDirectory", "(I)Z"⟩, 3), (⟨"SpareTagFlash", "headerTags", "(I)I"⟩, 3), (⟨"SpareTagFlash", "objectNamed", "(II)I"⟩, 3), (⟨"SpareTagFlash", "isIn", "(II)Z"⟩, 3), (⟨"SpareTagFlash", "nameRead", "(I)J"⟩, 3), (⟨"SpareTagFlash", "lowestAbsentObject", "()I"⟩, 3), (⟨"SpareTagFlash", "makeRoom", "(I)I"⟩, 3), (⟨"SpareTagFlash", "blockToCollect", "()I"⟩, 3), (⟨"SpareTagFlash", "collect", "(I)Z"⟩, 3), (⟨"SpareTagFlash", "putWordOf", "(II)Z"⟩, 3), (⟨"SpareTagFlash", "put", "(IIIJ)Z"⟩, 3), (⟨"SpareTagFlash$Chip", "blockOfNextPage", "()I"⟩, 11), (⟨"SpareTagFlash$Chip", "takeStep", "()Z"⟩, 11), (⟨"SpareTagFlash", "switchOff", "()I"⟩, 3)]
theorem lw_r1 : ∀ q ∈ lw_privs_1, lw_okq q := List.forall_mem_cons.mpr ⟨lw_p0, List.forall_mem_cons.mpr ⟨lw_p1, List.forall_mem_cons.mpr ⟨lw_p2, List.forall_mem_cons.mpr ⟨lw_p3, List.forall_mem_cons.mpr ⟨lw_p4, List.forall_mem_cons.mpr ⟨lw_p5, List.forall_mem_cons.mpr ⟨lw_p6, List.forall_mem_cons.mpr ⟨lw_p7, List.forall_mem_cons.mpr ⟨lw_p8, List.forall_mem_cons.mpr ⟨lw_p9, List.forall_mem_cons.mpr ⟨lw_p10, List.forall_mem_cons.mpr ⟨lw_p11, List.forall_mem_cons.mpr ⟨lw_p12, List.forall_mem_cons.mpr ⟨lw_p13, List.forall_mem_cons.mpr ⟨lw_p14, List.forall_mem_cons.mpr ⟨lw_p15, fun _ h => absurd h List.not_mem_nil⟩⟩⟩⟩⟩⟩⟩⟩⟩⟩⟩⟩⟩⟩⟩⟩
theorem lw_p16 : lw_okq (⟨"SpareTagFlash", "refusalOfFile", "(I)I"⟩, 3) := ⟨⟨by decide +kernel, by decide +kernel⟩, List.mem_of_getElem? (i := 7) (by decide +kernel), List.mem_of_getElem? (i := 225) (by decide +kernel), List.mem_of_getElem? (i := 226) (by decide +kernel)⟩
theorem lw_p17 : lw_okq (⟨"SpareTagFlash", "refusalOfObject", "(I)I"⟩, 3) := ⟨⟨by decide +kernel, by decide +kernel⟩, List.mem_of_getElem? (i := 7) (by decide +kernel), List.mem_of_getElem? (i := 229) (by decide +kernel), List.mem_of_getElem? (i := 230) (by decide +kernel)⟩
theorem lw_p18 : lw_okq (⟨"SpareTagFlash", "putLength", "(II)Z"⟩, 3) := ⟨⟨by decide +kernel, by decide +kernel⟩, List.mem_of_getElem? (i := 7) (by decide +kernel), List.mem_of_getElem? (i := 237) (by decide +kernel), List.mem_of_getElem? (i := 238) (by decide +kernel)⟩
theorem lw_p19 : lw_okq (⟨"SpareTagFlash", "markChunks", "(II)Z"⟩, 3) := ⟨⟨by decide +kernel, by decide +kernel⟩, List.mem_of_getElem? (i := 7) (by decide +kernel), List.mem_of_getElem? (i := 254) (by decide +kernel), List.mem_of_getElem? (i := 255) (by decide +kernel)⟩
theorem lw_p20 : lw_okq (⟨"SpareTagFlash", "liesIn", "(II)Z"⟩, 3) := ⟨⟨by decide +kernel, by decide +kernel⟩, List.mem_of_getElem? (i := 7) (by decide +kernel), List.mem_of_getElem? (i := 262) (by decide +kernel), List.mem_of_getElem? (i := 263) (by decide +kernel)⟩
theorem lw_p21 : lw_okq (⟨"SpareTagFlash", "objectsIn", "(I)I"⟩, 3) := ⟨⟨by decide +kernel, by decide +kernel⟩, List.mem_of_getElem? (i := 7) (by decide +kernel), List.mem_of_getElem? (i := 273) (by decide +kernel), List.mem_of_getElem? (i := 274) (by decide +kernel)⟩
theorem lw_p22 : lw_okq (⟨"SpareTagFlash", "settleStale", "()V"⟩, 3) := ⟨⟨by decide +kernel, by decide +kernel⟩, List.mem_of_getElem? (i := 7) (by decide +kernel), List.mem_of_getElem? (i := 322) (by decide +kernel), List.mem_of_getElem? (i := 323) (by decide +kernel)⟩
theorem lw_p23 : lw_okq (⟨"SpareTagFlash", "isBeyondFile", "(I)Z"⟩, 3) := ⟨⟨by decide +kernel, by decide +kernel⟩, List.mem_of_getElem? (i := 7) (by decide +kernel), List.mem_of_getElem? (i := 334) (by decide +kernel), List.mem_of_getElem? (i := 335) (by decide +kernel)⟩
theorem lw_p24 : lw_okq (⟨"SpareTagFlash", "markStale", "()Z"⟩, 3) := ⟨⟨by decide +kernel, by decide +kernel⟩, List.mem_of_getElem? (i := 7) (by decide +kernel), List.mem_of_getElem? (i := 349) (by decide +kernel), List.mem_of_getElem? (i := 350) (by decide +kernel)⟩
theorem lw_p25 : lw_okq (⟨"SpareTagFlashModel", "there", "(I)Z"⟩, 27) := ⟨⟨by decide +kernel, by decide +kernel⟩, List.mem_of_getElem? (i := 392) (by decide +kernel), List.mem_of_getElem? (i := 484) (by decide +kernel), List.mem_of_getElem? (i := 485) (by decide +kernel)⟩
theorem lw_p26 : lw_okq (⟨"SpareTagFlashModel", "header", "(I)I"⟩, 27) := ⟨⟨by decide +kernel, by decide +kernel⟩, List.mem_of_getElem? (i := 392) (by decide +kernel), List.mem_of_getElem? (i := 488) (by decide +kernel), List.mem_of_getElem? (i := 489) (by decide +kernel)⟩
theorem lw_p27 : lw_okq (⟨"SpareTagFlashModel", "page", "(II)I"⟩, 27) := ⟨⟨by decide +kernel, by decide +kernel⟩, List.mem_of_getElem? (i := 392) (by decide +kernel), List.mem_of_getElem? (i := 492) (by decide +kernel), List.mem_of_getElem? (i := 493) (by decide +kernel)⟩
theorem lw_p28 : lw_okq (⟨"SpareTagFlashModel", "directory", "(I)Z"⟩, 27) := ⟨⟨by decide +kernel, by decide +kernel⟩, List.mem_of_getElem? (i := 392) (by decide +kernel), List.mem_of_getElem? (i := 496) (by decide +kernel), List.mem_of_getElem? (i := 497) (by decide +kernel)⟩
theorem lw_p29 : lw_okq (⟨"SpareTagFlashModel", "named", "(III)I"⟩, 27) := ⟨⟨by decide +kernel, by decide +kernel⟩, List.mem_of_getElem? (i := 392) (by decide +kernel), List.mem_of_getElem? (i := 500) (by decide +kernel), List.mem_of_getElem? (i := 501) (by decide +kernel)⟩
theorem lw_p30 : lw_okq (⟨"SpareTagFlashModel", "room", "(I)I"⟩, 27) := ⟨⟨by decide +kernel, by decide +kernel⟩, List.mem_of_getElem? (i := 392) (by decide +kernel), List.mem_of_getElem? (i := 504) (by decide +kernel), List.mem_of_getElem? (i := 505) (by decide +kernel)⟩
theorem lw_p31 : lw_okq (⟨"SpareTagFlashModel", "programmed", "(I)I"⟩, 27) := ⟨⟨by decide +kernel, by decide +kernel⟩, List.mem_of_getElem? (i := 392) (by decide +kernel), List.mem_of_getElem? (i := 512) (by decide +kernel), List.mem_of_getElem? (i := 513) (by decide +kernel)⟩
def lw_privs_2 : List (MethodName × Nat) := [(⟨"SpareTagFlash", "refusalOfFile", "(I)I"⟩, 3), (⟨"SpareTagFlash", "refusalOfObject", "(I)I"⟩, 3), (⟨"SpareTagFlash", "putLength", "(II)Z"⟩, 3), (⟨"SpareTagFlash", "markChunks", "(II)Z"⟩, 3), (⟨"SpareTagFlash", "liesIn", "(II)Z"⟩, 3), (⟨"SpareTagFlash", "objectsIn", "(I)I"⟩, 3), (⟨"SpareTagFlash", "settleStale", "()V"⟩, 3), (⟨"SpareTagFlash", "isBeyondFile", "(I)Z"⟩, 3), (⟨"SpareTagFlash", "markStale", "()Z"⟩, 3), (⟨"SpareTagFlashModel", "there", "(I)Z"⟩, 27), (⟨"SpareTagFlashModel", "header", "(I)I"⟩, 27), (⟨"SpareTagFlashModel", "page", "(II)I"⟩, 27), (⟨"SpareTagFlashModel", "directory", "(I)Z"⟩, 27), (⟨"SpareTagFlashModel", "named", "(III)I"⟩, 27), (⟨"SpareTagFlashModel", "room", "(I)I"⟩, 27), (⟨"SpareTagFlashModel", "programmed", "(I)I"⟩, 27)]
theorem lw_r2 : ∀ q ∈ lw_privs_2, lw_okq q := List.forall_mem_cons.mpr ⟨lw_p16, List.forall_mem_cons.mpr ⟨lw_p17, List.forall_mem_cons.mpr ⟨lw_p18, List.forall_mem_cons.mpr ⟨lw_p19, List.forall_mem_cons.mpr ⟨lw_p20, List.forall_mem_cons.mpr ⟨lw_p21, List.forall_mem_cons.mpr ⟨lw_p22, List.forall_mem_cons.mpr ⟨lw_p23, List.forall_mem_cons.mpr ⟨lw_p24, List.forall_mem_cons.mpr ⟨lw_p25, List.forall_mem_cons.mpr ⟨lw_p26, List.forall_mem_cons.mpr ⟨lw_p27, List.forall_mem_cons.mpr ⟨lw_p28, List.forall_mem_cons.mpr ⟨lw_p29, List.forall_mem_cons.mpr ⟨lw_p30, List.forall_mem_cons.mpr ⟨lw_p31, fun _ h => absurd h List.not_mem_nil⟩⟩⟩⟩⟩⟩⟩⟩⟩⟩⟩⟩⟩⟩⟩⟩
theorem lw_p32 : lw_okq (⟨"SpareTagFlashModel", "poorest", "()I"⟩, 27) := ⟨⟨by decide +kernel, by decide +kernel⟩, List.mem_of_getElem? (i := 392) (by decide +kernel), List.mem_of_getElem? (i := 516) (by decide +kernel), List.mem_of_getElem? (i := 517) (by decide +kernel)⟩
theorem lw_p33 : lw_okq (⟨"SpareTagFlashModel", "lives", "(I)I"⟩, 27) := ⟨⟨by decide +kernel, by decide +kernel⟩, List.mem_of_getElem? (i := 392) (by decide +kernel), List.mem_of_getElem? (i := 520) (by decide +kernel), List.mem_of_getElem? (i := 521) (by decide +kernel)⟩
theorem lw_p34 : lw_okq (⟨"SpareTagFlashModel", "collect", "(I)Z"⟩, 27) := ⟨⟨by decide +kernel, by decide +kernel⟩, List.mem_of_getElem? (i := 392) (by decide +kernel), List.mem_of_getElem? (i := 524) (by decide +kernel), List.mem_of_getElem? (i := 525) (by decide +kernel)⟩
theorem lw_p35 : lw_okq (⟨"SpareTagFlashModel", "like", "(I)V"⟩, 27) := ⟨⟨by decide +kernel, by decide +kernel⟩, List.mem_of_getElem? (i := 392) (by decide +kernel), List.mem_of_getElem? (i := 528) (by decide +kernel), List.mem_of_getElem? (i := 529) (by decide +kernel)⟩
theorem lw_p36 : lw_okq (⟨"SpareTagFlashModel", "fresh", "(III)V"⟩, 27) := ⟨⟨by decide +kernel, by decide +kernel⟩, List.mem_of_getElem? (i := 392) (by decide +kernel), List.mem_of_getElem? (i := 532) (by decide +kernel), List.mem_of_getElem? (i := 533) (by decide +kernel)⟩
theorem lw_p37 : lw_okq (⟨"SpareTagFlashModel", "put", "()Z"⟩, 27) := ⟨⟨by decide +kernel, by decide +kernel⟩, List.mem_of_getElem? (i := 392) (by decide +kernel), List.mem_of_getElem? (i := 536) (by decide +kernel), List.mem_of_getElem? (i := 537) (by decide +kernel)⟩
theorem lw_p38 : lw_okq (⟨"SpareTagFlashModel", "nextPage", "()I"⟩, 27) := ⟨⟨by decide +kernel, by decide +kernel⟩, List.mem_of_getElem? (i := 392) (by decide +kernel), List.mem_of_getElem? (i := 540) (by decide +kernel), List.mem_of_getElem? (i := 541) (by decide +kernel)⟩
theorem lw_p39 : lw_okq (⟨"SpareTagFlashModel", "step", "()Z"⟩, 27) := ⟨⟨by decide +kernel, by decide +kernel⟩, List.mem_of_getElem? (i := 392) (by decide +kernel), List.mem_of_getElem? (i := 544) (by decide +kernel), List.mem_of_getElem? (i := 545) (by decide +kernel)⟩
theorem lw_p40 : lw_okq (⟨"SpareTagFlashModel", "mark", "(I)Z"⟩, 27) := ⟨⟨by decide +kernel, by decide +kernel⟩, List.mem_of_getElem? (i := 392) (by decide +kernel), List.mem_of_getElem? (i := 548) (by decide +kernel), List.mem_of_getElem? (i := 549) (by decide +kernel)⟩
theorem lw_p41 : lw_okq (⟨"SpareTagFlashModel", "drop", "(II)Z"⟩, 27) := ⟨⟨by decide +kernel, by decide +kernel⟩, List.mem_of_getElem? (i := 392) (by decide +kernel), List.mem_of_getElem? (i := 569) (by decide +kernel), List.mem_of_getElem? (i := 570) (by decide +kernel)⟩
theorem lw_p42 : lw_okq (⟨"SpareTagFlashModel", "lies", "(II)Z"⟩, 27) := ⟨⟨by decide +kernel, by decide +kernel⟩, List.mem_of_getElem? (i := 392) (by decide +kernel), List.mem_of_getElem? (i := 577) (by decide +kernel), List.mem_of_getElem? (i := 578) (by decide +kernel)⟩
theorem lw_p43 : lw_okq (⟨"SpareTagFlashModel", "inside", "(I)I"⟩, 27) := ⟨⟨by decide +kernel, by decide +kernel⟩, List.mem_of_getElem? (i := 392) (by decide +kernel), List.mem_of_getElem? (i := 585) (by decide +kernel), List.mem_of_getElem? (i := 586) (by decide +kernel)⟩
theorem lw_p44 : lw_okq (⟨"SpareTagFlashModel", "sizeOf", "(I)I"⟩, 27) := ⟨⟨by decide +kernel, by decide +kernel⟩, List.mem_of_getElem? (i := 392) (by decide +kernel), List.mem_of_getElem? (i := 613) (by decide +kernel), List.mem_of_getElem? (i := 614) (by decide +kernel)⟩
theorem lw_p45 : lw_okq (⟨"SpareTagFlashModel", "followed", "(I)Z"⟩, 27) := ⟨⟨by decide +kernel, by decide +kernel⟩, List.mem_of_getElem? (i := 392) (by decide +kernel), List.mem_of_getElem? (i := 617) (by decide +kernel), List.mem_of_getElem? (i := 618) (by decide +kernel)⟩
def lw_privs_3 : List (MethodName × Nat) := [(⟨"SpareTagFlashModel", "poorest", "()I"⟩, 27), (⟨"SpareTagFlashModel", "lives", "(I)I"⟩, 27), (⟨"SpareTagFlashModel", "collect", "(I)Z"⟩, 27), (⟨"SpareTagFlashModel", "like", "(I)V"⟩, 27), (⟨"SpareTagFlashModel", "fresh", "(III)V"⟩, 27), (⟨"SpareTagFlashModel", "put", "()Z"⟩, 27), (⟨"SpareTagFlashModel", "nextPage", "()I"⟩, 27), (⟨"SpareTagFlashModel", "step", "()Z"⟩, 27), (⟨"SpareTagFlashModel", "mark", "(I)Z"⟩, 27), (⟨"SpareTagFlashModel", "drop", "(II)Z"⟩, 27), (⟨"SpareTagFlashModel", "lies", "(II)Z"⟩, 27), (⟨"SpareTagFlashModel", "inside", "(I)I"⟩, 27), (⟨"SpareTagFlashModel", "sizeOf", "(I)I"⟩, 27), (⟨"SpareTagFlashModel", "followed", "(I)Z"⟩, 27)]
theorem lw_r3 : ∀ q ∈ lw_privs_3, lw_okq q := List.forall_mem_cons.mpr ⟨lw_p32, List.forall_mem_cons.mpr ⟨lw_p33, List.forall_mem_cons.mpr ⟨lw_p34, List.forall_mem_cons.mpr ⟨lw_p35, List.forall_mem_cons.mpr ⟨lw_p36, List.forall_mem_cons.mpr ⟨lw_p37, List.forall_mem_cons.mpr ⟨lw_p38, List.forall_mem_cons.mpr ⟨lw_p39, List.forall_mem_cons.mpr ⟨lw_p40, List.forall_mem_cons.mpr ⟨lw_p41, List.forall_mem_cons.mpr ⟨lw_p42, List.forall_mem_cons.mpr ⟨lw_p43, List.forall_mem_cons.mpr ⟨lw_p44, List.forall_mem_cons.mpr ⟨lw_p45, fun _ h => absurd h List.not_mem_nil⟩⟩⟩⟩⟩⟩⟩⟩⟩⟩⟩⟩⟩⟩
def lw_privs : List (MethodName × Nat) := lw_privs_1 ++ (lw_privs_2 ++ (lw_privs_3))
def lw_tbl : List Cond := k2_sels lw_privs ++ tables_1
theorem lw_privs_ok : ∀ q ∈ lw_privs, lw_okq q := by
  show ∀ q ∈ lw_privs_1 ++ (lw_privs_2 ++ (lw_privs_3)), lw_okq q
  exact List.forall_mem_append.mpr ⟨lw_r1, List.forall_mem_append.mpr ⟨lw_r2, lw_r3⟩⟩
end
section
def R_S : String := "SpareTagFlash"
def R_C : String := "SpareTagFlash$Chip"
def R_T : String := "SpareTagFlash$Tags"
def R_M : String := "SpareTagFlashModel"
def R_J : String := "java/lang/Long"
def F_S : u_T := fun k => match k with
  | 0 => ("SpareTagFlash", "chip", "LSpareTagFlash$Chip;", true)
  | 1 => ("SpareTagFlash", "stale", "[Z", true)
  | _ => ("SpareTagFlash", "on", "Z", false)
def t_S : Nat → FieldType := fun k => match k with
  | 0 => .object "SpareTagFlash$Chip"
  | 1 => .array .boolean
  | _ => .boolean
abbrev w_S : List Cond := u_ws R_S F_S 3
theorem n_S : ∀ a, a < 3 → ∀ b, b < 3 → a ≠ b → (F_S a).2.1 ≠ (F_S b).2.1 := by decide +kernel
theorem t_S_ok : ∀ k, k < 3 → parseFieldDescriptor (F_S k).2.2.1 = some (t_S k) := by decide +kernel
def F_C : u_T := fun k => match k with
  | 0 => ("SpareTagFlash$Chip", "tagsOf", "[I", true)
  | 1 => ("SpareTagFlash$Chip", "words", "[I", true)
  | 2 => ("SpareTagFlash$Chip", "turnedBits", "[J", true)
  | 3 => ("SpareTagFlash$Chip", "programmed", "[I", true)
  | 4 => ("SpareTagFlash$Chip", "timesErased", "[I", true)
  | 5 => ("SpareTagFlash$Chip", "worn", "[Z", true)
  | 6 => ("SpareTagFlash$Chip", "bad", "[Z", true)
  | 7 => ("SpareTagFlash$Chip", "touched", "[Z", true)
  | 8 => ("SpareTagFlash$Chip", "regionValid", "Z", false)
  | 9 => ("SpareTagFlash$Chip", "stepsDone", "I", false)
  | _ => ("SpareTagFlash$Chip", "stepsLeft", "I", false)
def t_C : Nat → FieldType := fun k => match k with
  | 0 => .array .int
  | 1 => .array .int
  | 2 => .array .long
  | 3 => .array .int
  | 4 => .array .int
  | 5 => .array .boolean
  | 6 => .array .boolean
  | 7 => .array .boolean
  | 8 => .boolean
  | 9 => .int
  | _ => .int
abbrev w_C : List Cond := u_ws R_C F_C 11
theorem n_C : ∀ a, a < 11 → ∀ b, b < 11 → a ≠ b → (F_C a).2.1 ≠ (F_C b).2.1 := by decide +kernel
theorem t_C_ok : ∀ k, k < 11 → parseFieldDescriptor (F_C k).2.2.1 = some (t_C k) := by decide +kernel
def F_M : u_T := fun k => match k with
  | 0 => ("SpareTagFlashModel", "state", "[I", true)
  | 1 => ("SpareTagFlashModel", "object", "[I", true)
  | 2 => ("SpareTagFlashModel", "chunk", "[I", true)
  | 3 => ("SpareTagFlashModel", "serial", "[I", true)
  | 4 => ("SpareTagFlashModel", "word", "[I", true)
  | 5 => ("SpareTagFlashModel", "parent", "[I", true)
  | 6 => ("SpareTagFlashModel", "length", "[I", true)
  | 7 => ("SpareTagFlashModel", "folder", "[Z", true)
  | 8 => ("SpareTagFlashModel", "first", "[I", true)
  | 9 => ("SpareTagFlashModel", "second", "[I", true)
  | 10 => ("SpareTagFlashModel", "stale", "[Z", true)
  | 11 => ("SpareTagFlashModel", "bad", "[Z", true)
  | 12 => ("SpareTagFlashModel", "worn", "[Z", true)
  | 13 => ("SpareTagFlashModel", "touched", "[Z", true)
  | 14 => ("SpareTagFlashModel", "erased", "[I", true)
  | 15 => ("SpareTagFlashModel", "on", "Z", false)
  | 16 => ("SpareTagFlashModel", "valid", "Z", false)
  | 17 => ("SpareTagFlashModel", "left", "I", false)
  | 18 => ("SpareTagFlashModel", "done", "I", false)
  | 19 => ("SpareTagFlashModel", "newObject", "I", false)
  | 20 => ("SpareTagFlashModel", "newChunk", "I", false)
  | 21 => ("SpareTagFlashModel", "newWord", "I", false)
  | 22 => ("SpareTagFlashModel", "newParent", "I", false)
  | 23 => ("SpareTagFlashModel", "newLength", "I", false)
  | 24 => ("SpareTagFlashModel", "newFolder", "Z", false)
  | 25 => ("SpareTagFlashModel", "newFirst", "I", false)
  | _ => ("SpareTagFlashModel", "newSecond", "I", false)
def t_M : Nat → FieldType := fun k => match k with
  | 0 => .array .int
  | 1 => .array .int
  | 2 => .array .int
  | 3 => .array .int
  | 4 => .array .int
  | 5 => .array .int
  | 6 => .array .int
  | 7 => .array .boolean
  | 8 => .array .int
  | 9 => .array .int
  | 10 => .array .boolean
  | 11 => .array .boolean
  | 12 => .array .boolean
  | 13 => .array .boolean
  | 14 => .array .int
  | 15 => .boolean
  | 16 => .boolean
  | 17 => .int
  | 18 => .int
  | 19 => .int
  | 20 => .int
  | 21 => .int
  | 22 => .int
  | 23 => .int
  | 24 => .boolean
  | 25 => .int
  | _ => .int
abbrev w_M : List Cond := u_ws R_M F_M 27
theorem n_M : ∀ a, a < 27 → ∀ b, b < 27 → a ≠ b → (F_M a).2.1 ≠ (F_M b).2.1 := by decide +kernel
theorem t_M_ok : ∀ k, k < 27 → parseFieldDescriptor (F_M k).2.2.1 = some (t_M k) := by decide +kernel
abbrev classes : List vw_C := [(R_S, F_S, 3), (R_C, F_C, 11), (R_M, F_M, 27)]
abbrev b_C_isProgrammed : ByteArray := prog_2_method_2_code
def y_C_isProgrammed : MethodName := ⟨R_C, "isProgrammed", "(I)Z"⟩
abbrev b_T_isMarked : ByteArray := prog_3_method_7_code
def y_T_isMarked : MethodName := ⟨R_T, "isMarked", "(I)Z"⟩
abbrev b_C_isLive : ByteArray := prog_2_method_3_code
def y_C_isLive : MethodName := ⟨R_C, "isLive", "(I)Z"⟩
abbrev b_T_ofChunk : ByteArray := prog_3_method_2_code
def y_T_ofChunk : MethodName := ⟨R_T, "ofChunk", "(II)I"⟩
abbrev b_T_areOf : ByteArray := prog_3_method_14_code
def y_T_areOf : MethodName := ⟨R_T, "areOf", "(III)Z"⟩
abbrev b_C_livePage : ByteArray := prog_2_method_6_code
def y_C_livePage : MethodName := ⟨R_C, "livePage", "(II)I"⟩
abbrev b_S_isThere : ByteArray := prog_1_method_27_code
def y_S_isThere : MethodName := ⟨R_S, "isThere", "(I)Z"⟩
abbrev b_S_lowestAbsentObject : ByteArray := prog_1_method_34_code
def y_S_lowestAbsentObject : MethodName := ⟨R_S, "lowestAbsentObject", "()I"⟩
abbrev b_C_countFree : ByteArray := prog_2_method_11_code
def y_C_countFree : MethodName := ⟨R_C, "countFree", "()I"⟩
abbrev b_C_countLiveIn : ByteArray := prog_2_method_9_code
def y_C_countLiveIn : MethodName := ⟨R_C, "countLiveIn", "(I)I"⟩
abbrev b_S_blockToCollect : ByteArray := prog_1_method_41_code
def y_S_blockToCollect : MethodName := ⟨R_S, "blockToCollect", "()I"⟩
abbrev b_C_takeStep : ByteArray := prog_2_method_21_code
def y_C_takeStep : MethodName := ⟨R_C, "takeStep", "()Z"⟩
abbrev b_C_erase : ByteArray := prog_2_method_17_code
def y_C_erase : MethodName := ⟨R_C, "erase", "(I)Z"⟩
abbrev b_J_bitCount : ByteArray := prog_6_method_50_code
def y_J_bitCount : MethodName := ⟨R_J, "bitCount", "(J)I"⟩
abbrev b_C_isUnreadable : ByteArray := prog_2_method_4_code
def y_C_isUnreadable : MethodName := ⟨R_C, "isUnreadable", "(I)Z"⟩
abbrev b_C_mark : ByteArray := prog_2_method_16_code
def y_C_mark : MethodName := ⟨R_C, "mark", "(I)Z"⟩
abbrev b_C_blockOfNextPage : ByteArray := prog_2_method_20_code
def y_C_blockOfNextPage : MethodName := ⟨R_C, "blockOfNextPage", "()I"⟩
abbrev b_C_program : ByteArray := prog_2_method_15_code
def y_C_program : MethodName := ⟨R_C, "program", "(IIJ)Z"⟩
abbrev b_T_serialAfter : ByteArray := prog_3_method_6_code
def y_T_serialAfter : MethodName := ⟨R_T, "serialAfter", "(I)I"⟩
abbrev b_T_withSerial : ByteArray := prog_3_method_11_code
def y_T_withSerial : MethodName := ⟨R_T, "withSerial", "(II)I"⟩
abbrev b_S_put : ByteArray := prog_1_method_36_code
def y_S_put : MethodName := ⟨R_S, "put", "(IIIJ)Z"⟩
abbrev b_S_putWordOf : ByteArray := prog_1_method_37_code
def y_S_putWordOf : MethodName := ⟨R_S, "putWordOf", "(II)Z"⟩
abbrev b_S_collect : ByteArray := prog_1_method_42_code
def y_S_collect : MethodName := ⟨R_S, "collect", "(I)Z"⟩
abbrev b_S_switchOff : ByteArray := prog_1_method_23_code
def y_S_switchOff : MethodName := ⟨R_S, "switchOff", "()I"⟩
abbrev b_S_makeRoom : ByteArray := prog_1_method_40_code
def y_S_makeRoom : MethodName := ⟨R_S, "makeRoom", "(I)I"⟩
abbrev b_S_headerTags : ByteArray := prog_1_method_29_code
def y_S_headerTags : MethodName := ⟨R_S, "headerTags", "(I)I"⟩
abbrev b_T_parent : ByteArray := prog_3_method_8_code
def y_T_parent : MethodName := ⟨R_T, "parent", "(I)I"⟩
abbrev b_S_isIn : ByteArray := prog_1_method_31_code
def y_S_isIn : MethodName := ⟨R_S, "isIn", "(II)Z"⟩
abbrev b_C_wordRead : ByteArray := prog_2_method_5_code
def y_C_wordRead : MethodName := ⟨R_C, "wordRead", "(I)J"⟩
abbrev b_S_nameRead : ByteArray := prog_1_method_30_code
def y_S_nameRead : MethodName := ⟨R_S, "nameRead", "(I)J"⟩
abbrev b_S_objectNamed : ByteArray := prog_1_method_32_code
def y_S_objectNamed : MethodName := ⟨R_S, "objectNamed", "(II)I"⟩
abbrev b_T_isOfDirectory : ByteArray := prog_3_method_10_code
def y_T_isOfDirectory : MethodName := ⟨R_T, "isOfDirectory", "(I)Z"⟩
abbrev b_S_isDirectory : ByteArray := prog_1_method_28_code
def y_S_isDirectory : MethodName := ⟨R_S, "isDirectory", "(I)Z"⟩
abbrev b_S_refusalOfDirectory : ByteArray := prog_1_method_26_code
def y_S_refusalOfDirectory : MethodName := ⟨R_S, "refusalOfDirectory", "(I)I"⟩
abbrev b_T_ofHeader : ByteArray := prog_3_method_3_code
def y_T_ofHeader : MethodName := ⟨R_T, "ofHeader", "(IIZ)I"⟩
abbrev b_S_create : ByteArray := prog_1_method_2_code
def y_S_create : MethodName := ⟨R_S, "create", "(IIZ)I"⟩
abbrev b_T_withLength : ByteArray := prog_3_method_13_code
def y_T_withLength : MethodName := ⟨R_T, "withLength", "(II)I"⟩
abbrev b_S_putLength : ByteArray := prog_1_method_38_code
def y_S_putLength : MethodName := ⟨R_S, "putLength", "(II)Z"⟩
abbrev b_S_refusalOfObject : ByteArray := prog_1_method_24_code
def y_S_refusalOfObject : MethodName := ⟨R_S, "refusalOfObject", "(I)I"⟩
abbrev b_S_refusalOfFile : ByteArray := prog_1_method_25_code
def y_S_refusalOfFile : MethodName := ⟨R_S, "refusalOfFile", "(I)I"⟩
abbrev b_T_length : ByteArray := prog_3_method_9_code
def y_T_length : MethodName := ⟨R_T, "length", "(I)I"⟩
abbrev b_S_write : ByteArray := prog_1_method_3_code
def y_S_write : MethodName := ⟨R_S, "write", "(III)I"⟩
abbrev b_S_read : ByteArray := prog_1_method_4_code
def y_S_read : MethodName := ⟨R_S, "read", "(II)J"⟩
abbrev b_S_markChunks : ByteArray := prog_1_method_39_code
def y_S_markChunks : MethodName := ⟨R_S, "markChunks", "(II)Z"⟩
abbrev b_S_truncate : ByteArray := prog_1_method_5_code
def y_S_truncate : MethodName := ⟨R_S, "truncate", "(II)I"⟩
abbrev b_S_liesIn : ByteArray := prog_1_method_35_code
def y_S_liesIn : MethodName := ⟨R_S, "liesIn", "(II)Z"⟩
abbrev b_T_withParent : ByteArray := prog_3_method_12_code
def y_T_withParent : MethodName := ⟨R_T, "withParent", "(II)I"⟩
abbrev b_S_move : ByteArray := prog_1_method_6_code
def y_S_move : MethodName := ⟨R_S, "move", "(III)I"⟩
abbrev b_S_objectsIn : ByteArray := prog_1_method_33_code
def y_S_objectsIn : MethodName := ⟨R_S, "objectsIn", "(I)I"⟩
abbrev b_S_remove : ByteArray := prog_1_method_7_code
def y_S_remove : MethodName := ⟨R_S, "remove", "(I)I"⟩
abbrev b_S_find : ByteArray := prog_1_method_8_code
def y_S_find : MethodName := ⟨R_S, "find", "(II)I"⟩
abbrev b_S_size : ByteArray := prog_1_method_9_code
def y_S_size : MethodName := ⟨R_S, "size", "(I)I"⟩
abbrev b_S_parentOf : ByteArray := prog_1_method_10_code
def y_S_parentOf : MethodName := ⟨R_S, "parentOf", "(I)I"⟩
abbrev b_S_nameOf : ByteArray := prog_1_method_11_code
def y_S_nameOf : MethodName := ⟨R_S, "nameOf", "(I)J"⟩
abbrev b_C_countLive : ByteArray := prog_2_method_10_code
def y_C_countLive : MethodName := ⟨R_C, "countLive", "()I"⟩
abbrev b_C_dropRegion : ByteArray := prog_2_method_18_code
def y_C_dropRegion : MethodName := ⟨R_C, "dropRegion", "()Z"⟩
abbrev b_C_fillRegion : ByteArray := prog_2_method_19_code
def y_C_fillRegion : MethodName := ⟨R_C, "fillRegion", "()Z"⟩
abbrev b_S_checkpoint : ByteArray := prog_1_method_12_code
def y_S_checkpoint : MethodName := ⟨R_S, "checkpoint", "()I"⟩
abbrev b_C_countGood : ByteArray := prog_2_method_12_code
def y_C_countGood : MethodName := ⟨R_C, "countGood", "()I"⟩
abbrev b_C_countGoodTouched : ByteArray := prog_2_method_13_code
def y_C_countGoodTouched : MethodName := ⟨R_C, "countGoodTouched", "()I"⟩
abbrev b_S_markStale : ByteArray := prog_1_method_45_code
def y_S_markStale : MethodName := ⟨R_S, "markStale", "()Z"⟩
abbrev b_T_follow : ByteArray := prog_3_method_15_code
def y_T_follow : MethodName := ⟨R_T, "follow", "(II)Z"⟩
abbrev b_C_hasSuccessor : ByteArray := prog_2_method_8_code
def y_C_hasSuccessor : MethodName := ⟨R_C, "hasSuccessor", "(I)Z"⟩
abbrev b_C_latestHeader : ByteArray := prog_2_method_7_code
def y_C_latestHeader : MethodName := ⟨R_C, "latestHeader", "(I)I"⟩
abbrev b_T_chunk : ByteArray := prog_3_method_5_code
def y_T_chunk : MethodName := ⟨R_T, "chunk", "(I)I"⟩
abbrev b_T_object : ByteArray := prog_3_method_4_code
def y_T_object : MethodName := ⟨R_T, "object", "(I)I"⟩
abbrev b_S_isBeyondFile : ByteArray := prog_1_method_44_code
def y_S_isBeyondFile : MethodName := ⟨R_S, "isBeyondFile", "(I)Z"⟩
abbrev b_S_settleStale : ByteArray := prog_1_method_43_code
def y_S_settleStale : MethodName := ⟨R_S, "settleStale", "()V"⟩
abbrev b_S_mount : ByteArray := prog_1_method_13_code
def y_S_mount : MethodName := ⟨R_S, "mount", "(Z)I"⟩
abbrev b_S_cut : ByteArray := prog_1_method_14_code
def y_S_cut : MethodName := ⟨R_S, "cut", "(I)V"⟩
abbrev b_C_turnBit : ByteArray := prog_2_method_14_code
def y_C_turnBit : MethodName := ⟨R_C, "turnBit", "(II)Z"⟩
abbrev b_S_isBlock : ByteArray := prog_1_method_21_code
def y_S_isBlock : MethodName := ⟨R_S, "isBlock", "(I)Z"⟩
abbrev b_S_isPage : ByteArray := prog_1_method_22_code
def y_S_isPage : MethodName := ⟨R_S, "isPage", "(II)Z"⟩
abbrev b_S_flip : ByteArray := prog_1_method_15_code
def y_S_flip : MethodName := ⟨R_S, "flip", "(III)Z"⟩
abbrev b_S_wear : ByteArray := prog_1_method_16_code
def y_S_wear : MethodName := ⟨R_S, "wear", "(I)Z"⟩
abbrev b_S_tags : ByteArray := prog_1_method_17_code
def y_S_tags : MethodName := ⟨R_S, "tags", "(II)I"⟩
abbrev b_S_free : ByteArray := prog_1_method_18_code
def y_S_free : MethodName := ⟨R_S, "free", "()I"⟩
abbrev b_S_erases : ByteArray := prog_1_method_19_code
def y_S_erases : MethodName := ⟨R_S, "erases", "(I)I"⟩
abbrev b_S_steps : ByteArray := prog_1_method_20_code
def y_S_steps : MethodName := ⟨R_S, "steps", "()I"⟩
abbrev b_M_step : ByteArray := prog_5_method_2_code
def y_M_step : MethodName := ⟨R_M, "step", "()Z"⟩
abbrev b_M_programmed : ByteArray := prog_5_method_3_code
def y_M_programmed : MethodName := ⟨R_M, "programmed", "(I)I"⟩
abbrev b_M_lives : ByteArray := prog_5_method_4_code
def y_M_lives : MethodName := ⟨R_M, "lives", "(I)I"⟩
abbrev b_M_nextPage : ByteArray := prog_5_method_5_code
def y_M_nextPage : MethodName := ⟨R_M, "nextPage", "()I"⟩
abbrev b_M_page : ByteArray := prog_5_method_6_code
def y_M_page : MethodName := ⟨R_M, "page", "(II)I"⟩
abbrev b_M_mark : ByteArray := prog_5_method_7_code
def y_M_mark : MethodName := ⟨R_M, "mark", "(I)Z"⟩
abbrev b_M_put : ByteArray := prog_5_method_8_code
def y_M_put : MethodName := ⟨R_M, "put", "()Z"⟩
abbrev b_M_fresh : ByteArray := prog_5_method_9_code
def y_M_fresh : MethodName := ⟨R_M, "fresh", "(III)V"⟩
abbrev b_M_like : ByteArray := prog_5_method_10_code
def y_M_like : MethodName := ⟨R_M, "like", "(I)V"⟩
abbrev b_M_collect : ByteArray := prog_5_method_11_code
def y_M_collect : MethodName := ⟨R_M, "collect", "(I)Z"⟩
abbrev b_M_free : ByteArray := prog_5_method_40_code
def y_M_free : MethodName := ⟨R_M, "free", "()I"⟩
abbrev b_M_poorest : ByteArray := prog_5_method_12_code
def y_M_poorest : MethodName := ⟨R_M, "poorest", "()I"⟩
abbrev b_M_room : ByteArray := prog_5_method_13_code
def y_M_room : MethodName := ⟨R_M, "room", "(I)I"⟩
abbrev b_M_header : ByteArray := prog_5_method_14_code
def y_M_header : MethodName := ⟨R_M, "header", "(I)I"⟩
abbrev b_M_directory : ByteArray := prog_5_method_15_code
def y_M_directory : MethodName := ⟨R_M, "directory", "(I)Z"⟩
abbrev b_M_there : ByteArray := prog_5_method_16_code
def y_M_there : MethodName := ⟨R_M, "there", "(I)Z"⟩
abbrev b_M_named : ByteArray := prog_5_method_17_code
def y_M_named : MethodName := ⟨R_M, "named", "(III)I"⟩
abbrev b_M_inside : ByteArray := prog_5_method_18_code
def y_M_inside : MethodName := ⟨R_M, "inside", "(I)I"⟩
abbrev b_M_create : ByteArray := prog_5_method_19_code
def y_M_create : MethodName := ⟨R_M, "create", "(IIZ)I"⟩
abbrev b_M_write : ByteArray := prog_5_method_20_code
def y_M_write : MethodName := ⟨R_M, "write", "(III)I"⟩
abbrev b_M_read : ByteArray := prog_5_method_21_code
def y_M_read : MethodName := ⟨R_M, "read", "(II)J"⟩
abbrev b_M_drop : ByteArray := prog_5_method_22_code
def y_M_drop : MethodName := ⟨R_M, "drop", "(II)Z"⟩
abbrev b_M_truncate : ByteArray := prog_5_method_23_code
def y_M_truncate : MethodName := ⟨R_M, "truncate", "(II)I"⟩
abbrev b_M_lies : ByteArray := prog_5_method_24_code
def y_M_lies : MethodName := ⟨R_M, "lies", "(II)Z"⟩
abbrev b_M_move : ByteArray := prog_5_method_25_code
def y_M_move : MethodName := ⟨R_M, "move", "(III)I"⟩
abbrev b_M_remove : ByteArray := prog_5_method_26_code
def y_M_remove : MethodName := ⟨R_M, "remove", "(I)I"⟩
abbrev b_M_find : ByteArray := prog_5_method_27_code
def y_M_find : MethodName := ⟨R_M, "find", "(II)I"⟩
abbrev b_M_size : ByteArray := prog_5_method_28_code
def y_M_size : MethodName := ⟨R_M, "size", "(I)I"⟩
abbrev b_M_parentOf : ByteArray := prog_5_method_29_code
def y_M_parentOf : MethodName := ⟨R_M, "parentOf", "(I)I"⟩
abbrev b_M_nameOf : ByteArray := prog_5_method_30_code
def y_M_nameOf : MethodName := ⟨R_M, "nameOf", "(I)J"⟩
abbrev b_M_checkpoint : ByteArray := prog_5_method_31_code
def y_M_checkpoint : MethodName := ⟨R_M, "checkpoint", "()I"⟩
abbrev b_M_followed : ByteArray := prog_5_method_32_code
def y_M_followed : MethodName := ⟨R_M, "followed", "(I)Z"⟩
abbrev b_M_sizeOf : ByteArray := prog_5_method_33_code
def y_M_sizeOf : MethodName := ⟨R_M, "sizeOf", "(I)I"⟩
abbrev b_M_mount : ByteArray := prog_5_method_34_code
def y_M_mount : MethodName := ⟨R_M, "mount", "(Z)I"⟩
abbrev b_M_cut : ByteArray := prog_5_method_35_code
def y_M_cut : MethodName := ⟨R_M, "cut", "(I)V"⟩
abbrev b_M_outside : ByteArray := prog_5_method_36_code
def y_M_outside : MethodName := ⟨R_M, "outside", "(II)Z"⟩
abbrev b_M_flip : ByteArray := prog_5_method_37_code
def y_M_flip : MethodName := ⟨R_M, "flip", "(III)Z"⟩
abbrev b_M_wear : ByteArray := prog_5_method_38_code
def y_M_wear : MethodName := ⟨R_M, "wear", "(I)Z"⟩
abbrev b_M_tags : ByteArray := prog_5_method_39_code
def y_M_tags : MethodName := ⟨R_M, "tags", "(II)I"⟩
abbrev b_M_erases : ByteArray := prog_5_method_41_code
def y_M_erases : MethodName := ⟨R_M, "erases", "(I)I"⟩
abbrev b_M_steps : ByteArray := prog_5_method_42_code
def y_M_steps : MethodName := ⟨R_M, "steps", "()I"⟩
abbrev b_S_init : ByteArray := prog_1_method_1_code
def y_S_init : MethodName := ⟨R_S, "<init>", "()V"⟩
abbrev b_C_init : ByteArray := prog_2_method_1_code
def y_C_init : MethodName := ⟨R_C, "<init>", "()V"⟩
abbrev b_M_init : ByteArray := prog_5_method_1_code
def y_M_init : MethodName := ⟨R_M, "<init>", "()V"⟩
def w_l0 : List Cond := [.constantLong R_J 314 6148914691236517205, .constantLong R_J 316 3689348814741910323, .constantLong R_J 318 1085102592571150095, .constantLong R_C 67 4294967296, .constantLong R_S 170 4294967296, .constant R_T 9 32768, .constantLong R_S 73 8589934585, .constantLong R_S 71 8589934592, .constantLong R_M 156 8589934585, .constantLong R_M 158 4294967296, .constantLong R_M 154 8589934589, .constantLong R_M 152 8589934591, .constantLong R_M 150 8589934583, .constant R_M 182 32768, .fieldLink R_C 9 "SpareTagFlash$Chip" "tagsOf" "[I", .fieldLink R_C 15 "SpareTagFlash$Chip" "words" "[I", .fieldLink R_C 18 "SpareTagFlash$Chip" "turnedBits" "[J", .fieldLink R_C 22 "SpareTagFlash$Chip" "programmed" "[I", .fieldLink R_C 25 "SpareTagFlash$Chip" "timesErased" "[I", .fieldLink R_C 28 "SpareTagFlash$Chip" "worn" "[Z", .fieldLink R_C 32 "SpareTagFlash$Chip" "bad" "[Z", .fieldLink R_C 35 "SpareTagFlash$Chip" "touched" "[Z", .fieldLink R_C 42 "SpareTagFlash$Chip" "stepsDone" "I", .fieldLink R_C 46 "SpareTagFlash$Chip" "stepsLeft" "I", .fieldLink R_S 12 "SpareTagFlash" "chip" "LSpareTagFlash$Chip;", .fieldLink R_S 16 "SpareTagFlash" "stale" "[Z", .fieldLink R_S 20 "SpareTagFlash" "on" "Z", .fieldLink R_S 117 "SpareTagFlash$Chip" "regionValid" "Z", .fieldLink R_S 145 "SpareTagFlash$Chip" "bad" "[Z", .fieldLink R_S 148 "SpareTagFlash$Chip" "worn" "[Z", .fieldLink R_S 154 "SpareTagFlash$Chip" "tagsOf" "[I", .fieldLink R_S 161 "SpareTagFlash$Chip" "timesErased" "[I", .fieldLink R_S 164 "SpareTagFlash$Chip" "stepsDone" "I", .fieldLink R_S 191 "SpareTagFlash$Chip" "turnedBits" "[J", .fieldLink R_S 195 "SpareTagFlash$Chip" "words" "[I", .fieldLink R_S 210 "SpareTagFlash$Chip" "programmed" "[I", .fieldLink R_C 38 "SpareTagFlash$Chip" "regionValid" "Z", .fieldLink R_S 132 "SpareTagFlash$Chip" "stepsLeft" "I", .fieldLink R_M 7 "SpareTagFlashModel" "state" "[I", .fieldLink R_M 13 "SpareTagFlashModel" "object" "[I"]
def w_l1 : List Cond := [.fieldLink R_M 16 "SpareTagFlashModel" "chunk" "[I", .fieldLink R_M 19 "SpareTagFlashModel" "serial" "[I", .fieldLink R_M 22 "SpareTagFlashModel" "word" "[I", .fieldLink R_M 25 "SpareTagFlashModel" "parent" "[I", .fieldLink R_M 28 "SpareTagFlashModel" "length" "[I", .fieldLink R_M 31 "SpareTagFlashModel" "folder" "[Z", .fieldLink R_M 35 "SpareTagFlashModel" "first" "[I", .fieldLink R_M 38 "SpareTagFlashModel" "second" "[I", .fieldLink R_M 41 "SpareTagFlashModel" "stale" "[Z", .fieldLink R_M 44 "SpareTagFlashModel" "bad" "[Z", .fieldLink R_M 47 "SpareTagFlashModel" "worn" "[Z", .fieldLink R_M 50 "SpareTagFlashModel" "touched" "[Z", .fieldLink R_M 53 "SpareTagFlashModel" "erased" "[I", .fieldLink R_M 56 "SpareTagFlashModel" "on" "Z", .fieldLink R_M 60 "SpareTagFlashModel" "left" "I", .fieldLink R_M 64 "SpareTagFlashModel" "done" "I", .fieldLink R_M 75 "SpareTagFlashModel" "newObject" "I", .fieldLink R_M 78 "SpareTagFlashModel" "newChunk" "I", .fieldLink R_M 89 "SpareTagFlashModel" "newWord" "I", .fieldLink R_M 92 "SpareTagFlashModel" "newParent" "I", .fieldLink R_M 95 "SpareTagFlashModel" "newLength" "I", .fieldLink R_M 98 "SpareTagFlashModel" "newFolder" "Z", .fieldLink R_M 101 "SpareTagFlashModel" "newFirst" "I", .fieldLink R_M 104 "SpareTagFlashModel" "newSecond" "I", .fieldLink R_M 170 "SpareTagFlashModel" "valid" "Z", .code y_C_isProgrammed b_C_isProgrammed 2 (some .boolean), .methodLink R_C 49 y_C_isProgrammed, .instanceMethod y_C_isProgrammed, .selects R_C y_C_isProgrammed y_C_isProgrammed, .initialized R_C, .code y_T_isMarked b_T_isMarked 1 (some .boolean), .methodLink R_C 53 y_T_isMarked, .static y_T_isMarked, .initialized R_T, .code y_J_bitCount b_J_bitCount 2 (some .int), .methodLink R_C 58 y_J_bitCount, .static y_J_bitCount, .initialized R_J, .code y_C_isUnreadable b_C_isUnreadable 2 (some .boolean), .methodLink R_C 64 y_C_isUnreadable]
def w_l2 : List Cond := [.instanceMethod y_C_isUnreadable, .selects R_C y_C_isUnreadable y_C_isUnreadable, .code y_C_isLive b_C_isLive 2 (some .boolean), .methodLink R_C 69 y_C_isLive, .instanceMethod y_C_isLive, .selects R_C y_C_isLive y_C_isLive, .code y_T_areOf b_T_areOf 3 (some .boolean), .methodLink R_C 72 y_T_areOf, .static y_T_areOf, .code y_C_hasSuccessor b_C_hasSuccessor 3 (some .boolean), .methodLink R_C 76 y_C_hasSuccessor, .instanceMethod y_C_hasSuccessor, .selects R_C y_C_hasSuccessor y_C_hasSuccessor, .code y_T_follow b_T_follow 2 (some .boolean), .methodLink R_C 79 y_T_follow, .static y_T_follow, .code y_C_countLiveIn b_C_countLiveIn 5 (some .int), .methodLink R_C 83 y_C_countLiveIn, .instanceMethod y_C_countLiveIn, .selects R_C y_C_countLiveIn y_C_countLiveIn, .code y_C_blockOfNextPage b_C_blockOfNextPage 3 (some .int), .methodLink R_C 87 y_C_blockOfNextPage, .instanceMethod y_C_blockOfNextPage, .selects R_C y_C_blockOfNextPage y_C_blockOfNextPage, .code y_C_takeStep b_C_takeStep 1 (some .boolean), .methodLink R_C 91 y_C_takeStep, .instanceMethod y_C_takeStep, .selects R_C y_C_takeStep y_C_takeStep, .code y_M_programmed b_M_programmed 4 (some .int), .methodLink R_M 67 y_M_programmed, .instanceMethod y_M_programmed, .selects R_M y_M_programmed y_M_programmed, .initialized R_M, .code y_M_step b_M_step 1 (some .boolean), .methodLink R_M 71 y_M_step, .instanceMethod y_M_step, .selects R_M y_M_step y_M_step, .code y_M_page b_M_page 4 (some .int), .methodLink R_M 81 y_M_page, .instanceMethod y_M_page]
def w_l3 : List Cond := [.selects R_M y_M_page y_M_page, .code y_M_nextPage b_M_nextPage 3 (some .int), .methodLink R_M 85 y_M_nextPage, .instanceMethod y_M_nextPage, .selects R_M y_M_nextPage y_M_nextPage, .code y_M_mark b_M_mark 2 (some .boolean), .methodLink R_M 107 y_M_mark, .instanceMethod y_M_mark, .selects R_M y_M_mark y_M_mark, .code y_M_fresh b_M_fresh 4 none, .methodLink R_M 111 y_M_fresh, .instanceMethod y_M_fresh, .selects R_M y_M_fresh y_M_fresh, .code y_M_like b_M_like 2 none, .methodLink R_M 115 y_M_like, .instanceMethod y_M_like, .selects R_M y_M_like y_M_like, .code y_M_put b_M_put 3 (some .boolean), .methodLink R_M 119 y_M_put, .instanceMethod y_M_put, .selects R_M y_M_put y_M_put, .code y_M_free b_M_free 3 (some .int), .methodLink R_M 122 y_M_free, .instanceMethod y_M_free, .selects R_M y_M_free y_M_free, .code y_M_lives b_M_lives 4 (some .int), .methodLink R_M 125 y_M_lives, .instanceMethod y_M_lives, .selects R_M y_M_lives y_M_lives, .code y_M_poorest b_M_poorest 6 (some .int), .methodLink R_M 128 y_M_poorest, .instanceMethod y_M_poorest, .selects R_M y_M_poorest y_M_poorest, .code y_M_collect b_M_collect 3 (some .boolean), .methodLink R_M 131 y_M_collect, .instanceMethod y_M_collect, .selects R_M y_M_collect y_M_collect, .code y_M_header b_M_header 2 (some .int), .methodLink R_M 134 y_M_header, .instanceMethod y_M_header]
def w_l4 : List Cond := [.selects R_M y_M_header y_M_header, .code y_M_there b_M_there 2 (some .boolean), .methodLink R_M 137 y_M_there, .instanceMethod y_M_there, .selects R_M y_M_there y_M_there, .code y_M_directory b_M_directory 3 (some .boolean), .methodLink R_M 140 y_M_directory, .instanceMethod y_M_directory, .selects R_M y_M_directory y_M_directory, .code y_M_named b_M_named 6 (some .int), .methodLink R_M 143 y_M_named, .instanceMethod y_M_named, .selects R_M y_M_named y_M_named, .code y_M_room b_M_room 4 (some .int), .methodLink R_M 147 y_M_room, .instanceMethod y_M_room, .selects R_M y_M_room y_M_room, .code y_M_drop b_M_drop 5 (some .boolean), .methodLink R_M 160 y_M_drop, .instanceMethod y_M_drop, .selects R_M y_M_drop y_M_drop, .code y_M_lies b_M_lies 6 (some .boolean), .methodLink R_M 164 y_M_lies, .instanceMethod y_M_lies, .selects R_M y_M_lies y_M_lies, .code y_M_inside b_M_inside 5 (some .int), .methodLink R_M 167 y_M_inside, .instanceMethod y_M_inside, .selects R_M y_M_inside y_M_inside, .code y_M_followed b_M_followed 3 (some .boolean), .methodLink R_M 173 y_M_followed, .instanceMethod y_M_followed, .selects R_M y_M_followed y_M_followed, .code y_M_sizeOf b_M_sizeOf 4 (some .int), .methodLink R_M 176 y_M_sizeOf, .instanceMethod y_M_sizeOf, .selects R_M y_M_sizeOf y_M_sizeOf, .code y_M_outside b_M_outside 2 (some .boolean), .methodLink R_M 179 y_M_outside, .static y_M_outside]
def w_l5 : List Cond := [.code y_S_refusalOfDirectory b_S_refusalOfDirectory 2 (some .int), .methodLink R_S 24 y_S_refusalOfDirectory, .instanceMethod y_S_refusalOfDirectory, .selects R_S y_S_refusalOfDirectory y_S_refusalOfDirectory, .initialized R_S, .code y_S_objectNamed b_S_objectNamed 4 (some .int), .methodLink R_S 28 y_S_objectNamed, .instanceMethod y_S_objectNamed, .selects R_S y_S_objectNamed y_S_objectNamed, .code y_S_lowestAbsentObject b_S_lowestAbsentObject 2 (some .int), .methodLink R_S 32 y_S_lowestAbsentObject, .instanceMethod y_S_lowestAbsentObject, .selects R_S y_S_lowestAbsentObject y_S_lowestAbsentObject, .code y_S_makeRoom b_S_makeRoom 5 (some .int), .methodLink R_S 36 y_S_makeRoom, .instanceMethod y_S_makeRoom, .selects R_S y_S_makeRoom y_S_makeRoom, .code y_T_ofHeader b_T_ofHeader 3 (some .int), .methodLink R_S 39 y_T_ofHeader, .static y_T_ofHeader, .code y_S_put b_S_put 7 (some .boolean), .methodLink R_S 45 y_S_put, .instanceMethod y_S_put, .selects R_S y_S_put y_S_put, .code y_S_switchOff b_S_switchOff 1 (some .int), .methodLink R_S 49 y_S_switchOff, .instanceMethod y_S_switchOff, .selects R_S y_S_switchOff y_S_switchOff, .code y_S_refusalOfFile b_S_refusalOfFile 3 (some .int), .methodLink R_S 52 y_S_refusalOfFile, .instanceMethod y_S_refusalOfFile, .selects R_S y_S_refusalOfFile y_S_refusalOfFile, .code y_S_headerTags b_S_headerTags 3 (some .int), .methodLink R_S 55 y_S_headerTags, .instanceMethod y_S_headerTags, .selects R_S y_S_headerTags y_S_headerTags, .code y_T_length b_T_length 1 (some .int), .methodLink R_S 58 y_T_length, .static y_T_length, .code y_C_livePage b_C_livePage 4 (some .int)]
def w_l6 : List Cond := [.methodLink R_S 61 y_C_livePage, .instanceMethod y_C_livePage, .selects R_C y_C_livePage y_C_livePage, .code y_T_ofChunk b_T_ofChunk 2 (some .int), .methodLink R_S 64 y_T_ofChunk, .static y_T_ofChunk, .code y_S_putLength b_S_putLength 4 (some .boolean), .methodLink R_S 67 y_S_putLength, .instanceMethod y_S_putLength, .selects R_S y_S_putLength y_S_putLength, .code y_C_wordRead b_C_wordRead 2 (some .long), .methodLink R_S 75 y_C_wordRead, .instanceMethod y_C_wordRead, .selects R_C y_C_wordRead y_C_wordRead, .code y_S_markChunks b_S_markChunks 5 (some .boolean), .methodLink R_S 79 y_S_markChunks, .instanceMethod y_S_markChunks, .selects R_S y_S_markChunks y_S_markChunks, .code y_S_refusalOfObject b_S_refusalOfObject 2 (some .int), .methodLink R_S 82 y_S_refusalOfObject, .instanceMethod y_S_refusalOfObject, .selects R_S y_S_refusalOfObject y_S_refusalOfObject, .code y_S_liesIn b_S_liesIn 5 (some .boolean), .methodLink R_S 85 y_S_liesIn, .instanceMethod y_S_liesIn, .selects R_S y_S_liesIn y_S_liesIn, .code y_T_withParent b_T_withParent 2 (some .int), .methodLink R_S 88 y_T_withParent, .static y_T_withParent, .code y_S_objectsIn b_S_objectsIn 4 (some .int), .methodLink R_S 91 y_S_objectsIn, .instanceMethod y_S_objectsIn, .selects R_S y_S_objectsIn y_S_objectsIn, .code y_S_isThere b_S_isThere 2 (some .boolean), .methodLink R_S 94 y_S_isThere, .instanceMethod y_S_isThere, .selects R_S y_S_isThere y_S_isThere, .code y_S_isDirectory b_S_isDirectory 2 (some .boolean), .methodLink R_S 98 y_S_isDirectory, .instanceMethod y_S_isDirectory]
def w_l7 : List Cond := [.selects R_S y_S_isDirectory y_S_isDirectory, .code y_T_parent b_T_parent 1 (some .int), .methodLink R_S 101 y_T_parent, .static y_T_parent, .code y_S_nameRead b_S_nameRead 3 (some .long), .methodLink R_S 104 y_S_nameRead, .instanceMethod y_S_nameRead, .selects R_S y_S_nameRead y_S_nameRead, .code y_C_dropRegion b_C_dropRegion 1 (some .boolean), .methodLink R_S 107 y_C_dropRegion, .instanceMethod y_C_dropRegion, .selects R_C y_C_dropRegion y_C_dropRegion, .code y_C_fillRegion b_C_fillRegion 2 (some .boolean), .methodLink R_S 111 y_C_fillRegion, .instanceMethod y_C_fillRegion, .selects R_C y_C_fillRegion y_C_fillRegion, .code y_C_countLive b_C_countLive 3 (some .int), .methodLink R_S 114 y_C_countLive, .instanceMethod y_C_countLive, .selects R_C y_C_countLive y_C_countLive, .code y_C_countGood b_C_countGood 3 (some .int), .methodLink R_S 120 y_C_countGood, .instanceMethod y_C_countGood, .selects R_C y_C_countGood y_C_countGood, .code y_C_countGoodTouched b_C_countGoodTouched 3 (some .int), .methodLink R_S 123 y_C_countGoodTouched, .instanceMethod y_C_countGoodTouched, .selects R_C y_C_countGoodTouched y_C_countGoodTouched, .code y_S_settleStale b_S_settleStale 2 none, .methodLink R_S 126 y_S_settleStale, .instanceMethod y_S_settleStale, .selects R_S y_S_settleStale y_S_settleStale, .code y_S_markStale b_S_markStale 2 (some .boolean), .methodLink R_S 129 y_S_markStale, .instanceMethod y_S_markStale, .selects R_S y_S_markStale y_S_markStale, .code y_S_isPage b_S_isPage 2 (some .boolean), .methodLink R_S 136 y_S_isPage, .static y_S_isPage, .code y_C_turnBit b_C_turnBit 3 (some .boolean)]
def w_l8 : List Cond := [.methodLink R_S 139 y_C_turnBit, .instanceMethod y_C_turnBit, .selects R_C y_C_turnBit y_C_turnBit, .code y_S_isBlock b_S_isBlock 1 (some .boolean), .methodLink R_S 142 y_S_isBlock, .static y_S_isBlock, .methodLink R_S 151 y_C_isProgrammed, .code y_C_countFree b_C_countFree 3 (some .int), .methodLink R_S 158 y_C_countFree, .instanceMethod y_C_countFree, .selects R_C y_C_countFree y_C_countFree, .code y_T_isOfDirectory b_T_isOfDirectory 1 (some .boolean), .methodLink R_S 167 y_T_isOfDirectory, .static y_T_isOfDirectory, .code y_S_isIn b_S_isIn 3 (some .boolean), .methodLink R_S 172 y_S_isIn, .instanceMethod y_S_isIn, .selects R_S y_S_isIn y_S_isIn, .code y_T_withSerial b_T_withSerial 2 (some .int), .methodLink R_S 175 y_T_withSerial, .static y_T_withSerial, .code y_C_program b_C_program 7 (some .boolean), .methodLink R_S 178 y_C_program, .instanceMethod y_C_program, .selects R_C y_C_program y_C_program, .code y_T_serialAfter b_T_serialAfter 1 (some .int), .methodLink R_S 182 y_T_serialAfter, .static y_T_serialAfter, .code y_C_mark b_C_mark 2 (some .boolean), .methodLink R_S 185 y_C_mark, .instanceMethod y_C_mark, .selects R_C y_C_mark y_C_mark, .methodLink R_S 188 y_C_isUnreadable, .code y_T_withLength b_T_withLength 2 (some .int), .methodLink R_S 198 y_T_withLength, .static y_T_withLength, .code y_S_putWordOf b_S_putWordOf 5 (some .boolean), .methodLink R_S 201 y_S_putWordOf, .instanceMethod y_S_putWordOf, .selects R_S y_S_putWordOf y_S_putWordOf]
def w_l9 : List Cond := [.code y_S_blockToCollect b_S_blockToCollect 6 (some .int), .methodLink R_S 204 y_S_blockToCollect, .instanceMethod y_S_blockToCollect, .selects R_S y_S_blockToCollect y_S_blockToCollect, .code y_S_collect b_S_collect 4 (some .boolean), .methodLink R_S 207 y_S_collect, .instanceMethod y_S_collect, .selects R_S y_S_collect y_S_collect, .methodLink R_S 213 y_C_countLiveIn, .methodLink R_S 216 y_C_isLive, .code y_C_erase b_C_erase 2 (some .boolean), .methodLink R_S 219 y_C_erase, .instanceMethod y_C_erase, .selects R_C y_C_erase y_C_erase, .methodLink R_S 222 y_C_hasSuccessor, .code y_S_isBeyondFile b_S_isBeyondFile 4 (some .boolean), .methodLink R_S 225 y_S_isBeyondFile, .instanceMethod y_S_isBeyondFile, .selects R_S y_S_isBeyondFile y_S_isBeyondFile, .code y_T_chunk b_T_chunk 1 (some .int), .methodLink R_S 228 y_T_chunk, .static y_T_chunk, .code y_T_object b_T_object 1 (some .int), .methodLink R_S 231 y_T_object, .static y_T_object, .code y_C_latestHeader b_C_latestHeader 3 (some .int), .methodLink R_S 234 y_C_latestHeader, .instanceMethod y_C_latestHeader, .selects R_C y_C_latestHeader y_C_latestHeader, .methodLink R_T 10 y_T_ofChunk, .methodLink R_T 14 y_T_serialAfter, .code y_S_create b_S_create 7 (some .int), .code y_S_write b_S_write 8 (some .int), .code y_S_read b_S_read 5 (some .long), .code y_S_truncate b_S_truncate 6 (some .int), .code y_S_move b_S_move 8 (some .int), .code y_S_remove b_S_remove 3 (some .int), .code y_S_find b_S_find 4 (some .int), .code y_S_size b_S_size 2 (some .int), .code y_S_parentOf b_S_parentOf 3 (some .int)]
def w_l10 : List Cond := [.code y_S_nameOf b_S_nameOf 3 (some .long), .code y_S_checkpoint b_S_checkpoint 1 (some .int), .code y_S_mount b_S_mount 3 (some .int), .code y_S_cut b_S_cut 2 none, .code y_S_flip b_S_flip 4 (some .boolean), .code y_S_wear b_S_wear 2 (some .boolean), .code y_S_tags b_S_tags 4 (some .int), .code y_S_free b_S_free 1 (some .int), .code y_S_erases b_S_erases 2 (some .int), .code y_S_steps b_S_steps 1 (some .int), .code y_M_create b_M_create 6 (some .int), .code y_M_write b_M_write 8 (some .int), .code y_M_read b_M_read 5 (some .long), .code y_M_truncate b_M_truncate 6 (some .int), .code y_M_move b_M_move 6 (some .int), .code y_M_remove b_M_remove 3 (some .int), .code y_M_find b_M_find 3 (some .int), .code y_M_size b_M_size 2 (some .int), .code y_M_parentOf b_M_parentOf 3 (some .int), .code y_M_nameOf b_M_nameOf 3 (some .long), .code y_M_checkpoint b_M_checkpoint 3 (some .int), .code y_M_mount b_M_mount 6 (some .int), .code y_M_cut b_M_cut 2 none, .code y_M_flip b_M_flip 5 (some .boolean), .code y_M_wear b_M_wear 2 (some .boolean), .code y_M_tags b_M_tags 5 (some .int), .code y_M_erases b_M_erases 2 (some .int), .code y_M_steps b_M_steps 1 (some .int)]
def w_all : List Cond := w_l0 ++ (w_l1 ++ (w_l2 ++ (w_l3 ++ (w_l4 ++ (w_l5 ++ (w_l6 ++ (w_l7 ++ (w_l8 ++ (w_l9 ++ (w_l10 ++ (w_S ++ (w_C ++ (w_M)))))))))))))
set_option maxRecDepth 20000 in
theorem wm_0 : (Cond.constantLong R_J 314 6148914691236517205) ∈ w_all := List.mem_append_left _ (List.mem_of_getElem? (i := 0) rfl)
set_option maxRecDepth 20000 in
theorem wm_1 : (Cond.constantLong R_J 316 3689348814741910323) ∈ w_all := List.mem_append_left _ (List.mem_of_getElem? (i := 1) rfl)
set_option maxRecDepth 20000 in
theorem wm_2 : (Cond.constantLong R_J 318 1085102592571150095) ∈ w_all := List.mem_append_left _ (List.mem_of_getElem? (i := 2) rfl)
set_option maxRecDepth 20000 in
theorem wm_3 : (Cond.constantLong R_C 67 4294967296) ∈ w_all := List.mem_append_left _ (List.mem_of_getElem? (i := 3) rfl)
set_option maxRecDepth 20000 in
theorem wm_4 : (Cond.constantLong R_S 170 4294967296) ∈ w_all := List.mem_append_left _ (List.mem_of_getElem? (i := 4) rfl)
set_option maxRecDepth 20000 in
theorem wm_5 : (Cond.constant R_T 9 32768) ∈ w_all := List.mem_append_left _ (List.mem_of_getElem? (i := 5) rfl)
set_option maxRecDepth 20000 in
theorem wm_6 : (Cond.constantLong R_S 73 8589934585) ∈ w_all := List.mem_append_left _ (List.mem_of_getElem? (i := 6) rfl)
set_option maxRecDepth 20000 in
theorem wm_7 : (Cond.constantLong R_S 71 8589934592) ∈ w_all := List.mem_append_left _ (List.mem_of_getElem? (i := 7) rfl)
set_option maxRecDepth 20000 in
theorem wm_8 : (Cond.constantLong R_M 156 8589934585) ∈ w_all := List.mem_append_left _ (List.mem_of_getElem? (i := 8) rfl)
set_option maxRecDepth 20000 in
theorem wm_9 : (Cond.constantLong R_M 158 4294967296) ∈ w_all := List.mem_append_left _ (List.mem_of_getElem? (i := 9) rfl)
set_option maxRecDepth 20000 in
theorem wm_10 : (Cond.constantLong R_M 154 8589934589) ∈ w_all := List.mem_append_left _ (List.mem_of_getElem? (i := 10) rfl)
set_option maxRecDepth 20000 in
theorem wm_11 : (Cond.constantLong R_M 152 8589934591) ∈ w_all := List.mem_append_left _ (List.mem_of_getElem? (i := 11) rfl)
set_option maxRecDepth 20000 in
theorem wm_12 : (Cond.constantLong R_M 150 8589934583) ∈ w_all := List.mem_append_left _ (List.mem_of_getElem? (i := 12) rfl)
set_option maxRecDepth 20000 in
theorem wm_13 : (Cond.constant R_M 182 32768) ∈ w_all := List.mem_append_left _ (List.mem_of_getElem? (i := 13) rfl)
set_option maxRecDepth 20000 in
theorem wm_14 : (Cond.fieldLink R_C 9 "SpareTagFlash$Chip" "tagsOf" "[I") ∈ w_all := List.mem_append_left _ (List.mem_of_getElem? (i := 14) rfl)
set_option maxRecDepth 20000 in
theorem wm_15 : (Cond.fieldLink R_C 15 "SpareTagFlash$Chip" "words" "[I") ∈ w_all := List.mem_append_left _ (List.mem_of_getElem? (i := 15) rfl)
set_option maxRecDepth 20000 in
theorem wm_16 : (Cond.fieldLink R_C 18 "SpareTagFlash$Chip" "turnedBits" "[J") ∈ w_all := List.mem_append_left _ (List.mem_of_getElem? (i := 16) rfl)
set_option maxRecDepth 20000 in
theorem wm_17 : (Cond.fieldLink R_C 22 "SpareTagFlash$Chip" "programmed" "[I") ∈ w_all := List.mem_append_left _ (List.mem_of_getElem? (i := 17) rfl)
set_option maxRecDepth 20000 in
theorem wm_18 : (Cond.fieldLink R_C 25 "SpareTagFlash$Chip" "timesErased" "[I") ∈ w_all := List.mem_append_left _ (List.mem_of_getElem? (i := 18) rfl)
set_option maxRecDepth 20000 in
theorem wm_19 : (Cond.fieldLink R_C 28 "SpareTagFlash$Chip" "worn" "[Z") ∈ w_all := List.mem_append_left _ (List.mem_of_getElem? (i := 19) rfl)
set_option maxRecDepth 20000 in
theorem wm_20 : (Cond.fieldLink R_C 32 "SpareTagFlash$Chip" "bad" "[Z") ∈ w_all := List.mem_append_left _ (List.mem_of_getElem? (i := 20) rfl)
set_option maxRecDepth 20000 in
theorem wm_21 : (Cond.fieldLink R_C 35 "SpareTagFlash$Chip" "touched" "[Z") ∈ w_all := List.mem_append_left _ (List.mem_of_getElem? (i := 21) rfl)
set_option maxRecDepth 20000 in
theorem wm_22 : (Cond.fieldLink R_C 42 "SpareTagFlash$Chip" "stepsDone" "I") ∈ w_all := List.mem_append_left _ (List.mem_of_getElem? (i := 22) rfl)
set_option maxRecDepth 20000 in
theorem wm_23 : (Cond.fieldLink R_C 46 "SpareTagFlash$Chip" "stepsLeft" "I") ∈ w_all := List.mem_append_left _ (List.mem_of_getElem? (i := 23) rfl)
set_option maxRecDepth 20000 in
theorem wm_24 : (Cond.fieldLink R_S 12 "SpareTagFlash" "chip" "LSpareTagFlash$Chip;") ∈ w_all := List.mem_append_left _ (List.mem_of_getElem? (i := 24) rfl)
set_option maxRecDepth 20000 in
theorem wm_25 : (Cond.fieldLink R_S 16 "SpareTagFlash" "stale" "[Z") ∈ w_all := List.mem_append_left _ (List.mem_of_getElem? (i := 25) rfl)
set_option maxRecDepth 20000 in
theorem wm_26 : (Cond.fieldLink R_S 20 "SpareTagFlash" "on" "Z") ∈ w_all := List.mem_append_left _ (List.mem_of_getElem? (i := 26) rfl)
set_option maxRecDepth 20000 in
theorem wm_27 : (Cond.fieldLink R_S 117 "SpareTagFlash$Chip" "regionValid" "Z") ∈ w_all := List.mem_append_left _ (List.mem_of_getElem? (i := 27) rfl)
set_option maxRecDepth 20000 in
theorem wm_28 : (Cond.fieldLink R_S 145 "SpareTagFlash$Chip" "bad" "[Z") ∈ w_all := List.mem_append_left _ (List.mem_of_getElem? (i := 28) rfl)
set_option maxRecDepth 20000 in
theorem wm_29 : (Cond.fieldLink R_S 148 "SpareTagFlash$Chip" "worn" "[Z") ∈ w_all := List.mem_append_left _ (List.mem_of_getElem? (i := 29) rfl)
set_option maxRecDepth 20000 in
theorem wm_30 : (Cond.fieldLink R_S 154 "SpareTagFlash$Chip" "tagsOf" "[I") ∈ w_all := List.mem_append_left _ (List.mem_of_getElem? (i := 30) rfl)
set_option maxRecDepth 20000 in
theorem wm_31 : (Cond.fieldLink R_S 161 "SpareTagFlash$Chip" "timesErased" "[I") ∈ w_all := List.mem_append_left _ (List.mem_of_getElem? (i := 31) rfl)
set_option maxRecDepth 20000 in
theorem wm_32 : (Cond.fieldLink R_S 164 "SpareTagFlash$Chip" "stepsDone" "I") ∈ w_all := List.mem_append_left _ (List.mem_of_getElem? (i := 32) rfl)
set_option maxRecDepth 20000 in
theorem wm_33 : (Cond.fieldLink R_S 191 "SpareTagFlash$Chip" "turnedBits" "[J") ∈ w_all := List.mem_append_left _ (List.mem_of_getElem? (i := 33) rfl)
set_option maxRecDepth 20000 in
theorem wm_34 : (Cond.fieldLink R_S 195 "SpareTagFlash$Chip" "words" "[I") ∈ w_all := List.mem_append_left _ (List.mem_of_getElem? (i := 34) rfl)
set_option maxRecDepth 20000 in
theorem wm_35 : (Cond.fieldLink R_S 210 "SpareTagFlash$Chip" "programmed" "[I") ∈ w_all := List.mem_append_left _ (List.mem_of_getElem? (i := 35) rfl)
set_option maxRecDepth 20000 in
theorem wm_36 : (Cond.fieldLink R_C 38 "SpareTagFlash$Chip" "regionValid" "Z") ∈ w_all := List.mem_append_left _ (List.mem_of_getElem? (i := 36) rfl)
set_option maxRecDepth 20000 in
theorem wm_37 : (Cond.fieldLink R_S 132 "SpareTagFlash$Chip" "stepsLeft" "I") ∈ w_all := List.mem_append_left _ (List.mem_of_getElem? (i := 37) rfl)
set_option maxRecDepth 20000 in
theorem wm_38 : (Cond.fieldLink R_M 7 "SpareTagFlashModel" "state" "[I") ∈ w_all := List.mem_append_left _ (List.mem_of_getElem? (i := 38) rfl)
set_option maxRecDepth 20000 in
theorem wm_39 : (Cond.fieldLink R_M 13 "SpareTagFlashModel" "object" "[I") ∈ w_all := List.mem_append_left _ (List.mem_of_getElem? (i := 39) rfl)
set_option maxRecDepth 20000 in
theorem wm_40 : (Cond.fieldLink R_M 16 "SpareTagFlashModel" "chunk" "[I") ∈ w_all := List.mem_append_right _ (List.mem_append_left _ (List.mem_of_getElem? (i := 0) rfl))
set_option maxRecDepth 20000 in
theorem wm_41 : (Cond.fieldLink R_M 19 "SpareTagFlashModel" "serial" "[I") ∈ w_all := List.mem_append_right _ (List.mem_append_left _ (List.mem_of_getElem? (i := 1) rfl))
set_option maxRecDepth 20000 in
theorem wm_42 : (Cond.fieldLink R_M 22 "SpareTagFlashModel" "word" "[I") ∈ w_all := List.mem_append_right _ (List.mem_append_left _ (List.mem_of_getElem? (i := 2) rfl))
set_option maxRecDepth 20000 in
theorem wm_43 : (Cond.fieldLink R_M 25 "SpareTagFlashModel" "parent" "[I") ∈ w_all := List.mem_append_right _ (List.mem_append_left _ (List.mem_of_getElem? (i := 3) rfl))
set_option maxRecDepth 20000 in
theorem wm_44 : (Cond.fieldLink R_M 28 "SpareTagFlashModel" "length" "[I") ∈ w_all := List.mem_append_right _ (List.mem_append_left _ (List.mem_of_getElem? (i := 4) rfl))
set_option maxRecDepth 20000 in
theorem wm_45 : (Cond.fieldLink R_M 31 "SpareTagFlashModel" "folder" "[Z") ∈ w_all := List.mem_append_right _ (List.mem_append_left _ (List.mem_of_getElem? (i := 5) rfl))
set_option maxRecDepth 20000 in
theorem wm_46 : (Cond.fieldLink R_M 35 "SpareTagFlashModel" "first" "[I") ∈ w_all := List.mem_append_right _ (List.mem_append_left _ (List.mem_of_getElem? (i := 6) rfl))
set_option maxRecDepth 20000 in
theorem wm_47 : (Cond.fieldLink R_M 38 "SpareTagFlashModel" "second" "[I") ∈ w_all := List.mem_append_right _ (List.mem_append_left _ (List.mem_of_getElem? (i := 7) rfl))
set_option maxRecDepth 20000 in
theorem wm_48 : (Cond.fieldLink R_M 41 "SpareTagFlashModel" "stale" "[Z") ∈ w_all := List.mem_append_right _ (List.mem_append_left _ (List.mem_of_getElem? (i := 8) rfl))
set_option maxRecDepth 20000 in
theorem wm_49 : (Cond.fieldLink R_M 44 "SpareTagFlashModel" "bad" "[Z") ∈ w_all := List.mem_append_right _ (List.mem_append_left _ (List.mem_of_getElem? (i := 9) rfl))
set_option maxRecDepth 20000 in
theorem wm_50 : (Cond.fieldLink R_M 47 "SpareTagFlashModel" "worn" "[Z") ∈ w_all := List.mem_append_right _ (List.mem_append_left _ (List.mem_of_getElem? (i := 10) rfl))
set_option maxRecDepth 20000 in
theorem wm_51 : (Cond.fieldLink R_M 50 "SpareTagFlashModel" "touched" "[Z") ∈ w_all := List.mem_append_right _ (List.mem_append_left _ (List.mem_of_getElem? (i := 11) rfl))
set_option maxRecDepth 20000 in
theorem wm_52 : (Cond.fieldLink R_M 53 "SpareTagFlashModel" "erased" "[I") ∈ w_all := List.mem_append_right _ (List.mem_append_left _ (List.mem_of_getElem? (i := 12) rfl))
set_option maxRecDepth 20000 in
theorem wm_53 : (Cond.fieldLink R_M 56 "SpareTagFlashModel" "on" "Z") ∈ w_all := List.mem_append_right _ (List.mem_append_left _ (List.mem_of_getElem? (i := 13) rfl))
set_option maxRecDepth 20000 in
theorem wm_54 : (Cond.fieldLink R_M 60 "SpareTagFlashModel" "left" "I") ∈ w_all := List.mem_append_right _ (List.mem_append_left _ (List.mem_of_getElem? (i := 14) rfl))
set_option maxRecDepth 20000 in
theorem wm_55 : (Cond.fieldLink R_M 64 "SpareTagFlashModel" "done" "I") ∈ w_all := List.mem_append_right _ (List.mem_append_left _ (List.mem_of_getElem? (i := 15) rfl))
set_option maxRecDepth 20000 in
theorem wm_56 : (Cond.fieldLink R_M 75 "SpareTagFlashModel" "newObject" "I") ∈ w_all := List.mem_append_right _ (List.mem_append_left _ (List.mem_of_getElem? (i := 16) rfl))
set_option maxRecDepth 20000 in
theorem wm_57 : (Cond.fieldLink R_M 78 "SpareTagFlashModel" "newChunk" "I") ∈ w_all := List.mem_append_right _ (List.mem_append_left _ (List.mem_of_getElem? (i := 17) rfl))
set_option maxRecDepth 20000 in
theorem wm_58 : (Cond.fieldLink R_M 89 "SpareTagFlashModel" "newWord" "I") ∈ w_all := List.mem_append_right _ (List.mem_append_left _ (List.mem_of_getElem? (i := 18) rfl))
set_option maxRecDepth 20000 in
theorem wm_59 : (Cond.fieldLink R_M 92 "SpareTagFlashModel" "newParent" "I") ∈ w_all := List.mem_append_right _ (List.mem_append_left _ (List.mem_of_getElem? (i := 19) rfl))
set_option maxRecDepth 20000 in
theorem wm_60 : (Cond.fieldLink R_M 95 "SpareTagFlashModel" "newLength" "I") ∈ w_all := List.mem_append_right _ (List.mem_append_left _ (List.mem_of_getElem? (i := 20) rfl))
set_option maxRecDepth 20000 in
theorem wm_61 : (Cond.fieldLink R_M 98 "SpareTagFlashModel" "newFolder" "Z") ∈ w_all := List.mem_append_right _ (List.mem_append_left _ (List.mem_of_getElem? (i := 21) rfl))
set_option maxRecDepth 20000 in
theorem wm_62 : (Cond.fieldLink R_M 101 "SpareTagFlashModel" "newFirst" "I") ∈ w_all := List.mem_append_right _ (List.mem_append_left _ (List.mem_of_getElem? (i := 22) rfl))
set_option maxRecDepth 20000 in
theorem wm_63 : (Cond.fieldLink R_M 104 "SpareTagFlashModel" "newSecond" "I") ∈ w_all := List.mem_append_right _ (List.mem_append_left _ (List.mem_of_getElem? (i := 23) rfl))
set_option maxRecDepth 20000 in
theorem wm_64 : (Cond.fieldLink R_M 170 "SpareTagFlashModel" "valid" "Z") ∈ w_all := List.mem_append_right _ (List.mem_append_left _ (List.mem_of_getElem? (i := 24) rfl))
set_option maxRecDepth 20000 in
theorem wm_65 : (Cond.code y_C_isProgrammed b_C_isProgrammed 2 (some .boolean)) ∈ w_all := List.mem_append_right _ (List.mem_append_left _ (List.mem_of_getElem? (i := 25) rfl))
set_option maxRecDepth 20000 in
theorem wm_66 : (Cond.methodLink R_C 49 y_C_isProgrammed) ∈ w_all := List.mem_append_right _ (List.mem_append_left _ (List.mem_of_getElem? (i := 26) rfl))
set_option maxRecDepth 20000 in
theorem wm_67 : (Cond.instanceMethod y_C_isProgrammed) ∈ w_all := List.mem_append_right _ (List.mem_append_left _ (List.mem_of_getElem? (i := 27) rfl))
set_option maxRecDepth 20000 in
theorem wm_68 : (Cond.selects R_C y_C_isProgrammed y_C_isProgrammed) ∈ w_all := List.mem_append_right _ (List.mem_append_left _ (List.mem_of_getElem? (i := 28) rfl))
set_option maxRecDepth 20000 in
theorem wm_69 : (Cond.initialized R_C) ∈ w_all := List.mem_append_right _ (List.mem_append_left _ (List.mem_of_getElem? (i := 29) rfl))
set_option maxRecDepth 20000 in
theorem wm_70 : (Cond.code y_T_isMarked b_T_isMarked 1 (some .boolean)) ∈ w_all := List.mem_append_right _ (List.mem_append_left _ (List.mem_of_getElem? (i := 30) rfl))
set_option maxRecDepth 20000 in
theorem wm_71 : (Cond.methodLink R_C 53 y_T_isMarked) ∈ w_all := List.mem_append_right _ (List.mem_append_left _ (List.mem_of_getElem? (i := 31) rfl))
set_option maxRecDepth 20000 in
theorem wm_72 : (Cond.static y_T_isMarked) ∈ w_all := List.mem_append_right _ (List.mem_append_left _ (List.mem_of_getElem? (i := 32) rfl))
set_option maxRecDepth 20000 in
theorem wm_73 : (Cond.initialized R_T) ∈ w_all := List.mem_append_right _ (List.mem_append_left _ (List.mem_of_getElem? (i := 33) rfl))
set_option maxRecDepth 20000 in
theorem wm_74 : (Cond.code y_J_bitCount b_J_bitCount 2 (some .int)) ∈ w_all := List.mem_append_right _ (List.mem_append_left _ (List.mem_of_getElem? (i := 34) rfl))
set_option maxRecDepth 20000 in
theorem wm_75 : (Cond.methodLink R_C 58 y_J_bitCount) ∈ w_all := List.mem_append_right _ (List.mem_append_left _ (List.mem_of_getElem? (i := 35) rfl))
set_option maxRecDepth 20000 in
theorem wm_76 : (Cond.static y_J_bitCount) ∈ w_all := List.mem_append_right _ (List.mem_append_left _ (List.mem_of_getElem? (i := 36) rfl))
set_option maxRecDepth 20000 in
theorem wm_77 : (Cond.initialized R_J) ∈ w_all := List.mem_append_right _ (List.mem_append_left _ (List.mem_of_getElem? (i := 37) rfl))
set_option maxRecDepth 20000 in
theorem wm_78 : (Cond.code y_C_isUnreadable b_C_isUnreadable 2 (some .boolean)) ∈ w_all := List.mem_append_right _ (List.mem_append_left _ (List.mem_of_getElem? (i := 38) rfl))
set_option maxRecDepth 20000 in
theorem wm_79 : (Cond.methodLink R_C 64 y_C_isUnreadable) ∈ w_all := List.mem_append_right _ (List.mem_append_left _ (List.mem_of_getElem? (i := 39) rfl))
set_option maxRecDepth 20000 in
theorem wm_80 : (Cond.instanceMethod y_C_isUnreadable) ∈ w_all := List.mem_append_right _ (List.mem_append_right _ (List.mem_append_left _ (List.mem_of_getElem? (i := 0) rfl)))
set_option maxRecDepth 20000 in
theorem wm_81 : (Cond.selects R_C y_C_isUnreadable y_C_isUnreadable) ∈ w_all := List.mem_append_right _ (List.mem_append_right _ (List.mem_append_left _ (List.mem_of_getElem? (i := 1) rfl)))
set_option maxRecDepth 20000 in
theorem wm_82 : (Cond.code y_C_isLive b_C_isLive 2 (some .boolean)) ∈ w_all := List.mem_append_right _ (List.mem_append_right _ (List.mem_append_left _ (List.mem_of_getElem? (i := 2) rfl)))
set_option maxRecDepth 20000 in
theorem wm_83 : (Cond.methodLink R_C 69 y_C_isLive) ∈ w_all := List.mem_append_right _ (List.mem_append_right _ (List.mem_append_left _ (List.mem_of_getElem? (i := 3) rfl)))
set_option maxRecDepth 20000 in
theorem wm_84 : (Cond.instanceMethod y_C_isLive) ∈ w_all := List.mem_append_right _ (List.mem_append_right _ (List.mem_append_left _ (List.mem_of_getElem? (i := 4) rfl)))
set_option maxRecDepth 20000 in
theorem wm_85 : (Cond.selects R_C y_C_isLive y_C_isLive) ∈ w_all := List.mem_append_right _ (List.mem_append_right _ (List.mem_append_left _ (List.mem_of_getElem? (i := 5) rfl)))
set_option maxRecDepth 20000 in
theorem wm_86 : (Cond.code y_T_areOf b_T_areOf 3 (some .boolean)) ∈ w_all := List.mem_append_right _ (List.mem_append_right _ (List.mem_append_left _ (List.mem_of_getElem? (i := 6) rfl)))
set_option maxRecDepth 20000 in
theorem wm_87 : (Cond.methodLink R_C 72 y_T_areOf) ∈ w_all := List.mem_append_right _ (List.mem_append_right _ (List.mem_append_left _ (List.mem_of_getElem? (i := 7) rfl)))
set_option maxRecDepth 20000 in
theorem wm_88 : (Cond.static y_T_areOf) ∈ w_all := List.mem_append_right _ (List.mem_append_right _ (List.mem_append_left _ (List.mem_of_getElem? (i := 8) rfl)))
set_option maxRecDepth 20000 in
theorem wm_89 : (Cond.code y_C_hasSuccessor b_C_hasSuccessor 3 (some .boolean)) ∈ w_all := List.mem_append_right _ (List.mem_append_right _ (List.mem_append_left _ (List.mem_of_getElem? (i := 9) rfl)))
set_option maxRecDepth 20000 in
theorem wm_90 : (Cond.methodLink R_C 76 y_C_hasSuccessor) ∈ w_all := List.mem_append_right _ (List.mem_append_right _ (List.mem_append_left _ (List.mem_of_getElem? (i := 10) rfl)))
set_option maxRecDepth 20000 in
theorem wm_91 : (Cond.instanceMethod y_C_hasSuccessor) ∈ w_all := List.mem_append_right _ (List.mem_append_right _ (List.mem_append_left _ (List.mem_of_getElem? (i := 11) rfl)))
set_option maxRecDepth 20000 in
theorem wm_92 : (Cond.selects R_C y_C_hasSuccessor y_C_hasSuccessor) ∈ w_all := List.mem_append_right _ (List.mem_append_right _ (List.mem_append_left _ (List.mem_of_getElem? (i := 12) rfl)))
set_option maxRecDepth 20000 in
theorem wm_93 : (Cond.code y_T_follow b_T_follow 2 (some .boolean)) ∈ w_all := List.mem_append_right _ (List.mem_append_right _ (List.mem_append_left _ (List.mem_of_getElem? (i := 13) rfl)))
set_option maxRecDepth 20000 in
theorem wm_94 : (Cond.methodLink R_C 79 y_T_follow) ∈ w_all := List.mem_append_right _ (List.mem_append_right _ (List.mem_append_left _ (List.mem_of_getElem? (i := 14) rfl)))
set_option maxRecDepth 20000 in
theorem wm_95 : (Cond.static y_T_follow) ∈ w_all := List.mem_append_right _ (List.mem_append_right _ (List.mem_append_left _ (List.mem_of_getElem? (i := 15) rfl)))
set_option maxRecDepth 20000 in
theorem wm_96 : (Cond.code y_C_countLiveIn b_C_countLiveIn 5 (some .int)) ∈ w_all := List.mem_append_right _ (List.mem_append_right _ (List.mem_append_left _ (List.mem_of_getElem? (i := 16) rfl)))
set_option maxRecDepth 20000 in
theorem wm_97 : (Cond.methodLink R_C 83 y_C_countLiveIn) ∈ w_all := List.mem_append_right _ (List.mem_append_right _ (List.mem_append_left _ (List.mem_of_getElem? (i := 17) rfl)))
set_option maxRecDepth 20000 in
theorem wm_98 : (Cond.instanceMethod y_C_countLiveIn) ∈ w_all := List.mem_append_right _ (List.mem_append_right _ (List.mem_append_left _ (List.mem_of_getElem? (i := 18) rfl)))
set_option maxRecDepth 20000 in
theorem wm_99 : (Cond.selects R_C y_C_countLiveIn y_C_countLiveIn) ∈ w_all := List.mem_append_right _ (List.mem_append_right _ (List.mem_append_left _ (List.mem_of_getElem? (i := 19) rfl)))
set_option maxRecDepth 20000 in
theorem wm_100 : (Cond.code y_C_blockOfNextPage b_C_blockOfNextPage 3 (some .int)) ∈ w_all := List.mem_append_right _ (List.mem_append_right _ (List.mem_append_left _ (List.mem_of_getElem? (i := 20) rfl)))
set_option maxRecDepth 20000 in
theorem wm_101 : (Cond.methodLink R_C 87 y_C_blockOfNextPage) ∈ w_all := List.mem_append_right _ (List.mem_append_right _ (List.mem_append_left _ (List.mem_of_getElem? (i := 21) rfl)))
set_option maxRecDepth 20000 in
theorem wm_102 : (Cond.instanceMethod y_C_blockOfNextPage) ∈ w_all := List.mem_append_right _ (List.mem_append_right _ (List.mem_append_left _ (List.mem_of_getElem? (i := 22) rfl)))
set_option maxRecDepth 20000 in
theorem wm_103 : (Cond.selects R_C y_C_blockOfNextPage y_C_blockOfNextPage) ∈ w_all := List.mem_append_right _ (List.mem_append_right _ (List.mem_append_left _ (List.mem_of_getElem? (i := 23) rfl)))
set_option maxRecDepth 20000 in
theorem wm_104 : (Cond.code y_C_takeStep b_C_takeStep 1 (some .boolean)) ∈ w_all := List.mem_append_right _ (List.mem_append_right _ (List.mem_append_left _ (List.mem_of_getElem? (i := 24) rfl)))
set_option maxRecDepth 20000 in
theorem wm_105 : (Cond.methodLink R_C 91 y_C_takeStep) ∈ w_all := List.mem_append_right _ (List.mem_append_right _ (List.mem_append_left _ (List.mem_of_getElem? (i := 25) rfl)))
set_option maxRecDepth 20000 in
theorem wm_106 : (Cond.instanceMethod y_C_takeStep) ∈ w_all := List.mem_append_right _ (List.mem_append_right _ (List.mem_append_left _ (List.mem_of_getElem? (i := 26) rfl)))
set_option maxRecDepth 20000 in
theorem wm_107 : (Cond.selects R_C y_C_takeStep y_C_takeStep) ∈ w_all := List.mem_append_right _ (List.mem_append_right _ (List.mem_append_left _ (List.mem_of_getElem? (i := 27) rfl)))
set_option maxRecDepth 20000 in
theorem wm_108 : (Cond.code y_M_programmed b_M_programmed 4 (some .int)) ∈ w_all := List.mem_append_right _ (List.mem_append_right _ (List.mem_append_left _ (List.mem_of_getElem? (i := 28) rfl)))
set_option maxRecDepth 20000 in
theorem wm_109 : (Cond.methodLink R_M 67 y_M_programmed) ∈ w_all := List.mem_append_right _ (List.mem_append_right _ (List.mem_append_left _ (List.mem_of_getElem? (i := 29) rfl)))
set_option maxRecDepth 20000 in
theorem wm_110 : (Cond.instanceMethod y_M_programmed) ∈ w_all := List.mem_append_right _ (List.mem_append_right _ (List.mem_append_left _ (List.mem_of_getElem? (i := 30) rfl)))
set_option maxRecDepth 20000 in
theorem wm_111 : (Cond.selects R_M y_M_programmed y_M_programmed) ∈ w_all := List.mem_append_right _ (List.mem_append_right _ (List.mem_append_left _ (List.mem_of_getElem? (i := 31) rfl)))
set_option maxRecDepth 20000 in
theorem wm_112 : (Cond.initialized R_M) ∈ w_all := List.mem_append_right _ (List.mem_append_right _ (List.mem_append_left _ (List.mem_of_getElem? (i := 32) rfl)))
set_option maxRecDepth 20000 in
theorem wm_113 : (Cond.code y_M_step b_M_step 1 (some .boolean)) ∈ w_all := List.mem_append_right _ (List.mem_append_right _ (List.mem_append_left _ (List.mem_of_getElem? (i := 33) rfl)))
set_option maxRecDepth 20000 in
theorem wm_114 : (Cond.methodLink R_M 71 y_M_step) ∈ w_all := List.mem_append_right _ (List.mem_append_right _ (List.mem_append_left _ (List.mem_of_getElem? (i := 34) rfl)))
set_option maxRecDepth 20000 in
theorem wm_115 : (Cond.instanceMethod y_M_step) ∈ w_all := List.mem_append_right _ (List.mem_append_right _ (List.mem_append_left _ (List.mem_of_getElem? (i := 35) rfl)))
set_option maxRecDepth 20000 in
theorem wm_116 : (Cond.selects R_M y_M_step y_M_step) ∈ w_all := List.mem_append_right _ (List.mem_append_right _ (List.mem_append_left _ (List.mem_of_getElem? (i := 36) rfl)))
set_option maxRecDepth 20000 in
theorem wm_117 : (Cond.code y_M_page b_M_page 4 (some .int)) ∈ w_all := List.mem_append_right _ (List.mem_append_right _ (List.mem_append_left _ (List.mem_of_getElem? (i := 37) rfl)))
set_option maxRecDepth 20000 in
theorem wm_118 : (Cond.methodLink R_M 81 y_M_page) ∈ w_all := List.mem_append_right _ (List.mem_append_right _ (List.mem_append_left _ (List.mem_of_getElem? (i := 38) rfl)))
set_option maxRecDepth 20000 in
theorem wm_119 : (Cond.instanceMethod y_M_page) ∈ w_all := List.mem_append_right _ (List.mem_append_right _ (List.mem_append_left _ (List.mem_of_getElem? (i := 39) rfl)))
set_option maxRecDepth 20000 in
theorem wm_120 : (Cond.selects R_M y_M_page y_M_page) ∈ w_all := List.mem_append_right _ (List.mem_append_right _ (List.mem_append_right _ (List.mem_append_left _ (List.mem_of_getElem? (i := 0) rfl))))
set_option maxRecDepth 20000 in
theorem wm_121 : (Cond.code y_M_nextPage b_M_nextPage 3 (some .int)) ∈ w_all := List.mem_append_right _ (List.mem_append_right _ (List.mem_append_right _ (List.mem_append_left _ (List.mem_of_getElem? (i := 1) rfl))))
set_option maxRecDepth 20000 in
theorem wm_122 : (Cond.methodLink R_M 85 y_M_nextPage) ∈ w_all := List.mem_append_right _ (List.mem_append_right _ (List.mem_append_right _ (List.mem_append_left _ (List.mem_of_getElem? (i := 2) rfl))))
set_option maxRecDepth 20000 in
theorem wm_123 : (Cond.instanceMethod y_M_nextPage) ∈ w_all := List.mem_append_right _ (List.mem_append_right _ (List.mem_append_right _ (List.mem_append_left _ (List.mem_of_getElem? (i := 3) rfl))))
set_option maxRecDepth 20000 in
theorem wm_124 : (Cond.selects R_M y_M_nextPage y_M_nextPage) ∈ w_all := List.mem_append_right _ (List.mem_append_right _ (List.mem_append_right _ (List.mem_append_left _ (List.mem_of_getElem? (i := 4) rfl))))
set_option maxRecDepth 20000 in
theorem wm_125 : (Cond.code y_M_mark b_M_mark 2 (some .boolean)) ∈ w_all := List.mem_append_right _ (List.mem_append_right _ (List.mem_append_right _ (List.mem_append_left _ (List.mem_of_getElem? (i := 5) rfl))))
set_option maxRecDepth 20000 in
theorem wm_126 : (Cond.methodLink R_M 107 y_M_mark) ∈ w_all := List.mem_append_right _ (List.mem_append_right _ (List.mem_append_right _ (List.mem_append_left _ (List.mem_of_getElem? (i := 6) rfl))))
set_option maxRecDepth 20000 in
theorem wm_127 : (Cond.instanceMethod y_M_mark) ∈ w_all := List.mem_append_right _ (List.mem_append_right _ (List.mem_append_right _ (List.mem_append_left _ (List.mem_of_getElem? (i := 7) rfl))))
set_option maxRecDepth 20000 in
theorem wm_128 : (Cond.selects R_M y_M_mark y_M_mark) ∈ w_all := List.mem_append_right _ (List.mem_append_right _ (List.mem_append_right _ (List.mem_append_left _ (List.mem_of_getElem? (i := 8) rfl))))
set_option maxRecDepth 20000 in
theorem wm_129 : (Cond.code y_M_fresh b_M_fresh 4 none) ∈ w_all := List.mem_append_right _ (List.mem_append_right _ (List.mem_append_right _ (List.mem_append_left _ (List.mem_of_getElem? (i := 9) rfl))))
set_option maxRecDepth 20000 in
theorem wm_130 : (Cond.methodLink R_M 111 y_M_fresh) ∈ w_all := List.mem_append_right _ (List.mem_append_right _ (List.mem_append_right _ (List.mem_append_left _ (List.mem_of_getElem? (i := 10) rfl))))
set_option maxRecDepth 20000 in
theorem wm_131 : (Cond.instanceMethod y_M_fresh) ∈ w_all := List.mem_append_right _ (List.mem_append_right _ (List.mem_append_right _ (List.mem_append_left _ (List.mem_of_getElem? (i := 11) rfl))))
set_option maxRecDepth 20000 in
theorem wm_132 : (Cond.selects R_M y_M_fresh y_M_fresh) ∈ w_all := List.mem_append_right _ (List.mem_append_right _ (List.mem_append_right _ (List.mem_append_left _ (List.mem_of_getElem? (i := 12) rfl))))
set_option maxRecDepth 20000 in
theorem wm_133 : (Cond.code y_M_like b_M_like 2 none) ∈ w_all := List.mem_append_right _ (List.mem_append_right _ (List.mem_append_right _ (List.mem_append_left _ (List.mem_of_getElem? (i := 13) rfl))))
set_option maxRecDepth 20000 in
theorem wm_134 : (Cond.methodLink R_M 115 y_M_like) ∈ w_all := List.mem_append_right _ (List.mem_append_right _ (List.mem_append_right _ (List.mem_append_left _ (List.mem_of_getElem? (i := 14) rfl))))
set_option maxRecDepth 20000 in
theorem wm_135 : (Cond.instanceMethod y_M_like) ∈ w_all := List.mem_append_right _ (List.mem_append_right _ (List.mem_append_right _ (List.mem_append_left _ (List.mem_of_getElem? (i := 15) rfl))))
set_option maxRecDepth 20000 in
theorem wm_136 : (Cond.selects R_M y_M_like y_M_like) ∈ w_all := List.mem_append_right _ (List.mem_append_right _ (List.mem_append_right _ (List.mem_append_left _ (List.mem_of_getElem? (i := 16) rfl))))
set_option maxRecDepth 20000 in
theorem wm_137 : (Cond.code y_M_put b_M_put 3 (some .boolean)) ∈ w_all := List.mem_append_right _ (List.mem_append_right _ (List.mem_append_right _ (List.mem_append_left _ (List.mem_of_getElem? (i := 17) rfl))))
set_option maxRecDepth 20000 in
theorem wm_138 : (Cond.methodLink R_M 119 y_M_put) ∈ w_all := List.mem_append_right _ (List.mem_append_right _ (List.mem_append_right _ (List.mem_append_left _ (List.mem_of_getElem? (i := 18) rfl))))
set_option maxRecDepth 20000 in
theorem wm_139 : (Cond.instanceMethod y_M_put) ∈ w_all := List.mem_append_right _ (List.mem_append_right _ (List.mem_append_right _ (List.mem_append_left _ (List.mem_of_getElem? (i := 19) rfl))))
set_option maxRecDepth 20000 in
theorem wm_140 : (Cond.selects R_M y_M_put y_M_put) ∈ w_all := List.mem_append_right _ (List.mem_append_right _ (List.mem_append_right _ (List.mem_append_left _ (List.mem_of_getElem? (i := 20) rfl))))
set_option maxRecDepth 20000 in
theorem wm_141 : (Cond.code y_M_free b_M_free 3 (some .int)) ∈ w_all := List.mem_append_right _ (List.mem_append_right _ (List.mem_append_right _ (List.mem_append_left _ (List.mem_of_getElem? (i := 21) rfl))))
set_option maxRecDepth 20000 in
theorem wm_142 : (Cond.methodLink R_M 122 y_M_free) ∈ w_all := List.mem_append_right _ (List.mem_append_right _ (List.mem_append_right _ (List.mem_append_left _ (List.mem_of_getElem? (i := 22) rfl))))
set_option maxRecDepth 20000 in
theorem wm_143 : (Cond.instanceMethod y_M_free) ∈ w_all := List.mem_append_right _ (List.mem_append_right _ (List.mem_append_right _ (List.mem_append_left _ (List.mem_of_getElem? (i := 23) rfl))))
set_option maxRecDepth 20000 in
theorem wm_144 : (Cond.selects R_M y_M_free y_M_free) ∈ w_all := List.mem_append_right _ (List.mem_append_right _ (List.mem_append_right _ (List.mem_append_left _ (List.mem_of_getElem? (i := 24) rfl))))
set_option maxRecDepth 20000 in
theorem wm_145 : (Cond.code y_M_lives b_M_lives 4 (some .int)) ∈ w_all := List.mem_append_right _ (List.mem_append_right _ (List.mem_append_right _ (List.mem_append_left _ (List.mem_of_getElem? (i := 25) rfl))))
set_option maxRecDepth 20000 in
theorem wm_146 : (Cond.methodLink R_M 125 y_M_lives) ∈ w_all := List.mem_append_right _ (List.mem_append_right _ (List.mem_append_right _ (List.mem_append_left _ (List.mem_of_getElem? (i := 26) rfl))))
set_option maxRecDepth 20000 in
theorem wm_147 : (Cond.instanceMethod y_M_lives) ∈ w_all := List.mem_append_right _ (List.mem_append_right _ (List.mem_append_right _ (List.mem_append_left _ (List.mem_of_getElem? (i := 27) rfl))))
set_option maxRecDepth 20000 in
theorem wm_148 : (Cond.selects R_M y_M_lives y_M_lives) ∈ w_all := List.mem_append_right _ (List.mem_append_right _ (List.mem_append_right _ (List.mem_append_left _ (List.mem_of_getElem? (i := 28) rfl))))
set_option maxRecDepth 20000 in
theorem wm_149 : (Cond.code y_M_poorest b_M_poorest 6 (some .int)) ∈ w_all := List.mem_append_right _ (List.mem_append_right _ (List.mem_append_right _ (List.mem_append_left _ (List.mem_of_getElem? (i := 29) rfl))))
set_option maxRecDepth 20000 in
theorem wm_150 : (Cond.methodLink R_M 128 y_M_poorest) ∈ w_all := List.mem_append_right _ (List.mem_append_right _ (List.mem_append_right _ (List.mem_append_left _ (List.mem_of_getElem? (i := 30) rfl))))
set_option maxRecDepth 20000 in
theorem wm_151 : (Cond.instanceMethod y_M_poorest) ∈ w_all := List.mem_append_right _ (List.mem_append_right _ (List.mem_append_right _ (List.mem_append_left _ (List.mem_of_getElem? (i := 31) rfl))))
set_option maxRecDepth 20000 in
theorem wm_152 : (Cond.selects R_M y_M_poorest y_M_poorest) ∈ w_all := List.mem_append_right _ (List.mem_append_right _ (List.mem_append_right _ (List.mem_append_left _ (List.mem_of_getElem? (i := 32) rfl))))
set_option maxRecDepth 20000 in
theorem wm_153 : (Cond.code y_M_collect b_M_collect 3 (some .boolean)) ∈ w_all := List.mem_append_right _ (List.mem_append_right _ (List.mem_append_right _ (List.mem_append_left _ (List.mem_of_getElem? (i := 33) rfl))))
set_option maxRecDepth 20000 in
theorem wm_154 : (Cond.methodLink R_M 131 y_M_collect) ∈ w_all := List.mem_append_right _ (List.mem_append_right _ (List.mem_append_right _ (List.mem_append_left _ (List.mem_of_getElem? (i := 34) rfl))))
set_option maxRecDepth 20000 in
theorem wm_155 : (Cond.instanceMethod y_M_collect) ∈ w_all := List.mem_append_right _ (List.mem_append_right _ (List.mem_append_right _ (List.mem_append_left _ (List.mem_of_getElem? (i := 35) rfl))))
set_option maxRecDepth 20000 in
theorem wm_156 : (Cond.selects R_M y_M_collect y_M_collect) ∈ w_all := List.mem_append_right _ (List.mem_append_right _ (List.mem_append_right _ (List.mem_append_left _ (List.mem_of_getElem? (i := 36) rfl))))
set_option maxRecDepth 20000 in
theorem wm_157 : (Cond.code y_M_header b_M_header 2 (some .int)) ∈ w_all := List.mem_append_right _ (List.mem_append_right _ (List.mem_append_right _ (List.mem_append_left _ (List.mem_of_getElem? (i := 37) rfl))))
set_option maxRecDepth 20000 in
theorem wm_158 : (Cond.methodLink R_M 134 y_M_header) ∈ w_all := List.mem_append_right _ (List.mem_append_right _ (List.mem_append_right _ (List.mem_append_left _ (List.mem_of_getElem? (i := 38) rfl))))
set_option maxRecDepth 20000 in
theorem wm_159 : (Cond.instanceMethod y_M_header) ∈ w_all := List.mem_append_right _ (List.mem_append_right _ (List.mem_append_right _ (List.mem_append_left _ (List.mem_of_getElem? (i := 39) rfl))))
set_option maxRecDepth 20000 in
theorem wm_160 : (Cond.selects R_M y_M_header y_M_header) ∈ w_all := List.mem_append_right _ (List.mem_append_right _ (List.mem_append_right _ (List.mem_append_right _ (List.mem_append_left _ (List.mem_of_getElem? (i := 0) rfl)))))
set_option maxRecDepth 20000 in
theorem wm_161 : (Cond.code y_M_there b_M_there 2 (some .boolean)) ∈ w_all := List.mem_append_right _ (List.mem_append_right _ (List.mem_append_right _ (List.mem_append_right _ (List.mem_append_left _ (List.mem_of_getElem? (i := 1) rfl)))))
set_option maxRecDepth 20000 in
theorem wm_162 : (Cond.methodLink R_M 137 y_M_there) ∈ w_all := List.mem_append_right _ (List.mem_append_right _ (List.mem_append_right _ (List.mem_append_right _ (List.mem_append_left _ (List.mem_of_getElem? (i := 2) rfl)))))
set_option maxRecDepth 20000 in
theorem wm_163 : (Cond.instanceMethod y_M_there) ∈ w_all := List.mem_append_right _ (List.mem_append_right _ (List.mem_append_right _ (List.mem_append_right _ (List.mem_append_left _ (List.mem_of_getElem? (i := 3) rfl)))))
set_option maxRecDepth 20000 in
theorem wm_164 : (Cond.selects R_M y_M_there y_M_there) ∈ w_all := List.mem_append_right _ (List.mem_append_right _ (List.mem_append_right _ (List.mem_append_right _ (List.mem_append_left _ (List.mem_of_getElem? (i := 4) rfl)))))
set_option maxRecDepth 20000 in
theorem wm_165 : (Cond.code y_M_directory b_M_directory 3 (some .boolean)) ∈ w_all := List.mem_append_right _ (List.mem_append_right _ (List.mem_append_right _ (List.mem_append_right _ (List.mem_append_left _ (List.mem_of_getElem? (i := 5) rfl)))))
set_option maxRecDepth 20000 in
theorem wm_166 : (Cond.methodLink R_M 140 y_M_directory) ∈ w_all := List.mem_append_right _ (List.mem_append_right _ (List.mem_append_right _ (List.mem_append_right _ (List.mem_append_left _ (List.mem_of_getElem? (i := 6) rfl)))))
set_option maxRecDepth 20000 in
theorem wm_167 : (Cond.instanceMethod y_M_directory) ∈ w_all := List.mem_append_right _ (List.mem_append_right _ (List.mem_append_right _ (List.mem_append_right _ (List.mem_append_left _ (List.mem_of_getElem? (i := 7) rfl)))))
set_option maxRecDepth 20000 in
theorem wm_168 : (Cond.selects R_M y_M_directory y_M_directory) ∈ w_all := List.mem_append_right _ (List.mem_append_right _ (List.mem_append_right _ (List.mem_append_right _ (List.mem_append_left _ (List.mem_of_getElem? (i := 8) rfl)))))
set_option maxRecDepth 20000 in
theorem wm_169 : (Cond.code y_M_named b_M_named 6 (some .int)) ∈ w_all := List.mem_append_right _ (List.mem_append_right _ (List.mem_append_right _ (List.mem_append_right _ (List.mem_append_left _ (List.mem_of_getElem? (i := 9) rfl)))))
set_option maxRecDepth 20000 in
theorem wm_170 : (Cond.methodLink R_M 143 y_M_named) ∈ w_all := List.mem_append_right _ (List.mem_append_right _ (List.mem_append_right _ (List.mem_append_right _ (List.mem_append_left _ (List.mem_of_getElem? (i := 10) rfl)))))
set_option maxRecDepth 20000 in
theorem wm_171 : (Cond.instanceMethod y_M_named) ∈ w_all := List.mem_append_right _ (List.mem_append_right _ (List.mem_append_right _ (List.mem_append_right _ (List.mem_append_left _ (List.mem_of_getElem? (i := 11) rfl)))))
set_option maxRecDepth 20000 in
theorem wm_172 : (Cond.selects R_M y_M_named y_M_named) ∈ w_all := List.mem_append_right _ (List.mem_append_right _ (List.mem_append_right _ (List.mem_append_right _ (List.mem_append_left _ (List.mem_of_getElem? (i := 12) rfl)))))
set_option maxRecDepth 20000 in
theorem wm_173 : (Cond.code y_M_room b_M_room 4 (some .int)) ∈ w_all := List.mem_append_right _ (List.mem_append_right _ (List.mem_append_right _ (List.mem_append_right _ (List.mem_append_left _ (List.mem_of_getElem? (i := 13) rfl)))))
set_option maxRecDepth 20000 in
theorem wm_174 : (Cond.methodLink R_M 147 y_M_room) ∈ w_all := List.mem_append_right _ (List.mem_append_right _ (List.mem_append_right _ (List.mem_append_right _ (List.mem_append_left _ (List.mem_of_getElem? (i := 14) rfl)))))
set_option maxRecDepth 20000 in
theorem wm_175 : (Cond.instanceMethod y_M_room) ∈ w_all := List.mem_append_right _ (List.mem_append_right _ (List.mem_append_right _ (List.mem_append_right _ (List.mem_append_left _ (List.mem_of_getElem? (i := 15) rfl)))))
set_option maxRecDepth 20000 in
theorem wm_176 : (Cond.selects R_M y_M_room y_M_room) ∈ w_all := List.mem_append_right _ (List.mem_append_right _ (List.mem_append_right _ (List.mem_append_right _ (List.mem_append_left _ (List.mem_of_getElem? (i := 16) rfl)))))
set_option maxRecDepth 20000 in
theorem wm_177 : (Cond.code y_M_drop b_M_drop 5 (some .boolean)) ∈ w_all := List.mem_append_right _ (List.mem_append_right _ (List.mem_append_right _ (List.mem_append_right _ (List.mem_append_left _ (List.mem_of_getElem? (i := 17) rfl)))))
set_option maxRecDepth 20000 in
theorem wm_178 : (Cond.methodLink R_M 160 y_M_drop) ∈ w_all := List.mem_append_right _ (List.mem_append_right _ (List.mem_append_right _ (List.mem_append_right _ (List.mem_append_left _ (List.mem_of_getElem? (i := 18) rfl)))))
set_option maxRecDepth 20000 in
theorem wm_179 : (Cond.instanceMethod y_M_drop) ∈ w_all := List.mem_append_right _ (List.mem_append_right _ (List.mem_append_right _ (List.mem_append_right _ (List.mem_append_left _ (List.mem_of_getElem? (i := 19) rfl)))))
set_option maxRecDepth 20000 in
theorem wm_180 : (Cond.selects R_M y_M_drop y_M_drop) ∈ w_all := List.mem_append_right _ (List.mem_append_right _ (List.mem_append_right _ (List.mem_append_right _ (List.mem_append_left _ (List.mem_of_getElem? (i := 20) rfl)))))
set_option maxRecDepth 20000 in
theorem wm_181 : (Cond.code y_M_lies b_M_lies 6 (some .boolean)) ∈ w_all := List.mem_append_right _ (List.mem_append_right _ (List.mem_append_right _ (List.mem_append_right _ (List.mem_append_left _ (List.mem_of_getElem? (i := 21) rfl)))))
set_option maxRecDepth 20000 in
theorem wm_182 : (Cond.methodLink R_M 164 y_M_lies) ∈ w_all := List.mem_append_right _ (List.mem_append_right _ (List.mem_append_right _ (List.mem_append_right _ (List.mem_append_left _ (List.mem_of_getElem? (i := 22) rfl)))))
set_option maxRecDepth 20000 in
theorem wm_183 : (Cond.instanceMethod y_M_lies) ∈ w_all := List.mem_append_right _ (List.mem_append_right _ (List.mem_append_right _ (List.mem_append_right _ (List.mem_append_left _ (List.mem_of_getElem? (i := 23) rfl)))))
set_option maxRecDepth 20000 in
theorem wm_184 : (Cond.selects R_M y_M_lies y_M_lies) ∈ w_all := List.mem_append_right _ (List.mem_append_right _ (List.mem_append_right _ (List.mem_append_right _ (List.mem_append_left _ (List.mem_of_getElem? (i := 24) rfl)))))
set_option maxRecDepth 20000 in
theorem wm_185 : (Cond.code y_M_inside b_M_inside 5 (some .int)) ∈ w_all := List.mem_append_right _ (List.mem_append_right _ (List.mem_append_right _ (List.mem_append_right _ (List.mem_append_left _ (List.mem_of_getElem? (i := 25) rfl)))))
set_option maxRecDepth 20000 in
theorem wm_186 : (Cond.methodLink R_M 167 y_M_inside) ∈ w_all := List.mem_append_right _ (List.mem_append_right _ (List.mem_append_right _ (List.mem_append_right _ (List.mem_append_left _ (List.mem_of_getElem? (i := 26) rfl)))))
set_option maxRecDepth 20000 in
theorem wm_187 : (Cond.instanceMethod y_M_inside) ∈ w_all := List.mem_append_right _ (List.mem_append_right _ (List.mem_append_right _ (List.mem_append_right _ (List.mem_append_left _ (List.mem_of_getElem? (i := 27) rfl)))))
set_option maxRecDepth 20000 in
theorem wm_188 : (Cond.selects R_M y_M_inside y_M_inside) ∈ w_all := List.mem_append_right _ (List.mem_append_right _ (List.mem_append_right _ (List.mem_append_right _ (List.mem_append_left _ (List.mem_of_getElem? (i := 28) rfl)))))
set_option maxRecDepth 20000 in
theorem wm_189 : (Cond.code y_M_followed b_M_followed 3 (some .boolean)) ∈ w_all := List.mem_append_right _ (List.mem_append_right _ (List.mem_append_right _ (List.mem_append_right _ (List.mem_append_left _ (List.mem_of_getElem? (i := 29) rfl)))))
set_option maxRecDepth 20000 in
theorem wm_190 : (Cond.methodLink R_M 173 y_M_followed) ∈ w_all := List.mem_append_right _ (List.mem_append_right _ (List.mem_append_right _ (List.mem_append_right _ (List.mem_append_left _ (List.mem_of_getElem? (i := 30) rfl)))))
set_option maxRecDepth 20000 in
theorem wm_191 : (Cond.instanceMethod y_M_followed) ∈ w_all := List.mem_append_right _ (List.mem_append_right _ (List.mem_append_right _ (List.mem_append_right _ (List.mem_append_left _ (List.mem_of_getElem? (i := 31) rfl)))))
set_option maxRecDepth 20000 in
theorem wm_192 : (Cond.selects R_M y_M_followed y_M_followed) ∈ w_all := List.mem_append_right _ (List.mem_append_right _ (List.mem_append_right _ (List.mem_append_right _ (List.mem_append_left _ (List.mem_of_getElem? (i := 32) rfl)))))
set_option maxRecDepth 20000 in
theorem wm_193 : (Cond.code y_M_sizeOf b_M_sizeOf 4 (some .int)) ∈ w_all := List.mem_append_right _ (List.mem_append_right _ (List.mem_append_right _ (List.mem_append_right _ (List.mem_append_left _ (List.mem_of_getElem? (i := 33) rfl)))))
set_option maxRecDepth 20000 in
theorem wm_194 : (Cond.methodLink R_M 176 y_M_sizeOf) ∈ w_all := List.mem_append_right _ (List.mem_append_right _ (List.mem_append_right _ (List.mem_append_right _ (List.mem_append_left _ (List.mem_of_getElem? (i := 34) rfl)))))
set_option maxRecDepth 20000 in
theorem wm_195 : (Cond.instanceMethod y_M_sizeOf) ∈ w_all := List.mem_append_right _ (List.mem_append_right _ (List.mem_append_right _ (List.mem_append_right _ (List.mem_append_left _ (List.mem_of_getElem? (i := 35) rfl)))))
set_option maxRecDepth 20000 in
theorem wm_196 : (Cond.selects R_M y_M_sizeOf y_M_sizeOf) ∈ w_all := List.mem_append_right _ (List.mem_append_right _ (List.mem_append_right _ (List.mem_append_right _ (List.mem_append_left _ (List.mem_of_getElem? (i := 36) rfl)))))
set_option maxRecDepth 20000 in
theorem wm_197 : (Cond.code y_M_outside b_M_outside 2 (some .boolean)) ∈ w_all := List.mem_append_right _ (List.mem_append_right _ (List.mem_append_right _ (List.mem_append_right _ (List.mem_append_left _ (List.mem_of_getElem? (i := 37) rfl)))))
set_option maxRecDepth 20000 in
theorem wm_198 : (Cond.methodLink R_M 179 y_M_outside) ∈ w_all := List.mem_append_right _ (List.mem_append_right _ (List.mem_append_right _ (List.mem_append_right _ (List.mem_append_left _ (List.mem_of_getElem? (i := 38) rfl)))))
set_option maxRecDepth 20000 in
theorem wm_199 : (Cond.static y_M_outside) ∈ w_all := List.mem_append_right _ (List.mem_append_right _ (List.mem_append_right _ (List.mem_append_right _ (List.mem_append_left _ (List.mem_of_getElem? (i := 39) rfl)))))
set_option maxRecDepth 20000 in
theorem wm_200 : (Cond.code y_S_refusalOfDirectory b_S_refusalOfDirectory 2 (some .int)) ∈ w_all := List.mem_append_right _ (List.mem_append_right _ (List.mem_append_right _ (List.mem_append_right _ (List.mem_append_right _ (List.mem_append_left _ (List.mem_of_getElem? (i := 0) rfl))))))
set_option maxRecDepth 20000 in
theorem wm_201 : (Cond.methodLink R_S 24 y_S_refusalOfDirectory) ∈ w_all := List.mem_append_right _ (List.mem_append_right _ (List.mem_append_right _ (List.mem_append_right _ (List.mem_append_right _ (List.mem_append_left _ (List.mem_of_getElem? (i := 1) rfl))))))
set_option maxRecDepth 20000 in
theorem wm_202 : (Cond.instanceMethod y_S_refusalOfDirectory) ∈ w_all := List.mem_append_right _ (List.mem_append_right _ (List.mem_append_right _ (List.mem_append_right _ (List.mem_append_right _ (List.mem_append_left _ (List.mem_of_getElem? (i := 2) rfl))))))
set_option maxRecDepth 20000 in
theorem wm_203 : (Cond.selects R_S y_S_refusalOfDirectory y_S_refusalOfDirectory) ∈ w_all := List.mem_append_right _ (List.mem_append_right _ (List.mem_append_right _ (List.mem_append_right _ (List.mem_append_right _ (List.mem_append_left _ (List.mem_of_getElem? (i := 3) rfl))))))
set_option maxRecDepth 20000 in
theorem wm_204 : (Cond.initialized R_S) ∈ w_all := List.mem_append_right _ (List.mem_append_right _ (List.mem_append_right _ (List.mem_append_right _ (List.mem_append_right _ (List.mem_append_left _ (List.mem_of_getElem? (i := 4) rfl))))))
set_option maxRecDepth 20000 in
theorem wm_205 : (Cond.code y_S_objectNamed b_S_objectNamed 4 (some .int)) ∈ w_all := List.mem_append_right _ (List.mem_append_right _ (List.mem_append_right _ (List.mem_append_right _ (List.mem_append_right _ (List.mem_append_left _ (List.mem_of_getElem? (i := 5) rfl))))))
set_option maxRecDepth 20000 in
theorem wm_206 : (Cond.methodLink R_S 28 y_S_objectNamed) ∈ w_all := List.mem_append_right _ (List.mem_append_right _ (List.mem_append_right _ (List.mem_append_right _ (List.mem_append_right _ (List.mem_append_left _ (List.mem_of_getElem? (i := 6) rfl))))))
set_option maxRecDepth 20000 in
theorem wm_207 : (Cond.instanceMethod y_S_objectNamed) ∈ w_all := List.mem_append_right _ (List.mem_append_right _ (List.mem_append_right _ (List.mem_append_right _ (List.mem_append_right _ (List.mem_append_left _ (List.mem_of_getElem? (i := 7) rfl))))))
set_option maxRecDepth 20000 in
theorem wm_208 : (Cond.selects R_S y_S_objectNamed y_S_objectNamed) ∈ w_all := List.mem_append_right _ (List.mem_append_right _ (List.mem_append_right _ (List.mem_append_right _ (List.mem_append_right _ (List.mem_append_left _ (List.mem_of_getElem? (i := 8) rfl))))))
set_option maxRecDepth 20000 in
theorem wm_209 : (Cond.code y_S_lowestAbsentObject b_S_lowestAbsentObject 2 (some .int)) ∈ w_all := List.mem_append_right _ (List.mem_append_right _ (List.mem_append_right _ (List.mem_append_right _ (List.mem_append_right _ (List.mem_append_left _ (List.mem_of_getElem? (i := 9) rfl))))))
set_option maxRecDepth 20000 in
theorem wm_210 : (Cond.methodLink R_S 32 y_S_lowestAbsentObject) ∈ w_all := List.mem_append_right _ (List.mem_append_right _ (List.mem_append_right _ (List.mem_append_right _ (List.mem_append_right _ (List.mem_append_left _ (List.mem_of_getElem? (i := 10) rfl))))))
set_option maxRecDepth 20000 in
theorem wm_211 : (Cond.instanceMethod y_S_lowestAbsentObject) ∈ w_all := List.mem_append_right _ (List.mem_append_right _ (List.mem_append_right _ (List.mem_append_right _ (List.mem_append_right _ (List.mem_append_left _ (List.mem_of_getElem? (i := 11) rfl))))))
set_option maxRecDepth 20000 in
theorem wm_212 : (Cond.selects R_S y_S_lowestAbsentObject y_S_lowestAbsentObject) ∈ w_all := List.mem_append_right _ (List.mem_append_right _ (List.mem_append_right _ (List.mem_append_right _ (List.mem_append_right _ (List.mem_append_left _ (List.mem_of_getElem? (i := 12) rfl))))))
set_option maxRecDepth 20000 in
theorem wm_213 : (Cond.code y_S_makeRoom b_S_makeRoom 5 (some .int)) ∈ w_all := List.mem_append_right _ (List.mem_append_right _ (List.mem_append_right _ (List.mem_append_right _ (List.mem_append_right _ (List.mem_append_left _ (List.mem_of_getElem? (i := 13) rfl))))))
set_option maxRecDepth 20000 in
theorem wm_214 : (Cond.methodLink R_S 36 y_S_makeRoom) ∈ w_all := List.mem_append_right _ (List.mem_append_right _ (List.mem_append_right _ (List.mem_append_right _ (List.mem_append_right _ (List.mem_append_left _ (List.mem_of_getElem? (i := 14) rfl))))))
set_option maxRecDepth 20000 in
theorem wm_215 : (Cond.instanceMethod y_S_makeRoom) ∈ w_all := List.mem_append_right _ (List.mem_append_right _ (List.mem_append_right _ (List.mem_append_right _ (List.mem_append_right _ (List.mem_append_left _ (List.mem_of_getElem? (i := 15) rfl))))))
set_option maxRecDepth 20000 in
theorem wm_216 : (Cond.selects R_S y_S_makeRoom y_S_makeRoom) ∈ w_all := List.mem_append_right _ (List.mem_append_right _ (List.mem_append_right _ (List.mem_append_right _ (List.mem_append_right _ (List.mem_append_left _ (List.mem_of_getElem? (i := 16) rfl))))))
set_option maxRecDepth 20000 in
theorem wm_217 : (Cond.code y_T_ofHeader b_T_ofHeader 3 (some .int)) ∈ w_all := List.mem_append_right _ (List.mem_append_right _ (List.mem_append_right _ (List.mem_append_right _ (List.mem_append_right _ (List.mem_append_left _ (List.mem_of_getElem? (i := 17) rfl))))))
set_option maxRecDepth 20000 in
theorem wm_218 : (Cond.methodLink R_S 39 y_T_ofHeader) ∈ w_all := List.mem_append_right _ (List.mem_append_right _ (List.mem_append_right _ (List.mem_append_right _ (List.mem_append_right _ (List.mem_append_left _ (List.mem_of_getElem? (i := 18) rfl))))))
set_option maxRecDepth 20000 in
theorem wm_219 : (Cond.static y_T_ofHeader) ∈ w_all := List.mem_append_right _ (List.mem_append_right _ (List.mem_append_right _ (List.mem_append_right _ (List.mem_append_right _ (List.mem_append_left _ (List.mem_of_getElem? (i := 19) rfl))))))
set_option maxRecDepth 20000 in
theorem wm_220 : (Cond.code y_S_put b_S_put 7 (some .boolean)) ∈ w_all := List.mem_append_right _ (List.mem_append_right _ (List.mem_append_right _ (List.mem_append_right _ (List.mem_append_right _ (List.mem_append_left _ (List.mem_of_getElem? (i := 20) rfl))))))
set_option maxRecDepth 20000 in
theorem wm_221 : (Cond.methodLink R_S 45 y_S_put) ∈ w_all := List.mem_append_right _ (List.mem_append_right _ (List.mem_append_right _ (List.mem_append_right _ (List.mem_append_right _ (List.mem_append_left _ (List.mem_of_getElem? (i := 21) rfl))))))
set_option maxRecDepth 20000 in
theorem wm_222 : (Cond.instanceMethod y_S_put) ∈ w_all := List.mem_append_right _ (List.mem_append_right _ (List.mem_append_right _ (List.mem_append_right _ (List.mem_append_right _ (List.mem_append_left _ (List.mem_of_getElem? (i := 22) rfl))))))
set_option maxRecDepth 20000 in
theorem wm_223 : (Cond.selects R_S y_S_put y_S_put) ∈ w_all := List.mem_append_right _ (List.mem_append_right _ (List.mem_append_right _ (List.mem_append_right _ (List.mem_append_right _ (List.mem_append_left _ (List.mem_of_getElem? (i := 23) rfl))))))
set_option maxRecDepth 20000 in
theorem wm_224 : (Cond.code y_S_switchOff b_S_switchOff 1 (some .int)) ∈ w_all := List.mem_append_right _ (List.mem_append_right _ (List.mem_append_right _ (List.mem_append_right _ (List.mem_append_right _ (List.mem_append_left _ (List.mem_of_getElem? (i := 24) rfl))))))
set_option maxRecDepth 20000 in
theorem wm_225 : (Cond.methodLink R_S 49 y_S_switchOff) ∈ w_all := List.mem_append_right _ (List.mem_append_right _ (List.mem_append_right _ (List.mem_append_right _ (List.mem_append_right _ (List.mem_append_left _ (List.mem_of_getElem? (i := 25) rfl))))))
set_option maxRecDepth 20000 in
theorem wm_226 : (Cond.instanceMethod y_S_switchOff) ∈ w_all := List.mem_append_right _ (List.mem_append_right _ (List.mem_append_right _ (List.mem_append_right _ (List.mem_append_right _ (List.mem_append_left _ (List.mem_of_getElem? (i := 26) rfl))))))
set_option maxRecDepth 20000 in
theorem wm_227 : (Cond.selects R_S y_S_switchOff y_S_switchOff) ∈ w_all := List.mem_append_right _ (List.mem_append_right _ (List.mem_append_right _ (List.mem_append_right _ (List.mem_append_right _ (List.mem_append_left _ (List.mem_of_getElem? (i := 27) rfl))))))
set_option maxRecDepth 20000 in
theorem wm_228 : (Cond.code y_S_refusalOfFile b_S_refusalOfFile 3 (some .int)) ∈ w_all := List.mem_append_right _ (List.mem_append_right _ (List.mem_append_right _ (List.mem_append_right _ (List.mem_append_right _ (List.mem_append_left _ (List.mem_of_getElem? (i := 28) rfl))))))
set_option maxRecDepth 20000 in
theorem wm_229 : (Cond.methodLink R_S 52 y_S_refusalOfFile) ∈ w_all := List.mem_append_right _ (List.mem_append_right _ (List.mem_append_right _ (List.mem_append_right _ (List.mem_append_right _ (List.mem_append_left _ (List.mem_of_getElem? (i := 29) rfl))))))
set_option maxRecDepth 20000 in
theorem wm_230 : (Cond.instanceMethod y_S_refusalOfFile) ∈ w_all := List.mem_append_right _ (List.mem_append_right _ (List.mem_append_right _ (List.mem_append_right _ (List.mem_append_right _ (List.mem_append_left _ (List.mem_of_getElem? (i := 30) rfl))))))
set_option maxRecDepth 20000 in
theorem wm_231 : (Cond.selects R_S y_S_refusalOfFile y_S_refusalOfFile) ∈ w_all := List.mem_append_right _ (List.mem_append_right _ (List.mem_append_right _ (List.mem_append_right _ (List.mem_append_right _ (List.mem_append_left _ (List.mem_of_getElem? (i := 31) rfl))))))
set_option maxRecDepth 20000 in
theorem wm_232 : (Cond.code y_S_headerTags b_S_headerTags 3 (some .int)) ∈ w_all := List.mem_append_right _ (List.mem_append_right _ (List.mem_append_right _ (List.mem_append_right _ (List.mem_append_right _ (List.mem_append_left _ (List.mem_of_getElem? (i := 32) rfl))))))
set_option maxRecDepth 20000 in
theorem wm_233 : (Cond.methodLink R_S 55 y_S_headerTags) ∈ w_all := List.mem_append_right _ (List.mem_append_right _ (List.mem_append_right _ (List.mem_append_right _ (List.mem_append_right _ (List.mem_append_left _ (List.mem_of_getElem? (i := 33) rfl))))))
set_option maxRecDepth 20000 in
theorem wm_234 : (Cond.instanceMethod y_S_headerTags) ∈ w_all := List.mem_append_right _ (List.mem_append_right _ (List.mem_append_right _ (List.mem_append_right _ (List.mem_append_right _ (List.mem_append_left _ (List.mem_of_getElem? (i := 34) rfl))))))
set_option maxRecDepth 20000 in
theorem wm_235 : (Cond.selects R_S y_S_headerTags y_S_headerTags) ∈ w_all := List.mem_append_right _ (List.mem_append_right _ (List.mem_append_right _ (List.mem_append_right _ (List.mem_append_right _ (List.mem_append_left _ (List.mem_of_getElem? (i := 35) rfl))))))
set_option maxRecDepth 20000 in
theorem wm_236 : (Cond.code y_T_length b_T_length 1 (some .int)) ∈ w_all := List.mem_append_right _ (List.mem_append_right _ (List.mem_append_right _ (List.mem_append_right _ (List.mem_append_right _ (List.mem_append_left _ (List.mem_of_getElem? (i := 36) rfl))))))
set_option maxRecDepth 20000 in
theorem wm_237 : (Cond.methodLink R_S 58 y_T_length) ∈ w_all := List.mem_append_right _ (List.mem_append_right _ (List.mem_append_right _ (List.mem_append_right _ (List.mem_append_right _ (List.mem_append_left _ (List.mem_of_getElem? (i := 37) rfl))))))
set_option maxRecDepth 20000 in
theorem wm_238 : (Cond.static y_T_length) ∈ w_all := List.mem_append_right _ (List.mem_append_right _ (List.mem_append_right _ (List.mem_append_right _ (List.mem_append_right _ (List.mem_append_left _ (List.mem_of_getElem? (i := 38) rfl))))))
set_option maxRecDepth 20000 in
theorem wm_239 : (Cond.code y_C_livePage b_C_livePage 4 (some .int)) ∈ w_all := List.mem_append_right _ (List.mem_append_right _ (List.mem_append_right _ (List.mem_append_right _ (List.mem_append_right _ (List.mem_append_left _ (List.mem_of_getElem? (i := 39) rfl))))))
set_option maxRecDepth 20000 in
theorem wm_240 : (Cond.methodLink R_S 61 y_C_livePage) ∈ w_all := List.mem_append_right _ (List.mem_append_right _ (List.mem_append_right _ (List.mem_append_right _ (List.mem_append_right _ (List.mem_append_right _ (List.mem_append_left _ (List.mem_of_getElem? (i := 0) rfl)))))))
set_option maxRecDepth 20000 in
theorem wm_241 : (Cond.instanceMethod y_C_livePage) ∈ w_all := List.mem_append_right _ (List.mem_append_right _ (List.mem_append_right _ (List.mem_append_right _ (List.mem_append_right _ (List.mem_append_right _ (List.mem_append_left _ (List.mem_of_getElem? (i := 1) rfl)))))))
set_option maxRecDepth 20000 in
theorem wm_242 : (Cond.selects R_C y_C_livePage y_C_livePage) ∈ w_all := List.mem_append_right _ (List.mem_append_right _ (List.mem_append_right _ (List.mem_append_right _ (List.mem_append_right _ (List.mem_append_right _ (List.mem_append_left _ (List.mem_of_getElem? (i := 2) rfl)))))))
set_option maxRecDepth 20000 in
theorem wm_243 : (Cond.code y_T_ofChunk b_T_ofChunk 2 (some .int)) ∈ w_all := List.mem_append_right _ (List.mem_append_right _ (List.mem_append_right _ (List.mem_append_right _ (List.mem_append_right _ (List.mem_append_right _ (List.mem_append_left _ (List.mem_of_getElem? (i := 3) rfl)))))))
set_option maxRecDepth 20000 in
theorem wm_244 : (Cond.methodLink R_S 64 y_T_ofChunk) ∈ w_all := List.mem_append_right _ (List.mem_append_right _ (List.mem_append_right _ (List.mem_append_right _ (List.mem_append_right _ (List.mem_append_right _ (List.mem_append_left _ (List.mem_of_getElem? (i := 4) rfl)))))))
set_option maxRecDepth 20000 in
theorem wm_245 : (Cond.static y_T_ofChunk) ∈ w_all := List.mem_append_right _ (List.mem_append_right _ (List.mem_append_right _ (List.mem_append_right _ (List.mem_append_right _ (List.mem_append_right _ (List.mem_append_left _ (List.mem_of_getElem? (i := 5) rfl)))))))
set_option maxRecDepth 20000 in
theorem wm_246 : (Cond.code y_S_putLength b_S_putLength 4 (some .boolean)) ∈ w_all := List.mem_append_right _ (List.mem_append_right _ (List.mem_append_right _ (List.mem_append_right _ (List.mem_append_right _ (List.mem_append_right _ (List.mem_append_left _ (List.mem_of_getElem? (i := 6) rfl)))))))
set_option maxRecDepth 20000 in
theorem wm_247 : (Cond.methodLink R_S 67 y_S_putLength) ∈ w_all := List.mem_append_right _ (List.mem_append_right _ (List.mem_append_right _ (List.mem_append_right _ (List.mem_append_right _ (List.mem_append_right _ (List.mem_append_left _ (List.mem_of_getElem? (i := 7) rfl)))))))
set_option maxRecDepth 20000 in
theorem wm_248 : (Cond.instanceMethod y_S_putLength) ∈ w_all := List.mem_append_right _ (List.mem_append_right _ (List.mem_append_right _ (List.mem_append_right _ (List.mem_append_right _ (List.mem_append_right _ (List.mem_append_left _ (List.mem_of_getElem? (i := 8) rfl)))))))
set_option maxRecDepth 20000 in
theorem wm_249 : (Cond.selects R_S y_S_putLength y_S_putLength) ∈ w_all := List.mem_append_right _ (List.mem_append_right _ (List.mem_append_right _ (List.mem_append_right _ (List.mem_append_right _ (List.mem_append_right _ (List.mem_append_left _ (List.mem_of_getElem? (i := 9) rfl)))))))
set_option maxRecDepth 20000 in
theorem wm_250 : (Cond.code y_C_wordRead b_C_wordRead 2 (some .long)) ∈ w_all := List.mem_append_right _ (List.mem_append_right _ (List.mem_append_right _ (List.mem_append_right _ (List.mem_append_right _ (List.mem_append_right _ (List.mem_append_left _ (List.mem_of_getElem? (i := 10) rfl)))))))
set_option maxRecDepth 20000 in
theorem wm_251 : (Cond.methodLink R_S 75 y_C_wordRead) ∈ w_all := List.mem_append_right _ (List.mem_append_right _ (List.mem_append_right _ (List.mem_append_right _ (List.mem_append_right _ (List.mem_append_right _ (List.mem_append_left _ (List.mem_of_getElem? (i := 11) rfl)))))))
set_option maxRecDepth 20000 in
theorem wm_252 : (Cond.instanceMethod y_C_wordRead) ∈ w_all := List.mem_append_right _ (List.mem_append_right _ (List.mem_append_right _ (List.mem_append_right _ (List.mem_append_right _ (List.mem_append_right _ (List.mem_append_left _ (List.mem_of_getElem? (i := 12) rfl)))))))
set_option maxRecDepth 20000 in
theorem wm_253 : (Cond.selects R_C y_C_wordRead y_C_wordRead) ∈ w_all := List.mem_append_right _ (List.mem_append_right _ (List.mem_append_right _ (List.mem_append_right _ (List.mem_append_right _ (List.mem_append_right _ (List.mem_append_left _ (List.mem_of_getElem? (i := 13) rfl)))))))
set_option maxRecDepth 20000 in
theorem wm_254 : (Cond.code y_S_markChunks b_S_markChunks 5 (some .boolean)) ∈ w_all := List.mem_append_right _ (List.mem_append_right _ (List.mem_append_right _ (List.mem_append_right _ (List.mem_append_right _ (List.mem_append_right _ (List.mem_append_left _ (List.mem_of_getElem? (i := 14) rfl)))))))
set_option maxRecDepth 20000 in
theorem wm_255 : (Cond.methodLink R_S 79 y_S_markChunks) ∈ w_all := List.mem_append_right _ (List.mem_append_right _ (List.mem_append_right _ (List.mem_append_right _ (List.mem_append_right _ (List.mem_append_right _ (List.mem_append_left _ (List.mem_of_getElem? (i := 15) rfl)))))))
set_option maxRecDepth 20000 in
theorem wm_256 : (Cond.instanceMethod y_S_markChunks) ∈ w_all := List.mem_append_right _ (List.mem_append_right _ (List.mem_append_right _ (List.mem_append_right _ (List.mem_append_right _ (List.mem_append_right _ (List.mem_append_left _ (List.mem_of_getElem? (i := 16) rfl)))))))
set_option maxRecDepth 20000 in
theorem wm_257 : (Cond.selects R_S y_S_markChunks y_S_markChunks) ∈ w_all := List.mem_append_right _ (List.mem_append_right _ (List.mem_append_right _ (List.mem_append_right _ (List.mem_append_right _ (List.mem_append_right _ (List.mem_append_left _ (List.mem_of_getElem? (i := 17) rfl)))))))
set_option maxRecDepth 20000 in
theorem wm_258 : (Cond.code y_S_refusalOfObject b_S_refusalOfObject 2 (some .int)) ∈ w_all := List.mem_append_right _ (List.mem_append_right _ (List.mem_append_right _ (List.mem_append_right _ (List.mem_append_right _ (List.mem_append_right _ (List.mem_append_left _ (List.mem_of_getElem? (i := 18) rfl)))))))
set_option maxRecDepth 20000 in
theorem wm_259 : (Cond.methodLink R_S 82 y_S_refusalOfObject) ∈ w_all := List.mem_append_right _ (List.mem_append_right _ (List.mem_append_right _ (List.mem_append_right _ (List.mem_append_right _ (List.mem_append_right _ (List.mem_append_left _ (List.mem_of_getElem? (i := 19) rfl)))))))
set_option maxRecDepth 20000 in
theorem wm_260 : (Cond.instanceMethod y_S_refusalOfObject) ∈ w_all := List.mem_append_right _ (List.mem_append_right _ (List.mem_append_right _ (List.mem_append_right _ (List.mem_append_right _ (List.mem_append_right _ (List.mem_append_left _ (List.mem_of_getElem? (i := 20) rfl)))))))
set_option maxRecDepth 20000 in
theorem wm_261 : (Cond.selects R_S y_S_refusalOfObject y_S_refusalOfObject) ∈ w_all := List.mem_append_right _ (List.mem_append_right _ (List.mem_append_right _ (List.mem_append_right _ (List.mem_append_right _ (List.mem_append_right _ (List.mem_append_left _ (List.mem_of_getElem? (i := 21) rfl)))))))
set_option maxRecDepth 20000 in
theorem wm_262 : (Cond.code y_S_liesIn b_S_liesIn 5 (some .boolean)) ∈ w_all := List.mem_append_right _ (List.mem_append_right _ (List.mem_append_right _ (List.mem_append_right _ (List.mem_append_right _ (List.mem_append_right _ (List.mem_append_left _ (List.mem_of_getElem? (i := 22) rfl)))))))
set_option maxRecDepth 20000 in
theorem wm_263 : (Cond.methodLink R_S 85 y_S_liesIn) ∈ w_all := List.mem_append_right _ (List.mem_append_right _ (List.mem_append_right _ (List.mem_append_right _ (List.mem_append_right _ (List.mem_append_right _ (List.mem_append_left _ (List.mem_of_getElem? (i := 23) rfl)))))))
set_option maxRecDepth 20000 in
theorem wm_264 : (Cond.instanceMethod y_S_liesIn) ∈ w_all := List.mem_append_right _ (List.mem_append_right _ (List.mem_append_right _ (List.mem_append_right _ (List.mem_append_right _ (List.mem_append_right _ (List.mem_append_left _ (List.mem_of_getElem? (i := 24) rfl)))))))
set_option maxRecDepth 20000 in
theorem wm_265 : (Cond.selects R_S y_S_liesIn y_S_liesIn) ∈ w_all := List.mem_append_right _ (List.mem_append_right _ (List.mem_append_right _ (List.mem_append_right _ (List.mem_append_right _ (List.mem_append_right _ (List.mem_append_left _ (List.mem_of_getElem? (i := 25) rfl)))))))
set_option maxRecDepth 20000 in
theorem wm_266 : (Cond.code y_T_withParent b_T_withParent 2 (some .int)) ∈ w_all := List.mem_append_right _ (List.mem_append_right _ (List.mem_append_right _ (List.mem_append_right _ (List.mem_append_right _ (List.mem_append_right _ (List.mem_append_left _ (List.mem_of_getElem? (i := 26) rfl)))))))
set_option maxRecDepth 20000 in
theorem wm_267 : (Cond.methodLink R_S 88 y_T_withParent) ∈ w_all := List.mem_append_right _ (List.mem_append_right _ (List.mem_append_right _ (List.mem_append_right _ (List.mem_append_right _ (List.mem_append_right _ (List.mem_append_left _ (List.mem_of_getElem? (i := 27) rfl)))))))
set_option maxRecDepth 20000 in
theorem wm_268 : (Cond.static y_T_withParent) ∈ w_all := List.mem_append_right _ (List.mem_append_right _ (List.mem_append_right _ (List.mem_append_right _ (List.mem_append_right _ (List.mem_append_right _ (List.mem_append_left _ (List.mem_of_getElem? (i := 28) rfl)))))))
set_option maxRecDepth 20000 in
theorem wm_269 : (Cond.code y_S_objectsIn b_S_objectsIn 4 (some .int)) ∈ w_all := List.mem_append_right _ (List.mem_append_right _ (List.mem_append_right _ (List.mem_append_right _ (List.mem_append_right _ (List.mem_append_right _ (List.mem_append_left _ (List.mem_of_getElem? (i := 29) rfl)))))))
set_option maxRecDepth 20000 in
theorem wm_270 : (Cond.methodLink R_S 91 y_S_objectsIn) ∈ w_all := List.mem_append_right _ (List.mem_append_right _ (List.mem_append_right _ (List.mem_append_right _ (List.mem_append_right _ (List.mem_append_right _ (List.mem_append_left _ (List.mem_of_getElem? (i := 30) rfl)))))))
set_option maxRecDepth 20000 in
theorem wm_271 : (Cond.instanceMethod y_S_objectsIn) ∈ w_all := List.mem_append_right _ (List.mem_append_right _ (List.mem_append_right _ (List.mem_append_right _ (List.mem_append_right _ (List.mem_append_right _ (List.mem_append_left _ (List.mem_of_getElem? (i := 31) rfl)))))))
set_option maxRecDepth 20000 in
theorem wm_272 : (Cond.selects R_S y_S_objectsIn y_S_objectsIn) ∈ w_all := List.mem_append_right _ (List.mem_append_right _ (List.mem_append_right _ (List.mem_append_right _ (List.mem_append_right _ (List.mem_append_right _ (List.mem_append_left _ (List.mem_of_getElem? (i := 32) rfl)))))))
set_option maxRecDepth 20000 in
theorem wm_273 : (Cond.code y_S_isThere b_S_isThere 2 (some .boolean)) ∈ w_all := List.mem_append_right _ (List.mem_append_right _ (List.mem_append_right _ (List.mem_append_right _ (List.mem_append_right _ (List.mem_append_right _ (List.mem_append_left _ (List.mem_of_getElem? (i := 33) rfl)))))))
set_option maxRecDepth 20000 in
theorem wm_274 : (Cond.methodLink R_S 94 y_S_isThere) ∈ w_all := List.mem_append_right _ (List.mem_append_right _ (List.mem_append_right _ (List.mem_append_right _ (List.mem_append_right _ (List.mem_append_right _ (List.mem_append_left _ (List.mem_of_getElem? (i := 34) rfl)))))))
set_option maxRecDepth 20000 in
theorem wm_275 : (Cond.instanceMethod y_S_isThere) ∈ w_all := List.mem_append_right _ (List.mem_append_right _ (List.mem_append_right _ (List.mem_append_right _ (List.mem_append_right _ (List.mem_append_right _ (List.mem_append_left _ (List.mem_of_getElem? (i := 35) rfl)))))))
set_option maxRecDepth 20000 in
theorem wm_276 : (Cond.selects R_S y_S_isThere y_S_isThere) ∈ w_all := List.mem_append_right _ (List.mem_append_right _ (List.mem_append_right _ (List.mem_append_right _ (List.mem_append_right _ (List.mem_append_right _ (List.mem_append_left _ (List.mem_of_getElem? (i := 36) rfl)))))))
set_option maxRecDepth 20000 in
theorem wm_277 : (Cond.code y_S_isDirectory b_S_isDirectory 2 (some .boolean)) ∈ w_all := List.mem_append_right _ (List.mem_append_right _ (List.mem_append_right _ (List.mem_append_right _ (List.mem_append_right _ (List.mem_append_right _ (List.mem_append_left _ (List.mem_of_getElem? (i := 37) rfl)))))))
set_option maxRecDepth 20000 in
theorem wm_278 : (Cond.methodLink R_S 98 y_S_isDirectory) ∈ w_all := List.mem_append_right _ (List.mem_append_right _ (List.mem_append_right _ (List.mem_append_right _ (List.mem_append_right _ (List.mem_append_right _ (List.mem_append_left _ (List.mem_of_getElem? (i := 38) rfl)))))))
set_option maxRecDepth 20000 in
theorem wm_279 : (Cond.instanceMethod y_S_isDirectory) ∈ w_all := List.mem_append_right _ (List.mem_append_right _ (List.mem_append_right _ (List.mem_append_right _ (List.mem_append_right _ (List.mem_append_right _ (List.mem_append_left _ (List.mem_of_getElem? (i := 39) rfl)))))))
set_option maxRecDepth 20000 in
theorem wm_280 : (Cond.selects R_S y_S_isDirectory y_S_isDirectory) ∈ w_all := List.mem_append_right _ (List.mem_append_right _ (List.mem_append_right _ (List.mem_append_right _ (List.mem_append_right _ (List.mem_append_right _ (List.mem_append_right _ (List.mem_append_left _ (List.mem_of_getElem? (i := 0) rfl))))))))
set_option maxRecDepth 20000 in
theorem wm_281 : (Cond.code y_T_parent b_T_parent 1 (some .int)) ∈ w_all := List.mem_append_right _ (List.mem_append_right _ (List.mem_append_right _ (List.mem_append_right _ (List.mem_append_right _ (List.mem_append_right _ (List.mem_append_right _ (List.mem_append_left _ (List.mem_of_getElem? (i := 1) rfl))))))))
set_option maxRecDepth 20000 in
theorem wm_282 : (Cond.methodLink R_S 101 y_T_parent) ∈ w_all := List.mem_append_right _ (List.mem_append_right _ (List.mem_append_right _ (List.mem_append_right _ (List.mem_append_right _ (List.mem_append_right _ (List.mem_append_right _ (List.mem_append_left _ (List.mem_of_getElem? (i := 2) rfl))))))))
set_option maxRecDepth 20000 in
theorem wm_283 : (Cond.static y_T_parent) ∈ w_all := List.mem_append_right _ (List.mem_append_right _ (List.mem_append_right _ (List.mem_append_right _ (List.mem_append_right _ (List.mem_append_right _ (List.mem_append_right _ (List.mem_append_left _ (List.mem_of_getElem? (i := 3) rfl))))))))
set_option maxRecDepth 20000 in
theorem wm_284 : (Cond.code y_S_nameRead b_S_nameRead 3 (some .long)) ∈ w_all := List.mem_append_right _ (List.mem_append_right _ (List.mem_append_right _ (List.mem_append_right _ (List.mem_append_right _ (List.mem_append_right _ (List.mem_append_right _ (List.mem_append_left _ (List.mem_of_getElem? (i := 4) rfl))))))))
set_option maxRecDepth 20000 in
theorem wm_285 : (Cond.methodLink R_S 104 y_S_nameRead) ∈ w_all := List.mem_append_right _ (List.mem_append_right _ (List.mem_append_right _ (List.mem_append_right _ (List.mem_append_right _ (List.mem_append_right _ (List.mem_append_right _ (List.mem_append_left _ (List.mem_of_getElem? (i := 5) rfl))))))))
set_option maxRecDepth 20000 in
theorem wm_286 : (Cond.instanceMethod y_S_nameRead) ∈ w_all := List.mem_append_right _ (List.mem_append_right _ (List.mem_append_right _ (List.mem_append_right _ (List.mem_append_right _ (List.mem_append_right _ (List.mem_append_right _ (List.mem_append_left _ (List.mem_of_getElem? (i := 6) rfl))))))))
set_option maxRecDepth 20000 in
theorem wm_287 : (Cond.selects R_S y_S_nameRead y_S_nameRead) ∈ w_all := List.mem_append_right _ (List.mem_append_right _ (List.mem_append_right _ (List.mem_append_right _ (List.mem_append_right _ (List.mem_append_right _ (List.mem_append_right _ (List.mem_append_left _ (List.mem_of_getElem? (i := 7) rfl))))))))
set_option maxRecDepth 20000 in
theorem wm_288 : (Cond.code y_C_dropRegion b_C_dropRegion 1 (some .boolean)) ∈ w_all := List.mem_append_right _ (List.mem_append_right _ (List.mem_append_right _ (List.mem_append_right _ (List.mem_append_right _ (List.mem_append_right _ (List.mem_append_right _ (List.mem_append_left _ (List.mem_of_getElem? (i := 8) rfl))))))))
set_option maxRecDepth 20000 in
theorem wm_289 : (Cond.methodLink R_S 107 y_C_dropRegion) ∈ w_all := List.mem_append_right _ (List.mem_append_right _ (List.mem_append_right _ (List.mem_append_right _ (List.mem_append_right _ (List.mem_append_right _ (List.mem_append_right _ (List.mem_append_left _ (List.mem_of_getElem? (i := 9) rfl))))))))
set_option maxRecDepth 20000 in
theorem wm_290 : (Cond.instanceMethod y_C_dropRegion) ∈ w_all := List.mem_append_right _ (List.mem_append_right _ (List.mem_append_right _ (List.mem_append_right _ (List.mem_append_right _ (List.mem_append_right _ (List.mem_append_right _ (List.mem_append_left _ (List.mem_of_getElem? (i := 10) rfl))))))))
set_option maxRecDepth 20000 in
theorem wm_291 : (Cond.selects R_C y_C_dropRegion y_C_dropRegion) ∈ w_all := List.mem_append_right _ (List.mem_append_right _ (List.mem_append_right _ (List.mem_append_right _ (List.mem_append_right _ (List.mem_append_right _ (List.mem_append_right _ (List.mem_append_left _ (List.mem_of_getElem? (i := 11) rfl))))))))
set_option maxRecDepth 20000 in
theorem wm_292 : (Cond.code y_C_fillRegion b_C_fillRegion 2 (some .boolean)) ∈ w_all := List.mem_append_right _ (List.mem_append_right _ (List.mem_append_right _ (List.mem_append_right _ (List.mem_append_right _ (List.mem_append_right _ (List.mem_append_right _ (List.mem_append_left _ (List.mem_of_getElem? (i := 12) rfl))))))))
set_option maxRecDepth 20000 in
theorem wm_293 : (Cond.methodLink R_S 111 y_C_fillRegion) ∈ w_all := List.mem_append_right _ (List.mem_append_right _ (List.mem_append_right _ (List.mem_append_right _ (List.mem_append_right _ (List.mem_append_right _ (List.mem_append_right _ (List.mem_append_left _ (List.mem_of_getElem? (i := 13) rfl))))))))
set_option maxRecDepth 20000 in
theorem wm_294 : (Cond.instanceMethod y_C_fillRegion) ∈ w_all := List.mem_append_right _ (List.mem_append_right _ (List.mem_append_right _ (List.mem_append_right _ (List.mem_append_right _ (List.mem_append_right _ (List.mem_append_right _ (List.mem_append_left _ (List.mem_of_getElem? (i := 14) rfl))))))))
set_option maxRecDepth 20000 in
theorem wm_295 : (Cond.selects R_C y_C_fillRegion y_C_fillRegion) ∈ w_all := List.mem_append_right _ (List.mem_append_right _ (List.mem_append_right _ (List.mem_append_right _ (List.mem_append_right _ (List.mem_append_right _ (List.mem_append_right _ (List.mem_append_left _ (List.mem_of_getElem? (i := 15) rfl))))))))
set_option maxRecDepth 20000 in
theorem wm_296 : (Cond.code y_C_countLive b_C_countLive 3 (some .int)) ∈ w_all := List.mem_append_right _ (List.mem_append_right _ (List.mem_append_right _ (List.mem_append_right _ (List.mem_append_right _ (List.mem_append_right _ (List.mem_append_right _ (List.mem_append_left _ (List.mem_of_getElem? (i := 16) rfl))))))))
set_option maxRecDepth 20000 in
theorem wm_297 : (Cond.methodLink R_S 114 y_C_countLive) ∈ w_all := List.mem_append_right _ (List.mem_append_right _ (List.mem_append_right _ (List.mem_append_right _ (List.mem_append_right _ (List.mem_append_right _ (List.mem_append_right _ (List.mem_append_left _ (List.mem_of_getElem? (i := 17) rfl))))))))
set_option maxRecDepth 20000 in
theorem wm_298 : (Cond.instanceMethod y_C_countLive) ∈ w_all := List.mem_append_right _ (List.mem_append_right _ (List.mem_append_right _ (List.mem_append_right _ (List.mem_append_right _ (List.mem_append_right _ (List.mem_append_right _ (List.mem_append_left _ (List.mem_of_getElem? (i := 18) rfl))))))))
set_option maxRecDepth 20000 in
theorem wm_299 : (Cond.selects R_C y_C_countLive y_C_countLive) ∈ w_all := List.mem_append_right _ (List.mem_append_right _ (List.mem_append_right _ (List.mem_append_right _ (List.mem_append_right _ (List.mem_append_right _ (List.mem_append_right _ (List.mem_append_left _ (List.mem_of_getElem? (i := 19) rfl))))))))
set_option maxRecDepth 20000 in
theorem wm_300 : (Cond.code y_C_countGood b_C_countGood 3 (some .int)) ∈ w_all := List.mem_append_right _ (List.mem_append_right _ (List.mem_append_right _ (List.mem_append_right _ (List.mem_append_right _ (List.mem_append_right _ (List.mem_append_right _ (List.mem_append_left _ (List.mem_of_getElem? (i := 20) rfl))))))))
set_option maxRecDepth 20000 in
theorem wm_301 : (Cond.methodLink R_S 120 y_C_countGood) ∈ w_all := List.mem_append_right _ (List.mem_append_right _ (List.mem_append_right _ (List.mem_append_right _ (List.mem_append_right _ (List.mem_append_right _ (List.mem_append_right _ (List.mem_append_left _ (List.mem_of_getElem? (i := 21) rfl))))))))
set_option maxRecDepth 20000 in
theorem wm_302 : (Cond.instanceMethod y_C_countGood) ∈ w_all := List.mem_append_right _ (List.mem_append_right _ (List.mem_append_right _ (List.mem_append_right _ (List.mem_append_right _ (List.mem_append_right _ (List.mem_append_right _ (List.mem_append_left _ (List.mem_of_getElem? (i := 22) rfl))))))))
set_option maxRecDepth 20000 in
theorem wm_303 : (Cond.selects R_C y_C_countGood y_C_countGood) ∈ w_all := List.mem_append_right _ (List.mem_append_right _ (List.mem_append_right _ (List.mem_append_right _ (List.mem_append_right _ (List.mem_append_right _ (List.mem_append_right _ (List.mem_append_left _ (List.mem_of_getElem? (i := 23) rfl))))))))
set_option maxRecDepth 20000 in
theorem wm_304 : (Cond.code y_C_countGoodTouched b_C_countGoodTouched 3 (some .int)) ∈ w_all := List.mem_append_right _ (List.mem_append_right _ (List.mem_append_right _ (List.mem_append_right _ (List.mem_append_right _ (List.mem_append_right _ (List.mem_append_right _ (List.mem_append_left _ (List.mem_of_getElem? (i := 24) rfl))))))))
set_option maxRecDepth 20000 in
theorem wm_305 : (Cond.methodLink R_S 123 y_C_countGoodTouched) ∈ w_all := List.mem_append_right _ (List.mem_append_right _ (List.mem_append_right _ (List.mem_append_right _ (List.mem_append_right _ (List.mem_append_right _ (List.mem_append_right _ (List.mem_append_left _ (List.mem_of_getElem? (i := 25) rfl))))))))
set_option maxRecDepth 20000 in
theorem wm_306 : (Cond.instanceMethod y_C_countGoodTouched) ∈ w_all := List.mem_append_right _ (List.mem_append_right _ (List.mem_append_right _ (List.mem_append_right _ (List.mem_append_right _ (List.mem_append_right _ (List.mem_append_right _ (List.mem_append_left _ (List.mem_of_getElem? (i := 26) rfl))))))))
set_option maxRecDepth 20000 in
theorem wm_307 : (Cond.selects R_C y_C_countGoodTouched y_C_countGoodTouched) ∈ w_all := List.mem_append_right _ (List.mem_append_right _ (List.mem_append_right _ (List.mem_append_right _ (List.mem_append_right _ (List.mem_append_right _ (List.mem_append_right _ (List.mem_append_left _ (List.mem_of_getElem? (i := 27) rfl))))))))
set_option maxRecDepth 20000 in
theorem wm_308 : (Cond.code y_S_settleStale b_S_settleStale 2 none) ∈ w_all := List.mem_append_right _ (List.mem_append_right _ (List.mem_append_right _ (List.mem_append_right _ (List.mem_append_right _ (List.mem_append_right _ (List.mem_append_right _ (List.mem_append_left _ (List.mem_of_getElem? (i := 28) rfl))))))))
set_option maxRecDepth 20000 in
theorem wm_309 : (Cond.methodLink R_S 126 y_S_settleStale) ∈ w_all := List.mem_append_right _ (List.mem_append_right _ (List.mem_append_right _ (List.mem_append_right _ (List.mem_append_right _ (List.mem_append_right _ (List.mem_append_right _ (List.mem_append_left _ (List.mem_of_getElem? (i := 29) rfl))))))))
set_option maxRecDepth 20000 in
theorem wm_310 : (Cond.instanceMethod y_S_settleStale) ∈ w_all := List.mem_append_right _ (List.mem_append_right _ (List.mem_append_right _ (List.mem_append_right _ (List.mem_append_right _ (List.mem_append_right _ (List.mem_append_right _ (List.mem_append_left _ (List.mem_of_getElem? (i := 30) rfl))))))))
set_option maxRecDepth 20000 in
theorem wm_311 : (Cond.selects R_S y_S_settleStale y_S_settleStale) ∈ w_all := List.mem_append_right _ (List.mem_append_right _ (List.mem_append_right _ (List.mem_append_right _ (List.mem_append_right _ (List.mem_append_right _ (List.mem_append_right _ (List.mem_append_left _ (List.mem_of_getElem? (i := 31) rfl))))))))
set_option maxRecDepth 20000 in
theorem wm_312 : (Cond.code y_S_markStale b_S_markStale 2 (some .boolean)) ∈ w_all := List.mem_append_right _ (List.mem_append_right _ (List.mem_append_right _ (List.mem_append_right _ (List.mem_append_right _ (List.mem_append_right _ (List.mem_append_right _ (List.mem_append_left _ (List.mem_of_getElem? (i := 32) rfl))))))))
set_option maxRecDepth 20000 in
theorem wm_313 : (Cond.methodLink R_S 129 y_S_markStale) ∈ w_all := List.mem_append_right _ (List.mem_append_right _ (List.mem_append_right _ (List.mem_append_right _ (List.mem_append_right _ (List.mem_append_right _ (List.mem_append_right _ (List.mem_append_left _ (List.mem_of_getElem? (i := 33) rfl))))))))
set_option maxRecDepth 20000 in
theorem wm_314 : (Cond.instanceMethod y_S_markStale) ∈ w_all := List.mem_append_right _ (List.mem_append_right _ (List.mem_append_right _ (List.mem_append_right _ (List.mem_append_right _ (List.mem_append_right _ (List.mem_append_right _ (List.mem_append_left _ (List.mem_of_getElem? (i := 34) rfl))))))))
set_option maxRecDepth 20000 in
theorem wm_315 : (Cond.selects R_S y_S_markStale y_S_markStale) ∈ w_all := List.mem_append_right _ (List.mem_append_right _ (List.mem_append_right _ (List.mem_append_right _ (List.mem_append_right _ (List.mem_append_right _ (List.mem_append_right _ (List.mem_append_left _ (List.mem_of_getElem? (i := 35) rfl))))))))
set_option maxRecDepth 20000 in
theorem wm_316 : (Cond.code y_S_isPage b_S_isPage 2 (some .boolean)) ∈ w_all := List.mem_append_right _ (List.mem_append_right _ (List.mem_append_right _ (List.mem_append_right _ (List.mem_append_right _ (List.mem_append_right _ (List.mem_append_right _ (List.mem_append_left _ (List.mem_of_getElem? (i := 36) rfl))))))))
set_option maxRecDepth 20000 in
theorem wm_317 : (Cond.methodLink R_S 136 y_S_isPage) ∈ w_all := List.mem_append_right _ (List.mem_append_right _ (List.mem_append_right _ (List.mem_append_right _ (List.mem_append_right _ (List.mem_append_right _ (List.mem_append_right _ (List.mem_append_left _ (List.mem_of_getElem? (i := 37) rfl))))))))
set_option maxRecDepth 20000 in
theorem wm_318 : (Cond.static y_S_isPage) ∈ w_all := List.mem_append_right _ (List.mem_append_right _ (List.mem_append_right _ (List.mem_append_right _ (List.mem_append_right _ (List.mem_append_right _ (List.mem_append_right _ (List.mem_append_left _ (List.mem_of_getElem? (i := 38) rfl))))))))
set_option maxRecDepth 20000 in
theorem wm_319 : (Cond.code y_C_turnBit b_C_turnBit 3 (some .boolean)) ∈ w_all := List.mem_append_right _ (List.mem_append_right _ (List.mem_append_right _ (List.mem_append_right _ (List.mem_append_right _ (List.mem_append_right _ (List.mem_append_right _ (List.mem_append_left _ (List.mem_of_getElem? (i := 39) rfl))))))))
set_option maxRecDepth 20000 in
theorem wm_320 : (Cond.methodLink R_S 139 y_C_turnBit) ∈ w_all := List.mem_append_right _ (List.mem_append_right _ (List.mem_append_right _ (List.mem_append_right _ (List.mem_append_right _ (List.mem_append_right _ (List.mem_append_right _ (List.mem_append_right _ (List.mem_append_left _ (List.mem_of_getElem? (i := 0) rfl)))))))))
set_option maxRecDepth 20000 in
theorem wm_321 : (Cond.instanceMethod y_C_turnBit) ∈ w_all := List.mem_append_right _ (List.mem_append_right _ (List.mem_append_right _ (List.mem_append_right _ (List.mem_append_right _ (List.mem_append_right _ (List.mem_append_right _ (List.mem_append_right _ (List.mem_append_left _ (List.mem_of_getElem? (i := 1) rfl)))))))))
set_option maxRecDepth 20000 in
theorem wm_322 : (Cond.selects R_C y_C_turnBit y_C_turnBit) ∈ w_all := List.mem_append_right _ (List.mem_append_right _ (List.mem_append_right _ (List.mem_append_right _ (List.mem_append_right _ (List.mem_append_right _ (List.mem_append_right _ (List.mem_append_right _ (List.mem_append_left _ (List.mem_of_getElem? (i := 2) rfl)))))))))
set_option maxRecDepth 20000 in
theorem wm_323 : (Cond.code y_S_isBlock b_S_isBlock 1 (some .boolean)) ∈ w_all := List.mem_append_right _ (List.mem_append_right _ (List.mem_append_right _ (List.mem_append_right _ (List.mem_append_right _ (List.mem_append_right _ (List.mem_append_right _ (List.mem_append_right _ (List.mem_append_left _ (List.mem_of_getElem? (i := 3) rfl)))))))))
set_option maxRecDepth 20000 in
theorem wm_324 : (Cond.methodLink R_S 142 y_S_isBlock) ∈ w_all := List.mem_append_right _ (List.mem_append_right _ (List.mem_append_right _ (List.mem_append_right _ (List.mem_append_right _ (List.mem_append_right _ (List.mem_append_right _ (List.mem_append_right _ (List.mem_append_left _ (List.mem_of_getElem? (i := 4) rfl)))))))))
set_option maxRecDepth 20000 in
theorem wm_325 : (Cond.static y_S_isBlock) ∈ w_all := List.mem_append_right _ (List.mem_append_right _ (List.mem_append_right _ (List.mem_append_right _ (List.mem_append_right _ (List.mem_append_right _ (List.mem_append_right _ (List.mem_append_right _ (List.mem_append_left _ (List.mem_of_getElem? (i := 5) rfl)))))))))
set_option maxRecDepth 20000 in
theorem wm_326 : (Cond.methodLink R_S 151 y_C_isProgrammed) ∈ w_all := List.mem_append_right _ (List.mem_append_right _ (List.mem_append_right _ (List.mem_append_right _ (List.mem_append_right _ (List.mem_append_right _ (List.mem_append_right _ (List.mem_append_right _ (List.mem_append_left _ (List.mem_of_getElem? (i := 6) rfl)))))))))
set_option maxRecDepth 20000 in
theorem wm_327 : (Cond.code y_C_countFree b_C_countFree 3 (some .int)) ∈ w_all := List.mem_append_right _ (List.mem_append_right _ (List.mem_append_right _ (List.mem_append_right _ (List.mem_append_right _ (List.mem_append_right _ (List.mem_append_right _ (List.mem_append_right _ (List.mem_append_left _ (List.mem_of_getElem? (i := 7) rfl)))))))))
set_option maxRecDepth 20000 in
theorem wm_328 : (Cond.methodLink R_S 158 y_C_countFree) ∈ w_all := List.mem_append_right _ (List.mem_append_right _ (List.mem_append_right _ (List.mem_append_right _ (List.mem_append_right _ (List.mem_append_right _ (List.mem_append_right _ (List.mem_append_right _ (List.mem_append_left _ (List.mem_of_getElem? (i := 8) rfl)))))))))
set_option maxRecDepth 20000 in
theorem wm_329 : (Cond.instanceMethod y_C_countFree) ∈ w_all := List.mem_append_right _ (List.mem_append_right _ (List.mem_append_right _ (List.mem_append_right _ (List.mem_append_right _ (List.mem_append_right _ (List.mem_append_right _ (List.mem_append_right _ (List.mem_append_left _ (List.mem_of_getElem? (i := 9) rfl)))))))))
set_option maxRecDepth 20000 in
theorem wm_330 : (Cond.selects R_C y_C_countFree y_C_countFree) ∈ w_all := List.mem_append_right _ (List.mem_append_right _ (List.mem_append_right _ (List.mem_append_right _ (List.mem_append_right _ (List.mem_append_right _ (List.mem_append_right _ (List.mem_append_right _ (List.mem_append_left _ (List.mem_of_getElem? (i := 10) rfl)))))))))
set_option maxRecDepth 20000 in
theorem wm_331 : (Cond.code y_T_isOfDirectory b_T_isOfDirectory 1 (some .boolean)) ∈ w_all := List.mem_append_right _ (List.mem_append_right _ (List.mem_append_right _ (List.mem_append_right _ (List.mem_append_right _ (List.mem_append_right _ (List.mem_append_right _ (List.mem_append_right _ (List.mem_append_left _ (List.mem_of_getElem? (i := 11) rfl)))))))))
set_option maxRecDepth 20000 in
theorem wm_332 : (Cond.methodLink R_S 167 y_T_isOfDirectory) ∈ w_all := List.mem_append_right _ (List.mem_append_right _ (List.mem_append_right _ (List.mem_append_right _ (List.mem_append_right _ (List.mem_append_right _ (List.mem_append_right _ (List.mem_append_right _ (List.mem_append_left _ (List.mem_of_getElem? (i := 12) rfl)))))))))
set_option maxRecDepth 20000 in
theorem wm_333 : (Cond.static y_T_isOfDirectory) ∈ w_all := List.mem_append_right _ (List.mem_append_right _ (List.mem_append_right _ (List.mem_append_right _ (List.mem_append_right _ (List.mem_append_right _ (List.mem_append_right _ (List.mem_append_right _ (List.mem_append_left _ (List.mem_of_getElem? (i := 13) rfl)))))))))
set_option maxRecDepth 20000 in
theorem wm_334 : (Cond.code y_S_isIn b_S_isIn 3 (some .boolean)) ∈ w_all := List.mem_append_right _ (List.mem_append_right _ (List.mem_append_right _ (List.mem_append_right _ (List.mem_append_right _ (List.mem_append_right _ (List.mem_append_right _ (List.mem_append_right _ (List.mem_append_left _ (List.mem_of_getElem? (i := 14) rfl)))))))))
set_option maxRecDepth 20000 in
theorem wm_335 : (Cond.methodLink R_S 172 y_S_isIn) ∈ w_all := List.mem_append_right _ (List.mem_append_right _ (List.mem_append_right _ (List.mem_append_right _ (List.mem_append_right _ (List.mem_append_right _ (List.mem_append_right _ (List.mem_append_right _ (List.mem_append_left _ (List.mem_of_getElem? (i := 15) rfl)))))))))
set_option maxRecDepth 20000 in
theorem wm_336 : (Cond.instanceMethod y_S_isIn) ∈ w_all := List.mem_append_right _ (List.mem_append_right _ (List.mem_append_right _ (List.mem_append_right _ (List.mem_append_right _ (List.mem_append_right _ (List.mem_append_right _ (List.mem_append_right _ (List.mem_append_left _ (List.mem_of_getElem? (i := 16) rfl)))))))))
set_option maxRecDepth 20000 in
theorem wm_337 : (Cond.selects R_S y_S_isIn y_S_isIn) ∈ w_all := List.mem_append_right _ (List.mem_append_right _ (List.mem_append_right _ (List.mem_append_right _ (List.mem_append_right _ (List.mem_append_right _ (List.mem_append_right _ (List.mem_append_right _ (List.mem_append_left _ (List.mem_of_getElem? (i := 17) rfl)))))))))
set_option maxRecDepth 20000 in
theorem wm_338 : (Cond.code y_T_withSerial b_T_withSerial 2 (some .int)) ∈ w_all := List.mem_append_right _ (List.mem_append_right _ (List.mem_append_right _ (List.mem_append_right _ (List.mem_append_right _ (List.mem_append_right _ (List.mem_append_right _ (List.mem_append_right _ (List.mem_append_left _ (List.mem_of_getElem? (i := 18) rfl)))))))))
set_option maxRecDepth 20000 in
theorem wm_339 : (Cond.methodLink R_S 175 y_T_withSerial) ∈ w_all := List.mem_append_right _ (List.mem_append_right _ (List.mem_append_right _ (List.mem_append_right _ (List.mem_append_right _ (List.mem_append_right _ (List.mem_append_right _ (List.mem_append_right _ (List.mem_append_left _ (List.mem_of_getElem? (i := 19) rfl)))))))))
set_option maxRecDepth 20000 in
theorem wm_340 : (Cond.static y_T_withSerial) ∈ w_all := List.mem_append_right _ (List.mem_append_right _ (List.mem_append_right _ (List.mem_append_right _ (List.mem_append_right _ (List.mem_append_right _ (List.mem_append_right _ (List.mem_append_right _ (List.mem_append_left _ (List.mem_of_getElem? (i := 20) rfl)))))))))
set_option maxRecDepth 20000 in
theorem wm_341 : (Cond.code y_C_program b_C_program 7 (some .boolean)) ∈ w_all := List.mem_append_right _ (List.mem_append_right _ (List.mem_append_right _ (List.mem_append_right _ (List.mem_append_right _ (List.mem_append_right _ (List.mem_append_right _ (List.mem_append_right _ (List.mem_append_left _ (List.mem_of_getElem? (i := 21) rfl)))))))))
set_option maxRecDepth 20000 in
theorem wm_342 : (Cond.methodLink R_S 178 y_C_program) ∈ w_all := List.mem_append_right _ (List.mem_append_right _ (List.mem_append_right _ (List.mem_append_right _ (List.mem_append_right _ (List.mem_append_right _ (List.mem_append_right _ (List.mem_append_right _ (List.mem_append_left _ (List.mem_of_getElem? (i := 22) rfl)))))))))
set_option maxRecDepth 20000 in
theorem wm_343 : (Cond.instanceMethod y_C_program) ∈ w_all := List.mem_append_right _ (List.mem_append_right _ (List.mem_append_right _ (List.mem_append_right _ (List.mem_append_right _ (List.mem_append_right _ (List.mem_append_right _ (List.mem_append_right _ (List.mem_append_left _ (List.mem_of_getElem? (i := 23) rfl)))))))))
set_option maxRecDepth 20000 in
theorem wm_344 : (Cond.selects R_C y_C_program y_C_program) ∈ w_all := List.mem_append_right _ (List.mem_append_right _ (List.mem_append_right _ (List.mem_append_right _ (List.mem_append_right _ (List.mem_append_right _ (List.mem_append_right _ (List.mem_append_right _ (List.mem_append_left _ (List.mem_of_getElem? (i := 24) rfl)))))))))
set_option maxRecDepth 20000 in
theorem wm_345 : (Cond.code y_T_serialAfter b_T_serialAfter 1 (some .int)) ∈ w_all := List.mem_append_right _ (List.mem_append_right _ (List.mem_append_right _ (List.mem_append_right _ (List.mem_append_right _ (List.mem_append_right _ (List.mem_append_right _ (List.mem_append_right _ (List.mem_append_left _ (List.mem_of_getElem? (i := 25) rfl)))))))))
set_option maxRecDepth 20000 in
theorem wm_346 : (Cond.methodLink R_S 182 y_T_serialAfter) ∈ w_all := List.mem_append_right _ (List.mem_append_right _ (List.mem_append_right _ (List.mem_append_right _ (List.mem_append_right _ (List.mem_append_right _ (List.mem_append_right _ (List.mem_append_right _ (List.mem_append_left _ (List.mem_of_getElem? (i := 26) rfl)))))))))
set_option maxRecDepth 20000 in
theorem wm_347 : (Cond.static y_T_serialAfter) ∈ w_all := List.mem_append_right _ (List.mem_append_right _ (List.mem_append_right _ (List.mem_append_right _ (List.mem_append_right _ (List.mem_append_right _ (List.mem_append_right _ (List.mem_append_right _ (List.mem_append_left _ (List.mem_of_getElem? (i := 27) rfl)))))))))
set_option maxRecDepth 20000 in
theorem wm_348 : (Cond.code y_C_mark b_C_mark 2 (some .boolean)) ∈ w_all := List.mem_append_right _ (List.mem_append_right _ (List.mem_append_right _ (List.mem_append_right _ (List.mem_append_right _ (List.mem_append_right _ (List.mem_append_right _ (List.mem_append_right _ (List.mem_append_left _ (List.mem_of_getElem? (i := 28) rfl)))))))))
set_option maxRecDepth 20000 in
theorem wm_349 : (Cond.methodLink R_S 185 y_C_mark) ∈ w_all := List.mem_append_right _ (List.mem_append_right _ (List.mem_append_right _ (List.mem_append_right _ (List.mem_append_right _ (List.mem_append_right _ (List.mem_append_right _ (List.mem_append_right _ (List.mem_append_left _ (List.mem_of_getElem? (i := 29) rfl)))))))))
set_option maxRecDepth 20000 in
theorem wm_350 : (Cond.instanceMethod y_C_mark) ∈ w_all := List.mem_append_right _ (List.mem_append_right _ (List.mem_append_right _ (List.mem_append_right _ (List.mem_append_right _ (List.mem_append_right _ (List.mem_append_right _ (List.mem_append_right _ (List.mem_append_left _ (List.mem_of_getElem? (i := 30) rfl)))))))))
set_option maxRecDepth 20000 in
theorem wm_351 : (Cond.selects R_C y_C_mark y_C_mark) ∈ w_all := List.mem_append_right _ (List.mem_append_right _ (List.mem_append_right _ (List.mem_append_right _ (List.mem_append_right _ (List.mem_append_right _ (List.mem_append_right _ (List.mem_append_right _ (List.mem_append_left _ (List.mem_of_getElem? (i := 31) rfl)))))))))
set_option maxRecDepth 20000 in
theorem wm_352 : (Cond.methodLink R_S 188 y_C_isUnreadable) ∈ w_all := List.mem_append_right _ (List.mem_append_right _ (List.mem_append_right _ (List.mem_append_right _ (List.mem_append_right _ (List.mem_append_right _ (List.mem_append_right _ (List.mem_append_right _ (List.mem_append_left _ (List.mem_of_getElem? (i := 32) rfl)))))))))
set_option maxRecDepth 20000 in
theorem wm_353 : (Cond.code y_T_withLength b_T_withLength 2 (some .int)) ∈ w_all := List.mem_append_right _ (List.mem_append_right _ (List.mem_append_right _ (List.mem_append_right _ (List.mem_append_right _ (List.mem_append_right _ (List.mem_append_right _ (List.mem_append_right _ (List.mem_append_left _ (List.mem_of_getElem? (i := 33) rfl)))))))))
set_option maxRecDepth 20000 in
theorem wm_354 : (Cond.methodLink R_S 198 y_T_withLength) ∈ w_all := List.mem_append_right _ (List.mem_append_right _ (List.mem_append_right _ (List.mem_append_right _ (List.mem_append_right _ (List.mem_append_right _ (List.mem_append_right _ (List.mem_append_right _ (List.mem_append_left _ (List.mem_of_getElem? (i := 34) rfl)))))))))
set_option maxRecDepth 20000 in
theorem wm_355 : (Cond.static y_T_withLength) ∈ w_all := List.mem_append_right _ (List.mem_append_right _ (List.mem_append_right _ (List.mem_append_right _ (List.mem_append_right _ (List.mem_append_right _ (List.mem_append_right _ (List.mem_append_right _ (List.mem_append_left _ (List.mem_of_getElem? (i := 35) rfl)))))))))
set_option maxRecDepth 20000 in
theorem wm_356 : (Cond.code y_S_putWordOf b_S_putWordOf 5 (some .boolean)) ∈ w_all := List.mem_append_right _ (List.mem_append_right _ (List.mem_append_right _ (List.mem_append_right _ (List.mem_append_right _ (List.mem_append_right _ (List.mem_append_right _ (List.mem_append_right _ (List.mem_append_left _ (List.mem_of_getElem? (i := 36) rfl)))))))))
set_option maxRecDepth 20000 in
theorem wm_357 : (Cond.methodLink R_S 201 y_S_putWordOf) ∈ w_all := List.mem_append_right _ (List.mem_append_right _ (List.mem_append_right _ (List.mem_append_right _ (List.mem_append_right _ (List.mem_append_right _ (List.mem_append_right _ (List.mem_append_right _ (List.mem_append_left _ (List.mem_of_getElem? (i := 37) rfl)))))))))
set_option maxRecDepth 20000 in
theorem wm_358 : (Cond.instanceMethod y_S_putWordOf) ∈ w_all := List.mem_append_right _ (List.mem_append_right _ (List.mem_append_right _ (List.mem_append_right _ (List.mem_append_right _ (List.mem_append_right _ (List.mem_append_right _ (List.mem_append_right _ (List.mem_append_left _ (List.mem_of_getElem? (i := 38) rfl)))))))))
set_option maxRecDepth 20000 in
theorem wm_359 : (Cond.selects R_S y_S_putWordOf y_S_putWordOf) ∈ w_all := List.mem_append_right _ (List.mem_append_right _ (List.mem_append_right _ (List.mem_append_right _ (List.mem_append_right _ (List.mem_append_right _ (List.mem_append_right _ (List.mem_append_right _ (List.mem_append_left _ (List.mem_of_getElem? (i := 39) rfl)))))))))
set_option maxRecDepth 20000 in
theorem wm_360 : (Cond.code y_S_blockToCollect b_S_blockToCollect 6 (some .int)) ∈ w_all := List.mem_append_right _ (List.mem_append_right _ (List.mem_append_right _ (List.mem_append_right _ (List.mem_append_right _ (List.mem_append_right _ (List.mem_append_right _ (List.mem_append_right _ (List.mem_append_right _ (List.mem_append_left _ (List.mem_of_getElem? (i := 0) rfl))))))))))
set_option maxRecDepth 20000 in
theorem wm_361 : (Cond.methodLink R_S 204 y_S_blockToCollect) ∈ w_all := List.mem_append_right _ (List.mem_append_right _ (List.mem_append_right _ (List.mem_append_right _ (List.mem_append_right _ (List.mem_append_right _ (List.mem_append_right _ (List.mem_append_right _ (List.mem_append_right _ (List.mem_append_left _ (List.mem_of_getElem? (i := 1) rfl))))))))))
set_option maxRecDepth 20000 in
theorem wm_362 : (Cond.instanceMethod y_S_blockToCollect) ∈ w_all := List.mem_append_right _ (List.mem_append_right _ (List.mem_append_right _ (List.mem_append_right _ (List.mem_append_right _ (List.mem_append_right _ (List.mem_append_right _ (List.mem_append_right _ (List.mem_append_right _ (List.mem_append_left _ (List.mem_of_getElem? (i := 2) rfl))))))))))
set_option maxRecDepth 20000 in
theorem wm_363 : (Cond.selects R_S y_S_blockToCollect y_S_blockToCollect) ∈ w_all := List.mem_append_right _ (List.mem_append_right _ (List.mem_append_right _ (List.mem_append_right _ (List.mem_append_right _ (List.mem_append_right _ (List.mem_append_right _ (List.mem_append_right _ (List.mem_append_right _ (List.mem_append_left _ (List.mem_of_getElem? (i := 3) rfl))))))))))
set_option maxRecDepth 20000 in
theorem wm_364 : (Cond.code y_S_collect b_S_collect 4 (some .boolean)) ∈ w_all := List.mem_append_right _ (List.mem_append_right _ (List.mem_append_right _ (List.mem_append_right _ (List.mem_append_right _ (List.mem_append_right _ (List.mem_append_right _ (List.mem_append_right _ (List.mem_append_right _ (List.mem_append_left _ (List.mem_of_getElem? (i := 4) rfl))))))))))
set_option maxRecDepth 20000 in
theorem wm_365 : (Cond.methodLink R_S 207 y_S_collect) ∈ w_all := List.mem_append_right _ (List.mem_append_right _ (List.mem_append_right _ (List.mem_append_right _ (List.mem_append_right _ (List.mem_append_right _ (List.mem_append_right _ (List.mem_append_right _ (List.mem_append_right _ (List.mem_append_left _ (List.mem_of_getElem? (i := 5) rfl))))))))))
set_option maxRecDepth 20000 in
theorem wm_366 : (Cond.instanceMethod y_S_collect) ∈ w_all := List.mem_append_right _ (List.mem_append_right _ (List.mem_append_right _ (List.mem_append_right _ (List.mem_append_right _ (List.mem_append_right _ (List.mem_append_right _ (List.mem_append_right _ (List.mem_append_right _ (List.mem_append_left _ (List.mem_of_getElem? (i := 6) rfl))))))))))
set_option maxRecDepth 20000 in
theorem wm_367 : (Cond.selects R_S y_S_collect y_S_collect) ∈ w_all := List.mem_append_right _ (List.mem_append_right _ (List.mem_append_right _ (List.mem_append_right _ (List.mem_append_right _ (List.mem_append_right _ (List.mem_append_right _ (List.mem_append_right _ (List.mem_append_right _ (List.mem_append_left _ (List.mem_of_getElem? (i := 7) rfl))))))))))
set_option maxRecDepth 20000 in
theorem wm_368 : (Cond.methodLink R_S 213 y_C_countLiveIn) ∈ w_all := List.mem_append_right _ (List.mem_append_right _ (List.mem_append_right _ (List.mem_append_right _ (List.mem_append_right _ (List.mem_append_right _ (List.mem_append_right _ (List.mem_append_right _ (List.mem_append_right _ (List.mem_append_left _ (List.mem_of_getElem? (i := 8) rfl))))))))))
set_option maxRecDepth 20000 in
theorem wm_369 : (Cond.methodLink R_S 216 y_C_isLive) ∈ w_all := List.mem_append_right _ (List.mem_append_right _ (List.mem_append_right _ (List.mem_append_right _ (List.mem_append_right _ (List.mem_append_right _ (List.mem_append_right _ (List.mem_append_right _ (List.mem_append_right _ (List.mem_append_left _ (List.mem_of_getElem? (i := 9) rfl))))))))))
set_option maxRecDepth 20000 in
theorem wm_370 : (Cond.code y_C_erase b_C_erase 2 (some .boolean)) ∈ w_all := List.mem_append_right _ (List.mem_append_right _ (List.mem_append_right _ (List.mem_append_right _ (List.mem_append_right _ (List.mem_append_right _ (List.mem_append_right _ (List.mem_append_right _ (List.mem_append_right _ (List.mem_append_left _ (List.mem_of_getElem? (i := 10) rfl))))))))))
set_option maxRecDepth 20000 in
theorem wm_371 : (Cond.methodLink R_S 219 y_C_erase) ∈ w_all := List.mem_append_right _ (List.mem_append_right _ (List.mem_append_right _ (List.mem_append_right _ (List.mem_append_right _ (List.mem_append_right _ (List.mem_append_right _ (List.mem_append_right _ (List.mem_append_right _ (List.mem_append_left _ (List.mem_of_getElem? (i := 11) rfl))))))))))
set_option maxRecDepth 20000 in
theorem wm_372 : (Cond.instanceMethod y_C_erase) ∈ w_all := List.mem_append_right _ (List.mem_append_right _ (List.mem_append_right _ (List.mem_append_right _ (List.mem_append_right _ (List.mem_append_right _ (List.mem_append_right _ (List.mem_append_right _ (List.mem_append_right _ (List.mem_append_left _ (List.mem_of_getElem? (i := 12) rfl))))))))))
set_option maxRecDepth 20000 in
theorem wm_373 : (Cond.selects R_C y_C_erase y_C_erase) ∈ w_all := List.mem_append_right _ (List.mem_append_right _ (List.mem_append_right _ (List.mem_append_right _ (List.mem_append_right _ (List.mem_append_right _ (List.mem_append_right _ (List.mem_append_right _ (List.mem_append_right _ (List.mem_append_left _ (List.mem_of_getElem? (i := 13) rfl))))))))))
set_option maxRecDepth 20000 in
theorem wm_374 : (Cond.methodLink R_S 222 y_C_hasSuccessor) ∈ w_all := List.mem_append_right _ (List.mem_append_right _ (List.mem_append_right _ (List.mem_append_right _ (List.mem_append_right _ (List.mem_append_right _ (List.mem_append_right _ (List.mem_append_right _ (List.mem_append_right _ (List.mem_append_left _ (List.mem_of_getElem? (i := 14) rfl))))))))))
set_option maxRecDepth 20000 in
theorem wm_375 : (Cond.code y_S_isBeyondFile b_S_isBeyondFile 4 (some .boolean)) ∈ w_all := List.mem_append_right _ (List.mem_append_right _ (List.mem_append_right _ (List.mem_append_right _ (List.mem_append_right _ (List.mem_append_right _ (List.mem_append_right _ (List.mem_append_right _ (List.mem_append_right _ (List.mem_append_left _ (List.mem_of_getElem? (i := 15) rfl))))))))))
set_option maxRecDepth 20000 in
theorem wm_376 : (Cond.methodLink R_S 225 y_S_isBeyondFile) ∈ w_all := List.mem_append_right _ (List.mem_append_right _ (List.mem_append_right _ (List.mem_append_right _ (List.mem_append_right _ (List.mem_append_right _ (List.mem_append_right _ (List.mem_append_right _ (List.mem_append_right _ (List.mem_append_left _ (List.mem_of_getElem? (i := 16) rfl))))))))))
set_option maxRecDepth 20000 in
theorem wm_377 : (Cond.instanceMethod y_S_isBeyondFile) ∈ w_all := List.mem_append_right _ (List.mem_append_right _ (List.mem_append_right _ (List.mem_append_right _ (List.mem_append_right _ (List.mem_append_right _ (List.mem_append_right _ (List.mem_append_right _ (List.mem_append_right _ (List.mem_append_left _ (List.mem_of_getElem? (i := 17) rfl))))))))))
set_option maxRecDepth 20000 in
theorem wm_378 : (Cond.selects R_S y_S_isBeyondFile y_S_isBeyondFile) ∈ w_all := List.mem_append_right _ (List.mem_append_right _ (List.mem_append_right _ (List.mem_append_right _ (List.mem_append_right _ (List.mem_append_right _ (List.mem_append_right _ (List.mem_append_right _ (List.mem_append_right _ (List.mem_append_left _ (List.mem_of_getElem? (i := 18) rfl))))))))))
set_option maxRecDepth 20000 in
theorem wm_379 : (Cond.code y_T_chunk b_T_chunk 1 (some .int)) ∈ w_all := List.mem_append_right _ (List.mem_append_right _ (List.mem_append_right _ (List.mem_append_right _ (List.mem_append_right _ (List.mem_append_right _ (List.mem_append_right _ (List.mem_append_right _ (List.mem_append_right _ (List.mem_append_left _ (List.mem_of_getElem? (i := 19) rfl))))))))))
set_option maxRecDepth 20000 in
theorem wm_380 : (Cond.methodLink R_S 228 y_T_chunk) ∈ w_all := List.mem_append_right _ (List.mem_append_right _ (List.mem_append_right _ (List.mem_append_right _ (List.mem_append_right _ (List.mem_append_right _ (List.mem_append_right _ (List.mem_append_right _ (List.mem_append_right _ (List.mem_append_left _ (List.mem_of_getElem? (i := 20) rfl))))))))))
set_option maxRecDepth 20000 in
theorem wm_381 : (Cond.static y_T_chunk) ∈ w_all := List.mem_append_right _ (List.mem_append_right _ (List.mem_append_right _ (List.mem_append_right _ (List.mem_append_right _ (List.mem_append_right _ (List.mem_append_right _ (List.mem_append_right _ (List.mem_append_right _ (List.mem_append_left _ (List.mem_of_getElem? (i := 21) rfl))))))))))
set_option maxRecDepth 20000 in
theorem wm_382 : (Cond.code y_T_object b_T_object 1 (some .int)) ∈ w_all := List.mem_append_right _ (List.mem_append_right _ (List.mem_append_right _ (List.mem_append_right _ (List.mem_append_right _ (List.mem_append_right _ (List.mem_append_right _ (List.mem_append_right _ (List.mem_append_right _ (List.mem_append_left _ (List.mem_of_getElem? (i := 22) rfl))))))))))
set_option maxRecDepth 20000 in
theorem wm_383 : (Cond.methodLink R_S 231 y_T_object) ∈ w_all := List.mem_append_right _ (List.mem_append_right _ (List.mem_append_right _ (List.mem_append_right _ (List.mem_append_right _ (List.mem_append_right _ (List.mem_append_right _ (List.mem_append_right _ (List.mem_append_right _ (List.mem_append_left _ (List.mem_of_getElem? (i := 23) rfl))))))))))
set_option maxRecDepth 20000 in
theorem wm_384 : (Cond.static y_T_object) ∈ w_all := List.mem_append_right _ (List.mem_append_right _ (List.mem_append_right _ (List.mem_append_right _ (List.mem_append_right _ (List.mem_append_right _ (List.mem_append_right _ (List.mem_append_right _ (List.mem_append_right _ (List.mem_append_left _ (List.mem_of_getElem? (i := 24) rfl))))))))))
set_option maxRecDepth 20000 in
theorem wm_385 : (Cond.code y_C_latestHeader b_C_latestHeader 3 (some .int)) ∈ w_all := List.mem_append_right _ (List.mem_append_right _ (List.mem_append_right _ (List.mem_append_right _ (List.mem_append_right _ (List.mem_append_right _ (List.mem_append_right _ (List.mem_append_right _ (List.mem_append_right _ (List.mem_append_left _ (List.mem_of_getElem? (i := 25) rfl))))))))))
set_option maxRecDepth 20000 in
theorem wm_386 : (Cond.methodLink R_S 234 y_C_latestHeader) ∈ w_all := List.mem_append_right _ (List.mem_append_right _ (List.mem_append_right _ (List.mem_append_right _ (List.mem_append_right _ (List.mem_append_right _ (List.mem_append_right _ (List.mem_append_right _ (List.mem_append_right _ (List.mem_append_left _ (List.mem_of_getElem? (i := 26) rfl))))))))))
set_option maxRecDepth 20000 in
theorem wm_387 : (Cond.instanceMethod y_C_latestHeader) ∈ w_all := List.mem_append_right _ (List.mem_append_right _ (List.mem_append_right _ (List.mem_append_right _ (List.mem_append_right _ (List.mem_append_right _ (List.mem_append_right _ (List.mem_append_right _ (List.mem_append_right _ (List.mem_append_left _ (List.mem_of_getElem? (i := 27) rfl))))))))))
set_option maxRecDepth 20000 in
theorem wm_388 : (Cond.selects R_C y_C_latestHeader y_C_latestHeader) ∈ w_all := List.mem_append_right _ (List.mem_append_right _ (List.mem_append_right _ (List.mem_append_right _ (List.mem_append_right _ (List.mem_append_right _ (List.mem_append_right _ (List.mem_append_right _ (List.mem_append_right _ (List.mem_append_left _ (List.mem_of_getElem? (i := 28) rfl))))))))))
set_option maxRecDepth 20000 in
theorem wm_389 : (Cond.methodLink R_T 10 y_T_ofChunk) ∈ w_all := List.mem_append_right _ (List.mem_append_right _ (List.mem_append_right _ (List.mem_append_right _ (List.mem_append_right _ (List.mem_append_right _ (List.mem_append_right _ (List.mem_append_right _ (List.mem_append_right _ (List.mem_append_left _ (List.mem_of_getElem? (i := 29) rfl))))))))))
set_option maxRecDepth 20000 in
theorem wm_390 : (Cond.methodLink R_T 14 y_T_serialAfter) ∈ w_all := List.mem_append_right _ (List.mem_append_right _ (List.mem_append_right _ (List.mem_append_right _ (List.mem_append_right _ (List.mem_append_right _ (List.mem_append_right _ (List.mem_append_right _ (List.mem_append_right _ (List.mem_append_left _ (List.mem_of_getElem? (i := 30) rfl))))))))))
set_option maxRecDepth 20000 in
theorem wm_391 : (Cond.code y_S_create b_S_create 7 (some .int)) ∈ w_all := List.mem_append_right _ (List.mem_append_right _ (List.mem_append_right _ (List.mem_append_right _ (List.mem_append_right _ (List.mem_append_right _ (List.mem_append_right _ (List.mem_append_right _ (List.mem_append_right _ (List.mem_append_left _ (List.mem_of_getElem? (i := 31) rfl))))))))))
set_option maxRecDepth 20000 in
theorem wm_392 : (Cond.code y_S_write b_S_write 8 (some .int)) ∈ w_all := List.mem_append_right _ (List.mem_append_right _ (List.mem_append_right _ (List.mem_append_right _ (List.mem_append_right _ (List.mem_append_right _ (List.mem_append_right _ (List.mem_append_right _ (List.mem_append_right _ (List.mem_append_left _ (List.mem_of_getElem? (i := 32) rfl))))))))))
set_option maxRecDepth 20000 in
theorem wm_393 : (Cond.code y_S_read b_S_read 5 (some .long)) ∈ w_all := List.mem_append_right _ (List.mem_append_right _ (List.mem_append_right _ (List.mem_append_right _ (List.mem_append_right _ (List.mem_append_right _ (List.mem_append_right _ (List.mem_append_right _ (List.mem_append_right _ (List.mem_append_left _ (List.mem_of_getElem? (i := 33) rfl))))))))))
set_option maxRecDepth 20000 in
theorem wm_394 : (Cond.code y_S_truncate b_S_truncate 6 (some .int)) ∈ w_all := List.mem_append_right _ (List.mem_append_right _ (List.mem_append_right _ (List.mem_append_right _ (List.mem_append_right _ (List.mem_append_right _ (List.mem_append_right _ (List.mem_append_right _ (List.mem_append_right _ (List.mem_append_left _ (List.mem_of_getElem? (i := 34) rfl))))))))))
set_option maxRecDepth 20000 in
theorem wm_395 : (Cond.code y_S_move b_S_move 8 (some .int)) ∈ w_all := List.mem_append_right _ (List.mem_append_right _ (List.mem_append_right _ (List.mem_append_right _ (List.mem_append_right _ (List.mem_append_right _ (List.mem_append_right _ (List.mem_append_right _ (List.mem_append_right _ (List.mem_append_left _ (List.mem_of_getElem? (i := 35) rfl))))))))))
set_option maxRecDepth 20000 in
theorem wm_396 : (Cond.code y_S_remove b_S_remove 3 (some .int)) ∈ w_all := List.mem_append_right _ (List.mem_append_right _ (List.mem_append_right _ (List.mem_append_right _ (List.mem_append_right _ (List.mem_append_right _ (List.mem_append_right _ (List.mem_append_right _ (List.mem_append_right _ (List.mem_append_left _ (List.mem_of_getElem? (i := 36) rfl))))))))))
set_option maxRecDepth 20000 in
theorem wm_397 : (Cond.code y_S_find b_S_find 4 (some .int)) ∈ w_all := List.mem_append_right _ (List.mem_append_right _ (List.mem_append_right _ (List.mem_append_right _ (List.mem_append_right _ (List.mem_append_right _ (List.mem_append_right _ (List.mem_append_right _ (List.mem_append_right _ (List.mem_append_left _ (List.mem_of_getElem? (i := 37) rfl))))))))))
set_option maxRecDepth 20000 in
theorem wm_398 : (Cond.code y_S_size b_S_size 2 (some .int)) ∈ w_all := List.mem_append_right _ (List.mem_append_right _ (List.mem_append_right _ (List.mem_append_right _ (List.mem_append_right _ (List.mem_append_right _ (List.mem_append_right _ (List.mem_append_right _ (List.mem_append_right _ (List.mem_append_left _ (List.mem_of_getElem? (i := 38) rfl))))))))))
set_option maxRecDepth 20000 in
theorem wm_399 : (Cond.code y_S_parentOf b_S_parentOf 3 (some .int)) ∈ w_all := List.mem_append_right _ (List.mem_append_right _ (List.mem_append_right _ (List.mem_append_right _ (List.mem_append_right _ (List.mem_append_right _ (List.mem_append_right _ (List.mem_append_right _ (List.mem_append_right _ (List.mem_append_left _ (List.mem_of_getElem? (i := 39) rfl))))))))))
set_option maxRecDepth 20000 in
theorem wm_400 : (Cond.code y_S_nameOf b_S_nameOf 3 (some .long)) ∈ w_all := List.mem_append_right _ (List.mem_append_right _ (List.mem_append_right _ (List.mem_append_right _ (List.mem_append_right _ (List.mem_append_right _ (List.mem_append_right _ (List.mem_append_right _ (List.mem_append_right _ (List.mem_append_right _ (List.mem_append_left _ (List.mem_of_getElem? (i := 0) rfl)))))))))))
set_option maxRecDepth 20000 in
theorem wm_401 : (Cond.code y_S_checkpoint b_S_checkpoint 1 (some .int)) ∈ w_all := List.mem_append_right _ (List.mem_append_right _ (List.mem_append_right _ (List.mem_append_right _ (List.mem_append_right _ (List.mem_append_right _ (List.mem_append_right _ (List.mem_append_right _ (List.mem_append_right _ (List.mem_append_right _ (List.mem_append_left _ (List.mem_of_getElem? (i := 1) rfl)))))))))))
set_option maxRecDepth 20000 in
theorem wm_402 : (Cond.code y_S_mount b_S_mount 3 (some .int)) ∈ w_all := List.mem_append_right _ (List.mem_append_right _ (List.mem_append_right _ (List.mem_append_right _ (List.mem_append_right _ (List.mem_append_right _ (List.mem_append_right _ (List.mem_append_right _ (List.mem_append_right _ (List.mem_append_right _ (List.mem_append_left _ (List.mem_of_getElem? (i := 2) rfl)))))))))))
set_option maxRecDepth 20000 in
theorem wm_403 : (Cond.code y_S_cut b_S_cut 2 none) ∈ w_all := List.mem_append_right _ (List.mem_append_right _ (List.mem_append_right _ (List.mem_append_right _ (List.mem_append_right _ (List.mem_append_right _ (List.mem_append_right _ (List.mem_append_right _ (List.mem_append_right _ (List.mem_append_right _ (List.mem_append_left _ (List.mem_of_getElem? (i := 3) rfl)))))))))))
set_option maxRecDepth 20000 in
theorem wm_404 : (Cond.code y_S_flip b_S_flip 4 (some .boolean)) ∈ w_all := List.mem_append_right _ (List.mem_append_right _ (List.mem_append_right _ (List.mem_append_right _ (List.mem_append_right _ (List.mem_append_right _ (List.mem_append_right _ (List.mem_append_right _ (List.mem_append_right _ (List.mem_append_right _ (List.mem_append_left _ (List.mem_of_getElem? (i := 4) rfl)))))))))))
set_option maxRecDepth 20000 in
theorem wm_405 : (Cond.code y_S_wear b_S_wear 2 (some .boolean)) ∈ w_all := List.mem_append_right _ (List.mem_append_right _ (List.mem_append_right _ (List.mem_append_right _ (List.mem_append_right _ (List.mem_append_right _ (List.mem_append_right _ (List.mem_append_right _ (List.mem_append_right _ (List.mem_append_right _ (List.mem_append_left _ (List.mem_of_getElem? (i := 5) rfl)))))))))))
set_option maxRecDepth 20000 in
theorem wm_406 : (Cond.code y_S_tags b_S_tags 4 (some .int)) ∈ w_all := List.mem_append_right _ (List.mem_append_right _ (List.mem_append_right _ (List.mem_append_right _ (List.mem_append_right _ (List.mem_append_right _ (List.mem_append_right _ (List.mem_append_right _ (List.mem_append_right _ (List.mem_append_right _ (List.mem_append_left _ (List.mem_of_getElem? (i := 6) rfl)))))))))))
set_option maxRecDepth 20000 in
theorem wm_407 : (Cond.code y_S_free b_S_free 1 (some .int)) ∈ w_all := List.mem_append_right _ (List.mem_append_right _ (List.mem_append_right _ (List.mem_append_right _ (List.mem_append_right _ (List.mem_append_right _ (List.mem_append_right _ (List.mem_append_right _ (List.mem_append_right _ (List.mem_append_right _ (List.mem_append_left _ (List.mem_of_getElem? (i := 7) rfl)))))))))))
set_option maxRecDepth 20000 in
theorem wm_408 : (Cond.code y_S_erases b_S_erases 2 (some .int)) ∈ w_all := List.mem_append_right _ (List.mem_append_right _ (List.mem_append_right _ (List.mem_append_right _ (List.mem_append_right _ (List.mem_append_right _ (List.mem_append_right _ (List.mem_append_right _ (List.mem_append_right _ (List.mem_append_right _ (List.mem_append_left _ (List.mem_of_getElem? (i := 8) rfl)))))))))))
set_option maxRecDepth 20000 in
theorem wm_409 : (Cond.code y_S_steps b_S_steps 1 (some .int)) ∈ w_all := List.mem_append_right _ (List.mem_append_right _ (List.mem_append_right _ (List.mem_append_right _ (List.mem_append_right _ (List.mem_append_right _ (List.mem_append_right _ (List.mem_append_right _ (List.mem_append_right _ (List.mem_append_right _ (List.mem_append_left _ (List.mem_of_getElem? (i := 9) rfl)))))))))))
set_option maxRecDepth 20000 in
theorem wm_410 : (Cond.code y_M_create b_M_create 6 (some .int)) ∈ w_all := List.mem_append_right _ (List.mem_append_right _ (List.mem_append_right _ (List.mem_append_right _ (List.mem_append_right _ (List.mem_append_right _ (List.mem_append_right _ (List.mem_append_right _ (List.mem_append_right _ (List.mem_append_right _ (List.mem_append_left _ (List.mem_of_getElem? (i := 10) rfl)))))))))))
set_option maxRecDepth 20000 in
theorem wm_411 : (Cond.code y_M_write b_M_write 8 (some .int)) ∈ w_all := List.mem_append_right _ (List.mem_append_right _ (List.mem_append_right _ (List.mem_append_right _ (List.mem_append_right _ (List.mem_append_right _ (List.mem_append_right _ (List.mem_append_right _ (List.mem_append_right _ (List.mem_append_right _ (List.mem_append_left _ (List.mem_of_getElem? (i := 11) rfl)))))))))))
set_option maxRecDepth 20000 in
theorem wm_412 : (Cond.code y_M_read b_M_read 5 (some .long)) ∈ w_all := List.mem_append_right _ (List.mem_append_right _ (List.mem_append_right _ (List.mem_append_right _ (List.mem_append_right _ (List.mem_append_right _ (List.mem_append_right _ (List.mem_append_right _ (List.mem_append_right _ (List.mem_append_right _ (List.mem_append_left _ (List.mem_of_getElem? (i := 12) rfl)))))))))))
set_option maxRecDepth 20000 in
theorem wm_413 : (Cond.code y_M_truncate b_M_truncate 6 (some .int)) ∈ w_all := List.mem_append_right _ (List.mem_append_right _ (List.mem_append_right _ (List.mem_append_right _ (List.mem_append_right _ (List.mem_append_right _ (List.mem_append_right _ (List.mem_append_right _ (List.mem_append_right _ (List.mem_append_right _ (List.mem_append_left _ (List.mem_of_getElem? (i := 13) rfl)))))))))))
set_option maxRecDepth 20000 in
theorem wm_414 : (Cond.code y_M_move b_M_move 6 (some .int)) ∈ w_all := List.mem_append_right _ (List.mem_append_right _ (List.mem_append_right _ (List.mem_append_right _ (List.mem_append_right _ (List.mem_append_right _ (List.mem_append_right _ (List.mem_append_right _ (List.mem_append_right _ (List.mem_append_right _ (List.mem_append_left _ (List.mem_of_getElem? (i := 14) rfl)))))))))))
set_option maxRecDepth 20000 in
theorem wm_415 : (Cond.code y_M_remove b_M_remove 3 (some .int)) ∈ w_all := List.mem_append_right _ (List.mem_append_right _ (List.mem_append_right _ (List.mem_append_right _ (List.mem_append_right _ (List.mem_append_right _ (List.mem_append_right _ (List.mem_append_right _ (List.mem_append_right _ (List.mem_append_right _ (List.mem_append_left _ (List.mem_of_getElem? (i := 15) rfl)))))))))))
set_option maxRecDepth 20000 in
theorem wm_416 : (Cond.code y_M_find b_M_find 3 (some .int)) ∈ w_all := List.mem_append_right _ (List.mem_append_right _ (List.mem_append_right _ (List.mem_append_right _ (List.mem_append_right _ (List.mem_append_right _ (List.mem_append_right _ (List.mem_append_right _ (List.mem_append_right _ (List.mem_append_right _ (List.mem_append_left _ (List.mem_of_getElem? (i := 16) rfl)))))))))))
set_option maxRecDepth 20000 in
theorem wm_417 : (Cond.code y_M_size b_M_size 2 (some .int)) ∈ w_all := List.mem_append_right _ (List.mem_append_right _ (List.mem_append_right _ (List.mem_append_right _ (List.mem_append_right _ (List.mem_append_right _ (List.mem_append_right _ (List.mem_append_right _ (List.mem_append_right _ (List.mem_append_right _ (List.mem_append_left _ (List.mem_of_getElem? (i := 17) rfl)))))))))))
set_option maxRecDepth 20000 in
theorem wm_418 : (Cond.code y_M_parentOf b_M_parentOf 3 (some .int)) ∈ w_all := List.mem_append_right _ (List.mem_append_right _ (List.mem_append_right _ (List.mem_append_right _ (List.mem_append_right _ (List.mem_append_right _ (List.mem_append_right _ (List.mem_append_right _ (List.mem_append_right _ (List.mem_append_right _ (List.mem_append_left _ (List.mem_of_getElem? (i := 18) rfl)))))))))))
set_option maxRecDepth 20000 in
theorem wm_419 : (Cond.code y_M_nameOf b_M_nameOf 3 (some .long)) ∈ w_all := List.mem_append_right _ (List.mem_append_right _ (List.mem_append_right _ (List.mem_append_right _ (List.mem_append_right _ (List.mem_append_right _ (List.mem_append_right _ (List.mem_append_right _ (List.mem_append_right _ (List.mem_append_right _ (List.mem_append_left _ (List.mem_of_getElem? (i := 19) rfl)))))))))))
set_option maxRecDepth 20000 in
theorem wm_420 : (Cond.code y_M_checkpoint b_M_checkpoint 3 (some .int)) ∈ w_all := List.mem_append_right _ (List.mem_append_right _ (List.mem_append_right _ (List.mem_append_right _ (List.mem_append_right _ (List.mem_append_right _ (List.mem_append_right _ (List.mem_append_right _ (List.mem_append_right _ (List.mem_append_right _ (List.mem_append_left _ (List.mem_of_getElem? (i := 20) rfl)))))))))))
set_option maxRecDepth 20000 in
theorem wm_421 : (Cond.code y_M_mount b_M_mount 6 (some .int)) ∈ w_all := List.mem_append_right _ (List.mem_append_right _ (List.mem_append_right _ (List.mem_append_right _ (List.mem_append_right _ (List.mem_append_right _ (List.mem_append_right _ (List.mem_append_right _ (List.mem_append_right _ (List.mem_append_right _ (List.mem_append_left _ (List.mem_of_getElem? (i := 21) rfl)))))))))))
set_option maxRecDepth 20000 in
theorem wm_422 : (Cond.code y_M_cut b_M_cut 2 none) ∈ w_all := List.mem_append_right _ (List.mem_append_right _ (List.mem_append_right _ (List.mem_append_right _ (List.mem_append_right _ (List.mem_append_right _ (List.mem_append_right _ (List.mem_append_right _ (List.mem_append_right _ (List.mem_append_right _ (List.mem_append_left _ (List.mem_of_getElem? (i := 22) rfl)))))))))))
set_option maxRecDepth 20000 in
theorem wm_423 : (Cond.code y_M_flip b_M_flip 5 (some .boolean)) ∈ w_all := List.mem_append_right _ (List.mem_append_right _ (List.mem_append_right _ (List.mem_append_right _ (List.mem_append_right _ (List.mem_append_right _ (List.mem_append_right _ (List.mem_append_right _ (List.mem_append_right _ (List.mem_append_right _ (List.mem_append_left _ (List.mem_of_getElem? (i := 23) rfl)))))))))))
set_option maxRecDepth 20000 in
theorem wm_424 : (Cond.code y_M_wear b_M_wear 2 (some .boolean)) ∈ w_all := List.mem_append_right _ (List.mem_append_right _ (List.mem_append_right _ (List.mem_append_right _ (List.mem_append_right _ (List.mem_append_right _ (List.mem_append_right _ (List.mem_append_right _ (List.mem_append_right _ (List.mem_append_right _ (List.mem_append_left _ (List.mem_of_getElem? (i := 24) rfl)))))))))))
set_option maxRecDepth 20000 in
theorem wm_425 : (Cond.code y_M_tags b_M_tags 5 (some .int)) ∈ w_all := List.mem_append_right _ (List.mem_append_right _ (List.mem_append_right _ (List.mem_append_right _ (List.mem_append_right _ (List.mem_append_right _ (List.mem_append_right _ (List.mem_append_right _ (List.mem_append_right _ (List.mem_append_right _ (List.mem_append_left _ (List.mem_of_getElem? (i := 25) rfl)))))))))))
set_option maxRecDepth 20000 in
theorem wm_426 : (Cond.code y_M_erases b_M_erases 2 (some .int)) ∈ w_all := List.mem_append_right _ (List.mem_append_right _ (List.mem_append_right _ (List.mem_append_right _ (List.mem_append_right _ (List.mem_append_right _ (List.mem_append_right _ (List.mem_append_right _ (List.mem_append_right _ (List.mem_append_right _ (List.mem_append_left _ (List.mem_of_getElem? (i := 26) rfl)))))))))))
set_option maxRecDepth 20000 in
theorem wm_427 : (Cond.code y_M_steps b_M_steps 1 (some .int)) ∈ w_all := List.mem_append_right _ (List.mem_append_right _ (List.mem_append_right _ (List.mem_append_right _ (List.mem_append_right _ (List.mem_append_right _ (List.mem_append_right _ (List.mem_append_right _ (List.mem_append_right _ (List.mem_append_right _ (List.mem_append_left _ (List.mem_of_getElem? (i := 27) rfl)))))))))))
theorem us_S : ∀ w ∈ u_ws R_S F_S 3, w ∈ w_all := fun w hw => List.mem_append_right _ (List.mem_append_right _ (List.mem_append_right _ (List.mem_append_right _ (List.mem_append_right _ (List.mem_append_right _ (List.mem_append_right _ (List.mem_append_right _ (List.mem_append_right _ (List.mem_append_right _ (List.mem_append_right _ (List.mem_append_left _ hw)))))))))))
theorem us_C : ∀ w ∈ u_ws R_C F_C 11, w ∈ w_all := fun w hw => List.mem_append_right _ (List.mem_append_right _ (List.mem_append_right _ (List.mem_append_right _ (List.mem_append_right _ (List.mem_append_right _ (List.mem_append_right _ (List.mem_append_right _ (List.mem_append_right _ (List.mem_append_right _ (List.mem_append_right _ (List.mem_append_right _ (List.mem_append_left _ hw))))))))))))
theorem us_M : ∀ w ∈ u_ws R_M F_M 27, w ∈ w_all := fun w hw => List.mem_append_right _ (List.mem_append_right _ (List.mem_append_right _ (List.mem_append_right _ (List.mem_append_right _ (List.mem_append_right _ (List.mem_append_right _ (List.mem_append_right _ (List.mem_append_right _ (List.mem_append_right _ (List.mem_append_right _ (List.mem_append_right _ (List.mem_append_right _ (hw)))))))))))))
theorem w_good : ∀ w ∈ w_all, (w.onTables && w.keeps) = true ∨ ∃ ty, w = .arrayClass ty := by
  intro w hw
  have h : w_all.all goodWord = true := by decide +kernel
  exact good_of_word (List.all_eq_true.mp h w hw)
end
section
/-! The judgement Ok: from here a method of a world's side comes to its end, and answers as Post says. One row an instruction. -/
abbrev TC : Type := (Nat → Nat → Int32) × (Nat → Int64)
abbrev TR : Type := Nat → Nat → Int32
def up2 (f : Nat → Nat → Int32) (k j : Nat) (x : Int32) : Nat → Nat → Int32 := fun i => cond (Nat.beq i k) (upd (f k) j x) (f i)
def rc (S : TC) (k : Nat) (j : Int32) : Int32 := S.1 k j.toNatClampNeg
def rl (S : TC) (j : Int32) : Int64 := S.2 j.toNatClampNeg
def rr (S : TR) (k : Nat) (j : Int32) : Int32 := S k j.toNatClampNeg
def wc (S : TC) (k : Nat) (j x : Int32) : TC := (up2 S.1 k j.toNatClampNeg x, S.2)
def wl (S : TC) (j : Int32) (x : Int64) : TC := (S.1, vp_updL S.2 j.toNatClampNeg x)
def wr (S : TR) (k : Nat) (j x : Int32) : TR := up2 S k j.toNatClampNeg x
def fc (S : TC) (k j : Nat) (x : Int32) : TC := (up2 S.1 k j x, S.2)
def fr (S : TR) (k j : Nat) (x : Int32) : TR := up2 S k j x
abbrev inB (j : Int32) (n : Nat) : Prop := 0 ≤ j.toInt ∧ j.toInt < n
abbrev isB (x : Int32) : Prop := x = 0 ∨ x = 1
def st {α β : Type} (e : α) (k : α → β) : β := k e
def gd {β : Type} (c : Prop) [Decidable c] (k : Option β) : Option β := if c then k else none
def bd {α σ β : Type} (o : Option (α × σ)) (k : α → σ → Option β) : Option β := match o with
  | none => none
  | some z => k z.1 z.2
theorem st_e {α β : Type} {e : α} {k : α → β} {z : β} (h : st e k = z) : ∃ x, x = e ∧ k x = z := ⟨e, rfl, h⟩
theorem gd_e {β : Type} {c : Prop} [Decidable c] {k : Option β} {z : β} (h : gd c k = some z) : c ∧ k = some z := by
  unfold gd at h
  by_cases hc : c
  · rw [if_pos hc] at h; exact ⟨hc, h⟩
  · rw [if_neg hc] at h; cases h
theorem bd_e {α σ β : Type} {o : Option (α × σ)} {k : α → σ → Option β} {z : β} (h : bd o k = some z) : ∃ x s, o = some (x, s) ∧ k x s = some z := by
  cases o with
  | none => cases h
  | some w => exact ⟨w.1, w.2, rfl, h⟩
theorem so_e {α σ : Type} {x z : α} {s t : σ} (h : some (x, s) = some (z, t)) : x = z ∧ s = t := by
  cases h; exact ⟨rfl, rfl⟩
theorem if_t {α : Type} {c : Prop} [Decidable c] {a b z : α} (hc : c) (h : (if c then a else b) = z) : a = z := by rw [if_pos hc] at h; exact h
theorem if_f {α : Type} {c : Prop} [Decidable c] {a b z : α} (hc : ¬ c) (h : (if c then a else b) = z) : b = z := by rw [if_neg hc] at h; exact h
theorem ib_in {j : Int32} {n : Nat} (h : inB j n) : vp_in j n := vp_in_iff.mpr h
theorem ib_nar {x : Int32} (h : isB x) : narrow .boolean (.int x) = .int x := by rcases h with h | h <;> subst h <;> rfl
theorem ib_vp {x : Int32} (h : isB x) : vp_nar .boolean x = x := by rcases h with h | h <;> subst h <;> rfl
theorem ib_fit {x : Int32} (h : isB x) : fits .boolean (.int x) = true := by rcases h with h | h <;> subst h <;> rfl
def pI {σ : Type} (z : Int32) (S : σ) : Option Value → σ → Prop := fun v u => v = some (.int z) ∧ u = S
def pL {σ : Type} (z : Int64) (S : σ) : Option Value → σ → Prop := fun v u => v = some (.long z) ∧ u = S
def pV {σ : Type} (_z : Unit) (S : σ) : Option Value → σ → Prop := fun v u => v = none ∧ u = S
def ok_F (D : va_G) (tys : List (ClassId × FieldType)) (own : String) (b : ByteArray) (nL : Nat) (ret : Option FieldType) (p : Program) (s : State) (m : MethodId) (args : Array Value) (meth : Method) (c : Code) : Prop :=
  p.tables.exec = Jvm.exec ∧ c.code = b ∧ meth.sig.returnType = ret ∧ meth.locks = false ∧ c.maxLocals = nL ∧ s.vm.findClass own = some m.cls ∧ (∀ w ∈ w_all, w.before args s = true) ∧ va_K D classes tys s
def ok_Y (D : va_G) (A : Nat → Prop) (w : va_W) (s : State) (H : Heap) (locs : List Loc) (ls : Array Slot) (nL : Nat) (Lc : List (Nat × Value)) : Prop :=
  va_P D classes w H ∧ va_D A w ∧ va_S A s.heap H locs ∧ lv_has ls nL Lc ∧ ∀ q : Nat, s.heap.size ≤ q → A q
def ok_Q {σ : Type} (wd : σ → va_W) (D : va_G) (tys : List (ClassId × FieldType)) (A : Nat → Prop) (Post : Option Value → σ → Prop) : Array Value → State → Outcome → State → Prop := fun _ st oc t =>
  (∃ (v : Option Value) (u : σ), oc = .returned v ∧ Post v u ∧ va_P D classes (wd u) t.heap ∧ va_K D classes tys t ∧ va_D A (wd u)) ∧ va_F A st t
abbrev og_X : Type := State → Array Value → (Nat → Prop) → Prop
abbrev og_Q : Type := List Frame → Array Value → State → (Nat → Prop) → State → Prop
def Og {σ : Type} (wd : σ → va_W) (D : va_G) (tys : List (ClassId × FieldType)) (l : Launch) (rm : Room) (own : String) (b : ByteArray) (nL : Nat) (ret : Option FieldType) (X : og_X) (nc ns : Nat) (QQ : og_Q) (S : σ) (pc : Nat) (Lc : List (Nat × Value)) (St : List Value) : Prop :=
  ∀ (p : Program) (e : Env) (s : State) (m : MethodId) (args : Array Value) (below : List Frame) (meth : Method) (c : Code) (A : Nat → Prop) (H : Heap) (locs : List Loc) (ls : Array Slot),
    ok_F D tys own b nL ret p s m args meth c ∧ X s args A → ok_Y D A (wd S) s H locs ls nL Lc →
    W p l e rm s m args below meth c H locs nc ns (QQ below args s A) (F0 m pc ls St)
def og_T : og_X := fun _ _ _ => True
def og_M {σ : Type} (wd : σ → va_W) (D : va_G) (tys : List (ClassId × FieldType)) (Post : Option Value → σ → Prop) : og_Q := fun below args s A => MQ below (ok_Q wd D tys A Post) args s 0 0 A
abbrev Ok {σ : Type} (wd : σ → va_W) (D : va_G) (tys : List (ClassId × FieldType)) (l : Launch) (rm : Room) (own : String) (b : ByteArray) (nL : Nat) (ret : Option FieldType) (S : σ) (pc : Nat) (Lc : List (Nat × Value)) (St : List Value) (Post : Option Value → σ → Prop) : Prop :=
  Og wd D tys l rm own b nL ret og_T 0 0 (og_M wd D tys Post) S pc Lc St
def ok_B {σ : Type} (wd : σ → va_W) (D : va_G) (tys : List (ClassId × FieldType)) (S : σ) (sz : Nat) : State → Prop := fun U => U.heap.size = sz ∧ va_P D classes (wd S) U.heap ∧ va_K D classes tys U ∧ va_D (fun _ => True) (wd S)
def Ct {σ : Type} (wd : σ → va_W) (D : va_G) (tys : List (ClassId × FieldType)) (l : Launch) (y : MethodName) (bc : ByteArray) (nc : Nat) (rt : Option FieldType) (rmc : Room) (av : List Value) (S : σ) (Post : Option Value → σ → Prop) : Prop :=
  ∀ sz : Nat, Met l y (Cond.code y bc nc rt :: w_all) rmc (va_Pc av (ok_B wd D tys S sz)) (ok_Q wd D tys (va_A (wd S) sz) Post) 0 0 (va_A (wd S) sz)
theorem ok_bl {σ : Type} {wd : σ → va_W} {D : va_G} {tys : List (ClassId × FieldType)} {S : σ} {sz : Nat} {av : List Value} : FrameBlind (va_Pc av (ok_B wd D tys S sz)) := fun a U g mk q => by
  obtain ⟨q0, q1, qP, qK, qD⟩ := q
  exact ⟨q0, q1, qP, va_K.moved (u := U) (U := U.calling g mk a) (Vm.Alike.refl U.vm) qK, qD⟩
theorem ok_gi {ws : List Cond} (h : ∀ w ∈ ws, w ∈ w_all) : GoodIn w_all ws := fun w hw => ⟨h w hw, w_good w (h w hw)⟩
section OKR
variable {σ : Type} {wd : σ → va_W} {D : va_G} {tys : List (ClassId × FieldType)} {l : Launch} {rm : Room} {own : String} {b : ByteArray} {nL : Nat} {ret : Option FieldType} {S : σ} {pc q : Nat} {Lc : List (Nat × Value)} {St : List Value} {Post : Option Value → σ → Prop} {X : og_X} {nc0 ns0 : Nat} {QQ : og_Q}
theorem ct_of {y : MethodName} {bc : ByteArray} {nc : Nat} {rt : Option FieldType} {rmc : Room} {av : List Value} (hy : plainName y.cls = true) (hl : (lg_sl av).length ≤ nc) (hLc : lv_args 0 av = Lc) (k : Ok wd D tys l rmc y.cls bc nc rt S 0 Lc [] Post) : Ct wd D tys l y bc nc rt rmc av S Post := by
  intro sz
  refine Met.ofW (cc := bc) (maxL := nc) (ret := rt) hy rfl ?_
  intro p e s m args below meth c s₁ B hml hv
  obtain ⟨rfl, hsz, hP, hK, hD0⟩ := hv
  have hts := atoms_spec (ws := Cond.code y bc nc rt :: w_all) B.pre
  subst hLc
  rw [lg_entry_eq]
  exact k p e s m _ below meth c (va_A (wd S) sz) s.heap [] _ ⟨⟨B.exec, B.bytes, B.returns, B.notSynchronized, hml, findClass_of_methodNamed B.named, fun w hw => hts w (List.mem_cons_of_mem _ hw), hK⟩, trivial⟩ ⟨hP, hD0.self, va_S.rf, lv_entry av hl, fun q h => Or.inr (hsz ▸ h)⟩
theorem ok_sub {Lc' : List (Nat × Value)} (ks : List Nat) (hl : lv_pick Lc ks = Lc') (k : Og wd D tys l rm own b nL ret X nc0 ns0 QQ S pc Lc' St) : Og wd D tys l rm own b nL ret X nc0 ns0 QQ S pc Lc St :=
  fun p e s m args below meth c A H locs ls hF hY => k p e s m args below meth c A H locs ls hF ⟨hY.1, hY.2.1, hY.2.2.1, lv_sub hY.2.2.2.1 ks hl, hY.2.2.2.2⟩
theorem ok_topi {x x' : Int32} (hx : x' = x) (k : Og wd D tys l rm own b nL ret X nc0 ns0 QQ S pc Lc (.int x' :: St)) : Og wd D tys l rm own b nL ret X nc0 ns0 QQ S pc Lc (.int x :: St) := hx ▸ k
theorem ok_topl {x x' : Int64} (hx : x' = x) (k : Og wd D tys l rm own b nL ret X nc0 ns0 QQ S pc Lc (.long x' :: St)) : Og wd D tys l rm own b nL ret X nc0 ns0 QQ S pc Lc (.long x :: St) := hx ▸ k

theorem ok_iadd {x y : Int32} (hd : decode b pc = .ok (.iadd, 1)) (hq : pc + 1 = q) (k : Og wd D tys l rm own b nL ret X nc0 ns0 QQ S q Lc (.int (x + y) :: St)) : Og wd D tys l rm own b nL ret X nc0 ns0 QQ S pc Lc (.int y :: .int x :: St) := by
  subst hq
  intro p e s m args below meth c A H locs ls hF hY
  exact lv_iadd hF.1.1 hF.1.2.1 hd (k p e s m args below meth c A H locs ls hF hY)
theorem ok_isub {x y : Int32} (hd : decode b pc = .ok (.isub, 1)) (hq : pc + 1 = q) (k : Og wd D tys l rm own b nL ret X nc0 ns0 QQ S q Lc (.int (x - y) :: St)) : Og wd D tys l rm own b nL ret X nc0 ns0 QQ S pc Lc (.int y :: .int x :: St) := by
  subst hq
  intro p e s m args below meth c A H locs ls hF hY
  exact lv_isub hF.1.1 hF.1.2.1 hd (k p e s m args below meth c A H locs ls hF hY)
theorem ok_imul {x y : Int32} (hd : decode b pc = .ok (.imul, 1)) (hq : pc + 1 = q) (k : Og wd D tys l rm own b nL ret X nc0 ns0 QQ S q Lc (.int (x * y) :: St)) : Og wd D tys l rm own b nL ret X nc0 ns0 QQ S pc Lc (.int y :: .int x :: St) := by
  subst hq
  intro p e s m args below meth c A H locs ls hF hY
  exact lv_imul hF.1.1 hF.1.2.1 hd (k p e s m args below meth c A H locs ls hF hY)
theorem ok_iand {x y : Int32} (hd : decode b pc = .ok (.iand, 1)) (hq : pc + 1 = q) (k : Og wd D tys l rm own b nL ret X nc0 ns0 QQ S q Lc (.int (x &&& y) :: St)) : Og wd D tys l rm own b nL ret X nc0 ns0 QQ S pc Lc (.int y :: .int x :: St) := by
  subst hq
  intro p e s m args below meth c A H locs ls hF hY
  exact lv_iand hF.1.1 hF.1.2.1 hd (k p e s m args below meth c A H locs ls hF hY)
theorem ok_ior {x y : Int32} (hd : decode b pc = .ok (.ior, 1)) (hq : pc + 1 = q) (k : Og wd D tys l rm own b nL ret X nc0 ns0 QQ S q Lc (.int (x ||| y) :: St)) : Og wd D tys l rm own b nL ret X nc0 ns0 QQ S pc Lc (.int y :: .int x :: St) := by
  subst hq
  intro p e s m args below meth c A H locs ls hF hY
  exact lv_ior hF.1.1 hF.1.2.1 hd (k p e s m args below meth c A H locs ls hF hY)
theorem ok_ixor {x y : Int32} (hd : decode b pc = .ok (.ixor, 1)) (hq : pc + 1 = q) (k : Og wd D tys l rm own b nL ret X nc0 ns0 QQ S q Lc (.int (x ^^^ y) :: St)) : Og wd D tys l rm own b nL ret X nc0 ns0 QQ S pc Lc (.int y :: .int x :: St) := by
  subst hq
  intro p e s m args below meth c A H locs ls hF hY
  exact lv_ixor hF.1.1 hF.1.2.1 hd (k p e s m args below meth c A H locs ls hF hY)
theorem ok_ishl {x y : Int32} (hd : decode b pc = .ok (.ishl, 1)) (hq : pc + 1 = q) (k : Og wd D tys l rm own b nL ret X nc0 ns0 QQ S q Lc (.int (x <<< (y &&& 31)) :: St)) : Og wd D tys l rm own b nL ret X nc0 ns0 QQ S pc Lc (.int y :: .int x :: St) := by
  subst hq
  intro p e s m args below meth c A H locs ls hF hY
  exact lv_ishl hF.1.1 hF.1.2.1 hd (k p e s m args below meth c A H locs ls hF hY)
theorem ok_ishr {x y : Int32} (hd : decode b pc = .ok (.ishr, 1)) (hq : pc + 1 = q) (k : Og wd D tys l rm own b nL ret X nc0 ns0 QQ S q Lc (.int (x >>> (y &&& 31)) :: St)) : Og wd D tys l rm own b nL ret X nc0 ns0 QQ S pc Lc (.int y :: .int x :: St) := by
  subst hq
  intro p e s m args below meth c A H locs ls hF hY
  exact lv_ishr hF.1.1 hF.1.2.1 hd (k p e s m args below meth c A H locs ls hF hY)
theorem ok_idiv {x y : Int32} (hd : decode b pc = .ok (.idiv, 1)) (hne : ¬ y = 0) (hq : pc + 1 = q) (k : Og wd D tys l rm own b nL ret X nc0 ns0 QQ S q Lc (.int (x / y) :: St)) : Og wd D tys l rm own b nL ret X nc0 ns0 QQ S pc Lc (.int y :: .int x :: St) := by
  subst hq
  intro p e s m args below meth c A H locs ls hF hY
  exact lv_idiv hF.1.1 hF.1.2.1 hd hne (k p e s m args below meth c A H locs ls hF hY)
theorem ok_irem {x y : Int32} (hd : decode b pc = .ok (.irem, 1)) (hne : ¬ y = 0) (hq : pc + 1 = q) (k : Og wd D tys l rm own b nL ret X nc0 ns0 QQ S q Lc (.int (x - x / y * y) :: St)) : Og wd D tys l rm own b nL ret X nc0 ns0 QQ S pc Lc (.int y :: .int x :: St) := by
  subst hq
  intro p e s m args below meth c A H locs ls hF hY
  exact lv_irem hF.1.1 hF.1.2.1 hd hne (k p e s m args below meth c A H locs ls hF hY)
theorem ok_ladd {x y : Int64} (hd : decode b pc = .ok (.ladd, 1)) (hq : pc + 1 = q) (k : Og wd D tys l rm own b nL ret X nc0 ns0 QQ S q Lc (.long (x + y) :: St)) : Og wd D tys l rm own b nL ret X nc0 ns0 QQ S pc Lc (.long y :: .long x :: St) := by
  subst hq
  intro p e s m args below meth c A H locs ls hF hY
  exact lv_ladd hF.1.1 hF.1.2.1 hd (k p e s m args below meth c A H locs ls hF hY)
theorem ok_lsub {x y : Int64} (hd : decode b pc = .ok (.lsub, 1)) (hq : pc + 1 = q) (k : Og wd D tys l rm own b nL ret X nc0 ns0 QQ S q Lc (.long (x - y) :: St)) : Og wd D tys l rm own b nL ret X nc0 ns0 QQ S pc Lc (.long y :: .long x :: St) := by
  subst hq
  intro p e s m args below meth c A H locs ls hF hY
  exact lv_lsub hF.1.1 hF.1.2.1 hd (k p e s m args below meth c A H locs ls hF hY)
theorem ok_land {x y : Int64} (hd : decode b pc = .ok (.land, 1)) (hq : pc + 1 = q) (k : Og wd D tys l rm own b nL ret X nc0 ns0 QQ S q Lc (.long (x &&& y) :: St)) : Og wd D tys l rm own b nL ret X nc0 ns0 QQ S pc Lc (.long y :: .long x :: St) := by
  subst hq
  intro p e s m args below meth c A H locs ls hF hY
  exact lv_land hF.1.1 hF.1.2.1 hd (k p e s m args below meth c A H locs ls hF hY)
theorem ok_lor {x y : Int64} (hd : decode b pc = .ok (.lor, 1)) (hq : pc + 1 = q) (k : Og wd D tys l rm own b nL ret X nc0 ns0 QQ S q Lc (.long (x ||| y) :: St)) : Og wd D tys l rm own b nL ret X nc0 ns0 QQ S pc Lc (.long y :: .long x :: St) := by
  subst hq
  intro p e s m args below meth c A H locs ls hF hY
  exact lv_lor hF.1.1 hF.1.2.1 hd (k p e s m args below meth c A H locs ls hF hY)
theorem ok_lxor {x y : Int64} (hd : decode b pc = .ok (.lxor, 1)) (hq : pc + 1 = q) (k : Og wd D tys l rm own b nL ret X nc0 ns0 QQ S q Lc (.long (x ^^^ y) :: St)) : Og wd D tys l rm own b nL ret X nc0 ns0 QQ S pc Lc (.long y :: .long x :: St) := by
  subst hq
  intro p e s m args below meth c A H locs ls hF hY
  exact lv_lxor hF.1.1 hF.1.2.1 hd (k p e s m args below meth c A H locs ls hF hY)
theorem ok_lshl {x : Int64} {y : Int32} (hd : decode b pc = .ok (.lshl, 1)) (hq : pc + 1 = q) (k : Og wd D tys l rm own b nL ret X nc0 ns0 QQ S q Lc (.long (x <<< (y.toInt64 &&& 63)) :: St)) : Og wd D tys l rm own b nL ret X nc0 ns0 QQ S pc Lc (.int y :: .long x :: St) := by
  subst hq
  intro p e s m args below meth c A H locs ls hF hY
  exact lv_lshl hF.1.1 hF.1.2.1 hd rfl (k p e s m args below meth c A H locs ls hF hY)
theorem ok_lushr {x : Int64} {y : Int32} (hd : decode b pc = .ok (.lushr, 1)) (hq : pc + 1 = q) (k : Og wd D tys l rm own b nL ret X nc0 ns0 QQ S q Lc (.long ((x.toUInt64 >>> (y.toInt64.toUInt64 &&& Int64.toUInt64 63)).toInt64) :: St)) : Og wd D tys l rm own b nL ret X nc0 ns0 QQ S pc Lc (.int y :: .long x :: St) := by
  subst hq
  intro p e s m args below meth c A H locs ls hF hY
  exact lv_lushr hF.1.1 hF.1.2.1 hd rfl (k p e s m args below meth c A H locs ls hF hY)
theorem ok_i2l {x : Int32} (hd : decode b pc = .ok (.i2l, 1)) (hq : pc + 1 = q) (k : Og wd D tys l rm own b nL ret X nc0 ns0 QQ S q Lc (.long x.toInt64 :: St)) : Og wd D tys l rm own b nL ret X nc0 ns0 QQ S pc Lc (.int x :: St) := by
  subst hq
  intro p e s m args below meth c A H locs ls hF hY
  exact lv_i2l hF.1.1 hF.1.2.1 hd rfl (k p e s m args below meth c A H locs ls hF hY)
theorem ok_l2i {x : Int64} (hd : decode b pc = .ok (.l2i, 1)) (hq : pc + 1 = q) (k : Og wd D tys l rm own b nL ret X nc0 ns0 QQ S q Lc (.int x.toInt32 :: St)) : Og wd D tys l rm own b nL ret X nc0 ns0 QQ S pc Lc (.long x :: St) := by
  subst hq
  intro p e s m args below meth c A H locs ls hF hY
  exact lv_l2i hF.1.1 hF.1.2.1 hd rfl (k p e s m args below meth c A H locs ls hF hY)
theorem ok_lcmp {x y : Int64} (hd : decode b pc = .ok (.lcmp, 1)) (hq : pc + 1 = q) (k : Og wd D tys l rm own b nL ret X nc0 ns0 QQ S q Lc (.int (lg_cmp x y) :: St)) : Og wd D tys l rm own b nL ret X nc0 ns0 QQ S pc Lc (.long y :: .long x :: St) := by
  subst hq
  intro p e s m args below meth c A H locs ls hF hY
  exact W.lcmp hF.1.1 hF.1.2.1 hd (k p e s m args below meth c A H locs ls hF hY)
theorem ok_dup {va : Value} (hd : decode b pc = .ok (.dup, 1)) (hva : va.category = 1) (hq : pc + 1 = q) (k : Og wd D tys l rm own b nL ret X nc0 ns0 QQ S q Lc (va :: va :: St)) : Og wd D tys l rm own b nL ret X nc0 ns0 QQ S pc Lc (va :: St) := by
  subst hq
  intro p e s m args below meth c A H locs ls hF hY
  exact lv_dup hF.1.1 hF.1.2.1 hd hva (k p e s m args below meth c A H locs ls hF hY)
theorem ok_pop {va : Value} (hd : decode b pc = .ok (.pop, 1)) (hva : va.category = 1) (hq : pc + 1 = q) (k : Og wd D tys l rm own b nL ret X nc0 ns0 QQ S q Lc (St)) : Og wd D tys l rm own b nL ret X nc0 ns0 QQ S pc Lc (va :: St) := by
  subst hq
  intro p e s m args below meth c A H locs ls hF hY
  exact lv_pop hF.1.1 hF.1.2.1 hd hva (k p e s m args below meth c A H locs ls hF hY)
theorem ok_dup2 {va vb : Value} (hd : decode b pc = .ok (.dup2, 1)) (hva : va.category = 1) (hvb : vb.category = 1) (hq : pc + 1 = q) (k : Og wd D tys l rm own b nL ret X nc0 ns0 QQ S q Lc (va :: vb :: va :: vb :: St)) : Og wd D tys l rm own b nL ret X nc0 ns0 QQ S pc Lc (va :: vb :: St) := by
  subst hq
  intro p e s m args below meth c A H locs ls hF hY
  exact lv_dup2_11 hF.1.1 hF.1.2.1 hd hva hvb (k p e s m args below meth c A H locs ls hF hY)
theorem ok_iconst {n : Int} {v : Int32} (hd : decode b pc = .ok (.iconst n, 1)) (hv : Int32.ofInt n = v) (hq : pc + 1 = q) (k : Og wd D tys l rm own b nL ret X nc0 ns0 QQ S q Lc (.int v :: St)) : Og wd D tys l rm own b nL ret X nc0 ns0 QQ S pc Lc (St) := by
  subst hq
  intro p e s m args below meth c A H locs ls hF hY
  exact lv_iconst hF.1.1 hF.1.2.1 hd hv (k p e s m args below meth c A H locs ls hF hY)
theorem ok_bipush {n : Int} {v : Int32} (hd : decode b pc = .ok (.bipush n, 2)) (hv : (Int8.ofInt n).toInt32 = v) (hq : pc + 2 = q) (k : Og wd D tys l rm own b nL ret X nc0 ns0 QQ S q Lc (.int v :: St)) : Og wd D tys l rm own b nL ret X nc0 ns0 QQ S pc Lc (St) := by
  subst hq
  intro p e s m args below meth c A H locs ls hF hY
  exact lv_bipush hF.1.1 hF.1.2.1 hd hv (k p e s m args below meth c A H locs ls hF hY)
theorem ok_sipush {n : Int} {v : Int32} (hd : decode b pc = .ok (.sipush n, 3)) (hv : (Int16.ofInt n).toInt32 = v) (hq : pc + 3 = q) (k : Og wd D tys l rm own b nL ret X nc0 ns0 QQ S q Lc (.int v :: St)) : Og wd D tys l rm own b nL ret X nc0 ns0 QQ S pc Lc (St) := by
  subst hq
  intro p e s m args below meth c A H locs ls hF hY
  exact lv_sipush hF.1.1 hF.1.2.1 hd hv (k p e s m args below meth c A H locs ls hF hY)
theorem ok_lconst {n : Fin 2} {v : Int64} (hd : decode b pc = .ok (.lconst n, 1)) (hv : Int64.ofNat (n : Nat) = v) (hq : pc + 1 = q) (k : Og wd D tys l rm own b nL ret X nc0 ns0 QQ S q Lc (.long v :: St)) : Og wd D tys l rm own b nL ret X nc0 ns0 QQ S pc Lc (St) := by
  subst hq
  intro p e s m args below meth c A H locs ls hF hY
  exact lv_lconst hF.1.1 hF.1.2.1 hd hv (k p e s m args below meth c A H locs ls hF hY)
theorem ok_ldc {index : Nat} {v : Int32} (hc : Cond.constant own index v ∈ w_all) (hd : decode b pc = .ok (.ldc index, 2)) (hq : pc + 2 = q) (k : Og wd D tys l rm own b nL ret X nc0 ns0 QQ S q Lc (.int v :: St)) : Og wd D tys l rm own b nL ret X nc0 ns0 QQ S pc Lc (St) := by
  subst hq
  intro p e s m args below meth c A H locs ls hF hY
  exact lv_ldc hF.1.1 hF.1.2.1 hF.1.2.2.2.2.2.1 (hF.1.2.2.2.2.2.2.1 _ hc) hd (k p e s m args below meth c A H locs ls hF hY)
theorem ok_ldc2 {index : Nat} {v : Int64} (hc : Cond.constantLong own index v ∈ w_all) (hd : decode b pc = .ok (.ldc2_w index, 3)) (hq : pc + 3 = q) (k : Og wd D tys l rm own b nL ret X nc0 ns0 QQ S q Lc (.long v :: St)) : Og wd D tys l rm own b nL ret X nc0 ns0 QQ S pc Lc (St) := by
  subst hq
  intro p e s m args below meth c A H locs ls hF hY
  exact lv_ldc2 hF.1.1 hF.1.2.1 hF.1.2.2.2.2.2.1 (hF.1.2.2.2.2.2.2.1 _ hc) hd (k p e s m args below meth c A H locs ls hF hY)
theorem ok_iload_n {k4 : Fin 4} {i : Nat} {x : Int32} (k0 : Nat) (hd : decode b pc = .ok (.iload_n k4, 1)) (hi : (k4 : Nat) = i) (hk : Lc[k0]? = some (i, .int x)) (hq : pc + 1 = q) (k : Og wd D tys l rm own b nL ret X nc0 ns0 QQ S q Lc (.int x :: St)) : Og wd D tys l rm own b nL ret X nc0 ns0 QQ S pc Lc (St) := by
  subst hq
  intro p e s m args below meth c A H locs ls hF hY
  exact lv_iload_n hF.1.1 hF.1.2.1 hd hi (lv_at hY.2.2.2.1 k0 hk) (k p e s m args below meth c A H locs ls hF hY)
theorem ok_iload {i : Nat} {x : Int32} (k0 : Nat) (hd : decode b pc = .ok (.iload i, 2)) (hk : Lc[k0]? = some (i, .int x)) (hq : pc + 2 = q) (k : Og wd D tys l rm own b nL ret X nc0 ns0 QQ S q Lc (.int x :: St)) : Og wd D tys l rm own b nL ret X nc0 ns0 QQ S pc Lc (St) := by
  subst hq
  intro p e s m args below meth c A H locs ls hF hY
  exact lv_iload hF.1.1 hF.1.2.1 hd (lv_at hY.2.2.2.1 k0 hk) (k p e s m args below meth c A H locs ls hF hY)
theorem ok_lload_n {k4 : Fin 4} {i : Nat} {x : Int64} (k0 : Nat) (hd : decode b pc = .ok (.lload_n k4, 1)) (hi : (k4 : Nat) = i) (hk : Lc[k0]? = some (i, .long x)) (hq : pc + 1 = q) (k : Og wd D tys l rm own b nL ret X nc0 ns0 QQ S q Lc (.long x :: St)) : Og wd D tys l rm own b nL ret X nc0 ns0 QQ S pc Lc (St) := by
  subst hq
  intro p e s m args below meth c A H locs ls hF hY
  exact lv_lload_n hF.1.1 hF.1.2.1 hd hi (lv_at hY.2.2.2.1 k0 hk) (k p e s m args below meth c A H locs ls hF hY)
theorem ok_lload {i : Nat} {x : Int64} (k0 : Nat) (hd : decode b pc = .ok (.lload i, 2)) (hk : Lc[k0]? = some (i, .long x)) (hq : pc + 2 = q) (k : Og wd D tys l rm own b nL ret X nc0 ns0 QQ S q Lc (.long x :: St)) : Og wd D tys l rm own b nL ret X nc0 ns0 QQ S pc Lc (St) := by
  subst hq
  intro p e s m args below meth c A H locs ls hF hY
  exact lv_lload hF.1.1 hF.1.2.1 hd (lv_at hY.2.2.2.1 k0 hk) (k p e s m args below meth c A H locs ls hF hY)
theorem ok_aload_n {k4 : Fin 4} {i : Nat} {x : Nat} (k0 : Nat) (hd : decode b pc = .ok (.aload_n k4, 1)) (hi : (k4 : Nat) = i) (hk : Lc[k0]? = some (i, .ref x)) (hq : pc + 1 = q) (k : Og wd D tys l rm own b nL ret X nc0 ns0 QQ S q Lc (.ref x :: St)) : Og wd D tys l rm own b nL ret X nc0 ns0 QQ S pc Lc (St) := by
  subst hq
  intro p e s m args below meth c A H locs ls hF hY
  exact lv_aload_n hF.1.1 hF.1.2.1 hd hi (lv_at hY.2.2.2.1 k0 hk) (k p e s m args below meth c A H locs ls hF hY)
theorem ok_aload {i : Nat} {x : Nat} (k0 : Nat) (hd : decode b pc = .ok (.aload i, 2)) (hk : Lc[k0]? = some (i, .ref x)) (hq : pc + 2 = q) (k : Og wd D tys l rm own b nL ret X nc0 ns0 QQ S q Lc (.ref x :: St)) : Og wd D tys l rm own b nL ret X nc0 ns0 QQ S pc Lc (St) := by
  subst hq
  intro p e s m args below meth c A H locs ls hF hY
  exact lv_aload hF.1.1 hF.1.2.1 hd (lv_at hY.2.2.2.1 k0 hk) (k p e s m args below meth c A H locs ls hF hY)
theorem ok_istore_n {k4 : Fin 4} {i : Nat} {x : Int32} {lv : List (Nat × Value)} (hd : decode b pc = .ok (.istore_n k4, 1)) (hi : (k4 : Nat) = i) (hn : i < nL) (hl : (i, Value.int x) :: Lc.filter (fun q => !(q.1 == i) && !(q.1 + 1 == i && q.2.category == 2)) = lv) (hq : pc + 1 = q) (k : Og wd D tys l rm own b nL ret X nc0 ns0 QQ S q lv St) : Og wd D tys l rm own b nL ret X nc0 ns0 QQ S pc Lc (.int x :: St) := by
  subst hq
  intro p e s m args below meth c A H locs ls hF hY
  exact lv_istore_n hF.1.1 hF.1.2.1 hd hi hY.2.2.2.1 hn hl (fun ls2 hl2 => k p e s m args below meth c A H locs ls2 hF ⟨hY.1, hY.2.1, hY.2.2.1, hl2, hY.2.2.2.2⟩)
theorem ok_istore {i : Nat} {x : Int32} {lv : List (Nat × Value)} (hd : decode b pc = .ok (.istore i, 2)) (hn : i < nL) (hl : (i, Value.int x) :: Lc.filter (fun q => !(q.1 == i) && !(q.1 + 1 == i && q.2.category == 2)) = lv) (hq : pc + 2 = q) (k : Og wd D tys l rm own b nL ret X nc0 ns0 QQ S q lv St) : Og wd D tys l rm own b nL ret X nc0 ns0 QQ S pc Lc (.int x :: St) := by
  subst hq
  intro p e s m args below meth c A H locs ls hF hY
  exact lv_istore hF.1.1 hF.1.2.1 hd hY.2.2.2.1 hn hl (fun ls2 hl2 => k p e s m args below meth c A H locs ls2 hF ⟨hY.1, hY.2.1, hY.2.2.1, hl2, hY.2.2.2.2⟩)
theorem ok_lstore_n {k4 : Fin 4} {i : Nat} {x : Int64} {lv : List (Nat × Value)} (hd : decode b pc = .ok (.lstore_n k4, 1)) (hi : (k4 : Nat) = i) (hn : i + 1 < nL) (hl : (i, Value.long x) :: Lc.filter (fun q => !(q.1 == i) && (!(q.1 == i + 1) && !(q.1 + 1 == i && q.2.category == 2))) = lv) (hq : pc + 1 = q) (k : Og wd D tys l rm own b nL ret X nc0 ns0 QQ S q lv St) : Og wd D tys l rm own b nL ret X nc0 ns0 QQ S pc Lc (.long x :: St) := by
  subst hq
  intro p e s m args below meth c A H locs ls hF hY
  exact lv_lstore_n hF.1.1 hF.1.2.1 hd hi hY.2.2.2.1 hn hl (fun ls2 hl2 => k p e s m args below meth c A H locs ls2 hF ⟨hY.1, hY.2.1, hY.2.2.1, hl2, hY.2.2.2.2⟩)
theorem ok_lstore {i : Nat} {x : Int64} {lv : List (Nat × Value)} (hd : decode b pc = .ok (.lstore i, 2)) (hn : i + 1 < nL) (hl : (i, Value.long x) :: Lc.filter (fun q => !(q.1 == i) && (!(q.1 == i + 1) && !(q.1 + 1 == i && q.2.category == 2))) = lv) (hq : pc + 2 = q) (k : Og wd D tys l rm own b nL ret X nc0 ns0 QQ S q lv St) : Og wd D tys l rm own b nL ret X nc0 ns0 QQ S pc Lc (.long x :: St) := by
  subst hq
  intro p e s m args below meth c A H locs ls hF hY
  exact lv_lstore hF.1.1 hF.1.2.1 hd hY.2.2.2.1 hn hl (fun ls2 hl2 => k p e s m args below meth c A H locs ls2 hF ⟨hY.1, hY.2.1, hY.2.2.1, hl2, hY.2.2.2.2⟩)
theorem ok_iinc {i : Nat} {n : Int} {x v d : Int32} {lv : List (Nat × Value)} (k0 : Nat) (hd : decode b pc = .ok (.iinc i n, 3)) (hk : Lc[k0]? = some (i, .int x)) (hdn : Int32.ofInt n = d) (hv : v = x + d) (hn : i < nL) (hl : (i, Value.int v) :: Lc.filter (fun q => !(q.1 == i) && !(q.1 + 1 == i && q.2.category == 2)) = lv) (hq : pc + 3 = q) (k : Og wd D tys l rm own b nL ret X nc0 ns0 QQ S q lv St) : Og wd D tys l rm own b nL ret X nc0 ns0 QQ S pc Lc St := by
  subst hq
  subst hdn
  intro p e s m args below meth c A H locs ls hF hY
  exact lv_iinc hF.1.1 hF.1.2.1 hd hY.2.2.2.1 hk hv.symm hn hl (fun ls2 hl2 => k p e s m args below meth c A H locs ls2 hF ⟨hY.1, hY.2.1, hY.2.2.1, hl2, hY.2.2.2.2⟩)
theorem ok_if_eq {x : Int32} {off : Int} {t : Nat} (hd : decode b pc = .ok (.ifCond .eq off, 3)) (ht : (pc : Int) + off = (t : Int)) (hq : pc + 3 = q) (kt : x = 0 → Og wd D tys l rm own b nL ret X nc0 ns0 QQ S t Lc St) (kf : ¬ x = 0 → Og wd D tys l rm own b nL ret X nc0 ns0 QQ S q Lc St) : Og wd D tys l rm own b nL ret X nc0 ns0 QQ S pc Lc (.int x :: St) := by
  subst hq
  intro p e s m args below meth c A H locs ls hF hY
  exact lv_if_eq hF.1.1 hF.1.2.1 hd ht (fun hc => kt hc p e s m args below meth c A H locs ls hF hY) (fun hc => kf hc p e s m args below meth c A H locs ls hF hY)
theorem ok_if_ne {x : Int32} {off : Int} {t : Nat} (hd : decode b pc = .ok (.ifCond .ne off, 3)) (ht : (pc : Int) + off = (t : Int)) (hq : pc + 3 = q) (kt : ¬ x = 0 → Og wd D tys l rm own b nL ret X nc0 ns0 QQ S t Lc St) (kf : x = 0 → Og wd D tys l rm own b nL ret X nc0 ns0 QQ S q Lc St) : Og wd D tys l rm own b nL ret X nc0 ns0 QQ S pc Lc (.int x :: St) := by
  subst hq
  intro p e s m args below meth c A H locs ls hF hY
  exact lv_if_ne hF.1.1 hF.1.2.1 hd ht (fun hc => kt hc p e s m args below meth c A H locs ls hF hY) (fun hc => kf hc p e s m args below meth c A H locs ls hF hY)
theorem ok_if_lt {x : Int32} {off : Int} {t : Nat} (hd : decode b pc = .ok (.ifCond .lt off, 3)) (ht : (pc : Int) + off = (t : Int)) (hq : pc + 3 = q) (kt : x < 0 → Og wd D tys l rm own b nL ret X nc0 ns0 QQ S t Lc St) (kf : ¬ x < 0 → Og wd D tys l rm own b nL ret X nc0 ns0 QQ S q Lc St) : Og wd D tys l rm own b nL ret X nc0 ns0 QQ S pc Lc (.int x :: St) := by
  subst hq
  intro p e s m args below meth c A H locs ls hF hY
  exact lv_if_lt hF.1.1 hF.1.2.1 hd ht (fun hc => kt hc p e s m args below meth c A H locs ls hF hY) (fun hc => kf hc p e s m args below meth c A H locs ls hF hY)
theorem ok_if_ge {x : Int32} {off : Int} {t : Nat} (hd : decode b pc = .ok (.ifCond .ge off, 3)) (ht : (pc : Int) + off = (t : Int)) (hq : pc + 3 = q) (kt : 0 ≤ x → Og wd D tys l rm own b nL ret X nc0 ns0 QQ S t Lc St) (kf : ¬ 0 ≤ x → Og wd D tys l rm own b nL ret X nc0 ns0 QQ S q Lc St) : Og wd D tys l rm own b nL ret X nc0 ns0 QQ S pc Lc (.int x :: St) := by
  subst hq
  intro p e s m args below meth c A H locs ls hF hY
  exact lv_if_ge hF.1.1 hF.1.2.1 hd ht (fun hc => kt hc p e s m args below meth c A H locs ls hF hY) (fun hc => kf hc p e s m args below meth c A H locs ls hF hY)
theorem ok_if_gt {x : Int32} {off : Int} {t : Nat} (hd : decode b pc = .ok (.ifCond .gt off, 3)) (ht : (pc : Int) + off = (t : Int)) (hq : pc + 3 = q) (kt : 0 < x → Og wd D tys l rm own b nL ret X nc0 ns0 QQ S t Lc St) (kf : ¬ 0 < x → Og wd D tys l rm own b nL ret X nc0 ns0 QQ S q Lc St) : Og wd D tys l rm own b nL ret X nc0 ns0 QQ S pc Lc (.int x :: St) := by
  subst hq
  intro p e s m args below meth c A H locs ls hF hY
  exact lv_if_gt hF.1.1 hF.1.2.1 hd ht (fun hc => kt hc p e s m args below meth c A H locs ls hF hY) (fun hc => kf hc p e s m args below meth c A H locs ls hF hY)
theorem ok_if_le {x : Int32} {off : Int} {t : Nat} (hd : decode b pc = .ok (.ifCond .le off, 3)) (ht : (pc : Int) + off = (t : Int)) (hq : pc + 3 = q) (kt : x ≤ 0 → Og wd D tys l rm own b nL ret X nc0 ns0 QQ S t Lc St) (kf : ¬ x ≤ 0 → Og wd D tys l rm own b nL ret X nc0 ns0 QQ S q Lc St) : Og wd D tys l rm own b nL ret X nc0 ns0 QQ S pc Lc (.int x :: St) := by
  subst hq
  intro p e s m args below meth c A H locs ls hF hY
  exact lv_if_le hF.1.1 hF.1.2.1 hd ht (fun hc => kt hc p e s m args below meth c A H locs ls hF hY) (fun hc => kf hc p e s m args below meth c A H locs ls hF hY)
theorem ok_icmp_eq {x y : Int32} {off : Int} {t : Nat} (hd : decode b pc = .ok (.if_icmp .eq off, 3)) (ht : (pc : Int) + off = (t : Int)) (hq : pc + 3 = q) (kt : x = y → Og wd D tys l rm own b nL ret X nc0 ns0 QQ S t Lc St) (kf : ¬ x = y → Og wd D tys l rm own b nL ret X nc0 ns0 QQ S q Lc St) : Og wd D tys l rm own b nL ret X nc0 ns0 QQ S pc Lc (.int y :: .int x :: St) := by
  subst hq
  intro p e s m args below meth c A H locs ls hF hY
  exact lv_icmp_eq hF.1.1 hF.1.2.1 hd ht (fun hc => kt hc p e s m args below meth c A H locs ls hF hY) (fun hc => kf hc p e s m args below meth c A H locs ls hF hY)
theorem ok_icmp_ne {x y : Int32} {off : Int} {t : Nat} (hd : decode b pc = .ok (.if_icmp .ne off, 3)) (ht : (pc : Int) + off = (t : Int)) (hq : pc + 3 = q) (kt : ¬ x = y → Og wd D tys l rm own b nL ret X nc0 ns0 QQ S t Lc St) (kf : x = y → Og wd D tys l rm own b nL ret X nc0 ns0 QQ S q Lc St) : Og wd D tys l rm own b nL ret X nc0 ns0 QQ S pc Lc (.int y :: .int x :: St) := by
  subst hq
  intro p e s m args below meth c A H locs ls hF hY
  exact lv_icmp_ne hF.1.1 hF.1.2.1 hd ht (fun hc => kt hc p e s m args below meth c A H locs ls hF hY) (fun hc => kf hc p e s m args below meth c A H locs ls hF hY)
theorem ok_icmp_lt {x y : Int32} {off : Int} {t : Nat} (hd : decode b pc = .ok (.if_icmp .lt off, 3)) (ht : (pc : Int) + off = (t : Int)) (hq : pc + 3 = q) (kt : x < y → Og wd D tys l rm own b nL ret X nc0 ns0 QQ S t Lc St) (kf : ¬ x < y → Og wd D tys l rm own b nL ret X nc0 ns0 QQ S q Lc St) : Og wd D tys l rm own b nL ret X nc0 ns0 QQ S pc Lc (.int y :: .int x :: St) := by
  subst hq
  intro p e s m args below meth c A H locs ls hF hY
  exact lv_icmp_lt hF.1.1 hF.1.2.1 hd ht (fun hc => kt hc p e s m args below meth c A H locs ls hF hY) (fun hc => kf hc p e s m args below meth c A H locs ls hF hY)
theorem ok_icmp_ge {x y : Int32} {off : Int} {t : Nat} (hd : decode b pc = .ok (.if_icmp .ge off, 3)) (ht : (pc : Int) + off = (t : Int)) (hq : pc + 3 = q) (kt : y ≤ x → Og wd D tys l rm own b nL ret X nc0 ns0 QQ S t Lc St) (kf : ¬ y ≤ x → Og wd D tys l rm own b nL ret X nc0 ns0 QQ S q Lc St) : Og wd D tys l rm own b nL ret X nc0 ns0 QQ S pc Lc (.int y :: .int x :: St) := by
  subst hq
  intro p e s m args below meth c A H locs ls hF hY
  exact lv_icmp_ge hF.1.1 hF.1.2.1 hd ht (fun hc => kt hc p e s m args below meth c A H locs ls hF hY) (fun hc => kf hc p e s m args below meth c A H locs ls hF hY)
theorem ok_icmp_gt {x y : Int32} {off : Int} {t : Nat} (hd : decode b pc = .ok (.if_icmp .gt off, 3)) (ht : (pc : Int) + off = (t : Int)) (hq : pc + 3 = q) (kt : y < x → Og wd D tys l rm own b nL ret X nc0 ns0 QQ S t Lc St) (kf : ¬ y < x → Og wd D tys l rm own b nL ret X nc0 ns0 QQ S q Lc St) : Og wd D tys l rm own b nL ret X nc0 ns0 QQ S pc Lc (.int y :: .int x :: St) := by
  subst hq
  intro p e s m args below meth c A H locs ls hF hY
  exact lv_icmp_gt hF.1.1 hF.1.2.1 hd ht (fun hc => kt hc p e s m args below meth c A H locs ls hF hY) (fun hc => kf hc p e s m args below meth c A H locs ls hF hY)
theorem ok_icmp_le {x y : Int32} {off : Int} {t : Nat} (hd : decode b pc = .ok (.if_icmp .le off, 3)) (ht : (pc : Int) + off = (t : Int)) (hq : pc + 3 = q) (kt : x ≤ y → Og wd D tys l rm own b nL ret X nc0 ns0 QQ S t Lc St) (kf : ¬ x ≤ y → Og wd D tys l rm own b nL ret X nc0 ns0 QQ S q Lc St) : Og wd D tys l rm own b nL ret X nc0 ns0 QQ S pc Lc (.int y :: .int x :: St) := by
  subst hq
  intro p e s m args below meth c A H locs ls hF hY
  exact lv_icmp_le hF.1.1 hF.1.2.1 hd ht (fun hc => kt hc p e s m args below meth c A H locs ls hF hY) (fun hc => kf hc p e s m args below meth c A H locs ls hF hY)
theorem ok_goto {off : Int} (hd : decode b pc = .ok (.goto off, 3)) (ht : (pc : Int) + off = (q : Int)) (k : Og wd D tys l rm own b nL ret X nc0 ns0 QQ S q Lc St) : Og wd D tys l rm own b nL ret X nc0 ns0 QQ S pc Lc St := fun p e s m args below meth c A H locs ls hF hY => lv_goto hF.1.1 hF.1.2.1 hd ht (k p e s m args below meth c A H locs ls hF hY)
theorem ok_iret {x : Int32} (hd : decode b pc = .ok (.ireturn, 1)) (hp : Post (some (.int x)) S) : Ok wd D tys l rm own b nL (some .int) S pc Lc [.int x] Post := fun p e s m args below meth c A H locs ls hF hY => W.iret hF.1.1 hF.1.2.1 hF.1.2.2.1 (fun t ht hW => ⟨⟨some (.int x), S, rfl, hp, by rw [ht]; exact hY.1, va_K.moved hW.alike hF.1.2.2.2.2.2.2.2, hY.2.1⟩, hY.2.2.1.F ht⟩) hY.2.2.1.2.2 hd hF.1.2.2.2.1
theorem ok_zret {x : Int32} (hd : decode b pc = .ok (.ireturn, 1)) (hb : isB x) (hp : Post (some (.int x)) S) : Ok wd D tys l rm own b nL (some .boolean) S pc Lc [.int x] Post := fun p e s m args below meth c A H locs ls hF hY => W.zret hF.1.1 hF.1.2.1 hF.1.2.2.1 (ib_nar hb) (fun t ht hW => ⟨⟨some (.int x), S, rfl, hp, by rw [ht]; exact hY.1, va_K.moved hW.alike hF.1.2.2.2.2.2.2.2, hY.2.1⟩, hY.2.2.1.F ht⟩) hY.2.2.1.2.2 hd hF.1.2.2.2.1
theorem ok_lret {x : Int64} (hd : decode b pc = .ok (.lreturn, 1)) (hp : Post (some (.long x)) S) : Ok wd D tys l rm own b nL (some .long) S pc Lc [.long x] Post := fun p e s m args below meth c A H locs ls hF hY => W.lret hF.1.1 hF.1.2.1 hF.1.2.2.1 (fun t ht hW => ⟨⟨some (.long x), S, rfl, hp, by rw [ht]; exact hY.1, va_K.moved hW.alike hF.1.2.2.2.2.2.2.2, hY.2.1⟩, hY.2.2.1.F ht⟩) hY.2.2.1.2.2 hd hF.1.2.2.2.1
theorem ok_vret  (hd : decode b pc = .ok (.return_, 1)) (hp : Post (none) S) : Ok wd D tys l rm own b nL none S pc Lc [] Post := fun p e s m args below meth c A H locs ls hF hY => W.vret hF.1.1 hF.1.2.1 hF.1.2.2.1 (fun t ht hW => ⟨⟨none, S, rfl, hp, by rw [ht]; exact hY.1, va_K.moved hW.alike hF.1.2.2.2.2.2.2.2, hY.2.1⟩, hY.2.2.1.F ht⟩) hY.2.2.1.2.2 hd hF.1.2.2.2.1
theorem ok_after {p : Program} {e : Env} {s : State} {m : MethodId} {args : Array Value} {below : List Frame} {meth : Method} {c : Code} {A : Nat → Prop} {H : Heap} {locs : List Loc} {ls : Array Slot} {st0 : List Value} {P1 : Option Value → σ → Prop} {av : Array Value}
    (hr : va_Run p l e rm s m args below meth c H locs nc0 ns0 0 0 (F0 m pc ls st0) St (ok_Q wd D tys (va_A (wd S) H.size) P1 av) (va_A (wd S) H.size))
    (hF : ok_F D tys own b nL ret p s m args meth c ∧ X s args A) (hY : ok_Y D A (wd S) s H locs ls nL Lc) (kk : ∀ v u, P1 v u → Og wd D tys l rm own b nL ret X nc0 ns0 QQ u (pc + 3) Lc (v.toList ++ St)) :
    W p l e rm s m args below meth c H locs nc0 ns0 (QQ below args s A) (F0 m pc ls st0) := by
  intro T hT X0
  obtain ⟨v, st₀, t, T', L, h0, X', hL, e1, e2, ⟨⟨v', u, hv, hp, hP1, hK1, hD1⟩, hz, hk⟩, st⟩ := hr T hT X0
  cases hv
  rw [h0] at hz hk
  obtain ⟨hP, hD, hS, hls, hA⟩ := hY
  have hsub : ∀ q, va_A (wd S) H.size q → A q := fun q h => by
    rcases h with ⟨k, e, h⟩ | h
    · exact hD.2 k (q, e) h
    · exact hA q (Nat.le_trans hS.1 h)
  have hS2 : va_S A s.heap T'.heap (locs ++ L) := ⟨Nat.le_trans hS.1 (by rw [e1]; exact hz), fun q h1 h2 => by rw [e1, hk q (Nat.lt_of_lt_of_le h1 hS.1) (fun z => h2 (hsub q z))]; exact hS.2.1 q h1 h2, fun q hq => by
      rcases List.mem_append.mp hq with h | h
      · exact hS.2.2 q h
      · exact hsub _ (hL q h)⟩
  obtain ⟨t2, a1, b1⟩ := kk v u hp p e s m args below meth c A T'.heap (locs ++ L) ls hF ⟨by rw [e1]; exact hP1, hD1.weaken (fun k q _ h => hsub q.1 h), hS2, hls, hA⟩ T' rfl X'
  exact ⟨t2, st t2 a1, b1⟩
theorem ok_cV {y : MethodName} {bc : ByteArray} {nc n index : Nat} {rt : Option FieldType} {rmc : Room} {As : List Value} {P1 : Option Value → σ → Prop} {st0 : List Value} {C : String} {T : u_T} {N ci q0 ab : Nat} {fs : List Value} (hct : Ct wd D tys l y bc nc rt rmc (.ref ab :: As) S P1) (hd : decode b pc = .ok (.invokevirtual index, 3))
    (hcode : Cond.code y bc nc rt ∈ w_all) (hws : Cond.methodLink own index y ∈ w_all ∧ Cond.instanceMethod y ∈ w_all ∧ Cond.selects C y y ∈ w_all ∧ Cond.initialized C ∈ w_all)
    (hyd : y.cls = C ∧ y.cls ≠ "java/lang/invoke/MethodHandle" ∧ y.cls ≠ "java/lang/invoke/VarHandle" ∧ (parseMethodDescriptor y.desc).map (fun d => d.parameters.length) = some n) (hrm : (rmc.cells = 0 ∧ rmc.slots = 0) ∧ rmc.frames + 1 ≤ rm.frames ∧ 8 + (nc + 11) + rmc.locals ≤ rm.locals) (hn : As.length = n)
    (hrc : (wd S)[q0]? = some (ab, .inr (ci, fs))) (hcl : classes[ci]? = some (C, T, N)) (hst : st0 = As.reverse ++ .ref ab :: St) (hroom : (St.map fun v => v.category).sum ≤ 8)
    (hcs : nc0 ≤ rm.cells ∧ ns0 ≤ rm.slots) (kk : ∀ v u, P1 v u → Og wd D tys l rm own b nL ret X nc0 ns0 QQ u (pc + 3) Lc (v.toList ++ St)) : Og wd D tys l rm own b nL ret X nc0 ns0 QQ S pc Lc st0 := by
  intro p e s m args below meth c A H locs ls hF hY
  have hG : GoodIn w_all (wsV own index C y (Cond.code y bc nc rt :: w_all)) := ok_gi (fun w hw => by
    unfold wsV at hw
    rcases List.mem_append.mp hw with h | h
    · simp only [List.mem_cons, List.not_mem_nil, or_false] at h
      rcases h with h | h | h | h <;> subst h
      · exact hws.1
      · exact hws.2.1
      · exact hws.2.2.1
      · exact hws.2.2.2
    · rcases List.mem_cons.mp h with h | h
      · subst h; exact hcode
      · exact h)
  exact ok_after (va_runV (As := As) (rest := St) (C := C) ⟨hF.1.1, hF.1.2.1, hF.1.2.2.2.2.1, hF.1.2.2.2.2.2.1, hF.1.2.2.2.2.2.2.1⟩ (hct H.size) (cwV n hF.1.2.2.2.2.2.2.1 hG rfl hrm.1.1 hrm.1.2 hyd hrm.2) ⟨ok_bl, va_recv hF.1.2.2.2.2.2.2.2 hY.1 hcl hrc, fun U hU hW => ⟨rfl, by rw [hU], by rw [hU]; exact hY.1, va_K.moved hW.alike hF.1.2.2.2.2.2.2.2, hY.2.1.weaken (fun _ _ _ _ => trivial)⟩⟩ rfl hn hY.2.2.2.1.1 hst (lv_room hroom) hd hcs) hF hY kk
theorem ok_cS {y : MethodName} {bc : ByteArray} {nc n index : Nat} {rt : Option FieldType} {rmc : Room} {As : List Value} {P1 : Option Value → σ → Prop} {st0 : List Value} (hct : Ct wd D tys l y bc nc rt rmc As S P1) (hd : decode b pc = .ok (.invokestatic index, 3))
    (hcode : Cond.code y bc nc rt ∈ w_all) (hws : Cond.methodLink own index y ∈ w_all ∧ Cond.static y ∈ w_all ∧ Cond.initialized y.cls ∈ w_all)
    (hyd : y.cls ≠ "java/lang/invoke/MethodHandle" ∧ y.cls ≠ "java/lang/invoke/VarHandle" ∧ (parseMethodDescriptor y.desc).map (fun d => d.parameters.length) = some n) (hrm : (rmc.cells = 0 ∧ rmc.slots = 0) ∧ rmc.frames + 1 ≤ rm.frames ∧ 8 + (nc + 11) + rmc.locals ≤ rm.locals) (hn : As.length = n)
    (hst : st0 = As.reverse ++ St) (hroom : (St.map fun v => v.category).sum ≤ 8)
    (hcs : nc0 ≤ rm.cells ∧ ns0 ≤ rm.slots) (kk : ∀ v u, P1 v u → Og wd D tys l rm own b nL ret X nc0 ns0 QQ u (pc + 3) Lc (v.toList ++ St)) : Og wd D tys l rm own b nL ret X nc0 ns0 QQ S pc Lc st0 := by
  intro p e s m args below meth c A H locs ls hF hY
  have hts := hF.1.2.2.2.2.2.2.1
  have hG : GoodIn w_all (Cond.code y bc nc rt :: w_all) := ok_gi (fun w hw => by
    rcases List.mem_cons.mp hw with h | h
    · subst h; exact hcode
    · exact h)
  exact ok_after (va_runS (As := As) (rest := St) ⟨hF.1.1, hF.1.2.1, hF.1.2.2.2.2.1, hF.1.2.2.2.2.2.1, hts⟩ (hct H.size) ⟨callB_of n hts hG rfl hrm.1.1 hrm.1.2 (hts _ hws.2.2) (hts _ hws.1) hyd hrm.2, hts _ hws.2.1⟩ ⟨ok_bl, fun U hU hW => ⟨rfl, by rw [hU], by rw [hU]; exact hY.1, va_K.moved hW.alike hF.1.2.2.2.2.2.2.2, hY.2.1.weaken (fun _ _ _ _ => trivial)⟩⟩ rfl hn hY.2.2.2.1.1 hst (lv_room hroom) hd hcs) hF hY kk
end OKR
end
section
theorem d_C_isProgrammed_0 : decode b_C_isProgrammed 0 = .ok (.iload_n 1, 1) := by decide +kernel
theorem d_C_isProgrammed_1 : decode b_C_isProgrammed 1 = .ok (.bipush 8, 2) := by decide +kernel
theorem d_C_isProgrammed_3 : decode b_C_isProgrammed 3 = .ok (.irem, 1) := by decide +kernel
theorem d_C_isProgrammed_4 : decode b_C_isProgrammed 4 = .ok (.aload_n 0, 1) := by decide +kernel
theorem d_C_isProgrammed_5 : decode b_C_isProgrammed 5 = .ok (.getfield 22, 3) := by decide +kernel
theorem d_C_isProgrammed_8 : decode b_C_isProgrammed 8 = .ok (.iload_n 1, 1) := by decide +kernel
theorem d_C_isProgrammed_9 : decode b_C_isProgrammed 9 = .ok (.bipush 8, 2) := by decide +kernel
theorem d_C_isProgrammed_11 : decode b_C_isProgrammed 11 = .ok (.idiv, 1) := by decide +kernel
theorem d_C_isProgrammed_12 : decode b_C_isProgrammed 12 = .ok (.iaload, 1) := by decide +kernel
theorem d_C_isProgrammed_13 : decode b_C_isProgrammed 13 = .ok (.if_icmp .ge (7), 3) := by decide +kernel
theorem d_C_isProgrammed_16 : decode b_C_isProgrammed 16 = .ok (.iconst 1, 1) := by decide +kernel
theorem d_C_isProgrammed_17 : decode b_C_isProgrammed 17 = .ok (.goto (4), 3) := by decide +kernel
theorem d_C_isProgrammed_20 : decode b_C_isProgrammed 20 = .ok (.iconst 0, 1) := by decide +kernel
theorem d_C_isProgrammed_21 : decode b_C_isProgrammed 21 = .ok (.ireturn, 1) := by decide +kernel
theorem d_T_isMarked_0 : decode b_T_isMarked 0 = .ok (.iload_n 0, 1) := by decide +kernel
theorem d_T_isMarked_1 : decode b_T_isMarked 1 = .ok (.sipush 256, 3) := by decide +kernel
theorem d_T_isMarked_4 : decode b_T_isMarked 4 = .ok (.iand, 1) := by decide +kernel
theorem d_T_isMarked_5 : decode b_T_isMarked 5 = .ok (.ifCond .eq (7), 3) := by decide +kernel
theorem d_T_isMarked_8 : decode b_T_isMarked 8 = .ok (.iconst 1, 1) := by decide +kernel
theorem d_T_isMarked_9 : decode b_T_isMarked 9 = .ok (.goto (4), 3) := by decide +kernel
theorem d_T_isMarked_12 : decode b_T_isMarked 12 = .ok (.iconst 0, 1) := by decide +kernel
theorem d_T_isMarked_13 : decode b_T_isMarked 13 = .ok (.ireturn, 1) := by decide +kernel
theorem d_C_isLive_0 : decode b_C_isLive 0 = .ok (.aload_n 0, 1) := by decide +kernel
theorem d_C_isLive_1 : decode b_C_isLive 1 = .ok (.iload_n 1, 1) := by decide +kernel
theorem d_C_isLive_2 : decode b_C_isLive 2 = .ok (.invokevirtual 49, 3) := by decide +kernel
theorem d_C_isLive_5 : decode b_C_isLive 5 = .ok (.ifCond .eq (19), 3) := by decide +kernel
theorem d_C_isLive_8 : decode b_C_isLive 8 = .ok (.aload_n 0, 1) := by decide +kernel
theorem d_C_isLive_9 : decode b_C_isLive 9 = .ok (.getfield 9, 3) := by decide +kernel
theorem d_C_isLive_12 : decode b_C_isLive 12 = .ok (.iload_n 1, 1) := by decide +kernel
theorem d_C_isLive_13 : decode b_C_isLive 13 = .ok (.iaload, 1) := by decide +kernel
theorem d_C_isLive_14 : decode b_C_isLive 14 = .ok (.invokestatic 53, 3) := by decide +kernel
theorem d_C_isLive_17 : decode b_C_isLive 17 = .ok (.ifCond .ne (7), 3) := by decide +kernel
theorem d_C_isLive_20 : decode b_C_isLive 20 = .ok (.iconst 1, 1) := by decide +kernel
theorem d_C_isLive_21 : decode b_C_isLive 21 = .ok (.goto (4), 3) := by decide +kernel
theorem d_C_isLive_24 : decode b_C_isLive 24 = .ok (.iconst 0, 1) := by decide +kernel
theorem d_C_isLive_25 : decode b_C_isLive 25 = .ok (.ireturn, 1) := by decide +kernel
theorem d_T_ofChunk_0 : decode b_T_ofChunk 0 = .ok (.iload_n 0, 1) := by decide +kernel
theorem d_T_ofChunk_1 : decode b_T_ofChunk 1 = .ok (.bipush 8, 2) := by decide +kernel
theorem d_T_ofChunk_3 : decode b_T_ofChunk 3 = .ok (.iload_n 1, 1) := by decide +kernel
theorem d_T_ofChunk_4 : decode b_T_ofChunk 4 = .ok (.imul, 1) := by decide +kernel
theorem d_T_ofChunk_5 : decode b_T_ofChunk 5 = .ok (.iadd, 1) := by decide +kernel
theorem d_T_ofChunk_6 : decode b_T_ofChunk 6 = .ok (.ireturn, 1) := by decide +kernel
theorem d_T_areOf_0 : decode b_T_areOf 0 = .ok (.iload_n 0, 1) := by decide +kernel
theorem d_T_areOf_1 : decode b_T_areOf 1 = .ok (.bipush 63, 2) := by decide +kernel
theorem d_T_areOf_3 : decode b_T_areOf 3 = .ok (.iand, 1) := by decide +kernel
theorem d_T_areOf_4 : decode b_T_areOf 4 = .ok (.iload_n 1, 1) := by decide +kernel
theorem d_T_areOf_5 : decode b_T_areOf 5 = .ok (.iload_n 2, 1) := by decide +kernel
theorem d_T_areOf_6 : decode b_T_areOf 6 = .ok (.invokestatic 10, 3) := by decide +kernel
theorem d_T_areOf_9 : decode b_T_areOf 9 = .ok (.if_icmp .ne (7), 3) := by decide +kernel
theorem d_T_areOf_12 : decode b_T_areOf 12 = .ok (.iconst 1, 1) := by decide +kernel
theorem d_T_areOf_13 : decode b_T_areOf 13 = .ok (.goto (4), 3) := by decide +kernel
theorem d_T_areOf_16 : decode b_T_areOf 16 = .ok (.iconst 0, 1) := by decide +kernel
theorem d_T_areOf_17 : decode b_T_areOf 17 = .ok (.ireturn, 1) := by decide +kernel
theorem d_C_livePage_0 : decode b_C_livePage 0 = .ok (.iconst 0, 1) := by decide +kernel
theorem d_C_livePage_1 : decode b_C_livePage 1 = .ok (.istore_n 3, 1) := by decide +kernel
theorem d_C_livePage_2 : decode b_C_livePage 2 = .ok (.iload_n 3, 1) := by decide +kernel
theorem d_C_livePage_3 : decode b_C_livePage 3 = .ok (.bipush 48, 2) := by decide +kernel
theorem d_C_livePage_5 : decode b_C_livePage 5 = .ok (.if_icmp .ge (33), 3) := by decide +kernel
theorem d_C_livePage_8 : decode b_C_livePage 8 = .ok (.aload_n 0, 1) := by decide +kernel
theorem d_C_livePage_9 : decode b_C_livePage 9 = .ok (.iload_n 3, 1) := by decide +kernel
theorem d_C_livePage_10 : decode b_C_livePage 10 = .ok (.invokevirtual 69, 3) := by decide +kernel
theorem d_C_livePage_13 : decode b_C_livePage 13 = .ok (.ifCond .eq (19), 3) := by decide +kernel
theorem d_C_livePage_16 : decode b_C_livePage 16 = .ok (.aload_n 0, 1) := by decide +kernel
theorem d_C_livePage_17 : decode b_C_livePage 17 = .ok (.getfield 9, 3) := by decide +kernel
theorem d_C_livePage_20 : decode b_C_livePage 20 = .ok (.iload_n 3, 1) := by decide +kernel
theorem d_C_livePage_21 : decode b_C_livePage 21 = .ok (.iaload, 1) := by decide +kernel
theorem d_C_livePage_22 : decode b_C_livePage 22 = .ok (.iload_n 1, 1) := by decide +kernel
theorem d_C_livePage_23 : decode b_C_livePage 23 = .ok (.iload_n 2, 1) := by decide +kernel
theorem d_C_livePage_24 : decode b_C_livePage 24 = .ok (.invokestatic 72, 3) := by decide +kernel
theorem d_C_livePage_27 : decode b_C_livePage 27 = .ok (.ifCond .eq (5), 3) := by decide +kernel
theorem d_C_livePage_30 : decode b_C_livePage 30 = .ok (.iload_n 3, 1) := by decide +kernel
theorem d_C_livePage_31 : decode b_C_livePage 31 = .ok (.ireturn, 1) := by decide +kernel
theorem d_C_livePage_32 : decode b_C_livePage 32 = .ok (.iinc 3 (1), 3) := by decide +kernel
theorem d_C_livePage_35 : decode b_C_livePage 35 = .ok (.goto (-33), 3) := by decide +kernel
theorem d_C_livePage_38 : decode b_C_livePage 38 = .ok (.iconst (-1), 1) := by decide +kernel
theorem d_C_livePage_39 : decode b_C_livePage 39 = .ok (.ireturn, 1) := by decide +kernel
theorem d_S_isThere_0 : decode b_S_isThere 0 = .ok (.iload_n 1, 1) := by decide +kernel
theorem d_S_isThere_1 : decode b_S_isThere 1 = .ok (.ifCond .le (26), 3) := by decide +kernel
theorem d_S_isThere_4 : decode b_S_isThere 4 = .ok (.iload_n 1, 1) := by decide +kernel
theorem d_S_isThere_5 : decode b_S_isThere 5 = .ok (.bipush 7, 2) := by decide +kernel
theorem d_S_isThere_7 : decode b_S_isThere 7 = .ok (.if_icmp .gt (20), 3) := by decide +kernel
theorem d_S_isThere_10 : decode b_S_isThere 10 = .ok (.aload_n 0, 1) := by decide +kernel
theorem d_S_isThere_11 : decode b_S_isThere 11 = .ok (.getfield 12, 3) := by decide +kernel
theorem d_S_isThere_14 : decode b_S_isThere 14 = .ok (.iload_n 1, 1) := by decide +kernel
theorem d_S_isThere_15 : decode b_S_isThere 15 = .ok (.iconst 0, 1) := by decide +kernel
theorem d_S_isThere_16 : decode b_S_isThere 16 = .ok (.invokevirtual 61, 3) := by decide +kernel
theorem d_S_isThere_19 : decode b_S_isThere 19 = .ok (.iconst (-1), 1) := by decide +kernel
theorem d_S_isThere_20 : decode b_S_isThere 20 = .ok (.if_icmp .eq (7), 3) := by decide +kernel
theorem d_S_isThere_23 : decode b_S_isThere 23 = .ok (.iconst 1, 1) := by decide +kernel
theorem d_S_isThere_24 : decode b_S_isThere 24 = .ok (.goto (4), 3) := by decide +kernel
theorem d_S_isThere_27 : decode b_S_isThere 27 = .ok (.iconst 0, 1) := by decide +kernel
theorem d_S_isThere_28 : decode b_S_isThere 28 = .ok (.ireturn, 1) := by decide +kernel
theorem d_S_lowestAbsentObject_0 : decode b_S_lowestAbsentObject 0 = .ok (.iconst 1, 1) := by decide +kernel
theorem d_S_lowestAbsentObject_1 : decode b_S_lowestAbsentObject 1 = .ok (.istore_n 1, 1) := by decide +kernel
theorem d_S_lowestAbsentObject_2 : decode b_S_lowestAbsentObject 2 = .ok (.iload_n 1, 1) := by decide +kernel
theorem d_S_lowestAbsentObject_3 : decode b_S_lowestAbsentObject 3 = .ok (.bipush 7, 2) := by decide +kernel
theorem d_S_lowestAbsentObject_5 : decode b_S_lowestAbsentObject 5 = .ok (.if_icmp .gt (19), 3) := by decide +kernel
theorem d_S_lowestAbsentObject_8 : decode b_S_lowestAbsentObject 8 = .ok (.aload_n 0, 1) := by decide +kernel
theorem d_S_lowestAbsentObject_9 : decode b_S_lowestAbsentObject 9 = .ok (.iload_n 1, 1) := by decide +kernel
theorem d_S_lowestAbsentObject_10 : decode b_S_lowestAbsentObject 10 = .ok (.invokevirtual 94, 3) := by decide +kernel
theorem d_S_lowestAbsentObject_13 : decode b_S_lowestAbsentObject 13 = .ok (.ifCond .ne (5), 3) := by decide +kernel
theorem d_S_lowestAbsentObject_16 : decode b_S_lowestAbsentObject 16 = .ok (.iload_n 1, 1) := by decide +kernel
theorem d_S_lowestAbsentObject_17 : decode b_S_lowestAbsentObject 17 = .ok (.ireturn, 1) := by decide +kernel
theorem d_S_lowestAbsentObject_18 : decode b_S_lowestAbsentObject 18 = .ok (.iinc 1 (1), 3) := by decide +kernel
theorem d_S_lowestAbsentObject_21 : decode b_S_lowestAbsentObject 21 = .ok (.goto (-19), 3) := by decide +kernel
theorem d_S_lowestAbsentObject_24 : decode b_S_lowestAbsentObject 24 = .ok (.iconst (-1), 1) := by decide +kernel
theorem d_S_lowestAbsentObject_25 : decode b_S_lowestAbsentObject 25 = .ok (.ireturn, 1) := by decide +kernel
theorem d_C_countFree_0 : decode b_C_countFree 0 = .ok (.iconst 0, 1) := by decide +kernel
theorem d_C_countFree_1 : decode b_C_countFree 1 = .ok (.istore_n 1, 1) := by decide +kernel
theorem d_C_countFree_2 : decode b_C_countFree 2 = .ok (.iconst 0, 1) := by decide +kernel
theorem d_C_countFree_3 : decode b_C_countFree 3 = .ok (.istore_n 2, 1) := by decide +kernel
theorem d_C_countFree_4 : decode b_C_countFree 4 = .ok (.iload_n 2, 1) := by decide +kernel
theorem d_C_countFree_5 : decode b_C_countFree 5 = .ok (.bipush 6, 2) := by decide +kernel
theorem d_C_countFree_7 : decode b_C_countFree 7 = .ok (.if_icmp .ge (30), 3) := by decide +kernel
theorem d_C_countFree_10 : decode b_C_countFree 10 = .ok (.aload_n 0, 1) := by decide +kernel
theorem d_C_countFree_11 : decode b_C_countFree 11 = .ok (.getfield 32, 3) := by decide +kernel
theorem d_C_countFree_14 : decode b_C_countFree 14 = .ok (.iload_n 2, 1) := by decide +kernel
theorem d_C_countFree_15 : decode b_C_countFree 15 = .ok (.baload, 1) := by decide +kernel
theorem d_C_countFree_16 : decode b_C_countFree 16 = .ok (.ifCond .ne (15), 3) := by decide +kernel
theorem d_C_countFree_19 : decode b_C_countFree 19 = .ok (.iload_n 1, 1) := by decide +kernel
theorem d_C_countFree_20 : decode b_C_countFree 20 = .ok (.bipush 8, 2) := by decide +kernel
theorem d_C_countFree_22 : decode b_C_countFree 22 = .ok (.aload_n 0, 1) := by decide +kernel
theorem d_C_countFree_23 : decode b_C_countFree 23 = .ok (.getfield 22, 3) := by decide +kernel
theorem d_C_countFree_26 : decode b_C_countFree 26 = .ok (.iload_n 2, 1) := by decide +kernel
theorem d_C_countFree_27 : decode b_C_countFree 27 = .ok (.iaload, 1) := by decide +kernel
theorem d_C_countFree_28 : decode b_C_countFree 28 = .ok (.isub, 1) := by decide +kernel
theorem d_C_countFree_29 : decode b_C_countFree 29 = .ok (.iadd, 1) := by decide +kernel
theorem d_C_countFree_30 : decode b_C_countFree 30 = .ok (.istore_n 1, 1) := by decide +kernel
theorem d_C_countFree_31 : decode b_C_countFree 31 = .ok (.iinc 2 (1), 3) := by decide +kernel
theorem d_C_countFree_34 : decode b_C_countFree 34 = .ok (.goto (-30), 3) := by decide +kernel
theorem d_C_countFree_37 : decode b_C_countFree 37 = .ok (.iload_n 1, 1) := by decide +kernel
theorem d_C_countFree_38 : decode b_C_countFree 38 = .ok (.ireturn, 1) := by decide +kernel
theorem d_C_countLiveIn_0 : decode b_C_countLiveIn 0 = .ok (.iconst 0, 1) := by decide +kernel
theorem d_C_countLiveIn_1 : decode b_C_countLiveIn 1 = .ok (.istore_n 2, 1) := by decide +kernel
theorem d_C_countLiveIn_2 : decode b_C_countLiveIn 2 = .ok (.iload_n 1, 1) := by decide +kernel
theorem d_C_countLiveIn_3 : decode b_C_countLiveIn 3 = .ok (.bipush 8, 2) := by decide +kernel
theorem d_C_countLiveIn_5 : decode b_C_countLiveIn 5 = .ok (.imul, 1) := by decide +kernel
theorem d_C_countLiveIn_6 : decode b_C_countLiveIn 6 = .ok (.istore_n 3, 1) := by decide +kernel
theorem d_C_countLiveIn_7 : decode b_C_countLiveIn 7 = .ok (.iload_n 3, 1) := by decide +kernel
theorem d_C_countLiveIn_8 : decode b_C_countLiveIn 8 = .ok (.istore 4, 2) := by decide +kernel
theorem d_C_countLiveIn_10 : decode b_C_countLiveIn 10 = .ok (.iload 4, 2) := by decide +kernel
theorem d_C_countLiveIn_12 : decode b_C_countLiveIn 12 = .ok (.iload_n 3, 1) := by decide +kernel
theorem d_C_countLiveIn_13 : decode b_C_countLiveIn 13 = .ok (.bipush 8, 2) := by decide +kernel
theorem d_C_countLiveIn_15 : decode b_C_countLiveIn 15 = .ok (.iadd, 1) := by decide +kernel
theorem d_C_countLiveIn_16 : decode b_C_countLiveIn 16 = .ok (.if_icmp .ge (21), 3) := by decide +kernel
theorem d_C_countLiveIn_19 : decode b_C_countLiveIn 19 = .ok (.aload_n 0, 1) := by decide +kernel
theorem d_C_countLiveIn_20 : decode b_C_countLiveIn 20 = .ok (.iload 4, 2) := by decide +kernel
theorem d_C_countLiveIn_22 : decode b_C_countLiveIn 22 = .ok (.invokevirtual 69, 3) := by decide +kernel
theorem d_C_countLiveIn_25 : decode b_C_countLiveIn 25 = .ok (.ifCond .eq (6), 3) := by decide +kernel
theorem d_C_countLiveIn_28 : decode b_C_countLiveIn 28 = .ok (.iinc 2 (1), 3) := by decide +kernel
theorem d_C_countLiveIn_31 : decode b_C_countLiveIn 31 = .ok (.iinc 4 (1), 3) := by decide +kernel
theorem d_C_countLiveIn_34 : decode b_C_countLiveIn 34 = .ok (.goto (-24), 3) := by decide +kernel
theorem d_C_countLiveIn_37 : decode b_C_countLiveIn 37 = .ok (.iload_n 2, 1) := by decide +kernel
theorem d_C_countLiveIn_38 : decode b_C_countLiveIn 38 = .ok (.ireturn, 1) := by decide +kernel
theorem d_S_blockToCollect_0 : decode b_S_blockToCollect 0 = .ok (.iconst (-1), 1) := by decide +kernel
theorem d_S_blockToCollect_1 : decode b_S_blockToCollect 1 = .ok (.istore_n 1, 1) := by decide +kernel
theorem d_S_blockToCollect_2 : decode b_S_blockToCollect 2 = .ok (.bipush 8, 2) := by decide +kernel
theorem d_S_blockToCollect_4 : decode b_S_blockToCollect 4 = .ok (.istore_n 2, 1) := by decide +kernel
theorem d_S_blockToCollect_5 : decode b_S_blockToCollect 5 = .ok (.aload_n 0, 1) := by decide +kernel
theorem d_S_blockToCollect_6 : decode b_S_blockToCollect 6 = .ok (.getfield 12, 3) := by decide +kernel
theorem d_S_blockToCollect_9 : decode b_S_blockToCollect 9 = .ok (.invokevirtual 158, 3) := by decide +kernel
theorem d_S_blockToCollect_12 : decode b_S_blockToCollect 12 = .ok (.istore_n 3, 1) := by decide +kernel
theorem d_S_blockToCollect_13 : decode b_S_blockToCollect 13 = .ok (.iconst 0, 1) := by decide +kernel
theorem d_S_blockToCollect_14 : decode b_S_blockToCollect 14 = .ok (.istore 4, 2) := by decide +kernel
theorem d_S_blockToCollect_16 : decode b_S_blockToCollect 16 = .ok (.iload 4, 2) := by decide +kernel
theorem d_S_blockToCollect_18 : decode b_S_blockToCollect 18 = .ok (.bipush 6, 2) := by decide +kernel
theorem d_S_blockToCollect_20 : decode b_S_blockToCollect 20 = .ok (.if_icmp .ge (69), 3) := by decide +kernel
theorem d_S_blockToCollect_23 : decode b_S_blockToCollect 23 = .ok (.aload_n 0, 1) := by decide +kernel
theorem d_S_blockToCollect_24 : decode b_S_blockToCollect 24 = .ok (.getfield 12, 3) := by decide +kernel
theorem d_S_blockToCollect_27 : decode b_S_blockToCollect 27 = .ok (.getfield 145, 3) := by decide +kernel
theorem d_S_blockToCollect_30 : decode b_S_blockToCollect 30 = .ok (.iload 4, 2) := by decide +kernel
theorem d_S_blockToCollect_32 : decode b_S_blockToCollect 32 = .ok (.baload, 1) := by decide +kernel
theorem d_S_blockToCollect_33 : decode b_S_blockToCollect 33 = .ok (.ifCond .ne (50), 3) := by decide +kernel
theorem d_S_blockToCollect_36 : decode b_S_blockToCollect 36 = .ok (.aload_n 0, 1) := by decide +kernel
theorem d_S_blockToCollect_37 : decode b_S_blockToCollect 37 = .ok (.getfield 12, 3) := by decide +kernel
theorem d_S_blockToCollect_40 : decode b_S_blockToCollect 40 = .ok (.getfield 210, 3) := by decide +kernel
theorem d_S_blockToCollect_43 : decode b_S_blockToCollect 43 = .ok (.iload 4, 2) := by decide +kernel
theorem d_S_blockToCollect_45 : decode b_S_blockToCollect 45 = .ok (.iaload, 1) := by decide +kernel
theorem d_S_blockToCollect_46 : decode b_S_blockToCollect 46 = .ok (.bipush 8, 2) := by decide +kernel
theorem d_S_blockToCollect_48 : decode b_S_blockToCollect 48 = .ok (.if_icmp .ge (6), 3) := by decide +kernel
theorem d_S_blockToCollect_51 : decode b_S_blockToCollect 51 = .ok (.goto (32), 3) := by decide +kernel
theorem d_S_blockToCollect_54 : decode b_S_blockToCollect 54 = .ok (.aload_n 0, 1) := by decide +kernel
theorem d_S_blockToCollect_55 : decode b_S_blockToCollect 55 = .ok (.getfield 12, 3) := by decide +kernel
theorem d_S_blockToCollect_58 : decode b_S_blockToCollect 58 = .ok (.iload 4, 2) := by decide +kernel
theorem d_S_blockToCollect_60 : decode b_S_blockToCollect 60 = .ok (.invokevirtual 213, 3) := by decide +kernel
theorem d_S_blockToCollect_63 : decode b_S_blockToCollect 63 = .ok (.istore 5, 2) := by decide +kernel
theorem d_S_blockToCollect_65 : decode b_S_blockToCollect 65 = .ok (.iload 5, 2) := by decide +kernel
theorem d_S_blockToCollect_67 : decode b_S_blockToCollect 67 = .ok (.iload_n 2, 1) := by decide +kernel
theorem d_S_blockToCollect_68 : decode b_S_blockToCollect 68 = .ok (.if_icmp .ge (15), 3) := by decide +kernel
theorem d_S_blockToCollect_71 : decode b_S_blockToCollect 71 = .ok (.iload 5, 2) := by decide +kernel
theorem d_S_blockToCollect_73 : decode b_S_blockToCollect 73 = .ok (.iload_n 3, 1) := by decide +kernel
theorem d_S_blockToCollect_74 : decode b_S_blockToCollect 74 = .ok (.if_icmp .gt (9), 3) := by decide +kernel
theorem d_S_blockToCollect_77 : decode b_S_blockToCollect 77 = .ok (.iload 4, 2) := by decide +kernel
theorem d_S_blockToCollect_79 : decode b_S_blockToCollect 79 = .ok (.istore_n 1, 1) := by decide +kernel
theorem d_S_blockToCollect_80 : decode b_S_blockToCollect 80 = .ok (.iload 5, 2) := by decide +kernel
theorem d_S_blockToCollect_82 : decode b_S_blockToCollect 82 = .ok (.istore_n 2, 1) := by decide +kernel
theorem d_S_blockToCollect_83 : decode b_S_blockToCollect 83 = .ok (.iinc 4 (1), 3) := by decide +kernel
theorem d_S_blockToCollect_86 : decode b_S_blockToCollect 86 = .ok (.goto (-70), 3) := by decide +kernel
theorem d_S_blockToCollect_89 : decode b_S_blockToCollect 89 = .ok (.iload_n 1, 1) := by decide +kernel
theorem d_S_blockToCollect_90 : decode b_S_blockToCollect 90 = .ok (.ireturn, 1) := by decide +kernel
theorem d_C_takeStep_0 : decode b_C_takeStep 0 = .ok (.aload_n 0, 1) := by decide +kernel
theorem d_C_takeStep_1 : decode b_C_takeStep 1 = .ok (.getfield 46, 3) := by decide +kernel
theorem d_C_takeStep_4 : decode b_C_takeStep 4 = .ok (.ifCond .ne (10), 3) := by decide +kernel
theorem d_C_takeStep_7 : decode b_C_takeStep 7 = .ok (.aload_n 0, 1) := by decide +kernel
theorem d_C_takeStep_8 : decode b_C_takeStep 8 = .ok (.iconst (-1), 1) := by decide +kernel
theorem d_C_takeStep_9 : decode b_C_takeStep 9 = .ok (.putfield 46, 3) := by decide +kernel
theorem d_C_takeStep_12 : decode b_C_takeStep 12 = .ok (.iconst 0, 1) := by decide +kernel
theorem d_C_takeStep_13 : decode b_C_takeStep 13 = .ok (.ireturn, 1) := by decide +kernel
theorem d_C_takeStep_14 : decode b_C_takeStep 14 = .ok (.aload_n 0, 1) := by decide +kernel
theorem d_C_takeStep_15 : decode b_C_takeStep 15 = .ok (.getfield 46, 3) := by decide +kernel
theorem d_C_takeStep_18 : decode b_C_takeStep 18 = .ok (.ifCond .le (13), 3) := by decide +kernel
theorem d_C_takeStep_21 : decode b_C_takeStep 21 = .ok (.aload_n 0, 1) := by decide +kernel
theorem d_C_takeStep_22 : decode b_C_takeStep 22 = .ok (.dup, 1) := by decide +kernel
theorem d_C_takeStep_23 : decode b_C_takeStep 23 = .ok (.getfield 46, 3) := by decide +kernel
theorem d_C_takeStep_26 : decode b_C_takeStep 26 = .ok (.iconst 1, 1) := by decide +kernel
theorem d_C_takeStep_27 : decode b_C_takeStep 27 = .ok (.isub, 1) := by decide +kernel
theorem d_C_takeStep_28 : decode b_C_takeStep 28 = .ok (.putfield 46, 3) := by decide +kernel
theorem d_C_takeStep_31 : decode b_C_takeStep 31 = .ok (.aload_n 0, 1) := by decide +kernel
theorem d_C_takeStep_32 : decode b_C_takeStep 32 = .ok (.dup, 1) := by decide +kernel
theorem d_C_takeStep_33 : decode b_C_takeStep 33 = .ok (.getfield 42, 3) := by decide +kernel
theorem d_C_takeStep_36 : decode b_C_takeStep 36 = .ok (.iconst 1, 1) := by decide +kernel
theorem d_C_takeStep_37 : decode b_C_takeStep 37 = .ok (.iadd, 1) := by decide +kernel
theorem d_C_takeStep_38 : decode b_C_takeStep 38 = .ok (.putfield 42, 3) := by decide +kernel
theorem d_C_takeStep_41 : decode b_C_takeStep 41 = .ok (.iconst 1, 1) := by decide +kernel
theorem d_C_takeStep_42 : decode b_C_takeStep 42 = .ok (.ireturn, 1) := by decide +kernel
theorem d_C_erase_0 : decode b_C_erase 0 = .ok (.aload_n 0, 1) := by decide +kernel
theorem d_C_erase_1 : decode b_C_erase 1 = .ok (.invokevirtual 91, 3) := by decide +kernel
theorem d_C_erase_4 : decode b_C_erase 4 = .ok (.ifCond .ne (5), 3) := by decide +kernel
theorem d_C_erase_7 : decode b_C_erase 7 = .ok (.iconst 0, 1) := by decide +kernel
theorem d_C_erase_8 : decode b_C_erase 8 = .ok (.ireturn, 1) := by decide +kernel
theorem d_C_erase_9 : decode b_C_erase 9 = .ok (.aload_n 0, 1) := by decide +kernel
theorem d_C_erase_10 : decode b_C_erase 10 = .ok (.getfield 28, 3) := by decide +kernel
theorem d_C_erase_13 : decode b_C_erase 13 = .ok (.iload_n 1, 1) := by decide +kernel
theorem d_C_erase_14 : decode b_C_erase 14 = .ok (.baload, 1) := by decide +kernel
theorem d_C_erase_15 : decode b_C_erase 15 = .ok (.ifCond .eq (13), 3) := by decide +kernel
theorem d_C_erase_18 : decode b_C_erase 18 = .ok (.aload_n 0, 1) := by decide +kernel
theorem d_C_erase_19 : decode b_C_erase 19 = .ok (.getfield 32, 3) := by decide +kernel
theorem d_C_erase_22 : decode b_C_erase 22 = .ok (.iload_n 1, 1) := by decide +kernel
theorem d_C_erase_23 : decode b_C_erase 23 = .ok (.iconst 1, 1) := by decide +kernel
theorem d_C_erase_24 : decode b_C_erase 24 = .ok (.bastore, 1) := by decide +kernel
theorem d_C_erase_25 : decode b_C_erase 25 = .ok (.goto (20), 3) := by decide +kernel
theorem d_C_erase_28 : decode b_C_erase 28 = .ok (.aload_n 0, 1) := by decide +kernel
theorem d_C_erase_29 : decode b_C_erase 29 = .ok (.getfield 22, 3) := by decide +kernel
theorem d_C_erase_32 : decode b_C_erase 32 = .ok (.iload_n 1, 1) := by decide +kernel
theorem d_C_erase_33 : decode b_C_erase 33 = .ok (.iconst 0, 1) := by decide +kernel
theorem d_C_erase_34 : decode b_C_erase 34 = .ok (.iastore, 1) := by decide +kernel
theorem d_C_erase_35 : decode b_C_erase 35 = .ok (.aload_n 0, 1) := by decide +kernel
theorem d_C_erase_36 : decode b_C_erase 36 = .ok (.getfield 25, 3) := by decide +kernel
theorem d_C_erase_39 : decode b_C_erase 39 = .ok (.iload_n 1, 1) := by decide +kernel
theorem d_C_erase_40 : decode b_C_erase 40 = .ok (.dup2, 1) := by decide +kernel
theorem d_C_erase_41 : decode b_C_erase 41 = .ok (.iaload, 1) := by decide +kernel
theorem d_C_erase_42 : decode b_C_erase 42 = .ok (.iconst 1, 1) := by decide +kernel
theorem d_C_erase_43 : decode b_C_erase 43 = .ok (.iadd, 1) := by decide +kernel
theorem d_C_erase_44 : decode b_C_erase 44 = .ok (.iastore, 1) := by decide +kernel
theorem d_C_erase_45 : decode b_C_erase 45 = .ok (.aload_n 0, 1) := by decide +kernel
theorem d_C_erase_46 : decode b_C_erase 46 = .ok (.getfield 35, 3) := by decide +kernel
theorem d_C_erase_49 : decode b_C_erase 49 = .ok (.iload_n 1, 1) := by decide +kernel
theorem d_C_erase_50 : decode b_C_erase 50 = .ok (.iconst 1, 1) := by decide +kernel
theorem d_C_erase_51 : decode b_C_erase 51 = .ok (.bastore, 1) := by decide +kernel
theorem d_C_erase_52 : decode b_C_erase 52 = .ok (.iconst 1, 1) := by decide +kernel
theorem d_C_erase_53 : decode b_C_erase 53 = .ok (.ireturn, 1) := by decide +kernel
theorem d_J_bitCount_0 : decode b_J_bitCount 0 = .ok (.lload_n 0, 1) := by decide +kernel
theorem d_J_bitCount_1 : decode b_J_bitCount 1 = .ok (.lload_n 0, 1) := by decide +kernel
theorem d_J_bitCount_2 : decode b_J_bitCount 2 = .ok (.iconst 1, 1) := by decide +kernel
theorem d_J_bitCount_3 : decode b_J_bitCount 3 = .ok (.lushr, 1) := by decide +kernel
theorem d_J_bitCount_4 : decode b_J_bitCount 4 = .ok (.ldc2_w 314, 3) := by decide +kernel
theorem d_J_bitCount_7 : decode b_J_bitCount 7 = .ok (.land, 1) := by decide +kernel
theorem d_J_bitCount_8 : decode b_J_bitCount 8 = .ok (.lsub, 1) := by decide +kernel
theorem d_J_bitCount_9 : decode b_J_bitCount 9 = .ok (.lstore_n 0, 1) := by decide +kernel
theorem d_J_bitCount_10 : decode b_J_bitCount 10 = .ok (.lload_n 0, 1) := by decide +kernel
theorem d_J_bitCount_11 : decode b_J_bitCount 11 = .ok (.ldc2_w 316, 3) := by decide +kernel
theorem d_J_bitCount_14 : decode b_J_bitCount 14 = .ok (.land, 1) := by decide +kernel
theorem d_J_bitCount_15 : decode b_J_bitCount 15 = .ok (.lload_n 0, 1) := by decide +kernel
theorem d_J_bitCount_16 : decode b_J_bitCount 16 = .ok (.iconst 2, 1) := by decide +kernel
theorem d_J_bitCount_17 : decode b_J_bitCount 17 = .ok (.lushr, 1) := by decide +kernel
theorem d_J_bitCount_18 : decode b_J_bitCount 18 = .ok (.ldc2_w 316, 3) := by decide +kernel
theorem d_J_bitCount_21 : decode b_J_bitCount 21 = .ok (.land, 1) := by decide +kernel
theorem d_J_bitCount_22 : decode b_J_bitCount 22 = .ok (.ladd, 1) := by decide +kernel
theorem d_J_bitCount_23 : decode b_J_bitCount 23 = .ok (.lstore_n 0, 1) := by decide +kernel
theorem d_J_bitCount_24 : decode b_J_bitCount 24 = .ok (.lload_n 0, 1) := by decide +kernel
theorem d_J_bitCount_25 : decode b_J_bitCount 25 = .ok (.lload_n 0, 1) := by decide +kernel
theorem d_J_bitCount_26 : decode b_J_bitCount 26 = .ok (.iconst 4, 1) := by decide +kernel
theorem d_J_bitCount_27 : decode b_J_bitCount 27 = .ok (.lushr, 1) := by decide +kernel
theorem d_J_bitCount_28 : decode b_J_bitCount 28 = .ok (.ladd, 1) := by decide +kernel
theorem d_J_bitCount_29 : decode b_J_bitCount 29 = .ok (.ldc2_w 318, 3) := by decide +kernel
theorem d_J_bitCount_32 : decode b_J_bitCount 32 = .ok (.land, 1) := by decide +kernel
theorem d_J_bitCount_33 : decode b_J_bitCount 33 = .ok (.lstore_n 0, 1) := by decide +kernel
theorem d_J_bitCount_34 : decode b_J_bitCount 34 = .ok (.lload_n 0, 1) := by decide +kernel
theorem d_J_bitCount_35 : decode b_J_bitCount 35 = .ok (.lload_n 0, 1) := by decide +kernel
theorem d_J_bitCount_36 : decode b_J_bitCount 36 = .ok (.bipush 8, 2) := by decide +kernel
theorem d_J_bitCount_38 : decode b_J_bitCount 38 = .ok (.lushr, 1) := by decide +kernel
theorem d_J_bitCount_39 : decode b_J_bitCount 39 = .ok (.ladd, 1) := by decide +kernel
theorem d_J_bitCount_40 : decode b_J_bitCount 40 = .ok (.lstore_n 0, 1) := by decide +kernel
theorem d_J_bitCount_41 : decode b_J_bitCount 41 = .ok (.lload_n 0, 1) := by decide +kernel
theorem d_J_bitCount_42 : decode b_J_bitCount 42 = .ok (.lload_n 0, 1) := by decide +kernel
theorem d_J_bitCount_43 : decode b_J_bitCount 43 = .ok (.bipush 16, 2) := by decide +kernel
theorem d_J_bitCount_45 : decode b_J_bitCount 45 = .ok (.lushr, 1) := by decide +kernel
theorem d_J_bitCount_46 : decode b_J_bitCount 46 = .ok (.ladd, 1) := by decide +kernel
theorem d_J_bitCount_47 : decode b_J_bitCount 47 = .ok (.lstore_n 0, 1) := by decide +kernel
theorem d_J_bitCount_48 : decode b_J_bitCount 48 = .ok (.lload_n 0, 1) := by decide +kernel
theorem d_J_bitCount_49 : decode b_J_bitCount 49 = .ok (.lload_n 0, 1) := by decide +kernel
theorem d_J_bitCount_50 : decode b_J_bitCount 50 = .ok (.bipush 32, 2) := by decide +kernel
theorem d_J_bitCount_52 : decode b_J_bitCount 52 = .ok (.lushr, 1) := by decide +kernel
theorem d_J_bitCount_53 : decode b_J_bitCount 53 = .ok (.ladd, 1) := by decide +kernel
theorem d_J_bitCount_54 : decode b_J_bitCount 54 = .ok (.lstore_n 0, 1) := by decide +kernel
theorem d_J_bitCount_55 : decode b_J_bitCount 55 = .ok (.lload_n 0, 1) := by decide +kernel
theorem d_J_bitCount_56 : decode b_J_bitCount 56 = .ok (.l2i, 1) := by decide +kernel
theorem d_J_bitCount_57 : decode b_J_bitCount 57 = .ok (.bipush 127, 2) := by decide +kernel
theorem d_J_bitCount_59 : decode b_J_bitCount 59 = .ok (.iand, 1) := by decide +kernel
theorem d_J_bitCount_60 : decode b_J_bitCount 60 = .ok (.ireturn, 1) := by decide +kernel
theorem d_C_isUnreadable_0 : decode b_C_isUnreadable 0 = .ok (.aload_n 0, 1) := by decide +kernel
theorem d_C_isUnreadable_1 : decode b_C_isUnreadable 1 = .ok (.getfield 18, 3) := by decide +kernel
theorem d_C_isUnreadable_4 : decode b_C_isUnreadable 4 = .ok (.iload_n 1, 1) := by decide +kernel
theorem d_C_isUnreadable_5 : decode b_C_isUnreadable 5 = .ok (.laload, 1) := by decide +kernel
theorem d_C_isUnreadable_6 : decode b_C_isUnreadable 6 = .ok (.invokestatic 58, 3) := by decide +kernel
theorem d_C_isUnreadable_9 : decode b_C_isUnreadable 9 = .ok (.iconst 2, 1) := by decide +kernel
theorem d_C_isUnreadable_10 : decode b_C_isUnreadable 10 = .ok (.if_icmp .lt (7), 3) := by decide +kernel
theorem d_C_isUnreadable_13 : decode b_C_isUnreadable 13 = .ok (.iconst 1, 1) := by decide +kernel
theorem d_C_isUnreadable_14 : decode b_C_isUnreadable 14 = .ok (.goto (4), 3) := by decide +kernel
theorem d_C_isUnreadable_17 : decode b_C_isUnreadable 17 = .ok (.iconst 0, 1) := by decide +kernel
theorem d_C_isUnreadable_18 : decode b_C_isUnreadable 18 = .ok (.ireturn, 1) := by decide +kernel
theorem d_C_mark_0 : decode b_C_mark 0 = .ok (.aload_n 0, 1) := by decide +kernel
theorem d_C_mark_1 : decode b_C_mark 1 = .ok (.invokevirtual 91, 3) := by decide +kernel
theorem d_C_mark_4 : decode b_C_mark 4 = .ok (.ifCond .ne (5), 3) := by decide +kernel
theorem d_C_mark_7 : decode b_C_mark 7 = .ok (.iconst 0, 1) := by decide +kernel
theorem d_C_mark_8 : decode b_C_mark 8 = .ok (.ireturn, 1) := by decide +kernel
theorem d_C_mark_9 : decode b_C_mark 9 = .ok (.aload_n 0, 1) := by decide +kernel
theorem d_C_mark_10 : decode b_C_mark 10 = .ok (.getfield 9, 3) := by decide +kernel
theorem d_C_mark_13 : decode b_C_mark 13 = .ok (.iload_n 1, 1) := by decide +kernel
theorem d_C_mark_14 : decode b_C_mark 14 = .ok (.dup2, 1) := by decide +kernel
theorem d_C_mark_15 : decode b_C_mark 15 = .ok (.iaload, 1) := by decide +kernel
theorem d_C_mark_16 : decode b_C_mark 16 = .ok (.sipush 256, 3) := by decide +kernel
theorem d_C_mark_19 : decode b_C_mark 19 = .ok (.ior, 1) := by decide +kernel
theorem d_C_mark_20 : decode b_C_mark 20 = .ok (.iastore, 1) := by decide +kernel
theorem d_C_mark_21 : decode b_C_mark 21 = .ok (.aload_n 0, 1) := by decide +kernel
theorem d_C_mark_22 : decode b_C_mark 22 = .ok (.getfield 35, 3) := by decide +kernel
theorem d_C_mark_25 : decode b_C_mark 25 = .ok (.iload_n 1, 1) := by decide +kernel
theorem d_C_mark_26 : decode b_C_mark 26 = .ok (.bipush 8, 2) := by decide +kernel
theorem d_C_mark_28 : decode b_C_mark 28 = .ok (.idiv, 1) := by decide +kernel
theorem d_C_mark_29 : decode b_C_mark 29 = .ok (.iconst 1, 1) := by decide +kernel
theorem d_C_mark_30 : decode b_C_mark 30 = .ok (.bastore, 1) := by decide +kernel
theorem d_C_mark_31 : decode b_C_mark 31 = .ok (.iconst 1, 1) := by decide +kernel
theorem d_C_mark_32 : decode b_C_mark 32 = .ok (.ireturn, 1) := by decide +kernel
theorem d_C_blockOfNextPage_0 : decode b_C_blockOfNextPage 0 = .ok (.iconst (-1), 1) := by decide +kernel
theorem d_C_blockOfNextPage_1 : decode b_C_blockOfNextPage 1 = .ok (.istore_n 1, 1) := by decide +kernel
theorem d_C_blockOfNextPage_2 : decode b_C_blockOfNextPage 2 = .ok (.iconst 0, 1) := by decide +kernel
theorem d_C_blockOfNextPage_3 : decode b_C_blockOfNextPage 3 = .ok (.istore_n 2, 1) := by decide +kernel
theorem d_C_blockOfNextPage_4 : decode b_C_blockOfNextPage 4 = .ok (.iload_n 2, 1) := by decide +kernel
theorem d_C_blockOfNextPage_5 : decode b_C_blockOfNextPage 5 = .ok (.bipush 6, 2) := by decide +kernel
theorem d_C_blockOfNextPage_7 : decode b_C_blockOfNextPage 7 = .ok (.if_icmp .ge (50), 3) := by decide +kernel
theorem d_C_blockOfNextPage_10 : decode b_C_blockOfNextPage 10 = .ok (.aload_n 0, 1) := by decide +kernel
theorem d_C_blockOfNextPage_11 : decode b_C_blockOfNextPage 11 = .ok (.getfield 32, 3) := by decide +kernel
theorem d_C_blockOfNextPage_14 : decode b_C_blockOfNextPage 14 = .ok (.iload_n 2, 1) := by decide +kernel
theorem d_C_blockOfNextPage_15 : decode b_C_blockOfNextPage 15 = .ok (.baload, 1) := by decide +kernel
theorem d_C_blockOfNextPage_16 : decode b_C_blockOfNextPage 16 = .ok (.ifCond .ne (35), 3) := by decide +kernel
theorem d_C_blockOfNextPage_19 : decode b_C_blockOfNextPage 19 = .ok (.aload_n 0, 1) := by decide +kernel
theorem d_C_blockOfNextPage_20 : decode b_C_blockOfNextPage 20 = .ok (.getfield 22, 3) := by decide +kernel
theorem d_C_blockOfNextPage_23 : decode b_C_blockOfNextPage 23 = .ok (.iload_n 2, 1) := by decide +kernel
theorem d_C_blockOfNextPage_24 : decode b_C_blockOfNextPage 24 = .ok (.iaload, 1) := by decide +kernel
theorem d_C_blockOfNextPage_25 : decode b_C_blockOfNextPage 25 = .ok (.bipush 8, 2) := by decide +kernel
theorem d_C_blockOfNextPage_27 : decode b_C_blockOfNextPage 27 = .ok (.if_icmp .ne (6), 3) := by decide +kernel
theorem d_C_blockOfNextPage_30 : decode b_C_blockOfNextPage 30 = .ok (.goto (21), 3) := by decide +kernel
theorem d_C_blockOfNextPage_33 : decode b_C_blockOfNextPage 33 = .ok (.aload_n 0, 1) := by decide +kernel
theorem d_C_blockOfNextPage_34 : decode b_C_blockOfNextPage 34 = .ok (.getfield 22, 3) := by decide +kernel
theorem d_C_blockOfNextPage_37 : decode b_C_blockOfNextPage 37 = .ok (.iload_n 2, 1) := by decide +kernel
theorem d_C_blockOfNextPage_38 : decode b_C_blockOfNextPage 38 = .ok (.iaload, 1) := by decide +kernel
theorem d_C_blockOfNextPage_39 : decode b_C_blockOfNextPage 39 = .ok (.ifCond .le (5), 3) := by decide +kernel
theorem d_C_blockOfNextPage_42 : decode b_C_blockOfNextPage 42 = .ok (.iload_n 2, 1) := by decide +kernel
theorem d_C_blockOfNextPage_43 : decode b_C_blockOfNextPage 43 = .ok (.ireturn, 1) := by decide +kernel
theorem d_C_blockOfNextPage_44 : decode b_C_blockOfNextPage 44 = .ok (.iload_n 1, 1) := by decide +kernel
theorem d_C_blockOfNextPage_45 : decode b_C_blockOfNextPage 45 = .ok (.iconst (-1), 1) := by decide +kernel
theorem d_C_blockOfNextPage_46 : decode b_C_blockOfNextPage 46 = .ok (.if_icmp .ne (5), 3) := by decide +kernel
theorem d_C_blockOfNextPage_49 : decode b_C_blockOfNextPage 49 = .ok (.iload_n 2, 1) := by decide +kernel
theorem d_C_blockOfNextPage_50 : decode b_C_blockOfNextPage 50 = .ok (.istore_n 1, 1) := by decide +kernel
theorem d_C_blockOfNextPage_51 : decode b_C_blockOfNextPage 51 = .ok (.iinc 2 (1), 3) := by decide +kernel
theorem d_C_blockOfNextPage_54 : decode b_C_blockOfNextPage 54 = .ok (.goto (-50), 3) := by decide +kernel
theorem d_C_blockOfNextPage_57 : decode b_C_blockOfNextPage 57 = .ok (.iload_n 1, 1) := by decide +kernel
theorem d_C_blockOfNextPage_58 : decode b_C_blockOfNextPage 58 = .ok (.ireturn, 1) := by decide +kernel
end
section
theorem d_C_program_0 : decode b_C_program 0 = .ok (.aload_n 0, 1) := by decide +kernel
theorem d_C_program_1 : decode b_C_program 1 = .ok (.invokevirtual 87, 3) := by decide +kernel
theorem d_C_program_4 : decode b_C_program 4 = .ok (.istore 5, 2) := by decide +kernel
theorem d_C_program_6 : decode b_C_program 6 = .ok (.iload 5, 2) := by decide +kernel
theorem d_C_program_8 : decode b_C_program 8 = .ok (.iconst (-1), 1) := by decide +kernel
theorem d_C_program_9 : decode b_C_program 9 = .ok (.if_icmp .eq (10), 3) := by decide +kernel
theorem d_C_program_12 : decode b_C_program 12 = .ok (.aload_n 0, 1) := by decide +kernel
theorem d_C_program_13 : decode b_C_program 13 = .ok (.invokevirtual 91, 3) := by decide +kernel
theorem d_C_program_16 : decode b_C_program 16 = .ok (.ifCond .ne (5), 3) := by decide +kernel
theorem d_C_program_19 : decode b_C_program 19 = .ok (.iconst 0, 1) := by decide +kernel
theorem d_C_program_20 : decode b_C_program 20 = .ok (.ireturn, 1) := by decide +kernel
theorem d_C_program_21 : decode b_C_program 21 = .ok (.iload 5, 2) := by decide +kernel
theorem d_C_program_23 : decode b_C_program 23 = .ok (.bipush 8, 2) := by decide +kernel
theorem d_C_program_25 : decode b_C_program 25 = .ok (.imul, 1) := by decide +kernel
theorem d_C_program_26 : decode b_C_program 26 = .ok (.aload_n 0, 1) := by decide +kernel
theorem d_C_program_27 : decode b_C_program 27 = .ok (.getfield 22, 3) := by decide +kernel
theorem d_C_program_30 : decode b_C_program 30 = .ok (.iload 5, 2) := by decide +kernel
theorem d_C_program_32 : decode b_C_program 32 = .ok (.iaload, 1) := by decide +kernel
theorem d_C_program_33 : decode b_C_program 33 = .ok (.iadd, 1) := by decide +kernel
theorem d_C_program_34 : decode b_C_program 34 = .ok (.istore 6, 2) := by decide +kernel
theorem d_C_program_36 : decode b_C_program 36 = .ok (.aload_n 0, 1) := by decide +kernel
theorem d_C_program_37 : decode b_C_program 37 = .ok (.getfield 9, 3) := by decide +kernel
theorem d_C_program_40 : decode b_C_program 40 = .ok (.iload 6, 2) := by decide +kernel
theorem d_C_program_42 : decode b_C_program 42 = .ok (.iload_n 1, 1) := by decide +kernel
theorem d_C_program_43 : decode b_C_program 43 = .ok (.iastore, 1) := by decide +kernel
theorem d_C_program_44 : decode b_C_program 44 = .ok (.aload_n 0, 1) := by decide +kernel
theorem d_C_program_45 : decode b_C_program 45 = .ok (.getfield 15, 3) := by decide +kernel
theorem d_C_program_48 : decode b_C_program 48 = .ok (.iload 6, 2) := by decide +kernel
theorem d_C_program_50 : decode b_C_program 50 = .ok (.iload_n 2, 1) := by decide +kernel
theorem d_C_program_51 : decode b_C_program 51 = .ok (.iastore, 1) := by decide +kernel
theorem d_C_program_52 : decode b_C_program 52 = .ok (.aload_n 0, 1) := by decide +kernel
theorem d_C_program_53 : decode b_C_program 53 = .ok (.getfield 18, 3) := by decide +kernel
theorem d_C_program_56 : decode b_C_program 56 = .ok (.iload 6, 2) := by decide +kernel
theorem d_C_program_58 : decode b_C_program 58 = .ok (.lload_n 3, 1) := by decide +kernel
theorem d_C_program_59 : decode b_C_program 59 = .ok (.lastore, 1) := by decide +kernel
theorem d_C_program_60 : decode b_C_program 60 = .ok (.aload_n 0, 1) := by decide +kernel
theorem d_C_program_61 : decode b_C_program 61 = .ok (.getfield 22, 3) := by decide +kernel
theorem d_C_program_64 : decode b_C_program 64 = .ok (.iload 5, 2) := by decide +kernel
theorem d_C_program_66 : decode b_C_program 66 = .ok (.dup2, 1) := by decide +kernel
theorem d_C_program_67 : decode b_C_program 67 = .ok (.iaload, 1) := by decide +kernel
theorem d_C_program_68 : decode b_C_program 68 = .ok (.iconst 1, 1) := by decide +kernel
theorem d_C_program_69 : decode b_C_program 69 = .ok (.iadd, 1) := by decide +kernel
theorem d_C_program_70 : decode b_C_program 70 = .ok (.iastore, 1) := by decide +kernel
theorem d_C_program_71 : decode b_C_program 71 = .ok (.aload_n 0, 1) := by decide +kernel
theorem d_C_program_72 : decode b_C_program 72 = .ok (.getfield 35, 3) := by decide +kernel
theorem d_C_program_75 : decode b_C_program 75 = .ok (.iload 5, 2) := by decide +kernel
theorem d_C_program_77 : decode b_C_program 77 = .ok (.iconst 1, 1) := by decide +kernel
theorem d_C_program_78 : decode b_C_program 78 = .ok (.bastore, 1) := by decide +kernel
theorem d_C_program_79 : decode b_C_program 79 = .ok (.iconst 1, 1) := by decide +kernel
theorem d_C_program_80 : decode b_C_program 80 = .ok (.ireturn, 1) := by decide +kernel
theorem d_T_serialAfter_0 : decode b_T_serialAfter 0 = .ok (.iload_n 0, 1) := by decide +kernel
theorem d_T_serialAfter_1 : decode b_T_serialAfter 1 = .ok (.bipush 6, 2) := by decide +kernel
theorem d_T_serialAfter_3 : decode b_T_serialAfter 3 = .ok (.ishr, 1) := by decide +kernel
theorem d_T_serialAfter_4 : decode b_T_serialAfter 4 = .ok (.iconst 1, 1) := by decide +kernel
theorem d_T_serialAfter_5 : decode b_T_serialAfter 5 = .ok (.iadd, 1) := by decide +kernel
theorem d_T_serialAfter_6 : decode b_T_serialAfter 6 = .ok (.iconst 3, 1) := by decide +kernel
theorem d_T_serialAfter_7 : decode b_T_serialAfter 7 = .ok (.iand, 1) := by decide +kernel
theorem d_T_serialAfter_8 : decode b_T_serialAfter 8 = .ok (.ireturn, 1) := by decide +kernel
theorem d_T_withSerial_0 : decode b_T_withSerial 0 = .ok (.iload_n 0, 1) := by decide +kernel
theorem d_T_withSerial_1 : decode b_T_withSerial 1 = .ok (.sipush (-193), 3) := by decide +kernel
theorem d_T_withSerial_4 : decode b_T_withSerial 4 = .ok (.iand, 1) := by decide +kernel
theorem d_T_withSerial_5 : decode b_T_withSerial 5 = .ok (.iload_n 1, 1) := by decide +kernel
theorem d_T_withSerial_6 : decode b_T_withSerial 6 = .ok (.bipush 6, 2) := by decide +kernel
theorem d_T_withSerial_8 : decode b_T_withSerial 8 = .ok (.ishl, 1) := by decide +kernel
theorem d_T_withSerial_9 : decode b_T_withSerial 9 = .ok (.ior, 1) := by decide +kernel
theorem d_T_withSerial_10 : decode b_T_withSerial 10 = .ok (.ireturn, 1) := by decide +kernel
theorem d_S_put_0 : decode b_S_put 0 = .ok (.iload_n 1, 1) := by decide +kernel
theorem d_S_put_1 : decode b_S_put 1 = .ok (.iconst (-1), 1) := by decide +kernel
theorem d_S_put_2 : decode b_S_put 2 = .ok (.if_icmp .ne (19), 3) := by decide +kernel
theorem d_S_put_5 : decode b_S_put 5 = .ok (.aload_n 0, 1) := by decide +kernel
theorem d_S_put_6 : decode b_S_put 6 = .ok (.getfield 12, 3) := by decide +kernel
theorem d_S_put_9 : decode b_S_put 9 = .ok (.iload_n 2, 1) := by decide +kernel
theorem d_S_put_10 : decode b_S_put 10 = .ok (.iconst 0, 1) := by decide +kernel
theorem d_S_put_11 : decode b_S_put 11 = .ok (.invokestatic 175, 3) := by decide +kernel
theorem d_S_put_14 : decode b_S_put 14 = .ok (.iload_n 3, 1) := by decide +kernel
theorem d_S_put_15 : decode b_S_put 15 = .ok (.lload 4, 2) := by decide +kernel
theorem d_S_put_17 : decode b_S_put 17 = .ok (.invokevirtual 178, 3) := by decide +kernel
theorem d_S_put_20 : decode b_S_put 20 = .ok (.ireturn, 1) := by decide +kernel
theorem d_S_put_21 : decode b_S_put 21 = .ok (.aload_n 0, 1) := by decide +kernel
theorem d_S_put_22 : decode b_S_put 22 = .ok (.getfield 12, 3) := by decide +kernel
theorem d_S_put_25 : decode b_S_put 25 = .ok (.getfield 154, 3) := by decide +kernel
theorem d_S_put_28 : decode b_S_put 28 = .ok (.iload_n 1, 1) := by decide +kernel
theorem d_S_put_29 : decode b_S_put 29 = .ok (.iaload, 1) := by decide +kernel
theorem d_S_put_30 : decode b_S_put 30 = .ok (.invokestatic 182, 3) := by decide +kernel
theorem d_S_put_33 : decode b_S_put 33 = .ok (.istore 6, 2) := by decide +kernel
theorem d_S_put_35 : decode b_S_put 35 = .ok (.aload_n 0, 1) := by decide +kernel
theorem d_S_put_36 : decode b_S_put 36 = .ok (.getfield 12, 3) := by decide +kernel
theorem d_S_put_39 : decode b_S_put 39 = .ok (.iload_n 2, 1) := by decide +kernel
theorem d_S_put_40 : decode b_S_put 40 = .ok (.iload 6, 2) := by decide +kernel
theorem d_S_put_42 : decode b_S_put 42 = .ok (.invokestatic 175, 3) := by decide +kernel
theorem d_S_put_45 : decode b_S_put 45 = .ok (.iload_n 3, 1) := by decide +kernel
theorem d_S_put_46 : decode b_S_put 46 = .ok (.lload 4, 2) := by decide +kernel
theorem d_S_put_48 : decode b_S_put 48 = .ok (.invokevirtual 178, 3) := by decide +kernel
theorem d_S_put_51 : decode b_S_put 51 = .ok (.ifCond .eq (18), 3) := by decide +kernel
theorem d_S_put_54 : decode b_S_put 54 = .ok (.aload_n 0, 1) := by decide +kernel
theorem d_S_put_55 : decode b_S_put 55 = .ok (.getfield 12, 3) := by decide +kernel
theorem d_S_put_58 : decode b_S_put 58 = .ok (.iload_n 1, 1) := by decide +kernel
theorem d_S_put_59 : decode b_S_put 59 = .ok (.invokevirtual 185, 3) := by decide +kernel
theorem d_S_put_62 : decode b_S_put 62 = .ok (.ifCond .eq (7), 3) := by decide +kernel
theorem d_S_put_65 : decode b_S_put 65 = .ok (.iconst 1, 1) := by decide +kernel
theorem d_S_put_66 : decode b_S_put 66 = .ok (.goto (4), 3) := by decide +kernel
theorem d_S_put_69 : decode b_S_put 69 = .ok (.iconst 0, 1) := by decide +kernel
theorem d_S_put_70 : decode b_S_put 70 = .ok (.ireturn, 1) := by decide +kernel
theorem d_S_putWordOf_0 : decode b_S_putWordOf 0 = .ok (.aload_n 0, 1) := by decide +kernel
theorem d_S_putWordOf_1 : decode b_S_putWordOf 1 = .ok (.getfield 12, 3) := by decide +kernel
theorem d_S_putWordOf_4 : decode b_S_putWordOf 4 = .ok (.iload_n 1, 1) := by decide +kernel
theorem d_S_putWordOf_5 : decode b_S_putWordOf 5 = .ok (.invokevirtual 188, 3) := by decide +kernel
theorem d_S_putWordOf_8 : decode b_S_putWordOf 8 = .ok (.ifCond .eq (15), 3) := by decide +kernel
theorem d_S_putWordOf_11 : decode b_S_putWordOf 11 = .ok (.aload_n 0, 1) := by decide +kernel
theorem d_S_putWordOf_12 : decode b_S_putWordOf 12 = .ok (.getfield 12, 3) := by decide +kernel
theorem d_S_putWordOf_15 : decode b_S_putWordOf 15 = .ok (.getfield 191, 3) := by decide +kernel
theorem d_S_putWordOf_18 : decode b_S_putWordOf 18 = .ok (.iload_n 1, 1) := by decide +kernel
theorem d_S_putWordOf_19 : decode b_S_putWordOf 19 = .ok (.laload, 1) := by decide +kernel
theorem d_S_putWordOf_20 : decode b_S_putWordOf 20 = .ok (.goto (4), 3) := by decide +kernel
theorem d_S_putWordOf_23 : decode b_S_putWordOf 23 = .ok (.lconst 0, 1) := by decide +kernel
theorem d_S_putWordOf_24 : decode b_S_putWordOf 24 = .ok (.lstore_n 3, 1) := by decide +kernel
theorem d_S_putWordOf_25 : decode b_S_putWordOf 25 = .ok (.aload_n 0, 1) := by decide +kernel
theorem d_S_putWordOf_26 : decode b_S_putWordOf 26 = .ok (.iload_n 1, 1) := by decide +kernel
theorem d_S_putWordOf_27 : decode b_S_putWordOf 27 = .ok (.iload_n 2, 1) := by decide +kernel
theorem d_S_putWordOf_28 : decode b_S_putWordOf 28 = .ok (.aload_n 0, 1) := by decide +kernel
theorem d_S_putWordOf_29 : decode b_S_putWordOf 29 = .ok (.getfield 12, 3) := by decide +kernel
theorem d_S_putWordOf_32 : decode b_S_putWordOf 32 = .ok (.getfield 195, 3) := by decide +kernel
theorem d_S_putWordOf_35 : decode b_S_putWordOf 35 = .ok (.iload_n 1, 1) := by decide +kernel
theorem d_S_putWordOf_36 : decode b_S_putWordOf 36 = .ok (.iaload, 1) := by decide +kernel
theorem d_S_putWordOf_37 : decode b_S_putWordOf 37 = .ok (.lload_n 3, 1) := by decide +kernel
theorem d_S_putWordOf_38 : decode b_S_putWordOf 38 = .ok (.invokevirtual 45, 3) := by decide +kernel
theorem d_S_putWordOf_41 : decode b_S_putWordOf 41 = .ok (.ireturn, 1) := by decide +kernel
theorem d_S_collect_0 : decode b_S_collect 0 = .ok (.iload_n 1, 1) := by decide +kernel
theorem d_S_collect_1 : decode b_S_collect 1 = .ok (.bipush 8, 2) := by decide +kernel
theorem d_S_collect_3 : decode b_S_collect 3 = .ok (.imul, 1) := by decide +kernel
theorem d_S_collect_4 : decode b_S_collect 4 = .ok (.istore_n 2, 1) := by decide +kernel
theorem d_S_collect_5 : decode b_S_collect 5 = .ok (.iload_n 2, 1) := by decide +kernel
theorem d_S_collect_6 : decode b_S_collect 6 = .ok (.istore_n 3, 1) := by decide +kernel
theorem d_S_collect_7 : decode b_S_collect 7 = .ok (.iload_n 3, 1) := by decide +kernel
theorem d_S_collect_8 : decode b_S_collect 8 = .ok (.iload_n 2, 1) := by decide +kernel
theorem d_S_collect_9 : decode b_S_collect 9 = .ok (.bipush 8, 2) := by decide +kernel
theorem d_S_collect_11 : decode b_S_collect 11 = .ok (.iadd, 1) := by decide +kernel
theorem d_S_collect_12 : decode b_S_collect 12 = .ok (.if_icmp .ge (39), 3) := by decide +kernel
theorem d_S_collect_15 : decode b_S_collect 15 = .ok (.aload_n 0, 1) := by decide +kernel
theorem d_S_collect_16 : decode b_S_collect 16 = .ok (.getfield 12, 3) := by decide +kernel
theorem d_S_collect_19 : decode b_S_collect 19 = .ok (.iload_n 3, 1) := by decide +kernel
theorem d_S_collect_20 : decode b_S_collect 20 = .ok (.invokevirtual 216, 3) := by decide +kernel
theorem d_S_collect_23 : decode b_S_collect 23 = .ok (.ifCond .eq (22), 3) := by decide +kernel
theorem d_S_collect_26 : decode b_S_collect 26 = .ok (.aload_n 0, 1) := by decide +kernel
theorem d_S_collect_27 : decode b_S_collect 27 = .ok (.iload_n 3, 1) := by decide +kernel
theorem d_S_collect_28 : decode b_S_collect 28 = .ok (.aload_n 0, 1) := by decide +kernel
theorem d_S_collect_29 : decode b_S_collect 29 = .ok (.getfield 12, 3) := by decide +kernel
theorem d_S_collect_32 : decode b_S_collect 32 = .ok (.getfield 154, 3) := by decide +kernel
theorem d_S_collect_35 : decode b_S_collect 35 = .ok (.iload_n 3, 1) := by decide +kernel
theorem d_S_collect_36 : decode b_S_collect 36 = .ok (.iaload, 1) := by decide +kernel
theorem d_S_collect_37 : decode b_S_collect 37 = .ok (.invokevirtual 201, 3) := by decide +kernel
theorem d_S_collect_40 : decode b_S_collect 40 = .ok (.ifCond .ne (5), 3) := by decide +kernel
theorem d_S_collect_43 : decode b_S_collect 43 = .ok (.iconst 0, 1) := by decide +kernel
theorem d_S_collect_44 : decode b_S_collect 44 = .ok (.ireturn, 1) := by decide +kernel
theorem d_S_collect_45 : decode b_S_collect 45 = .ok (.iinc 3 (1), 3) := by decide +kernel
theorem d_S_collect_48 : decode b_S_collect 48 = .ok (.goto (-41), 3) := by decide +kernel
theorem d_S_collect_51 : decode b_S_collect 51 = .ok (.aload_n 0, 1) := by decide +kernel
theorem d_S_collect_52 : decode b_S_collect 52 = .ok (.getfield 12, 3) := by decide +kernel
theorem d_S_collect_55 : decode b_S_collect 55 = .ok (.iload_n 1, 1) := by decide +kernel
theorem d_S_collect_56 : decode b_S_collect 56 = .ok (.invokevirtual 219, 3) := by decide +kernel
theorem d_S_collect_59 : decode b_S_collect 59 = .ok (.ireturn, 1) := by decide +kernel
theorem d_S_switchOff_0 : decode b_S_switchOff 0 = .ok (.aload_n 0, 1) := by decide +kernel
theorem d_S_switchOff_1 : decode b_S_switchOff 1 = .ok (.iconst 0, 1) := by decide +kernel
theorem d_S_switchOff_2 : decode b_S_switchOff 2 = .ok (.putfield 20, 3) := by decide +kernel
theorem d_S_switchOff_5 : decode b_S_switchOff 5 = .ok (.bipush (-9), 2) := by decide +kernel
theorem d_S_switchOff_7 : decode b_S_switchOff 7 = .ok (.ireturn, 1) := by decide +kernel
theorem d_S_makeRoom_0 : decode b_S_makeRoom 0 = .ok (.bipush 8, 2) := by decide +kernel
theorem d_S_makeRoom_2 : decode b_S_makeRoom 2 = .ok (.iload_n 1, 1) := by decide +kernel
theorem d_S_makeRoom_3 : decode b_S_makeRoom 3 = .ok (.iadd, 1) := by decide +kernel
theorem d_S_makeRoom_4 : decode b_S_makeRoom 4 = .ok (.istore_n 2, 1) := by decide +kernel
theorem d_S_makeRoom_5 : decode b_S_makeRoom 5 = .ok (.iconst 0, 1) := by decide +kernel
theorem d_S_makeRoom_6 : decode b_S_makeRoom 6 = .ok (.istore_n 3, 1) := by decide +kernel
theorem d_S_makeRoom_7 : decode b_S_makeRoom 7 = .ok (.iload_n 3, 1) := by decide +kernel
theorem d_S_makeRoom_8 : decode b_S_makeRoom 8 = .ok (.sipush 1000, 3) := by decide +kernel
theorem d_S_makeRoom_11 : decode b_S_makeRoom 11 = .ok (.if_icmp .ge (49), 3) := by decide +kernel
theorem d_S_makeRoom_14 : decode b_S_makeRoom 14 = .ok (.aload_n 0, 1) := by decide +kernel
theorem d_S_makeRoom_15 : decode b_S_makeRoom 15 = .ok (.getfield 12, 3) := by decide +kernel
theorem d_S_makeRoom_18 : decode b_S_makeRoom 18 = .ok (.invokevirtual 158, 3) := by decide +kernel
theorem d_S_makeRoom_21 : decode b_S_makeRoom 21 = .ok (.iload_n 2, 1) := by decide +kernel
theorem d_S_makeRoom_22 : decode b_S_makeRoom 22 = .ok (.if_icmp .ge (38), 3) := by decide +kernel
theorem d_S_makeRoom_25 : decode b_S_makeRoom 25 = .ok (.aload_n 0, 1) := by decide +kernel
theorem d_S_makeRoom_26 : decode b_S_makeRoom 26 = .ok (.invokevirtual 204, 3) := by decide +kernel
theorem d_S_makeRoom_29 : decode b_S_makeRoom 29 = .ok (.istore 4, 2) := by decide +kernel
theorem d_S_makeRoom_31 : decode b_S_makeRoom 31 = .ok (.iload 4, 2) := by decide +kernel
theorem d_S_makeRoom_33 : decode b_S_makeRoom 33 = .ok (.iconst (-1), 1) := by decide +kernel
theorem d_S_makeRoom_34 : decode b_S_makeRoom 34 = .ok (.if_icmp .ne (6), 3) := by decide +kernel
theorem d_S_makeRoom_37 : decode b_S_makeRoom 37 = .ok (.bipush (-6), 2) := by decide +kernel
theorem d_S_makeRoom_39 : decode b_S_makeRoom 39 = .ok (.ireturn, 1) := by decide +kernel
theorem d_S_makeRoom_40 : decode b_S_makeRoom 40 = .ok (.aload_n 0, 1) := by decide +kernel
theorem d_S_makeRoom_41 : decode b_S_makeRoom 41 = .ok (.iload 4, 2) := by decide +kernel
theorem d_S_makeRoom_43 : decode b_S_makeRoom 43 = .ok (.invokevirtual 207, 3) := by decide +kernel
theorem d_S_makeRoom_46 : decode b_S_makeRoom 46 = .ok (.ifCond .ne (8), 3) := by decide +kernel
theorem d_S_makeRoom_49 : decode b_S_makeRoom 49 = .ok (.aload_n 0, 1) := by decide +kernel
theorem d_S_makeRoom_50 : decode b_S_makeRoom 50 = .ok (.invokevirtual 49, 3) := by decide +kernel
theorem d_S_makeRoom_53 : decode b_S_makeRoom 53 = .ok (.ireturn, 1) := by decide +kernel
theorem d_S_makeRoom_54 : decode b_S_makeRoom 54 = .ok (.iinc 3 (1), 3) := by decide +kernel
theorem d_S_makeRoom_57 : decode b_S_makeRoom 57 = .ok (.goto (-50), 3) := by decide +kernel
theorem d_S_makeRoom_60 : decode b_S_makeRoom 60 = .ok (.aload_n 0, 1) := by decide +kernel
theorem d_S_makeRoom_61 : decode b_S_makeRoom 61 = .ok (.getfield 12, 3) := by decide +kernel
theorem d_S_makeRoom_64 : decode b_S_makeRoom 64 = .ok (.invokevirtual 158, 3) := by decide +kernel
theorem d_S_makeRoom_67 : decode b_S_makeRoom 67 = .ok (.iload_n 2, 1) := by decide +kernel
theorem d_S_makeRoom_68 : decode b_S_makeRoom 68 = .ok (.if_icmp .ge (8), 3) := by decide +kernel
theorem d_S_makeRoom_71 : decode b_S_makeRoom 71 = .ok (.bipush (-6), 2) := by decide +kernel
theorem d_S_makeRoom_73 : decode b_S_makeRoom 73 = .ok (.goto (4), 3) := by decide +kernel
theorem d_S_makeRoom_76 : decode b_S_makeRoom 76 = .ok (.iconst 0, 1) := by decide +kernel
theorem d_S_makeRoom_77 : decode b_S_makeRoom 77 = .ok (.ireturn, 1) := by decide +kernel
theorem d_S_headerTags_0 : decode b_S_headerTags 0 = .ok (.aload_n 0, 1) := by decide +kernel
theorem d_S_headerTags_1 : decode b_S_headerTags 1 = .ok (.getfield 12, 3) := by decide +kernel
theorem d_S_headerTags_4 : decode b_S_headerTags 4 = .ok (.iload_n 1, 1) := by decide +kernel
theorem d_S_headerTags_5 : decode b_S_headerTags 5 = .ok (.iconst 0, 1) := by decide +kernel
theorem d_S_headerTags_6 : decode b_S_headerTags 6 = .ok (.invokevirtual 61, 3) := by decide +kernel
theorem d_S_headerTags_9 : decode b_S_headerTags 9 = .ok (.istore_n 2, 1) := by decide +kernel
theorem d_S_headerTags_10 : decode b_S_headerTags 10 = .ok (.iload_n 2, 1) := by decide +kernel
theorem d_S_headerTags_11 : decode b_S_headerTags 11 = .ok (.iconst (-1), 1) := by decide +kernel
theorem d_S_headerTags_12 : decode b_S_headerTags 12 = .ok (.if_icmp .ne (7), 3) := by decide +kernel
theorem d_S_headerTags_15 : decode b_S_headerTags 15 = .ok (.iconst 0, 1) := by decide +kernel
theorem d_S_headerTags_16 : decode b_S_headerTags 16 = .ok (.goto (12), 3) := by decide +kernel
theorem d_S_headerTags_19 : decode b_S_headerTags 19 = .ok (.aload_n 0, 1) := by decide +kernel
theorem d_S_headerTags_20 : decode b_S_headerTags 20 = .ok (.getfield 12, 3) := by decide +kernel
theorem d_S_headerTags_23 : decode b_S_headerTags 23 = .ok (.getfield 154, 3) := by decide +kernel
theorem d_S_headerTags_26 : decode b_S_headerTags 26 = .ok (.iload_n 2, 1) := by decide +kernel
theorem d_S_headerTags_27 : decode b_S_headerTags 27 = .ok (.iaload, 1) := by decide +kernel
theorem d_S_headerTags_28 : decode b_S_headerTags 28 = .ok (.ireturn, 1) := by decide +kernel
theorem d_T_parent_0 : decode b_T_parent 0 = .ok (.iload_n 0, 1) := by decide +kernel
theorem d_T_parent_1 : decode b_T_parent 1 = .ok (.sipush 3584, 3) := by decide +kernel
theorem d_T_parent_4 : decode b_T_parent 4 = .ok (.iand, 1) := by decide +kernel
theorem d_T_parent_5 : decode b_T_parent 5 = .ok (.bipush 9, 2) := by decide +kernel
theorem d_T_parent_7 : decode b_T_parent 7 = .ok (.ishr, 1) := by decide +kernel
theorem d_T_parent_8 : decode b_T_parent 8 = .ok (.ireturn, 1) := by decide +kernel
theorem d_S_isIn_0 : decode b_S_isIn 0 = .ok (.aload_n 0, 1) := by decide +kernel
theorem d_S_isIn_1 : decode b_S_isIn 1 = .ok (.iload_n 1, 1) := by decide +kernel
theorem d_S_isIn_2 : decode b_S_isIn 2 = .ok (.invokevirtual 94, 3) := by decide +kernel
theorem d_S_isIn_5 : decode b_S_isIn 5 = .ok (.ifCond .eq (19), 3) := by decide +kernel
theorem d_S_isIn_8 : decode b_S_isIn 8 = .ok (.aload_n 0, 1) := by decide +kernel
theorem d_S_isIn_9 : decode b_S_isIn 9 = .ok (.iload_n 1, 1) := by decide +kernel
theorem d_S_isIn_10 : decode b_S_isIn 10 = .ok (.invokevirtual 55, 3) := by decide +kernel
theorem d_S_isIn_13 : decode b_S_isIn 13 = .ok (.invokestatic 101, 3) := by decide +kernel
theorem d_S_isIn_16 : decode b_S_isIn 16 = .ok (.iload_n 2, 1) := by decide +kernel
theorem d_S_isIn_17 : decode b_S_isIn 17 = .ok (.if_icmp .ne (7), 3) := by decide +kernel
theorem d_S_isIn_20 : decode b_S_isIn 20 = .ok (.iconst 1, 1) := by decide +kernel
theorem d_S_isIn_21 : decode b_S_isIn 21 = .ok (.goto (4), 3) := by decide +kernel
theorem d_S_isIn_24 : decode b_S_isIn 24 = .ok (.iconst 0, 1) := by decide +kernel
theorem d_S_isIn_25 : decode b_S_isIn 25 = .ok (.ireturn, 1) := by decide +kernel
theorem d_C_wordRead_0 : decode b_C_wordRead 0 = .ok (.aload_n 0, 1) := by decide +kernel
theorem d_C_wordRead_1 : decode b_C_wordRead 1 = .ok (.iload_n 1, 1) := by decide +kernel
theorem d_C_wordRead_2 : decode b_C_wordRead 2 = .ok (.invokevirtual 64, 3) := by decide +kernel
theorem d_C_wordRead_5 : decode b_C_wordRead 5 = .ok (.ifCond .eq (9), 3) := by decide +kernel
theorem d_C_wordRead_8 : decode b_C_wordRead 8 = .ok (.ldc2_w 67, 3) := by decide +kernel
theorem d_C_wordRead_11 : decode b_C_wordRead 11 = .ok (.goto (10), 3) := by decide +kernel
theorem d_C_wordRead_14 : decode b_C_wordRead 14 = .ok (.aload_n 0, 1) := by decide +kernel
theorem d_C_wordRead_15 : decode b_C_wordRead 15 = .ok (.getfield 15, 3) := by decide +kernel
theorem d_C_wordRead_18 : decode b_C_wordRead 18 = .ok (.iload_n 1, 1) := by decide +kernel
theorem d_C_wordRead_19 : decode b_C_wordRead 19 = .ok (.iaload, 1) := by decide +kernel
theorem d_C_wordRead_20 : decode b_C_wordRead 20 = .ok (.i2l, 1) := by decide +kernel
theorem d_C_wordRead_21 : decode b_C_wordRead 21 = .ok (.lreturn, 1) := by decide +kernel
theorem d_S_nameRead_0 : decode b_S_nameRead 0 = .ok (.aload_n 0, 1) := by decide +kernel
theorem d_S_nameRead_1 : decode b_S_nameRead 1 = .ok (.getfield 12, 3) := by decide +kernel
theorem d_S_nameRead_4 : decode b_S_nameRead 4 = .ok (.iload_n 1, 1) := by decide +kernel
theorem d_S_nameRead_5 : decode b_S_nameRead 5 = .ok (.iconst 0, 1) := by decide +kernel
theorem d_S_nameRead_6 : decode b_S_nameRead 6 = .ok (.invokevirtual 61, 3) := by decide +kernel
theorem d_S_nameRead_9 : decode b_S_nameRead 9 = .ok (.istore_n 2, 1) := by decide +kernel
theorem d_S_nameRead_10 : decode b_S_nameRead 10 = .ok (.iload_n 2, 1) := by decide +kernel
theorem d_S_nameRead_11 : decode b_S_nameRead 11 = .ok (.iconst (-1), 1) := by decide +kernel
theorem d_S_nameRead_12 : decode b_S_nameRead 12 = .ok (.if_icmp .ne (9), 3) := by decide +kernel
theorem d_S_nameRead_15 : decode b_S_nameRead 15 = .ok (.ldc2_w 170, 3) := by decide +kernel
theorem d_S_nameRead_18 : decode b_S_nameRead 18 = .ok (.goto (11), 3) := by decide +kernel
theorem d_S_nameRead_21 : decode b_S_nameRead 21 = .ok (.aload_n 0, 1) := by decide +kernel
theorem d_S_nameRead_22 : decode b_S_nameRead 22 = .ok (.getfield 12, 3) := by decide +kernel
theorem d_S_nameRead_25 : decode b_S_nameRead 25 = .ok (.iload_n 2, 1) := by decide +kernel
theorem d_S_nameRead_26 : decode b_S_nameRead 26 = .ok (.invokevirtual 75, 3) := by decide +kernel
theorem d_S_nameRead_29 : decode b_S_nameRead 29 = .ok (.lreturn, 1) := by decide +kernel
theorem d_S_objectNamed_0 : decode b_S_objectNamed 0 = .ok (.iconst 1, 1) := by decide +kernel
theorem d_S_objectNamed_1 : decode b_S_objectNamed 1 = .ok (.istore_n 3, 1) := by decide +kernel
theorem d_S_objectNamed_2 : decode b_S_objectNamed 2 = .ok (.iload_n 3, 1) := by decide +kernel
theorem d_S_objectNamed_3 : decode b_S_objectNamed 3 = .ok (.bipush 7, 2) := by decide +kernel
theorem d_S_objectNamed_5 : decode b_S_objectNamed 5 = .ok (.if_icmp .gt (31), 3) := by decide +kernel
theorem d_S_objectNamed_8 : decode b_S_objectNamed 8 = .ok (.aload_n 0, 1) := by decide +kernel
theorem d_S_objectNamed_9 : decode b_S_objectNamed 9 = .ok (.iload_n 3, 1) := by decide +kernel
theorem d_S_objectNamed_10 : decode b_S_objectNamed 10 = .ok (.iload_n 1, 1) := by decide +kernel
theorem d_S_objectNamed_11 : decode b_S_objectNamed 11 = .ok (.invokevirtual 172, 3) := by decide +kernel
theorem d_S_objectNamed_14 : decode b_S_objectNamed 14 = .ok (.ifCond .eq (16), 3) := by decide +kernel
theorem d_S_objectNamed_17 : decode b_S_objectNamed 17 = .ok (.aload_n 0, 1) := by decide +kernel
theorem d_S_objectNamed_18 : decode b_S_objectNamed 18 = .ok (.iload_n 3, 1) := by decide +kernel
theorem d_S_objectNamed_19 : decode b_S_objectNamed 19 = .ok (.invokevirtual 104, 3) := by decide +kernel
theorem d_S_objectNamed_22 : decode b_S_objectNamed 22 = .ok (.iload_n 2, 1) := by decide +kernel
theorem d_S_objectNamed_23 : decode b_S_objectNamed 23 = .ok (.i2l, 1) := by decide +kernel
theorem d_S_objectNamed_24 : decode b_S_objectNamed 24 = .ok (.lcmp, 1) := by decide +kernel
theorem d_S_objectNamed_25 : decode b_S_objectNamed 25 = .ok (.ifCond .ne (5), 3) := by decide +kernel
theorem d_S_objectNamed_28 : decode b_S_objectNamed 28 = .ok (.iload_n 3, 1) := by decide +kernel
theorem d_S_objectNamed_29 : decode b_S_objectNamed 29 = .ok (.ireturn, 1) := by decide +kernel
theorem d_S_objectNamed_30 : decode b_S_objectNamed 30 = .ok (.iinc 3 (1), 3) := by decide +kernel
theorem d_S_objectNamed_33 : decode b_S_objectNamed 33 = .ok (.goto (-31), 3) := by decide +kernel
theorem d_S_objectNamed_36 : decode b_S_objectNamed 36 = .ok (.iconst 0, 1) := by decide +kernel
theorem d_S_objectNamed_37 : decode b_S_objectNamed 37 = .ok (.ireturn, 1) := by decide +kernel
theorem d_T_isOfDirectory_0 : decode b_T_isOfDirectory 0 = .ok (.iload_n 0, 1) := by decide +kernel
theorem d_T_isOfDirectory_1 : decode b_T_isOfDirectory 1 = .ok (.ldc 9, 2) := by decide +kernel
theorem d_T_isOfDirectory_3 : decode b_T_isOfDirectory 3 = .ok (.iand, 1) := by decide +kernel
theorem d_T_isOfDirectory_4 : decode b_T_isOfDirectory 4 = .ok (.ifCond .eq (7), 3) := by decide +kernel
theorem d_T_isOfDirectory_7 : decode b_T_isOfDirectory 7 = .ok (.iconst 1, 1) := by decide +kernel
theorem d_T_isOfDirectory_8 : decode b_T_isOfDirectory 8 = .ok (.goto (4), 3) := by decide +kernel
theorem d_T_isOfDirectory_11 : decode b_T_isOfDirectory 11 = .ok (.iconst 0, 1) := by decide +kernel
theorem d_T_isOfDirectory_12 : decode b_T_isOfDirectory 12 = .ok (.ireturn, 1) := by decide +kernel
theorem d_S_isDirectory_0 : decode b_S_isDirectory 0 = .ok (.iload_n 1, 1) := by decide +kernel
theorem d_S_isDirectory_1 : decode b_S_isDirectory 1 = .ok (.ifCond .eq (14), 3) := by decide +kernel
theorem d_S_isDirectory_4 : decode b_S_isDirectory 4 = .ok (.aload_n 0, 1) := by decide +kernel
theorem d_S_isDirectory_5 : decode b_S_isDirectory 5 = .ok (.iload_n 1, 1) := by decide +kernel
theorem d_S_isDirectory_6 : decode b_S_isDirectory 6 = .ok (.invokevirtual 55, 3) := by decide +kernel
theorem d_S_isDirectory_9 : decode b_S_isDirectory 9 = .ok (.invokestatic 167, 3) := by decide +kernel
theorem d_S_isDirectory_12 : decode b_S_isDirectory 12 = .ok (.ifCond .eq (7), 3) := by decide +kernel
theorem d_S_isDirectory_15 : decode b_S_isDirectory 15 = .ok (.iconst 1, 1) := by decide +kernel
theorem d_S_isDirectory_16 : decode b_S_isDirectory 16 = .ok (.goto (4), 3) := by decide +kernel
theorem d_S_isDirectory_19 : decode b_S_isDirectory 19 = .ok (.iconst 0, 1) := by decide +kernel
theorem d_S_isDirectory_20 : decode b_S_isDirectory 20 = .ok (.ireturn, 1) := by decide +kernel
theorem d_S_refusalOfDirectory_0 : decode b_S_refusalOfDirectory 0 = .ok (.aload_n 0, 1) := by decide +kernel
theorem d_S_refusalOfDirectory_1 : decode b_S_refusalOfDirectory 1 = .ok (.getfield 20, 3) := by decide +kernel
theorem d_S_refusalOfDirectory_4 : decode b_S_refusalOfDirectory 4 = .ok (.ifCond .ne (6), 3) := by decide +kernel
theorem d_S_refusalOfDirectory_7 : decode b_S_refusalOfDirectory 7 = .ok (.bipush (-9), 2) := by decide +kernel
theorem d_S_refusalOfDirectory_9 : decode b_S_refusalOfDirectory 9 = .ok (.ireturn, 1) := by decide +kernel
theorem d_S_refusalOfDirectory_10 : decode b_S_refusalOfDirectory 10 = .ok (.iload_n 1, 1) := by decide +kernel
theorem d_S_refusalOfDirectory_11 : decode b_S_refusalOfDirectory 11 = .ok (.ifCond .eq (13), 3) := by decide +kernel
theorem d_S_refusalOfDirectory_14 : decode b_S_refusalOfDirectory 14 = .ok (.aload_n 0, 1) := by decide +kernel
theorem d_S_refusalOfDirectory_15 : decode b_S_refusalOfDirectory 15 = .ok (.iload_n 1, 1) := by decide +kernel
theorem d_S_refusalOfDirectory_16 : decode b_S_refusalOfDirectory 16 = .ok (.invokevirtual 94, 3) := by decide +kernel
theorem d_S_refusalOfDirectory_19 : decode b_S_refusalOfDirectory 19 = .ok (.ifCond .ne (5), 3) := by decide +kernel
theorem d_S_refusalOfDirectory_22 : decode b_S_refusalOfDirectory 22 = .ok (.iconst (-1), 1) := by decide +kernel
theorem d_S_refusalOfDirectory_23 : decode b_S_refusalOfDirectory 23 = .ok (.ireturn, 1) := by decide +kernel
theorem d_S_refusalOfDirectory_24 : decode b_S_refusalOfDirectory 24 = .ok (.aload_n 0, 1) := by decide +kernel
theorem d_S_refusalOfDirectory_25 : decode b_S_refusalOfDirectory 25 = .ok (.iload_n 1, 1) := by decide +kernel
theorem d_S_refusalOfDirectory_26 : decode b_S_refusalOfDirectory 26 = .ok (.invokevirtual 98, 3) := by decide +kernel
theorem d_S_refusalOfDirectory_29 : decode b_S_refusalOfDirectory 29 = .ok (.ifCond .eq (7), 3) := by decide +kernel
theorem d_S_refusalOfDirectory_32 : decode b_S_refusalOfDirectory 32 = .ok (.iconst 0, 1) := by decide +kernel
theorem d_S_refusalOfDirectory_33 : decode b_S_refusalOfDirectory 33 = .ok (.goto (5), 3) := by decide +kernel
theorem d_S_refusalOfDirectory_36 : decode b_S_refusalOfDirectory 36 = .ok (.bipush (-2), 2) := by decide +kernel
theorem d_S_refusalOfDirectory_38 : decode b_S_refusalOfDirectory 38 = .ok (.ireturn, 1) := by decide +kernel
theorem d_T_ofHeader_0 : decode b_T_ofHeader 0 = .ok (.iload_n 0, 1) := by decide +kernel
theorem d_T_ofHeader_1 : decode b_T_ofHeader 1 = .ok (.iload_n 1, 1) := by decide +kernel
theorem d_T_ofHeader_2 : decode b_T_ofHeader 2 = .ok (.bipush 9, 2) := by decide +kernel
theorem d_T_ofHeader_4 : decode b_T_ofHeader 4 = .ok (.ishl, 1) := by decide +kernel
theorem d_T_ofHeader_5 : decode b_T_ofHeader 5 = .ok (.iadd, 1) := by decide +kernel
theorem d_T_ofHeader_6 : decode b_T_ofHeader 6 = .ok (.iload_n 2, 1) := by decide +kernel
theorem d_T_ofHeader_7 : decode b_T_ofHeader 7 = .ok (.ifCond .eq (8), 3) := by decide +kernel
theorem d_T_ofHeader_10 : decode b_T_ofHeader 10 = .ok (.ldc 9, 2) := by decide +kernel
theorem d_T_ofHeader_12 : decode b_T_ofHeader 12 = .ok (.goto (4), 3) := by decide +kernel
theorem d_T_ofHeader_15 : decode b_T_ofHeader 15 = .ok (.iconst 0, 1) := by decide +kernel
theorem d_T_ofHeader_16 : decode b_T_ofHeader 16 = .ok (.iadd, 1) := by decide +kernel
theorem d_T_ofHeader_17 : decode b_T_ofHeader 17 = .ok (.ireturn, 1) := by decide +kernel
theorem d_S_create_0 : decode b_S_create 0 = .ok (.aload_n 0, 1) := by decide +kernel
theorem d_S_create_1 : decode b_S_create 1 = .ok (.iload_n 1, 1) := by decide +kernel
theorem d_S_create_2 : decode b_S_create 2 = .ok (.invokevirtual 24, 3) := by decide +kernel
theorem d_S_create_5 : decode b_S_create 5 = .ok (.istore 4, 2) := by decide +kernel
theorem d_S_create_7 : decode b_S_create 7 = .ok (.iload 4, 2) := by decide +kernel
theorem d_S_create_9 : decode b_S_create 9 = .ok (.ifCond .eq (6), 3) := by decide +kernel
theorem d_S_create_12 : decode b_S_create 12 = .ok (.iload 4, 2) := by decide +kernel
theorem d_S_create_14 : decode b_S_create 14 = .ok (.ireturn, 1) := by decide +kernel
theorem d_S_create_15 : decode b_S_create 15 = .ok (.aload_n 0, 1) := by decide +kernel
theorem d_S_create_16 : decode b_S_create 16 = .ok (.iload_n 1, 1) := by decide +kernel
theorem d_S_create_17 : decode b_S_create 17 = .ok (.iload_n 2, 1) := by decide +kernel
theorem d_S_create_18 : decode b_S_create 18 = .ok (.invokevirtual 28, 3) := by decide +kernel
theorem d_S_create_21 : decode b_S_create 21 = .ok (.ifCond .eq (6), 3) := by decide +kernel
theorem d_S_create_24 : decode b_S_create 24 = .ok (.bipush (-4), 2) := by decide +kernel
theorem d_S_create_26 : decode b_S_create 26 = .ok (.ireturn, 1) := by decide +kernel
theorem d_S_create_27 : decode b_S_create 27 = .ok (.aload_n 0, 1) := by decide +kernel
theorem d_S_create_28 : decode b_S_create 28 = .ok (.invokevirtual 32, 3) := by decide +kernel
theorem d_S_create_31 : decode b_S_create 31 = .ok (.istore 5, 2) := by decide +kernel
theorem d_S_create_33 : decode b_S_create 33 = .ok (.iload 5, 2) := by decide +kernel
theorem d_S_create_35 : decode b_S_create 35 = .ok (.iconst (-1), 1) := by decide +kernel
theorem d_S_create_36 : decode b_S_create 36 = .ok (.if_icmp .ne (6), 3) := by decide +kernel
theorem d_S_create_39 : decode b_S_create 39 = .ok (.bipush (-5), 2) := by decide +kernel
theorem d_S_create_41 : decode b_S_create 41 = .ok (.ireturn, 1) := by decide +kernel
theorem d_S_create_42 : decode b_S_create 42 = .ok (.aload_n 0, 1) := by decide +kernel
theorem d_S_create_43 : decode b_S_create 43 = .ok (.iconst 1, 1) := by decide +kernel
theorem d_S_create_44 : decode b_S_create 44 = .ok (.invokevirtual 36, 3) := by decide +kernel
theorem d_S_create_47 : decode b_S_create 47 = .ok (.istore 4, 2) := by decide +kernel
theorem d_S_create_49 : decode b_S_create 49 = .ok (.iload 4, 2) := by decide +kernel
theorem d_S_create_51 : decode b_S_create 51 = .ok (.ifCond .eq (6), 3) := by decide +kernel
theorem d_S_create_54 : decode b_S_create 54 = .ok (.iload 4, 2) := by decide +kernel
theorem d_S_create_56 : decode b_S_create 56 = .ok (.ireturn, 1) := by decide +kernel
theorem d_S_create_57 : decode b_S_create 57 = .ok (.aload_n 0, 1) := by decide +kernel
theorem d_S_create_58 : decode b_S_create 58 = .ok (.iconst (-1), 1) := by decide +kernel
theorem d_S_create_59 : decode b_S_create 59 = .ok (.iload 5, 2) := by decide +kernel
theorem d_S_create_61 : decode b_S_create 61 = .ok (.iload_n 1, 1) := by decide +kernel
theorem d_S_create_62 : decode b_S_create 62 = .ok (.iload_n 3, 1) := by decide +kernel
theorem d_S_create_63 : decode b_S_create 63 = .ok (.invokestatic 39, 3) := by decide +kernel
theorem d_S_create_66 : decode b_S_create 66 = .ok (.iload_n 2, 1) := by decide +kernel
theorem d_S_create_67 : decode b_S_create 67 = .ok (.lconst 0, 1) := by decide +kernel
theorem d_S_create_68 : decode b_S_create 68 = .ok (.invokevirtual 45, 3) := by decide +kernel
theorem d_S_create_71 : decode b_S_create 71 = .ok (.istore 6, 2) := by decide +kernel
theorem d_S_create_73 : decode b_S_create 73 = .ok (.iload 6, 2) := by decide +kernel
theorem d_S_create_75 : decode b_S_create 75 = .ok (.ifCond .eq (8), 3) := by decide +kernel
theorem d_S_create_78 : decode b_S_create 78 = .ok (.iload 5, 2) := by decide +kernel
theorem d_S_create_80 : decode b_S_create 80 = .ok (.goto (7), 3) := by decide +kernel
theorem d_S_create_83 : decode b_S_create 83 = .ok (.aload_n 0, 1) := by decide +kernel
theorem d_S_create_84 : decode b_S_create 84 = .ok (.invokevirtual 49, 3) := by decide +kernel
theorem d_S_create_87 : decode b_S_create 87 = .ok (.ireturn, 1) := by decide +kernel
end
section
theorem d_T_withLength_0 : decode b_T_withLength 0 = .ok (.iload_n 0, 1) := by decide +kernel
theorem d_T_withLength_1 : decode b_T_withLength 1 = .ok (.sipush (-28673), 3) := by decide +kernel
theorem d_T_withLength_4 : decode b_T_withLength 4 = .ok (.iand, 1) := by decide +kernel
theorem d_T_withLength_5 : decode b_T_withLength 5 = .ok (.iload_n 1, 1) := by decide +kernel
theorem d_T_withLength_6 : decode b_T_withLength 6 = .ok (.bipush 12, 2) := by decide +kernel
theorem d_T_withLength_8 : decode b_T_withLength 8 = .ok (.ishl, 1) := by decide +kernel
theorem d_T_withLength_9 : decode b_T_withLength 9 = .ok (.ior, 1) := by decide +kernel
theorem d_T_withLength_10 : decode b_T_withLength 10 = .ok (.ireturn, 1) := by decide +kernel
theorem d_S_putLength_0 : decode b_S_putLength 0 = .ok (.aload_n 0, 1) := by decide +kernel
theorem d_S_putLength_1 : decode b_S_putLength 1 = .ok (.getfield 12, 3) := by decide +kernel
theorem d_S_putLength_4 : decode b_S_putLength 4 = .ok (.iload_n 1, 1) := by decide +kernel
theorem d_S_putLength_5 : decode b_S_putLength 5 = .ok (.iconst 0, 1) := by decide +kernel
theorem d_S_putLength_6 : decode b_S_putLength 6 = .ok (.invokevirtual 61, 3) := by decide +kernel
theorem d_S_putLength_9 : decode b_S_putLength 9 = .ok (.istore_n 3, 1) := by decide +kernel
theorem d_S_putLength_10 : decode b_S_putLength 10 = .ok (.iload_n 3, 1) := by decide +kernel
theorem d_S_putLength_11 : decode b_S_putLength 11 = .ok (.iconst (-1), 1) := by decide +kernel
theorem d_S_putLength_12 : decode b_S_putLength 12 = .ok (.if_icmp .eq (24), 3) := by decide +kernel
theorem d_S_putLength_15 : decode b_S_putLength 15 = .ok (.aload_n 0, 1) := by decide +kernel
theorem d_S_putLength_16 : decode b_S_putLength 16 = .ok (.iload_n 3, 1) := by decide +kernel
theorem d_S_putLength_17 : decode b_S_putLength 17 = .ok (.aload_n 0, 1) := by decide +kernel
theorem d_S_putLength_18 : decode b_S_putLength 18 = .ok (.getfield 12, 3) := by decide +kernel
theorem d_S_putLength_21 : decode b_S_putLength 21 = .ok (.getfield 154, 3) := by decide +kernel
theorem d_S_putLength_24 : decode b_S_putLength 24 = .ok (.iload_n 3, 1) := by decide +kernel
theorem d_S_putLength_25 : decode b_S_putLength 25 = .ok (.iaload, 1) := by decide +kernel
theorem d_S_putLength_26 : decode b_S_putLength 26 = .ok (.iload_n 2, 1) := by decide +kernel
theorem d_S_putLength_27 : decode b_S_putLength 27 = .ok (.invokestatic 198, 3) := by decide +kernel
theorem d_S_putLength_30 : decode b_S_putLength 30 = .ok (.invokevirtual 201, 3) := by decide +kernel
theorem d_S_putLength_33 : decode b_S_putLength 33 = .ok (.ifCond .eq (7), 3) := by decide +kernel
theorem d_S_putLength_36 : decode b_S_putLength 36 = .ok (.iconst 1, 1) := by decide +kernel
theorem d_S_putLength_37 : decode b_S_putLength 37 = .ok (.goto (4), 3) := by decide +kernel
theorem d_S_putLength_40 : decode b_S_putLength 40 = .ok (.iconst 0, 1) := by decide +kernel
theorem d_S_putLength_41 : decode b_S_putLength 41 = .ok (.ireturn, 1) := by decide +kernel
theorem d_S_refusalOfObject_0 : decode b_S_refusalOfObject 0 = .ok (.aload_n 0, 1) := by decide +kernel
theorem d_S_refusalOfObject_1 : decode b_S_refusalOfObject 1 = .ok (.getfield 20, 3) := by decide +kernel
theorem d_S_refusalOfObject_4 : decode b_S_refusalOfObject 4 = .ok (.ifCond .ne (6), 3) := by decide +kernel
theorem d_S_refusalOfObject_7 : decode b_S_refusalOfObject 7 = .ok (.bipush (-9), 2) := by decide +kernel
theorem d_S_refusalOfObject_9 : decode b_S_refusalOfObject 9 = .ok (.ireturn, 1) := by decide +kernel
theorem d_S_refusalOfObject_10 : decode b_S_refusalOfObject 10 = .ok (.aload_n 0, 1) := by decide +kernel
theorem d_S_refusalOfObject_11 : decode b_S_refusalOfObject 11 = .ok (.iload_n 1, 1) := by decide +kernel
theorem d_S_refusalOfObject_12 : decode b_S_refusalOfObject 12 = .ok (.invokevirtual 94, 3) := by decide +kernel
theorem d_S_refusalOfObject_15 : decode b_S_refusalOfObject 15 = .ok (.ifCond .eq (7), 3) := by decide +kernel
theorem d_S_refusalOfObject_18 : decode b_S_refusalOfObject 18 = .ok (.iconst 0, 1) := by decide +kernel
theorem d_S_refusalOfObject_19 : decode b_S_refusalOfObject 19 = .ok (.goto (4), 3) := by decide +kernel
theorem d_S_refusalOfObject_22 : decode b_S_refusalOfObject 22 = .ok (.iconst (-1), 1) := by decide +kernel
theorem d_S_refusalOfObject_23 : decode b_S_refusalOfObject 23 = .ok (.ireturn, 1) := by decide +kernel
theorem d_S_refusalOfFile_0 : decode b_S_refusalOfFile 0 = .ok (.aload_n 0, 1) := by decide +kernel
theorem d_S_refusalOfFile_1 : decode b_S_refusalOfFile 1 = .ok (.iload_n 1, 1) := by decide +kernel
theorem d_S_refusalOfFile_2 : decode b_S_refusalOfFile 2 = .ok (.invokevirtual 82, 3) := by decide +kernel
theorem d_S_refusalOfFile_5 : decode b_S_refusalOfFile 5 = .ok (.istore_n 2, 1) := by decide +kernel
theorem d_S_refusalOfFile_6 : decode b_S_refusalOfFile 6 = .ok (.iload_n 2, 1) := by decide +kernel
theorem d_S_refusalOfFile_7 : decode b_S_refusalOfFile 7 = .ok (.ifCond .eq (5), 3) := by decide +kernel
theorem d_S_refusalOfFile_10 : decode b_S_refusalOfFile 10 = .ok (.iload_n 2, 1) := by decide +kernel
theorem d_S_refusalOfFile_11 : decode b_S_refusalOfFile 11 = .ok (.ireturn, 1) := by decide +kernel
theorem d_S_refusalOfFile_12 : decode b_S_refusalOfFile 12 = .ok (.aload_n 0, 1) := by decide +kernel
theorem d_S_refusalOfFile_13 : decode b_S_refusalOfFile 13 = .ok (.iload_n 1, 1) := by decide +kernel
theorem d_S_refusalOfFile_14 : decode b_S_refusalOfFile 14 = .ok (.invokevirtual 98, 3) := by decide +kernel
theorem d_S_refusalOfFile_17 : decode b_S_refusalOfFile 17 = .ok (.ifCond .eq (8), 3) := by decide +kernel
theorem d_S_refusalOfFile_20 : decode b_S_refusalOfFile 20 = .ok (.bipush (-3), 2) := by decide +kernel
theorem d_S_refusalOfFile_22 : decode b_S_refusalOfFile 22 = .ok (.goto (4), 3) := by decide +kernel
theorem d_S_refusalOfFile_25 : decode b_S_refusalOfFile 25 = .ok (.iconst 0, 1) := by decide +kernel
theorem d_S_refusalOfFile_26 : decode b_S_refusalOfFile 26 = .ok (.ireturn, 1) := by decide +kernel
theorem d_T_length_0 : decode b_T_length 0 = .ok (.iload_n 0, 1) := by decide +kernel
theorem d_T_length_1 : decode b_T_length 1 = .ok (.sipush 28672, 3) := by decide +kernel
theorem d_T_length_4 : decode b_T_length 4 = .ok (.iand, 1) := by decide +kernel
theorem d_T_length_5 : decode b_T_length 5 = .ok (.bipush 12, 2) := by decide +kernel
theorem d_T_length_7 : decode b_T_length 7 = .ok (.ishr, 1) := by decide +kernel
theorem d_T_length_8 : decode b_T_length 8 = .ok (.ireturn, 1) := by decide +kernel
theorem d_S_write_0 : decode b_S_write 0 = .ok (.aload_n 0, 1) := by decide +kernel
theorem d_S_write_1 : decode b_S_write 1 = .ok (.iload_n 1, 1) := by decide +kernel
theorem d_S_write_2 : decode b_S_write 2 = .ok (.invokevirtual 52, 3) := by decide +kernel
theorem d_S_write_5 : decode b_S_write 5 = .ok (.istore 4, 2) := by decide +kernel
theorem d_S_write_7 : decode b_S_write 7 = .ok (.iload 4, 2) := by decide +kernel
theorem d_S_write_9 : decode b_S_write 9 = .ok (.ifCond .eq (6), 3) := by decide +kernel
theorem d_S_write_12 : decode b_S_write 12 = .ok (.iload 4, 2) := by decide +kernel
theorem d_S_write_14 : decode b_S_write 14 = .ok (.ireturn, 1) := by decide +kernel
theorem d_S_write_15 : decode b_S_write 15 = .ok (.iload_n 2, 1) := by decide +kernel
theorem d_S_write_16 : decode b_S_write 16 = .ok (.iconst 1, 1) := by decide +kernel
theorem d_S_write_17 : decode b_S_write 17 = .ok (.if_icmp .lt (9), 3) := by decide +kernel
theorem d_S_write_20 : decode b_S_write 20 = .ok (.iload_n 2, 1) := by decide +kernel
theorem d_S_write_21 : decode b_S_write 21 = .ok (.bipush 6, 2) := by decide +kernel
theorem d_S_write_23 : decode b_S_write 23 = .ok (.if_icmp .le (6), 3) := by decide +kernel
theorem d_S_write_26 : decode b_S_write 26 = .ok (.bipush (-7), 2) := by decide +kernel
theorem d_S_write_28 : decode b_S_write 28 = .ok (.ireturn, 1) := by decide +kernel
theorem d_S_write_29 : decode b_S_write 29 = .ok (.iload_n 2, 1) := by decide +kernel
theorem d_S_write_30 : decode b_S_write 30 = .ok (.aload_n 0, 1) := by decide +kernel
theorem d_S_write_31 : decode b_S_write 31 = .ok (.iload_n 1, 1) := by decide +kernel
theorem d_S_write_32 : decode b_S_write 32 = .ok (.invokevirtual 55, 3) := by decide +kernel
theorem d_S_write_35 : decode b_S_write 35 = .ok (.invokestatic 58, 3) := by decide +kernel
theorem d_S_write_38 : decode b_S_write 38 = .ok (.if_icmp .le (7), 3) := by decide +kernel
theorem d_S_write_41 : decode b_S_write 41 = .ok (.iconst 1, 1) := by decide +kernel
theorem d_S_write_42 : decode b_S_write 42 = .ok (.goto (4), 3) := by decide +kernel
theorem d_S_write_45 : decode b_S_write 45 = .ok (.iconst 0, 1) := by decide +kernel
theorem d_S_write_46 : decode b_S_write 46 = .ok (.istore 5, 2) := by decide +kernel
theorem d_S_write_48 : decode b_S_write 48 = .ok (.aload_n 0, 1) := by decide +kernel
theorem d_S_write_49 : decode b_S_write 49 = .ok (.iload 5, 2) := by decide +kernel
theorem d_S_write_51 : decode b_S_write 51 = .ok (.ifCond .eq (7), 3) := by decide +kernel
theorem d_S_write_54 : decode b_S_write 54 = .ok (.iconst 2, 1) := by decide +kernel
theorem d_S_write_55 : decode b_S_write 55 = .ok (.goto (4), 3) := by decide +kernel
theorem d_S_write_58 : decode b_S_write 58 = .ok (.iconst 1, 1) := by decide +kernel
theorem d_S_write_59 : decode b_S_write 59 = .ok (.invokevirtual 36, 3) := by decide +kernel
theorem d_S_write_62 : decode b_S_write 62 = .ok (.istore 4, 2) := by decide +kernel
theorem d_S_write_64 : decode b_S_write 64 = .ok (.iload 4, 2) := by decide +kernel
theorem d_S_write_66 : decode b_S_write 66 = .ok (.ifCond .eq (6), 3) := by decide +kernel
theorem d_S_write_69 : decode b_S_write 69 = .ok (.iload 4, 2) := by decide +kernel
theorem d_S_write_71 : decode b_S_write 71 = .ok (.ireturn, 1) := by decide +kernel
theorem d_S_write_72 : decode b_S_write 72 = .ok (.aload_n 0, 1) := by decide +kernel
theorem d_S_write_73 : decode b_S_write 73 = .ok (.getfield 12, 3) := by decide +kernel
theorem d_S_write_76 : decode b_S_write 76 = .ok (.iload_n 1, 1) := by decide +kernel
theorem d_S_write_77 : decode b_S_write 77 = .ok (.iload_n 2, 1) := by decide +kernel
theorem d_S_write_78 : decode b_S_write 78 = .ok (.invokevirtual 61, 3) := by decide +kernel
theorem d_S_write_81 : decode b_S_write 81 = .ok (.istore 6, 2) := by decide +kernel
theorem d_S_write_83 : decode b_S_write 83 = .ok (.aload_n 0, 1) := by decide +kernel
theorem d_S_write_84 : decode b_S_write 84 = .ok (.iload 6, 2) := by decide +kernel
theorem d_S_write_86 : decode b_S_write 86 = .ok (.iload_n 1, 1) := by decide +kernel
theorem d_S_write_87 : decode b_S_write 87 = .ok (.iload_n 2, 1) := by decide +kernel
theorem d_S_write_88 : decode b_S_write 88 = .ok (.invokestatic 64, 3) := by decide +kernel
theorem d_S_write_91 : decode b_S_write 91 = .ok (.iload_n 3, 1) := by decide +kernel
theorem d_S_write_92 : decode b_S_write 92 = .ok (.lconst 0, 1) := by decide +kernel
theorem d_S_write_93 : decode b_S_write 93 = .ok (.invokevirtual 45, 3) := by decide +kernel
theorem d_S_write_96 : decode b_S_write 96 = .ok (.ifCond .eq (21), 3) := by decide +kernel
theorem d_S_write_99 : decode b_S_write 99 = .ok (.iload 5, 2) := by decide +kernel
theorem d_S_write_101 : decode b_S_write 101 = .ok (.ifCond .eq (12), 3) := by decide +kernel
theorem d_S_write_104 : decode b_S_write 104 = .ok (.aload_n 0, 1) := by decide +kernel
theorem d_S_write_105 : decode b_S_write 105 = .ok (.iload_n 1, 1) := by decide +kernel
theorem d_S_write_106 : decode b_S_write 106 = .ok (.iload_n 2, 1) := by decide +kernel
theorem d_S_write_107 : decode b_S_write 107 = .ok (.invokevirtual 67, 3) := by decide +kernel
theorem d_S_write_110 : decode b_S_write 110 = .ok (.ifCond .eq (7), 3) := by decide +kernel
theorem d_S_write_113 : decode b_S_write 113 = .ok (.iconst 1, 1) := by decide +kernel
theorem d_S_write_114 : decode b_S_write 114 = .ok (.goto (4), 3) := by decide +kernel
theorem d_S_write_117 : decode b_S_write 117 = .ok (.iconst 0, 1) := by decide +kernel
theorem d_S_write_118 : decode b_S_write 118 = .ok (.istore 7, 2) := by decide +kernel
theorem d_S_write_120 : decode b_S_write 120 = .ok (.iload 7, 2) := by decide +kernel
theorem d_S_write_122 : decode b_S_write 122 = .ok (.ifCond .eq (7), 3) := by decide +kernel
theorem d_S_write_125 : decode b_S_write 125 = .ok (.iconst 0, 1) := by decide +kernel
theorem d_S_write_126 : decode b_S_write 126 = .ok (.goto (7), 3) := by decide +kernel
theorem d_S_write_129 : decode b_S_write 129 = .ok (.aload_n 0, 1) := by decide +kernel
theorem d_S_write_130 : decode b_S_write 130 = .ok (.invokevirtual 49, 3) := by decide +kernel
theorem d_S_write_133 : decode b_S_write 133 = .ok (.ireturn, 1) := by decide +kernel
theorem d_S_read_0 : decode b_S_read 0 = .ok (.aload_n 0, 1) := by decide +kernel
theorem d_S_read_1 : decode b_S_read 1 = .ok (.iload_n 1, 1) := by decide +kernel
theorem d_S_read_2 : decode b_S_read 2 = .ok (.invokevirtual 52, 3) := by decide +kernel
theorem d_S_read_5 : decode b_S_read 5 = .ok (.istore_n 3, 1) := by decide +kernel
theorem d_S_read_6 : decode b_S_read 6 = .ok (.iload_n 3, 1) := by decide +kernel
theorem d_S_read_7 : decode b_S_read 7 = .ok (.ifCond .eq (10), 3) := by decide +kernel
theorem d_S_read_10 : decode b_S_read 10 = .ok (.ldc2_w 71, 3) := by decide +kernel
theorem d_S_read_13 : decode b_S_read 13 = .ok (.iload_n 3, 1) := by decide +kernel
theorem d_S_read_14 : decode b_S_read 14 = .ok (.i2l, 1) := by decide +kernel
theorem d_S_read_15 : decode b_S_read 15 = .ok (.ladd, 1) := by decide +kernel
theorem d_S_read_16 : decode b_S_read 16 = .ok (.lreturn, 1) := by decide +kernel
theorem d_S_read_17 : decode b_S_read 17 = .ok (.iload_n 2, 1) := by decide +kernel
theorem d_S_read_18 : decode b_S_read 18 = .ok (.iconst 1, 1) := by decide +kernel
theorem d_S_read_19 : decode b_S_read 19 = .ok (.if_icmp .lt (15), 3) := by decide +kernel
theorem d_S_read_22 : decode b_S_read 22 = .ok (.iload_n 2, 1) := by decide +kernel
theorem d_S_read_23 : decode b_S_read 23 = .ok (.aload_n 0, 1) := by decide +kernel
theorem d_S_read_24 : decode b_S_read 24 = .ok (.iload_n 1, 1) := by decide +kernel
theorem d_S_read_25 : decode b_S_read 25 = .ok (.invokevirtual 55, 3) := by decide +kernel
theorem d_S_read_28 : decode b_S_read 28 = .ok (.invokestatic 58, 3) := by decide +kernel
theorem d_S_read_31 : decode b_S_read 31 = .ok (.if_icmp .le (7), 3) := by decide +kernel
theorem d_S_read_34 : decode b_S_read 34 = .ok (.ldc2_w 73, 3) := by decide +kernel
theorem d_S_read_37 : decode b_S_read 37 = .ok (.lreturn, 1) := by decide +kernel
theorem d_S_read_38 : decode b_S_read 38 = .ok (.aload_n 0, 1) := by decide +kernel
theorem d_S_read_39 : decode b_S_read 39 = .ok (.getfield 12, 3) := by decide +kernel
theorem d_S_read_42 : decode b_S_read 42 = .ok (.iload_n 1, 1) := by decide +kernel
theorem d_S_read_43 : decode b_S_read 43 = .ok (.iload_n 2, 1) := by decide +kernel
theorem d_S_read_44 : decode b_S_read 44 = .ok (.invokevirtual 61, 3) := by decide +kernel
theorem d_S_read_47 : decode b_S_read 47 = .ok (.istore 4, 2) := by decide +kernel
theorem d_S_read_49 : decode b_S_read 49 = .ok (.iload 4, 2) := by decide +kernel
theorem d_S_read_51 : decode b_S_read 51 = .ok (.iconst (-1), 1) := by decide +kernel
theorem d_S_read_52 : decode b_S_read 52 = .ok (.if_icmp .ne (7), 3) := by decide +kernel
theorem d_S_read_55 : decode b_S_read 55 = .ok (.lconst 0, 1) := by decide +kernel
theorem d_S_read_56 : decode b_S_read 56 = .ok (.goto (12), 3) := by decide +kernel
theorem d_S_read_59 : decode b_S_read 59 = .ok (.aload_n 0, 1) := by decide +kernel
theorem d_S_read_60 : decode b_S_read 60 = .ok (.getfield 12, 3) := by decide +kernel
theorem d_S_read_63 : decode b_S_read 63 = .ok (.iload 4, 2) := by decide +kernel
theorem d_S_read_65 : decode b_S_read 65 = .ok (.invokevirtual 75, 3) := by decide +kernel
theorem d_S_read_68 : decode b_S_read 68 = .ok (.lreturn, 1) := by decide +kernel
theorem d_S_markChunks_0 : decode b_S_markChunks 0 = .ok (.iload_n 2, 1) := by decide +kernel
theorem d_S_markChunks_1 : decode b_S_markChunks 1 = .ok (.istore_n 3, 1) := by decide +kernel
theorem d_S_markChunks_2 : decode b_S_markChunks 2 = .ok (.iload_n 3, 1) := by decide +kernel
theorem d_S_markChunks_3 : decode b_S_markChunks 3 = .ok (.bipush 6, 2) := by decide +kernel
theorem d_S_markChunks_5 : decode b_S_markChunks 5 = .ok (.if_icmp .gt (40), 3) := by decide +kernel
theorem d_S_markChunks_8 : decode b_S_markChunks 8 = .ok (.aload_n 0, 1) := by decide +kernel
theorem d_S_markChunks_9 : decode b_S_markChunks 9 = .ok (.getfield 12, 3) := by decide +kernel
theorem d_S_markChunks_12 : decode b_S_markChunks 12 = .ok (.iload_n 1, 1) := by decide +kernel
theorem d_S_markChunks_13 : decode b_S_markChunks 13 = .ok (.iload_n 3, 1) := by decide +kernel
theorem d_S_markChunks_14 : decode b_S_markChunks 14 = .ok (.invokevirtual 61, 3) := by decide +kernel
theorem d_S_markChunks_17 : decode b_S_markChunks 17 = .ok (.istore 4, 2) := by decide +kernel
theorem d_S_markChunks_19 : decode b_S_markChunks 19 = .ok (.iload 4, 2) := by decide +kernel
theorem d_S_markChunks_21 : decode b_S_markChunks 21 = .ok (.iconst (-1), 1) := by decide +kernel
theorem d_S_markChunks_22 : decode b_S_markChunks 22 = .ok (.if_icmp .eq (17), 3) := by decide +kernel
theorem d_S_markChunks_25 : decode b_S_markChunks 25 = .ok (.aload_n 0, 1) := by decide +kernel
theorem d_S_markChunks_26 : decode b_S_markChunks 26 = .ok (.getfield 12, 3) := by decide +kernel
theorem d_S_markChunks_29 : decode b_S_markChunks 29 = .ok (.iload 4, 2) := by decide +kernel
theorem d_S_markChunks_31 : decode b_S_markChunks 31 = .ok (.invokevirtual 185, 3) := by decide +kernel
theorem d_S_markChunks_34 : decode b_S_markChunks 34 = .ok (.ifCond .ne (5), 3) := by decide +kernel
theorem d_S_markChunks_37 : decode b_S_markChunks 37 = .ok (.iconst 0, 1) := by decide +kernel
theorem d_S_markChunks_38 : decode b_S_markChunks 38 = .ok (.ireturn, 1) := by decide +kernel
theorem d_S_markChunks_39 : decode b_S_markChunks 39 = .ok (.iinc 3 (1), 3) := by decide +kernel
theorem d_S_markChunks_42 : decode b_S_markChunks 42 = .ok (.goto (-40), 3) := by decide +kernel
theorem d_S_markChunks_45 : decode b_S_markChunks 45 = .ok (.iconst 1, 1) := by decide +kernel
theorem d_S_markChunks_46 : decode b_S_markChunks 46 = .ok (.ireturn, 1) := by decide +kernel
theorem d_S_truncate_0 : decode b_S_truncate 0 = .ok (.aload_n 0, 1) := by decide +kernel
theorem d_S_truncate_1 : decode b_S_truncate 1 = .ok (.iload_n 1, 1) := by decide +kernel
theorem d_S_truncate_2 : decode b_S_truncate 2 = .ok (.invokevirtual 52, 3) := by decide +kernel
theorem d_S_truncate_5 : decode b_S_truncate 5 = .ok (.istore_n 3, 1) := by decide +kernel
theorem d_S_truncate_6 : decode b_S_truncate 6 = .ok (.iload_n 3, 1) := by decide +kernel
theorem d_S_truncate_7 : decode b_S_truncate 7 = .ok (.ifCond .eq (5), 3) := by decide +kernel
theorem d_S_truncate_10 : decode b_S_truncate 10 = .ok (.iload_n 3, 1) := by decide +kernel
theorem d_S_truncate_11 : decode b_S_truncate 11 = .ok (.ireturn, 1) := by decide +kernel
theorem d_S_truncate_12 : decode b_S_truncate 12 = .ok (.aload_n 0, 1) := by decide +kernel
theorem d_S_truncate_13 : decode b_S_truncate 13 = .ok (.iload_n 1, 1) := by decide +kernel
theorem d_S_truncate_14 : decode b_S_truncate 14 = .ok (.invokevirtual 55, 3) := by decide +kernel
theorem d_S_truncate_17 : decode b_S_truncate 17 = .ok (.invokestatic 58, 3) := by decide +kernel
theorem d_S_truncate_20 : decode b_S_truncate 20 = .ok (.istore 4, 2) := by decide +kernel
theorem d_S_truncate_22 : decode b_S_truncate 22 = .ok (.iload_n 2, 1) := by decide +kernel
theorem d_S_truncate_23 : decode b_S_truncate 23 = .ok (.ifCond .lt (9), 3) := by decide +kernel
theorem d_S_truncate_26 : decode b_S_truncate 26 = .ok (.iload_n 2, 1) := by decide +kernel
theorem d_S_truncate_27 : decode b_S_truncate 27 = .ok (.iload 4, 2) := by decide +kernel
theorem d_S_truncate_29 : decode b_S_truncate 29 = .ok (.if_icmp .le (6), 3) := by decide +kernel
theorem d_S_truncate_32 : decode b_S_truncate 32 = .ok (.bipush (-7), 2) := by decide +kernel
theorem d_S_truncate_34 : decode b_S_truncate 34 = .ok (.ireturn, 1) := by decide +kernel
theorem d_S_truncate_35 : decode b_S_truncate 35 = .ok (.iload_n 2, 1) := by decide +kernel
theorem d_S_truncate_36 : decode b_S_truncate 36 = .ok (.iload 4, 2) := by decide +kernel
theorem d_S_truncate_38 : decode b_S_truncate 38 = .ok (.if_icmp .ne (5), 3) := by decide +kernel
theorem d_S_truncate_41 : decode b_S_truncate 41 = .ok (.iconst 0, 1) := by decide +kernel
theorem d_S_truncate_42 : decode b_S_truncate 42 = .ok (.ireturn, 1) := by decide +kernel
theorem d_S_truncate_43 : decode b_S_truncate 43 = .ok (.aload_n 0, 1) := by decide +kernel
theorem d_S_truncate_44 : decode b_S_truncate 44 = .ok (.iconst 1, 1) := by decide +kernel
theorem d_S_truncate_45 : decode b_S_truncate 45 = .ok (.invokevirtual 36, 3) := by decide +kernel
theorem d_S_truncate_48 : decode b_S_truncate 48 = .ok (.istore_n 3, 1) := by decide +kernel
theorem d_S_truncate_49 : decode b_S_truncate 49 = .ok (.iload_n 3, 1) := by decide +kernel
theorem d_S_truncate_50 : decode b_S_truncate 50 = .ok (.ifCond .eq (5), 3) := by decide +kernel
theorem d_S_truncate_53 : decode b_S_truncate 53 = .ok (.iload_n 3, 1) := by decide +kernel
theorem d_S_truncate_54 : decode b_S_truncate 54 = .ok (.ireturn, 1) := by decide +kernel
theorem d_S_truncate_55 : decode b_S_truncate 55 = .ok (.aload_n 0, 1) := by decide +kernel
theorem d_S_truncate_56 : decode b_S_truncate 56 = .ok (.iload_n 1, 1) := by decide +kernel
theorem d_S_truncate_57 : decode b_S_truncate 57 = .ok (.iload_n 2, 1) := by decide +kernel
theorem d_S_truncate_58 : decode b_S_truncate 58 = .ok (.invokevirtual 67, 3) := by decide +kernel
theorem d_S_truncate_61 : decode b_S_truncate 61 = .ok (.ifCond .eq (18), 3) := by decide +kernel
theorem d_S_truncate_64 : decode b_S_truncate 64 = .ok (.aload_n 0, 1) := by decide +kernel
theorem d_S_truncate_65 : decode b_S_truncate 65 = .ok (.iload_n 1, 1) := by decide +kernel
theorem d_S_truncate_66 : decode b_S_truncate 66 = .ok (.iload_n 2, 1) := by decide +kernel
theorem d_S_truncate_67 : decode b_S_truncate 67 = .ok (.iconst 1, 1) := by decide +kernel
theorem d_S_truncate_68 : decode b_S_truncate 68 = .ok (.iadd, 1) := by decide +kernel
theorem d_S_truncate_69 : decode b_S_truncate 69 = .ok (.invokevirtual 79, 3) := by decide +kernel
theorem d_S_truncate_72 : decode b_S_truncate 72 = .ok (.ifCond .eq (7), 3) := by decide +kernel
theorem d_S_truncate_75 : decode b_S_truncate 75 = .ok (.iconst 1, 1) := by decide +kernel
theorem d_S_truncate_76 : decode b_S_truncate 76 = .ok (.goto (4), 3) := by decide +kernel
theorem d_S_truncate_79 : decode b_S_truncate 79 = .ok (.iconst 0, 1) := by decide +kernel
theorem d_S_truncate_80 : decode b_S_truncate 80 = .ok (.istore 5, 2) := by decide +kernel
theorem d_S_truncate_82 : decode b_S_truncate 82 = .ok (.iload 5, 2) := by decide +kernel
theorem d_S_truncate_84 : decode b_S_truncate 84 = .ok (.ifCond .eq (7), 3) := by decide +kernel
theorem d_S_truncate_87 : decode b_S_truncate 87 = .ok (.iconst 0, 1) := by decide +kernel
theorem d_S_truncate_88 : decode b_S_truncate 88 = .ok (.goto (7), 3) := by decide +kernel
theorem d_S_truncate_91 : decode b_S_truncate 91 = .ok (.aload_n 0, 1) := by decide +kernel
theorem d_S_truncate_92 : decode b_S_truncate 92 = .ok (.invokevirtual 49, 3) := by decide +kernel
theorem d_S_truncate_95 : decode b_S_truncate 95 = .ok (.ireturn, 1) := by decide +kernel
theorem d_S_liesIn_0 : decode b_S_liesIn 0 = .ok (.iload_n 1, 1) := by decide +kernel
theorem d_S_liesIn_1 : decode b_S_liesIn 1 = .ok (.istore_n 3, 1) := by decide +kernel
theorem d_S_liesIn_2 : decode b_S_liesIn 2 = .ok (.iconst 0, 1) := by decide +kernel
theorem d_S_liesIn_3 : decode b_S_liesIn 3 = .ok (.istore 4, 2) := by decide +kernel
theorem d_S_liesIn_5 : decode b_S_liesIn 5 = .ok (.iload 4, 2) := by decide +kernel
theorem d_S_liesIn_7 : decode b_S_liesIn 7 = .ok (.bipush 7, 2) := by decide +kernel
theorem d_S_liesIn_9 : decode b_S_liesIn 9 = .ok (.if_icmp .gt (29), 3) := by decide +kernel
theorem d_S_liesIn_12 : decode b_S_liesIn 12 = .ok (.iload_n 3, 1) := by decide +kernel
theorem d_S_liesIn_13 : decode b_S_liesIn 13 = .ok (.ifCond .eq (25), 3) := by decide +kernel
theorem d_S_liesIn_16 : decode b_S_liesIn 16 = .ok (.iload_n 3, 1) := by decide +kernel
theorem d_S_liesIn_17 : decode b_S_liesIn 17 = .ok (.iload_n 2, 1) := by decide +kernel
theorem d_S_liesIn_18 : decode b_S_liesIn 18 = .ok (.if_icmp .ne (5), 3) := by decide +kernel
theorem d_S_liesIn_21 : decode b_S_liesIn 21 = .ok (.iconst 1, 1) := by decide +kernel
theorem d_S_liesIn_22 : decode b_S_liesIn 22 = .ok (.ireturn, 1) := by decide +kernel
theorem d_S_liesIn_23 : decode b_S_liesIn 23 = .ok (.aload_n 0, 1) := by decide +kernel
theorem d_S_liesIn_24 : decode b_S_liesIn 24 = .ok (.iload_n 3, 1) := by decide +kernel
theorem d_S_liesIn_25 : decode b_S_liesIn 25 = .ok (.invokevirtual 55, 3) := by decide +kernel
theorem d_S_liesIn_28 : decode b_S_liesIn 28 = .ok (.invokestatic 101, 3) := by decide +kernel
theorem d_S_liesIn_31 : decode b_S_liesIn 31 = .ok (.istore_n 3, 1) := by decide +kernel
theorem d_S_liesIn_32 : decode b_S_liesIn 32 = .ok (.iinc 4 (1), 3) := by decide +kernel
theorem d_S_liesIn_35 : decode b_S_liesIn 35 = .ok (.goto (-30), 3) := by decide +kernel
theorem d_S_liesIn_38 : decode b_S_liesIn 38 = .ok (.iconst 0, 1) := by decide +kernel
theorem d_S_liesIn_39 : decode b_S_liesIn 39 = .ok (.ireturn, 1) := by decide +kernel
theorem d_T_withParent_0 : decode b_T_withParent 0 = .ok (.iload_n 0, 1) := by decide +kernel
theorem d_T_withParent_1 : decode b_T_withParent 1 = .ok (.sipush (-3585), 3) := by decide +kernel
theorem d_T_withParent_4 : decode b_T_withParent 4 = .ok (.iand, 1) := by decide +kernel
theorem d_T_withParent_5 : decode b_T_withParent 5 = .ok (.iload_n 1, 1) := by decide +kernel
theorem d_T_withParent_6 : decode b_T_withParent 6 = .ok (.bipush 9, 2) := by decide +kernel
theorem d_T_withParent_8 : decode b_T_withParent 8 = .ok (.ishl, 1) := by decide +kernel
theorem d_T_withParent_9 : decode b_T_withParent 9 = .ok (.ior, 1) := by decide +kernel
theorem d_T_withParent_10 : decode b_T_withParent 10 = .ok (.ireturn, 1) := by decide +kernel
theorem d_S_move_0 : decode b_S_move 0 = .ok (.aload_n 0, 1) := by decide +kernel
theorem d_S_move_1 : decode b_S_move 1 = .ok (.iload_n 1, 1) := by decide +kernel
theorem d_S_move_2 : decode b_S_move 2 = .ok (.invokevirtual 82, 3) := by decide +kernel
theorem d_S_move_5 : decode b_S_move 5 = .ok (.istore 4, 2) := by decide +kernel
theorem d_S_move_7 : decode b_S_move 7 = .ok (.iload 4, 2) := by decide +kernel
theorem d_S_move_9 : decode b_S_move 9 = .ok (.ifCond .ne (10), 3) := by decide +kernel
theorem d_S_move_12 : decode b_S_move 12 = .ok (.aload_n 0, 1) := by decide +kernel
theorem d_S_move_13 : decode b_S_move 13 = .ok (.iload_n 2, 1) := by decide +kernel
theorem d_S_move_14 : decode b_S_move 14 = .ok (.invokevirtual 24, 3) := by decide +kernel
theorem d_S_move_17 : decode b_S_move 17 = .ok (.istore 4, 2) := by decide +kernel
theorem d_S_move_19 : decode b_S_move 19 = .ok (.iload 4, 2) := by decide +kernel
theorem d_S_move_21 : decode b_S_move 21 = .ok (.ifCond .eq (6), 3) := by decide +kernel
theorem d_S_move_24 : decode b_S_move 24 = .ok (.iload 4, 2) := by decide +kernel
theorem d_S_move_26 : decode b_S_move 26 = .ok (.ireturn, 1) := by decide +kernel
theorem d_S_move_27 : decode b_S_move 27 = .ok (.aload_n 0, 1) := by decide +kernel
theorem d_S_move_28 : decode b_S_move 28 = .ok (.iload_n 2, 1) := by decide +kernel
theorem d_S_move_29 : decode b_S_move 29 = .ok (.iload_n 1, 1) := by decide +kernel
theorem d_S_move_30 : decode b_S_move 30 = .ok (.invokevirtual 85, 3) := by decide +kernel
theorem d_S_move_33 : decode b_S_move 33 = .ok (.ifCond .eq (6), 3) := by decide +kernel
theorem d_S_move_36 : decode b_S_move 36 = .ok (.bipush (-10), 2) := by decide +kernel
theorem d_S_move_38 : decode b_S_move 38 = .ok (.ireturn, 1) := by decide +kernel
theorem d_S_move_39 : decode b_S_move 39 = .ok (.aload_n 0, 1) := by decide +kernel
theorem d_S_move_40 : decode b_S_move 40 = .ok (.iload_n 2, 1) := by decide +kernel
theorem d_S_move_41 : decode b_S_move 41 = .ok (.iload_n 3, 1) := by decide +kernel
theorem d_S_move_42 : decode b_S_move 42 = .ok (.invokevirtual 28, 3) := by decide +kernel
theorem d_S_move_45 : decode b_S_move 45 = .ok (.istore 5, 2) := by decide +kernel
theorem d_S_move_47 : decode b_S_move 47 = .ok (.iload 5, 2) := by decide +kernel
theorem d_S_move_49 : decode b_S_move 49 = .ok (.ifCond .eq (12), 3) := by decide +kernel
theorem d_S_move_52 : decode b_S_move 52 = .ok (.iload 5, 2) := by decide +kernel
theorem d_S_move_54 : decode b_S_move 54 = .ok (.iload_n 1, 1) := by decide +kernel
theorem d_S_move_55 : decode b_S_move 55 = .ok (.if_icmp .eq (6), 3) := by decide +kernel
theorem d_S_move_58 : decode b_S_move 58 = .ok (.bipush (-4), 2) := by decide +kernel
theorem d_S_move_60 : decode b_S_move 60 = .ok (.ireturn, 1) := by decide +kernel
theorem d_S_move_61 : decode b_S_move 61 = .ok (.aload_n 0, 1) := by decide +kernel
theorem d_S_move_62 : decode b_S_move 62 = .ok (.iconst 1, 1) := by decide +kernel
theorem d_S_move_63 : decode b_S_move 63 = .ok (.invokevirtual 36, 3) := by decide +kernel
theorem d_S_move_66 : decode b_S_move 66 = .ok (.istore 4, 2) := by decide +kernel
theorem d_S_move_68 : decode b_S_move 68 = .ok (.iload 4, 2) := by decide +kernel
theorem d_S_move_70 : decode b_S_move 70 = .ok (.ifCond .eq (6), 3) := by decide +kernel
theorem d_S_move_73 : decode b_S_move 73 = .ok (.iload 4, 2) := by decide +kernel
theorem d_S_move_75 : decode b_S_move 75 = .ok (.ireturn, 1) := by decide +kernel
theorem d_S_move_76 : decode b_S_move 76 = .ok (.aload_n 0, 1) := by decide +kernel
theorem d_S_move_77 : decode b_S_move 77 = .ok (.getfield 12, 3) := by decide +kernel
theorem d_S_move_80 : decode b_S_move 80 = .ok (.iload_n 1, 1) := by decide +kernel
theorem d_S_move_81 : decode b_S_move 81 = .ok (.iconst 0, 1) := by decide +kernel
theorem d_S_move_82 : decode b_S_move 82 = .ok (.invokevirtual 61, 3) := by decide +kernel
theorem d_S_move_85 : decode b_S_move 85 = .ok (.istore 6, 2) := by decide +kernel
theorem d_S_move_87 : decode b_S_move 87 = .ok (.aload_n 0, 1) := by decide +kernel
theorem d_S_move_88 : decode b_S_move 88 = .ok (.iload 6, 2) := by decide +kernel
theorem d_S_move_90 : decode b_S_move 90 = .ok (.aload_n 0, 1) := by decide +kernel
theorem d_S_move_91 : decode b_S_move 91 = .ok (.iload_n 1, 1) := by decide +kernel
theorem d_S_move_92 : decode b_S_move 92 = .ok (.invokevirtual 55, 3) := by decide +kernel
theorem d_S_move_95 : decode b_S_move 95 = .ok (.iload_n 2, 1) := by decide +kernel
theorem d_S_move_96 : decode b_S_move 96 = .ok (.invokestatic 88, 3) := by decide +kernel
theorem d_S_move_99 : decode b_S_move 99 = .ok (.iload_n 3, 1) := by decide +kernel
theorem d_S_move_100 : decode b_S_move 100 = .ok (.lconst 0, 1) := by decide +kernel
theorem d_S_move_101 : decode b_S_move 101 = .ok (.invokevirtual 45, 3) := by decide +kernel
theorem d_S_move_104 : decode b_S_move 104 = .ok (.istore 7, 2) := by decide +kernel
theorem d_S_move_106 : decode b_S_move 106 = .ok (.iload 7, 2) := by decide +kernel
theorem d_S_move_108 : decode b_S_move 108 = .ok (.ifCond .eq (7), 3) := by decide +kernel
theorem d_S_move_111 : decode b_S_move 111 = .ok (.iconst 0, 1) := by decide +kernel
theorem d_S_move_112 : decode b_S_move 112 = .ok (.goto (7), 3) := by decide +kernel
theorem d_S_move_115 : decode b_S_move 115 = .ok (.aload_n 0, 1) := by decide +kernel
theorem d_S_move_116 : decode b_S_move 116 = .ok (.invokevirtual 49, 3) := by decide +kernel
theorem d_S_move_119 : decode b_S_move 119 = .ok (.ireturn, 1) := by decide +kernel
end
section
theorem d_S_objectsIn_0 : decode b_S_objectsIn 0 = .ok (.iconst 0, 1) := by decide +kernel
theorem d_S_objectsIn_1 : decode b_S_objectsIn 1 = .ok (.istore_n 2, 1) := by decide +kernel
theorem d_S_objectsIn_2 : decode b_S_objectsIn 2 = .ok (.iconst 1, 1) := by decide +kernel
theorem d_S_objectsIn_3 : decode b_S_objectsIn 3 = .ok (.istore_n 3, 1) := by decide +kernel
theorem d_S_objectsIn_4 : decode b_S_objectsIn 4 = .ok (.iload_n 3, 1) := by decide +kernel
theorem d_S_objectsIn_5 : decode b_S_objectsIn 5 = .ok (.bipush 7, 2) := by decide +kernel
theorem d_S_objectsIn_7 : decode b_S_objectsIn 7 = .ok (.if_icmp .gt (21), 3) := by decide +kernel
theorem d_S_objectsIn_10 : decode b_S_objectsIn 10 = .ok (.aload_n 0, 1) := by decide +kernel
theorem d_S_objectsIn_11 : decode b_S_objectsIn 11 = .ok (.iload_n 3, 1) := by decide +kernel
theorem d_S_objectsIn_12 : decode b_S_objectsIn 12 = .ok (.iload_n 1, 1) := by decide +kernel
theorem d_S_objectsIn_13 : decode b_S_objectsIn 13 = .ok (.invokevirtual 172, 3) := by decide +kernel
theorem d_S_objectsIn_16 : decode b_S_objectsIn 16 = .ok (.ifCond .eq (6), 3) := by decide +kernel
theorem d_S_objectsIn_19 : decode b_S_objectsIn 19 = .ok (.iinc 2 (1), 3) := by decide +kernel
theorem d_S_objectsIn_22 : decode b_S_objectsIn 22 = .ok (.iinc 3 (1), 3) := by decide +kernel
theorem d_S_objectsIn_25 : decode b_S_objectsIn 25 = .ok (.goto (-21), 3) := by decide +kernel
theorem d_S_objectsIn_28 : decode b_S_objectsIn 28 = .ok (.iload_n 2, 1) := by decide +kernel
theorem d_S_objectsIn_29 : decode b_S_objectsIn 29 = .ok (.ireturn, 1) := by decide +kernel
theorem d_S_remove_0 : decode b_S_remove 0 = .ok (.aload_n 0, 1) := by decide +kernel
theorem d_S_remove_1 : decode b_S_remove 1 = .ok (.iload_n 1, 1) := by decide +kernel
theorem d_S_remove_2 : decode b_S_remove 2 = .ok (.invokevirtual 82, 3) := by decide +kernel
theorem d_S_remove_5 : decode b_S_remove 5 = .ok (.istore_n 2, 1) := by decide +kernel
theorem d_S_remove_6 : decode b_S_remove 6 = .ok (.iload_n 2, 1) := by decide +kernel
theorem d_S_remove_7 : decode b_S_remove 7 = .ok (.ifCond .eq (5), 3) := by decide +kernel
theorem d_S_remove_10 : decode b_S_remove 10 = .ok (.iload_n 2, 1) := by decide +kernel
theorem d_S_remove_11 : decode b_S_remove 11 = .ok (.ireturn, 1) := by decide +kernel
theorem d_S_remove_12 : decode b_S_remove 12 = .ok (.aload_n 0, 1) := by decide +kernel
theorem d_S_remove_13 : decode b_S_remove 13 = .ok (.iload_n 1, 1) := by decide +kernel
theorem d_S_remove_14 : decode b_S_remove 14 = .ok (.invokevirtual 91, 3) := by decide +kernel
theorem d_S_remove_17 : decode b_S_remove 17 = .ok (.ifCond .le (6), 3) := by decide +kernel
theorem d_S_remove_20 : decode b_S_remove 20 = .ok (.bipush (-8), 2) := by decide +kernel
theorem d_S_remove_22 : decode b_S_remove 22 = .ok (.ireturn, 1) := by decide +kernel
theorem d_S_remove_23 : decode b_S_remove 23 = .ok (.aload_n 0, 1) := by decide +kernel
theorem d_S_remove_24 : decode b_S_remove 24 = .ok (.iload_n 1, 1) := by decide +kernel
theorem d_S_remove_25 : decode b_S_remove 25 = .ok (.iconst 0, 1) := by decide +kernel
theorem d_S_remove_26 : decode b_S_remove 26 = .ok (.invokevirtual 79, 3) := by decide +kernel
theorem d_S_remove_29 : decode b_S_remove 29 = .ok (.ifCond .eq (7), 3) := by decide +kernel
theorem d_S_remove_32 : decode b_S_remove 32 = .ok (.iconst 0, 1) := by decide +kernel
theorem d_S_remove_33 : decode b_S_remove 33 = .ok (.goto (7), 3) := by decide +kernel
theorem d_S_remove_36 : decode b_S_remove 36 = .ok (.aload_n 0, 1) := by decide +kernel
theorem d_S_remove_37 : decode b_S_remove 37 = .ok (.invokevirtual 49, 3) := by decide +kernel
theorem d_S_remove_40 : decode b_S_remove 40 = .ok (.ireturn, 1) := by decide +kernel
theorem d_S_find_0 : decode b_S_find 0 = .ok (.aload_n 0, 1) := by decide +kernel
theorem d_S_find_1 : decode b_S_find 1 = .ok (.iload_n 1, 1) := by decide +kernel
theorem d_S_find_2 : decode b_S_find 2 = .ok (.invokevirtual 24, 3) := by decide +kernel
theorem d_S_find_5 : decode b_S_find 5 = .ok (.istore_n 3, 1) := by decide +kernel
theorem d_S_find_6 : decode b_S_find 6 = .ok (.iload_n 3, 1) := by decide +kernel
theorem d_S_find_7 : decode b_S_find 7 = .ok (.ifCond .eq (7), 3) := by decide +kernel
theorem d_S_find_10 : decode b_S_find 10 = .ok (.iload_n 3, 1) := by decide +kernel
theorem d_S_find_11 : decode b_S_find 11 = .ok (.goto (9), 3) := by decide +kernel
theorem d_S_find_14 : decode b_S_find 14 = .ok (.aload_n 0, 1) := by decide +kernel
theorem d_S_find_15 : decode b_S_find 15 = .ok (.iload_n 1, 1) := by decide +kernel
theorem d_S_find_16 : decode b_S_find 16 = .ok (.iload_n 2, 1) := by decide +kernel
theorem d_S_find_17 : decode b_S_find 17 = .ok (.invokevirtual 28, 3) := by decide +kernel
theorem d_S_find_20 : decode b_S_find 20 = .ok (.ireturn, 1) := by decide +kernel
theorem d_S_size_0 : decode b_S_size 0 = .ok (.aload_n 0, 1) := by decide +kernel
theorem d_S_size_1 : decode b_S_size 1 = .ok (.getfield 20, 3) := by decide +kernel
theorem d_S_size_4 : decode b_S_size 4 = .ok (.ifCond .ne (6), 3) := by decide +kernel
theorem d_S_size_7 : decode b_S_size 7 = .ok (.bipush (-9), 2) := by decide +kernel
theorem d_S_size_9 : decode b_S_size 9 = .ok (.ireturn, 1) := by decide +kernel
theorem d_S_size_10 : decode b_S_size 10 = .ok (.iload_n 1, 1) := by decide +kernel
theorem d_S_size_11 : decode b_S_size 11 = .ok (.ifCond .eq (13), 3) := by decide +kernel
theorem d_S_size_14 : decode b_S_size 14 = .ok (.aload_n 0, 1) := by decide +kernel
theorem d_S_size_15 : decode b_S_size 15 = .ok (.iload_n 1, 1) := by decide +kernel
theorem d_S_size_16 : decode b_S_size 16 = .ok (.invokevirtual 94, 3) := by decide +kernel
theorem d_S_size_19 : decode b_S_size 19 = .ok (.ifCond .ne (5), 3) := by decide +kernel
theorem d_S_size_22 : decode b_S_size 22 = .ok (.iconst (-1), 1) := by decide +kernel
theorem d_S_size_23 : decode b_S_size 23 = .ok (.ireturn, 1) := by decide +kernel
theorem d_S_size_24 : decode b_S_size 24 = .ok (.aload_n 0, 1) := by decide +kernel
theorem d_S_size_25 : decode b_S_size 25 = .ok (.iload_n 1, 1) := by decide +kernel
theorem d_S_size_26 : decode b_S_size 26 = .ok (.invokevirtual 98, 3) := by decide +kernel
theorem d_S_size_29 : decode b_S_size 29 = .ok (.ifCond .eq (11), 3) := by decide +kernel
theorem d_S_size_32 : decode b_S_size 32 = .ok (.aload_n 0, 1) := by decide +kernel
theorem d_S_size_33 : decode b_S_size 33 = .ok (.iload_n 1, 1) := by decide +kernel
theorem d_S_size_34 : decode b_S_size 34 = .ok (.invokevirtual 91, 3) := by decide +kernel
theorem d_S_size_37 : decode b_S_size 37 = .ok (.goto (11), 3) := by decide +kernel
theorem d_S_size_40 : decode b_S_size 40 = .ok (.aload_n 0, 1) := by decide +kernel
theorem d_S_size_41 : decode b_S_size 41 = .ok (.iload_n 1, 1) := by decide +kernel
theorem d_S_size_42 : decode b_S_size 42 = .ok (.invokevirtual 55, 3) := by decide +kernel
theorem d_S_size_45 : decode b_S_size 45 = .ok (.invokestatic 58, 3) := by decide +kernel
theorem d_S_size_48 : decode b_S_size 48 = .ok (.ireturn, 1) := by decide +kernel
theorem d_S_parentOf_0 : decode b_S_parentOf 0 = .ok (.aload_n 0, 1) := by decide +kernel
theorem d_S_parentOf_1 : decode b_S_parentOf 1 = .ok (.iload_n 1, 1) := by decide +kernel
theorem d_S_parentOf_2 : decode b_S_parentOf 2 = .ok (.invokevirtual 82, 3) := by decide +kernel
theorem d_S_parentOf_5 : decode b_S_parentOf 5 = .ok (.istore_n 2, 1) := by decide +kernel
theorem d_S_parentOf_6 : decode b_S_parentOf 6 = .ok (.iload_n 2, 1) := by decide +kernel
theorem d_S_parentOf_7 : decode b_S_parentOf 7 = .ok (.ifCond .eq (7), 3) := by decide +kernel
theorem d_S_parentOf_10 : decode b_S_parentOf 10 = .ok (.iload_n 2, 1) := by decide +kernel
theorem d_S_parentOf_11 : decode b_S_parentOf 11 = .ok (.goto (11), 3) := by decide +kernel
theorem d_S_parentOf_14 : decode b_S_parentOf 14 = .ok (.aload_n 0, 1) := by decide +kernel
theorem d_S_parentOf_15 : decode b_S_parentOf 15 = .ok (.iload_n 1, 1) := by decide +kernel
theorem d_S_parentOf_16 : decode b_S_parentOf 16 = .ok (.invokevirtual 55, 3) := by decide +kernel
theorem d_S_parentOf_19 : decode b_S_parentOf 19 = .ok (.invokestatic 101, 3) := by decide +kernel
theorem d_S_parentOf_22 : decode b_S_parentOf 22 = .ok (.ireturn, 1) := by decide +kernel
theorem d_S_nameOf_0 : decode b_S_nameOf 0 = .ok (.aload_n 0, 1) := by decide +kernel
theorem d_S_nameOf_1 : decode b_S_nameOf 1 = .ok (.iload_n 1, 1) := by decide +kernel
theorem d_S_nameOf_2 : decode b_S_nameOf 2 = .ok (.invokevirtual 82, 3) := by decide +kernel
theorem d_S_nameOf_5 : decode b_S_nameOf 5 = .ok (.istore_n 2, 1) := by decide +kernel
theorem d_S_nameOf_6 : decode b_S_nameOf 6 = .ok (.iload_n 2, 1) := by decide +kernel
theorem d_S_nameOf_7 : decode b_S_nameOf 7 = .ok (.ifCond .eq (12), 3) := by decide +kernel
theorem d_S_nameOf_10 : decode b_S_nameOf 10 = .ok (.ldc2_w 71, 3) := by decide +kernel
theorem d_S_nameOf_13 : decode b_S_nameOf 13 = .ok (.iload_n 2, 1) := by decide +kernel
theorem d_S_nameOf_14 : decode b_S_nameOf 14 = .ok (.i2l, 1) := by decide +kernel
theorem d_S_nameOf_15 : decode b_S_nameOf 15 = .ok (.ladd, 1) := by decide +kernel
theorem d_S_nameOf_16 : decode b_S_nameOf 16 = .ok (.goto (8), 3) := by decide +kernel
theorem d_S_nameOf_19 : decode b_S_nameOf 19 = .ok (.aload_n 0, 1) := by decide +kernel
theorem d_S_nameOf_20 : decode b_S_nameOf 20 = .ok (.iload_n 1, 1) := by decide +kernel
theorem d_S_nameOf_21 : decode b_S_nameOf 21 = .ok (.invokevirtual 104, 3) := by decide +kernel
theorem d_S_nameOf_24 : decode b_S_nameOf 24 = .ok (.lreturn, 1) := by decide +kernel
theorem d_C_countLive_0 : decode b_C_countLive 0 = .ok (.iconst 0, 1) := by decide +kernel
theorem d_C_countLive_1 : decode b_C_countLive 1 = .ok (.istore_n 1, 1) := by decide +kernel
theorem d_C_countLive_2 : decode b_C_countLive 2 = .ok (.iconst 0, 1) := by decide +kernel
theorem d_C_countLive_3 : decode b_C_countLive 3 = .ok (.istore_n 2, 1) := by decide +kernel
theorem d_C_countLive_4 : decode b_C_countLive 4 = .ok (.iload_n 2, 1) := by decide +kernel
theorem d_C_countLive_5 : decode b_C_countLive 5 = .ok (.bipush 6, 2) := by decide +kernel
theorem d_C_countLive_7 : decode b_C_countLive 7 = .ok (.if_icmp .ge (17), 3) := by decide +kernel
theorem d_C_countLive_10 : decode b_C_countLive 10 = .ok (.iload_n 1, 1) := by decide +kernel
theorem d_C_countLive_11 : decode b_C_countLive 11 = .ok (.aload_n 0, 1) := by decide +kernel
theorem d_C_countLive_12 : decode b_C_countLive 12 = .ok (.iload_n 2, 1) := by decide +kernel
theorem d_C_countLive_13 : decode b_C_countLive 13 = .ok (.invokevirtual 83, 3) := by decide +kernel
theorem d_C_countLive_16 : decode b_C_countLive 16 = .ok (.iadd, 1) := by decide +kernel
theorem d_C_countLive_17 : decode b_C_countLive 17 = .ok (.istore_n 1, 1) := by decide +kernel
theorem d_C_countLive_18 : decode b_C_countLive 18 = .ok (.iinc 2 (1), 3) := by decide +kernel
theorem d_C_countLive_21 : decode b_C_countLive 21 = .ok (.goto (-17), 3) := by decide +kernel
theorem d_C_countLive_24 : decode b_C_countLive 24 = .ok (.iload_n 1, 1) := by decide +kernel
theorem d_C_countLive_25 : decode b_C_countLive 25 = .ok (.ireturn, 1) := by decide +kernel
theorem d_C_dropRegion_0 : decode b_C_dropRegion 0 = .ok (.aload_n 0, 1) := by decide +kernel
theorem d_C_dropRegion_1 : decode b_C_dropRegion 1 = .ok (.invokevirtual 91, 3) := by decide +kernel
theorem d_C_dropRegion_4 : decode b_C_dropRegion 4 = .ok (.ifCond .ne (5), 3) := by decide +kernel
theorem d_C_dropRegion_7 : decode b_C_dropRegion 7 = .ok (.iconst 0, 1) := by decide +kernel
theorem d_C_dropRegion_8 : decode b_C_dropRegion 8 = .ok (.ireturn, 1) := by decide +kernel
theorem d_C_dropRegion_9 : decode b_C_dropRegion 9 = .ok (.aload_n 0, 1) := by decide +kernel
theorem d_C_dropRegion_10 : decode b_C_dropRegion 10 = .ok (.iconst 0, 1) := by decide +kernel
theorem d_C_dropRegion_11 : decode b_C_dropRegion 11 = .ok (.putfield 38, 3) := by decide +kernel
theorem d_C_dropRegion_14 : decode b_C_dropRegion 14 = .ok (.iconst 1, 1) := by decide +kernel
theorem d_C_dropRegion_15 : decode b_C_dropRegion 15 = .ok (.ireturn, 1) := by decide +kernel
theorem d_C_fillRegion_0 : decode b_C_fillRegion 0 = .ok (.aload_n 0, 1) := by decide +kernel
theorem d_C_fillRegion_1 : decode b_C_fillRegion 1 = .ok (.invokevirtual 91, 3) := by decide +kernel
theorem d_C_fillRegion_4 : decode b_C_fillRegion 4 = .ok (.ifCond .ne (5), 3) := by decide +kernel
theorem d_C_fillRegion_7 : decode b_C_fillRegion 7 = .ok (.iconst 0, 1) := by decide +kernel
theorem d_C_fillRegion_8 : decode b_C_fillRegion 8 = .ok (.ireturn, 1) := by decide +kernel
theorem d_C_fillRegion_9 : decode b_C_fillRegion 9 = .ok (.aload_n 0, 1) := by decide +kernel
theorem d_C_fillRegion_10 : decode b_C_fillRegion 10 = .ok (.iconst 1, 1) := by decide +kernel
theorem d_C_fillRegion_11 : decode b_C_fillRegion 11 = .ok (.putfield 38, 3) := by decide +kernel
theorem d_C_fillRegion_14 : decode b_C_fillRegion 14 = .ok (.iconst 0, 1) := by decide +kernel
theorem d_C_fillRegion_15 : decode b_C_fillRegion 15 = .ok (.istore_n 1, 1) := by decide +kernel
theorem d_C_fillRegion_16 : decode b_C_fillRegion 16 = .ok (.iload_n 1, 1) := by decide +kernel
theorem d_C_fillRegion_17 : decode b_C_fillRegion 17 = .ok (.bipush 6, 2) := by decide +kernel
theorem d_C_fillRegion_19 : decode b_C_fillRegion 19 = .ok (.if_icmp .ge (16), 3) := by decide +kernel
theorem d_C_fillRegion_22 : decode b_C_fillRegion 22 = .ok (.aload_n 0, 1) := by decide +kernel
theorem d_C_fillRegion_23 : decode b_C_fillRegion 23 = .ok (.getfield 35, 3) := by decide +kernel
theorem d_C_fillRegion_26 : decode b_C_fillRegion 26 = .ok (.iload_n 1, 1) := by decide +kernel
theorem d_C_fillRegion_27 : decode b_C_fillRegion 27 = .ok (.iconst 0, 1) := by decide +kernel
theorem d_C_fillRegion_28 : decode b_C_fillRegion 28 = .ok (.bastore, 1) := by decide +kernel
theorem d_C_fillRegion_29 : decode b_C_fillRegion 29 = .ok (.iinc 1 (1), 3) := by decide +kernel
theorem d_C_fillRegion_32 : decode b_C_fillRegion 32 = .ok (.goto (-16), 3) := by decide +kernel
theorem d_C_fillRegion_35 : decode b_C_fillRegion 35 = .ok (.iconst 1, 1) := by decide +kernel
theorem d_C_fillRegion_36 : decode b_C_fillRegion 36 = .ok (.ireturn, 1) := by decide +kernel
theorem d_S_checkpoint_0 : decode b_S_checkpoint 0 = .ok (.aload_n 0, 1) := by decide +kernel
theorem d_S_checkpoint_1 : decode b_S_checkpoint 1 = .ok (.getfield 20, 3) := by decide +kernel
theorem d_S_checkpoint_4 : decode b_S_checkpoint 4 = .ok (.ifCond .ne (6), 3) := by decide +kernel
theorem d_S_checkpoint_7 : decode b_S_checkpoint 7 = .ok (.bipush (-9), 2) := by decide +kernel
theorem d_S_checkpoint_9 : decode b_S_checkpoint 9 = .ok (.ireturn, 1) := by decide +kernel
theorem d_S_checkpoint_10 : decode b_S_checkpoint 10 = .ok (.aload_n 0, 1) := by decide +kernel
theorem d_S_checkpoint_11 : decode b_S_checkpoint 11 = .ok (.getfield 12, 3) := by decide +kernel
theorem d_S_checkpoint_14 : decode b_S_checkpoint 14 = .ok (.invokevirtual 107, 3) := by decide +kernel
theorem d_S_checkpoint_17 : decode b_S_checkpoint 17 = .ok (.ifCond .eq (23), 3) := by decide +kernel
theorem d_S_checkpoint_20 : decode b_S_checkpoint 20 = .ok (.aload_n 0, 1) := by decide +kernel
theorem d_S_checkpoint_21 : decode b_S_checkpoint 21 = .ok (.getfield 12, 3) := by decide +kernel
theorem d_S_checkpoint_24 : decode b_S_checkpoint 24 = .ok (.invokevirtual 111, 3) := by decide +kernel
theorem d_S_checkpoint_27 : decode b_S_checkpoint 27 = .ok (.ifCond .eq (13), 3) := by decide +kernel
theorem d_S_checkpoint_30 : decode b_S_checkpoint 30 = .ok (.aload_n 0, 1) := by decide +kernel
theorem d_S_checkpoint_31 : decode b_S_checkpoint 31 = .ok (.getfield 12, 3) := by decide +kernel
theorem d_S_checkpoint_34 : decode b_S_checkpoint 34 = .ok (.invokevirtual 114, 3) := by decide +kernel
theorem d_S_checkpoint_37 : decode b_S_checkpoint 37 = .ok (.goto (7), 3) := by decide +kernel
theorem d_S_checkpoint_40 : decode b_S_checkpoint 40 = .ok (.aload_n 0, 1) := by decide +kernel
theorem d_S_checkpoint_41 : decode b_S_checkpoint 41 = .ok (.invokevirtual 49, 3) := by decide +kernel
theorem d_S_checkpoint_44 : decode b_S_checkpoint 44 = .ok (.ireturn, 1) := by decide +kernel
theorem d_C_countGood_0 : decode b_C_countGood 0 = .ok (.iconst 0, 1) := by decide +kernel
theorem d_C_countGood_1 : decode b_C_countGood 1 = .ok (.istore_n 1, 1) := by decide +kernel
theorem d_C_countGood_2 : decode b_C_countGood 2 = .ok (.iconst 0, 1) := by decide +kernel
theorem d_C_countGood_3 : decode b_C_countGood 3 = .ok (.istore_n 2, 1) := by decide +kernel
theorem d_C_countGood_4 : decode b_C_countGood 4 = .ok (.iload_n 2, 1) := by decide +kernel
theorem d_C_countGood_5 : decode b_C_countGood 5 = .ok (.bipush 6, 2) := by decide +kernel
theorem d_C_countGood_7 : decode b_C_countGood 7 = .ok (.if_icmp .ge (21), 3) := by decide +kernel
theorem d_C_countGood_10 : decode b_C_countGood 10 = .ok (.aload_n 0, 1) := by decide +kernel
theorem d_C_countGood_11 : decode b_C_countGood 11 = .ok (.getfield 32, 3) := by decide +kernel
theorem d_C_countGood_14 : decode b_C_countGood 14 = .ok (.iload_n 2, 1) := by decide +kernel
theorem d_C_countGood_15 : decode b_C_countGood 15 = .ok (.baload, 1) := by decide +kernel
theorem d_C_countGood_16 : decode b_C_countGood 16 = .ok (.ifCond .ne (6), 3) := by decide +kernel
theorem d_C_countGood_19 : decode b_C_countGood 19 = .ok (.iinc 1 (1), 3) := by decide +kernel
theorem d_C_countGood_22 : decode b_C_countGood 22 = .ok (.iinc 2 (1), 3) := by decide +kernel
theorem d_C_countGood_25 : decode b_C_countGood 25 = .ok (.goto (-21), 3) := by decide +kernel
theorem d_C_countGood_28 : decode b_C_countGood 28 = .ok (.iload_n 1, 1) := by decide +kernel
theorem d_C_countGood_29 : decode b_C_countGood 29 = .ok (.ireturn, 1) := by decide +kernel
theorem d_C_countGoodTouched_0 : decode b_C_countGoodTouched 0 = .ok (.iconst 0, 1) := by decide +kernel
theorem d_C_countGoodTouched_1 : decode b_C_countGoodTouched 1 = .ok (.istore_n 1, 1) := by decide +kernel
theorem d_C_countGoodTouched_2 : decode b_C_countGoodTouched 2 = .ok (.iconst 0, 1) := by decide +kernel
theorem d_C_countGoodTouched_3 : decode b_C_countGoodTouched 3 = .ok (.istore_n 2, 1) := by decide +kernel
theorem d_C_countGoodTouched_4 : decode b_C_countGoodTouched 4 = .ok (.iload_n 2, 1) := by decide +kernel
theorem d_C_countGoodTouched_5 : decode b_C_countGoodTouched 5 = .ok (.bipush 6, 2) := by decide +kernel
theorem d_C_countGoodTouched_7 : decode b_C_countGoodTouched 7 = .ok (.if_icmp .ge (30), 3) := by decide +kernel
theorem d_C_countGoodTouched_10 : decode b_C_countGoodTouched 10 = .ok (.aload_n 0, 1) := by decide +kernel
theorem d_C_countGoodTouched_11 : decode b_C_countGoodTouched 11 = .ok (.getfield 32, 3) := by decide +kernel
theorem d_C_countGoodTouched_14 : decode b_C_countGoodTouched 14 = .ok (.iload_n 2, 1) := by decide +kernel
theorem d_C_countGoodTouched_15 : decode b_C_countGoodTouched 15 = .ok (.baload, 1) := by decide +kernel
theorem d_C_countGoodTouched_16 : decode b_C_countGoodTouched 16 = .ok (.ifCond .ne (15), 3) := by decide +kernel
theorem d_C_countGoodTouched_19 : decode b_C_countGoodTouched 19 = .ok (.aload_n 0, 1) := by decide +kernel
theorem d_C_countGoodTouched_20 : decode b_C_countGoodTouched 20 = .ok (.getfield 35, 3) := by decide +kernel
theorem d_C_countGoodTouched_23 : decode b_C_countGoodTouched 23 = .ok (.iload_n 2, 1) := by decide +kernel
theorem d_C_countGoodTouched_24 : decode b_C_countGoodTouched 24 = .ok (.baload, 1) := by decide +kernel
theorem d_C_countGoodTouched_25 : decode b_C_countGoodTouched 25 = .ok (.ifCond .eq (6), 3) := by decide +kernel
theorem d_C_countGoodTouched_28 : decode b_C_countGoodTouched 28 = .ok (.iinc 1 (1), 3) := by decide +kernel
theorem d_C_countGoodTouched_31 : decode b_C_countGoodTouched 31 = .ok (.iinc 2 (1), 3) := by decide +kernel
theorem d_C_countGoodTouched_34 : decode b_C_countGoodTouched 34 = .ok (.goto (-30), 3) := by decide +kernel
theorem d_C_countGoodTouched_37 : decode b_C_countGoodTouched 37 = .ok (.iload_n 1, 1) := by decide +kernel
theorem d_C_countGoodTouched_38 : decode b_C_countGoodTouched 38 = .ok (.ireturn, 1) := by decide +kernel
theorem d_S_markStale_0 : decode b_S_markStale 0 = .ok (.iconst 0, 1) := by decide +kernel
theorem d_S_markStale_1 : decode b_S_markStale 1 = .ok (.istore_n 1, 1) := by decide +kernel
theorem d_S_markStale_2 : decode b_S_markStale 2 = .ok (.iload_n 1, 1) := by decide +kernel
theorem d_S_markStale_3 : decode b_S_markStale 3 = .ok (.bipush 48, 2) := by decide +kernel
theorem d_S_markStale_5 : decode b_S_markStale 5 = .ok (.if_icmp .ge (31), 3) := by decide +kernel
theorem d_S_markStale_8 : decode b_S_markStale 8 = .ok (.aload_n 0, 1) := by decide +kernel
theorem d_S_markStale_9 : decode b_S_markStale 9 = .ok (.getfield 16, 3) := by decide +kernel
theorem d_S_markStale_12 : decode b_S_markStale 12 = .ok (.iload_n 1, 1) := by decide +kernel
theorem d_S_markStale_13 : decode b_S_markStale 13 = .ok (.baload, 1) := by decide +kernel
theorem d_S_markStale_14 : decode b_S_markStale 14 = .ok (.ifCond .eq (16), 3) := by decide +kernel
theorem d_S_markStale_17 : decode b_S_markStale 17 = .ok (.aload_n 0, 1) := by decide +kernel
theorem d_S_markStale_18 : decode b_S_markStale 18 = .ok (.getfield 12, 3) := by decide +kernel
theorem d_S_markStale_21 : decode b_S_markStale 21 = .ok (.iload_n 1, 1) := by decide +kernel
theorem d_S_markStale_22 : decode b_S_markStale 22 = .ok (.invokevirtual 185, 3) := by decide +kernel
theorem d_S_markStale_25 : decode b_S_markStale 25 = .ok (.ifCond .ne (5), 3) := by decide +kernel
theorem d_S_markStale_28 : decode b_S_markStale 28 = .ok (.iconst 0, 1) := by decide +kernel
theorem d_S_markStale_29 : decode b_S_markStale 29 = .ok (.ireturn, 1) := by decide +kernel
theorem d_S_markStale_30 : decode b_S_markStale 30 = .ok (.iinc 1 (1), 3) := by decide +kernel
theorem d_S_markStale_33 : decode b_S_markStale 33 = .ok (.goto (-31), 3) := by decide +kernel
theorem d_S_markStale_36 : decode b_S_markStale 36 = .ok (.iconst 1, 1) := by decide +kernel
theorem d_S_markStale_37 : decode b_S_markStale 37 = .ok (.ireturn, 1) := by decide +kernel
theorem d_T_follow_0 : decode b_T_follow 0 = .ok (.iload_n 0, 1) := by decide +kernel
theorem d_T_follow_1 : decode b_T_follow 1 = .ok (.bipush 63, 2) := by decide +kernel
theorem d_T_follow_3 : decode b_T_follow 3 = .ok (.iand, 1) := by decide +kernel
theorem d_T_follow_4 : decode b_T_follow 4 = .ok (.iload_n 1, 1) := by decide +kernel
theorem d_T_follow_5 : decode b_T_follow 5 = .ok (.bipush 63, 2) := by decide +kernel
theorem d_T_follow_7 : decode b_T_follow 7 = .ok (.iand, 1) := by decide +kernel
theorem d_T_follow_8 : decode b_T_follow 8 = .ok (.if_icmp .ne (22), 3) := by decide +kernel
theorem d_T_follow_11 : decode b_T_follow 11 = .ok (.iload_n 0, 1) := by decide +kernel
theorem d_T_follow_12 : decode b_T_follow 12 = .ok (.invokestatic 14, 3) := by decide +kernel
theorem d_T_follow_15 : decode b_T_follow 15 = .ok (.iload_n 1, 1) := by decide +kernel
theorem d_T_follow_16 : decode b_T_follow 16 = .ok (.sipush 192, 3) := by decide +kernel
theorem d_T_follow_19 : decode b_T_follow 19 = .ok (.iand, 1) := by decide +kernel
theorem d_T_follow_20 : decode b_T_follow 20 = .ok (.bipush 6, 2) := by decide +kernel
theorem d_T_follow_22 : decode b_T_follow 22 = .ok (.ishr, 1) := by decide +kernel
theorem d_T_follow_23 : decode b_T_follow 23 = .ok (.if_icmp .ne (7), 3) := by decide +kernel
theorem d_T_follow_26 : decode b_T_follow 26 = .ok (.iconst 1, 1) := by decide +kernel
theorem d_T_follow_27 : decode b_T_follow 27 = .ok (.goto (4), 3) := by decide +kernel
theorem d_T_follow_30 : decode b_T_follow 30 = .ok (.iconst 0, 1) := by decide +kernel
theorem d_T_follow_31 : decode b_T_follow 31 = .ok (.ireturn, 1) := by decide +kernel
theorem d_C_hasSuccessor_0 : decode b_C_hasSuccessor 0 = .ok (.iconst 0, 1) := by decide +kernel
theorem d_C_hasSuccessor_1 : decode b_C_hasSuccessor 1 = .ok (.istore_n 2, 1) := by decide +kernel
theorem d_C_hasSuccessor_2 : decode b_C_hasSuccessor 2 = .ok (.iload_n 2, 1) := by decide +kernel
theorem d_C_hasSuccessor_3 : decode b_C_hasSuccessor 3 = .ok (.bipush 48, 2) := by decide +kernel
theorem d_C_hasSuccessor_5 : decode b_C_hasSuccessor 5 = .ok (.if_icmp .ge (37), 3) := by decide +kernel
theorem d_C_hasSuccessor_8 : decode b_C_hasSuccessor 8 = .ok (.aload_n 0, 1) := by decide +kernel
theorem d_C_hasSuccessor_9 : decode b_C_hasSuccessor 9 = .ok (.iload_n 2, 1) := by decide +kernel
theorem d_C_hasSuccessor_10 : decode b_C_hasSuccessor 10 = .ok (.invokevirtual 69, 3) := by decide +kernel
theorem d_C_hasSuccessor_13 : decode b_C_hasSuccessor 13 = .ok (.ifCond .eq (23), 3) := by decide +kernel
theorem d_C_hasSuccessor_16 : decode b_C_hasSuccessor 16 = .ok (.aload_n 0, 1) := by decide +kernel
theorem d_C_hasSuccessor_17 : decode b_C_hasSuccessor 17 = .ok (.getfield 9, 3) := by decide +kernel
theorem d_C_hasSuccessor_20 : decode b_C_hasSuccessor 20 = .ok (.iload_n 1, 1) := by decide +kernel
theorem d_C_hasSuccessor_21 : decode b_C_hasSuccessor 21 = .ok (.iaload, 1) := by decide +kernel
theorem d_C_hasSuccessor_22 : decode b_C_hasSuccessor 22 = .ok (.aload_n 0, 1) := by decide +kernel
theorem d_C_hasSuccessor_23 : decode b_C_hasSuccessor 23 = .ok (.getfield 9, 3) := by decide +kernel
theorem d_C_hasSuccessor_26 : decode b_C_hasSuccessor 26 = .ok (.iload_n 2, 1) := by decide +kernel
theorem d_C_hasSuccessor_27 : decode b_C_hasSuccessor 27 = .ok (.iaload, 1) := by decide +kernel
theorem d_C_hasSuccessor_28 : decode b_C_hasSuccessor 28 = .ok (.invokestatic 79, 3) := by decide +kernel
theorem d_C_hasSuccessor_31 : decode b_C_hasSuccessor 31 = .ok (.ifCond .eq (5), 3) := by decide +kernel
theorem d_C_hasSuccessor_34 : decode b_C_hasSuccessor 34 = .ok (.iconst 1, 1) := by decide +kernel
theorem d_C_hasSuccessor_35 : decode b_C_hasSuccessor 35 = .ok (.ireturn, 1) := by decide +kernel
theorem d_C_hasSuccessor_36 : decode b_C_hasSuccessor 36 = .ok (.iinc 2 (1), 3) := by decide +kernel
theorem d_C_hasSuccessor_39 : decode b_C_hasSuccessor 39 = .ok (.goto (-37), 3) := by decide +kernel
theorem d_C_hasSuccessor_42 : decode b_C_hasSuccessor 42 = .ok (.iconst 0, 1) := by decide +kernel
theorem d_C_hasSuccessor_43 : decode b_C_hasSuccessor 43 = .ok (.ireturn, 1) := by decide +kernel
theorem d_C_latestHeader_0 : decode b_C_latestHeader 0 = .ok (.iconst 0, 1) := by decide +kernel
theorem d_C_latestHeader_1 : decode b_C_latestHeader 1 = .ok (.istore_n 2, 1) := by decide +kernel
theorem d_C_latestHeader_2 : decode b_C_latestHeader 2 = .ok (.iload_n 2, 1) := by decide +kernel
theorem d_C_latestHeader_3 : decode b_C_latestHeader 3 = .ok (.bipush 48, 2) := by decide +kernel
theorem d_C_latestHeader_5 : decode b_C_latestHeader 5 = .ok (.if_icmp .ge (41), 3) := by decide +kernel
theorem d_C_latestHeader_8 : decode b_C_latestHeader 8 = .ok (.aload_n 0, 1) := by decide +kernel
theorem d_C_latestHeader_9 : decode b_C_latestHeader 9 = .ok (.iload_n 2, 1) := by decide +kernel
theorem d_C_latestHeader_10 : decode b_C_latestHeader 10 = .ok (.invokevirtual 69, 3) := by decide +kernel
theorem d_C_latestHeader_13 : decode b_C_latestHeader 13 = .ok (.ifCond .eq (27), 3) := by decide +kernel
theorem d_C_latestHeader_16 : decode b_C_latestHeader 16 = .ok (.aload_n 0, 1) := by decide +kernel
theorem d_C_latestHeader_17 : decode b_C_latestHeader 17 = .ok (.getfield 9, 3) := by decide +kernel
theorem d_C_latestHeader_20 : decode b_C_latestHeader 20 = .ok (.iload_n 2, 1) := by decide +kernel
theorem d_C_latestHeader_21 : decode b_C_latestHeader 21 = .ok (.iaload, 1) := by decide +kernel
theorem d_C_latestHeader_22 : decode b_C_latestHeader 22 = .ok (.iload_n 1, 1) := by decide +kernel
theorem d_C_latestHeader_23 : decode b_C_latestHeader 23 = .ok (.iconst 0, 1) := by decide +kernel
theorem d_C_latestHeader_24 : decode b_C_latestHeader 24 = .ok (.invokestatic 72, 3) := by decide +kernel
theorem d_C_latestHeader_27 : decode b_C_latestHeader 27 = .ok (.ifCond .eq (13), 3) := by decide +kernel
theorem d_C_latestHeader_30 : decode b_C_latestHeader 30 = .ok (.aload_n 0, 1) := by decide +kernel
theorem d_C_latestHeader_31 : decode b_C_latestHeader 31 = .ok (.iload_n 2, 1) := by decide +kernel
theorem d_C_latestHeader_32 : decode b_C_latestHeader 32 = .ok (.invokevirtual 76, 3) := by decide +kernel
theorem d_C_latestHeader_35 : decode b_C_latestHeader 35 = .ok (.ifCond .ne (5), 3) := by decide +kernel
theorem d_C_latestHeader_38 : decode b_C_latestHeader 38 = .ok (.iload_n 2, 1) := by decide +kernel
theorem d_C_latestHeader_39 : decode b_C_latestHeader 39 = .ok (.ireturn, 1) := by decide +kernel
theorem d_C_latestHeader_40 : decode b_C_latestHeader 40 = .ok (.iinc 2 (1), 3) := by decide +kernel
theorem d_C_latestHeader_43 : decode b_C_latestHeader 43 = .ok (.goto (-41), 3) := by decide +kernel
theorem d_C_latestHeader_46 : decode b_C_latestHeader 46 = .ok (.iconst (-1), 1) := by decide +kernel
theorem d_C_latestHeader_47 : decode b_C_latestHeader 47 = .ok (.ireturn, 1) := by decide +kernel
theorem d_T_chunk_0 : decode b_T_chunk 0 = .ok (.iload_n 0, 1) := by decide +kernel
theorem d_T_chunk_1 : decode b_T_chunk 1 = .ok (.iconst 3, 1) := by decide +kernel
theorem d_T_chunk_2 : decode b_T_chunk 2 = .ok (.ishr, 1) := by decide +kernel
theorem d_T_chunk_3 : decode b_T_chunk 3 = .ok (.bipush 7, 2) := by decide +kernel
theorem d_T_chunk_5 : decode b_T_chunk 5 = .ok (.iand, 1) := by decide +kernel
theorem d_T_chunk_6 : decode b_T_chunk 6 = .ok (.ireturn, 1) := by decide +kernel
theorem d_T_object_0 : decode b_T_object 0 = .ok (.iload_n 0, 1) := by decide +kernel
theorem d_T_object_1 : decode b_T_object 1 = .ok (.bipush 7, 2) := by decide +kernel
theorem d_T_object_3 : decode b_T_object 3 = .ok (.iand, 1) := by decide +kernel
theorem d_T_object_4 : decode b_T_object 4 = .ok (.ireturn, 1) := by decide +kernel
theorem d_S_isBeyondFile_0 : decode b_S_isBeyondFile 0 = .ok (.aload_n 0, 1) := by decide +kernel
theorem d_S_isBeyondFile_1 : decode b_S_isBeyondFile 1 = .ok (.getfield 12, 3) := by decide +kernel
theorem d_S_isBeyondFile_4 : decode b_S_isBeyondFile 4 = .ok (.getfield 154, 3) := by decide +kernel
theorem d_S_isBeyondFile_7 : decode b_S_isBeyondFile 7 = .ok (.iload_n 1, 1) := by decide +kernel
theorem d_S_isBeyondFile_8 : decode b_S_isBeyondFile 8 = .ok (.iaload, 1) := by decide +kernel
theorem d_S_isBeyondFile_9 : decode b_S_isBeyondFile 9 = .ok (.invokestatic 228, 3) := by decide +kernel
theorem d_S_isBeyondFile_12 : decode b_S_isBeyondFile 12 = .ok (.istore_n 2, 1) := by decide +kernel
theorem d_S_isBeyondFile_13 : decode b_S_isBeyondFile 13 = .ok (.iload_n 2, 1) := by decide +kernel
theorem d_S_isBeyondFile_14 : decode b_S_isBeyondFile 14 = .ok (.ifCond .ne (5), 3) := by decide +kernel
theorem d_S_isBeyondFile_17 : decode b_S_isBeyondFile 17 = .ok (.iconst 0, 1) := by decide +kernel
theorem d_S_isBeyondFile_18 : decode b_S_isBeyondFile 18 = .ok (.ireturn, 1) := by decide +kernel
theorem d_S_isBeyondFile_19 : decode b_S_isBeyondFile 19 = .ok (.aload_n 0, 1) := by decide +kernel
theorem d_S_isBeyondFile_20 : decode b_S_isBeyondFile 20 = .ok (.getfield 12, 3) := by decide +kernel
theorem d_S_isBeyondFile_23 : decode b_S_isBeyondFile 23 = .ok (.aload_n 0, 1) := by decide +kernel
theorem d_S_isBeyondFile_24 : decode b_S_isBeyondFile 24 = .ok (.getfield 12, 3) := by decide +kernel
theorem d_S_isBeyondFile_27 : decode b_S_isBeyondFile 27 = .ok (.getfield 154, 3) := by decide +kernel
theorem d_S_isBeyondFile_30 : decode b_S_isBeyondFile 30 = .ok (.iload_n 1, 1) := by decide +kernel
theorem d_S_isBeyondFile_31 : decode b_S_isBeyondFile 31 = .ok (.iaload, 1) := by decide +kernel
theorem d_S_isBeyondFile_32 : decode b_S_isBeyondFile 32 = .ok (.invokestatic 231, 3) := by decide +kernel
theorem d_S_isBeyondFile_35 : decode b_S_isBeyondFile 35 = .ok (.invokevirtual 234, 3) := by decide +kernel
theorem d_S_isBeyondFile_38 : decode b_S_isBeyondFile 38 = .ok (.istore_n 3, 1) := by decide +kernel
theorem d_S_isBeyondFile_39 : decode b_S_isBeyondFile 39 = .ok (.iload_n 3, 1) := by decide +kernel
theorem d_S_isBeyondFile_40 : decode b_S_isBeyondFile 40 = .ok (.iconst (-1), 1) := by decide +kernel
theorem d_S_isBeyondFile_41 : decode b_S_isBeyondFile 41 = .ok (.if_icmp .eq (19), 3) := by decide +kernel
theorem d_S_isBeyondFile_44 : decode b_S_isBeyondFile 44 = .ok (.iload_n 2, 1) := by decide +kernel
theorem d_S_isBeyondFile_45 : decode b_S_isBeyondFile 45 = .ok (.aload_n 0, 1) := by decide +kernel
theorem d_S_isBeyondFile_46 : decode b_S_isBeyondFile 46 = .ok (.getfield 12, 3) := by decide +kernel
theorem d_S_isBeyondFile_49 : decode b_S_isBeyondFile 49 = .ok (.getfield 154, 3) := by decide +kernel
theorem d_S_isBeyondFile_52 : decode b_S_isBeyondFile 52 = .ok (.iload_n 3, 1) := by decide +kernel
theorem d_S_isBeyondFile_53 : decode b_S_isBeyondFile 53 = .ok (.iaload, 1) := by decide +kernel
theorem d_S_isBeyondFile_54 : decode b_S_isBeyondFile 54 = .ok (.invokestatic 58, 3) := by decide +kernel
theorem d_S_isBeyondFile_57 : decode b_S_isBeyondFile 57 = .ok (.if_icmp .le (7), 3) := by decide +kernel
theorem d_S_isBeyondFile_60 : decode b_S_isBeyondFile 60 = .ok (.iconst 1, 1) := by decide +kernel
theorem d_S_isBeyondFile_61 : decode b_S_isBeyondFile 61 = .ok (.goto (4), 3) := by decide +kernel
theorem d_S_isBeyondFile_64 : decode b_S_isBeyondFile 64 = .ok (.iconst 0, 1) := by decide +kernel
theorem d_S_isBeyondFile_65 : decode b_S_isBeyondFile 65 = .ok (.ireturn, 1) := by decide +kernel
end
section
theorem d_S_settleStale_0 : decode b_S_settleStale 0 = .ok (.iconst 0, 1) := by decide +kernel
theorem d_S_settleStale_1 : decode b_S_settleStale 1 = .ok (.istore_n 1, 1) := by decide +kernel
theorem d_S_settleStale_2 : decode b_S_settleStale 2 = .ok (.iload_n 1, 1) := by decide +kernel
theorem d_S_settleStale_3 : decode b_S_settleStale 3 = .ok (.bipush 48, 2) := by decide +kernel
theorem d_S_settleStale_5 : decode b_S_settleStale 5 = .ok (.if_icmp .ge (50), 3) := by decide +kernel
theorem d_S_settleStale_8 : decode b_S_settleStale 8 = .ok (.aload_n 0, 1) := by decide +kernel
theorem d_S_settleStale_9 : decode b_S_settleStale 9 = .ok (.getfield 16, 3) := by decide +kernel
theorem d_S_settleStale_12 : decode b_S_settleStale 12 = .ok (.iload_n 1, 1) := by decide +kernel
theorem d_S_settleStale_13 : decode b_S_settleStale 13 = .ok (.aload_n 0, 1) := by decide +kernel
theorem d_S_settleStale_14 : decode b_S_settleStale 14 = .ok (.getfield 12, 3) := by decide +kernel
theorem d_S_settleStale_17 : decode b_S_settleStale 17 = .ok (.iload_n 1, 1) := by decide +kernel
theorem d_S_settleStale_18 : decode b_S_settleStale 18 = .ok (.invokevirtual 216, 3) := by decide +kernel
theorem d_S_settleStale_21 : decode b_S_settleStale 21 = .ok (.ifCond .eq (26), 3) := by decide +kernel
theorem d_S_settleStale_24 : decode b_S_settleStale 24 = .ok (.aload_n 0, 1) := by decide +kernel
theorem d_S_settleStale_25 : decode b_S_settleStale 25 = .ok (.getfield 12, 3) := by decide +kernel
theorem d_S_settleStale_28 : decode b_S_settleStale 28 = .ok (.iload_n 1, 1) := by decide +kernel
theorem d_S_settleStale_29 : decode b_S_settleStale 29 = .ok (.invokevirtual 222, 3) := by decide +kernel
theorem d_S_settleStale_32 : decode b_S_settleStale 32 = .ok (.ifCond .ne (11), 3) := by decide +kernel
theorem d_S_settleStale_35 : decode b_S_settleStale 35 = .ok (.aload_n 0, 1) := by decide +kernel
theorem d_S_settleStale_36 : decode b_S_settleStale 36 = .ok (.iload_n 1, 1) := by decide +kernel
theorem d_S_settleStale_37 : decode b_S_settleStale 37 = .ok (.invokevirtual 225, 3) := by decide +kernel
theorem d_S_settleStale_40 : decode b_S_settleStale 40 = .ok (.ifCond .eq (7), 3) := by decide +kernel
theorem d_S_settleStale_43 : decode b_S_settleStale 43 = .ok (.iconst 1, 1) := by decide +kernel
theorem d_S_settleStale_44 : decode b_S_settleStale 44 = .ok (.goto (4), 3) := by decide +kernel
theorem d_S_settleStale_47 : decode b_S_settleStale 47 = .ok (.iconst 0, 1) := by decide +kernel
theorem d_S_settleStale_48 : decode b_S_settleStale 48 = .ok (.bastore, 1) := by decide +kernel
theorem d_S_settleStale_49 : decode b_S_settleStale 49 = .ok (.iinc 1 (1), 3) := by decide +kernel
theorem d_S_settleStale_52 : decode b_S_settleStale 52 = .ok (.goto (-50), 3) := by decide +kernel
theorem d_S_settleStale_55 : decode b_S_settleStale 55 = .ok (.return_, 1) := by decide +kernel
theorem d_S_mount_0 : decode b_S_mount 0 = .ok (.iload_n 1, 1) := by decide +kernel
theorem d_S_mount_1 : decode b_S_mount 1 = .ok (.ifCond .ne (13), 3) := by decide +kernel
theorem d_S_mount_4 : decode b_S_mount 4 = .ok (.aload_n 0, 1) := by decide +kernel
theorem d_S_mount_5 : decode b_S_mount 5 = .ok (.getfield 12, 3) := by decide +kernel
theorem d_S_mount_8 : decode b_S_mount 8 = .ok (.getfield 117, 3) := by decide +kernel
theorem d_S_mount_11 : decode b_S_mount 11 = .ok (.ifCond .ne (16), 3) := by decide +kernel
theorem d_S_mount_14 : decode b_S_mount 14 = .ok (.bipush 8, 2) := by decide +kernel
theorem d_S_mount_16 : decode b_S_mount 16 = .ok (.aload_n 0, 1) := by decide +kernel
theorem d_S_mount_17 : decode b_S_mount 17 = .ok (.getfield 12, 3) := by decide +kernel
theorem d_S_mount_20 : decode b_S_mount 20 = .ok (.invokevirtual 120, 3) := by decide +kernel
theorem d_S_mount_23 : decode b_S_mount 23 = .ok (.imul, 1) := by decide +kernel
theorem d_S_mount_24 : decode b_S_mount 24 = .ok (.goto (15), 3) := by decide +kernel
theorem d_S_mount_27 : decode b_S_mount 27 = .ok (.bipush 8, 2) := by decide +kernel
theorem d_S_mount_29 : decode b_S_mount 29 = .ok (.aload_n 0, 1) := by decide +kernel
theorem d_S_mount_30 : decode b_S_mount 30 = .ok (.getfield 12, 3) := by decide +kernel
theorem d_S_mount_33 : decode b_S_mount 33 = .ok (.invokevirtual 123, 3) := by decide +kernel
theorem d_S_mount_36 : decode b_S_mount 36 = .ok (.imul, 1) := by decide +kernel
theorem d_S_mount_37 : decode b_S_mount 37 = .ok (.iconst 1, 1) := by decide +kernel
theorem d_S_mount_38 : decode b_S_mount 38 = .ok (.iadd, 1) := by decide +kernel
theorem d_S_mount_39 : decode b_S_mount 39 = .ok (.istore_n 2, 1) := by decide +kernel
theorem d_S_mount_40 : decode b_S_mount 40 = .ok (.aload_n 0, 1) := by decide +kernel
theorem d_S_mount_41 : decode b_S_mount 41 = .ok (.invokevirtual 126, 3) := by decide +kernel
theorem d_S_mount_44 : decode b_S_mount 44 = .ok (.aload_n 0, 1) := by decide +kernel
theorem d_S_mount_45 : decode b_S_mount 45 = .ok (.aload_n 0, 1) := by decide +kernel
theorem d_S_mount_46 : decode b_S_mount 46 = .ok (.invokevirtual 129, 3) := by decide +kernel
theorem d_S_mount_49 : decode b_S_mount 49 = .ok (.putfield 20, 3) := by decide +kernel
theorem d_S_mount_52 : decode b_S_mount 52 = .ok (.aload_n 0, 1) := by decide +kernel
theorem d_S_mount_53 : decode b_S_mount 53 = .ok (.getfield 20, 3) := by decide +kernel
theorem d_S_mount_56 : decode b_S_mount 56 = .ok (.ifCond .eq (7), 3) := by decide +kernel
theorem d_S_mount_59 : decode b_S_mount 59 = .ok (.iload_n 2, 1) := by decide +kernel
theorem d_S_mount_60 : decode b_S_mount 60 = .ok (.goto (5), 3) := by decide +kernel
theorem d_S_mount_63 : decode b_S_mount 63 = .ok (.bipush (-9), 2) := by decide +kernel
theorem d_S_mount_65 : decode b_S_mount 65 = .ok (.ireturn, 1) := by decide +kernel
theorem d_S_cut_0 : decode b_S_cut 0 = .ok (.aload_n 0, 1) := by decide +kernel
theorem d_S_cut_1 : decode b_S_cut 1 = .ok (.getfield 12, 3) := by decide +kernel
theorem d_S_cut_4 : decode b_S_cut 4 = .ok (.iload_n 1, 1) := by decide +kernel
theorem d_S_cut_5 : decode b_S_cut 5 = .ok (.ifCond .lt (14), 3) := by decide +kernel
theorem d_S_cut_8 : decode b_S_cut 8 = .ok (.iload_n 1, 1) := by decide +kernel
theorem d_S_cut_9 : decode b_S_cut 9 = .ok (.sipush 1000, 3) := by decide +kernel
theorem d_S_cut_12 : decode b_S_cut 12 = .ok (.if_icmp .gt (7), 3) := by decide +kernel
theorem d_S_cut_15 : decode b_S_cut 15 = .ok (.iload_n 1, 1) := by decide +kernel
theorem d_S_cut_16 : decode b_S_cut 16 = .ok (.goto (4), 3) := by decide +kernel
theorem d_S_cut_19 : decode b_S_cut 19 = .ok (.iconst (-1), 1) := by decide +kernel
theorem d_S_cut_20 : decode b_S_cut 20 = .ok (.putfield 132, 3) := by decide +kernel
theorem d_S_cut_23 : decode b_S_cut 23 = .ok (.return_, 1) := by decide +kernel
theorem d_C_turnBit_0 : decode b_C_turnBit 0 = .ok (.aload_n 0, 1) := by decide +kernel
theorem d_C_turnBit_1 : decode b_C_turnBit 1 = .ok (.getfield 32, 3) := by decide +kernel
theorem d_C_turnBit_4 : decode b_C_turnBit 4 = .ok (.iload_n 1, 1) := by decide +kernel
theorem d_C_turnBit_5 : decode b_C_turnBit 5 = .ok (.bipush 8, 2) := by decide +kernel
theorem d_C_turnBit_7 : decode b_C_turnBit 7 = .ok (.idiv, 1) := by decide +kernel
theorem d_C_turnBit_8 : decode b_C_turnBit 8 = .ok (.baload, 1) := by decide +kernel
theorem d_C_turnBit_9 : decode b_C_turnBit 9 = .ok (.ifCond .ne (19), 3) := by decide +kernel
theorem d_C_turnBit_12 : decode b_C_turnBit 12 = .ok (.aload_n 0, 1) := by decide +kernel
theorem d_C_turnBit_13 : decode b_C_turnBit 13 = .ok (.iload_n 1, 1) := by decide +kernel
theorem d_C_turnBit_14 : decode b_C_turnBit 14 = .ok (.invokevirtual 49, 3) := by decide +kernel
theorem d_C_turnBit_17 : decode b_C_turnBit 17 = .ok (.ifCond .eq (11), 3) := by decide +kernel
theorem d_C_turnBit_20 : decode b_C_turnBit 20 = .ok (.aload_n 0, 1) := by decide +kernel
theorem d_C_turnBit_21 : decode b_C_turnBit 21 = .ok (.iload_n 1, 1) := by decide +kernel
theorem d_C_turnBit_22 : decode b_C_turnBit 22 = .ok (.invokevirtual 64, 3) := by decide +kernel
theorem d_C_turnBit_25 : decode b_C_turnBit 25 = .ok (.ifCond .eq (5), 3) := by decide +kernel
theorem d_C_turnBit_28 : decode b_C_turnBit 28 = .ok (.iconst 0, 1) := by decide +kernel
theorem d_C_turnBit_29 : decode b_C_turnBit 29 = .ok (.ireturn, 1) := by decide +kernel
theorem d_C_turnBit_30 : decode b_C_turnBit 30 = .ok (.aload_n 0, 1) := by decide +kernel
theorem d_C_turnBit_31 : decode b_C_turnBit 31 = .ok (.getfield 18, 3) := by decide +kernel
theorem d_C_turnBit_34 : decode b_C_turnBit 34 = .ok (.iload_n 1, 1) := by decide +kernel
theorem d_C_turnBit_35 : decode b_C_turnBit 35 = .ok (.dup2, 1) := by decide +kernel
theorem d_C_turnBit_36 : decode b_C_turnBit 36 = .ok (.laload, 1) := by decide +kernel
theorem d_C_turnBit_37 : decode b_C_turnBit 37 = .ok (.lconst 1, 1) := by decide +kernel
theorem d_C_turnBit_38 : decode b_C_turnBit 38 = .ok (.iload_n 2, 1) := by decide +kernel
theorem d_C_turnBit_39 : decode b_C_turnBit 39 = .ok (.lshl, 1) := by decide +kernel
theorem d_C_turnBit_40 : decode b_C_turnBit 40 = .ok (.lxor, 1) := by decide +kernel
theorem d_C_turnBit_41 : decode b_C_turnBit 41 = .ok (.lastore, 1) := by decide +kernel
theorem d_C_turnBit_42 : decode b_C_turnBit 42 = .ok (.iconst 1, 1) := by decide +kernel
theorem d_C_turnBit_43 : decode b_C_turnBit 43 = .ok (.ireturn, 1) := by decide +kernel
theorem d_S_isBlock_0 : decode b_S_isBlock 0 = .ok (.iload_n 0, 1) := by decide +kernel
theorem d_S_isBlock_1 : decode b_S_isBlock 1 = .ok (.ifCond .lt (13), 3) := by decide +kernel
theorem d_S_isBlock_4 : decode b_S_isBlock 4 = .ok (.iload_n 0, 1) := by decide +kernel
theorem d_S_isBlock_5 : decode b_S_isBlock 5 = .ok (.bipush 6, 2) := by decide +kernel
theorem d_S_isBlock_7 : decode b_S_isBlock 7 = .ok (.if_icmp .ge (7), 3) := by decide +kernel
theorem d_S_isBlock_10 : decode b_S_isBlock 10 = .ok (.iconst 1, 1) := by decide +kernel
theorem d_S_isBlock_11 : decode b_S_isBlock 11 = .ok (.goto (4), 3) := by decide +kernel
theorem d_S_isBlock_14 : decode b_S_isBlock 14 = .ok (.iconst 0, 1) := by decide +kernel
theorem d_S_isBlock_15 : decode b_S_isBlock 15 = .ok (.ireturn, 1) := by decide +kernel
theorem d_S_isPage_0 : decode b_S_isPage 0 = .ok (.iload_n 0, 1) := by decide +kernel
theorem d_S_isPage_1 : decode b_S_isPage 1 = .ok (.invokestatic 142, 3) := by decide +kernel
theorem d_S_isPage_4 : decode b_S_isPage 4 = .ok (.ifCond .eq (17), 3) := by decide +kernel
theorem d_S_isPage_7 : decode b_S_isPage 7 = .ok (.iload_n 1, 1) := by decide +kernel
theorem d_S_isPage_8 : decode b_S_isPage 8 = .ok (.ifCond .lt (13), 3) := by decide +kernel
theorem d_S_isPage_11 : decode b_S_isPage 11 = .ok (.iload_n 1, 1) := by decide +kernel
theorem d_S_isPage_12 : decode b_S_isPage 12 = .ok (.bipush 8, 2) := by decide +kernel
theorem d_S_isPage_14 : decode b_S_isPage 14 = .ok (.if_icmp .ge (7), 3) := by decide +kernel
theorem d_S_isPage_17 : decode b_S_isPage 17 = .ok (.iconst 1, 1) := by decide +kernel
theorem d_S_isPage_18 : decode b_S_isPage 18 = .ok (.goto (4), 3) := by decide +kernel
theorem d_S_isPage_21 : decode b_S_isPage 21 = .ok (.iconst 0, 1) := by decide +kernel
theorem d_S_isPage_22 : decode b_S_isPage 22 = .ok (.ireturn, 1) := by decide +kernel
theorem d_S_flip_0 : decode b_S_flip 0 = .ok (.iload_n 1, 1) := by decide +kernel
theorem d_S_flip_1 : decode b_S_flip 1 = .ok (.iload_n 2, 1) := by decide +kernel
theorem d_S_flip_2 : decode b_S_flip 2 = .ok (.invokestatic 136, 3) := by decide +kernel
theorem d_S_flip_5 : decode b_S_flip 5 = .ok (.ifCond .eq (13), 3) := by decide +kernel
theorem d_S_flip_8 : decode b_S_flip 8 = .ok (.iload_n 3, 1) := by decide +kernel
theorem d_S_flip_9 : decode b_S_flip 9 = .ok (.ifCond .lt (9), 3) := by decide +kernel
theorem d_S_flip_12 : decode b_S_flip 12 = .ok (.iload_n 3, 1) := by decide +kernel
theorem d_S_flip_13 : decode b_S_flip 13 = .ok (.bipush 39, 2) := by decide +kernel
theorem d_S_flip_15 : decode b_S_flip 15 = .ok (.if_icmp .lt (5), 3) := by decide +kernel
theorem d_S_flip_18 : decode b_S_flip 18 = .ok (.iconst 0, 1) := by decide +kernel
theorem d_S_flip_19 : decode b_S_flip 19 = .ok (.ireturn, 1) := by decide +kernel
theorem d_S_flip_20 : decode b_S_flip 20 = .ok (.aload_n 0, 1) := by decide +kernel
theorem d_S_flip_21 : decode b_S_flip 21 = .ok (.getfield 12, 3) := by decide +kernel
theorem d_S_flip_24 : decode b_S_flip 24 = .ok (.iload_n 1, 1) := by decide +kernel
theorem d_S_flip_25 : decode b_S_flip 25 = .ok (.bipush 8, 2) := by decide +kernel
theorem d_S_flip_27 : decode b_S_flip 27 = .ok (.imul, 1) := by decide +kernel
theorem d_S_flip_28 : decode b_S_flip 28 = .ok (.iload_n 2, 1) := by decide +kernel
theorem d_S_flip_29 : decode b_S_flip 29 = .ok (.iadd, 1) := by decide +kernel
theorem d_S_flip_30 : decode b_S_flip 30 = .ok (.iload_n 3, 1) := by decide +kernel
theorem d_S_flip_31 : decode b_S_flip 31 = .ok (.invokevirtual 139, 3) := by decide +kernel
theorem d_S_flip_34 : decode b_S_flip 34 = .ok (.ireturn, 1) := by decide +kernel
theorem d_S_wear_0 : decode b_S_wear 0 = .ok (.iload_n 1, 1) := by decide +kernel
theorem d_S_wear_1 : decode b_S_wear 1 = .ok (.invokestatic 142, 3) := by decide +kernel
theorem d_S_wear_4 : decode b_S_wear 4 = .ok (.ifCond .eq (27), 3) := by decide +kernel
theorem d_S_wear_7 : decode b_S_wear 7 = .ok (.aload_n 0, 1) := by decide +kernel
theorem d_S_wear_8 : decode b_S_wear 8 = .ok (.getfield 12, 3) := by decide +kernel
theorem d_S_wear_11 : decode b_S_wear 11 = .ok (.getfield 145, 3) := by decide +kernel
theorem d_S_wear_14 : decode b_S_wear 14 = .ok (.iload_n 1, 1) := by decide +kernel
theorem d_S_wear_15 : decode b_S_wear 15 = .ok (.baload, 1) := by decide +kernel
theorem d_S_wear_16 : decode b_S_wear 16 = .ok (.ifCond .ne (15), 3) := by decide +kernel
theorem d_S_wear_19 : decode b_S_wear 19 = .ok (.aload_n 0, 1) := by decide +kernel
theorem d_S_wear_20 : decode b_S_wear 20 = .ok (.getfield 12, 3) := by decide +kernel
theorem d_S_wear_23 : decode b_S_wear 23 = .ok (.getfield 148, 3) := by decide +kernel
theorem d_S_wear_26 : decode b_S_wear 26 = .ok (.iload_n 1, 1) := by decide +kernel
theorem d_S_wear_27 : decode b_S_wear 27 = .ok (.baload, 1) := by decide +kernel
theorem d_S_wear_28 : decode b_S_wear 28 = .ok (.ifCond .eq (5), 3) := by decide +kernel
theorem d_S_wear_31 : decode b_S_wear 31 = .ok (.iconst 0, 1) := by decide +kernel
theorem d_S_wear_32 : decode b_S_wear 32 = .ok (.ireturn, 1) := by decide +kernel
theorem d_S_wear_33 : decode b_S_wear 33 = .ok (.aload_n 0, 1) := by decide +kernel
theorem d_S_wear_34 : decode b_S_wear 34 = .ok (.getfield 12, 3) := by decide +kernel
theorem d_S_wear_37 : decode b_S_wear 37 = .ok (.getfield 148, 3) := by decide +kernel
theorem d_S_wear_40 : decode b_S_wear 40 = .ok (.iload_n 1, 1) := by decide +kernel
theorem d_S_wear_41 : decode b_S_wear 41 = .ok (.iconst 1, 1) := by decide +kernel
theorem d_S_wear_42 : decode b_S_wear 42 = .ok (.bastore, 1) := by decide +kernel
theorem d_S_wear_43 : decode b_S_wear 43 = .ok (.iconst 1, 1) := by decide +kernel
theorem d_S_wear_44 : decode b_S_wear 44 = .ok (.ireturn, 1) := by decide +kernel
theorem d_S_tags_0 : decode b_S_tags 0 = .ok (.iload_n 1, 1) := by decide +kernel
theorem d_S_tags_1 : decode b_S_tags 1 = .ok (.iload_n 2, 1) := by decide +kernel
theorem d_S_tags_2 : decode b_S_tags 2 = .ok (.invokestatic 136, 3) := by decide +kernel
theorem d_S_tags_5 : decode b_S_tags 5 = .ok (.ifCond .ne (5), 3) := by decide +kernel
theorem d_S_tags_8 : decode b_S_tags 8 = .ok (.iconst (-1), 1) := by decide +kernel
theorem d_S_tags_9 : decode b_S_tags 9 = .ok (.ireturn, 1) := by decide +kernel
theorem d_S_tags_10 : decode b_S_tags 10 = .ok (.iload_n 1, 1) := by decide +kernel
theorem d_S_tags_11 : decode b_S_tags 11 = .ok (.bipush 8, 2) := by decide +kernel
theorem d_S_tags_13 : decode b_S_tags 13 = .ok (.imul, 1) := by decide +kernel
theorem d_S_tags_14 : decode b_S_tags 14 = .ok (.iload_n 2, 1) := by decide +kernel
theorem d_S_tags_15 : decode b_S_tags 15 = .ok (.iadd, 1) := by decide +kernel
theorem d_S_tags_16 : decode b_S_tags 16 = .ok (.istore_n 3, 1) := by decide +kernel
theorem d_S_tags_17 : decode b_S_tags 17 = .ok (.aload_n 0, 1) := by decide +kernel
theorem d_S_tags_18 : decode b_S_tags 18 = .ok (.getfield 12, 3) := by decide +kernel
theorem d_S_tags_21 : decode b_S_tags 21 = .ok (.iload_n 3, 1) := by decide +kernel
theorem d_S_tags_22 : decode b_S_tags 22 = .ok (.invokevirtual 151, 3) := by decide +kernel
theorem d_S_tags_25 : decode b_S_tags 25 = .ok (.ifCond .eq (15), 3) := by decide +kernel
theorem d_S_tags_28 : decode b_S_tags 28 = .ok (.aload_n 0, 1) := by decide +kernel
theorem d_S_tags_29 : decode b_S_tags 29 = .ok (.getfield 12, 3) := by decide +kernel
theorem d_S_tags_32 : decode b_S_tags 32 = .ok (.getfield 154, 3) := by decide +kernel
theorem d_S_tags_35 : decode b_S_tags 35 = .ok (.iload_n 3, 1) := by decide +kernel
theorem d_S_tags_36 : decode b_S_tags 36 = .ok (.iaload, 1) := by decide +kernel
theorem d_S_tags_37 : decode b_S_tags 37 = .ok (.goto (5), 3) := by decide +kernel
theorem d_S_tags_40 : decode b_S_tags 40 = .ok (.bipush (-2), 2) := by decide +kernel
theorem d_S_tags_42 : decode b_S_tags 42 = .ok (.ireturn, 1) := by decide +kernel
theorem d_S_free_0 : decode b_S_free 0 = .ok (.aload_n 0, 1) := by decide +kernel
theorem d_S_free_1 : decode b_S_free 1 = .ok (.getfield 12, 3) := by decide +kernel
theorem d_S_free_4 : decode b_S_free 4 = .ok (.invokevirtual 158, 3) := by decide +kernel
theorem d_S_free_7 : decode b_S_free 7 = .ok (.ireturn, 1) := by decide +kernel
theorem d_S_erases_0 : decode b_S_erases 0 = .ok (.iload_n 1, 1) := by decide +kernel
theorem d_S_erases_1 : decode b_S_erases 1 = .ok (.invokestatic 142, 3) := by decide +kernel
theorem d_S_erases_4 : decode b_S_erases 4 = .ok (.ifCond .ne (5), 3) := by decide +kernel
theorem d_S_erases_7 : decode b_S_erases 7 = .ok (.iconst (-1), 1) := by decide +kernel
theorem d_S_erases_8 : decode b_S_erases 8 = .ok (.ireturn, 1) := by decide +kernel
theorem d_S_erases_9 : decode b_S_erases 9 = .ok (.iconst 2, 1) := by decide +kernel
theorem d_S_erases_10 : decode b_S_erases 10 = .ok (.aload_n 0, 1) := by decide +kernel
theorem d_S_erases_11 : decode b_S_erases 11 = .ok (.getfield 12, 3) := by decide +kernel
theorem d_S_erases_14 : decode b_S_erases 14 = .ok (.getfield 161, 3) := by decide +kernel
theorem d_S_erases_17 : decode b_S_erases 17 = .ok (.iload_n 1, 1) := by decide +kernel
theorem d_S_erases_18 : decode b_S_erases 18 = .ok (.iaload, 1) := by decide +kernel
theorem d_S_erases_19 : decode b_S_erases 19 = .ok (.imul, 1) := by decide +kernel
theorem d_S_erases_20 : decode b_S_erases 20 = .ok (.aload_n 0, 1) := by decide +kernel
theorem d_S_erases_21 : decode b_S_erases 21 = .ok (.getfield 12, 3) := by decide +kernel
theorem d_S_erases_24 : decode b_S_erases 24 = .ok (.getfield 145, 3) := by decide +kernel
theorem d_S_erases_27 : decode b_S_erases 27 = .ok (.iload_n 1, 1) := by decide +kernel
theorem d_S_erases_28 : decode b_S_erases 28 = .ok (.baload, 1) := by decide +kernel
theorem d_S_erases_29 : decode b_S_erases 29 = .ok (.ifCond .eq (7), 3) := by decide +kernel
theorem d_S_erases_32 : decode b_S_erases 32 = .ok (.iconst 1, 1) := by decide +kernel
theorem d_S_erases_33 : decode b_S_erases 33 = .ok (.goto (4), 3) := by decide +kernel
theorem d_S_erases_36 : decode b_S_erases 36 = .ok (.iconst 0, 1) := by decide +kernel
theorem d_S_erases_37 : decode b_S_erases 37 = .ok (.iadd, 1) := by decide +kernel
theorem d_S_erases_38 : decode b_S_erases 38 = .ok (.ireturn, 1) := by decide +kernel
theorem d_S_steps_0 : decode b_S_steps 0 = .ok (.aload_n 0, 1) := by decide +kernel
theorem d_S_steps_1 : decode b_S_steps 1 = .ok (.getfield 12, 3) := by decide +kernel
theorem d_S_steps_4 : decode b_S_steps 4 = .ok (.getfield 164, 3) := by decide +kernel
theorem d_S_steps_7 : decode b_S_steps 7 = .ok (.ireturn, 1) := by decide +kernel
theorem d_M_step_0 : decode b_M_step 0 = .ok (.aload_n 0, 1) := by decide +kernel
theorem d_M_step_1 : decode b_M_step 1 = .ok (.getfield 60, 3) := by decide +kernel
theorem d_M_step_4 : decode b_M_step 4 = .ok (.ifCond .ne (15), 3) := by decide +kernel
theorem d_M_step_7 : decode b_M_step 7 = .ok (.aload_n 0, 1) := by decide +kernel
theorem d_M_step_8 : decode b_M_step 8 = .ok (.iconst (-1), 1) := by decide +kernel
theorem d_M_step_9 : decode b_M_step 9 = .ok (.putfield 60, 3) := by decide +kernel
theorem d_M_step_12 : decode b_M_step 12 = .ok (.aload_n 0, 1) := by decide +kernel
theorem d_M_step_13 : decode b_M_step 13 = .ok (.iconst 0, 1) := by decide +kernel
theorem d_M_step_14 : decode b_M_step 14 = .ok (.putfield 56, 3) := by decide +kernel
theorem d_M_step_17 : decode b_M_step 17 = .ok (.iconst 0, 1) := by decide +kernel
theorem d_M_step_18 : decode b_M_step 18 = .ok (.ireturn, 1) := by decide +kernel
theorem d_M_step_19 : decode b_M_step 19 = .ok (.aload_n 0, 1) := by decide +kernel
theorem d_M_step_20 : decode b_M_step 20 = .ok (.aload_n 0, 1) := by decide +kernel
theorem d_M_step_21 : decode b_M_step 21 = .ok (.getfield 60, 3) := by decide +kernel
theorem d_M_step_24 : decode b_M_step 24 = .ok (.ifCond .le (12), 3) := by decide +kernel
theorem d_M_step_27 : decode b_M_step 27 = .ok (.aload_n 0, 1) := by decide +kernel
theorem d_M_step_28 : decode b_M_step 28 = .ok (.getfield 60, 3) := by decide +kernel
theorem d_M_step_31 : decode b_M_step 31 = .ok (.iconst 1, 1) := by decide +kernel
theorem d_M_step_32 : decode b_M_step 32 = .ok (.isub, 1) := by decide +kernel
theorem d_M_step_33 : decode b_M_step 33 = .ok (.goto (7), 3) := by decide +kernel
theorem d_M_step_36 : decode b_M_step 36 = .ok (.aload_n 0, 1) := by decide +kernel
theorem d_M_step_37 : decode b_M_step 37 = .ok (.getfield 60, 3) := by decide +kernel
theorem d_M_step_40 : decode b_M_step 40 = .ok (.putfield 60, 3) := by decide +kernel
theorem d_M_step_43 : decode b_M_step 43 = .ok (.aload_n 0, 1) := by decide +kernel
theorem d_M_step_44 : decode b_M_step 44 = .ok (.dup, 1) := by decide +kernel
theorem d_M_step_45 : decode b_M_step 45 = .ok (.getfield 64, 3) := by decide +kernel
theorem d_M_step_48 : decode b_M_step 48 = .ok (.iconst 1, 1) := by decide +kernel
theorem d_M_step_49 : decode b_M_step 49 = .ok (.iadd, 1) := by decide +kernel
theorem d_M_step_50 : decode b_M_step 50 = .ok (.putfield 64, 3) := by decide +kernel
theorem d_M_step_53 : decode b_M_step 53 = .ok (.iconst 1, 1) := by decide +kernel
theorem d_M_step_54 : decode b_M_step 54 = .ok (.ireturn, 1) := by decide +kernel
theorem d_M_programmed_0 : decode b_M_programmed 0 = .ok (.iconst 0, 1) := by decide +kernel
theorem d_M_programmed_1 : decode b_M_programmed 1 = .ok (.istore_n 2, 1) := by decide +kernel
theorem d_M_programmed_2 : decode b_M_programmed 2 = .ok (.bipush 8, 2) := by decide +kernel
theorem d_M_programmed_4 : decode b_M_programmed 4 = .ok (.iload_n 1, 1) := by decide +kernel
theorem d_M_programmed_5 : decode b_M_programmed 5 = .ok (.imul, 1) := by decide +kernel
theorem d_M_programmed_6 : decode b_M_programmed 6 = .ok (.istore_n 3, 1) := by decide +kernel
theorem d_M_programmed_7 : decode b_M_programmed 7 = .ok (.iload_n 3, 1) := by decide +kernel
theorem d_M_programmed_8 : decode b_M_programmed 8 = .ok (.bipush 8, 2) := by decide +kernel
theorem d_M_programmed_10 : decode b_M_programmed 10 = .ok (.iload_n 1, 1) := by decide +kernel
theorem d_M_programmed_11 : decode b_M_programmed 11 = .ok (.imul, 1) := by decide +kernel
theorem d_M_programmed_12 : decode b_M_programmed 12 = .ok (.bipush 8, 2) := by decide +kernel
theorem d_M_programmed_14 : decode b_M_programmed 14 = .ok (.iadd, 1) := by decide +kernel
theorem d_M_programmed_15 : decode b_M_programmed 15 = .ok (.if_icmp .ge (26), 3) := by decide +kernel
theorem d_M_programmed_18 : decode b_M_programmed 18 = .ok (.iload_n 2, 1) := by decide +kernel
theorem d_M_programmed_19 : decode b_M_programmed 19 = .ok (.aload_n 0, 1) := by decide +kernel
theorem d_M_programmed_20 : decode b_M_programmed 20 = .ok (.getfield 7, 3) := by decide +kernel
theorem d_M_programmed_23 : decode b_M_programmed 23 = .ok (.iload_n 3, 1) := by decide +kernel
theorem d_M_programmed_24 : decode b_M_programmed 24 = .ok (.iaload, 1) := by decide +kernel
theorem d_M_programmed_25 : decode b_M_programmed 25 = .ok (.ifCond .ne (7), 3) := by decide +kernel
theorem d_M_programmed_28 : decode b_M_programmed 28 = .ok (.iconst 0, 1) := by decide +kernel
theorem d_M_programmed_29 : decode b_M_programmed 29 = .ok (.goto (4), 3) := by decide +kernel
theorem d_M_programmed_32 : decode b_M_programmed 32 = .ok (.iconst 1, 1) := by decide +kernel
theorem d_M_programmed_33 : decode b_M_programmed 33 = .ok (.iadd, 1) := by decide +kernel
theorem d_M_programmed_34 : decode b_M_programmed 34 = .ok (.istore_n 2, 1) := by decide +kernel
theorem d_M_programmed_35 : decode b_M_programmed 35 = .ok (.iinc 3 (1), 3) := by decide +kernel
theorem d_M_programmed_38 : decode b_M_programmed 38 = .ok (.goto (-31), 3) := by decide +kernel
theorem d_M_programmed_41 : decode b_M_programmed 41 = .ok (.iload_n 2, 1) := by decide +kernel
theorem d_M_programmed_42 : decode b_M_programmed 42 = .ok (.ireturn, 1) := by decide +kernel
theorem d_M_lives_0 : decode b_M_lives 0 = .ok (.iconst 0, 1) := by decide +kernel
theorem d_M_lives_1 : decode b_M_lives 1 = .ok (.istore_n 2, 1) := by decide +kernel
theorem d_M_lives_2 : decode b_M_lives 2 = .ok (.bipush 8, 2) := by decide +kernel
theorem d_M_lives_4 : decode b_M_lives 4 = .ok (.iload_n 1, 1) := by decide +kernel
theorem d_M_lives_5 : decode b_M_lives 5 = .ok (.imul, 1) := by decide +kernel
theorem d_M_lives_6 : decode b_M_lives 6 = .ok (.istore_n 3, 1) := by decide +kernel
theorem d_M_lives_7 : decode b_M_lives 7 = .ok (.iload_n 3, 1) := by decide +kernel
theorem d_M_lives_8 : decode b_M_lives 8 = .ok (.bipush 8, 2) := by decide +kernel
theorem d_M_lives_10 : decode b_M_lives 10 = .ok (.iload_n 1, 1) := by decide +kernel
theorem d_M_lives_11 : decode b_M_lives 11 = .ok (.imul, 1) := by decide +kernel
theorem d_M_lives_12 : decode b_M_lives 12 = .ok (.bipush 8, 2) := by decide +kernel
theorem d_M_lives_14 : decode b_M_lives 14 = .ok (.iadd, 1) := by decide +kernel
theorem d_M_lives_15 : decode b_M_lives 15 = .ok (.if_icmp .ge (27), 3) := by decide +kernel
theorem d_M_lives_18 : decode b_M_lives 18 = .ok (.iload_n 2, 1) := by decide +kernel
theorem d_M_lives_19 : decode b_M_lives 19 = .ok (.aload_n 0, 1) := by decide +kernel
theorem d_M_lives_20 : decode b_M_lives 20 = .ok (.getfield 7, 3) := by decide +kernel
theorem d_M_lives_23 : decode b_M_lives 23 = .ok (.iload_n 3, 1) := by decide +kernel
theorem d_M_lives_24 : decode b_M_lives 24 = .ok (.iaload, 1) := by decide +kernel
theorem d_M_lives_25 : decode b_M_lives 25 = .ok (.iconst 1, 1) := by decide +kernel
theorem d_M_lives_26 : decode b_M_lives 26 = .ok (.if_icmp .ne (7), 3) := by decide +kernel
theorem d_M_lives_29 : decode b_M_lives 29 = .ok (.iconst 1, 1) := by decide +kernel
theorem d_M_lives_30 : decode b_M_lives 30 = .ok (.goto (4), 3) := by decide +kernel
theorem d_M_lives_33 : decode b_M_lives 33 = .ok (.iconst 0, 1) := by decide +kernel
theorem d_M_lives_34 : decode b_M_lives 34 = .ok (.iadd, 1) := by decide +kernel
theorem d_M_lives_35 : decode b_M_lives 35 = .ok (.istore_n 2, 1) := by decide +kernel
theorem d_M_lives_36 : decode b_M_lives 36 = .ok (.iinc 3 (1), 3) := by decide +kernel
theorem d_M_lives_39 : decode b_M_lives 39 = .ok (.goto (-32), 3) := by decide +kernel
theorem d_M_lives_42 : decode b_M_lives 42 = .ok (.iload_n 2, 1) := by decide +kernel
theorem d_M_lives_43 : decode b_M_lives 43 = .ok (.ireturn, 1) := by decide +kernel
theorem d_M_nextPage_0 : decode b_M_nextPage 0 = .ok (.iconst 0, 1) := by decide +kernel
theorem d_M_nextPage_1 : decode b_M_nextPage 1 = .ok (.istore_n 1, 1) := by decide +kernel
theorem d_M_nextPage_2 : decode b_M_nextPage 2 = .ok (.iload_n 1, 1) := by decide +kernel
theorem d_M_nextPage_3 : decode b_M_nextPage 3 = .ok (.bipush 6, 2) := by decide +kernel
theorem d_M_nextPage_5 : decode b_M_nextPage 5 = .ok (.if_icmp .ge (41), 3) := by decide +kernel
theorem d_M_nextPage_8 : decode b_M_nextPage 8 = .ok (.aload_n 0, 1) := by decide +kernel
theorem d_M_nextPage_9 : decode b_M_nextPage 9 = .ok (.iload_n 1, 1) := by decide +kernel
theorem d_M_nextPage_10 : decode b_M_nextPage 10 = .ok (.invokevirtual 67, 3) := by decide +kernel
theorem d_M_nextPage_13 : decode b_M_nextPage 13 = .ok (.istore_n 2, 1) := by decide +kernel
theorem d_M_nextPage_14 : decode b_M_nextPage 14 = .ok (.aload_n 0, 1) := by decide +kernel
theorem d_M_nextPage_15 : decode b_M_nextPage 15 = .ok (.getfield 44, 3) := by decide +kernel
theorem d_M_nextPage_18 : decode b_M_nextPage 18 = .ok (.iload_n 1, 1) := by decide +kernel
theorem d_M_nextPage_19 : decode b_M_nextPage 19 = .ok (.baload, 1) := by decide +kernel
theorem d_M_nextPage_20 : decode b_M_nextPage 20 = .ok (.ifCond .ne (20), 3) := by decide +kernel
theorem d_M_nextPage_23 : decode b_M_nextPage 23 = .ok (.iload_n 2, 1) := by decide +kernel
theorem d_M_nextPage_24 : decode b_M_nextPage 24 = .ok (.ifCond .le (16), 3) := by decide +kernel
theorem d_M_nextPage_27 : decode b_M_nextPage 27 = .ok (.iload_n 2, 1) := by decide +kernel
theorem d_M_nextPage_28 : decode b_M_nextPage 28 = .ok (.bipush 8, 2) := by decide +kernel
theorem d_M_nextPage_30 : decode b_M_nextPage 30 = .ok (.if_icmp .ge (10), 3) := by decide +kernel
theorem d_M_nextPage_33 : decode b_M_nextPage 33 = .ok (.bipush 8, 2) := by decide +kernel
theorem d_M_nextPage_35 : decode b_M_nextPage 35 = .ok (.iload_n 1, 1) := by decide +kernel
theorem d_M_nextPage_36 : decode b_M_nextPage 36 = .ok (.imul, 1) := by decide +kernel
theorem d_M_nextPage_37 : decode b_M_nextPage 37 = .ok (.iload_n 2, 1) := by decide +kernel
theorem d_M_nextPage_38 : decode b_M_nextPage 38 = .ok (.iadd, 1) := by decide +kernel
theorem d_M_nextPage_39 : decode b_M_nextPage 39 = .ok (.ireturn, 1) := by decide +kernel
theorem d_M_nextPage_40 : decode b_M_nextPage 40 = .ok (.iinc 1 (1), 3) := by decide +kernel
theorem d_M_nextPage_43 : decode b_M_nextPage 43 = .ok (.goto (-41), 3) := by decide +kernel
theorem d_M_nextPage_46 : decode b_M_nextPage 46 = .ok (.iconst 0, 1) := by decide +kernel
theorem d_M_nextPage_47 : decode b_M_nextPage 47 = .ok (.istore_n 1, 1) := by decide +kernel
theorem d_M_nextPage_48 : decode b_M_nextPage 48 = .ok (.iload_n 1, 1) := by decide +kernel
theorem d_M_nextPage_49 : decode b_M_nextPage 49 = .ok (.bipush 6, 2) := by decide +kernel
theorem d_M_nextPage_51 : decode b_M_nextPage 51 = .ok (.if_icmp .ge (31), 3) := by decide +kernel
theorem d_M_nextPage_54 : decode b_M_nextPage 54 = .ok (.aload_n 0, 1) := by decide +kernel
theorem d_M_nextPage_55 : decode b_M_nextPage 55 = .ok (.getfield 44, 3) := by decide +kernel
theorem d_M_nextPage_58 : decode b_M_nextPage 58 = .ok (.iload_n 1, 1) := by decide +kernel
theorem d_M_nextPage_59 : decode b_M_nextPage 59 = .ok (.baload, 1) := by decide +kernel
theorem d_M_nextPage_60 : decode b_M_nextPage 60 = .ok (.ifCond .ne (16), 3) := by decide +kernel
theorem d_M_nextPage_63 : decode b_M_nextPage 63 = .ok (.aload_n 0, 1) := by decide +kernel
theorem d_M_nextPage_64 : decode b_M_nextPage 64 = .ok (.iload_n 1, 1) := by decide +kernel
theorem d_M_nextPage_65 : decode b_M_nextPage 65 = .ok (.invokevirtual 67, 3) := by decide +kernel
theorem d_M_nextPage_68 : decode b_M_nextPage 68 = .ok (.ifCond .ne (8), 3) := by decide +kernel
theorem d_M_nextPage_71 : decode b_M_nextPage 71 = .ok (.bipush 8, 2) := by decide +kernel
theorem d_M_nextPage_73 : decode b_M_nextPage 73 = .ok (.iload_n 1, 1) := by decide +kernel
theorem d_M_nextPage_74 : decode b_M_nextPage 74 = .ok (.imul, 1) := by decide +kernel
theorem d_M_nextPage_75 : decode b_M_nextPage 75 = .ok (.ireturn, 1) := by decide +kernel
theorem d_M_nextPage_76 : decode b_M_nextPage 76 = .ok (.iinc 1 (1), 3) := by decide +kernel
theorem d_M_nextPage_79 : decode b_M_nextPage 79 = .ok (.goto (-31), 3) := by decide +kernel
theorem d_M_nextPage_82 : decode b_M_nextPage 82 = .ok (.iconst (-1), 1) := by decide +kernel
theorem d_M_nextPage_83 : decode b_M_nextPage 83 = .ok (.ireturn, 1) := by decide +kernel
end
section
theorem d_M_page_0 : decode b_M_page 0 = .ok (.iconst 0, 1) := by decide +kernel
theorem d_M_page_1 : decode b_M_page 1 = .ok (.istore_n 3, 1) := by decide +kernel
theorem d_M_page_2 : decode b_M_page 2 = .ok (.iload_n 3, 1) := by decide +kernel
theorem d_M_page_3 : decode b_M_page 3 = .ok (.bipush 48, 2) := by decide +kernel
theorem d_M_page_5 : decode b_M_page 5 = .ok (.if_icmp .ge (41), 3) := by decide +kernel
theorem d_M_page_8 : decode b_M_page 8 = .ok (.aload_n 0, 1) := by decide +kernel
theorem d_M_page_9 : decode b_M_page 9 = .ok (.getfield 7, 3) := by decide +kernel
theorem d_M_page_12 : decode b_M_page 12 = .ok (.iload_n 3, 1) := by decide +kernel
theorem d_M_page_13 : decode b_M_page 13 = .ok (.iaload, 1) := by decide +kernel
theorem d_M_page_14 : decode b_M_page 14 = .ok (.iconst 1, 1) := by decide +kernel
theorem d_M_page_15 : decode b_M_page 15 = .ok (.if_icmp .ne (25), 3) := by decide +kernel
theorem d_M_page_18 : decode b_M_page 18 = .ok (.aload_n 0, 1) := by decide +kernel
theorem d_M_page_19 : decode b_M_page 19 = .ok (.getfield 13, 3) := by decide +kernel
theorem d_M_page_22 : decode b_M_page 22 = .ok (.iload_n 3, 1) := by decide +kernel
theorem d_M_page_23 : decode b_M_page 23 = .ok (.iaload, 1) := by decide +kernel
theorem d_M_page_24 : decode b_M_page 24 = .ok (.iload_n 1, 1) := by decide +kernel
theorem d_M_page_25 : decode b_M_page 25 = .ok (.if_icmp .ne (15), 3) := by decide +kernel
theorem d_M_page_28 : decode b_M_page 28 = .ok (.aload_n 0, 1) := by decide +kernel
theorem d_M_page_29 : decode b_M_page 29 = .ok (.getfield 16, 3) := by decide +kernel
theorem d_M_page_32 : decode b_M_page 32 = .ok (.iload_n 3, 1) := by decide +kernel
theorem d_M_page_33 : decode b_M_page 33 = .ok (.iaload, 1) := by decide +kernel
theorem d_M_page_34 : decode b_M_page 34 = .ok (.iload_n 2, 1) := by decide +kernel
theorem d_M_page_35 : decode b_M_page 35 = .ok (.if_icmp .ne (5), 3) := by decide +kernel
theorem d_M_page_38 : decode b_M_page 38 = .ok (.iload_n 3, 1) := by decide +kernel
theorem d_M_page_39 : decode b_M_page 39 = .ok (.ireturn, 1) := by decide +kernel
theorem d_M_page_40 : decode b_M_page 40 = .ok (.iinc 3 (1), 3) := by decide +kernel
theorem d_M_page_43 : decode b_M_page 43 = .ok (.goto (-41), 3) := by decide +kernel
theorem d_M_page_46 : decode b_M_page 46 = .ok (.iconst (-1), 1) := by decide +kernel
theorem d_M_page_47 : decode b_M_page 47 = .ok (.ireturn, 1) := by decide +kernel
theorem d_M_mark_0 : decode b_M_mark 0 = .ok (.aload_n 0, 1) := by decide +kernel
theorem d_M_mark_1 : decode b_M_mark 1 = .ok (.invokevirtual 71, 3) := by decide +kernel
theorem d_M_mark_4 : decode b_M_mark 4 = .ok (.ifCond .ne (5), 3) := by decide +kernel
theorem d_M_mark_7 : decode b_M_mark 7 = .ok (.iconst 0, 1) := by decide +kernel
theorem d_M_mark_8 : decode b_M_mark 8 = .ok (.ireturn, 1) := by decide +kernel
theorem d_M_mark_9 : decode b_M_mark 9 = .ok (.aload_n 0, 1) := by decide +kernel
theorem d_M_mark_10 : decode b_M_mark 10 = .ok (.getfield 7, 3) := by decide +kernel
theorem d_M_mark_13 : decode b_M_mark 13 = .ok (.iload_n 1, 1) := by decide +kernel
theorem d_M_mark_14 : decode b_M_mark 14 = .ok (.iconst 2, 1) := by decide +kernel
theorem d_M_mark_15 : decode b_M_mark 15 = .ok (.iastore, 1) := by decide +kernel
theorem d_M_mark_16 : decode b_M_mark 16 = .ok (.aload_n 0, 1) := by decide +kernel
theorem d_M_mark_17 : decode b_M_mark 17 = .ok (.getfield 50, 3) := by decide +kernel
theorem d_M_mark_20 : decode b_M_mark 20 = .ok (.iload_n 1, 1) := by decide +kernel
theorem d_M_mark_21 : decode b_M_mark 21 = .ok (.bipush 8, 2) := by decide +kernel
theorem d_M_mark_23 : decode b_M_mark 23 = .ok (.idiv, 1) := by decide +kernel
theorem d_M_mark_24 : decode b_M_mark 24 = .ok (.iconst 1, 1) := by decide +kernel
theorem d_M_mark_25 : decode b_M_mark 25 = .ok (.bastore, 1) := by decide +kernel
theorem d_M_mark_26 : decode b_M_mark 26 = .ok (.iconst 1, 1) := by decide +kernel
theorem d_M_mark_27 : decode b_M_mark 27 = .ok (.ireturn, 1) := by decide +kernel
theorem d_M_put_0 : decode b_M_put 0 = .ok (.aload_n 0, 1) := by decide +kernel
theorem d_M_put_1 : decode b_M_put 1 = .ok (.aload_n 0, 1) := by decide +kernel
theorem d_M_put_2 : decode b_M_put 2 = .ok (.getfield 75, 3) := by decide +kernel
theorem d_M_put_5 : decode b_M_put 5 = .ok (.aload_n 0, 1) := by decide +kernel
theorem d_M_put_6 : decode b_M_put 6 = .ok (.getfield 78, 3) := by decide +kernel
theorem d_M_put_9 : decode b_M_put 9 = .ok (.invokevirtual 81, 3) := by decide +kernel
theorem d_M_put_12 : decode b_M_put 12 = .ok (.istore_n 1, 1) := by decide +kernel
theorem d_M_put_13 : decode b_M_put 13 = .ok (.aload_n 0, 1) := by decide +kernel
theorem d_M_put_14 : decode b_M_put 14 = .ok (.invokevirtual 85, 3) := by decide +kernel
theorem d_M_put_17 : decode b_M_put 17 = .ok (.istore_n 2, 1) := by decide +kernel
theorem d_M_put_18 : decode b_M_put 18 = .ok (.iload_n 2, 1) := by decide +kernel
theorem d_M_put_19 : decode b_M_put 19 = .ok (.ifCond .lt (10), 3) := by decide +kernel
theorem d_M_put_22 : decode b_M_put 22 = .ok (.aload_n 0, 1) := by decide +kernel
theorem d_M_put_23 : decode b_M_put 23 = .ok (.invokevirtual 71, 3) := by decide +kernel
theorem d_M_put_26 : decode b_M_put 26 = .ok (.ifCond .ne (5), 3) := by decide +kernel
theorem d_M_put_29 : decode b_M_put 29 = .ok (.iconst 0, 1) := by decide +kernel
theorem d_M_put_30 : decode b_M_put 30 = .ok (.ireturn, 1) := by decide +kernel
theorem d_M_put_31 : decode b_M_put 31 = .ok (.aload_n 0, 1) := by decide +kernel
theorem d_M_put_32 : decode b_M_put 32 = .ok (.getfield 7, 3) := by decide +kernel
theorem d_M_put_35 : decode b_M_put 35 = .ok (.iload_n 2, 1) := by decide +kernel
theorem d_M_put_36 : decode b_M_put 36 = .ok (.iconst 1, 1) := by decide +kernel
theorem d_M_put_37 : decode b_M_put 37 = .ok (.iastore, 1) := by decide +kernel
theorem d_M_put_38 : decode b_M_put 38 = .ok (.aload_n 0, 1) := by decide +kernel
theorem d_M_put_39 : decode b_M_put 39 = .ok (.getfield 13, 3) := by decide +kernel
theorem d_M_put_42 : decode b_M_put 42 = .ok (.iload_n 2, 1) := by decide +kernel
theorem d_M_put_43 : decode b_M_put 43 = .ok (.aload_n 0, 1) := by decide +kernel
theorem d_M_put_44 : decode b_M_put 44 = .ok (.getfield 75, 3) := by decide +kernel
theorem d_M_put_47 : decode b_M_put 47 = .ok (.iastore, 1) := by decide +kernel
theorem d_M_put_48 : decode b_M_put 48 = .ok (.aload_n 0, 1) := by decide +kernel
theorem d_M_put_49 : decode b_M_put 49 = .ok (.getfield 16, 3) := by decide +kernel
theorem d_M_put_52 : decode b_M_put 52 = .ok (.iload_n 2, 1) := by decide +kernel
theorem d_M_put_53 : decode b_M_put 53 = .ok (.aload_n 0, 1) := by decide +kernel
theorem d_M_put_54 : decode b_M_put 54 = .ok (.getfield 78, 3) := by decide +kernel
theorem d_M_put_57 : decode b_M_put 57 = .ok (.iastore, 1) := by decide +kernel
theorem d_M_put_58 : decode b_M_put 58 = .ok (.aload_n 0, 1) := by decide +kernel
theorem d_M_put_59 : decode b_M_put 59 = .ok (.getfield 19, 3) := by decide +kernel
theorem d_M_put_62 : decode b_M_put 62 = .ok (.iload_n 2, 1) := by decide +kernel
theorem d_M_put_63 : decode b_M_put 63 = .ok (.iload_n 1, 1) := by decide +kernel
theorem d_M_put_64 : decode b_M_put 64 = .ok (.ifCond .ge (7), 3) := by decide +kernel
theorem d_M_put_67 : decode b_M_put 67 = .ok (.iconst 0, 1) := by decide +kernel
theorem d_M_put_68 : decode b_M_put 68 = .ok (.goto (13), 3) := by decide +kernel
theorem d_M_put_71 : decode b_M_put 71 = .ok (.aload_n 0, 1) := by decide +kernel
theorem d_M_put_72 : decode b_M_put 72 = .ok (.getfield 19, 3) := by decide +kernel
theorem d_M_put_75 : decode b_M_put 75 = .ok (.iload_n 1, 1) := by decide +kernel
theorem d_M_put_76 : decode b_M_put 76 = .ok (.iaload, 1) := by decide +kernel
theorem d_M_put_77 : decode b_M_put 77 = .ok (.iconst 1, 1) := by decide +kernel
theorem d_M_put_78 : decode b_M_put 78 = .ok (.iadd, 1) := by decide +kernel
theorem d_M_put_79 : decode b_M_put 79 = .ok (.iconst 4, 1) := by decide +kernel
theorem d_M_put_80 : decode b_M_put 80 = .ok (.irem, 1) := by decide +kernel
theorem d_M_put_81 : decode b_M_put 81 = .ok (.iastore, 1) := by decide +kernel
theorem d_M_put_82 : decode b_M_put 82 = .ok (.aload_n 0, 1) := by decide +kernel
theorem d_M_put_83 : decode b_M_put 83 = .ok (.getfield 22, 3) := by decide +kernel
theorem d_M_put_86 : decode b_M_put 86 = .ok (.iload_n 2, 1) := by decide +kernel
theorem d_M_put_87 : decode b_M_put 87 = .ok (.aload_n 0, 1) := by decide +kernel
theorem d_M_put_88 : decode b_M_put 88 = .ok (.getfield 89, 3) := by decide +kernel
theorem d_M_put_91 : decode b_M_put 91 = .ok (.iastore, 1) := by decide +kernel
theorem d_M_put_92 : decode b_M_put 92 = .ok (.aload_n 0, 1) := by decide +kernel
theorem d_M_put_93 : decode b_M_put 93 = .ok (.getfield 25, 3) := by decide +kernel
theorem d_M_put_96 : decode b_M_put 96 = .ok (.iload_n 2, 1) := by decide +kernel
theorem d_M_put_97 : decode b_M_put 97 = .ok (.aload_n 0, 1) := by decide +kernel
theorem d_M_put_98 : decode b_M_put 98 = .ok (.getfield 92, 3) := by decide +kernel
theorem d_M_put_101 : decode b_M_put 101 = .ok (.iastore, 1) := by decide +kernel
theorem d_M_put_102 : decode b_M_put 102 = .ok (.aload_n 0, 1) := by decide +kernel
theorem d_M_put_103 : decode b_M_put 103 = .ok (.getfield 28, 3) := by decide +kernel
theorem d_M_put_106 : decode b_M_put 106 = .ok (.iload_n 2, 1) := by decide +kernel
theorem d_M_put_107 : decode b_M_put 107 = .ok (.aload_n 0, 1) := by decide +kernel
theorem d_M_put_108 : decode b_M_put 108 = .ok (.getfield 95, 3) := by decide +kernel
theorem d_M_put_111 : decode b_M_put 111 = .ok (.iastore, 1) := by decide +kernel
theorem d_M_put_112 : decode b_M_put 112 = .ok (.aload_n 0, 1) := by decide +kernel
theorem d_M_put_113 : decode b_M_put 113 = .ok (.getfield 31, 3) := by decide +kernel
theorem d_M_put_116 : decode b_M_put 116 = .ok (.iload_n 2, 1) := by decide +kernel
theorem d_M_put_117 : decode b_M_put 117 = .ok (.aload_n 0, 1) := by decide +kernel
theorem d_M_put_118 : decode b_M_put 118 = .ok (.getfield 98, 3) := by decide +kernel
theorem d_M_put_121 : decode b_M_put 121 = .ok (.bastore, 1) := by decide +kernel
theorem d_M_put_122 : decode b_M_put 122 = .ok (.aload_n 0, 1) := by decide +kernel
theorem d_M_put_123 : decode b_M_put 123 = .ok (.getfield 35, 3) := by decide +kernel
theorem d_M_put_126 : decode b_M_put 126 = .ok (.iload_n 2, 1) := by decide +kernel
theorem d_M_put_127 : decode b_M_put 127 = .ok (.aload_n 0, 1) := by decide +kernel
theorem d_M_put_128 : decode b_M_put 128 = .ok (.getfield 101, 3) := by decide +kernel
theorem d_M_put_131 : decode b_M_put 131 = .ok (.iastore, 1) := by decide +kernel
theorem d_M_put_132 : decode b_M_put 132 = .ok (.aload_n 0, 1) := by decide +kernel
theorem d_M_put_133 : decode b_M_put 133 = .ok (.getfield 38, 3) := by decide +kernel
theorem d_M_put_136 : decode b_M_put 136 = .ok (.iload_n 2, 1) := by decide +kernel
theorem d_M_put_137 : decode b_M_put 137 = .ok (.aload_n 0, 1) := by decide +kernel
theorem d_M_put_138 : decode b_M_put 138 = .ok (.getfield 104, 3) := by decide +kernel
theorem d_M_put_141 : decode b_M_put 141 = .ok (.iastore, 1) := by decide +kernel
theorem d_M_put_142 : decode b_M_put 142 = .ok (.aload_n 0, 1) := by decide +kernel
theorem d_M_put_143 : decode b_M_put 143 = .ok (.getfield 50, 3) := by decide +kernel
theorem d_M_put_146 : decode b_M_put 146 = .ok (.iload_n 2, 1) := by decide +kernel
theorem d_M_put_147 : decode b_M_put 147 = .ok (.bipush 8, 2) := by decide +kernel
theorem d_M_put_149 : decode b_M_put 149 = .ok (.idiv, 1) := by decide +kernel
theorem d_M_put_150 : decode b_M_put 150 = .ok (.iconst 1, 1) := by decide +kernel
theorem d_M_put_151 : decode b_M_put 151 = .ok (.bastore, 1) := by decide +kernel
theorem d_M_put_152 : decode b_M_put 152 = .ok (.iload_n 1, 1) := by decide +kernel
theorem d_M_put_153 : decode b_M_put 153 = .ok (.ifCond .lt (11), 3) := by decide +kernel
theorem d_M_put_156 : decode b_M_put 156 = .ok (.aload_n 0, 1) := by decide +kernel
theorem d_M_put_157 : decode b_M_put 157 = .ok (.iload_n 1, 1) := by decide +kernel
theorem d_M_put_158 : decode b_M_put 158 = .ok (.invokevirtual 107, 3) := by decide +kernel
theorem d_M_put_161 : decode b_M_put 161 = .ok (.ifCond .eq (7), 3) := by decide +kernel
theorem d_M_put_164 : decode b_M_put 164 = .ok (.iconst 1, 1) := by decide +kernel
theorem d_M_put_165 : decode b_M_put 165 = .ok (.goto (4), 3) := by decide +kernel
theorem d_M_put_168 : decode b_M_put 168 = .ok (.iconst 0, 1) := by decide +kernel
theorem d_M_put_169 : decode b_M_put 169 = .ok (.ireturn, 1) := by decide +kernel
theorem d_M_fresh_0 : decode b_M_fresh 0 = .ok (.aload_n 0, 1) := by decide +kernel
theorem d_M_fresh_1 : decode b_M_fresh 1 = .ok (.iload_n 1, 1) := by decide +kernel
theorem d_M_fresh_2 : decode b_M_fresh 2 = .ok (.putfield 75, 3) := by decide +kernel
theorem d_M_fresh_5 : decode b_M_fresh 5 = .ok (.aload_n 0, 1) := by decide +kernel
theorem d_M_fresh_6 : decode b_M_fresh 6 = .ok (.iload_n 2, 1) := by decide +kernel
theorem d_M_fresh_7 : decode b_M_fresh 7 = .ok (.putfield 78, 3) := by decide +kernel
theorem d_M_fresh_10 : decode b_M_fresh 10 = .ok (.aload_n 0, 1) := by decide +kernel
theorem d_M_fresh_11 : decode b_M_fresh 11 = .ok (.iload_n 3, 1) := by decide +kernel
theorem d_M_fresh_12 : decode b_M_fresh 12 = .ok (.putfield 89, 3) := by decide +kernel
theorem d_M_fresh_15 : decode b_M_fresh 15 = .ok (.aload_n 0, 1) := by decide +kernel
theorem d_M_fresh_16 : decode b_M_fresh 16 = .ok (.iconst 0, 1) := by decide +kernel
theorem d_M_fresh_17 : decode b_M_fresh 17 = .ok (.putfield 92, 3) := by decide +kernel
theorem d_M_fresh_20 : decode b_M_fresh 20 = .ok (.aload_n 0, 1) := by decide +kernel
theorem d_M_fresh_21 : decode b_M_fresh 21 = .ok (.iconst 0, 1) := by decide +kernel
theorem d_M_fresh_22 : decode b_M_fresh 22 = .ok (.putfield 95, 3) := by decide +kernel
theorem d_M_fresh_25 : decode b_M_fresh 25 = .ok (.aload_n 0, 1) := by decide +kernel
theorem d_M_fresh_26 : decode b_M_fresh 26 = .ok (.iconst 0, 1) := by decide +kernel
theorem d_M_fresh_27 : decode b_M_fresh 27 = .ok (.putfield 98, 3) := by decide +kernel
theorem d_M_fresh_30 : decode b_M_fresh 30 = .ok (.aload_n 0, 1) := by decide +kernel
theorem d_M_fresh_31 : decode b_M_fresh 31 = .ok (.iconst (-1), 1) := by decide +kernel
theorem d_M_fresh_32 : decode b_M_fresh 32 = .ok (.putfield 101, 3) := by decide +kernel
theorem d_M_fresh_35 : decode b_M_fresh 35 = .ok (.aload_n 0, 1) := by decide +kernel
theorem d_M_fresh_36 : decode b_M_fresh 36 = .ok (.iconst (-1), 1) := by decide +kernel
theorem d_M_fresh_37 : decode b_M_fresh 37 = .ok (.putfield 104, 3) := by decide +kernel
theorem d_M_fresh_40 : decode b_M_fresh 40 = .ok (.return_, 1) := by decide +kernel
theorem d_M_like_0 : decode b_M_like 0 = .ok (.aload_n 0, 1) := by decide +kernel
theorem d_M_like_1 : decode b_M_like 1 = .ok (.aload_n 0, 1) := by decide +kernel
theorem d_M_like_2 : decode b_M_like 2 = .ok (.getfield 13, 3) := by decide +kernel
theorem d_M_like_5 : decode b_M_like 5 = .ok (.iload_n 1, 1) := by decide +kernel
theorem d_M_like_6 : decode b_M_like 6 = .ok (.iaload, 1) := by decide +kernel
theorem d_M_like_7 : decode b_M_like 7 = .ok (.aload_n 0, 1) := by decide +kernel
theorem d_M_like_8 : decode b_M_like 8 = .ok (.getfield 16, 3) := by decide +kernel
theorem d_M_like_11 : decode b_M_like 11 = .ok (.iload_n 1, 1) := by decide +kernel
theorem d_M_like_12 : decode b_M_like 12 = .ok (.iaload, 1) := by decide +kernel
theorem d_M_like_13 : decode b_M_like 13 = .ok (.aload_n 0, 1) := by decide +kernel
theorem d_M_like_14 : decode b_M_like 14 = .ok (.getfield 22, 3) := by decide +kernel
theorem d_M_like_17 : decode b_M_like 17 = .ok (.iload_n 1, 1) := by decide +kernel
theorem d_M_like_18 : decode b_M_like 18 = .ok (.iaload, 1) := by decide +kernel
theorem d_M_like_19 : decode b_M_like 19 = .ok (.invokevirtual 111, 3) := by decide +kernel
theorem d_M_like_22 : decode b_M_like 22 = .ok (.aload_n 0, 1) := by decide +kernel
theorem d_M_like_23 : decode b_M_like 23 = .ok (.aload_n 0, 1) := by decide +kernel
theorem d_M_like_24 : decode b_M_like 24 = .ok (.getfield 25, 3) := by decide +kernel
theorem d_M_like_27 : decode b_M_like 27 = .ok (.iload_n 1, 1) := by decide +kernel
theorem d_M_like_28 : decode b_M_like 28 = .ok (.iaload, 1) := by decide +kernel
theorem d_M_like_29 : decode b_M_like 29 = .ok (.putfield 92, 3) := by decide +kernel
theorem d_M_like_32 : decode b_M_like 32 = .ok (.aload_n 0, 1) := by decide +kernel
theorem d_M_like_33 : decode b_M_like 33 = .ok (.aload_n 0, 1) := by decide +kernel
theorem d_M_like_34 : decode b_M_like 34 = .ok (.getfield 28, 3) := by decide +kernel
theorem d_M_like_37 : decode b_M_like 37 = .ok (.iload_n 1, 1) := by decide +kernel
theorem d_M_like_38 : decode b_M_like 38 = .ok (.iaload, 1) := by decide +kernel
theorem d_M_like_39 : decode b_M_like 39 = .ok (.putfield 95, 3) := by decide +kernel
theorem d_M_like_42 : decode b_M_like 42 = .ok (.aload_n 0, 1) := by decide +kernel
theorem d_M_like_43 : decode b_M_like 43 = .ok (.aload_n 0, 1) := by decide +kernel
theorem d_M_like_44 : decode b_M_like 44 = .ok (.getfield 31, 3) := by decide +kernel
theorem d_M_like_47 : decode b_M_like 47 = .ok (.iload_n 1, 1) := by decide +kernel
theorem d_M_like_48 : decode b_M_like 48 = .ok (.baload, 1) := by decide +kernel
theorem d_M_like_49 : decode b_M_like 49 = .ok (.putfield 98, 3) := by decide +kernel
theorem d_M_like_52 : decode b_M_like 52 = .ok (.aload_n 0, 1) := by decide +kernel
theorem d_M_like_53 : decode b_M_like 53 = .ok (.aload_n 0, 1) := by decide +kernel
theorem d_M_like_54 : decode b_M_like 54 = .ok (.getfield 38, 3) := by decide +kernel
theorem d_M_like_57 : decode b_M_like 57 = .ok (.iload_n 1, 1) := by decide +kernel
theorem d_M_like_58 : decode b_M_like 58 = .ok (.iaload, 1) := by decide +kernel
theorem d_M_like_59 : decode b_M_like 59 = .ok (.ifCond .ge (7), 3) := by decide +kernel
theorem d_M_like_62 : decode b_M_like 62 = .ok (.iconst (-1), 1) := by decide +kernel
theorem d_M_like_63 : decode b_M_like 63 = .ok (.goto (9), 3) := by decide +kernel
theorem d_M_like_66 : decode b_M_like 66 = .ok (.aload_n 0, 1) := by decide +kernel
theorem d_M_like_67 : decode b_M_like 67 = .ok (.getfield 35, 3) := by decide +kernel
theorem d_M_like_70 : decode b_M_like 70 = .ok (.iload_n 1, 1) := by decide +kernel
theorem d_M_like_71 : decode b_M_like 71 = .ok (.iaload, 1) := by decide +kernel
theorem d_M_like_72 : decode b_M_like 72 = .ok (.putfield 101, 3) := by decide +kernel
theorem d_M_like_75 : decode b_M_like 75 = .ok (.aload_n 0, 1) := by decide +kernel
theorem d_M_like_76 : decode b_M_like 76 = .ok (.aload_n 0, 1) := by decide +kernel
theorem d_M_like_77 : decode b_M_like 77 = .ok (.getfield 38, 3) := by decide +kernel
theorem d_M_like_80 : decode b_M_like 80 = .ok (.iload_n 1, 1) := by decide +kernel
theorem d_M_like_81 : decode b_M_like 81 = .ok (.iaload, 1) := by decide +kernel
theorem d_M_like_82 : decode b_M_like 82 = .ok (.putfield 104, 3) := by decide +kernel
theorem d_M_like_85 : decode b_M_like 85 = .ok (.return_, 1) := by decide +kernel
theorem d_M_collect_0 : decode b_M_collect 0 = .ok (.bipush 8, 2) := by decide +kernel
theorem d_M_collect_2 : decode b_M_collect 2 = .ok (.iload_n 1, 1) := by decide +kernel
theorem d_M_collect_3 : decode b_M_collect 3 = .ok (.imul, 1) := by decide +kernel
theorem d_M_collect_4 : decode b_M_collect 4 = .ok (.istore_n 2, 1) := by decide +kernel
theorem d_M_collect_5 : decode b_M_collect 5 = .ok (.iload_n 2, 1) := by decide +kernel
theorem d_M_collect_6 : decode b_M_collect 6 = .ok (.bipush 8, 2) := by decide +kernel
theorem d_M_collect_8 : decode b_M_collect 8 = .ok (.iload_n 1, 1) := by decide +kernel
theorem d_M_collect_9 : decode b_M_collect 9 = .ok (.imul, 1) := by decide +kernel
theorem d_M_collect_10 : decode b_M_collect 10 = .ok (.bipush 8, 2) := by decide +kernel
theorem d_M_collect_12 : decode b_M_collect 12 = .ok (.iadd, 1) := by decide +kernel
theorem d_M_collect_13 : decode b_M_collect 13 = .ok (.if_icmp .ge (33), 3) := by decide +kernel
theorem d_M_collect_16 : decode b_M_collect 16 = .ok (.aload_n 0, 1) := by decide +kernel
theorem d_M_collect_17 : decode b_M_collect 17 = .ok (.getfield 7, 3) := by decide +kernel
theorem d_M_collect_20 : decode b_M_collect 20 = .ok (.iload_n 2, 1) := by decide +kernel
theorem d_M_collect_21 : decode b_M_collect 21 = .ok (.iaload, 1) := by decide +kernel
theorem d_M_collect_22 : decode b_M_collect 22 = .ok (.iconst 1, 1) := by decide +kernel
theorem d_M_collect_23 : decode b_M_collect 23 = .ok (.if_icmp .ne (17), 3) := by decide +kernel
theorem d_M_collect_26 : decode b_M_collect 26 = .ok (.aload_n 0, 1) := by decide +kernel
theorem d_M_collect_27 : decode b_M_collect 27 = .ok (.iload_n 2, 1) := by decide +kernel
theorem d_M_collect_28 : decode b_M_collect 28 = .ok (.invokevirtual 115, 3) := by decide +kernel
theorem d_M_collect_31 : decode b_M_collect 31 = .ok (.aload_n 0, 1) := by decide +kernel
theorem d_M_collect_32 : decode b_M_collect 32 = .ok (.invokevirtual 119, 3) := by decide +kernel
theorem d_M_collect_35 : decode b_M_collect 35 = .ok (.ifCond .ne (5), 3) := by decide +kernel
theorem d_M_collect_38 : decode b_M_collect 38 = .ok (.iconst 0, 1) := by decide +kernel
theorem d_M_collect_39 : decode b_M_collect 39 = .ok (.ireturn, 1) := by decide +kernel
theorem d_M_collect_40 : decode b_M_collect 40 = .ok (.iinc 2 (1), 3) := by decide +kernel
theorem d_M_collect_43 : decode b_M_collect 43 = .ok (.goto (-38), 3) := by decide +kernel
theorem d_M_collect_46 : decode b_M_collect 46 = .ok (.aload_n 0, 1) := by decide +kernel
theorem d_M_collect_47 : decode b_M_collect 47 = .ok (.invokevirtual 71, 3) := by decide +kernel
theorem d_M_collect_50 : decode b_M_collect 50 = .ok (.ifCond .ne (5), 3) := by decide +kernel
theorem d_M_collect_53 : decode b_M_collect 53 = .ok (.iconst 0, 1) := by decide +kernel
theorem d_M_collect_54 : decode b_M_collect 54 = .ok (.ireturn, 1) := by decide +kernel
theorem d_M_collect_55 : decode b_M_collect 55 = .ok (.aload_n 0, 1) := by decide +kernel
theorem d_M_collect_56 : decode b_M_collect 56 = .ok (.getfield 50, 3) := by decide +kernel
theorem d_M_collect_59 : decode b_M_collect 59 = .ok (.iload_n 1, 1) := by decide +kernel
theorem d_M_collect_60 : decode b_M_collect 60 = .ok (.iconst 1, 1) := by decide +kernel
theorem d_M_collect_61 : decode b_M_collect 61 = .ok (.bastore, 1) := by decide +kernel
theorem d_M_collect_62 : decode b_M_collect 62 = .ok (.aload_n 0, 1) := by decide +kernel
theorem d_M_collect_63 : decode b_M_collect 63 = .ok (.getfield 47, 3) := by decide +kernel
theorem d_M_collect_66 : decode b_M_collect 66 = .ok (.iload_n 1, 1) := by decide +kernel
theorem d_M_collect_67 : decode b_M_collect 67 = .ok (.baload, 1) := by decide +kernel
theorem d_M_collect_68 : decode b_M_collect 68 = .ok (.ifCond .eq (12), 3) := by decide +kernel
theorem d_M_collect_71 : decode b_M_collect 71 = .ok (.aload_n 0, 1) := by decide +kernel
theorem d_M_collect_72 : decode b_M_collect 72 = .ok (.getfield 44, 3) := by decide +kernel
theorem d_M_collect_75 : decode b_M_collect 75 = .ok (.iload_n 1, 1) := by decide +kernel
theorem d_M_collect_76 : decode b_M_collect 76 = .ok (.iconst 1, 1) := by decide +kernel
theorem d_M_collect_77 : decode b_M_collect 77 = .ok (.bastore, 1) := by decide +kernel
theorem d_M_collect_78 : decode b_M_collect 78 = .ok (.iconst 1, 1) := by decide +kernel
theorem d_M_collect_79 : decode b_M_collect 79 = .ok (.ireturn, 1) := by decide +kernel
theorem d_M_collect_80 : decode b_M_collect 80 = .ok (.aload_n 0, 1) := by decide +kernel
theorem d_M_collect_81 : decode b_M_collect 81 = .ok (.getfield 53, 3) := by decide +kernel
theorem d_M_collect_84 : decode b_M_collect 84 = .ok (.iload_n 1, 1) := by decide +kernel
theorem d_M_collect_85 : decode b_M_collect 85 = .ok (.dup2, 1) := by decide +kernel
theorem d_M_collect_86 : decode b_M_collect 86 = .ok (.iaload, 1) := by decide +kernel
theorem d_M_collect_87 : decode b_M_collect 87 = .ok (.iconst 1, 1) := by decide +kernel
theorem d_M_collect_88 : decode b_M_collect 88 = .ok (.iadd, 1) := by decide +kernel
theorem d_M_collect_89 : decode b_M_collect 89 = .ok (.iastore, 1) := by decide +kernel
theorem d_M_collect_90 : decode b_M_collect 90 = .ok (.bipush 8, 2) := by decide +kernel
theorem d_M_collect_92 : decode b_M_collect 92 = .ok (.iload_n 1, 1) := by decide +kernel
theorem d_M_collect_93 : decode b_M_collect 93 = .ok (.imul, 1) := by decide +kernel
theorem d_M_collect_94 : decode b_M_collect 94 = .ok (.istore_n 2, 1) := by decide +kernel
theorem d_M_collect_95 : decode b_M_collect 95 = .ok (.iload_n 2, 1) := by decide +kernel
theorem d_M_collect_96 : decode b_M_collect 96 = .ok (.bipush 8, 2) := by decide +kernel
theorem d_M_collect_98 : decode b_M_collect 98 = .ok (.iload_n 1, 1) := by decide +kernel
theorem d_M_collect_99 : decode b_M_collect 99 = .ok (.imul, 1) := by decide +kernel
theorem d_M_collect_100 : decode b_M_collect 100 = .ok (.bipush 8, 2) := by decide +kernel
theorem d_M_collect_102 : decode b_M_collect 102 = .ok (.iadd, 1) := by decide +kernel
theorem d_M_collect_103 : decode b_M_collect 103 = .ok (.if_icmp .ge (16), 3) := by decide +kernel
theorem d_M_collect_106 : decode b_M_collect 106 = .ok (.aload_n 0, 1) := by decide +kernel
theorem d_M_collect_107 : decode b_M_collect 107 = .ok (.getfield 7, 3) := by decide +kernel
theorem d_M_collect_110 : decode b_M_collect 110 = .ok (.iload_n 2, 1) := by decide +kernel
theorem d_M_collect_111 : decode b_M_collect 111 = .ok (.iconst 0, 1) := by decide +kernel
theorem d_M_collect_112 : decode b_M_collect 112 = .ok (.iastore, 1) := by decide +kernel
theorem d_M_collect_113 : decode b_M_collect 113 = .ok (.iinc 2 (1), 3) := by decide +kernel
theorem d_M_collect_116 : decode b_M_collect 116 = .ok (.goto (-21), 3) := by decide +kernel
theorem d_M_collect_119 : decode b_M_collect 119 = .ok (.iconst 1, 1) := by decide +kernel
theorem d_M_collect_120 : decode b_M_collect 120 = .ok (.ireturn, 1) := by decide +kernel
theorem d_M_free_0 : decode b_M_free 0 = .ok (.iconst 0, 1) := by decide +kernel
theorem d_M_free_1 : decode b_M_free 1 = .ok (.istore_n 1, 1) := by decide +kernel
theorem d_M_free_2 : decode b_M_free 2 = .ok (.iconst 0, 1) := by decide +kernel
theorem d_M_free_3 : decode b_M_free 3 = .ok (.istore_n 2, 1) := by decide +kernel
theorem d_M_free_4 : decode b_M_free 4 = .ok (.iload_n 2, 1) := by decide +kernel
theorem d_M_free_5 : decode b_M_free 5 = .ok (.bipush 6, 2) := by decide +kernel
theorem d_M_free_7 : decode b_M_free 7 = .ok (.if_icmp .ge (33), 3) := by decide +kernel
theorem d_M_free_10 : decode b_M_free 10 = .ok (.iload_n 1, 1) := by decide +kernel
theorem d_M_free_11 : decode b_M_free 11 = .ok (.aload_n 0, 1) := by decide +kernel
theorem d_M_free_12 : decode b_M_free 12 = .ok (.getfield 44, 3) := by decide +kernel
theorem d_M_free_15 : decode b_M_free 15 = .ok (.iload_n 2, 1) := by decide +kernel
theorem d_M_free_16 : decode b_M_free 16 = .ok (.baload, 1) := by decide +kernel
theorem d_M_free_17 : decode b_M_free 17 = .ok (.ifCond .eq (7), 3) := by decide +kernel
theorem d_M_free_20 : decode b_M_free 20 = .ok (.iconst 0, 1) := by decide +kernel
theorem d_M_free_21 : decode b_M_free 21 = .ok (.goto (11), 3) := by decide +kernel
theorem d_M_free_24 : decode b_M_free 24 = .ok (.bipush 8, 2) := by decide +kernel
theorem d_M_free_26 : decode b_M_free 26 = .ok (.aload_n 0, 1) := by decide +kernel
theorem d_M_free_27 : decode b_M_free 27 = .ok (.iload_n 2, 1) := by decide +kernel
theorem d_M_free_28 : decode b_M_free 28 = .ok (.invokevirtual 67, 3) := by decide +kernel
theorem d_M_free_31 : decode b_M_free 31 = .ok (.isub, 1) := by decide +kernel
theorem d_M_free_32 : decode b_M_free 32 = .ok (.iadd, 1) := by decide +kernel
theorem d_M_free_33 : decode b_M_free 33 = .ok (.istore_n 1, 1) := by decide +kernel
theorem d_M_free_34 : decode b_M_free 34 = .ok (.iinc 2 (1), 3) := by decide +kernel
theorem d_M_free_37 : decode b_M_free 37 = .ok (.goto (-33), 3) := by decide +kernel
theorem d_M_free_40 : decode b_M_free 40 = .ok (.iload_n 1, 1) := by decide +kernel
theorem d_M_free_41 : decode b_M_free 41 = .ok (.ireturn, 1) := by decide +kernel
theorem d_M_poorest_0 : decode b_M_poorest 0 = .ok (.iconst (-1), 1) := by decide +kernel
theorem d_M_poorest_1 : decode b_M_poorest 1 = .ok (.istore_n 1, 1) := by decide +kernel
theorem d_M_poorest_2 : decode b_M_poorest 2 = .ok (.aload_n 0, 1) := by decide +kernel
theorem d_M_poorest_3 : decode b_M_poorest 3 = .ok (.invokevirtual 122, 3) := by decide +kernel
theorem d_M_poorest_6 : decode b_M_poorest 6 = .ok (.istore_n 2, 1) := by decide +kernel
theorem d_M_poorest_7 : decode b_M_poorest 7 = .ok (.iconst 5, 1) := by decide +kernel
theorem d_M_poorest_8 : decode b_M_poorest 8 = .ok (.istore_n 3, 1) := by decide +kernel
theorem d_M_poorest_9 : decode b_M_poorest 9 = .ok (.iload_n 3, 1) := by decide +kernel
theorem d_M_poorest_10 : decode b_M_poorest 10 = .ok (.ifCond .lt (76), 3) := by decide +kernel
theorem d_M_poorest_13 : decode b_M_poorest 13 = .ok (.aload_n 0, 1) := by decide +kernel
theorem d_M_poorest_14 : decode b_M_poorest 14 = .ok (.iload_n 3, 1) := by decide +kernel
theorem d_M_poorest_15 : decode b_M_poorest 15 = .ok (.invokevirtual 125, 3) := by decide +kernel
theorem d_M_poorest_18 : decode b_M_poorest 18 = .ok (.istore 4, 2) := by decide +kernel
theorem d_M_poorest_20 : decode b_M_poorest 20 = .ok (.aload_n 0, 1) := by decide +kernel
theorem d_M_poorest_21 : decode b_M_poorest 21 = .ok (.getfield 44, 3) := by decide +kernel
theorem d_M_poorest_24 : decode b_M_poorest 24 = .ok (.iload_n 3, 1) := by decide +kernel
theorem d_M_poorest_25 : decode b_M_poorest 25 = .ok (.baload, 1) := by decide +kernel
theorem d_M_poorest_26 : decode b_M_poorest 26 = .ok (.ifCond .ne (30), 3) := by decide +kernel
theorem d_M_poorest_29 : decode b_M_poorest 29 = .ok (.aload_n 0, 1) := by decide +kernel
theorem d_M_poorest_30 : decode b_M_poorest 30 = .ok (.iload_n 3, 1) := by decide +kernel
theorem d_M_poorest_31 : decode b_M_poorest 31 = .ok (.invokevirtual 67, 3) := by decide +kernel
theorem d_M_poorest_34 : decode b_M_poorest 34 = .ok (.bipush 8, 2) := by decide +kernel
theorem d_M_poorest_36 : decode b_M_poorest 36 = .ok (.if_icmp .ne (20), 3) := by decide +kernel
theorem d_M_poorest_39 : decode b_M_poorest 39 = .ok (.iload 4, 2) := by decide +kernel
theorem d_M_poorest_41 : decode b_M_poorest 41 = .ok (.bipush 8, 2) := by decide +kernel
theorem d_M_poorest_43 : decode b_M_poorest 43 = .ok (.if_icmp .ge (13), 3) := by decide +kernel
theorem d_M_poorest_46 : decode b_M_poorest 46 = .ok (.iload 4, 2) := by decide +kernel
theorem d_M_poorest_48 : decode b_M_poorest 48 = .ok (.iload_n 2, 1) := by decide +kernel
theorem d_M_poorest_49 : decode b_M_poorest 49 = .ok (.if_icmp .gt (7), 3) := by decide +kernel
theorem d_M_poorest_52 : decode b_M_poorest 52 = .ok (.iconst 1, 1) := by decide +kernel
theorem d_M_poorest_53 : decode b_M_poorest 53 = .ok (.goto (4), 3) := by decide +kernel
theorem d_M_poorest_56 : decode b_M_poorest 56 = .ok (.iconst 0, 1) := by decide +kernel
theorem d_M_poorest_57 : decode b_M_poorest 57 = .ok (.istore 5, 2) := by decide +kernel
theorem d_M_poorest_59 : decode b_M_poorest 59 = .ok (.iload 5, 2) := by decide +kernel
theorem d_M_poorest_61 : decode b_M_poorest 61 = .ok (.ifCond .eq (19), 3) := by decide +kernel
theorem d_M_poorest_64 : decode b_M_poorest 64 = .ok (.iload_n 1, 1) := by decide +kernel
theorem d_M_poorest_65 : decode b_M_poorest 65 = .ok (.ifCond .lt (13), 3) := by decide +kernel
theorem d_M_poorest_68 : decode b_M_poorest 68 = .ok (.iload 4, 2) := by decide +kernel
theorem d_M_poorest_70 : decode b_M_poorest 70 = .ok (.aload_n 0, 1) := by decide +kernel
theorem d_M_poorest_71 : decode b_M_poorest 71 = .ok (.iload_n 1, 1) := by decide +kernel
theorem d_M_poorest_72 : decode b_M_poorest 72 = .ok (.invokevirtual 125, 3) := by decide +kernel
theorem d_M_poorest_75 : decode b_M_poorest 75 = .ok (.if_icmp .gt (5), 3) := by decide +kernel
theorem d_M_poorest_78 : decode b_M_poorest 78 = .ok (.iload_n 3, 1) := by decide +kernel
theorem d_M_poorest_79 : decode b_M_poorest 79 = .ok (.istore_n 1, 1) := by decide +kernel
theorem d_M_poorest_80 : decode b_M_poorest 80 = .ok (.iinc 3 (-1), 3) := by decide +kernel
theorem d_M_poorest_83 : decode b_M_poorest 83 = .ok (.goto (-74), 3) := by decide +kernel
theorem d_M_poorest_86 : decode b_M_poorest 86 = .ok (.iload_n 1, 1) := by decide +kernel
theorem d_M_poorest_87 : decode b_M_poorest 87 = .ok (.ireturn, 1) := by decide +kernel
end
section
theorem d_M_room_0 : decode b_M_room 0 = .ok (.iconst 0, 1) := by decide +kernel
theorem d_M_room_1 : decode b_M_room 1 = .ok (.istore_n 2, 1) := by decide +kernel
theorem d_M_room_2 : decode b_M_room 2 = .ok (.iload_n 2, 1) := by decide +kernel
theorem d_M_room_3 : decode b_M_room 3 = .ok (.bipush 100, 2) := by decide +kernel
theorem d_M_room_5 : decode b_M_room 5 = .ok (.if_icmp .ge (45), 3) := by decide +kernel
theorem d_M_room_8 : decode b_M_room 8 = .ok (.aload_n 0, 1) := by decide +kernel
theorem d_M_room_9 : decode b_M_room 9 = .ok (.invokevirtual 122, 3) := by decide +kernel
theorem d_M_room_12 : decode b_M_room 12 = .ok (.bipush 8, 2) := by decide +kernel
theorem d_M_room_14 : decode b_M_room 14 = .ok (.iload_n 1, 1) := by decide +kernel
theorem d_M_room_15 : decode b_M_room 15 = .ok (.iadd, 1) := by decide +kernel
theorem d_M_room_16 : decode b_M_room 16 = .ok (.if_icmp .lt (5), 3) := by decide +kernel
theorem d_M_room_19 : decode b_M_room 19 = .ok (.iconst 0, 1) := by decide +kernel
theorem d_M_room_20 : decode b_M_room 20 = .ok (.ireturn, 1) := by decide +kernel
theorem d_M_room_21 : decode b_M_room 21 = .ok (.aload_n 0, 1) := by decide +kernel
theorem d_M_room_22 : decode b_M_room 22 = .ok (.invokevirtual 128, 3) := by decide +kernel
theorem d_M_room_25 : decode b_M_room 25 = .ok (.istore_n 3, 1) := by decide +kernel
theorem d_M_room_26 : decode b_M_room 26 = .ok (.iload_n 3, 1) := by decide +kernel
theorem d_M_room_27 : decode b_M_room 27 = .ok (.ifCond .ge (6), 3) := by decide +kernel
theorem d_M_room_30 : decode b_M_room 30 = .ok (.bipush (-6), 2) := by decide +kernel
theorem d_M_room_32 : decode b_M_room 32 = .ok (.ireturn, 1) := by decide +kernel
theorem d_M_room_33 : decode b_M_room 33 = .ok (.aload_n 0, 1) := by decide +kernel
theorem d_M_room_34 : decode b_M_room 34 = .ok (.iload_n 3, 1) := by decide +kernel
theorem d_M_room_35 : decode b_M_room 35 = .ok (.invokevirtual 131, 3) := by decide +kernel
theorem d_M_room_38 : decode b_M_room 38 = .ok (.ifCond .ne (6), 3) := by decide +kernel
theorem d_M_room_41 : decode b_M_room 41 = .ok (.bipush (-9), 2) := by decide +kernel
theorem d_M_room_43 : decode b_M_room 43 = .ok (.ireturn, 1) := by decide +kernel
theorem d_M_room_44 : decode b_M_room 44 = .ok (.iinc 2 (1), 3) := by decide +kernel
theorem d_M_room_47 : decode b_M_room 47 = .ok (.goto (-45), 3) := by decide +kernel
theorem d_M_room_50 : decode b_M_room 50 = .ok (.bipush (-6), 2) := by decide +kernel
theorem d_M_room_52 : decode b_M_room 52 = .ok (.ireturn, 1) := by decide +kernel
theorem d_M_header_0 : decode b_M_header 0 = .ok (.iload_n 1, 1) := by decide +kernel
theorem d_M_header_1 : decode b_M_header 1 = .ok (.iconst 1, 1) := by decide +kernel
theorem d_M_header_2 : decode b_M_header 2 = .ok (.if_icmp .lt (18), 3) := by decide +kernel
theorem d_M_header_5 : decode b_M_header 5 = .ok (.iload_n 1, 1) := by decide +kernel
theorem d_M_header_6 : decode b_M_header 6 = .ok (.bipush 7, 2) := by decide +kernel
theorem d_M_header_8 : decode b_M_header 8 = .ok (.if_icmp .gt (12), 3) := by decide +kernel
theorem d_M_header_11 : decode b_M_header 11 = .ok (.aload_n 0, 1) := by decide +kernel
theorem d_M_header_12 : decode b_M_header 12 = .ok (.iload_n 1, 1) := by decide +kernel
theorem d_M_header_13 : decode b_M_header 13 = .ok (.iconst 0, 1) := by decide +kernel
theorem d_M_header_14 : decode b_M_header 14 = .ok (.invokevirtual 81, 3) := by decide +kernel
theorem d_M_header_17 : decode b_M_header 17 = .ok (.goto (4), 3) := by decide +kernel
theorem d_M_header_20 : decode b_M_header 20 = .ok (.iconst (-1), 1) := by decide +kernel
theorem d_M_header_21 : decode b_M_header 21 = .ok (.ireturn, 1) := by decide +kernel
theorem d_M_directory_0 : decode b_M_directory 0 = .ok (.aload_n 0, 1) := by decide +kernel
theorem d_M_directory_1 : decode b_M_directory 1 = .ok (.iload_n 1, 1) := by decide +kernel
theorem d_M_directory_2 : decode b_M_directory 2 = .ok (.invokevirtual 134, 3) := by decide +kernel
theorem d_M_directory_5 : decode b_M_directory 5 = .ok (.istore_n 2, 1) := by decide +kernel
theorem d_M_directory_6 : decode b_M_directory 6 = .ok (.iload_n 1, 1) := by decide +kernel
theorem d_M_directory_7 : decode b_M_directory 7 = .ok (.ifCond .eq (16), 3) := by decide +kernel
theorem d_M_directory_10 : decode b_M_directory 10 = .ok (.iload_n 2, 1) := by decide +kernel
theorem d_M_directory_11 : decode b_M_directory 11 = .ok (.ifCond .lt (16), 3) := by decide +kernel
theorem d_M_directory_14 : decode b_M_directory 14 = .ok (.aload_n 0, 1) := by decide +kernel
theorem d_M_directory_15 : decode b_M_directory 15 = .ok (.getfield 31, 3) := by decide +kernel
theorem d_M_directory_18 : decode b_M_directory 18 = .ok (.iload_n 2, 1) := by decide +kernel
theorem d_M_directory_19 : decode b_M_directory 19 = .ok (.baload, 1) := by decide +kernel
theorem d_M_directory_20 : decode b_M_directory 20 = .ok (.ifCond .eq (7), 3) := by decide +kernel
theorem d_M_directory_23 : decode b_M_directory 23 = .ok (.iconst 1, 1) := by decide +kernel
theorem d_M_directory_24 : decode b_M_directory 24 = .ok (.goto (4), 3) := by decide +kernel
theorem d_M_directory_27 : decode b_M_directory 27 = .ok (.iconst 0, 1) := by decide +kernel
theorem d_M_directory_28 : decode b_M_directory 28 = .ok (.ireturn, 1) := by decide +kernel
theorem d_M_there_0 : decode b_M_there 0 = .ok (.iload_n 1, 1) := by decide +kernel
theorem d_M_there_1 : decode b_M_there 1 = .ok (.ifCond .eq (11), 3) := by decide +kernel
theorem d_M_there_4 : decode b_M_there 4 = .ok (.aload_n 0, 1) := by decide +kernel
theorem d_M_there_5 : decode b_M_there 5 = .ok (.iload_n 1, 1) := by decide +kernel
theorem d_M_there_6 : decode b_M_there 6 = .ok (.invokevirtual 134, 3) := by decide +kernel
theorem d_M_there_9 : decode b_M_there 9 = .ok (.ifCond .lt (7), 3) := by decide +kernel
theorem d_M_there_12 : decode b_M_there 12 = .ok (.iconst 1, 1) := by decide +kernel
theorem d_M_there_13 : decode b_M_there 13 = .ok (.goto (4), 3) := by decide +kernel
theorem d_M_there_16 : decode b_M_there 16 = .ok (.iconst 0, 1) := by decide +kernel
theorem d_M_there_17 : decode b_M_there 17 = .ok (.ireturn, 1) := by decide +kernel
theorem d_M_named_0 : decode b_M_named 0 = .ok (.iconst 1, 1) := by decide +kernel
theorem d_M_named_1 : decode b_M_named 1 = .ok (.istore 4, 2) := by decide +kernel
theorem d_M_named_3 : decode b_M_named 3 = .ok (.iload 4, 2) := by decide +kernel
theorem d_M_named_5 : decode b_M_named 5 = .ok (.bipush 7, 2) := by decide +kernel
theorem d_M_named_7 : decode b_M_named 7 = .ok (.if_icmp .gt (63), 3) := by decide +kernel
theorem d_M_named_10 : decode b_M_named 10 = .ok (.aload_n 0, 1) := by decide +kernel
theorem d_M_named_11 : decode b_M_named 11 = .ok (.iload 4, 2) := by decide +kernel
theorem d_M_named_13 : decode b_M_named 13 = .ok (.invokevirtual 134, 3) := by decide +kernel
theorem d_M_named_16 : decode b_M_named 16 = .ok (.istore 5, 2) := by decide +kernel
theorem d_M_named_18 : decode b_M_named 18 = .ok (.iload 4, 2) := by decide +kernel
theorem d_M_named_20 : decode b_M_named 20 = .ok (.iload_n 3, 1) := by decide +kernel
theorem d_M_named_21 : decode b_M_named 21 = .ok (.if_icmp .eq (43), 3) := by decide +kernel
theorem d_M_named_24 : decode b_M_named 24 = .ok (.iload 5, 2) := by decide +kernel
theorem d_M_named_26 : decode b_M_named 26 = .ok (.ifCond .lt (38), 3) := by decide +kernel
theorem d_M_named_29 : decode b_M_named 29 = .ok (.aload_n 0, 1) := by decide +kernel
theorem d_M_named_30 : decode b_M_named 30 = .ok (.getfield 25, 3) := by decide +kernel
theorem d_M_named_33 : decode b_M_named 33 = .ok (.iload 5, 2) := by decide +kernel
theorem d_M_named_35 : decode b_M_named 35 = .ok (.iaload, 1) := by decide +kernel
theorem d_M_named_36 : decode b_M_named 36 = .ok (.iload_n 1, 1) := by decide +kernel
theorem d_M_named_37 : decode b_M_named 37 = .ok (.if_icmp .ne (27), 3) := by decide +kernel
theorem d_M_named_40 : decode b_M_named 40 = .ok (.aload_n 0, 1) := by decide +kernel
theorem d_M_named_41 : decode b_M_named 41 = .ok (.getfield 38, 3) := by decide +kernel
theorem d_M_named_44 : decode b_M_named 44 = .ok (.iload 5, 2) := by decide +kernel
theorem d_M_named_46 : decode b_M_named 46 = .ok (.iaload, 1) := by decide +kernel
theorem d_M_named_47 : decode b_M_named 47 = .ok (.ifCond .ge (17), 3) := by decide +kernel
theorem d_M_named_50 : decode b_M_named 50 = .ok (.aload_n 0, 1) := by decide +kernel
theorem d_M_named_51 : decode b_M_named 51 = .ok (.getfield 22, 3) := by decide +kernel
theorem d_M_named_54 : decode b_M_named 54 = .ok (.iload 5, 2) := by decide +kernel
theorem d_M_named_56 : decode b_M_named 56 = .ok (.iaload, 1) := by decide +kernel
theorem d_M_named_57 : decode b_M_named 57 = .ok (.iload_n 2, 1) := by decide +kernel
theorem d_M_named_58 : decode b_M_named 58 = .ok (.if_icmp .ne (6), 3) := by decide +kernel
theorem d_M_named_61 : decode b_M_named 61 = .ok (.iload 4, 2) := by decide +kernel
theorem d_M_named_63 : decode b_M_named 63 = .ok (.ireturn, 1) := by decide +kernel
theorem d_M_named_64 : decode b_M_named 64 = .ok (.iinc 4 (1), 3) := by decide +kernel
theorem d_M_named_67 : decode b_M_named 67 = .ok (.goto (-64), 3) := by decide +kernel
theorem d_M_named_70 : decode b_M_named 70 = .ok (.iconst 0, 1) := by decide +kernel
theorem d_M_named_71 : decode b_M_named 71 = .ok (.ireturn, 1) := by decide +kernel
theorem d_M_inside_0 : decode b_M_inside 0 = .ok (.iconst 0, 1) := by decide +kernel
theorem d_M_inside_1 : decode b_M_inside 1 = .ok (.istore_n 2, 1) := by decide +kernel
theorem d_M_inside_2 : decode b_M_inside 2 = .ok (.iconst 1, 1) := by decide +kernel
theorem d_M_inside_3 : decode b_M_inside 3 = .ok (.istore_n 3, 1) := by decide +kernel
theorem d_M_inside_4 : decode b_M_inside 4 = .ok (.iload_n 3, 1) := by decide +kernel
theorem d_M_inside_5 : decode b_M_inside 5 = .ok (.bipush 7, 2) := by decide +kernel
theorem d_M_inside_7 : decode b_M_inside 7 = .ok (.if_icmp .gt (40), 3) := by decide +kernel
theorem d_M_inside_10 : decode b_M_inside 10 = .ok (.aload_n 0, 1) := by decide +kernel
theorem d_M_inside_11 : decode b_M_inside 11 = .ok (.iload_n 3, 1) := by decide +kernel
theorem d_M_inside_12 : decode b_M_inside 12 = .ok (.invokevirtual 134, 3) := by decide +kernel
theorem d_M_inside_15 : decode b_M_inside 15 = .ok (.istore 4, 2) := by decide +kernel
theorem d_M_inside_17 : decode b_M_inside 17 = .ok (.iload_n 2, 1) := by decide +kernel
theorem d_M_inside_18 : decode b_M_inside 18 = .ok (.iload 4, 2) := by decide +kernel
theorem d_M_inside_20 : decode b_M_inside 20 = .ok (.ifCond .lt (18), 3) := by decide +kernel
theorem d_M_inside_23 : decode b_M_inside 23 = .ok (.aload_n 0, 1) := by decide +kernel
theorem d_M_inside_24 : decode b_M_inside 24 = .ok (.getfield 25, 3) := by decide +kernel
theorem d_M_inside_27 : decode b_M_inside 27 = .ok (.iload 4, 2) := by decide +kernel
theorem d_M_inside_29 : decode b_M_inside 29 = .ok (.iaload, 1) := by decide +kernel
theorem d_M_inside_30 : decode b_M_inside 30 = .ok (.iload_n 1, 1) := by decide +kernel
theorem d_M_inside_31 : decode b_M_inside 31 = .ok (.if_icmp .ne (7), 3) := by decide +kernel
theorem d_M_inside_34 : decode b_M_inside 34 = .ok (.iconst 1, 1) := by decide +kernel
theorem d_M_inside_35 : decode b_M_inside 35 = .ok (.goto (4), 3) := by decide +kernel
theorem d_M_inside_38 : decode b_M_inside 38 = .ok (.iconst 0, 1) := by decide +kernel
theorem d_M_inside_39 : decode b_M_inside 39 = .ok (.iadd, 1) := by decide +kernel
theorem d_M_inside_40 : decode b_M_inside 40 = .ok (.istore_n 2, 1) := by decide +kernel
theorem d_M_inside_41 : decode b_M_inside 41 = .ok (.iinc 3 (1), 3) := by decide +kernel
theorem d_M_inside_44 : decode b_M_inside 44 = .ok (.goto (-40), 3) := by decide +kernel
theorem d_M_inside_47 : decode b_M_inside 47 = .ok (.iload_n 2, 1) := by decide +kernel
theorem d_M_inside_48 : decode b_M_inside 48 = .ok (.ireturn, 1) := by decide +kernel
theorem d_M_create_0 : decode b_M_create 0 = .ok (.aload_n 0, 1) := by decide +kernel
theorem d_M_create_1 : decode b_M_create 1 = .ok (.getfield 56, 3) := by decide +kernel
theorem d_M_create_4 : decode b_M_create 4 = .ok (.ifCond .ne (6), 3) := by decide +kernel
theorem d_M_create_7 : decode b_M_create 7 = .ok (.bipush (-9), 2) := by decide +kernel
theorem d_M_create_9 : decode b_M_create 9 = .ok (.ireturn, 1) := by decide +kernel
theorem d_M_create_10 : decode b_M_create 10 = .ok (.aload_n 0, 1) := by decide +kernel
theorem d_M_create_11 : decode b_M_create 11 = .ok (.iload_n 1, 1) := by decide +kernel
theorem d_M_create_12 : decode b_M_create 12 = .ok (.invokevirtual 137, 3) := by decide +kernel
theorem d_M_create_15 : decode b_M_create 15 = .ok (.ifCond .ne (5), 3) := by decide +kernel
theorem d_M_create_18 : decode b_M_create 18 = .ok (.iconst (-1), 1) := by decide +kernel
theorem d_M_create_19 : decode b_M_create 19 = .ok (.ireturn, 1) := by decide +kernel
theorem d_M_create_20 : decode b_M_create 20 = .ok (.aload_n 0, 1) := by decide +kernel
theorem d_M_create_21 : decode b_M_create 21 = .ok (.iload_n 1, 1) := by decide +kernel
theorem d_M_create_22 : decode b_M_create 22 = .ok (.invokevirtual 140, 3) := by decide +kernel
theorem d_M_create_25 : decode b_M_create 25 = .ok (.ifCond .ne (6), 3) := by decide +kernel
theorem d_M_create_28 : decode b_M_create 28 = .ok (.bipush (-2), 2) := by decide +kernel
theorem d_M_create_30 : decode b_M_create 30 = .ok (.ireturn, 1) := by decide +kernel
theorem d_M_create_31 : decode b_M_create 31 = .ok (.aload_n 0, 1) := by decide +kernel
theorem d_M_create_32 : decode b_M_create 32 = .ok (.iload_n 1, 1) := by decide +kernel
theorem d_M_create_33 : decode b_M_create 33 = .ok (.iload_n 2, 1) := by decide +kernel
theorem d_M_create_34 : decode b_M_create 34 = .ok (.iconst 0, 1) := by decide +kernel
theorem d_M_create_35 : decode b_M_create 35 = .ok (.invokevirtual 143, 3) := by decide +kernel
theorem d_M_create_38 : decode b_M_create 38 = .ok (.ifCond .le (6), 3) := by decide +kernel
theorem d_M_create_41 : decode b_M_create 41 = .ok (.bipush (-4), 2) := by decide +kernel
theorem d_M_create_43 : decode b_M_create 43 = .ok (.ireturn, 1) := by decide +kernel
theorem d_M_create_44 : decode b_M_create 44 = .ok (.iconst 1, 1) := by decide +kernel
theorem d_M_create_45 : decode b_M_create 45 = .ok (.istore 4, 2) := by decide +kernel
theorem d_M_create_47 : decode b_M_create 47 = .ok (.iload 4, 2) := by decide +kernel
theorem d_M_create_49 : decode b_M_create 49 = .ok (.bipush 7, 2) := by decide +kernel
theorem d_M_create_51 : decode b_M_create 51 = .ok (.if_icmp .gt (18), 3) := by decide +kernel
theorem d_M_create_54 : decode b_M_create 54 = .ok (.aload_n 0, 1) := by decide +kernel
theorem d_M_create_55 : decode b_M_create 55 = .ok (.iload 4, 2) := by decide +kernel
theorem d_M_create_57 : decode b_M_create 57 = .ok (.invokevirtual 134, 3) := by decide +kernel
theorem d_M_create_60 : decode b_M_create 60 = .ok (.ifCond .lt (9), 3) := by decide +kernel
theorem d_M_create_63 : decode b_M_create 63 = .ok (.iinc 4 (1), 3) := by decide +kernel
theorem d_M_create_66 : decode b_M_create 66 = .ok (.goto (-19), 3) := by decide +kernel
theorem d_M_create_69 : decode b_M_create 69 = .ok (.iload 4, 2) := by decide +kernel
theorem d_M_create_71 : decode b_M_create 71 = .ok (.bipush 7, 2) := by decide +kernel
theorem d_M_create_73 : decode b_M_create 73 = .ok (.if_icmp .le (6), 3) := by decide +kernel
theorem d_M_create_76 : decode b_M_create 76 = .ok (.bipush (-5), 2) := by decide +kernel
theorem d_M_create_78 : decode b_M_create 78 = .ok (.ireturn, 1) := by decide +kernel
theorem d_M_create_79 : decode b_M_create 79 = .ok (.aload_n 0, 1) := by decide +kernel
theorem d_M_create_80 : decode b_M_create 80 = .ok (.iconst 1, 1) := by decide +kernel
theorem d_M_create_81 : decode b_M_create 81 = .ok (.invokevirtual 147, 3) := by decide +kernel
theorem d_M_create_84 : decode b_M_create 84 = .ok (.istore 5, 2) := by decide +kernel
theorem d_M_create_86 : decode b_M_create 86 = .ok (.iload 5, 2) := by decide +kernel
theorem d_M_create_88 : decode b_M_create 88 = .ok (.ifCond .ge (6), 3) := by decide +kernel
theorem d_M_create_91 : decode b_M_create 91 = .ok (.iload 5, 2) := by decide +kernel
theorem d_M_create_93 : decode b_M_create 93 = .ok (.ireturn, 1) := by decide +kernel
theorem d_M_create_94 : decode b_M_create 94 = .ok (.aload_n 0, 1) := by decide +kernel
theorem d_M_create_95 : decode b_M_create 95 = .ok (.iload 4, 2) := by decide +kernel
theorem d_M_create_97 : decode b_M_create 97 = .ok (.iconst 0, 1) := by decide +kernel
theorem d_M_create_98 : decode b_M_create 98 = .ok (.iload_n 2, 1) := by decide +kernel
theorem d_M_create_99 : decode b_M_create 99 = .ok (.invokevirtual 111, 3) := by decide +kernel
theorem d_M_create_102 : decode b_M_create 102 = .ok (.aload_n 0, 1) := by decide +kernel
theorem d_M_create_103 : decode b_M_create 103 = .ok (.iload_n 1, 1) := by decide +kernel
theorem d_M_create_104 : decode b_M_create 104 = .ok (.putfield 92, 3) := by decide +kernel
theorem d_M_create_107 : decode b_M_create 107 = .ok (.aload_n 0, 1) := by decide +kernel
theorem d_M_create_108 : decode b_M_create 108 = .ok (.iload_n 3, 1) := by decide +kernel
theorem d_M_create_109 : decode b_M_create 109 = .ok (.putfield 98, 3) := by decide +kernel
theorem d_M_create_112 : decode b_M_create 112 = .ok (.aload_n 0, 1) := by decide +kernel
theorem d_M_create_113 : decode b_M_create 113 = .ok (.invokevirtual 119, 3) := by decide +kernel
theorem d_M_create_116 : decode b_M_create 116 = .ok (.ifCond .eq (8), 3) := by decide +kernel
theorem d_M_create_119 : decode b_M_create 119 = .ok (.iload 4, 2) := by decide +kernel
theorem d_M_create_121 : decode b_M_create 121 = .ok (.goto (5), 3) := by decide +kernel
theorem d_M_create_124 : decode b_M_create 124 = .ok (.bipush (-9), 2) := by decide +kernel
theorem d_M_create_126 : decode b_M_create 126 = .ok (.ireturn, 1) := by decide +kernel
theorem d_M_write_0 : decode b_M_write 0 = .ok (.aload_n 0, 1) := by decide +kernel
theorem d_M_write_1 : decode b_M_write 1 = .ok (.getfield 56, 3) := by decide +kernel
theorem d_M_write_4 : decode b_M_write 4 = .ok (.ifCond .ne (6), 3) := by decide +kernel
theorem d_M_write_7 : decode b_M_write 7 = .ok (.bipush (-9), 2) := by decide +kernel
theorem d_M_write_9 : decode b_M_write 9 = .ok (.ireturn, 1) := by decide +kernel
theorem d_M_write_10 : decode b_M_write 10 = .ok (.aload_n 0, 1) := by decide +kernel
theorem d_M_write_11 : decode b_M_write 11 = .ok (.iload_n 1, 1) := by decide +kernel
theorem d_M_write_12 : decode b_M_write 12 = .ok (.invokevirtual 134, 3) := by decide +kernel
theorem d_M_write_15 : decode b_M_write 15 = .ok (.istore 4, 2) := by decide +kernel
theorem d_M_write_17 : decode b_M_write 17 = .ok (.iload 4, 2) := by decide +kernel
theorem d_M_write_19 : decode b_M_write 19 = .ok (.ifCond .ge (5), 3) := by decide +kernel
theorem d_M_write_22 : decode b_M_write 22 = .ok (.iconst (-1), 1) := by decide +kernel
theorem d_M_write_23 : decode b_M_write 23 = .ok (.ireturn, 1) := by decide +kernel
theorem d_M_write_24 : decode b_M_write 24 = .ok (.aload_n 0, 1) := by decide +kernel
theorem d_M_write_25 : decode b_M_write 25 = .ok (.getfield 31, 3) := by decide +kernel
theorem d_M_write_28 : decode b_M_write 28 = .ok (.iload 4, 2) := by decide +kernel
theorem d_M_write_30 : decode b_M_write 30 = .ok (.baload, 1) := by decide +kernel
theorem d_M_write_31 : decode b_M_write 31 = .ok (.ifCond .eq (6), 3) := by decide +kernel
theorem d_M_write_34 : decode b_M_write 34 = .ok (.bipush (-3), 2) := by decide +kernel
theorem d_M_write_36 : decode b_M_write 36 = .ok (.ireturn, 1) := by decide +kernel
theorem d_M_write_37 : decode b_M_write 37 = .ok (.iload_n 2, 1) := by decide +kernel
theorem d_M_write_38 : decode b_M_write 38 = .ok (.iconst 1, 1) := by decide +kernel
theorem d_M_write_39 : decode b_M_write 39 = .ok (.if_icmp .lt (9), 3) := by decide +kernel
theorem d_M_write_42 : decode b_M_write 42 = .ok (.iload_n 2, 1) := by decide +kernel
theorem d_M_write_43 : decode b_M_write 43 = .ok (.bipush 6, 2) := by decide +kernel
theorem d_M_write_45 : decode b_M_write 45 = .ok (.if_icmp .le (6), 3) := by decide +kernel
theorem d_M_write_48 : decode b_M_write 48 = .ok (.bipush (-7), 2) := by decide +kernel
theorem d_M_write_50 : decode b_M_write 50 = .ok (.ireturn, 1) := by decide +kernel
theorem d_M_write_51 : decode b_M_write 51 = .ok (.iload_n 2, 1) := by decide +kernel
theorem d_M_write_52 : decode b_M_write 52 = .ok (.aload_n 0, 1) := by decide +kernel
theorem d_M_write_53 : decode b_M_write 53 = .ok (.getfield 28, 3) := by decide +kernel
theorem d_M_write_56 : decode b_M_write 56 = .ok (.iload 4, 2) := by decide +kernel
theorem d_M_write_58 : decode b_M_write 58 = .ok (.iaload, 1) := by decide +kernel
theorem d_M_write_59 : decode b_M_write 59 = .ok (.if_icmp .le (7), 3) := by decide +kernel
theorem d_M_write_62 : decode b_M_write 62 = .ok (.iconst 1, 1) := by decide +kernel
theorem d_M_write_63 : decode b_M_write 63 = .ok (.goto (4), 3) := by decide +kernel
theorem d_M_write_66 : decode b_M_write 66 = .ok (.iconst 0, 1) := by decide +kernel
theorem d_M_write_67 : decode b_M_write 67 = .ok (.istore 5, 2) := by decide +kernel
theorem d_M_write_69 : decode b_M_write 69 = .ok (.aload_n 0, 1) := by decide +kernel
theorem d_M_write_70 : decode b_M_write 70 = .ok (.iload 5, 2) := by decide +kernel
theorem d_M_write_72 : decode b_M_write 72 = .ok (.ifCond .eq (7), 3) := by decide +kernel
theorem d_M_write_75 : decode b_M_write 75 = .ok (.iconst 2, 1) := by decide +kernel
theorem d_M_write_76 : decode b_M_write 76 = .ok (.goto (4), 3) := by decide +kernel
theorem d_M_write_79 : decode b_M_write 79 = .ok (.iconst 1, 1) := by decide +kernel
theorem d_M_write_80 : decode b_M_write 80 = .ok (.invokevirtual 147, 3) := by decide +kernel
theorem d_M_write_83 : decode b_M_write 83 = .ok (.istore 6, 2) := by decide +kernel
theorem d_M_write_85 : decode b_M_write 85 = .ok (.iload 6, 2) := by decide +kernel
theorem d_M_write_87 : decode b_M_write 87 = .ok (.ifCond .ge (6), 3) := by decide +kernel
theorem d_M_write_90 : decode b_M_write 90 = .ok (.iload 6, 2) := by decide +kernel
theorem d_M_write_92 : decode b_M_write 92 = .ok (.ireturn, 1) := by decide +kernel
theorem d_M_write_93 : decode b_M_write 93 = .ok (.aload_n 0, 1) := by decide +kernel
theorem d_M_write_94 : decode b_M_write 94 = .ok (.iload_n 1, 1) := by decide +kernel
theorem d_M_write_95 : decode b_M_write 95 = .ok (.iload_n 2, 1) := by decide +kernel
theorem d_M_write_96 : decode b_M_write 96 = .ok (.iload_n 3, 1) := by decide +kernel
theorem d_M_write_97 : decode b_M_write 97 = .ok (.invokevirtual 111, 3) := by decide +kernel
theorem d_M_write_100 : decode b_M_write 100 = .ok (.aload_n 0, 1) := by decide +kernel
theorem d_M_write_101 : decode b_M_write 101 = .ok (.invokevirtual 119, 3) := by decide +kernel
theorem d_M_write_104 : decode b_M_write 104 = .ok (.ifCond .ne (6), 3) := by decide +kernel
theorem d_M_write_107 : decode b_M_write 107 = .ok (.bipush (-9), 2) := by decide +kernel
theorem d_M_write_109 : decode b_M_write 109 = .ok (.ireturn, 1) := by decide +kernel
theorem d_M_write_110 : decode b_M_write 110 = .ok (.iload 5, 2) := by decide +kernel
theorem d_M_write_112 : decode b_M_write 112 = .ok (.ifCond .eq (35), 3) := by decide +kernel
theorem d_M_write_115 : decode b_M_write 115 = .ok (.aload_n 0, 1) := by decide +kernel
theorem d_M_write_116 : decode b_M_write 116 = .ok (.iload_n 1, 1) := by decide +kernel
theorem d_M_write_117 : decode b_M_write 117 = .ok (.invokevirtual 134, 3) := by decide +kernel
theorem d_M_write_120 : decode b_M_write 120 = .ok (.istore 7, 2) := by decide +kernel
theorem d_M_write_122 : decode b_M_write 122 = .ok (.aload_n 0, 1) := by decide +kernel
theorem d_M_write_123 : decode b_M_write 123 = .ok (.iload 7, 2) := by decide +kernel
theorem d_M_write_125 : decode b_M_write 125 = .ok (.invokevirtual 115, 3) := by decide +kernel
theorem d_M_write_128 : decode b_M_write 128 = .ok (.aload_n 0, 1) := by decide +kernel
theorem d_M_write_129 : decode b_M_write 129 = .ok (.iload_n 2, 1) := by decide +kernel
theorem d_M_write_130 : decode b_M_write 130 = .ok (.putfield 95, 3) := by decide +kernel
theorem d_M_write_133 : decode b_M_write 133 = .ok (.aload_n 0, 1) := by decide +kernel
theorem d_M_write_134 : decode b_M_write 134 = .ok (.invokevirtual 119, 3) := by decide +kernel
theorem d_M_write_137 : decode b_M_write 137 = .ok (.ifCond .eq (7), 3) := by decide +kernel
theorem d_M_write_140 : decode b_M_write 140 = .ok (.iconst 0, 1) := by decide +kernel
theorem d_M_write_141 : decode b_M_write 141 = .ok (.goto (5), 3) := by decide +kernel
theorem d_M_write_144 : decode b_M_write 144 = .ok (.bipush (-9), 2) := by decide +kernel
theorem d_M_write_146 : decode b_M_write 146 = .ok (.ireturn, 1) := by decide +kernel
theorem d_M_write_147 : decode b_M_write 147 = .ok (.iconst 0, 1) := by decide +kernel
theorem d_M_write_148 : decode b_M_write 148 = .ok (.ireturn, 1) := by decide +kernel
theorem d_M_read_0 : decode b_M_read 0 = .ok (.aload_n 0, 1) := by decide +kernel
theorem d_M_read_1 : decode b_M_read 1 = .ok (.getfield 56, 3) := by decide +kernel
theorem d_M_read_4 : decode b_M_read 4 = .ok (.ifCond .ne (7), 3) := by decide +kernel
theorem d_M_read_7 : decode b_M_read 7 = .ok (.ldc2_w 150, 3) := by decide +kernel
theorem d_M_read_10 : decode b_M_read 10 = .ok (.lreturn, 1) := by decide +kernel
theorem d_M_read_11 : decode b_M_read 11 = .ok (.aload_n 0, 1) := by decide +kernel
theorem d_M_read_12 : decode b_M_read 12 = .ok (.iload_n 1, 1) := by decide +kernel
theorem d_M_read_13 : decode b_M_read 13 = .ok (.invokevirtual 134, 3) := by decide +kernel
theorem d_M_read_16 : decode b_M_read 16 = .ok (.istore_n 3, 1) := by decide +kernel
theorem d_M_read_17 : decode b_M_read 17 = .ok (.iload_n 3, 1) := by decide +kernel
theorem d_M_read_18 : decode b_M_read 18 = .ok (.ifCond .ge (7), 3) := by decide +kernel
theorem d_M_read_21 : decode b_M_read 21 = .ok (.ldc2_w 152, 3) := by decide +kernel
theorem d_M_read_24 : decode b_M_read 24 = .ok (.lreturn, 1) := by decide +kernel
theorem d_M_read_25 : decode b_M_read 25 = .ok (.aload_n 0, 1) := by decide +kernel
theorem d_M_read_26 : decode b_M_read 26 = .ok (.getfield 31, 3) := by decide +kernel
theorem d_M_read_29 : decode b_M_read 29 = .ok (.iload_n 3, 1) := by decide +kernel
theorem d_M_read_30 : decode b_M_read 30 = .ok (.baload, 1) := by decide +kernel
theorem d_M_read_31 : decode b_M_read 31 = .ok (.ifCond .eq (7), 3) := by decide +kernel
theorem d_M_read_34 : decode b_M_read 34 = .ok (.ldc2_w 154, 3) := by decide +kernel
theorem d_M_read_37 : decode b_M_read 37 = .ok (.lreturn, 1) := by decide +kernel
theorem d_M_read_38 : decode b_M_read 38 = .ok (.iload_n 2, 1) := by decide +kernel
theorem d_M_read_39 : decode b_M_read 39 = .ok (.iconst 1, 1) := by decide +kernel
theorem d_M_read_40 : decode b_M_read 40 = .ok (.if_icmp .lt (13), 3) := by decide +kernel
theorem d_M_read_43 : decode b_M_read 43 = .ok (.iload_n 2, 1) := by decide +kernel
theorem d_M_read_44 : decode b_M_read 44 = .ok (.aload_n 0, 1) := by decide +kernel
theorem d_M_read_45 : decode b_M_read 45 = .ok (.getfield 28, 3) := by decide +kernel
theorem d_M_read_48 : decode b_M_read 48 = .ok (.iload_n 3, 1) := by decide +kernel
theorem d_M_read_49 : decode b_M_read 49 = .ok (.iaload, 1) := by decide +kernel
theorem d_M_read_50 : decode b_M_read 50 = .ok (.if_icmp .le (7), 3) := by decide +kernel
theorem d_M_read_53 : decode b_M_read 53 = .ok (.ldc2_w 156, 3) := by decide +kernel
theorem d_M_read_56 : decode b_M_read 56 = .ok (.lreturn, 1) := by decide +kernel
theorem d_M_read_57 : decode b_M_read 57 = .ok (.aload_n 0, 1) := by decide +kernel
theorem d_M_read_58 : decode b_M_read 58 = .ok (.iload_n 1, 1) := by decide +kernel
theorem d_M_read_59 : decode b_M_read 59 = .ok (.iload_n 2, 1) := by decide +kernel
theorem d_M_read_60 : decode b_M_read 60 = .ok (.invokevirtual 81, 3) := by decide +kernel
theorem d_M_read_63 : decode b_M_read 63 = .ok (.istore 4, 2) := by decide +kernel
theorem d_M_read_65 : decode b_M_read 65 = .ok (.iload 4, 2) := by decide +kernel
theorem d_M_read_67 : decode b_M_read 67 = .ok (.ifCond .ge (7), 3) := by decide +kernel
theorem d_M_read_70 : decode b_M_read 70 = .ok (.lconst 0, 1) := by decide +kernel
theorem d_M_read_71 : decode b_M_read 71 = .ok (.goto (27), 3) := by decide +kernel
theorem d_M_read_74 : decode b_M_read 74 = .ok (.aload_n 0, 1) := by decide +kernel
theorem d_M_read_75 : decode b_M_read 75 = .ok (.getfield 38, 3) := by decide +kernel
theorem d_M_read_78 : decode b_M_read 78 = .ok (.iload 4, 2) := by decide +kernel
theorem d_M_read_80 : decode b_M_read 80 = .ok (.iaload, 1) := by decide +kernel
theorem d_M_read_81 : decode b_M_read 81 = .ok (.ifCond .lt (9), 3) := by decide +kernel
theorem d_M_read_84 : decode b_M_read 84 = .ok (.ldc2_w 158, 3) := by decide +kernel
theorem d_M_read_87 : decode b_M_read 87 = .ok (.goto (11), 3) := by decide +kernel
theorem d_M_read_90 : decode b_M_read 90 = .ok (.aload_n 0, 1) := by decide +kernel
theorem d_M_read_91 : decode b_M_read 91 = .ok (.getfield 22, 3) := by decide +kernel
theorem d_M_read_94 : decode b_M_read 94 = .ok (.iload 4, 2) := by decide +kernel
theorem d_M_read_96 : decode b_M_read 96 = .ok (.iaload, 1) := by decide +kernel
theorem d_M_read_97 : decode b_M_read 97 = .ok (.i2l, 1) := by decide +kernel
theorem d_M_read_98 : decode b_M_read 98 = .ok (.lreturn, 1) := by decide +kernel
theorem d_M_drop_0 : decode b_M_drop 0 = .ok (.iload_n 2, 1) := by decide +kernel
theorem d_M_drop_1 : decode b_M_drop 1 = .ok (.iconst 1, 1) := by decide +kernel
theorem d_M_drop_2 : decode b_M_drop 2 = .ok (.iadd, 1) := by decide +kernel
theorem d_M_drop_3 : decode b_M_drop 3 = .ok (.istore_n 3, 1) := by decide +kernel
theorem d_M_drop_4 : decode b_M_drop 4 = .ok (.iload_n 3, 1) := by decide +kernel
theorem d_M_drop_5 : decode b_M_drop 5 = .ok (.bipush 6, 2) := by decide +kernel
theorem d_M_drop_7 : decode b_M_drop 7 = .ok (.if_icmp .gt (33), 3) := by decide +kernel
theorem d_M_drop_10 : decode b_M_drop 10 = .ok (.aload_n 0, 1) := by decide +kernel
theorem d_M_drop_11 : decode b_M_drop 11 = .ok (.iload_n 1, 1) := by decide +kernel
theorem d_M_drop_12 : decode b_M_drop 12 = .ok (.iload_n 3, 1) := by decide +kernel
theorem d_M_drop_13 : decode b_M_drop 13 = .ok (.invokevirtual 81, 3) := by decide +kernel
theorem d_M_drop_16 : decode b_M_drop 16 = .ok (.istore 4, 2) := by decide +kernel
theorem d_M_drop_18 : decode b_M_drop 18 = .ok (.iload 4, 2) := by decide +kernel
theorem d_M_drop_20 : decode b_M_drop 20 = .ok (.ifCond .lt (14), 3) := by decide +kernel
theorem d_M_drop_23 : decode b_M_drop 23 = .ok (.aload_n 0, 1) := by decide +kernel
theorem d_M_drop_24 : decode b_M_drop 24 = .ok (.iload 4, 2) := by decide +kernel
theorem d_M_drop_26 : decode b_M_drop 26 = .ok (.invokevirtual 107, 3) := by decide +kernel
theorem d_M_drop_29 : decode b_M_drop 29 = .ok (.ifCond .ne (5), 3) := by decide +kernel
theorem d_M_drop_32 : decode b_M_drop 32 = .ok (.iconst 0, 1) := by decide +kernel
theorem d_M_drop_33 : decode b_M_drop 33 = .ok (.ireturn, 1) := by decide +kernel
theorem d_M_drop_34 : decode b_M_drop 34 = .ok (.iinc 3 (1), 3) := by decide +kernel
theorem d_M_drop_37 : decode b_M_drop 37 = .ok (.goto (-33), 3) := by decide +kernel
theorem d_M_drop_40 : decode b_M_drop 40 = .ok (.iconst 1, 1) := by decide +kernel
theorem d_M_drop_41 : decode b_M_drop 41 = .ok (.ireturn, 1) := by decide +kernel
end
section
theorem d_M_truncate_0 : decode b_M_truncate 0 = .ok (.aload_n 0, 1) := by decide +kernel
theorem d_M_truncate_1 : decode b_M_truncate 1 = .ok (.getfield 56, 3) := by decide +kernel
theorem d_M_truncate_4 : decode b_M_truncate 4 = .ok (.ifCond .ne (6), 3) := by decide +kernel
theorem d_M_truncate_7 : decode b_M_truncate 7 = .ok (.bipush (-9), 2) := by decide +kernel
theorem d_M_truncate_9 : decode b_M_truncate 9 = .ok (.ireturn, 1) := by decide +kernel
theorem d_M_truncate_10 : decode b_M_truncate 10 = .ok (.aload_n 0, 1) := by decide +kernel
theorem d_M_truncate_11 : decode b_M_truncate 11 = .ok (.iload_n 1, 1) := by decide +kernel
theorem d_M_truncate_12 : decode b_M_truncate 12 = .ok (.invokevirtual 134, 3) := by decide +kernel
theorem d_M_truncate_15 : decode b_M_truncate 15 = .ok (.istore_n 3, 1) := by decide +kernel
theorem d_M_truncate_16 : decode b_M_truncate 16 = .ok (.iload_n 3, 1) := by decide +kernel
theorem d_M_truncate_17 : decode b_M_truncate 17 = .ok (.ifCond .ge (5), 3) := by decide +kernel
theorem d_M_truncate_20 : decode b_M_truncate 20 = .ok (.iconst (-1), 1) := by decide +kernel
theorem d_M_truncate_21 : decode b_M_truncate 21 = .ok (.ireturn, 1) := by decide +kernel
theorem d_M_truncate_22 : decode b_M_truncate 22 = .ok (.aload_n 0, 1) := by decide +kernel
theorem d_M_truncate_23 : decode b_M_truncate 23 = .ok (.getfield 31, 3) := by decide +kernel
theorem d_M_truncate_26 : decode b_M_truncate 26 = .ok (.iload_n 3, 1) := by decide +kernel
theorem d_M_truncate_27 : decode b_M_truncate 27 = .ok (.baload, 1) := by decide +kernel
theorem d_M_truncate_28 : decode b_M_truncate 28 = .ok (.ifCond .eq (6), 3) := by decide +kernel
theorem d_M_truncate_31 : decode b_M_truncate 31 = .ok (.bipush (-3), 2) := by decide +kernel
theorem d_M_truncate_33 : decode b_M_truncate 33 = .ok (.ireturn, 1) := by decide +kernel
theorem d_M_truncate_34 : decode b_M_truncate 34 = .ok (.iload_n 2, 1) := by decide +kernel
theorem d_M_truncate_35 : decode b_M_truncate 35 = .ok (.ifCond .lt (13), 3) := by decide +kernel
theorem d_M_truncate_38 : decode b_M_truncate 38 = .ok (.iload_n 2, 1) := by decide +kernel
theorem d_M_truncate_39 : decode b_M_truncate 39 = .ok (.aload_n 0, 1) := by decide +kernel
theorem d_M_truncate_40 : decode b_M_truncate 40 = .ok (.getfield 28, 3) := by decide +kernel
theorem d_M_truncate_43 : decode b_M_truncate 43 = .ok (.iload_n 3, 1) := by decide +kernel
theorem d_M_truncate_44 : decode b_M_truncate 44 = .ok (.iaload, 1) := by decide +kernel
theorem d_M_truncate_45 : decode b_M_truncate 45 = .ok (.if_icmp .le (6), 3) := by decide +kernel
theorem d_M_truncate_48 : decode b_M_truncate 48 = .ok (.bipush (-7), 2) := by decide +kernel
theorem d_M_truncate_50 : decode b_M_truncate 50 = .ok (.ireturn, 1) := by decide +kernel
theorem d_M_truncate_51 : decode b_M_truncate 51 = .ok (.iload_n 2, 1) := by decide +kernel
theorem d_M_truncate_52 : decode b_M_truncate 52 = .ok (.aload_n 0, 1) := by decide +kernel
theorem d_M_truncate_53 : decode b_M_truncate 53 = .ok (.getfield 28, 3) := by decide +kernel
theorem d_M_truncate_56 : decode b_M_truncate 56 = .ok (.iload_n 3, 1) := by decide +kernel
theorem d_M_truncate_57 : decode b_M_truncate 57 = .ok (.iaload, 1) := by decide +kernel
theorem d_M_truncate_58 : decode b_M_truncate 58 = .ok (.if_icmp .ne (5), 3) := by decide +kernel
theorem d_M_truncate_61 : decode b_M_truncate 61 = .ok (.iconst 0, 1) := by decide +kernel
theorem d_M_truncate_62 : decode b_M_truncate 62 = .ok (.ireturn, 1) := by decide +kernel
theorem d_M_truncate_63 : decode b_M_truncate 63 = .ok (.aload_n 0, 1) := by decide +kernel
theorem d_M_truncate_64 : decode b_M_truncate 64 = .ok (.iconst 1, 1) := by decide +kernel
theorem d_M_truncate_65 : decode b_M_truncate 65 = .ok (.invokevirtual 147, 3) := by decide +kernel
theorem d_M_truncate_68 : decode b_M_truncate 68 = .ok (.istore 4, 2) := by decide +kernel
theorem d_M_truncate_70 : decode b_M_truncate 70 = .ok (.iload 4, 2) := by decide +kernel
theorem d_M_truncate_72 : decode b_M_truncate 72 = .ok (.ifCond .ge (6), 3) := by decide +kernel
theorem d_M_truncate_75 : decode b_M_truncate 75 = .ok (.iload 4, 2) := by decide +kernel
theorem d_M_truncate_77 : decode b_M_truncate 77 = .ok (.ireturn, 1) := by decide +kernel
theorem d_M_truncate_78 : decode b_M_truncate 78 = .ok (.aload_n 0, 1) := by decide +kernel
theorem d_M_truncate_79 : decode b_M_truncate 79 = .ok (.iload_n 1, 1) := by decide +kernel
theorem d_M_truncate_80 : decode b_M_truncate 80 = .ok (.invokevirtual 134, 3) := by decide +kernel
theorem d_M_truncate_83 : decode b_M_truncate 83 = .ok (.istore 5, 2) := by decide +kernel
theorem d_M_truncate_85 : decode b_M_truncate 85 = .ok (.aload_n 0, 1) := by decide +kernel
theorem d_M_truncate_86 : decode b_M_truncate 86 = .ok (.iload 5, 2) := by decide +kernel
theorem d_M_truncate_88 : decode b_M_truncate 88 = .ok (.invokevirtual 115, 3) := by decide +kernel
theorem d_M_truncate_91 : decode b_M_truncate 91 = .ok (.aload_n 0, 1) := by decide +kernel
theorem d_M_truncate_92 : decode b_M_truncate 92 = .ok (.iload_n 2, 1) := by decide +kernel
theorem d_M_truncate_93 : decode b_M_truncate 93 = .ok (.putfield 95, 3) := by decide +kernel
theorem d_M_truncate_96 : decode b_M_truncate 96 = .ok (.aload_n 0, 1) := by decide +kernel
theorem d_M_truncate_97 : decode b_M_truncate 97 = .ok (.invokevirtual 119, 3) := by decide +kernel
theorem d_M_truncate_100 : decode b_M_truncate 100 = .ok (.ifCond .eq (16), 3) := by decide +kernel
theorem d_M_truncate_103 : decode b_M_truncate 103 = .ok (.aload_n 0, 1) := by decide +kernel
theorem d_M_truncate_104 : decode b_M_truncate 104 = .ok (.iload_n 1, 1) := by decide +kernel
theorem d_M_truncate_105 : decode b_M_truncate 105 = .ok (.iload_n 2, 1) := by decide +kernel
theorem d_M_truncate_106 : decode b_M_truncate 106 = .ok (.invokevirtual 160, 3) := by decide +kernel
theorem d_M_truncate_109 : decode b_M_truncate 109 = .ok (.ifCond .eq (7), 3) := by decide +kernel
theorem d_M_truncate_112 : decode b_M_truncate 112 = .ok (.iconst 0, 1) := by decide +kernel
theorem d_M_truncate_113 : decode b_M_truncate 113 = .ok (.goto (5), 3) := by decide +kernel
theorem d_M_truncate_116 : decode b_M_truncate 116 = .ok (.bipush (-9), 2) := by decide +kernel
theorem d_M_truncate_118 : decode b_M_truncate 118 = .ok (.ireturn, 1) := by decide +kernel
theorem d_M_lies_0 : decode b_M_lies 0 = .ok (.iload_n 1, 1) := by decide +kernel
theorem d_M_lies_1 : decode b_M_lies 1 = .ok (.istore_n 3, 1) := by decide +kernel
theorem d_M_lies_2 : decode b_M_lies 2 = .ok (.iconst 0, 1) := by decide +kernel
theorem d_M_lies_3 : decode b_M_lies 3 = .ok (.istore 4, 2) := by decide +kernel
theorem d_M_lies_5 : decode b_M_lies 5 = .ok (.iload 4, 2) := by decide +kernel
theorem d_M_lies_7 : decode b_M_lies 7 = .ok (.bipush 8, 2) := by decide +kernel
theorem d_M_lies_9 : decode b_M_lies 9 = .ok (.if_icmp .ge (44), 3) := by decide +kernel
theorem d_M_lies_12 : decode b_M_lies 12 = .ok (.iload_n 3, 1) := by decide +kernel
theorem d_M_lies_13 : decode b_M_lies 13 = .ok (.ifCond .eq (40), 3) := by decide +kernel
theorem d_M_lies_16 : decode b_M_lies 16 = .ok (.iload_n 3, 1) := by decide +kernel
theorem d_M_lies_17 : decode b_M_lies 17 = .ok (.iload_n 2, 1) := by decide +kernel
theorem d_M_lies_18 : decode b_M_lies 18 = .ok (.if_icmp .ne (5), 3) := by decide +kernel
theorem d_M_lies_21 : decode b_M_lies 21 = .ok (.iconst 1, 1) := by decide +kernel
theorem d_M_lies_22 : decode b_M_lies 22 = .ok (.ireturn, 1) := by decide +kernel
theorem d_M_lies_23 : decode b_M_lies 23 = .ok (.aload_n 0, 1) := by decide +kernel
theorem d_M_lies_24 : decode b_M_lies 24 = .ok (.iload_n 3, 1) := by decide +kernel
theorem d_M_lies_25 : decode b_M_lies 25 = .ok (.invokevirtual 134, 3) := by decide +kernel
theorem d_M_lies_28 : decode b_M_lies 28 = .ok (.istore 5, 2) := by decide +kernel
theorem d_M_lies_30 : decode b_M_lies 30 = .ok (.iload 5, 2) := by decide +kernel
theorem d_M_lies_32 : decode b_M_lies 32 = .ok (.ifCond .ge (7), 3) := by decide +kernel
theorem d_M_lies_35 : decode b_M_lies 35 = .ok (.iconst 0, 1) := by decide +kernel
theorem d_M_lies_36 : decode b_M_lies 36 = .ok (.goto (10), 3) := by decide +kernel
theorem d_M_lies_39 : decode b_M_lies 39 = .ok (.aload_n 0, 1) := by decide +kernel
theorem d_M_lies_40 : decode b_M_lies 40 = .ok (.getfield 25, 3) := by decide +kernel
theorem d_M_lies_43 : decode b_M_lies 43 = .ok (.iload 5, 2) := by decide +kernel
theorem d_M_lies_45 : decode b_M_lies 45 = .ok (.iaload, 1) := by decide +kernel
theorem d_M_lies_46 : decode b_M_lies 46 = .ok (.istore_n 3, 1) := by decide +kernel
theorem d_M_lies_47 : decode b_M_lies 47 = .ok (.iinc 4 (1), 3) := by decide +kernel
theorem d_M_lies_50 : decode b_M_lies 50 = .ok (.goto (-45), 3) := by decide +kernel
theorem d_M_lies_53 : decode b_M_lies 53 = .ok (.iconst 0, 1) := by decide +kernel
theorem d_M_lies_54 : decode b_M_lies 54 = .ok (.ireturn, 1) := by decide +kernel
theorem d_M_move_0 : decode b_M_move 0 = .ok (.aload_n 0, 1) := by decide +kernel
theorem d_M_move_1 : decode b_M_move 1 = .ok (.getfield 56, 3) := by decide +kernel
theorem d_M_move_4 : decode b_M_move 4 = .ok (.ifCond .ne (6), 3) := by decide +kernel
theorem d_M_move_7 : decode b_M_move 7 = .ok (.bipush (-9), 2) := by decide +kernel
theorem d_M_move_9 : decode b_M_move 9 = .ok (.ireturn, 1) := by decide +kernel
theorem d_M_move_10 : decode b_M_move 10 = .ok (.aload_n 0, 1) := by decide +kernel
theorem d_M_move_11 : decode b_M_move 11 = .ok (.iload_n 1, 1) := by decide +kernel
theorem d_M_move_12 : decode b_M_move 12 = .ok (.invokevirtual 134, 3) := by decide +kernel
theorem d_M_move_15 : decode b_M_move 15 = .ok (.ifCond .lt (11), 3) := by decide +kernel
theorem d_M_move_18 : decode b_M_move 18 = .ok (.aload_n 0, 1) := by decide +kernel
theorem d_M_move_19 : decode b_M_move 19 = .ok (.iload_n 2, 1) := by decide +kernel
theorem d_M_move_20 : decode b_M_move 20 = .ok (.invokevirtual 137, 3) := by decide +kernel
theorem d_M_move_23 : decode b_M_move 23 = .ok (.ifCond .ne (5), 3) := by decide +kernel
theorem d_M_move_26 : decode b_M_move 26 = .ok (.iconst (-1), 1) := by decide +kernel
theorem d_M_move_27 : decode b_M_move 27 = .ok (.ireturn, 1) := by decide +kernel
theorem d_M_move_28 : decode b_M_move 28 = .ok (.aload_n 0, 1) := by decide +kernel
theorem d_M_move_29 : decode b_M_move 29 = .ok (.iload_n 2, 1) := by decide +kernel
theorem d_M_move_30 : decode b_M_move 30 = .ok (.invokevirtual 140, 3) := by decide +kernel
theorem d_M_move_33 : decode b_M_move 33 = .ok (.ifCond .ne (6), 3) := by decide +kernel
theorem d_M_move_36 : decode b_M_move 36 = .ok (.bipush (-2), 2) := by decide +kernel
theorem d_M_move_38 : decode b_M_move 38 = .ok (.ireturn, 1) := by decide +kernel
theorem d_M_move_39 : decode b_M_move 39 = .ok (.aload_n 0, 1) := by decide +kernel
theorem d_M_move_40 : decode b_M_move 40 = .ok (.iload_n 2, 1) := by decide +kernel
theorem d_M_move_41 : decode b_M_move 41 = .ok (.iload_n 1, 1) := by decide +kernel
theorem d_M_move_42 : decode b_M_move 42 = .ok (.invokevirtual 164, 3) := by decide +kernel
theorem d_M_move_45 : decode b_M_move 45 = .ok (.ifCond .eq (6), 3) := by decide +kernel
theorem d_M_move_48 : decode b_M_move 48 = .ok (.bipush (-10), 2) := by decide +kernel
theorem d_M_move_50 : decode b_M_move 50 = .ok (.ireturn, 1) := by decide +kernel
theorem d_M_move_51 : decode b_M_move 51 = .ok (.aload_n 0, 1) := by decide +kernel
theorem d_M_move_52 : decode b_M_move 52 = .ok (.iload_n 2, 1) := by decide +kernel
theorem d_M_move_53 : decode b_M_move 53 = .ok (.iload_n 3, 1) := by decide +kernel
theorem d_M_move_54 : decode b_M_move 54 = .ok (.iload_n 1, 1) := by decide +kernel
theorem d_M_move_55 : decode b_M_move 55 = .ok (.invokevirtual 143, 3) := by decide +kernel
theorem d_M_move_58 : decode b_M_move 58 = .ok (.ifCond .le (6), 3) := by decide +kernel
theorem d_M_move_61 : decode b_M_move 61 = .ok (.bipush (-4), 2) := by decide +kernel
theorem d_M_move_63 : decode b_M_move 63 = .ok (.ireturn, 1) := by decide +kernel
theorem d_M_move_64 : decode b_M_move 64 = .ok (.aload_n 0, 1) := by decide +kernel
theorem d_M_move_65 : decode b_M_move 65 = .ok (.iconst 1, 1) := by decide +kernel
theorem d_M_move_66 : decode b_M_move 66 = .ok (.invokevirtual 147, 3) := by decide +kernel
theorem d_M_move_69 : decode b_M_move 69 = .ok (.istore 4, 2) := by decide +kernel
theorem d_M_move_71 : decode b_M_move 71 = .ok (.iload 4, 2) := by decide +kernel
theorem d_M_move_73 : decode b_M_move 73 = .ok (.ifCond .ge (6), 3) := by decide +kernel
theorem d_M_move_76 : decode b_M_move 76 = .ok (.iload 4, 2) := by decide +kernel
theorem d_M_move_78 : decode b_M_move 78 = .ok (.ireturn, 1) := by decide +kernel
theorem d_M_move_79 : decode b_M_move 79 = .ok (.aload_n 0, 1) := by decide +kernel
theorem d_M_move_80 : decode b_M_move 80 = .ok (.iload_n 1, 1) := by decide +kernel
theorem d_M_move_81 : decode b_M_move 81 = .ok (.invokevirtual 134, 3) := by decide +kernel
theorem d_M_move_84 : decode b_M_move 84 = .ok (.istore 5, 2) := by decide +kernel
theorem d_M_move_86 : decode b_M_move 86 = .ok (.aload_n 0, 1) := by decide +kernel
theorem d_M_move_87 : decode b_M_move 87 = .ok (.iload 5, 2) := by decide +kernel
theorem d_M_move_89 : decode b_M_move 89 = .ok (.invokevirtual 115, 3) := by decide +kernel
theorem d_M_move_92 : decode b_M_move 92 = .ok (.aload_n 0, 1) := by decide +kernel
theorem d_M_move_93 : decode b_M_move 93 = .ok (.iload_n 2, 1) := by decide +kernel
theorem d_M_move_94 : decode b_M_move 94 = .ok (.putfield 92, 3) := by decide +kernel
theorem d_M_move_97 : decode b_M_move 97 = .ok (.aload_n 0, 1) := by decide +kernel
theorem d_M_move_98 : decode b_M_move 98 = .ok (.iload_n 3, 1) := by decide +kernel
theorem d_M_move_99 : decode b_M_move 99 = .ok (.putfield 89, 3) := by decide +kernel
theorem d_M_move_102 : decode b_M_move 102 = .ok (.aload_n 0, 1) := by decide +kernel
theorem d_M_move_103 : decode b_M_move 103 = .ok (.iconst (-1), 1) := by decide +kernel
theorem d_M_move_104 : decode b_M_move 104 = .ok (.putfield 101, 3) := by decide +kernel
theorem d_M_move_107 : decode b_M_move 107 = .ok (.aload_n 0, 1) := by decide +kernel
theorem d_M_move_108 : decode b_M_move 108 = .ok (.iconst (-1), 1) := by decide +kernel
theorem d_M_move_109 : decode b_M_move 109 = .ok (.putfield 104, 3) := by decide +kernel
theorem d_M_move_112 : decode b_M_move 112 = .ok (.aload_n 0, 1) := by decide +kernel
theorem d_M_move_113 : decode b_M_move 113 = .ok (.invokevirtual 119, 3) := by decide +kernel
theorem d_M_move_116 : decode b_M_move 116 = .ok (.ifCond .eq (7), 3) := by decide +kernel
theorem d_M_move_119 : decode b_M_move 119 = .ok (.iconst 0, 1) := by decide +kernel
theorem d_M_move_120 : decode b_M_move 120 = .ok (.goto (5), 3) := by decide +kernel
theorem d_M_move_123 : decode b_M_move 123 = .ok (.bipush (-9), 2) := by decide +kernel
theorem d_M_move_125 : decode b_M_move 125 = .ok (.ireturn, 1) := by decide +kernel
theorem d_M_remove_0 : decode b_M_remove 0 = .ok (.aload_n 0, 1) := by decide +kernel
theorem d_M_remove_1 : decode b_M_remove 1 = .ok (.getfield 56, 3) := by decide +kernel
theorem d_M_remove_4 : decode b_M_remove 4 = .ok (.ifCond .ne (6), 3) := by decide +kernel
theorem d_M_remove_7 : decode b_M_remove 7 = .ok (.bipush (-9), 2) := by decide +kernel
theorem d_M_remove_9 : decode b_M_remove 9 = .ok (.ireturn, 1) := by decide +kernel
theorem d_M_remove_10 : decode b_M_remove 10 = .ok (.aload_n 0, 1) := by decide +kernel
theorem d_M_remove_11 : decode b_M_remove 11 = .ok (.iload_n 1, 1) := by decide +kernel
theorem d_M_remove_12 : decode b_M_remove 12 = .ok (.invokevirtual 134, 3) := by decide +kernel
theorem d_M_remove_15 : decode b_M_remove 15 = .ok (.istore_n 2, 1) := by decide +kernel
theorem d_M_remove_16 : decode b_M_remove 16 = .ok (.iload_n 2, 1) := by decide +kernel
theorem d_M_remove_17 : decode b_M_remove 17 = .ok (.ifCond .ge (5), 3) := by decide +kernel
theorem d_M_remove_20 : decode b_M_remove 20 = .ok (.iconst (-1), 1) := by decide +kernel
theorem d_M_remove_21 : decode b_M_remove 21 = .ok (.ireturn, 1) := by decide +kernel
theorem d_M_remove_22 : decode b_M_remove 22 = .ok (.aload_n 0, 1) := by decide +kernel
theorem d_M_remove_23 : decode b_M_remove 23 = .ok (.iload_n 1, 1) := by decide +kernel
theorem d_M_remove_24 : decode b_M_remove 24 = .ok (.invokevirtual 167, 3) := by decide +kernel
theorem d_M_remove_27 : decode b_M_remove 27 = .ok (.ifCond .le (6), 3) := by decide +kernel
theorem d_M_remove_30 : decode b_M_remove 30 = .ok (.bipush (-8), 2) := by decide +kernel
theorem d_M_remove_32 : decode b_M_remove 32 = .ok (.ireturn, 1) := by decide +kernel
theorem d_M_remove_33 : decode b_M_remove 33 = .ok (.aload_n 0, 1) := by decide +kernel
theorem d_M_remove_34 : decode b_M_remove 34 = .ok (.iload_n 2, 1) := by decide +kernel
theorem d_M_remove_35 : decode b_M_remove 35 = .ok (.invokevirtual 107, 3) := by decide +kernel
theorem d_M_remove_38 : decode b_M_remove 38 = .ok (.ifCond .eq (16), 3) := by decide +kernel
theorem d_M_remove_41 : decode b_M_remove 41 = .ok (.aload_n 0, 1) := by decide +kernel
theorem d_M_remove_42 : decode b_M_remove 42 = .ok (.iload_n 1, 1) := by decide +kernel
theorem d_M_remove_43 : decode b_M_remove 43 = .ok (.iconst 0, 1) := by decide +kernel
theorem d_M_remove_44 : decode b_M_remove 44 = .ok (.invokevirtual 160, 3) := by decide +kernel
theorem d_M_remove_47 : decode b_M_remove 47 = .ok (.ifCond .eq (7), 3) := by decide +kernel
theorem d_M_remove_50 : decode b_M_remove 50 = .ok (.iconst 0, 1) := by decide +kernel
theorem d_M_remove_51 : decode b_M_remove 51 = .ok (.goto (5), 3) := by decide +kernel
theorem d_M_remove_54 : decode b_M_remove 54 = .ok (.bipush (-9), 2) := by decide +kernel
theorem d_M_remove_56 : decode b_M_remove 56 = .ok (.ireturn, 1) := by decide +kernel
theorem d_M_find_0 : decode b_M_find 0 = .ok (.aload_n 0, 1) := by decide +kernel
theorem d_M_find_1 : decode b_M_find 1 = .ok (.getfield 56, 3) := by decide +kernel
theorem d_M_find_4 : decode b_M_find 4 = .ok (.ifCond .ne (6), 3) := by decide +kernel
theorem d_M_find_7 : decode b_M_find 7 = .ok (.bipush (-9), 2) := by decide +kernel
theorem d_M_find_9 : decode b_M_find 9 = .ok (.ireturn, 1) := by decide +kernel
theorem d_M_find_10 : decode b_M_find 10 = .ok (.aload_n 0, 1) := by decide +kernel
theorem d_M_find_11 : decode b_M_find 11 = .ok (.iload_n 1, 1) := by decide +kernel
theorem d_M_find_12 : decode b_M_find 12 = .ok (.invokevirtual 137, 3) := by decide +kernel
theorem d_M_find_15 : decode b_M_find 15 = .ok (.ifCond .ne (5), 3) := by decide +kernel
theorem d_M_find_18 : decode b_M_find 18 = .ok (.iconst (-1), 1) := by decide +kernel
theorem d_M_find_19 : decode b_M_find 19 = .ok (.ireturn, 1) := by decide +kernel
theorem d_M_find_20 : decode b_M_find 20 = .ok (.aload_n 0, 1) := by decide +kernel
theorem d_M_find_21 : decode b_M_find 21 = .ok (.iload_n 1, 1) := by decide +kernel
theorem d_M_find_22 : decode b_M_find 22 = .ok (.invokevirtual 140, 3) := by decide +kernel
theorem d_M_find_25 : decode b_M_find 25 = .ok (.ifCond .eq (13), 3) := by decide +kernel
theorem d_M_find_28 : decode b_M_find 28 = .ok (.aload_n 0, 1) := by decide +kernel
theorem d_M_find_29 : decode b_M_find 29 = .ok (.iload_n 1, 1) := by decide +kernel
theorem d_M_find_30 : decode b_M_find 30 = .ok (.iload_n 2, 1) := by decide +kernel
theorem d_M_find_31 : decode b_M_find 31 = .ok (.iconst 0, 1) := by decide +kernel
theorem d_M_find_32 : decode b_M_find 32 = .ok (.invokevirtual 143, 3) := by decide +kernel
theorem d_M_find_35 : decode b_M_find 35 = .ok (.goto (5), 3) := by decide +kernel
theorem d_M_find_38 : decode b_M_find 38 = .ok (.bipush (-2), 2) := by decide +kernel
theorem d_M_find_40 : decode b_M_find 40 = .ok (.ireturn, 1) := by decide +kernel
theorem d_M_size_0 : decode b_M_size 0 = .ok (.aload_n 0, 1) := by decide +kernel
theorem d_M_size_1 : decode b_M_size 1 = .ok (.getfield 56, 3) := by decide +kernel
theorem d_M_size_4 : decode b_M_size 4 = .ok (.ifCond .ne (6), 3) := by decide +kernel
theorem d_M_size_7 : decode b_M_size 7 = .ok (.bipush (-9), 2) := by decide +kernel
theorem d_M_size_9 : decode b_M_size 9 = .ok (.ireturn, 1) := by decide +kernel
theorem d_M_size_10 : decode b_M_size 10 = .ok (.aload_n 0, 1) := by decide +kernel
theorem d_M_size_11 : decode b_M_size 11 = .ok (.iload_n 1, 1) := by decide +kernel
theorem d_M_size_12 : decode b_M_size 12 = .ok (.invokevirtual 137, 3) := by decide +kernel
theorem d_M_size_15 : decode b_M_size 15 = .ok (.ifCond .ne (5), 3) := by decide +kernel
theorem d_M_size_18 : decode b_M_size 18 = .ok (.iconst (-1), 1) := by decide +kernel
theorem d_M_size_19 : decode b_M_size 19 = .ok (.ireturn, 1) := by decide +kernel
theorem d_M_size_20 : decode b_M_size 20 = .ok (.aload_n 0, 1) := by decide +kernel
theorem d_M_size_21 : decode b_M_size 21 = .ok (.iload_n 1, 1) := by decide +kernel
theorem d_M_size_22 : decode b_M_size 22 = .ok (.invokevirtual 140, 3) := by decide +kernel
theorem d_M_size_25 : decode b_M_size 25 = .ok (.ifCond .eq (11), 3) := by decide +kernel
theorem d_M_size_28 : decode b_M_size 28 = .ok (.aload_n 0, 1) := by decide +kernel
theorem d_M_size_29 : decode b_M_size 29 = .ok (.iload_n 1, 1) := by decide +kernel
theorem d_M_size_30 : decode b_M_size 30 = .ok (.invokevirtual 167, 3) := by decide +kernel
theorem d_M_size_33 : decode b_M_size 33 = .ok (.goto (13), 3) := by decide +kernel
theorem d_M_size_36 : decode b_M_size 36 = .ok (.aload_n 0, 1) := by decide +kernel
theorem d_M_size_37 : decode b_M_size 37 = .ok (.getfield 28, 3) := by decide +kernel
theorem d_M_size_40 : decode b_M_size 40 = .ok (.aload_n 0, 1) := by decide +kernel
theorem d_M_size_41 : decode b_M_size 41 = .ok (.iload_n 1, 1) := by decide +kernel
theorem d_M_size_42 : decode b_M_size 42 = .ok (.invokevirtual 134, 3) := by decide +kernel
theorem d_M_size_45 : decode b_M_size 45 = .ok (.iaload, 1) := by decide +kernel
theorem d_M_size_46 : decode b_M_size 46 = .ok (.ireturn, 1) := by decide +kernel
theorem d_M_parentOf_0 : decode b_M_parentOf 0 = .ok (.aload_n 0, 1) := by decide +kernel
theorem d_M_parentOf_1 : decode b_M_parentOf 1 = .ok (.getfield 56, 3) := by decide +kernel
theorem d_M_parentOf_4 : decode b_M_parentOf 4 = .ok (.ifCond .ne (6), 3) := by decide +kernel
theorem d_M_parentOf_7 : decode b_M_parentOf 7 = .ok (.bipush (-9), 2) := by decide +kernel
theorem d_M_parentOf_9 : decode b_M_parentOf 9 = .ok (.ireturn, 1) := by decide +kernel
theorem d_M_parentOf_10 : decode b_M_parentOf 10 = .ok (.aload_n 0, 1) := by decide +kernel
theorem d_M_parentOf_11 : decode b_M_parentOf 11 = .ok (.iload_n 1, 1) := by decide +kernel
theorem d_M_parentOf_12 : decode b_M_parentOf 12 = .ok (.invokevirtual 134, 3) := by decide +kernel
theorem d_M_parentOf_15 : decode b_M_parentOf 15 = .ok (.istore_n 2, 1) := by decide +kernel
theorem d_M_parentOf_16 : decode b_M_parentOf 16 = .ok (.iload_n 2, 1) := by decide +kernel
theorem d_M_parentOf_17 : decode b_M_parentOf 17 = .ok (.ifCond .ge (7), 3) := by decide +kernel
theorem d_M_parentOf_20 : decode b_M_parentOf 20 = .ok (.iconst (-1), 1) := by decide +kernel
theorem d_M_parentOf_21 : decode b_M_parentOf 21 = .ok (.goto (9), 3) := by decide +kernel
theorem d_M_parentOf_24 : decode b_M_parentOf 24 = .ok (.aload_n 0, 1) := by decide +kernel
theorem d_M_parentOf_25 : decode b_M_parentOf 25 = .ok (.getfield 25, 3) := by decide +kernel
theorem d_M_parentOf_28 : decode b_M_parentOf 28 = .ok (.iload_n 2, 1) := by decide +kernel
theorem d_M_parentOf_29 : decode b_M_parentOf 29 = .ok (.iaload, 1) := by decide +kernel
theorem d_M_parentOf_30 : decode b_M_parentOf 30 = .ok (.ireturn, 1) := by decide +kernel
theorem d_M_nameOf_0 : decode b_M_nameOf 0 = .ok (.aload_n 0, 1) := by decide +kernel
theorem d_M_nameOf_1 : decode b_M_nameOf 1 = .ok (.getfield 56, 3) := by decide +kernel
theorem d_M_nameOf_4 : decode b_M_nameOf 4 = .ok (.ifCond .ne (7), 3) := by decide +kernel
theorem d_M_nameOf_7 : decode b_M_nameOf 7 = .ok (.ldc2_w 150, 3) := by decide +kernel
theorem d_M_nameOf_10 : decode b_M_nameOf 10 = .ok (.lreturn, 1) := by decide +kernel
theorem d_M_nameOf_11 : decode b_M_nameOf 11 = .ok (.aload_n 0, 1) := by decide +kernel
theorem d_M_nameOf_12 : decode b_M_nameOf 12 = .ok (.iload_n 1, 1) := by decide +kernel
theorem d_M_nameOf_13 : decode b_M_nameOf 13 = .ok (.invokevirtual 134, 3) := by decide +kernel
theorem d_M_nameOf_16 : decode b_M_nameOf 16 = .ok (.istore_n 2, 1) := by decide +kernel
theorem d_M_nameOf_17 : decode b_M_nameOf 17 = .ok (.iload_n 2, 1) := by decide +kernel
theorem d_M_nameOf_18 : decode b_M_nameOf 18 = .ok (.ifCond .ge (7), 3) := by decide +kernel
theorem d_M_nameOf_21 : decode b_M_nameOf 21 = .ok (.ldc2_w 152, 3) := by decide +kernel
theorem d_M_nameOf_24 : decode b_M_nameOf 24 = .ok (.lreturn, 1) := by decide +kernel
theorem d_M_nameOf_25 : decode b_M_nameOf 25 = .ok (.aload_n 0, 1) := by decide +kernel
theorem d_M_nameOf_26 : decode b_M_nameOf 26 = .ok (.getfield 38, 3) := by decide +kernel
theorem d_M_nameOf_29 : decode b_M_nameOf 29 = .ok (.iload_n 2, 1) := by decide +kernel
theorem d_M_nameOf_30 : decode b_M_nameOf 30 = .ok (.iaload, 1) := by decide +kernel
theorem d_M_nameOf_31 : decode b_M_nameOf 31 = .ok (.ifCond .lt (9), 3) := by decide +kernel
theorem d_M_nameOf_34 : decode b_M_nameOf 34 = .ok (.ldc2_w 158, 3) := by decide +kernel
theorem d_M_nameOf_37 : decode b_M_nameOf 37 = .ok (.goto (10), 3) := by decide +kernel
theorem d_M_nameOf_40 : decode b_M_nameOf 40 = .ok (.aload_n 0, 1) := by decide +kernel
theorem d_M_nameOf_41 : decode b_M_nameOf 41 = .ok (.getfield 22, 3) := by decide +kernel
theorem d_M_nameOf_44 : decode b_M_nameOf 44 = .ok (.iload_n 2, 1) := by decide +kernel
theorem d_M_nameOf_45 : decode b_M_nameOf 45 = .ok (.iaload, 1) := by decide +kernel
theorem d_M_nameOf_46 : decode b_M_nameOf 46 = .ok (.i2l, 1) := by decide +kernel
theorem d_M_nameOf_47 : decode b_M_nameOf 47 = .ok (.lreturn, 1) := by decide +kernel
theorem d_M_checkpoint_0 : decode b_M_checkpoint 0 = .ok (.aload_n 0, 1) := by decide +kernel
theorem d_M_checkpoint_1 : decode b_M_checkpoint 1 = .ok (.getfield 56, 3) := by decide +kernel
theorem d_M_checkpoint_4 : decode b_M_checkpoint 4 = .ok (.ifCond .eq (10), 3) := by decide +kernel
theorem d_M_checkpoint_7 : decode b_M_checkpoint 7 = .ok (.aload_n 0, 1) := by decide +kernel
theorem d_M_checkpoint_8 : decode b_M_checkpoint 8 = .ok (.invokevirtual 71, 3) := by decide +kernel
theorem d_M_checkpoint_11 : decode b_M_checkpoint 11 = .ok (.ifCond .ne (6), 3) := by decide +kernel
theorem d_M_checkpoint_14 : decode b_M_checkpoint 14 = .ok (.bipush (-9), 2) := by decide +kernel
theorem d_M_checkpoint_16 : decode b_M_checkpoint 16 = .ok (.ireturn, 1) := by decide +kernel
theorem d_M_checkpoint_17 : decode b_M_checkpoint 17 = .ok (.aload_n 0, 1) := by decide +kernel
theorem d_M_checkpoint_18 : decode b_M_checkpoint 18 = .ok (.iconst 0, 1) := by decide +kernel
theorem d_M_checkpoint_19 : decode b_M_checkpoint 19 = .ok (.putfield 170, 3) := by decide +kernel
theorem d_M_checkpoint_22 : decode b_M_checkpoint 22 = .ok (.aload_n 0, 1) := by decide +kernel
theorem d_M_checkpoint_23 : decode b_M_checkpoint 23 = .ok (.invokevirtual 71, 3) := by decide +kernel
theorem d_M_checkpoint_26 : decode b_M_checkpoint 26 = .ok (.ifCond .ne (6), 3) := by decide +kernel
theorem d_M_checkpoint_29 : decode b_M_checkpoint 29 = .ok (.bipush (-9), 2) := by decide +kernel
theorem d_M_checkpoint_31 : decode b_M_checkpoint 31 = .ok (.ireturn, 1) := by decide +kernel
theorem d_M_checkpoint_32 : decode b_M_checkpoint 32 = .ok (.aload_n 0, 1) := by decide +kernel
theorem d_M_checkpoint_33 : decode b_M_checkpoint 33 = .ok (.iconst 1, 1) := by decide +kernel
theorem d_M_checkpoint_34 : decode b_M_checkpoint 34 = .ok (.putfield 170, 3) := by decide +kernel
theorem d_M_checkpoint_37 : decode b_M_checkpoint 37 = .ok (.iconst 0, 1) := by decide +kernel
theorem d_M_checkpoint_38 : decode b_M_checkpoint 38 = .ok (.istore_n 1, 1) := by decide +kernel
theorem d_M_checkpoint_39 : decode b_M_checkpoint 39 = .ok (.iconst 0, 1) := by decide +kernel
theorem d_M_checkpoint_40 : decode b_M_checkpoint 40 = .ok (.istore_n 2, 1) := by decide +kernel
theorem d_M_checkpoint_41 : decode b_M_checkpoint 41 = .ok (.iload_n 2, 1) := by decide +kernel
theorem d_M_checkpoint_42 : decode b_M_checkpoint 42 = .ok (.bipush 6, 2) := by decide +kernel
theorem d_M_checkpoint_44 : decode b_M_checkpoint 44 = .ok (.if_icmp .ge (24), 3) := by decide +kernel
theorem d_M_checkpoint_47 : decode b_M_checkpoint 47 = .ok (.aload_n 0, 1) := by decide +kernel
theorem d_M_checkpoint_48 : decode b_M_checkpoint 48 = .ok (.getfield 50, 3) := by decide +kernel
theorem d_M_checkpoint_51 : decode b_M_checkpoint 51 = .ok (.iload_n 2, 1) := by decide +kernel
theorem d_M_checkpoint_52 : decode b_M_checkpoint 52 = .ok (.iconst 0, 1) := by decide +kernel
theorem d_M_checkpoint_53 : decode b_M_checkpoint 53 = .ok (.bastore, 1) := by decide +kernel
theorem d_M_checkpoint_54 : decode b_M_checkpoint 54 = .ok (.iload_n 1, 1) := by decide +kernel
theorem d_M_checkpoint_55 : decode b_M_checkpoint 55 = .ok (.aload_n 0, 1) := by decide +kernel
theorem d_M_checkpoint_56 : decode b_M_checkpoint 56 = .ok (.iload_n 2, 1) := by decide +kernel
theorem d_M_checkpoint_57 : decode b_M_checkpoint 57 = .ok (.invokevirtual 125, 3) := by decide +kernel
theorem d_M_checkpoint_60 : decode b_M_checkpoint 60 = .ok (.iadd, 1) := by decide +kernel
theorem d_M_checkpoint_61 : decode b_M_checkpoint 61 = .ok (.istore_n 1, 1) := by decide +kernel
theorem d_M_checkpoint_62 : decode b_M_checkpoint 62 = .ok (.iinc 2 (1), 3) := by decide +kernel
theorem d_M_checkpoint_65 : decode b_M_checkpoint 65 = .ok (.goto (-24), 3) := by decide +kernel
theorem d_M_checkpoint_68 : decode b_M_checkpoint 68 = .ok (.iload_n 1, 1) := by decide +kernel
theorem d_M_checkpoint_69 : decode b_M_checkpoint 69 = .ok (.ireturn, 1) := by decide +kernel
theorem d_M_followed_0 : decode b_M_followed 0 = .ok (.iconst 0, 1) := by decide +kernel
theorem d_M_followed_1 : decode b_M_followed 1 = .ok (.istore_n 2, 1) := by decide +kernel
theorem d_M_followed_2 : decode b_M_followed 2 = .ok (.iload_n 2, 1) := by decide +kernel
theorem d_M_followed_3 : decode b_M_followed 3 = .ok (.bipush 48, 2) := by decide +kernel
theorem d_M_followed_5 : decode b_M_followed 5 = .ok (.if_icmp .ge (70), 3) := by decide +kernel
theorem d_M_followed_8 : decode b_M_followed 8 = .ok (.aload_n 0, 1) := by decide +kernel
theorem d_M_followed_9 : decode b_M_followed 9 = .ok (.getfield 7, 3) := by decide +kernel
theorem d_M_followed_12 : decode b_M_followed 12 = .ok (.iload_n 2, 1) := by decide +kernel
theorem d_M_followed_13 : decode b_M_followed 13 = .ok (.iaload, 1) := by decide +kernel
theorem d_M_followed_14 : decode b_M_followed 14 = .ok (.iconst 1, 1) := by decide +kernel
theorem d_M_followed_15 : decode b_M_followed 15 = .ok (.if_icmp .ne (54), 3) := by decide +kernel
theorem d_M_followed_18 : decode b_M_followed 18 = .ok (.aload_n 0, 1) := by decide +kernel
theorem d_M_followed_19 : decode b_M_followed 19 = .ok (.getfield 13, 3) := by decide +kernel
theorem d_M_followed_22 : decode b_M_followed 22 = .ok (.iload_n 2, 1) := by decide +kernel
theorem d_M_followed_23 : decode b_M_followed 23 = .ok (.iaload, 1) := by decide +kernel
theorem d_M_followed_24 : decode b_M_followed 24 = .ok (.aload_n 0, 1) := by decide +kernel
theorem d_M_followed_25 : decode b_M_followed 25 = .ok (.getfield 13, 3) := by decide +kernel
theorem d_M_followed_28 : decode b_M_followed 28 = .ok (.iload_n 1, 1) := by decide +kernel
theorem d_M_followed_29 : decode b_M_followed 29 = .ok (.iaload, 1) := by decide +kernel
theorem d_M_followed_30 : decode b_M_followed 30 = .ok (.if_icmp .ne (39), 3) := by decide +kernel
theorem d_M_followed_33 : decode b_M_followed 33 = .ok (.aload_n 0, 1) := by decide +kernel
theorem d_M_followed_34 : decode b_M_followed 34 = .ok (.getfield 16, 3) := by decide +kernel
theorem d_M_followed_37 : decode b_M_followed 37 = .ok (.iload_n 2, 1) := by decide +kernel
theorem d_M_followed_38 : decode b_M_followed 38 = .ok (.iaload, 1) := by decide +kernel
theorem d_M_followed_39 : decode b_M_followed 39 = .ok (.aload_n 0, 1) := by decide +kernel
theorem d_M_followed_40 : decode b_M_followed 40 = .ok (.getfield 16, 3) := by decide +kernel
theorem d_M_followed_43 : decode b_M_followed 43 = .ok (.iload_n 1, 1) := by decide +kernel
theorem d_M_followed_44 : decode b_M_followed 44 = .ok (.iaload, 1) := by decide +kernel
theorem d_M_followed_45 : decode b_M_followed 45 = .ok (.if_icmp .ne (24), 3) := by decide +kernel
theorem d_M_followed_48 : decode b_M_followed 48 = .ok (.aload_n 0, 1) := by decide +kernel
theorem d_M_followed_49 : decode b_M_followed 49 = .ok (.getfield 19, 3) := by decide +kernel
theorem d_M_followed_52 : decode b_M_followed 52 = .ok (.iload_n 2, 1) := by decide +kernel
theorem d_M_followed_53 : decode b_M_followed 53 = .ok (.iaload, 1) := by decide +kernel
theorem d_M_followed_54 : decode b_M_followed 54 = .ok (.aload_n 0, 1) := by decide +kernel
theorem d_M_followed_55 : decode b_M_followed 55 = .ok (.getfield 19, 3) := by decide +kernel
theorem d_M_followed_58 : decode b_M_followed 58 = .ok (.iload_n 1, 1) := by decide +kernel
theorem d_M_followed_59 : decode b_M_followed 59 = .ok (.iaload, 1) := by decide +kernel
theorem d_M_followed_60 : decode b_M_followed 60 = .ok (.iconst 1, 1) := by decide +kernel
theorem d_M_followed_61 : decode b_M_followed 61 = .ok (.iadd, 1) := by decide +kernel
theorem d_M_followed_62 : decode b_M_followed 62 = .ok (.iconst 4, 1) := by decide +kernel
theorem d_M_followed_63 : decode b_M_followed 63 = .ok (.irem, 1) := by decide +kernel
theorem d_M_followed_64 : decode b_M_followed 64 = .ok (.if_icmp .ne (5), 3) := by decide +kernel
theorem d_M_followed_67 : decode b_M_followed 67 = .ok (.iconst 1, 1) := by decide +kernel
theorem d_M_followed_68 : decode b_M_followed 68 = .ok (.ireturn, 1) := by decide +kernel
theorem d_M_followed_69 : decode b_M_followed 69 = .ok (.iinc 2 (1), 3) := by decide +kernel
theorem d_M_followed_72 : decode b_M_followed 72 = .ok (.goto (-70), 3) := by decide +kernel
theorem d_M_followed_75 : decode b_M_followed 75 = .ok (.iconst 0, 1) := by decide +kernel
theorem d_M_followed_76 : decode b_M_followed 76 = .ok (.ireturn, 1) := by decide +kernel
end
section
theorem d_M_sizeOf_0 : decode b_M_sizeOf 0 = .ok (.iconst (-1), 1) := by decide +kernel
theorem d_M_sizeOf_1 : decode b_M_sizeOf 1 = .ok (.istore_n 2, 1) := by decide +kernel
theorem d_M_sizeOf_2 : decode b_M_sizeOf 2 = .ok (.iconst 0, 1) := by decide +kernel
theorem d_M_sizeOf_3 : decode b_M_sizeOf 3 = .ok (.istore_n 3, 1) := by decide +kernel
theorem d_M_sizeOf_4 : decode b_M_sizeOf 4 = .ok (.iload_n 3, 1) := by decide +kernel
theorem d_M_sizeOf_5 : decode b_M_sizeOf 5 = .ok (.bipush 48, 2) := by decide +kernel
theorem d_M_sizeOf_7 : decode b_M_sizeOf 7 = .ok (.if_icmp .ge (53), 3) := by decide +kernel
theorem d_M_sizeOf_10 : decode b_M_sizeOf 10 = .ok (.aload_n 0, 1) := by decide +kernel
theorem d_M_sizeOf_11 : decode b_M_sizeOf 11 = .ok (.getfield 7, 3) := by decide +kernel
theorem d_M_sizeOf_14 : decode b_M_sizeOf 14 = .ok (.iload_n 3, 1) := by decide +kernel
theorem d_M_sizeOf_15 : decode b_M_sizeOf 15 = .ok (.iaload, 1) := by decide +kernel
theorem d_M_sizeOf_16 : decode b_M_sizeOf 16 = .ok (.iconst 1, 1) := by decide +kernel
theorem d_M_sizeOf_17 : decode b_M_sizeOf 17 = .ok (.if_icmp .ne (37), 3) := by decide +kernel
theorem d_M_sizeOf_20 : decode b_M_sizeOf 20 = .ok (.aload_n 0, 1) := by decide +kernel
theorem d_M_sizeOf_21 : decode b_M_sizeOf 21 = .ok (.getfield 13, 3) := by decide +kernel
theorem d_M_sizeOf_24 : decode b_M_sizeOf 24 = .ok (.iload_n 3, 1) := by decide +kernel
theorem d_M_sizeOf_25 : decode b_M_sizeOf 25 = .ok (.iaload, 1) := by decide +kernel
theorem d_M_sizeOf_26 : decode b_M_sizeOf 26 = .ok (.iload_n 1, 1) := by decide +kernel
theorem d_M_sizeOf_27 : decode b_M_sizeOf 27 = .ok (.if_icmp .ne (27), 3) := by decide +kernel
theorem d_M_sizeOf_30 : decode b_M_sizeOf 30 = .ok (.aload_n 0, 1) := by decide +kernel
theorem d_M_sizeOf_31 : decode b_M_sizeOf 31 = .ok (.getfield 16, 3) := by decide +kernel
theorem d_M_sizeOf_34 : decode b_M_sizeOf 34 = .ok (.iload_n 3, 1) := by decide +kernel
theorem d_M_sizeOf_35 : decode b_M_sizeOf 35 = .ok (.iaload, 1) := by decide +kernel
theorem d_M_sizeOf_36 : decode b_M_sizeOf 36 = .ok (.ifCond .ne (18), 3) := by decide +kernel
theorem d_M_sizeOf_39 : decode b_M_sizeOf 39 = .ok (.aload_n 0, 1) := by decide +kernel
theorem d_M_sizeOf_40 : decode b_M_sizeOf 40 = .ok (.iload_n 3, 1) := by decide +kernel
theorem d_M_sizeOf_41 : decode b_M_sizeOf 41 = .ok (.invokevirtual 173, 3) := by decide +kernel
theorem d_M_sizeOf_44 : decode b_M_sizeOf 44 = .ok (.ifCond .ne (10), 3) := by decide +kernel
theorem d_M_sizeOf_47 : decode b_M_sizeOf 47 = .ok (.aload_n 0, 1) := by decide +kernel
theorem d_M_sizeOf_48 : decode b_M_sizeOf 48 = .ok (.getfield 28, 3) := by decide +kernel
theorem d_M_sizeOf_51 : decode b_M_sizeOf 51 = .ok (.iload_n 3, 1) := by decide +kernel
theorem d_M_sizeOf_52 : decode b_M_sizeOf 52 = .ok (.iaload, 1) := by decide +kernel
theorem d_M_sizeOf_53 : decode b_M_sizeOf 53 = .ok (.istore_n 2, 1) := by decide +kernel
theorem d_M_sizeOf_54 : decode b_M_sizeOf 54 = .ok (.iinc 3 (1), 3) := by decide +kernel
theorem d_M_sizeOf_57 : decode b_M_sizeOf 57 = .ok (.goto (-53), 3) := by decide +kernel
theorem d_M_sizeOf_60 : decode b_M_sizeOf 60 = .ok (.iload_n 2, 1) := by decide +kernel
theorem d_M_sizeOf_61 : decode b_M_sizeOf 61 = .ok (.ireturn, 1) := by decide +kernel
theorem d_M_mount_0 : decode b_M_mount 0 = .ok (.aload_n 0, 1) := by decide +kernel
theorem d_M_mount_1 : decode b_M_mount 1 = .ok (.iconst 1, 1) := by decide +kernel
theorem d_M_mount_2 : decode b_M_mount 2 = .ok (.putfield 56, 3) := by decide +kernel
theorem d_M_mount_5 : decode b_M_mount 5 = .ok (.iload_n 1, 1) := by decide +kernel
theorem d_M_mount_6 : decode b_M_mount 6 = .ok (.ifCond .ne (10), 3) := by decide +kernel
theorem d_M_mount_9 : decode b_M_mount 9 = .ok (.aload_n 0, 1) := by decide +kernel
theorem d_M_mount_10 : decode b_M_mount 10 = .ok (.getfield 170, 3) := by decide +kernel
theorem d_M_mount_13 : decode b_M_mount 13 = .ok (.ifCond .ne (7), 3) := by decide +kernel
theorem d_M_mount_16 : decode b_M_mount 16 = .ok (.iconst 1, 1) := by decide +kernel
theorem d_M_mount_17 : decode b_M_mount 17 = .ok (.goto (4), 3) := by decide +kernel
theorem d_M_mount_20 : decode b_M_mount 20 = .ok (.iconst 0, 1) := by decide +kernel
theorem d_M_mount_21 : decode b_M_mount 21 = .ok (.istore_n 2, 1) := by decide +kernel
theorem d_M_mount_22 : decode b_M_mount 22 = .ok (.iload_n 2, 1) := by decide +kernel
theorem d_M_mount_23 : decode b_M_mount 23 = .ok (.ifCond .eq (7), 3) := by decide +kernel
theorem d_M_mount_26 : decode b_M_mount 26 = .ok (.iconst 0, 1) := by decide +kernel
theorem d_M_mount_27 : decode b_M_mount 27 = .ok (.goto (4), 3) := by decide +kernel
theorem d_M_mount_30 : decode b_M_mount 30 = .ok (.iconst 1, 1) := by decide +kernel
theorem d_M_mount_31 : decode b_M_mount 31 = .ok (.istore_n 3, 1) := by decide +kernel
theorem d_M_mount_32 : decode b_M_mount 32 = .ok (.iconst 0, 1) := by decide +kernel
theorem d_M_mount_33 : decode b_M_mount 33 = .ok (.istore 4, 2) := by decide +kernel
theorem d_M_mount_35 : decode b_M_mount 35 = .ok (.iload 4, 2) := by decide +kernel
theorem d_M_mount_37 : decode b_M_mount 37 = .ok (.bipush 6, 2) := by decide +kernel
theorem d_M_mount_39 : decode b_M_mount 39 = .ok (.if_icmp .ge (42), 3) := by decide +kernel
theorem d_M_mount_42 : decode b_M_mount 42 = .ok (.iload_n 3, 1) := by decide +kernel
theorem d_M_mount_43 : decode b_M_mount 43 = .ok (.aload_n 0, 1) := by decide +kernel
theorem d_M_mount_44 : decode b_M_mount 44 = .ok (.getfield 44, 3) := by decide +kernel
theorem d_M_mount_47 : decode b_M_mount 47 = .ok (.iload 4, 2) := by decide +kernel
theorem d_M_mount_49 : decode b_M_mount 49 = .ok (.baload, 1) := by decide +kernel
theorem d_M_mount_50 : decode b_M_mount 50 = .ok (.ifCond .ne (22), 3) := by decide +kernel
theorem d_M_mount_53 : decode b_M_mount 53 = .ok (.iload_n 2, 1) := by decide +kernel
theorem d_M_mount_54 : decode b_M_mount 54 = .ok (.ifCond .ne (13), 3) := by decide +kernel
theorem d_M_mount_57 : decode b_M_mount 57 = .ok (.aload_n 0, 1) := by decide +kernel
theorem d_M_mount_58 : decode b_M_mount 58 = .ok (.getfield 50, 3) := by decide +kernel
theorem d_M_mount_61 : decode b_M_mount 61 = .ok (.iload 4, 2) := by decide +kernel
theorem d_M_mount_63 : decode b_M_mount 63 = .ok (.baload, 1) := by decide +kernel
theorem d_M_mount_64 : decode b_M_mount 64 = .ok (.ifCond .eq (8), 3) := by decide +kernel
theorem d_M_mount_67 : decode b_M_mount 67 = .ok (.bipush 8, 2) := by decide +kernel
theorem d_M_mount_69 : decode b_M_mount 69 = .ok (.goto (4), 3) := by decide +kernel
theorem d_M_mount_72 : decode b_M_mount 72 = .ok (.iconst 0, 1) := by decide +kernel
theorem d_M_mount_73 : decode b_M_mount 73 = .ok (.iadd, 1) := by decide +kernel
theorem d_M_mount_74 : decode b_M_mount 74 = .ok (.istore_n 3, 1) := by decide +kernel
theorem d_M_mount_75 : decode b_M_mount 75 = .ok (.iinc 4 (1), 3) := by decide +kernel
theorem d_M_mount_78 : decode b_M_mount 78 = .ok (.goto (-43), 3) := by decide +kernel
theorem d_M_mount_81 : decode b_M_mount 81 = .ok (.iconst 0, 1) := by decide +kernel
theorem d_M_mount_82 : decode b_M_mount 82 = .ok (.istore 4, 2) := by decide +kernel
theorem d_M_mount_84 : decode b_M_mount 84 = .ok (.iload 4, 2) := by decide +kernel
theorem d_M_mount_86 : decode b_M_mount 86 = .ok (.bipush 48, 2) := by decide +kernel
theorem d_M_mount_88 : decode b_M_mount 88 = .ok (.if_icmp .ge (84), 3) := by decide +kernel
theorem d_M_mount_91 : decode b_M_mount 91 = .ok (.aload_n 0, 1) := by decide +kernel
theorem d_M_mount_92 : decode b_M_mount 92 = .ok (.getfield 16, 3) := by decide +kernel
theorem d_M_mount_95 : decode b_M_mount 95 = .ok (.iload 4, 2) := by decide +kernel
theorem d_M_mount_97 : decode b_M_mount 97 = .ok (.iaload, 1) := by decide +kernel
theorem d_M_mount_98 : decode b_M_mount 98 = .ok (.ifCond .eq (28), 3) := by decide +kernel
theorem d_M_mount_101 : decode b_M_mount 101 = .ok (.aload_n 0, 1) := by decide +kernel
theorem d_M_mount_102 : decode b_M_mount 102 = .ok (.getfield 16, 3) := by decide +kernel
theorem d_M_mount_105 : decode b_M_mount 105 = .ok (.iload 4, 2) := by decide +kernel
theorem d_M_mount_107 : decode b_M_mount 107 = .ok (.iaload, 1) := by decide +kernel
theorem d_M_mount_108 : decode b_M_mount 108 = .ok (.aload_n 0, 1) := by decide +kernel
theorem d_M_mount_109 : decode b_M_mount 109 = .ok (.aload_n 0, 1) := by decide +kernel
theorem d_M_mount_110 : decode b_M_mount 110 = .ok (.getfield 13, 3) := by decide +kernel
theorem d_M_mount_113 : decode b_M_mount 113 = .ok (.iload 4, 2) := by decide +kernel
theorem d_M_mount_115 : decode b_M_mount 115 = .ok (.iaload, 1) := by decide +kernel
theorem d_M_mount_116 : decode b_M_mount 116 = .ok (.invokevirtual 176, 3) := by decide +kernel
theorem d_M_mount_119 : decode b_M_mount 119 = .ok (.if_icmp .le (7), 3) := by decide +kernel
theorem d_M_mount_122 : decode b_M_mount 122 = .ok (.iconst 1, 1) := by decide +kernel
theorem d_M_mount_123 : decode b_M_mount 123 = .ok (.goto (4), 3) := by decide +kernel
theorem d_M_mount_126 : decode b_M_mount 126 = .ok (.iconst 0, 1) := by decide +kernel
theorem d_M_mount_127 : decode b_M_mount 127 = .ok (.istore 5, 2) := by decide +kernel
theorem d_M_mount_129 : decode b_M_mount 129 = .ok (.aload_n 0, 1) := by decide +kernel
theorem d_M_mount_130 : decode b_M_mount 130 = .ok (.getfield 41, 3) := by decide +kernel
theorem d_M_mount_133 : decode b_M_mount 133 = .ok (.iload 4, 2) := by decide +kernel
theorem d_M_mount_135 : decode b_M_mount 135 = .ok (.aload_n 0, 1) := by decide +kernel
theorem d_M_mount_136 : decode b_M_mount 136 = .ok (.getfield 7, 3) := by decide +kernel
theorem d_M_mount_139 : decode b_M_mount 139 = .ok (.iload 4, 2) := by decide +kernel
theorem d_M_mount_141 : decode b_M_mount 141 = .ok (.iaload, 1) := by decide +kernel
theorem d_M_mount_142 : decode b_M_mount 142 = .ok (.iconst 1, 1) := by decide +kernel
theorem d_M_mount_143 : decode b_M_mount 143 = .ok (.if_icmp .ne (21), 3) := by decide +kernel
theorem d_M_mount_146 : decode b_M_mount 146 = .ok (.aload_n 0, 1) := by decide +kernel
theorem d_M_mount_147 : decode b_M_mount 147 = .ok (.iload 4, 2) := by decide +kernel
theorem d_M_mount_149 : decode b_M_mount 149 = .ok (.invokevirtual 173, 3) := by decide +kernel
theorem d_M_mount_152 : decode b_M_mount 152 = .ok (.ifCond .ne (8), 3) := by decide +kernel
theorem d_M_mount_155 : decode b_M_mount 155 = .ok (.iload 5, 2) := by decide +kernel
theorem d_M_mount_157 : decode b_M_mount 157 = .ok (.ifCond .eq (7), 3) := by decide +kernel
theorem d_M_mount_160 : decode b_M_mount 160 = .ok (.iconst 1, 1) := by decide +kernel
theorem d_M_mount_161 : decode b_M_mount 161 = .ok (.goto (4), 3) := by decide +kernel
theorem d_M_mount_164 : decode b_M_mount 164 = .ok (.iconst 0, 1) := by decide +kernel
theorem d_M_mount_165 : decode b_M_mount 165 = .ok (.bastore, 1) := by decide +kernel
theorem d_M_mount_166 : decode b_M_mount 166 = .ok (.iinc 4 (1), 3) := by decide +kernel
theorem d_M_mount_169 : decode b_M_mount 169 = .ok (.goto (-85), 3) := by decide +kernel
theorem d_M_mount_172 : decode b_M_mount 172 = .ok (.iconst 0, 1) := by decide +kernel
theorem d_M_mount_173 : decode b_M_mount 173 = .ok (.istore 4, 2) := by decide +kernel
theorem d_M_mount_175 : decode b_M_mount 175 = .ok (.iload 4, 2) := by decide +kernel
theorem d_M_mount_177 : decode b_M_mount 177 = .ok (.bipush 48, 2) := by decide +kernel
theorem d_M_mount_179 : decode b_M_mount 179 = .ok (.if_icmp .ge (31), 3) := by decide +kernel
theorem d_M_mount_182 : decode b_M_mount 182 = .ok (.aload_n 0, 1) := by decide +kernel
theorem d_M_mount_183 : decode b_M_mount 183 = .ok (.getfield 41, 3) := by decide +kernel
theorem d_M_mount_186 : decode b_M_mount 186 = .ok (.iload 4, 2) := by decide +kernel
theorem d_M_mount_188 : decode b_M_mount 188 = .ok (.baload, 1) := by decide +kernel
theorem d_M_mount_189 : decode b_M_mount 189 = .ok (.ifCond .eq (15), 3) := by decide +kernel
theorem d_M_mount_192 : decode b_M_mount 192 = .ok (.aload_n 0, 1) := by decide +kernel
theorem d_M_mount_193 : decode b_M_mount 193 = .ok (.iload 4, 2) := by decide +kernel
theorem d_M_mount_195 : decode b_M_mount 195 = .ok (.invokevirtual 107, 3) := by decide +kernel
theorem d_M_mount_198 : decode b_M_mount 198 = .ok (.ifCond .ne (6), 3) := by decide +kernel
theorem d_M_mount_201 : decode b_M_mount 201 = .ok (.bipush (-9), 2) := by decide +kernel
theorem d_M_mount_203 : decode b_M_mount 203 = .ok (.ireturn, 1) := by decide +kernel
theorem d_M_mount_204 : decode b_M_mount 204 = .ok (.iinc 4 (1), 3) := by decide +kernel
theorem d_M_mount_207 : decode b_M_mount 207 = .ok (.goto (-32), 3) := by decide +kernel
theorem d_M_mount_210 : decode b_M_mount 210 = .ok (.iload_n 3, 1) := by decide +kernel
theorem d_M_mount_211 : decode b_M_mount 211 = .ok (.ireturn, 1) := by decide +kernel
theorem d_M_cut_0 : decode b_M_cut 0 = .ok (.aload_n 0, 1) := by decide +kernel
theorem d_M_cut_1 : decode b_M_cut 1 = .ok (.iload_n 1, 1) := by decide +kernel
theorem d_M_cut_2 : decode b_M_cut 2 = .ok (.ifCond .lt (14), 3) := by decide +kernel
theorem d_M_cut_5 : decode b_M_cut 5 = .ok (.iload_n 1, 1) := by decide +kernel
theorem d_M_cut_6 : decode b_M_cut 6 = .ok (.sipush 1000, 3) := by decide +kernel
theorem d_M_cut_9 : decode b_M_cut 9 = .ok (.if_icmp .gt (7), 3) := by decide +kernel
theorem d_M_cut_12 : decode b_M_cut 12 = .ok (.iload_n 1, 1) := by decide +kernel
theorem d_M_cut_13 : decode b_M_cut 13 = .ok (.goto (4), 3) := by decide +kernel
theorem d_M_cut_16 : decode b_M_cut 16 = .ok (.iconst (-1), 1) := by decide +kernel
theorem d_M_cut_17 : decode b_M_cut 17 = .ok (.putfield 60, 3) := by decide +kernel
theorem d_M_cut_20 : decode b_M_cut 20 = .ok (.return_, 1) := by decide +kernel
theorem d_M_outside_0 : decode b_M_outside 0 = .ok (.iload_n 0, 1) := by decide +kernel
theorem d_M_outside_1 : decode b_M_outside 1 = .ok (.ifCond .lt (18), 3) := by decide +kernel
theorem d_M_outside_4 : decode b_M_outside 4 = .ok (.iload_n 0, 1) := by decide +kernel
theorem d_M_outside_5 : decode b_M_outside 5 = .ok (.iconst 5, 1) := by decide +kernel
theorem d_M_outside_6 : decode b_M_outside 6 = .ok (.if_icmp .gt (13), 3) := by decide +kernel
theorem d_M_outside_9 : decode b_M_outside 9 = .ok (.iload_n 1, 1) := by decide +kernel
theorem d_M_outside_10 : decode b_M_outside 10 = .ok (.ifCond .lt (9), 3) := by decide +kernel
theorem d_M_outside_13 : decode b_M_outside 13 = .ok (.iload_n 1, 1) := by decide +kernel
theorem d_M_outside_14 : decode b_M_outside 14 = .ok (.bipush 7, 2) := by decide +kernel
theorem d_M_outside_16 : decode b_M_outside 16 = .ok (.if_icmp .le (7), 3) := by decide +kernel
theorem d_M_outside_19 : decode b_M_outside 19 = .ok (.iconst 1, 1) := by decide +kernel
theorem d_M_outside_20 : decode b_M_outside 20 = .ok (.goto (4), 3) := by decide +kernel
theorem d_M_outside_23 : decode b_M_outside 23 = .ok (.iconst 0, 1) := by decide +kernel
theorem d_M_outside_24 : decode b_M_outside 24 = .ok (.ireturn, 1) := by decide +kernel
theorem d_M_flip_0 : decode b_M_flip 0 = .ok (.iload_n 1, 1) := by decide +kernel
theorem d_M_flip_1 : decode b_M_flip 1 = .ok (.iload_n 2, 1) := by decide +kernel
theorem d_M_flip_2 : decode b_M_flip 2 = .ok (.invokestatic 179, 3) := by decide +kernel
theorem d_M_flip_5 : decode b_M_flip 5 = .ok (.ifCond .ne (13), 3) := by decide +kernel
theorem d_M_flip_8 : decode b_M_flip 8 = .ok (.iload_n 3, 1) := by decide +kernel
theorem d_M_flip_9 : decode b_M_flip 9 = .ok (.ifCond .lt (9), 3) := by decide +kernel
theorem d_M_flip_12 : decode b_M_flip 12 = .ok (.iload_n 3, 1) := by decide +kernel
theorem d_M_flip_13 : decode b_M_flip 13 = .ok (.bipush 38, 2) := by decide +kernel
theorem d_M_flip_15 : decode b_M_flip 15 = .ok (.if_icmp .le (5), 3) := by decide +kernel
theorem d_M_flip_18 : decode b_M_flip 18 = .ok (.iconst 0, 1) := by decide +kernel
theorem d_M_flip_19 : decode b_M_flip 19 = .ok (.ireturn, 1) := by decide +kernel
theorem d_M_flip_20 : decode b_M_flip 20 = .ok (.bipush 8, 2) := by decide +kernel
theorem d_M_flip_22 : decode b_M_flip 22 = .ok (.iload_n 1, 1) := by decide +kernel
theorem d_M_flip_23 : decode b_M_flip 23 = .ok (.imul, 1) := by decide +kernel
theorem d_M_flip_24 : decode b_M_flip 24 = .ok (.iload_n 2, 1) := by decide +kernel
theorem d_M_flip_25 : decode b_M_flip 25 = .ok (.iadd, 1) := by decide +kernel
theorem d_M_flip_26 : decode b_M_flip 26 = .ok (.istore 4, 2) := by decide +kernel
theorem d_M_flip_28 : decode b_M_flip 28 = .ok (.aload_n 0, 1) := by decide +kernel
theorem d_M_flip_29 : decode b_M_flip 29 = .ok (.getfield 44, 3) := by decide +kernel
theorem d_M_flip_32 : decode b_M_flip 32 = .ok (.iload_n 1, 1) := by decide +kernel
theorem d_M_flip_33 : decode b_M_flip 33 = .ok (.baload, 1) := by decide +kernel
theorem d_M_flip_34 : decode b_M_flip 34 = .ok (.ifCond .ne (23), 3) := by decide +kernel
theorem d_M_flip_37 : decode b_M_flip 37 = .ok (.aload_n 0, 1) := by decide +kernel
theorem d_M_flip_38 : decode b_M_flip 38 = .ok (.getfield 7, 3) := by decide +kernel
theorem d_M_flip_41 : decode b_M_flip 41 = .ok (.iload 4, 2) := by decide +kernel
theorem d_M_flip_43 : decode b_M_flip 43 = .ok (.iaload, 1) := by decide +kernel
theorem d_M_flip_44 : decode b_M_flip 44 = .ok (.ifCond .eq (13), 3) := by decide +kernel
theorem d_M_flip_47 : decode b_M_flip 47 = .ok (.aload_n 0, 1) := by decide +kernel
theorem d_M_flip_48 : decode b_M_flip 48 = .ok (.getfield 38, 3) := by decide +kernel
theorem d_M_flip_51 : decode b_M_flip 51 = .ok (.iload 4, 2) := by decide +kernel
theorem d_M_flip_53 : decode b_M_flip 53 = .ok (.iaload, 1) := by decide +kernel
theorem d_M_flip_54 : decode b_M_flip 54 = .ok (.ifCond .lt (5), 3) := by decide +kernel
theorem d_M_flip_57 : decode b_M_flip 57 = .ok (.iconst 0, 1) := by decide +kernel
theorem d_M_flip_58 : decode b_M_flip 58 = .ok (.ireturn, 1) := by decide +kernel
theorem d_M_flip_59 : decode b_M_flip 59 = .ok (.aload_n 0, 1) := by decide +kernel
theorem d_M_flip_60 : decode b_M_flip 60 = .ok (.getfield 35, 3) := by decide +kernel
theorem d_M_flip_63 : decode b_M_flip 63 = .ok (.iload 4, 2) := by decide +kernel
theorem d_M_flip_65 : decode b_M_flip 65 = .ok (.iaload, 1) := by decide +kernel
theorem d_M_flip_66 : decode b_M_flip 66 = .ok (.ifCond .ge (14), 3) := by decide +kernel
theorem d_M_flip_69 : decode b_M_flip 69 = .ok (.aload_n 0, 1) := by decide +kernel
theorem d_M_flip_70 : decode b_M_flip 70 = .ok (.getfield 35, 3) := by decide +kernel
theorem d_M_flip_73 : decode b_M_flip 73 = .ok (.iload 4, 2) := by decide +kernel
theorem d_M_flip_75 : decode b_M_flip 75 = .ok (.iload_n 3, 1) := by decide +kernel
theorem d_M_flip_76 : decode b_M_flip 76 = .ok (.iastore, 1) := by decide +kernel
theorem d_M_flip_77 : decode b_M_flip 77 = .ok (.goto (33), 3) := by decide +kernel
theorem d_M_flip_80 : decode b_M_flip 80 = .ok (.aload_n 0, 1) := by decide +kernel
theorem d_M_flip_81 : decode b_M_flip 81 = .ok (.getfield 35, 3) := by decide +kernel
theorem d_M_flip_84 : decode b_M_flip 84 = .ok (.iload 4, 2) := by decide +kernel
theorem d_M_flip_86 : decode b_M_flip 86 = .ok (.iaload, 1) := by decide +kernel
theorem d_M_flip_87 : decode b_M_flip 87 = .ok (.iload_n 3, 1) := by decide +kernel
theorem d_M_flip_88 : decode b_M_flip 88 = .ok (.if_icmp .ne (14), 3) := by decide +kernel
theorem d_M_flip_91 : decode b_M_flip 91 = .ok (.aload_n 0, 1) := by decide +kernel
theorem d_M_flip_92 : decode b_M_flip 92 = .ok (.getfield 35, 3) := by decide +kernel
theorem d_M_flip_95 : decode b_M_flip 95 = .ok (.iload 4, 2) := by decide +kernel
theorem d_M_flip_97 : decode b_M_flip 97 = .ok (.iconst (-1), 1) := by decide +kernel
theorem d_M_flip_98 : decode b_M_flip 98 = .ok (.iastore, 1) := by decide +kernel
theorem d_M_flip_99 : decode b_M_flip 99 = .ok (.goto (11), 3) := by decide +kernel
theorem d_M_flip_102 : decode b_M_flip 102 = .ok (.aload_n 0, 1) := by decide +kernel
theorem d_M_flip_103 : decode b_M_flip 103 = .ok (.getfield 38, 3) := by decide +kernel
theorem d_M_flip_106 : decode b_M_flip 106 = .ok (.iload 4, 2) := by decide +kernel
theorem d_M_flip_108 : decode b_M_flip 108 = .ok (.iload_n 3, 1) := by decide +kernel
theorem d_M_flip_109 : decode b_M_flip 109 = .ok (.iastore, 1) := by decide +kernel
theorem d_M_flip_110 : decode b_M_flip 110 = .ok (.iconst 1, 1) := by decide +kernel
theorem d_M_flip_111 : decode b_M_flip 111 = .ok (.ireturn, 1) := by decide +kernel
theorem d_M_wear_0 : decode b_M_wear 0 = .ok (.iload_n 1, 1) := by decide +kernel
theorem d_M_wear_1 : decode b_M_wear 1 = .ok (.iconst 0, 1) := by decide +kernel
theorem d_M_wear_2 : decode b_M_wear 2 = .ok (.invokestatic 179, 3) := by decide +kernel
theorem d_M_wear_5 : decode b_M_wear 5 = .ok (.ifCond .ne (21), 3) := by decide +kernel
theorem d_M_wear_8 : decode b_M_wear 8 = .ok (.aload_n 0, 1) := by decide +kernel
theorem d_M_wear_9 : decode b_M_wear 9 = .ok (.getfield 44, 3) := by decide +kernel
theorem d_M_wear_12 : decode b_M_wear 12 = .ok (.iload_n 1, 1) := by decide +kernel
theorem d_M_wear_13 : decode b_M_wear 13 = .ok (.baload, 1) := by decide +kernel
theorem d_M_wear_14 : decode b_M_wear 14 = .ok (.ifCond .ne (12), 3) := by decide +kernel
theorem d_M_wear_17 : decode b_M_wear 17 = .ok (.aload_n 0, 1) := by decide +kernel
theorem d_M_wear_18 : decode b_M_wear 18 = .ok (.getfield 47, 3) := by decide +kernel
theorem d_M_wear_21 : decode b_M_wear 21 = .ok (.iload_n 1, 1) := by decide +kernel
theorem d_M_wear_22 : decode b_M_wear 22 = .ok (.baload, 1) := by decide +kernel
theorem d_M_wear_23 : decode b_M_wear 23 = .ok (.ifCond .eq (5), 3) := by decide +kernel
theorem d_M_wear_26 : decode b_M_wear 26 = .ok (.iconst 0, 1) := by decide +kernel
theorem d_M_wear_27 : decode b_M_wear 27 = .ok (.ireturn, 1) := by decide +kernel
theorem d_M_wear_28 : decode b_M_wear 28 = .ok (.aload_n 0, 1) := by decide +kernel
theorem d_M_wear_29 : decode b_M_wear 29 = .ok (.getfield 47, 3) := by decide +kernel
theorem d_M_wear_32 : decode b_M_wear 32 = .ok (.iload_n 1, 1) := by decide +kernel
theorem d_M_wear_33 : decode b_M_wear 33 = .ok (.iconst 1, 1) := by decide +kernel
theorem d_M_wear_34 : decode b_M_wear 34 = .ok (.bastore, 1) := by decide +kernel
theorem d_M_wear_35 : decode b_M_wear 35 = .ok (.iconst 1, 1) := by decide +kernel
theorem d_M_wear_36 : decode b_M_wear 36 = .ok (.ireturn, 1) := by decide +kernel
theorem d_M_tags_0 : decode b_M_tags 0 = .ok (.iload_n 1, 1) := by decide +kernel
theorem d_M_tags_1 : decode b_M_tags 1 = .ok (.iload_n 2, 1) := by decide +kernel
theorem d_M_tags_2 : decode b_M_tags 2 = .ok (.invokestatic 179, 3) := by decide +kernel
theorem d_M_tags_5 : decode b_M_tags 5 = .ok (.ifCond .eq (5), 3) := by decide +kernel
theorem d_M_tags_8 : decode b_M_tags 8 = .ok (.iconst (-1), 1) := by decide +kernel
theorem d_M_tags_9 : decode b_M_tags 9 = .ok (.ireturn, 1) := by decide +kernel
theorem d_M_tags_10 : decode b_M_tags 10 = .ok (.bipush 8, 2) := by decide +kernel
theorem d_M_tags_12 : decode b_M_tags 12 = .ok (.iload_n 1, 1) := by decide +kernel
theorem d_M_tags_13 : decode b_M_tags 13 = .ok (.imul, 1) := by decide +kernel
theorem d_M_tags_14 : decode b_M_tags 14 = .ok (.iload_n 2, 1) := by decide +kernel
theorem d_M_tags_15 : decode b_M_tags 15 = .ok (.iadd, 1) := by decide +kernel
theorem d_M_tags_16 : decode b_M_tags 16 = .ok (.istore_n 3, 1) := by decide +kernel
theorem d_M_tags_17 : decode b_M_tags 17 = .ok (.aload_n 0, 1) := by decide +kernel
theorem d_M_tags_18 : decode b_M_tags 18 = .ok (.getfield 7, 3) := by decide +kernel
theorem d_M_tags_21 : decode b_M_tags 21 = .ok (.iload_n 3, 1) := by decide +kernel
theorem d_M_tags_22 : decode b_M_tags 22 = .ok (.iaload, 1) := by decide +kernel
theorem d_M_tags_23 : decode b_M_tags 23 = .ok (.ifCond .ne (6), 3) := by decide +kernel
theorem d_M_tags_26 : decode b_M_tags 26 = .ok (.bipush (-2), 2) := by decide +kernel
theorem d_M_tags_28 : decode b_M_tags 28 = .ok (.ireturn, 1) := by decide +kernel
theorem d_M_tags_29 : decode b_M_tags 29 = .ok (.aload_n 0, 1) := by decide +kernel
theorem d_M_tags_30 : decode b_M_tags 30 = .ok (.getfield 13, 3) := by decide +kernel
theorem d_M_tags_33 : decode b_M_tags 33 = .ok (.iload_n 3, 1) := by decide +kernel
theorem d_M_tags_34 : decode b_M_tags 34 = .ok (.iaload, 1) := by decide +kernel
theorem d_M_tags_35 : decode b_M_tags 35 = .ok (.bipush 8, 2) := by decide +kernel
theorem d_M_tags_37 : decode b_M_tags 37 = .ok (.aload_n 0, 1) := by decide +kernel
theorem d_M_tags_38 : decode b_M_tags 38 = .ok (.getfield 16, 3) := by decide +kernel
theorem d_M_tags_41 : decode b_M_tags 41 = .ok (.iload_n 3, 1) := by decide +kernel
theorem d_M_tags_42 : decode b_M_tags 42 = .ok (.iaload, 1) := by decide +kernel
theorem d_M_tags_43 : decode b_M_tags 43 = .ok (.imul, 1) := by decide +kernel
theorem d_M_tags_44 : decode b_M_tags 44 = .ok (.iadd, 1) := by decide +kernel
theorem d_M_tags_45 : decode b_M_tags 45 = .ok (.bipush 64, 2) := by decide +kernel
theorem d_M_tags_47 : decode b_M_tags 47 = .ok (.aload_n 0, 1) := by decide +kernel
theorem d_M_tags_48 : decode b_M_tags 48 = .ok (.getfield 19, 3) := by decide +kernel
theorem d_M_tags_51 : decode b_M_tags 51 = .ok (.iload_n 3, 1) := by decide +kernel
theorem d_M_tags_52 : decode b_M_tags 52 = .ok (.iaload, 1) := by decide +kernel
theorem d_M_tags_53 : decode b_M_tags 53 = .ok (.imul, 1) := by decide +kernel
theorem d_M_tags_54 : decode b_M_tags 54 = .ok (.iadd, 1) := by decide +kernel
theorem d_M_tags_55 : decode b_M_tags 55 = .ok (.sipush 512, 3) := by decide +kernel
theorem d_M_tags_58 : decode b_M_tags 58 = .ok (.aload_n 0, 1) := by decide +kernel
theorem d_M_tags_59 : decode b_M_tags 59 = .ok (.getfield 25, 3) := by decide +kernel
theorem d_M_tags_62 : decode b_M_tags 62 = .ok (.iload_n 3, 1) := by decide +kernel
theorem d_M_tags_63 : decode b_M_tags 63 = .ok (.iaload, 1) := by decide +kernel
theorem d_M_tags_64 : decode b_M_tags 64 = .ok (.imul, 1) := by decide +kernel
theorem d_M_tags_65 : decode b_M_tags 65 = .ok (.iadd, 1) := by decide +kernel
theorem d_M_tags_66 : decode b_M_tags 66 = .ok (.sipush 4096, 3) := by decide +kernel
theorem d_M_tags_69 : decode b_M_tags 69 = .ok (.aload_n 0, 1) := by decide +kernel
theorem d_M_tags_70 : decode b_M_tags 70 = .ok (.getfield 28, 3) := by decide +kernel
theorem d_M_tags_73 : decode b_M_tags 73 = .ok (.iload_n 3, 1) := by decide +kernel
theorem d_M_tags_74 : decode b_M_tags 74 = .ok (.iaload, 1) := by decide +kernel
theorem d_M_tags_75 : decode b_M_tags 75 = .ok (.imul, 1) := by decide +kernel
theorem d_M_tags_76 : decode b_M_tags 76 = .ok (.iadd, 1) := by decide +kernel
theorem d_M_tags_77 : decode b_M_tags 77 = .ok (.istore 4, 2) := by decide +kernel
theorem d_M_tags_79 : decode b_M_tags 79 = .ok (.iload 4, 2) := by decide +kernel
theorem d_M_tags_81 : decode b_M_tags 81 = .ok (.aload_n 0, 1) := by decide +kernel
theorem d_M_tags_82 : decode b_M_tags 82 = .ok (.getfield 7, 3) := by decide +kernel
theorem d_M_tags_85 : decode b_M_tags 85 = .ok (.iload_n 3, 1) := by decide +kernel
theorem d_M_tags_86 : decode b_M_tags 86 = .ok (.iaload, 1) := by decide +kernel
theorem d_M_tags_87 : decode b_M_tags 87 = .ok (.iconst 2, 1) := by decide +kernel
theorem d_M_tags_88 : decode b_M_tags 88 = .ok (.if_icmp .ne (9), 3) := by decide +kernel
theorem d_M_tags_91 : decode b_M_tags 91 = .ok (.sipush 256, 3) := by decide +kernel
theorem d_M_tags_94 : decode b_M_tags 94 = .ok (.goto (4), 3) := by decide +kernel
theorem d_M_tags_97 : decode b_M_tags 97 = .ok (.iconst 0, 1) := by decide +kernel
theorem d_M_tags_98 : decode b_M_tags 98 = .ok (.iadd, 1) := by decide +kernel
theorem d_M_tags_99 : decode b_M_tags 99 = .ok (.aload_n 0, 1) := by decide +kernel
theorem d_M_tags_100 : decode b_M_tags 100 = .ok (.getfield 31, 3) := by decide +kernel
theorem d_M_tags_103 : decode b_M_tags 103 = .ok (.iload_n 3, 1) := by decide +kernel
theorem d_M_tags_104 : decode b_M_tags 104 = .ok (.baload, 1) := by decide +kernel
theorem d_M_tags_105 : decode b_M_tags 105 = .ok (.ifCond .eq (8), 3) := by decide +kernel
theorem d_M_tags_108 : decode b_M_tags 108 = .ok (.ldc 182, 2) := by decide +kernel
theorem d_M_tags_110 : decode b_M_tags 110 = .ok (.goto (4), 3) := by decide +kernel
theorem d_M_tags_113 : decode b_M_tags 113 = .ok (.iconst 0, 1) := by decide +kernel
theorem d_M_tags_114 : decode b_M_tags 114 = .ok (.iadd, 1) := by decide +kernel
theorem d_M_tags_115 : decode b_M_tags 115 = .ok (.ireturn, 1) := by decide +kernel
theorem d_M_erases_0 : decode b_M_erases 0 = .ok (.iload_n 1, 1) := by decide +kernel
theorem d_M_erases_1 : decode b_M_erases 1 = .ok (.iconst 0, 1) := by decide +kernel
theorem d_M_erases_2 : decode b_M_erases 2 = .ok (.invokestatic 179, 3) := by decide +kernel
theorem d_M_erases_5 : decode b_M_erases 5 = .ok (.ifCond .eq (7), 3) := by decide +kernel
theorem d_M_erases_8 : decode b_M_erases 8 = .ok (.iconst (-1), 1) := by decide +kernel
theorem d_M_erases_9 : decode b_M_erases 9 = .ok (.goto (26), 3) := by decide +kernel
theorem d_M_erases_12 : decode b_M_erases 12 = .ok (.iconst 2, 1) := by decide +kernel
theorem d_M_erases_13 : decode b_M_erases 13 = .ok (.aload_n 0, 1) := by decide +kernel
theorem d_M_erases_14 : decode b_M_erases 14 = .ok (.getfield 53, 3) := by decide +kernel
theorem d_M_erases_17 : decode b_M_erases 17 = .ok (.iload_n 1, 1) := by decide +kernel
theorem d_M_erases_18 : decode b_M_erases 18 = .ok (.iaload, 1) := by decide +kernel
theorem d_M_erases_19 : decode b_M_erases 19 = .ok (.imul, 1) := by decide +kernel
theorem d_M_erases_20 : decode b_M_erases 20 = .ok (.aload_n 0, 1) := by decide +kernel
theorem d_M_erases_21 : decode b_M_erases 21 = .ok (.getfield 44, 3) := by decide +kernel
theorem d_M_erases_24 : decode b_M_erases 24 = .ok (.iload_n 1, 1) := by decide +kernel
theorem d_M_erases_25 : decode b_M_erases 25 = .ok (.baload, 1) := by decide +kernel
theorem d_M_erases_26 : decode b_M_erases 26 = .ok (.ifCond .eq (7), 3) := by decide +kernel
theorem d_M_erases_29 : decode b_M_erases 29 = .ok (.iconst 1, 1) := by decide +kernel
theorem d_M_erases_30 : decode b_M_erases 30 = .ok (.goto (4), 3) := by decide +kernel
theorem d_M_erases_33 : decode b_M_erases 33 = .ok (.iconst 0, 1) := by decide +kernel
theorem d_M_erases_34 : decode b_M_erases 34 = .ok (.iadd, 1) := by decide +kernel
theorem d_M_erases_35 : decode b_M_erases 35 = .ok (.ireturn, 1) := by decide +kernel
end
section
theorem d_M_steps_0 : decode b_M_steps 0 = .ok (.aload_n 0, 1) := by decide +kernel
theorem d_M_steps_1 : decode b_M_steps 1 = .ok (.getfield 64, 3) := by decide +kernel
theorem d_M_steps_4 : decode b_M_steps 4 = .ok (.ireturn, 1) := by decide +kernel
end
section
abbrev wC (g : Nat → ClassId) (a : Nat → Nat) (S : TC) : va_W := [(a 0, .inr (0, [.ref (a 1), .ref (a 10), .int (S.1 0 0)])), (a 1, .inr (1, [.ref (a 2), .ref (a 3), .ref (a 4), .ref (a 5), .ref (a 6), .ref (a 7), .ref (a 8), .ref (a 9), .int (S.1 1 0), .int (S.1 1 1), .int (S.1 1 2)])), (a 2, .inl (g 2, 48, .inl (S.1 2))), (a 3, .inl (g 3, 48, .inl (S.1 3))), (a 4, .inl (g 4, 48, .inr (.inl S.2))), (a 5, .inl (g 5, 6, .inl (S.1 5))), (a 6, .inl (g 6, 6, .inl (S.1 6))), (a 7, .inl (g 7, 6, .inl (S.1 7))), (a 8, .inl (g 8, 6, .inl (S.1 8))), (a 9, .inl (g 9, 6, .inl (S.1 9))), (a 10, .inl (g 10, 48, .inl (S.1 10)))]
abbrev tyC (g : Nat → ClassId) : List (ClassId × FieldType) := [(g 2, .int), (g 3, .int), (g 4, .long), (g 5, .int), (g 6, .int), (g 7, .boolean), (g 8, .boolean), (g 9, .boolean), (g 10, .boolean)]
abbrev wR (g : Nat → ClassId) (r : Nat → Nat) (S : TR) : va_W := [(r 0, .inr (2, [.ref (r 1), .ref (r 2), .ref (r 3), .ref (r 4), .ref (r 5), .ref (r 6), .ref (r 7), .ref (r 8), .ref (r 9), .ref (r 10), .ref (r 11), .ref (r 12), .ref (r 13), .ref (r 14), .ref (r 15), .int (S 0 0), .int (S 0 1), .int (S 0 2), .int (S 0 3), .int (S 0 4), .int (S 0 5), .int (S 0 6), .int (S 0 7), .int (S 0 8), .int (S 0 9), .int (S 0 10), .int (S 0 11)])), (r 1, .inl (g 1, 48, .inl (S 1))), (r 2, .inl (g 2, 48, .inl (S 2))), (r 3, .inl (g 3, 48, .inl (S 3))), (r 4, .inl (g 4, 48, .inl (S 4))), (r 5, .inl (g 5, 48, .inl (S 5))), (r 6, .inl (g 6, 48, .inl (S 6))), (r 7, .inl (g 7, 48, .inl (S 7))), (r 8, .inl (g 8, 48, .inl (S 8))), (r 9, .inl (g 9, 48, .inl (S 9))), (r 10, .inl (g 10, 48, .inl (S 10))), (r 11, .inl (g 11, 48, .inl (S 11))), (r 12, .inl (g 12, 6, .inl (S 12))), (r 13, .inl (g 13, 6, .inl (S 13))), (r 14, .inl (g 14, 6, .inl (S 14))), (r 15, .inl (g 15, 6, .inl (S 15)))]
abbrev tyR (g : Nat → ClassId) : List (ClassId × FieldType) := [(g 1, .int), (g 2, .int), (g 3, .int), (g 4, .int), (g 5, .int), (g 6, .int), (g 7, .int), (g 8, .boolean), (g 9, .int), (g 10, .int), (g 11, .boolean), (g 12, .boolean), (g 13, .boolean), (g 14, .boolean), (g 15, .int)]
section ROWS
variable {l : Launch} {D : va_G} {g : Nat → ClassId} {a r : Nat → Nat} {rm : Room} {b : ByteArray} {nL : Nat} {ret : Option FieldType} {pc q : Nat} {Lc : List (Nat × Value)} {St : List Value}
section ROWSC
variable {S S1 : TC} {Post : Option Value → TC → Prop}
theorem gf_C_9 (hd : decode b pc = .ok (.getfield 9, 3)) (hq : pc + 3 = q) (k : Ok (wC g a) D (tyC g) l rm R_C b nL ret S q Lc (.ref (a 2) :: St) Post) : Ok (wC g a) D (tyC g) l rm R_C b nL ret S pc Lc (.ref (a 1) :: St) Post := by
  subst hq
  intro p e s m args below meth c A H locs ls hF hY
  exact va_get (D := D) (ci := 1) (v := .ref (a 2)) (C := R_C) (T := F_C) (N := 11) hF.1.1 hF.1.2.1 hF.1.2.2.2.2.2.2.1 us_C hF.1.2.2.2.2.2.1 hF.1.2.2.2.2.2.2.2 hY.1 1 rfl rfl 0 (by decide) (hF.1.2.2.2.2.2.2.1 _ wm_14) (fun _ h9 => h9) rfl hd (k p e s m args below meth c A H locs ls hF hY)
theorem gf_C_15 (hd : decode b pc = .ok (.getfield 15, 3)) (hq : pc + 3 = q) (k : Ok (wC g a) D (tyC g) l rm R_C b nL ret S q Lc (.ref (a 3) :: St) Post) : Ok (wC g a) D (tyC g) l rm R_C b nL ret S pc Lc (.ref (a 1) :: St) Post := by
  subst hq
  intro p e s m args below meth c A H locs ls hF hY
  exact va_get (D := D) (ci := 1) (v := .ref (a 3)) (C := R_C) (T := F_C) (N := 11) hF.1.1 hF.1.2.1 hF.1.2.2.2.2.2.2.1 us_C hF.1.2.2.2.2.2.1 hF.1.2.2.2.2.2.2.2 hY.1 1 rfl rfl 1 (by decide) (hF.1.2.2.2.2.2.2.1 _ wm_15) (fun _ h9 => h9) rfl hd (k p e s m args below meth c A H locs ls hF hY)
theorem gf_C_18 (hd : decode b pc = .ok (.getfield 18, 3)) (hq : pc + 3 = q) (k : Ok (wC g a) D (tyC g) l rm R_C b nL ret S q Lc (.ref (a 4) :: St) Post) : Ok (wC g a) D (tyC g) l rm R_C b nL ret S pc Lc (.ref (a 1) :: St) Post := by
  subst hq
  intro p e s m args below meth c A H locs ls hF hY
  exact va_get (D := D) (ci := 1) (v := .ref (a 4)) (C := R_C) (T := F_C) (N := 11) hF.1.1 hF.1.2.1 hF.1.2.2.2.2.2.2.1 us_C hF.1.2.2.2.2.2.1 hF.1.2.2.2.2.2.2.2 hY.1 1 rfl rfl 2 (by decide) (hF.1.2.2.2.2.2.2.1 _ wm_16) (fun _ h9 => h9) rfl hd (k p e s m args below meth c A H locs ls hF hY)
theorem gf_C_22 (hd : decode b pc = .ok (.getfield 22, 3)) (hq : pc + 3 = q) (k : Ok (wC g a) D (tyC g) l rm R_C b nL ret S q Lc (.ref (a 5) :: St) Post) : Ok (wC g a) D (tyC g) l rm R_C b nL ret S pc Lc (.ref (a 1) :: St) Post := by
  subst hq
  intro p e s m args below meth c A H locs ls hF hY
  exact va_get (D := D) (ci := 1) (v := .ref (a 5)) (C := R_C) (T := F_C) (N := 11) hF.1.1 hF.1.2.1 hF.1.2.2.2.2.2.2.1 us_C hF.1.2.2.2.2.2.1 hF.1.2.2.2.2.2.2.2 hY.1 1 rfl rfl 3 (by decide) (hF.1.2.2.2.2.2.2.1 _ wm_17) (fun _ h9 => h9) rfl hd (k p e s m args below meth c A H locs ls hF hY)
theorem gf_C_25 (hd : decode b pc = .ok (.getfield 25, 3)) (hq : pc + 3 = q) (k : Ok (wC g a) D (tyC g) l rm R_C b nL ret S q Lc (.ref (a 6) :: St) Post) : Ok (wC g a) D (tyC g) l rm R_C b nL ret S pc Lc (.ref (a 1) :: St) Post := by
  subst hq
  intro p e s m args below meth c A H locs ls hF hY
  exact va_get (D := D) (ci := 1) (v := .ref (a 6)) (C := R_C) (T := F_C) (N := 11) hF.1.1 hF.1.2.1 hF.1.2.2.2.2.2.2.1 us_C hF.1.2.2.2.2.2.1 hF.1.2.2.2.2.2.2.2 hY.1 1 rfl rfl 4 (by decide) (hF.1.2.2.2.2.2.2.1 _ wm_18) (fun _ h9 => h9) rfl hd (k p e s m args below meth c A H locs ls hF hY)
theorem gf_C_28 (hd : decode b pc = .ok (.getfield 28, 3)) (hq : pc + 3 = q) (k : Ok (wC g a) D (tyC g) l rm R_C b nL ret S q Lc (.ref (a 7) :: St) Post) : Ok (wC g a) D (tyC g) l rm R_C b nL ret S pc Lc (.ref (a 1) :: St) Post := by
  subst hq
  intro p e s m args below meth c A H locs ls hF hY
  exact va_get (D := D) (ci := 1) (v := .ref (a 7)) (C := R_C) (T := F_C) (N := 11) hF.1.1 hF.1.2.1 hF.1.2.2.2.2.2.2.1 us_C hF.1.2.2.2.2.2.1 hF.1.2.2.2.2.2.2.2 hY.1 1 rfl rfl 5 (by decide) (hF.1.2.2.2.2.2.2.1 _ wm_19) (fun _ h9 => h9) rfl hd (k p e s m args below meth c A H locs ls hF hY)
theorem gf_C_32 (hd : decode b pc = .ok (.getfield 32, 3)) (hq : pc + 3 = q) (k : Ok (wC g a) D (tyC g) l rm R_C b nL ret S q Lc (.ref (a 8) :: St) Post) : Ok (wC g a) D (tyC g) l rm R_C b nL ret S pc Lc (.ref (a 1) :: St) Post := by
  subst hq
  intro p e s m args below meth c A H locs ls hF hY
  exact va_get (D := D) (ci := 1) (v := .ref (a 8)) (C := R_C) (T := F_C) (N := 11) hF.1.1 hF.1.2.1 hF.1.2.2.2.2.2.2.1 us_C hF.1.2.2.2.2.2.1 hF.1.2.2.2.2.2.2.2 hY.1 1 rfl rfl 6 (by decide) (hF.1.2.2.2.2.2.2.1 _ wm_20) (fun _ h9 => h9) rfl hd (k p e s m args below meth c A H locs ls hF hY)
theorem gf_C_35 (hd : decode b pc = .ok (.getfield 35, 3)) (hq : pc + 3 = q) (k : Ok (wC g a) D (tyC g) l rm R_C b nL ret S q Lc (.ref (a 9) :: St) Post) : Ok (wC g a) D (tyC g) l rm R_C b nL ret S pc Lc (.ref (a 1) :: St) Post := by
  subst hq
  intro p e s m args below meth c A H locs ls hF hY
  exact va_get (D := D) (ci := 1) (v := .ref (a 9)) (C := R_C) (T := F_C) (N := 11) hF.1.1 hF.1.2.1 hF.1.2.2.2.2.2.2.1 us_C hF.1.2.2.2.2.2.1 hF.1.2.2.2.2.2.2.2 hY.1 1 rfl rfl 7 (by decide) (hF.1.2.2.2.2.2.2.1 _ wm_21) (fun _ h9 => h9) rfl hd (k p e s m args below meth c A H locs ls hF hY)
theorem gf_C_42 {x : Int32} (hx : x = S.1 1 1) (hd : decode b pc = .ok (.getfield 42, 3)) (hq : pc + 3 = q) (k : Ok (wC g a) D (tyC g) l rm R_C b nL ret S q Lc (.int x :: St) Post) : Ok (wC g a) D (tyC g) l rm R_C b nL ret S pc Lc (.ref (a 1) :: St) Post := by
  subst hq; subst hx
  intro p e s m args below meth c A H locs ls hF hY
  exact va_get (D := D) (ci := 1) (v := .int (S.1 1 1)) (C := R_C) (T := F_C) (N := 11) hF.1.1 hF.1.2.1 hF.1.2.2.2.2.2.2.1 us_C hF.1.2.2.2.2.2.1 hF.1.2.2.2.2.2.2.2 hY.1 1 rfl rfl 9 (by decide) (hF.1.2.2.2.2.2.2.1 _ wm_22) (fun _ h9 => h9) rfl hd (k p e s m args below meth c A H locs ls hF hY)
theorem gf_C_46 {x : Int32} (hx : x = S.1 1 2) (hd : decode b pc = .ok (.getfield 46, 3)) (hq : pc + 3 = q) (k : Ok (wC g a) D (tyC g) l rm R_C b nL ret S q Lc (.int x :: St) Post) : Ok (wC g a) D (tyC g) l rm R_C b nL ret S pc Lc (.ref (a 1) :: St) Post := by
  subst hq; subst hx
  intro p e s m args below meth c A H locs ls hF hY
  exact va_get (D := D) (ci := 1) (v := .int (S.1 1 2)) (C := R_C) (T := F_C) (N := 11) hF.1.1 hF.1.2.1 hF.1.2.2.2.2.2.2.1 us_C hF.1.2.2.2.2.2.1 hF.1.2.2.2.2.2.2.2 hY.1 1 rfl rfl 10 (by decide) (hF.1.2.2.2.2.2.2.1 _ wm_23) (fun _ h9 => h9) rfl hd (k p e s m args below meth c A H locs ls hF hY)
theorem gf_S_12 (hd : decode b pc = .ok (.getfield 12, 3)) (hq : pc + 3 = q) (k : Ok (wC g a) D (tyC g) l rm R_S b nL ret S q Lc (.ref (a 1) :: St) Post) : Ok (wC g a) D (tyC g) l rm R_S b nL ret S pc Lc (.ref (a 0) :: St) Post := by
  subst hq
  intro p e s m args below meth c A H locs ls hF hY
  exact va_get (D := D) (ci := 0) (v := .ref (a 1)) (C := R_S) (T := F_S) (N := 3) hF.1.1 hF.1.2.1 hF.1.2.2.2.2.2.2.1 us_S hF.1.2.2.2.2.2.1 hF.1.2.2.2.2.2.2.2 hY.1 0 rfl rfl 0 (by decide) (hF.1.2.2.2.2.2.2.1 _ wm_24) (fun _ h9 => h9) rfl hd (k p e s m args below meth c A H locs ls hF hY)
theorem gf_S_16 (hd : decode b pc = .ok (.getfield 16, 3)) (hq : pc + 3 = q) (k : Ok (wC g a) D (tyC g) l rm R_S b nL ret S q Lc (.ref (a 10) :: St) Post) : Ok (wC g a) D (tyC g) l rm R_S b nL ret S pc Lc (.ref (a 0) :: St) Post := by
  subst hq
  intro p e s m args below meth c A H locs ls hF hY
  exact va_get (D := D) (ci := 0) (v := .ref (a 10)) (C := R_S) (T := F_S) (N := 3) hF.1.1 hF.1.2.1 hF.1.2.2.2.2.2.2.1 us_S hF.1.2.2.2.2.2.1 hF.1.2.2.2.2.2.2.2 hY.1 0 rfl rfl 1 (by decide) (hF.1.2.2.2.2.2.2.1 _ wm_25) (fun _ h9 => h9) rfl hd (k p e s m args below meth c A H locs ls hF hY)
theorem gf_S_20 {x : Int32} (hx : x = S.1 0 0) (hd : decode b pc = .ok (.getfield 20, 3)) (hq : pc + 3 = q) (k : Ok (wC g a) D (tyC g) l rm R_S b nL ret S q Lc (.int x :: St) Post) : Ok (wC g a) D (tyC g) l rm R_S b nL ret S pc Lc (.ref (a 0) :: St) Post := by
  subst hq; subst hx
  intro p e s m args below meth c A H locs ls hF hY
  exact va_get (D := D) (ci := 0) (v := .int (S.1 0 0)) (C := R_S) (T := F_S) (N := 3) hF.1.1 hF.1.2.1 hF.1.2.2.2.2.2.2.1 us_S hF.1.2.2.2.2.2.1 hF.1.2.2.2.2.2.2.2 hY.1 0 rfl rfl 2 (by decide) (hF.1.2.2.2.2.2.2.1 _ wm_26) (fun _ h9 => h9) rfl hd (k p e s m args below meth c A H locs ls hF hY)
theorem gf_S_117 {x : Int32} (hx : x = S.1 1 0) (hd : decode b pc = .ok (.getfield 117, 3)) (hq : pc + 3 = q) (k : Ok (wC g a) D (tyC g) l rm R_S b nL ret S q Lc (.int x :: St) Post) : Ok (wC g a) D (tyC g) l rm R_S b nL ret S pc Lc (.ref (a 1) :: St) Post := by
  subst hq; subst hx
  intro p e s m args below meth c A H locs ls hF hY
  exact va_get (D := D) (ci := 1) (v := .int (S.1 1 0)) (C := R_C) (T := F_C) (N := 11) hF.1.1 hF.1.2.1 hF.1.2.2.2.2.2.2.1 us_C hF.1.2.2.2.2.2.1 hF.1.2.2.2.2.2.2.2 hY.1 1 rfl rfl 8 (by decide) (hF.1.2.2.2.2.2.2.1 _ wm_27) (fun _ h9 => h9) rfl hd (k p e s m args below meth c A H locs ls hF hY)
theorem gf_S_145 (hd : decode b pc = .ok (.getfield 145, 3)) (hq : pc + 3 = q) (k : Ok (wC g a) D (tyC g) l rm R_S b nL ret S q Lc (.ref (a 8) :: St) Post) : Ok (wC g a) D (tyC g) l rm R_S b nL ret S pc Lc (.ref (a 1) :: St) Post := by
  subst hq
  intro p e s m args below meth c A H locs ls hF hY
  exact va_get (D := D) (ci := 1) (v := .ref (a 8)) (C := R_C) (T := F_C) (N := 11) hF.1.1 hF.1.2.1 hF.1.2.2.2.2.2.2.1 us_C hF.1.2.2.2.2.2.1 hF.1.2.2.2.2.2.2.2 hY.1 1 rfl rfl 6 (by decide) (hF.1.2.2.2.2.2.2.1 _ wm_28) (fun _ h9 => h9) rfl hd (k p e s m args below meth c A H locs ls hF hY)
theorem gf_S_148 (hd : decode b pc = .ok (.getfield 148, 3)) (hq : pc + 3 = q) (k : Ok (wC g a) D (tyC g) l rm R_S b nL ret S q Lc (.ref (a 7) :: St) Post) : Ok (wC g a) D (tyC g) l rm R_S b nL ret S pc Lc (.ref (a 1) :: St) Post := by
  subst hq
  intro p e s m args below meth c A H locs ls hF hY
  exact va_get (D := D) (ci := 1) (v := .ref (a 7)) (C := R_C) (T := F_C) (N := 11) hF.1.1 hF.1.2.1 hF.1.2.2.2.2.2.2.1 us_C hF.1.2.2.2.2.2.1 hF.1.2.2.2.2.2.2.2 hY.1 1 rfl rfl 5 (by decide) (hF.1.2.2.2.2.2.2.1 _ wm_29) (fun _ h9 => h9) rfl hd (k p e s m args below meth c A H locs ls hF hY)
theorem gf_S_154 (hd : decode b pc = .ok (.getfield 154, 3)) (hq : pc + 3 = q) (k : Ok (wC g a) D (tyC g) l rm R_S b nL ret S q Lc (.ref (a 2) :: St) Post) : Ok (wC g a) D (tyC g) l rm R_S b nL ret S pc Lc (.ref (a 1) :: St) Post := by
  subst hq
  intro p e s m args below meth c A H locs ls hF hY
  exact va_get (D := D) (ci := 1) (v := .ref (a 2)) (C := R_C) (T := F_C) (N := 11) hF.1.1 hF.1.2.1 hF.1.2.2.2.2.2.2.1 us_C hF.1.2.2.2.2.2.1 hF.1.2.2.2.2.2.2.2 hY.1 1 rfl rfl 0 (by decide) (hF.1.2.2.2.2.2.2.1 _ wm_30) (fun _ h9 => h9) rfl hd (k p e s m args below meth c A H locs ls hF hY)
theorem gf_S_161 (hd : decode b pc = .ok (.getfield 161, 3)) (hq : pc + 3 = q) (k : Ok (wC g a) D (tyC g) l rm R_S b nL ret S q Lc (.ref (a 6) :: St) Post) : Ok (wC g a) D (tyC g) l rm R_S b nL ret S pc Lc (.ref (a 1) :: St) Post := by
  subst hq
  intro p e s m args below meth c A H locs ls hF hY
  exact va_get (D := D) (ci := 1) (v := .ref (a 6)) (C := R_C) (T := F_C) (N := 11) hF.1.1 hF.1.2.1 hF.1.2.2.2.2.2.2.1 us_C hF.1.2.2.2.2.2.1 hF.1.2.2.2.2.2.2.2 hY.1 1 rfl rfl 4 (by decide) (hF.1.2.2.2.2.2.2.1 _ wm_31) (fun _ h9 => h9) rfl hd (k p e s m args below meth c A H locs ls hF hY)
theorem gf_S_164 {x : Int32} (hx : x = S.1 1 1) (hd : decode b pc = .ok (.getfield 164, 3)) (hq : pc + 3 = q) (k : Ok (wC g a) D (tyC g) l rm R_S b nL ret S q Lc (.int x :: St) Post) : Ok (wC g a) D (tyC g) l rm R_S b nL ret S pc Lc (.ref (a 1) :: St) Post := by
  subst hq; subst hx
  intro p e s m args below meth c A H locs ls hF hY
  exact va_get (D := D) (ci := 1) (v := .int (S.1 1 1)) (C := R_C) (T := F_C) (N := 11) hF.1.1 hF.1.2.1 hF.1.2.2.2.2.2.2.1 us_C hF.1.2.2.2.2.2.1 hF.1.2.2.2.2.2.2.2 hY.1 1 rfl rfl 9 (by decide) (hF.1.2.2.2.2.2.2.1 _ wm_32) (fun _ h9 => h9) rfl hd (k p e s m args below meth c A H locs ls hF hY)
theorem gf_S_191 (hd : decode b pc = .ok (.getfield 191, 3)) (hq : pc + 3 = q) (k : Ok (wC g a) D (tyC g) l rm R_S b nL ret S q Lc (.ref (a 4) :: St) Post) : Ok (wC g a) D (tyC g) l rm R_S b nL ret S pc Lc (.ref (a 1) :: St) Post := by
  subst hq
  intro p e s m args below meth c A H locs ls hF hY
  exact va_get (D := D) (ci := 1) (v := .ref (a 4)) (C := R_C) (T := F_C) (N := 11) hF.1.1 hF.1.2.1 hF.1.2.2.2.2.2.2.1 us_C hF.1.2.2.2.2.2.1 hF.1.2.2.2.2.2.2.2 hY.1 1 rfl rfl 2 (by decide) (hF.1.2.2.2.2.2.2.1 _ wm_33) (fun _ h9 => h9) rfl hd (k p e s m args below meth c A H locs ls hF hY)
theorem gf_S_195 (hd : decode b pc = .ok (.getfield 195, 3)) (hq : pc + 3 = q) (k : Ok (wC g a) D (tyC g) l rm R_S b nL ret S q Lc (.ref (a 3) :: St) Post) : Ok (wC g a) D (tyC g) l rm R_S b nL ret S pc Lc (.ref (a 1) :: St) Post := by
  subst hq
  intro p e s m args below meth c A H locs ls hF hY
  exact va_get (D := D) (ci := 1) (v := .ref (a 3)) (C := R_C) (T := F_C) (N := 11) hF.1.1 hF.1.2.1 hF.1.2.2.2.2.2.2.1 us_C hF.1.2.2.2.2.2.1 hF.1.2.2.2.2.2.2.2 hY.1 1 rfl rfl 1 (by decide) (hF.1.2.2.2.2.2.2.1 _ wm_34) (fun _ h9 => h9) rfl hd (k p e s m args below meth c A H locs ls hF hY)
theorem gf_S_210 (hd : decode b pc = .ok (.getfield 210, 3)) (hq : pc + 3 = q) (k : Ok (wC g a) D (tyC g) l rm R_S b nL ret S q Lc (.ref (a 5) :: St) Post) : Ok (wC g a) D (tyC g) l rm R_S b nL ret S pc Lc (.ref (a 1) :: St) Post := by
  subst hq
  intro p e s m args below meth c A H locs ls hF hY
  exact va_get (D := D) (ci := 1) (v := .ref (a 5)) (C := R_C) (T := F_C) (N := 11) hF.1.1 hF.1.2.1 hF.1.2.2.2.2.2.2.1 us_C hF.1.2.2.2.2.2.1 hF.1.2.2.2.2.2.2.2 hY.1 1 rfl rfl 3 (by decide) (hF.1.2.2.2.2.2.2.1 _ wm_35) (fun _ h9 => h9) rfl hd (k p e s m args below meth c A H locs ls hF hY)
theorem pf_C_38 {x : Int32} (hx : S1 = fc S 1 0 x) (hb : isB x) (hd : decode b pc = .ok (.putfield 38, 3)) (hq : pc + 3 = q) (k : Ok (wC g a) D (tyC g) l rm R_C b nL ret S1 q Lc (St) Post) : Ok (wC g a) D (tyC g) l rm R_C b nL ret S pc Lc (.int x :: .ref (a 1) :: St) Post := by
  subst hq; subst hx
  intro p e s m args below meth c A H locs ls hF hY
  exact va_put (D := D) (ci := 1) (v := .int x) (ty := .boolean) (C := R_C) (T := F_C) (N := 11) hF.1.1 hF.1.2.1 hF.1.2.2.2.2.2.2.1 us_C t_C t_C_ok n_C hF.1.2.2.2.2.2.1 hF.1.2.2.2.2.2.2.2 hY.1 hY.2.1 hY.2.2.1 1 rfl rfl 8 (by decide) (hF.1.2.2.2.2.2.2.1 _ wm_36) (fun _ h9 => h9) rfl (by decide +kernel) (ib_nar hb) (ib_fit hb) (Nat.le_of_ble_eq_true rfl) hd (fun H1 locs1 hP1 hD1 hS1 => k p e s m args below meth c A H1 locs1 ls hF ⟨hP1, hD1, hS1, hY.2.2.2⟩)
theorem pf_C_42 {x : Int32} (hx : S1 = fc S 1 1 x) (hd : decode b pc = .ok (.putfield 42, 3)) (hq : pc + 3 = q) (k : Ok (wC g a) D (tyC g) l rm R_C b nL ret S1 q Lc (St) Post) : Ok (wC g a) D (tyC g) l rm R_C b nL ret S pc Lc (.int x :: .ref (a 1) :: St) Post := by
  subst hq; subst hx
  intro p e s m args below meth c A H locs ls hF hY
  exact va_put (D := D) (ci := 1) (v := .int x) (ty := .int) (C := R_C) (T := F_C) (N := 11) hF.1.1 hF.1.2.1 hF.1.2.2.2.2.2.2.1 us_C t_C t_C_ok n_C hF.1.2.2.2.2.2.1 hF.1.2.2.2.2.2.2.2 hY.1 hY.2.1 hY.2.2.1 1 rfl rfl 9 (by decide) (hF.1.2.2.2.2.2.2.1 _ wm_22) (fun _ h9 => h9) rfl (by decide +kernel) rfl rfl (Nat.le_of_ble_eq_true rfl) hd (fun H1 locs1 hP1 hD1 hS1 => k p e s m args below meth c A H1 locs1 ls hF ⟨hP1, hD1, hS1, hY.2.2.2⟩)
theorem pf_C_46 {x : Int32} (hx : S1 = fc S 1 2 x) (hd : decode b pc = .ok (.putfield 46, 3)) (hq : pc + 3 = q) (k : Ok (wC g a) D (tyC g) l rm R_C b nL ret S1 q Lc (St) Post) : Ok (wC g a) D (tyC g) l rm R_C b nL ret S pc Lc (.int x :: .ref (a 1) :: St) Post := by
  subst hq; subst hx
  intro p e s m args below meth c A H locs ls hF hY
  exact va_put (D := D) (ci := 1) (v := .int x) (ty := .int) (C := R_C) (T := F_C) (N := 11) hF.1.1 hF.1.2.1 hF.1.2.2.2.2.2.2.1 us_C t_C t_C_ok n_C hF.1.2.2.2.2.2.1 hF.1.2.2.2.2.2.2.2 hY.1 hY.2.1 hY.2.2.1 1 rfl rfl 10 (by decide) (hF.1.2.2.2.2.2.2.1 _ wm_23) (fun _ h9 => h9) rfl (by decide +kernel) rfl rfl (Nat.le_of_ble_eq_true rfl) hd (fun H1 locs1 hP1 hD1 hS1 => k p e s m args below meth c A H1 locs1 ls hF ⟨hP1, hD1, hS1, hY.2.2.2⟩)
theorem pf_S_20 {x : Int32} (hx : S1 = fc S 0 0 x) (hb : isB x) (hd : decode b pc = .ok (.putfield 20, 3)) (hq : pc + 3 = q) (k : Ok (wC g a) D (tyC g) l rm R_S b nL ret S1 q Lc (St) Post) : Ok (wC g a) D (tyC g) l rm R_S b nL ret S pc Lc (.int x :: .ref (a 0) :: St) Post := by
  subst hq; subst hx
  intro p e s m args below meth c A H locs ls hF hY
  exact va_put (D := D) (ci := 0) (v := .int x) (ty := .boolean) (C := R_S) (T := F_S) (N := 3) hF.1.1 hF.1.2.1 hF.1.2.2.2.2.2.2.1 us_S t_S t_S_ok n_S hF.1.2.2.2.2.2.1 hF.1.2.2.2.2.2.2.2 hY.1 hY.2.1 hY.2.2.1 0 rfl rfl 2 (by decide) (hF.1.2.2.2.2.2.2.1 _ wm_26) (fun _ h9 => h9) rfl (by decide +kernel) (ib_nar hb) (ib_fit hb) (Nat.le_of_ble_eq_true rfl) hd (fun H1 locs1 hP1 hD1 hS1 => k p e s m args below meth c A H1 locs1 ls hF ⟨hP1, hD1, hS1, hY.2.2.2⟩)
theorem pf_S_132 {x : Int32} (hx : S1 = fc S 1 2 x) (hd : decode b pc = .ok (.putfield 132, 3)) (hq : pc + 3 = q) (k : Ok (wC g a) D (tyC g) l rm R_S b nL ret S1 q Lc (St) Post) : Ok (wC g a) D (tyC g) l rm R_S b nL ret S pc Lc (.int x :: .ref (a 1) :: St) Post := by
  subst hq; subst hx
  intro p e s m args below meth c A H locs ls hF hY
  exact va_put (D := D) (ci := 1) (v := .int x) (ty := .int) (C := R_C) (T := F_C) (N := 11) hF.1.1 hF.1.2.1 hF.1.2.2.2.2.2.2.1 us_C t_C t_C_ok n_C hF.1.2.2.2.2.2.1 hF.1.2.2.2.2.2.2.2 hY.1 hY.2.1 hY.2.2.1 1 rfl rfl 10 (by decide) (hF.1.2.2.2.2.2.2.1 _ wm_37) (fun _ h9 => h9) rfl (by decide +kernel) rfl rfl (Nat.le_of_ble_eq_true rfl) hd (fun H1 locs1 hP1 hD1 hS1 => k p e s m args below meth c A H1 locs1 ls hF ⟨hP1, hD1, hS1, hY.2.2.2⟩)
theorem al_C_2 {own : String} {j : Int32} {x : Int32} (hj : inB j 48) (hx : x = rc S 2 j) (hd : decode b pc = .ok (.iaload, 1)) (hq : pc + 1 = q) (k : Ok (wC g a) D (tyC g) l rm own b nL ret S q Lc (.int x :: St) Post) : Ok (wC g a) D (tyC g) l rm own b nL ret S pc Lc (.int j :: .ref (a 2) :: St) Post := by
  subst hq; subst hx
  intro p e s m args below meth c A H locs ls hF hY
  exact va_iald (D := D) hF.1.1 hF.1.2.1 hF.1.2.2.2.2.2.2.2 hY.1 2 0 rfl rfl (ib_in hj) hd (k p e s m args below meth c A H locs ls hF hY)
theorem as_C_2 {own : String} {j : Int32} {x : Int32} (hj : inB j 48) (hx : S1 = wc S 2 j x) (hd : decode b pc = .ok (.iastore, 1)) (hq : pc + 1 = q) (k : Ok (wC g a) D (tyC g) l rm own b nL ret S1 q Lc (St) Post) : Ok (wC g a) D (tyC g) l rm own b nL ret S pc Lc (.int x :: .int j :: .ref (a 2) :: St) Post := by
  subst hq; subst hx
  intro p e s m args below meth c A H locs ls hF hY
  exact va_iast (D := D) hF.1.1 hF.1.2.1 hF.1.2.2.2.2.2.2.2 hY.1 hY.2.1 hY.2.2.1 2 0 rfl rfl (ib_in hj) hd (fun H1 locs1 hP1 hD1 hS1 => k p e s m args below meth c A H1 locs1 ls hF ⟨hP1, hD1, hS1, hY.2.2.2⟩)
theorem al_C_3 {own : String} {j : Int32} {x : Int32} (hj : inB j 48) (hx : x = rc S 3 j) (hd : decode b pc = .ok (.iaload, 1)) (hq : pc + 1 = q) (k : Ok (wC g a) D (tyC g) l rm own b nL ret S q Lc (.int x :: St) Post) : Ok (wC g a) D (tyC g) l rm own b nL ret S pc Lc (.int j :: .ref (a 3) :: St) Post := by
  subst hq; subst hx
  intro p e s m args below meth c A H locs ls hF hY
  exact va_iald (D := D) hF.1.1 hF.1.2.1 hF.1.2.2.2.2.2.2.2 hY.1 3 1 rfl rfl (ib_in hj) hd (k p e s m args below meth c A H locs ls hF hY)
theorem as_C_3 {own : String} {j : Int32} {x : Int32} (hj : inB j 48) (hx : S1 = wc S 3 j x) (hd : decode b pc = .ok (.iastore, 1)) (hq : pc + 1 = q) (k : Ok (wC g a) D (tyC g) l rm own b nL ret S1 q Lc (St) Post) : Ok (wC g a) D (tyC g) l rm own b nL ret S pc Lc (.int x :: .int j :: .ref (a 3) :: St) Post := by
  subst hq; subst hx
  intro p e s m args below meth c A H locs ls hF hY
  exact va_iast (D := D) hF.1.1 hF.1.2.1 hF.1.2.2.2.2.2.2.2 hY.1 hY.2.1 hY.2.2.1 3 1 rfl rfl (ib_in hj) hd (fun H1 locs1 hP1 hD1 hS1 => k p e s m args below meth c A H1 locs1 ls hF ⟨hP1, hD1, hS1, hY.2.2.2⟩)
theorem al_C_4 {own : String} {j : Int32} {x : Int64} (hj : inB j 48) (hx : x = rl S j) (hd : decode b pc = .ok (.laload, 1)) (hq : pc + 1 = q) (k : Ok (wC g a) D (tyC g) l rm own b nL ret S q Lc (.long x :: St) Post) : Ok (wC g a) D (tyC g) l rm own b nL ret S pc Lc (.int j :: .ref (a 4) :: St) Post := by
  subst hq; subst hx
  intro p e s m args below meth c A H locs ls hF hY
  exact va_lald (D := D) hF.1.1 hF.1.2.1 hF.1.2.2.2.2.2.2.2 hY.1 4 2 rfl rfl (ib_in hj) hd (k p e s m args below meth c A H locs ls hF hY)
theorem as_C_4 {own : String} {j : Int32} {x : Int64} (hj : inB j 48) (hx : S1 = wl S j x) (hd : decode b pc = .ok (.lastore, 1)) (hq : pc + 1 = q) (k : Ok (wC g a) D (tyC g) l rm own b nL ret S1 q Lc (St) Post) : Ok (wC g a) D (tyC g) l rm own b nL ret S pc Lc (.long x :: .int j :: .ref (a 4) :: St) Post := by
  subst hq; subst hx
  intro p e s m args below meth c A H locs ls hF hY
  exact va_last (D := D) hF.1.1 hF.1.2.1 hF.1.2.2.2.2.2.2.2 hY.1 hY.2.1 hY.2.2.1 4 2 rfl rfl (ib_in hj) hd (fun H1 locs1 hP1 hD1 hS1 => k p e s m args below meth c A H1 locs1 ls hF ⟨hP1, hD1, hS1, hY.2.2.2⟩)
theorem al_C_5 {own : String} {j : Int32} {x : Int32} (hj : inB j 6) (hx : x = rc S 5 j) (hd : decode b pc = .ok (.iaload, 1)) (hq : pc + 1 = q) (k : Ok (wC g a) D (tyC g) l rm own b nL ret S q Lc (.int x :: St) Post) : Ok (wC g a) D (tyC g) l rm own b nL ret S pc Lc (.int j :: .ref (a 5) :: St) Post := by
  subst hq; subst hx
  intro p e s m args below meth c A H locs ls hF hY
  exact va_iald (D := D) hF.1.1 hF.1.2.1 hF.1.2.2.2.2.2.2.2 hY.1 5 3 rfl rfl (ib_in hj) hd (k p e s m args below meth c A H locs ls hF hY)
theorem as_C_5 {own : String} {j : Int32} {x : Int32} (hj : inB j 6) (hx : S1 = wc S 5 j x) (hd : decode b pc = .ok (.iastore, 1)) (hq : pc + 1 = q) (k : Ok (wC g a) D (tyC g) l rm own b nL ret S1 q Lc (St) Post) : Ok (wC g a) D (tyC g) l rm own b nL ret S pc Lc (.int x :: .int j :: .ref (a 5) :: St) Post := by
  subst hq; subst hx
  intro p e s m args below meth c A H locs ls hF hY
  exact va_iast (D := D) hF.1.1 hF.1.2.1 hF.1.2.2.2.2.2.2.2 hY.1 hY.2.1 hY.2.2.1 5 3 rfl rfl (ib_in hj) hd (fun H1 locs1 hP1 hD1 hS1 => k p e s m args below meth c A H1 locs1 ls hF ⟨hP1, hD1, hS1, hY.2.2.2⟩)
theorem al_C_6 {own : String} {j : Int32} {x : Int32} (hj : inB j 6) (hx : x = rc S 6 j) (hd : decode b pc = .ok (.iaload, 1)) (hq : pc + 1 = q) (k : Ok (wC g a) D (tyC g) l rm own b nL ret S q Lc (.int x :: St) Post) : Ok (wC g a) D (tyC g) l rm own b nL ret S pc Lc (.int j :: .ref (a 6) :: St) Post := by
  subst hq; subst hx
  intro p e s m args below meth c A H locs ls hF hY
  exact va_iald (D := D) hF.1.1 hF.1.2.1 hF.1.2.2.2.2.2.2.2 hY.1 6 4 rfl rfl (ib_in hj) hd (k p e s m args below meth c A H locs ls hF hY)
theorem as_C_6 {own : String} {j : Int32} {x : Int32} (hj : inB j 6) (hx : S1 = wc S 6 j x) (hd : decode b pc = .ok (.iastore, 1)) (hq : pc + 1 = q) (k : Ok (wC g a) D (tyC g) l rm own b nL ret S1 q Lc (St) Post) : Ok (wC g a) D (tyC g) l rm own b nL ret S pc Lc (.int x :: .int j :: .ref (a 6) :: St) Post := by
  subst hq; subst hx
  intro p e s m args below meth c A H locs ls hF hY
  exact va_iast (D := D) hF.1.1 hF.1.2.1 hF.1.2.2.2.2.2.2.2 hY.1 hY.2.1 hY.2.2.1 6 4 rfl rfl (ib_in hj) hd (fun H1 locs1 hP1 hD1 hS1 => k p e s m args below meth c A H1 locs1 ls hF ⟨hP1, hD1, hS1, hY.2.2.2⟩)
theorem al_C_7 {own : String} {j : Int32} {x : Int32} (hj : inB j 6) (hx : x = rc S 7 j) (hd : decode b pc = .ok (.baload, 1)) (hq : pc + 1 = q) (k : Ok (wC g a) D (tyC g) l rm own b nL ret S q Lc (.int x :: St) Post) : Ok (wC g a) D (tyC g) l rm own b nL ret S pc Lc (.int j :: .ref (a 7) :: St) Post := by
  subst hq; subst hx
  intro p e s m args below meth c A H locs ls hF hY
  exact va_zald (D := D) hF.1.1 hF.1.2.1 hF.1.2.2.2.2.2.2.2 hY.1 7 5 rfl rfl (ib_in hj) hd (k p e s m args below meth c A H locs ls hF hY)
theorem as_C_7 {own : String} {j : Int32} {x : Int32} (hj : inB j 6) (hx : S1 = wc S 7 j x) (hb : isB x) (hd : decode b pc = .ok (.bastore, 1)) (hq : pc + 1 = q) (k : Ok (wC g a) D (tyC g) l rm own b nL ret S1 q Lc (St) Post) : Ok (wC g a) D (tyC g) l rm own b nL ret S pc Lc (.int x :: .int j :: .ref (a 7) :: St) Post := by
  subst hq; subst hx
  intro p e s m args below meth c A H locs ls hF hY
  exact va_zast (D := D) hF.1.1 hF.1.2.1 hF.1.2.2.2.2.2.2.2 hY.1 hY.2.1 hY.2.2.1 7 5 rfl rfl (ib_in hj) hd (fun H1 locs1 hP1 hD1 hS1 => by rw [ib_vp hb] at hP1 hD1; exact k p e s m args below meth c A H1 locs1 ls hF ⟨hP1, hD1, hS1, hY.2.2.2⟩)
theorem al_C_8 {own : String} {j : Int32} {x : Int32} (hj : inB j 6) (hx : x = rc S 8 j) (hd : decode b pc = .ok (.baload, 1)) (hq : pc + 1 = q) (k : Ok (wC g a) D (tyC g) l rm own b nL ret S q Lc (.int x :: St) Post) : Ok (wC g a) D (tyC g) l rm own b nL ret S pc Lc (.int j :: .ref (a 8) :: St) Post := by
  subst hq; subst hx
  intro p e s m args below meth c A H locs ls hF hY
  exact va_zald (D := D) hF.1.1 hF.1.2.1 hF.1.2.2.2.2.2.2.2 hY.1 8 6 rfl rfl (ib_in hj) hd (k p e s m args below meth c A H locs ls hF hY)
theorem as_C_8 {own : String} {j : Int32} {x : Int32} (hj : inB j 6) (hx : S1 = wc S 8 j x) (hb : isB x) (hd : decode b pc = .ok (.bastore, 1)) (hq : pc + 1 = q) (k : Ok (wC g a) D (tyC g) l rm own b nL ret S1 q Lc (St) Post) : Ok (wC g a) D (tyC g) l rm own b nL ret S pc Lc (.int x :: .int j :: .ref (a 8) :: St) Post := by
  subst hq; subst hx
  intro p e s m args below meth c A H locs ls hF hY
  exact va_zast (D := D) hF.1.1 hF.1.2.1 hF.1.2.2.2.2.2.2.2 hY.1 hY.2.1 hY.2.2.1 8 6 rfl rfl (ib_in hj) hd (fun H1 locs1 hP1 hD1 hS1 => by rw [ib_vp hb] at hP1 hD1; exact k p e s m args below meth c A H1 locs1 ls hF ⟨hP1, hD1, hS1, hY.2.2.2⟩)
theorem al_C_9 {own : String} {j : Int32} {x : Int32} (hj : inB j 6) (hx : x = rc S 9 j) (hd : decode b pc = .ok (.baload, 1)) (hq : pc + 1 = q) (k : Ok (wC g a) D (tyC g) l rm own b nL ret S q Lc (.int x :: St) Post) : Ok (wC g a) D (tyC g) l rm own b nL ret S pc Lc (.int j :: .ref (a 9) :: St) Post := by
  subst hq; subst hx
  intro p e s m args below meth c A H locs ls hF hY
  exact va_zald (D := D) hF.1.1 hF.1.2.1 hF.1.2.2.2.2.2.2.2 hY.1 9 7 rfl rfl (ib_in hj) hd (k p e s m args below meth c A H locs ls hF hY)
theorem as_C_9 {own : String} {j : Int32} {x : Int32} (hj : inB j 6) (hx : S1 = wc S 9 j x) (hb : isB x) (hd : decode b pc = .ok (.bastore, 1)) (hq : pc + 1 = q) (k : Ok (wC g a) D (tyC g) l rm own b nL ret S1 q Lc (St) Post) : Ok (wC g a) D (tyC g) l rm own b nL ret S pc Lc (.int x :: .int j :: .ref (a 9) :: St) Post := by
  subst hq; subst hx
  intro p e s m args below meth c A H locs ls hF hY
  exact va_zast (D := D) hF.1.1 hF.1.2.1 hF.1.2.2.2.2.2.2.2 hY.1 hY.2.1 hY.2.2.1 9 7 rfl rfl (ib_in hj) hd (fun H1 locs1 hP1 hD1 hS1 => by rw [ib_vp hb] at hP1 hD1; exact k p e s m args below meth c A H1 locs1 ls hF ⟨hP1, hD1, hS1, hY.2.2.2⟩)
theorem al_C_10 {own : String} {j : Int32} {x : Int32} (hj : inB j 48) (hx : x = rc S 10 j) (hd : decode b pc = .ok (.baload, 1)) (hq : pc + 1 = q) (k : Ok (wC g a) D (tyC g) l rm own b nL ret S q Lc (.int x :: St) Post) : Ok (wC g a) D (tyC g) l rm own b nL ret S pc Lc (.int j :: .ref (a 10) :: St) Post := by
  subst hq; subst hx
  intro p e s m args below meth c A H locs ls hF hY
  exact va_zald (D := D) hF.1.1 hF.1.2.1 hF.1.2.2.2.2.2.2.2 hY.1 10 8 rfl rfl (ib_in hj) hd (k p e s m args below meth c A H locs ls hF hY)
theorem as_C_10 {own : String} {j : Int32} {x : Int32} (hj : inB j 48) (hx : S1 = wc S 10 j x) (hb : isB x) (hd : decode b pc = .ok (.bastore, 1)) (hq : pc + 1 = q) (k : Ok (wC g a) D (tyC g) l rm own b nL ret S1 q Lc (St) Post) : Ok (wC g a) D (tyC g) l rm own b nL ret S pc Lc (.int x :: .int j :: .ref (a 10) :: St) Post := by
  subst hq; subst hx
  intro p e s m args below meth c A H locs ls hF hY
  exact va_zast (D := D) hF.1.1 hF.1.2.1 hF.1.2.2.2.2.2.2.2 hY.1 hY.2.1 hY.2.2.1 10 8 rfl rfl (ib_in hj) hd (fun H1 locs1 hP1 hD1 hS1 => by rw [ib_vp hb] at hP1 hD1; exact k p e s m args below meth c A H1 locs1 ls hF ⟨hP1, hD1, hS1, hY.2.2.2⟩)
end ROWSC
section ROWSM
variable {S S1 : TR} {Post : Option Value → TR → Prop}
theorem gf_M_7 (hd : decode b pc = .ok (.getfield 7, 3)) (hq : pc + 3 = q) (k : Ok (wR g r) D (tyR g) l rm R_M b nL ret S q Lc (.ref (r 1) :: St) Post) : Ok (wR g r) D (tyR g) l rm R_M b nL ret S pc Lc (.ref (r 0) :: St) Post := by
  subst hq
  intro p e s m args below meth c A H locs ls hF hY
  exact va_get (D := D) (ci := 2) (v := .ref (r 1)) (C := R_M) (T := F_M) (N := 27) hF.1.1 hF.1.2.1 hF.1.2.2.2.2.2.2.1 us_M hF.1.2.2.2.2.2.1 hF.1.2.2.2.2.2.2.2 hY.1 0 rfl rfl 0 (by decide) (hF.1.2.2.2.2.2.2.1 _ wm_38) (fun _ h9 => h9) rfl hd (k p e s m args below meth c A H locs ls hF hY)
theorem gf_M_13 (hd : decode b pc = .ok (.getfield 13, 3)) (hq : pc + 3 = q) (k : Ok (wR g r) D (tyR g) l rm R_M b nL ret S q Lc (.ref (r 2) :: St) Post) : Ok (wR g r) D (tyR g) l rm R_M b nL ret S pc Lc (.ref (r 0) :: St) Post := by
  subst hq
  intro p e s m args below meth c A H locs ls hF hY
  exact va_get (D := D) (ci := 2) (v := .ref (r 2)) (C := R_M) (T := F_M) (N := 27) hF.1.1 hF.1.2.1 hF.1.2.2.2.2.2.2.1 us_M hF.1.2.2.2.2.2.1 hF.1.2.2.2.2.2.2.2 hY.1 0 rfl rfl 1 (by decide) (hF.1.2.2.2.2.2.2.1 _ wm_39) (fun _ h9 => h9) rfl hd (k p e s m args below meth c A H locs ls hF hY)
theorem gf_M_16 (hd : decode b pc = .ok (.getfield 16, 3)) (hq : pc + 3 = q) (k : Ok (wR g r) D (tyR g) l rm R_M b nL ret S q Lc (.ref (r 3) :: St) Post) : Ok (wR g r) D (tyR g) l rm R_M b nL ret S pc Lc (.ref (r 0) :: St) Post := by
  subst hq
  intro p e s m args below meth c A H locs ls hF hY
  exact va_get (D := D) (ci := 2) (v := .ref (r 3)) (C := R_M) (T := F_M) (N := 27) hF.1.1 hF.1.2.1 hF.1.2.2.2.2.2.2.1 us_M hF.1.2.2.2.2.2.1 hF.1.2.2.2.2.2.2.2 hY.1 0 rfl rfl 2 (by decide) (hF.1.2.2.2.2.2.2.1 _ wm_40) (fun _ h9 => h9) rfl hd (k p e s m args below meth c A H locs ls hF hY)
theorem gf_M_19 (hd : decode b pc = .ok (.getfield 19, 3)) (hq : pc + 3 = q) (k : Ok (wR g r) D (tyR g) l rm R_M b nL ret S q Lc (.ref (r 4) :: St) Post) : Ok (wR g r) D (tyR g) l rm R_M b nL ret S pc Lc (.ref (r 0) :: St) Post := by
  subst hq
  intro p e s m args below meth c A H locs ls hF hY
  exact va_get (D := D) (ci := 2) (v := .ref (r 4)) (C := R_M) (T := F_M) (N := 27) hF.1.1 hF.1.2.1 hF.1.2.2.2.2.2.2.1 us_M hF.1.2.2.2.2.2.1 hF.1.2.2.2.2.2.2.2 hY.1 0 rfl rfl 3 (by decide) (hF.1.2.2.2.2.2.2.1 _ wm_41) (fun _ h9 => h9) rfl hd (k p e s m args below meth c A H locs ls hF hY)
theorem gf_M_22 (hd : decode b pc = .ok (.getfield 22, 3)) (hq : pc + 3 = q) (k : Ok (wR g r) D (tyR g) l rm R_M b nL ret S q Lc (.ref (r 5) :: St) Post) : Ok (wR g r) D (tyR g) l rm R_M b nL ret S pc Lc (.ref (r 0) :: St) Post := by
  subst hq
  intro p e s m args below meth c A H locs ls hF hY
  exact va_get (D := D) (ci := 2) (v := .ref (r 5)) (C := R_M) (T := F_M) (N := 27) hF.1.1 hF.1.2.1 hF.1.2.2.2.2.2.2.1 us_M hF.1.2.2.2.2.2.1 hF.1.2.2.2.2.2.2.2 hY.1 0 rfl rfl 4 (by decide) (hF.1.2.2.2.2.2.2.1 _ wm_42) (fun _ h9 => h9) rfl hd (k p e s m args below meth c A H locs ls hF hY)
theorem gf_M_25 (hd : decode b pc = .ok (.getfield 25, 3)) (hq : pc + 3 = q) (k : Ok (wR g r) D (tyR g) l rm R_M b nL ret S q Lc (.ref (r 6) :: St) Post) : Ok (wR g r) D (tyR g) l rm R_M b nL ret S pc Lc (.ref (r 0) :: St) Post := by
  subst hq
  intro p e s m args below meth c A H locs ls hF hY
  exact va_get (D := D) (ci := 2) (v := .ref (r 6)) (C := R_M) (T := F_M) (N := 27) hF.1.1 hF.1.2.1 hF.1.2.2.2.2.2.2.1 us_M hF.1.2.2.2.2.2.1 hF.1.2.2.2.2.2.2.2 hY.1 0 rfl rfl 5 (by decide) (hF.1.2.2.2.2.2.2.1 _ wm_43) (fun _ h9 => h9) rfl hd (k p e s m args below meth c A H locs ls hF hY)
theorem gf_M_28 (hd : decode b pc = .ok (.getfield 28, 3)) (hq : pc + 3 = q) (k : Ok (wR g r) D (tyR g) l rm R_M b nL ret S q Lc (.ref (r 7) :: St) Post) : Ok (wR g r) D (tyR g) l rm R_M b nL ret S pc Lc (.ref (r 0) :: St) Post := by
  subst hq
  intro p e s m args below meth c A H locs ls hF hY
  exact va_get (D := D) (ci := 2) (v := .ref (r 7)) (C := R_M) (T := F_M) (N := 27) hF.1.1 hF.1.2.1 hF.1.2.2.2.2.2.2.1 us_M hF.1.2.2.2.2.2.1 hF.1.2.2.2.2.2.2.2 hY.1 0 rfl rfl 6 (by decide) (hF.1.2.2.2.2.2.2.1 _ wm_44) (fun _ h9 => h9) rfl hd (k p e s m args below meth c A H locs ls hF hY)
theorem gf_M_31 (hd : decode b pc = .ok (.getfield 31, 3)) (hq : pc + 3 = q) (k : Ok (wR g r) D (tyR g) l rm R_M b nL ret S q Lc (.ref (r 8) :: St) Post) : Ok (wR g r) D (tyR g) l rm R_M b nL ret S pc Lc (.ref (r 0) :: St) Post := by
  subst hq
  intro p e s m args below meth c A H locs ls hF hY
  exact va_get (D := D) (ci := 2) (v := .ref (r 8)) (C := R_M) (T := F_M) (N := 27) hF.1.1 hF.1.2.1 hF.1.2.2.2.2.2.2.1 us_M hF.1.2.2.2.2.2.1 hF.1.2.2.2.2.2.2.2 hY.1 0 rfl rfl 7 (by decide) (hF.1.2.2.2.2.2.2.1 _ wm_45) (fun _ h9 => h9) rfl hd (k p e s m args below meth c A H locs ls hF hY)
theorem gf_M_35 (hd : decode b pc = .ok (.getfield 35, 3)) (hq : pc + 3 = q) (k : Ok (wR g r) D (tyR g) l rm R_M b nL ret S q Lc (.ref (r 9) :: St) Post) : Ok (wR g r) D (tyR g) l rm R_M b nL ret S pc Lc (.ref (r 0) :: St) Post := by
  subst hq
  intro p e s m args below meth c A H locs ls hF hY
  exact va_get (D := D) (ci := 2) (v := .ref (r 9)) (C := R_M) (T := F_M) (N := 27) hF.1.1 hF.1.2.1 hF.1.2.2.2.2.2.2.1 us_M hF.1.2.2.2.2.2.1 hF.1.2.2.2.2.2.2.2 hY.1 0 rfl rfl 8 (by decide) (hF.1.2.2.2.2.2.2.1 _ wm_46) (fun _ h9 => h9) rfl hd (k p e s m args below meth c A H locs ls hF hY)
theorem gf_M_38 (hd : decode b pc = .ok (.getfield 38, 3)) (hq : pc + 3 = q) (k : Ok (wR g r) D (tyR g) l rm R_M b nL ret S q Lc (.ref (r 10) :: St) Post) : Ok (wR g r) D (tyR g) l rm R_M b nL ret S pc Lc (.ref (r 0) :: St) Post := by
  subst hq
  intro p e s m args below meth c A H locs ls hF hY
  exact va_get (D := D) (ci := 2) (v := .ref (r 10)) (C := R_M) (T := F_M) (N := 27) hF.1.1 hF.1.2.1 hF.1.2.2.2.2.2.2.1 us_M hF.1.2.2.2.2.2.1 hF.1.2.2.2.2.2.2.2 hY.1 0 rfl rfl 9 (by decide) (hF.1.2.2.2.2.2.2.1 _ wm_47) (fun _ h9 => h9) rfl hd (k p e s m args below meth c A H locs ls hF hY)
theorem gf_M_41 (hd : decode b pc = .ok (.getfield 41, 3)) (hq : pc + 3 = q) (k : Ok (wR g r) D (tyR g) l rm R_M b nL ret S q Lc (.ref (r 11) :: St) Post) : Ok (wR g r) D (tyR g) l rm R_M b nL ret S pc Lc (.ref (r 0) :: St) Post := by
  subst hq
  intro p e s m args below meth c A H locs ls hF hY
  exact va_get (D := D) (ci := 2) (v := .ref (r 11)) (C := R_M) (T := F_M) (N := 27) hF.1.1 hF.1.2.1 hF.1.2.2.2.2.2.2.1 us_M hF.1.2.2.2.2.2.1 hF.1.2.2.2.2.2.2.2 hY.1 0 rfl rfl 10 (by decide) (hF.1.2.2.2.2.2.2.1 _ wm_48) (fun _ h9 => h9) rfl hd (k p e s m args below meth c A H locs ls hF hY)
theorem gf_M_44 (hd : decode b pc = .ok (.getfield 44, 3)) (hq : pc + 3 = q) (k : Ok (wR g r) D (tyR g) l rm R_M b nL ret S q Lc (.ref (r 12) :: St) Post) : Ok (wR g r) D (tyR g) l rm R_M b nL ret S pc Lc (.ref (r 0) :: St) Post := by
  subst hq
  intro p e s m args below meth c A H locs ls hF hY
  exact va_get (D := D) (ci := 2) (v := .ref (r 12)) (C := R_M) (T := F_M) (N := 27) hF.1.1 hF.1.2.1 hF.1.2.2.2.2.2.2.1 us_M hF.1.2.2.2.2.2.1 hF.1.2.2.2.2.2.2.2 hY.1 0 rfl rfl 11 (by decide) (hF.1.2.2.2.2.2.2.1 _ wm_49) (fun _ h9 => h9) rfl hd (k p e s m args below meth c A H locs ls hF hY)
theorem gf_M_47 (hd : decode b pc = .ok (.getfield 47, 3)) (hq : pc + 3 = q) (k : Ok (wR g r) D (tyR g) l rm R_M b nL ret S q Lc (.ref (r 13) :: St) Post) : Ok (wR g r) D (tyR g) l rm R_M b nL ret S pc Lc (.ref (r 0) :: St) Post := by
  subst hq
  intro p e s m args below meth c A H locs ls hF hY
  exact va_get (D := D) (ci := 2) (v := .ref (r 13)) (C := R_M) (T := F_M) (N := 27) hF.1.1 hF.1.2.1 hF.1.2.2.2.2.2.2.1 us_M hF.1.2.2.2.2.2.1 hF.1.2.2.2.2.2.2.2 hY.1 0 rfl rfl 12 (by decide) (hF.1.2.2.2.2.2.2.1 _ wm_50) (fun _ h9 => h9) rfl hd (k p e s m args below meth c A H locs ls hF hY)
theorem gf_M_50 (hd : decode b pc = .ok (.getfield 50, 3)) (hq : pc + 3 = q) (k : Ok (wR g r) D (tyR g) l rm R_M b nL ret S q Lc (.ref (r 14) :: St) Post) : Ok (wR g r) D (tyR g) l rm R_M b nL ret S pc Lc (.ref (r 0) :: St) Post := by
  subst hq
  intro p e s m args below meth c A H locs ls hF hY
  exact va_get (D := D) (ci := 2) (v := .ref (r 14)) (C := R_M) (T := F_M) (N := 27) hF.1.1 hF.1.2.1 hF.1.2.2.2.2.2.2.1 us_M hF.1.2.2.2.2.2.1 hF.1.2.2.2.2.2.2.2 hY.1 0 rfl rfl 13 (by decide) (hF.1.2.2.2.2.2.2.1 _ wm_51) (fun _ h9 => h9) rfl hd (k p e s m args below meth c A H locs ls hF hY)
theorem gf_M_53 (hd : decode b pc = .ok (.getfield 53, 3)) (hq : pc + 3 = q) (k : Ok (wR g r) D (tyR g) l rm R_M b nL ret S q Lc (.ref (r 15) :: St) Post) : Ok (wR g r) D (tyR g) l rm R_M b nL ret S pc Lc (.ref (r 0) :: St) Post := by
  subst hq
  intro p e s m args below meth c A H locs ls hF hY
  exact va_get (D := D) (ci := 2) (v := .ref (r 15)) (C := R_M) (T := F_M) (N := 27) hF.1.1 hF.1.2.1 hF.1.2.2.2.2.2.2.1 us_M hF.1.2.2.2.2.2.1 hF.1.2.2.2.2.2.2.2 hY.1 0 rfl rfl 14 (by decide) (hF.1.2.2.2.2.2.2.1 _ wm_52) (fun _ h9 => h9) rfl hd (k p e s m args below meth c A H locs ls hF hY)
theorem gf_M_56 {x : Int32} (hx : x = S 0 0) (hd : decode b pc = .ok (.getfield 56, 3)) (hq : pc + 3 = q) (k : Ok (wR g r) D (tyR g) l rm R_M b nL ret S q Lc (.int x :: St) Post) : Ok (wR g r) D (tyR g) l rm R_M b nL ret S pc Lc (.ref (r 0) :: St) Post := by
  subst hq; subst hx
  intro p e s m args below meth c A H locs ls hF hY
  exact va_get (D := D) (ci := 2) (v := .int (S 0 0)) (C := R_M) (T := F_M) (N := 27) hF.1.1 hF.1.2.1 hF.1.2.2.2.2.2.2.1 us_M hF.1.2.2.2.2.2.1 hF.1.2.2.2.2.2.2.2 hY.1 0 rfl rfl 15 (by decide) (hF.1.2.2.2.2.2.2.1 _ wm_53) (fun _ h9 => h9) rfl hd (k p e s m args below meth c A H locs ls hF hY)
theorem gf_M_60 {x : Int32} (hx : x = S 0 2) (hd : decode b pc = .ok (.getfield 60, 3)) (hq : pc + 3 = q) (k : Ok (wR g r) D (tyR g) l rm R_M b nL ret S q Lc (.int x :: St) Post) : Ok (wR g r) D (tyR g) l rm R_M b nL ret S pc Lc (.ref (r 0) :: St) Post := by
  subst hq; subst hx
  intro p e s m args below meth c A H locs ls hF hY
  exact va_get (D := D) (ci := 2) (v := .int (S 0 2)) (C := R_M) (T := F_M) (N := 27) hF.1.1 hF.1.2.1 hF.1.2.2.2.2.2.2.1 us_M hF.1.2.2.2.2.2.1 hF.1.2.2.2.2.2.2.2 hY.1 0 rfl rfl 17 (by decide) (hF.1.2.2.2.2.2.2.1 _ wm_54) (fun _ h9 => h9) rfl hd (k p e s m args below meth c A H locs ls hF hY)
theorem gf_M_64 {x : Int32} (hx : x = S 0 3) (hd : decode b pc = .ok (.getfield 64, 3)) (hq : pc + 3 = q) (k : Ok (wR g r) D (tyR g) l rm R_M b nL ret S q Lc (.int x :: St) Post) : Ok (wR g r) D (tyR g) l rm R_M b nL ret S pc Lc (.ref (r 0) :: St) Post := by
  subst hq; subst hx
  intro p e s m args below meth c A H locs ls hF hY
  exact va_get (D := D) (ci := 2) (v := .int (S 0 3)) (C := R_M) (T := F_M) (N := 27) hF.1.1 hF.1.2.1 hF.1.2.2.2.2.2.2.1 us_M hF.1.2.2.2.2.2.1 hF.1.2.2.2.2.2.2.2 hY.1 0 rfl rfl 18 (by decide) (hF.1.2.2.2.2.2.2.1 _ wm_55) (fun _ h9 => h9) rfl hd (k p e s m args below meth c A H locs ls hF hY)
theorem gf_M_75 {x : Int32} (hx : x = S 0 4) (hd : decode b pc = .ok (.getfield 75, 3)) (hq : pc + 3 = q) (k : Ok (wR g r) D (tyR g) l rm R_M b nL ret S q Lc (.int x :: St) Post) : Ok (wR g r) D (tyR g) l rm R_M b nL ret S pc Lc (.ref (r 0) :: St) Post := by
  subst hq; subst hx
  intro p e s m args below meth c A H locs ls hF hY
  exact va_get (D := D) (ci := 2) (v := .int (S 0 4)) (C := R_M) (T := F_M) (N := 27) hF.1.1 hF.1.2.1 hF.1.2.2.2.2.2.2.1 us_M hF.1.2.2.2.2.2.1 hF.1.2.2.2.2.2.2.2 hY.1 0 rfl rfl 19 (by decide) (hF.1.2.2.2.2.2.2.1 _ wm_56) (fun _ h9 => h9) rfl hd (k p e s m args below meth c A H locs ls hF hY)
theorem gf_M_78 {x : Int32} (hx : x = S 0 5) (hd : decode b pc = .ok (.getfield 78, 3)) (hq : pc + 3 = q) (k : Ok (wR g r) D (tyR g) l rm R_M b nL ret S q Lc (.int x :: St) Post) : Ok (wR g r) D (tyR g) l rm R_M b nL ret S pc Lc (.ref (r 0) :: St) Post := by
  subst hq; subst hx
  intro p e s m args below meth c A H locs ls hF hY
  exact va_get (D := D) (ci := 2) (v := .int (S 0 5)) (C := R_M) (T := F_M) (N := 27) hF.1.1 hF.1.2.1 hF.1.2.2.2.2.2.2.1 us_M hF.1.2.2.2.2.2.1 hF.1.2.2.2.2.2.2.2 hY.1 0 rfl rfl 20 (by decide) (hF.1.2.2.2.2.2.2.1 _ wm_57) (fun _ h9 => h9) rfl hd (k p e s m args below meth c A H locs ls hF hY)
theorem gf_M_89 {x : Int32} (hx : x = S 0 6) (hd : decode b pc = .ok (.getfield 89, 3)) (hq : pc + 3 = q) (k : Ok (wR g r) D (tyR g) l rm R_M b nL ret S q Lc (.int x :: St) Post) : Ok (wR g r) D (tyR g) l rm R_M b nL ret S pc Lc (.ref (r 0) :: St) Post := by
  subst hq; subst hx
  intro p e s m args below meth c A H locs ls hF hY
  exact va_get (D := D) (ci := 2) (v := .int (S 0 6)) (C := R_M) (T := F_M) (N := 27) hF.1.1 hF.1.2.1 hF.1.2.2.2.2.2.2.1 us_M hF.1.2.2.2.2.2.1 hF.1.2.2.2.2.2.2.2 hY.1 0 rfl rfl 21 (by decide) (hF.1.2.2.2.2.2.2.1 _ wm_58) (fun _ h9 => h9) rfl hd (k p e s m args below meth c A H locs ls hF hY)
theorem gf_M_92 {x : Int32} (hx : x = S 0 7) (hd : decode b pc = .ok (.getfield 92, 3)) (hq : pc + 3 = q) (k : Ok (wR g r) D (tyR g) l rm R_M b nL ret S q Lc (.int x :: St) Post) : Ok (wR g r) D (tyR g) l rm R_M b nL ret S pc Lc (.ref (r 0) :: St) Post := by
  subst hq; subst hx
  intro p e s m args below meth c A H locs ls hF hY
  exact va_get (D := D) (ci := 2) (v := .int (S 0 7)) (C := R_M) (T := F_M) (N := 27) hF.1.1 hF.1.2.1 hF.1.2.2.2.2.2.2.1 us_M hF.1.2.2.2.2.2.1 hF.1.2.2.2.2.2.2.2 hY.1 0 rfl rfl 22 (by decide) (hF.1.2.2.2.2.2.2.1 _ wm_59) (fun _ h9 => h9) rfl hd (k p e s m args below meth c A H locs ls hF hY)
theorem gf_M_95 {x : Int32} (hx : x = S 0 8) (hd : decode b pc = .ok (.getfield 95, 3)) (hq : pc + 3 = q) (k : Ok (wR g r) D (tyR g) l rm R_M b nL ret S q Lc (.int x :: St) Post) : Ok (wR g r) D (tyR g) l rm R_M b nL ret S pc Lc (.ref (r 0) :: St) Post := by
  subst hq; subst hx
  intro p e s m args below meth c A H locs ls hF hY
  exact va_get (D := D) (ci := 2) (v := .int (S 0 8)) (C := R_M) (T := F_M) (N := 27) hF.1.1 hF.1.2.1 hF.1.2.2.2.2.2.2.1 us_M hF.1.2.2.2.2.2.1 hF.1.2.2.2.2.2.2.2 hY.1 0 rfl rfl 23 (by decide) (hF.1.2.2.2.2.2.2.1 _ wm_60) (fun _ h9 => h9) rfl hd (k p e s m args below meth c A H locs ls hF hY)
theorem gf_M_98 {x : Int32} (hx : x = S 0 9) (hd : decode b pc = .ok (.getfield 98, 3)) (hq : pc + 3 = q) (k : Ok (wR g r) D (tyR g) l rm R_M b nL ret S q Lc (.int x :: St) Post) : Ok (wR g r) D (tyR g) l rm R_M b nL ret S pc Lc (.ref (r 0) :: St) Post := by
  subst hq; subst hx
  intro p e s m args below meth c A H locs ls hF hY
  exact va_get (D := D) (ci := 2) (v := .int (S 0 9)) (C := R_M) (T := F_M) (N := 27) hF.1.1 hF.1.2.1 hF.1.2.2.2.2.2.2.1 us_M hF.1.2.2.2.2.2.1 hF.1.2.2.2.2.2.2.2 hY.1 0 rfl rfl 24 (by decide) (hF.1.2.2.2.2.2.2.1 _ wm_61) (fun _ h9 => h9) rfl hd (k p e s m args below meth c A H locs ls hF hY)
theorem gf_M_101 {x : Int32} (hx : x = S 0 10) (hd : decode b pc = .ok (.getfield 101, 3)) (hq : pc + 3 = q) (k : Ok (wR g r) D (tyR g) l rm R_M b nL ret S q Lc (.int x :: St) Post) : Ok (wR g r) D (tyR g) l rm R_M b nL ret S pc Lc (.ref (r 0) :: St) Post := by
  subst hq; subst hx
  intro p e s m args below meth c A H locs ls hF hY
  exact va_get (D := D) (ci := 2) (v := .int (S 0 10)) (C := R_M) (T := F_M) (N := 27) hF.1.1 hF.1.2.1 hF.1.2.2.2.2.2.2.1 us_M hF.1.2.2.2.2.2.1 hF.1.2.2.2.2.2.2.2 hY.1 0 rfl rfl 25 (by decide) (hF.1.2.2.2.2.2.2.1 _ wm_62) (fun _ h9 => h9) rfl hd (k p e s m args below meth c A H locs ls hF hY)
theorem gf_M_104 {x : Int32} (hx : x = S 0 11) (hd : decode b pc = .ok (.getfield 104, 3)) (hq : pc + 3 = q) (k : Ok (wR g r) D (tyR g) l rm R_M b nL ret S q Lc (.int x :: St) Post) : Ok (wR g r) D (tyR g) l rm R_M b nL ret S pc Lc (.ref (r 0) :: St) Post := by
  subst hq; subst hx
  intro p e s m args below meth c A H locs ls hF hY
  exact va_get (D := D) (ci := 2) (v := .int (S 0 11)) (C := R_M) (T := F_M) (N := 27) hF.1.1 hF.1.2.1 hF.1.2.2.2.2.2.2.1 us_M hF.1.2.2.2.2.2.1 hF.1.2.2.2.2.2.2.2 hY.1 0 rfl rfl 26 (by decide) (hF.1.2.2.2.2.2.2.1 _ wm_63) (fun _ h9 => h9) rfl hd (k p e s m args below meth c A H locs ls hF hY)
theorem gf_M_170 {x : Int32} (hx : x = S 0 1) (hd : decode b pc = .ok (.getfield 170, 3)) (hq : pc + 3 = q) (k : Ok (wR g r) D (tyR g) l rm R_M b nL ret S q Lc (.int x :: St) Post) : Ok (wR g r) D (tyR g) l rm R_M b nL ret S pc Lc (.ref (r 0) :: St) Post := by
  subst hq; subst hx
  intro p e s m args below meth c A H locs ls hF hY
  exact va_get (D := D) (ci := 2) (v := .int (S 0 1)) (C := R_M) (T := F_M) (N := 27) hF.1.1 hF.1.2.1 hF.1.2.2.2.2.2.2.1 us_M hF.1.2.2.2.2.2.1 hF.1.2.2.2.2.2.2.2 hY.1 0 rfl rfl 16 (by decide) (hF.1.2.2.2.2.2.2.1 _ wm_64) (fun _ h9 => h9) rfl hd (k p e s m args below meth c A H locs ls hF hY)
theorem pf_M_56 {x : Int32} (hx : S1 = fr S 0 0 x) (hb : isB x) (hd : decode b pc = .ok (.putfield 56, 3)) (hq : pc + 3 = q) (k : Ok (wR g r) D (tyR g) l rm R_M b nL ret S1 q Lc (St) Post) : Ok (wR g r) D (tyR g) l rm R_M b nL ret S pc Lc (.int x :: .ref (r 0) :: St) Post := by
  subst hq; subst hx
  intro p e s m args below meth c A H locs ls hF hY
  exact va_put (D := D) (ci := 2) (v := .int x) (ty := .boolean) (C := R_M) (T := F_M) (N := 27) hF.1.1 hF.1.2.1 hF.1.2.2.2.2.2.2.1 us_M t_M t_M_ok n_M hF.1.2.2.2.2.2.1 hF.1.2.2.2.2.2.2.2 hY.1 hY.2.1 hY.2.2.1 0 rfl rfl 15 (by decide) (hF.1.2.2.2.2.2.2.1 _ wm_53) (fun _ h9 => h9) rfl (by decide +kernel) (ib_nar hb) (ib_fit hb) (Nat.le_of_ble_eq_true rfl) hd (fun H1 locs1 hP1 hD1 hS1 => k p e s m args below meth c A H1 locs1 ls hF ⟨hP1, hD1, hS1, hY.2.2.2⟩)
theorem pf_M_60 {x : Int32} (hx : S1 = fr S 0 2 x) (hd : decode b pc = .ok (.putfield 60, 3)) (hq : pc + 3 = q) (k : Ok (wR g r) D (tyR g) l rm R_M b nL ret S1 q Lc (St) Post) : Ok (wR g r) D (tyR g) l rm R_M b nL ret S pc Lc (.int x :: .ref (r 0) :: St) Post := by
  subst hq; subst hx
  intro p e s m args below meth c A H locs ls hF hY
  exact va_put (D := D) (ci := 2) (v := .int x) (ty := .int) (C := R_M) (T := F_M) (N := 27) hF.1.1 hF.1.2.1 hF.1.2.2.2.2.2.2.1 us_M t_M t_M_ok n_M hF.1.2.2.2.2.2.1 hF.1.2.2.2.2.2.2.2 hY.1 hY.2.1 hY.2.2.1 0 rfl rfl 17 (by decide) (hF.1.2.2.2.2.2.2.1 _ wm_54) (fun _ h9 => h9) rfl (by decide +kernel) rfl rfl (Nat.le_of_ble_eq_true rfl) hd (fun H1 locs1 hP1 hD1 hS1 => k p e s m args below meth c A H1 locs1 ls hF ⟨hP1, hD1, hS1, hY.2.2.2⟩)
theorem pf_M_64 {x : Int32} (hx : S1 = fr S 0 3 x) (hd : decode b pc = .ok (.putfield 64, 3)) (hq : pc + 3 = q) (k : Ok (wR g r) D (tyR g) l rm R_M b nL ret S1 q Lc (St) Post) : Ok (wR g r) D (tyR g) l rm R_M b nL ret S pc Lc (.int x :: .ref (r 0) :: St) Post := by
  subst hq; subst hx
  intro p e s m args below meth c A H locs ls hF hY
  exact va_put (D := D) (ci := 2) (v := .int x) (ty := .int) (C := R_M) (T := F_M) (N := 27) hF.1.1 hF.1.2.1 hF.1.2.2.2.2.2.2.1 us_M t_M t_M_ok n_M hF.1.2.2.2.2.2.1 hF.1.2.2.2.2.2.2.2 hY.1 hY.2.1 hY.2.2.1 0 rfl rfl 18 (by decide) (hF.1.2.2.2.2.2.2.1 _ wm_55) (fun _ h9 => h9) rfl (by decide +kernel) rfl rfl (Nat.le_of_ble_eq_true rfl) hd (fun H1 locs1 hP1 hD1 hS1 => k p e s m args below meth c A H1 locs1 ls hF ⟨hP1, hD1, hS1, hY.2.2.2⟩)
theorem pf_M_75 {x : Int32} (hx : S1 = fr S 0 4 x) (hd : decode b pc = .ok (.putfield 75, 3)) (hq : pc + 3 = q) (k : Ok (wR g r) D (tyR g) l rm R_M b nL ret S1 q Lc (St) Post) : Ok (wR g r) D (tyR g) l rm R_M b nL ret S pc Lc (.int x :: .ref (r 0) :: St) Post := by
  subst hq; subst hx
  intro p e s m args below meth c A H locs ls hF hY
  exact va_put (D := D) (ci := 2) (v := .int x) (ty := .int) (C := R_M) (T := F_M) (N := 27) hF.1.1 hF.1.2.1 hF.1.2.2.2.2.2.2.1 us_M t_M t_M_ok n_M hF.1.2.2.2.2.2.1 hF.1.2.2.2.2.2.2.2 hY.1 hY.2.1 hY.2.2.1 0 rfl rfl 19 (by decide) (hF.1.2.2.2.2.2.2.1 _ wm_56) (fun _ h9 => h9) rfl (by decide +kernel) rfl rfl (Nat.le_of_ble_eq_true rfl) hd (fun H1 locs1 hP1 hD1 hS1 => k p e s m args below meth c A H1 locs1 ls hF ⟨hP1, hD1, hS1, hY.2.2.2⟩)
theorem pf_M_78 {x : Int32} (hx : S1 = fr S 0 5 x) (hd : decode b pc = .ok (.putfield 78, 3)) (hq : pc + 3 = q) (k : Ok (wR g r) D (tyR g) l rm R_M b nL ret S1 q Lc (St) Post) : Ok (wR g r) D (tyR g) l rm R_M b nL ret S pc Lc (.int x :: .ref (r 0) :: St) Post := by
  subst hq; subst hx
  intro p e s m args below meth c A H locs ls hF hY
  exact va_put (D := D) (ci := 2) (v := .int x) (ty := .int) (C := R_M) (T := F_M) (N := 27) hF.1.1 hF.1.2.1 hF.1.2.2.2.2.2.2.1 us_M t_M t_M_ok n_M hF.1.2.2.2.2.2.1 hF.1.2.2.2.2.2.2.2 hY.1 hY.2.1 hY.2.2.1 0 rfl rfl 20 (by decide) (hF.1.2.2.2.2.2.2.1 _ wm_57) (fun _ h9 => h9) rfl (by decide +kernel) rfl rfl (Nat.le_of_ble_eq_true rfl) hd (fun H1 locs1 hP1 hD1 hS1 => k p e s m args below meth c A H1 locs1 ls hF ⟨hP1, hD1, hS1, hY.2.2.2⟩)
theorem pf_M_89 {x : Int32} (hx : S1 = fr S 0 6 x) (hd : decode b pc = .ok (.putfield 89, 3)) (hq : pc + 3 = q) (k : Ok (wR g r) D (tyR g) l rm R_M b nL ret S1 q Lc (St) Post) : Ok (wR g r) D (tyR g) l rm R_M b nL ret S pc Lc (.int x :: .ref (r 0) :: St) Post := by
  subst hq; subst hx
  intro p e s m args below meth c A H locs ls hF hY
  exact va_put (D := D) (ci := 2) (v := .int x) (ty := .int) (C := R_M) (T := F_M) (N := 27) hF.1.1 hF.1.2.1 hF.1.2.2.2.2.2.2.1 us_M t_M t_M_ok n_M hF.1.2.2.2.2.2.1 hF.1.2.2.2.2.2.2.2 hY.1 hY.2.1 hY.2.2.1 0 rfl rfl 21 (by decide) (hF.1.2.2.2.2.2.2.1 _ wm_58) (fun _ h9 => h9) rfl (by decide +kernel) rfl rfl (Nat.le_of_ble_eq_true rfl) hd (fun H1 locs1 hP1 hD1 hS1 => k p e s m args below meth c A H1 locs1 ls hF ⟨hP1, hD1, hS1, hY.2.2.2⟩)
theorem pf_M_92 {x : Int32} (hx : S1 = fr S 0 7 x) (hd : decode b pc = .ok (.putfield 92, 3)) (hq : pc + 3 = q) (k : Ok (wR g r) D (tyR g) l rm R_M b nL ret S1 q Lc (St) Post) : Ok (wR g r) D (tyR g) l rm R_M b nL ret S pc Lc (.int x :: .ref (r 0) :: St) Post := by
  subst hq; subst hx
  intro p e s m args below meth c A H locs ls hF hY
  exact va_put (D := D) (ci := 2) (v := .int x) (ty := .int) (C := R_M) (T := F_M) (N := 27) hF.1.1 hF.1.2.1 hF.1.2.2.2.2.2.2.1 us_M t_M t_M_ok n_M hF.1.2.2.2.2.2.1 hF.1.2.2.2.2.2.2.2 hY.1 hY.2.1 hY.2.2.1 0 rfl rfl 22 (by decide) (hF.1.2.2.2.2.2.2.1 _ wm_59) (fun _ h9 => h9) rfl (by decide +kernel) rfl rfl (Nat.le_of_ble_eq_true rfl) hd (fun H1 locs1 hP1 hD1 hS1 => k p e s m args below meth c A H1 locs1 ls hF ⟨hP1, hD1, hS1, hY.2.2.2⟩)
theorem pf_M_95 {x : Int32} (hx : S1 = fr S 0 8 x) (hd : decode b pc = .ok (.putfield 95, 3)) (hq : pc + 3 = q) (k : Ok (wR g r) D (tyR g) l rm R_M b nL ret S1 q Lc (St) Post) : Ok (wR g r) D (tyR g) l rm R_M b nL ret S pc Lc (.int x :: .ref (r 0) :: St) Post := by
  subst hq; subst hx
  intro p e s m args below meth c A H locs ls hF hY
  exact va_put (D := D) (ci := 2) (v := .int x) (ty := .int) (C := R_M) (T := F_M) (N := 27) hF.1.1 hF.1.2.1 hF.1.2.2.2.2.2.2.1 us_M t_M t_M_ok n_M hF.1.2.2.2.2.2.1 hF.1.2.2.2.2.2.2.2 hY.1 hY.2.1 hY.2.2.1 0 rfl rfl 23 (by decide) (hF.1.2.2.2.2.2.2.1 _ wm_60) (fun _ h9 => h9) rfl (by decide +kernel) rfl rfl (Nat.le_of_ble_eq_true rfl) hd (fun H1 locs1 hP1 hD1 hS1 => k p e s m args below meth c A H1 locs1 ls hF ⟨hP1, hD1, hS1, hY.2.2.2⟩)
theorem pf_M_98 {x : Int32} (hx : S1 = fr S 0 9 x) (hb : isB x) (hd : decode b pc = .ok (.putfield 98, 3)) (hq : pc + 3 = q) (k : Ok (wR g r) D (tyR g) l rm R_M b nL ret S1 q Lc (St) Post) : Ok (wR g r) D (tyR g) l rm R_M b nL ret S pc Lc (.int x :: .ref (r 0) :: St) Post := by
  subst hq; subst hx
  intro p e s m args below meth c A H locs ls hF hY
  exact va_put (D := D) (ci := 2) (v := .int x) (ty := .boolean) (C := R_M) (T := F_M) (N := 27) hF.1.1 hF.1.2.1 hF.1.2.2.2.2.2.2.1 us_M t_M t_M_ok n_M hF.1.2.2.2.2.2.1 hF.1.2.2.2.2.2.2.2 hY.1 hY.2.1 hY.2.2.1 0 rfl rfl 24 (by decide) (hF.1.2.2.2.2.2.2.1 _ wm_61) (fun _ h9 => h9) rfl (by decide +kernel) (ib_nar hb) (ib_fit hb) (Nat.le_of_ble_eq_true rfl) hd (fun H1 locs1 hP1 hD1 hS1 => k p e s m args below meth c A H1 locs1 ls hF ⟨hP1, hD1, hS1, hY.2.2.2⟩)
theorem pf_M_101 {x : Int32} (hx : S1 = fr S 0 10 x) (hd : decode b pc = .ok (.putfield 101, 3)) (hq : pc + 3 = q) (k : Ok (wR g r) D (tyR g) l rm R_M b nL ret S1 q Lc (St) Post) : Ok (wR g r) D (tyR g) l rm R_M b nL ret S pc Lc (.int x :: .ref (r 0) :: St) Post := by
  subst hq; subst hx
  intro p e s m args below meth c A H locs ls hF hY
  exact va_put (D := D) (ci := 2) (v := .int x) (ty := .int) (C := R_M) (T := F_M) (N := 27) hF.1.1 hF.1.2.1 hF.1.2.2.2.2.2.2.1 us_M t_M t_M_ok n_M hF.1.2.2.2.2.2.1 hF.1.2.2.2.2.2.2.2 hY.1 hY.2.1 hY.2.2.1 0 rfl rfl 25 (by decide) (hF.1.2.2.2.2.2.2.1 _ wm_62) (fun _ h9 => h9) rfl (by decide +kernel) rfl rfl (Nat.le_of_ble_eq_true rfl) hd (fun H1 locs1 hP1 hD1 hS1 => k p e s m args below meth c A H1 locs1 ls hF ⟨hP1, hD1, hS1, hY.2.2.2⟩)
theorem pf_M_104 {x : Int32} (hx : S1 = fr S 0 11 x) (hd : decode b pc = .ok (.putfield 104, 3)) (hq : pc + 3 = q) (k : Ok (wR g r) D (tyR g) l rm R_M b nL ret S1 q Lc (St) Post) : Ok (wR g r) D (tyR g) l rm R_M b nL ret S pc Lc (.int x :: .ref (r 0) :: St) Post := by
  subst hq; subst hx
  intro p e s m args below meth c A H locs ls hF hY
  exact va_put (D := D) (ci := 2) (v := .int x) (ty := .int) (C := R_M) (T := F_M) (N := 27) hF.1.1 hF.1.2.1 hF.1.2.2.2.2.2.2.1 us_M t_M t_M_ok n_M hF.1.2.2.2.2.2.1 hF.1.2.2.2.2.2.2.2 hY.1 hY.2.1 hY.2.2.1 0 rfl rfl 26 (by decide) (hF.1.2.2.2.2.2.2.1 _ wm_63) (fun _ h9 => h9) rfl (by decide +kernel) rfl rfl (Nat.le_of_ble_eq_true rfl) hd (fun H1 locs1 hP1 hD1 hS1 => k p e s m args below meth c A H1 locs1 ls hF ⟨hP1, hD1, hS1, hY.2.2.2⟩)
theorem pf_M_170 {x : Int32} (hx : S1 = fr S 0 1 x) (hb : isB x) (hd : decode b pc = .ok (.putfield 170, 3)) (hq : pc + 3 = q) (k : Ok (wR g r) D (tyR g) l rm R_M b nL ret S1 q Lc (St) Post) : Ok (wR g r) D (tyR g) l rm R_M b nL ret S pc Lc (.int x :: .ref (r 0) :: St) Post := by
  subst hq; subst hx
  intro p e s m args below meth c A H locs ls hF hY
  exact va_put (D := D) (ci := 2) (v := .int x) (ty := .boolean) (C := R_M) (T := F_M) (N := 27) hF.1.1 hF.1.2.1 hF.1.2.2.2.2.2.2.1 us_M t_M t_M_ok n_M hF.1.2.2.2.2.2.1 hF.1.2.2.2.2.2.2.2 hY.1 hY.2.1 hY.2.2.1 0 rfl rfl 16 (by decide) (hF.1.2.2.2.2.2.2.1 _ wm_64) (fun _ h9 => h9) rfl (by decide +kernel) (ib_nar hb) (ib_fit hb) (Nat.le_of_ble_eq_true rfl) hd (fun H1 locs1 hP1 hD1 hS1 => k p e s m args below meth c A H1 locs1 ls hF ⟨hP1, hD1, hS1, hY.2.2.2⟩)
theorem al_M_1 {own : String} {j : Int32} {x : Int32} (hj : inB j 48) (hx : x = rr S 1 j) (hd : decode b pc = .ok (.iaload, 1)) (hq : pc + 1 = q) (k : Ok (wR g r) D (tyR g) l rm own b nL ret S q Lc (.int x :: St) Post) : Ok (wR g r) D (tyR g) l rm own b nL ret S pc Lc (.int j :: .ref (r 1) :: St) Post := by
  subst hq; subst hx
  intro p e s m args below meth c A H locs ls hF hY
  exact va_iald (D := D) hF.1.1 hF.1.2.1 hF.1.2.2.2.2.2.2.2 hY.1 1 0 rfl rfl (ib_in hj) hd (k p e s m args below meth c A H locs ls hF hY)
theorem as_M_1 {own : String} {j : Int32} {x : Int32} (hj : inB j 48) (hx : S1 = wr S 1 j x) (hd : decode b pc = .ok (.iastore, 1)) (hq : pc + 1 = q) (k : Ok (wR g r) D (tyR g) l rm own b nL ret S1 q Lc (St) Post) : Ok (wR g r) D (tyR g) l rm own b nL ret S pc Lc (.int x :: .int j :: .ref (r 1) :: St) Post := by
  subst hq; subst hx
  intro p e s m args below meth c A H locs ls hF hY
  exact va_iast (D := D) hF.1.1 hF.1.2.1 hF.1.2.2.2.2.2.2.2 hY.1 hY.2.1 hY.2.2.1 1 0 rfl rfl (ib_in hj) hd (fun H1 locs1 hP1 hD1 hS1 => k p e s m args below meth c A H1 locs1 ls hF ⟨hP1, hD1, hS1, hY.2.2.2⟩)
theorem al_M_2 {own : String} {j : Int32} {x : Int32} (hj : inB j 48) (hx : x = rr S 2 j) (hd : decode b pc = .ok (.iaload, 1)) (hq : pc + 1 = q) (k : Ok (wR g r) D (tyR g) l rm own b nL ret S q Lc (.int x :: St) Post) : Ok (wR g r) D (tyR g) l rm own b nL ret S pc Lc (.int j :: .ref (r 2) :: St) Post := by
  subst hq; subst hx
  intro p e s m args below meth c A H locs ls hF hY
  exact va_iald (D := D) hF.1.1 hF.1.2.1 hF.1.2.2.2.2.2.2.2 hY.1 2 1 rfl rfl (ib_in hj) hd (k p e s m args below meth c A H locs ls hF hY)
theorem as_M_2 {own : String} {j : Int32} {x : Int32} (hj : inB j 48) (hx : S1 = wr S 2 j x) (hd : decode b pc = .ok (.iastore, 1)) (hq : pc + 1 = q) (k : Ok (wR g r) D (tyR g) l rm own b nL ret S1 q Lc (St) Post) : Ok (wR g r) D (tyR g) l rm own b nL ret S pc Lc (.int x :: .int j :: .ref (r 2) :: St) Post := by
  subst hq; subst hx
  intro p e s m args below meth c A H locs ls hF hY
  exact va_iast (D := D) hF.1.1 hF.1.2.1 hF.1.2.2.2.2.2.2.2 hY.1 hY.2.1 hY.2.2.1 2 1 rfl rfl (ib_in hj) hd (fun H1 locs1 hP1 hD1 hS1 => k p e s m args below meth c A H1 locs1 ls hF ⟨hP1, hD1, hS1, hY.2.2.2⟩)
theorem al_M_3 {own : String} {j : Int32} {x : Int32} (hj : inB j 48) (hx : x = rr S 3 j) (hd : decode b pc = .ok (.iaload, 1)) (hq : pc + 1 = q) (k : Ok (wR g r) D (tyR g) l rm own b nL ret S q Lc (.int x :: St) Post) : Ok (wR g r) D (tyR g) l rm own b nL ret S pc Lc (.int j :: .ref (r 3) :: St) Post := by
  subst hq; subst hx
  intro p e s m args below meth c A H locs ls hF hY
  exact va_iald (D := D) hF.1.1 hF.1.2.1 hF.1.2.2.2.2.2.2.2 hY.1 3 2 rfl rfl (ib_in hj) hd (k p e s m args below meth c A H locs ls hF hY)
theorem as_M_3 {own : String} {j : Int32} {x : Int32} (hj : inB j 48) (hx : S1 = wr S 3 j x) (hd : decode b pc = .ok (.iastore, 1)) (hq : pc + 1 = q) (k : Ok (wR g r) D (tyR g) l rm own b nL ret S1 q Lc (St) Post) : Ok (wR g r) D (tyR g) l rm own b nL ret S pc Lc (.int x :: .int j :: .ref (r 3) :: St) Post := by
  subst hq; subst hx
  intro p e s m args below meth c A H locs ls hF hY
  exact va_iast (D := D) hF.1.1 hF.1.2.1 hF.1.2.2.2.2.2.2.2 hY.1 hY.2.1 hY.2.2.1 3 2 rfl rfl (ib_in hj) hd (fun H1 locs1 hP1 hD1 hS1 => k p e s m args below meth c A H1 locs1 ls hF ⟨hP1, hD1, hS1, hY.2.2.2⟩)
theorem al_M_4 {own : String} {j : Int32} {x : Int32} (hj : inB j 48) (hx : x = rr S 4 j) (hd : decode b pc = .ok (.iaload, 1)) (hq : pc + 1 = q) (k : Ok (wR g r) D (tyR g) l rm own b nL ret S q Lc (.int x :: St) Post) : Ok (wR g r) D (tyR g) l rm own b nL ret S pc Lc (.int j :: .ref (r 4) :: St) Post := by
  subst hq; subst hx
  intro p e s m args below meth c A H locs ls hF hY
  exact va_iald (D := D) hF.1.1 hF.1.2.1 hF.1.2.2.2.2.2.2.2 hY.1 4 3 rfl rfl (ib_in hj) hd (k p e s m args below meth c A H locs ls hF hY)
theorem as_M_4 {own : String} {j : Int32} {x : Int32} (hj : inB j 48) (hx : S1 = wr S 4 j x) (hd : decode b pc = .ok (.iastore, 1)) (hq : pc + 1 = q) (k : Ok (wR g r) D (tyR g) l rm own b nL ret S1 q Lc (St) Post) : Ok (wR g r) D (tyR g) l rm own b nL ret S pc Lc (.int x :: .int j :: .ref (r 4) :: St) Post := by
  subst hq; subst hx
  intro p e s m args below meth c A H locs ls hF hY
  exact va_iast (D := D) hF.1.1 hF.1.2.1 hF.1.2.2.2.2.2.2.2 hY.1 hY.2.1 hY.2.2.1 4 3 rfl rfl (ib_in hj) hd (fun H1 locs1 hP1 hD1 hS1 => k p e s m args below meth c A H1 locs1 ls hF ⟨hP1, hD1, hS1, hY.2.2.2⟩)
theorem al_M_5 {own : String} {j : Int32} {x : Int32} (hj : inB j 48) (hx : x = rr S 5 j) (hd : decode b pc = .ok (.iaload, 1)) (hq : pc + 1 = q) (k : Ok (wR g r) D (tyR g) l rm own b nL ret S q Lc (.int x :: St) Post) : Ok (wR g r) D (tyR g) l rm own b nL ret S pc Lc (.int j :: .ref (r 5) :: St) Post := by
  subst hq; subst hx
  intro p e s m args below meth c A H locs ls hF hY
  exact va_iald (D := D) hF.1.1 hF.1.2.1 hF.1.2.2.2.2.2.2.2 hY.1 5 4 rfl rfl (ib_in hj) hd (k p e s m args below meth c A H locs ls hF hY)
theorem as_M_5 {own : String} {j : Int32} {x : Int32} (hj : inB j 48) (hx : S1 = wr S 5 j x) (hd : decode b pc = .ok (.iastore, 1)) (hq : pc + 1 = q) (k : Ok (wR g r) D (tyR g) l rm own b nL ret S1 q Lc (St) Post) : Ok (wR g r) D (tyR g) l rm own b nL ret S pc Lc (.int x :: .int j :: .ref (r 5) :: St) Post := by
  subst hq; subst hx
  intro p e s m args below meth c A H locs ls hF hY
  exact va_iast (D := D) hF.1.1 hF.1.2.1 hF.1.2.2.2.2.2.2.2 hY.1 hY.2.1 hY.2.2.1 5 4 rfl rfl (ib_in hj) hd (fun H1 locs1 hP1 hD1 hS1 => k p e s m args below meth c A H1 locs1 ls hF ⟨hP1, hD1, hS1, hY.2.2.2⟩)
theorem al_M_6 {own : String} {j : Int32} {x : Int32} (hj : inB j 48) (hx : x = rr S 6 j) (hd : decode b pc = .ok (.iaload, 1)) (hq : pc + 1 = q) (k : Ok (wR g r) D (tyR g) l rm own b nL ret S q Lc (.int x :: St) Post) : Ok (wR g r) D (tyR g) l rm own b nL ret S pc Lc (.int j :: .ref (r 6) :: St) Post := by
  subst hq; subst hx
  intro p e s m args below meth c A H locs ls hF hY
  exact va_iald (D := D) hF.1.1 hF.1.2.1 hF.1.2.2.2.2.2.2.2 hY.1 6 5 rfl rfl (ib_in hj) hd (k p e s m args below meth c A H locs ls hF hY)
theorem as_M_6 {own : String} {j : Int32} {x : Int32} (hj : inB j 48) (hx : S1 = wr S 6 j x) (hd : decode b pc = .ok (.iastore, 1)) (hq : pc + 1 = q) (k : Ok (wR g r) D (tyR g) l rm own b nL ret S1 q Lc (St) Post) : Ok (wR g r) D (tyR g) l rm own b nL ret S pc Lc (.int x :: .int j :: .ref (r 6) :: St) Post := by
  subst hq; subst hx
  intro p e s m args below meth c A H locs ls hF hY
  exact va_iast (D := D) hF.1.1 hF.1.2.1 hF.1.2.2.2.2.2.2.2 hY.1 hY.2.1 hY.2.2.1 6 5 rfl rfl (ib_in hj) hd (fun H1 locs1 hP1 hD1 hS1 => k p e s m args below meth c A H1 locs1 ls hF ⟨hP1, hD1, hS1, hY.2.2.2⟩)
theorem al_M_7 {own : String} {j : Int32} {x : Int32} (hj : inB j 48) (hx : x = rr S 7 j) (hd : decode b pc = .ok (.iaload, 1)) (hq : pc + 1 = q) (k : Ok (wR g r) D (tyR g) l rm own b nL ret S q Lc (.int x :: St) Post) : Ok (wR g r) D (tyR g) l rm own b nL ret S pc Lc (.int j :: .ref (r 7) :: St) Post := by
  subst hq; subst hx
  intro p e s m args below meth c A H locs ls hF hY
  exact va_iald (D := D) hF.1.1 hF.1.2.1 hF.1.2.2.2.2.2.2.2 hY.1 7 6 rfl rfl (ib_in hj) hd (k p e s m args below meth c A H locs ls hF hY)
theorem as_M_7 {own : String} {j : Int32} {x : Int32} (hj : inB j 48) (hx : S1 = wr S 7 j x) (hd : decode b pc = .ok (.iastore, 1)) (hq : pc + 1 = q) (k : Ok (wR g r) D (tyR g) l rm own b nL ret S1 q Lc (St) Post) : Ok (wR g r) D (tyR g) l rm own b nL ret S pc Lc (.int x :: .int j :: .ref (r 7) :: St) Post := by
  subst hq; subst hx
  intro p e s m args below meth c A H locs ls hF hY
  exact va_iast (D := D) hF.1.1 hF.1.2.1 hF.1.2.2.2.2.2.2.2 hY.1 hY.2.1 hY.2.2.1 7 6 rfl rfl (ib_in hj) hd (fun H1 locs1 hP1 hD1 hS1 => k p e s m args below meth c A H1 locs1 ls hF ⟨hP1, hD1, hS1, hY.2.2.2⟩)
theorem al_M_8 {own : String} {j : Int32} {x : Int32} (hj : inB j 48) (hx : x = rr S 8 j) (hd : decode b pc = .ok (.baload, 1)) (hq : pc + 1 = q) (k : Ok (wR g r) D (tyR g) l rm own b nL ret S q Lc (.int x :: St) Post) : Ok (wR g r) D (tyR g) l rm own b nL ret S pc Lc (.int j :: .ref (r 8) :: St) Post := by
  subst hq; subst hx
  intro p e s m args below meth c A H locs ls hF hY
  exact va_zald (D := D) hF.1.1 hF.1.2.1 hF.1.2.2.2.2.2.2.2 hY.1 8 7 rfl rfl (ib_in hj) hd (k p e s m args below meth c A H locs ls hF hY)
theorem as_M_8 {own : String} {j : Int32} {x : Int32} (hj : inB j 48) (hx : S1 = wr S 8 j x) (hb : isB x) (hd : decode b pc = .ok (.bastore, 1)) (hq : pc + 1 = q) (k : Ok (wR g r) D (tyR g) l rm own b nL ret S1 q Lc (St) Post) : Ok (wR g r) D (tyR g) l rm own b nL ret S pc Lc (.int x :: .int j :: .ref (r 8) :: St) Post := by
  subst hq; subst hx
  intro p e s m args below meth c A H locs ls hF hY
  exact va_zast (D := D) hF.1.1 hF.1.2.1 hF.1.2.2.2.2.2.2.2 hY.1 hY.2.1 hY.2.2.1 8 7 rfl rfl (ib_in hj) hd (fun H1 locs1 hP1 hD1 hS1 => by rw [ib_vp hb] at hP1 hD1; exact k p e s m args below meth c A H1 locs1 ls hF ⟨hP1, hD1, hS1, hY.2.2.2⟩)
theorem al_M_9 {own : String} {j : Int32} {x : Int32} (hj : inB j 48) (hx : x = rr S 9 j) (hd : decode b pc = .ok (.iaload, 1)) (hq : pc + 1 = q) (k : Ok (wR g r) D (tyR g) l rm own b nL ret S q Lc (.int x :: St) Post) : Ok (wR g r) D (tyR g) l rm own b nL ret S pc Lc (.int j :: .ref (r 9) :: St) Post := by
  subst hq; subst hx
  intro p e s m args below meth c A H locs ls hF hY
  exact va_iald (D := D) hF.1.1 hF.1.2.1 hF.1.2.2.2.2.2.2.2 hY.1 9 8 rfl rfl (ib_in hj) hd (k p e s m args below meth c A H locs ls hF hY)
theorem as_M_9 {own : String} {j : Int32} {x : Int32} (hj : inB j 48) (hx : S1 = wr S 9 j x) (hd : decode b pc = .ok (.iastore, 1)) (hq : pc + 1 = q) (k : Ok (wR g r) D (tyR g) l rm own b nL ret S1 q Lc (St) Post) : Ok (wR g r) D (tyR g) l rm own b nL ret S pc Lc (.int x :: .int j :: .ref (r 9) :: St) Post := by
  subst hq; subst hx
  intro p e s m args below meth c A H locs ls hF hY
  exact va_iast (D := D) hF.1.1 hF.1.2.1 hF.1.2.2.2.2.2.2.2 hY.1 hY.2.1 hY.2.2.1 9 8 rfl rfl (ib_in hj) hd (fun H1 locs1 hP1 hD1 hS1 => k p e s m args below meth c A H1 locs1 ls hF ⟨hP1, hD1, hS1, hY.2.2.2⟩)
theorem al_M_10 {own : String} {j : Int32} {x : Int32} (hj : inB j 48) (hx : x = rr S 10 j) (hd : decode b pc = .ok (.iaload, 1)) (hq : pc + 1 = q) (k : Ok (wR g r) D (tyR g) l rm own b nL ret S q Lc (.int x :: St) Post) : Ok (wR g r) D (tyR g) l rm own b nL ret S pc Lc (.int j :: .ref (r 10) :: St) Post := by
  subst hq; subst hx
  intro p e s m args below meth c A H locs ls hF hY
  exact va_iald (D := D) hF.1.1 hF.1.2.1 hF.1.2.2.2.2.2.2.2 hY.1 10 9 rfl rfl (ib_in hj) hd (k p e s m args below meth c A H locs ls hF hY)
theorem as_M_10 {own : String} {j : Int32} {x : Int32} (hj : inB j 48) (hx : S1 = wr S 10 j x) (hd : decode b pc = .ok (.iastore, 1)) (hq : pc + 1 = q) (k : Ok (wR g r) D (tyR g) l rm own b nL ret S1 q Lc (St) Post) : Ok (wR g r) D (tyR g) l rm own b nL ret S pc Lc (.int x :: .int j :: .ref (r 10) :: St) Post := by
  subst hq; subst hx
  intro p e s m args below meth c A H locs ls hF hY
  exact va_iast (D := D) hF.1.1 hF.1.2.1 hF.1.2.2.2.2.2.2.2 hY.1 hY.2.1 hY.2.2.1 10 9 rfl rfl (ib_in hj) hd (fun H1 locs1 hP1 hD1 hS1 => k p e s m args below meth c A H1 locs1 ls hF ⟨hP1, hD1, hS1, hY.2.2.2⟩)
theorem al_M_11 {own : String} {j : Int32} {x : Int32} (hj : inB j 48) (hx : x = rr S 11 j) (hd : decode b pc = .ok (.baload, 1)) (hq : pc + 1 = q) (k : Ok (wR g r) D (tyR g) l rm own b nL ret S q Lc (.int x :: St) Post) : Ok (wR g r) D (tyR g) l rm own b nL ret S pc Lc (.int j :: .ref (r 11) :: St) Post := by
  subst hq; subst hx
  intro p e s m args below meth c A H locs ls hF hY
  exact va_zald (D := D) hF.1.1 hF.1.2.1 hF.1.2.2.2.2.2.2.2 hY.1 11 10 rfl rfl (ib_in hj) hd (k p e s m args below meth c A H locs ls hF hY)
theorem as_M_11 {own : String} {j : Int32} {x : Int32} (hj : inB j 48) (hx : S1 = wr S 11 j x) (hb : isB x) (hd : decode b pc = .ok (.bastore, 1)) (hq : pc + 1 = q) (k : Ok (wR g r) D (tyR g) l rm own b nL ret S1 q Lc (St) Post) : Ok (wR g r) D (tyR g) l rm own b nL ret S pc Lc (.int x :: .int j :: .ref (r 11) :: St) Post := by
  subst hq; subst hx
  intro p e s m args below meth c A H locs ls hF hY
  exact va_zast (D := D) hF.1.1 hF.1.2.1 hF.1.2.2.2.2.2.2.2 hY.1 hY.2.1 hY.2.2.1 11 10 rfl rfl (ib_in hj) hd (fun H1 locs1 hP1 hD1 hS1 => by rw [ib_vp hb] at hP1 hD1; exact k p e s m args below meth c A H1 locs1 ls hF ⟨hP1, hD1, hS1, hY.2.2.2⟩)
theorem al_M_12 {own : String} {j : Int32} {x : Int32} (hj : inB j 6) (hx : x = rr S 12 j) (hd : decode b pc = .ok (.baload, 1)) (hq : pc + 1 = q) (k : Ok (wR g r) D (tyR g) l rm own b nL ret S q Lc (.int x :: St) Post) : Ok (wR g r) D (tyR g) l rm own b nL ret S pc Lc (.int j :: .ref (r 12) :: St) Post := by
  subst hq; subst hx
  intro p e s m args below meth c A H locs ls hF hY
  exact va_zald (D := D) hF.1.1 hF.1.2.1 hF.1.2.2.2.2.2.2.2 hY.1 12 11 rfl rfl (ib_in hj) hd (k p e s m args below meth c A H locs ls hF hY)
theorem as_M_12 {own : String} {j : Int32} {x : Int32} (hj : inB j 6) (hx : S1 = wr S 12 j x) (hb : isB x) (hd : decode b pc = .ok (.bastore, 1)) (hq : pc + 1 = q) (k : Ok (wR g r) D (tyR g) l rm own b nL ret S1 q Lc (St) Post) : Ok (wR g r) D (tyR g) l rm own b nL ret S pc Lc (.int x :: .int j :: .ref (r 12) :: St) Post := by
  subst hq; subst hx
  intro p e s m args below meth c A H locs ls hF hY
  exact va_zast (D := D) hF.1.1 hF.1.2.1 hF.1.2.2.2.2.2.2.2 hY.1 hY.2.1 hY.2.2.1 12 11 rfl rfl (ib_in hj) hd (fun H1 locs1 hP1 hD1 hS1 => by rw [ib_vp hb] at hP1 hD1; exact k p e s m args below meth c A H1 locs1 ls hF ⟨hP1, hD1, hS1, hY.2.2.2⟩)
theorem al_M_13 {own : String} {j : Int32} {x : Int32} (hj : inB j 6) (hx : x = rr S 13 j) (hd : decode b pc = .ok (.baload, 1)) (hq : pc + 1 = q) (k : Ok (wR g r) D (tyR g) l rm own b nL ret S q Lc (.int x :: St) Post) : Ok (wR g r) D (tyR g) l rm own b nL ret S pc Lc (.int j :: .ref (r 13) :: St) Post := by
  subst hq; subst hx
  intro p e s m args below meth c A H locs ls hF hY
  exact va_zald (D := D) hF.1.1 hF.1.2.1 hF.1.2.2.2.2.2.2.2 hY.1 13 12 rfl rfl (ib_in hj) hd (k p e s m args below meth c A H locs ls hF hY)
theorem as_M_13 {own : String} {j : Int32} {x : Int32} (hj : inB j 6) (hx : S1 = wr S 13 j x) (hb : isB x) (hd : decode b pc = .ok (.bastore, 1)) (hq : pc + 1 = q) (k : Ok (wR g r) D (tyR g) l rm own b nL ret S1 q Lc (St) Post) : Ok (wR g r) D (tyR g) l rm own b nL ret S pc Lc (.int x :: .int j :: .ref (r 13) :: St) Post := by
  subst hq; subst hx
  intro p e s m args below meth c A H locs ls hF hY
  exact va_zast (D := D) hF.1.1 hF.1.2.1 hF.1.2.2.2.2.2.2.2 hY.1 hY.2.1 hY.2.2.1 13 12 rfl rfl (ib_in hj) hd (fun H1 locs1 hP1 hD1 hS1 => by rw [ib_vp hb] at hP1 hD1; exact k p e s m args below meth c A H1 locs1 ls hF ⟨hP1, hD1, hS1, hY.2.2.2⟩)
theorem al_M_14 {own : String} {j : Int32} {x : Int32} (hj : inB j 6) (hx : x = rr S 14 j) (hd : decode b pc = .ok (.baload, 1)) (hq : pc + 1 = q) (k : Ok (wR g r) D (tyR g) l rm own b nL ret S q Lc (.int x :: St) Post) : Ok (wR g r) D (tyR g) l rm own b nL ret S pc Lc (.int j :: .ref (r 14) :: St) Post := by
  subst hq; subst hx
  intro p e s m args below meth c A H locs ls hF hY
  exact va_zald (D := D) hF.1.1 hF.1.2.1 hF.1.2.2.2.2.2.2.2 hY.1 14 13 rfl rfl (ib_in hj) hd (k p e s m args below meth c A H locs ls hF hY)
theorem as_M_14 {own : String} {j : Int32} {x : Int32} (hj : inB j 6) (hx : S1 = wr S 14 j x) (hb : isB x) (hd : decode b pc = .ok (.bastore, 1)) (hq : pc + 1 = q) (k : Ok (wR g r) D (tyR g) l rm own b nL ret S1 q Lc (St) Post) : Ok (wR g r) D (tyR g) l rm own b nL ret S pc Lc (.int x :: .int j :: .ref (r 14) :: St) Post := by
  subst hq; subst hx
  intro p e s m args below meth c A H locs ls hF hY
  exact va_zast (D := D) hF.1.1 hF.1.2.1 hF.1.2.2.2.2.2.2.2 hY.1 hY.2.1 hY.2.2.1 14 13 rfl rfl (ib_in hj) hd (fun H1 locs1 hP1 hD1 hS1 => by rw [ib_vp hb] at hP1 hD1; exact k p e s m args below meth c A H1 locs1 ls hF ⟨hP1, hD1, hS1, hY.2.2.2⟩)
theorem al_M_15 {own : String} {j : Int32} {x : Int32} (hj : inB j 6) (hx : x = rr S 15 j) (hd : decode b pc = .ok (.iaload, 1)) (hq : pc + 1 = q) (k : Ok (wR g r) D (tyR g) l rm own b nL ret S q Lc (.int x :: St) Post) : Ok (wR g r) D (tyR g) l rm own b nL ret S pc Lc (.int j :: .ref (r 15) :: St) Post := by
  subst hq; subst hx
  intro p e s m args below meth c A H locs ls hF hY
  exact va_iald (D := D) hF.1.1 hF.1.2.1 hF.1.2.2.2.2.2.2.2 hY.1 15 14 rfl rfl (ib_in hj) hd (k p e s m args below meth c A H locs ls hF hY)
theorem as_M_15 {own : String} {j : Int32} {x : Int32} (hj : inB j 6) (hx : S1 = wr S 15 j x) (hd : decode b pc = .ok (.iastore, 1)) (hq : pc + 1 = q) (k : Ok (wR g r) D (tyR g) l rm own b nL ret S1 q Lc (St) Post) : Ok (wR g r) D (tyR g) l rm own b nL ret S pc Lc (.int x :: .int j :: .ref (r 15) :: St) Post := by
  subst hq; subst hx
  intro p e s m args below meth c A H locs ls hF hY
  exact va_iast (D := D) hF.1.1 hF.1.2.1 hF.1.2.2.2.2.2.2.2 hY.1 hY.2.1 hY.2.2.1 15 14 rfl rfl (ib_in hj) hd (fun H1 locs1 hP1 hD1 hS1 => k p e s m args below meth c A H1 locs1 ls hF ⟨hP1, hD1, hS1, hY.2.2.2⟩)
end ROWSM
end ROWS
end
