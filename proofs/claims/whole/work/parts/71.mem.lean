/-! The words are among those of the tables. -/
theorem lw_sub {ws : List Cond} (ps : List Nat) (h : ws = ps.filterMap (fun i => lw_tbl[i]?)) : ∀ w ∈ ws, w ∈ lw_tbl := fun w hw => by
  rw [h] at hw
  obtain ⟨i, -, hi⟩ := List.mem_filterMap.mp hw
  exact List.mem_of_getElem? hi
set_option maxRecDepth 100000 in
theorem lm_0 : ∀ w ∈ w_l0, w ∈ lw_tbl := lw_sub [195, 196, 197, 198, 183, 167, 294, 293, 608, 609, 607, 606, 605, 685, 66, 68, 70, 72, 74, 76, 78, 80, 83, 85, 113, 114, 115, 82, 79, 77, 67, 75, 84, 71, 69, 73, 81, 86, 443, 444] (by decide +kernel)
set_option maxRecDepth 100000 in
theorem lm_1 : ∀ w ∈ w_l1, w ∈ lw_tbl := lw_sub [445, 446, 447, 448, 449, 450, 451, 452, 453, 454, 455, 456, 457, 458, 460, 461, 462, 463, 464, 465, 466, 467, 468, 469, 459, 146, 143, 144, 145, 48, 149, 147, 148, 50, 194, 192, 193, 51, 191, 188] (by decide +kernel)
set_option maxRecDepth 100000 in
theorem lm_2 : ∀ w ∈ w_l2, w ∈ lw_tbl := lw_sub [189, 190, 142, 139, 140, 141, 152, 150, 151, 374, 393, 372, 373, 377, 375, 376, 218, 354, 216, 217, 243, 240, 242, 13, 247, 244, 246, 14, 560, 557, 559, 31, 49, 592, 589, 591, 39, 540, 537, 539] (by decide +kernel)
set_option maxRecDepth 100000 in
theorem lm_3 : ∀ w ∈ w_l3, w ∈ lw_tbl := lw_sub [27, 588, 585, 587, 38, 596, 593, 595, 40, 580, 577, 579, 36, 576, 573, 575, 35, 584, 581, 583, 37, 556, 553, 554, 555, 568, 565, 567, 33, 564, 561, 563, 32, 572, 569, 571, 34, 536, 533, 535] (by decide +kernel)
set_option maxRecDepth 100000 in
theorem lm_4 : ∀ w ∈ w_l4, w ∈ lw_tbl := lw_sub [26, 532, 529, 531, 25, 544, 541, 543, 28, 548, 545, 547, 29, 552, 549, 551, 30, 617, 614, 616, 41, 625, 622, 624, 42, 633, 630, 632, 43, 665, 662, 664, 45, 661, 658, 660, 44, 676, 674, 675] (by decide +kernel)
set_option maxRecDepth 100000 in
theorem lm_5 : ∀ w ∈ w_l5, w ∈ lw_tbl := lw_sub [130, 127, 129, 0, 47, 171, 168, 170, 4, 202, 199, 201, 7, 206, 203, 205, 8, 265, 263, 264, 232, 229, 231, 12, 262, 259, 261, 15, 273, 270, 272, 16, 163, 160, 162, 3, 280, 278, 279, 138] (by decide +kernel)
set_option maxRecDepth 100000 in
theorem lm_6 : ∀ w ∈ w_l6, w ∈ lw_tbl := lw_sub [135, 136, 137, 155, 281, 154, 285, 282, 284, 18, 187, 184, 185, 186, 302, 299, 301, 19, 277, 274, 276, 17, 310, 307, 309, 20, 313, 311, 312, 321, 318, 320, 21, 134, 131, 133, 1, 159, 156, 158] (by decide +kernel)
set_option maxRecDepth 100000 in
theorem lm_7 : ∀ w ∈ w_l7, w ∈ lw_tbl := lw_sub [2, 178, 176, 177, 182, 179, 181, 6, 345, 342, 343, 344, 349, 346, 347, 348, 353, 350, 351, 352, 362, 359, 360, 361, 366, 363, 364, 365, 370, 367, 369, 22, 397, 394, 396, 24, 408, 406, 407, 415] (by decide +kernel)
set_option maxRecDepth 100000 in
theorem lm_8 : ∀ w ∈ w_l8, w ∈ lw_tbl := lw_sub [412, 413, 414, 411, 409, 410, 424, 210, 207, 208, 209, 166, 164, 165, 175, 172, 174, 5, 235, 233, 234, 239, 236, 237, 238, 250, 248, 249, 254, 251, 252, 253, 228, 288, 286, 287, 227, 224, 226, 11] (by decide +kernel)
set_option maxRecDepth 100000 in
theorem lm_9 : ∀ w ∈ w_l9, w ∈ lw_tbl := lw_sub [214, 211, 213, 9, 222, 219, 221, 10, 215, 223, 258, 255, 256, 257, 371, 382, 379, 381, 23, 385, 383, 384, 388, 386, 387, 392, 389, 390, 391, 153, 378, 126, 269, 292, 298, 306, 317, 325, 329, 333] (by decide +kernel)
set_option maxRecDepth 100000 in
theorem lm_10 : ∀ w ∈ w_l10, w ∈ lw_tbl := lw_sub [337, 341, 358, 401, 405, 419, 423, 428, 432, 436, 528, 600, 604, 613, 621, 629, 637, 641, 645, 649, 653, 657, 669, 673, 680, 684, 690, 694] (by decide +kernel)
set_option maxRecDepth 100000 in
theorem lm_S : ∀ w ∈ w_S, w ∈ lw_tbl := lw_sub [116, 118, 120] (by decide +kernel)
set_option maxRecDepth 100000 in
theorem lm_C : ∀ w ∈ w_C, w ∈ lw_tbl := lw_sub [87, 89, 91, 93, 95, 97, 99, 101, 103, 105, 107] (by decide +kernel)
set_option maxRecDepth 100000 in
theorem lm_M : ∀ w ∈ w_M, w ∈ lw_tbl := lw_sub [470, 472, 474, 476, 478, 480, 482, 484, 486, 488, 490, 492, 494, 496, 498, 500, 502, 504, 506, 508, 510, 512, 514, 516, 518, 520, 522] (by decide +kernel)
set_option maxRecDepth 100000 in
theorem lm_i : ∀ w ∈ w_i0, w ∈ lw_tbl := lw_sub [58, 59, 64, 65, 110, 66, 68, 111, 70, 72, 74, 112, 76, 78, 80, 81, 83, 85, 442, 443, 444, 445, 446, 447, 448, 449, 450, 451, 452, 453, 454, 455, 456, 457, 458, 460, 57, 60, 61, 48, 63, 113, 114, 115] (by decide +kernel)
theorem wa_in : ∀ w ∈ w_all, w ∈ lw_tbl := List.forall_mem_append.mpr ⟨lm_0, List.forall_mem_append.mpr ⟨lm_1, List.forall_mem_append.mpr ⟨lm_2, List.forall_mem_append.mpr ⟨lm_3, List.forall_mem_append.mpr ⟨lm_4, List.forall_mem_append.mpr ⟨lm_5, List.forall_mem_append.mpr ⟨lm_6, List.forall_mem_append.mpr ⟨lm_7, List.forall_mem_append.mpr ⟨lm_8, List.forall_mem_append.mpr ⟨lm_9, List.forall_mem_append.mpr ⟨lm_10, List.forall_mem_append.mpr ⟨lm_S, List.forall_mem_append.mpr ⟨lm_C, lm_M⟩⟩⟩⟩⟩⟩⟩⟩⟩⟩⟩⟩⟩
theorem wi_in : ∀ w ∈ w_ini, w ∈ lw_tbl := List.forall_mem_append.mpr ⟨lm_i, List.forall_mem_append.mpr ⟨lm_S, List.forall_mem_append.mpr ⟨lm_C, lm_M⟩⟩⟩
theorem nest_in : (Cond.methodLinkNest R_S 11 y_C_init "SpareTagFlash") ∈ lw_tbl := List.mem_of_getElem? (i := 62) (by decide +kernel)
def R_law : String := "SpareTagFlashLaw"
def w_v0 : List Cond := [.classLink R_law 7 R_S, .instantiable R_S 3, .initialized R_S, .classLink R_law 10 R_M, .instantiable R_M 27, .initialized R_M, .methodLink R_law 9 y_S_init, .instanceMethod y_S_init, .code y_S_init b_S_init 1 none, .methodLink R_law 12 y_M_init, .instanceMethod y_M_init, .code y_M_init b_M_init 1 none, .methodLink R_law 13 y_S_create, .instanceMethod y_S_create, .selects R_S y_S_create y_S_create, .methodLink R_law 17 y_M_create, .instanceMethod y_M_create, .selects R_M y_M_create y_M_create, .methodLink R_law 18 y_S_write, .instanceMethod y_S_write, .selects R_S y_S_write y_S_write, .methodLink R_law 22 y_M_write, .instanceMethod y_M_write, .selects R_M y_M_write y_M_write, .methodLink R_law 23 y_S_read, .instanceMethod y_S_read, .selects R_S y_S_read y_S_read, .methodLink R_law 27 y_M_read, .instanceMethod y_M_read, .selects R_M y_M_read y_M_read]
set_option maxRecDepth 100000 in
theorem lm_v0 : ∀ w ∈ w_v0, w ∈ lw_tbl := lw_sub [52, 53, 47, 437, 438, 49, 54, 55, 56, 439, 440, 441, 123, 124, 125, 525, 526, 527, 266, 267, 268, 597, 598, 599, 289, 290, 291, 601, 602, 603] (by decide +kernel)
def w_v1 : List Cond := [.methodLink R_law 28 y_S_truncate, .instanceMethod y_S_truncate, .selects R_S y_S_truncate y_S_truncate, .methodLink R_law 32 y_M_truncate, .instanceMethod y_M_truncate, .selects R_M y_M_truncate y_M_truncate, .methodLink R_law 33 y_S_move, .instanceMethod y_S_move, .selects R_S y_S_move y_S_move, .methodLink R_law 36 y_M_move, .instanceMethod y_M_move, .selects R_M y_M_move y_M_move, .methodLink R_law 37 y_S_remove, .instanceMethod y_S_remove, .selects R_S y_S_remove y_S_remove, .methodLink R_law 41 y_M_remove, .instanceMethod y_M_remove, .selects R_M y_M_remove y_M_remove, .methodLink R_law 42 y_S_find, .instanceMethod y_S_find, .selects R_S y_S_find y_S_find, .methodLink R_law 45 y_M_find, .instanceMethod y_M_find, .selects R_M y_M_find y_M_find, .methodLink R_law 46 y_S_size, .instanceMethod y_S_size, .selects R_S y_S_size y_S_size, .methodLink R_law 49 y_M_size, .instanceMethod y_M_size, .selects R_M y_M_size y_M_size]
set_option maxRecDepth 100000 in
theorem lm_v1 : ∀ w ∈ w_v1, w ∈ lw_tbl := lw_sub [295, 296, 297, 610, 611, 612, 303, 304, 305, 618, 619, 620, 314, 315, 316, 626, 627, 628, 322, 323, 324, 634, 635, 636, 326, 327, 328, 638, 639, 640] (by decide +kernel)
def w_v2 : List Cond := [.methodLink R_law 50 y_S_parentOf, .instanceMethod y_S_parentOf, .selects R_S y_S_parentOf y_S_parentOf, .methodLink R_law 53 y_M_parentOf, .instanceMethod y_M_parentOf, .selects R_M y_M_parentOf y_M_parentOf, .methodLink R_law 54 y_S_nameOf, .instanceMethod y_S_nameOf, .selects R_S y_S_nameOf y_S_nameOf, .methodLink R_law 58 y_M_nameOf, .instanceMethod y_M_nameOf, .selects R_M y_M_nameOf y_M_nameOf, .methodLink R_law 59 y_S_checkpoint, .instanceMethod y_S_checkpoint, .selects R_S y_S_checkpoint y_S_checkpoint, .methodLink R_law 63 y_M_checkpoint, .instanceMethod y_M_checkpoint, .selects R_M y_M_checkpoint y_M_checkpoint, .methodLink R_law 64 y_S_mount, .instanceMethod y_S_mount, .selects R_S y_S_mount y_S_mount, .methodLink R_law 68 y_M_mount, .instanceMethod y_M_mount, .selects R_M y_M_mount y_M_mount, .methodLink R_law 69 y_S_cut, .instanceMethod y_S_cut, .selects R_S y_S_cut y_S_cut, .methodLink R_law 73 y_M_cut, .instanceMethod y_M_cut, .selects R_M y_M_cut y_M_cut]
set_option maxRecDepth 100000 in
theorem lm_v2 : ∀ w ∈ w_v2, w ∈ lw_tbl := lw_sub [330, 331, 332, 642, 643, 644, 334, 335, 336, 646, 647, 648, 338, 339, 340, 650, 651, 652, 355, 356, 357, 654, 655, 656, 398, 399, 400, 666, 667, 668] (by decide +kernel)
def w_v3 : List Cond := [.methodLink R_law 74 y_S_flip, .instanceMethod y_S_flip, .selects R_S y_S_flip y_S_flip, .methodLink R_law 78 y_M_flip, .instanceMethod y_M_flip, .selects R_M y_M_flip y_M_flip, .methodLink R_law 79 y_S_wear, .instanceMethod y_S_wear, .selects R_S y_S_wear y_S_wear, .methodLink R_law 83 y_M_wear, .instanceMethod y_M_wear, .selects R_M y_M_wear y_M_wear, .methodLink R_law 84 y_S_tags, .instanceMethod y_S_tags, .selects R_S y_S_tags y_S_tags, .methodLink R_law 87 y_M_tags, .instanceMethod y_M_tags, .selects R_M y_M_tags y_M_tags, .methodLink R_law 88 y_S_free, .instanceMethod y_S_free, .selects R_S y_S_free y_S_free, .methodLink R_law 91 y_M_free, .instanceMethod y_M_free, .selects R_M y_M_free y_M_free, .methodLink R_law 92 y_S_erases, .instanceMethod y_S_erases, .selects R_S y_S_erases y_S_erases, .methodLink R_law 95 y_M_erases, .instanceMethod y_M_erases, .selects R_M y_M_erases y_M_erases]
set_option maxRecDepth 100000 in
theorem lm_v3 : ∀ w ∈ w_v3, w ∈ lw_tbl := lw_sub [402, 403, 404, 670, 671, 672, 416, 417, 418, 677, 678, 679, 420, 421, 422, 681, 682, 683, 425, 426, 427, 686, 554, 555, 429, 430, 431, 687, 688, 689] (by decide +kernel)
def w_v4 : List Cond := [.methodLink R_law 96 y_S_steps, .instanceMethod y_S_steps, .selects R_S y_S_steps y_S_steps, .methodLink R_law 99 y_M_steps, .instanceMethod y_M_steps, .selects R_M y_M_steps y_M_steps]
set_option maxRecDepth 100000 in
theorem lm_v4 : ∀ w ∈ w_v4, w ∈ lw_tbl := lw_sub [433, 434, 435, 691, 692, 693] (by decide +kernel)
def w_law : List Cond := w_v0 ++ (w_v1 ++ (w_v2 ++ (w_v3 ++ (w_v4))))
theorem wl_in : ∀ w ∈ w_law, w ∈ lw_tbl := List.forall_mem_append.mpr ⟨lm_v0, List.forall_mem_append.mpr ⟨lm_v1, List.forall_mem_append.mpr ⟨lm_v2, List.forall_mem_append.mpr ⟨lm_v3, lm_v4⟩⟩⟩⟩
theorem vm_0 : (Cond.classLink R_law 7 R_S) ∈ w_law := List.mem_append_left _ (List.mem_of_getElem? (i := 0) rfl)
theorem vm_1 : (Cond.instantiable R_S 3) ∈ w_law := List.mem_append_left _ (List.mem_of_getElem? (i := 1) rfl)
theorem vm_2 : (Cond.initialized R_S) ∈ w_law := List.mem_append_left _ (List.mem_of_getElem? (i := 2) rfl)
theorem vm_3 : (Cond.classLink R_law 10 R_M) ∈ w_law := List.mem_append_left _ (List.mem_of_getElem? (i := 3) rfl)
theorem vm_4 : (Cond.instantiable R_M 27) ∈ w_law := List.mem_append_left _ (List.mem_of_getElem? (i := 4) rfl)
theorem vm_5 : (Cond.initialized R_M) ∈ w_law := List.mem_append_left _ (List.mem_of_getElem? (i := 5) rfl)
theorem vm_6 : (Cond.methodLink R_law 9 y_S_init) ∈ w_law := List.mem_append_left _ (List.mem_of_getElem? (i := 6) rfl)
theorem vm_7 : (Cond.instanceMethod y_S_init) ∈ w_law := List.mem_append_left _ (List.mem_of_getElem? (i := 7) rfl)
theorem vm_8 : (Cond.code y_S_init b_S_init 1 none) ∈ w_law := List.mem_append_left _ (List.mem_of_getElem? (i := 8) rfl)
theorem vm_9 : (Cond.methodLink R_law 12 y_M_init) ∈ w_law := List.mem_append_left _ (List.mem_of_getElem? (i := 9) rfl)
theorem vm_10 : (Cond.instanceMethod y_M_init) ∈ w_law := List.mem_append_left _ (List.mem_of_getElem? (i := 10) rfl)
theorem vm_11 : (Cond.code y_M_init b_M_init 1 none) ∈ w_law := List.mem_append_left _ (List.mem_of_getElem? (i := 11) rfl)
theorem vm_12 : (Cond.methodLink R_law 13 y_S_create) ∈ w_law := List.mem_append_left _ (List.mem_of_getElem? (i := 12) rfl)
theorem vm_13 : (Cond.instanceMethod y_S_create) ∈ w_law := List.mem_append_left _ (List.mem_of_getElem? (i := 13) rfl)
theorem vm_14 : (Cond.selects R_S y_S_create y_S_create) ∈ w_law := List.mem_append_left _ (List.mem_of_getElem? (i := 14) rfl)
theorem vm_15 : (Cond.methodLink R_law 17 y_M_create) ∈ w_law := List.mem_append_left _ (List.mem_of_getElem? (i := 15) rfl)
theorem vm_16 : (Cond.instanceMethod y_M_create) ∈ w_law := List.mem_append_left _ (List.mem_of_getElem? (i := 16) rfl)
theorem vm_17 : (Cond.selects R_M y_M_create y_M_create) ∈ w_law := List.mem_append_left _ (List.mem_of_getElem? (i := 17) rfl)
theorem vm_18 : (Cond.methodLink R_law 18 y_S_write) ∈ w_law := List.mem_append_left _ (List.mem_of_getElem? (i := 18) rfl)
theorem vm_19 : (Cond.instanceMethod y_S_write) ∈ w_law := List.mem_append_left _ (List.mem_of_getElem? (i := 19) rfl)
theorem vm_20 : (Cond.selects R_S y_S_write y_S_write) ∈ w_law := List.mem_append_left _ (List.mem_of_getElem? (i := 20) rfl)
theorem vm_21 : (Cond.methodLink R_law 22 y_M_write) ∈ w_law := List.mem_append_left _ (List.mem_of_getElem? (i := 21) rfl)
theorem vm_22 : (Cond.instanceMethod y_M_write) ∈ w_law := List.mem_append_left _ (List.mem_of_getElem? (i := 22) rfl)
theorem vm_23 : (Cond.selects R_M y_M_write y_M_write) ∈ w_law := List.mem_append_left _ (List.mem_of_getElem? (i := 23) rfl)
theorem vm_24 : (Cond.methodLink R_law 23 y_S_read) ∈ w_law := List.mem_append_left _ (List.mem_of_getElem? (i := 24) rfl)
theorem vm_25 : (Cond.instanceMethod y_S_read) ∈ w_law := List.mem_append_left _ (List.mem_of_getElem? (i := 25) rfl)
theorem vm_26 : (Cond.selects R_S y_S_read y_S_read) ∈ w_law := List.mem_append_left _ (List.mem_of_getElem? (i := 26) rfl)
theorem vm_27 : (Cond.methodLink R_law 27 y_M_read) ∈ w_law := List.mem_append_left _ (List.mem_of_getElem? (i := 27) rfl)
theorem vm_28 : (Cond.instanceMethod y_M_read) ∈ w_law := List.mem_append_left _ (List.mem_of_getElem? (i := 28) rfl)
theorem vm_29 : (Cond.selects R_M y_M_read y_M_read) ∈ w_law := List.mem_append_left _ (List.mem_of_getElem? (i := 29) rfl)
theorem vm_30 : (Cond.methodLink R_law 28 y_S_truncate) ∈ w_law := List.mem_append_right _ (List.mem_append_left _ (List.mem_of_getElem? (i := 0) rfl))
theorem vm_31 : (Cond.instanceMethod y_S_truncate) ∈ w_law := List.mem_append_right _ (List.mem_append_left _ (List.mem_of_getElem? (i := 1) rfl))
theorem vm_32 : (Cond.selects R_S y_S_truncate y_S_truncate) ∈ w_law := List.mem_append_right _ (List.mem_append_left _ (List.mem_of_getElem? (i := 2) rfl))
theorem vm_33 : (Cond.methodLink R_law 32 y_M_truncate) ∈ w_law := List.mem_append_right _ (List.mem_append_left _ (List.mem_of_getElem? (i := 3) rfl))
theorem vm_34 : (Cond.instanceMethod y_M_truncate) ∈ w_law := List.mem_append_right _ (List.mem_append_left _ (List.mem_of_getElem? (i := 4) rfl))
theorem vm_35 : (Cond.selects R_M y_M_truncate y_M_truncate) ∈ w_law := List.mem_append_right _ (List.mem_append_left _ (List.mem_of_getElem? (i := 5) rfl))
theorem vm_36 : (Cond.methodLink R_law 33 y_S_move) ∈ w_law := List.mem_append_right _ (List.mem_append_left _ (List.mem_of_getElem? (i := 6) rfl))
theorem vm_37 : (Cond.instanceMethod y_S_move) ∈ w_law := List.mem_append_right _ (List.mem_append_left _ (List.mem_of_getElem? (i := 7) rfl))
theorem vm_38 : (Cond.selects R_S y_S_move y_S_move) ∈ w_law := List.mem_append_right _ (List.mem_append_left _ (List.mem_of_getElem? (i := 8) rfl))
theorem vm_39 : (Cond.methodLink R_law 36 y_M_move) ∈ w_law := List.mem_append_right _ (List.mem_append_left _ (List.mem_of_getElem? (i := 9) rfl))
theorem vm_40 : (Cond.instanceMethod y_M_move) ∈ w_law := List.mem_append_right _ (List.mem_append_left _ (List.mem_of_getElem? (i := 10) rfl))
theorem vm_41 : (Cond.selects R_M y_M_move y_M_move) ∈ w_law := List.mem_append_right _ (List.mem_append_left _ (List.mem_of_getElem? (i := 11) rfl))
theorem vm_42 : (Cond.methodLink R_law 37 y_S_remove) ∈ w_law := List.mem_append_right _ (List.mem_append_left _ (List.mem_of_getElem? (i := 12) rfl))
theorem vm_43 : (Cond.instanceMethod y_S_remove) ∈ w_law := List.mem_append_right _ (List.mem_append_left _ (List.mem_of_getElem? (i := 13) rfl))
theorem vm_44 : (Cond.selects R_S y_S_remove y_S_remove) ∈ w_law := List.mem_append_right _ (List.mem_append_left _ (List.mem_of_getElem? (i := 14) rfl))
theorem vm_45 : (Cond.methodLink R_law 41 y_M_remove) ∈ w_law := List.mem_append_right _ (List.mem_append_left _ (List.mem_of_getElem? (i := 15) rfl))
theorem vm_46 : (Cond.instanceMethod y_M_remove) ∈ w_law := List.mem_append_right _ (List.mem_append_left _ (List.mem_of_getElem? (i := 16) rfl))
theorem vm_47 : (Cond.selects R_M y_M_remove y_M_remove) ∈ w_law := List.mem_append_right _ (List.mem_append_left _ (List.mem_of_getElem? (i := 17) rfl))
theorem vm_48 : (Cond.methodLink R_law 42 y_S_find) ∈ w_law := List.mem_append_right _ (List.mem_append_left _ (List.mem_of_getElem? (i := 18) rfl))
theorem vm_49 : (Cond.instanceMethod y_S_find) ∈ w_law := List.mem_append_right _ (List.mem_append_left _ (List.mem_of_getElem? (i := 19) rfl))
theorem vm_50 : (Cond.selects R_S y_S_find y_S_find) ∈ w_law := List.mem_append_right _ (List.mem_append_left _ (List.mem_of_getElem? (i := 20) rfl))
theorem vm_51 : (Cond.methodLink R_law 45 y_M_find) ∈ w_law := List.mem_append_right _ (List.mem_append_left _ (List.mem_of_getElem? (i := 21) rfl))
theorem vm_52 : (Cond.instanceMethod y_M_find) ∈ w_law := List.mem_append_right _ (List.mem_append_left _ (List.mem_of_getElem? (i := 22) rfl))
theorem vm_53 : (Cond.selects R_M y_M_find y_M_find) ∈ w_law := List.mem_append_right _ (List.mem_append_left _ (List.mem_of_getElem? (i := 23) rfl))
theorem vm_54 : (Cond.methodLink R_law 46 y_S_size) ∈ w_law := List.mem_append_right _ (List.mem_append_left _ (List.mem_of_getElem? (i := 24) rfl))
theorem vm_55 : (Cond.instanceMethod y_S_size) ∈ w_law := List.mem_append_right _ (List.mem_append_left _ (List.mem_of_getElem? (i := 25) rfl))
theorem vm_56 : (Cond.selects R_S y_S_size y_S_size) ∈ w_law := List.mem_append_right _ (List.mem_append_left _ (List.mem_of_getElem? (i := 26) rfl))
theorem vm_57 : (Cond.methodLink R_law 49 y_M_size) ∈ w_law := List.mem_append_right _ (List.mem_append_left _ (List.mem_of_getElem? (i := 27) rfl))
theorem vm_58 : (Cond.instanceMethod y_M_size) ∈ w_law := List.mem_append_right _ (List.mem_append_left _ (List.mem_of_getElem? (i := 28) rfl))
theorem vm_59 : (Cond.selects R_M y_M_size y_M_size) ∈ w_law := List.mem_append_right _ (List.mem_append_left _ (List.mem_of_getElem? (i := 29) rfl))
theorem vm_60 : (Cond.methodLink R_law 50 y_S_parentOf) ∈ w_law := List.mem_append_right _ (List.mem_append_right _ (List.mem_append_left _ (List.mem_of_getElem? (i := 0) rfl)))
theorem vm_61 : (Cond.instanceMethod y_S_parentOf) ∈ w_law := List.mem_append_right _ (List.mem_append_right _ (List.mem_append_left _ (List.mem_of_getElem? (i := 1) rfl)))
theorem vm_62 : (Cond.selects R_S y_S_parentOf y_S_parentOf) ∈ w_law := List.mem_append_right _ (List.mem_append_right _ (List.mem_append_left _ (List.mem_of_getElem? (i := 2) rfl)))
theorem vm_63 : (Cond.methodLink R_law 53 y_M_parentOf) ∈ w_law := List.mem_append_right _ (List.mem_append_right _ (List.mem_append_left _ (List.mem_of_getElem? (i := 3) rfl)))
theorem vm_64 : (Cond.instanceMethod y_M_parentOf) ∈ w_law := List.mem_append_right _ (List.mem_append_right _ (List.mem_append_left _ (List.mem_of_getElem? (i := 4) rfl)))
theorem vm_65 : (Cond.selects R_M y_M_parentOf y_M_parentOf) ∈ w_law := List.mem_append_right _ (List.mem_append_right _ (List.mem_append_left _ (List.mem_of_getElem? (i := 5) rfl)))
theorem vm_66 : (Cond.methodLink R_law 54 y_S_nameOf) ∈ w_law := List.mem_append_right _ (List.mem_append_right _ (List.mem_append_left _ (List.mem_of_getElem? (i := 6) rfl)))
theorem vm_67 : (Cond.instanceMethod y_S_nameOf) ∈ w_law := List.mem_append_right _ (List.mem_append_right _ (List.mem_append_left _ (List.mem_of_getElem? (i := 7) rfl)))
theorem vm_68 : (Cond.selects R_S y_S_nameOf y_S_nameOf) ∈ w_law := List.mem_append_right _ (List.mem_append_right _ (List.mem_append_left _ (List.mem_of_getElem? (i := 8) rfl)))
theorem vm_69 : (Cond.methodLink R_law 58 y_M_nameOf) ∈ w_law := List.mem_append_right _ (List.mem_append_right _ (List.mem_append_left _ (List.mem_of_getElem? (i := 9) rfl)))
theorem vm_70 : (Cond.instanceMethod y_M_nameOf) ∈ w_law := List.mem_append_right _ (List.mem_append_right _ (List.mem_append_left _ (List.mem_of_getElem? (i := 10) rfl)))
theorem vm_71 : (Cond.selects R_M y_M_nameOf y_M_nameOf) ∈ w_law := List.mem_append_right _ (List.mem_append_right _ (List.mem_append_left _ (List.mem_of_getElem? (i := 11) rfl)))
theorem vm_72 : (Cond.methodLink R_law 59 y_S_checkpoint) ∈ w_law := List.mem_append_right _ (List.mem_append_right _ (List.mem_append_left _ (List.mem_of_getElem? (i := 12) rfl)))
theorem vm_73 : (Cond.instanceMethod y_S_checkpoint) ∈ w_law := List.mem_append_right _ (List.mem_append_right _ (List.mem_append_left _ (List.mem_of_getElem? (i := 13) rfl)))
theorem vm_74 : (Cond.selects R_S y_S_checkpoint y_S_checkpoint) ∈ w_law := List.mem_append_right _ (List.mem_append_right _ (List.mem_append_left _ (List.mem_of_getElem? (i := 14) rfl)))
theorem vm_75 : (Cond.methodLink R_law 63 y_M_checkpoint) ∈ w_law := List.mem_append_right _ (List.mem_append_right _ (List.mem_append_left _ (List.mem_of_getElem? (i := 15) rfl)))
theorem vm_76 : (Cond.instanceMethod y_M_checkpoint) ∈ w_law := List.mem_append_right _ (List.mem_append_right _ (List.mem_append_left _ (List.mem_of_getElem? (i := 16) rfl)))
theorem vm_77 : (Cond.selects R_M y_M_checkpoint y_M_checkpoint) ∈ w_law := List.mem_append_right _ (List.mem_append_right _ (List.mem_append_left _ (List.mem_of_getElem? (i := 17) rfl)))
theorem vm_78 : (Cond.methodLink R_law 64 y_S_mount) ∈ w_law := List.mem_append_right _ (List.mem_append_right _ (List.mem_append_left _ (List.mem_of_getElem? (i := 18) rfl)))
theorem vm_79 : (Cond.instanceMethod y_S_mount) ∈ w_law := List.mem_append_right _ (List.mem_append_right _ (List.mem_append_left _ (List.mem_of_getElem? (i := 19) rfl)))
theorem vm_80 : (Cond.selects R_S y_S_mount y_S_mount) ∈ w_law := List.mem_append_right _ (List.mem_append_right _ (List.mem_append_left _ (List.mem_of_getElem? (i := 20) rfl)))
theorem vm_81 : (Cond.methodLink R_law 68 y_M_mount) ∈ w_law := List.mem_append_right _ (List.mem_append_right _ (List.mem_append_left _ (List.mem_of_getElem? (i := 21) rfl)))
theorem vm_82 : (Cond.instanceMethod y_M_mount) ∈ w_law := List.mem_append_right _ (List.mem_append_right _ (List.mem_append_left _ (List.mem_of_getElem? (i := 22) rfl)))
theorem vm_83 : (Cond.selects R_M y_M_mount y_M_mount) ∈ w_law := List.mem_append_right _ (List.mem_append_right _ (List.mem_append_left _ (List.mem_of_getElem? (i := 23) rfl)))
theorem vm_84 : (Cond.methodLink R_law 69 y_S_cut) ∈ w_law := List.mem_append_right _ (List.mem_append_right _ (List.mem_append_left _ (List.mem_of_getElem? (i := 24) rfl)))
theorem vm_85 : (Cond.instanceMethod y_S_cut) ∈ w_law := List.mem_append_right _ (List.mem_append_right _ (List.mem_append_left _ (List.mem_of_getElem? (i := 25) rfl)))
theorem vm_86 : (Cond.selects R_S y_S_cut y_S_cut) ∈ w_law := List.mem_append_right _ (List.mem_append_right _ (List.mem_append_left _ (List.mem_of_getElem? (i := 26) rfl)))
theorem vm_87 : (Cond.methodLink R_law 73 y_M_cut) ∈ w_law := List.mem_append_right _ (List.mem_append_right _ (List.mem_append_left _ (List.mem_of_getElem? (i := 27) rfl)))
theorem vm_88 : (Cond.instanceMethod y_M_cut) ∈ w_law := List.mem_append_right _ (List.mem_append_right _ (List.mem_append_left _ (List.mem_of_getElem? (i := 28) rfl)))
theorem vm_89 : (Cond.selects R_M y_M_cut y_M_cut) ∈ w_law := List.mem_append_right _ (List.mem_append_right _ (List.mem_append_left _ (List.mem_of_getElem? (i := 29) rfl)))
theorem vm_90 : (Cond.methodLink R_law 74 y_S_flip) ∈ w_law := List.mem_append_right _ (List.mem_append_right _ (List.mem_append_right _ (List.mem_append_left _ (List.mem_of_getElem? (i := 0) rfl))))
theorem vm_91 : (Cond.instanceMethod y_S_flip) ∈ w_law := List.mem_append_right _ (List.mem_append_right _ (List.mem_append_right _ (List.mem_append_left _ (List.mem_of_getElem? (i := 1) rfl))))
theorem vm_92 : (Cond.selects R_S y_S_flip y_S_flip) ∈ w_law := List.mem_append_right _ (List.mem_append_right _ (List.mem_append_right _ (List.mem_append_left _ (List.mem_of_getElem? (i := 2) rfl))))
theorem vm_93 : (Cond.methodLink R_law 78 y_M_flip) ∈ w_law := List.mem_append_right _ (List.mem_append_right _ (List.mem_append_right _ (List.mem_append_left _ (List.mem_of_getElem? (i := 3) rfl))))
theorem vm_94 : (Cond.instanceMethod y_M_flip) ∈ w_law := List.mem_append_right _ (List.mem_append_right _ (List.mem_append_right _ (List.mem_append_left _ (List.mem_of_getElem? (i := 4) rfl))))
theorem vm_95 : (Cond.selects R_M y_M_flip y_M_flip) ∈ w_law := List.mem_append_right _ (List.mem_append_right _ (List.mem_append_right _ (List.mem_append_left _ (List.mem_of_getElem? (i := 5) rfl))))
theorem vm_96 : (Cond.methodLink R_law 79 y_S_wear) ∈ w_law := List.mem_append_right _ (List.mem_append_right _ (List.mem_append_right _ (List.mem_append_left _ (List.mem_of_getElem? (i := 6) rfl))))
theorem vm_97 : (Cond.instanceMethod y_S_wear) ∈ w_law := List.mem_append_right _ (List.mem_append_right _ (List.mem_append_right _ (List.mem_append_left _ (List.mem_of_getElem? (i := 7) rfl))))
theorem vm_98 : (Cond.selects R_S y_S_wear y_S_wear) ∈ w_law := List.mem_append_right _ (List.mem_append_right _ (List.mem_append_right _ (List.mem_append_left _ (List.mem_of_getElem? (i := 8) rfl))))
theorem vm_99 : (Cond.methodLink R_law 83 y_M_wear) ∈ w_law := List.mem_append_right _ (List.mem_append_right _ (List.mem_append_right _ (List.mem_append_left _ (List.mem_of_getElem? (i := 9) rfl))))
theorem vm_100 : (Cond.instanceMethod y_M_wear) ∈ w_law := List.mem_append_right _ (List.mem_append_right _ (List.mem_append_right _ (List.mem_append_left _ (List.mem_of_getElem? (i := 10) rfl))))
theorem vm_101 : (Cond.selects R_M y_M_wear y_M_wear) ∈ w_law := List.mem_append_right _ (List.mem_append_right _ (List.mem_append_right _ (List.mem_append_left _ (List.mem_of_getElem? (i := 11) rfl))))
theorem vm_102 : (Cond.methodLink R_law 84 y_S_tags) ∈ w_law := List.mem_append_right _ (List.mem_append_right _ (List.mem_append_right _ (List.mem_append_left _ (List.mem_of_getElem? (i := 12) rfl))))
theorem vm_103 : (Cond.instanceMethod y_S_tags) ∈ w_law := List.mem_append_right _ (List.mem_append_right _ (List.mem_append_right _ (List.mem_append_left _ (List.mem_of_getElem? (i := 13) rfl))))
theorem vm_104 : (Cond.selects R_S y_S_tags y_S_tags) ∈ w_law := List.mem_append_right _ (List.mem_append_right _ (List.mem_append_right _ (List.mem_append_left _ (List.mem_of_getElem? (i := 14) rfl))))
theorem vm_105 : (Cond.methodLink R_law 87 y_M_tags) ∈ w_law := List.mem_append_right _ (List.mem_append_right _ (List.mem_append_right _ (List.mem_append_left _ (List.mem_of_getElem? (i := 15) rfl))))
theorem vm_106 : (Cond.instanceMethod y_M_tags) ∈ w_law := List.mem_append_right _ (List.mem_append_right _ (List.mem_append_right _ (List.mem_append_left _ (List.mem_of_getElem? (i := 16) rfl))))
theorem vm_107 : (Cond.selects R_M y_M_tags y_M_tags) ∈ w_law := List.mem_append_right _ (List.mem_append_right _ (List.mem_append_right _ (List.mem_append_left _ (List.mem_of_getElem? (i := 17) rfl))))
theorem vm_108 : (Cond.methodLink R_law 88 y_S_free) ∈ w_law := List.mem_append_right _ (List.mem_append_right _ (List.mem_append_right _ (List.mem_append_left _ (List.mem_of_getElem? (i := 18) rfl))))
theorem vm_109 : (Cond.instanceMethod y_S_free) ∈ w_law := List.mem_append_right _ (List.mem_append_right _ (List.mem_append_right _ (List.mem_append_left _ (List.mem_of_getElem? (i := 19) rfl))))
theorem vm_110 : (Cond.selects R_S y_S_free y_S_free) ∈ w_law := List.mem_append_right _ (List.mem_append_right _ (List.mem_append_right _ (List.mem_append_left _ (List.mem_of_getElem? (i := 20) rfl))))
theorem vm_111 : (Cond.methodLink R_law 91 y_M_free) ∈ w_law := List.mem_append_right _ (List.mem_append_right _ (List.mem_append_right _ (List.mem_append_left _ (List.mem_of_getElem? (i := 21) rfl))))
theorem vm_112 : (Cond.instanceMethod y_M_free) ∈ w_law := List.mem_append_right _ (List.mem_append_right _ (List.mem_append_right _ (List.mem_append_left _ (List.mem_of_getElem? (i := 22) rfl))))
theorem vm_113 : (Cond.selects R_M y_M_free y_M_free) ∈ w_law := List.mem_append_right _ (List.mem_append_right _ (List.mem_append_right _ (List.mem_append_left _ (List.mem_of_getElem? (i := 23) rfl))))
theorem vm_114 : (Cond.methodLink R_law 92 y_S_erases) ∈ w_law := List.mem_append_right _ (List.mem_append_right _ (List.mem_append_right _ (List.mem_append_left _ (List.mem_of_getElem? (i := 24) rfl))))
theorem vm_115 : (Cond.instanceMethod y_S_erases) ∈ w_law := List.mem_append_right _ (List.mem_append_right _ (List.mem_append_right _ (List.mem_append_left _ (List.mem_of_getElem? (i := 25) rfl))))
theorem vm_116 : (Cond.selects R_S y_S_erases y_S_erases) ∈ w_law := List.mem_append_right _ (List.mem_append_right _ (List.mem_append_right _ (List.mem_append_left _ (List.mem_of_getElem? (i := 26) rfl))))
theorem vm_117 : (Cond.methodLink R_law 95 y_M_erases) ∈ w_law := List.mem_append_right _ (List.mem_append_right _ (List.mem_append_right _ (List.mem_append_left _ (List.mem_of_getElem? (i := 27) rfl))))
theorem vm_118 : (Cond.instanceMethod y_M_erases) ∈ w_law := List.mem_append_right _ (List.mem_append_right _ (List.mem_append_right _ (List.mem_append_left _ (List.mem_of_getElem? (i := 28) rfl))))
theorem vm_119 : (Cond.selects R_M y_M_erases y_M_erases) ∈ w_law := List.mem_append_right _ (List.mem_append_right _ (List.mem_append_right _ (List.mem_append_left _ (List.mem_of_getElem? (i := 29) rfl))))
theorem vm_120 : (Cond.methodLink R_law 96 y_S_steps) ∈ w_law := List.mem_append_right _ (List.mem_append_right _ (List.mem_append_right _ (List.mem_append_right _ (List.mem_of_getElem? (i := 0) rfl))))
theorem vm_121 : (Cond.instanceMethod y_S_steps) ∈ w_law := List.mem_append_right _ (List.mem_append_right _ (List.mem_append_right _ (List.mem_append_right _ (List.mem_of_getElem? (i := 1) rfl))))
theorem vm_122 : (Cond.selects R_S y_S_steps y_S_steps) ∈ w_law := List.mem_append_right _ (List.mem_append_right _ (List.mem_append_right _ (List.mem_append_right _ (List.mem_of_getElem? (i := 2) rfl))))
theorem vm_123 : (Cond.methodLink R_law 99 y_M_steps) ∈ w_law := List.mem_append_right _ (List.mem_append_right _ (List.mem_append_right _ (List.mem_append_right _ (List.mem_of_getElem? (i := 3) rfl))))
theorem vm_124 : (Cond.instanceMethod y_M_steps) ∈ w_law := List.mem_append_right _ (List.mem_append_right _ (List.mem_append_right _ (List.mem_append_right _ (List.mem_of_getElem? (i := 4) rfl))))
theorem vm_125 : (Cond.selects R_M y_M_steps y_M_steps) ∈ w_law := List.mem_append_right _ (List.mem_append_right _ (List.mem_append_right _ (List.mem_append_right _ (List.mem_of_getElem? (i := 5) rfl))))
theorem v_good : ∀ w ∈ w_law, (w.onTables && w.keeps) = true ∨ ∃ ty, w = .arrayClass ty := by
  intro w hw
  have h : w_law.all goodWord = true := by decide +kernel
  exact good_of_word (List.all_eq_true.mp h w hw)
