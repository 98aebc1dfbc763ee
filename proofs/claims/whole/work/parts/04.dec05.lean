theorem d_M_page_0 : decode b_M_page 0 = .ok (.iconst 0, 1) := by decide +kernel
theorem d_M_page_1 : decode b_M_page 1 = .ok (.istore_n 3, 1) := by decide +kernel
theorem d_M_page_2 : decode b_M_page 2 = .ok (.iload_n 3, 1) := by decide +kernel
theorem d_M_page_3 : decode b_M_page 3 = .ok (.bipush 48, 2) := by decide +kernel
theorem d_M_page_5 : decode b_M_page 5 = .ok (.if_icmp .ge (41), 3) := by decide +kernel
theorem d_M_page_8 : decode b_M_page 8 = .ok (.aload_n 0, 1) := by decide +kernel
theorem d_M_page_9 : decode b_M_page 9 = .ok (.getfield 7, 3) := by decide +kernel
theorem d_M_page_12 : decode b_M_page 12 = .ok (.iload_n 3, 1) := by decide +kernel
theorem d_M_page_13 : decode b_M_page 13 = .ok (.iaload, 1) := by decide +kernel
theorem d_M_page_14 : decode b_M_page 14 = .ok (.iconst 1, 1) := by decide +kernel
theorem d_M_page_15 : decode b_M_page 15 = .ok (.if_icmp .ne (25), 3) := by decide +kernel
theorem d_M_page_18 : decode b_M_page 18 = .ok (.aload_n 0, 1) := by decide +kernel
theorem d_M_page_19 : decode b_M_page 19 = .ok (.getfield 13, 3) := by decide +kernel
theorem d_M_page_22 : decode b_M_page 22 = .ok (.iload_n 3, 1) := by decide +kernel
theorem d_M_page_23 : decode b_M_page 23 = .ok (.iaload, 1) := by decide +kernel
theorem d_M_page_24 : decode b_M_page 24 = .ok (.iload_n 1, 1) := by decide +kernel
theorem d_M_page_25 : decode b_M_page 25 = .ok (.if_icmp .ne (15), 3) := by decide +kernel
theorem d_M_page_28 : decode b_M_page 28 = .ok (.aload_n 0, 1) := by decide +kernel
theorem d_M_page_29 : decode b_M_page 29 = .ok (.getfield 16, 3) := by decide +kernel
theorem d_M_page_32 : decode b_M_page 32 = .ok (.iload_n 3, 1) := by decide +kernel
theorem d_M_page_33 : decode b_M_page 33 = .ok (.iaload, 1) := by decide +kernel
theorem d_M_page_34 : decode b_M_page 34 = .ok (.iload_n 2, 1) := by decide +kernel
theorem d_M_page_35 : decode b_M_page 35 = .ok (.if_icmp .ne (5), 3) := by decide +kernel
theorem d_M_page_38 : decode b_M_page 38 = .ok (.iload_n 3, 1) := by decide +kernel
theorem d_M_page_39 : decode b_M_page 39 = .ok (.ireturn, 1) := by decide +kernel
theorem d_M_page_40 : decode b_M_page 40 = .ok (.iinc 3 (1), 3) := by decide +kernel
theorem d_M_page_43 : decode b_M_page 43 = .ok (.goto (-41), 3) := by decide +kernel
theorem d_M_page_46 : decode b_M_page 46 = .ok (.iconst (-1), 1) := by decide +kernel
theorem d_M_page_47 : decode b_M_page 47 = .ok (.ireturn, 1) := by decide +kernel
theorem d_M_mark_0 : decode b_M_mark 0 = .ok (.aload_n 0, 1) := by decide +kernel
theorem d_M_mark_1 : decode b_M_mark 1 = .ok (.invokevirtual 71, 3) := by decide +kernel
theorem d_M_mark_4 : decode b_M_mark 4 = .ok (.ifCond .ne (5), 3) := by decide +kernel
theorem d_M_mark_7 : decode b_M_mark 7 = .ok (.iconst 0, 1) := by decide +kernel
theorem d_M_mark_8 : decode b_M_mark 8 = .ok (.ireturn, 1) := by decide +kernel
theorem d_M_mark_9 : decode b_M_mark 9 = .ok (.aload_n 0, 1) := by decide +kernel
theorem d_M_mark_10 : decode b_M_mark 10 = .ok (.getfield 7, 3) := by decide +kernel
theorem d_M_mark_13 : decode b_M_mark 13 = .ok (.iload_n 1, 1) := by decide +kernel
theorem d_M_mark_14 : decode b_M_mark 14 = .ok (.iconst 2, 1) := by decide +kernel
theorem d_M_mark_15 : decode b_M_mark 15 = .ok (.iastore, 1) := by decide +kernel
theorem d_M_mark_16 : decode b_M_mark 16 = .ok (.aload_n 0, 1) := by decide +kernel
theorem d_M_mark_17 : decode b_M_mark 17 = .ok (.getfield 50, 3) := by decide +kernel
theorem d_M_mark_20 : decode b_M_mark 20 = .ok (.iload_n 1, 1) := by decide +kernel
theorem d_M_mark_21 : decode b_M_mark 21 = .ok (.bipush 8, 2) := by decide +kernel
theorem d_M_mark_23 : decode b_M_mark 23 = .ok (.idiv, 1) := by decide +kernel
theorem d_M_mark_24 : decode b_M_mark 24 = .ok (.iconst 1, 1) := by decide +kernel
theorem d_M_mark_25 : decode b_M_mark 25 = .ok (.bastore, 1) := by decide +kernel
theorem d_M_mark_26 : decode b_M_mark 26 = .ok (.iconst 1, 1) := by decide +kernel
theorem d_M_mark_27 : decode b_M_mark 27 = .ok (.ireturn, 1) := by decide +kernel
theorem d_M_put_0 : decode b_M_put 0 = .ok (.aload_n 0, 1) := by decide +kernel
theorem d_M_put_1 : decode b_M_put 1 = .ok (.aload_n 0, 1) := by decide +kernel
theorem d_M_put_2 : decode b_M_put 2 = .ok (.getfield 75, 3) := by decide +kernel
theorem d_M_put_5 : decode b_M_put 5 = .ok (.aload_n 0, 1) := by decide +kernel
theorem d_M_put_6 : decode b_M_put 6 = .ok (.getfield 78, 3) := by decide +kernel
theorem d_M_put_9 : decode b_M_put 9 = .ok (.invokevirtual 81, 3) := by decide +kernel
theorem d_M_put_12 : decode b_M_put 12 = .ok (.istore_n 1, 1) := by decide +kernel
theorem d_M_put_13 : decode b_M_put 13 = .ok (.aload_n 0, 1) := by decide +kernel
theorem d_M_put_14 : decode b_M_put 14 = .ok (.invokevirtual 85, 3) := by decide +kernel
theorem d_M_put_17 : decode b_M_put 17 = .ok (.istore_n 2, 1) := by decide +kernel
theorem d_M_put_18 : decode b_M_put 18 = .ok (.iload_n 2, 1) := by decide +kernel
theorem d_M_put_19 : decode b_M_put 19 = .ok (.ifCond .lt (10), 3) := by decide +kernel
theorem d_M_put_22 : decode b_M_put 22 = .ok (.aload_n 0, 1) := by decide +kernel
theorem d_M_put_23 : decode b_M_put 23 = .ok (.invokevirtual 71, 3) := by decide +kernel
theorem d_M_put_26 : decode b_M_put 26 = .ok (.ifCond .ne (5), 3) := by decide +kernel
theorem d_M_put_29 : decode b_M_put 29 = .ok (.iconst 0, 1) := by decide +kernel
theorem d_M_put_30 : decode b_M_put 30 = .ok (.ireturn, 1) := by decide +kernel
theorem d_M_put_31 : decode b_M_put 31 = .ok (.aload_n 0, 1) := by decide +kernel
theorem d_M_put_32 : decode b_M_put 32 = .ok (.getfield 7, 3) := by decide +kernel
theorem d_M_put_35 : decode b_M_put 35 = .ok (.iload_n 2, 1) := by decide +kernel
theorem d_M_put_36 : decode b_M_put 36 = .ok (.iconst 1, 1) := by decide +kernel
theorem d_M_put_37 : decode b_M_put 37 = .ok (.iastore, 1) := by decide +kernel
theorem d_M_put_38 : decode b_M_put 38 = .ok (.aload_n 0, 1) := by decide +kernel
theorem d_M_put_39 : decode b_M_put 39 = .ok (.getfield 13, 3) := by decide +kernel
theorem d_M_put_42 : decode b_M_put 42 = .ok (.iload_n 2, 1) := by decide +kernel
theorem d_M_put_43 : decode b_M_put 43 = .ok (.aload_n 0, 1) := by decide +kernel
theorem d_M_put_44 : decode b_M_put 44 = .ok (.getfield 75, 3) := by decide +kernel
theorem d_M_put_47 : decode b_M_put 47 = .ok (.iastore, 1) := by decide +kernel
theorem d_M_put_48 : decode b_M_put 48 = .ok (.aload_n 0, 1) := by decide +kernel
theorem d_M_put_49 : decode b_M_put 49 = .ok (.getfield 16, 3) := by decide +kernel
theorem d_M_put_52 : decode b_M_put 52 = .ok (.iload_n 2, 1) := by decide +kernel
theorem d_M_put_53 : decode b_M_put 53 = .ok (.aload_n 0, 1) := by decide +kernel
theorem d_M_put_54 : decode b_M_put 54 = .ok (.getfield 78, 3) := by decide +kernel
theorem d_M_put_57 : decode b_M_put 57 = .ok (.iastore, 1) := by decide +kernel
theorem d_M_put_58 : decode b_M_put 58 = .ok (.aload_n 0, 1) := by decide +kernel
theorem d_M_put_59 : decode b_M_put 59 = .ok (.getfield 19, 3) := by decide +kernel
theorem d_M_put_62 : decode b_M_put 62 = .ok (.iload_n 2, 1) := by decide +kernel
theorem d_M_put_63 : decode b_M_put 63 = .ok (.iload_n 1, 1) := by decide +kernel
theorem d_M_put_64 : decode b_M_put 64 = .ok (.ifCond .ge (7), 3) := by decide +kernel
theorem d_M_put_67 : decode b_M_put 67 = .ok (.iconst 0, 1) := by decide +kernel
theorem d_M_put_68 : decode b_M_put 68 = .ok (.goto (13), 3) := by decide +kernel
theorem d_M_put_71 : decode b_M_put 71 = .ok (.aload_n 0, 1) := by decide +kernel
theorem d_M_put_72 : decode b_M_put 72 = .ok (.getfield 19, 3) := by decide +kernel
theorem d_M_put_75 : decode b_M_put 75 = .ok (.iload_n 1, 1) := by decide +kernel
theorem d_M_put_76 : decode b_M_put 76 = .ok (.iaload, 1) := by decide +kernel
theorem d_M_put_77 : decode b_M_put 77 = .ok (.iconst 1, 1) := by decide +kernel
theorem d_M_put_78 : decode b_M_put 78 = .ok (.iadd, 1) := by decide +kernel
theorem d_M_put_79 : decode b_M_put 79 = .ok (.iconst 4, 1) := by decide +kernel
theorem d_M_put_80 : decode b_M_put 80 = .ok (.irem, 1) := by decide +kernel
theorem d_M_put_81 : decode b_M_put 81 = .ok (.iastore, 1) := by decide +kernel
theorem d_M_put_82 : decode b_M_put 82 = .ok (.aload_n 0, 1) := by decide +kernel
theorem d_M_put_83 : decode b_M_put 83 = .ok (.getfield 22, 3) := by decide +kernel
theorem d_M_put_86 : decode b_M_put 86 = .ok (.iload_n 2, 1) := by decide +kernel
theorem d_M_put_87 : decode b_M_put 87 = .ok (.aload_n 0, 1) := by decide +kernel
theorem d_M_put_88 : decode b_M_put 88 = .ok (.getfield 89, 3) := by decide +kernel
theorem d_M_put_91 : decode b_M_put 91 = .ok (.iastore, 1) := by decide +kernel
theorem d_M_put_92 : decode b_M_put 92 = .ok (.aload_n 0, 1) := by decide +kernel
theorem d_M_put_93 : decode b_M_put 93 = .ok (.getfield 25, 3) := by decide +kernel
theorem d_M_put_96 : decode b_M_put 96 = .ok (.iload_n 2, 1) := by decide +kernel
theorem d_M_put_97 : decode b_M_put 97 = .ok (.aload_n 0, 1) := by decide +kernel
theorem d_M_put_98 : decode b_M_put 98 = .ok (.getfield 92, 3) := by decide +kernel
theorem d_M_put_101 : decode b_M_put 101 = .ok (.iastore, 1) := by decide +kernel
theorem d_M_put_102 : decode b_M_put 102 = .ok (.aload_n 0, 1) := by decide +kernel
theorem d_M_put_103 : decode b_M_put 103 = .ok (.getfield 28, 3) := by decide +kernel
theorem d_M_put_106 : decode b_M_put 106 = .ok (.iload_n 2, 1) := by decide +kernel
theorem d_M_put_107 : decode b_M_put 107 = .ok (.aload_n 0, 1) := by decide +kernel
theorem d_M_put_108 : decode b_M_put 108 = .ok (.getfield 95, 3) := by decide +kernel
theorem d_M_put_111 : decode b_M_put 111 = .ok (.iastore, 1) := by decide +kernel
theorem d_M_put_112 : decode b_M_put 112 = .ok (.aload_n 0, 1) := by decide +kernel
theorem d_M_put_113 : decode b_M_put 113 = .ok (.getfield 31, 3) := by decide +kernel
theorem d_M_put_116 : decode b_M_put 116 = .ok (.iload_n 2, 1) := by decide +kernel
theorem d_M_put_117 : decode b_M_put 117 = .ok (.aload_n 0, 1) := by decide +kernel
theorem d_M_put_118 : decode b_M_put 118 = .ok (.getfield 98, 3) := by decide +kernel
theorem d_M_put_121 : decode b_M_put 121 = .ok (.bastore, 1) := by decide +kernel
theorem d_M_put_122 : decode b_M_put 122 = .ok (.aload_n 0, 1) := by decide +kernel
theorem d_M_put_123 : decode b_M_put 123 = .ok (.getfield 35, 3) := by decide +kernel
theorem d_M_put_126 : decode b_M_put 126 = .ok (.iload_n 2, 1) := by decide +kernel
theorem d_M_put_127 : decode b_M_put 127 = .ok (.aload_n 0, 1) := by decide +kernel
theorem d_M_put_128 : decode b_M_put 128 = .ok (.getfield 101, 3) := by decide +kernel
theorem d_M_put_131 : decode b_M_put 131 = .ok (.iastore, 1) := by decide +kernel
theorem d_M_put_132 : decode b_M_put 132 = .ok (.aload_n 0, 1) := by decide +kernel
theorem d_M_put_133 : decode b_M_put 133 = .ok (.getfield 38, 3) := by decide +kernel
theorem d_M_put_136 : decode b_M_put 136 = .ok (.iload_n 2, 1) := by decide +kernel
theorem d_M_put_137 : decode b_M_put 137 = .ok (.aload_n 0, 1) := by decide +kernel
theorem d_M_put_138 : decode b_M_put 138 = .ok (.getfield 104, 3) := by decide +kernel
theorem d_M_put_141 : decode b_M_put 141 = .ok (.iastore, 1) := by decide +kernel
theorem d_M_put_142 : decode b_M_put 142 = .ok (.aload_n 0, 1) := by decide +kernel
theorem d_M_put_143 : decode b_M_put 143 = .ok (.getfield 50, 3) := by decide +kernel
theorem d_M_put_146 : decode b_M_put 146 = .ok (.iload_n 2, 1) := by decide +kernel
theorem d_M_put_147 : decode b_M_put 147 = .ok (.bipush 8, 2) := by decide +kernel
theorem d_M_put_149 : decode b_M_put 149 = .ok (.idiv, 1) := by decide +kernel
theorem d_M_put_150 : decode b_M_put 150 = .ok (.iconst 1, 1) := by decide +kernel
theorem d_M_put_151 : decode b_M_put 151 = .ok (.bastore, 1) := by decide +kernel
theorem d_M_put_152 : decode b_M_put 152 = .ok (.iload_n 1, 1) := by decide +kernel
theorem d_M_put_153 : decode b_M_put 153 = .ok (.ifCond .lt (11), 3) := by decide +kernel
theorem d_M_put_156 : decode b_M_put 156 = .ok (.aload_n 0, 1) := by decide +kernel
theorem d_M_put_157 : decode b_M_put 157 = .ok (.iload_n 1, 1) := by decide +kernel
theorem d_M_put_158 : decode b_M_put 158 = .ok (.invokevirtual 107, 3) := by decide +kernel
theorem d_M_put_161 : decode b_M_put 161 = .ok (.ifCond .eq (7), 3) := by decide +kernel
theorem d_M_put_164 : decode b_M_put 164 = .ok (.iconst 1, 1) := by decide +kernel
theorem d_M_put_165 : decode b_M_put 165 = .ok (.goto (4), 3) := by decide +kernel
theorem d_M_put_168 : decode b_M_put 168 = .ok (.iconst 0, 1) := by decide +kernel
theorem d_M_put_169 : decode b_M_put 169 = .ok (.ireturn, 1) := by decide +kernel
theorem d_M_fresh_0 : decode b_M_fresh 0 = .ok (.aload_n 0, 1) := by decide +kernel
theorem d_M_fresh_1 : decode b_M_fresh 1 = .ok (.iload_n 1, 1) := by decide +kernel
theorem d_M_fresh_2 : decode b_M_fresh 2 = .ok (.putfield 75, 3) := by decide +kernel
theorem d_M_fresh_5 : decode b_M_fresh 5 = .ok (.aload_n 0, 1) := by decide +kernel
theorem d_M_fresh_6 : decode b_M_fresh 6 = .ok (.iload_n 2, 1) := by decide +kernel
theorem d_M_fresh_7 : decode b_M_fresh 7 = .ok (.putfield 78, 3) := by decide +kernel
theorem d_M_fresh_10 : decode b_M_fresh 10 = .ok (.aload_n 0, 1) := by decide +kernel
theorem d_M_fresh_11 : decode b_M_fresh 11 = .ok (.iload_n 3, 1) := by decide +kernel
theorem d_M_fresh_12 : decode b_M_fresh 12 = .ok (.putfield 89, 3) := by decide +kernel
theorem d_M_fresh_15 : decode b_M_fresh 15 = .ok (.aload_n 0, 1) := by decide +kernel
theorem d_M_fresh_16 : decode b_M_fresh 16 = .ok (.iconst 0, 1) := by decide +kernel
theorem d_M_fresh_17 : decode b_M_fresh 17 = .ok (.putfield 92, 3) := by decide +kernel
theorem d_M_fresh_20 : decode b_M_fresh 20 = .ok (.aload_n 0, 1) := by decide +kernel
theorem d_M_fresh_21 : decode b_M_fresh 21 = .ok (.iconst 0, 1) := by decide +kernel
theorem d_M_fresh_22 : decode b_M_fresh 22 = .ok (.putfield 95, 3) := by decide +kernel
theorem d_M_fresh_25 : decode b_M_fresh 25 = .ok (.aload_n 0, 1) := by decide +kernel
theorem d_M_fresh_26 : decode b_M_fresh 26 = .ok (.iconst 0, 1) := by decide +kernel
theorem d_M_fresh_27 : decode b_M_fresh 27 = .ok (.putfield 98, 3) := by decide +kernel
theorem d_M_fresh_30 : decode b_M_fresh 30 = .ok (.aload_n 0, 1) := by decide +kernel
theorem d_M_fresh_31 : decode b_M_fresh 31 = .ok (.iconst (-1), 1) := by decide +kernel
theorem d_M_fresh_32 : decode b_M_fresh 32 = .ok (.putfield 101, 3) := by decide +kernel
theorem d_M_fresh_35 : decode b_M_fresh 35 = .ok (.aload_n 0, 1) := by decide +kernel
theorem d_M_fresh_36 : decode b_M_fresh 36 = .ok (.iconst (-1), 1) := by decide +kernel
theorem d_M_fresh_37 : decode b_M_fresh 37 = .ok (.putfield 104, 3) := by decide +kernel
theorem d_M_fresh_40 : decode b_M_fresh 40 = .ok (.return_, 1) := by decide +kernel
theorem d_M_like_0 : decode b_M_like 0 = .ok (.aload_n 0, 1) := by decide +kernel
theorem d_M_like_1 : decode b_M_like 1 = .ok (.aload_n 0, 1) := by decide +kernel
theorem d_M_like_2 : decode b_M_like 2 = .ok (.getfield 13, 3) := by decide +kernel
theorem d_M_like_5 : decode b_M_like 5 = .ok (.iload_n 1, 1) := by decide +kernel
theorem d_M_like_6 : decode b_M_like 6 = .ok (.iaload, 1) := by decide +kernel
theorem d_M_like_7 : decode b_M_like 7 = .ok (.aload_n 0, 1) := by decide +kernel
theorem d_M_like_8 : decode b_M_like 8 = .ok (.getfield 16, 3) := by decide +kernel
theorem d_M_like_11 : decode b_M_like 11 = .ok (.iload_n 1, 1) := by decide +kernel
theorem d_M_like_12 : decode b_M_like 12 = .ok (.iaload, 1) := by decide +kernel
theorem d_M_like_13 : decode b_M_like 13 = .ok (.aload_n 0, 1) := by decide +kernel
theorem d_M_like_14 : decode b_M_like 14 = .ok (.getfield 22, 3) := by decide +kernel
theorem d_M_like_17 : decode b_M_like 17 = .ok (.iload_n 1, 1) := by decide +kernel
theorem d_M_like_18 : decode b_M_like 18 = .ok (.iaload, 1) := by decide +kernel
theorem d_M_like_19 : decode b_M_like 19 = .ok (.invokevirtual 111, 3) := by decide +kernel
theorem d_M_like_22 : decode b_M_like 22 = .ok (.aload_n 0, 1) := by decide +kernel
theorem d_M_like_23 : decode b_M_like 23 = .ok (.aload_n 0, 1) := by decide +kernel
theorem d_M_like_24 : decode b_M_like 24 = .ok (.getfield 25, 3) := by decide +kernel
theorem d_M_like_27 : decode b_M_like 27 = .ok (.iload_n 1, 1) := by decide +kernel
theorem d_M_like_28 : decode b_M_like 28 = .ok (.iaload, 1) := by decide +kernel
theorem d_M_like_29 : decode b_M_like 29 = .ok (.putfield 92, 3) := by decide +kernel
theorem d_M_like_32 : decode b_M_like 32 = .ok (.aload_n 0, 1) := by decide +kernel
theorem d_M_like_33 : decode b_M_like 33 = .ok (.aload_n 0, 1) := by decide +kernel
theorem d_M_like_34 : decode b_M_like 34 = .ok (.getfield 28, 3) := by decide +kernel
theorem d_M_like_37 : decode b_M_like 37 = .ok (.iload_n 1, 1) := by decide +kernel
theorem d_M_like_38 : decode b_M_like 38 = .ok (.iaload, 1) := by decide +kernel
theorem d_M_like_39 : decode b_M_like 39 = .ok (.putfield 95, 3) := by decide +kernel
theorem d_M_like_42 : decode b_M_like 42 = .ok (.aload_n 0, 1) := by decide +kernel
theorem d_M_like_43 : decode b_M_like 43 = .ok (.aload_n 0, 1) := by decide +kernel
theorem d_M_like_44 : decode b_M_like 44 = .ok (.getfield 31, 3) := by decide +kernel
theorem d_M_like_47 : decode b_M_like 47 = .ok (.iload_n 1, 1) := by decide +kernel
theorem d_M_like_48 : decode b_M_like 48 = .ok (.baload, 1) := by decide +kernel
theorem d_M_like_49 : decode b_M_like 49 = .ok (.putfield 98, 3) := by decide +kernel
theorem d_M_like_52 : decode b_M_like 52 = .ok (.aload_n 0, 1) := by decide +kernel
theorem d_M_like_53 : decode b_M_like 53 = .ok (.aload_n 0, 1) := by decide +kernel
theorem d_M_like_54 : decode b_M_like 54 = .ok (.getfield 38, 3) := by decide +kernel
theorem d_M_like_57 : decode b_M_like 57 = .ok (.iload_n 1, 1) := by decide +kernel
theorem d_M_like_58 : decode b_M_like 58 = .ok (.iaload, 1) := by decide +kernel
theorem d_M_like_59 : decode b_M_like 59 = .ok (.ifCond .ge (7), 3) := by decide +kernel
theorem d_M_like_62 : decode b_M_like 62 = .ok (.iconst (-1), 1) := by decide +kernel
theorem d_M_like_63 : decode b_M_like 63 = .ok (.goto (9), 3) := by decide +kernel
theorem d_M_like_66 : decode b_M_like 66 = .ok (.aload_n 0, 1) := by decide +kernel
theorem d_M_like_67 : decode b_M_like 67 = .ok (.getfield 35, 3) := by decide +kernel
theorem d_M_like_70 : decode b_M_like 70 = .ok (.iload_n 1, 1) := by decide +kernel
theorem d_M_like_71 : decode b_M_like 71 = .ok (.iaload, 1) := by decide +kernel
theorem d_M_like_72 : decode b_M_like 72 = .ok (.putfield 101, 3) := by decide +kernel
theorem d_M_like_75 : decode b_M_like 75 = .ok (.aload_n 0, 1) := by decide +kernel
theorem d_M_like_76 : decode b_M_like 76 = .ok (.aload_n 0, 1) := by decide +kernel
theorem d_M_like_77 : decode b_M_like 77 = .ok (.getfield 38, 3) := by decide +kernel
theorem d_M_like_80 : decode b_M_like 80 = .ok (.iload_n 1, 1) := by decide +kernel
theorem d_M_like_81 : decode b_M_like 81 = .ok (.iaload, 1) := by decide +kernel
theorem d_M_like_82 : decode b_M_like 82 = .ok (.putfield 104, 3) := by decide +kernel
theorem d_M_like_85 : decode b_M_like 85 = .ok (.return_, 1) := by decide +kernel
theorem d_M_collect_0 : decode b_M_collect 0 = .ok (.bipush 8, 2) := by decide +kernel
theorem d_M_collect_2 : decode b_M_collect 2 = .ok (.iload_n 1, 1) := by decide +kernel
theorem d_M_collect_3 : decode b_M_collect 3 = .ok (.imul, 1) := by decide +kernel
theorem d_M_collect_4 : decode b_M_collect 4 = .ok (.istore_n 2, 1) := by decide +kernel
theorem d_M_collect_5 : decode b_M_collect 5 = .ok (.iload_n 2, 1) := by decide +kernel
theorem d_M_collect_6 : decode b_M_collect 6 = .ok (.bipush 8, 2) := by decide +kernel
theorem d_M_collect_8 : decode b_M_collect 8 = .ok (.iload_n 1, 1) := by decide +kernel
theorem d_M_collect_9 : decode b_M_collect 9 = .ok (.imul, 1) := by decide +kernel
theorem d_M_collect_10 : decode b_M_collect 10 = .ok (.bipush 8, 2) := by decide +kernel
theorem d_M_collect_12 : decode b_M_collect 12 = .ok (.iadd, 1) := by decide +kernel
theorem d_M_collect_13 : decode b_M_collect 13 = .ok (.if_icmp .ge (33), 3) := by decide +kernel
theorem d_M_collect_16 : decode b_M_collect 16 = .ok (.aload_n 0, 1) := by decide +kernel
theorem d_M_collect_17 : decode b_M_collect 17 = .ok (.getfield 7, 3) := by decide +kernel
theorem d_M_collect_20 : decode b_M_collect 20 = .ok (.iload_n 2, 1) := by decide +kernel
theorem d_M_collect_21 : decode b_M_collect 21 = .ok (.iaload, 1) := by decide +kernel
theorem d_M_collect_22 : decode b_M_collect 22 = .ok (.iconst 1, 1) := by decide +kernel
theorem d_M_collect_23 : decode b_M_collect 23 = .ok (.if_icmp .ne (17), 3) := by decide +kernel
theorem d_M_collect_26 : decode b_M_collect 26 = .ok (.aload_n 0, 1) := by decide +kernel
theorem d_M_collect_27 : decode b_M_collect 27 = .ok (.iload_n 2, 1) := by decide +kernel
theorem d_M_collect_28 : decode b_M_collect 28 = .ok (.invokevirtual 115, 3) := by decide +kernel
theorem d_M_collect_31 : decode b_M_collect 31 = .ok (.aload_n 0, 1) := by decide +kernel
theorem d_M_collect_32 : decode b_M_collect 32 = .ok (.invokevirtual 119, 3) := by decide +kernel
theorem d_M_collect_35 : decode b_M_collect 35 = .ok (.ifCond .ne (5), 3) := by decide +kernel
theorem d_M_collect_38 : decode b_M_collect 38 = .ok (.iconst 0, 1) := by decide +kernel
theorem d_M_collect_39 : decode b_M_collect 39 = .ok (.ireturn, 1) := by decide +kernel
theorem d_M_collect_40 : decode b_M_collect 40 = .ok (.iinc 2 (1), 3) := by decide +kernel
theorem d_M_collect_43 : decode b_M_collect 43 = .ok (.goto (-38), 3) := by decide +kernel
theorem d_M_collect_46 : decode b_M_collect 46 = .ok (.aload_n 0, 1) := by decide +kernel
theorem d_M_collect_47 : decode b_M_collect 47 = .ok (.invokevirtual 71, 3) := by decide +kernel
theorem d_M_collect_50 : decode b_M_collect 50 = .ok (.ifCond .ne (5), 3) := by decide +kernel
theorem d_M_collect_53 : decode b_M_collect 53 = .ok (.iconst 0, 1) := by decide +kernel
theorem d_M_collect_54 : decode b_M_collect 54 = .ok (.ireturn, 1) := by decide +kernel
theorem d_M_collect_55 : decode b_M_collect 55 = .ok (.aload_n 0, 1) := by decide +kernel
theorem d_M_collect_56 : decode b_M_collect 56 = .ok (.getfield 50, 3) := by decide +kernel
theorem d_M_collect_59 : decode b_M_collect 59 = .ok (.iload_n 1, 1) := by decide +kernel
theorem d_M_collect_60 : decode b_M_collect 60 = .ok (.iconst 1, 1) := by decide +kernel
theorem d_M_collect_61 : decode b_M_collect 61 = .ok (.bastore, 1) := by decide +kernel
theorem d_M_collect_62 : decode b_M_collect 62 = .ok (.aload_n 0, 1) := by decide +kernel
theorem d_M_collect_63 : decode b_M_collect 63 = .ok (.getfield 47, 3) := by decide +kernel
theorem d_M_collect_66 : decode b_M_collect 66 = .ok (.iload_n 1, 1) := by decide +kernel
theorem d_M_collect_67 : decode b_M_collect 67 = .ok (.baload, 1) := by decide +kernel
theorem d_M_collect_68 : decode b_M_collect 68 = .ok (.ifCond .eq (12), 3) := by decide +kernel
theorem d_M_collect_71 : decode b_M_collect 71 = .ok (.aload_n 0, 1) := by decide +kernel
theorem d_M_collect_72 : decode b_M_collect 72 = .ok (.getfield 44, 3) := by decide +kernel
theorem d_M_collect_75 : decode b_M_collect 75 = .ok (.iload_n 1, 1) := by decide +kernel
theorem d_M_collect_76 : decode b_M_collect 76 = .ok (.iconst 1, 1) := by decide +kernel
theorem d_M_collect_77 : decode b_M_collect 77 = .ok (.bastore, 1) := by decide +kernel
theorem d_M_collect_78 : decode b_M_collect 78 = .ok (.iconst 1, 1) := by decide +kernel
theorem d_M_collect_79 : decode b_M_collect 79 = .ok (.ireturn, 1) := by decide +kernel
theorem d_M_collect_80 : decode b_M_collect 80 = .ok (.aload_n 0, 1) := by decide +kernel
theorem d_M_collect_81 : decode b_M_collect 81 = .ok (.getfield 53, 3) := by decide +kernel
theorem d_M_collect_84 : decode b_M_collect 84 = .ok (.iload_n 1, 1) := by decide +kernel
theorem d_M_collect_85 : decode b_M_collect 85 = .ok (.dup2, 1) := by decide +kernel
theorem d_M_collect_86 : decode b_M_collect 86 = .ok (.iaload, 1) := by decide +kernel
theorem d_M_collect_87 : decode b_M_collect 87 = .ok (.iconst 1, 1) := by decide +kernel
theorem d_M_collect_88 : decode b_M_collect 88 = .ok (.iadd, 1) := by decide +kernel
theorem d_M_collect_89 : decode b_M_collect 89 = .ok (.iastore, 1) := by decide +kernel
theorem d_M_collect_90 : decode b_M_collect 90 = .ok (.bipush 8, 2) := by decide +kernel
theorem d_M_collect_92 : decode b_M_collect 92 = .ok (.iload_n 1, 1) := by decide +kernel
theorem d_M_collect_93 : decode b_M_collect 93 = .ok (.imul, 1) := by decide +kernel
theorem d_M_collect_94 : decode b_M_collect 94 = .ok (.istore_n 2, 1) := by decide +kernel
theorem d_M_collect_95 : decode b_M_collect 95 = .ok (.iload_n 2, 1) := by decide +kernel
theorem d_M_collect_96 : decode b_M_collect 96 = .ok (.bipush 8, 2) := by decide +kernel
theorem d_M_collect_98 : decode b_M_collect 98 = .ok (.iload_n 1, 1) := by decide +kernel
theorem d_M_collect_99 : decode b_M_collect 99 = .ok (.imul, 1) := by decide +kernel
theorem d_M_collect_100 : decode b_M_collect 100 = .ok (.bipush 8, 2) := by decide +kernel
theorem d_M_collect_102 : decode b_M_collect 102 = .ok (.iadd, 1) := by decide +kernel
theorem d_M_collect_103 : decode b_M_collect 103 = .ok (.if_icmp .ge (16), 3) := by decide +kernel
theorem d_M_collect_106 : decode b_M_collect 106 = .ok (.aload_n 0, 1) := by decide +kernel
theorem d_M_collect_107 : decode b_M_collect 107 = .ok (.getfield 7, 3) := by decide +kernel
theorem d_M_collect_110 : decode b_M_collect 110 = .ok (.iload_n 2, 1) := by decide +kernel
theorem d_M_collect_111 : decode b_M_collect 111 = .ok (.iconst 0, 1) := by decide +kernel
theorem d_M_collect_112 : decode b_M_collect 112 = .ok (.iastore, 1) := by decide +kernel
theorem d_M_collect_113 : decode b_M_collect 113 = .ok (.iinc 2 (1), 3) := by decide +kernel
theorem d_M_collect_116 : decode b_M_collect 116 = .ok (.goto (-21), 3) := by decide +kernel
theorem d_M_collect_119 : decode b_M_collect 119 = .ok (.iconst 1, 1) := by decide +kernel
theorem d_M_collect_120 : decode b_M_collect 120 = .ok (.ireturn, 1) := by decide +kernel
theorem d_M_free_0 : decode b_M_free 0 = .ok (.iconst 0, 1) := by decide +kernel
theorem d_M_free_1 : decode b_M_free 1 = .ok (.istore_n 1, 1) := by decide +kernel
theorem d_M_free_2 : decode b_M_free 2 = .ok (.iconst 0, 1) := by decide +kernel
theorem d_M_free_3 : decode b_M_free 3 = .ok (.istore_n 2, 1) := by decide +kernel
theorem d_M_free_4 : decode b_M_free 4 = .ok (.iload_n 2, 1) := by decide +kernel
theorem d_M_free_5 : decode b_M_free 5 = .ok (.bipush 6, 2) := by decide +kernel
theorem d_M_free_7 : decode b_M_free 7 = .ok (.if_icmp .ge (33), 3) := by decide +kernel
theorem d_M_free_10 : decode b_M_free 10 = .ok (.iload_n 1, 1) := by decide +kernel
theorem d_M_free_11 : decode b_M_free 11 = .ok (.aload_n 0, 1) := by decide +kernel
theorem d_M_free_12 : decode b_M_free 12 = .ok (.getfield 44, 3) := by decide +kernel
theorem d_M_free_15 : decode b_M_free 15 = .ok (.iload_n 2, 1) := by decide +kernel
theorem d_M_free_16 : decode b_M_free 16 = .ok (.baload, 1) := by decide +kernel
theorem d_M_free_17 : decode b_M_free 17 = .ok (.ifCond .eq (7), 3) := by decide +kernel
theorem d_M_free_20 : decode b_M_free 20 = .ok (.iconst 0, 1) := by decide +kernel
theorem d_M_free_21 : decode b_M_free 21 = .ok (.goto (11), 3) := by decide +kernel
theorem d_M_free_24 : decode b_M_free 24 = .ok (.bipush 8, 2) := by decide +kernel
theorem d_M_free_26 : decode b_M_free 26 = .ok (.aload_n 0, 1) := by decide +kernel
theorem d_M_free_27 : decode b_M_free 27 = .ok (.iload_n 2, 1) := by decide +kernel
theorem d_M_free_28 : decode b_M_free 28 = .ok (.invokevirtual 67, 3) := by decide +kernel
theorem d_M_free_31 : decode b_M_free 31 = .ok (.isub, 1) := by decide +kernel
theorem d_M_free_32 : decode b_M_free 32 = .ok (.iadd, 1) := by decide +kernel
theorem d_M_free_33 : decode b_M_free 33 = .ok (.istore_n 1, 1) := by decide +kernel
theorem d_M_free_34 : decode b_M_free 34 = .ok (.iinc 2 (1), 3) := by decide +kernel
theorem d_M_free_37 : decode b_M_free 37 = .ok (.goto (-33), 3) := by decide +kernel
theorem d_M_free_40 : decode b_M_free 40 = .ok (.iload_n 1, 1) := by decide +kernel
theorem d_M_free_41 : decode b_M_free 41 = .ok (.ireturn, 1) := by decide +kernel
theorem d_M_poorest_0 : decode b_M_poorest 0 = .ok (.iconst (-1), 1) := by decide +kernel
theorem d_M_poorest_1 : decode b_M_poorest 1 = .ok (.istore_n 1, 1) := by decide +kernel
theorem d_M_poorest_2 : decode b_M_poorest 2 = .ok (.aload_n 0, 1) := by decide +kernel
theorem d_M_poorest_3 : decode b_M_poorest 3 = .ok (.invokevirtual 122, 3) := by decide +kernel
theorem d_M_poorest_6 : decode b_M_poorest 6 = .ok (.istore_n 2, 1) := by decide +kernel
theorem d_M_poorest_7 : decode b_M_poorest 7 = .ok (.iconst 5, 1) := by decide +kernel
theorem d_M_poorest_8 : decode b_M_poorest 8 = .ok (.istore_n 3, 1) := by decide +kernel
theorem d_M_poorest_9 : decode b_M_poorest 9 = .ok (.iload_n 3, 1) := by decide +kernel
theorem d_M_poorest_10 : decode b_M_poorest 10 = .ok (.ifCond .lt (76), 3) := by decide +kernel
theorem d_M_poorest_13 : decode b_M_poorest 13 = .ok (.aload_n 0, 1) := by decide +kernel
theorem d_M_poorest_14 : decode b_M_poorest 14 = .ok (.iload_n 3, 1) := by decide +kernel
theorem d_M_poorest_15 : decode b_M_poorest 15 = .ok (.invokevirtual 125, 3) := by decide +kernel
theorem d_M_poorest_18 : decode b_M_poorest 18 = .ok (.istore 4, 2) := by decide +kernel
theorem d_M_poorest_20 : decode b_M_poorest 20 = .ok (.aload_n 0, 1) := by decide +kernel
theorem d_M_poorest_21 : decode b_M_poorest 21 = .ok (.getfield 44, 3) := by decide +kernel
theorem d_M_poorest_24 : decode b_M_poorest 24 = .ok (.iload_n 3, 1) := by decide +kernel
theorem d_M_poorest_25 : decode b_M_poorest 25 = .ok (.baload, 1) := by decide +kernel
theorem d_M_poorest_26 : decode b_M_poorest 26 = .ok (.ifCond .ne (30), 3) := by decide +kernel
theorem d_M_poorest_29 : decode b_M_poorest 29 = .ok (.aload_n 0, 1) := by decide +kernel
theorem d_M_poorest_30 : decode b_M_poorest 30 = .ok (.iload_n 3, 1) := by decide +kernel
theorem d_M_poorest_31 : decode b_M_poorest 31 = .ok (.invokevirtual 67, 3) := by decide +kernel
theorem d_M_poorest_34 : decode b_M_poorest 34 = .ok (.bipush 8, 2) := by decide +kernel
theorem d_M_poorest_36 : decode b_M_poorest 36 = .ok (.if_icmp .ne (20), 3) := by decide +kernel
theorem d_M_poorest_39 : decode b_M_poorest 39 = .ok (.iload 4, 2) := by decide +kernel
theorem d_M_poorest_41 : decode b_M_poorest 41 = .ok (.bipush 8, 2) := by decide +kernel
theorem d_M_poorest_43 : decode b_M_poorest 43 = .ok (.if_icmp .ge (13), 3) := by decide +kernel
theorem d_M_poorest_46 : decode b_M_poorest 46 = .ok (.iload 4, 2) := by decide +kernel
theorem d_M_poorest_48 : decode b_M_poorest 48 = .ok (.iload_n 2, 1) := by decide +kernel
theorem d_M_poorest_49 : decode b_M_poorest 49 = .ok (.if_icmp .gt (7), 3) := by decide +kernel
theorem d_M_poorest_52 : decode b_M_poorest 52 = .ok (.iconst 1, 1) := by decide +kernel
theorem d_M_poorest_53 : decode b_M_poorest 53 = .ok (.goto (4), 3) := by decide +kernel
theorem d_M_poorest_56 : decode b_M_poorest 56 = .ok (.iconst 0, 1) := by decide +kernel
theorem d_M_poorest_57 : decode b_M_poorest 57 = .ok (.istore 5, 2) := by decide +kernel
theorem d_M_poorest_59 : decode b_M_poorest 59 = .ok (.iload 5, 2) := by decide +kernel
theorem d_M_poorest_61 : decode b_M_poorest 61 = .ok (.ifCond .eq (19), 3) := by decide +kernel
theorem d_M_poorest_64 : decode b_M_poorest 64 = .ok (.iload_n 1, 1) := by decide +kernel
theorem d_M_poorest_65 : decode b_M_poorest 65 = .ok (.ifCond .lt (13), 3) := by decide +kernel
theorem d_M_poorest_68 : decode b_M_poorest 68 = .ok (.iload 4, 2) := by decide +kernel
theorem d_M_poorest_70 : decode b_M_poorest 70 = .ok (.aload_n 0, 1) := by decide +kernel
theorem d_M_poorest_71 : decode b_M_poorest 71 = .ok (.iload_n 1, 1) := by decide +kernel
theorem d_M_poorest_72 : decode b_M_poorest 72 = .ok (.invokevirtual 125, 3) := by decide +kernel
theorem d_M_poorest_75 : decode b_M_poorest 75 = .ok (.if_icmp .gt (5), 3) := by decide +kernel
theorem d_M_poorest_78 : decode b_M_poorest 78 = .ok (.iload_n 3, 1) := by decide +kernel
theorem d_M_poorest_79 : decode b_M_poorest 79 = .ok (.istore_n 1, 1) := by decide +kernel
theorem d_M_poorest_80 : decode b_M_poorest 80 = .ok (.iinc 3 (-1), 3) := by decide +kernel
theorem d_M_poorest_83 : decode b_M_poorest 83 = .ok (.goto (-74), 3) := by decide +kernel
theorem d_M_poorest_86 : decode b_M_poorest 86 = .ok (.iload_n 1, 1) := by decide +kernel
theorem d_M_poorest_87 : decode b_M_poorest 87 = .ok (.ireturn, 1) := by decide +kernel
