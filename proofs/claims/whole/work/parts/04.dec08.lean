theorem d_M_sizeOf_0 : decode b_M_sizeOf 0 = .ok (.iconst (-1), 1) := by decide +kernel
theorem d_M_sizeOf_1 : decode b_M_sizeOf 1 = .ok (.istore_n 2, 1) := by decide +kernel
theorem d_M_sizeOf_2 : decode b_M_sizeOf 2 = .ok (.iconst 0, 1) := by decide +kernel
theorem d_M_sizeOf_3 : decode b_M_sizeOf 3 = .ok (.istore_n 3, 1) := by decide +kernel
theorem d_M_sizeOf_4 : decode b_M_sizeOf 4 = .ok (.iload_n 3, 1) := by decide +kernel
theorem d_M_sizeOf_5 : decode b_M_sizeOf 5 = .ok (.bipush 48, 2) := by decide +kernel
theorem d_M_sizeOf_7 : decode b_M_sizeOf 7 = .ok (.if_icmp .ge (53), 3) := by decide +kernel
theorem d_M_sizeOf_10 : decode b_M_sizeOf 10 = .ok (.aload_n 0, 1) := by decide +kernel
theorem d_M_sizeOf_11 : decode b_M_sizeOf 11 = .ok (.getfield 7, 3) := by decide +kernel
theorem d_M_sizeOf_14 : decode b_M_sizeOf 14 = .ok (.iload_n 3, 1) := by decide +kernel
theorem d_M_sizeOf_15 : decode b_M_sizeOf 15 = .ok (.iaload, 1) := by decide +kernel
theorem d_M_sizeOf_16 : decode b_M_sizeOf 16 = .ok (.iconst 1, 1) := by decide +kernel
theorem d_M_sizeOf_17 : decode b_M_sizeOf 17 = .ok (.if_icmp .ne (37), 3) := by decide +kernel
theorem d_M_sizeOf_20 : decode b_M_sizeOf 20 = .ok (.aload_n 0, 1) := by decide +kernel
theorem d_M_sizeOf_21 : decode b_M_sizeOf 21 = .ok (.getfield 13, 3) := by decide +kernel
theorem d_M_sizeOf_24 : decode b_M_sizeOf 24 = .ok (.iload_n 3, 1) := by decide +kernel
theorem d_M_sizeOf_25 : decode b_M_sizeOf 25 = .ok (.iaload, 1) := by decide +kernel
theorem d_M_sizeOf_26 : decode b_M_sizeOf 26 = .ok (.iload_n 1, 1) := by decide +kernel
theorem d_M_sizeOf_27 : decode b_M_sizeOf 27 = .ok (.if_icmp .ne (27), 3) := by decide +kernel
theorem d_M_sizeOf_30 : decode b_M_sizeOf 30 = .ok (.aload_n 0, 1) := by decide +kernel
theorem d_M_sizeOf_31 : decode b_M_sizeOf 31 = .ok (.getfield 16, 3) := by decide +kernel
theorem d_M_sizeOf_34 : decode b_M_sizeOf 34 = .ok (.iload_n 3, 1) := by decide +kernel
theorem d_M_sizeOf_35 : decode b_M_sizeOf 35 = .ok (.iaload, 1) := by decide +kernel
theorem d_M_sizeOf_36 : decode b_M_sizeOf 36 = .ok (.ifCond .ne (18), 3) := by decide +kernel
theorem d_M_sizeOf_39 : decode b_M_sizeOf 39 = .ok (.aload_n 0, 1) := by decide +kernel
theorem d_M_sizeOf_40 : decode b_M_sizeOf 40 = .ok (.iload_n 3, 1) := by decide +kernel
theorem d_M_sizeOf_41 : decode b_M_sizeOf 41 = .ok (.invokevirtual 173, 3) := by decide +kernel
theorem d_M_sizeOf_44 : decode b_M_sizeOf 44 = .ok (.ifCond .ne (10), 3) := by decide +kernel
theorem d_M_sizeOf_47 : decode b_M_sizeOf 47 = .ok (.aload_n 0, 1) := by decide +kernel
theorem d_M_sizeOf_48 : decode b_M_sizeOf 48 = .ok (.getfield 28, 3) := by decide +kernel
theorem d_M_sizeOf_51 : decode b_M_sizeOf 51 = .ok (.iload_n 3, 1) := by decide +kernel
theorem d_M_sizeOf_52 : decode b_M_sizeOf 52 = .ok (.iaload, 1) := by decide +kernel
theorem d_M_sizeOf_53 : decode b_M_sizeOf 53 = .ok (.istore_n 2, 1) := by decide +kernel
theorem d_M_sizeOf_54 : decode b_M_sizeOf 54 = .ok (.iinc 3 (1), 3) := by decide +kernel
theorem d_M_sizeOf_57 : decode b_M_sizeOf 57 = .ok (.goto (-53), 3) := by decide +kernel
theorem d_M_sizeOf_60 : decode b_M_sizeOf 60 = .ok (.iload_n 2, 1) := by decide +kernel
theorem d_M_sizeOf_61 : decode b_M_sizeOf 61 = .ok (.ireturn, 1) := by decide +kernel
theorem d_M_mount_0 : decode b_M_mount 0 = .ok (.aload_n 0, 1) := by decide +kernel
theorem d_M_mount_1 : decode b_M_mount 1 = .ok (.iconst 1, 1) := by decide +kernel
theorem d_M_mount_2 : decode b_M_mount 2 = .ok (.putfield 56, 3) := by decide +kernel
theorem d_M_mount_5 : decode b_M_mount 5 = .ok (.iload_n 1, 1) := by decide +kernel
theorem d_M_mount_6 : decode b_M_mount 6 = .ok (.ifCond .ne (10), 3) := by decide +kernel
theorem d_M_mount_9 : decode b_M_mount 9 = .ok (.aload_n 0, 1) := by decide +kernel
theorem d_M_mount_10 : decode b_M_mount 10 = .ok (.getfield 170, 3) := by decide +kernel
theorem d_M_mount_13 : decode b_M_mount 13 = .ok (.ifCond .ne (7), 3) := by decide +kernel
theorem d_M_mount_16 : decode b_M_mount 16 = .ok (.iconst 1, 1) := by decide +kernel
theorem d_M_mount_17 : decode b_M_mount 17 = .ok (.goto (4), 3) := by decide +kernel
theorem d_M_mount_20 : decode b_M_mount 20 = .ok (.iconst 0, 1) := by decide +kernel
theorem d_M_mount_21 : decode b_M_mount 21 = .ok (.istore_n 2, 1) := by decide +kernel
theorem d_M_mount_22 : decode b_M_mount 22 = .ok (.iload_n 2, 1) := by decide +kernel
theorem d_M_mount_23 : decode b_M_mount 23 = .ok (.ifCond .eq (7), 3) := by decide +kernel
theorem d_M_mount_26 : decode b_M_mount 26 = .ok (.iconst 0, 1) := by decide +kernel
theorem d_M_mount_27 : decode b_M_mount 27 = .ok (.goto (4), 3) := by decide +kernel
theorem d_M_mount_30 : decode b_M_mount 30 = .ok (.iconst 1, 1) := by decide +kernel
theorem d_M_mount_31 : decode b_M_mount 31 = .ok (.istore_n 3, 1) := by decide +kernel
theorem d_M_mount_32 : decode b_M_mount 32 = .ok (.iconst 0, 1) := by decide +kernel
theorem d_M_mount_33 : decode b_M_mount 33 = .ok (.istore 4, 2) := by decide +kernel
theorem d_M_mount_35 : decode b_M_mount 35 = .ok (.iload 4, 2) := by decide +kernel
theorem d_M_mount_37 : decode b_M_mount 37 = .ok (.bipush 6, 2) := by decide +kernel
theorem d_M_mount_39 : decode b_M_mount 39 = .ok (.if_icmp .ge (42), 3) := by decide +kernel
theorem d_M_mount_42 : decode b_M_mount 42 = .ok (.iload_n 3, 1) := by decide +kernel
theorem d_M_mount_43 : decode b_M_mount 43 = .ok (.aload_n 0, 1) := by decide +kernel
theorem d_M_mount_44 : decode b_M_mount 44 = .ok (.getfield 44, 3) := by decide +kernel
theorem d_M_mount_47 : decode b_M_mount 47 = .ok (.iload 4, 2) := by decide +kernel
theorem d_M_mount_49 : decode b_M_mount 49 = .ok (.baload, 1) := by decide +kernel
theorem d_M_mount_50 : decode b_M_mount 50 = .ok (.ifCond .ne (22), 3) := by decide +kernel
theorem d_M_mount_53 : decode b_M_mount 53 = .ok (.iload_n 2, 1) := by decide +kernel
theorem d_M_mount_54 : decode b_M_mount 54 = .ok (.ifCond .ne (13), 3) := by decide +kernel
theorem d_M_mount_57 : decode b_M_mount 57 = .ok (.aload_n 0, 1) := by decide +kernel
theorem d_M_mount_58 : decode b_M_mount 58 = .ok (.getfield 50, 3) := by decide +kernel
theorem d_M_mount_61 : decode b_M_mount 61 = .ok (.iload 4, 2) := by decide +kernel
theorem d_M_mount_63 : decode b_M_mount 63 = .ok (.baload, 1) := by decide +kernel
theorem d_M_mount_64 : decode b_M_mount 64 = .ok (.ifCond .eq (8), 3) := by decide +kernel
theorem d_M_mount_67 : decode b_M_mount 67 = .ok (.bipush 8, 2) := by decide +kernel
theorem d_M_mount_69 : decode b_M_mount 69 = .ok (.goto (4), 3) := by decide +kernel
theorem d_M_mount_72 : decode b_M_mount 72 = .ok (.iconst 0, 1) := by decide +kernel
theorem d_M_mount_73 : decode b_M_mount 73 = .ok (.iadd, 1) := by decide +kernel
theorem d_M_mount_74 : decode b_M_mount 74 = .ok (.istore_n 3, 1) := by decide +kernel
theorem d_M_mount_75 : decode b_M_mount 75 = .ok (.iinc 4 (1), 3) := by decide +kernel
theorem d_M_mount_78 : decode b_M_mount 78 = .ok (.goto (-43), 3) := by decide +kernel
theorem d_M_mount_81 : decode b_M_mount 81 = .ok (.iconst 0, 1) := by decide +kernel
theorem d_M_mount_82 : decode b_M_mount 82 = .ok (.istore 4, 2) := by decide +kernel
theorem d_M_mount_84 : decode b_M_mount 84 = .ok (.iload 4, 2) := by decide +kernel
theorem d_M_mount_86 : decode b_M_mount 86 = .ok (.bipush 48, 2) := by decide +kernel
theorem d_M_mount_88 : decode b_M_mount 88 = .ok (.if_icmp .ge (84), 3) := by decide +kernel
theorem d_M_mount_91 : decode b_M_mount 91 = .ok (.aload_n 0, 1) := by decide +kernel
theorem d_M_mount_92 : decode b_M_mount 92 = .ok (.getfield 16, 3) := by decide +kernel
theorem d_M_mount_95 : decode b_M_mount 95 = .ok (.iload 4, 2) := by decide +kernel
theorem d_M_mount_97 : decode b_M_mount 97 = .ok (.iaload, 1) := by decide +kernel
theorem d_M_mount_98 : decode b_M_mount 98 = .ok (.ifCond .eq (28), 3) := by decide +kernel
theorem d_M_mount_101 : decode b_M_mount 101 = .ok (.aload_n 0, 1) := by decide +kernel
theorem d_M_mount_102 : decode b_M_mount 102 = .ok (.getfield 16, 3) := by decide +kernel
theorem d_M_mount_105 : decode b_M_mount 105 = .ok (.iload 4, 2) := by decide +kernel
theorem d_M_mount_107 : decode b_M_mount 107 = .ok (.iaload, 1) := by decide +kernel
theorem d_M_mount_108 : decode b_M_mount 108 = .ok (.aload_n 0, 1) := by decide +kernel
theorem d_M_mount_109 : decode b_M_mount 109 = .ok (.aload_n 0, 1) := by decide +kernel
theorem d_M_mount_110 : decode b_M_mount 110 = .ok (.getfield 13, 3) := by decide +kernel
theorem d_M_mount_113 : decode b_M_mount 113 = .ok (.iload 4, 2) := by decide +kernel
theorem d_M_mount_115 : decode b_M_mount 115 = .ok (.iaload, 1) := by decide +kernel
theorem d_M_mount_116 : decode b_M_mount 116 = .ok (.invokevirtual 176, 3) := by decide +kernel
theorem d_M_mount_119 : decode b_M_mount 119 = .ok (.if_icmp .le (7), 3) := by decide +kernel
theorem d_M_mount_122 : decode b_M_mount 122 = .ok (.iconst 1, 1) := by decide +kernel
theorem d_M_mount_123 : decode b_M_mount 123 = .ok (.goto (4), 3) := by decide +kernel
theorem d_M_mount_126 : decode b_M_mount 126 = .ok (.iconst 0, 1) := by decide +kernel
theorem d_M_mount_127 : decode b_M_mount 127 = .ok (.istore 5, 2) := by decide +kernel
theorem d_M_mount_129 : decode b_M_mount 129 = .ok (.aload_n 0, 1) := by decide +kernel
theorem d_M_mount_130 : decode b_M_mount 130 = .ok (.getfield 41, 3) := by decide +kernel
theorem d_M_mount_133 : decode b_M_mount 133 = .ok (.iload 4, 2) := by decide +kernel
theorem d_M_mount_135 : decode b_M_mount 135 = .ok (.aload_n 0, 1) := by decide +kernel
theorem d_M_mount_136 : decode b_M_mount 136 = .ok (.getfield 7, 3) := by decide +kernel
theorem d_M_mount_139 : decode b_M_mount 139 = .ok (.iload 4, 2) := by decide +kernel
theorem d_M_mount_141 : decode b_M_mount 141 = .ok (.iaload, 1) := by decide +kernel
theorem d_M_mount_142 : decode b_M_mount 142 = .ok (.iconst 1, 1) := by decide +kernel
theorem d_M_mount_143 : decode b_M_mount 143 = .ok (.if_icmp .ne (21), 3) := by decide +kernel
theorem d_M_mount_146 : decode b_M_mount 146 = .ok (.aload_n 0, 1) := by decide +kernel
theorem d_M_mount_147 : decode b_M_mount 147 = .ok (.iload 4, 2) := by decide +kernel
theorem d_M_mount_149 : decode b_M_mount 149 = .ok (.invokevirtual 173, 3) := by decide +kernel
theorem d_M_mount_152 : decode b_M_mount 152 = .ok (.ifCond .ne (8), 3) := by decide +kernel
theorem d_M_mount_155 : decode b_M_mount 155 = .ok (.iload 5, 2) := by decide +kernel
theorem d_M_mount_157 : decode b_M_mount 157 = .ok (.ifCond .eq (7), 3) := by decide +kernel
theorem d_M_mount_160 : decode b_M_mount 160 = .ok (.iconst 1, 1) := by decide +kernel
theorem d_M_mount_161 : decode b_M_mount 161 = .ok (.goto (4), 3) := by decide +kernel
theorem d_M_mount_164 : decode b_M_mount 164 = .ok (.iconst 0, 1) := by decide +kernel
theorem d_M_mount_165 : decode b_M_mount 165 = .ok (.bastore, 1) := by decide +kernel
theorem d_M_mount_166 : decode b_M_mount 166 = .ok (.iinc 4 (1), 3) := by decide +kernel
theorem d_M_mount_169 : decode b_M_mount 169 = .ok (.goto (-85), 3) := by decide +kernel
theorem d_M_mount_172 : decode b_M_mount 172 = .ok (.iconst 0, 1) := by decide +kernel
theorem d_M_mount_173 : decode b_M_mount 173 = .ok (.istore 4, 2) := by decide +kernel
theorem d_M_mount_175 : decode b_M_mount 175 = .ok (.iload 4, 2) := by decide +kernel
theorem d_M_mount_177 : decode b_M_mount 177 = .ok (.bipush 48, 2) := by decide +kernel
theorem d_M_mount_179 : decode b_M_mount 179 = .ok (.if_icmp .ge (31), 3) := by decide +kernel
theorem d_M_mount_182 : decode b_M_mount 182 = .ok (.aload_n 0, 1) := by decide +kernel
theorem d_M_mount_183 : decode b_M_mount 183 = .ok (.getfield 41, 3) := by decide +kernel
theorem d_M_mount_186 : decode b_M_mount 186 = .ok (.iload 4, 2) := by decide +kernel
theorem d_M_mount_188 : decode b_M_mount 188 = .ok (.baload, 1) := by decide +kernel
theorem d_M_mount_189 : decode b_M_mount 189 = .ok (.ifCond .eq (15), 3) := by decide +kernel
theorem d_M_mount_192 : decode b_M_mount 192 = .ok (.aload_n 0, 1) := by decide +kernel
theorem d_M_mount_193 : decode b_M_mount 193 = .ok (.iload 4, 2) := by decide +kernel
theorem d_M_mount_195 : decode b_M_mount 195 = .ok (.invokevirtual 107, 3) := by decide +kernel
theorem d_M_mount_198 : decode b_M_mount 198 = .ok (.ifCond .ne (6), 3) := by decide +kernel
theorem d_M_mount_201 : decode b_M_mount 201 = .ok (.bipush (-9), 2) := by decide +kernel
theorem d_M_mount_203 : decode b_M_mount 203 = .ok (.ireturn, 1) := by decide +kernel
theorem d_M_mount_204 : decode b_M_mount 204 = .ok (.iinc 4 (1), 3) := by decide +kernel
theorem d_M_mount_207 : decode b_M_mount 207 = .ok (.goto (-32), 3) := by decide +kernel
theorem d_M_mount_210 : decode b_M_mount 210 = .ok (.iload_n 3, 1) := by decide +kernel
theorem d_M_mount_211 : decode b_M_mount 211 = .ok (.ireturn, 1) := by decide +kernel
theorem d_M_cut_0 : decode b_M_cut 0 = .ok (.aload_n 0, 1) := by decide +kernel
theorem d_M_cut_1 : decode b_M_cut 1 = .ok (.iload_n 1, 1) := by decide +kernel
theorem d_M_cut_2 : decode b_M_cut 2 = .ok (.ifCond .lt (14), 3) := by decide +kernel
theorem d_M_cut_5 : decode b_M_cut 5 = .ok (.iload_n 1, 1) := by decide +kernel
theorem d_M_cut_6 : decode b_M_cut 6 = .ok (.sipush 1000, 3) := by decide +kernel
theorem d_M_cut_9 : decode b_M_cut 9 = .ok (.if_icmp .gt (7), 3) := by decide +kernel
theorem d_M_cut_12 : decode b_M_cut 12 = .ok (.iload_n 1, 1) := by decide +kernel
theorem d_M_cut_13 : decode b_M_cut 13 = .ok (.goto (4), 3) := by decide +kernel
theorem d_M_cut_16 : decode b_M_cut 16 = .ok (.iconst (-1), 1) := by decide +kernel
theorem d_M_cut_17 : decode b_M_cut 17 = .ok (.putfield 60, 3) := by decide +kernel
theorem d_M_cut_20 : decode b_M_cut 20 = .ok (.return_, 1) := by decide +kernel
theorem d_M_outside_0 : decode b_M_outside 0 = .ok (.iload_n 0, 1) := by decide +kernel
theorem d_M_outside_1 : decode b_M_outside 1 = .ok (.ifCond .lt (18), 3) := by decide +kernel
theorem d_M_outside_4 : decode b_M_outside 4 = .ok (.iload_n 0, 1) := by decide +kernel
theorem d_M_outside_5 : decode b_M_outside 5 = .ok (.iconst 5, 1) := by decide +kernel
theorem d_M_outside_6 : decode b_M_outside 6 = .ok (.if_icmp .gt (13), 3) := by decide +kernel
theorem d_M_outside_9 : decode b_M_outside 9 = .ok (.iload_n 1, 1) := by decide +kernel
theorem d_M_outside_10 : decode b_M_outside 10 = .ok (.ifCond .lt (9), 3) := by decide +kernel
theorem d_M_outside_13 : decode b_M_outside 13 = .ok (.iload_n 1, 1) := by decide +kernel
theorem d_M_outside_14 : decode b_M_outside 14 = .ok (.bipush 7, 2) := by decide +kernel
theorem d_M_outside_16 : decode b_M_outside 16 = .ok (.if_icmp .le (7), 3) := by decide +kernel
theorem d_M_outside_19 : decode b_M_outside 19 = .ok (.iconst 1, 1) := by decide +kernel
theorem d_M_outside_20 : decode b_M_outside 20 = .ok (.goto (4), 3) := by decide +kernel
theorem d_M_outside_23 : decode b_M_outside 23 = .ok (.iconst 0, 1) := by decide +kernel
theorem d_M_outside_24 : decode b_M_outside 24 = .ok (.ireturn, 1) := by decide +kernel
theorem d_M_flip_0 : decode b_M_flip 0 = .ok (.iload_n 1, 1) := by decide +kernel
theorem d_M_flip_1 : decode b_M_flip 1 = .ok (.iload_n 2, 1) := by decide +kernel
theorem d_M_flip_2 : decode b_M_flip 2 = .ok (.invokestatic 179, 3) := by decide +kernel
theorem d_M_flip_5 : decode b_M_flip 5 = .ok (.ifCond .ne (13), 3) := by decide +kernel
theorem d_M_flip_8 : decode b_M_flip 8 = .ok (.iload_n 3, 1) := by decide +kernel
theorem d_M_flip_9 : decode b_M_flip 9 = .ok (.ifCond .lt (9), 3) := by decide +kernel
theorem d_M_flip_12 : decode b_M_flip 12 = .ok (.iload_n 3, 1) := by decide +kernel
theorem d_M_flip_13 : decode b_M_flip 13 = .ok (.bipush 38, 2) := by decide +kernel
theorem d_M_flip_15 : decode b_M_flip 15 = .ok (.if_icmp .le (5), 3) := by decide +kernel
theorem d_M_flip_18 : decode b_M_flip 18 = .ok (.iconst 0, 1) := by decide +kernel
theorem d_M_flip_19 : decode b_M_flip 19 = .ok (.ireturn, 1) := by decide +kernel
theorem d_M_flip_20 : decode b_M_flip 20 = .ok (.bipush 8, 2) := by decide +kernel
theorem d_M_flip_22 : decode b_M_flip 22 = .ok (.iload_n 1, 1) := by decide +kernel
theorem d_M_flip_23 : decode b_M_flip 23 = .ok (.imul, 1) := by decide +kernel
theorem d_M_flip_24 : decode b_M_flip 24 = .ok (.iload_n 2, 1) := by decide +kernel
theorem d_M_flip_25 : decode b_M_flip 25 = .ok (.iadd, 1) := by decide +kernel
theorem d_M_flip_26 : decode b_M_flip 26 = .ok (.istore 4, 2) := by decide +kernel
theorem d_M_flip_28 : decode b_M_flip 28 = .ok (.aload_n 0, 1) := by decide +kernel
theorem d_M_flip_29 : decode b_M_flip 29 = .ok (.getfield 44, 3) := by decide +kernel
theorem d_M_flip_32 : decode b_M_flip 32 = .ok (.iload_n 1, 1) := by decide +kernel
theorem d_M_flip_33 : decode b_M_flip 33 = .ok (.baload, 1) := by decide +kernel
theorem d_M_flip_34 : decode b_M_flip 34 = .ok (.ifCond .ne (23), 3) := by decide +kernel
theorem d_M_flip_37 : decode b_M_flip 37 = .ok (.aload_n 0, 1) := by decide +kernel
theorem d_M_flip_38 : decode b_M_flip 38 = .ok (.getfield 7, 3) := by decide +kernel
theorem d_M_flip_41 : decode b_M_flip 41 = .ok (.iload 4, 2) := by decide +kernel
theorem d_M_flip_43 : decode b_M_flip 43 = .ok (.iaload, 1) := by decide +kernel
theorem d_M_flip_44 : decode b_M_flip 44 = .ok (.ifCond .eq (13), 3) := by decide +kernel
theorem d_M_flip_47 : decode b_M_flip 47 = .ok (.aload_n 0, 1) := by decide +kernel
theorem d_M_flip_48 : decode b_M_flip 48 = .ok (.getfield 38, 3) := by decide +kernel
theorem d_M_flip_51 : decode b_M_flip 51 = .ok (.iload 4, 2) := by decide +kernel
theorem d_M_flip_53 : decode b_M_flip 53 = .ok (.iaload, 1) := by decide +kernel
theorem d_M_flip_54 : decode b_M_flip 54 = .ok (.ifCond .lt (5), 3) := by decide +kernel
theorem d_M_flip_57 : decode b_M_flip 57 = .ok (.iconst 0, 1) := by decide +kernel
theorem d_M_flip_58 : decode b_M_flip 58 = .ok (.ireturn, 1) := by decide +kernel
theorem d_M_flip_59 : decode b_M_flip 59 = .ok (.aload_n 0, 1) := by decide +kernel
theorem d_M_flip_60 : decode b_M_flip 60 = .ok (.getfield 35, 3) := by decide +kernel
theorem d_M_flip_63 : decode b_M_flip 63 = .ok (.iload 4, 2) := by decide +kernel
theorem d_M_flip_65 : decode b_M_flip 65 = .ok (.iaload, 1) := by decide +kernel
theorem d_M_flip_66 : decode b_M_flip 66 = .ok (.ifCond .ge (14), 3) := by decide +kernel
theorem d_M_flip_69 : decode b_M_flip 69 = .ok (.aload_n 0, 1) := by decide +kernel
theorem d_M_flip_70 : decode b_M_flip 70 = .ok (.getfield 35, 3) := by decide +kernel
theorem d_M_flip_73 : decode b_M_flip 73 = .ok (.iload 4, 2) := by decide +kernel
theorem d_M_flip_75 : decode b_M_flip 75 = .ok (.iload_n 3, 1) := by decide +kernel
theorem d_M_flip_76 : decode b_M_flip 76 = .ok (.iastore, 1) := by decide +kernel
theorem d_M_flip_77 : decode b_M_flip 77 = .ok (.goto (33), 3) := by decide +kernel
theorem d_M_flip_80 : decode b_M_flip 80 = .ok (.aload_n 0, 1) := by decide +kernel
theorem d_M_flip_81 : decode b_M_flip 81 = .ok (.getfield 35, 3) := by decide +kernel
theorem d_M_flip_84 : decode b_M_flip 84 = .ok (.iload 4, 2) := by decide +kernel
theorem d_M_flip_86 : decode b_M_flip 86 = .ok (.iaload, 1) := by decide +kernel
theorem d_M_flip_87 : decode b_M_flip 87 = .ok (.iload_n 3, 1) := by decide +kernel
theorem d_M_flip_88 : decode b_M_flip 88 = .ok (.if_icmp .ne (14), 3) := by decide +kernel
theorem d_M_flip_91 : decode b_M_flip 91 = .ok (.aload_n 0, 1) := by decide +kernel
theorem d_M_flip_92 : decode b_M_flip 92 = .ok (.getfield 35, 3) := by decide +kernel
theorem d_M_flip_95 : decode b_M_flip 95 = .ok (.iload 4, 2) := by decide +kernel
theorem d_M_flip_97 : decode b_M_flip 97 = .ok (.iconst (-1), 1) := by decide +kernel
theorem d_M_flip_98 : decode b_M_flip 98 = .ok (.iastore, 1) := by decide +kernel
theorem d_M_flip_99 : decode b_M_flip 99 = .ok (.goto (11), 3) := by decide +kernel
theorem d_M_flip_102 : decode b_M_flip 102 = .ok (.aload_n 0, 1) := by decide +kernel
theorem d_M_flip_103 : decode b_M_flip 103 = .ok (.getfield 38, 3) := by decide +kernel
theorem d_M_flip_106 : decode b_M_flip 106 = .ok (.iload 4, 2) := by decide +kernel
theorem d_M_flip_108 : decode b_M_flip 108 = .ok (.iload_n 3, 1) := by decide +kernel
theorem d_M_flip_109 : decode b_M_flip 109 = .ok (.iastore, 1) := by decide +kernel
theorem d_M_flip_110 : decode b_M_flip 110 = .ok (.iconst 1, 1) := by decide +kernel
theorem d_M_flip_111 : decode b_M_flip 111 = .ok (.ireturn, 1) := by decide +kernel
theorem d_M_wear_0 : decode b_M_wear 0 = .ok (.iload_n 1, 1) := by decide +kernel
theorem d_M_wear_1 : decode b_M_wear 1 = .ok (.iconst 0, 1) := by decide +kernel
theorem d_M_wear_2 : decode b_M_wear 2 = .ok (.invokestatic 179, 3) := by decide +kernel
theorem d_M_wear_5 : decode b_M_wear 5 = .ok (.ifCond .ne (21), 3) := by decide +kernel
theorem d_M_wear_8 : decode b_M_wear 8 = .ok (.aload_n 0, 1) := by decide +kernel
theorem d_M_wear_9 : decode b_M_wear 9 = .ok (.getfield 44, 3) := by decide +kernel
theorem d_M_wear_12 : decode b_M_wear 12 = .ok (.iload_n 1, 1) := by decide +kernel
theorem d_M_wear_13 : decode b_M_wear 13 = .ok (.baload, 1) := by decide +kernel
theorem d_M_wear_14 : decode b_M_wear 14 = .ok (.ifCond .ne (12), 3) := by decide +kernel
theorem d_M_wear_17 : decode b_M_wear 17 = .ok (.aload_n 0, 1) := by decide +kernel
theorem d_M_wear_18 : decode b_M_wear 18 = .ok (.getfield 47, 3) := by decide +kernel
theorem d_M_wear_21 : decode b_M_wear 21 = .ok (.iload_n 1, 1) := by decide +kernel
theorem d_M_wear_22 : decode b_M_wear 22 = .ok (.baload, 1) := by decide +kernel
theorem d_M_wear_23 : decode b_M_wear 23 = .ok (.ifCond .eq (5), 3) := by decide +kernel
theorem d_M_wear_26 : decode b_M_wear 26 = .ok (.iconst 0, 1) := by decide +kernel
theorem d_M_wear_27 : decode b_M_wear 27 = .ok (.ireturn, 1) := by decide +kernel
theorem d_M_wear_28 : decode b_M_wear 28 = .ok (.aload_n 0, 1) := by decide +kernel
theorem d_M_wear_29 : decode b_M_wear 29 = .ok (.getfield 47, 3) := by decide +kernel
theorem d_M_wear_32 : decode b_M_wear 32 = .ok (.iload_n 1, 1) := by decide +kernel
theorem d_M_wear_33 : decode b_M_wear 33 = .ok (.iconst 1, 1) := by decide +kernel
theorem d_M_wear_34 : decode b_M_wear 34 = .ok (.bastore, 1) := by decide +kernel
theorem d_M_wear_35 : decode b_M_wear 35 = .ok (.iconst 1, 1) := by decide +kernel
theorem d_M_wear_36 : decode b_M_wear 36 = .ok (.ireturn, 1) := by decide +kernel
theorem d_M_tags_0 : decode b_M_tags 0 = .ok (.iload_n 1, 1) := by decide +kernel
theorem d_M_tags_1 : decode b_M_tags 1 = .ok (.iload_n 2, 1) := by decide +kernel
theorem d_M_tags_2 : decode b_M_tags 2 = .ok (.invokestatic 179, 3) := by decide +kernel
theorem d_M_tags_5 : decode b_M_tags 5 = .ok (.ifCond .eq (5), 3) := by decide +kernel
theorem d_M_tags_8 : decode b_M_tags 8 = .ok (.iconst (-1), 1) := by decide +kernel
theorem d_M_tags_9 : decode b_M_tags 9 = .ok (.ireturn, 1) := by decide +kernel
theorem d_M_tags_10 : decode b_M_tags 10 = .ok (.bipush 8, 2) := by decide +kernel
theorem d_M_tags_12 : decode b_M_tags 12 = .ok (.iload_n 1, 1) := by decide +kernel
theorem d_M_tags_13 : decode b_M_tags 13 = .ok (.imul, 1) := by decide +kernel
theorem d_M_tags_14 : decode b_M_tags 14 = .ok (.iload_n 2, 1) := by decide +kernel
theorem d_M_tags_15 : decode b_M_tags 15 = .ok (.iadd, 1) := by decide +kernel
theorem d_M_tags_16 : decode b_M_tags 16 = .ok (.istore_n 3, 1) := by decide +kernel
theorem d_M_tags_17 : decode b_M_tags 17 = .ok (.aload_n 0, 1) := by decide +kernel
theorem d_M_tags_18 : decode b_M_tags 18 = .ok (.getfield 7, 3) := by decide +kernel
theorem d_M_tags_21 : decode b_M_tags 21 = .ok (.iload_n 3, 1) := by decide +kernel
theorem d_M_tags_22 : decode b_M_tags 22 = .ok (.iaload, 1) := by decide +kernel
theorem d_M_tags_23 : decode b_M_tags 23 = .ok (.ifCond .ne (6), 3) := by decide +kernel
theorem d_M_tags_26 : decode b_M_tags 26 = .ok (.bipush (-2), 2) := by decide +kernel
theorem d_M_tags_28 : decode b_M_tags 28 = .ok (.ireturn, 1) := by decide +kernel
theorem d_M_tags_29 : decode b_M_tags 29 = .ok (.aload_n 0, 1) := by decide +kernel
theorem d_M_tags_30 : decode b_M_tags 30 = .ok (.getfield 13, 3) := by decide +kernel
theorem d_M_tags_33 : decode b_M_tags 33 = .ok (.iload_n 3, 1) := by decide +kernel
theorem d_M_tags_34 : decode b_M_tags 34 = .ok (.iaload, 1) := by decide +kernel
theorem d_M_tags_35 : decode b_M_tags 35 = .ok (.bipush 8, 2) := by decide +kernel
theorem d_M_tags_37 : decode b_M_tags 37 = .ok (.aload_n 0, 1) := by decide +kernel
theorem d_M_tags_38 : decode b_M_tags 38 = .ok (.getfield 16, 3) := by decide +kernel
theorem d_M_tags_41 : decode b_M_tags 41 = .ok (.iload_n 3, 1) := by decide +kernel
theorem d_M_tags_42 : decode b_M_tags 42 = .ok (.iaload, 1) := by decide +kernel
theorem d_M_tags_43 : decode b_M_tags 43 = .ok (.imul, 1) := by decide +kernel
theorem d_M_tags_44 : decode b_M_tags 44 = .ok (.iadd, 1) := by decide +kernel
theorem d_M_tags_45 : decode b_M_tags 45 = .ok (.bipush 64, 2) := by decide +kernel
theorem d_M_tags_47 : decode b_M_tags 47 = .ok (.aload_n 0, 1) := by decide +kernel
theorem d_M_tags_48 : decode b_M_tags 48 = .ok (.getfield 19, 3) := by decide +kernel
theorem d_M_tags_51 : decode b_M_tags 51 = .ok (.iload_n 3, 1) := by decide +kernel
theorem d_M_tags_52 : decode b_M_tags 52 = .ok (.iaload, 1) := by decide +kernel
theorem d_M_tags_53 : decode b_M_tags 53 = .ok (.imul, 1) := by decide +kernel
theorem d_M_tags_54 : decode b_M_tags 54 = .ok (.iadd, 1) := by decide +kernel
theorem d_M_tags_55 : decode b_M_tags 55 = .ok (.sipush 512, 3) := by decide +kernel
theorem d_M_tags_58 : decode b_M_tags 58 = .ok (.aload_n 0, 1) := by decide +kernel
theorem d_M_tags_59 : decode b_M_tags 59 = .ok (.getfield 25, 3) := by decide +kernel
theorem d_M_tags_62 : decode b_M_tags 62 = .ok (.iload_n 3, 1) := by decide +kernel
theorem d_M_tags_63 : decode b_M_tags 63 = .ok (.iaload, 1) := by decide +kernel
theorem d_M_tags_64 : decode b_M_tags 64 = .ok (.imul, 1) := by decide +kernel
theorem d_M_tags_65 : decode b_M_tags 65 = .ok (.iadd, 1) := by decide +kernel
theorem d_M_tags_66 : decode b_M_tags 66 = .ok (.sipush 4096, 3) := by decide +kernel
theorem d_M_tags_69 : decode b_M_tags 69 = .ok (.aload_n 0, 1) := by decide +kernel
theorem d_M_tags_70 : decode b_M_tags 70 = .ok (.getfield 28, 3) := by decide +kernel
theorem d_M_tags_73 : decode b_M_tags 73 = .ok (.iload_n 3, 1) := by decide +kernel
theorem d_M_tags_74 : decode b_M_tags 74 = .ok (.iaload, 1) := by decide +kernel
theorem d_M_tags_75 : decode b_M_tags 75 = .ok (.imul, 1) := by decide +kernel
theorem d_M_tags_76 : decode b_M_tags 76 = .ok (.iadd, 1) := by decide +kernel
theorem d_M_tags_77 : decode b_M_tags 77 = .ok (.istore 4, 2) := by decide +kernel
theorem d_M_tags_79 : decode b_M_tags 79 = .ok (.iload 4, 2) := by decide +kernel
theorem d_M_tags_81 : decode b_M_tags 81 = .ok (.aload_n 0, 1) := by decide +kernel
theorem d_M_tags_82 : decode b_M_tags 82 = .ok (.getfield 7, 3) := by decide +kernel
theorem d_M_tags_85 : decode b_M_tags 85 = .ok (.iload_n 3, 1) := by decide +kernel
theorem d_M_tags_86 : decode b_M_tags 86 = .ok (.iaload, 1) := by decide +kernel
theorem d_M_tags_87 : decode b_M_tags 87 = .ok (.iconst 2, 1) := by decide +kernel
theorem d_M_tags_88 : decode b_M_tags 88 = .ok (.if_icmp .ne (9), 3) := by decide +kernel
theorem d_M_tags_91 : decode b_M_tags 91 = .ok (.sipush 256, 3) := by decide +kernel
theorem d_M_tags_94 : decode b_M_tags 94 = .ok (.goto (4), 3) := by decide +kernel
theorem d_M_tags_97 : decode b_M_tags 97 = .ok (.iconst 0, 1) := by decide +kernel
theorem d_M_tags_98 : decode b_M_tags 98 = .ok (.iadd, 1) := by decide +kernel
theorem d_M_tags_99 : decode b_M_tags 99 = .ok (.aload_n 0, 1) := by decide +kernel
theorem d_M_tags_100 : decode b_M_tags 100 = .ok (.getfield 31, 3) := by decide +kernel
theorem d_M_tags_103 : decode b_M_tags 103 = .ok (.iload_n 3, 1) := by decide +kernel
theorem d_M_tags_104 : decode b_M_tags 104 = .ok (.baload, 1) := by decide +kernel
theorem d_M_tags_105 : decode b_M_tags 105 = .ok (.ifCond .eq (8), 3) := by decide +kernel
theorem d_M_tags_108 : decode b_M_tags 108 = .ok (.ldc 182, 2) := by decide +kernel
theorem d_M_tags_110 : decode b_M_tags 110 = .ok (.goto (4), 3) := by decide +kernel
theorem d_M_tags_113 : decode b_M_tags 113 = .ok (.iconst 0, 1) := by decide +kernel
theorem d_M_tags_114 : decode b_M_tags 114 = .ok (.iadd, 1) := by decide +kernel
theorem d_M_tags_115 : decode b_M_tags 115 = .ok (.ireturn, 1) := by decide +kernel
theorem d_M_erases_0 : decode b_M_erases 0 = .ok (.iload_n 1, 1) := by decide +kernel
theorem d_M_erases_1 : decode b_M_erases 1 = .ok (.iconst 0, 1) := by decide +kernel
theorem d_M_erases_2 : decode b_M_erases 2 = .ok (.invokestatic 179, 3) := by decide +kernel
theorem d_M_erases_5 : decode b_M_erases 5 = .ok (.ifCond .eq (7), 3) := by decide +kernel
theorem d_M_erases_8 : decode b_M_erases 8 = .ok (.iconst (-1), 1) := by decide +kernel
theorem d_M_erases_9 : decode b_M_erases 9 = .ok (.goto (26), 3) := by decide +kernel
theorem d_M_erases_12 : decode b_M_erases 12 = .ok (.iconst 2, 1) := by decide +kernel
theorem d_M_erases_13 : decode b_M_erases 13 = .ok (.aload_n 0, 1) := by decide +kernel
theorem d_M_erases_14 : decode b_M_erases 14 = .ok (.getfield 53, 3) := by decide +kernel
theorem d_M_erases_17 : decode b_M_erases 17 = .ok (.iload_n 1, 1) := by decide +kernel
theorem d_M_erases_18 : decode b_M_erases 18 = .ok (.iaload, 1) := by decide +kernel
theorem d_M_erases_19 : decode b_M_erases 19 = .ok (.imul, 1) := by decide +kernel
theorem d_M_erases_20 : decode b_M_erases 20 = .ok (.aload_n 0, 1) := by decide +kernel
theorem d_M_erases_21 : decode b_M_erases 21 = .ok (.getfield 44, 3) := by decide +kernel
theorem d_M_erases_24 : decode b_M_erases 24 = .ok (.iload_n 1, 1) := by decide +kernel
theorem d_M_erases_25 : decode b_M_erases 25 = .ok (.baload, 1) := by decide +kernel
theorem d_M_erases_26 : decode b_M_erases 26 = .ok (.ifCond .eq (7), 3) := by decide +kernel
theorem d_M_erases_29 : decode b_M_erases 29 = .ok (.iconst 1, 1) := by decide +kernel
theorem d_M_erases_30 : decode b_M_erases 30 = .ok (.goto (4), 3) := by decide +kernel
theorem d_M_erases_33 : decode b_M_erases 33 = .ok (.iconst 0, 1) := by decide +kernel
theorem d_M_erases_34 : decode b_M_erases 34 = .ok (.iadd, 1) := by decide +kernel
theorem d_M_erases_35 : decode b_M_erases 35 = .ok (.ireturn, 1) := by decide +kernel
