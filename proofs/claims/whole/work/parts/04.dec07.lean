theorem d_M_truncate_0 : decode b_M_truncate 0 = .ok (.aload_n 0, 1) := by decide +kernel
theorem d_M_truncate_1 : decode b_M_truncate 1 = .ok (.getfield 56, 3) := by decide +kernel
theorem d_M_truncate_4 : decode b_M_truncate 4 = .ok (.ifCond .ne (6), 3) := by decide +kernel
theorem d_M_truncate_7 : decode b_M_truncate 7 = .ok (.bipush (-9), 2) := by decide +kernel
theorem d_M_truncate_9 : decode b_M_truncate 9 = .ok (.ireturn, 1) := by decide +kernel
theorem d_M_truncate_10 : decode b_M_truncate 10 = .ok (.aload_n 0, 1) := by decide +kernel
theorem d_M_truncate_11 : decode b_M_truncate 11 = .ok (.iload_n 1, 1) := by decide +kernel
theorem d_M_truncate_12 : decode b_M_truncate 12 = .ok (.invokevirtual 134, 3) := by decide +kernel
theorem d_M_truncate_15 : decode b_M_truncate 15 = .ok (.istore_n 3, 1) := by decide +kernel
theorem d_M_truncate_16 : decode b_M_truncate 16 = .ok (.iload_n 3, 1) := by decide +kernel
theorem d_M_truncate_17 : decode b_M_truncate 17 = .ok (.ifCond .ge (5), 3) := by decide +kernel
theorem d_M_truncate_20 : decode b_M_truncate 20 = .ok (.iconst (-1), 1) := by decide +kernel
theorem d_M_truncate_21 : decode b_M_truncate 21 = .ok (.ireturn, 1) := by decide +kernel
theorem d_M_truncate_22 : decode b_M_truncate 22 = .ok (.aload_n 0, 1) := by decide +kernel
theorem d_M_truncate_23 : decode b_M_truncate 23 = .ok (.getfield 31, 3) := by decide +kernel
theorem d_M_truncate_26 : decode b_M_truncate 26 = .ok (.iload_n 3, 1) := by decide +kernel
theorem d_M_truncate_27 : decode b_M_truncate 27 = .ok (.baload, 1) := by decide +kernel
theorem d_M_truncate_28 : decode b_M_truncate 28 = .ok (.ifCond .eq (6), 3) := by decide +kernel
theorem d_M_truncate_31 : decode b_M_truncate 31 = .ok (.bipush (-3), 2) := by decide +kernel
theorem d_M_truncate_33 : decode b_M_truncate 33 = .ok (.ireturn, 1) := by decide +kernel
theorem d_M_truncate_34 : decode b_M_truncate 34 = .ok (.iload_n 2, 1) := by decide +kernel
theorem d_M_truncate_35 : decode b_M_truncate 35 = .ok (.ifCond .lt (13), 3) := by decide +kernel
theorem d_M_truncate_38 : decode b_M_truncate 38 = .ok (.iload_n 2, 1) := by decide +kernel
theorem d_M_truncate_39 : decode b_M_truncate 39 = .ok (.aload_n 0, 1) := by decide +kernel
theorem d_M_truncate_40 : decode b_M_truncate 40 = .ok (.getfield 28, 3) := by decide +kernel
theorem d_M_truncate_43 : decode b_M_truncate 43 = .ok (.iload_n 3, 1) := by decide +kernel
theorem d_M_truncate_44 : decode b_M_truncate 44 = .ok (.iaload, 1) := by decide +kernel
theorem d_M_truncate_45 : decode b_M_truncate 45 = .ok (.if_icmp .le (6), 3) := by decide +kernel
theorem d_M_truncate_48 : decode b_M_truncate 48 = .ok (.bipush (-7), 2) := by decide +kernel
theorem d_M_truncate_50 : decode b_M_truncate 50 = .ok (.ireturn, 1) := by decide +kernel
theorem d_M_truncate_51 : decode b_M_truncate 51 = .ok (.iload_n 2, 1) := by decide +kernel
theorem d_M_truncate_52 : decode b_M_truncate 52 = .ok (.aload_n 0, 1) := by decide +kernel
theorem d_M_truncate_53 : decode b_M_truncate 53 = .ok (.getfield 28, 3) := by decide +kernel
theorem d_M_truncate_56 : decode b_M_truncate 56 = .ok (.iload_n 3, 1) := by decide +kernel
theorem d_M_truncate_57 : decode b_M_truncate 57 = .ok (.iaload, 1) := by decide +kernel
theorem d_M_truncate_58 : decode b_M_truncate 58 = .ok (.if_icmp .ne (5), 3) := by decide +kernel
theorem d_M_truncate_61 : decode b_M_truncate 61 = .ok (.iconst 0, 1) := by decide +kernel
theorem d_M_truncate_62 : decode b_M_truncate 62 = .ok (.ireturn, 1) := by decide +kernel
theorem d_M_truncate_63 : decode b_M_truncate 63 = .ok (.aload_n 0, 1) := by decide +kernel
theorem d_M_truncate_64 : decode b_M_truncate 64 = .ok (.iconst 1, 1) := by decide +kernel
theorem d_M_truncate_65 : decode b_M_truncate 65 = .ok (.invokevirtual 147, 3) := by decide +kernel
theorem d_M_truncate_68 : decode b_M_truncate 68 = .ok (.istore 4, 2) := by decide +kernel
theorem d_M_truncate_70 : decode b_M_truncate 70 = .ok (.iload 4, 2) := by decide +kernel
theorem d_M_truncate_72 : decode b_M_truncate 72 = .ok (.ifCond .ge (6), 3) := by decide +kernel
theorem d_M_truncate_75 : decode b_M_truncate 75 = .ok (.iload 4, 2) := by decide +kernel
theorem d_M_truncate_77 : decode b_M_truncate 77 = .ok (.ireturn, 1) := by decide +kernel
theorem d_M_truncate_78 : decode b_M_truncate 78 = .ok (.aload_n 0, 1) := by decide +kernel
theorem d_M_truncate_79 : decode b_M_truncate 79 = .ok (.iload_n 1, 1) := by decide +kernel
theorem d_M_truncate_80 : decode b_M_truncate 80 = .ok (.invokevirtual 134, 3) := by decide +kernel
theorem d_M_truncate_83 : decode b_M_truncate 83 = .ok (.istore 5, 2) := by decide +kernel
theorem d_M_truncate_85 : decode b_M_truncate 85 = .ok (.aload_n 0, 1) := by decide +kernel
theorem d_M_truncate_86 : decode b_M_truncate 86 = .ok (.iload 5, 2) := by decide +kernel
theorem d_M_truncate_88 : decode b_M_truncate 88 = .ok (.invokevirtual 115, 3) := by decide +kernel
theorem d_M_truncate_91 : decode b_M_truncate 91 = .ok (.aload_n 0, 1) := by decide +kernel
theorem d_M_truncate_92 : decode b_M_truncate 92 = .ok (.iload_n 2, 1) := by decide +kernel
theorem d_M_truncate_93 : decode b_M_truncate 93 = .ok (.putfield 95, 3) := by decide +kernel
theorem d_M_truncate_96 : decode b_M_truncate 96 = .ok (.aload_n 0, 1) := by decide +kernel
theorem d_M_truncate_97 : decode b_M_truncate 97 = .ok (.invokevirtual 119, 3) := by decide +kernel
theorem d_M_truncate_100 : decode b_M_truncate 100 = .ok (.ifCond .eq (16), 3) := by decide +kernel
theorem d_M_truncate_103 : decode b_M_truncate 103 = .ok (.aload_n 0, 1) := by decide +kernel
theorem d_M_truncate_104 : decode b_M_truncate 104 = .ok (.iload_n 1, 1) := by decide +kernel
theorem d_M_truncate_105 : decode b_M_truncate 105 = .ok (.iload_n 2, 1) := by decide +kernel
theorem d_M_truncate_106 : decode b_M_truncate 106 = .ok (.invokevirtual 160, 3) := by decide +kernel
theorem d_M_truncate_109 : decode b_M_truncate 109 = .ok (.ifCond .eq (7), 3) := by decide +kernel
theorem d_M_truncate_112 : decode b_M_truncate 112 = .ok (.iconst 0, 1) := by decide +kernel
theorem d_M_truncate_113 : decode b_M_truncate 113 = .ok (.goto (5), 3) := by decide +kernel
theorem d_M_truncate_116 : decode b_M_truncate 116 = .ok (.bipush (-9), 2) := by decide +kernel
theorem d_M_truncate_118 : decode b_M_truncate 118 = .ok (.ireturn, 1) := by decide +kernel
theorem d_M_lies_0 : decode b_M_lies 0 = .ok (.iload_n 1, 1) := by decide +kernel
theorem d_M_lies_1 : decode b_M_lies 1 = .ok (.istore_n 3, 1) := by decide +kernel
theorem d_M_lies_2 : decode b_M_lies 2 = .ok (.iconst 0, 1) := by decide +kernel
theorem d_M_lies_3 : decode b_M_lies 3 = .ok (.istore 4, 2) := by decide +kernel
theorem d_M_lies_5 : decode b_M_lies 5 = .ok (.iload 4, 2) := by decide +kernel
theorem d_M_lies_7 : decode b_M_lies 7 = .ok (.bipush 8, 2) := by decide +kernel
theorem d_M_lies_9 : decode b_M_lies 9 = .ok (.if_icmp .ge (44), 3) := by decide +kernel
theorem d_M_lies_12 : decode b_M_lies 12 = .ok (.iload_n 3, 1) := by decide +kernel
theorem d_M_lies_13 : decode b_M_lies 13 = .ok (.ifCond .eq (40), 3) := by decide +kernel
theorem d_M_lies_16 : decode b_M_lies 16 = .ok (.iload_n 3, 1) := by decide +kernel
theorem d_M_lies_17 : decode b_M_lies 17 = .ok (.iload_n 2, 1) := by decide +kernel
theorem d_M_lies_18 : decode b_M_lies 18 = .ok (.if_icmp .ne (5), 3) := by decide +kernel
theorem d_M_lies_21 : decode b_M_lies 21 = .ok (.iconst 1, 1) := by decide +kernel
theorem d_M_lies_22 : decode b_M_lies 22 = .ok (.ireturn, 1) := by decide +kernel
theorem d_M_lies_23 : decode b_M_lies 23 = .ok (.aload_n 0, 1) := by decide +kernel
theorem d_M_lies_24 : decode b_M_lies 24 = .ok (.iload_n 3, 1) := by decide +kernel
theorem d_M_lies_25 : decode b_M_lies 25 = .ok (.invokevirtual 134, 3) := by decide +kernel
theorem d_M_lies_28 : decode b_M_lies 28 = .ok (.istore 5, 2) := by decide +kernel
theorem d_M_lies_30 : decode b_M_lies 30 = .ok (.iload 5, 2) := by decide +kernel
theorem d_M_lies_32 : decode b_M_lies 32 = .ok (.ifCond .ge (7), 3) := by decide +kernel
theorem d_M_lies_35 : decode b_M_lies 35 = .ok (.iconst 0, 1) := by decide +kernel
theorem d_M_lies_36 : decode b_M_lies 36 = .ok (.goto (10), 3) := by decide +kernel
theorem d_M_lies_39 : decode b_M_lies 39 = .ok (.aload_n 0, 1) := by decide +kernel
theorem d_M_lies_40 : decode b_M_lies 40 = .ok (.getfield 25, 3) := by decide +kernel
theorem d_M_lies_43 : decode b_M_lies 43 = .ok (.iload 5, 2) := by decide +kernel
theorem d_M_lies_45 : decode b_M_lies 45 = .ok (.iaload, 1) := by decide +kernel
theorem d_M_lies_46 : decode b_M_lies 46 = .ok (.istore_n 3, 1) := by decide +kernel
theorem d_M_lies_47 : decode b_M_lies 47 = .ok (.iinc 4 (1), 3) := by decide +kernel
theorem d_M_lies_50 : decode b_M_lies 50 = .ok (.goto (-45), 3) := by decide +kernel
theorem d_M_lies_53 : decode b_M_lies 53 = .ok (.iconst 0, 1) := by decide +kernel
theorem d_M_lies_54 : decode b_M_lies 54 = .ok (.ireturn, 1) := by decide +kernel
theorem d_M_move_0 : decode b_M_move 0 = .ok (.aload_n 0, 1) := by decide +kernel
theorem d_M_move_1 : decode b_M_move 1 = .ok (.getfield 56, 3) := by decide +kernel
theorem d_M_move_4 : decode b_M_move 4 = .ok (.ifCond .ne (6), 3) := by decide +kernel
theorem d_M_move_7 : decode b_M_move 7 = .ok (.bipush (-9), 2) := by decide +kernel
theorem d_M_move_9 : decode b_M_move 9 = .ok (.ireturn, 1) := by decide +kernel
theorem d_M_move_10 : decode b_M_move 10 = .ok (.aload_n 0, 1) := by decide +kernel
theorem d_M_move_11 : decode b_M_move 11 = .ok (.iload_n 1, 1) := by decide +kernel
theorem d_M_move_12 : decode b_M_move 12 = .ok (.invokevirtual 134, 3) := by decide +kernel
theorem d_M_move_15 : decode b_M_move 15 = .ok (.ifCond .lt (11), 3) := by decide +kernel
theorem d_M_move_18 : decode b_M_move 18 = .ok (.aload_n 0, 1) := by decide +kernel
theorem d_M_move_19 : decode b_M_move 19 = .ok (.iload_n 2, 1) := by decide +kernel
theorem d_M_move_20 : decode b_M_move 20 = .ok (.invokevirtual 137, 3) := by decide +kernel
theorem d_M_move_23 : decode b_M_move 23 = .ok (.ifCond .ne (5), 3) := by decide +kernel
theorem d_M_move_26 : decode b_M_move 26 = .ok (.iconst (-1), 1) := by decide +kernel
theorem d_M_move_27 : decode b_M_move 27 = .ok (.ireturn, 1) := by decide +kernel
theorem d_M_move_28 : decode b_M_move 28 = .ok (.aload_n 0, 1) := by decide +kernel
theorem d_M_move_29 : decode b_M_move 29 = .ok (.iload_n 2, 1) := by decide +kernel
theorem d_M_move_30 : decode b_M_move 30 = .ok (.invokevirtual 140, 3) := by decide +kernel
theorem d_M_move_33 : decode b_M_move 33 = .ok (.ifCond .ne (6), 3) := by decide +kernel
theorem d_M_move_36 : decode b_M_move 36 = .ok (.bipush (-2), 2) := by decide +kernel
theorem d_M_move_38 : decode b_M_move 38 = .ok (.ireturn, 1) := by decide +kernel
theorem d_M_move_39 : decode b_M_move 39 = .ok (.aload_n 0, 1) := by decide +kernel
theorem d_M_move_40 : decode b_M_move 40 = .ok (.iload_n 2, 1) := by decide +kernel
theorem d_M_move_41 : decode b_M_move 41 = .ok (.iload_n 1, 1) := by decide +kernel
theorem d_M_move_42 : decode b_M_move 42 = .ok (.invokevirtual 164, 3) := by decide +kernel
theorem d_M_move_45 : decode b_M_move 45 = .ok (.ifCond .eq (6), 3) := by decide +kernel
theorem d_M_move_48 : decode b_M_move 48 = .ok (.bipush (-10), 2) := by decide +kernel
theorem d_M_move_50 : decode b_M_move 50 = .ok (.ireturn, 1) := by decide +kernel
theorem d_M_move_51 : decode b_M_move 51 = .ok (.aload_n 0, 1) := by decide +kernel
theorem d_M_move_52 : decode b_M_move 52 = .ok (.iload_n 2, 1) := by decide +kernel
theorem d_M_move_53 : decode b_M_move 53 = .ok (.iload_n 3, 1) := by decide +kernel
theorem d_M_move_54 : decode b_M_move 54 = .ok (.iload_n 1, 1) := by decide +kernel
theorem d_M_move_55 : decode b_M_move 55 = .ok (.invokevirtual 143, 3) := by decide +kernel
theorem d_M_move_58 : decode b_M_move 58 = .ok (.ifCond .le (6), 3) := by decide +kernel
theorem d_M_move_61 : decode b_M_move 61 = .ok (.bipush (-4), 2) := by decide +kernel
theorem d_M_move_63 : decode b_M_move 63 = .ok (.ireturn, 1) := by decide +kernel
theorem d_M_move_64 : decode b_M_move 64 = .ok (.aload_n 0, 1) := by decide +kernel
theorem d_M_move_65 : decode b_M_move 65 = .ok (.iconst 1, 1) := by decide +kernel
theorem d_M_move_66 : decode b_M_move 66 = .ok (.invokevirtual 147, 3) := by decide +kernel
theorem d_M_move_69 : decode b_M_move 69 = .ok (.istore 4, 2) := by decide +kernel
theorem d_M_move_71 : decode b_M_move 71 = .ok (.iload 4, 2) := by decide +kernel
theorem d_M_move_73 : decode b_M_move 73 = .ok (.ifCond .ge (6), 3) := by decide +kernel
theorem d_M_move_76 : decode b_M_move 76 = .ok (.iload 4, 2) := by decide +kernel
theorem d_M_move_78 : decode b_M_move 78 = .ok (.ireturn, 1) := by decide +kernel
theorem d_M_move_79 : decode b_M_move 79 = .ok (.aload_n 0, 1) := by decide +kernel
theorem d_M_move_80 : decode b_M_move 80 = .ok (.iload_n 1, 1) := by decide +kernel
theorem d_M_move_81 : decode b_M_move 81 = .ok (.invokevirtual 134, 3) := by decide +kernel
theorem d_M_move_84 : decode b_M_move 84 = .ok (.istore 5, 2) := by decide +kernel
theorem d_M_move_86 : decode b_M_move 86 = .ok (.aload_n 0, 1) := by decide +kernel
theorem d_M_move_87 : decode b_M_move 87 = .ok (.iload 5, 2) := by decide +kernel
theorem d_M_move_89 : decode b_M_move 89 = .ok (.invokevirtual 115, 3) := by decide +kernel
theorem d_M_move_92 : decode b_M_move 92 = .ok (.aload_n 0, 1) := by decide +kernel
theorem d_M_move_93 : decode b_M_move 93 = .ok (.iload_n 2, 1) := by decide +kernel
theorem d_M_move_94 : decode b_M_move 94 = .ok (.putfield 92, 3) := by decide +kernel
theorem d_M_move_97 : decode b_M_move 97 = .ok (.aload_n 0, 1) := by decide +kernel
theorem d_M_move_98 : decode b_M_move 98 = .ok (.iload_n 3, 1) := by decide +kernel
theorem d_M_move_99 : decode b_M_move 99 = .ok (.putfield 89, 3) := by decide +kernel
theorem d_M_move_102 : decode b_M_move 102 = .ok (.aload_n 0, 1) := by decide +kernel
theorem d_M_move_103 : decode b_M_move 103 = .ok (.iconst (-1), 1) := by decide +kernel
theorem d_M_move_104 : decode b_M_move 104 = .ok (.putfield 101, 3) := by decide +kernel
theorem d_M_move_107 : decode b_M_move 107 = .ok (.aload_n 0, 1) := by decide +kernel
theorem d_M_move_108 : decode b_M_move 108 = .ok (.iconst (-1), 1) := by decide +kernel
theorem d_M_move_109 : decode b_M_move 109 = .ok (.putfield 104, 3) := by decide +kernel
theorem d_M_move_112 : decode b_M_move 112 = .ok (.aload_n 0, 1) := by decide +kernel
theorem d_M_move_113 : decode b_M_move 113 = .ok (.invokevirtual 119, 3) := by decide +kernel
theorem d_M_move_116 : decode b_M_move 116 = .ok (.ifCond .eq (7), 3) := by decide +kernel
theorem d_M_move_119 : decode b_M_move 119 = .ok (.iconst 0, 1) := by decide +kernel
theorem d_M_move_120 : decode b_M_move 120 = .ok (.goto (5), 3) := by decide +kernel
theorem d_M_move_123 : decode b_M_move 123 = .ok (.bipush (-9), 2) := by decide +kernel
theorem d_M_move_125 : decode b_M_move 125 = .ok (.ireturn, 1) := by decide +kernel
theorem d_M_remove_0 : decode b_M_remove 0 = .ok (.aload_n 0, 1) := by decide +kernel
theorem d_M_remove_1 : decode b_M_remove 1 = .ok (.getfield 56, 3) := by decide +kernel
theorem d_M_remove_4 : decode b_M_remove 4 = .ok (.ifCond .ne (6), 3) := by decide +kernel
theorem d_M_remove_7 : decode b_M_remove 7 = .ok (.bipush (-9), 2) := by decide +kernel
theorem d_M_remove_9 : decode b_M_remove 9 = .ok (.ireturn, 1) := by decide +kernel
theorem d_M_remove_10 : decode b_M_remove 10 = .ok (.aload_n 0, 1) := by decide +kernel
theorem d_M_remove_11 : decode b_M_remove 11 = .ok (.iload_n 1, 1) := by decide +kernel
theorem d_M_remove_12 : decode b_M_remove 12 = .ok (.invokevirtual 134, 3) := by decide +kernel
theorem d_M_remove_15 : decode b_M_remove 15 = .ok (.istore_n 2, 1) := by decide +kernel
theorem d_M_remove_16 : decode b_M_remove 16 = .ok (.iload_n 2, 1) := by decide +kernel
theorem d_M_remove_17 : decode b_M_remove 17 = .ok (.ifCond .ge (5), 3) := by decide +kernel
theorem d_M_remove_20 : decode b_M_remove 20 = .ok (.iconst (-1), 1) := by decide +kernel
theorem d_M_remove_21 : decode b_M_remove 21 = .ok (.ireturn, 1) := by decide +kernel
theorem d_M_remove_22 : decode b_M_remove 22 = .ok (.aload_n 0, 1) := by decide +kernel
theorem d_M_remove_23 : decode b_M_remove 23 = .ok (.iload_n 1, 1) := by decide +kernel
theorem d_M_remove_24 : decode b_M_remove 24 = .ok (.invokevirtual 167, 3) := by decide +kernel
theorem d_M_remove_27 : decode b_M_remove 27 = .ok (.ifCond .le (6), 3) := by decide +kernel
theorem d_M_remove_30 : decode b_M_remove 30 = .ok (.bipush (-8), 2) := by decide +kernel
theorem d_M_remove_32 : decode b_M_remove 32 = .ok (.ireturn, 1) := by decide +kernel
theorem d_M_remove_33 : decode b_M_remove 33 = .ok (.aload_n 0, 1) := by decide +kernel
theorem d_M_remove_34 : decode b_M_remove 34 = .ok (.iload_n 2, 1) := by decide +kernel
theorem d_M_remove_35 : decode b_M_remove 35 = .ok (.invokevirtual 107, 3) := by decide +kernel
theorem d_M_remove_38 : decode b_M_remove 38 = .ok (.ifCond .eq (16), 3) := by decide +kernel
theorem d_M_remove_41 : decode b_M_remove 41 = .ok (.aload_n 0, 1) := by decide +kernel
theorem d_M_remove_42 : decode b_M_remove 42 = .ok (.iload_n 1, 1) := by decide +kernel
theorem d_M_remove_43 : decode b_M_remove 43 = .ok (.iconst 0, 1) := by decide +kernel
theorem d_M_remove_44 : decode b_M_remove 44 = .ok (.invokevirtual 160, 3) := by decide +kernel
theorem d_M_remove_47 : decode b_M_remove 47 = .ok (.ifCond .eq (7), 3) := by decide +kernel
theorem d_M_remove_50 : decode b_M_remove 50 = .ok (.iconst 0, 1) := by decide +kernel
theorem d_M_remove_51 : decode b_M_remove 51 = .ok (.goto (5), 3) := by decide +kernel
theorem d_M_remove_54 : decode b_M_remove 54 = .ok (.bipush (-9), 2) := by decide +kernel
theorem d_M_remove_56 : decode b_M_remove 56 = .ok (.ireturn, 1) := by decide +kernel
theorem d_M_find_0 : decode b_M_find 0 = .ok (.aload_n 0, 1) := by decide +kernel
theorem d_M_find_1 : decode b_M_find 1 = .ok (.getfield 56, 3) := by decide +kernel
theorem d_M_find_4 : decode b_M_find 4 = .ok (.ifCond .ne (6), 3) := by decide +kernel
theorem d_M_find_7 : decode b_M_find 7 = .ok (.bipush (-9), 2) := by decide +kernel
theorem d_M_find_9 : decode b_M_find 9 = .ok (.ireturn, 1) := by decide +kernel
theorem d_M_find_10 : decode b_M_find 10 = .ok (.aload_n 0, 1) := by decide +kernel
theorem d_M_find_11 : decode b_M_find 11 = .ok (.iload_n 1, 1) := by decide +kernel
theorem d_M_find_12 : decode b_M_find 12 = .ok (.invokevirtual 137, 3) := by decide +kernel
theorem d_M_find_15 : decode b_M_find 15 = .ok (.ifCond .ne (5), 3) := by decide +kernel
theorem d_M_find_18 : decode b_M_find 18 = .ok (.iconst (-1), 1) := by decide +kernel
theorem d_M_find_19 : decode b_M_find 19 = .ok (.ireturn, 1) := by decide +kernel
theorem d_M_find_20 : decode b_M_find 20 = .ok (.aload_n 0, 1) := by decide +kernel
theorem d_M_find_21 : decode b_M_find 21 = .ok (.iload_n 1, 1) := by decide +kernel
theorem d_M_find_22 : decode b_M_find 22 = .ok (.invokevirtual 140, 3) := by decide +kernel
theorem d_M_find_25 : decode b_M_find 25 = .ok (.ifCond .eq (13), 3) := by decide +kernel
theorem d_M_find_28 : decode b_M_find 28 = .ok (.aload_n 0, 1) := by decide +kernel
theorem d_M_find_29 : decode b_M_find 29 = .ok (.iload_n 1, 1) := by decide +kernel
theorem d_M_find_30 : decode b_M_find 30 = .ok (.iload_n 2, 1) := by decide +kernel
theorem d_M_find_31 : decode b_M_find 31 = .ok (.iconst 0, 1) := by decide +kernel
theorem d_M_find_32 : decode b_M_find 32 = .ok (.invokevirtual 143, 3) := by decide +kernel
theorem d_M_find_35 : decode b_M_find 35 = .ok (.goto (5), 3) := by decide +kernel
theorem d_M_find_38 : decode b_M_find 38 = .ok (.bipush (-2), 2) := by decide +kernel
theorem d_M_find_40 : decode b_M_find 40 = .ok (.ireturn, 1) := by decide +kernel
theorem d_M_size_0 : decode b_M_size 0 = .ok (.aload_n 0, 1) := by decide +kernel
theorem d_M_size_1 : decode b_M_size 1 = .ok (.getfield 56, 3) := by decide +kernel
theorem d_M_size_4 : decode b_M_size 4 = .ok (.ifCond .ne (6), 3) := by decide +kernel
theorem d_M_size_7 : decode b_M_size 7 = .ok (.bipush (-9), 2) := by decide +kernel
theorem d_M_size_9 : decode b_M_size 9 = .ok (.ireturn, 1) := by decide +kernel
theorem d_M_size_10 : decode b_M_size 10 = .ok (.aload_n 0, 1) := by decide +kernel
theorem d_M_size_11 : decode b_M_size 11 = .ok (.iload_n 1, 1) := by decide +kernel
theorem d_M_size_12 : decode b_M_size 12 = .ok (.invokevirtual 137, 3) := by decide +kernel
theorem d_M_size_15 : decode b_M_size 15 = .ok (.ifCond .ne (5), 3) := by decide +kernel
theorem d_M_size_18 : decode b_M_size 18 = .ok (.iconst (-1), 1) := by decide +kernel
theorem d_M_size_19 : decode b_M_size 19 = .ok (.ireturn, 1) := by decide +kernel
theorem d_M_size_20 : decode b_M_size 20 = .ok (.aload_n 0, 1) := by decide +kernel
theorem d_M_size_21 : decode b_M_size 21 = .ok (.iload_n 1, 1) := by decide +kernel
theorem d_M_size_22 : decode b_M_size 22 = .ok (.invokevirtual 140, 3) := by decide +kernel
theorem d_M_size_25 : decode b_M_size 25 = .ok (.ifCond .eq (11), 3) := by decide +kernel
theorem d_M_size_28 : decode b_M_size 28 = .ok (.aload_n 0, 1) := by decide +kernel
theorem d_M_size_29 : decode b_M_size 29 = .ok (.iload_n 1, 1) := by decide +kernel
theorem d_M_size_30 : decode b_M_size 30 = .ok (.invokevirtual 167, 3) := by decide +kernel
theorem d_M_size_33 : decode b_M_size 33 = .ok (.goto (13), 3) := by decide +kernel
theorem d_M_size_36 : decode b_M_size 36 = .ok (.aload_n 0, 1) := by decide +kernel
theorem d_M_size_37 : decode b_M_size 37 = .ok (.getfield 28, 3) := by decide +kernel
theorem d_M_size_40 : decode b_M_size 40 = .ok (.aload_n 0, 1) := by decide +kernel
theorem d_M_size_41 : decode b_M_size 41 = .ok (.iload_n 1, 1) := by decide +kernel
theorem d_M_size_42 : decode b_M_size 42 = .ok (.invokevirtual 134, 3) := by decide +kernel
theorem d_M_size_45 : decode b_M_size 45 = .ok (.iaload, 1) := by decide +kernel
theorem d_M_size_46 : decode b_M_size 46 = .ok (.ireturn, 1) := by decide +kernel
theorem d_M_parentOf_0 : decode b_M_parentOf 0 = .ok (.aload_n 0, 1) := by decide +kernel
theorem d_M_parentOf_1 : decode b_M_parentOf 1 = .ok (.getfield 56, 3) := by decide +kernel
theorem d_M_parentOf_4 : decode b_M_parentOf 4 = .ok (.ifCond .ne (6), 3) := by decide +kernel
theorem d_M_parentOf_7 : decode b_M_parentOf 7 = .ok (.bipush (-9), 2) := by decide +kernel
theorem d_M_parentOf_9 : decode b_M_parentOf 9 = .ok (.ireturn, 1) := by decide +kernel
theorem d_M_parentOf_10 : decode b_M_parentOf 10 = .ok (.aload_n 0, 1) := by decide +kernel
theorem d_M_parentOf_11 : decode b_M_parentOf 11 = .ok (.iload_n 1, 1) := by decide +kernel
theorem d_M_parentOf_12 : decode b_M_parentOf 12 = .ok (.invokevirtual 134, 3) := by decide +kernel
theorem d_M_parentOf_15 : decode b_M_parentOf 15 = .ok (.istore_n 2, 1) := by decide +kernel
theorem d_M_parentOf_16 : decode b_M_parentOf 16 = .ok (.iload_n 2, 1) := by decide +kernel
theorem d_M_parentOf_17 : decode b_M_parentOf 17 = .ok (.ifCond .ge (7), 3) := by decide +kernel
theorem d_M_parentOf_20 : decode b_M_parentOf 20 = .ok (.iconst (-1), 1) := by decide +kernel
theorem d_M_parentOf_21 : decode b_M_parentOf 21 = .ok (.goto (9), 3) := by decide +kernel
theorem d_M_parentOf_24 : decode b_M_parentOf 24 = .ok (.aload_n 0, 1) := by decide +kernel
theorem d_M_parentOf_25 : decode b_M_parentOf 25 = .ok (.getfield 25, 3) := by decide +kernel
theorem d_M_parentOf_28 : decode b_M_parentOf 28 = .ok (.iload_n 2, 1) := by decide +kernel
theorem d_M_parentOf_29 : decode b_M_parentOf 29 = .ok (.iaload, 1) := by decide +kernel
theorem d_M_parentOf_30 : decode b_M_parentOf 30 = .ok (.ireturn, 1) := by decide +kernel
theorem d_M_nameOf_0 : decode b_M_nameOf 0 = .ok (.aload_n 0, 1) := by decide +kernel
theorem d_M_nameOf_1 : decode b_M_nameOf 1 = .ok (.getfield 56, 3) := by decide +kernel
theorem d_M_nameOf_4 : decode b_M_nameOf 4 = .ok (.ifCond .ne (7), 3) := by decide +kernel
theorem d_M_nameOf_7 : decode b_M_nameOf 7 = .ok (.ldc2_w 150, 3) := by decide +kernel
theorem d_M_nameOf_10 : decode b_M_nameOf 10 = .ok (.lreturn, 1) := by decide +kernel
theorem d_M_nameOf_11 : decode b_M_nameOf 11 = .ok (.aload_n 0, 1) := by decide +kernel
theorem d_M_nameOf_12 : decode b_M_nameOf 12 = .ok (.iload_n 1, 1) := by decide +kernel
theorem d_M_nameOf_13 : decode b_M_nameOf 13 = .ok (.invokevirtual 134, 3) := by decide +kernel
theorem d_M_nameOf_16 : decode b_M_nameOf 16 = .ok (.istore_n 2, 1) := by decide +kernel
theorem d_M_nameOf_17 : decode b_M_nameOf 17 = .ok (.iload_n 2, 1) := by decide +kernel
theorem d_M_nameOf_18 : decode b_M_nameOf 18 = .ok (.ifCond .ge (7), 3) := by decide +kernel
theorem d_M_nameOf_21 : decode b_M_nameOf 21 = .ok (.ldc2_w 152, 3) := by decide +kernel
theorem d_M_nameOf_24 : decode b_M_nameOf 24 = .ok (.lreturn, 1) := by decide +kernel
theorem d_M_nameOf_25 : decode b_M_nameOf 25 = .ok (.aload_n 0, 1) := by decide +kernel
theorem d_M_nameOf_26 : decode b_M_nameOf 26 = .ok (.getfield 38, 3) := by decide +kernel
theorem d_M_nameOf_29 : decode b_M_nameOf 29 = .ok (.iload_n 2, 1) := by decide +kernel
theorem d_M_nameOf_30 : decode b_M_nameOf 30 = .ok (.iaload, 1) := by decide +kernel
theorem d_M_nameOf_31 : decode b_M_nameOf 31 = .ok (.ifCond .lt (9), 3) := by decide +kernel
theorem d_M_nameOf_34 : decode b_M_nameOf 34 = .ok (.ldc2_w 158, 3) := by decide +kernel
theorem d_M_nameOf_37 : decode b_M_nameOf 37 = .ok (.goto (10), 3) := by decide +kernel
theorem d_M_nameOf_40 : decode b_M_nameOf 40 = .ok (.aload_n 0, 1) := by decide +kernel
theorem d_M_nameOf_41 : decode b_M_nameOf 41 = .ok (.getfield 22, 3) := by decide +kernel
theorem d_M_nameOf_44 : decode b_M_nameOf 44 = .ok (.iload_n 2, 1) := by decide +kernel
theorem d_M_nameOf_45 : decode b_M_nameOf 45 = .ok (.iaload, 1) := by decide +kernel
theorem d_M_nameOf_46 : decode b_M_nameOf 46 = .ok (.i2l, 1) := by decide +kernel
theorem d_M_nameOf_47 : decode b_M_nameOf 47 = .ok (.lreturn, 1) := by decide +kernel
theorem d_M_checkpoint_0 : decode b_M_checkpoint 0 = .ok (.aload_n 0, 1) := by decide +kernel
theorem d_M_checkpoint_1 : decode b_M_checkpoint 1 = .ok (.getfield 56, 3) := by decide +kernel
theorem d_M_checkpoint_4 : decode b_M_checkpoint 4 = .ok (.ifCond .eq (10), 3) := by decide +kernel
theorem d_M_checkpoint_7 : decode b_M_checkpoint 7 = .ok (.aload_n 0, 1) := by decide +kernel
theorem d_M_checkpoint_8 : decode b_M_checkpoint 8 = .ok (.invokevirtual 71, 3) := by decide +kernel
theorem d_M_checkpoint_11 : decode b_M_checkpoint 11 = .ok (.ifCond .ne (6), 3) := by decide +kernel
theorem d_M_checkpoint_14 : decode b_M_checkpoint 14 = .ok (.bipush (-9), 2) := by decide +kernel
theorem d_M_checkpoint_16 : decode b_M_checkpoint 16 = .ok (.ireturn, 1) := by decide +kernel
theorem d_M_checkpoint_17 : decode b_M_checkpoint 17 = .ok (.aload_n 0, 1) := by decide +kernel
theorem d_M_checkpoint_18 : decode b_M_checkpoint 18 = .ok (.iconst 0, 1) := by decide +kernel
theorem d_M_checkpoint_19 : decode b_M_checkpoint 19 = .ok (.putfield 170, 3) := by decide +kernel
theorem d_M_checkpoint_22 : decode b_M_checkpoint 22 = .ok (.aload_n 0, 1) := by decide +kernel
theorem d_M_checkpoint_23 : decode b_M_checkpoint 23 = .ok (.invokevirtual 71, 3) := by decide +kernel
theorem d_M_checkpoint_26 : decode b_M_checkpoint 26 = .ok (.ifCond .ne (6), 3) := by decide +kernel
theorem d_M_checkpoint_29 : decode b_M_checkpoint 29 = .ok (.bipush (-9), 2) := by decide +kernel
theorem d_M_checkpoint_31 : decode b_M_checkpoint 31 = .ok (.ireturn, 1) := by decide +kernel
theorem d_M_checkpoint_32 : decode b_M_checkpoint 32 = .ok (.aload_n 0, 1) := by decide +kernel
theorem d_M_checkpoint_33 : decode b_M_checkpoint 33 = .ok (.iconst 1, 1) := by decide +kernel
theorem d_M_checkpoint_34 : decode b_M_checkpoint 34 = .ok (.putfield 170, 3) := by decide +kernel
theorem d_M_checkpoint_37 : decode b_M_checkpoint 37 = .ok (.iconst 0, 1) := by decide +kernel
theorem d_M_checkpoint_38 : decode b_M_checkpoint 38 = .ok (.istore_n 1, 1) := by decide +kernel
theorem d_M_checkpoint_39 : decode b_M_checkpoint 39 = .ok (.iconst 0, 1) := by decide +kernel
theorem d_M_checkpoint_40 : decode b_M_checkpoint 40 = .ok (.istore_n 2, 1) := by decide +kernel
theorem d_M_checkpoint_41 : decode b_M_checkpoint 41 = .ok (.iload_n 2, 1) := by decide +kernel
theorem d_M_checkpoint_42 : decode b_M_checkpoint 42 = .ok (.bipush 6, 2) := by decide +kernel
theorem d_M_checkpoint_44 : decode b_M_checkpoint 44 = .ok (.if_icmp .ge (24), 3) := by decide +kernel
theorem d_M_checkpoint_47 : decode b_M_checkpoint 47 = .ok (.aload_n 0, 1) := by decide +kernel
theorem d_M_checkpoint_48 : decode b_M_checkpoint 48 = .ok (.getfield 50, 3) := by decide +kernel
theorem d_M_checkpoint_51 : decode b_M_checkpoint 51 = .ok (.iload_n 2, 1) := by decide +kernel
theorem d_M_checkpoint_52 : decode b_M_checkpoint 52 = .ok (.iconst 0, 1) := by decide +kernel
theorem d_M_checkpoint_53 : decode b_M_checkpoint 53 = .ok (.bastore, 1) := by decide +kernel
theorem d_M_checkpoint_54 : decode b_M_checkpoint 54 = .ok (.iload_n 1, 1) := by decide +kernel
theorem d_M_checkpoint_55 : decode b_M_checkpoint 55 = .ok (.aload_n 0, 1) := by decide +kernel
theorem d_M_checkpoint_56 : decode b_M_checkpoint 56 = .ok (.iload_n 2, 1) := by decide +kernel
theorem d_M_checkpoint_57 : decode b_M_checkpoint 57 = .ok (.invokevirtual 125, 3) := by decide +kernel
theorem d_M_checkpoint_60 : decode b_M_checkpoint 60 = .ok (.iadd, 1) := by decide +kernel
theorem d_M_checkpoint_61 : decode b_M_checkpoint 61 = .ok (.istore_n 1, 1) := by decide +kernel
theorem d_M_checkpoint_62 : decode b_M_checkpoint 62 = .ok (.iinc 2 (1), 3) := by decide +kernel
theorem d_M_checkpoint_65 : decode b_M_checkpoint 65 = .ok (.goto (-24), 3) := by decide +kernel
theorem d_M_checkpoint_68 : decode b_M_checkpoint 68 = .ok (.iload_n 1, 1) := by decide +kernel
theorem d_M_checkpoint_69 : decode b_M_checkpoint 69 = .ok (.ireturn, 1) := by decide +kernel
theorem d_M_followed_0 : decode b_M_followed 0 = .ok (.iconst 0, 1) := by decide +kernel
theorem d_M_followed_1 : decode b_M_followed 1 = .ok (.istore_n 2, 1) := by decide +kernel
theorem d_M_followed_2 : decode b_M_followed 2 = .ok (.iload_n 2, 1) := by decide +kernel
theorem d_M_followed_3 : decode b_M_followed 3 = .ok (.bipush 48, 2) := by decide +kernel
theorem d_M_followed_5 : decode b_M_followed 5 = .ok (.if_icmp .ge (70), 3) := by decide +kernel
theorem d_M_followed_8 : decode b_M_followed 8 = .ok (.aload_n 0, 1) := by decide +kernel
theorem d_M_followed_9 : decode b_M_followed 9 = .ok (.getfield 7, 3) := by decide +kernel
theorem d_M_followed_12 : decode b_M_followed 12 = .ok (.iload_n 2, 1) := by decide +kernel
theorem d_M_followed_13 : decode b_M_followed 13 = .ok (.iaload, 1) := by decide +kernel
theorem d_M_followed_14 : decode b_M_followed 14 = .ok (.iconst 1, 1) := by decide +kernel
theorem d_M_followed_15 : decode b_M_followed 15 = .ok (.if_icmp .ne (54), 3) := by decide +kernel
theorem d_M_followed_18 : decode b_M_followed 18 = .ok (.aload_n 0, 1) := by decide +kernel
theorem d_M_followed_19 : decode b_M_followed 19 = .ok (.getfield 13, 3) := by decide +kernel
theorem d_M_followed_22 : decode b_M_followed 22 = .ok (.iload_n 2, 1) := by decide +kernel
theorem d_M_followed_23 : decode b_M_followed 23 = .ok (.iaload, 1) := by decide +kernel
theorem d_M_followed_24 : decode b_M_followed 24 = .ok (.aload_n 0, 1) := by decide +kernel
theorem d_M_followed_25 : decode b_M_followed 25 = .ok (.getfield 13, 3) := by decide +kernel
theorem d_M_followed_28 : decode b_M_followed 28 = .ok (.iload_n 1, 1) := by decide +kernel
theorem d_M_followed_29 : decode b_M_followed 29 = .ok (.iaload, 1) := by decide +kernel
theorem d_M_followed_30 : decode b_M_followed 30 = .ok (.if_icmp .ne (39), 3) := by decide +kernel
theorem d_M_followed_33 : decode b_M_followed 33 = .ok (.aload_n 0, 1) := by decide +kernel
theorem d_M_followed_34 : decode b_M_followed 34 = .ok (.getfield 16, 3) := by decide +kernel
theorem d_M_followed_37 : decode b_M_followed 37 = .ok (.iload_n 2, 1) := by decide +kernel
theorem d_M_followed_38 : decode b_M_followed 38 = .ok (.iaload, 1) := by decide +kernel
theorem d_M_followed_39 : decode b_M_followed 39 = .ok (.aload_n 0, 1) := by decide +kernel
theorem d_M_followed_40 : decode b_M_followed 40 = .ok (.getfield 16, 3) := by decide +kernel
theorem d_M_followed_43 : decode b_M_followed 43 = .ok (.iload_n 1, 1) := by decide +kernel
theorem d_M_followed_44 : decode b_M_followed 44 = .ok (.iaload, 1) := by decide +kernel
theorem d_M_followed_45 : decode b_M_followed 45 = .ok (.if_icmp .ne (24), 3) := by decide +kernel
theorem d_M_followed_48 : decode b_M_followed 48 = .ok (.aload_n 0, 1) := by decide +kernel
theorem d_M_followed_49 : decode b_M_followed 49 = .ok (.getfield 19, 3) := by decide +kernel
theorem d_M_followed_52 : decode b_M_followed 52 = .ok (.iload_n 2, 1) := by decide +kernel
theorem d_M_followed_53 : decode b_M_followed 53 = .ok (.iaload, 1) := by decide +kernel
theorem d_M_followed_54 : decode b_M_followed 54 = .ok (.aload_n 0, 1) := by decide +kernel
theorem d_M_followed_55 : decode b_M_followed 55 = .ok (.getfield 19, 3) := by decide +kernel
theorem d_M_followed_58 : decode b_M_followed 58 = .ok (.iload_n 1, 1) := by decide +kernel
theorem d_M_followed_59 : decode b_M_followed 59 = .ok (.iaload, 1) := by decide +kernel
theorem d_M_followed_60 : decode b_M_followed 60 = .ok (.iconst 1, 1) := by decide +kernel
theorem d_M_followed_61 : decode b_M_followed 61 = .ok (.iadd, 1) := by decide +kernel
theorem d_M_followed_62 : decode b_M_followed 62 = .ok (.iconst 4, 1) := by decide +kernel
theorem d_M_followed_63 : decode b_M_followed 63 = .ok (.irem, 1) := by decide +kernel
theorem d_M_followed_64 : decode b_M_followed 64 = .ok (.if_icmp .ne (5), 3) := by decide +kernel
theorem d_M_followed_67 : decode b_M_followed 67 = .ok (.iconst 1, 1) := by decide +kernel
theorem d_M_followed_68 : decode b_M_followed 68 = .ok (.ireturn, 1) := by decide +kernel
theorem d_M_followed_69 : decode b_M_followed 69 = .ok (.iinc 2 (1), 3) := by decide +kernel
theorem d_M_followed_72 : decode b_M_followed 72 = .ok (.goto (-70), 3) := by decide +kernel
theorem d_M_followed_75 : decode b_M_followed 75 = .ok (.iconst 0, 1) := by decide +kernel
theorem d_M_followed_76 : decode b_M_followed 76 = .ok (.ireturn, 1) := by decide +kernel
