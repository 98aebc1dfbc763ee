theorem d_T_withLength_0 : decode b_T_withLength 0 = .ok (.iload_n 0, 1) := by decide +kernel
theorem d_T_withLength_1 : decode b_T_withLength 1 = .ok (.sipush (-28673), 3) := by decide +kernel
theorem d_T_withLength_4 : decode b_T_withLength 4 = .ok (.iand, 1) := by decide +kernel
theorem d_T_withLength_5 : decode b_T_withLength 5 = .ok (.iload_n 1, 1) := by decide +kernel
theorem d_T_withLength_6 : decode b_T_withLength 6 = .ok (.bipush 12, 2) := by decide +kernel
theorem d_T_withLength_8 : decode b_T_withLength 8 = .ok (.ishl, 1) := by decide +kernel
theorem d_T_withLength_9 : decode b_T_withLength 9 = .ok (.ior, 1) := by decide +kernel
theorem d_T_withLength_10 : decode b_T_withLength 10 = .ok (.ireturn, 1) := by decide +kernel
theorem d_S_putLength_0 : decode b_S_putLength 0 = .ok (.aload_n 0, 1) := by decide +kernel
theorem d_S_putLength_1 : decode b_S_putLength 1 = .ok (.getfield 12, 3) := by decide +kernel
theorem d_S_putLength_4 : decode b_S_putLength 4 = .ok (.iload_n 1, 1) := by decide +kernel
theorem d_S_putLength_5 : decode b_S_putLength 5 = .ok (.iconst 0, 1) := by decide +kernel
theorem d_S_putLength_6 : decode b_S_putLength 6 = .ok (.invokevirtual 61, 3) := by decide +kernel
theorem d_S_putLength_9 : decode b_S_putLength 9 = .ok (.istore_n 3, 1) := by decide +kernel
theorem d_S_putLength_10 : decode b_S_putLength 10 = .ok (.iload_n 3, 1) := by decide +kernel
theorem d_S_putLength_11 : decode b_S_putLength 11 = .ok (.iconst (-1), 1) := by decide +kernel
theorem d_S_putLength_12 : decode b_S_putLength 12 = .ok (.if_icmp .eq (24), 3) := by decide +kernel
theorem d_S_putLength_15 : decode b_S_putLength 15 = .ok (.aload_n 0, 1) := by decide +kernel
theorem d_S_putLength_16 : decode b_S_putLength 16 = .ok (.iload_n 3, 1) := by decide +kernel
theorem d_S_putLength_17 : decode b_S_putLength 17 = .ok (.aload_n 0, 1) := by decide +kernel
theorem d_S_putLength_18 : decode b_S_putLength 18 = .ok (.getfield 12, 3) := by decide +kernel
theorem d_S_putLength_21 : decode b_S_putLength 21 = .ok (.getfield 154, 3) := by decide +kernel
theorem d_S_putLength_24 : decode b_S_putLength 24 = .ok (.iload_n 3, 1) := by decide +kernel
theorem d_S_putLength_25 : decode b_S_putLength 25 = .ok (.iaload, 1) := by decide +kernel
theorem d_S_putLength_26 : decode b_S_putLength 26 = .ok (.iload_n 2, 1) := by decide +kernel
theorem d_S_putLength_27 : decode b_S_putLength 27 = .ok (.invokestatic 198, 3) := by decide +kernel
theorem d_S_putLength_30 : decode b_S_putLength 30 = .ok (.invokevirtual 201, 3) := by decide +kernel
theorem d_S_putLength_33 : decode b_S_putLength 33 = .ok (.ifCond .eq (7), 3) := by decide +kernel
theorem d_S_putLength_36 : decode b_S_putLength 36 = .ok (.iconst 1, 1) := by decide +kernel
theorem d_S_putLength_37 : decode b_S_putLength 37 = .ok (.goto (4), 3) := by decide +kernel
theorem d_S_putLength_40 : decode b_S_putLength 40 = .ok (.iconst 0, 1) := by decide +kernel
theorem d_S_putLength_41 : decode b_S_putLength 41 = .ok (.ireturn, 1) := by decide +kernel
theorem d_S_refusalOfObject_0 : decode b_S_refusalOfObject 0 = .ok (.aload_n 0, 1) := by decide +kernel
theorem d_S_refusalOfObject_1 : decode b_S_refusalOfObject 1 = .ok (.getfield 20, 3) := by decide +kernel
theorem d_S_refusalOfObject_4 : decode b_S_refusalOfObject 4 = .ok (.ifCond .ne (6), 3) := by decide +kernel
theorem d_S_refusalOfObject_7 : decode b_S_refusalOfObject 7 = .ok (.bipush (-9), 2) := by decide +kernel
theorem d_S_refusalOfObject_9 : decode b_S_refusalOfObject 9 = .ok (.ireturn, 1) := by decide +kernel
theorem d_S_refusalOfObject_10 : decode b_S_refusalOfObject 10 = .ok (.aload_n 0, 1) := by decide +kernel
theorem d_S_refusalOfObject_11 : decode b_S_refusalOfObject 11 = .ok (.iload_n 1, 1) := by decide +kernel
theorem d_S_refusalOfObject_12 : decode b_S_refusalOfObject 12 = .ok (.invokevirtual 94, 3) := by decide +kernel
theorem d_S_refusalOfObject_15 : decode b_S_refusalOfObject 15 = .ok (.ifCond .eq (7), 3) := by decide +kernel
theorem d_S_refusalOfObject_18 : decode b_S_refusalOfObject 18 = .ok (.iconst 0, 1) := by decide +kernel
theorem d_S_refusalOfObject_19 : decode b_S_refusalOfObject 19 = .ok (.goto (4), 3) := by decide +kernel
theorem d_S_refusalOfObject_22 : decode b_S_refusalOfObject 22 = .ok (.iconst (-1), 1) := by decide +kernel
theorem d_S_refusalOfObject_23 : decode b_S_refusalOfObject 23 = .ok (.ireturn, 1) := by decide +kernel
theorem d_S_refusalOfFile_0 : decode b_S_refusalOfFile 0 = .ok (.aload_n 0, 1) := by decide +kernel
theorem d_S_refusalOfFile_1 : decode b_S_refusalOfFile 1 = .ok (.iload_n 1, 1) := by decide +kernel
theorem d_S_refusalOfFile_2 : decode b_S_refusalOfFile 2 = .ok (.invokevirtual 82, 3) := by decide +kernel
theorem d_S_refusalOfFile_5 : decode b_S_refusalOfFile 5 = .ok (.istore_n 2, 1) := by decide +kernel
theorem d_S_refusalOfFile_6 : decode b_S_refusalOfFile 6 = .ok (.iload_n 2, 1) := by decide +kernel
theorem d_S_refusalOfFile_7 : decode b_S_refusalOfFile 7 = .ok (.ifCond .eq (5), 3) := by decide +kernel
theorem d_S_refusalOfFile_10 : decode b_S_refusalOfFile 10 = .ok (.iload_n 2, 1) := by decide +kernel
theorem d_S_refusalOfFile_11 : decode b_S_refusalOfFile 11 = .ok (.ireturn, 1) := by decide +kernel
theorem d_S_refusalOfFile_12 : decode b_S_refusalOfFile 12 = .ok (.aload_n 0, 1) := by decide +kernel
theorem d_S_refusalOfFile_13 : decode b_S_refusalOfFile 13 = .ok (.iload_n 1, 1) := by decide +kernel
theorem d_S_refusalOfFile_14 : decode b_S_refusalOfFile 14 = .ok (.invokevirtual 98, 3) := by decide +kernel
theorem d_S_refusalOfFile_17 : decode b_S_refusalOfFile 17 = .ok (.ifCond .eq (8), 3) := by decide +kernel
theorem d_S_refusalOfFile_20 : decode b_S_refusalOfFile 20 = .ok (.bipush (-3), 2) := by decide +kernel
theorem d_S_refusalOfFile_22 : decode b_S_refusalOfFile 22 = .ok (.goto (4), 3) := by decide +kernel
theorem d_S_refusalOfFile_25 : decode b_S_refusalOfFile 25 = .ok (.iconst 0, 1) := by decide +kernel
theorem d_S_refusalOfFile_26 : decode b_S_refusalOfFile 26 = .ok (.ireturn, 1) := by decide +kernel
theorem d_T_length_0 : decode b_T_length 0 = .ok (.iload_n 0, 1) := by decide +kernel
theorem d_T_length_1 : decode b_T_length 1 = .ok (.sipush 28672, 3) := by decide +kernel
theorem d_T_length_4 : decode b_T_length 4 = .ok (.iand, 1) := by decide +kernel
theorem d_T_length_5 : decode b_T_length 5 = .ok (.bipush 12, 2) := by decide +kernel
theorem d_T_length_7 : decode b_T_length 7 = .ok (.ishr, 1) := by decide +kernel
theorem d_T_length_8 : decode b_T_length 8 = .ok (.ireturn, 1) := by decide +kernel
theorem d_S_write_0 : decode b_S_write 0 = .ok (.aload_n 0, 1) := by decide +kernel
theorem d_S_write_1 : decode b_S_write 1 = .ok (.iload_n 1, 1) := by decide +kernel
theorem d_S_write_2 : decode b_S_write 2 = .ok (.invokevirtual 52, 3) := by decide +kernel
theorem d_S_write_5 : decode b_S_write 5 = .ok (.istore 4, 2) := by decide +kernel
theorem d_S_write_7 : decode b_S_write 7 = .ok (.iload 4, 2) := by decide +kernel
theorem d_S_write_9 : decode b_S_write 9 = .ok (.ifCond .eq (6), 3) := by decide +kernel
theorem d_S_write_12 : decode b_S_write 12 = .ok (.iload 4, 2) := by decide +kernel
theorem d_S_write_14 : decode b_S_write 14 = .ok (.ireturn, 1) := by decide +kernel
theorem d_S_write_15 : decode b_S_write 15 = .ok (.iload_n 2, 1) := by decide +kernel
theorem d_S_write_16 : decode b_S_write 16 = .ok (.iconst 1, 1) := by decide +kernel
theorem d_S_write_17 : decode b_S_write 17 = .ok (.if_icmp .lt (9), 3) := by decide +kernel
theorem d_S_write_20 : decode b_S_write 20 = .ok (.iload_n 2, 1) := by decide +kernel
theorem d_S_write_21 : decode b_S_write 21 = .ok (.bipush 6, 2) := by decide +kernel
theorem d_S_write_23 : decode b_S_write 23 = .ok (.if_icmp .le (6), 3) := by decide +kernel
theorem d_S_write_26 : decode b_S_write 26 = .ok (.bipush (-7), 2) := by decide +kernel
theorem d_S_write_28 : decode b_S_write 28 = .ok (.ireturn, 1) := by decide +kernel
theorem d_S_write_29 : decode b_S_write 29 = .ok (.iload_n 2, 1) := by decide +kernel
theorem d_S_write_30 : decode b_S_write 30 = .ok (.aload_n 0, 1) := by decide +kernel
theorem d_S_write_31 : decode b_S_write 31 = .ok (.iload_n 1, 1) := by decide +kernel
theorem d_S_write_32 : decode b_S_write 32 = .ok (.invokevirtual 55, 3) := by decide +kernel
theorem d_S_write_35 : decode b_S_write 35 = .ok (.invokestatic 58, 3) := by decide +kernel
theorem d_S_write_38 : decode b_S_write 38 = .ok (.if_icmp .le (7), 3) := by decide +kernel
theorem d_S_write_41 : decode b_S_write 41 = .ok (.iconst 1, 1) := by decide +kernel
theorem d_S_write_42 : decode b_S_write 42 = .ok (.goto (4), 3) := by decide +kernel
theorem d_S_write_45 : decode b_S_write 45 = .ok (.iconst 0, 1) := by decide +kernel
theorem d_S_write_46 : decode b_S_write 46 = .ok (.istore 5, 2) := by decide +kernel
theorem d_S_write_48 : decode b_S_write 48 = .ok (.aload_n 0, 1) := by decide +kernel
theorem d_S_write_49 : decode b_S_write 49 = .ok (.iload 5, 2) := by decide +kernel
theorem d_S_write_51 : decode b_S_write 51 = .ok (.ifCond .eq (7), 3) := by decide +kernel
theorem d_S_write_54 : decode b_S_write 54 = .ok (.iconst 2, 1) := by decide +kernel
theorem d_S_write_55 : decode b_S_write 55 = .ok (.goto (4), 3) := by decide +kernel
theorem d_S_write_58 : decode b_S_write 58 = .ok (.iconst 1, 1) := by decide +kernel
theorem d_S_write_59 : decode b_S_write 59 = .ok (.invokevirtual 36, 3) := by decide +kernel
theorem d_S_write_62 : decode b_S_write 62 = .ok (.istore 4, 2) := by decide +kernel
theorem d_S_write_64 : decode b_S_write 64 = .ok (.iload 4, 2) := by decide +kernel
theorem d_S_write_66 : decode b_S_write 66 = .ok (.ifCond .eq (6), 3) := by decide +kernel
theorem d_S_write_69 : decode b_S_write 69 = .ok (.iload 4, 2) := by decide +kernel
theorem d_S_write_71 : decode b_S_write 71 = .ok (.ireturn, 1) := by decide +kernel
theorem d_S_write_72 : decode b_S_write 72 = .ok (.aload_n 0, 1) := by decide +kernel
theorem d_S_write_73 : decode b_S_write 73 = .ok (.getfield 12, 3) := by decide +kernel
theorem d_S_write_76 : decode b_S_write 76 = .ok (.iload_n 1, 1) := by decide +kernel
theorem d_S_write_77 : decode b_S_write 77 = .ok (.iload_n 2, 1) := by decide +kernel
theorem d_S_write_78 : decode b_S_write 78 = .ok (.invokevirtual 61, 3) := by decide +kernel
theorem d_S_write_81 : decode b_S_write 81 = .ok (.istore 6, 2) := by decide +kernel
theorem d_S_write_83 : decode b_S_write 83 = .ok (.aload_n 0, 1) := by decide +kernel
theorem d_S_write_84 : decode b_S_write 84 = .ok (.iload 6, 2) := by decide +kernel
theorem d_S_write_86 : decode b_S_write 86 = .ok (.iload_n 1, 1) := by decide +kernel
theorem d_S_write_87 : decode b_S_write 87 = .ok (.iload_n 2, 1) := by decide +kernel
theorem d_S_write_88 : decode b_S_write 88 = .ok (.invokestatic 64, 3) := by decide +kernel
theorem d_S_write_91 : decode b_S_write 91 = .ok (.iload_n 3, 1) := by decide +kernel
theorem d_S_write_92 : decode b_S_write 92 = .ok (.lconst 0, 1) := by decide +kernel
theorem d_S_write_93 : decode b_S_write 93 = .ok (.invokevirtual 45, 3) := by decide +kernel
theorem d_S_write_96 : decode b_S_write 96 = .ok (.ifCond .eq (21), 3) := by decide +kernel
theorem d_S_write_99 : decode b_S_write 99 = .ok (.iload 5, 2) := by decide +kernel
theorem d_S_write_101 : decode b_S_write 101 = .ok (.ifCond .eq (12), 3) := by decide +kernel
theorem d_S_write_104 : decode b_S_write 104 = .ok (.aload_n 0, 1) := by decide +kernel
theorem d_S_write_105 : decode b_S_write 105 = .ok (.iload_n 1, 1) := by decide +kernel
theorem d_S_write_106 : decode b_S_write 106 = .ok (.iload_n 2, 1) := by decide +kernel
theorem d_S_write_107 : decode b_S_write 107 = .ok (.invokevirtual 67, 3) := by decide +kernel
theorem d_S_write_110 : decode b_S_write 110 = .ok (.ifCond .eq (7), 3) := by decide +kernel
theorem d_S_write_113 : decode b_S_write 113 = .ok (.iconst 1, 1) := by decide +kernel
theorem d_S_write_114 : decode b_S_write 114 = .ok (.goto (4), 3) := by decide +kernel
theorem d_S_write_117 : decode b_S_write 117 = .ok (.iconst 0, 1) := by decide +kernel
theorem d_S_write_118 : decode b_S_write 118 = .ok (.istore 7, 2) := by decide +kernel
theorem d_S_write_120 : decode b_S_write 120 = .ok (.iload 7, 2) := by decide +kernel
theorem d_S_write_122 : decode b_S_write 122 = .ok (.ifCond .eq (7), 3) := by decide +kernel
theorem d_S_write_125 : decode b_S_write 125 = .ok (.iconst 0, 1) := by decide +kernel
theorem d_S_write_126 : decode b_S_write 126 = .ok (.goto (7), 3) := by decide +kernel
theorem d_S_write_129 : decode b_S_write 129 = .ok (.aload_n 0, 1) := by decide +kernel
theorem d_S_write_130 : decode b_S_write 130 = .ok (.invokevirtual 49, 3) := by decide +kernel
theorem d_S_write_133 : decode b_S_write 133 = .ok (.ireturn, 1) := by decide +kernel
theorem d_S_read_0 : decode b_S_read 0 = .ok (.aload_n 0, 1) := by decide +kernel
theorem d_S_read_1 : decode b_S_read 1 = .ok (.iload_n 1, 1) := by decide +kernel
theorem d_S_read_2 : decode b_S_read 2 = .ok (.invokevirtual 52, 3) := by decide +kernel
theorem d_S_read_5 : decode b_S_read 5 = .ok (.istore_n 3, 1) := by decide +kernel
theorem d_S_read_6 : decode b_S_read 6 = .ok (.iload_n 3, 1) := by decide +kernel
theorem d_S_read_7 : decode b_S_read 7 = .ok (.ifCond .eq (10), 3) := by decide +kernel
theorem d_S_read_10 : decode b_S_read 10 = .ok (.ldc2_w 71, 3) := by decide +kernel
theorem d_S_read_13 : decode b_S_read 13 = .ok (.iload_n 3, 1) := by decide +kernel
theorem d_S_read_14 : decode b_S_read 14 = .ok (.i2l, 1) := by decide +kernel
theorem d_S_read_15 : decode b_S_read 15 = .ok (.ladd, 1) := by decide +kernel
theorem d_S_read_16 : decode b_S_read 16 = .ok (.lreturn, 1) := by decide +kernel
theorem d_S_read_17 : decode b_S_read 17 = .ok (.iload_n 2, 1) := by decide +kernel
theorem d_S_read_18 : decode b_S_read 18 = .ok (.iconst 1, 1) := by decide +kernel
theorem d_S_read_19 : decode b_S_read 19 = .ok (.if_icmp .lt (15), 3) := by decide +kernel
theorem d_S_read_22 : decode b_S_read 22 = .ok (.iload_n 2, 1) := by decide +kernel
theorem d_S_read_23 : decode b_S_read 23 = .ok (.aload_n 0, 1) := by decide +kernel
theorem d_S_read_24 : decode b_S_read 24 = .ok (.iload_n 1, 1) := by decide +kernel
theorem d_S_read_25 : decode b_S_read 25 = .ok (.invokevirtual 55, 3) := by decide +kernel
theorem d_S_read_28 : decode b_S_read 28 = .ok (.invokestatic 58, 3) := by decide +kernel
theorem d_S_read_31 : decode b_S_read 31 = .ok (.if_icmp .le (7), 3) := by decide +kernel
theorem d_S_read_34 : decode b_S_read 34 = .ok (.ldc2_w 73, 3) := by decide +kernel
theorem d_S_read_37 : decode b_S_read 37 = .ok (.lreturn, 1) := by decide +kernel
theorem d_S_read_38 : decode b_S_read 38 = .ok (.aload_n 0, 1) := by decide +kernel
theorem d_S_read_39 : decode b_S_read 39 = .ok (.getfield 12, 3) := by decide +kernel
theorem d_S_read_42 : decode b_S_read 42 = .ok (.iload_n 1, 1) := by decide +kernel
theorem d_S_read_43 : decode b_S_read 43 = .ok (.iload_n 2, 1) := by decide +kernel
theorem d_S_read_44 : decode b_S_read 44 = .ok (.invokevirtual 61, 3) := by decide +kernel
theorem d_S_read_47 : decode b_S_read 47 = .ok (.istore 4, 2) := by decide +kernel
theorem d_S_read_49 : decode b_S_read 49 = .ok (.iload 4, 2) := by decide +kernel
theorem d_S_read_51 : decode b_S_read 51 = .ok (.iconst (-1), 1) := by decide +kernel
theorem d_S_read_52 : decode b_S_read 52 = .ok (.if_icmp .ne (7), 3) := by decide +kernel
theorem d_S_read_55 : decode b_S_read 55 = .ok (.lconst 0, 1) := by decide +kernel
theorem d_S_read_56 : decode b_S_read 56 = .ok (.goto (12), 3) := by decide +kernel
theorem d_S_read_59 : decode b_S_read 59 = .ok (.aload_n 0, 1) := by decide +kernel
theorem d_S_read_60 : decode b_S_read 60 = .ok (.getfield 12, 3) := by decide +kernel
theorem d_S_read_63 : decode b_S_read 63 = .ok (.iload 4, 2) := by decide +kernel
theorem d_S_read_65 : decode b_S_read 65 = .ok (.invokevirtual 75, 3) := by decide +kernel
theorem d_S_read_68 : decode b_S_read 68 = .ok (.lreturn, 1) := by decide +kernel
theorem d_S_markChunks_0 : decode b_S_markChunks 0 = .ok (.iload_n 2, 1) := by decide +kernel
theorem d_S_markChunks_1 : decode b_S_markChunks 1 = .ok (.istore_n 3, 1) := by decide +kernel
theorem d_S_markChunks_2 : decode b_S_markChunks 2 = .ok (.iload_n 3, 1) := by decide +kernel
theorem d_S_markChunks_3 : decode b_S_markChunks 3 = .ok (.bipush 6, 2) := by decide +kernel
theorem d_S_markChunks_5 : decode b_S_markChunks 5 = .ok (.if_icmp .gt (40), 3) := by decide +kernel
theorem d_S_markChunks_8 : decode b_S_markChunks 8 = .ok (.aload_n 0, 1) := by decide +kernel
theorem d_S_markChunks_9 : decode b_S_markChunks 9 = .ok (.getfield 12, 3) := by decide +kernel
theorem d_S_markChunks_12 : decode b_S_markChunks 12 = .ok (.iload_n 1, 1) := by decide +kernel
theorem d_S_markChunks_13 : decode b_S_markChunks 13 = .ok (.iload_n 3, 1) := by decide +kernel
theorem d_S_markChunks_14 : decode b_S_markChunks 14 = .ok (.invokevirtual 61, 3) := by decide +kernel
theorem d_S_markChunks_17 : decode b_S_markChunks 17 = .ok (.istore 4, 2) := by decide +kernel
theorem d_S_markChunks_19 : decode b_S_markChunks 19 = .ok (.iload 4, 2) := by decide +kernel
theorem d_S_markChunks_21 : decode b_S_markChunks 21 = .ok (.iconst (-1), 1) := by decide +kernel
theorem d_S_markChunks_22 : decode b_S_markChunks 22 = .ok (.if_icmp .eq (17), 3) := by decide +kernel
theorem d_S_markChunks_25 : decode b_S_markChunks 25 = .ok (.aload_n 0, 1) := by decide +kernel
theorem d_S_markChunks_26 : decode b_S_markChunks 26 = .ok (.getfield 12, 3) := by decide +kernel
theorem d_S_markChunks_29 : decode b_S_markChunks 29 = .ok (.iload 4, 2) := by decide +kernel
theorem d_S_markChunks_31 : decode b_S_markChunks 31 = .ok (.invokevirtual 185, 3) := by decide +kernel
theorem d_S_markChunks_34 : decode b_S_markChunks 34 = .ok (.ifCond .ne (5), 3) := by decide +kernel
theorem d_S_markChunks_37 : decode b_S_markChunks 37 = .ok (.iconst 0, 1) := by decide +kernel
theorem d_S_markChunks_38 : decode b_S_markChunks 38 = .ok (.ireturn, 1) := by decide +kernel
theorem d_S_markChunks_39 : decode b_S_markChunks 39 = .ok (.iinc 3 (1), 3) := by decide +kernel
theorem d_S_markChunks_42 : decode b_S_markChunks 42 = .ok (.goto (-40), 3) := by decide +kernel
theorem d_S_markChunks_45 : decode b_S_markChunks 45 = .ok (.iconst 1, 1) := by decide +kernel
theorem d_S_markChunks_46 : decode b_S_markChunks 46 = .ok (.ireturn, 1) := by decide +kernel
theorem d_S_truncate_0 : decode b_S_truncate 0 = .ok (.aload_n 0, 1) := by decide +kernel
theorem d_S_truncate_1 : decode b_S_truncate 1 = .ok (.iload_n 1, 1) := by decide +kernel
theorem d_S_truncate_2 : decode b_S_truncate 2 = .ok (.invokevirtual 52, 3) := by decide +kernel
theorem d_S_truncate_5 : decode b_S_truncate 5 = .ok (.istore_n 3, 1) := by decide +kernel
theorem d_S_truncate_6 : decode b_S_truncate 6 = .ok (.iload_n 3, 1) := by decide +kernel
theorem d_S_truncate_7 : decode b_S_truncate 7 = .ok (.ifCond .eq (5), 3) := by decide +kernel
theorem d_S_truncate_10 : decode b_S_truncate 10 = .ok (.iload_n 3, 1) := by decide +kernel
theorem d_S_truncate_11 : decode b_S_truncate 11 = .ok (.ireturn, 1) := by decide +kernel
theorem d_S_truncate_12 : decode b_S_truncate 12 = .ok (.aload_n 0, 1) := by decide +kernel
theorem d_S_truncate_13 : decode b_S_truncate 13 = .ok (.iload_n 1, 1) := by decide +kernel
theorem d_S_truncate_14 : decode b_S_truncate 14 = .ok (.invokevirtual 55, 3) := by decide +kernel
theorem d_S_truncate_17 : decode b_S_truncate 17 = .ok (.invokestatic 58, 3) := by decide +kernel
theorem d_S_truncate_20 : decode b_S_truncate 20 = .ok (.istore 4, 2) := by decide +kernel
theorem d_S_truncate_22 : decode b_S_truncate 22 = .ok (.iload_n 2, 1) := by decide +kernel
theorem d_S_truncate_23 : decode b_S_truncate 23 = .ok (.ifCond .lt (9), 3) := by decide +kernel
theorem d_S_truncate_26 : decode b_S_truncate 26 = .ok (.iload_n 2, 1) := by decide +kernel
theorem d_S_truncate_27 : decode b_S_truncate 27 = .ok (.iload 4, 2) := by decide +kernel
theorem d_S_truncate_29 : decode b_S_truncate 29 = .ok (.if_icmp .le (6), 3) := by decide +kernel
theorem d_S_truncate_32 : decode b_S_truncate 32 = .ok (.bipush (-7), 2) := by decide +kernel
theorem d_S_truncate_34 : decode b_S_truncate 34 = .ok (.ireturn, 1) := by decide +kernel
theorem d_S_truncate_35 : decode b_S_truncate 35 = .ok (.iload_n 2, 1) := by decide +kernel
theorem d_S_truncate_36 : decode b_S_truncate 36 = .ok (.iload 4, 2) := by decide +kernel
theorem d_S_truncate_38 : decode b_S_truncate 38 = .ok (.if_icmp .ne (5), 3) := by decide +kernel
theorem d_S_truncate_41 : decode b_S_truncate 41 = .ok (.iconst 0, 1) := by decide +kernel
theorem d_S_truncate_42 : decode b_S_truncate 42 = .ok (.ireturn, 1) := by decide +kernel
theorem d_S_truncate_43 : decode b_S_truncate 43 = .ok (.aload_n 0, 1) := by decide +kernel
theorem d_S_truncate_44 : decode b_S_truncate 44 = .ok (.iconst 1, 1) := by decide +kernel
theorem d_S_truncate_45 : decode b_S_truncate 45 = .ok (.invokevirtual 36, 3) := by decide +kernel
theorem d_S_truncate_48 : decode b_S_truncate 48 = .ok (.istore_n 3, 1) := by decide +kernel
theorem d_S_truncate_49 : decode b_S_truncate 49 = .ok (.iload_n 3, 1) := by decide +kernel
theorem d_S_truncate_50 : decode b_S_truncate 50 = .ok (.ifCond .eq (5), 3) := by decide +kernel
theorem d_S_truncate_53 : decode b_S_truncate 53 = .ok (.iload_n 3, 1) := by decide +kernel
theorem d_S_truncate_54 : decode b_S_truncate 54 = .ok (.ireturn, 1) := by decide +kernel
theorem d_S_truncate_55 : decode b_S_truncate 55 = .ok (.aload_n 0, 1) := by decide +kernel
theorem d_S_truncate_56 : decode b_S_truncate 56 = .ok (.iload_n 1, 1) := by decide +kernel
theorem d_S_truncate_57 : decode b_S_truncate 57 = .ok (.iload_n 2, 1) := by decide +kernel
theorem d_S_truncate_58 : decode b_S_truncate 58 = .ok (.invokevirtual 67, 3) := by decide +kernel
theorem d_S_truncate_61 : decode b_S_truncate 61 = .ok (.ifCond .eq (18), 3) := by decide +kernel
theorem d_S_truncate_64 : decode b_S_truncate 64 = .ok (.aload_n 0, 1) := by decide +kernel
theorem d_S_truncate_65 : decode b_S_truncate 65 = .ok (.iload_n 1, 1) := by decide +kernel
theorem d_S_truncate_66 : decode b_S_truncate 66 = .ok (.iload_n 2, 1) := by decide +kernel
theorem d_S_truncate_67 : decode b_S_truncate 67 = .ok (.iconst 1, 1) := by decide +kernel
theorem d_S_truncate_68 : decode b_S_truncate 68 = .ok (.iadd, 1) := by decide +kernel
theorem d_S_truncate_69 : decode b_S_truncate 69 = .ok (.invokevirtual 79, 3) := by decide +kernel
theorem d_S_truncate_72 : decode b_S_truncate 72 = .ok (.ifCond .eq (7), 3) := by decide +kernel
theorem d_S_truncate_75 : decode b_S_truncate 75 = .ok (.iconst 1, 1) := by decide +kernel
theorem d_S_truncate_76 : decode b_S_truncate 76 = .ok (.goto (4), 3) := by decide +kernel
theorem d_S_truncate_79 : decode b_S_truncate 79 = .ok (.iconst 0, 1) := by decide +kernel
theorem d_S_truncate_80 : decode b_S_truncate 80 = .ok (.istore 5, 2) := by decide +kernel
theorem d_S_truncate_82 : decode b_S_truncate 82 = .ok (.iload 5, 2) := by decide +kernel
theorem d_S_truncate_84 : decode b_S_truncate 84 = .ok (.ifCond .eq (7), 3) := by decide +kernel
theorem d_S_truncate_87 : decode b_S_truncate 87 = .ok (.iconst 0, 1) := by decide +kernel
theorem d_S_truncate_88 : decode b_S_truncate 88 = .ok (.goto (7), 3) := by decide +kernel
theorem d_S_truncate_91 : decode b_S_truncate 91 = .ok (.aload_n 0, 1) := by decide +kernel
theorem d_S_truncate_92 : decode b_S_truncate 92 = .ok (.invokevirtual 49, 3) := by decide +kernel
theorem d_S_truncate_95 : decode b_S_truncate 95 = .ok (.ireturn, 1) := by decide +kernel
theorem d_S_liesIn_0 : decode b_S_liesIn 0 = .ok (.iload_n 1, 1) := by decide +kernel
theorem d_S_liesIn_1 : decode b_S_liesIn 1 = .ok (.istore_n 3, 1) := by decide +kernel
theorem d_S_liesIn_2 : decode b_S_liesIn 2 = .ok (.iconst 0, 1) := by decide +kernel
theorem d_S_liesIn_3 : decode b_S_liesIn 3 = .ok (.istore 4, 2) := by decide +kernel
theorem d_S_liesIn_5 : decode b_S_liesIn 5 = .ok (.iload 4, 2) := by decide +kernel
theorem d_S_liesIn_7 : decode b_S_liesIn 7 = .ok (.bipush 7, 2) := by decide +kernel
theorem d_S_liesIn_9 : decode b_S_liesIn 9 = .ok (.if_icmp .gt (29), 3) := by decide +kernel
theorem d_S_liesIn_12 : decode b_S_liesIn 12 = .ok (.iload_n 3, 1) := by decide +kernel
theorem d_S_liesIn_13 : decode b_S_liesIn 13 = .ok (.ifCond .eq (25), 3) := by decide +kernel
theorem d_S_liesIn_16 : decode b_S_liesIn 16 = .ok (.iload_n 3, 1) := by decide +kernel
theorem d_S_liesIn_17 : decode b_S_liesIn 17 = .ok (.iload_n 2, 1) := by decide +kernel
theorem d_S_liesIn_18 : decode b_S_liesIn 18 = .ok (.if_icmp .ne (5), 3) := by decide +kernel
theorem d_S_liesIn_21 : decode b_S_liesIn 21 = .ok (.iconst 1, 1) := by decide +kernel
theorem d_S_liesIn_22 : decode b_S_liesIn 22 = .ok (.ireturn, 1) := by decide +kernel
theorem d_S_liesIn_23 : decode b_S_liesIn 23 = .ok (.aload_n 0, 1) := by decide +kernel
theorem d_S_liesIn_24 : decode b_S_liesIn 24 = .ok (.iload_n 3, 1) := by decide +kernel
theorem d_S_liesIn_25 : decode b_S_liesIn 25 = .ok (.invokevirtual 55, 3) := by decide +kernel
theorem d_S_liesIn_28 : decode b_S_liesIn 28 = .ok (.invokestatic 101, 3) := by decide +kernel
theorem d_S_liesIn_31 : decode b_S_liesIn 31 = .ok (.istore_n 3, 1) := by decide +kernel
theorem d_S_liesIn_32 : decode b_S_liesIn 32 = .ok (.iinc 4 (1), 3) := by decide +kernel
theorem d_S_liesIn_35 : decode b_S_liesIn 35 = .ok (.goto (-30), 3) := by decide +kernel
theorem d_S_liesIn_38 : decode b_S_liesIn 38 = .ok (.iconst 0, 1) := by decide +kernel
theorem d_S_liesIn_39 : decode b_S_liesIn 39 = .ok (.ireturn, 1) := by decide +kernel
theorem d_T_withParent_0 : decode b_T_withParent 0 = .ok (.iload_n 0, 1) := by decide +kernel
theorem d_T_withParent_1 : decode b_T_withParent 1 = .ok (.sipush (-3585), 3) := by decide +kernel
theorem d_T_withParent_4 : decode b_T_withParent 4 = .ok (.iand, 1) := by decide +kernel
theorem d_T_withParent_5 : decode b_T_withParent 5 = .ok (.iload_n 1, 1) := by decide +kernel
theorem d_T_withParent_6 : decode b_T_withParent 6 = .ok (.bipush 9, 2) := by decide +kernel
theorem d_T_withParent_8 : decode b_T_withParent 8 = .ok (.ishl, 1) := by decide +kernel
theorem d_T_withParent_9 : decode b_T_withParent 9 = .ok (.ior, 1) := by decide +kernel
theorem d_T_withParent_10 : decode b_T_withParent 10 = .ok (.ireturn, 1) := by decide +kernel
theorem d_S_move_0 : decode b_S_move 0 = .ok (.aload_n 0, 1) := by decide +kernel
theorem d_S_move_1 : decode b_S_move 1 = .ok (.iload_n 1, 1) := by decide +kernel
theorem d_S_move_2 : decode b_S_move 2 = .ok (.invokevirtual 82, 3) := by decide +kernel
theorem d_S_move_5 : decode b_S_move 5 = .ok (.istore 4, 2) := by decide +kernel
theorem d_S_move_7 : decode b_S_move 7 = .ok (.iload 4, 2) := by decide +kernel
theorem d_S_move_9 : decode b_S_move 9 = .ok (.ifCond .ne (10), 3) := by decide +kernel
theorem d_S_move_12 : decode b_S_move 12 = .ok (.aload_n 0, 1) := by decide +kernel
theorem d_S_move_13 : decode b_S_move 13 = .ok (.iload_n 2, 1) := by decide +kernel
theorem d_S_move_14 : decode b_S_move 14 = .ok (.invokevirtual 24, 3) := by decide +kernel
theorem d_S_move_17 : decode b_S_move 17 = .ok (.istore 4, 2) := by decide +kernel
theorem d_S_move_19 : decode b_S_move 19 = .ok (.iload 4, 2) := by decide +kernel
theorem d_S_move_21 : decode b_S_move 21 = .ok (.ifCond .eq (6), 3) := by decide +kernel
theorem d_S_move_24 : decode b_S_move 24 = .ok (.iload 4, 2) := by decide +kernel
theorem d_S_move_26 : decode b_S_move 26 = .ok (.ireturn, 1) := by decide +kernel
theorem d_S_move_27 : decode b_S_move 27 = .ok (.aload_n 0, 1) := by decide +kernel
theorem d_S_move_28 : decode b_S_move 28 = .ok (.iload_n 2, 1) := by decide +kernel
theorem d_S_move_29 : decode b_S_move 29 = .ok (.iload_n 1, 1) := by decide +kernel
theorem d_S_move_30 : decode b_S_move 30 = .ok (.invokevirtual 85, 3) := by decide +kernel
theorem d_S_move_33 : decode b_S_move 33 = .ok (.ifCond .eq (6), 3) := by decide +kernel
theorem d_S_move_36 : decode b_S_move 36 = .ok (.bipush (-10), 2) := by decide +kernel
theorem d_S_move_38 : decode b_S_move 38 = .ok (.ireturn, 1) := by decide +kernel
theorem d_S_move_39 : decode b_S_move 39 = .ok (.aload_n 0, 1) := by decide +kernel
theorem d_S_move_40 : decode b_S_move 40 = .ok (.iload_n 2, 1) := by decide +kernel
theorem d_S_move_41 : decode b_S_move 41 = .ok (.iload_n 3, 1) := by decide +kernel
theorem d_S_move_42 : decode b_S_move 42 = .ok (.invokevirtual 28, 3) := by decide +kernel
theorem d_S_move_45 : decode b_S_move 45 = .ok (.istore 5, 2) := by decide +kernel
theorem d_S_move_47 : decode b_S_move 47 = .ok (.iload 5, 2) := by decide +kernel
theorem d_S_move_49 : decode b_S_move 49 = .ok (.ifCond .eq (12), 3) := by decide +kernel
theorem d_S_move_52 : decode b_S_move 52 = .ok (.iload 5, 2) := by decide +kernel
theorem d_S_move_54 : decode b_S_move 54 = .ok (.iload_n 1, 1) := by decide +kernel
theorem d_S_move_55 : decode b_S_move 55 = .ok (.if_icmp .eq (6), 3) := by decide +kernel
theorem d_S_move_58 : decode b_S_move 58 = .ok (.bipush (-4), 2) := by decide +kernel
theorem d_S_move_60 : decode b_S_move 60 = .ok (.ireturn, 1) := by decide +kernel
theorem d_S_move_61 : decode b_S_move 61 = .ok (.aload_n 0, 1) := by decide +kernel
theorem d_S_move_62 : decode b_S_move 62 = .ok (.iconst 1, 1) := by decide +kernel
theorem d_S_move_63 : decode b_S_move 63 = .ok (.invokevirtual 36, 3) := by decide +kernel
theorem d_S_move_66 : decode b_S_move 66 = .ok (.istore 4, 2) := by decide +kernel
theorem d_S_move_68 : decode b_S_move 68 = .ok (.iload 4, 2) := by decide +kernel
theorem d_S_move_70 : decode b_S_move 70 = .ok (.ifCond .eq (6), 3) := by decide +kernel
theorem d_S_move_73 : decode b_S_move 73 = .ok (.iload 4, 2) := by decide +kernel
theorem d_S_move_75 : decode b_S_move 75 = .ok (.ireturn, 1) := by decide +kernel
theorem d_S_move_76 : decode b_S_move 76 = .ok (.aload_n 0, 1) := by decide +kernel
theorem d_S_move_77 : decode b_S_move 77 = .ok (.getfield 12, 3) := by decide +kernel
theorem d_S_move_80 : decode b_S_move 80 = .ok (.iload_n 1, 1) := by decide +kernel
theorem d_S_move_81 : decode b_S_move 81 = .ok (.iconst 0, 1) := by decide +kernel
theorem d_S_move_82 : decode b_S_move 82 = .ok (.invokevirtual 61, 3) := by decide +kernel
theorem d_S_move_85 : decode b_S_move 85 = .ok (.istore 6, 2) := by decide +kernel
theorem d_S_move_87 : decode b_S_move 87 = .ok (.aload_n 0, 1) := by decide +kernel
theorem d_S_move_88 : decode b_S_move 88 = .ok (.iload 6, 2) := by decide +kernel
theorem d_S_move_90 : decode b_S_move 90 = .ok (.aload_n 0, 1) := by decide +kernel
theorem d_S_move_91 : decode b_S_move 91 = .ok (.iload_n 1, 1) := by decide +kernel
theorem d_S_move_92 : decode b_S_move 92 = .ok (.invokevirtual 55, 3) := by decide +kernel
theorem d_S_move_95 : decode b_S_move 95 = .ok (.iload_n 2, 1) := by decide +kernel
theorem d_S_move_96 : decode b_S_move 96 = .ok (.invokestatic 88, 3) := by decide +kernel
theorem d_S_move_99 : decode b_S_move 99 = .ok (.iload_n 3, 1) := by decide +kernel
theorem d_S_move_100 : decode b_S_move 100 = .ok (.lconst 0, 1) := by decide +kernel
theorem d_S_move_101 : decode b_S_move 101 = .ok (.invokevirtual 45, 3) := by decide +kernel
theorem d_S_move_104 : decode b_S_move 104 = .ok (.istore 7, 2) := by decide +kernel
theorem d_S_move_106 : decode b_S_move 106 = .ok (.iload 7, 2) := by decide +kernel
theorem d_S_move_108 : decode b_S_move 108 = .ok (.ifCond .eq (7), 3) := by decide +kernel
theorem d_S_move_111 : decode b_S_move 111 = .ok (.iconst 0, 1) := by decide +kernel
theorem d_S_move_112 : decode b_S_move 112 = .ok (.goto (7), 3) := by decide +kernel
theorem d_S_move_115 : decode b_S_move 115 = .ok (.aload_n 0, 1) := by decide +kernel
theorem d_S_move_116 : decode b_S_move 116 = .ok (.invokevirtual 49, 3) := by decide +kernel
theorem d_S_move_119 : decode b_S_move 119 = .ok (.ireturn, 1) := by decide +kernel
