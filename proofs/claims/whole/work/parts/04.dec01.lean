theorem d_C_program_0 : decode b_C_program 0 = .ok (.aload_n 0, 1) := by decide +kernel
theorem d_C_program_1 : decode b_C_program 1 = .ok (.invokevirtual 87, 3) := by decide +kernel
theorem d_C_program_4 : decode b_C_program 4 = .ok (.istore 5, 2) := by decide +kernel
theorem d_C_program_6 : decode b_C_program 6 = .ok (.iload 5, 2) := by decide +kernel
theorem d_C_program_8 : decode b_C_program 8 = .ok (.iconst (-1), 1) := by decide +kernel
theorem d_C_program_9 : decode b_C_program 9 = .ok (.if_icmp .eq (10), 3) := by decide +kernel
theorem d_C_program_12 : decode b_C_program 12 = .ok (.aload_n 0, 1) := by decide +kernel
theorem d_C_program_13 : decode b_C_program 13 = .ok (.invokevirtual 91, 3) := by decide +kernel
theorem d_C_program_16 : decode b_C_program 16 = .ok (.ifCond .ne (5), 3) := by decide +kernel
theorem d_C_program_19 : decode b_C_program 19 = .ok (.iconst 0, 1) := by decide +kernel
theorem d_C_program_20 : decode b_C_program 20 = .ok (.ireturn, 1) := by decide +kernel
theorem d_C_program_21 : decode b_C_program 21 = .ok (.iload 5, 2) := by decide +kernel
theorem d_C_program_23 : decode b_C_program 23 = .ok (.bipush 8, 2) := by decide +kernel
theorem d_C_program_25 : decode b_C_program 25 = .ok (.imul, 1) := by decide +kernel
theorem d_C_program_26 : decode b_C_program 26 = .ok (.aload_n 0, 1) := by decide +kernel
theorem d_C_program_27 : decode b_C_program 27 = .ok (.getfield 22, 3) := by decide +kernel
theorem d_C_program_30 : decode b_C_program 30 = .ok (.iload 5, 2) := by decide +kernel
theorem d_C_program_32 : decode b_C_program 32 = .ok (.iaload, 1) := by decide +kernel
theorem d_C_program_33 : decode b_C_program 33 = .ok (.iadd, 1) := by decide +kernel
theorem d_C_program_34 : decode b_C_program 34 = .ok (.istore 6, 2) := by decide +kernel
theorem d_C_program_36 : decode b_C_program 36 = .ok (.aload_n 0, 1) := by decide +kernel
theorem d_C_program_37 : decode b_C_program 37 = .ok (.getfield 9, 3) := by decide +kernel
theorem d_C_program_40 : decode b_C_program 40 = .ok (.iload 6, 2) := by decide +kernel
theorem d_C_program_42 : decode b_C_program 42 = .ok (.iload_n 1, 1) := by decide +kernel
theorem d_C_program_43 : decode b_C_program 43 = .ok (.iastore, 1) := by decide +kernel
theorem d_C_program_44 : decode b_C_program 44 = .ok (.aload_n 0, 1) := by decide +kernel
theorem d_C_program_45 : decode b_C_program 45 = .ok (.getfield 15, 3) := by decide +kernel
theorem d_C_program_48 : decode b_C_program 48 = .ok (.iload 6, 2) := by decide +kernel
theorem d_C_program_50 : decode b_C_program 50 = .ok (.iload_n 2, 1) := by decide +kernel
theorem d_C_program_51 : decode b_C_program 51 = .ok (.iastore, 1) := by decide +kernel
theorem d_C_program_52 : decode b_C_program 52 = .ok (.aload_n 0, 1) := by decide +kernel
theorem d_C_program_53 : decode b_C_program 53 = .ok (.getfield 18, 3) := by decide +kernel
theorem d_C_program_56 : decode b_C_program 56 = .ok (.iload 6, 2) := by decide +kernel
theorem d_C_program_58 : decode b_C_program 58 = .ok (.lload_n 3, 1) := by decide +kernel
theorem d_C_program_59 : decode b_C_program 59 = .ok (.lastore, 1) := by decide +kernel
theorem d_C_program_60 : decode b_C_program 60 = .ok (.aload_n 0, 1) := by decide +kernel
theorem d_C_program_61 : decode b_C_program 61 = .ok (.getfield 22, 3) := by decide +kernel
theorem d_C_program_64 : decode b_C_program 64 = .ok (.iload 5, 2) := by decide +kernel
theorem d_C_program_66 : decode b_C_program 66 = .ok (.dup2, 1) := by decide +kernel
theorem d_C_program_67 : decode b_C_program 67 = .ok (.iaload, 1) := by decide +kernel
theorem d_C_program_68 : decode b_C_program 68 = .ok (.iconst 1, 1) := by decide +kernel
theorem d_C_program_69 : decode b_C_program 69 = .ok (.iadd, 1) := by decide +kernel
theorem d_C_program_70 : decode b_C_program 70 = .ok (.iastore, 1) := by decide +kernel
theorem d_C_program_71 : decode b_C_program 71 = .ok (.aload_n 0, 1) := by decide +kernel
theorem d_C_program_72 : decode b_C_program 72 = .ok (.getfield 35, 3) := by decide +kernel
theorem d_C_program_75 : decode b_C_program 75 = .ok (.iload 5, 2) := by decide +kernel
theorem d_C_program_77 : decode b_C_program 77 = .ok (.iconst 1, 1) := by decide +kernel
theorem d_C_program_78 : decode b_C_program 78 = .ok (.bastore, 1) := by decide +kernel
theorem d_C_program_79 : decode b_C_program 79 = .ok (.iconst 1, 1) := by decide +kernel
theorem d_C_program_80 : decode b_C_program 80 = .ok (.ireturn, 1) := by decide +kernel
theorem d_T_serialAfter_0 : decode b_T_serialAfter 0 = .ok (.iload_n 0, 1) := by decide +kernel
theorem d_T_serialAfter_1 : decode b_T_serialAfter 1 = .ok (.bipush 6, 2) := by decide +kernel
theorem d_T_serialAfter_3 : decode b_T_serialAfter 3 = .ok (.ishr, 1) := by decide +kernel
theorem d_T_serialAfter_4 : decode b_T_serialAfter 4 = .ok (.iconst 1, 1) := by decide +kernel
theorem d_T_serialAfter_5 : decode b_T_serialAfter 5 = .ok (.iadd, 1) := by decide +kernel
theorem d_T_serialAfter_6 : decode b_T_serialAfter 6 = .ok (.iconst 3, 1) := by decide +kernel
theorem d_T_serialAfter_7 : decode b_T_serialAfter 7 = .ok (.iand, 1) := by decide +kernel
theorem d_T_serialAfter_8 : decode b_T_serialAfter 8 = .ok (.ireturn, 1) := by decide +kernel
theorem d_T_withSerial_0 : decode b_T_withSerial 0 = .ok (.iload_n 0, 1) := by decide +kernel
theorem d_T_withSerial_1 : decode b_T_withSerial 1 = .ok (.sipush (-193), 3) := by decide +kernel
theorem d_T_withSerial_4 : decode b_T_withSerial 4 = .ok (.iand, 1) := by decide +kernel
theorem d_T_withSerial_5 : decode b_T_withSerial 5 = .ok (.iload_n 1, 1) := by decide +kernel
theorem d_T_withSerial_6 : decode b_T_withSerial 6 = .ok (.bipush 6, 2) := by decide +kernel
theorem d_T_withSerial_8 : decode b_T_withSerial 8 = .ok (.ishl, 1) := by decide +kernel
theorem d_T_withSerial_9 : decode b_T_withSerial 9 = .ok (.ior, 1) := by decide +kernel
theorem d_T_withSerial_10 : decode b_T_withSerial 10 = .ok (.ireturn, 1) := by decide +kernel
theorem d_S_put_0 : decode b_S_put 0 = .ok (.iload_n 1, 1) := by decide +kernel
theorem d_S_put_1 : decode b_S_put 1 = .ok (.iconst (-1), 1) := by decide +kernel
theorem d_S_put_2 : decode b_S_put 2 = .ok (.if_icmp .ne (19), 3) := by decide +kernel
theorem d_S_put_5 : decode b_S_put 5 = .ok (.aload_n 0, 1) := by decide +kernel
theorem d_S_put_6 : decode b_S_put 6 = .ok (.getfield 12, 3) := by decide +kernel
theorem d_S_put_9 : decode b_S_put 9 = .ok (.iload_n 2, 1) := by decide +kernel
theorem d_S_put_10 : decode b_S_put 10 = .ok (.iconst 0, 1) := by decide +kernel
theorem d_S_put_11 : decode b_S_put 11 = .ok (.invokestatic 175, 3) := by decide +kernel
theorem d_S_put_14 : decode b_S_put 14 = .ok (.iload_n 3, 1) := by decide +kernel
theorem d_S_put_15 : decode b_S_put 15 = .ok (.lload 4, 2) := by decide +kernel
theorem d_S_put_17 : decode b_S_put 17 = .ok (.invokevirtual 178, 3) := by decide +kernel
theorem d_S_put_20 : decode b_S_put 20 = .ok (.ireturn, 1) := by decide +kernel
theorem d_S_put_21 : decode b_S_put 21 = .ok (.aload_n 0, 1) := by decide +kernel
theorem d_S_put_22 : decode b_S_put 22 = .ok (.getfield 12, 3) := by decide +kernel
theorem d_S_put_25 : decode b_S_put 25 = .ok (.getfield 154, 3) := by decide +kernel
theorem d_S_put_28 : decode b_S_put 28 = .ok (.iload_n 1, 1) := by decide +kernel
theorem d_S_put_29 : decode b_S_put 29 = .ok (.iaload, 1) := by decide +kernel
theorem d_S_put_30 : decode b_S_put 30 = .ok (.invokestatic 182, 3) := by decide +kernel
theorem d_S_put_33 : decode b_S_put 33 = .ok (.istore 6, 2) := by decide +kernel
theorem d_S_put_35 : decode b_S_put 35 = .ok (.aload_n 0, 1) := by decide +kernel
theorem d_S_put_36 : decode b_S_put 36 = .ok (.getfield 12, 3) := by decide +kernel
theorem d_S_put_39 : decode b_S_put 39 = .ok (.iload_n 2, 1) := by decide +kernel
theorem d_S_put_40 : decode b_S_put 40 = .ok (.iload 6, 2) := by decide +kernel
theorem d_S_put_42 : decode b_S_put 42 = .ok (.invokestatic 175, 3) := by decide +kernel
theorem d_S_put_45 : decode b_S_put 45 = .ok (.iload_n 3, 1) := by decide +kernel
theorem d_S_put_46 : decode b_S_put 46 = .ok (.lload 4, 2) := by decide +kernel
theorem d_S_put_48 : decode b_S_put 48 = .ok (.invokevirtual 178, 3) := by decide +kernel
theorem d_S_put_51 : decode b_S_put 51 = .ok (.ifCond .eq (18), 3) := by decide +kernel
theorem d_S_put_54 : decode b_S_put 54 = .ok (.aload_n 0, 1) := by decide +kernel
theorem d_S_put_55 : decode b_S_put 55 = .ok (.getfield 12, 3) := by decide +kernel
theorem d_S_put_58 : decode b_S_put 58 = .ok (.iload_n 1, 1) := by decide +kernel
theorem d_S_put_59 : decode b_S_put 59 = .ok (.invokevirtual 185, 3) := by decide +kernel
theorem d_S_put_62 : decode b_S_put 62 = .ok (.ifCond .eq (7), 3) := by decide +kernel
theorem d_S_put_65 : decode b_S_put 65 = .ok (.iconst 1, 1) := by decide +kernel
theorem d_S_put_66 : decode b_S_put 66 = .ok (.goto (4), 3) := by decide +kernel
theorem d_S_put_69 : decode b_S_put 69 = .ok (.iconst 0, 1) := by decide +kernel
theorem d_S_put_70 : decode b_S_put 70 = .ok (.ireturn, 1) := by decide +kernel
theorem d_S_putWordOf_0 : decode b_S_putWordOf 0 = .ok (.aload_n 0, 1) := by decide +kernel
theorem d_S_putWordOf_1 : decode b_S_putWordOf 1 = .ok (.getfield 12, 3) := by decide +kernel
theorem d_S_putWordOf_4 : decode b_S_putWordOf 4 = .ok (.iload_n 1, 1) := by decide +kernel
theorem d_S_putWordOf_5 : decode b_S_putWordOf 5 = .ok (.invokevirtual 188, 3) := by decide +kernel
theorem d_S_putWordOf_8 : decode b_S_putWordOf 8 = .ok (.ifCond .eq (15), 3) := by decide +kernel
theorem d_S_putWordOf_11 : decode b_S_putWordOf 11 = .ok (.aload_n 0, 1) := by decide +kernel
theorem d_S_putWordOf_12 : decode b_S_putWordOf 12 = .ok (.getfield 12, 3) := by decide +kernel
theorem d_S_putWordOf_15 : decode b_S_putWordOf 15 = .ok (.getfield 191, 3) := by decide +kernel
theorem d_S_putWordOf_18 : decode b_S_putWordOf 18 = .ok (.iload_n 1, 1) := by decide +kernel
theorem d_S_putWordOf_19 : decode b_S_putWordOf 19 = .ok (.laload, 1) := by decide +kernel
theorem d_S_putWordOf_20 : decode b_S_putWordOf 20 = .ok (.goto (4), 3) := by decide +kernel
theorem d_S_putWordOf_23 : decode b_S_putWordOf 23 = .ok (.lconst 0, 1) := by decide +kernel
theorem d_S_putWordOf_24 : decode b_S_putWordOf 24 = .ok (.lstore_n 3, 1) := by decide +kernel
theorem d_S_putWordOf_25 : decode b_S_putWordOf 25 = .ok (.aload_n 0, 1) := by decide +kernel
theorem d_S_putWordOf_26 : decode b_S_putWordOf 26 = .ok (.iload_n 1, 1) := by decide +kernel
theorem d_S_putWordOf_27 : decode b_S_putWordOf 27 = .ok (.iload_n 2, 1) := by decide +kernel
theorem d_S_putWordOf_28 : decode b_S_putWordOf 28 = .ok (.aload_n 0, 1) := by decide +kernel
theorem d_S_putWordOf_29 : decode b_S_putWordOf 29 = .ok (.getfield 12, 3) := by decide +kernel
theorem d_S_putWordOf_32 : decode b_S_putWordOf 32 = .ok (.getfield 195, 3) := by decide +kernel
theorem d_S_putWordOf_35 : decode b_S_putWordOf 35 = .ok (.iload_n 1, 1) := by decide +kernel
theorem d_S_putWordOf_36 : decode b_S_putWordOf 36 = .ok (.iaload, 1) := by decide +kernel
theorem d_S_putWordOf_37 : decode b_S_putWordOf 37 = .ok (.lload_n 3, 1) := by decide +kernel
theorem d_S_putWordOf_38 : decode b_S_putWordOf 38 = .ok (.invokevirtual 45, 3) := by decide +kernel
theorem d_S_putWordOf_41 : decode b_S_putWordOf 41 = .ok (.ireturn, 1) := by decide +kernel
theorem d_S_collect_0 : decode b_S_collect 0 = .ok (.iload_n 1, 1) := by decide +kernel
theorem d_S_collect_1 : decode b_S_collect 1 = .ok (.bipush 8, 2) := by decide +kernel
theorem d_S_collect_3 : decode b_S_collect 3 = .ok (.imul, 1) := by decide +kernel
theorem d_S_collect_4 : decode b_S_collect 4 = .ok (.istore_n 2, 1) := by decide +kernel
theorem d_S_collect_5 : decode b_S_collect 5 = .ok (.iload_n 2, 1) := by decide +kernel
theorem d_S_collect_6 : decode b_S_collect 6 = .ok (.istore_n 3, 1) := by decide +kernel
theorem d_S_collect_7 : decode b_S_collect 7 = .ok (.iload_n 3, 1) := by decide +kernel
theorem d_S_collect_8 : decode b_S_collect 8 = .ok (.iload_n 2, 1) := by decide +kernel
theorem d_S_collect_9 : decode b_S_collect 9 = .ok (.bipush 8, 2) := by decide +kernel
theorem d_S_collect_11 : decode b_S_collect 11 = .ok (.iadd, 1) := by decide +kernel
theorem d_S_collect_12 : decode b_S_collect 12 = .ok (.if_icmp .ge (39), 3) := by decide +kernel
theorem d_S_collect_15 : decode b_S_collect 15 = .ok (.aload_n 0, 1) := by decide +kernel
theorem d_S_collect_16 : decode b_S_collect 16 = .ok (.getfield 12, 3) := by decide +kernel
theorem d_S_collect_19 : decode b_S_collect 19 = .ok (.iload_n 3, 1) := by decide +kernel
theorem d_S_collect_20 : decode b_S_collect 20 = .ok (.invokevirtual 216, 3) := by decide +kernel
theorem d_S_collect_23 : decode b_S_collect 23 = .ok (.ifCond .eq (22), 3) := by decide +kernel
theorem d_S_collect_26 : decode b_S_collect 26 = .ok (.aload_n 0, 1) := by decide +kernel
theorem d_S_collect_27 : decode b_S_collect 27 = .ok (.iload_n 3, 1) := by decide +kernel
theorem d_S_collect_28 : decode b_S_collect 28 = .ok (.aload_n 0, 1) := by decide +kernel
theorem d_S_collect_29 : decode b_S_collect 29 = .ok (.getfield 12, 3) := by decide +kernel
theorem d_S_collect_32 : decode b_S_collect 32 = .ok (.getfield 154, 3) := by decide +kernel
theorem d_S_collect_35 : decode b_S_collect 35 = .ok (.iload_n 3, 1) := by decide +kernel
theorem d_S_collect_36 : decode b_S_collect 36 = .ok (.iaload, 1) := by decide +kernel
theorem d_S_collect_37 : decode b_S_collect 37 = .ok (.invokevirtual 201, 3) := by decide +kernel
theorem d_S_collect_40 : decode b_S_collect 40 = .ok (.ifCond .ne (5), 3) := by decide +kernel
theorem d_S_collect_43 : decode b_S_collect 43 = .ok (.iconst 0, 1) := by decide +kernel
theorem d_S_collect_44 : decode b_S_collect 44 = .ok (.ireturn, 1) := by decide +kernel
theorem d_S_collect_45 : decode b_S_collect 45 = .ok (.iinc 3 (1), 3) := by decide +kernel
theorem d_S_collect_48 : decode b_S_collect 48 = .ok (.goto (-41), 3) := by decide +kernel
theorem d_S_collect_51 : decode b_S_collect 51 = .ok (.aload_n 0, 1) := by decide +kernel
theorem d_S_collect_52 : decode b_S_collect 52 = .ok (.getfield 12, 3) := by decide +kernel
theorem d_S_collect_55 : decode b_S_collect 55 = .ok (.iload_n 1, 1) := by decide +kernel
theorem d_S_collect_56 : decode b_S_collect 56 = .ok (.invokevirtual 219, 3) := by decide +kernel
theorem d_S_collect_59 : decode b_S_collect 59 = .ok (.ireturn, 1) := by decide +kernel
theorem d_S_switchOff_0 : decode b_S_switchOff 0 = .ok (.aload_n 0, 1) := by decide +kernel
theorem d_S_switchOff_1 : decode b_S_switchOff 1 = .ok (.iconst 0, 1) := by decide +kernel
theorem d_S_switchOff_2 : decode b_S_switchOff 2 = .ok (.putfield 20, 3) := by decide +kernel
theorem d_S_switchOff_5 : decode b_S_switchOff 5 = .ok (.bipush (-9), 2) := by decide +kernel
theorem d_S_switchOff_7 : decode b_S_switchOff 7 = .ok (.ireturn, 1) := by decide +kernel
theorem d_S_makeRoom_0 : decode b_S_makeRoom 0 = .ok (.bipush 8, 2) := by decide +kernel
theorem d_S_makeRoom_2 : decode b_S_makeRoom 2 = .ok (.iload_n 1, 1) := by decide +kernel
theorem d_S_makeRoom_3 : decode b_S_makeRoom 3 = .ok (.iadd, 1) := by decide +kernel
theorem d_S_makeRoom_4 : decode b_S_makeRoom 4 = .ok (.istore_n 2, 1) := by decide +kernel
theorem d_S_makeRoom_5 : decode b_S_makeRoom 5 = .ok (.iconst 0, 1) := by decide +kernel
theorem d_S_makeRoom_6 : decode b_S_makeRoom 6 = .ok (.istore_n 3, 1) := by decide +kernel
theorem d_S_makeRoom_7 : decode b_S_makeRoom 7 = .ok (.iload_n 3, 1) := by decide +kernel
theorem d_S_makeRoom_8 : decode b_S_makeRoom 8 = .ok (.sipush 1000, 3) := by decide +kernel
theorem d_S_makeRoom_11 : decode b_S_makeRoom 11 = .ok (.if_icmp .ge (49), 3) := by decide +kernel
theorem d_S_makeRoom_14 : decode b_S_makeRoom 14 = .ok (.aload_n 0, 1) := by decide +kernel
theorem d_S_makeRoom_15 : decode b_S_makeRoom 15 = .ok (.getfield 12, 3) := by decide +kernel
theorem d_S_makeRoom_18 : decode b_S_makeRoom 18 = .ok (.invokevirtual 158, 3) := by decide +kernel
theorem d_S_makeRoom_21 : decode b_S_makeRoom 21 = .ok (.iload_n 2, 1) := by decide +kernel
theorem d_S_makeRoom_22 : decode b_S_makeRoom 22 = .ok (.if_icmp .ge (38), 3) := by decide +kernel
theorem d_S_makeRoom_25 : decode b_S_makeRoom 25 = .ok (.aload_n 0, 1) := by decide +kernel
theorem d_S_makeRoom_26 : decode b_S_makeRoom 26 = .ok (.invokevirtual 204, 3) := by decide +kernel
theorem d_S_makeRoom_29 : decode b_S_makeRoom 29 = .ok (.istore 4, 2) := by decide +kernel
theorem d_S_makeRoom_31 : decode b_S_makeRoom 31 = .ok (.iload 4, 2) := by decide +kernel
theorem d_S_makeRoom_33 : decode b_S_makeRoom 33 = .ok (.iconst (-1), 1) := by decide +kernel
theorem d_S_makeRoom_34 : decode b_S_makeRoom 34 = .ok (.if_icmp .ne (6), 3) := by decide +kernel
theorem d_S_makeRoom_37 : decode b_S_makeRoom 37 = .ok (.bipush (-6), 2) := by decide +kernel
theorem d_S_makeRoom_39 : decode b_S_makeRoom 39 = .ok (.ireturn, 1) := by decide +kernel
theorem d_S_makeRoom_40 : decode b_S_makeRoom 40 = .ok (.aload_n 0, 1) := by decide +kernel
theorem d_S_makeRoom_41 : decode b_S_makeRoom 41 = .ok (.iload 4, 2) := by decide +kernel
theorem d_S_makeRoom_43 : decode b_S_makeRoom 43 = .ok (.invokevirtual 207, 3) := by decide +kernel
theorem d_S_makeRoom_46 : decode b_S_makeRoom 46 = .ok (.ifCond .ne (8), 3) := by decide +kernel
theorem d_S_makeRoom_49 : decode b_S_makeRoom 49 = .ok (.aload_n 0, 1) := by decide +kernel
theorem d_S_makeRoom_50 : decode b_S_makeRoom 50 = .ok (.invokevirtual 49, 3) := by decide +kernel
theorem d_S_makeRoom_53 : decode b_S_makeRoom 53 = .ok (.ireturn, 1) := by decide +kernel
theorem d_S_makeRoom_54 : decode b_S_makeRoom 54 = .ok (.iinc 3 (1), 3) := by decide +kernel
theorem d_S_makeRoom_57 : decode b_S_makeRoom 57 = .ok (.goto (-50), 3) := by decide +kernel
theorem d_S_makeRoom_60 : decode b_S_makeRoom 60 = .ok (.aload_n 0, 1) := by decide +kernel
theorem d_S_makeRoom_61 : decode b_S_makeRoom 61 = .ok (.getfield 12, 3) := by decide +kernel
theorem d_S_makeRoom_64 : decode b_S_makeRoom 64 = .ok (.invokevirtual 158, 3) := by decide +kernel
theorem d_S_makeRoom_67 : decode b_S_makeRoom 67 = .ok (.iload_n 2, 1) := by decide +kernel
theorem d_S_makeRoom_68 : decode b_S_makeRoom 68 = .ok (.if_icmp .ge (8), 3) := by decide +kernel
theorem d_S_makeRoom_71 : decode b_S_makeRoom 71 = .ok (.bipush (-6), 2) := by decide +kernel
theorem d_S_makeRoom_73 : decode b_S_makeRoom 73 = .ok (.goto (4), 3) := by decide +kernel
theorem d_S_makeRoom_76 : decode b_S_makeRoom 76 = .ok (.iconst 0, 1) := by decide +kernel
theorem d_S_makeRoom_77 : decode b_S_makeRoom 77 = .ok (.ireturn, 1) := by decide +kernel
theorem d_S_headerTags_0 : decode b_S_headerTags 0 = .ok (.aload_n 0, 1) := by decide +kernel
theorem d_S_headerTags_1 : decode b_S_headerTags 1 = .ok (.getfield 12, 3) := by decide +kernel
theorem d_S_headerTags_4 : decode b_S_headerTags 4 = .ok (.iload_n 1, 1) := by decide +kernel
theorem d_S_headerTags_5 : decode b_S_headerTags 5 = .ok (.iconst 0, 1) := by decide +kernel
theorem d_S_headerTags_6 : decode b_S_headerTags 6 = .ok (.invokevirtual 61, 3) := by decide +kernel
theorem d_S_headerTags_9 : decode b_S_headerTags 9 = .ok (.istore_n 2, 1) := by decide +kernel
theorem d_S_headerTags_10 : decode b_S_headerTags 10 = .ok (.iload_n 2, 1) := by decide +kernel
theorem d_S_headerTags_11 : decode b_S_headerTags 11 = .ok (.iconst (-1), 1) := by decide +kernel
theorem d_S_headerTags_12 : decode b_S_headerTags 12 = .ok (.if_icmp .ne (7), 3) := by decide +kernel
theorem d_S_headerTags_15 : decode b_S_headerTags 15 = .ok (.iconst 0, 1) := by decide +kernel
theorem d_S_headerTags_16 : decode b_S_headerTags 16 = .ok (.goto (12), 3) := by decide +kernel
theorem d_S_headerTags_19 : decode b_S_headerTags 19 = .ok (.aload_n 0, 1) := by decide +kernel
theorem d_S_headerTags_20 : decode b_S_headerTags 20 = .ok (.getfield 12, 3) := by decide +kernel
theorem d_S_headerTags_23 : decode b_S_headerTags 23 = .ok (.getfield 154, 3) := by decide +kernel
theorem d_S_headerTags_26 : decode b_S_headerTags 26 = .ok (.iload_n 2, 1) := by decide +kernel
theorem d_S_headerTags_27 : decode b_S_headerTags 27 = .ok (.iaload, 1) := by decide +kernel
theorem d_S_headerTags_28 : decode b_S_headerTags 28 = .ok (.ireturn, 1) := by decide +kernel
theorem d_T_parent_0 : decode b_T_parent 0 = .ok (.iload_n 0, 1) := by decide +kernel
theorem d_T_parent_1 : decode b_T_parent 1 = .ok (.sipush 3584, 3) := by decide +kernel
theorem d_T_parent_4 : decode b_T_parent 4 = .ok (.iand, 1) := by decide +kernel
theorem d_T_parent_5 : decode b_T_parent 5 = .ok (.bipush 9, 2) := by decide +kernel
theorem d_T_parent_7 : decode b_T_parent 7 = .ok (.ishr, 1) := by decide +kernel
theorem d_T_parent_8 : decode b_T_parent 8 = .ok (.ireturn, 1) := by decide +kernel
theorem d_S_isIn_0 : decode b_S_isIn 0 = .ok (.aload_n 0, 1) := by decide +kernel
theorem d_S_isIn_1 : decode b_S_isIn 1 = .ok (.iload_n 1, 1) := by decide +kernel
theorem d_S_isIn_2 : decode b_S_isIn 2 = .ok (.invokevirtual 94, 3) := by decide +kernel
theorem d_S_isIn_5 : decode b_S_isIn 5 = .ok (.ifCond .eq (19), 3) := by decide +kernel
theorem d_S_isIn_8 : decode b_S_isIn 8 = .ok (.aload_n 0, 1) := by decide +kernel
theorem d_S_isIn_9 : decode b_S_isIn 9 = .ok (.iload_n 1, 1) := by decide +kernel
theorem d_S_isIn_10 : decode b_S_isIn 10 = .ok (.invokevirtual 55, 3) := by decide +kernel
theorem d_S_isIn_13 : decode b_S_isIn 13 = .ok (.invokestatic 101, 3) := by decide +kernel
theorem d_S_isIn_16 : decode b_S_isIn 16 = .ok (.iload_n 2, 1) := by decide +kernel
theorem d_S_isIn_17 : decode b_S_isIn 17 = .ok (.if_icmp .ne (7), 3) := by decide +kernel
theorem d_S_isIn_20 : decode b_S_isIn 20 = .ok (.iconst 1, 1) := by decide +kernel
theorem d_S_isIn_21 : decode b_S_isIn 21 = .ok (.goto (4), 3) := by decide +kernel
theorem d_S_isIn_24 : decode b_S_isIn 24 = .ok (.iconst 0, 1) := by decide +kernel
theorem d_S_isIn_25 : decode b_S_isIn 25 = .ok (.ireturn, 1) := by decide +kernel
theorem d_C_wordRead_0 : decode b_C_wordRead 0 = .ok (.aload_n 0, 1) := by decide +kernel
theorem d_C_wordRead_1 : decode b_C_wordRead 1 = .ok (.iload_n 1, 1) := by decide +kernel
theorem d_C_wordRead_2 : decode b_C_wordRead 2 = .ok (.invokevirtual 64, 3) := by decide +kernel
theorem d_C_wordRead_5 : decode b_C_wordRead 5 = .ok (.ifCond .eq (9), 3) := by decide +kernel
theorem d_C_wordRead_8 : decode b_C_wordRead 8 = .ok (.ldc2_w 67, 3) := by decide +kernel
theorem d_C_wordRead_11 : decode b_C_wordRead 11 = .ok (.goto (10), 3) := by decide +kernel
theorem d_C_wordRead_14 : decode b_C_wordRead 14 = .ok (.aload_n 0, 1) := by decide +kernel
theorem d_C_wordRead_15 : decode b_C_wordRead 15 = .ok (.getfield 15, 3) := by decide +kernel
theorem d_C_wordRead_18 : decode b_C_wordRead 18 = .ok (.iload_n 1, 1) := by decide +kernel
theorem d_C_wordRead_19 : decode b_C_wordRead 19 = .ok (.iaload, 1) := by decide +kernel
theorem d_C_wordRead_20 : decode b_C_wordRead 20 = .ok (.i2l, 1) := by decide +kernel
theorem d_C_wordRead_21 : decode b_C_wordRead 21 = .ok (.lreturn, 1) := by decide +kernel
theorem d_S_nameRead_0 : decode b_S_nameRead 0 = .ok (.aload_n 0, 1) := by decide +kernel
theorem d_S_nameRead_1 : decode b_S_nameRead 1 = .ok (.getfield 12, 3) := by decide +kernel
theorem d_S_nameRead_4 : decode b_S_nameRead 4 = .ok (.iload_n 1, 1) := by decide +kernel
theorem d_S_nameRead_5 : decode b_S_nameRead 5 = .ok (.iconst 0, 1) := by decide +kernel
theorem d_S_nameRead_6 : decode b_S_nameRead 6 = .ok (.invokevirtual 61, 3) := by decide +kernel
theorem d_S_nameRead_9 : decode b_S_nameRead 9 = .ok (.istore_n 2, 1) := by decide +kernel
theorem d_S_nameRead_10 : decode b_S_nameRead 10 = .ok (.iload_n 2, 1) := by decide +kernel
theorem d_S_nameRead_11 : decode b_S_nameRead 11 = .ok (.iconst (-1), 1) := by decide +kernel
theorem d_S_nameRead_12 : decode b_S_nameRead 12 = .ok (.if_icmp .ne (9), 3) := by decide +kernel
theorem d_S_nameRead_15 : decode b_S_nameRead 15 = .ok (.ldc2_w 170, 3) := by decide +kernel
theorem d_S_nameRead_18 : decode b_S_nameRead 18 = .ok (.goto (11), 3) := by decide +kernel
theorem d_S_nameRead_21 : decode b_S_nameRead 21 = .ok (.aload_n 0, 1) := by decide +kernel
theorem d_S_nameRead_22 : decode b_S_nameRead 22 = .ok (.getfield 12, 3) := by decide +kernel
theorem d_S_nameRead_25 : decode b_S_nameRead 25 = .ok (.iload_n 2, 1) := by decide +kernel
theorem d_S_nameRead_26 : decode b_S_nameRead 26 = .ok (.invokevirtual 75, 3) := by decide +kernel
theorem d_S_nameRead_29 : decode b_S_nameRead 29 = .ok (.lreturn, 1) := by decide +kernel
theorem d_S_objectNamed_0 : decode b_S_objectNamed 0 = .ok (.iconst 1, 1) := by decide +kernel
theorem d_S_objectNamed_1 : decode b_S_objectNamed 1 = .ok (.istore_n 3, 1) := by decide +kernel
theorem d_S_objectNamed_2 : decode b_S_objectNamed 2 = .ok (.iload_n 3, 1) := by decide +kernel
theorem d_S_objectNamed_3 : decode b_S_objectNamed 3 = .ok (.bipush 7, 2) := by decide +kernel
theorem d_S_objectNamed_5 : decode b_S_objectNamed 5 = .ok (.if_icmp .gt (31), 3) := by decide +kernel
theorem d_S_objectNamed_8 : decode b_S_objectNamed 8 = .ok (.aload_n 0, 1) := by decide +kernel
theorem d_S_objectNamed_9 : decode b_S_objectNamed 9 = .ok (.iload_n 3, 1) := by decide +kernel
theorem d_S_objectNamed_10 : decode b_S_objectNamed 10 = .ok (.iload_n 1, 1) := by decide +kernel
theorem d_S_objectNamed_11 : decode b_S_objectNamed 11 = .ok (.invokevirtual 172, 3) := by decide +kernel
theorem d_S_objectNamed_14 : decode b_S_objectNamed 14 = .ok (.ifCond .eq (16), 3) := by decide +kernel
theorem d_S_objectNamed_17 : decode b_S_objectNamed 17 = .ok (.aload_n 0, 1) := by decide +kernel
theorem d_S_objectNamed_18 : decode b_S_objectNamed 18 = .ok (.iload_n 3, 1) := by decide +kernel
theorem d_S_objectNamed_19 : decode b_S_objectNamed 19 = .ok (.invokevirtual 104, 3) := by decide +kernel
theorem d_S_objectNamed_22 : decode b_S_objectNamed 22 = .ok (.iload_n 2, 1) := by decide +kernel
theorem d_S_objectNamed_23 : decode b_S_objectNamed 23 = .ok (.i2l, 1) := by decide +kernel
theorem d_S_objectNamed_24 : decode b_S_objectNamed 24 = .ok (.lcmp, 1) := by decide +kernel
theorem d_S_objectNamed_25 : decode b_S_objectNamed 25 = .ok (.ifCond .ne (5), 3) := by decide +kernel
theorem d_S_objectNamed_28 : decode b_S_objectNamed 28 = .ok (.iload_n 3, 1) := by decide +kernel
theorem d_S_objectNamed_29 : decode b_S_objectNamed 29 = .ok (.ireturn, 1) := by decide +kernel
theorem d_S_objectNamed_30 : decode b_S_objectNamed 30 = .ok (.iinc 3 (1), 3) := by decide +kernel
theorem d_S_objectNamed_33 : decode b_S_objectNamed 33 = .ok (.goto (-31), 3) := by decide +kernel
theorem d_S_objectNamed_36 : decode b_S_objectNamed 36 = .ok (.iconst 0, 1) := by decide +kernel
theorem d_S_objectNamed_37 : decode b_S_objectNamed 37 = .ok (.ireturn, 1) := by decide +kernel
theorem d_T_isOfDirectory_0 : decode b_T_isOfDirectory 0 = .ok (.iload_n 0, 1) := by decide +kernel
theorem d_T_isOfDirectory_1 : decode b_T_isOfDirectory 1 = .ok (.ldc 9, 2) := by decide +kernel
theorem d_T_isOfDirectory_3 : decode b_T_isOfDirectory 3 = .ok (.iand, 1) := by decide +kernel
theorem d_T_isOfDirectory_4 : decode b_T_isOfDirectory 4 = .ok (.ifCond .eq (7), 3) := by decide +kernel
theorem d_T_isOfDirectory_7 : decode b_T_isOfDirectory 7 = .ok (.iconst 1, 1) := by decide +kernel
theorem d_T_isOfDirectory_8 : decode b_T_isOfDirectory 8 = .ok (.goto (4), 3) := by decide +kernel
theorem d_T_isOfDirectory_11 : decode b_T_isOfDirectory 11 = .ok (.iconst 0, 1) := by decide +kernel
theorem d_T_isOfDirectory_12 : decode b_T_isOfDirectory 12 = .ok (.ireturn, 1) := by decide +kernel
theorem d_S_isDirectory_0 : decode b_S_isDirectory 0 = .ok (.iload_n 1, 1) := by decide +kernel
theorem d_S_isDirectory_1 : decode b_S_isDirectory 1 = .ok (.ifCond .eq (14), 3) := by decide +kernel
theorem d_S_isDirectory_4 : decode b_S_isDirectory 4 = .ok (.aload_n 0, 1) := by decide +kernel
theorem d_S_isDirectory_5 : decode b_S_isDirectory 5 = .ok (.iload_n 1, 1) := by decide +kernel
theorem d_S_isDirectory_6 : decode b_S_isDirectory 6 = .ok (.invokevirtual 55, 3) := by decide +kernel
theorem d_S_isDirectory_9 : decode b_S_isDirectory 9 = .ok (.invokestatic 167, 3) := by decide +kernel
theorem d_S_isDirectory_12 : decode b_S_isDirectory 12 = .ok (.ifCond .eq (7), 3) := by decide +kernel
theorem d_S_isDirectory_15 : decode b_S_isDirectory 15 = .ok (.iconst 1, 1) := by decide +kernel
theorem d_S_isDirectory_16 : decode b_S_isDirectory 16 = .ok (.goto (4), 3) := by decide +kernel
theorem d_S_isDirectory_19 : decode b_S_isDirectory 19 = .ok (.iconst 0, 1) := by decide +kernel
theorem d_S_isDirectory_20 : decode b_S_isDirectory 20 = .ok (.ireturn, 1) := by decide +kernel
theorem d_S_refusalOfDirectory_0 : decode b_S_refusalOfDirectory 0 = .ok (.aload_n 0, 1) := by decide +kernel
theorem d_S_refusalOfDirectory_1 : decode b_S_refusalOfDirectory 1 = .ok (.getfield 20, 3) := by decide +kernel
theorem d_S_refusalOfDirectory_4 : decode b_S_refusalOfDirectory 4 = .ok (.ifCond .ne (6), 3) := by decide +kernel
theorem d_S_refusalOfDirectory_7 : decode b_S_refusalOfDirectory 7 = .ok (.bipush (-9), 2) := by decide +kernel
theorem d_S_refusalOfDirectory_9 : decode b_S_refusalOfDirectory 9 = .ok (.ireturn, 1) := by decide +kernel
theorem d_S_refusalOfDirectory_10 : decode b_S_refusalOfDirectory 10 = .ok (.iload_n 1, 1) := by decide +kernel
theorem d_S_refusalOfDirectory_11 : decode b_S_refusalOfDirectory 11 = .ok (.ifCond .eq (13), 3) := by decide +kernel
theorem d_S_refusalOfDirectory_14 : decode b_S_refusalOfDirectory 14 = .ok (.aload_n 0, 1) := by decide +kernel
theorem d_S_refusalOfDirectory_15 : decode b_S_refusalOfDirectory 15 = .ok (.iload_n 1, 1) := by decide +kernel
theorem d_S_refusalOfDirectory_16 : decode b_S_refusalOfDirectory 16 = .ok (.invokevirtual 94, 3) := by decide +kernel
theorem d_S_refusalOfDirectory_19 : decode b_S_refusalOfDirectory 19 = .ok (.ifCond .ne (5), 3) := by decide +kernel
theorem d_S_refusalOfDirectory_22 : decode b_S_refusalOfDirectory 22 = .ok (.iconst (-1), 1) := by decide +kernel
theorem d_S_refusalOfDirectory_23 : decode b_S_refusalOfDirectory 23 = .ok (.ireturn, 1) := by decide +kernel
theorem d_S_refusalOfDirectory_24 : decode b_S_refusalOfDirectory 24 = .ok (.aload_n 0, 1) := by decide +kernel
theorem d_S_refusalOfDirectory_25 : decode b_S_refusalOfDirectory 25 = .ok (.iload_n 1, 1) := by decide +kernel
theorem d_S_refusalOfDirectory_26 : decode b_S_refusalOfDirectory 26 = .ok (.invokevirtual 98, 3) := by decide +kernel
theorem d_S_refusalOfDirectory_29 : decode b_S_refusalOfDirectory 29 = .ok (.ifCond .eq (7), 3) := by decide +kernel
theorem d_S_refusalOfDirectory_32 : decode b_S_refusalOfDirectory 32 = .ok (.iconst 0, 1) := by decide +kernel
theorem d_S_refusalOfDirectory_33 : decode b_S_refusalOfDirectory 33 = .ok (.goto (5), 3) := by decide +kernel
theorem d_S_refusalOfDirectory_36 : decode b_S_refusalOfDirectory 36 = .ok (.bipush (-2), 2) := by decide +kernel
theorem d_S_refusalOfDirectory_38 : decode b_S_refusalOfDirectory 38 = .ok (.ireturn, 1) := by decide +kernel
theorem d_T_ofHeader_0 : decode b_T_ofHeader 0 = .ok (.iload_n 0, 1) := by decide +kernel
theorem d_T_ofHeader_1 : decode b_T_ofHeader 1 = .ok (.iload_n 1, 1) := by decide +kernel
theorem d_T_ofHeader_2 : decode b_T_ofHeader 2 = .ok (.bipush 9, 2) := by decide +kernel
theorem d_T_ofHeader_4 : decode b_T_ofHeader 4 = .ok (.ishl, 1) := by decide +kernel
theorem d_T_ofHeader_5 : decode b_T_ofHeader 5 = .ok (.iadd, 1) := by decide +kernel
theorem d_T_ofHeader_6 : decode b_T_ofHeader 6 = .ok (.iload_n 2, 1) := by decide +kernel
theorem d_T_ofHeader_7 : decode b_T_ofHeader 7 = .ok (.ifCond .eq (8), 3) := by decide +kernel
theorem d_T_ofHeader_10 : decode b_T_ofHeader 10 = .ok (.ldc 9, 2) := by decide +kernel
theorem d_T_ofHeader_12 : decode b_T_ofHeader 12 = .ok (.goto (4), 3) := by decide +kernel
theorem d_T_ofHeader_15 : decode b_T_ofHeader 15 = .ok (.iconst 0, 1) := by decide +kernel
theorem d_T_ofHeader_16 : decode b_T_ofHeader 16 = .ok (.iadd, 1) := by decide +kernel
theorem d_T_ofHeader_17 : decode b_T_ofHeader 17 = .ok (.ireturn, 1) := by decide +kernel
theorem d_S_create_0 : decode b_S_create 0 = .ok (.aload_n 0, 1) := by decide +kernel
theorem d_S_create_1 : decode b_S_create 1 = .ok (.iload_n 1, 1) := by decide +kernel
theorem d_S_create_2 : decode b_S_create 2 = .ok (.invokevirtual 24, 3) := by decide +kernel
theorem d_S_create_5 : decode b_S_create 5 = .ok (.istore 4, 2) := by decide +kernel
theorem d_S_create_7 : decode b_S_create 7 = .ok (.iload 4, 2) := by decide +kernel
theorem d_S_create_9 : decode b_S_create 9 = .ok (.ifCond .eq (6), 3) := by decide +kernel
theorem d_S_create_12 : decode b_S_create 12 = .ok (.iload 4, 2) := by decide +kernel
theorem d_S_create_14 : decode b_S_create 14 = .ok (.ireturn, 1) := by decide +kernel
theorem d_S_create_15 : decode b_S_create 15 = .ok (.aload_n 0, 1) := by decide +kernel
theorem d_S_create_16 : decode b_S_create 16 = .ok (.iload_n 1, 1) := by decide +kernel
theorem d_S_create_17 : decode b_S_create 17 = .ok (.iload_n 2, 1) := by decide +kernel
theorem d_S_create_18 : decode b_S_create 18 = .ok (.invokevirtual 28, 3) := by decide +kernel
theorem d_S_create_21 : decode b_S_create 21 = .ok (.ifCond .eq (6), 3) := by decide +kernel
theorem d_S_create_24 : decode b_S_create 24 = .ok (.bipush (-4), 2) := by decide +kernel
theorem d_S_create_26 : decode b_S_create 26 = .ok (.ireturn, 1) := by decide +kernel
theorem d_S_create_27 : decode b_S_create 27 = .ok (.aload_n 0, 1) := by decide +kernel
theorem d_S_create_28 : decode b_S_create 28 = .ok (.invokevirtual 32, 3) := by decide +kernel
theorem d_S_create_31 : decode b_S_create 31 = .ok (.istore 5, 2) := by decide +kernel
theorem d_S_create_33 : decode b_S_create 33 = .ok (.iload 5, 2) := by decide +kernel
theorem d_S_create_35 : decode b_S_create 35 = .ok (.iconst (-1), 1) := by decide +kernel
theorem d_S_create_36 : decode b_S_create 36 = .ok (.if_icmp .ne (6), 3) := by decide +kernel
theorem d_S_create_39 : decode b_S_create 39 = .ok (.bipush (-5), 2) := by decide +kernel
theorem d_S_create_41 : decode b_S_create 41 = .ok (.ireturn, 1) := by decide +kernel
theorem d_S_create_42 : decode b_S_create 42 = .ok (.aload_n 0, 1) := by decide +kernel
theorem d_S_create_43 : decode b_S_create 43 = .ok (.iconst 1, 1) := by decide +kernel
theorem d_S_create_44 : decode b_S_create 44 = .ok (.invokevirtual 36, 3) := by decide +kernel
theorem d_S_create_47 : decode b_S_create 47 = .ok (.istore 4, 2) := by decide +kernel
theorem d_S_create_49 : decode b_S_create 49 = .ok (.iload 4, 2) := by decide +kernel
theorem d_S_create_51 : decode b_S_create 51 = .ok (.ifCond .eq (6), 3) := by decide +kernel
theorem d_S_create_54 : decode b_S_create 54 = .ok (.iload 4, 2) := by decide +kernel
theorem d_S_create_56 : decode b_S_create 56 = .ok (.ireturn, 1) := by decide +kernel
theorem d_S_create_57 : decode b_S_create 57 = .ok (.aload_n 0, 1) := by decide +kernel
theorem d_S_create_58 : decode b_S_create 58 = .ok (.iconst (-1), 1) := by decide +kernel
theorem d_S_create_59 : decode b_S_create 59 = .ok (.iload 5, 2) := by decide +kernel
theorem d_S_create_61 : decode b_S_create 61 = .ok (.iload_n 1, 1) := by decide +kernel
theorem d_S_create_62 : decode b_S_create 62 = .ok (.iload_n 3, 1) := by decide +kernel
theorem d_S_create_63 : decode b_S_create 63 = .ok (.invokestatic 39, 3) := by decide +kernel
theorem d_S_create_66 : decode b_S_create 66 = .ok (.iload_n 2, 1) := by decide +kernel
theorem d_S_create_67 : decode b_S_create 67 = .ok (.lconst 0, 1) := by decide +kernel
theorem d_S_create_68 : decode b_S_create 68 = .ok (.invokevirtual 45, 3) := by decide +kernel
theorem d_S_create_71 : decode b_S_create 71 = .ok (.istore 6, 2) := by decide +kernel
theorem d_S_create_73 : decode b_S_create 73 = .ok (.iload 6, 2) := by decide +kernel
theorem d_S_create_75 : decode b_S_create 75 = .ok (.ifCond .eq (8), 3) := by decide +kernel
theorem d_S_create_78 : decode b_S_create 78 = .ok (.iload 5, 2) := by decide +kernel
theorem d_S_create_80 : decode b_S_create 80 = .ok (.goto (7), 3) := by decide +kernel
theorem d_S_create_83 : decode b_S_create 83 = .ok (.aload_n 0, 1) := by decide +kernel
theorem d_S_create_84 : decode b_S_create 84 = .ok (.invokevirtual 49, 3) := by decide +kernel
theorem d_S_create_87 : decode b_S_create 87 = .ok (.ireturn, 1) := by decide +kernel
