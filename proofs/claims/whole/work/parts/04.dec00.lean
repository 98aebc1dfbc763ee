theorem d_C_isProgrammed_0 : decode b_C_isProgrammed 0 = .ok (.iload_n 1, 1) := by decide +kernel
theorem d_C_isProgrammed_1 : decode b_C_isProgrammed 1 = .ok (.bipush 8, 2) := by decide +kernel
theorem d_C_isProgrammed_3 : decode b_C_isProgrammed 3 = .ok (.irem, 1) := by decide +kernel
theorem d_C_isProgrammed_4 : decode b_C_isProgrammed 4 = .ok (.aload_n 0, 1) := by decide +kernel
theorem d_C_isProgrammed_5 : decode b_C_isProgrammed 5 = .ok (.getfield 22, 3) := by decide +kernel
theorem d_C_isProgrammed_8 : decode b_C_isProgrammed 8 = .ok (.iload_n 1, 1) := by decide +kernel
theorem d_C_isProgrammed_9 : decode b_C_isProgrammed 9 = .ok (.bipush 8, 2) := by decide +kernel
theorem d_C_isProgrammed_11 : decode b_C_isProgrammed 11 = .ok (.idiv, 1) := by decide +kernel
theorem d_C_isProgrammed_12 : decode b_C_isProgrammed 12 = .ok (.iaload, 1) := by decide +kernel
theorem d_C_isProgrammed_13 : decode b_C_isProgrammed 13 = .ok (.if_icmp .ge (7), 3) := by decide +kernel
theorem d_C_isProgrammed_16 : decode b_C_isProgrammed 16 = .ok (.iconst 1, 1) := by decide +kernel
theorem d_C_isProgrammed_17 : decode b_C_isProgrammed 17 = .ok (.goto (4), 3) := by decide +kernel
theorem d_C_isProgrammed_20 : decode b_C_isProgrammed 20 = .ok (.iconst 0, 1) := by decide +kernel
theorem d_C_isProgrammed_21 : decode b_C_isProgrammed 21 = .ok (.ireturn, 1) := by decide +kernel
theorem d_T_isMarked_0 : decode b_T_isMarked 0 = .ok (.iload_n 0, 1) := by decide +kernel
theorem d_T_isMarked_1 : decode b_T_isMarked 1 = .ok (.sipush 256, 3) := by decide +kernel
theorem d_T_isMarked_4 : decode b_T_isMarked 4 = .ok (.iand, 1) := by decide +kernel
theorem d_T_isMarked_5 : decode b_T_isMarked 5 = .ok (.ifCond .eq (7), 3) := by decide +kernel
theorem d_T_isMarked_8 : decode b_T_isMarked 8 = .ok (.iconst 1, 1) := by decide +kernel
theorem d_T_isMarked_9 : decode b_T_isMarked 9 = .ok (.goto (4), 3) := by decide +kernel
theorem d_T_isMarked_12 : decode b_T_isMarked 12 = .ok (.iconst 0, 1) := by decide +kernel
theorem d_T_isMarked_13 : decode b_T_isMarked 13 = .ok (.ireturn, 1) := by decide +kernel
theorem d_C_isLive_0 : decode b_C_isLive 0 = .ok (.aload_n 0, 1) := by decide +kernel
theorem d_C_isLive_1 : decode b_C_isLive 1 = .ok (.iload_n 1, 1) := by decide +kernel
theorem d_C_isLive_2 : decode b_C_isLive 2 = .ok (.invokevirtual 49, 3) := by decide +kernel
theorem d_C_isLive_5 : decode b_C_isLive 5 = .ok (.ifCond .eq (19), 3) := by decide +kernel
theorem d_C_isLive_8 : decode b_C_isLive 8 = .ok (.aload_n 0, 1) := by decide +kernel
theorem d_C_isLive_9 : decode b_C_isLive 9 = .ok (.getfield 9, 3) := by decide +kernel
theorem d_C_isLive_12 : decode b_C_isLive 12 = .ok (.iload_n 1, 1) := by decide +kernel
theorem d_C_isLive_13 : decode b_C_isLive 13 = .ok (.iaload, 1) := by decide +kernel
theorem d_C_isLive_14 : decode b_C_isLive 14 = .ok (.invokestatic 53, 3) := by decide +kernel
theorem d_C_isLive_17 : decode b_C_isLive 17 = .ok (.ifCond .ne (7), 3) := by decide +kernel
theorem d_C_isLive_20 : decode b_C_isLive 20 = .ok (.iconst 1, 1) := by decide +kernel
theorem d_C_isLive_21 : decode b_C_isLive 21 = .ok (.goto (4), 3) := by decide +kernel
theorem d_C_isLive_24 : decode b_C_isLive 24 = .ok (.iconst 0, 1) := by decide +kernel
theorem d_C_isLive_25 : decode b_C_isLive 25 = .ok (.ireturn, 1) := by decide +kernel
theorem d_T_ofChunk_0 : decode b_T_ofChunk 0 = .ok (.iload_n 0, 1) := by decide +kernel
theorem d_T_ofChunk_1 : decode b_T_ofChunk 1 = .ok (.bipush 8, 2) := by decide +kernel
theorem d_T_ofChunk_3 : decode b_T_ofChunk 3 = .ok (.iload_n 1, 1) := by decide +kernel
theorem d_T_ofChunk_4 : decode b_T_ofChunk 4 = .ok (.imul, 1) := by decide +kernel
theorem d_T_ofChunk_5 : decode b_T_ofChunk 5 = .ok (.iadd, 1) := by decide +kernel
theorem d_T_ofChunk_6 : decode b_T_ofChunk 6 = .ok (.ireturn, 1) := by decide +kernel
theorem d_T_areOf_0 : decode b_T_areOf 0 = .ok (.iload_n 0, 1) := by decide +kernel
theorem d_T_areOf_1 : decode b_T_areOf 1 = .ok (.bipush 63, 2) := by decide +kernel
theorem d_T_areOf_3 : decode b_T_areOf 3 = .ok (.iand, 1) := by decide +kernel
theorem d_T_areOf_4 : decode b_T_areOf 4 = .ok (.iload_n 1, 1) := by decide +kernel
theorem d_T_areOf_5 : decode b_T_areOf 5 = .ok (.iload_n 2, 1) := by decide +kernel
theorem d_T_areOf_6 : decode b_T_areOf 6 = .ok (.invokestatic 10, 3) := by decide +kernel
theorem d_T_areOf_9 : decode b_T_areOf 9 = .ok (.if_icmp .ne (7), 3) := by decide +kernel
theorem d_T_areOf_12 : decode b_T_areOf 12 = .ok (.iconst 1, 1) := by decide +kernel
theorem d_T_areOf_13 : decode b_T_areOf 13 = .ok (.goto (4), 3) := by decide +kernel
theorem d_T_areOf_16 : decode b_T_areOf 16 = .ok (.iconst 0, 1) := by decide +kernel
theorem d_T_areOf_17 : decode b_T_areOf 17 = .ok (.ireturn, 1) := by decide +kernel
theorem d_C_livePage_0 : decode b_C_livePage 0 = .ok (.iconst 0, 1) := by decide +kernel
theorem d_C_livePage_1 : decode b_C_livePage 1 = .ok (.istore_n 3, 1) := by decide +kernel
theorem d_C_livePage_2 : decode b_C_livePage 2 = .ok (.iload_n 3, 1) := by decide +kernel
theorem d_C_livePage_3 : decode b_C_livePage 3 = .ok (.bipush 48, 2) := by decide +kernel
theorem d_C_livePage_5 : decode b_C_livePage 5 = .ok (.if_icmp .ge (33), 3) := by decide +kernel
theorem d_C_livePage_8 : decode b_C_livePage 8 = .ok (.aload_n 0, 1) := by decide +kernel
theorem d_C_livePage_9 : decode b_C_livePage 9 = .ok (.iload_n 3, 1) := by decide +kernel
theorem d_C_livePage_10 : decode b_C_livePage 10 = .ok (.invokevirtual 69, 3) := by decide +kernel
theorem d_C_livePage_13 : decode b_C_livePage 13 = .ok (.ifCond .eq (19), 3) := by decide +kernel
theorem d_C_livePage_16 : decode b_C_livePage 16 = .ok (.aload_n 0, 1) := by decide +kernel
theorem d_C_livePage_17 : decode b_C_livePage 17 = .ok (.getfield 9, 3) := by decide +kernel
theorem d_C_livePage_20 : decode b_C_livePage 20 = .ok (.iload_n 3, 1) := by decide +kernel
theorem d_C_livePage_21 : decode b_C_livePage 21 = .ok (.iaload, 1) := by decide +kernel
theorem d_C_livePage_22 : decode b_C_livePage 22 = .ok (.iload_n 1, 1) := by decide +kernel
theorem d_C_livePage_23 : decode b_C_livePage 23 = .ok (.iload_n 2, 1) := by decide +kernel
theorem d_C_livePage_24 : decode b_C_livePage 24 = .ok (.invokestatic 72, 3) := by decide +kernel
theorem d_C_livePage_27 : decode b_C_livePage 27 = .ok (.ifCond .eq (5), 3) := by decide +kernel
theorem d_C_livePage_30 : decode b_C_livePage 30 = .ok (.iload_n 3, 1) := by decide +kernel
theorem d_C_livePage_31 : decode b_C_livePage 31 = .ok (.ireturn, 1) := by decide +kernel
theorem d_C_livePage_32 : decode b_C_livePage 32 = .ok (.iinc 3 (1), 3) := by decide +kernel
theorem d_C_livePage_35 : decode b_C_livePage 35 = .ok (.goto (-33), 3) := by decide +kernel
theorem d_C_livePage_38 : decode b_C_livePage 38 = .ok (.iconst (-1), 1) := by decide +kernel
theorem d_C_livePage_39 : decode b_C_livePage 39 = .ok (.ireturn, 1) := by decide +kernel
theorem d_S_isThere_0 : decode b_S_isThere 0 = .ok (.iload_n 1, 1) := by decide +kernel
theorem d_S_isThere_1 : decode b_S_isThere 1 = .ok (.ifCond .le (26), 3) := by decide +kernel
theorem d_S_isThere_4 : decode b_S_isThere 4 = .ok (.iload_n 1, 1) := by decide +kernel
theorem d_S_isThere_5 : decode b_S_isThere 5 = .ok (.bipush 7, 2) := by decide +kernel
theorem d_S_isThere_7 : decode b_S_isThere 7 = .ok (.if_icmp .gt (20), 3) := by decide +kernel
theorem d_S_isThere_10 : decode b_S_isThere 10 = .ok (.aload_n 0, 1) := by decide +kernel
theorem d_S_isThere_11 : decode b_S_isThere 11 = .ok (.getfield 12, 3) := by decide +kernel
theorem d_S_isThere_14 : decode b_S_isThere 14 = .ok (.iload_n 1, 1) := by decide +kernel
theorem d_S_isThere_15 : decode b_S_isThere 15 = .ok (.iconst 0, 1) := by decide +kernel
theorem d_S_isThere_16 : decode b_S_isThere 16 = .ok (.invokevirtual 61, 3) := by decide +kernel
theorem d_S_isThere_19 : decode b_S_isThere 19 = .ok (.iconst (-1), 1) := by decide +kernel
theorem d_S_isThere_20 : decode b_S_isThere 20 = .ok (.if_icmp .eq (7), 3) := by decide +kernel
theorem d_S_isThere_23 : decode b_S_isThere 23 = .ok (.iconst 1, 1) := by decide +kernel
theorem d_S_isThere_24 : decode b_S_isThere 24 = .ok (.goto (4), 3) := by decide +kernel
theorem d_S_isThere_27 : decode b_S_isThere 27 = .ok (.iconst 0, 1) := by decide +kernel
theorem d_S_isThere_28 : decode b_S_isThere 28 = .ok (.ireturn, 1) := by decide +kernel
theorem d_S_lowestAbsentObject_0 : decode b_S_lowestAbsentObject 0 = .ok (.iconst 1, 1) := by decide +kernel
theorem d_S_lowestAbsentObject_1 : decode b_S_lowestAbsentObject 1 = .ok (.istore_n 1, 1) := by decide +kernel
theorem d_S_lowestAbsentObject_2 : decode b_S_lowestAbsentObject 2 = .ok (.iload_n 1, 1) := by decide +kernel
theorem d_S_lowestAbsentObject_3 : decode b_S_lowestAbsentObject 3 = .ok (.bipush 7, 2) := by decide +kernel
theorem d_S_lowestAbsentObject_5 : decode b_S_lowestAbsentObject 5 = .ok (.if_icmp .gt (19), 3) := by decide +kernel
theorem d_S_lowestAbsentObject_8 : decode b_S_lowestAbsentObject 8 = .ok (.aload_n 0, 1) := by decide +kernel
theorem d_S_lowestAbsentObject_9 : decode b_S_lowestAbsentObject 9 = .ok (.iload_n 1, 1) := by decide +kernel
theorem d_S_lowestAbsentObject_10 : decode b_S_lowestAbsentObject 10 = .ok (.invokevirtual 94, 3) := by decide +kernel
theorem d_S_lowestAbsentObject_13 : decode b_S_lowestAbsentObject 13 = .ok (.ifCond .ne (5), 3) := by decide +kernel
theorem d_S_lowestAbsentObject_16 : decode b_S_lowestAbsentObject 16 = .ok (.iload_n 1, 1) := by decide +kernel
theorem d_S_lowestAbsentObject_17 : decode b_S_lowestAbsentObject 17 = .ok (.ireturn, 1) := by decide +kernel
theorem d_S_lowestAbsentObject_18 : decode b_S_lowestAbsentObject 18 = .ok (.iinc 1 (1), 3) := by decide +kernel
theorem d_S_lowestAbsentObject_21 : decode b_S_lowestAbsentObject 21 = .ok (.goto (-19), 3) := by decide +kernel
theorem d_S_lowestAbsentObject_24 : decode b_S_lowestAbsentObject 24 = .ok (.iconst (-1), 1) := by decide +kernel
theorem d_S_lowestAbsentObject_25 : decode b_S_lowestAbsentObject 25 = .ok (.ireturn, 1) := by decide +kernel
theorem d_C_countFree_0 : decode b_C_countFree 0 = .ok (.iconst 0, 1) := by decide +kernel
theorem d_C_countFree_1 : decode b_C_countFree 1 = .ok (.istore_n 1, 1) := by decide +kernel
theorem d_C_countFree_2 : decode b_C_countFree 2 = .ok (.iconst 0, 1) := by decide +kernel
theorem d_C_countFree_3 : decode b_C_countFree 3 = .ok (.istore_n 2, 1) := by decide +kernel
theorem d_C_countFree_4 : decode b_C_countFree 4 = .ok (.iload_n 2, 1) := by decide +kernel
theorem d_C_countFree_5 : decode b_C_countFree 5 = .ok (.bipush 6, 2) := by decide +kernel
theorem d_C_countFree_7 : decode b_C_countFree 7 = .ok (.if_icmp .ge (30), 3) := by decide +kernel
theorem d_C_countFree_10 : decode b_C_countFree 10 = .ok (.aload_n 0, 1) := by decide +kernel
theorem d_C_countFree_11 : decode b_C_countFree 11 = .ok (.getfield 32, 3) := by decide +kernel
theorem d_C_countFree_14 : decode b_C_countFree 14 = .ok (.iload_n 2, 1) := by decide +kernel
theorem d_C_countFree_15 : decode b_C_countFree 15 = .ok (.baload, 1) := by decide +kernel
theorem d_C_countFree_16 : decode b_C_countFree 16 = .ok (.ifCond .ne (15), 3) := by decide +kernel
theorem d_C_countFree_19 : decode b_C_countFree 19 = .ok (.iload_n 1, 1) := by decide +kernel
theorem d_C_countFree_20 : decode b_C_countFree 20 = .ok (.bipush 8, 2) := by decide +kernel
theorem d_C_countFree_22 : decode b_C_countFree 22 = .ok (.aload_n 0, 1) := by decide +kernel
theorem d_C_countFree_23 : decode b_C_countFree 23 = .ok (.getfield 22, 3) := by decide +kernel
theorem d_C_countFree_26 : decode b_C_countFree 26 = .ok (.iload_n 2, 1) := by decide +kernel
theorem d_C_countFree_27 : decode b_C_countFree 27 = .ok (.iaload, 1) := by decide +kernel
theorem d_C_countFree_28 : decode b_C_countFree 28 = .ok (.isub, 1) := by decide +kernel
theorem d_C_countFree_29 : decode b_C_countFree 29 = .ok (.iadd, 1) := by decide +kernel
theorem d_C_countFree_30 : decode b_C_countFree 30 = .ok (.istore_n 1, 1) := by decide +kernel
theorem d_C_countFree_31 : decode b_C_countFree 31 = .ok (.iinc 2 (1), 3) := by decide +kernel
theorem d_C_countFree_34 : decode b_C_countFree 34 = .ok (.goto (-30), 3) := by decide +kernel
theorem d_C_countFree_37 : decode b_C_countFree 37 = .ok (.iload_n 1, 1) := by decide +kernel
theorem d_C_countFree_38 : decode b_C_countFree 38 = .ok (.ireturn, 1) := by decide +kernel
theorem d_C_countLiveIn_0 : decode b_C_countLiveIn 0 = .ok (.iconst 0, 1) := by decide +kernel
theorem d_C_countLiveIn_1 : decode b_C_countLiveIn 1 = .ok (.istore_n 2, 1) := by decide +kernel
theorem d_C_countLiveIn_2 : decode b_C_countLiveIn 2 = .ok (.iload_n 1, 1) := by decide +kernel
theorem d_C_countLiveIn_3 : decode b_C_countLiveIn 3 = .ok (.bipush 8, 2) := by decide +kernel
theorem d_C_countLiveIn_5 : decode b_C_countLiveIn 5 = .ok (.imul, 1) := by decide +kernel
theorem d_C_countLiveIn_6 : decode b_C_countLiveIn 6 = .ok (.istore_n 3, 1) := by decide +kernel
theorem d_C_countLiveIn_7 : decode b_C_countLiveIn 7 = .ok (.iload_n 3, 1) := by decide +kernel
theorem d_C_countLiveIn_8 : decode b_C_countLiveIn 8 = .ok (.istore 4, 2) := by decide +kernel
theorem d_C_countLiveIn_10 : decode b_C_countLiveIn 10 = .ok (.iload 4, 2) := by decide +kernel
theorem d_C_countLiveIn_12 : decode b_C_countLiveIn 12 = .ok (.iload_n 3, 1) := by decide +kernel
theorem d_C_countLiveIn_13 : decode b_C_countLiveIn 13 = .ok (.bipush 8, 2) := by decide +kernel
theorem d_C_countLiveIn_15 : decode b_C_countLiveIn 15 = .ok (.iadd, 1) := by decide +kernel
theorem d_C_countLiveIn_16 : decode b_C_countLiveIn 16 = .ok (.if_icmp .ge (21), 3) := by decide +kernel
theorem d_C_countLiveIn_19 : decode b_C_countLiveIn 19 = .ok (.aload_n 0, 1) := by decide +kernel
theorem d_C_countLiveIn_20 : decode b_C_countLiveIn 20 = .ok (.iload 4, 2) := by decide +kernel
theorem d_C_countLiveIn_22 : decode b_C_countLiveIn 22 = .ok (.invokevirtual 69, 3) := by decide +kernel
theorem d_C_countLiveIn_25 : decode b_C_countLiveIn 25 = .ok (.ifCond .eq (6), 3) := by decide +kernel
theorem d_C_countLiveIn_28 : decode b_C_countLiveIn 28 = .ok (.iinc 2 (1), 3) := by decide +kernel
theorem d_C_countLiveIn_31 : decode b_C_countLiveIn 31 = .ok (.iinc 4 (1), 3) := by decide +kernel
theorem d_C_countLiveIn_34 : decode b_C_countLiveIn 34 = .ok (.goto (-24), 3) := by decide +kernel
theorem d_C_countLiveIn_37 : decode b_C_countLiveIn 37 = .ok (.iload_n 2, 1) := by decide +kernel
theorem d_C_countLiveIn_38 : decode b_C_countLiveIn 38 = .ok (.ireturn, 1) := by decide +kernel
theorem d_S_blockToCollect_0 : decode b_S_blockToCollect 0 = .ok (.iconst (-1), 1) := by decide +kernel
theorem d_S_blockToCollect_1 : decode b_S_blockToCollect 1 = .ok (.istore_n 1, 1) := by decide +kernel
theorem d_S_blockToCollect_2 : decode b_S_blockToCollect 2 = .ok (.bipush 8, 2) := by decide +kernel
theorem d_S_blockToCollect_4 : decode b_S_blockToCollect 4 = .ok (.istore_n 2, 1) := by decide +kernel
theorem d_S_blockToCollect_5 : decode b_S_blockToCollect 5 = .ok (.aload_n 0, 1) := by decide +kernel
theorem d_S_blockToCollect_6 : decode b_S_blockToCollect 6 = .ok (.getfield 12, 3) := by decide +kernel
theorem d_S_blockToCollect_9 : decode b_S_blockToCollect 9 = .ok (.invokevirtual 158, 3) := by decide +kernel
theorem d_S_blockToCollect_12 : decode b_S_blockToCollect 12 = .ok (.istore_n 3, 1) := by decide +kernel
theorem d_S_blockToCollect_13 : decode b_S_blockToCollect 13 = .ok (.iconst 0, 1) := by decide +kernel
theorem d_S_blockToCollect_14 : decode b_S_blockToCollect 14 = .ok (.istore 4, 2) := by decide +kernel
theorem d_S_blockToCollect_16 : decode b_S_blockToCollect 16 = .ok (.iload 4, 2) := by decide +kernel
theorem d_S_blockToCollect_18 : decode b_S_blockToCollect 18 = .ok (.bipush 6, 2) := by decide +kernel
theorem d_S_blockToCollect_20 : decode b_S_blockToCollect 20 = .ok (.if_icmp .ge (69), 3) := by decide +kernel
theorem d_S_blockToCollect_23 : decode b_S_blockToCollect 23 = .ok (.aload_n 0, 1) := by decide +kernel
theorem d_S_blockToCollect_24 : decode b_S_blockToCollect 24 = .ok (.getfield 12, 3) := by decide +kernel
theorem d_S_blockToCollect_27 : decode b_S_blockToCollect 27 = .ok (.getfield 145, 3) := by decide +kernel
theorem d_S_blockToCollect_30 : decode b_S_blockToCollect 30 = .ok (.iload 4, 2) := by decide +kernel
theorem d_S_blockToCollect_32 : decode b_S_blockToCollect 32 = .ok (.baload, 1) := by decide +kernel
theorem d_S_blockToCollect_33 : decode b_S_blockToCollect 33 = .ok (.ifCond .ne (50), 3) := by decide +kernel
theorem d_S_blockToCollect_36 : decode b_S_blockToCollect 36 = .ok (.aload_n 0, 1) := by decide +kernel
theorem d_S_blockToCollect_37 : decode b_S_blockToCollect 37 = .ok (.getfield 12, 3) := by decide +kernel
theorem d_S_blockToCollect_40 : decode b_S_blockToCollect 40 = .ok (.getfield 210, 3) := by decide +kernel
theorem d_S_blockToCollect_43 : decode b_S_blockToCollect 43 = .ok (.iload 4, 2) := by decide +kernel
theorem d_S_blockToCollect_45 : decode b_S_blockToCollect 45 = .ok (.iaload, 1) := by decide +kernel
theorem d_S_blockToCollect_46 : decode b_S_blockToCollect 46 = .ok (.bipush 8, 2) := by decide +kernel
theorem d_S_blockToCollect_48 : decode b_S_blockToCollect 48 = .ok (.if_icmp .ge (6), 3) := by decide +kernel
theorem d_S_blockToCollect_51 : decode b_S_blockToCollect 51 = .ok (.goto (32), 3) := by decide +kernel
theorem d_S_blockToCollect_54 : decode b_S_blockToCollect 54 = .ok (.aload_n 0, 1) := by decide +kernel
theorem d_S_blockToCollect_55 : decode b_S_blockToCollect 55 = .ok (.getfield 12, 3) := by decide +kernel
theorem d_S_blockToCollect_58 : decode b_S_blockToCollect 58 = .ok (.iload 4, 2) := by decide +kernel
theorem d_S_blockToCollect_60 : decode b_S_blockToCollect 60 = .ok (.invokevirtual 213, 3) := by decide +kernel
theorem d_S_blockToCollect_63 : decode b_S_blockToCollect 63 = .ok (.istore 5, 2) := by decide +kernel
theorem d_S_blockToCollect_65 : decode b_S_blockToCollect 65 = .ok (.iload 5, 2) := by decide +kernel
theorem d_S_blockToCollect_67 : decode b_S_blockToCollect 67 = .ok (.iload_n 2, 1) := by decide +kernel
theorem d_S_blockToCollect_68 : decode b_S_blockToCollect 68 = .ok (.if_icmp .ge (15), 3) := by decide +kernel
theorem d_S_blockToCollect_71 : decode b_S_blockToCollect 71 = .ok (.iload 5, 2) := by decide +kernel
theorem d_S_blockToCollect_73 : decode b_S_blockToCollect 73 = .ok (.iload_n 3, 1) := by decide +kernel
theorem d_S_blockToCollect_74 : decode b_S_blockToCollect 74 = .ok (.if_icmp .gt (9), 3) := by decide +kernel
theorem d_S_blockToCollect_77 : decode b_S_blockToCollect 77 = .ok (.iload 4, 2) := by decide +kernel
theorem d_S_blockToCollect_79 : decode b_S_blockToCollect 79 = .ok (.istore_n 1, 1) := by decide +kernel
theorem d_S_blockToCollect_80 : decode b_S_blockToCollect 80 = .ok (.iload 5, 2) := by decide +kernel
theorem d_S_blockToCollect_82 : decode b_S_blockToCollect 82 = .ok (.istore_n 2, 1) := by decide +kernel
theorem d_S_blockToCollect_83 : decode b_S_blockToCollect 83 = .ok (.iinc 4 (1), 3) := by decide +kernel
theorem d_S_blockToCollect_86 : decode b_S_blockToCollect 86 = .ok (.goto (-70), 3) := by decide +kernel
theorem d_S_blockToCollect_89 : decode b_S_blockToCollect 89 = .ok (.iload_n 1, 1) := by decide +kernel
theorem d_S_blockToCollect_90 : decode b_S_blockToCollect 90 = .ok (.ireturn, 1) := by decide +kernel
theorem d_C_takeStep_0 : decode b_C_takeStep 0 = .ok (.aload_n 0, 1) := by decide +kernel
theorem d_C_takeStep_1 : decode b_C_takeStep 1 = .ok (.getfield 46, 3) := by decide +kernel
theorem d_C_takeStep_4 : decode b_C_takeStep 4 = .ok (.ifCond .ne (10), 3) := by decide +kernel
theorem d_C_takeStep_7 : decode b_C_takeStep 7 = .ok (.aload_n 0, 1) := by decide +kernel
theorem d_C_takeStep_8 : decode b_C_takeStep 8 = .ok (.iconst (-1), 1) := by decide +kernel
theorem d_C_takeStep_9 : decode b_C_takeStep 9 = .ok (.putfield 46, 3) := by decide +kernel
theorem d_C_takeStep_12 : decode b_C_takeStep 12 = .ok (.iconst 0, 1) := by decide +kernel
theorem d_C_takeStep_13 : decode b_C_takeStep 13 = .ok (.ireturn, 1) := by decide +kernel
theorem d_C_takeStep_14 : decode b_C_takeStep 14 = .ok (.aload_n 0, 1) := by decide +kernel
theorem d_C_takeStep_15 : decode b_C_takeStep 15 = .ok (.getfield 46, 3) := by decide +kernel
theorem d_C_takeStep_18 : decode b_C_takeStep 18 = .ok (.ifCond .le (13), 3) := by decide +kernel
theorem d_C_takeStep_21 : decode b_C_takeStep 21 = .ok (.aload_n 0, 1) := by decide +kernel
theorem d_C_takeStep_22 : decode b_C_takeStep 22 = .ok (.dup, 1) := by decide +kernel
theorem d_C_takeStep_23 : decode b_C_takeStep 23 = .ok (.getfield 46, 3) := by decide +kernel
theorem d_C_takeStep_26 : decode b_C_takeStep 26 = .ok (.iconst 1, 1) := by decide +kernel
theorem d_C_takeStep_27 : decode b_C_takeStep 27 = .ok (.isub, 1) := by decide +kernel
theorem d_C_takeStep_28 : decode b_C_takeStep 28 = .ok (.putfield 46, 3) := by decide +kernel
theorem d_C_takeStep_31 : decode b_C_takeStep 31 = .ok (.aload_n 0, 1) := by decide +kernel
theorem d_C_takeStep_32 : decode b_C_takeStep 32 = .ok (.dup, 1) := by decide +kernel
theorem d_C_takeStep_33 : decode b_C_takeStep 33 = .ok (.getfield 42, 3) := by decide +kernel
theorem d_C_takeStep_36 : decode b_C_takeStep 36 = .ok (.iconst 1, 1) := by decide +kernel
theorem d_C_takeStep_37 : decode b_C_takeStep 37 = .ok (.iadd, 1) := by decide +kernel
theorem d_C_takeStep_38 : decode b_C_takeStep 38 = .ok (.putfield 42, 3) := by decide +kernel
theorem d_C_takeStep_41 : decode b_C_takeStep 41 = .ok (.iconst 1, 1) := by decide +kernel
theorem d_C_takeStep_42 : decode b_C_takeStep 42 = .ok (.ireturn, 1) := by decide +kernel
theorem d_C_erase_0 : decode b_C_erase 0 = .ok (.aload_n 0, 1) := by decide +kernel
theorem d_C_erase_1 : decode b_C_erase 1 = .ok (.invokevirtual 91, 3) := by decide +kernel
theorem d_C_erase_4 : decode b_C_erase 4 = .ok (.ifCond .ne (5), 3) := by decide +kernel
theorem d_C_erase_7 : decode b_C_erase 7 = .ok (.iconst 0, 1) := by decide +kernel
theorem d_C_erase_8 : decode b_C_erase 8 = .ok (.ireturn, 1) := by decide +kernel
theorem d_C_erase_9 : decode b_C_erase 9 = .ok (.aload_n 0, 1) := by decide +kernel
theorem d_C_erase_10 : decode b_C_erase 10 = .ok (.getfield 28, 3) := by decide +kernel
theorem d_C_erase_13 : decode b_C_erase 13 = .ok (.iload_n 1, 1) := by decide +kernel
theorem d_C_erase_14 : decode b_C_erase 14 = .ok (.baload, 1) := by decide +kernel
theorem d_C_erase_15 : decode b_C_erase 15 = .ok (.ifCond .eq (13), 3) := by decide +kernel
theorem d_C_erase_18 : decode b_C_erase 18 = .ok (.aload_n 0, 1) := by decide +kernel
theorem d_C_erase_19 : decode b_C_erase 19 = .ok (.getfield 32, 3) := by decide +kernel
theorem d_C_erase_22 : decode b_C_erase 22 = .ok (.iload_n 1, 1) := by decide +kernel
theorem d_C_erase_23 : decode b_C_erase 23 = .ok (.iconst 1, 1) := by decide +kernel
theorem d_C_erase_24 : decode b_C_erase 24 = .ok (.bastore, 1) := by decide +kernel
theorem d_C_erase_25 : decode b_C_erase 25 = .ok (.goto (20), 3) := by decide +kernel
theorem d_C_erase_28 : decode b_C_erase 28 = .ok (.aload_n 0, 1) := by decide +kernel
theorem d_C_erase_29 : decode b_C_erase 29 = .ok (.getfield 22, 3) := by decide +kernel
theorem d_C_erase_32 : decode b_C_erase 32 = .ok (.iload_n 1, 1) := by decide +kernel
theorem d_C_erase_33 : decode b_C_erase 33 = .ok (.iconst 0, 1) := by decide +kernel
theorem d_C_erase_34 : decode b_C_erase 34 = .ok (.iastore, 1) := by decide +kernel
theorem d_C_erase_35 : decode b_C_erase 35 = .ok (.aload_n 0, 1) := by decide +kernel
theorem d_C_erase_36 : decode b_C_erase 36 = .ok (.getfield 25, 3) := by decide +kernel
theorem d_C_erase_39 : decode b_C_erase 39 = .ok (.iload_n 1, 1) := by decide +kernel
theorem d_C_erase_40 : decode b_C_erase 40 = .ok (.dup2, 1) := by decide +kernel
theorem d_C_erase_41 : decode b_C_erase 41 = .ok (.iaload, 1) := by decide +kernel
theorem d_C_erase_42 : decode b_C_erase 42 = .ok (.iconst 1, 1) := by decide +kernel
theorem d_C_erase_43 : decode b_C_erase 43 = .ok (.iadd, 1) := by decide +kernel
theorem d_C_erase_44 : decode b_C_erase 44 = .ok (.iastore, 1) := by decide +kernel
theorem d_C_erase_45 : decode b_C_erase 45 = .ok (.aload_n 0, 1) := by decide +kernel
theorem d_C_erase_46 : decode b_C_erase 46 = .ok (.getfield 35, 3) := by decide +kernel
theorem d_C_erase_49 : decode b_C_erase 49 = .ok (.iload_n 1, 1) := by decide +kernel
theorem d_C_erase_50 : decode b_C_erase 50 = .ok (.iconst 1, 1) := by decide +kernel
theorem d_C_erase_51 : decode b_C_erase 51 = .ok (.bastore, 1) := by decide +kernel
theorem d_C_erase_52 : decode b_C_erase 52 = .ok (.iconst 1, 1) := by decide +kernel
theorem d_C_erase_53 : decode b_C_erase 53 = .ok (.ireturn, 1) := by decide +kernel
theorem d_J_bitCount_0 : decode b_J_bitCount 0 = .ok (.lload_n 0, 1) := by decide +kernel
theorem d_J_bitCount_1 : decode b_J_bitCount 1 = .ok (.lload_n 0, 1) := by decide +kernel
theorem d_J_bitCount_2 : decode b_J_bitCount 2 = .ok (.iconst 1, 1) := by decide +kernel
theorem d_J_bitCount_3 : decode b_J_bitCount 3 = .ok (.lushr, 1) := by decide +kernel
theorem d_J_bitCount_4 : decode b_J_bitCount 4 = .ok (.ldc2_w 314, 3) := by decide +kernel
theorem d_J_bitCount_7 : decode b_J_bitCount 7 = .ok (.land, 1) := by decide +kernel
theorem d_J_bitCount_8 : decode b_J_bitCount 8 = .ok (.lsub, 1) := by decide +kernel
theorem d_J_bitCount_9 : decode b_J_bitCount 9 = .ok (.lstore_n 0, 1) := by decide +kernel
theorem d_J_bitCount_10 : decode b_J_bitCount 10 = .ok (.lload_n 0, 1) := by decide +kernel
theorem d_J_bitCount_11 : decode b_J_bitCount 11 = .ok (.ldc2_w 316, 3) := by decide +kernel
theorem d_J_bitCount_14 : decode b_J_bitCount 14 = .ok (.land, 1) := by decide +kernel
theorem d_J_bitCount_15 : decode b_J_bitCount 15 = .ok (.lload_n 0, 1) := by decide +kernel
theorem d_J_bitCount_16 : decode b_J_bitCount 16 = .ok (.iconst 2, 1) := by decide +kernel
theorem d_J_bitCount_17 : decode b_J_bitCount 17 = .ok (.lushr, 1) := by decide +kernel
theorem d_J_bitCount_18 : decode b_J_bitCount 18 = .ok (.ldc2_w 316, 3) := by decide +kernel
theorem d_J_bitCount_21 : decode b_J_bitCount 21 = .ok (.land, 1) := by decide +kernel
theorem d_J_bitCount_22 : decode b_J_bitCount 22 = .ok (.ladd, 1) := by decide +kernel
theorem d_J_bitCount_23 : decode b_J_bitCount 23 = .ok (.lstore_n 0, 1) := by decide +kernel
theorem d_J_bitCount_24 : decode b_J_bitCount 24 = .ok (.lload_n 0, 1) := by decide +kernel
theorem d_J_bitCount_25 : decode b_J_bitCount 25 = .ok (.lload_n 0, 1) := by decide +kernel
theorem d_J_bitCount_26 : decode b_J_bitCount 26 = .ok (.iconst 4, 1) := by decide +kernel
theorem d_J_bitCount_27 : decode b_J_bitCount 27 = .ok (.lushr, 1) := by decide +kernel
theorem d_J_bitCount_28 : decode b_J_bitCount 28 = .ok (.ladd, 1) := by decide +kernel
theorem d_J_bitCount_29 : decode b_J_bitCount 29 = .ok (.ldc2_w 318, 3) := by decide +kernel
theorem d_J_bitCount_32 : decode b_J_bitCount 32 = .ok (.land, 1) := by decide +kernel
theorem d_J_bitCount_33 : decode b_J_bitCount 33 = .ok (.lstore_n 0, 1) := by decide +kernel
theorem d_J_bitCount_34 : decode b_J_bitCount 34 = .ok (.lload_n 0, 1) := by decide +kernel
theorem d_J_bitCount_35 : decode b_J_bitCount 35 = .ok (.lload_n 0, 1) := by decide +kernel
theorem d_J_bitCount_36 : decode b_J_bitCount 36 = .ok (.bipush 8, 2) := by decide +kernel
theorem d_J_bitCount_38 : decode b_J_bitCount 38 = .ok (.lushr, 1) := by decide +kernel
theorem d_J_bitCount_39 : decode b_J_bitCount 39 = .ok (.ladd, 1) := by decide +kernel
theorem d_J_bitCount_40 : decode b_J_bitCount 40 = .ok (.lstore_n 0, 1) := by decide +kernel
theorem d_J_bitCount_41 : decode b_J_bitCount 41 = .ok (.lload_n 0, 1) := by decide +kernel
theorem d_J_bitCount_42 : decode b_J_bitCount 42 = .ok (.lload_n 0, 1) := by decide +kernel
theorem d_J_bitCount_43 : decode b_J_bitCount 43 = .ok (.bipush 16, 2) := by decide +kernel
theorem d_J_bitCount_45 : decode b_J_bitCount 45 = .ok (.lushr, 1) := by decide +kernel
theorem d_J_bitCount_46 : decode b_J_bitCount 46 = .ok (.ladd, 1) := by decide +kernel
theorem d_J_bitCount_47 : decode b_J_bitCount 47 = .ok (.lstore_n 0, 1) := by decide +kernel
theorem d_J_bitCount_48 : decode b_J_bitCount 48 = .ok (.lload_n 0, 1) := by decide +kernel
theorem d_J_bitCount_49 : decode b_J_bitCount 49 = .ok (.lload_n 0, 1) := by decide +kernel
theorem d_J_bitCount_50 : decode b_J_bitCount 50 = .ok (.bipush 32, 2) := by decide +kernel
theorem d_J_bitCount_52 : decode b_J_bitCount 52 = .ok (.lushr, 1) := by decide +kernel
theorem d_J_bitCount_53 : decode b_J_bitCount 53 = .ok (.ladd, 1) := by decide +kernel
theorem d_J_bitCount_54 : decode b_J_bitCount 54 = .ok (.lstore_n 0, 1) := by decide +kernel
theorem d_J_bitCount_55 : decode b_J_bitCount 55 = .ok (.lload_n 0, 1) := by decide +kernel
theorem d_J_bitCount_56 : decode b_J_bitCount 56 = .ok (.l2i, 1) := by decide +kernel
theorem d_J_bitCount_57 : decode b_J_bitCount 57 = .ok (.bipush 127, 2) := by decide +kernel
theorem d_J_bitCount_59 : decode b_J_bitCount 59 = .ok (.iand, 1) := by decide +kernel
theorem d_J_bitCount_60 : decode b_J_bitCount 60 = .ok (.ireturn, 1) := by decide +kernel
theorem d_C_isUnreadable_0 : decode b_C_isUnreadable 0 = .ok (.aload_n 0, 1) := by decide +kernel
theorem d_C_isUnreadable_1 : decode b_C_isUnreadable 1 = .ok (.getfield 18, 3) := by decide +kernel
theorem d_C_isUnreadable_4 : decode b_C_isUnreadable 4 = .ok (.iload_n 1, 1) := by decide +kernel
theorem d_C_isUnreadable_5 : decode b_C_isUnreadable 5 = .ok (.laload, 1) := by decide +kernel
theorem d_C_isUnreadable_6 : decode b_C_isUnreadable 6 = .ok (.invokestatic 58, 3) := by decide +kernel
theorem d_C_isUnreadable_9 : decode b_C_isUnreadable 9 = .ok (.iconst 2, 1) := by decide +kernel
theorem d_C_isUnreadable_10 : decode b_C_isUnreadable 10 = .ok (.if_icmp .lt (7), 3) := by decide +kernel
theorem d_C_isUnreadable_13 : decode b_C_isUnreadable 13 = .ok (.iconst 1, 1) := by decide +kernel
theorem d_C_isUnreadable_14 : decode b_C_isUnreadable 14 = .ok (.goto (4), 3) := by decide +kernel
theorem d_C_isUnreadable_17 : decode b_C_isUnreadable 17 = .ok (.iconst 0, 1) := by decide +kernel
theorem d_C_isUnreadable_18 : decode b_C_isUnreadable 18 = .ok (.ireturn, 1) := by decide +kernel
theorem d_C_mark_0 : decode b_C_mark 0 = .ok (.aload_n 0, 1) := by decide +kernel
theorem d_C_mark_1 : decode b_C_mark 1 = .ok (.invokevirtual 91, 3) := by decide +kernel
theorem d_C_mark_4 : decode b_C_mark 4 = .ok (.ifCond .ne (5), 3) := by decide +kernel
theorem d_C_mark_7 : decode b_C_mark 7 = .ok (.iconst 0, 1) := by decide +kernel
theorem d_C_mark_8 : decode b_C_mark 8 = .ok (.ireturn, 1) := by decide +kernel
theorem d_C_mark_9 : decode b_C_mark 9 = .ok (.aload_n 0, 1) := by decide +kernel
theorem d_C_mark_10 : decode b_C_mark 10 = .ok (.getfield 9, 3) := by decide +kernel
theorem d_C_mark_13 : decode b_C_mark 13 = .ok (.iload_n 1, 1) := by decide +kernel
theorem d_C_mark_14 : decode b_C_mark 14 = .ok (.dup2, 1) := by decide +kernel
theorem d_C_mark_15 : decode b_C_mark 15 = .ok (.iaload, 1) := by decide +kernel
theorem d_C_mark_16 : decode b_C_mark 16 = .ok (.sipush 256, 3) := by decide +kernel
theorem d_C_mark_19 : decode b_C_mark 19 = .ok (.ior, 1) := by decide +kernel
theorem d_C_mark_20 : decode b_C_mark 20 = .ok (.iastore, 1) := by decide +kernel
theorem d_C_mark_21 : decode b_C_mark 21 = .ok (.aload_n 0, 1) := by decide +kernel
theorem d_C_mark_22 : decode b_C_mark 22 = .ok (.getfield 35, 3) := by decide +kernel
theorem d_C_mark_25 : decode b_C_mark 25 = .ok (.iload_n 1, 1) := by decide +kernel
theorem d_C_mark_26 : decode b_C_mark 26 = .ok (.bipush 8, 2) := by decide +kernel
theorem d_C_mark_28 : decode b_C_mark 28 = .ok (.idiv, 1) := by decide +kernel
theorem d_C_mark_29 : decode b_C_mark 29 = .ok (.iconst 1, 1) := by decide +kernel
theorem d_C_mark_30 : decode b_C_mark 30 = .ok (.bastore, 1) := by decide +kernel
theorem d_C_mark_31 : decode b_C_mark 31 = .ok (.iconst 1, 1) := by decide +kernel
theorem d_C_mark_32 : decode b_C_mark 32 = .ok (.ireturn, 1) := by decide +kernel
theorem d_C_blockOfNextPage_0 : decode b_C_blockOfNextPage 0 = .ok (.iconst (-1), 1) := by decide +kernel
theorem d_C_blockOfNextPage_1 : decode b_C_blockOfNextPage 1 = .ok (.istore_n 1, 1) := by decide +kernel
theorem d_C_blockOfNextPage_2 : decode b_C_blockOfNextPage 2 = .ok (.iconst 0, 1) := by decide +kernel
theorem d_C_blockOfNextPage_3 : decode b_C_blockOfNextPage 3 = .ok (.istore_n 2, 1) := by decide +kernel
theorem d_C_blockOfNextPage_4 : decode b_C_blockOfNextPage 4 = .ok (.iload_n 2, 1) := by decide +kernel
theorem d_C_blockOfNextPage_5 : decode b_C_blockOfNextPage 5 = .ok (.bipush 6, 2) := by decide +kernel
theorem d_C_blockOfNextPage_7 : decode b_C_blockOfNextPage 7 = .ok (.if_icmp .ge (50), 3) := by decide +kernel
theorem d_C_blockOfNextPage_10 : decode b_C_blockOfNextPage 10 = .ok (.aload_n 0, 1) := by decide +kernel
theorem d_C_blockOfNextPage_11 : decode b_C_blockOfNextPage 11 = .ok (.getfield 32, 3) := by decide +kernel
theorem d_C_blockOfNextPage_14 : decode b_C_blockOfNextPage 14 = .ok (.iload_n 2, 1) := by decide +kernel
theorem d_C_blockOfNextPage_15 : decode b_C_blockOfNextPage 15 = .ok (.baload, 1) := by decide +kernel
theorem d_C_blockOfNextPage_16 : decode b_C_blockOfNextPage 16 = .ok (.ifCond .ne (35), 3) := by decide +kernel
theorem d_C_blockOfNextPage_19 : decode b_C_blockOfNextPage 19 = .ok (.aload_n 0, 1) := by decide +kernel
theorem d_C_blockOfNextPage_20 : decode b_C_blockOfNextPage 20 = .ok (.getfield 22, 3) := by decide +kernel
theorem d_C_blockOfNextPage_23 : decode b_C_blockOfNextPage 23 = .ok (.iload_n 2, 1) := by decide +kernel
theorem d_C_blockOfNextPage_24 : decode b_C_blockOfNextPage 24 = .ok (.iaload, 1) := by decide +kernel
theorem d_C_blockOfNextPage_25 : decode b_C_blockOfNextPage 25 = .ok (.bipush 8, 2) := by decide +kernel
theorem d_C_blockOfNextPage_27 : decode b_C_blockOfNextPage 27 = .ok (.if_icmp .ne (6), 3) := by decide +kernel
theorem d_C_blockOfNextPage_30 : decode b_C_blockOfNextPage 30 = .ok (.goto (21), 3) := by decide +kernel
theorem d_C_blockOfNextPage_33 : decode b_C_blockOfNextPage 33 = .ok (.aload_n 0, 1) := by decide +kernel
theorem d_C_blockOfNextPage_34 : decode b_C_blockOfNextPage 34 = .ok (.getfield 22, 3) := by decide +kernel
theorem d_C_blockOfNextPage_37 : decode b_C_blockOfNextPage 37 = .ok (.iload_n 2, 1) := by decide +kernel
theorem d_C_blockOfNextPage_38 : decode b_C_blockOfNextPage 38 = .ok (.iaload, 1) := by decide +kernel
theorem d_C_blockOfNextPage_39 : decode b_C_blockOfNextPage 39 = .ok (.ifCond .le (5), 3) := by decide +kernel
theorem d_C_blockOfNextPage_42 : decode b_C_blockOfNextPage 42 = .ok (.iload_n 2, 1) := by decide +kernel
theorem d_C_blockOfNextPage_43 : decode b_C_blockOfNextPage 43 = .ok (.ireturn, 1) := by decide +kernel
theorem d_C_blockOfNextPage_44 : decode b_C_blockOfNextPage 44 = .ok (.iload_n 1, 1) := by decide +kernel
theorem d_C_blockOfNextPage_45 : decode b_C_blockOfNextPage 45 = .ok (.iconst (-1), 1) := by decide +kernel
theorem d_C_blockOfNextPage_46 : decode b_C_blockOfNextPage 46 = .ok (.if_icmp .ne (5), 3) := by decide +kernel
theorem d_C_blockOfNextPage_49 : decode b_C_blockOfNextPage 49 = .ok (.iload_n 2, 1) := by decide +kernel
theorem d_C_blockOfNextPage_50 : decode b_C_blockOfNextPage 50 = .ok (.istore_n 1, 1) := by decide +kernel
theorem d_C_blockOfNextPage_51 : decode b_C_blockOfNextPage 51 = .ok (.iinc 2 (1), 3) := by decide +kernel
theorem d_C_blockOfNextPage_54 : decode b_C_blockOfNextPage 54 = .ok (.goto (-50), 3) := by decide +kernel
theorem d_C_blockOfNextPage_57 : decode b_C_blockOfNextPage 57 = .ok (.iload_n 1, 1) := by decide +kernel
theorem d_C_blockOfNextPage_58 : decode b_C_blockOfNextPage 58 = .ok (.ireturn, 1) := by decide +kernel
