theorem d_S_settleStale_0 : decode b_S_settleStale 0 = .ok (.iconst 0, 1) := by decide +kernel
theorem d_S_settleStale_1 : decode b_S_settleStale 1 = .ok (.istore_n 1, 1) := by decide +kernel
theorem d_S_settleStale_2 : decode b_S_settleStale 2 = .ok (.iload_n 1, 1) := by decide +kernel
theorem d_S_settleStale_3 : decode b_S_settleStale 3 = .ok (.bipush 48, 2) := by decide +kernel
theorem d_S_settleStale_5 : decode b_S_settleStale 5 = .ok (.if_icmp .ge (50), 3) := by decide +kernel
theorem d_S_settleStale_8 : decode b_S_settleStale 8 = .ok (.aload_n 0, 1) := by decide +kernel
theorem d_S_settleStale_9 : decode b_S_settleStale 9 = .ok (.getfield 16, 3) := by decide +kernel
theorem d_S_settleStale_12 : decode b_S_settleStale 12 = .ok (.iload_n 1, 1) := by decide +kernel
theorem d_S_settleStale_13 : decode b_S_settleStale 13 = .ok (.aload_n 0, 1) := by decide +kernel
theorem d_S_settleStale_14 : decode b_S_settleStale 14 = .ok (.getfield 12, 3) := by decide +kernel
theorem d_S_settleStale_17 : decode b_S_settleStale 17 = .ok (.iload_n 1, 1) := by decide +kernel
theorem d_S_settleStale_18 : decode b_S_settleStale 18 = .ok (.invokevirtual 216, 3) := by decide +kernel
theorem d_S_settleStale_21 : decode b_S_settleStale 21 = .ok (.ifCond .eq (26), 3) := by decide +kernel
theorem d_S_settleStale_24 : decode b_S_settleStale 24 = .ok (.aload_n 0, 1) := by decide +kernel
theorem d_S_settleStale_25 : decode b_S_settleStale 25 = .ok (.getfield 12, 3) := by decide +kernel
theorem d_S_settleStale_28 : decode b_S_settleStale 28 = .ok (.iload_n 1, 1) := by decide +kernel
theorem d_S_settleStale_29 : decode b_S_settleStale 29 = .ok (.invokevirtual 222, 3) := by decide +kernel
theorem d_S_settleStale_32 : decode b_S_settleStale 32 = .ok (.ifCond .ne (11), 3) := by decide +kernel
theorem d_S_settleStale_35 : decode b_S_settleStale 35 = .ok (.aload_n 0, 1) := by decide +kernel
theorem d_S_settleStale_36 : decode b_S_settleStale 36 = .ok (.iload_n 1, 1) := by decide +kernel
theorem d_S_settleStale_37 : decode b_S_settleStale 37 = .ok (.invokevirtual 225, 3) := by decide +kernel
theorem d_S_settleStale_40 : decode b_S_settleStale 40 = .ok (.ifCond .eq (7), 3) := by decide +kernel
theorem d_S_settleStale_43 : decode b_S_settleStale 43 = .ok (.iconst 1, 1) := by decide +kernel
theorem d_S_settleStale_44 : decode b_S_settleStale 44 = .ok (.goto (4), 3) := by decide +kernel
theorem d_S_settleStale_47 : decode b_S_settleStale 47 = .ok (.iconst 0, 1) := by decide +kernel
theorem d_S_settleStale_48 : decode b_S_settleStale 48 = .ok (.bastore, 1) := by decide +kernel
theorem d_S_settleStale_49 : decode b_S_settleStale 49 = .ok (.iinc 1 (1), 3) := by decide +kernel
theorem d_S_settleStale_52 : decode b_S_settleStale 52 = .ok (.goto (-50), 3) := by decide +kernel
theorem d_S_settleStale_55 : decode b_S_settleStale 55 = .ok (.return_, 1) := by decide +kernel
theorem d_S_mount_0 : decode b_S_mount 0 = .ok (.iload_n 1, 1) := by decide +kernel
theorem d_S_mount_1 : decode b_S_mount 1 = .ok (.ifCond .ne (13), 3) := by decide +kernel
theorem d_S_mount_4 : decode b_S_mount 4 = .ok (.aload_n 0, 1) := by decide +kernel
theorem d_S_mount_5 : decode b_S_mount 5 = .ok (.getfield 12, 3) := by decide +kernel
theorem d_S_mount_8 : decode b_S_mount 8 = .ok (.getfield 117, 3) := by decide +kernel
theorem d_S_mount_11 : decode b_S_mount 11 = .ok (.ifCond .ne (16), 3) := by decide +kernel
theorem d_S_mount_14 : decode b_S_mount 14 = .ok (.bipush 8, 2) := by decide +kernel
theorem d_S_mount_16 : decode b_S_mount 16 = .ok (.aload_n 0, 1) := by decide +kernel
theorem d_S_mount_17 : decode b_S_mount 17 = .ok (.getfield 12, 3) := by decide +kernel
theorem d_S_mount_20 : decode b_S_mount 20 = .ok (.invokevirtual 120, 3) := by decide +kernel
theorem d_S_mount_23 : decode b_S_mount 23 = .ok (.imul, 1) := by decide +kernel
theorem d_S_mount_24 : decode b_S_mount 24 = .ok (.goto (15), 3) := by decide +kernel
theorem d_S_mount_27 : decode b_S_mount 27 = .ok (.bipush 8, 2) := by decide +kernel
theorem d_S_mount_29 : decode b_S_mount 29 = .ok (.aload_n 0, 1) := by decide +kernel
theorem d_S_mount_30 : decode b_S_mount 30 = .ok (.getfield 12, 3) := by decide +kernel
theorem d_S_mount_33 : decode b_S_mount 33 = .ok (.invokevirtual 123, 3) := by decide +kernel
theorem d_S_mount_36 : decode b_S_mount 36 = .ok (.imul, 1) := by decide +kernel
theorem d_S_mount_37 : decode b_S_mount 37 = .ok (.iconst 1, 1) := by decide +kernel
theorem d_S_mount_38 : decode b_S_mount 38 = .ok (.iadd, 1) := by decide +kernel
theorem d_S_mount_39 : decode b_S_mount 39 = .ok (.istore_n 2, 1) := by decide +kernel
theorem d_S_mount_40 : decode b_S_mount 40 = .ok (.aload_n 0, 1) := by decide +kernel
theorem d_S_mount_41 : decode b_S_mount 41 = .ok (.invokevirtual 126, 3) := by decide +kernel
theorem d_S_mount_44 : decode b_S_mount 44 = .ok (.aload_n 0, 1) := by decide +kernel
theorem d_S_mount_45 : decode b_S_mount 45 = .ok (.aload_n 0, 1) := by decide +kernel
theorem d_S_mount_46 : decode b_S_mount 46 = .ok (.invokevirtual 129, 3) := by decide +kernel
theorem d_S_mount_49 : decode b_S_mount 49 = .ok (.putfield 20, 3) := by decide +kernel
theorem d_S_mount_52 : decode b_S_mount 52 = .ok (.aload_n 0, 1) := by decide +kernel
theorem d_S_mount_53 : decode b_S_mount 53 = .ok (.getfield 20, 3) := by decide +kernel
theorem d_S_mount_56 : decode b_S_mount 56 = .ok (.ifCond .eq (7), 3) := by decide +kernel
theorem d_S_mount_59 : decode b_S_mount 59 = .ok (.iload_n 2, 1) := by decide +kernel
theorem d_S_mount_60 : decode b_S_mount 60 = .ok (.goto (5), 3) := by decide +kernel
theorem d_S_mount_63 : decode b_S_mount 63 = .ok (.bipush (-9), 2) := by decide +kernel
theorem d_S_mount_65 : decode b_S_mount 65 = .ok (.ireturn, 1) := by decide +kernel
theorem d_S_cut_0 : decode b_S_cut 0 = .ok (.aload_n 0, 1) := by decide +kernel
theorem d_S_cut_1 : decode b_S_cut 1 = .ok (.getfield 12, 3) := by decide +kernel
theorem d_S_cut_4 : decode b_S_cut 4 = .ok (.iload_n 1, 1) := by decide +kernel
theorem d_S_cut_5 : decode b_S_cut 5 = .ok (.ifCond .lt (14), 3) := by decide +kernel
theorem d_S_cut_8 : decode b_S_cut 8 = .ok (.iload_n 1, 1) := by decide +kernel
theorem d_S_cut_9 : decode b_S_cut 9 = .ok (.sipush 1000, 3) := by decide +kernel
theorem d_S_cut_12 : decode b_S_cut 12 = .ok (.if_icmp .gt (7), 3) := by decide +kernel
theorem d_S_cut_15 : decode b_S_cut 15 = .ok (.iload_n 1, 1) := by decide +kernel
theorem d_S_cut_16 : decode b_S_cut 16 = .ok (.goto (4), 3) := by decide +kernel
theorem d_S_cut_19 : decode b_S_cut 19 = .ok (.iconst (-1), 1) := by decide +kernel
theorem d_S_cut_20 : decode b_S_cut 20 = .ok (.putfield 132, 3) := by decide +kernel
theorem d_S_cut_23 : decode b_S_cut 23 = .ok (.return_, 1) := by decide +kernel
theorem d_C_turnBit_0 : decode b_C_turnBit 0 = .ok (.aload_n 0, 1) := by decide +kernel
theorem d_C_turnBit_1 : decode b_C_turnBit 1 = .ok (.getfield 32, 3) := by decide +kernel
theorem d_C_turnBit_4 : decode b_C_turnBit 4 = .ok (.iload_n 1, 1) := by decide +kernel
theorem d_C_turnBit_5 : decode b_C_turnBit 5 = .ok (.bipush 8, 2) := by decide +kernel
theorem d_C_turnBit_7 : decode b_C_turnBit 7 = .ok (.idiv, 1) := by decide +kernel
theorem d_C_turnBit_8 : decode b_C_turnBit 8 = .ok (.baload, 1) := by decide +kernel
theorem d_C_turnBit_9 : decode b_C_turnBit 9 = .ok (.ifCond .ne (19), 3) := by decide +kernel
theorem d_C_turnBit_12 : decode b_C_turnBit 12 = .ok (.aload_n 0, 1) := by decide +kernel
theorem d_C_turnBit_13 : decode b_C_turnBit 13 = .ok (.iload_n 1, 1) := by decide +kernel
theorem d_C_turnBit_14 : decode b_C_turnBit 14 = .ok (.invokevirtual 49, 3) := by decide +kernel
theorem d_C_turnBit_17 : decode b_C_turnBit 17 = .ok (.ifCond .eq (11), 3) := by decide +kernel
theorem d_C_turnBit_20 : decode b_C_turnBit 20 = .ok (.aload_n 0, 1) := by decide +kernel
theorem d_C_turnBit_21 : decode b_C_turnBit 21 = .ok (.iload_n 1, 1) := by decide +kernel
theorem d_C_turnBit_22 : decode b_C_turnBit 22 = .ok (.invokevirtual 64, 3) := by decide +kernel
theorem d_C_turnBit_25 : decode b_C_turnBit 25 = .ok (.ifCond .eq (5), 3) := by decide +kernel
theorem d_C_turnBit_28 : decode b_C_turnBit 28 = .ok (.iconst 0, 1) := by decide +kernel
theorem d_C_turnBit_29 : decode b_C_turnBit 29 = .ok (.ireturn, 1) := by decide +kernel
theorem d_C_turnBit_30 : decode b_C_turnBit 30 = .ok (.aload_n 0, 1) := by decide +kernel
theorem d_C_turnBit_31 : decode b_C_turnBit 31 = .ok (.getfield 18, 3) := by decide +kernel
theorem d_C_turnBit_34 : decode b_C_turnBit 34 = .ok (.iload_n 1, 1) := by decide +kernel
theorem d_C_turnBit_35 : decode b_C_turnBit 35 = .ok (.dup2, 1) := by decide +kernel
theorem d_C_turnBit_36 : decode b_C_turnBit 36 = .ok (.laload, 1) := by decide +kernel
theorem d_C_turnBit_37 : decode b_C_turnBit 37 = .ok (.lconst 1, 1) := by decide +kernel
theorem d_C_turnBit_38 : decode b_C_turnBit 38 = .ok (.iload_n 2, 1) := by decide +kernel
theorem d_C_turnBit_39 : decode b_C_turnBit 39 = .ok (.lshl, 1) := by decide +kernel
theorem d_C_turnBit_40 : decode b_C_turnBit 40 = .ok (.lxor, 1) := by decide +kernel
theorem d_C_turnBit_41 : decode b_C_turnBit 41 = .ok (.lastore, 1) := by decide +kernel
theorem d_C_turnBit_42 : decode b_C_turnBit 42 = .ok (.iconst 1, 1) := by decide +kernel
theorem d_C_turnBit_43 : decode b_C_turnBit 43 = .ok (.ireturn, 1) := by decide +kernel
theorem d_S_isBlock_0 : decode b_S_isBlock 0 = .ok (.iload_n 0, 1) := by decide +kernel
theorem d_S_isBlock_1 : decode b_S_isBlock 1 = .ok (.ifCond .lt (13), 3) := by decide +kernel
theorem d_S_isBlock_4 : decode b_S_isBlock 4 = .ok (.iload_n 0, 1) := by decide +kernel
theorem d_S_isBlock_5 : decode b_S_isBlock 5 = .ok (.bipush 6, 2) := by decide +kernel
theorem d_S_isBlock_7 : decode b_S_isBlock 7 = .ok (.if_icmp .ge (7), 3) := by decide +kernel
theorem d_S_isBlock_10 : decode b_S_isBlock 10 = .ok (.iconst 1, 1) := by decide +kernel
theorem d_S_isBlock_11 : decode b_S_isBlock 11 = .ok (.goto (4), 3) := by decide +kernel
theorem d_S_isBlock_14 : decode b_S_isBlock 14 = .ok (.iconst 0, 1) := by decide +kernel
theorem d_S_isBlock_15 : decode b_S_isBlock 15 = .ok (.ireturn, 1) := by decide +kernel
theorem d_S_isPage_0 : decode b_S_isPage 0 = .ok (.iload_n 0, 1) := by decide +kernel
theorem d_S_isPage_1 : decode b_S_isPage 1 = .ok (.invokestatic 142, 3) := by decide +kernel
theorem d_S_isPage_4 : decode b_S_isPage 4 = .ok (.ifCond .eq (17), 3) := by decide +kernel
theorem d_S_isPage_7 : decode b_S_isPage 7 = .ok (.iload_n 1, 1) := by decide +kernel
theorem d_S_isPage_8 : decode b_S_isPage 8 = .ok (.ifCond .lt (13), 3) := by decide +kernel
theorem d_S_isPage_11 : decode b_S_isPage 11 = .ok (.iload_n 1, 1) := by decide +kernel
theorem d_S_isPage_12 : decode b_S_isPage 12 = .ok (.bipush 8, 2) := by decide +kernel
theorem d_S_isPage_14 : decode b_S_isPage 14 = .ok (.if_icmp .ge (7), 3) := by decide +kernel
theorem d_S_isPage_17 : decode b_S_isPage 17 = .ok (.iconst 1, 1) := by decide +kernel
theorem d_S_isPage_18 : decode b_S_isPage 18 = .ok (.goto (4), 3) := by decide +kernel
theorem d_S_isPage_21 : decode b_S_isPage 21 = .ok (.iconst 0, 1) := by decide +kernel
theorem d_S_isPage_22 : decode b_S_isPage 22 = .ok (.ireturn, 1) := by decide +kernel
theorem d_S_flip_0 : decode b_S_flip 0 = .ok (.iload_n 1, 1) := by decide +kernel
theorem d_S_flip_1 : decode b_S_flip 1 = .ok (.iload_n 2, 1) := by decide +kernel
theorem d_S_flip_2 : decode b_S_flip 2 = .ok (.invokestatic 136, 3) := by decide +kernel
theorem d_S_flip_5 : decode b_S_flip 5 = .ok (.ifCond .eq (13), 3) := by decide +kernel
theorem d_S_flip_8 : decode b_S_flip 8 = .ok (.iload_n 3, 1) := by decide +kernel
theorem d_S_flip_9 : decode b_S_flip 9 = .ok (.ifCond .lt (9), 3) := by decide +kernel
theorem d_S_flip_12 : decode b_S_flip 12 = .ok (.iload_n 3, 1) := by decide +kernel
theorem d_S_flip_13 : decode b_S_flip 13 = .ok (.bipush 39, 2) := by decide +kernel
theorem d_S_flip_15 : decode b_S_flip 15 = .ok (.if_icmp .lt (5), 3) := by decide +kernel
theorem d_S_flip_18 : decode b_S_flip 18 = .ok (.iconst 0, 1) := by decide +kernel
theorem d_S_flip_19 : decode b_S_flip 19 = .ok (.ireturn, 1) := by decide +kernel
theorem d_S_flip_20 : decode b_S_flip 20 = .ok (.aload_n 0, 1) := by decide +kernel
theorem d_S_flip_21 : decode b_S_flip 21 = .ok (.getfield 12, 3) := by decide +kernel
theorem d_S_flip_24 : decode b_S_flip 24 = .ok (.iload_n 1, 1) := by decide +kernel
theorem d_S_flip_25 : decode b_S_flip 25 = .ok (.bipush 8, 2) := by decide +kernel
theorem d_S_flip_27 : decode b_S_flip 27 = .ok (.imul, 1) := by decide +kernel
theorem d_S_flip_28 : decode b_S_flip 28 = .ok (.iload_n 2, 1) := by decide +kernel
theorem d_S_flip_29 : decode b_S_flip 29 = .ok (.iadd, 1) := by decide +kernel
theorem d_S_flip_30 : decode b_S_flip 30 = .ok (.iload_n 3, 1) := by decide +kernel
theorem d_S_flip_31 : decode b_S_flip 31 = .ok (.invokevirtual 139, 3) := by decide +kernel
theorem d_S_flip_34 : decode b_S_flip 34 = .ok (.ireturn, 1) := by decide +kernel
theorem d_S_wear_0 : decode b_S_wear 0 = .ok (.iload_n 1, 1) := by decide +kernel
theorem d_S_wear_1 : decode b_S_wear 1 = .ok (.invokestatic 142, 3) := by decide +kernel
theorem d_S_wear_4 : decode b_S_wear 4 = .ok (.ifCond .eq (27), 3) := by decide +kernel
theorem d_S_wear_7 : decode b_S_wear 7 = .ok (.aload_n 0, 1) := by decide +kernel
theorem d_S_wear_8 : decode b_S_wear 8 = .ok (.getfield 12, 3) := by decide +kernel
theorem d_S_wear_11 : decode b_S_wear 11 = .ok (.getfield 145, 3) := by decide +kernel
theorem d_S_wear_14 : decode b_S_wear 14 = .ok (.iload_n 1, 1) := by decide +kernel
theorem d_S_wear_15 : decode b_S_wear 15 = .ok (.baload, 1) := by decide +kernel
theorem d_S_wear_16 : decode b_S_wear 16 = .ok (.ifCond .ne (15), 3) := by decide +kernel
theorem d_S_wear_19 : decode b_S_wear 19 = .ok (.aload_n 0, 1) := by decide +kernel
theorem d_S_wear_20 : decode b_S_wear 20 = .ok (.getfield 12, 3) := by decide +kernel
theorem d_S_wear_23 : decode b_S_wear 23 = .ok (.getfield 148, 3) := by decide +kernel
theorem d_S_wear_26 : decode b_S_wear 26 = .ok (.iload_n 1, 1) := by decide +kernel
theorem d_S_wear_27 : decode b_S_wear 27 = .ok (.baload, 1) := by decide +kernel
theorem d_S_wear_28 : decode b_S_wear 28 = .ok (.ifCond .eq (5), 3) := by decide +kernel
theorem d_S_wear_31 : decode b_S_wear 31 = .ok (.iconst 0, 1) := by decide +kernel
theorem d_S_wear_32 : decode b_S_wear 32 = .ok (.ireturn, 1) := by decide +kernel
theorem d_S_wear_33 : decode b_S_wear 33 = .ok (.aload_n 0, 1) := by decide +kernel
theorem d_S_wear_34 : decode b_S_wear 34 = .ok (.getfield 12, 3) := by decide +kernel
theorem d_S_wear_37 : decode b_S_wear 37 = .ok (.getfield 148, 3) := by decide +kernel
theorem d_S_wear_40 : decode b_S_wear 40 = .ok (.iload_n 1, 1) := by decide +kernel
theorem d_S_wear_41 : decode b_S_wear 41 = .ok (.iconst 1, 1) := by decide +kernel
theorem d_S_wear_42 : decode b_S_wear 42 = .ok (.bastore, 1) := by decide +kernel
theorem d_S_wear_43 : decode b_S_wear 43 = .ok (.iconst 1, 1) := by decide +kernel
theorem d_S_wear_44 : decode b_S_wear 44 = .ok (.ireturn, 1) := by decide +kernel
theorem d_S_tags_0 : decode b_S_tags 0 = .ok (.iload_n 1, 1) := by decide +kernel
theorem d_S_tags_1 : decode b_S_tags 1 = .ok (.iload_n 2, 1) := by decide +kernel
theorem d_S_tags_2 : decode b_S_tags 2 = .ok (.invokestatic 136, 3) := by decide +kernel
theorem d_S_tags_5 : decode b_S_tags 5 = .ok (.ifCond .ne (5), 3) := by decide +kernel
theorem d_S_tags_8 : decode b_S_tags 8 = .ok (.iconst (-1), 1) := by decide +kernel
theorem d_S_tags_9 : decode b_S_tags 9 = .ok (.ireturn, 1) := by decide +kernel
theorem d_S_tags_10 : decode b_S_tags 10 = .ok (.iload_n 1, 1) := by decide +kernel
theorem d_S_tags_11 : decode b_S_tags 11 = .ok (.bipush 8, 2) := by decide +kernel
theorem d_S_tags_13 : decode b_S_tags 13 = .ok (.imul, 1) := by decide +kernel
theorem d_S_tags_14 : decode b_S_tags 14 = .ok (.iload_n 2, 1) := by decide +kernel
theorem d_S_tags_15 : decode b_S_tags 15 = .ok (.iadd, 1) := by decide +kernel
theorem d_S_tags_16 : decode b_S_tags 16 = .ok (.istore_n 3, 1) := by decide +kernel
theorem d_S_tags_17 : decode b_S_tags 17 = .ok (.aload_n 0, 1) := by decide +kernel
theorem d_S_tags_18 : decode b_S_tags 18 = .ok (.getfield 12, 3) := by decide +kernel
theorem d_S_tags_21 : decode b_S_tags 21 = .ok (.iload_n 3, 1) := by decide +kernel
theorem d_S_tags_22 : decode b_S_tags 22 = .ok (.invokevirtual 151, 3) := by decide +kernel
theorem d_S_tags_25 : decode b_S_tags 25 = .ok (.ifCond .eq (15), 3) := by decide +kernel
theorem d_S_tags_28 : decode b_S_tags 28 = .ok (.aload_n 0, 1) := by decide +kernel
theorem d_S_tags_29 : decode b_S_tags 29 = .ok (.getfield 12, 3) := by decide +kernel
theorem d_S_tags_32 : decode b_S_tags 32 = .ok (.getfield 154, 3) := by decide +kernel
theorem d_S_tags_35 : decode b_S_tags 35 = .ok (.iload_n 3, 1) := by decide +kernel
theorem d_S_tags_36 : decode b_S_tags 36 = .ok (.iaload, 1) := by decide +kernel
theorem d_S_tags_37 : decode b_S_tags 37 = .ok (.goto (5), 3) := by decide +kernel
theorem d_S_tags_40 : decode b_S_tags 40 = .ok (.bipush (-2), 2) := by decide +kernel
theorem d_S_tags_42 : decode b_S_tags 42 = .ok (.ireturn, 1) := by decide +kernel
theorem d_S_free_0 : decode b_S_free 0 = .ok (.aload_n 0, 1) := by decide +kernel
theorem d_S_free_1 : decode b_S_free 1 = .ok (.getfield 12, 3) := by decide +kernel
theorem d_S_free_4 : decode b_S_free 4 = .ok (.invokevirtual 158, 3) := by decide +kernel
theorem d_S_free_7 : decode b_S_free 7 = .ok (.ireturn, 1) := by decide +kernel
theorem d_S_erases_0 : decode b_S_erases 0 = .ok (.iload_n 1, 1) := by decide +kernel
theorem d_S_erases_1 : decode b_S_erases 1 = .ok (.invokestatic 142, 3) := by decide +kernel
theorem d_S_erases_4 : decode b_S_erases 4 = .ok (.ifCond .ne (5), 3) := by decide +kernel
theorem d_S_erases_7 : decode b_S_erases 7 = .ok (.iconst (-1), 1) := by decide +kernel
theorem d_S_erases_8 : decode b_S_erases 8 = .ok (.ireturn, 1) := by decide +kernel
theorem d_S_erases_9 : decode b_S_erases 9 = .ok (.iconst 2, 1) := by decide +kernel
theorem d_S_erases_10 : decode b_S_erases 10 = .ok (.aload_n 0, 1) := by decide +kernel
theorem d_S_erases_11 : decode b_S_erases 11 = .ok (.getfield 12, 3) := by decide +kernel
theorem d_S_erases_14 : decode b_S_erases 14 = .ok (.getfield 161, 3) := by decide +kernel
theorem d_S_erases_17 : decode b_S_erases 17 = .ok (.iload_n 1, 1) := by decide +kernel
theorem d_S_erases_18 : decode b_S_erases 18 = .ok (.iaload, 1) := by decide +kernel
theorem d_S_erases_19 : decode b_S_erases 19 = .ok (.imul, 1) := by decide +kernel
theorem d_S_erases_20 : decode b_S_erases 20 = .ok (.aload_n 0, 1) := by decide +kernel
theorem d_S_erases_21 : decode b_S_erases 21 = .ok (.getfield 12, 3) := by decide +kernel
theorem d_S_erases_24 : decode b_S_erases 24 = .ok (.getfield 145, 3) := by decide +kernel
theorem d_S_erases_27 : decode b_S_erases 27 = .ok (.iload_n 1, 1) := by decide +kernel
theorem d_S_erases_28 : decode b_S_erases 28 = .ok (.baload, 1) := by decide +kernel
theorem d_S_erases_29 : decode b_S_erases 29 = .ok (.ifCond .eq (7), 3) := by decide +kernel
theorem d_S_erases_32 : decode b_S_erases 32 = .ok (.iconst 1, 1) := by decide +kernel
theorem d_S_erases_33 : decode b_S_erases 33 = .ok (.goto (4), 3) := by decide +kernel
theorem d_S_erases_36 : decode b_S_erases 36 = .ok (.iconst 0, 1) := by decide +kernel
theorem d_S_erases_37 : decode b_S_erases 37 = .ok (.iadd, 1) := by decide +kernel
theorem d_S_erases_38 : decode b_S_erases 38 = .ok (.ireturn, 1) := by decide +kernel
theorem d_S_steps_0 : decode b_S_steps 0 = .ok (.aload_n 0, 1) := by decide +kernel
theorem d_S_steps_1 : decode b_S_steps 1 = .ok (.getfield 12, 3) := by decide +kernel
theorem d_S_steps_4 : decode b_S_steps 4 = .ok (.getfield 164, 3) := by decide +kernel
theorem d_S_steps_7 : decode b_S_steps 7 = .ok (.ireturn, 1) := by decide +kernel
theorem d_M_step_0 : decode b_M_step 0 = .ok (.aload_n 0, 1) := by decide +kernel
theorem d_M_step_1 : decode b_M_step 1 = .ok (.getfield 60, 3) := by decide +kernel
theorem d_M_step_4 : decode b_M_step 4 = .ok (.ifCond .ne (15), 3) := by decide +kernel
theorem d_M_step_7 : decode b_M_step 7 = .ok (.aload_n 0, 1) := by decide +kernel
theorem d_M_step_8 : decode b_M_step 8 = .ok (.iconst (-1), 1) := by decide +kernel
theorem d_M_step_9 : decode b_M_step 9 = .ok (.putfield 60, 3) := by decide +kernel
theorem d_M_step_12 : decode b_M_step 12 = .ok (.aload_n 0, 1) := by decide +kernel
theorem d_M_step_13 : decode b_M_step 13 = .ok (.iconst 0, 1) := by decide +kernel
theorem d_M_step_14 : decode b_M_step 14 = .ok (.putfield 56, 3) := by decide +kernel
theorem d_M_step_17 : decode b_M_step 17 = .ok (.iconst 0, 1) := by decide +kernel
theorem d_M_step_18 : decode b_M_step 18 = .ok (.ireturn, 1) := by decide +kernel
theorem d_M_step_19 : decode b_M_step 19 = .ok (.aload_n 0, 1) := by decide +kernel
theorem d_M_step_20 : decode b_M_step 20 = .ok (.aload_n 0, 1) := by decide +kernel
theorem d_M_step_21 : decode b_M_step 21 = .ok (.getfield 60, 3) := by decide +kernel
theorem d_M_step_24 : decode b_M_step 24 = .ok (.ifCond .le (12), 3) := by decide +kernel
theorem d_M_step_27 : decode b_M_step 27 = .ok (.aload_n 0, 1) := by decide +kernel
theorem d_M_step_28 : decode b_M_step 28 = .ok (.getfield 60, 3) := by decide +kernel
theorem d_M_step_31 : decode b_M_step 31 = .ok (.iconst 1, 1) := by decide +kernel
theorem d_M_step_32 : decode b_M_step 32 = .ok (.isub, 1) := by decide +kernel
theorem d_M_step_33 : decode b_M_step 33 = .ok (.goto (7), 3) := by decide +kernel
theorem d_M_step_36 : decode b_M_step 36 = .ok (.aload_n 0, 1) := by decide +kernel
theorem d_M_step_37 : decode b_M_step 37 = .ok (.getfield 60, 3) := by decide +kernel
theorem d_M_step_40 : decode b_M_step 40 = .ok (.putfield 60, 3) := by decide +kernel
theorem d_M_step_43 : decode b_M_step 43 = .ok (.aload_n 0, 1) := by decide +kernel
theorem d_M_step_44 : decode b_M_step 44 = .ok (.dup, 1) := by decide +kernel
theorem d_M_step_45 : decode b_M_step 45 = .ok (.getfield 64, 3) := by decide +kernel
theorem d_M_step_48 : decode b_M_step 48 = .ok (.iconst 1, 1) := by decide +kernel
theorem d_M_step_49 : decode b_M_step 49 = .ok (.iadd, 1) := by decide +kernel
theorem d_M_step_50 : decode b_M_step 50 = .ok (.putfield 64, 3) := by decide +kernel
theorem d_M_step_53 : decode b_M_step 53 = .ok (.iconst 1, 1) := by decide +kernel
theorem d_M_step_54 : decode b_M_step 54 = .ok (.ireturn, 1) := by decide +kernel
theorem d_M_programmed_0 : decode b_M_programmed 0 = .ok (.iconst 0, 1) := by decide +kernel
theorem d_M_programmed_1 : decode b_M_programmed 1 = .ok (.istore_n 2, 1) := by decide +kernel
theorem d_M_programmed_2 : decode b_M_programmed 2 = .ok (.bipush 8, 2) := by decide +kernel
theorem d_M_programmed_4 : decode b_M_programmed 4 = .ok (.iload_n 1, 1) := by decide +kernel
theorem d_M_programmed_5 : decode b_M_programmed 5 = .ok (.imul, 1) := by decide +kernel
theorem d_M_programmed_6 : decode b_M_programmed 6 = .ok (.istore_n 3, 1) := by decide +kernel
theorem d_M_programmed_7 : decode b_M_programmed 7 = .ok (.iload_n 3, 1) := by decide +kernel
theorem d_M_programmed_8 : decode b_M_programmed 8 = .ok (.bipush 8, 2) := by decide +kernel
theorem d_M_programmed_10 : decode b_M_programmed 10 = .ok (.iload_n 1, 1) := by decide +kernel
theorem d_M_programmed_11 : decode b_M_programmed 11 = .ok (.imul, 1) := by decide +kernel
theorem d_M_programmed_12 : decode b_M_programmed 12 = .ok (.bipush 8, 2) := by decide +kernel
theorem d_M_programmed_14 : decode b_M_programmed 14 = .ok (.iadd, 1) := by decide +kernel
theorem d_M_programmed_15 : decode b_M_programmed 15 = .ok (.if_icmp .ge (26), 3) := by decide +kernel
theorem d_M_programmed_18 : decode b_M_programmed 18 = .ok (.iload_n 2, 1) := by decide +kernel
theorem d_M_programmed_19 : decode b_M_programmed 19 = .ok (.aload_n 0, 1) := by decide +kernel
theorem d_M_programmed_20 : decode b_M_programmed 20 = .ok (.getfield 7, 3) := by decide +kernel
theorem d_M_programmed_23 : decode b_M_programmed 23 = .ok (.iload_n 3, 1) := by decide +kernel
theorem d_M_programmed_24 : decode b_M_programmed 24 = .ok (.iaload, 1) := by decide +kernel
theorem d_M_programmed_25 : decode b_M_programmed 25 = .ok (.ifCond .ne (7), 3) := by decide +kernel
theorem d_M_programmed_28 : decode b_M_programmed 28 = .ok (.iconst 0, 1) := by decide +kernel
theorem d_M_programmed_29 : decode b_M_programmed 29 = .ok (.goto (4), 3) := by decide +kernel
theorem d_M_programmed_32 : decode b_M_programmed 32 = .ok (.iconst 1, 1) := by decide +kernel
theorem d_M_programmed_33 : decode b_M_programmed 33 = .ok (.iadd, 1) := by decide +kernel
theorem d_M_programmed_34 : decode b_M_programmed 34 = .ok (.istore_n 2, 1) := by decide +kernel
theorem d_M_programmed_35 : decode b_M_programmed 35 = .ok (.iinc 3 (1), 3) := by decide +kernel
theorem d_M_programmed_38 : decode b_M_programmed 38 = .ok (.goto (-31), 3) := by decide +kernel
theorem d_M_programmed_41 : decode b_M_programmed 41 = .ok (.iload_n 2, 1) := by decide +kernel
theorem d_M_programmed_42 : decode b_M_programmed 42 = .ok (.ireturn, 1) := by decide +kernel
theorem d_M_lives_0 : decode b_M_lives 0 = .ok (.iconst 0, 1) := by decide +kernel
theorem d_M_lives_1 : decode b_M_lives 1 = .ok (.istore_n 2, 1) := by decide +kernel
theorem d_M_lives_2 : decode b_M_lives 2 = .ok (.bipush 8, 2) := by decide +kernel
theorem d_M_lives_4 : decode b_M_lives 4 = .ok (.iload_n 1, 1) := by decide +kernel
theorem d_M_lives_5 : decode b_M_lives 5 = .ok (.imul, 1) := by decide +kernel
theorem d_M_lives_6 : decode b_M_lives 6 = .ok (.istore_n 3, 1) := by decide +kernel
theorem d_M_lives_7 : decode b_M_lives 7 = .ok (.iload_n 3, 1) := by decide +kernel
theorem d_M_lives_8 : decode b_M_lives 8 = .ok (.bipush 8, 2) := by decide +kernel
theorem d_M_lives_10 : decode b_M_lives 10 = .ok (.iload_n 1, 1) := by decide +kernel
theorem d_M_lives_11 : decode b_M_lives 11 = .ok (.imul, 1) := by decide +kernel
theorem d_M_lives_12 : decode b_M_lives 12 = .ok (.bipush 8, 2) := by decide +kernel
theorem d_M_lives_14 : decode b_M_lives 14 = .ok (.iadd, 1) := by decide +kernel
theorem d_M_lives_15 : decode b_M_lives 15 = .ok (.if_icmp .ge (27), 3) := by decide +kernel
theorem d_M_lives_18 : decode b_M_lives 18 = .ok (.iload_n 2, 1) := by decide +kernel
theorem d_M_lives_19 : decode b_M_lives 19 = .ok (.aload_n 0, 1) := by decide +kernel
theorem d_M_lives_20 : decode b_M_lives 20 = .ok (.getfield 7, 3) := by decide +kernel
theorem d_M_lives_23 : decode b_M_lives 23 = .ok (.iload_n 3, 1) := by decide +kernel
theorem d_M_lives_24 : decode b_M_lives 24 = .ok (.iaload, 1) := by decide +kernel
theorem d_M_lives_25 : decode b_M_lives 25 = .ok (.iconst 1, 1) := by decide +kernel
theorem d_M_lives_26 : decode b_M_lives 26 = .ok (.if_icmp .ne (7), 3) := by decide +kernel
theorem d_M_lives_29 : decode b_M_lives 29 = .ok (.iconst 1, 1) := by decide +kernel
theorem d_M_lives_30 : decode b_M_lives 30 = .ok (.goto (4), 3) := by decide +kernel
theorem d_M_lives_33 : decode b_M_lives 33 = .ok (.iconst 0, 1) := by decide +kernel
theorem d_M_lives_34 : decode b_M_lives 34 = .ok (.iadd, 1) := by decide +kernel
theorem d_M_lives_35 : decode b_M_lives 35 = .ok (.istore_n 2, 1) := by decide +kernel
theorem d_M_lives_36 : decode b_M_lives 36 = .ok (.iinc 3 (1), 3) := by decide +kernel
theorem d_M_lives_39 : decode b_M_lives 39 = .ok (.goto (-32), 3) := by decide +kernel
theorem d_M_lives_42 : decode b_M_lives 42 = .ok (.iload_n 2, 1) := by decide +kernel
theorem d_M_lives_43 : decode b_M_lives 43 = .ok (.ireturn, 1) := by decide +kernel
theorem d_M_nextPage_0 : decode b_M_nextPage 0 = .ok (.iconst 0, 1) := by decide +kernel
theorem d_M_nextPage_1 : decode b_M_nextPage 1 = .ok (.istore_n 1, 1) := by decide +kernel
theorem d_M_nextPage_2 : decode b_M_nextPage 2 = .ok (.iload_n 1, 1) := by decide +kernel
theorem d_M_nextPage_3 : decode b_M_nextPage 3 = .ok (.bipush 6, 2) := by decide +kernel
theorem d_M_nextPage_5 : decode b_M_nextPage 5 = .ok (.if_icmp .ge (41), 3) := by decide +kernel
theorem d_M_nextPage_8 : decode b_M_nextPage 8 = .ok (.aload_n 0, 1) := by decide +kernel
theorem d_M_nextPage_9 : decode b_M_nextPage 9 = .ok (.iload_n 1, 1) := by decide +kernel
theorem d_M_nextPage_10 : decode b_M_nextPage 10 = .ok (.invokevirtual 67, 3) := by decide +kernel
theorem d_M_nextPage_13 : decode b_M_nextPage 13 = .ok (.istore_n 2, 1) := by decide +kernel
theorem d_M_nextPage_14 : decode b_M_nextPage 14 = .ok (.aload_n 0, 1) := by decide +kernel
theorem d_M_nextPage_15 : decode b_M_nextPage 15 = .ok (.getfield 44, 3) := by decide +kernel
theorem d_M_nextPage_18 : decode b_M_nextPage 18 = .ok (.iload_n 1, 1) := by decide +kernel
theorem d_M_nextPage_19 : decode b_M_nextPage 19 = .ok (.baload, 1) := by decide +kernel
theorem d_M_nextPage_20 : decode b_M_nextPage 20 = .ok (.ifCond .ne (20), 3) := by decide +kernel
theorem d_M_nextPage_23 : decode b_M_nextPage 23 = .ok (.iload_n 2, 1) := by decide +kernel
theorem d_M_nextPage_24 : decode b_M_nextPage 24 = .ok (.ifCond .le (16), 3) := by decide +kernel
theorem d_M_nextPage_27 : decode b_M_nextPage 27 = .ok (.iload_n 2, 1) := by decide +kernel
theorem d_M_nextPage_28 : decode b_M_nextPage 28 = .ok (.bipush 8, 2) := by decide +kernel
theorem d_M_nextPage_30 : decode b_M_nextPage 30 = .ok (.if_icmp .ge (10), 3) := by decide +kernel
theorem d_M_nextPage_33 : decode b_M_nextPage 33 = .ok (.bipush 8, 2) := by decide +kernel
theorem d_M_nextPage_35 : decode b_M_nextPage 35 = .ok (.iload_n 1, 1) := by decide +kernel
theorem d_M_nextPage_36 : decode b_M_nextPage 36 = .ok (.imul, 1) := by decide +kernel
theorem d_M_nextPage_37 : decode b_M_nextPage 37 = .ok (.iload_n 2, 1) := by decide +kernel
theorem d_M_nextPage_38 : decode b_M_nextPage 38 = .ok (.iadd, 1) := by decide +kernel
theorem d_M_nextPage_39 : decode b_M_nextPage 39 = .ok (.ireturn, 1) := by decide +kernel
theorem d_M_nextPage_40 : decode b_M_nextPage 40 = .ok (.iinc 1 (1), 3) := by decide +kernel
theorem d_M_nextPage_43 : decode b_M_nextPage 43 = .ok (.goto (-41), 3) := by decide +kernel
theorem d_M_nextPage_46 : decode b_M_nextPage 46 = .ok (.iconst 0, 1) := by decide +kernel
theorem d_M_nextPage_47 : decode b_M_nextPage 47 = .ok (.istore_n 1, 1) := by decide +kernel
theorem d_M_nextPage_48 : decode b_M_nextPage 48 = .ok (.iload_n 1, 1) := by decide +kernel
theorem d_M_nextPage_49 : decode b_M_nextPage 49 = .ok (.bipush 6, 2) := by decide +kernel
theorem d_M_nextPage_51 : decode b_M_nextPage 51 = .ok (.if_icmp .ge (31), 3) := by decide +kernel
theorem d_M_nextPage_54 : decode b_M_nextPage 54 = .ok (.aload_n 0, 1) := by decide +kernel
theorem d_M_nextPage_55 : decode b_M_nextPage 55 = .ok (.getfield 44, 3) := by decide +kernel
theorem d_M_nextPage_58 : decode b_M_nextPage 58 = .ok (.iload_n 1, 1) := by decide +kernel
theorem d_M_nextPage_59 : decode b_M_nextPage 59 = .ok (.baload, 1) := by decide +kernel
theorem d_M_nextPage_60 : decode b_M_nextPage 60 = .ok (.ifCond .ne (16), 3) := by decide +kernel
theorem d_M_nextPage_63 : decode b_M_nextPage 63 = .ok (.aload_n 0, 1) := by decide +kernel
theorem d_M_nextPage_64 : decode b_M_nextPage 64 = .ok (.iload_n 1, 1) := by decide +kernel
theorem d_M_nextPage_65 : decode b_M_nextPage 65 = .ok (.invokevirtual 67, 3) := by decide +kernel
theorem d_M_nextPage_68 : decode b_M_nextPage 68 = .ok (.ifCond .ne (8), 3) := by decide +kernel
theorem d_M_nextPage_71 : decode b_M_nextPage 71 = .ok (.bipush 8, 2) := by decide +kernel
theorem d_M_nextPage_73 : decode b_M_nextPage 73 = .ok (.iload_n 1, 1) := by decide +kernel
theorem d_M_nextPage_74 : decode b_M_nextPage 74 = .ok (.imul, 1) := by decide +kernel
theorem d_M_nextPage_75 : decode b_M_nextPage 75 = .ok (.ireturn, 1) := by decide +kernel
theorem d_M_nextPage_76 : decode b_M_nextPage 76 = .ok (.iinc 1 (1), 3) := by decide +kernel
theorem d_M_nextPage_79 : decode b_M_nextPage 79 = .ok (.goto (-31), 3) := by decide +kernel
theorem d_M_nextPage_82 : decode b_M_nextPage 82 = .ok (.iconst (-1), 1) := by decide +kernel
theorem d_M_nextPage_83 : decode b_M_nextPage 83 = .ok (.ireturn, 1) := by decide +kernel
