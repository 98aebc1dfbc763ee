theorem d_S_objectsIn_0 : decode b_S_objectsIn 0 = .ok (.iconst 0, 1) := by decide +kernel
theorem d_S_objectsIn_1 : decode b_S_objectsIn 1 = .ok (.istore_n 2, 1) := by decide +kernel
theorem d_S_objectsIn_2 : decode b_S_objectsIn 2 = .ok (.iconst 1, 1) := by decide +kernel
theorem d_S_objectsIn_3 : decode b_S_objectsIn 3 = .ok (.istore_n 3, 1) := by decide +kernel
theorem d_S_objectsIn_4 : decode b_S_objectsIn 4 = .ok (.iload_n 3, 1) := by decide +kernel
theorem d_S_objectsIn_5 : decode b_S_objectsIn 5 = .ok (.bipush 7, 2) := by decide +kernel
theorem d_S_objectsIn_7 : decode b_S_objectsIn 7 = .ok (.if_icmp .gt (21), 3) := by decide +kernel
theorem d_S_objectsIn_10 : decode b_S_objectsIn 10 = .ok (.aload_n 0, 1) := by decide +kernel
theorem d_S_objectsIn_11 : decode b_S_objectsIn 11 = .ok (.iload_n 3, 1) := by decide +kernel
theorem d_S_objectsIn_12 : decode b_S_objectsIn 12 = .ok (.iload_n 1, 1) := by decide +kernel
theorem d_S_objectsIn_13 : decode b_S_objectsIn 13 = .ok (.invokevirtual 172, 3) := by decide +kernel
theorem d_S_objectsIn_16 : decode b_S_objectsIn 16 = .ok (.ifCond .eq (6), 3) := by decide +kernel
theorem d_S_objectsIn_19 : decode b_S_objectsIn 19 = .ok (.iinc 2 (1), 3) := by decide +kernel
theorem d_S_objectsIn_22 : decode b_S_objectsIn 22 = .ok (.iinc 3 (1), 3) := by decide +kernel
theorem d_S_objectsIn_25 : decode b_S_objectsIn 25 = .ok (.goto (-21), 3) := by decide +kernel
theorem d_S_objectsIn_28 : decode b_S_objectsIn 28 = .ok (.iload_n 2, 1) := by decide +kernel
theorem d_S_objectsIn_29 : decode b_S_objectsIn 29 = .ok (.ireturn, 1) := by decide +kernel
theorem d_S_remove_0 : decode b_S_remove 0 = .ok (.aload_n 0, 1) := by decide +kernel
theorem d_S_remove_1 : decode b_S_remove 1 = .ok (.iload_n 1, 1) := by decide +kernel
theorem d_S_remove_2 : decode b_S_remove 2 = .ok (.invokevirtual 82, 3) := by decide +kernel
theorem d_S_remove_5 : decode b_S_remove 5 = .ok (.istore_n 2, 1) := by decide +kernel
theorem d_S_remove_6 : decode b_S_remove 6 = .ok (.iload_n 2, 1) := by decide +kernel
theorem d_S_remove_7 : decode b_S_remove 7 = .ok (.ifCond .eq (5), 3) := by decide +kernel
theorem d_S_remove_10 : decode b_S_remove 10 = .ok (.iload_n 2, 1) := by decide +kernel
theorem d_S_remove_11 : decode b_S_remove 11 = .ok (.ireturn, 1) := by decide +kernel
theorem d_S_remove_12 : decode b_S_remove 12 = .ok (.aload_n 0, 1) := by decide +kernel
theorem d_S_remove_13 : decode b_S_remove 13 = .ok (.iload_n 1, 1) := by decide +kernel
theorem d_S_remove_14 : decode b_S_remove 14 = .ok (.invokevirtual 91, 3) := by decide +kernel
theorem d_S_remove_17 : decode b_S_remove 17 = .ok (.ifCond .le (6), 3) := by decide +kernel
theorem d_S_remove_20 : decode b_S_remove 20 = .ok (.bipush (-8), 2) := by decide +kernel
theorem d_S_remove_22 : decode b_S_remove 22 = .ok (.ireturn, 1) := by decide +kernel
theorem d_S_remove_23 : decode b_S_remove 23 = .ok (.aload_n 0, 1) := by decide +kernel
theorem d_S_remove_24 : decode b_S_remove 24 = .ok (.iload_n 1, 1) := by decide +kernel
theorem d_S_remove_25 : decode b_S_remove 25 = .ok (.iconst 0, 1) := by decide +kernel
theorem d_S_remove_26 : decode b_S_remove 26 = .ok (.invokevirtual 79, 3) := by decide +kernel
theorem d_S_remove_29 : decode b_S_remove 29 = .ok (.ifCond .eq (7), 3) := by decide +kernel
theorem d_S_remove_32 : decode b_S_remove 32 = .ok (.iconst 0, 1) := by decide +kernel
theorem d_S_remove_33 : decode b_S_remove 33 = .ok (.goto (7), 3) := by decide +kernel
theorem d_S_remove_36 : decode b_S_remove 36 = .ok (.aload_n 0, 1) := by decide +kernel
theorem d_S_remove_37 : decode b_S_remove 37 = .ok (.invokevirtual 49, 3) := by decide +kernel
theorem d_S_remove_40 : decode b_S_remove 40 = .ok (.ireturn, 1) := by decide +kernel
theorem d_S_find_0 : decode b_S_find 0 = .ok (.aload_n 0, 1) := by decide +kernel
theorem d_S_find_1 : decode b_S_find 1 = .ok (.iload_n 1, 1) := by decide +kernel
theorem d_S_find_2 : decode b_S_find 2 = .ok (.invokevirtual 24, 3) := by decide +kernel
theorem d_S_find_5 : decode b_S_find 5 = .ok (.istore_n 3, 1) := by decide +kernel
theorem d_S_find_6 : decode b_S_find 6 = .ok (.iload_n 3, 1) := by decide +kernel
theorem d_S_find_7 : decode b_S_find 7 = .ok (.ifCond .eq (7), 3) := by decide +kernel
theorem d_S_find_10 : decode b_S_find 10 = .ok (.iload_n 3, 1) := by decide +kernel
theorem d_S_find_11 : decode b_S_find 11 = .ok (.goto (9), 3) := by decide +kernel
theorem d_S_find_14 : decode b_S_find 14 = .ok (.aload_n 0, 1) := by decide +kernel
theorem d_S_find_15 : decode b_S_find 15 = .ok (.iload_n 1, 1) := by decide +kernel
theorem d_S_find_16 : decode b_S_find 16 = .ok (.iload_n 2, 1) := by decide +kernel
theorem d_S_find_17 : decode b_S_find 17 = .ok (.invokevirtual 28, 3) := by decide +kernel
theorem d_S_find_20 : decode b_S_find 20 = .ok (.ireturn, 1) := by decide +kernel
theorem d_S_size_0 : decode b_S_size 0 = .ok (.aload_n 0, 1) := by decide +kernel
theorem d_S_size_1 : decode b_S_size 1 = .ok (.getfield 20, 3) := by decide +kernel
theorem d_S_size_4 : decode b_S_size 4 = .ok (.ifCond .ne (6), 3) := by decide +kernel
theorem d_S_size_7 : decode b_S_size 7 = .ok (.bipush (-9), 2) := by decide +kernel
theorem d_S_size_9 : decode b_S_size 9 = .ok (.ireturn, 1) := by decide +kernel
theorem d_S_size_10 : decode b_S_size 10 = .ok (.iload_n 1, 1) := by decide +kernel
theorem d_S_size_11 : decode b_S_size 11 = .ok (.ifCond .eq (13), 3) := by decide +kernel
theorem d_S_size_14 : decode b_S_size 14 = .ok (.aload_n 0, 1) := by decide +kernel
theorem d_S_size_15 : decode b_S_size 15 = .ok (.iload_n 1, 1) := by decide +kernel
theorem d_S_size_16 : decode b_S_size 16 = .ok (.invokevirtual 94, 3) := by decide +kernel
theorem d_S_size_19 : decode b_S_size 19 = .ok (.ifCond .ne (5), 3) := by decide +kernel
theorem d_S_size_22 : decode b_S_size 22 = .ok (.iconst (-1), 1) := by decide +kernel
theorem d_S_size_23 : decode b_S_size 23 = .ok (.ireturn, 1) := by decide +kernel
theorem d_S_size_24 : decode b_S_size 24 = .ok (.aload_n 0, 1) := by decide +kernel
theorem d_S_size_25 : decode b_S_size 25 = .ok (.iload_n 1, 1) := by decide +kernel
theorem d_S_size_26 : decode b_S_size 26 = .ok (.invokevirtual 98, 3) := by decide +kernel
theorem d_S_size_29 : decode b_S_size 29 = .ok (.ifCond .eq (11), 3) := by decide +kernel
theorem d_S_size_32 : decode b_S_size 32 = .ok (.aload_n 0, 1) := by decide +kernel
theorem d_S_size_33 : decode b_S_size 33 = .ok (.iload_n 1, 1) := by decide +kernel
theorem d_S_size_34 : decode b_S_size 34 = .ok (.invokevirtual 91, 3) := by decide +kernel
theorem d_S_size_37 : decode b_S_size 37 = .ok (.goto (11), 3) := by decide +kernel
theorem d_S_size_40 : decode b_S_size 40 = .ok (.aload_n 0, 1) := by decide +kernel
theorem d_S_size_41 : decode b_S_size 41 = .ok (.iload_n 1, 1) := by decide +kernel
theorem d_S_size_42 : decode b_S_size 42 = .ok (.invokevirtual 55, 3) := by decide +kernel
theorem d_S_size_45 : decode b_S_size 45 = .ok (.invokestatic 58, 3) := by decide +kernel
theorem d_S_size_48 : decode b_S_size 48 = .ok (.ireturn, 1) := by decide +kernel
theorem d_S_parentOf_0 : decode b_S_parentOf 0 = .ok (.aload_n 0, 1) := by decide +kernel
theorem d_S_parentOf_1 : decode b_S_parentOf 1 = .ok (.iload_n 1, 1) := by decide +kernel
theorem d_S_parentOf_2 : decode b_S_parentOf 2 = .ok (.invokevirtual 82, 3) := by decide +kernel
theorem d_S_parentOf_5 : decode b_S_parentOf 5 = .ok (.istore_n 2, 1) := by decide +kernel
theorem d_S_parentOf_6 : decode b_S_parentOf 6 = .ok (.iload_n 2, 1) := by decide +kernel
theorem d_S_parentOf_7 : decode b_S_parentOf 7 = .ok (.ifCond .eq (7), 3) := by decide +kernel
theorem d_S_parentOf_10 : decode b_S_parentOf 10 = .ok (.iload_n 2, 1) := by decide +kernel
theorem d_S_parentOf_11 : decode b_S_parentOf 11 = .ok (.goto (11), 3) := by decide +kernel
theorem d_S_parentOf_14 : decode b_S_parentOf 14 = .ok (.aload_n 0, 1) := by decide +kernel
theorem d_S_parentOf_15 : decode b_S_parentOf 15 = .ok (.iload_n 1, 1) := by decide +kernel
theorem d_S_parentOf_16 : decode b_S_parentOf 16 = .ok (.invokevirtual 55, 3) := by decide +kernel
theorem d_S_parentOf_19 : decode b_S_parentOf 19 = .ok (.invokestatic 101, 3) := by decide +kernel
theorem d_S_parentOf_22 : decode b_S_parentOf 22 = .ok (.ireturn, 1) := by decide +kernel
theorem d_S_nameOf_0 : decode b_S_nameOf 0 = .ok (.aload_n 0, 1) := by decide +kernel
theorem d_S_nameOf_1 : decode b_S_nameOf 1 = .ok (.iload_n 1, 1) := by decide +kernel
theorem d_S_nameOf_2 : decode b_S_nameOf 2 = .ok (.invokevirtual 82, 3) := by decide +kernel
theorem d_S_nameOf_5 : decode b_S_nameOf 5 = .ok (.istore_n 2, 1) := by decide +kernel
theorem d_S_nameOf_6 : decode b_S_nameOf 6 = .ok (.iload_n 2, 1) := by decide +kernel
theorem d_S_nameOf_7 : decode b_S_nameOf 7 = .ok (.ifCond .eq (12), 3) := by decide +kernel
theorem d_S_nameOf_10 : decode b_S_nameOf 10 = .ok (.ldc2_w 71, 3) := by decide +kernel
theorem d_S_nameOf_13 : decode b_S_nameOf 13 = .ok (.iload_n 2, 1) := by decide +kernel
theorem d_S_nameOf_14 : decode b_S_nameOf 14 = .ok (.i2l, 1) := by decide +kernel
theorem d_S_nameOf_15 : decode b_S_nameOf 15 = .ok (.ladd, 1) := by decide +kernel
theorem d_S_nameOf_16 : decode b_S_nameOf 16 = .ok (.goto (8), 3) := by decide +kernel
theorem d_S_nameOf_19 : decode b_S_nameOf 19 = .ok (.aload_n 0, 1) := by decide +kernel
theorem d_S_nameOf_20 : decode b_S_nameOf 20 = .ok (.iload_n 1, 1) := by decide +kernel
theorem d_S_nameOf_21 : decode b_S_nameOf 21 = .ok (.invokevirtual 104, 3) := by decide +kernel
theorem d_S_nameOf_24 : decode b_S_nameOf 24 = .ok (.lreturn, 1) := by decide +kernel
theorem d_C_countLive_0 : decode b_C_countLive 0 = .ok (.iconst 0, 1) := by decide +kernel
theorem d_C_countLive_1 : decode b_C_countLive 1 = .ok (.istore_n 1, 1) := by decide +kernel
theorem d_C_countLive_2 : decode b_C_countLive 2 = .ok (.iconst 0, 1) := by decide +kernel
theorem d_C_countLive_3 : decode b_C_countLive 3 = .ok (.istore_n 2, 1) := by decide +kernel
theorem d_C_countLive_4 : decode b_C_countLive 4 = .ok (.iload_n 2, 1) := by decide +kernel
theorem d_C_countLive_5 : decode b_C_countLive 5 = .ok (.bipush 6, 2) := by decide +kernel
theorem d_C_countLive_7 : decode b_C_countLive 7 = .ok (.if_icmp .ge (17), 3) := by decide +kernel
theorem d_C_countLive_10 : decode b_C_countLive 10 = .ok (.iload_n 1, 1) := by decide +kernel
theorem d_C_countLive_11 : decode b_C_countLive 11 = .ok (.aload_n 0, 1) := by decide +kernel
theorem d_C_countLive_12 : decode b_C_countLive 12 = .ok (.iload_n 2, 1) := by decide +kernel
theorem d_C_countLive_13 : decode b_C_countLive 13 = .ok (.invokevirtual 83, 3) := by decide +kernel
theorem d_C_countLive_16 : decode b_C_countLive 16 = .ok (.iadd, 1) := by decide +kernel
theorem d_C_countLive_17 : decode b_C_countLive 17 = .ok (.istore_n 1, 1) := by decide +kernel
theorem d_C_countLive_18 : decode b_C_countLive 18 = .ok (.iinc 2 (1), 3) := by decide +kernel
theorem d_C_countLive_21 : decode b_C_countLive 21 = .ok (.goto (-17), 3) := by decide +kernel
theorem d_C_countLive_24 : decode b_C_countLive 24 = .ok (.iload_n 1, 1) := by decide +kernel
theorem d_C_countLive_25 : decode b_C_countLive 25 = .ok (.ireturn, 1) := by decide +kernel
theorem d_C_dropRegion_0 : decode b_C_dropRegion 0 = .ok (.aload_n 0, 1) := by decide +kernel
theorem d_C_dropRegion_1 : decode b_C_dropRegion 1 = .ok (.invokevirtual 91, 3) := by decide +kernel
theorem d_C_dropRegion_4 : decode b_C_dropRegion 4 = .ok (.ifCond .ne (5), 3) := by decide +kernel
theorem d_C_dropRegion_7 : decode b_C_dropRegion 7 = .ok (.iconst 0, 1) := by decide +kernel
theorem d_C_dropRegion_8 : decode b_C_dropRegion 8 = .ok (.ireturn, 1) := by decide +kernel
theorem d_C_dropRegion_9 : decode b_C_dropRegion 9 = .ok (.aload_n 0, 1) := by decide +kernel
theorem d_C_dropRegion_10 : decode b_C_dropRegion 10 = .ok (.iconst 0, 1) := by decide +kernel
theorem d_C_dropRegion_11 : decode b_C_dropRegion 11 = .ok (.putfield 38, 3) := by decide +kernel
theorem d_C_dropRegion_14 : decode b_C_dropRegion 14 = .ok (.iconst 1, 1) := by decide +kernel
theorem d_C_dropRegion_15 : decode b_C_dropRegion 15 = .ok (.ireturn, 1) := by decide +kernel
theorem d_C_fillRegion_0 : decode b_C_fillRegion 0 = .ok (.aload_n 0, 1) := by decide +kernel
theorem d_C_fillRegion_1 : decode b_C_fillRegion 1 = .ok (.invokevirtual 91, 3) := by decide +kernel
theorem d_C_fillRegion_4 : decode b_C_fillRegion 4 = .ok (.ifCond .ne (5), 3) := by decide +kernel
theorem d_C_fillRegion_7 : decode b_C_fillRegion 7 = .ok (.iconst 0, 1) := by decide +kernel
theorem d_C_fillRegion_8 : decode b_C_fillRegion 8 = .ok (.ireturn, 1) := by decide +kernel
theorem d_C_fillRegion_9 : decode b_C_fillRegion 9 = .ok (.aload_n 0, 1) := by decide +kernel
theorem d_C_fillRegion_10 : decode b_C_fillRegion 10 = .ok (.iconst 1, 1) := by decide +kernel
theorem d_C_fillRegion_11 : decode b_C_fillRegion 11 = .ok (.putfield 38, 3) := by decide +kernel
theorem d_C_fillRegion_14 : decode b_C_fillRegion 14 = .ok (.iconst 0, 1) := by decide +kernel
theorem d_C_fillRegion_15 : decode b_C_fillRegion 15 = .ok (.istore_n 1, 1) := by decide +kernel
theorem d_C_fillRegion_16 : decode b_C_fillRegion 16 = .ok (.iload_n 1, 1) := by decide +kernel
theorem d_C_fillRegion_17 : decode b_C_fillRegion 17 = .ok (.bipush 6, 2) := by decide +kernel
theorem d_C_fillRegion_19 : decode b_C_fillRegion 19 = .ok (.if_icmp .ge (16), 3) := by decide +kernel
theorem d_C_fillRegion_22 : decode b_C_fillRegion 22 = .ok (.aload_n 0, 1) := by decide +kernel
theorem d_C_fillRegion_23 : decode b_C_fillRegion 23 = .ok (.getfield 35, 3) := by decide +kernel
theorem d_C_fillRegion_26 : decode b_C_fillRegion 26 = .ok (.iload_n 1, 1) := by decide +kernel
theorem d_C_fillRegion_27 : decode b_C_fillRegion 27 = .ok (.iconst 0, 1) := by decide +kernel
theorem d_C_fillRegion_28 : decode b_C_fillRegion 28 = .ok (.bastore, 1) := by decide +kernel
theorem d_C_fillRegion_29 : decode b_C_fillRegion 29 = .ok (.iinc 1 (1), 3) := by decide +kernel
theorem d_C_fillRegion_32 : decode b_C_fillRegion 32 = .ok (.goto (-16), 3) := by decide +kernel
theorem d_C_fillRegion_35 : decode b_C_fillRegion 35 = .ok (.iconst 1, 1) := by decide +kernel
theorem d_C_fillRegion_36 : decode b_C_fillRegion 36 = .ok (.ireturn, 1) := by decide +kernel
theorem d_S_checkpoint_0 : decode b_S_checkpoint 0 = .ok (.aload_n 0, 1) := by decide +kernel
theorem d_S_checkpoint_1 : decode b_S_checkpoint 1 = .ok (.getfield 20, 3) := by decide +kernel
theorem d_S_checkpoint_4 : decode b_S_checkpoint 4 = .ok (.ifCond .ne (6), 3) := by decide +kernel
theorem d_S_checkpoint_7 : decode b_S_checkpoint 7 = .ok (.bipush (-9), 2) := by decide +kernel
theorem d_S_checkpoint_9 : decode b_S_checkpoint 9 = .ok (.ireturn, 1) := by decide +kernel
theorem d_S_checkpoint_10 : decode b_S_checkpoint 10 = .ok (.aload_n 0, 1) := by decide +kernel
theorem d_S_checkpoint_11 : decode b_S_checkpoint 11 = .ok (.getfield 12, 3) := by decide +kernel
theorem d_S_checkpoint_14 : decode b_S_checkpoint 14 = .ok (.invokevirtual 107, 3) := by decide +kernel
theorem d_S_checkpoint_17 : decode b_S_checkpoint 17 = .ok (.ifCond .eq (23), 3) := by decide +kernel
theorem d_S_checkpoint_20 : decode b_S_checkpoint 20 = .ok (.aload_n 0, 1) := by decide +kernel
theorem d_S_checkpoint_21 : decode b_S_checkpoint 21 = .ok (.getfield 12, 3) := by decide +kernel
theorem d_S_checkpoint_24 : decode b_S_checkpoint 24 = .ok (.invokevirtual 111, 3) := by decide +kernel
theorem d_S_checkpoint_27 : decode b_S_checkpoint 27 = .ok (.ifCond .eq (13), 3) := by decide +kernel
theorem d_S_checkpoint_30 : decode b_S_checkpoint 30 = .ok (.aload_n 0, 1) := by decide +kernel
theorem d_S_checkpoint_31 : decode b_S_checkpoint 31 = .ok (.getfield 12, 3) := by decide +kernel
theorem d_S_checkpoint_34 : decode b_S_checkpoint 34 = .ok (.invokevirtual 114, 3) := by decide +kernel
theorem d_S_checkpoint_37 : decode b_S_checkpoint 37 = .ok (.goto (7), 3) := by decide +kernel
theorem d_S_checkpoint_40 : decode b_S_checkpoint 40 = .ok (.aload_n 0, 1) := by decide +kernel
theorem d_S_checkpoint_41 : decode b_S_checkpoint 41 = .ok (.invokevirtual 49, 3) := by decide +kernel
theorem d_S_checkpoint_44 : decode b_S_checkpoint 44 = .ok (.ireturn, 1) := by decide +kernel
theorem d_C_countGood_0 : decode b_C_countGood 0 = .ok (.iconst 0, 1) := by decide +kernel
theorem d_C_countGood_1 : decode b_C_countGood 1 = .ok (.istore_n 1, 1) := by decide +kernel
theorem d_C_countGood_2 : decode b_C_countGood 2 = .ok (.iconst 0, 1) := by decide +kernel
theorem d_C_countGood_3 : decode b_C_countGood 3 = .ok (.istore_n 2, 1) := by decide +kernel
theorem d_C_countGood_4 : decode b_C_countGood 4 = .ok (.iload_n 2, 1) := by decide +kernel
theorem d_C_countGood_5 : decode b_C_countGood 5 = .ok (.bipush 6, 2) := by decide +kernel
theorem d_C_countGood_7 : decode b_C_countGood 7 = .ok (.if_icmp .ge (21), 3) := by decide +kernel
theorem d_C_countGood_10 : decode b_C_countGood 10 = .ok (.aload_n 0, 1) := by decide +kernel
theorem d_C_countGood_11 : decode b_C_countGood 11 = .ok (.getfield 32, 3) := by decide +kernel
theorem d_C_countGood_14 : decode b_C_countGood 14 = .ok (.iload_n 2, 1) := by decide +kernel
theorem d_C_countGood_15 : decode b_C_countGood 15 = .ok (.baload, 1) := by decide +kernel
theorem d_C_countGood_16 : decode b_C_countGood 16 = .ok (.ifCond .ne (6), 3) := by decide +kernel
theorem d_C_countGood_19 : decode b_C_countGood 19 = .ok (.iinc 1 (1), 3) := by decide +kernel
theorem d_C_countGood_22 : decode b_C_countGood 22 = .ok (.iinc 2 (1), 3) := by decide +kernel
theorem d_C_countGood_25 : decode b_C_countGood 25 = .ok (.goto (-21), 3) := by decide +kernel
theorem d_C_countGood_28 : decode b_C_countGood 28 = .ok (.iload_n 1, 1) := by decide +kernel
theorem d_C_countGood_29 : decode b_C_countGood 29 = .ok (.ireturn, 1) := by decide +kernel
theorem d_C_countGoodTouched_0 : decode b_C_countGoodTouched 0 = .ok (.iconst 0, 1) := by decide +kernel
theorem d_C_countGoodTouched_1 : decode b_C_countGoodTouched 1 = .ok (.istore_n 1, 1) := by decide +kernel
theorem d_C_countGoodTouched_2 : decode b_C_countGoodTouched 2 = .ok (.iconst 0, 1) := by decide +kernel
theorem d_C_countGoodTouched_3 : decode b_C_countGoodTouched 3 = .ok (.istore_n 2, 1) := by decide +kernel
theorem d_C_countGoodTouched_4 : decode b_C_countGoodTouched 4 = .ok (.iload_n 2, 1) := by decide +kernel
theorem d_C_countGoodTouched_5 : decode b_C_countGoodTouched 5 = .ok (.bipush 6, 2) := by decide +kernel
theorem d_C_countGoodTouched_7 : decode b_C_countGoodTouched 7 = .ok (.if_icmp .ge (30), 3) := by decide +kernel
theorem d_C_countGoodTouched_10 : decode b_C_countGoodTouched 10 = .ok (.aload_n 0, 1) := by decide +kernel
theorem d_C_countGoodTouched_11 : decode b_C_countGoodTouched 11 = .ok (.getfield 32, 3) := by decide +kernel
theorem d_C_countGoodTouched_14 : decode b_C_countGoodTouched 14 = .ok (.iload_n 2, 1) := by decide +kernel
theorem d_C_countGoodTouched_15 : decode b_C_countGoodTouched 15 = .ok (.baload, 1) := by decide +kernel
theorem d_C_countGoodTouched_16 : decode b_C_countGoodTouched 16 = .ok (.ifCond .ne (15), 3) := by decide +kernel
theorem d_C_countGoodTouched_19 : decode b_C_countGoodTouched 19 = .ok (.aload_n 0, 1) := by decide +kernel
theorem d_C_countGoodTouched_20 : decode b_C_countGoodTouched 20 = .ok (.getfield 35, 3) := by decide +kernel
theorem d_C_countGoodTouched_23 : decode b_C_countGoodTouched 23 = .ok (.iload_n 2, 1) := by decide +kernel
theorem d_C_countGoodTouched_24 : decode b_C_countGoodTouched 24 = .ok (.baload, 1) := by decide +kernel
theorem d_C_countGoodTouched_25 : decode b_C_countGoodTouched 25 = .ok (.ifCond .eq (6), 3) := by decide +kernel
theorem d_C_countGoodTouched_28 : decode b_C_countGoodTouched 28 = .ok (.iinc 1 (1), 3) := by decide +kernel
theorem d_C_countGoodTouched_31 : decode b_C_countGoodTouched 31 = .ok (.iinc 2 (1), 3) := by decide +kernel
theorem d_C_countGoodTouched_34 : decode b_C_countGoodTouched 34 = .ok (.goto (-30), 3) := by decide +kernel
theorem d_C_countGoodTouched_37 : decode b_C_countGoodTouched 37 = .ok (.iload_n 1, 1) := by decide +kernel
theorem d_C_countGoodTouched_38 : decode b_C_countGoodTouched 38 = .ok (.ireturn, 1) := by decide +kernel
theorem d_S_markStale_0 : decode b_S_markStale 0 = .ok (.iconst 0, 1) := by decide +kernel
theorem d_S_markStale_1 : decode b_S_markStale 1 = .ok (.istore_n 1, 1) := by decide +kernel
theorem d_S_markStale_2 : decode b_S_markStale 2 = .ok (.iload_n 1, 1) := by decide +kernel
theorem d_S_markStale_3 : decode b_S_markStale 3 = .ok (.bipush 48, 2) := by decide +kernel
theorem d_S_markStale_5 : decode b_S_markStale 5 = .ok (.if_icmp .ge (31), 3) := by decide +kernel
theorem d_S_markStale_8 : decode b_S_markStale 8 = .ok (.aload_n 0, 1) := by decide +kernel
theorem d_S_markStale_9 : decode b_S_markStale 9 = .ok (.getfield 16, 3) := by decide +kernel
theorem d_S_markStale_12 : decode b_S_markStale 12 = .ok (.iload_n 1, 1) := by decide +kernel
theorem d_S_markStale_13 : decode b_S_markStale 13 = .ok (.baload, 1) := by decide +kernel
theorem d_S_markStale_14 : decode b_S_markStale 14 = .ok (.ifCond .eq (16), 3) := by decide +kernel
theorem d_S_markStale_17 : decode b_S_markStale 17 = .ok (.aload_n 0, 1) := by decide +kernel
theorem d_S_markStale_18 : decode b_S_markStale 18 = .ok (.getfield 12, 3) := by decide +kernel
theorem d_S_markStale_21 : decode b_S_markStale 21 = .ok (.iload_n 1, 1) := by decide +kernel
theorem d_S_markStale_22 : decode b_S_markStale 22 = .ok (.invokevirtual 185, 3) := by decide +kernel
theorem d_S_markStale_25 : decode b_S_markStale 25 = .ok (.ifCond .ne (5), 3) := by decide +kernel
theorem d_S_markStale_28 : decode b_S_markStale 28 = .ok (.iconst 0, 1) := by decide +kernel
theorem d_S_markStale_29 : decode b_S_markStale 29 = .ok (.ireturn, 1) := by decide +kernel
theorem d_S_markStale_30 : decode b_S_markStale 30 = .ok (.iinc 1 (1), 3) := by decide +kernel
theorem d_S_markStale_33 : decode b_S_markStale 33 = .ok (.goto (-31), 3) := by decide +kernel
theorem d_S_markStale_36 : decode b_S_markStale 36 = .ok (.iconst 1, 1) := by decide +kernel
theorem d_S_markStale_37 : decode b_S_markStale 37 = .ok (.ireturn, 1) := by decide +kernel
theorem d_T_follow_0 : decode b_T_follow 0 = .ok (.iload_n 0, 1) := by decide +kernel
theorem d_T_follow_1 : decode b_T_follow 1 = .ok (.bipush 63, 2) := by decide +kernel
theorem d_T_follow_3 : decode b_T_follow 3 = .ok (.iand, 1) := by decide +kernel
theorem d_T_follow_4 : decode b_T_follow 4 = .ok (.iload_n 1, 1) := by decide +kernel
theorem d_T_follow_5 : decode b_T_follow 5 = .ok (.bipush 63, 2) := by decide +kernel
theorem d_T_follow_7 : decode b_T_follow 7 = .ok (.iand, 1) := by decide +kernel
theorem d_T_follow_8 : decode b_T_follow 8 = .ok (.if_icmp .ne (22), 3) := by decide +kernel
theorem d_T_follow_11 : decode b_T_follow 11 = .ok (.iload_n 0, 1) := by decide +kernel
theorem d_T_follow_12 : decode b_T_follow 12 = .ok (.invokestatic 14, 3) := by decide +kernel
theorem d_T_follow_15 : decode b_T_follow 15 = .ok (.iload_n 1, 1) := by decide +kernel
theorem d_T_follow_16 : decode b_T_follow 16 = .ok (.sipush 192, 3) := by decide +kernel
theorem d_T_follow_19 : decode b_T_follow 19 = .ok (.iand, 1) := by decide +kernel
theorem d_T_follow_20 : decode b_T_follow 20 = .ok (.bipush 6, 2) := by decide +kernel
theorem d_T_follow_22 : decode b_T_follow 22 = .ok (.ishr, 1) := by decide +kernel
theorem d_T_follow_23 : decode b_T_follow 23 = .ok (.if_icmp .ne (7), 3) := by decide +kernel
theorem d_T_follow_26 : decode b_T_follow 26 = .ok (.iconst 1, 1) := by decide +kernel
theorem d_T_follow_27 : decode b_T_follow 27 = .ok (.goto (4), 3) := by decide +kernel
theorem d_T_follow_30 : decode b_T_follow 30 = .ok (.iconst 0, 1) := by decide +kernel
theorem d_T_follow_31 : decode b_T_follow 31 = .ok (.ireturn, 1) := by decide +kernel
theorem d_C_hasSuccessor_0 : decode b_C_hasSuccessor 0 = .ok (.iconst 0, 1) := by decide +kernel
theorem d_C_hasSuccessor_1 : decode b_C_hasSuccessor 1 = .ok (.istore_n 2, 1) := by decide +kernel
theorem d_C_hasSuccessor_2 : decode b_C_hasSuccessor 2 = .ok (.iload_n 2, 1) := by decide +kernel
theorem d_C_hasSuccessor_3 : decode b_C_hasSuccessor 3 = .ok (.bipush 48, 2) := by decide +kernel
theorem d_C_hasSuccessor_5 : decode b_C_hasSuccessor 5 = .ok (.if_icmp .ge (37), 3) := by decide +kernel
theorem d_C_hasSuccessor_8 : decode b_C_hasSuccessor 8 = .ok (.aload_n 0, 1) := by decide +kernel
theorem d_C_hasSuccessor_9 : decode b_C_hasSuccessor 9 = .ok (.iload_n 2, 1) := by decide +kernel
theorem d_C_hasSuccessor_10 : decode b_C_hasSuccessor 10 = .ok (.invokevirtual 69, 3) := by decide +kernel
theorem d_C_hasSuccessor_13 : decode b_C_hasSuccessor 13 = .ok (.ifCond .eq (23), 3) := by decide +kernel
theorem d_C_hasSuccessor_16 : decode b_C_hasSuccessor 16 = .ok (.aload_n 0, 1) := by decide +kernel
theorem d_C_hasSuccessor_17 : decode b_C_hasSuccessor 17 = .ok (.getfield 9, 3) := by decide +kernel
theorem d_C_hasSuccessor_20 : decode b_C_hasSuccessor 20 = .ok (.iload_n 1, 1) := by decide +kernel
theorem d_C_hasSuccessor_21 : decode b_C_hasSuccessor 21 = .ok (.iaload, 1) := by decide +kernel
theorem d_C_hasSuccessor_22 : decode b_C_hasSuccessor 22 = .ok (.aload_n 0, 1) := by decide +kernel
theorem d_C_hasSuccessor_23 : decode b_C_hasSuccessor 23 = .ok (.getfield 9, 3) := by decide +kernel
theorem d_C_hasSuccessor_26 : decode b_C_hasSuccessor 26 = .ok (.iload_n 2, 1) := by decide +kernel
theorem d_C_hasSuccessor_27 : decode b_C_hasSuccessor 27 = .ok (.iaload, 1) := by decide +kernel
theorem d_C_hasSuccessor_28 : decode b_C_hasSuccessor 28 = .ok (.invokestatic 79, 3) := by decide +kernel
theorem d_C_hasSuccessor_31 : decode b_C_hasSuccessor 31 = .ok (.ifCond .eq (5), 3) := by decide +kernel
theorem d_C_hasSuccessor_34 : decode b_C_hasSuccessor 34 = .ok (.iconst 1, 1) := by decide +kernel
theorem d_C_hasSuccessor_35 : decode b_C_hasSuccessor 35 = .ok (.ireturn, 1) := by decide +kernel
theorem d_C_hasSuccessor_36 : decode b_C_hasSuccessor 36 = .ok (.iinc 2 (1), 3) := by decide +kernel
theorem d_C_hasSuccessor_39 : decode b_C_hasSuccessor 39 = .ok (.goto (-37), 3) := by decide +kernel
theorem d_C_hasSuccessor_42 : decode b_C_hasSuccessor 42 = .ok (.iconst 0, 1) := by decide +kernel
theorem d_C_hasSuccessor_43 : decode b_C_hasSuccessor 43 = .ok (.ireturn, 1) := by decide +kernel
theorem d_C_latestHeader_0 : decode b_C_latestHeader 0 = .ok (.iconst 0, 1) := by decide +kernel
theorem d_C_latestHeader_1 : decode b_C_latestHeader 1 = .ok (.istore_n 2, 1) := by decide +kernel
theorem d_C_latestHeader_2 : decode b_C_latestHeader 2 = .ok (.iload_n 2, 1) := by decide +kernel
theorem d_C_latestHeader_3 : decode b_C_latestHeader 3 = .ok (.bipush 48, 2) := by decide +kernel
theorem d_C_latestHeader_5 : decode b_C_latestHeader 5 = .ok (.if_icmp .ge (41), 3) := by decide +kernel
theorem d_C_latestHeader_8 : decode b_C_latestHeader 8 = .ok (.aload_n 0, 1) := by decide +kernel
theorem d_C_latestHeader_9 : decode b_C_latestHeader 9 = .ok (.iload_n 2, 1) := by decide +kernel
theorem d_C_latestHeader_10 : decode b_C_latestHeader 10 = .ok (.invokevirtual 69, 3) := by decide +kernel
theorem d_C_latestHeader_13 : decode b_C_latestHeader 13 = .ok (.ifCond .eq (27), 3) := by decide +kernel
theorem d_C_latestHeader_16 : decode b_C_latestHeader 16 = .ok (.aload_n 0, 1) := by decide +kernel
theorem d_C_latestHeader_17 : decode b_C_latestHeader 17 = .ok (.getfield 9, 3) := by decide +kernel
theorem d_C_latestHeader_20 : decode b_C_latestHeader 20 = .ok (.iload_n 2, 1) := by decide +kernel
theorem d_C_latestHeader_21 : decode b_C_latestHeader 21 = .ok (.iaload, 1) := by decide +kernel
theorem d_C_latestHeader_22 : decode b_C_latestHeader 22 = .ok (.iload_n 1, 1) := by decide +kernel
theorem d_C_latestHeader_23 : decode b_C_latestHeader 23 = .ok (.iconst 0, 1) := by decide +kernel
theorem d_C_latestHeader_24 : decode b_C_latestHeader 24 = .ok (.invokestatic 72, 3) := by decide +kernel
theorem d_C_latestHeader_27 : decode b_C_latestHeader 27 = .ok (.ifCond .eq (13), 3) := by decide +kernel
theorem d_C_latestHeader_30 : decode b_C_latestHeader 30 = .ok (.aload_n 0, 1) := by decide +kernel
theorem d_C_latestHeader_31 : decode b_C_latestHeader 31 = .ok (.iload_n 2, 1) := by decide +kernel
theorem d_C_latestHeader_32 : decode b_C_latestHeader 32 = .ok (.invokevirtual 76, 3) := by decide +kernel
theorem d_C_latestHeader_35 : decode b_C_latestHeader 35 = .ok (.ifCond .ne (5), 3) := by decide +kernel
theorem d_C_latestHeader_38 : decode b_C_latestHeader 38 = .ok (.iload_n 2, 1) := by decide +kernel
theorem d_C_latestHeader_39 : decode b_C_latestHeader 39 = .ok (.ireturn, 1) := by decide +kernel
theorem d_C_latestHeader_40 : decode b_C_latestHeader 40 = .ok (.iinc 2 (1), 3) := by decide +kernel
theorem d_C_latestHeader_43 : decode b_C_latestHeader 43 = .ok (.goto (-41), 3) := by decide +kernel
theorem d_C_latestHeader_46 : decode b_C_latestHeader 46 = .ok (.iconst (-1), 1) := by decide +kernel
theorem d_C_latestHeader_47 : decode b_C_latestHeader 47 = .ok (.ireturn, 1) := by decide +kernel
theorem d_T_chunk_0 : decode b_T_chunk 0 = .ok (.iload_n 0, 1) := by decide +kernel
theorem d_T_chunk_1 : decode b_T_chunk 1 = .ok (.iconst 3, 1) := by decide +kernel
theorem d_T_chunk_2 : decode b_T_chunk 2 = .ok (.ishr, 1) := by decide +kernel
theorem d_T_chunk_3 : decode b_T_chunk 3 = .ok (.bipush 7, 2) := by decide +kernel
theorem d_T_chunk_5 : decode b_T_chunk 5 = .ok (.iand, 1) := by decide +kernel
theorem d_T_chunk_6 : decode b_T_chunk 6 = .ok (.ireturn, 1) := by decide +kernel
theorem d_T_object_0 : decode b_T_object 0 = .ok (.iload_n 0, 1) := by decide +kernel
theorem d_T_object_1 : decode b_T_object 1 = .ok (.bipush 7, 2) := by decide +kernel
theorem d_T_object_3 : decode b_T_object 3 = .ok (.iand, 1) := by decide +kernel
theorem d_T_object_4 : decode b_T_object 4 = .ok (.ireturn, 1) := by decide +kernel
theorem d_S_isBeyondFile_0 : decode b_S_isBeyondFile 0 = .ok (.aload_n 0, 1) := by decide +kernel
theorem d_S_isBeyondFile_1 : decode b_S_isBeyondFile 1 = .ok (.getfield 12, 3) := by decide +kernel
theorem d_S_isBeyondFile_4 : decode b_S_isBeyondFile 4 = .ok (.getfield 154, 3) := by decide +kernel
theorem d_S_isBeyondFile_7 : decode b_S_isBeyondFile 7 = .ok (.iload_n 1, 1) := by decide +kernel
theorem d_S_isBeyondFile_8 : decode b_S_isBeyondFile 8 = .ok (.iaload, 1) := by decide +kernel
theorem d_S_isBeyondFile_9 : decode b_S_isBeyondFile 9 = .ok (.invokestatic 228, 3) := by decide +kernel
theorem d_S_isBeyondFile_12 : decode b_S_isBeyondFile 12 = .ok (.istore_n 2, 1) := by decide +kernel
theorem d_S_isBeyondFile_13 : decode b_S_isBeyondFile 13 = .ok (.iload_n 2, 1) := by decide +kernel
theorem d_S_isBeyondFile_14 : decode b_S_isBeyondFile 14 = .ok (.ifCond .ne (5), 3) := by decide +kernel
theorem d_S_isBeyondFile_17 : decode b_S_isBeyondFile 17 = .ok (.iconst 0, 1) := by decide +kernel
theorem d_S_isBeyondFile_18 : decode b_S_isBeyondFile 18 = .ok (.ireturn, 1) := by decide +kernel
theorem d_S_isBeyondFile_19 : decode b_S_isBeyondFile 19 = .ok (.aload_n 0, 1) := by decide +kernel
theorem d_S_isBeyondFile_20 : decode b_S_isBeyondFile 20 = .ok (.getfield 12, 3) := by decide +kernel
theorem d_S_isBeyondFile_23 : decode b_S_isBeyondFile 23 = .ok (.aload_n 0, 1) := by decide +kernel
theorem d_S_isBeyondFile_24 : decode b_S_isBeyondFile 24 = .ok (.getfield 12, 3) := by decide +kernel
theorem d_S_isBeyondFile_27 : decode b_S_isBeyondFile 27 = .ok (.getfield 154, 3) := by decide +kernel
theorem d_S_isBeyondFile_30 : decode b_S_isBeyondFile 30 = .ok (.iload_n 1, 1) := by decide +kernel
theorem d_S_isBeyondFile_31 : decode b_S_isBeyondFile 31 = .ok (.iaload, 1) := by decide +kernel
theorem d_S_isBeyondFile_32 : decode b_S_isBeyondFile 32 = .ok (.invokestatic 231, 3) := by decide +kernel
theorem d_S_isBeyondFile_35 : decode b_S_isBeyondFile 35 = .ok (.invokevirtual 234, 3) := by decide +kernel
theorem d_S_isBeyondFile_38 : decode b_S_isBeyondFile 38 = .ok (.istore_n 3, 1) := by decide +kernel
theorem d_S_isBeyondFile_39 : decode b_S_isBeyondFile 39 = .ok (.iload_n 3, 1) := by decide +kernel
theorem d_S_isBeyondFile_40 : decode b_S_isBeyondFile 40 = .ok (.iconst (-1), 1) := by decide +kernel
theorem d_S_isBeyondFile_41 : decode b_S_isBeyondFile 41 = .ok (.if_icmp .eq (19), 3) := by decide +kernel
theorem d_S_isBeyondFile_44 : decode b_S_isBeyondFile 44 = .ok (.iload_n 2, 1) := by decide +kernel
theorem d_S_isBeyondFile_45 : decode b_S_isBeyondFile 45 = .ok (.aload_n 0, 1) := by decide +kernel
theorem d_S_isBeyondFile_46 : decode b_S_isBeyondFile 46 = .ok (.getfield 12, 3) := by decide +kernel
theorem d_S_isBeyondFile_49 : decode b_S_isBeyondFile 49 = .ok (.getfield 154, 3) := by decide +kernel
theorem d_S_isBeyondFile_52 : decode b_S_isBeyondFile 52 = .ok (.iload_n 3, 1) := by decide +kernel
theorem d_S_isBeyondFile_53 : decode b_S_isBeyondFile 53 = .ok (.iaload, 1) := by decide +kernel
theorem d_S_isBeyondFile_54 : decode b_S_isBeyondFile 54 = .ok (.invokestatic 58, 3) := by decide +kernel
theorem d_S_isBeyondFile_57 : decode b_S_isBeyondFile 57 = .ok (.if_icmp .le (7), 3) := by decide +kernel
theorem d_S_isBeyondFile_60 : decode b_S_isBeyondFile 60 = .ok (.iconst 1, 1) := by decide +kernel
theorem d_S_isBeyondFile_61 : decode b_S_isBeyondFile 61 = .ok (.goto (4), 3) := by decide +kernel
theorem d_S_isBeyondFile_64 : decode b_S_isBeyondFile 64 = .ok (.iconst 0, 1) := by decide +kernel
theorem d_S_isBeyondFile_65 : decode b_S_isBeyondFile 65 = .ok (.ireturn, 1) := by decide +kernel
