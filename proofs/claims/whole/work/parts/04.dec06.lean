theorem d_M_room_0 : decode b_M_room 0 = .ok (.iconst 0, 1) := by decide +kernel
theorem d_M_room_1 : decode b_M_room 1 = .ok (.istore_n 2, 1) := by decide +kernel
theorem d_M_room_2 : decode b_M_room 2 = .ok (.iload_n 2, 1) := by decide +kernel
theorem d_M_room_3 : decode b_M_room 3 = .ok (.bipush 100, 2) := by decide +kernel
theorem d_M_room_5 : decode b_M_room 5 = .ok (.if_icmp .ge (45), 3) := by decide +kernel
theorem d_M_room_8 : decode b_M_room 8 = .ok (.aload_n 0, 1) := by decide +kernel
theorem d_M_room_9 : decode b_M_room 9 = .ok (.invokevirtual 122, 3) := by decide +kernel
theorem d_M_room_12 : decode b_M_room 12 = .ok (.bipush 8, 2) := by decide +kernel
theorem d_M_room_14 : decode b_M_room 14 = .ok (.iload_n 1, 1) := by decide +kernel
theorem d_M_room_15 : decode b_M_room 15 = .ok (.iadd, 1) := by decide +kernel
theorem d_M_room_16 : decode b_M_room 16 = .ok (.if_icmp .lt (5), 3) := by decide +kernel
theorem d_M_room_19 : decode b_M_room 19 = .ok (.iconst 0, 1) := by decide +kernel
theorem d_M_room_20 : decode b_M_room 20 = .ok (.ireturn, 1) := by decide +kernel
theorem d_M_room_21 : decode b_M_room 21 = .ok (.aload_n 0, 1) := by decide +kernel
theorem d_M_room_22 : decode b_M_room 22 = .ok (.invokevirtual 128, 3) := by decide +kernel
theorem d_M_room_25 : decode b_M_room 25 = .ok (.istore_n 3, 1) := by decide +kernel
theorem d_M_room_26 : decode b_M_room 26 = .ok (.iload_n 3, 1) := by decide +kernel
theorem d_M_room_27 : decode b_M_room 27 = .ok (.ifCond .ge (6), 3) := by decide +kernel
theorem d_M_room_30 : decode b_M_room 30 = .ok (.bipush (-6), 2) := by decide +kernel
theorem d_M_room_32 : decode b_M_room 32 = .ok (.ireturn, 1) := by decide +kernel
theorem d_M_room_33 : decode b_M_room 33 = .ok (.aload_n 0, 1) := by decide +kernel
theorem d_M_room_34 : decode b_M_room 34 = .ok (.iload_n 3, 1) := by decide +kernel
theorem d_M_room_35 : decode b_M_room 35 = .ok (.invokevirtual 131, 3) := by decide +kernel
theorem d_M_room_38 : decode b_M_room 38 = .ok (.ifCond .ne (6), 3) := by decide +kernel
theorem d_M_room_41 : decode b_M_room 41 = .ok (.bipush (-9), 2) := by decide +kernel
theorem d_M_room_43 : decode b_M_room 43 = .ok (.ireturn, 1) := by decide +kernel
theorem d_M_room_44 : decode b_M_room 44 = .ok (.iinc 2 (1), 3) := by decide +kernel
theorem d_M_room_47 : decode b_M_room 47 = .ok (.goto (-45), 3) := by decide +kernel
theorem d_M_room_50 : decode b_M_room 50 = .ok (.bipush (-6), 2) := by decide +kernel
theorem d_M_room_52 : decode b_M_room 52 = .ok (.ireturn, 1) := by decide +kernel
theorem d_M_header_0 : decode b_M_header 0 = .ok (.iload_n 1, 1) := by decide +kernel
theorem d_M_header_1 : decode b_M_header 1 = .ok (.iconst 1, 1) := by decide +kernel
theorem d_M_header_2 : decode b_M_header 2 = .ok (.if_icmp .lt (18), 3) := by decide +kernel
theorem d_M_header_5 : decode b_M_header 5 = .ok (.iload_n 1, 1) := by decide +kernel
theorem d_M_header_6 : decode b_M_header 6 = .ok (.bipush 7, 2) := by decide +kernel
theorem d_M_header_8 : decode b_M_header 8 = .ok (.if_icmp .gt (12), 3) := by decide +kernel
theorem d_M_header_11 : decode b_M_header 11 = .ok (.aload_n 0, 1) := by decide +kernel
theorem d_M_header_12 : decode b_M_header 12 = .ok (.iload_n 1, 1) := by decide +kernel
theorem d_M_header_13 : decode b_M_header 13 = .ok (.iconst 0, 1) := by decide +kernel
theorem d_M_header_14 : decode b_M_header 14 = .ok (.invokevirtual 81, 3) := by decide +kernel
theorem d_M_header_17 : decode b_M_header 17 = .ok (.goto (4), 3) := by decide +kernel
theorem d_M_header_20 : decode b_M_header 20 = .ok (.iconst (-1), 1) := by decide +kernel
theorem d_M_header_21 : decode b_M_header 21 = .ok (.ireturn, 1) := by decide +kernel
theorem d_M_directory_0 : decode b_M_directory 0 = .ok (.aload_n 0, 1) := by decide +kernel
theorem d_M_directory_1 : decode b_M_directory 1 = .ok (.iload_n 1, 1) := by decide +kernel
theorem d_M_directory_2 : decode b_M_directory 2 = .ok (.invokevirtual 134, 3) := by decide +kernel
theorem d_M_directory_5 : decode b_M_directory 5 = .ok (.istore_n 2, 1) := by decide +kernel
theorem d_M_directory_6 : decode b_M_directory 6 = .ok (.iload_n 1, 1) := by decide +kernel
theorem d_M_directory_7 : decode b_M_directory 7 = .ok (.ifCond .eq (16), 3) := by decide +kernel
theorem d_M_directory_10 : decode b_M_directory 10 = .ok (.iload_n 2, 1) := by decide +kernel
theorem d_M_directory_11 : decode b_M_directory 11 = .ok (.ifCond .lt (16), 3) := by decide +kernel
theorem d_M_directory_14 : decode b_M_directory 14 = .ok (.aload_n 0, 1) := by decide +kernel
theorem d_M_directory_15 : decode b_M_directory 15 = .ok (.getfield 31, 3) := by decide +kernel
theorem d_M_directory_18 : decode b_M_directory 18 = .ok (.iload_n 2, 1) := by decide +kernel
theorem d_M_directory_19 : decode b_M_directory 19 = .ok (.baload, 1) := by decide +kernel
theorem d_M_directory_20 : decode b_M_directory 20 = .ok (.ifCond .eq (7), 3) := by decide +kernel
theorem d_M_directory_23 : decode b_M_directory 23 = .ok (.iconst 1, 1) := by decide +kernel
theorem d_M_directory_24 : decode b_M_directory 24 = .ok (.goto (4), 3) := by decide +kernel
theorem d_M_directory_27 : decode b_M_directory 27 = .ok (.iconst 0, 1) := by decide +kernel
theorem d_M_directory_28 : decode b_M_directory 28 = .ok (.ireturn, 1) := by decide +kernel
theorem d_M_there_0 : decode b_M_there 0 = .ok (.iload_n 1, 1) := by decide +kernel
theorem d_M_there_1 : decode b_M_there 1 = .ok (.ifCond .eq (11), 3) := by decide +kernel
theorem d_M_there_4 : decode b_M_there 4 = .ok (.aload_n 0, 1) := by decide +kernel
theorem d_M_there_5 : decode b_M_there 5 = .ok (.iload_n 1, 1) := by decide +kernel
theorem d_M_there_6 : decode b_M_there 6 = .ok (.invokevirtual 134, 3) := by decide +kernel
theorem d_M_there_9 : decode b_M_there 9 = .ok (.ifCond .lt (7), 3) := by decide +kernel
theorem d_M_there_12 : decode b_M_there 12 = .ok (.iconst 1, 1) := by decide +kernel
theorem d_M_there_13 : decode b_M_there 13 = .ok (.goto (4), 3) := by decide +kernel
theorem d_M_there_16 : decode b_M_there 16 = .ok (.iconst 0, 1) := by decide +kernel
theorem d_M_there_17 : decode b_M_there 17 = .ok (.ireturn, 1) := by decide +kernel
theorem d_M_named_0 : decode b_M_named 0 = .ok (.iconst 1, 1) := by decide +kernel
theorem d_M_named_1 : decode b_M_named 1 = .ok (.istore 4, 2) := by decide +kernel
theorem d_M_named_3 : decode b_M_named 3 = .ok (.iload 4, 2) := by decide +kernel
theorem d_M_named_5 : decode b_M_named 5 = .ok (.bipush 7, 2) := by decide +kernel
theorem d_M_named_7 : decode b_M_named 7 = .ok (.if_icmp .gt (63), 3) := by decide +kernel
theorem d_M_named_10 : decode b_M_named 10 = .ok (.aload_n 0, 1) := by decide +kernel
theorem d_M_named_11 : decode b_M_named 11 = .ok (.iload 4, 2) := by decide +kernel
theorem d_M_named_13 : decode b_M_named 13 = .ok (.invokevirtual 134, 3) := by decide +kernel
theorem d_M_named_16 : decode b_M_named 16 = .ok (.istore 5, 2) := by decide +kernel
theorem d_M_named_18 : decode b_M_named 18 = .ok (.iload 4, 2) := by decide +kernel
theorem d_M_named_20 : decode b_M_named 20 = .ok (.iload_n 3, 1) := by decide +kernel
theorem d_M_named_21 : decode b_M_named 21 = .ok (.if_icmp .eq (43), 3) := by decide +kernel
theorem d_M_named_24 : decode b_M_named 24 = .ok (.iload 5, 2) := by decide +kernel
theorem d_M_named_26 : decode b_M_named 26 = .ok (.ifCond .lt (38), 3) := by decide +kernel
theorem d_M_named_29 : decode b_M_named 29 = .ok (.aload_n 0, 1) := by decide +kernel
theorem d_M_named_30 : decode b_M_named 30 = .ok (.getfield 25, 3) := by decide +kernel
theorem d_M_named_33 : decode b_M_named 33 = .ok (.iload 5, 2) := by decide +kernel
theorem d_M_named_35 : decode b_M_named 35 = .ok (.iaload, 1) := by decide +kernel
theorem d_M_named_36 : decode b_M_named 36 = .ok (.iload_n 1, 1) := by decide +kernel
theorem d_M_named_37 : decode b_M_named 37 = .ok (.if_icmp .ne (27), 3) := by decide +kernel
theorem d_M_named_40 : decode b_M_named 40 = .ok (.aload_n 0, 1) := by decide +kernel
theorem d_M_named_41 : decode b_M_named 41 = .ok (.getfield 38, 3) := by decide +kernel
theorem d_M_named_44 : decode b_M_named 44 = .ok (.iload 5, 2) := by decide +kernel
theorem d_M_named_46 : decode b_M_named 46 = .ok (.iaload, 1) := by decide +kernel
theorem d_M_named_47 : decode b_M_named 47 = .ok (.ifCond .ge (17), 3) := by decide +kernel
theorem d_M_named_50 : decode b_M_named 50 = .ok (.aload_n 0, 1) := by decide +kernel
theorem d_M_named_51 : decode b_M_named 51 = .ok (.getfield 22, 3) := by decide +kernel
theorem d_M_named_54 : decode b_M_named 54 = .ok (.iload 5, 2) := by decide +kernel
theorem d_M_named_56 : decode b_M_named 56 = .ok (.iaload, 1) := by decide +kernel
theorem d_M_named_57 : decode b_M_named 57 = .ok (.iload_n 2, 1) := by decide +kernel
theorem d_M_named_58 : decode b_M_named 58 = .ok (.if_icmp .ne (6), 3) := by decide +kernel
theorem d_M_named_61 : decode b_M_named 61 = .ok (.iload 4, 2) := by decide +kernel
theorem d_M_named_63 : decode b_M_named 63 = .ok (.ireturn, 1) := by decide +kernel
theorem d_M_named_64 : decode b_M_named 64 = .ok (.iinc 4 (1), 3) := by decide +kernel
theorem d_M_named_67 : decode b_M_named 67 = .ok (.goto (-64), 3) := by decide +kernel
theorem d_M_named_70 : decode b_M_named 70 = .ok (.iconst 0, 1) := by decide +kernel
theorem d_M_named_71 : decode b_M_named 71 = .ok (.ireturn, 1) := by decide +kernel
theorem d_M_inside_0 : decode b_M_inside 0 = .ok (.iconst 0, 1) := by decide +kernel
theorem d_M_inside_1 : decode b_M_inside 1 = .ok (.istore_n 2, 1) := by decide +kernel
theorem d_M_inside_2 : decode b_M_inside 2 = .ok (.iconst 1, 1) := by decide +kernel
theorem d_M_inside_3 : decode b_M_inside 3 = .ok (.istore_n 3, 1) := by decide +kernel
theorem d_M_inside_4 : decode b_M_inside 4 = .ok (.iload_n 3, 1) := by decide +kernel
theorem d_M_inside_5 : decode b_M_inside 5 = .ok (.bipush 7, 2) := by decide +kernel
theorem d_M_inside_7 : decode b_M_inside 7 = .ok (.if_icmp .gt (40), 3) := by decide +kernel
theorem d_M_inside_10 : decode b_M_inside 10 = .ok (.aload_n 0, 1) := by decide +kernel
theorem d_M_inside_11 : decode b_M_inside 11 = .ok (.iload_n 3, 1) := by decide +kernel
theorem d_M_inside_12 : decode b_M_inside 12 = .ok (.invokevirtual 134, 3) := by decide +kernel
theorem d_M_inside_15 : decode b_M_inside 15 = .ok (.istore 4, 2) := by decide +kernel
theorem d_M_inside_17 : decode b_M_inside 17 = .ok (.iload_n 2, 1) := by decide +kernel
theorem d_M_inside_18 : decode b_M_inside 18 = .ok (.iload 4, 2) := by decide +kernel
theorem d_M_inside_20 : decode b_M_inside 20 = .ok (.ifCond .lt (18), 3) := by decide +kernel
theorem d_M_inside_23 : decode b_M_inside 23 = .ok (.aload_n 0, 1) := by decide +kernel
theorem d_M_inside_24 : decode b_M_inside 24 = .ok (.getfield 25, 3) := by decide +kernel
theorem d_M_inside_27 : decode b_M_inside 27 = .ok (.iload 4, 2) := by decide +kernel
theorem d_M_inside_29 : decode b_M_inside 29 = .ok (.iaload, 1) := by decide +kernel
theorem d_M_inside_30 : decode b_M_inside 30 = .ok (.iload_n 1, 1) := by decide +kernel
theorem d_M_inside_31 : decode b_M_inside 31 = .ok (.if_icmp .ne (7), 3) := by decide +kernel
theorem d_M_inside_34 : decode b_M_inside 34 = .ok (.iconst 1, 1) := by decide +kernel
theorem d_M_inside_35 : decode b_M_inside 35 = .ok (.goto (4), 3) := by decide +kernel
theorem d_M_inside_38 : decode b_M_inside 38 = .ok (.iconst 0, 1) := by decide +kernel
theorem d_M_inside_39 : decode b_M_inside 39 = .ok (.iadd, 1) := by decide +kernel
theorem d_M_inside_40 : decode b_M_inside 40 = .ok (.istore_n 2, 1) := by decide +kernel
theorem d_M_inside_41 : decode b_M_inside 41 = .ok (.iinc 3 (1), 3) := by decide +kernel
theorem d_M_inside_44 : decode b_M_inside 44 = .ok (.goto (-40), 3) := by decide +kernel
theorem d_M_inside_47 : decode b_M_inside 47 = .ok (.iload_n 2, 1) := by decide +kernel
theorem d_M_inside_48 : decode b_M_inside 48 = .ok (.ireturn, 1) := by decide +kernel
theorem d_M_create_0 : decode b_M_create 0 = .ok (.aload_n 0, 1) := by decide +kernel
theorem d_M_create_1 : decode b_M_create 1 = .ok (.getfield 56, 3) := by decide +kernel
theorem d_M_create_4 : decode b_M_create 4 = .ok (.ifCond .ne (6), 3) := by decide +kernel
theorem d_M_create_7 : decode b_M_create 7 = .ok (.bipush (-9), 2) := by decide +kernel
theorem d_M_create_9 : decode b_M_create 9 = .ok (.ireturn, 1) := by decide +kernel
theorem d_M_create_10 : decode b_M_create 10 = .ok (.aload_n 0, 1) := by decide +kernel
theorem d_M_create_11 : decode b_M_create 11 = .ok (.iload_n 1, 1) := by decide +kernel
theorem d_M_create_12 : decode b_M_create 12 = .ok (.invokevirtual 137, 3) := by decide +kernel
theorem d_M_create_15 : decode b_M_create 15 = .ok (.ifCond .ne (5), 3) := by decide +kernel
theorem d_M_create_18 : decode b_M_create 18 = .ok (.iconst (-1), 1) := by decide +kernel
theorem d_M_create_19 : decode b_M_create 19 = .ok (.ireturn, 1) := by decide +kernel
theorem d_M_create_20 : decode b_M_create 20 = .ok (.aload_n 0, 1) := by decide +kernel
theorem d_M_create_21 : decode b_M_create 21 = .ok (.iload_n 1, 1) := by decide +kernel
theorem d_M_create_22 : decode b_M_create 22 = .ok (.invokevirtual 140, 3) := by decide +kernel
theorem d_M_create_25 : decode b_M_create 25 = .ok (.ifCond .ne (6), 3) := by decide +kernel
theorem d_M_create_28 : decode b_M_create 28 = .ok (.bipush (-2), 2) := by decide +kernel
theorem d_M_create_30 : decode b_M_create 30 = .ok (.ireturn, 1) := by decide +kernel
theorem d_M_create_31 : decode b_M_create 31 = .ok (.aload_n 0, 1) := by decide +kernel
theorem d_M_create_32 : decode b_M_create 32 = .ok (.iload_n 1, 1) := by decide +kernel
theorem d_M_create_33 : decode b_M_create 33 = .ok (.iload_n 2, 1) := by decide +kernel
theorem d_M_create_34 : decode b_M_create 34 = .ok (.iconst 0, 1) := by decide +kernel
theorem d_M_create_35 : decode b_M_create 35 = .ok (.invokevirtual 143, 3) := by decide +kernel
theorem d_M_create_38 : decode b_M_create 38 = .ok (.ifCond .le (6), 3) := by decide +kernel
theorem d_M_create_41 : decode b_M_create 41 = .ok (.bipush (-4), 2) := by decide +kernel
theorem d_M_create_43 : decode b_M_create 43 = .ok (.ireturn, 1) := by decide +kernel
theorem d_M_create_44 : decode b_M_create 44 = .ok (.iconst 1, 1) := by decide +kernel
theorem d_M_create_45 : decode b_M_create 45 = .ok (.istore 4, 2) := by decide +kernel
theorem d_M_create_47 : decode b_M_create 47 = .ok (.iload 4, 2) := by decide +kernel
theorem d_M_create_49 : decode b_M_create 49 = .ok (.bipush 7, 2) := by decide +kernel
theorem d_M_create_51 : decode b_M_create 51 = .ok (.if_icmp .gt (18), 3) := by decide +kernel
theorem d_M_create_54 : decode b_M_create 54 = .ok (.aload_n 0, 1) := by decide +kernel
theorem d_M_create_55 : decode b_M_create 55 = .ok (.iload 4, 2) := by decide +kernel
theorem d_M_create_57 : decode b_M_create 57 = .ok (.invokevirtual 134, 3) := by decide +kernel
theorem d_M_create_60 : decode b_M_create 60 = .ok (.ifCond .lt (9), 3) := by decide +kernel
theorem d_M_create_63 : decode b_M_create 63 = .ok (.iinc 4 (1), 3) := by decide +kernel
theorem d_M_create_66 : decode b_M_create 66 = .ok (.goto (-19), 3) := by decide +kernel
theorem d_M_create_69 : decode b_M_create 69 = .ok (.iload 4, 2) := by decide +kernel
theorem d_M_create_71 : decode b_M_create 71 = .ok (.bipush 7, 2) := by decide +kernel
theorem d_M_create_73 : decode b_M_create 73 = .ok (.if_icmp .le (6), 3) := by decide +kernel
theorem d_M_create_76 : decode b_M_create 76 = .ok (.bipush (-5), 2) := by decide +kernel
theorem d_M_create_78 : decode b_M_create 78 = .ok (.ireturn, 1) := by decide +kernel
theorem d_M_create_79 : decode b_M_create 79 = .ok (.aload_n 0, 1) := by decide +kernel
theorem d_M_create_80 : decode b_M_create 80 = .ok (.iconst 1, 1) := by decide +kernel
theorem d_M_create_81 : decode b_M_create 81 = .ok (.invokevirtual 147, 3) := by decide +kernel
theorem d_M_create_84 : decode b_M_create 84 = .ok (.istore 5, 2) := by decide +kernel
theorem d_M_create_86 : decode b_M_create 86 = .ok (.iload 5, 2) := by decide +kernel
theorem d_M_create_88 : decode b_M_create 88 = .ok (.ifCond .ge (6), 3) := by decide +kernel
theorem d_M_create_91 : decode b_M_create 91 = .ok (.iload 5, 2) := by decide +kernel
theorem d_M_create_93 : decode b_M_create 93 = .ok (.ireturn, 1) := by decide +kernel
theorem d_M_create_94 : decode b_M_create 94 = .ok (.aload_n 0, 1) := by decide +kernel
theorem d_M_create_95 : decode b_M_create 95 = .ok (.iload 4, 2) := by decide +kernel
theorem d_M_create_97 : decode b_M_create 97 = .ok (.iconst 0, 1) := by decide +kernel
theorem d_M_create_98 : decode b_M_create 98 = .ok (.iload_n 2, 1) := by decide +kernel
theorem d_M_create_99 : decode b_M_create 99 = .ok (.invokevirtual 111, 3) := by decide +kernel
theorem d_M_create_102 : decode b_M_create 102 = .ok (.aload_n 0, 1) := by decide +kernel
theorem d_M_create_103 : decode b_M_create 103 = .ok (.iload_n 1, 1) := by decide +kernel
theorem d_M_create_104 : decode b_M_create 104 = .ok (.putfield 92, 3) := by decide +kernel
theorem d_M_create_107 : decode b_M_create 107 = .ok (.aload_n 0, 1) := by decide +kernel
theorem d_M_create_108 : decode b_M_create 108 = .ok (.iload_n 3, 1) := by decide +kernel
theorem d_M_create_109 : decode b_M_create 109 = .ok (.putfield 98, 3) := by decide +kernel
theorem d_M_create_112 : decode b_M_create 112 = .ok (.aload_n 0, 1) := by decide +kernel
theorem d_M_create_113 : decode b_M_create 113 = .ok (.invokevirtual 119, 3) := by decide +kernel
theorem d_M_create_116 : decode b_M_create 116 = .ok (.ifCond .eq (8), 3) := by decide +kernel
theorem d_M_create_119 : decode b_M_create 119 = .ok (.iload 4, 2) := by decide +kernel
theorem d_M_create_121 : decode b_M_create 121 = .ok (.goto (5), 3) := by decide +kernel
theorem d_M_create_124 : decode b_M_create 124 = .ok (.bipush (-9), 2) := by decide +kernel
theorem d_M_create_126 : decode b_M_create 126 = .ok (.ireturn, 1) := by decide +kernel
theorem d_M_write_0 : decode b_M_write 0 = .ok (.aload_n 0, 1) := by decide +kernel
theorem d_M_write_1 : decode b_M_write 1 = .ok (.getfield 56, 3) := by decide +kernel
theorem d_M_write_4 : decode b_M_write 4 = .ok (.ifCond .ne (6), 3) := by decide +kernel
theorem d_M_write_7 : decode b_M_write 7 = .ok (.bipush (-9), 2) := by decide +kernel
theorem d_M_write_9 : decode b_M_write 9 = .ok (.ireturn, 1) := by decide +kernel
theorem d_M_write_10 : decode b_M_write 10 = .ok (.aload_n 0, 1) := by decide +kernel
theorem d_M_write_11 : decode b_M_write 11 = .ok (.iload_n 1, 1) := by decide +kernel
theorem d_M_write_12 : decode b_M_write 12 = .ok (.invokevirtual 134, 3) := by decide +kernel
theorem d_M_write_15 : decode b_M_write 15 = .ok (.istore 4, 2) := by decide +kernel
theorem d_M_write_17 : decode b_M_write 17 = .ok (.iload 4, 2) := by decide +kernel
theorem d_M_write_19 : decode b_M_write 19 = .ok (.ifCond .ge (5), 3) := by decide +kernel
theorem d_M_write_22 : decode b_M_write 22 = .ok (.iconst (-1), 1) := by decide +kernel
theorem d_M_write_23 : decode b_M_write 23 = .ok (.ireturn, 1) := by decide +kernel
theorem d_M_write_24 : decode b_M_write 24 = .ok (.aload_n 0, 1) := by decide +kernel
theorem d_M_write_25 : decode b_M_write 25 = .ok (.getfield 31, 3) := by decide +kernel
theorem d_M_write_28 : decode b_M_write 28 = .ok (.iload 4, 2) := by decide +kernel
theorem d_M_write_30 : decode b_M_write 30 = .ok (.baload, 1) := by decide +kernel
theorem d_M_write_31 : decode b_M_write 31 = .ok (.ifCond .eq (6), 3) := by decide +kernel
theorem d_M_write_34 : decode b_M_write 34 = .ok (.bipush (-3), 2) := by decide +kernel
theorem d_M_write_36 : decode b_M_write 36 = .ok (.ireturn, 1) := by decide +kernel
theorem d_M_write_37 : decode b_M_write 37 = .ok (.iload_n 2, 1) := by decide +kernel
theorem d_M_write_38 : decode b_M_write 38 = .ok (.iconst 1, 1) := by decide +kernel
theorem d_M_write_39 : decode b_M_write 39 = .ok (.if_icmp .lt (9), 3) := by decide +kernel
theorem d_M_write_42 : decode b_M_write 42 = .ok (.iload_n 2, 1) := by decide +kernel
theorem d_M_write_43 : decode b_M_write 43 = .ok (.bipush 6, 2) := by decide +kernel
theorem d_M_write_45 : decode b_M_write 45 = .ok (.if_icmp .le (6), 3) := by decide +kernel
theorem d_M_write_48 : decode b_M_write 48 = .ok (.bipush (-7), 2) := by decide +kernel
theorem d_M_write_50 : decode b_M_write 50 = .ok (.ireturn, 1) := by decide +kernel
theorem d_M_write_51 : decode b_M_write 51 = .ok (.iload_n 2, 1) := by decide +kernel
theorem d_M_write_52 : decode b_M_write 52 = .ok (.aload_n 0, 1) := by decide +kernel
theorem d_M_write_53 : decode b_M_write 53 = .ok (.getfield 28, 3) := by decide +kernel
theorem d_M_write_56 : decode b_M_write 56 = .ok (.iload 4, 2) := by decide +kernel
theorem d_M_write_58 : decode b_M_write 58 = .ok (.iaload, 1) := by decide +kernel
theorem d_M_write_59 : decode b_M_write 59 = .ok (.if_icmp .le (7), 3) := by decide +kernel
theorem d_M_write_62 : decode b_M_write 62 = .ok (.iconst 1, 1) := by decide +kernel
theorem d_M_write_63 : decode b_M_write 63 = .ok (.goto (4), 3) := by decide +kernel
theorem d_M_write_66 : decode b_M_write 66 = .ok (.iconst 0, 1) := by decide +kernel
theorem d_M_write_67 : decode b_M_write 67 = .ok (.istore 5, 2) := by decide +kernel
theorem d_M_write_69 : decode b_M_write 69 = .ok (.aload_n 0, 1) := by decide +kernel
theorem d_M_write_70 : decode b_M_write 70 = .ok (.iload 5, 2) := by decide +kernel
theorem d_M_write_72 : decode b_M_write 72 = .ok (.ifCond .eq (7), 3) := by decide +kernel
theorem d_M_write_75 : decode b_M_write 75 = .ok (.iconst 2, 1) := by decide +kernel
theorem d_M_write_76 : decode b_M_write 76 = .ok (.goto (4), 3) := by decide +kernel
theorem d_M_write_79 : decode b_M_write 79 = .ok (.iconst 1, 1) := by decide +kernel
theorem d_M_write_80 : decode b_M_write 80 = .ok (.invokevirtual 147, 3) := by decide +kernel
theorem d_M_write_83 : decode b_M_write 83 = .ok (.istore 6, 2) := by decide +kernel
theorem d_M_write_85 : decode b_M_write 85 = .ok (.iload 6, 2) := by decide +kernel
theorem d_M_write_87 : decode b_M_write 87 = .ok (.ifCond .ge (6), 3) := by decide +kernel
theorem d_M_write_90 : decode b_M_write 90 = .ok (.iload 6, 2) := by decide +kernel
theorem d_M_write_92 : decode b_M_write 92 = .ok (.ireturn, 1) := by decide +kernel
theorem d_M_write_93 : decode b_M_write 93 = .ok (.aload_n 0, 1) := by decide +kernel
theorem d_M_write_94 : decode b_M_write 94 = .ok (.iload_n 1, 1) := by decide +kernel
theorem d_M_write_95 : decode b_M_write 95 = .ok (.iload_n 2, 1) := by decide +kernel
theorem d_M_write_96 : decode b_M_write 96 = .ok (.iload_n 3, 1) := by decide +kernel
theorem d_M_write_97 : decode b_M_write 97 = .ok (.invokevirtual 111, 3) := by decide +kernel
theorem d_M_write_100 : decode b_M_write 100 = .ok (.aload_n 0, 1) := by decide +kernel
theorem d_M_write_101 : decode b_M_write 101 = .ok (.invokevirtual 119, 3) := by decide +kernel
theorem d_M_write_104 : decode b_M_write 104 = .ok (.ifCond .ne (6), 3) := by decide +kernel
theorem d_M_write_107 : decode b_M_write 107 = .ok (.bipush (-9), 2) := by decide +kernel
theorem d_M_write_109 : decode b_M_write 109 = .ok (.ireturn, 1) := by decide +kernel
theorem d_M_write_110 : decode b_M_write 110 = .ok (.iload 5, 2) := by decide +kernel
theorem d_M_write_112 : decode b_M_write 112 = .ok (.ifCond .eq (35), 3) := by decide +kernel
theorem d_M_write_115 : decode b_M_write 115 = .ok (.aload_n 0, 1) := by decide +kernel
theorem d_M_write_116 : decode b_M_write 116 = .ok (.iload_n 1, 1) := by decide +kernel
theorem d_M_write_117 : decode b_M_write 117 = .ok (.invokevirtual 134, 3) := by decide +kernel
theorem d_M_write_120 : decode b_M_write 120 = .ok (.istore 7, 2) := by decide +kernel
theorem d_M_write_122 : decode b_M_write 122 = .ok (.aload_n 0, 1) := by decide +kernel
theorem d_M_write_123 : decode b_M_write 123 = .ok (.iload 7, 2) := by decide +kernel
theorem d_M_write_125 : decode b_M_write 125 = .ok (.invokevirtual 115, 3) := by decide +kernel
theorem d_M_write_128 : decode b_M_write 128 = .ok (.aload_n 0, 1) := by decide +kernel
theorem d_M_write_129 : decode b_M_write 129 = .ok (.iload_n 2, 1) := by decide +kernel
theorem d_M_write_130 : decode b_M_write 130 = .ok (.putfield 95, 3) := by decide +kernel
theorem d_M_write_133 : decode b_M_write 133 = .ok (.aload_n 0, 1) := by decide +kernel
theorem d_M_write_134 : decode b_M_write 134 = .ok (.invokevirtual 119, 3) := by decide +kernel
theorem d_M_write_137 : decode b_M_write 137 = .ok (.ifCond .eq (7), 3) := by decide +kernel
theorem d_M_write_140 : decode b_M_write 140 = .ok (.iconst 0, 1) := by decide +kernel
theorem d_M_write_141 : decode b_M_write 141 = .ok (.goto (5), 3) := by decide +kernel
theorem d_M_write_144 : decode b_M_write 144 = .ok (.bipush (-9), 2) := by decide +kernel
theorem d_M_write_146 : decode b_M_write 146 = .ok (.ireturn, 1) := by decide +kernel
theorem d_M_write_147 : decode b_M_write 147 = .ok (.iconst 0, 1) := by decide +kernel
theorem d_M_write_148 : decode b_M_write 148 = .ok (.ireturn, 1) := by decide +kernel
theorem d_M_read_0 : decode b_M_read 0 = .ok (.aload_n 0, 1) := by decide +kernel
theorem d_M_read_1 : decode b_M_read 1 = .ok (.getfield 56, 3) := by decide +kernel
theorem d_M_read_4 : decode b_M_read 4 = .ok (.ifCond .ne (7), 3) := by decide +kernel
theorem d_M_read_7 : decode b_M_read 7 = .ok (.ldc2_w 150, 3) := by decide +kernel
theorem d_M_read_10 : decode b_M_read 10 = .ok (.lreturn, 1) := by decide +kernel
theorem d_M_read_11 : decode b_M_read 11 = .ok (.aload_n 0, 1) := by decide +kernel
theorem d_M_read_12 : decode b_M_read 12 = .ok (.iload_n 1, 1) := by decide +kernel
theorem d_M_read_13 : decode b_M_read 13 = .ok (.invokevirtual 134, 3) := by decide +kernel
theorem d_M_read_16 : decode b_M_read 16 = .ok (.istore_n 3, 1) := by decide +kernel
theorem d_M_read_17 : decode b_M_read 17 = .ok (.iload_n 3, 1) := by decide +kernel
theorem d_M_read_18 : decode b_M_read 18 = .ok (.ifCond .ge (7), 3) := by decide +kernel
theorem d_M_read_21 : decode b_M_read 21 = .ok (.ldc2_w 152, 3) := by decide +kernel
theorem d_M_read_24 : decode b_M_read 24 = .ok (.lreturn, 1) := by decide +kernel
theorem d_M_read_25 : decode b_M_read 25 = .ok (.aload_n 0, 1) := by decide +kernel
theorem d_M_read_26 : decode b_M_read 26 = .ok (.getfield 31, 3) := by decide +kernel
theorem d_M_read_29 : decode b_M_read 29 = .ok (.iload_n 3, 1) := by decide +kernel
theorem d_M_read_30 : decode b_M_read 30 = .ok (.baload, 1) := by decide +kernel
theorem d_M_read_31 : decode b_M_read 31 = .ok (.ifCond .eq (7), 3) := by decide +kernel
theorem d_M_read_34 : decode b_M_read 34 = .ok (.ldc2_w 154, 3) := by decide +kernel
theorem d_M_read_37 : decode b_M_read 37 = .ok (.lreturn, 1) := by decide +kernel
theorem d_M_read_38 : decode b_M_read 38 = .ok (.iload_n 2, 1) := by decide +kernel
theorem d_M_read_39 : decode b_M_read 39 = .ok (.iconst 1, 1) := by decide +kernel
theorem d_M_read_40 : decode b_M_read 40 = .ok (.if_icmp .lt (13), 3) := by decide +kernel
theorem d_M_read_43 : decode b_M_read 43 = .ok (.iload_n 2, 1) := by decide +kernel
theorem d_M_read_44 : decode b_M_read 44 = .ok (.aload_n 0, 1) := by decide +kernel
theorem d_M_read_45 : decode b_M_read 45 = .ok (.getfield 28, 3) := by decide +kernel
theorem d_M_read_48 : decode b_M_read 48 = .ok (.iload_n 3, 1) := by decide +kernel
theorem d_M_read_49 : decode b_M_read 49 = .ok (.iaload, 1) := by decide +kernel
theorem d_M_read_50 : decode b_M_read 50 = .ok (.if_icmp .le (7), 3) := by decide +kernel
theorem d_M_read_53 : decode b_M_read 53 = .ok (.ldc2_w 156, 3) := by decide +kernel
theorem d_M_read_56 : decode b_M_read 56 = .ok (.lreturn, 1) := by decide +kernel
theorem d_M_read_57 : decode b_M_read 57 = .ok (.aload_n 0, 1) := by decide +kernel
theorem d_M_read_58 : decode b_M_read 58 = .ok (.iload_n 1, 1) := by decide +kernel
theorem d_M_read_59 : decode b_M_read 59 = .ok (.iload_n 2, 1) := by decide +kernel
theorem d_M_read_60 : decode b_M_read 60 = .ok (.invokevirtual 81, 3) := by decide +kernel
theorem d_M_read_63 : decode b_M_read 63 = .ok (.istore 4, 2) := by decide +kernel
theorem d_M_read_65 : decode b_M_read 65 = .ok (.iload 4, 2) := by decide +kernel
theorem d_M_read_67 : decode b_M_read 67 = .ok (.ifCond .ge (7), 3) := by decide +kernel
theorem d_M_read_70 : decode b_M_read 70 = .ok (.lconst 0, 1) := by decide +kernel
theorem d_M_read_71 : decode b_M_read 71 = .ok (.goto (27), 3) := by decide +kernel
theorem d_M_read_74 : decode b_M_read 74 = .ok (.aload_n 0, 1) := by decide +kernel
theorem d_M_read_75 : decode b_M_read 75 = .ok (.getfield 38, 3) := by decide +kernel
theorem d_M_read_78 : decode b_M_read 78 = .ok (.iload 4, 2) := by decide +kernel
theorem d_M_read_80 : decode b_M_read 80 = .ok (.iaload, 1) := by decide +kernel
theorem d_M_read_81 : decode b_M_read 81 = .ok (.ifCond .lt (9), 3) := by decide +kernel
theorem d_M_read_84 : decode b_M_read 84 = .ok (.ldc2_w 158, 3) := by decide +kernel
theorem d_M_read_87 : decode b_M_read 87 = .ok (.goto (11), 3) := by decide +kernel
theorem d_M_read_90 : decode b_M_read 90 = .ok (.aload_n 0, 1) := by decide +kernel
theorem d_M_read_91 : decode b_M_read 91 = .ok (.getfield 22, 3) := by decide +kernel
theorem d_M_read_94 : decode b_M_read 94 = .ok (.iload 4, 2) := by decide +kernel
theorem d_M_read_96 : decode b_M_read 96 = .ok (.iaload, 1) := by decide +kernel
theorem d_M_read_97 : decode b_M_read 97 = .ok (.i2l, 1) := by decide +kernel
theorem d_M_read_98 : decode b_M_read 98 = .ok (.lreturn, 1) := by decide +kernel
theorem d_M_drop_0 : decode b_M_drop 0 = .ok (.iload_n 2, 1) := by decide +kernel
theorem d_M_drop_1 : decode b_M_drop 1 = .ok (.iconst 1, 1) := by decide +kernel
theorem d_M_drop_2 : decode b_M_drop 2 = .ok (.iadd, 1) := by decide +kernel
theorem d_M_drop_3 : decode b_M_drop 3 = .ok (.istore_n 3, 1) := by decide +kernel
theorem d_M_drop_4 : decode b_M_drop 4 = .ok (.iload_n 3, 1) := by decide +kernel
theorem d_M_drop_5 : decode b_M_drop 5 = .ok (.bipush 6, 2) := by decide +kernel
theorem d_M_drop_7 : decode b_M_drop 7 = .ok (.if_icmp .gt (33), 3) := by decide +kernel
theorem d_M_drop_10 : decode b_M_drop 10 = .ok (.aload_n 0, 1) := by decide +kernel
theorem d_M_drop_11 : decode b_M_drop 11 = .ok (.iload_n 1, 1) := by decide +kernel
theorem d_M_drop_12 : decode b_M_drop 12 = .ok (.iload_n 3, 1) := by decide +kernel
theorem d_M_drop_13 : decode b_M_drop 13 = .ok (.invokevirtual 81, 3) := by decide +kernel
theorem d_M_drop_16 : decode b_M_drop 16 = .ok (.istore 4, 2) := by decide +kernel
theorem d_M_drop_18 : decode b_M_drop 18 = .ok (.iload 4, 2) := by decide +kernel
theorem d_M_drop_20 : decode b_M_drop 20 = .ok (.ifCond .lt (14), 3) := by decide +kernel
theorem d_M_drop_23 : decode b_M_drop 23 = .ok (.aload_n 0, 1) := by decide +kernel
theorem d_M_drop_24 : decode b_M_drop 24 = .ok (.iload 4, 2) := by decide +kernel
theorem d_M_drop_26 : decode b_M_drop 26 = .ok (.invokevirtual 107, 3) := by decide +kernel
theorem d_M_drop_29 : decode b_M_drop 29 = .ok (.ifCond .ne (5), 3) := by decide +kernel
theorem d_M_drop_32 : decode b_M_drop 32 = .ok (.iconst 0, 1) := by decide +kernel
theorem d_M_drop_33 : decode b_M_drop 33 = .ok (.ireturn, 1) := by decide +kernel
theorem d_M_drop_34 : decode b_M_drop 34 = .ok (.iinc 3 (1), 3) := by decide +kernel
theorem d_M_drop_37 : decode b_M_drop 37 = .ok (.goto (-33), 3) := by decide +kernel
theorem d_M_drop_40 : decode b_M_drop 40 = .ok (.iconst 1, 1) := by decide +kernel
theorem d_M_drop_41 : decode b_M_drop 41 = .ok (.ireturn, 1) := by decide +kernel
