/-! the class: the instructions of the others -/
theorem dX1_costWith_0 : decode cX1_costWith 0 = .ok (.aload_n 0, 1) := by decide +kernel
theorem dX1_costWith_1 : decode cX1_costWith 1 = .ok (.getfield 19, 3) := by decide +kernel
theorem dX1_costWith_4 : decode cX1_costWith 4 = .ok (.ifCond .eq 23, 3) := by decide +kernel
theorem dX1_costWith_7 : decode cX1_costWith 7 = .ok (.aload_n 0, 1) := by decide +kernel
theorem dX1_costWith_8 : decode cX1_costWith 8 = .ok (.getfield 27, 3) := by decide +kernel
theorem dX1_costWith_11 : decode cX1_costWith 11 = .ok (.iload_n 1, 1) := by decide +kernel
theorem dX1_costWith_12 : decode cX1_costWith 12 = .ok (.invokevirtual 74, 3) := by decide +kernel
theorem dX1_costWith_15 : decode cX1_costWith 15 = .ok (.iconst 1, 1) := by decide +kernel
theorem dX1_costWith_16 : decode cX1_costWith 16 = .ok (.if_icmp .ne 9, 3) := by decide +kernel
theorem dX1_costWith_19 : decode cX1_costWith 19 = .ok (.iload_n 2, 1) := by decide +kernel
theorem dX1_costWith_20 : decode cX1_costWith 20 = .ok (.iconst 1, 1) := by decide +kernel
theorem dX1_costWith_21 : decode cX1_costWith 21 = .ok (.iadd, 1) := by decide +kernel
theorem dX1_costWith_22 : decode cX1_costWith 22 = .ok (.goto 4, 3) := by decide +kernel
theorem dX1_costWith_25 : decode cX1_costWith 25 = .ok (.iload_n 2, 1) := by decide +kernel
theorem dX1_costWith_26 : decode cX1_costWith 26 = .ok (.ireturn, 1) := by decide +kernel
theorem dX1_costWith_27 : decode cX1_costWith 27 = .ok (.iload_n 2, 1) := by decide +kernel
theorem dX1_costWith_28 : decode cX1_costWith 28 = .ok (.aload_n 0, 1) := by decide +kernel
theorem dX1_costWith_29 : decode cX1_costWith 29 = .ok (.getfield 27, 3) := by decide +kernel
theorem dX1_costWith_32 : decode cX1_costWith 32 = .ok (.iload_n 1, 1) := by decide +kernel
theorem dX1_costWith_33 : decode cX1_costWith 33 = .ok (.invokevirtual 78, 3) := by decide +kernel
theorem dX1_costWith_36 : decode cX1_costWith 36 = .ok (.invokestatic 81, 3) := by decide +kernel
theorem dX1_costWith_39 : decode cX1_costWith 39 = .ok (.ireturn, 1) := by decide +kernel
theorem dX1_init_0 : decode cX1_init 0 = .ok (.aload_n 0, 1) := by decide +kernel
theorem dX1_init_1 : decode cX1_init 1 = .ok (.invokespecial 3, 3) := by decide +kernel
theorem dX1_init_4 : decode cX1_init 4 = .ok (.aload_n 0, 1) := by decide +kernel
theorem dX1_init_5 : decode cX1_init 5 = .ok (.bipush 7, 2) := by decide +kernel
theorem dX1_init_7 : decode cX1_init 7 = .ok (.newarray .int, 2) := by decide +kernel
theorem dX1_init_9 : decode cX1_init 9 = .ok (.putfield 9, 3) := by decide +kernel
theorem dX1_init_12 : decode cX1_init 12 = .ok (.aload_n 0, 1) := by decide +kernel
theorem dX1_init_13 : decode cX1_init 13 = .ok (.iconst 0, 1) := by decide +kernel
theorem dX1_init_14 : decode cX1_init 14 = .ok (.putfield 15, 3) := by decide +kernel
theorem dX1_init_17 : decode cX1_init 17 = .ok (.aload_n 0, 1) := by decide +kernel
theorem dX1_init_18 : decode cX1_init 18 = .ok (.iconst 0, 1) := by decide +kernel
theorem dX1_init_19 : decode cX1_init 19 = .ok (.putfield 19, 3) := by decide +kernel
theorem dX1_init_22 : decode cX1_init 22 = .ok (.aload_n 0, 1) := by decide +kernel
theorem dX1_init_23 : decode cX1_init 23 = .ok (.ldc 23, 2) := by decide +kernel
theorem dX1_init_25 : decode cX1_init 25 = .ok (.putfield 24, 3) := by decide +kernel
theorem dX1_init_28 : decode cX1_init 28 = .ok (.aload_n 0, 1) := by decide +kernel
theorem dX1_init_29 : decode cX1_init 29 = .ok (.aload_n 1, 1) := by decide +kernel
theorem dX1_init_30 : decode cX1_init 30 = .ok (.putfield 27, 3) := by decide +kernel
theorem dX1_init_33 : decode cX1_init 33 = .ok (.return_, 1) := by decide +kernel
theorem dX1_keep_0 : decode cX1_keep 0 = .ok (.aload_n 0, 1) := by decide +kernel
theorem dX1_keep_1 : decode cX1_keep 1 = .ok (.iload_n 1, 1) := by decide +kernel
theorem dX1_keep_2 : decode cX1_keep 2 = .ok (.putfield 24, 3) := by decide +kernel
theorem dX1_keep_5 : decode cX1_keep 5 = .ok (.aload_n 0, 1) := by decide +kernel
theorem dX1_keep_6 : decode cX1_keep 6 = .ok (.getfield 27, 3) := by decide +kernel
theorem dX1_keep_9 : decode cX1_keep 9 = .ok (.getfield 55, 3) := by decide +kernel
theorem dX1_keep_12 : decode cX1_keep 12 = .ok (.iconst 0, 1) := by decide +kernel
theorem dX1_keep_13 : decode cX1_keep 13 = .ok (.aload_n 0, 1) := by decide +kernel
theorem dX1_keep_14 : decode cX1_keep 14 = .ok (.getfield 9, 3) := by decide +kernel
theorem dX1_keep_17 : decode cX1_keep 17 = .ok (.iconst 0, 1) := by decide +kernel
theorem dX1_keep_18 : decode cX1_keep 18 = .ok (.bipush 7, 2) := by decide +kernel
theorem dX1_keep_20 : decode cX1_keep 20 = .ok (.invokestatic 62, 3) := by decide +kernel
theorem dX1_keep_23 : decode cX1_keep 23 = .ok (.return_, 1) := by decide +kernel
theorem dX1_mayStand_0 : decode cX1_mayStand 0 = .ok (.aload_n 0, 1) := by decide +kernel
theorem dX1_mayStand_1 : decode cX1_mayStand 1 = .ok (.getfield 15, 3) := by decide +kernel
theorem dX1_mayStand_4 : decode cX1_mayStand 4 = .ok (.iload_n 2, 1) := by decide +kernel
theorem dX1_mayStand_5 : decode cX1_mayStand 5 = .ok (.ishr, 1) := by decide +kernel
theorem dX1_mayStand_6 : decode cX1_mayStand 6 = .ok (.iconst 1, 1) := by decide +kernel
theorem dX1_mayStand_7 : decode cX1_mayStand 7 = .ok (.iand, 1) := by decide +kernel
theorem dX1_mayStand_8 : decode cX1_mayStand 8 = .ok (.iconst 1, 1) := by decide +kernel
theorem dX1_mayStand_9 : decode cX1_mayStand 9 = .ok (.if_icmp .ne 27, 3) := by decide +kernel
theorem dX1_mayStand_12 : decode cX1_mayStand 12 = .ok (.aload_n 0, 1) := by decide +kernel
theorem dX1_mayStand_13 : decode cX1_mayStand 13 = .ok (.getfield 27, 3) := by decide +kernel
theorem dX1_mayStand_16 : decode cX1_mayStand 16 = .ok (.iload_n 2, 1) := by decide +kernel
theorem dX1_mayStand_17 : decode cX1_mayStand 17 = .ok (.aload_n 0, 1) := by decide +kernel
theorem dX1_mayStand_18 : decode cX1_mayStand 18 = .ok (.getfield 27, 3) := by decide +kernel
theorem dX1_mayStand_21 : decode cX1_mayStand 21 = .ok (.getfield 68, 3) := by decide +kernel
theorem dX1_mayStand_24 : decode cX1_mayStand 24 = .ok (.iload_n 1, 1) := by decide +kernel
theorem dX1_mayStand_25 : decode cX1_mayStand 25 = .ok (.iaload, 1) := by decide +kernel
theorem dX1_mayStand_26 : decode cX1_mayStand 26 = .ok (.invokevirtual 71, 3) := by decide +kernel
theorem dX1_mayStand_29 : decode cX1_mayStand 29 = .ok (.ifCond .eq 7, 3) := by decide +kernel
theorem dX1_mayStand_32 : decode cX1_mayStand 32 = .ok (.iconst 1, 1) := by decide +kernel
theorem dX1_mayStand_33 : decode cX1_mayStand 33 = .ok (.goto 4, 3) := by decide +kernel
theorem dX1_mayStand_36 : decode cX1_mayStand 36 = .ok (.iconst 0, 1) := by decide +kernel
theorem dX1_mayStand_37 : decode cX1_mayStand 37 = .ok (.ireturn, 1) := by decide +kernel
theorem dX1_placeFrom_0 : decode cX1_placeFrom 0 = .ok (.iload_n 1, 1) := by decide +kernel
theorem dX1_placeFrom_1 : decode cX1_placeFrom 1 = .ok (.aload_n 0, 1) := by decide +kernel
theorem dX1_placeFrom_2 : decode cX1_placeFrom 2 = .ok (.getfield 27, 3) := by decide +kernel
theorem dX1_placeFrom_5 : decode cX1_placeFrom 5 = .ok (.getfield 44, 3) := by decide +kernel
theorem dX1_placeFrom_8 : decode cX1_placeFrom 8 = .ok (.if_icmp .ge 9, 3) := by decide +kernel
theorem dX1_placeFrom_11 : decode cX1_placeFrom 11 = .ok (.iload_n 1, 1) := by decide +kernel
theorem dX1_placeFrom_12 : decode cX1_placeFrom 12 = .ok (.bipush 7, 2) := by decide +kernel
theorem dX1_placeFrom_14 : decode cX1_placeFrom 14 = .ok (.if_icmp .lt 9, 3) := by decide +kernel
theorem dX1_placeFrom_17 : decode cX1_placeFrom 17 = .ok (.aload_n 0, 1) := by decide +kernel
theorem dX1_placeFrom_18 : decode cX1_placeFrom 18 = .ok (.iload_n 2, 1) := by decide +kernel
theorem dX1_placeFrom_19 : decode cX1_placeFrom 19 = .ok (.invokevirtual 47, 3) := by decide +kernel
theorem dX1_placeFrom_22 : decode cX1_placeFrom 22 = .ok (.return_, 1) := by decide +kernel
theorem dX1_placeFrom_23 : decode cX1_placeFrom 23 = .ok (.iconst 0, 1) := by decide +kernel
theorem dX1_placeFrom_24 : decode cX1_placeFrom 24 = .ok (.istore_n 3, 1) := by decide +kernel
theorem dX1_placeFrom_25 : decode cX1_placeFrom 25 = .ok (.iload_n 3, 1) := by decide +kernel
theorem dX1_placeFrom_26 : decode cX1_placeFrom 26 = .ok (.bipush 6, 2) := by decide +kernel
theorem dX1_placeFrom_28 : decode cX1_placeFrom 28 = .ok (.if_icmp .ge 65, 3) := by decide +kernel
theorem dX1_placeFrom_31 : decode cX1_placeFrom 31 = .ok (.aload_n 0, 1) := by decide +kernel
theorem dX1_placeFrom_32 : decode cX1_placeFrom 32 = .ok (.iload_n 1, 1) := by decide +kernel
theorem dX1_placeFrom_33 : decode cX1_placeFrom 33 = .ok (.iload_n 3, 1) := by decide +kernel
theorem dX1_placeFrom_34 : decode cX1_placeFrom 34 = .ok (.invokevirtual 51, 3) := by decide +kernel
theorem dX1_placeFrom_37 : decode cX1_placeFrom 37 = .ok (.ifCond .eq 50, 3) := by decide +kernel
theorem dX1_placeFrom_40 : decode cX1_placeFrom 40 = .ok (.aload_n 0, 1) := by decide +kernel
theorem dX1_placeFrom_41 : decode cX1_placeFrom 41 = .ok (.getfield 27, 3) := by decide +kernel
theorem dX1_placeFrom_44 : decode cX1_placeFrom 44 = .ok (.getfield 55, 3) := by decide +kernel
theorem dX1_placeFrom_47 : decode cX1_placeFrom 47 = .ok (.iload_n 1, 1) := by decide +kernel
theorem dX1_placeFrom_48 : decode cX1_placeFrom 48 = .ok (.iload_n 3, 1) := by decide +kernel
theorem dX1_placeFrom_49 : decode cX1_placeFrom 49 = .ok (.iastore, 1) := by decide +kernel
theorem dX1_placeFrom_50 : decode cX1_placeFrom 50 = .ok (.aload_n 0, 1) := by decide +kernel
theorem dX1_placeFrom_51 : decode cX1_placeFrom 51 = .ok (.iload_n 3, 1) := by decide +kernel
theorem dX1_placeFrom_52 : decode cX1_placeFrom 52 = .ok (.iload_n 2, 1) := by decide +kernel
theorem dX1_placeFrom_53 : decode cX1_placeFrom 53 = .ok (.invokevirtual 58, 3) := by decide +kernel
theorem dX1_placeFrom_56 : decode cX1_placeFrom 56 = .ok (.istore 4, 2) := by decide +kernel
theorem dX1_placeFrom_58 : decode cX1_placeFrom 58 = .ok (.iload 4, 2) := by decide +kernel
theorem dX1_placeFrom_60 : decode cX1_placeFrom 60 = .ok (.aload_n 0, 1) := by decide +kernel
theorem dX1_placeFrom_61 : decode cX1_placeFrom 61 = .ok (.getfield 24, 3) := by decide +kernel
theorem dX1_placeFrom_64 : decode cX1_placeFrom 64 = .ok (.if_icmp .ge 12, 3) := by decide +kernel
theorem dX1_placeFrom_67 : decode cX1_placeFrom 67 = .ok (.aload_n 0, 1) := by decide +kernel
theorem dX1_placeFrom_68 : decode cX1_placeFrom 68 = .ok (.iload_n 1, 1) := by decide +kernel
theorem dX1_placeFrom_69 : decode cX1_placeFrom 69 = .ok (.iconst 1, 1) := by decide +kernel
theorem dX1_placeFrom_70 : decode cX1_placeFrom 70 = .ok (.iadd, 1) := by decide +kernel
theorem dX1_placeFrom_71 : decode cX1_placeFrom 71 = .ok (.iload 4, 2) := by decide +kernel
theorem dX1_placeFrom_73 : decode cX1_placeFrom 73 = .ok (.invokestatic 36, 3) := by decide +kernel
theorem dX1_placeFrom_76 : decode cX1_placeFrom 76 = .ok (.aload_n 0, 1) := by decide +kernel
theorem dX1_placeFrom_77 : decode cX1_placeFrom 77 = .ok (.getfield 27, 3) := by decide +kernel
theorem dX1_placeFrom_80 : decode cX1_placeFrom 80 = .ok (.getfield 55, 3) := by decide +kernel
theorem dX1_placeFrom_83 : decode cX1_placeFrom 83 = .ok (.iload_n 1, 1) := by decide +kernel
theorem dX1_placeFrom_84 : decode cX1_placeFrom 84 = .ok (.bipush 9, 2) := by decide +kernel
theorem dX1_placeFrom_86 : decode cX1_placeFrom 86 = .ok (.iastore, 1) := by decide +kernel
theorem dX1_placeFrom_87 : decode cX1_placeFrom 87 = .ok (.iinc 3 1, 3) := by decide +kernel
theorem dX1_placeFrom_90 : decode cX1_placeFrom 90 = .ok (.goto (-65), 3) := by decide +kernel
theorem dX1_placeFrom_93 : decode cX1_placeFrom 93 = .ok (.return_, 1) := by decide +kernel
theorem dX1_roomOf_0 : decode cX1_roomOf 0 = .ok (.aload_n 0, 1) := by decide +kernel
theorem dX1_roomOf_1 : decode cX1_roomOf 1 = .ok (.getfield 27, 3) := by decide +kernel
theorem dX1_roomOf_4 : decode cX1_roomOf 4 = .ok (.iload_n 1, 1) := by decide +kernel
theorem dX1_roomOf_5 : decode cX1_roomOf 5 = .ok (.invokevirtual 40, 3) := by decide +kernel
theorem dX1_roomOf_8 : decode cX1_roomOf 8 = .ok (.ifCond .eq 12, 3) := by decide +kernel
theorem dX1_roomOf_11 : decode cX1_roomOf 11 = .ok (.aload_n 0, 1) := by decide +kernel
theorem dX1_roomOf_12 : decode cX1_roomOf 12 = .ok (.getfield 9, 3) := by decide +kernel
theorem dX1_roomOf_15 : decode cX1_roomOf 15 = .ok (.iload_n 1, 1) := by decide +kernel
theorem dX1_roomOf_16 : decode cX1_roomOf 16 = .ok (.iaload, 1) := by decide +kernel
theorem dX1_roomOf_17 : decode cX1_roomOf 17 = .ok (.goto 5, 3) := by decide +kernel
theorem dX1_roomOf_20 : decode cX1_roomOf 20 = .ok (.bipush (-9), 2) := by decide +kernel
theorem dX1_roomOf_22 : decode cX1_roomOf 22 = .ok (.ireturn, 1) := by decide +kernel
theorem dX1_search_0 : decode cX1_search 0 = .ok (.aload_n 0, 1) := by decide +kernel
theorem dX1_search_1 : decode cX1_search 1 = .ok (.iload_n 1, 1) := by decide +kernel
theorem dX1_search_2 : decode cX1_search 2 = .ok (.putfield 15, 3) := by decide +kernel
theorem dX1_search_5 : decode cX1_search 5 = .ok (.aload_n 0, 1) := by decide +kernel
theorem dX1_search_6 : decode cX1_search 6 = .ok (.iload_n 2, 1) := by decide +kernel
theorem dX1_search_7 : decode cX1_search 7 = .ok (.putfield 19, 3) := by decide +kernel
theorem dX1_search_10 : decode cX1_search 10 = .ok (.aload_n 0, 1) := by decide +kernel
theorem dX1_search_11 : decode cX1_search 11 = .ok (.ldc 23, 2) := by decide +kernel
theorem dX1_search_13 : decode cX1_search 13 = .ok (.putfield 24, 3) := by decide +kernel
theorem dX1_search_16 : decode cX1_search 16 = .ok (.aload_n 0, 1) := by decide +kernel
theorem dX1_search_17 : decode cX1_search 17 = .ok (.getfield 27, 3) := by decide +kernel
theorem dX1_search_20 : decode cX1_search 20 = .ok (.invokevirtual 31, 3) := by decide +kernel
theorem dX1_search_23 : decode cX1_search 23 = .ok (.aload_n 0, 1) := by decide +kernel
theorem dX1_search_24 : decode cX1_search 24 = .ok (.iconst 0, 1) := by decide +kernel
theorem dX1_search_25 : decode cX1_search 25 = .ok (.iconst 0, 1) := by decide +kernel
theorem dX1_search_26 : decode cX1_search 26 = .ok (.invokestatic 36, 3) := by decide +kernel
theorem dX1_search_29 : decode cX1_search 29 = .ok (.aload_n 0, 1) := by decide +kernel
theorem dX1_search_30 : decode cX1_search 30 = .ok (.getfield 24, 3) := by decide +kernel
theorem dX1_search_33 : decode cX1_search 33 = .ok (.ldc 23, 2) := by decide +kernel
theorem dX1_search_35 : decode cX1_search 35 = .ok (.if_icmp .ne 8, 3) := by decide +kernel
theorem dX1_search_38 : decode cX1_search 38 = .ok (.bipush (-9), 2) := by decide +kernel
theorem dX1_search_40 : decode cX1_search 40 = .ok (.goto 7, 3) := by decide +kernel
theorem dX1_search_43 : decode cX1_search 43 = .ok (.aload_n 0, 1) := by decide +kernel
theorem dX1_search_44 : decode cX1_search 44 = .ok (.getfield 24, 3) := by decide +kernel
theorem dX1_search_47 : decode cX1_search 47 = .ok (.ireturn, 1) := by decide +kernel
theorem dX2_add_0 : decode cX2_add 0 = .ok (.iload_n 1, 1) := by decide +kernel
theorem dX2_add_1 : decode cX2_add 1 = .ok (.ifCond .ge 6, 3) := by decide +kernel
theorem dX2_add_4 : decode cX2_add 4 = .ok (.bipush (-4), 2) := by decide +kernel
theorem dX2_add_6 : decode cX2_add 6 = .ok (.ireturn, 1) := by decide +kernel
theorem dX2_add_7 : decode cX2_add 7 = .ok (.iload_n 1, 1) := by decide +kernel
theorem dX2_add_8 : decode cX2_add 8 = .ok (.bipush 99, 2) := by decide +kernel
theorem dX2_add_10 : decode cX2_add 10 = .ok (.if_icmp .gt 12, 3) := by decide +kernel
theorem dX2_add_13 : decode cX2_add 13 = .ok (.aload_n 0, 1) := by decide +kernel
theorem dX2_add_14 : decode cX2_add 14 = .ok (.getfield 15, 3) := by decide +kernel
theorem dX2_add_17 : decode cX2_add 17 = .ok (.bipush 12, 2) := by decide +kernel
theorem dX2_add_19 : decode cX2_add 19 = .ok (.if_icmp .lt 6, 3) := by decide +kernel
theorem dX2_add_22 : decode cX2_add 22 = .ok (.bipush (-6), 2) := by decide +kernel
theorem dX2_add_24 : decode cX2_add 24 = .ok (.ireturn, 1) := by decide +kernel
theorem dX2_add_25 : decode cX2_add 25 = .ok (.aload_n 0, 1) := by decide +kernel
theorem dX2_add_26 : decode cX2_add 26 = .ok (.getfield 9, 3) := by decide +kernel
theorem dX2_add_29 : decode cX2_add 29 = .ok (.aload_n 0, 1) := by decide +kernel
theorem dX2_add_30 : decode cX2_add 30 = .ok (.getfield 15, 3) := by decide +kernel
theorem dX2_add_33 : decode cX2_add 33 = .ok (.iload_n 1, 1) := by decide +kernel
theorem dX2_add_34 : decode cX2_add 34 = .ok (.iastore, 1) := by decide +kernel
theorem dX2_add_35 : decode cX2_add 35 = .ok (.aload_n 0, 1) := by decide +kernel
theorem dX2_add_36 : decode cX2_add 36 = .ok (.dup, 1) := by decide +kernel
theorem dX2_add_37 : decode cX2_add 37 = .ok (.getfield 15, 3) := by decide +kernel
theorem dX2_add_40 : decode cX2_add 40 = .ok (.iconst 1, 1) := by decide +kernel
theorem dX2_add_41 : decode cX2_add 41 = .ok (.iadd, 1) := by decide +kernel
theorem dX2_add_42 : decode cX2_add 42 = .ok (.putfield 15, 3) := by decide +kernel
theorem dX2_add_45 : decode cX2_add 45 = .ok (.aload_n 0, 1) := by decide +kernel
theorem dX2_add_46 : decode cX2_add 46 = .ok (.getfield 15, 3) := by decide +kernel
theorem dX2_add_49 : decode cX2_add 49 = .ok (.ireturn, 1) := by decide +kernel
theorem dX2_clear_0 : decode cX2_clear 0 = .ok (.aload_n 0, 1) := by decide +kernel
theorem dX2_clear_1 : decode cX2_clear 1 = .ok (.iconst 0, 1) := by decide +kernel
theorem dX2_clear_2 : decode cX2_clear 2 = .ok (.putfield 15, 3) := by decide +kernel
theorem dX2_clear_5 : decode cX2_clear 5 = .ok (.return_, 1) := by decide +kernel
theorem dX2_firstWrong_0 : decode cX2_firstWrong 0 = .ok (.iconst 0, 1) := by decide +kernel
theorem dX2_firstWrong_1 : decode cX2_firstWrong 1 = .ok (.istore_n 2, 1) := by decide +kernel
theorem dX2_firstWrong_2 : decode cX2_firstWrong 2 = .ok (.iload_n 2, 1) := by decide +kernel
theorem dX2_firstWrong_3 : decode cX2_firstWrong 3 = .ok (.aload_n 0, 1) := by decide +kernel
theorem dX2_firstWrong_4 : decode cX2_firstWrong 4 = .ok (.getfield 15, 3) := by decide +kernel
theorem dX2_firstWrong_7 : decode cX2_firstWrong 7 = .ok (.if_icmp .ge 33, 3) := by decide +kernel
theorem dX2_firstWrong_10 : decode cX2_firstWrong 10 = .ok (.aload_n 1, 1) := by decide +kernel
theorem dX2_firstWrong_11 : decode cX2_firstWrong 11 = .ok (.invokevirtual 19, 3) := by decide +kernel
theorem dX2_firstWrong_14 : decode cX2_firstWrong 14 = .ok (.bipush 99, 2) := by decide +kernel
theorem dX2_firstWrong_16 : decode cX2_firstWrong 16 = .ok (.invokestatic 25, 3) := by decide +kernel
theorem dX2_firstWrong_19 : decode cX2_firstWrong 19 = .ok (.aload_n 0, 1) := by decide +kernel
theorem dX2_firstWrong_20 : decode cX2_firstWrong 20 = .ok (.getfield 9, 3) := by decide +kernel
theorem dX2_firstWrong_23 : decode cX2_firstWrong 23 = .ok (.iload_n 2, 1) := by decide +kernel
theorem dX2_firstWrong_24 : decode cX2_firstWrong 24 = .ok (.iaload, 1) := by decide +kernel
theorem dX2_firstWrong_25 : decode cX2_firstWrong 25 = .ok (.if_icmp .eq 5, 3) := by decide +kernel
theorem dX2_firstWrong_28 : decode cX2_firstWrong 28 = .ok (.iload_n 2, 1) := by decide +kernel
theorem dX2_firstWrong_29 : decode cX2_firstWrong 29 = .ok (.ireturn, 1) := by decide +kernel
theorem dX2_firstWrong_30 : decode cX2_firstWrong 30 = .ok (.aload_n 1, 1) := by decide +kernel
theorem dX2_firstWrong_31 : decode cX2_firstWrong 31 = .ok (.invokevirtual 31, 3) := by decide +kernel
theorem dX2_firstWrong_34 : decode cX2_firstWrong 34 = .ok (.iinc 2 1, 3) := by decide +kernel
theorem dX2_firstWrong_37 : decode cX2_firstWrong 37 = .ok (.goto (-35), 3) := by decide +kernel
theorem dX2_firstWrong_40 : decode cX2_firstWrong 40 = .ok (.bipush (-9), 2) := by decide +kernel
theorem dX2_firstWrong_42 : decode cX2_firstWrong 42 = .ok (.ireturn, 1) := by decide +kernel
theorem dX2_init_0 : decode cX2_init 0 = .ok (.aload_n 0, 1) := by decide +kernel
theorem dX2_init_1 : decode cX2_init 1 = .ok (.invokespecial 3, 3) := by decide +kernel
theorem dX2_init_4 : decode cX2_init 4 = .ok (.aload_n 0, 1) := by decide +kernel
theorem dX2_init_5 : decode cX2_init 5 = .ok (.bipush 12, 2) := by decide +kernel
theorem dX2_init_7 : decode cX2_init 7 = .ok (.newarray .int, 2) := by decide +kernel
theorem dX2_init_9 : decode cX2_init 9 = .ok (.putfield 9, 3) := by decide +kernel
theorem dX2_init_12 : decode cX2_init 12 = .ok (.aload_n 0, 1) := by decide +kernel
theorem dX2_init_13 : decode cX2_init 13 = .ok (.iconst 0, 1) := by decide +kernel
theorem dX2_init_14 : decode cX2_init 14 = .ok (.putfield 15, 3) := by decide +kernel
theorem dX2_init_17 : decode cX2_init 17 = .ok (.return_, 1) := by decide +kernel
theorem dX3_begin_0 : decode cX3_begin 0 = .ok (.aload_n 0, 1) := by decide +kernel
theorem dX3_begin_1 : decode cX3_begin 1 = .ok (.aload_n 1, 1) := by decide +kernel
theorem dX3_begin_2 : decode cX3_begin 2 = .ok (.getfield 41, 3) := by decide +kernel
theorem dX3_begin_5 : decode cX3_begin 5 = .ok (.bipush 7, 2) := by decide +kernel
theorem dX3_begin_7 : decode cX3_begin 7 = .ok (.invokestatic 44, 3) := by decide +kernel
theorem dX3_begin_10 : decode cX3_begin 10 = .ok (.putfield 24, 3) := by decide +kernel
theorem dX3_begin_13 : decode cX3_begin 13 = .ok (.aload_n 0, 1) := by decide +kernel
theorem dX3_begin_14 : decode cX3_begin 14 = .ok (.aload_n 1, 1) := by decide +kernel
theorem dX3_begin_15 : decode cX3_begin 15 = .ok (.getfield 50, 3) := by decide +kernel
theorem dX3_begin_18 : decode cX3_begin 18 = .ok (.iconst 4, 1) := by decide +kernel
theorem dX3_begin_19 : decode cX3_begin 19 = .ok (.invokestatic 44, 3) := by decide +kernel
theorem dX3_begin_22 : decode cX3_begin 22 = .ok (.putfield 28, 3) := by decide +kernel
theorem dX3_begin_25 : decode cX3_begin 25 = .ok (.iconst 0, 1) := by decide +kernel
theorem dX3_begin_26 : decode cX3_begin 26 = .ok (.istore_n 2, 1) := by decide +kernel
theorem dX3_begin_27 : decode cX3_begin 27 = .ok (.iload_n 2, 1) := by decide +kernel
theorem dX3_begin_28 : decode cX3_begin 28 = .ok (.aload_n 0, 1) := by decide +kernel
theorem dX3_begin_29 : decode cX3_begin 29 = .ok (.getfield 24, 3) := by decide +kernel
theorem dX3_begin_32 : decode cX3_begin 32 = .ok (.if_icmp .ge 20, 3) := by decide +kernel
theorem dX3_begin_35 : decode cX3_begin 35 = .ok (.aload_n 0, 1) := by decide +kernel
theorem dX3_begin_36 : decode cX3_begin 36 = .ok (.getfield 9, 3) := by decide +kernel
theorem dX3_begin_39 : decode cX3_begin 39 = .ok (.iload_n 2, 1) := by decide +kernel
theorem dX3_begin_40 : decode cX3_begin 40 = .ok (.aload_n 1, 1) := by decide +kernel
theorem dX3_begin_41 : decode cX3_begin 41 = .ok (.iload_n 2, 1) := by decide +kernel
theorem dX3_begin_42 : decode cX3_begin 42 = .ok (.invokevirtual 51, 3) := by decide +kernel
theorem dX3_begin_45 : decode cX3_begin 45 = .ok (.iastore, 1) := by decide +kernel
theorem dX3_begin_46 : decode cX3_begin 46 = .ok (.iinc 2 1, 3) := by decide +kernel
theorem dX3_begin_49 : decode cX3_begin 49 = .ok (.goto (-22), 3) := by decide +kernel
theorem dX3_begin_52 : decode cX3_begin 52 = .ok (.aload_n 0, 1) := by decide +kernel
theorem dX3_begin_53 : decode cX3_begin 53 = .ok (.aload_n 0, 1) := by decide +kernel
theorem dX3_begin_54 : decode cX3_begin 54 = .ok (.getfield 28, 3) := by decide +kernel
theorem dX3_begin_57 : decode cX3_begin 57 = .ok (.ifCond .le 22, 3) := by decide +kernel
theorem dX3_begin_60 : decode cX3_begin 60 = .ok (.aload_n 0, 1) := by decide +kernel
theorem dX3_begin_61 : decode cX3_begin 61 = .ok (.getfield 9, 3) := by decide +kernel
theorem dX3_begin_64 : decode cX3_begin 64 = .ok (.aload_n 0, 1) := by decide +kernel
theorem dX3_begin_65 : decode cX3_begin 65 = .ok (.getfield 24, 3) := by decide +kernel
theorem dX3_begin_68 : decode cX3_begin 68 = .ok (.invokestatic 55, 3) := by decide +kernel
theorem dX3_begin_71 : decode cX3_begin 71 = .ok (.aload_n 0, 1) := by decide +kernel
theorem dX3_begin_72 : decode cX3_begin 72 = .ok (.getfield 28, 3) := by decide +kernel
theorem dX3_begin_75 : decode cX3_begin 75 = .ok (.idiv, 1) := by decide +kernel
theorem dX3_begin_76 : decode cX3_begin 76 = .ok (.goto 4, 3) := by decide +kernel
theorem dX3_begin_79 : decode cX3_begin 79 = .ok (.iconst 0, 1) := by decide +kernel
theorem dX3_begin_80 : decode cX3_begin 80 = .ok (.putfield 31, 3) := by decide +kernel
theorem dX3_begin_83 : decode cX3_begin 83 = .ok (.aload_n 0, 1) := by decide +kernel
theorem dX3_begin_84 : decode cX3_begin 84 = .ok (.getfield 21, 3) := by decide +kernel
theorem dX3_begin_87 : decode cX3_begin 87 = .ok (.iconst 0, 1) := by decide +kernel
theorem dX3_begin_88 : decode cX3_begin 88 = .ok (.invokestatic 59, 3) := by decide +kernel
theorem dX3_begin_91 : decode cX3_begin 91 = .ok (.return_, 1) := by decide +kernel
theorem dX3_canBeFairer_0 : decode cX3_canBeFairer 0 = .ok (.aload_n 0, 1) := by decide +kernel
theorem dX3_canBeFairer_1 : decode cX3_canBeFairer 1 = .ok (.getfield 35, 3) := by decide +kernel
theorem dX3_canBeFairer_4 : decode cX3_canBeFairer 4 = .ok (.ifCond .le 25, 3) := by decide +kernel
theorem dX3_canBeFairer_7 : decode cX3_canBeFairer 7 = .ok (.aload_n 0, 1) := by decide +kernel
theorem dX3_canBeFairer_8 : decode cX3_canBeFairer 8 = .ok (.getfield 21, 3) := by decide +kernel
theorem dX3_canBeFairer_11 : decode cX3_canBeFairer 11 = .ok (.iload_n 1, 1) := by decide +kernel
theorem dX3_canBeFairer_12 : decode cX3_canBeFairer 12 = .ok (.iaload, 1) := by decide +kernel
theorem dX3_canBeFairer_13 : decode cX3_canBeFairer 13 = .ok (.aload_n 0, 1) := by decide +kernel
theorem dX3_canBeFairer_14 : decode cX3_canBeFairer 14 = .ok (.getfield 31, 3) := by decide +kernel
theorem dX3_canBeFairer_17 : decode cX3_canBeFairer 17 = .ok (.isub, 1) := by decide +kernel
theorem dX3_canBeFairer_18 : decode cX3_canBeFairer 18 = .ok (.aload_n 0, 1) := by decide +kernel
theorem dX3_canBeFairer_19 : decode cX3_canBeFairer 19 = .ok (.getfield 35, 3) := by decide +kernel
theorem dX3_canBeFairer_22 : decode cX3_canBeFairer 22 = .ok (.if_icmp .ge 7, 3) := by decide +kernel
theorem dX3_canBeFairer_25 : decode cX3_canBeFairer 25 = .ok (.iconst 1, 1) := by decide +kernel
theorem dX3_canBeFairer_26 : decode cX3_canBeFairer 26 = .ok (.goto 4, 3) := by decide +kernel
theorem dX3_canBeFairer_29 : decode cX3_canBeFairer 29 = .ok (.iconst 0, 1) := by decide +kernel
theorem dX3_canBeFairer_30 : decode cX3_canBeFairer 30 = .ok (.ireturn, 1) := by decide +kernel
theorem dX3_chooseInTurn_0 : decode cX3_chooseInTurn 0 = .ok (.aload_n 0, 1) := by decide +kernel
theorem dX3_chooseInTurn_1 : decode cX3_chooseInTurn 1 = .ok (.aload_n 1, 1) := by decide +kernel
theorem dX3_chooseInTurn_2 : decode cX3_chooseInTurn 2 = .ok (.invokevirtual 65, 3) := by decide +kernel
theorem dX3_chooseInTurn_5 : decode cX3_chooseInTurn 5 = .ok (.aload_n 0, 1) := by decide +kernel
theorem dX3_chooseInTurn_6 : decode cX3_chooseInTurn 6 = .ok (.getfield 15, 3) := by decide +kernel
theorem dX3_chooseInTurn_9 : decode cX3_chooseInTurn 9 = .ok (.bipush (-9), 2) := by decide +kernel
theorem dX3_chooseInTurn_11 : decode cX3_chooseInTurn 11 = .ok (.invokestatic 59, 3) := by decide +kernel
theorem dX3_chooseInTurn_14 : decode cX3_chooseInTurn 14 = .ok (.aload_n 0, 1) := by decide +kernel
theorem dX3_chooseInTurn_15 : decode cX3_chooseInTurn 15 = .ok (.bipush (-9), 2) := by decide +kernel
theorem dX3_chooseInTurn_17 : decode cX3_chooseInTurn 17 = .ok (.putfield 38, 3) := by decide +kernel
theorem dX3_chooseInTurn_20 : decode cX3_chooseInTurn 20 = .ok (.iconst 0, 1) := by decide +kernel
theorem dX3_chooseInTurn_21 : decode cX3_chooseInTurn 21 = .ok (.istore_n 2, 1) := by decide +kernel
theorem dX3_chooseInTurn_22 : decode cX3_chooseInTurn 22 = .ok (.iload_n 2, 1) := by decide +kernel
theorem dX3_chooseInTurn_23 : decode cX3_chooseInTurn 23 = .ok (.aload_n 0, 1) := by decide +kernel
theorem dX3_chooseInTurn_24 : decode cX3_chooseInTurn 24 = .ok (.getfield 24, 3) := by decide +kernel
theorem dX3_chooseInTurn_27 : decode cX3_chooseInTurn 27 = .ok (.if_icmp .ge 42, 3) := by decide +kernel
theorem dX3_chooseInTurn_30 : decode cX3_chooseInTurn 30 = .ok (.aload_n 0, 1) := by decide +kernel
theorem dX3_chooseInTurn_31 : decode cX3_chooseInTurn 31 = .ok (.aload_n 0, 1) := by decide +kernel
theorem dX3_chooseInTurn_32 : decode cX3_chooseInTurn 32 = .ok (.getfield 28, 3) := by decide +kernel
theorem dX3_chooseInTurn_35 : decode cX3_chooseInTurn 35 = .ok (.ifCond .le 12, 3) := by decide +kernel
theorem dX3_chooseInTurn_38 : decode cX3_chooseInTurn 38 = .ok (.iload_n 2, 1) := by decide +kernel
theorem dX3_chooseInTurn_39 : decode cX3_chooseInTurn 39 = .ok (.aload_n 0, 1) := by decide +kernel
theorem dX3_chooseInTurn_40 : decode cX3_chooseInTurn 40 = .ok (.getfield 28, 3) := by decide +kernel
theorem dX3_chooseInTurn_43 : decode cX3_chooseInTurn 43 = .ok (.irem, 1) := by decide +kernel
theorem dX3_chooseInTurn_44 : decode cX3_chooseInTurn 44 = .ok (.goto 4, 3) := by decide +kernel
theorem dX3_chooseInTurn_47 : decode cX3_chooseInTurn 47 = .ok (.iconst 0, 1) := by decide +kernel
theorem dX3_chooseInTurn_48 : decode cX3_chooseInTurn 48 = .ok (.putfield 38, 3) := by decide +kernel
theorem dX3_chooseInTurn_51 : decode cX3_chooseInTurn 51 = .ok (.aload_n 0, 1) := by decide +kernel
theorem dX3_chooseInTurn_52 : decode cX3_chooseInTurn 52 = .ok (.aload_n 0, 1) := by decide +kernel
theorem dX3_chooseInTurn_53 : decode cX3_chooseInTurn 53 = .ok (.invokevirtual 100, 3) := by decide +kernel
theorem dX3_chooseInTurn_56 : decode cX3_chooseInTurn 56 = .ok (.aload_n 0, 1) := by decide +kernel
theorem dX3_chooseInTurn_57 : decode cX3_chooseInTurn 57 = .ok (.getfield 38, 3) := by decide +kernel
theorem dX3_chooseInTurn_60 : decode cX3_chooseInTurn 60 = .ok (.invokevirtual 73, 3) := by decide +kernel
theorem dX3_chooseInTurn_63 : decode cX3_chooseInTurn 63 = .ok (.iinc 2 1, 3) := by decide +kernel
theorem dX3_chooseInTurn_66 : decode cX3_chooseInTurn 66 = .ok (.goto (-44), 3) := by decide +kernel
theorem dX3_chooseInTurn_69 : decode cX3_chooseInTurn 69 = .ok (.return_, 1) := by decide +kernel
theorem dX3_dealOut_0 : decode cX3_dealOut 0 = .ok (.aload_n 0, 1) := by decide +kernel
theorem dX3_dealOut_1 : decode cX3_dealOut 1 = .ok (.aload_n 1, 1) := by decide +kernel
theorem dX3_dealOut_2 : decode cX3_dealOut 2 = .ok (.invokevirtual 65, 3) := by decide +kernel
theorem dX3_dealOut_5 : decode cX3_dealOut 5 = .ok (.iconst 0, 1) := by decide +kernel
theorem dX3_dealOut_6 : decode cX3_dealOut 6 = .ok (.istore_n 2, 1) := by decide +kernel
theorem dX3_dealOut_7 : decode cX3_dealOut 7 = .ok (.iload_n 2, 1) := by decide +kernel
theorem dX3_dealOut_8 : decode cX3_dealOut 8 = .ok (.aload_n 0, 1) := by decide +kernel
theorem dX3_dealOut_9 : decode cX3_dealOut 9 = .ok (.getfield 24, 3) := by decide +kernel
theorem dX3_dealOut_12 : decode cX3_dealOut 12 = .ok (.if_icmp .ge 18, 3) := by decide +kernel
theorem dX3_dealOut_15 : decode cX3_dealOut 15 = .ok (.aload_n 0, 1) := by decide +kernel
theorem dX3_dealOut_16 : decode cX3_dealOut 16 = .ok (.iload_n 2, 1) := by decide +kernel
theorem dX3_dealOut_17 : decode cX3_dealOut 17 = .ok (.aload_n 0, 1) := by decide +kernel
theorem dX3_dealOut_18 : decode cX3_dealOut 18 = .ok (.invokevirtual 97, 3) := by decide +kernel
theorem dX3_dealOut_21 : decode cX3_dealOut 21 = .ok (.invokevirtual 73, 3) := by decide +kernel
theorem dX3_dealOut_24 : decode cX3_dealOut 24 = .ok (.iinc 2 1, 3) := by decide +kernel
theorem dX3_dealOut_27 : decode cX3_dealOut 27 = .ok (.goto (-20), 3) := by decide +kernel
theorem dX3_dealOut_30 : decode cX3_dealOut 30 = .ok (.return_, 1) := by decide +kernel
theorem dX3_envied_0 : decode cX3_envied 0 = .ok (.iconst 0, 1) := by decide +kernel
theorem dX3_envied_1 : decode cX3_envied 1 = .ok (.istore_n 1, 1) := by decide +kernel
theorem dX3_envied_2 : decode cX3_envied 2 = .ok (.iconst 0, 1) := by decide +kernel
theorem dX3_envied_3 : decode cX3_envied 3 = .ok (.istore_n 2, 1) := by decide +kernel
theorem dX3_envied_4 : decode cX3_envied 4 = .ok (.iload_n 2, 1) := by decide +kernel
theorem dX3_envied_5 : decode cX3_envied 5 = .ok (.aload_n 0, 1) := by decide +kernel
theorem dX3_envied_6 : decode cX3_envied 6 = .ok (.getfield 28, 3) := by decide +kernel
theorem dX3_envied_9 : decode cX3_envied 9 = .ok (.if_icmp .ge 30, 3) := by decide +kernel
theorem dX3_envied_12 : decode cX3_envied 12 = .ok (.aload_n 0, 1) := by decide +kernel
theorem dX3_envied_13 : decode cX3_envied 13 = .ok (.getfield 21, 3) := by decide +kernel
theorem dX3_envied_16 : decode cX3_envied 16 = .ok (.iload_n 2, 1) := by decide +kernel
theorem dX3_envied_17 : decode cX3_envied 17 = .ok (.iaload, 1) := by decide +kernel
theorem dX3_envied_18 : decode cX3_envied 18 = .ok (.aload_n 0, 1) := by decide +kernel
theorem dX3_envied_19 : decode cX3_envied 19 = .ok (.getfield 21, 3) := by decide +kernel
theorem dX3_envied_22 : decode cX3_envied 22 = .ok (.aload_n 0, 1) := by decide +kernel
theorem dX3_envied_23 : decode cX3_envied 23 = .ok (.invokevirtual 97, 3) := by decide +kernel
theorem dX3_envied_26 : decode cX3_envied 26 = .ok (.iaload, 1) := by decide +kernel
theorem dX3_envied_27 : decode cX3_envied 27 = .ok (.if_icmp .le 6, 3) := by decide +kernel
theorem dX3_envied_30 : decode cX3_envied 30 = .ok (.iinc 1 1, 3) := by decide +kernel
theorem dX3_envied_33 : decode cX3_envied 33 = .ok (.iinc 2 1, 3) := by decide +kernel
theorem dX3_envied_36 : decode cX3_envied 36 = .ok (.goto (-32), 3) := by decide +kernel
theorem dX3_envied_39 : decode cX3_envied 39 = .ok (.iload_n 1, 1) := by decide +kernel
theorem dX3_envied_40 : decode cX3_envied 40 = .ok (.ireturn, 1) := by decide +kernel
theorem dX3_give_0 : decode cX3_give 0 = .ok (.iload_n 1, 1) := by decide +kernel
theorem dX3_give_1 : decode cX3_give 1 = .ok (.ifCond .lt 45, 3) := by decide +kernel
theorem dX3_give_4 : decode cX3_give 4 = .ok (.iload_n 1, 1) := by decide +kernel
theorem dX3_give_5 : decode cX3_give 5 = .ok (.aload_n 0, 1) := by decide +kernel
theorem dX3_give_6 : decode cX3_give 6 = .ok (.getfield 24, 3) := by decide +kernel
theorem dX3_give_9 : decode cX3_give 9 = .ok (.if_icmp .ge 37, 3) := by decide +kernel
theorem dX3_give_12 : decode cX3_give 12 = .ok (.iload_n 2, 1) := by decide +kernel
theorem dX3_give_13 : decode cX3_give 13 = .ok (.ifCond .lt 33, 3) := by decide +kernel
theorem dX3_give_16 : decode cX3_give 16 = .ok (.iload_n 2, 1) := by decide +kernel
theorem dX3_give_17 : decode cX3_give 17 = .ok (.aload_n 0, 1) := by decide +kernel
theorem dX3_give_18 : decode cX3_give 18 = .ok (.getfield 28, 3) := by decide +kernel
theorem dX3_give_21 : decode cX3_give 21 = .ok (.if_icmp .ge 25, 3) := by decide +kernel
theorem dX3_give_24 : decode cX3_give 24 = .ok (.aload_n 0, 1) := by decide +kernel
theorem dX3_give_25 : decode cX3_give 25 = .ok (.getfield 15, 3) := by decide +kernel
theorem dX3_give_28 : decode cX3_give 28 = .ok (.iload_n 1, 1) := by decide +kernel
theorem dX3_give_29 : decode cX3_give 29 = .ok (.iload_n 2, 1) := by decide +kernel
theorem dX3_give_30 : decode cX3_give 30 = .ok (.iastore, 1) := by decide +kernel
theorem dX3_give_31 : decode cX3_give 31 = .ok (.aload_n 0, 1) := by decide +kernel
theorem dX3_give_32 : decode cX3_give 32 = .ok (.getfield 21, 3) := by decide +kernel
theorem dX3_give_35 : decode cX3_give 35 = .ok (.iload_n 2, 1) := by decide +kernel
theorem dX3_give_36 : decode cX3_give 36 = .ok (.dup2, 1) := by decide +kernel
theorem dX3_give_37 : decode cX3_give 37 = .ok (.iaload, 1) := by decide +kernel
theorem dX3_give_38 : decode cX3_give 38 = .ok (.aload_n 0, 1) := by decide +kernel
theorem dX3_give_39 : decode cX3_give 39 = .ok (.getfield 9, 3) := by decide +kernel
theorem dX3_give_42 : decode cX3_give 42 = .ok (.iload_n 1, 1) := by decide +kernel
theorem dX3_give_43 : decode cX3_give 43 = .ok (.iaload, 1) := by decide +kernel
theorem dX3_give_44 : decode cX3_give 44 = .ok (.iadd, 1) := by decide +kernel
theorem dX3_give_45 : decode cX3_give 45 = .ok (.iastore, 1) := by decide +kernel
theorem dX3_give_46 : decode cX3_give 46 = .ok (.return_, 1) := by decide +kernel
theorem dX3_giveFrom_0 : decode cX3_giveFrom 0 = .ok (.iload_n 1, 1) := by decide +kernel
theorem dX3_giveFrom_1 : decode cX3_giveFrom 1 = .ok (.aload_n 0, 1) := by decide +kernel
theorem dX3_giveFrom_2 : decode cX3_giveFrom 2 = .ok (.getfield 24, 3) := by decide +kernel
theorem dX3_giveFrom_5 : decode cX3_giveFrom 5 = .ok (.if_icmp .lt 8, 3) := by decide +kernel
theorem dX3_giveFrom_8 : decode cX3_giveFrom 8 = .ok (.aload_n 0, 1) := by decide +kernel
theorem dX3_giveFrom_9 : decode cX3_giveFrom 9 = .ok (.invokevirtual 77, 3) := by decide +kernel
theorem dX3_giveFrom_12 : decode cX3_giveFrom 12 = .ok (.return_, 1) := by decide +kernel
theorem dX3_giveFrom_13 : decode cX3_giveFrom 13 = .ok (.iconst 0, 1) := by decide +kernel
theorem dX3_giveFrom_14 : decode cX3_giveFrom 14 = .ok (.istore_n 2, 1) := by decide +kernel
theorem dX3_giveFrom_15 : decode cX3_giveFrom 15 = .ok (.iload_n 2, 1) := by decide +kernel
theorem dX3_giveFrom_16 : decode cX3_giveFrom 16 = .ok (.aload_n 0, 1) := by decide +kernel
theorem dX3_giveFrom_17 : decode cX3_giveFrom 17 = .ok (.getfield 28, 3) := by decide +kernel
theorem dX3_giveFrom_20 : decode cX3_giveFrom 20 = .ok (.if_icmp .ge 36, 3) := by decide +kernel
theorem dX3_giveFrom_23 : decode cX3_giveFrom 23 = .ok (.aload_n 0, 1) := by decide +kernel
theorem dX3_giveFrom_24 : decode cX3_giveFrom 24 = .ok (.iload_n 1, 1) := by decide +kernel
theorem dX3_giveFrom_25 : decode cX3_giveFrom 25 = .ok (.iload_n 2, 1) := by decide +kernel
theorem dX3_giveFrom_26 : decode cX3_giveFrom 26 = .ok (.invokevirtual 73, 3) := by decide +kernel
theorem dX3_giveFrom_29 : decode cX3_giveFrom 29 = .ok (.aload_n 0, 1) := by decide +kernel
theorem dX3_giveFrom_30 : decode cX3_giveFrom 30 = .ok (.iload_n 2, 1) := by decide +kernel
theorem dX3_giveFrom_31 : decode cX3_giveFrom 31 = .ok (.invokevirtual 80, 3) := by decide +kernel
theorem dX3_giveFrom_34 : decode cX3_giveFrom 34 = .ok (.ifCond .eq 10, 3) := by decide +kernel
theorem dX3_giveFrom_37 : decode cX3_giveFrom 37 = .ok (.aload_n 0, 1) := by decide +kernel
theorem dX3_giveFrom_38 : decode cX3_giveFrom 38 = .ok (.iload_n 1, 1) := by decide +kernel
theorem dX3_giveFrom_39 : decode cX3_giveFrom 39 = .ok (.iconst 1, 1) := by decide +kernel
theorem dX3_giveFrom_40 : decode cX3_giveFrom 40 = .ok (.iadd, 1) := by decide +kernel
theorem dX3_giveFrom_41 : decode cX3_giveFrom 41 = .ok (.invokestatic 69, 3) := by decide +kernel
theorem dX3_giveFrom_44 : decode cX3_giveFrom 44 = .ok (.aload_n 0, 1) := by decide +kernel
theorem dX3_giveFrom_45 : decode cX3_giveFrom 45 = .ok (.iload_n 1, 1) := by decide +kernel
theorem dX3_giveFrom_46 : decode cX3_giveFrom 46 = .ok (.iload_n 2, 1) := by decide +kernel
theorem dX3_giveFrom_47 : decode cX3_giveFrom 47 = .ok (.invokevirtual 84, 3) := by decide +kernel
theorem dX3_giveFrom_50 : decode cX3_giveFrom 50 = .ok (.iinc 2 1, 3) := by decide +kernel
theorem dX3_giveFrom_53 : decode cX3_giveFrom 53 = .ok (.goto (-38), 3) := by decide +kernel
theorem dX3_giveFrom_56 : decode cX3_giveFrom 56 = .ok (.return_, 1) := by decide +kernel
theorem dX3_init_0 : decode cX3_init 0 = .ok (.aload_n 0, 1) := by decide +kernel
theorem dX3_init_1 : decode cX3_init 1 = .ok (.invokespecial 3, 3) := by decide +kernel
theorem dX3_init_4 : decode cX3_init 4 = .ok (.aload_n 0, 1) := by decide +kernel
theorem dX3_init_5 : decode cX3_init 5 = .ok (.bipush 7, 2) := by decide +kernel
theorem dX3_init_7 : decode cX3_init 7 = .ok (.newarray .int, 2) := by decide +kernel
theorem dX3_init_9 : decode cX3_init 9 = .ok (.putfield 9, 3) := by decide +kernel
theorem dX3_init_12 : decode cX3_init 12 = .ok (.aload_n 0, 1) := by decide +kernel
theorem dX3_init_13 : decode cX3_init 13 = .ok (.bipush 7, 2) := by decide +kernel
theorem dX3_init_15 : decode cX3_init 15 = .ok (.newarray .int, 2) := by decide +kernel
theorem dX3_init_17 : decode cX3_init 17 = .ok (.putfield 15, 3) := by decide +kernel
theorem dX3_init_20 : decode cX3_init 20 = .ok (.aload_n 0, 1) := by decide +kernel
theorem dX3_init_21 : decode cX3_init 21 = .ok (.bipush 7, 2) := by decide +kernel
theorem dX3_init_23 : decode cX3_init 23 = .ok (.newarray .int, 2) := by decide +kernel
theorem dX3_init_25 : decode cX3_init 25 = .ok (.putfield 18, 3) := by decide +kernel
theorem dX3_init_28 : decode cX3_init 28 = .ok (.aload_n 0, 1) := by decide +kernel
theorem dX3_init_29 : decode cX3_init 29 = .ok (.iconst 4, 1) := by decide +kernel
theorem dX3_init_30 : decode cX3_init 30 = .ok (.newarray .int, 2) := by decide +kernel
theorem dX3_init_32 : decode cX3_init 32 = .ok (.putfield 21, 3) := by decide +kernel
theorem dX3_init_35 : decode cX3_init 35 = .ok (.aload_n 0, 1) := by decide +kernel
theorem dX3_init_36 : decode cX3_init 36 = .ok (.iconst 0, 1) := by decide +kernel
theorem dX3_init_37 : decode cX3_init 37 = .ok (.putfield 24, 3) := by decide +kernel
theorem dX3_init_40 : decode cX3_init 40 = .ok (.aload_n 0, 1) := by decide +kernel
theorem dX3_init_41 : decode cX3_init 41 = .ok (.iconst 0, 1) := by decide +kernel
theorem dX3_init_42 : decode cX3_init 42 = .ok (.putfield 28, 3) := by decide +kernel
theorem dX3_init_45 : decode cX3_init 45 = .ok (.aload_n 0, 1) := by decide +kernel
theorem dX3_init_46 : decode cX3_init 46 = .ok (.iconst 0, 1) := by decide +kernel
theorem dX3_init_47 : decode cX3_init 47 = .ok (.putfield 31, 3) := by decide +kernel
theorem dX3_init_50 : decode cX3_init 50 = .ok (.aload_n 0, 1) := by decide +kernel
theorem dX3_init_51 : decode cX3_init 51 = .ok (.ldc 34, 2) := by decide +kernel
theorem dX3_init_53 : decode cX3_init 53 = .ok (.putfield 35, 3) := by decide +kernel
theorem dX3_init_56 : decode cX3_init 56 = .ok (.aload_n 0, 1) := by decide +kernel
theorem dX3_init_57 : decode cX3_init 57 = .ok (.bipush (-9), 2) := by decide +kernel
theorem dX3_init_59 : decode cX3_init 59 = .ok (.putfield 38, 3) := by decide +kernel
theorem dX3_init_62 : decode cX3_init 62 = .ok (.return_, 1) := by decide +kernel
theorem dX3_keepIfFairer_0 : decode cX3_keepIfFairer 0 = .ok (.aload_n 0, 1) := by decide +kernel
theorem dX3_keepIfFairer_1 : decode cX3_keepIfFairer 1 = .ok (.invokevirtual 87, 3) := by decide +kernel
theorem dX3_keepIfFairer_4 : decode cX3_keepIfFairer 4 = .ok (.istore_n 1, 1) := by decide +kernel
theorem dX3_keepIfFairer_5 : decode cX3_keepIfFairer 5 = .ok (.iload_n 1, 1) := by decide +kernel
theorem dX3_keepIfFairer_6 : decode cX3_keepIfFairer 6 = .ok (.aload_n 0, 1) := by decide +kernel
theorem dX3_keepIfFairer_7 : decode cX3_keepIfFairer 7 = .ok (.getfield 35, 3) := by decide +kernel
theorem dX3_keepIfFairer_10 : decode cX3_keepIfFairer 10 = .ok (.if_icmp .ge 23, 3) := by decide +kernel
theorem dX3_keepIfFairer_13 : decode cX3_keepIfFairer 13 = .ok (.aload_n 0, 1) := by decide +kernel
theorem dX3_keepIfFairer_14 : decode cX3_keepIfFairer 14 = .ok (.iload_n 1, 1) := by decide +kernel
theorem dX3_keepIfFairer_15 : decode cX3_keepIfFairer 15 = .ok (.putfield 35, 3) := by decide +kernel
theorem dX3_keepIfFairer_18 : decode cX3_keepIfFairer 18 = .ok (.aload_n 0, 1) := by decide +kernel
theorem dX3_keepIfFairer_19 : decode cX3_keepIfFairer 19 = .ok (.getfield 15, 3) := by decide +kernel
theorem dX3_keepIfFairer_22 : decode cX3_keepIfFairer 22 = .ok (.iconst 0, 1) := by decide +kernel
theorem dX3_keepIfFairer_23 : decode cX3_keepIfFairer 23 = .ok (.aload_n 0, 1) := by decide +kernel
theorem dX3_keepIfFairer_24 : decode cX3_keepIfFairer 24 = .ok (.getfield 18, 3) := by decide +kernel
theorem dX3_keepIfFairer_27 : decode cX3_keepIfFairer 27 = .ok (.iconst 0, 1) := by decide +kernel
theorem dX3_keepIfFairer_28 : decode cX3_keepIfFairer 28 = .ok (.bipush 7, 2) := by decide +kernel
theorem dX3_keepIfFairer_30 : decode cX3_keepIfFairer 30 = .ok (.invokestatic 91, 3) := by decide +kernel
theorem dX3_keepIfFairer_33 : decode cX3_keepIfFairer 33 = .ok (.return_, 1) := by decide +kernel
theorem dX3_leastOfLeft_0 : decode cX3_leastOfLeft 0 = .ok (.bipush (-9), 2) := by decide +kernel
theorem dX3_leastOfLeft_2 : decode cX3_leastOfLeft 2 = .ok (.istore_n 1, 1) := by decide +kernel
theorem dX3_leastOfLeft_3 : decode cX3_leastOfLeft 3 = .ok (.iconst 0, 1) := by decide +kernel
theorem dX3_leastOfLeft_4 : decode cX3_leastOfLeft 4 = .ok (.istore_n 2, 1) := by decide +kernel
theorem dX3_leastOfLeft_5 : decode cX3_leastOfLeft 5 = .ok (.iload_n 2, 1) := by decide +kernel
theorem dX3_leastOfLeft_6 : decode cX3_leastOfLeft 6 = .ok (.aload_n 0, 1) := by decide +kernel
theorem dX3_leastOfLeft_7 : decode cX3_leastOfLeft 7 = .ok (.getfield 24, 3) := by decide +kernel
theorem dX3_leastOfLeft_10 : decode cX3_leastOfLeft 10 = .ok (.if_icmp .ge 43, 3) := by decide +kernel
theorem dX3_leastOfLeft_13 : decode cX3_leastOfLeft 13 = .ok (.aload_n 0, 1) := by decide +kernel
theorem dX3_leastOfLeft_14 : decode cX3_leastOfLeft 14 = .ok (.getfield 15, 3) := by decide +kernel
theorem dX3_leastOfLeft_17 : decode cX3_leastOfLeft 17 = .ok (.iload_n 2, 1) := by decide +kernel
theorem dX3_leastOfLeft_18 : decode cX3_leastOfLeft 18 = .ok (.iaload, 1) := by decide +kernel
theorem dX3_leastOfLeft_19 : decode cX3_leastOfLeft 19 = .ok (.bipush (-9), 2) := by decide +kernel
theorem dX3_leastOfLeft_21 : decode cX3_leastOfLeft 21 = .ok (.if_icmp .ne 26, 3) := by decide +kernel
theorem dX3_leastOfLeft_24 : decode cX3_leastOfLeft 24 = .ok (.iload_n 1, 1) := by decide +kernel
theorem dX3_leastOfLeft_25 : decode cX3_leastOfLeft 25 = .ok (.bipush (-9), 2) := by decide +kernel
theorem dX3_leastOfLeft_27 : decode cX3_leastOfLeft 27 = .ok (.if_icmp .eq 18, 3) := by decide +kernel
theorem dX3_leastOfLeft_30 : decode cX3_leastOfLeft 30 = .ok (.aload_n 0, 1) := by decide +kernel
theorem dX3_leastOfLeft_31 : decode cX3_leastOfLeft 31 = .ok (.getfield 9, 3) := by decide +kernel
theorem dX3_leastOfLeft_34 : decode cX3_leastOfLeft 34 = .ok (.iload_n 2, 1) := by decide +kernel
theorem dX3_leastOfLeft_35 : decode cX3_leastOfLeft 35 = .ok (.iaload, 1) := by decide +kernel
theorem dX3_leastOfLeft_36 : decode cX3_leastOfLeft 36 = .ok (.aload_n 0, 1) := by decide +kernel
theorem dX3_leastOfLeft_37 : decode cX3_leastOfLeft 37 = .ok (.getfield 9, 3) := by decide +kernel
theorem dX3_leastOfLeft_40 : decode cX3_leastOfLeft 40 = .ok (.iload_n 1, 1) := by decide +kernel
theorem dX3_leastOfLeft_41 : decode cX3_leastOfLeft 41 = .ok (.iaload, 1) := by decide +kernel
theorem dX3_leastOfLeft_42 : decode cX3_leastOfLeft 42 = .ok (.if_icmp .ge 5, 3) := by decide +kernel
theorem dX3_leastOfLeft_45 : decode cX3_leastOfLeft 45 = .ok (.iload_n 2, 1) := by decide +kernel
theorem dX3_leastOfLeft_46 : decode cX3_leastOfLeft 46 = .ok (.istore_n 1, 1) := by decide +kernel
theorem dX3_leastOfLeft_47 : decode cX3_leastOfLeft 47 = .ok (.iinc 2 1, 3) := by decide +kernel
theorem dX3_leastOfLeft_50 : decode cX3_leastOfLeft 50 = .ok (.goto (-45), 3) := by decide +kernel
theorem dX3_leastOfLeft_53 : decode cX3_leastOfLeft 53 = .ok (.iload_n 1, 1) := by decide +kernel
theorem dX3_leastOfLeft_54 : decode cX3_leastOfLeft 54 = .ok (.ireturn, 1) := by decide +kernel
theorem dX3_poorest_0 : decode cX3_poorest 0 = .ok (.iconst 0, 1) := by decide +kernel
theorem dX3_poorest_1 : decode cX3_poorest 1 = .ok (.istore_n 1, 1) := by decide +kernel
theorem dX3_poorest_2 : decode cX3_poorest 2 = .ok (.iconst 1, 1) := by decide +kernel
theorem dX3_poorest_3 : decode cX3_poorest 3 = .ok (.istore_n 2, 1) := by decide +kernel
theorem dX3_poorest_4 : decode cX3_poorest 4 = .ok (.iload_n 2, 1) := by decide +kernel
theorem dX3_poorest_5 : decode cX3_poorest 5 = .ok (.aload_n 0, 1) := by decide +kernel
theorem dX3_poorest_6 : decode cX3_poorest 6 = .ok (.getfield 28, 3) := by decide +kernel
theorem dX3_poorest_9 : decode cX3_poorest 9 = .ok (.if_icmp .ge 26, 3) := by decide +kernel
theorem dX3_poorest_12 : decode cX3_poorest 12 = .ok (.aload_n 0, 1) := by decide +kernel
theorem dX3_poorest_13 : decode cX3_poorest 13 = .ok (.getfield 21, 3) := by decide +kernel
theorem dX3_poorest_16 : decode cX3_poorest 16 = .ok (.iload_n 2, 1) := by decide +kernel
theorem dX3_poorest_17 : decode cX3_poorest 17 = .ok (.iaload, 1) := by decide +kernel
theorem dX3_poorest_18 : decode cX3_poorest 18 = .ok (.aload_n 0, 1) := by decide +kernel
theorem dX3_poorest_19 : decode cX3_poorest 19 = .ok (.getfield 21, 3) := by decide +kernel
theorem dX3_poorest_22 : decode cX3_poorest 22 = .ok (.iload_n 1, 1) := by decide +kernel
theorem dX3_poorest_23 : decode cX3_poorest 23 = .ok (.iaload, 1) := by decide +kernel
theorem dX3_poorest_24 : decode cX3_poorest 24 = .ok (.if_icmp .ge 5, 3) := by decide +kernel
theorem dX3_poorest_27 : decode cX3_poorest 27 = .ok (.iload_n 2, 1) := by decide +kernel
theorem dX3_poorest_28 : decode cX3_poorest 28 = .ok (.istore_n 1, 1) := by decide +kernel
theorem dX3_poorest_29 : decode cX3_poorest 29 = .ok (.iinc 2 1, 3) := by decide +kernel
theorem dX3_poorest_32 : decode cX3_poorest 32 = .ok (.goto (-28), 3) := by decide +kernel
theorem dX3_poorest_35 : decode cX3_poorest 35 = .ok (.iload_n 1, 1) := by decide +kernel
theorem dX3_poorest_36 : decode cX3_poorest 36 = .ok (.ireturn, 1) := by decide +kernel
theorem dX3_richest_0 : decode cX3_richest 0 = .ok (.iconst 0, 1) := by decide +kernel
theorem dX3_richest_1 : decode cX3_richest 1 = .ok (.istore_n 1, 1) := by decide +kernel
theorem dX3_richest_2 : decode cX3_richest 2 = .ok (.iconst 1, 1) := by decide +kernel
theorem dX3_richest_3 : decode cX3_richest 3 = .ok (.istore_n 2, 1) := by decide +kernel
theorem dX3_richest_4 : decode cX3_richest 4 = .ok (.iload_n 2, 1) := by decide +kernel
theorem dX3_richest_5 : decode cX3_richest 5 = .ok (.aload_n 0, 1) := by decide +kernel
theorem dX3_richest_6 : decode cX3_richest 6 = .ok (.getfield 28, 3) := by decide +kernel
theorem dX3_richest_9 : decode cX3_richest 9 = .ok (.if_icmp .ge 26, 3) := by decide +kernel
theorem dX3_richest_12 : decode cX3_richest 12 = .ok (.aload_n 0, 1) := by decide +kernel
theorem dX3_richest_13 : decode cX3_richest 13 = .ok (.getfield 21, 3) := by decide +kernel
theorem dX3_richest_16 : decode cX3_richest 16 = .ok (.iload_n 2, 1) := by decide +kernel
theorem dX3_richest_17 : decode cX3_richest 17 = .ok (.iaload, 1) := by decide +kernel
theorem dX3_richest_18 : decode cX3_richest 18 = .ok (.aload_n 0, 1) := by decide +kernel
theorem dX3_richest_19 : decode cX3_richest 19 = .ok (.getfield 21, 3) := by decide +kernel
theorem dX3_richest_22 : decode cX3_richest 22 = .ok (.iload_n 1, 1) := by decide +kernel
theorem dX3_richest_23 : decode cX3_richest 23 = .ok (.iaload, 1) := by decide +kernel
theorem dX3_richest_24 : decode cX3_richest 24 = .ok (.if_icmp .le 5, 3) := by decide +kernel
theorem dX3_richest_27 : decode cX3_richest 27 = .ok (.iload_n 2, 1) := by decide +kernel
theorem dX3_richest_28 : decode cX3_richest 28 = .ok (.istore_n 1, 1) := by decide +kernel
theorem dX3_richest_29 : decode cX3_richest 29 = .ok (.iinc 2 1, 3) := by decide +kernel
theorem dX3_richest_32 : decode cX3_richest 32 = .ok (.goto (-28), 3) := by decide +kernel
theorem dX3_richest_35 : decode cX3_richest 35 = .ok (.iload_n 1, 1) := by decide +kernel
theorem dX3_richest_36 : decode cX3_richest 36 = .ok (.ireturn, 1) := by decide +kernel
theorem dX3_shareFairly_0 : decode cX3_shareFairly 0 = .ok (.aload_n 0, 1) := by decide +kernel
theorem dX3_shareFairly_1 : decode cX3_shareFairly 1 = .ok (.aload_n 1, 1) := by decide +kernel
theorem dX3_shareFairly_2 : decode cX3_shareFairly 2 = .ok (.invokevirtual 65, 3) := by decide +kernel
theorem dX3_shareFairly_5 : decode cX3_shareFairly 5 = .ok (.aload_n 0, 1) := by decide +kernel
theorem dX3_shareFairly_6 : decode cX3_shareFairly 6 = .ok (.ldc 34, 2) := by decide +kernel
theorem dX3_shareFairly_8 : decode cX3_shareFairly 8 = .ok (.putfield 35, 3) := by decide +kernel
theorem dX3_shareFairly_11 : decode cX3_shareFairly 11 = .ok (.aload_n 0, 1) := by decide +kernel
theorem dX3_shareFairly_12 : decode cX3_shareFairly 12 = .ok (.iconst 0, 1) := by decide +kernel
theorem dX3_shareFairly_13 : decode cX3_shareFairly 13 = .ok (.invokestatic 69, 3) := by decide +kernel
theorem dX3_shareFairly_16 : decode cX3_shareFairly 16 = .ok (.iconst 0, 1) := by decide +kernel
theorem dX3_shareFairly_17 : decode cX3_shareFairly 17 = .ok (.istore_n 2, 1) := by decide +kernel
theorem dX3_shareFairly_18 : decode cX3_shareFairly 18 = .ok (.iload_n 2, 1) := by decide +kernel
theorem dX3_shareFairly_19 : decode cX3_shareFairly 19 = .ok (.aload_n 0, 1) := by decide +kernel
theorem dX3_shareFairly_20 : decode cX3_shareFairly 20 = .ok (.getfield 24, 3) := by decide +kernel
theorem dX3_shareFairly_23 : decode cX3_shareFairly 23 = .ok (.if_icmp .ge 20, 3) := by decide +kernel
theorem dX3_shareFairly_26 : decode cX3_shareFairly 26 = .ok (.aload_n 0, 1) := by decide +kernel
theorem dX3_shareFairly_27 : decode cX3_shareFairly 27 = .ok (.iload_n 2, 1) := by decide +kernel
theorem dX3_shareFairly_28 : decode cX3_shareFairly 28 = .ok (.aload_n 0, 1) := by decide +kernel
theorem dX3_shareFairly_29 : decode cX3_shareFairly 29 = .ok (.getfield 18, 3) := by decide +kernel
theorem dX3_shareFairly_32 : decode cX3_shareFairly 32 = .ok (.iload_n 2, 1) := by decide +kernel
theorem dX3_shareFairly_33 : decode cX3_shareFairly 33 = .ok (.iaload, 1) := by decide +kernel
theorem dX3_shareFairly_34 : decode cX3_shareFairly 34 = .ok (.invokevirtual 73, 3) := by decide +kernel
theorem dX3_shareFairly_37 : decode cX3_shareFairly 37 = .ok (.iinc 2 1, 3) := by decide +kernel
theorem dX3_shareFairly_40 : decode cX3_shareFairly 40 = .ok (.goto (-22), 3) := by decide +kernel
theorem dX3_shareFairly_43 : decode cX3_shareFairly 43 = .ok (.return_, 1) := by decide +kernel
theorem dX3_shareOf_0 : decode cX3_shareOf 0 = .ok (.iload_n 1, 1) := by decide +kernel
theorem dX3_shareOf_1 : decode cX3_shareOf 1 = .ok (.ifCond .lt 20, 3) := by decide +kernel
theorem dX3_shareOf_4 : decode cX3_shareOf 4 = .ok (.iload_n 1, 1) := by decide +kernel
theorem dX3_shareOf_5 : decode cX3_shareOf 5 = .ok (.aload_n 0, 1) := by decide +kernel
theorem dX3_shareOf_6 : decode cX3_shareOf 6 = .ok (.getfield 28, 3) := by decide +kernel
theorem dX3_shareOf_9 : decode cX3_shareOf 9 = .ok (.if_icmp .ge 12, 3) := by decide +kernel
theorem dX3_shareOf_12 : decode cX3_shareOf 12 = .ok (.aload_n 0, 1) := by decide +kernel
theorem dX3_shareOf_13 : decode cX3_shareOf 13 = .ok (.getfield 21, 3) := by decide +kernel
theorem dX3_shareOf_16 : decode cX3_shareOf 16 = .ok (.iload_n 1, 1) := by decide +kernel
theorem dX3_shareOf_17 : decode cX3_shareOf 17 = .ok (.iaload, 1) := by decide +kernel
theorem dX3_shareOf_18 : decode cX3_shareOf 18 = .ok (.goto 5, 3) := by decide +kernel
theorem dX3_shareOf_21 : decode cX3_shareOf 21 = .ok (.bipush (-9), 2) := by decide +kernel
theorem dX3_shareOf_23 : decode cX3_shareOf 23 = .ok (.ireturn, 1) := by decide +kernel
theorem dX3_spread_0 : decode cX3_spread 0 = .ok (.aload_n 0, 1) := by decide +kernel
theorem dX3_spread_1 : decode cX3_spread 1 = .ok (.getfield 21, 3) := by decide +kernel
theorem dX3_spread_4 : decode cX3_spread 4 = .ok (.aload_n 0, 1) := by decide +kernel
theorem dX3_spread_5 : decode cX3_spread 5 = .ok (.invokevirtual 103, 3) := by decide +kernel
theorem dX3_spread_8 : decode cX3_spread 8 = .ok (.iaload, 1) := by decide +kernel
theorem dX3_spread_9 : decode cX3_spread 9 = .ok (.aload_n 0, 1) := by decide +kernel
theorem dX3_spread_10 : decode cX3_spread 10 = .ok (.getfield 21, 3) := by decide +kernel
theorem dX3_spread_13 : decode cX3_spread 13 = .ok (.aload_n 0, 1) := by decide +kernel
theorem dX3_spread_14 : decode cX3_spread 14 = .ok (.invokevirtual 97, 3) := by decide +kernel
theorem dX3_spread_17 : decode cX3_spread 17 = .ok (.iaload, 1) := by decide +kernel
theorem dX3_spread_18 : decode cX3_spread 18 = .ok (.isub, 1) := by decide +kernel
theorem dX3_spread_19 : decode cX3_spread 19 = .ok (.ireturn, 1) := by decide +kernel
theorem dX3_spreadOrHeirOf_0 : decode cX3_spreadOrHeirOf 0 = .ok (.iload_n 1, 1) := by decide +kernel
theorem dX3_spreadOrHeirOf_1 : decode cX3_spreadOrHeirOf 1 = .ok (.ifCond .lt 20, 3) := by decide +kernel
theorem dX3_spreadOrHeirOf_4 : decode cX3_spreadOrHeirOf 4 = .ok (.iload_n 1, 1) := by decide +kernel
theorem dX3_spreadOrHeirOf_5 : decode cX3_spreadOrHeirOf 5 = .ok (.aload_n 0, 1) := by decide +kernel
theorem dX3_spreadOrHeirOf_6 : decode cX3_spreadOrHeirOf 6 = .ok (.getfield 24, 3) := by decide +kernel
theorem dX3_spreadOrHeirOf_9 : decode cX3_spreadOrHeirOf 9 = .ok (.if_icmp .ge 12, 3) := by decide +kernel
theorem dX3_spreadOrHeirOf_12 : decode cX3_spreadOrHeirOf 12 = .ok (.aload_n 0, 1) := by decide +kernel
theorem dX3_spreadOrHeirOf_13 : decode cX3_spreadOrHeirOf 13 = .ok (.getfield 15, 3) := by decide +kernel
theorem dX3_spreadOrHeirOf_16 : decode cX3_spreadOrHeirOf 16 = .ok (.iload_n 1, 1) := by decide +kernel
theorem dX3_spreadOrHeirOf_17 : decode cX3_spreadOrHeirOf 17 = .ok (.iaload, 1) := by decide +kernel
theorem dX3_spreadOrHeirOf_18 : decode cX3_spreadOrHeirOf 18 = .ok (.goto 7, 3) := by decide +kernel
theorem dX3_spreadOrHeirOf_21 : decode cX3_spreadOrHeirOf 21 = .ok (.aload_n 0, 1) := by decide +kernel
theorem dX3_spreadOrHeirOf_22 : decode cX3_spreadOrHeirOf 22 = .ok (.invokevirtual 87, 3) := by decide +kernel
theorem dX3_spreadOrHeirOf_25 : decode cX3_spreadOrHeirOf 25 = .ok (.ireturn, 1) := by decide +kernel
theorem dX3_takeBack_0 : decode cX3_takeBack 0 = .ok (.iload_n 1, 1) := by decide +kernel
theorem dX3_takeBack_1 : decode cX3_takeBack 1 = .ok (.ifCond .lt 38, 3) := by decide +kernel
theorem dX3_takeBack_4 : decode cX3_takeBack 4 = .ok (.iload_n 1, 1) := by decide +kernel
theorem dX3_takeBack_5 : decode cX3_takeBack 5 = .ok (.aload_n 0, 1) := by decide +kernel
theorem dX3_takeBack_6 : decode cX3_takeBack 6 = .ok (.getfield 24, 3) := by decide +kernel
theorem dX3_takeBack_9 : decode cX3_takeBack 9 = .ok (.if_icmp .ge 30, 3) := by decide +kernel
theorem dX3_takeBack_12 : decode cX3_takeBack 12 = .ok (.iload_n 2, 1) := by decide +kernel
theorem dX3_takeBack_13 : decode cX3_takeBack 13 = .ok (.ifCond .lt 26, 3) := by decide +kernel
theorem dX3_takeBack_16 : decode cX3_takeBack 16 = .ok (.iload_n 2, 1) := by decide +kernel
theorem dX3_takeBack_17 : decode cX3_takeBack 17 = .ok (.aload_n 0, 1) := by decide +kernel
theorem dX3_takeBack_18 : decode cX3_takeBack 18 = .ok (.getfield 28, 3) := by decide +kernel
theorem dX3_takeBack_21 : decode cX3_takeBack 21 = .ok (.if_icmp .ge 18, 3) := by decide +kernel
theorem dX3_takeBack_24 : decode cX3_takeBack 24 = .ok (.aload_n 0, 1) := by decide +kernel
theorem dX3_takeBack_25 : decode cX3_takeBack 25 = .ok (.getfield 21, 3) := by decide +kernel
theorem dX3_takeBack_28 : decode cX3_takeBack 28 = .ok (.iload_n 2, 1) := by decide +kernel
theorem dX3_takeBack_29 : decode cX3_takeBack 29 = .ok (.dup2, 1) := by decide +kernel
theorem dX3_takeBack_30 : decode cX3_takeBack 30 = .ok (.iaload, 1) := by decide +kernel
theorem dX3_takeBack_31 : decode cX3_takeBack 31 = .ok (.aload_n 0, 1) := by decide +kernel
theorem dX3_takeBack_32 : decode cX3_takeBack 32 = .ok (.getfield 9, 3) := by decide +kernel
theorem dX3_takeBack_35 : decode cX3_takeBack 35 = .ok (.iload_n 1, 1) := by decide +kernel
theorem dX3_takeBack_36 : decode cX3_takeBack 36 = .ok (.iaload, 1) := by decide +kernel
theorem dX3_takeBack_37 : decode cX3_takeBack 37 = .ok (.isub, 1) := by decide +kernel
theorem dX3_takeBack_38 : decode cX3_takeBack 38 = .ok (.iastore, 1) := by decide +kernel
theorem dX3_takeBack_39 : decode cX3_takeBack 39 = .ok (.return_, 1) := by decide +kernel
theorem dX4_add_0 : decode cX4_add 0 = .ok (.iload_n 1, 1) := by decide +kernel
theorem dX4_add_1 : decode cX4_add 1 = .ok (.ifCond .ge 6, 3) := by decide +kernel
theorem dX4_add_4 : decode cX4_add 4 = .ok (.bipush (-4), 2) := by decide +kernel
theorem dX4_add_6 : decode cX4_add 6 = .ok (.ireturn, 1) := by decide +kernel
theorem dX4_add_7 : decode cX4_add 7 = .ok (.iload_n 1, 1) := by decide +kernel
theorem dX4_add_8 : decode cX4_add 8 = .ok (.sipush 255, 3) := by decide +kernel
theorem dX4_add_11 : decode cX4_add 11 = .ok (.if_icmp .gt 12, 3) := by decide +kernel
theorem dX4_add_14 : decode cX4_add 14 = .ok (.aload_n 0, 1) := by decide +kernel
theorem dX4_add_15 : decode cX4_add 15 = .ok (.getfield 15, 3) := by decide +kernel
theorem dX4_add_18 : decode cX4_add 18 = .ok (.bipush 96, 2) := by decide +kernel
theorem dX4_add_20 : decode cX4_add 20 = .ok (.if_icmp .lt 6, 3) := by decide +kernel
theorem dX4_add_23 : decode cX4_add 23 = .ok (.bipush (-6), 2) := by decide +kernel
theorem dX4_add_25 : decode cX4_add 25 = .ok (.ireturn, 1) := by decide +kernel
theorem dX4_add_26 : decode cX4_add 26 = .ok (.aload_n 0, 1) := by decide +kernel
theorem dX4_add_27 : decode cX4_add 27 = .ok (.getfield 9, 3) := by decide +kernel
theorem dX4_add_30 : decode cX4_add 30 = .ok (.aload_n 0, 1) := by decide +kernel
theorem dX4_add_31 : decode cX4_add 31 = .ok (.getfield 15, 3) := by decide +kernel
theorem dX4_add_34 : decode cX4_add 34 = .ok (.iload_n 1, 1) := by decide +kernel
theorem dX4_add_35 : decode cX4_add 35 = .ok (.iastore, 1) := by decide +kernel
theorem dX4_add_36 : decode cX4_add 36 = .ok (.aload_n 0, 1) := by decide +kernel
theorem dX4_add_37 : decode cX4_add 37 = .ok (.dup, 1) := by decide +kernel
theorem dX4_add_38 : decode cX4_add 38 = .ok (.getfield 15, 3) := by decide +kernel
theorem dX4_add_41 : decode cX4_add 41 = .ok (.iconst 1, 1) := by decide +kernel
theorem dX4_add_42 : decode cX4_add 42 = .ok (.iadd, 1) := by decide +kernel
theorem dX4_add_43 : decode cX4_add 43 = .ok (.putfield 15, 3) := by decide +kernel
theorem dX4_add_46 : decode cX4_add 46 = .ok (.aload_n 0, 1) := by decide +kernel
theorem dX4_add_47 : decode cX4_add 47 = .ok (.getfield 15, 3) := by decide +kernel
theorem dX4_add_50 : decode cX4_add 50 = .ok (.ireturn, 1) := by decide +kernel
theorem dX4_clear_0 : decode cX4_clear 0 = .ok (.aload_n 0, 1) := by decide +kernel
theorem dX4_clear_1 : decode cX4_clear 1 = .ok (.iconst 0, 1) := by decide +kernel
theorem dX4_clear_2 : decode cX4_clear 2 = .ok (.putfield 15, 3) := by decide +kernel
theorem dX4_clear_5 : decode cX4_clear 5 = .ok (.return_, 1) := by decide +kernel
theorem dX4_digitAt_0 : decode cX4_digitAt 0 = .ok (.aload_n 0, 1) := by decide +kernel
theorem dX4_digitAt_1 : decode cX4_digitAt 1 = .ok (.iload_n 1, 1) := by decide +kernel
theorem dX4_digitAt_2 : decode cX4_digitAt 2 = .ok (.invokevirtual 27, 3) := by decide +kernel
theorem dX4_digitAt_5 : decode cX4_digitAt 5 = .ok (.bipush 48, 2) := by decide +kernel
theorem dX4_digitAt_7 : decode cX4_digitAt 7 = .ok (.isub, 1) := by decide +kernel
theorem dX4_digitAt_8 : decode cX4_digitAt 8 = .ok (.ireturn, 1) := by decide +kernel
theorem dX4_firstBadPlace_0 : decode cX4_firstBadPlace 0 = .ok (.iconst 0, 1) := by decide +kernel
theorem dX4_firstBadPlace_1 : decode cX4_firstBadPlace 1 = .ok (.istore_n 1, 1) := by decide +kernel
theorem dX4_firstBadPlace_2 : decode cX4_firstBadPlace 2 = .ok (.aload_n 0, 1) := by decide +kernel
theorem dX4_firstBadPlace_3 : decode cX4_firstBadPlace 3 = .ok (.iload_n 1, 1) := by decide +kernel
theorem dX4_firstBadPlace_4 : decode cX4_firstBadPlace 4 = .ok (.invokevirtual 27, 3) := by decide +kernel
theorem dX4_firstBadPlace_7 : decode cX4_firstBadPlace 7 = .ok (.invokestatic 31, 3) := by decide +kernel
theorem dX4_firstBadPlace_10 : decode cX4_firstBadPlace 10 = .ok (.astore_n 2, 1) := by decide +kernel
theorem dX4_firstBadPlace_11 : decode cX4_firstBadPlace 11 = .ok (.aload_n 2, 1) := by decide +kernel
theorem dX4_firstBadPlace_12 : decode cX4_firstBadPlace 12 = .ok (.invokevirtual 39, 3) := by decide +kernel
theorem dX4_firstBadPlace_15 : decode cX4_firstBadPlace 15 = .ok (.ifCond .eq 5, 3) := by decide +kernel
theorem dX4_firstBadPlace_18 : decode cX4_firstBadPlace 18 = .ok (.iload_n 1, 1) := by decide +kernel
theorem dX4_firstBadPlace_19 : decode cX4_firstBadPlace 19 = .ok (.ireturn, 1) := by decide +kernel
theorem dX4_firstBadPlace_20 : decode cX4_firstBadPlace 20 = .ok (.iinc 1 1, 3) := by decide +kernel
theorem dX4_firstBadPlace_23 : decode cX4_firstBadPlace 23 = .ok (.iconst 0, 1) := by decide +kernel
theorem dX4_firstBadPlace_24 : decode cX4_firstBadPlace 24 = .ok (.istore_n 3, 1) := by decide +kernel
theorem dX4_firstBadPlace_25 : decode cX4_firstBadPlace 25 = .ok (.iload_n 3, 1) := by decide +kernel
theorem dX4_firstBadPlace_26 : decode cX4_firstBadPlace 26 = .ok (.aload_n 2, 1) := by decide +kernel
theorem dX4_firstBadPlace_27 : decode cX4_firstBadPlace 27 = .ok (.invokevirtual 35, 3) := by decide +kernel
theorem dX4_firstBadPlace_30 : decode cX4_firstBadPlace 30 = .ok (.if_icmp .ge 30, 3) := by decide +kernel
theorem dX4_firstBadPlace_33 : decode cX4_firstBadPlace 33 = .ok (.aload_n 2, 1) := by decide +kernel
theorem dX4_firstBadPlace_34 : decode cX4_firstBadPlace 34 = .ok (.iload_n 3, 1) := by decide +kernel
theorem dX4_firstBadPlace_35 : decode cX4_firstBadPlace 35 = .ok (.invokevirtual 43, 3) := by decide +kernel
theorem dX4_firstBadPlace_38 : decode cX4_firstBadPlace 38 = .ok (.aload_n 0, 1) := by decide +kernel
theorem dX4_firstBadPlace_39 : decode cX4_firstBadPlace 39 = .ok (.iload_n 1, 1) := by decide +kernel
theorem dX4_firstBadPlace_40 : decode cX4_firstBadPlace 40 = .ok (.invokevirtual 27, 3) := by decide +kernel
theorem dX4_firstBadPlace_43 : decode cX4_firstBadPlace 43 = .ok (.invokestatic 47, 3) := by decide +kernel
theorem dX4_firstBadPlace_46 : decode cX4_firstBadPlace 46 = .ok (.ifCond .ne 5, 3) := by decide +kernel
theorem dX4_firstBadPlace_49 : decode cX4_firstBadPlace 49 = .ok (.iload_n 1, 1) := by decide +kernel
theorem dX4_firstBadPlace_50 : decode cX4_firstBadPlace 50 = .ok (.ireturn, 1) := by decide +kernel
theorem dX4_firstBadPlace_51 : decode cX4_firstBadPlace 51 = .ok (.iinc 1 1, 3) := by decide +kernel
theorem dX4_firstBadPlace_54 : decode cX4_firstBadPlace 54 = .ok (.iinc 3 1, 3) := by decide +kernel
theorem dX4_firstBadPlace_57 : decode cX4_firstBadPlace 57 = .ok (.goto (-32), 3) := by decide +kernel
theorem dX4_firstBadPlace_60 : decode cX4_firstBadPlace 60 = .ok (.iload_n 1, 1) := by decide +kernel
theorem dX4_firstBadPlace_61 : decode cX4_firstBadPlace 61 = .ok (.aload_n 0, 1) := by decide +kernel
theorem dX4_firstBadPlace_62 : decode cX4_firstBadPlace 62 = .ok (.getfield 15, 3) := by decide +kernel
theorem dX4_firstBadPlace_65 : decode cX4_firstBadPlace 65 = .ok (.if_icmp .lt (-63), 3) := by decide +kernel
theorem dX4_firstBadPlace_68 : decode cX4_firstBadPlace 68 = .ok (.bipush (-9), 2) := by decide +kernel
theorem dX4_firstBadPlace_70 : decode cX4_firstBadPlace 70 = .ok (.ireturn, 1) := by decide +kernel
theorem dX4_formBehind_0 : decode cX4_formBehind 0 = .ok (.iload_n 0, 1) := by decide +kernel
theorem dX4_formBehind_1 : decode cX4_formBehind 1 = .ok (.tableswitch 108 104 121 #[99, 87, 108, 108, 108, 90, 108, 108, 105, 108, 93, 96, 108, 108, 108, 108, 108, 102], 87) := by decide +kernel
theorem dX4_formBehind_88 : decode cX4_formBehind 88 = .ok (.ldc 51, 2) := by decide +kernel
theorem dX4_formBehind_90 : decode cX4_formBehind 90 = .ok (.areturn, 1) := by decide +kernel
theorem dX4_formBehind_91 : decode cX4_formBehind 91 = .ok (.ldc 53, 2) := by decide +kernel
theorem dX4_formBehind_93 : decode cX4_formBehind 93 = .ok (.areturn, 1) := by decide +kernel
theorem dX4_formBehind_94 : decode cX4_formBehind 94 = .ok (.ldc 55, 2) := by decide +kernel
theorem dX4_formBehind_96 : decode cX4_formBehind 96 = .ok (.areturn, 1) := by decide +kernel
theorem dX4_formBehind_97 : decode cX4_formBehind 97 = .ok (.ldc 53, 2) := by decide +kernel
theorem dX4_formBehind_99 : decode cX4_formBehind 99 = .ok (.areturn, 1) := by decide +kernel
theorem dX4_formBehind_100 : decode cX4_formBehind 100 = .ok (.ldc 57, 2) := by decide +kernel
theorem dX4_formBehind_102 : decode cX4_formBehind 102 = .ok (.areturn, 1) := by decide +kernel
theorem dX4_formBehind_103 : decode cX4_formBehind 103 = .ok (.ldc 53, 2) := by decide +kernel
theorem dX4_formBehind_105 : decode cX4_formBehind 105 = .ok (.areturn, 1) := by decide +kernel
theorem dX4_formBehind_106 : decode cX4_formBehind 106 = .ok (.ldc 57, 2) := by decide +kernel
theorem dX4_formBehind_108 : decode cX4_formBehind 108 = .ok (.areturn, 1) := by decide +kernel
theorem dX4_formBehind_109 : decode cX4_formBehind 109 = .ok (.ldc 59, 2) := by decide +kernel
theorem dX4_formBehind_111 : decode cX4_formBehind 111 = .ok (.areturn, 1) := by decide +kernel
theorem dX4_init_0 : decode cX4_init 0 = .ok (.aload_n 0, 1) := by decide +kernel
theorem dX4_init_1 : decode cX4_init 1 = .ok (.invokespecial 3, 3) := by decide +kernel
theorem dX4_init_4 : decode cX4_init 4 = .ok (.aload_n 0, 1) := by decide +kernel
theorem dX4_init_5 : decode cX4_init 5 = .ok (.bipush 96, 2) := by decide +kernel
theorem dX4_init_7 : decode cX4_init 7 = .ok (.newarray .int, 2) := by decide +kernel
theorem dX4_init_9 : decode cX4_init 9 = .ok (.putfield 9, 3) := by decide +kernel
theorem dX4_init_12 : decode cX4_init 12 = .ok (.aload_n 0, 1) := by decide +kernel
theorem dX4_init_13 : decode cX4_init 13 = .ok (.iconst 0, 1) := by decide +kernel
theorem dX4_init_14 : decode cX4_init 14 = .ok (.putfield 15, 3) := by decide +kernel
theorem dX4_init_17 : decode cX4_init 17 = .ok (.return_, 1) := by decide +kernel
theorem dX4_isAsAsked_0 : decode cX4_isAsAsked 0 = .ok (.iload_n 0, 1) := by decide +kernel
theorem dX4_isAsAsked_1 : decode cX4_isAsAsked 1 = .ok (.lookupswitch 60 #[(48, 27), (107, 45)], 27) := by decide +kernel
theorem dX4_isAsAsked_28 : decode cX4_isAsAsked 28 = .ok (.iload_n 1, 1) := by decide +kernel
theorem dX4_isAsAsked_29 : decode cX4_isAsAsked 29 = .ok (.bipush 48, 2) := by decide +kernel
theorem dX4_isAsAsked_31 : decode cX4_isAsAsked 31 = .ok (.if_icmp .lt 13, 3) := by decide +kernel
theorem dX4_isAsAsked_34 : decode cX4_isAsAsked 34 = .ok (.iload_n 1, 1) := by decide +kernel
theorem dX4_isAsAsked_35 : decode cX4_isAsAsked 35 = .ok (.bipush 57, 2) := by decide +kernel
theorem dX4_isAsAsked_37 : decode cX4_isAsAsked 37 = .ok (.if_icmp .gt 7, 3) := by decide +kernel
theorem dX4_isAsAsked_40 : decode cX4_isAsAsked 40 = .ok (.iconst 1, 1) := by decide +kernel
theorem dX4_isAsAsked_41 : decode cX4_isAsAsked 41 = .ok (.goto 4, 3) := by decide +kernel
theorem dX4_isAsAsked_44 : decode cX4_isAsAsked 44 = .ok (.iconst 0, 1) := by decide +kernel
theorem dX4_isAsAsked_45 : decode cX4_isAsAsked 45 = .ok (.ireturn, 1) := by decide +kernel
theorem dX4_isAsAsked_46 : decode cX4_isAsAsked 46 = .ok (.iload_n 1, 1) := by decide +kernel
theorem dX4_isAsAsked_47 : decode cX4_isAsAsked 47 = .ok (.invokestatic 61, 3) := by decide +kernel
theorem dX4_isAsAsked_50 : decode cX4_isAsAsked 50 = .ok (.bipush (-9), 2) := by decide +kernel
theorem dX4_isAsAsked_52 : decode cX4_isAsAsked 52 = .ok (.if_icmp .eq 7, 3) := by decide +kernel
theorem dX4_isAsAsked_55 : decode cX4_isAsAsked 55 = .ok (.iconst 1, 1) := by decide +kernel
theorem dX4_isAsAsked_56 : decode cX4_isAsAsked 56 = .ok (.goto 4, 3) := by decide +kernel
theorem dX4_isAsAsked_59 : decode cX4_isAsAsked 59 = .ok (.iconst 0, 1) := by decide +kernel
theorem dX4_isAsAsked_60 : decode cX4_isAsAsked 60 = .ok (.ireturn, 1) := by decide +kernel
theorem dX4_isAsAsked_61 : decode cX4_isAsAsked 61 = .ok (.iload_n 1, 1) := by decide +kernel
theorem dX4_isAsAsked_62 : decode cX4_isAsAsked 62 = .ok (.iload_n 0, 1) := by decide +kernel
theorem dX4_isAsAsked_63 : decode cX4_isAsAsked 63 = .ok (.if_icmp .ne 7, 3) := by decide +kernel
theorem dX4_isAsAsked_66 : decode cX4_isAsAsked 66 = .ok (.iconst 1, 1) := by decide +kernel
theorem dX4_isAsAsked_67 : decode cX4_isAsAsked 67 = .ok (.goto 4, 3) := by decide +kernel
theorem dX4_isAsAsked_70 : decode cX4_isAsAsked 70 = .ok (.iconst 0, 1) := by decide +kernel
theorem dX4_isAsAsked_71 : decode cX4_isAsAsked 71 = .ok (.ireturn, 1) := by decide +kernel
theorem dX4_kindOfLetter_0 : decode cX4_kindOfLetter 0 = .ok (.iconst 0, 1) := by decide +kernel
theorem dX4_kindOfLetter_1 : decode cX4_kindOfLetter 1 = .ok (.istore_n 1, 1) := by decide +kernel
theorem dX4_kindOfLetter_2 : decode cX4_kindOfLetter 2 = .ok (.iload_n 1, 1) := by decide +kernel
theorem dX4_kindOfLetter_3 : decode cX4_kindOfLetter 3 = .ok (.ldc 95, 2) := by decide +kernel
theorem dX4_kindOfLetter_5 : decode cX4_kindOfLetter 5 = .ok (.invokevirtual 35, 3) := by decide +kernel
theorem dX4_kindOfLetter_8 : decode cX4_kindOfLetter 8 = .ok (.if_icmp .ge 21, 3) := by decide +kernel
theorem dX4_kindOfLetter_11 : decode cX4_kindOfLetter 11 = .ok (.ldc 95, 2) := by decide +kernel
theorem dX4_kindOfLetter_13 : decode cX4_kindOfLetter 13 = .ok (.iload_n 1, 1) := by decide +kernel
theorem dX4_kindOfLetter_14 : decode cX4_kindOfLetter 14 = .ok (.invokevirtual 43, 3) := by decide +kernel
theorem dX4_kindOfLetter_17 : decode cX4_kindOfLetter 17 = .ok (.iload_n 0, 1) := by decide +kernel
theorem dX4_kindOfLetter_18 : decode cX4_kindOfLetter 18 = .ok (.if_icmp .ne 5, 3) := by decide +kernel
theorem dX4_kindOfLetter_21 : decode cX4_kindOfLetter 21 = .ok (.iload_n 1, 1) := by decide +kernel
theorem dX4_kindOfLetter_22 : decode cX4_kindOfLetter 22 = .ok (.ireturn, 1) := by decide +kernel
theorem dX4_kindOfLetter_23 : decode cX4_kindOfLetter 23 = .ok (.iinc 1 1, 3) := by decide +kernel
theorem dX4_kindOfLetter_26 : decode cX4_kindOfLetter 26 = .ok (.goto (-24), 3) := by decide +kernel
theorem dX4_kindOfLetter_29 : decode cX4_kindOfLetter 29 = .ok (.bipush (-9), 2) := by decide +kernel
theorem dX4_kindOfLetter_31 : decode cX4_kindOfLetter 31 = .ok (.ireturn, 1) := by decide +kernel
theorem dX4_letterAt_0 : decode cX4_letterAt 0 = .ok (.iload_n 1, 1) := by decide +kernel
theorem dX4_letterAt_1 : decode cX4_letterAt 1 = .ok (.ifCond .lt 26, 3) := by decide +kernel
theorem dX4_letterAt_4 : decode cX4_letterAt 4 = .ok (.iload_n 1, 1) := by decide +kernel
theorem dX4_letterAt_5 : decode cX4_letterAt 5 = .ok (.aload_n 0, 1) := by decide +kernel
theorem dX4_letterAt_6 : decode cX4_letterAt 6 = .ok (.getfield 15, 3) := by decide +kernel
theorem dX4_letterAt_9 : decode cX4_letterAt 9 = .ok (.if_icmp .ge 18, 3) := by decide +kernel
theorem dX4_letterAt_12 : decode cX4_letterAt 12 = .ok (.iload_n 1, 1) := by decide +kernel
theorem dX4_letterAt_13 : decode cX4_letterAt 13 = .ok (.bipush 96, 2) := by decide +kernel
theorem dX4_letterAt_15 : decode cX4_letterAt 15 = .ok (.if_icmp .ge 12, 3) := by decide +kernel
theorem dX4_letterAt_18 : decode cX4_letterAt 18 = .ok (.aload_n 0, 1) := by decide +kernel
theorem dX4_letterAt_19 : decode cX4_letterAt 19 = .ok (.getfield 9, 3) := by decide +kernel
theorem dX4_letterAt_22 : decode cX4_letterAt 22 = .ok (.iload_n 1, 1) := by decide +kernel
theorem dX4_letterAt_23 : decode cX4_letterAt 23 = .ok (.iaload, 1) := by decide +kernel
theorem dX4_letterAt_24 : decode cX4_letterAt 24 = .ok (.goto 5, 3) := by decide +kernel
theorem dX4_letterAt_27 : decode cX4_letterAt 27 = .ok (.bipush (-9), 2) := by decide +kernel
theorem dX4_letterAt_29 : decode cX4_letterAt 29 = .ok (.ireturn, 1) := by decide +kernel
theorem dX4_numberAt_0 : decode cX4_numberAt 0 = .ok (.bipush 10, 2) := by decide +kernel
theorem dX4_numberAt_2 : decode cX4_numberAt 2 = .ok (.aload_n 0, 1) := by decide +kernel
theorem dX4_numberAt_3 : decode cX4_numberAt 3 = .ok (.iload_n 1, 1) := by decide +kernel
theorem dX4_numberAt_4 : decode cX4_numberAt 4 = .ok (.invokevirtual 64, 3) := by decide +kernel
theorem dX4_numberAt_7 : decode cX4_numberAt 7 = .ok (.imul, 1) := by decide +kernel
theorem dX4_numberAt_8 : decode cX4_numberAt 8 = .ok (.aload_n 0, 1) := by decide +kernel
theorem dX4_numberAt_9 : decode cX4_numberAt 9 = .ok (.iload_n 1, 1) := by decide +kernel
theorem dX4_numberAt_10 : decode cX4_numberAt 10 = .ok (.iconst 1, 1) := by decide +kernel
theorem dX4_numberAt_11 : decode cX4_numberAt 11 = .ok (.iadd, 1) := by decide +kernel
theorem dX4_numberAt_12 : decode cX4_numberAt 12 = .ok (.invokevirtual 64, 3) := by decide +kernel
theorem dX4_numberAt_15 : decode cX4_numberAt 15 = .ok (.iadd, 1) := by decide +kernel
theorem dX4_numberAt_16 : decode cX4_numberAt 16 = .ok (.ireturn, 1) := by decide +kernel
theorem dX4_tellInto_0 : decode cX4_tellInto 0 = .ok (.aload_n 0, 1) := by decide +kernel
theorem dX4_tellInto_1 : decode cX4_tellInto 1 = .ok (.invokevirtual 19, 3) := by decide +kernel
theorem dX4_tellInto_4 : decode cX4_tellInto 4 = .ok (.istore_n 2, 1) := by decide +kernel
theorem dX4_tellInto_5 : decode cX4_tellInto 5 = .ok (.iload_n 2, 1) := by decide +kernel
theorem dX4_tellInto_6 : decode cX4_tellInto 6 = .ok (.bipush (-9), 2) := by decide +kernel
theorem dX4_tellInto_8 : decode cX4_tellInto 8 = .ok (.if_icmp .eq 9, 3) := by decide +kernel
theorem dX4_tellInto_11 : decode cX4_tellInto 11 = .ok (.sipush (-1000), 3) := by decide +kernel
theorem dX4_tellInto_14 : decode cX4_tellInto 14 = .ok (.iload_n 2, 1) := by decide +kernel
theorem dX4_tellInto_15 : decode cX4_tellInto 15 = .ok (.isub, 1) := by decide +kernel
theorem dX4_tellInto_16 : decode cX4_tellInto 16 = .ok (.ireturn, 1) := by decide +kernel
theorem dX4_tellInto_17 : decode cX4_tellInto 17 = .ok (.iconst 0, 1) := by decide +kernel
theorem dX4_tellInto_18 : decode cX4_tellInto 18 = .ok (.istore_n 3, 1) := by decide +kernel
theorem dX4_tellInto_19 : decode cX4_tellInto 19 = .ok (.iconst 0, 1) := by decide +kernel
theorem dX4_tellInto_20 : decode cX4_tellInto 20 = .ok (.istore 4, 2) := by decide +kernel
theorem dX4_tellInto_22 : decode cX4_tellInto 22 = .ok (.iload 4, 2) := by decide +kernel
theorem dX4_tellInto_24 : decode cX4_tellInto 24 = .ok (.aload_n 0, 1) := by decide +kernel
theorem dX4_tellInto_25 : decode cX4_tellInto 25 = .ok (.getfield 15, 3) := by decide +kernel
theorem dX4_tellInto_28 : decode cX4_tellInto 28 = .ok (.if_icmp .ge 45, 3) := by decide +kernel
theorem dX4_tellInto_31 : decode cX4_tellInto 31 = .ok (.aload_n 0, 1) := by decide +kernel
theorem dX4_tellInto_32 : decode cX4_tellInto 32 = .ok (.aload_n 1, 1) := by decide +kernel
theorem dX4_tellInto_33 : decode cX4_tellInto 33 = .ok (.iload 4, 2) := by decide +kernel
theorem dX4_tellInto_35 : decode cX4_tellInto 35 = .ok (.invokevirtual 23, 3) := by decide +kernel
theorem dX4_tellInto_38 : decode cX4_tellInto 38 = .ok (.ifCond .ge 10, 3) := by decide +kernel
theorem dX4_tellInto_41 : decode cX4_tellInto 41 = .ok (.sipush (-2000), 3) := by decide +kernel
theorem dX4_tellInto_44 : decode cX4_tellInto 44 = .ok (.iload 4, 2) := by decide +kernel
theorem dX4_tellInto_46 : decode cX4_tellInto 46 = .ok (.isub, 1) := by decide +kernel
theorem dX4_tellInto_47 : decode cX4_tellInto 47 = .ok (.ireturn, 1) := by decide +kernel
theorem dX4_tellInto_48 : decode cX4_tellInto 48 = .ok (.iinc 3 1, 3) := by decide +kernel
theorem dX4_tellInto_51 : decode cX4_tellInto 51 = .ok (.iload 4, 2) := by decide +kernel
theorem dX4_tellInto_53 : decode cX4_tellInto 53 = .ok (.iconst 1, 1) := by decide +kernel
theorem dX4_tellInto_54 : decode cX4_tellInto 54 = .ok (.aload_n 0, 1) := by decide +kernel
theorem dX4_tellInto_55 : decode cX4_tellInto 55 = .ok (.iload 4, 2) := by decide +kernel
theorem dX4_tellInto_57 : decode cX4_tellInto 57 = .ok (.invokevirtual 27, 3) := by decide +kernel
theorem dX4_tellInto_60 : decode cX4_tellInto 60 = .ok (.invokestatic 31, 3) := by decide +kernel
theorem dX4_tellInto_63 : decode cX4_tellInto 63 = .ok (.invokevirtual 35, 3) := by decide +kernel
theorem dX4_tellInto_66 : decode cX4_tellInto 66 = .ok (.iadd, 1) := by decide +kernel
theorem dX4_tellInto_67 : decode cX4_tellInto 67 = .ok (.iadd, 1) := by decide +kernel
theorem dX4_tellInto_68 : decode cX4_tellInto 68 = .ok (.istore 4, 2) := by decide +kernel
theorem dX4_tellInto_70 : decode cX4_tellInto 70 = .ok (.goto (-48), 3) := by decide +kernel
theorem dX4_tellInto_73 : decode cX4_tellInto 73 = .ok (.iload_n 3, 1) := by decide +kernel
theorem dX4_tellInto_74 : decode cX4_tellInto 74 = .ok (.ireturn, 1) := by decide +kernel
theorem dX4_tellStatement_0 : decode cX4_tellStatement 0 = .ok (.aload_n 0, 1) := by decide +kernel
theorem dX4_tellStatement_1 : decode cX4_tellStatement 1 = .ok (.iload_n 2, 1) := by decide +kernel
theorem dX4_tellStatement_2 : decode cX4_tellStatement 2 = .ok (.invokevirtual 27, 3) := by decide +kernel
theorem dX4_tellStatement_5 : decode cX4_tellStatement 5 = .ok (.tableswitch 216 104 121 #[180, 87, 216, 216, 216, 123, 216, 216, 204, 216, 142, 161, 216, 216, 216, 216, 216, 192], 87) := by decide +kernel
theorem dX4_tellStatement_92 : decode cX4_tellStatement 92 = .ok (.aload_n 1, 1) := by decide +kernel
theorem dX4_tellStatement_93 : decode cX4_tellStatement 93 = .ok (.aload_n 0, 1) := by decide +kernel
theorem dX4_tellStatement_94 : decode cX4_tellStatement 94 = .ok (.iload_n 2, 1) := by decide +kernel
theorem dX4_tellStatement_95 : decode cX4_tellStatement 95 = .ok (.iconst 1, 1) := by decide +kernel
theorem dX4_tellStatement_96 : decode cX4_tellStatement 96 = .ok (.iadd, 1) := by decide +kernel
theorem dX4_tellStatement_97 : decode cX4_tellStatement 97 = .ok (.invokevirtual 27, 3) := by decide +kernel
theorem dX4_tellStatement_100 : decode cX4_tellStatement 100 = .ok (.invokestatic 61, 3) := by decide +kernel
theorem dX4_tellStatement_103 : decode cX4_tellStatement 103 = .ok (.aload_n 0, 1) := by decide +kernel
theorem dX4_tellStatement_104 : decode cX4_tellStatement 104 = .ok (.iload_n 2, 1) := by decide +kernel
theorem dX4_tellStatement_105 : decode cX4_tellStatement 105 = .ok (.iconst 2, 1) := by decide +kernel
theorem dX4_tellStatement_106 : decode cX4_tellStatement 106 = .ok (.iadd, 1) := by decide +kernel
theorem dX4_tellStatement_107 : decode cX4_tellStatement 107 = .ok (.invokevirtual 64, 3) := by decide +kernel
theorem dX4_tellStatement_110 : decode cX4_tellStatement 110 = .ok (.aload_n 0, 1) := by decide +kernel
theorem dX4_tellStatement_111 : decode cX4_tellStatement 111 = .ok (.iload_n 2, 1) := by decide +kernel
theorem dX4_tellStatement_112 : decode cX4_tellStatement 112 = .ok (.iconst 3, 1) := by decide +kernel
theorem dX4_tellStatement_113 : decode cX4_tellStatement 113 = .ok (.iadd, 1) := by decide +kernel
theorem dX4_tellStatement_114 : decode cX4_tellStatement 114 = .ok (.invokevirtual 64, 3) := by decide +kernel
theorem dX4_tellStatement_117 : decode cX4_tellStatement 117 = .ok (.aload_n 0, 1) := by decide +kernel
theorem dX4_tellStatement_118 : decode cX4_tellStatement 118 = .ok (.iload_n 2, 1) := by decide +kernel
theorem dX4_tellStatement_119 : decode cX4_tellStatement 119 = .ok (.iconst 4, 1) := by decide +kernel
theorem dX4_tellStatement_120 : decode cX4_tellStatement 120 = .ok (.iadd, 1) := by decide +kernel
theorem dX4_tellStatement_121 : decode cX4_tellStatement 121 = .ok (.invokevirtual 67, 3) := by decide +kernel
theorem dX4_tellStatement_124 : decode cX4_tellStatement 124 = .ok (.invokevirtual 70, 3) := by decide +kernel
theorem dX4_tellStatement_127 : decode cX4_tellStatement 127 = .ok (.ireturn, 1) := by decide +kernel
theorem dX4_tellStatement_128 : decode cX4_tellStatement 128 = .ok (.aload_n 1, 1) := by decide +kernel
theorem dX4_tellStatement_129 : decode cX4_tellStatement 129 = .ok (.aload_n 0, 1) := by decide +kernel
theorem dX4_tellStatement_130 : decode cX4_tellStatement 130 = .ok (.iload_n 2, 1) := by decide +kernel
theorem dX4_tellStatement_131 : decode cX4_tellStatement 131 = .ok (.iconst 1, 1) := by decide +kernel
theorem dX4_tellStatement_132 : decode cX4_tellStatement 132 = .ok (.iadd, 1) := by decide +kernel
theorem dX4_tellStatement_133 : decode cX4_tellStatement 133 = .ok (.invokevirtual 64, 3) := by decide +kernel
theorem dX4_tellStatement_136 : decode cX4_tellStatement 136 = .ok (.aload_n 0, 1) := by decide +kernel
theorem dX4_tellStatement_137 : decode cX4_tellStatement 137 = .ok (.iload_n 2, 1) := by decide +kernel
theorem dX4_tellStatement_138 : decode cX4_tellStatement 138 = .ok (.iconst 2, 1) := by decide +kernel
theorem dX4_tellStatement_139 : decode cX4_tellStatement 139 = .ok (.iadd, 1) := by decide +kernel
theorem dX4_tellStatement_140 : decode cX4_tellStatement 140 = .ok (.invokevirtual 64, 3) := by decide +kernel
theorem dX4_tellStatement_143 : decode cX4_tellStatement 143 = .ok (.invokevirtual 76, 3) := by decide +kernel
theorem dX4_tellStatement_146 : decode cX4_tellStatement 146 = .ok (.ireturn, 1) := by decide +kernel
theorem dX4_tellStatement_147 : decode cX4_tellStatement 147 = .ok (.aload_n 1, 1) := by decide +kernel
theorem dX4_tellStatement_148 : decode cX4_tellStatement 148 = .ok (.aload_n 0, 1) := by decide +kernel
theorem dX4_tellStatement_149 : decode cX4_tellStatement 149 = .ok (.iload_n 2, 1) := by decide +kernel
theorem dX4_tellStatement_150 : decode cX4_tellStatement 150 = .ok (.iconst 1, 1) := by decide +kernel
theorem dX4_tellStatement_151 : decode cX4_tellStatement 151 = .ok (.iadd, 1) := by decide +kernel
theorem dX4_tellStatement_152 : decode cX4_tellStatement 152 = .ok (.invokevirtual 64, 3) := by decide +kernel
theorem dX4_tellStatement_155 : decode cX4_tellStatement 155 = .ok (.aload_n 0, 1) := by decide +kernel
theorem dX4_tellStatement_156 : decode cX4_tellStatement 156 = .ok (.iload_n 2, 1) := by decide +kernel
theorem dX4_tellStatement_157 : decode cX4_tellStatement 157 = .ok (.iconst 2, 1) := by decide +kernel
theorem dX4_tellStatement_158 : decode cX4_tellStatement 158 = .ok (.iadd, 1) := by decide +kernel
theorem dX4_tellStatement_159 : decode cX4_tellStatement 159 = .ok (.invokevirtual 67, 3) := by decide +kernel
theorem dX4_tellStatement_162 : decode cX4_tellStatement 162 = .ok (.invokevirtual 80, 3) := by decide +kernel
theorem dX4_tellStatement_165 : decode cX4_tellStatement 165 = .ok (.ireturn, 1) := by decide +kernel
theorem dX4_tellStatement_166 : decode cX4_tellStatement 166 = .ok (.aload_n 1, 1) := by decide +kernel
theorem dX4_tellStatement_167 : decode cX4_tellStatement 167 = .ok (.aload_n 0, 1) := by decide +kernel
theorem dX4_tellStatement_168 : decode cX4_tellStatement 168 = .ok (.iload_n 2, 1) := by decide +kernel
theorem dX4_tellStatement_169 : decode cX4_tellStatement 169 = .ok (.iconst 1, 1) := by decide +kernel
theorem dX4_tellStatement_170 : decode cX4_tellStatement 170 = .ok (.iadd, 1) := by decide +kernel
theorem dX4_tellStatement_171 : decode cX4_tellStatement 171 = .ok (.invokevirtual 64, 3) := by decide +kernel
theorem dX4_tellStatement_174 : decode cX4_tellStatement 174 = .ok (.aload_n 0, 1) := by decide +kernel
theorem dX4_tellStatement_175 : decode cX4_tellStatement 175 = .ok (.iload_n 2, 1) := by decide +kernel
theorem dX4_tellStatement_176 : decode cX4_tellStatement 176 = .ok (.iconst 2, 1) := by decide +kernel
theorem dX4_tellStatement_177 : decode cX4_tellStatement 177 = .ok (.iadd, 1) := by decide +kernel
theorem dX4_tellStatement_178 : decode cX4_tellStatement 178 = .ok (.invokevirtual 64, 3) := by decide +kernel
theorem dX4_tellStatement_181 : decode cX4_tellStatement 181 = .ok (.invokevirtual 83, 3) := by decide +kernel
theorem dX4_tellStatement_184 : decode cX4_tellStatement 184 = .ok (.ireturn, 1) := by decide +kernel
theorem dX4_tellStatement_185 : decode cX4_tellStatement 185 = .ok (.aload_n 1, 1) := by decide +kernel
theorem dX4_tellStatement_186 : decode cX4_tellStatement 186 = .ok (.aload_n 0, 1) := by decide +kernel
theorem dX4_tellStatement_187 : decode cX4_tellStatement 187 = .ok (.iload_n 2, 1) := by decide +kernel
theorem dX4_tellStatement_188 : decode cX4_tellStatement 188 = .ok (.iconst 1, 1) := by decide +kernel
theorem dX4_tellStatement_189 : decode cX4_tellStatement 189 = .ok (.iadd, 1) := by decide +kernel
theorem dX4_tellStatement_190 : decode cX4_tellStatement 190 = .ok (.invokevirtual 64, 3) := by decide +kernel
theorem dX4_tellStatement_193 : decode cX4_tellStatement 193 = .ok (.invokevirtual 86, 3) := by decide +kernel
theorem dX4_tellStatement_196 : decode cX4_tellStatement 196 = .ok (.ireturn, 1) := by decide +kernel
theorem dX4_tellStatement_197 : decode cX4_tellStatement 197 = .ok (.aload_n 1, 1) := by decide +kernel
theorem dX4_tellStatement_198 : decode cX4_tellStatement 198 = .ok (.aload_n 0, 1) := by decide +kernel
theorem dX4_tellStatement_199 : decode cX4_tellStatement 199 = .ok (.iload_n 2, 1) := by decide +kernel
theorem dX4_tellStatement_200 : decode cX4_tellStatement 200 = .ok (.iconst 1, 1) := by decide +kernel
theorem dX4_tellStatement_201 : decode cX4_tellStatement 201 = .ok (.iadd, 1) := by decide +kernel
theorem dX4_tellStatement_202 : decode cX4_tellStatement 202 = .ok (.invokevirtual 67, 3) := by decide +kernel
theorem dX4_tellStatement_205 : decode cX4_tellStatement 205 = .ok (.invokevirtual 89, 3) := by decide +kernel
theorem dX4_tellStatement_208 : decode cX4_tellStatement 208 = .ok (.ireturn, 1) := by decide +kernel
theorem dX4_tellStatement_209 : decode cX4_tellStatement 209 = .ok (.aload_n 1, 1) := by decide +kernel
theorem dX4_tellStatement_210 : decode cX4_tellStatement 210 = .ok (.aload_n 0, 1) := by decide +kernel
theorem dX4_tellStatement_211 : decode cX4_tellStatement 211 = .ok (.iload_n 2, 1) := by decide +kernel
theorem dX4_tellStatement_212 : decode cX4_tellStatement 212 = .ok (.iconst 1, 1) := by decide +kernel
theorem dX4_tellStatement_213 : decode cX4_tellStatement 213 = .ok (.iadd, 1) := by decide +kernel
theorem dX4_tellStatement_214 : decode cX4_tellStatement 214 = .ok (.invokevirtual 64, 3) := by decide +kernel
theorem dX4_tellStatement_217 : decode cX4_tellStatement 217 = .ok (.invokevirtual 92, 3) := by decide +kernel
theorem dX4_tellStatement_220 : decode cX4_tellStatement 220 = .ok (.ireturn, 1) := by decide +kernel
theorem dX4_tellStatement_221 : decode cX4_tellStatement 221 = .ok (.bipush (-2), 2) := by decide +kernel
theorem dX4_tellStatement_223 : decode cX4_tellStatement 223 = .ok (.ireturn, 1) := by decide +kernel
theorem dX5_anotherFaultMakes_0 : decode cX5_anotherFaultMakes 0 = .ok (.iconst 0, 1) := by decide +kernel
theorem dX5_anotherFaultMakes_1 : decode cX5_anotherFaultMakes 1 = .ok (.istore_n 3, 1) := by decide +kernel
theorem dX5_anotherFaultMakes_2 : decode cX5_anotherFaultMakes 2 = .ok (.iload_n 3, 1) := by decide +kernel
theorem dX5_anotherFaultMakes_3 : decode cX5_anotherFaultMakes 3 = .ok (.bipush 9, 2) := by decide +kernel
theorem dX5_anotherFaultMakes_5 : decode cX5_anotherFaultMakes 5 = .ok (.if_icmp .gt 34, 3) := by decide +kernel
theorem dX5_anotherFaultMakes_8 : decode cX5_anotherFaultMakes 8 = .ok (.iload_n 3, 1) := by decide +kernel
theorem dX5_anotherFaultMakes_9 : decode cX5_anotherFaultMakes 9 = .ok (.aload_n 0, 1) := by decide +kernel
theorem dX5_anotherFaultMakes_10 : decode cX5_anotherFaultMakes 10 = .ok (.getfield 10, 3) := by decide +kernel
theorem dX5_anotherFaultMakes_13 : decode cX5_anotherFaultMakes 13 = .ok (.getfield 173, 3) := by decide +kernel
theorem dX5_anotherFaultMakes_16 : decode cX5_anotherFaultMakes 16 = .ok (.iload_n 1, 1) := by decide +kernel
theorem dX5_anotherFaultMakes_17 : decode cX5_anotherFaultMakes 17 = .ok (.iaload, 1) := by decide +kernel
theorem dX5_anotherFaultMakes_18 : decode cX5_anotherFaultMakes 18 = .ok (.if_icmp .eq 15, 3) := by decide +kernel
theorem dX5_anotherFaultMakes_21 : decode cX5_anotherFaultMakes 21 = .ok (.aload_n 0, 1) := by decide +kernel
theorem dX5_anotherFaultMakes_22 : decode cX5_anotherFaultMakes 22 = .ok (.iload_n 1, 1) := by decide +kernel
theorem dX5_anotherFaultMakes_23 : decode cX5_anotherFaultMakes 23 = .ok (.iload_n 3, 1) := by decide +kernel
theorem dX5_anotherFaultMakes_24 : decode cX5_anotherFaultMakes 24 = .ok (.invokevirtual 176, 3) := by decide +kernel
theorem dX5_anotherFaultMakes_27 : decode cX5_anotherFaultMakes 27 = .ok (.iload_n 2, 1) := by decide +kernel
theorem dX5_anotherFaultMakes_28 : decode cX5_anotherFaultMakes 28 = .ok (.if_icmp .ne 5, 3) := by decide +kernel
theorem dX5_anotherFaultMakes_31 : decode cX5_anotherFaultMakes 31 = .ok (.iconst 1, 1) := by decide +kernel
theorem dX5_anotherFaultMakes_32 : decode cX5_anotherFaultMakes 32 = .ok (.ireturn, 1) := by decide +kernel
theorem dX5_anotherFaultMakes_33 : decode cX5_anotherFaultMakes 33 = .ok (.iinc 3 1, 3) := by decide +kernel
theorem dX5_anotherFaultMakes_36 : decode cX5_anotherFaultMakes 36 = .ok (.goto (-34), 3) := by decide +kernel
theorem dX5_anotherFaultMakes_39 : decode cX5_anotherFaultMakes 39 = .ok (.iconst 0, 1) := by decide +kernel
theorem dX5_anotherFaultMakes_40 : decode cX5_anotherFaultMakes 40 = .ok (.ireturn, 1) := by decide +kernel
theorem dX5_answer_0 : decode cX5_answer 0 = .ok (.iload_n 1, 1) := by decide +kernel
theorem dX5_answer_1 : decode cX5_answer 1 = .ok (.bipush (-6), 2) := by decide +kernel
theorem dX5_answer_3 : decode cX5_answer 3 = .ok (.if_icmp .lt 19, 3) := by decide +kernel
theorem dX5_answer_6 : decode cX5_answer 6 = .ok (.iload_n 1, 1) := by decide +kernel
theorem dX5_answer_7 : decode cX5_answer 7 = .ok (.iconst (-1), 1) := by decide +kernel
theorem dX5_answer_8 : decode cX5_answer 8 = .ok (.if_icmp .gt 14, 3) := by decide +kernel
theorem dX5_answer_11 : decode cX5_answer 11 = .ok (.aload_n 0, 1) := by decide +kernel
theorem dX5_answer_12 : decode cX5_answer 12 = .ok (.getfield 56, 3) := by decide +kernel
theorem dX5_answer_15 : decode cX5_answer 15 = .ok (.iload_n 1, 1) := by decide +kernel
theorem dX5_answer_16 : decode cX5_answer 16 = .ok (.ineg, 1) := by decide +kernel
theorem dX5_answer_17 : decode cX5_answer 17 = .ok (.dup2, 1) := by decide +kernel
theorem dX5_answer_18 : decode cX5_answer 18 = .ok (.iaload, 1) := by decide +kernel
theorem dX5_answer_19 : decode cX5_answer 19 = .ok (.iconst 1, 1) := by decide +kernel
theorem dX5_answer_20 : decode cX5_answer 20 = .ok (.iadd, 1) := by decide +kernel
theorem dX5_answer_21 : decode cX5_answer 21 = .ok (.iastore, 1) := by decide +kernel
theorem dX5_answer_22 : decode cX5_answer 22 = .ok (.iload_n 1, 1) := by decide +kernel
theorem dX5_answer_23 : decode cX5_answer 23 = .ok (.ireturn, 1) := by decide +kernel
theorem dX5_ask_0 : decode cX5_ask 0 = .ok (.iload_n 1, 1) := by decide +kernel
theorem dX5_ask_1 : decode cX5_ask 1 = .ok (.iconst 0, 1) := by decide +kernel
theorem dX5_ask_2 : decode cX5_ask 2 = .ok (.sipush 999, 3) := by decide +kernel
theorem dX5_ask_5 : decode cX5_ask 5 = .ok (.invokestatic 179, 3) := by decide +kernel
theorem dX5_ask_8 : decode cX5_ask 8 = .ok (.istore_n 2, 1) := by decide +kernel
theorem dX5_ask_9 : decode cX5_ask 9 = .ok (.iload_n 2, 1) := by decide +kernel
theorem dX5_ask_10 : decode cX5_ask 10 = .ok (.ifCond .eq 9, 3) := by decide +kernel
theorem dX5_ask_13 : decode cX5_ask 13 = .ok (.aload_n 0, 1) := by decide +kernel
theorem dX5_ask_14 : decode cX5_ask 14 = .ok (.iload_n 2, 1) := by decide +kernel
theorem dX5_ask_15 : decode cX5_ask 15 = .ok (.invokevirtual 64, 3) := by decide +kernel
theorem dX5_ask_18 : decode cX5_ask 18 = .ok (.ireturn, 1) := by decide +kernel
theorem dX5_ask_19 : decode cX5_ask 19 = .ok (.bipush (-9), 2) := by decide +kernel
theorem dX5_ask_21 : decode cX5_ask 21 = .ok (.istore_n 3, 1) := by decide +kernel
theorem dX5_ask_22 : decode cX5_ask 22 = .ok (.bipush (-9), 2) := by decide +kernel
theorem dX5_ask_24 : decode cX5_ask 24 = .ok (.istore 4, 2) := by decide +kernel
theorem dX5_ask_26 : decode cX5_ask 26 = .ok (.iconst 0, 1) := by decide +kernel
theorem dX5_ask_27 : decode cX5_ask 27 = .ok (.istore 5, 2) := by decide +kernel
theorem dX5_ask_29 : decode cX5_ask 29 = .ok (.iload 5, 2) := by decide +kernel
theorem dX5_ask_31 : decode cX5_ask 31 = .ok (.aload_n 0, 1) := by decide +kernel
theorem dX5_ask_32 : decode cX5_ask 32 = .ok (.getfield 10, 3) := by decide +kernel
theorem dX5_ask_35 : decode cX5_ask 35 = .ok (.getfield 126, 3) := by decide +kernel
theorem dX5_ask_38 : decode cX5_ask 38 = .ok (.if_icmp .ge 32, 3) := by decide +kernel
theorem dX5_ask_41 : decode cX5_ask 41 = .ok (.aload_n 0, 1) := by decide +kernel
theorem dX5_ask_42 : decode cX5_ask 42 = .ok (.iload 5, 2) := by decide +kernel
theorem dX5_ask_44 : decode cX5_ask 44 = .ok (.iload_n 1, 1) := by decide +kernel
theorem dX5_ask_45 : decode cX5_ask 45 = .ok (.invokevirtual 189, 3) := by decide +kernel
theorem dX5_ask_48 : decode cX5_ask 48 = .ok (.istore 6, 2) := by decide +kernel
theorem dX5_ask_50 : decode cX5_ask 50 = .ok (.iload 6, 2) := by decide +kernel
theorem dX5_ask_52 : decode cX5_ask 52 = .ok (.iload 4, 2) := by decide +kernel
theorem dX5_ask_54 : decode cX5_ask 54 = .ok (.if_icmp .le 10, 3) := by decide +kernel
theorem dX5_ask_57 : decode cX5_ask 57 = .ok (.iload 5, 2) := by decide +kernel
theorem dX5_ask_59 : decode cX5_ask 59 = .ok (.istore_n 3, 1) := by decide +kernel
theorem dX5_ask_60 : decode cX5_ask 60 = .ok (.iload 6, 2) := by decide +kernel
theorem dX5_ask_62 : decode cX5_ask 62 = .ok (.istore 4, 2) := by decide +kernel
theorem dX5_ask_64 : decode cX5_ask 64 = .ok (.iinc 5 1, 3) := by decide +kernel
theorem dX5_ask_67 : decode cX5_ask 67 = .ok (.goto (-38), 3) := by decide +kernel
theorem dX5_ask_70 : decode cX5_ask 70 = .ok (.iload_n 3, 1) := by decide +kernel
theorem dX5_ask_71 : decode cX5_ask 71 = .ok (.ireturn, 1) := by decide +kernel
theorem dX5_bigger_0 : decode cX5_bigger 0 = .ok (.aload_n 0, 1) := by decide +kernel
theorem dX5_bigger_1 : decode cX5_bigger 1 = .ok (.getfield 10, 3) := by decide +kernel
theorem dX5_bigger_4 : decode cX5_bigger 4 = .ok (.iload_n 1, 1) := by decide +kernel
theorem dX5_bigger_5 : decode cX5_bigger 5 = .ok (.invokevirtual 87, 3) := by decide +kernel
theorem dX5_bigger_8 : decode cX5_bigger 8 = .ok (.ifCond .eq 10, 3) := by decide +kernel
theorem dX5_bigger_11 : decode cX5_bigger 11 = .ok (.iload_n 2, 1) := by decide +kernel
theorem dX5_bigger_12 : decode cX5_bigger 12 = .ok (.invokestatic 198, 3) := by decide +kernel
theorem dX5_bigger_15 : decode cX5_bigger 15 = .ok (.ifCond .ne 9, 3) := by decide +kernel
theorem dX5_bigger_18 : decode cX5_bigger 18 = .ok (.aload_n 0, 1) := by decide +kernel
theorem dX5_bigger_19 : decode cX5_bigger 19 = .ok (.iconst (-1), 1) := by decide +kernel
theorem dX5_bigger_20 : decode cX5_bigger 20 = .ok (.invokevirtual 64, 3) := by decide +kernel
theorem dX5_bigger_23 : decode cX5_bigger 23 = .ok (.ireturn, 1) := by decide +kernel
theorem dX5_bigger_24 : decode cX5_bigger 24 = .ok (.aload_n 0, 1) := by decide +kernel
theorem dX5_bigger_25 : decode cX5_bigger 25 = .ok (.invokevirtual 67, 3) := by decide +kernel
theorem dX5_bigger_28 : decode cX5_bigger 28 = .ok (.astore_n 3, 1) := by decide +kernel
theorem dX5_bigger_29 : decode cX5_bigger 29 = .ok (.iconst 0, 1) := by decide +kernel
theorem dX5_bigger_30 : decode cX5_bigger 30 = .ok (.istore 4, 2) := by decide +kernel
theorem dX5_bigger_32 : decode cX5_bigger 32 = .ok (.iload 4, 2) := by decide +kernel
theorem dX5_bigger_34 : decode cX5_bigger 34 = .ok (.bipush 20, 2) := by decide +kernel
theorem dX5_bigger_36 : decode cX5_bigger 36 = .ok (.if_icmp .gt 29, 3) := by decide +kernel
theorem dX5_bigger_39 : decode cX5_bigger 39 = .ok (.aload_n 3, 1) := by decide +kernel
theorem dX5_bigger_40 : decode cX5_bigger 40 = .ok (.getfield 201, 3) := by decide +kernel
theorem dX5_bigger_43 : decode cX5_bigger 43 = .ok (.iload_n 2, 1) := by decide +kernel
theorem dX5_bigger_44 : decode cX5_bigger 44 = .ok (.iload 4, 2) := by decide +kernel
theorem dX5_bigger_46 : decode cX5_bigger 46 = .ok (.iastore, 1) := by decide +kernel
theorem dX5_bigger_47 : decode cX5_bigger 47 = .ok (.aload_n 3, 1) := by decide +kernel
theorem dX5_bigger_48 : decode cX5_bigger 48 = .ok (.iload_n 1, 1) := by decide +kernel
theorem dX5_bigger_49 : decode cX5_bigger 49 = .ok (.iload_n 2, 1) := by decide +kernel
theorem dX5_bigger_50 : decode cX5_bigger 50 = .ok (.invokevirtual 94, 3) := by decide +kernel
theorem dX5_bigger_53 : decode cX5_bigger 53 = .ok (.ifCond .eq 6, 3) := by decide +kernel
theorem dX5_bigger_56 : decode cX5_bigger 56 = .ok (.iload 4, 2) := by decide +kernel
theorem dX5_bigger_58 : decode cX5_bigger 58 = .ok (.ireturn, 1) := by decide +kernel
theorem dX5_bigger_59 : decode cX5_bigger 59 = .ok (.iinc 4 1, 3) := by decide +kernel
theorem dX5_bigger_62 : decode cX5_bigger 62 = .ok (.goto (-30), 3) := by decide +kernel
theorem dX5_bigger_65 : decode cX5_bigger 65 = .ok (.bipush (-9), 2) := by decide +kernel
theorem dX5_bigger_67 : decode cX5_bigger 67 = .ok (.ireturn, 1) := by decide +kernel
theorem dX5_blame_0 : decode cX5_blame 0 = .ok (.iload_n 1, 1) := by decide +kernel
theorem dX5_blame_1 : decode cX5_blame 1 = .ok (.bipush 10, 2) := by decide +kernel
theorem dX5_blame_3 : decode cX5_blame 3 = .ok (.if_icmp .ne 11, 3) := by decide +kernel
theorem dX5_blame_6 : decode cX5_blame 6 = .ok (.aload_n 0, 1) := by decide +kernel
theorem dX5_blame_7 : decode cX5_blame 7 = .ok (.getfield 10, 3) := by decide +kernel
theorem dX5_blame_10 : decode cX5_blame 10 = .ok (.invokevirtual 113, 3) := by decide +kernel
theorem dX5_blame_13 : decode cX5_blame 13 = .ok (.ireturn, 1) := by decide +kernel
theorem dX5_blame_14 : decode cX5_blame 14 = .ok (.iload_n 1, 1) := by decide +kernel
theorem dX5_blame_15 : decode cX5_blame 15 = .ok (.invokestatic 91, 3) := by decide +kernel
theorem dX5_blame_18 : decode cX5_blame 18 = .ok (.ifCond .eq 14, 3) := by decide +kernel
theorem dX5_blame_21 : decode cX5_blame 21 = .ok (.aload_n 0, 1) := by decide +kernel
theorem dX5_blame_22 : decode cX5_blame 22 = .ok (.getfield 10, 3) := by decide +kernel
theorem dX5_blame_25 : decode cX5_blame 25 = .ok (.iload_n 1, 1) := by decide +kernel
theorem dX5_blame_26 : decode cX5_blame 26 = .ok (.invokevirtual 117, 3) := by decide +kernel
theorem dX5_blame_29 : decode cX5_blame 29 = .ok (.goto 8, 3) := by decide +kernel
theorem dX5_blame_32 : decode cX5_blame 32 = .ok (.aload_n 0, 1) := by decide +kernel
theorem dX5_blame_33 : decode cX5_blame 33 = .ok (.iconst (-1), 1) := by decide +kernel
theorem dX5_blame_34 : decode cX5_blame 34 = .ok (.invokevirtual 64, 3) := by decide +kernel
theorem dX5_blame_37 : decode cX5_blame 37 = .ok (.ireturn, 1) := by decide +kernel
theorem dX5_blameWithFault_0 : decode cX5_blameWithFault 0 = .ok (.aload_n 0, 1) := by decide +kernel
theorem dX5_blameWithFault_1 : decode cX5_blameWithFault 1 = .ok (.invokevirtual 67, 3) := by decide +kernel
theorem dX5_blameWithFault_4 : decode cX5_blameWithFault 4 = .ok (.astore_n 3, 1) := by decide +kernel
theorem dX5_blameWithFault_5 : decode cX5_blameWithFault 5 = .ok (.aload_n 3, 1) := by decide +kernel
theorem dX5_blameWithFault_6 : decode cX5_blameWithFault 6 = .ok (.iload_n 1, 1) := by decide +kernel
theorem dX5_blameWithFault_7 : decode cX5_blameWithFault 7 = .ok (.invokevirtual 87, 3) := by decide +kernel
theorem dX5_blameWithFault_10 : decode cX5_blameWithFault 10 = .ok (.ifCond .eq 10, 3) := by decide +kernel
theorem dX5_blameWithFault_13 : decode cX5_blameWithFault 13 = .ok (.aload_n 3, 1) := by decide +kernel
theorem dX5_blameWithFault_14 : decode cX5_blameWithFault 14 = .ok (.getfield 173, 3) := by decide +kernel
theorem dX5_blameWithFault_17 : decode cX5_blameWithFault 17 = .ok (.iload_n 1, 1) := by decide +kernel
theorem dX5_blameWithFault_18 : decode cX5_blameWithFault 18 = .ok (.iload_n 2, 1) := by decide +kernel
theorem dX5_blameWithFault_19 : decode cX5_blameWithFault 19 = .ok (.iastore, 1) := by decide +kernel
theorem dX5_blameWithFault_20 : decode cX5_blameWithFault 20 = .ok (.aload_n 3, 1) := by decide +kernel
theorem dX5_blameWithFault_21 : decode cX5_blameWithFault 21 = .ok (.invokevirtual 113, 3) := by decide +kernel
theorem dX5_blameWithFault_24 : decode cX5_blameWithFault 24 = .ok (.ireturn, 1) := by decide +kernel
theorem dX5_blameWithout_0 : decode cX5_blameWithout 0 = .ok (.aload_n 0, 1) := by decide +kernel
theorem dX5_blameWithout_1 : decode cX5_blameWithout 1 = .ok (.invokevirtual 67, 3) := by decide +kernel
theorem dX5_blameWithout_4 : decode cX5_blameWithout 4 = .ok (.astore_n 2, 1) := by decide +kernel
theorem dX5_blameWithout_5 : decode cX5_blameWithout 5 = .ok (.aload_n 2, 1) := by decide +kernel
theorem dX5_blameWithout_6 : decode cX5_blameWithout 6 = .ok (.iload_n 1, 1) := by decide +kernel
theorem dX5_blameWithout_7 : decode cX5_blameWithout 7 = .ok (.invokevirtual 241, 3) := by decide +kernel
theorem dX5_blameWithout_10 : decode cX5_blameWithout 10 = .ok (.aload_n 2, 1) := by decide +kernel
theorem dX5_blameWithout_11 : decode cX5_blameWithout 11 = .ok (.invokevirtual 113, 3) := by decide +kernel
theorem dX5_blameWithout_14 : decode cX5_blameWithout 14 = .ok (.ireturn, 1) := by decide +kernel
theorem dX5_blameWithoutBoth_0 : decode cX5_blameWithoutBoth 0 = .ok (.aload_n 0, 1) := by decide +kernel
theorem dX5_blameWithoutBoth_1 : decode cX5_blameWithoutBoth 1 = .ok (.invokevirtual 67, 3) := by decide +kernel
theorem dX5_blameWithoutBoth_4 : decode cX5_blameWithoutBoth 4 = .ok (.astore_n 3, 1) := by decide +kernel
theorem dX5_blameWithoutBoth_5 : decode cX5_blameWithoutBoth 5 = .ok (.aload_n 3, 1) := by decide +kernel
theorem dX5_blameWithoutBoth_6 : decode cX5_blameWithoutBoth 6 = .ok (.iload_n 2, 1) := by decide +kernel
theorem dX5_blameWithoutBoth_7 : decode cX5_blameWithoutBoth 7 = .ok (.invokevirtual 241, 3) := by decide +kernel
theorem dX5_blameWithoutBoth_10 : decode cX5_blameWithoutBoth 10 = .ok (.aload_n 3, 1) := by decide +kernel
theorem dX5_blameWithoutBoth_11 : decode cX5_blameWithoutBoth 11 = .ok (.iload_n 1, 1) := by decide +kernel
theorem dX5_blameWithoutBoth_12 : decode cX5_blameWithoutBoth 12 = .ok (.invokevirtual 241, 3) := by decide +kernel
theorem dX5_blameWithoutBoth_15 : decode cX5_blameWithoutBoth 15 = .ok (.aload_n 3, 1) := by decide +kernel
theorem dX5_blameWithoutBoth_16 : decode cX5_blameWithoutBoth 16 = .ok (.invokevirtual 113, 3) := by decide +kernel
theorem dX5_blameWithoutBoth_19 : decode cX5_blameWithoutBoth 19 = .ok (.ireturn, 1) := by decide +kernel
theorem dX5_burn_0 : decode cX5_burn 0 = .ok (.bipush (-9), 2) := by decide +kernel
theorem dX5_burn_2 : decode cX5_burn 2 = .ok (.istore_n 1, 1) := by decide +kernel
theorem dX5_burn_3 : decode cX5_burn 3 = .ok (.bipush (-9), 2) := by decide +kernel
theorem dX5_burn_5 : decode cX5_burn 5 = .ok (.istore_n 2, 1) := by decide +kernel
theorem dX5_burn_6 : decode cX5_burn 6 = .ok (.iconst 0, 1) := by decide +kernel
theorem dX5_burn_7 : decode cX5_burn 7 = .ok (.istore_n 3, 1) := by decide +kernel
theorem dX5_burn_8 : decode cX5_burn 8 = .ok (.iload_n 3, 1) := by decide +kernel
theorem dX5_burn_9 : decode cX5_burn 9 = .ok (.aload_n 0, 1) := by decide +kernel
theorem dX5_burn_10 : decode cX5_burn 10 = .ok (.getfield 10, 3) := by decide +kernel
theorem dX5_burn_13 : decode cX5_burn 13 = .ok (.getfield 126, 3) := by decide +kernel
theorem dX5_burn_16 : decode cX5_burn 16 = .ok (.if_icmp .ge 64, 3) := by decide +kernel
theorem dX5_burn_19 : decode cX5_burn 19 = .ok (.iload_n 3, 1) := by decide +kernel
theorem dX5_burn_20 : decode cX5_burn 20 = .ok (.iconst 1, 1) := by decide +kernel
theorem dX5_burn_21 : decode cX5_burn 21 = .ok (.iadd, 1) := by decide +kernel
theorem dX5_burn_22 : decode cX5_burn 22 = .ok (.istore 4, 2) := by decide +kernel
theorem dX5_burn_24 : decode cX5_burn 24 = .ok (.iload 4, 2) := by decide +kernel
theorem dX5_burn_26 : decode cX5_burn 26 = .ok (.aload_n 0, 1) := by decide +kernel
theorem dX5_burn_27 : decode cX5_burn 27 = .ok (.getfield 10, 3) := by decide +kernel
theorem dX5_burn_30 : decode cX5_burn 30 = .ok (.getfield 126, 3) := by decide +kernel
theorem dX5_burn_33 : decode cX5_burn 33 = .ok (.if_icmp .ge 41, 3) := by decide +kernel
theorem dX5_burn_36 : decode cX5_burn 36 = .ok (.aload_n 0, 1) := by decide +kernel
theorem dX5_burn_37 : decode cX5_burn 37 = .ok (.iload_n 3, 1) := by decide +kernel
theorem dX5_burn_38 : decode cX5_burn 38 = .ok (.iload 4, 2) := by decide +kernel
theorem dX5_burn_40 : decode cX5_burn 40 = .ok (.invokevirtual 170, 3) := by decide +kernel
theorem dX5_burn_43 : decode cX5_burn 43 = .ok (.istore 5, 2) := by decide +kernel
theorem dX5_burn_45 : decode cX5_burn 45 = .ok (.iload_n 1, 1) := by decide +kernel
theorem dX5_burn_46 : decode cX5_burn 46 = .ok (.bipush (-9), 2) := by decide +kernel
theorem dX5_burn_48 : decode cX5_burn 48 = .ok (.if_icmp .eq 9, 3) := by decide +kernel
theorem dX5_burn_51 : decode cX5_burn 51 = .ok (.iload 5, 2) := by decide +kernel
theorem dX5_burn_53 : decode cX5_burn 53 = .ok (.iload_n 2, 1) := by decide +kernel
theorem dX5_burn_54 : decode cX5_burn 54 = .ok (.if_icmp .ge 14, 3) := by decide +kernel
theorem dX5_burn_57 : decode cX5_burn 57 = .ok (.bipush 10, 2) := by decide +kernel
theorem dX5_burn_59 : decode cX5_burn 59 = .ok (.iload_n 3, 1) := by decide +kernel
theorem dX5_burn_60 : decode cX5_burn 60 = .ok (.imul, 1) := by decide +kernel
theorem dX5_burn_61 : decode cX5_burn 61 = .ok (.iload 4, 2) := by decide +kernel
theorem dX5_burn_63 : decode cX5_burn 63 = .ok (.iadd, 1) := by decide +kernel
theorem dX5_burn_64 : decode cX5_burn 64 = .ok (.istore_n 1, 1) := by decide +kernel
theorem dX5_burn_65 : decode cX5_burn 65 = .ok (.iload 5, 2) := by decide +kernel
theorem dX5_burn_67 : decode cX5_burn 67 = .ok (.istore_n 2, 1) := by decide +kernel
theorem dX5_burn_68 : decode cX5_burn 68 = .ok (.iinc 4 1, 3) := by decide +kernel
theorem dX5_burn_71 : decode cX5_burn 71 = .ok (.goto (-47), 3) := by decide +kernel
theorem dX5_burn_74 : decode cX5_burn 74 = .ok (.iinc 3 1, 3) := by decide +kernel
theorem dX5_burn_77 : decode cX5_burn 77 = .ok (.goto (-69), 3) := by decide +kernel
theorem dX5_burn_80 : decode cX5_burn 80 = .ok (.iload_n 1, 1) := by decide +kernel
theorem dX5_burn_81 : decode cX5_burn 81 = .ok (.ireturn, 1) := by decide +kernel
theorem dX5_carry_0 : decode cX5_carry 0 = .ok (.aload_n 0, 1) := by decide +kernel
theorem dX5_carry_1 : decode cX5_carry 1 = .ok (.aload_n 0, 1) := by decide +kernel
theorem dX5_carry_2 : decode cX5_carry 2 = .ok (.getfield 10, 3) := by decide +kernel
theorem dX5_carry_5 : decode cX5_carry 5 = .ok (.iload_n 1, 1) := by decide +kernel
theorem dX5_carry_6 : decode cX5_carry 6 = .ok (.iload_n 2, 1) := by decide +kernel
theorem dX5_carry_7 : decode cX5_carry 7 = .ok (.invokevirtual 84, 3) := by decide +kernel
theorem dX5_carry_10 : decode cX5_carry 10 = .ok (.invokevirtual 64, 3) := by decide +kernel
theorem dX5_carry_13 : decode cX5_carry 13 = .ok (.ireturn, 1) := by decide +kernel
theorem dX5_choice_0 : decode cX5_choice 0 = .ok (.iload_n 1, 1) := by decide +kernel
theorem dX5_choice_1 : decode cX5_choice 1 = .ok (.aload_n 0, 1) := by decide +kernel
theorem dX5_choice_2 : decode cX5_choice 2 = .ok (.getfield 10, 3) := by decide +kernel
theorem dX5_choice_5 : decode cX5_choice 5 = .ok (.getfield 155, 3) := by decide +kernel
theorem dX5_choice_8 : decode cX5_choice 8 = .ok (.invokestatic 137, 3) := by decide +kernel
theorem dX5_choice_11 : decode cX5_choice 11 = .ok (.ifCond .ne 12, 3) := by decide +kernel
theorem dX5_choice_14 : decode cX5_choice 14 = .ok (.aload_n 0, 1) := by decide +kernel
theorem dX5_choice_15 : decode cX5_choice 15 = .ok (.iload_n 1, 1) := by decide +kernel
theorem dX5_choice_16 : decode cX5_choice 16 = .ok (.invokestatic 140, 3) := by decide +kernel
theorem dX5_choice_19 : decode cX5_choice 19 = .ok (.invokevirtual 64, 3) := by decide +kernel
theorem dX5_choice_22 : decode cX5_choice 22 = .ok (.ireturn, 1) := by decide +kernel
theorem dX5_choice_23 : decode cX5_choice 23 = .ok (.aload_n 0, 1) := by decide +kernel
theorem dX5_choice_24 : decode cX5_choice 24 = .ok (.getfield 52, 3) := by decide +kernel
theorem dX5_choice_27 : decode cX5_choice 27 = .ok (.aload_n 0, 1) := by decide +kernel
theorem dX5_choice_28 : decode cX5_choice 28 = .ok (.getfield 10, 3) := by decide +kernel
theorem dX5_choice_31 : decode cX5_choice 31 = .ok (.invokevirtual 158, 3) := by decide +kernel
theorem dX5_choice_34 : decode cX5_choice 34 = .ok (.iload_n 1, 1) := by decide +kernel
theorem dX5_choice_35 : decode cX5_choice 35 = .ok (.iconst (-1), 1) := by decide +kernel
theorem dX5_choice_36 : decode cX5_choice 36 = .ok (.if_icmp .ne 13, 3) := by decide +kernel
theorem dX5_choice_39 : decode cX5_choice 39 = .ok (.aload_n 0, 1) := by decide +kernel
theorem dX5_choice_40 : decode cX5_choice 40 = .ok (.getfield 52, 3) := by decide +kernel
theorem dX5_choice_43 : decode cX5_choice 43 = .ok (.getfield 161, 3) := by decide +kernel
theorem dX5_choice_46 : decode cX5_choice 46 = .ok (.goto 11, 3) := by decide +kernel
theorem dX5_choice_49 : decode cX5_choice 49 = .ok (.aload_n 0, 1) := by decide +kernel
theorem dX5_choice_50 : decode cX5_choice 50 = .ok (.getfield 52, 3) := by decide +kernel
theorem dX5_choice_53 : decode cX5_choice 53 = .ok (.iload_n 1, 1) := by decide +kernel
theorem dX5_choice_54 : decode cX5_choice 54 = .ok (.invokevirtual 164, 3) := by decide +kernel
theorem dX5_choice_57 : decode cX5_choice 57 = .ok (.ireturn, 1) := by decide +kernel
theorem dX5_count_0 : decode cX5_count 0 = .ok (.iload_n 1, 1) := by decide +kernel
theorem dX5_count_1 : decode cX5_count 1 = .ok (.tableswitch 158 0 8 #[51, 59, 67, 75, 93, 111, 129, 142, 150], 51) := by decide +kernel
theorem dX5_count_52 : decode cX5_count 52 = .ok (.aload_n 0, 1) := by decide +kernel
theorem dX5_count_53 : decode cX5_count 53 = .ok (.getfield 10, 3) := by decide +kernel
theorem dX5_count_56 : decode cX5_count 56 = .ok (.getfield 126, 3) := by decide +kernel
theorem dX5_count_59 : decode cX5_count 59 = .ok (.ireturn, 1) := by decide +kernel
theorem dX5_count_60 : decode cX5_count 60 = .ok (.aload_n 0, 1) := by decide +kernel
theorem dX5_count_61 : decode cX5_count 61 = .ok (.getfield 10, 3) := by decide +kernel
theorem dX5_count_64 : decode cX5_count 64 = .ok (.getfield 224, 3) := by decide +kernel
theorem dX5_count_67 : decode cX5_count 67 = .ok (.ireturn, 1) := by decide +kernel
theorem dX5_count_68 : decode cX5_count 68 = .ok (.aload_n 0, 1) := by decide +kernel
theorem dX5_count_69 : decode cX5_count 69 = .ok (.getfield 10, 3) := by decide +kernel
theorem dX5_count_72 : decode cX5_count 72 = .ok (.getfield 155, 3) := by decide +kernel
theorem dX5_count_75 : decode cX5_count 75 = .ok (.ireturn, 1) := by decide +kernel
theorem dX5_count_76 : decode cX5_count 76 = .ok (.aload_n 0, 1) := by decide +kernel
theorem dX5_count_77 : decode cX5_count 77 = .ok (.getfield 10, 3) := by decide +kernel
theorem dX5_count_80 : decode cX5_count 80 = .ok (.getfield 227, 3) := by decide +kernel
theorem dX5_count_83 : decode cX5_count 83 = .ok (.aload_n 0, 1) := by decide +kernel
theorem dX5_count_84 : decode cX5_count 84 = .ok (.getfield 10, 3) := by decide +kernel
theorem dX5_count_87 : decode cX5_count 87 = .ok (.getfield 126, 3) := by decide +kernel
theorem dX5_count_90 : decode cX5_count 90 = .ok (.invokestatic 230, 3) := by decide +kernel
theorem dX5_count_93 : decode cX5_count 93 = .ok (.ireturn, 1) := by decide +kernel
theorem dX5_count_94 : decode cX5_count 94 = .ok (.aload_n 0, 1) := by decide +kernel
theorem dX5_count_95 : decode cX5_count 95 = .ok (.getfield 10, 3) := by decide +kernel
theorem dX5_count_98 : decode cX5_count 98 = .ok (.getfield 173, 3) := by decide +kernel
theorem dX5_count_101 : decode cX5_count 101 = .ok (.aload_n 0, 1) := by decide +kernel
theorem dX5_count_102 : decode cX5_count 102 = .ok (.getfield 10, 3) := by decide +kernel
theorem dX5_count_105 : decode cX5_count 105 = .ok (.getfield 126, 3) := by decide +kernel
theorem dX5_count_108 : decode cX5_count 108 = .ok (.invokestatic 230, 3) := by decide +kernel
theorem dX5_count_111 : decode cX5_count 111 = .ok (.ireturn, 1) := by decide +kernel
theorem dX5_count_112 : decode cX5_count 112 = .ok (.aload_n 0, 1) := by decide +kernel
theorem dX5_count_113 : decode cX5_count 113 = .ok (.getfield 10, 3) := by decide +kernel
theorem dX5_count_116 : decode cX5_count 116 = .ok (.getfield 126, 3) := by decide +kernel
theorem dX5_count_119 : decode cX5_count 119 = .ok (.aload_n 0, 1) := by decide +kernel
theorem dX5_count_120 : decode cX5_count 120 = .ok (.getfield 10, 3) := by decide +kernel
theorem dX5_count_123 : decode cX5_count 123 = .ok (.bipush 9, 2) := by decide +kernel
theorem dX5_count_125 : decode cX5_count 125 = .ok (.invokevirtual 234, 3) := by decide +kernel
theorem dX5_count_128 : decode cX5_count 128 = .ok (.isub, 1) := by decide +kernel
theorem dX5_count_129 : decode cX5_count 129 = .ok (.ireturn, 1) := by decide +kernel
theorem dX5_count_130 : decode cX5_count 130 = .ok (.aload_n 0, 1) := by decide +kernel
theorem dX5_count_131 : decode cX5_count 131 = .ok (.getfield 10, 3) := by decide +kernel
theorem dX5_count_134 : decode cX5_count 134 = .ok (.getfield 201, 3) := by decide +kernel
theorem dX5_count_137 : decode cX5_count 137 = .ok (.bipush 6, 2) := by decide +kernel
theorem dX5_count_139 : decode cX5_count 139 = .ok (.invokestatic 230, 3) := by decide +kernel
theorem dX5_count_142 : decode cX5_count 142 = .ok (.ireturn, 1) := by decide +kernel
theorem dX5_count_143 : decode cX5_count 143 = .ok (.aload_n 0, 1) := by decide +kernel
theorem dX5_count_144 : decode cX5_count 144 = .ok (.getfield 36, 3) := by decide +kernel
theorem dX5_count_147 : decode cX5_count 147 = .ok (.getfield 237, 3) := by decide +kernel
theorem dX5_count_150 : decode cX5_count 150 = .ok (.ireturn, 1) := by decide +kernel
theorem dX5_count_151 : decode cX5_count 151 = .ok (.aload_n 0, 1) := by decide +kernel
theorem dX5_count_152 : decode cX5_count 152 = .ok (.getfield 29, 3) := by decide +kernel
theorem dX5_count_155 : decode cX5_count 155 = .ok (.getfield 240, 3) := by decide +kernel
theorem dX5_count_158 : decode cX5_count 158 = .ok (.ireturn, 1) := by decide +kernel
theorem dX5_count_159 : decode cX5_count 159 = .ok (.iload_n 1, 1) := by decide +kernel
theorem dX5_count_160 : decode cX5_count 160 = .ok (.bipush 11, 2) := by decide +kernel
theorem dX5_count_162 : decode cX5_count 162 = .ok (.if_icmp .lt 21, 3) := by decide +kernel
theorem dX5_count_165 : decode cX5_count 165 = .ok (.iload_n 1, 1) := by decide +kernel
theorem dX5_count_166 : decode cX5_count 166 = .ok (.bipush 16, 2) := by decide +kernel
theorem dX5_count_168 : decode cX5_count 168 = .ok (.if_icmp .gt 15, 3) := by decide +kernel
theorem dX5_count_171 : decode cX5_count 171 = .ok (.aload_n 0, 1) := by decide +kernel
theorem dX5_count_172 : decode cX5_count 172 = .ok (.getfield 56, 3) := by decide +kernel
theorem dX5_count_175 : decode cX5_count 175 = .ok (.iload_n 1, 1) := by decide +kernel
theorem dX5_count_176 : decode cX5_count 176 = .ok (.bipush 10, 2) := by decide +kernel
theorem dX5_count_178 : decode cX5_count 178 = .ok (.isub, 1) := by decide +kernel
theorem dX5_count_179 : decode cX5_count 179 = .ok (.iaload, 1) := by decide +kernel
theorem dX5_count_180 : decode cX5_count 180 = .ok (.goto 5, 3) := by decide +kernel
theorem dX5_count_183 : decode cX5_count 183 = .ok (.bipush (-9), 2) := by decide +kernel
theorem dX5_count_185 : decode cX5_count 185 = .ok (.ireturn, 1) := by decide +kernel
theorem dX5_crowded_0 : decode cX5_crowded 0 = .ok (.iconst 0, 1) := by decide +kernel
theorem dX5_crowded_1 : decode cX5_crowded 1 = .ok (.istore_n 1, 1) := by decide +kernel
theorem dX5_crowded_2 : decode cX5_crowded 2 = .ok (.iconst 0, 1) := by decide +kernel
theorem dX5_crowded_3 : decode cX5_crowded 3 = .ok (.istore_n 2, 1) := by decide +kernel
theorem dX5_crowded_4 : decode cX5_crowded 4 = .ok (.iload_n 2, 1) := by decide +kernel
theorem dX5_crowded_5 : decode cX5_crowded 5 = .ok (.bipush 6, 2) := by decide +kernel
theorem dX5_crowded_7 : decode cX5_crowded 7 = .ok (.if_icmp .ge 27, 3) := by decide +kernel
theorem dX5_crowded_10 : decode cX5_crowded 10 = .ok (.aload_n 0, 1) := by decide +kernel
theorem dX5_crowded_11 : decode cX5_crowded 11 = .ok (.getfield 10, 3) := by decide +kernel
theorem dX5_crowded_14 : decode cX5_crowded 14 = .ok (.iload_n 2, 1) := by decide +kernel
theorem dX5_crowded_15 : decode cX5_crowded 15 = .ok (.iconst 1, 1) := by decide +kernel
theorem dX5_crowded_16 : decode cX5_crowded 16 = .ok (.invokevirtual 123, 3) := by decide +kernel
theorem dX5_crowded_19 : decode cX5_crowded 19 = .ok (.ifCond .ne 9, 3) := by decide +kernel
theorem dX5_crowded_22 : decode cX5_crowded 22 = .ok (.iload_n 1, 1) := by decide +kernel
theorem dX5_crowded_23 : decode cX5_crowded 23 = .ok (.iconst 1, 1) := by decide +kernel
theorem dX5_crowded_24 : decode cX5_crowded 24 = .ok (.iload_n 2, 1) := by decide +kernel
theorem dX5_crowded_25 : decode cX5_crowded 25 = .ok (.ishl, 1) := by decide +kernel
theorem dX5_crowded_26 : decode cX5_crowded 26 = .ok (.ior, 1) := by decide +kernel
theorem dX5_crowded_27 : decode cX5_crowded 27 = .ok (.istore_n 1, 1) := by decide +kernel
theorem dX5_crowded_28 : decode cX5_crowded 28 = .ok (.iinc 2 1, 3) := by decide +kernel
theorem dX5_crowded_31 : decode cX5_crowded 31 = .ok (.goto (-27), 3) := by decide +kernel
theorem dX5_crowded_34 : decode cX5_crowded 34 = .ok (.iload_n 1, 1) := by decide +kernel
theorem dX5_crowded_35 : decode cX5_crowded 35 = .ok (.ireturn, 1) := by decide +kernel
theorem dX5_dealt_0 : decode cX5_dealt 0 = .ok (.iload_n 1, 1) := by decide +kernel
theorem dX5_dealt_1 : decode cX5_dealt 1 = .ok (.aload_n 0, 1) := by decide +kernel
theorem dX5_dealt_2 : decode cX5_dealt 2 = .ok (.getfield 10, 3) := by decide +kernel
theorem dX5_dealt_5 : decode cX5_dealt 5 = .ok (.getfield 126, 3) := by decide +kernel
theorem dX5_dealt_8 : decode cX5_dealt 8 = .ok (.invokestatic 137, 3) := by decide +kernel
theorem dX5_dealt_11 : decode cX5_dealt 11 = .ok (.ifCond .ne 12, 3) := by decide +kernel
theorem dX5_dealt_14 : decode cX5_dealt 14 = .ok (.aload_n 0, 1) := by decide +kernel
theorem dX5_dealt_15 : decode cX5_dealt 15 = .ok (.iload_n 1, 1) := by decide +kernel
theorem dX5_dealt_16 : decode cX5_dealt 16 = .ok (.invokestatic 140, 3) := by decide +kernel
theorem dX5_dealt_19 : decode cX5_dealt 19 = .ok (.invokevirtual 64, 3) := by decide +kernel
theorem dX5_dealt_22 : decode cX5_dealt 22 = .ok (.ireturn, 1) := by decide +kernel
theorem dX5_dealt_23 : decode cX5_dealt 23 = .ok (.aload_n 0, 1) := by decide +kernel
theorem dX5_dealt_24 : decode cX5_dealt 24 = .ok (.getfield 52, 3) := by decide +kernel
theorem dX5_dealt_27 : decode cX5_dealt 27 = .ok (.aload_n 0, 1) := by decide +kernel
theorem dX5_dealt_28 : decode cX5_dealt 28 = .ok (.getfield 10, 3) := by decide +kernel
theorem dX5_dealt_31 : decode cX5_dealt 31 = .ok (.invokevirtual 149, 3) := by decide +kernel
theorem dX5_dealt_34 : decode cX5_dealt 34 = .ok (.aload_n 0, 1) := by decide +kernel
theorem dX5_dealt_35 : decode cX5_dealt 35 = .ok (.getfield 52, 3) := by decide +kernel
theorem dX5_dealt_38 : decode cX5_dealt 38 = .ok (.iload_n 1, 1) := by decide +kernel
theorem dX5_dealt_39 : decode cX5_dealt 39 = .ok (.invokevirtual 146, 3) := by decide +kernel
theorem dX5_dealt_42 : decode cX5_dealt 42 = .ok (.ireturn, 1) := by decide +kernel
theorem dX5_drawnBelow_0 : decode cX5_drawnBelow 0 = .ok (.iload_n 0, 1) := by decide +kernel
theorem dX5_drawnBelow_1 : decode cX5_drawnBelow 1 = .ok (.ifCond .le 16, 3) := by decide +kernel
theorem dX5_drawnBelow_4 : decode cX5_drawnBelow 4 = .ok (.iload_n 1, 1) := by decide +kernel
theorem dX5_drawnBelow_5 : decode cX5_drawnBelow 5 = .ok (.ldc 252, 2) := by decide +kernel
theorem dX5_drawnBelow_7 : decode cX5_drawnBelow 7 = .ok (.iand, 1) := by decide +kernel
theorem dX5_drawnBelow_8 : decode cX5_drawnBelow 8 = .ok (.sipush 256, 3) := by decide +kernel
theorem dX5_drawnBelow_11 : decode cX5_drawnBelow 11 = .ok (.idiv, 1) := by decide +kernel
theorem dX5_drawnBelow_12 : decode cX5_drawnBelow 12 = .ok (.iload_n 0, 1) := by decide +kernel
theorem dX5_drawnBelow_13 : decode cX5_drawnBelow 13 = .ok (.irem, 1) := by decide +kernel
theorem dX5_drawnBelow_14 : decode cX5_drawnBelow 14 = .ok (.goto 4, 3) := by decide +kernel
theorem dX5_drawnBelow_17 : decode cX5_drawnBelow 17 = .ok (.iconst 0, 1) := by decide +kernel
theorem dX5_drawnBelow_18 : decode cX5_drawnBelow 18 = .ok (.ireturn, 1) := by decide +kernel
theorem dX5_envy_0 : decode cX5_envy 0 = .ok (.aload_n 0, 1) := by decide +kernel
theorem dX5_envy_1 : decode cX5_envy 1 = .ok (.getfield 52, 3) := by decide +kernel
theorem dX5_envy_4 : decode cX5_envy 4 = .ok (.aload_n 0, 1) := by decide +kernel
theorem dX5_envy_5 : decode cX5_envy 5 = .ok (.getfield 10, 3) := by decide +kernel
theorem dX5_envy_8 : decode cX5_envy 8 = .ok (.invokevirtual 143, 3) := by decide +kernel
theorem dX5_envy_11 : decode cX5_envy 11 = .ok (.aload_n 0, 1) := by decide +kernel
theorem dX5_envy_12 : decode cX5_envy 12 = .ok (.getfield 52, 3) := by decide +kernel
theorem dX5_envy_15 : decode cX5_envy 15 = .ok (.invokevirtual 152, 3) := by decide +kernel
theorem dX5_envy_18 : decode cX5_envy 18 = .ok (.ireturn, 1) := by decide +kernel
theorem dX5_fits_0 : decode cX5_fits 0 = .ok (.aload_n 0, 1) := by decide +kernel
theorem dX5_fits_1 : decode cX5_fits 1 = .ok (.getfield 10, 3) := by decide +kernel
theorem dX5_fits_4 : decode cX5_fits 4 = .ok (.iload_n 1, 1) := by decide +kernel
theorem dX5_fits_5 : decode cX5_fits 5 = .ok (.invokevirtual 87, 3) := by decide +kernel
theorem dX5_fits_8 : decode cX5_fits 8 = .ok (.ifCond .ne 9, 3) := by decide +kernel
theorem dX5_fits_11 : decode cX5_fits 11 = .ok (.aload_n 0, 1) := by decide +kernel
theorem dX5_fits_12 : decode cX5_fits 12 = .ok (.iconst (-1), 1) := by decide +kernel
theorem dX5_fits_13 : decode cX5_fits 13 = .ok (.invokevirtual 64, 3) := by decide +kernel
theorem dX5_fits_16 : decode cX5_fits 16 = .ok (.ireturn, 1) := by decide +kernel
theorem dX5_fits_17 : decode cX5_fits 17 = .ok (.iconst 0, 1) := by decide +kernel
theorem dX5_fits_18 : decode cX5_fits 18 = .ok (.istore_n 2, 1) := by decide +kernel
theorem dX5_fits_19 : decode cX5_fits 19 = .ok (.iconst 0, 1) := by decide +kernel
theorem dX5_fits_20 : decode cX5_fits 20 = .ok (.istore_n 3, 1) := by decide +kernel
theorem dX5_fits_21 : decode cX5_fits 21 = .ok (.iload_n 3, 1) := by decide +kernel
theorem dX5_fits_22 : decode cX5_fits 22 = .ok (.bipush 6, 2) := by decide +kernel
theorem dX5_fits_24 : decode cX5_fits 24 = .ok (.if_icmp .ge 43, 3) := by decide +kernel
theorem dX5_fits_27 : decode cX5_fits 27 = .ok (.aload_n 0, 1) := by decide +kernel
theorem dX5_fits_28 : decode cX5_fits 28 = .ok (.invokevirtual 67, 3) := by decide +kernel
theorem dX5_fits_31 : decode cX5_fits 31 = .ok (.astore 4, 2) := by decide +kernel
theorem dX5_fits_33 : decode cX5_fits 33 = .ok (.aload 4, 2) := by decide +kernel
theorem dX5_fits_35 : decode cX5_fits 35 = .ok (.getfield 211, 3) := by decide +kernel
theorem dX5_fits_38 : decode cX5_fits 38 = .ok (.iload_n 1, 1) := by decide +kernel
theorem dX5_fits_39 : decode cX5_fits 39 = .ok (.iload_n 3, 1) := by decide +kernel
theorem dX5_fits_40 : decode cX5_fits 40 = .ok (.iastore, 1) := by decide +kernel
theorem dX5_fits_41 : decode cX5_fits 41 = .ok (.aload_n 0, 1) := by decide +kernel
theorem dX5_fits_42 : decode cX5_fits 42 = .ok (.getfield 36, 3) := by decide +kernel
theorem dX5_fits_45 : decode cX5_fits 45 = .ok (.aload 4, 2) := by decide +kernel
theorem dX5_fits_47 : decode cX5_fits 47 = .ok (.invokevirtual 214, 3) := by decide +kernel
theorem dX5_fits_50 : decode cX5_fits 50 = .ok (.bipush (-9), 2) := by decide +kernel
theorem dX5_fits_52 : decode cX5_fits 52 = .ok (.if_icmp .ne 9, 3) := by decide +kernel
theorem dX5_fits_55 : decode cX5_fits 55 = .ok (.iload_n 2, 1) := by decide +kernel
theorem dX5_fits_56 : decode cX5_fits 56 = .ok (.iconst 1, 1) := by decide +kernel
theorem dX5_fits_57 : decode cX5_fits 57 = .ok (.iload_n 3, 1) := by decide +kernel
theorem dX5_fits_58 : decode cX5_fits 58 = .ok (.ishl, 1) := by decide +kernel
theorem dX5_fits_59 : decode cX5_fits 59 = .ok (.ior, 1) := by decide +kernel
theorem dX5_fits_60 : decode cX5_fits 60 = .ok (.istore_n 2, 1) := by decide +kernel
theorem dX5_fits_61 : decode cX5_fits 61 = .ok (.iinc 3 1, 3) := by decide +kernel
theorem dX5_fits_64 : decode cX5_fits 64 = .ok (.goto (-43), 3) := by decide +kernel
theorem dX5_fits_67 : decode cX5_fits 67 = .ok (.iload_n 2, 1) := by decide +kernel
theorem dX5_fits_68 : decode cX5_fits 68 = .ok (.ireturn, 1) := by decide +kernel
theorem dX5_gone_0 : decode cX5_gone 0 = .ok (.iload_n 1, 1) := by decide +kernel
theorem dX5_gone_1 : decode cX5_gone 1 = .ok (.iconst 0, 1) := by decide +kernel
theorem dX5_gone_2 : decode cX5_gone 2 = .ok (.sipush 999, 3) := by decide +kernel
theorem dX5_gone_5 : decode cX5_gone 5 = .ok (.invokestatic 179, 3) := by decide +kernel
theorem dX5_gone_8 : decode cX5_gone 8 = .ok (.istore_n 2, 1) := by decide +kernel
theorem dX5_gone_9 : decode cX5_gone 9 = .ok (.iload_n 2, 1) := by decide +kernel
theorem dX5_gone_10 : decode cX5_gone 10 = .ok (.ifCond .eq 9, 3) := by decide +kernel
theorem dX5_gone_13 : decode cX5_gone 13 = .ok (.aload_n 0, 1) := by decide +kernel
theorem dX5_gone_14 : decode cX5_gone 14 = .ok (.iload_n 2, 1) := by decide +kernel
theorem dX5_gone_15 : decode cX5_gone 15 = .ok (.invokevirtual 64, 3) := by decide +kernel
theorem dX5_gone_18 : decode cX5_gone 18 = .ok (.ireturn, 1) := by decide +kernel
theorem dX5_gone_19 : decode cX5_gone 19 = .ok (.aload_n 0, 1) := by decide +kernel
theorem dX5_gone_20 : decode cX5_gone 20 = .ok (.invokevirtual 67, 3) := by decide +kernel
theorem dX5_gone_23 : decode cX5_gone 23 = .ok (.astore_n 3, 1) := by decide +kernel
theorem dX5_gone_24 : decode cX5_gone 24 = .ok (.iconst 0, 1) := by decide +kernel
theorem dX5_gone_25 : decode cX5_gone 25 = .ok (.istore 4, 2) := by decide +kernel
theorem dX5_gone_27 : decode cX5_gone 27 = .ok (.iload 4, 2) := by decide +kernel
theorem dX5_gone_29 : decode cX5_gone 29 = .ok (.sipush 200, 3) := by decide +kernel
theorem dX5_gone_32 : decode cX5_gone 32 = .ok (.if_icmp .gt 24, 3) := by decide +kernel
theorem dX5_gone_35 : decode cX5_gone 35 = .ok (.aload_n 3, 1) := by decide +kernel
theorem dX5_gone_36 : decode cX5_gone 36 = .ok (.invokevirtual 113, 3) := by decide +kernel
theorem dX5_gone_39 : decode cX5_gone 39 = .ok (.iload_n 1, 1) := by decide +kernel
theorem dX5_gone_40 : decode cX5_gone 40 = .ok (.if_icmp .gt 6, 3) := by decide +kernel
theorem dX5_gone_43 : decode cX5_gone 43 = .ok (.iload 4, 2) := by decide +kernel
theorem dX5_gone_45 : decode cX5_gone 45 = .ok (.ireturn, 1) := by decide +kernel
theorem dX5_gone_46 : decode cX5_gone 46 = .ok (.aload_n 3, 1) := by decide +kernel
theorem dX5_gone_47 : decode cX5_gone 47 = .ok (.invokevirtual 183, 3) := by decide +kernel
theorem dX5_gone_50 : decode cX5_gone 50 = .ok (.iinc 4 1, 3) := by decide +kernel
theorem dX5_gone_53 : decode cX5_gone 53 = .ok (.goto (-26), 3) := by decide +kernel
theorem dX5_gone_56 : decode cX5_gone 56 = .ok (.bipush (-9), 2) := by decide +kernel
theorem dX5_gone_58 : decode cX5_gone 58 = .ok (.ireturn, 1) := by decide +kernel
theorem dX5_guest_0 : decode cX5_guest 0 = .ok (.iload_n 1, 1) := by decide +kernel
theorem dX5_guest_1 : decode cX5_guest 1 = .ok (.invokestatic 91, 3) := by decide +kernel
theorem dX5_guest_4 : decode cX5_guest 4 = .ok (.ifCond .ne 9, 3) := by decide +kernel
theorem dX5_guest_7 : decode cX5_guest 7 = .ok (.aload_n 0, 1) := by decide +kernel
theorem dX5_guest_8 : decode cX5_guest 8 = .ok (.iconst (-1), 1) := by decide +kernel
theorem dX5_guest_9 : decode cX5_guest 9 = .ok (.invokevirtual 64, 3) := by decide +kernel
theorem dX5_guest_12 : decode cX5_guest 12 = .ok (.ireturn, 1) := by decide +kernel
theorem dX5_guest_13 : decode cX5_guest 13 = .ok (.bipush (-9), 2) := by decide +kernel
theorem dX5_guest_15 : decode cX5_guest 15 = .ok (.istore_n 2, 1) := by decide +kernel
theorem dX5_guest_16 : decode cX5_guest 16 = .ok (.bipush (-9), 2) := by decide +kernel
theorem dX5_guest_18 : decode cX5_guest 18 = .ok (.istore_n 3, 1) := by decide +kernel
theorem dX5_guest_19 : decode cX5_guest 19 = .ok (.iconst 0, 1) := by decide +kernel
theorem dX5_guest_20 : decode cX5_guest 20 = .ok (.istore 4, 2) := by decide +kernel
theorem dX5_guest_22 : decode cX5_guest 22 = .ok (.iload 4, 2) := by decide +kernel
theorem dX5_guest_24 : decode cX5_guest 24 = .ok (.aload_n 0, 1) := by decide +kernel
theorem dX5_guest_25 : decode cX5_guest 25 = .ok (.getfield 10, 3) := by decide +kernel
theorem dX5_guest_28 : decode cX5_guest 28 = .ok (.getfield 126, 3) := by decide +kernel
theorem dX5_guest_31 : decode cX5_guest 31 = .ok (.if_icmp .ge 52, 3) := by decide +kernel
theorem dX5_guest_34 : decode cX5_guest 34 = .ok (.aload_n 0, 1) := by decide +kernel
theorem dX5_guest_35 : decode cX5_guest 35 = .ok (.getfield 10, 3) := by decide +kernel
theorem dX5_guest_38 : decode cX5_guest 38 = .ok (.getfield 204, 3) := by decide +kernel
theorem dX5_guest_41 : decode cX5_guest 41 = .ok (.iload 4, 2) := by decide +kernel
theorem dX5_guest_43 : decode cX5_guest 43 = .ok (.iaload, 1) := by decide +kernel
theorem dX5_guest_44 : decode cX5_guest 44 = .ok (.iload_n 1, 1) := by decide +kernel
theorem dX5_guest_45 : decode cX5_guest 45 = .ok (.if_icmp .ne 32, 3) := by decide +kernel
theorem dX5_guest_48 : decode cX5_guest 48 = .ok (.aload_n 0, 1) := by decide +kernel
theorem dX5_guest_49 : decode cX5_guest 49 = .ok (.getfield 10, 3) := by decide +kernel
theorem dX5_guest_52 : decode cX5_guest 52 = .ok (.iload 4, 2) := by decide +kernel
theorem dX5_guest_54 : decode cX5_guest 54 = .ok (.invokevirtual 207, 3) := by decide +kernel
theorem dX5_guest_57 : decode cX5_guest 57 = .ok (.istore 5, 2) := by decide +kernel
theorem dX5_guest_59 : decode cX5_guest 59 = .ok (.iload_n 2, 1) := by decide +kernel
theorem dX5_guest_60 : decode cX5_guest 60 = .ok (.bipush (-9), 2) := by decide +kernel
theorem dX5_guest_62 : decode cX5_guest 62 = .ok (.if_icmp .eq 9, 3) := by decide +kernel
theorem dX5_guest_65 : decode cX5_guest 65 = .ok (.iload 5, 2) := by decide +kernel
theorem dX5_guest_67 : decode cX5_guest 67 = .ok (.iload_n 3, 1) := by decide +kernel
theorem dX5_guest_68 : decode cX5_guest 68 = .ok (.if_icmp .ge 9, 3) := by decide +kernel
theorem dX5_guest_71 : decode cX5_guest 71 = .ok (.iload 4, 2) := by decide +kernel
theorem dX5_guest_73 : decode cX5_guest 73 = .ok (.istore_n 2, 1) := by decide +kernel
theorem dX5_guest_74 : decode cX5_guest 74 = .ok (.iload 5, 2) := by decide +kernel
theorem dX5_guest_76 : decode cX5_guest 76 = .ok (.istore_n 3, 1) := by decide +kernel
theorem dX5_guest_77 : decode cX5_guest 77 = .ok (.iinc 4 1, 3) := by decide +kernel
theorem dX5_guest_80 : decode cX5_guest 80 = .ok (.goto (-58), 3) := by decide +kernel
theorem dX5_guest_83 : decode cX5_guest 83 = .ok (.iload_n 2, 1) := by decide +kernel
theorem dX5_guest_84 : decode cX5_guest 84 = .ok (.ireturn, 1) := by decide +kernel
theorem dX5_hasStairs_0 : decode cX5_hasStairs 0 = .ok (.iload_n 0, 1) := by decide +kernel
theorem dX5_hasStairs_1 : decode cX5_hasStairs 1 = .ok (.iconst 1, 1) := by decide +kernel
theorem dX5_hasStairs_2 : decode cX5_hasStairs 2 = .ok (.if_icmp .lt 12, 3) := by decide +kernel
theorem dX5_hasStairs_5 : decode cX5_hasStairs 5 = .ok (.iload_n 0, 1) := by decide +kernel
theorem dX5_hasStairs_6 : decode cX5_hasStairs 6 = .ok (.iconst 3, 1) := by decide +kernel
theorem dX5_hasStairs_7 : decode cX5_hasStairs 7 = .ok (.if_icmp .ge 7, 3) := by decide +kernel
theorem dX5_hasStairs_10 : decode cX5_hasStairs 10 = .ok (.iconst 1, 1) := by decide +kernel
theorem dX5_hasStairs_11 : decode cX5_hasStairs 11 = .ok (.goto 4, 3) := by decide +kernel
theorem dX5_hasStairs_14 : decode cX5_hasStairs 14 = .ok (.iconst 0, 1) := by decide +kernel
theorem dX5_hasStairs_15 : decode cX5_hasStairs 15 = .ok (.ireturn, 1) := by decide +kernel
theorem dX5_heavier_0 : decode cX5_heavier 0 = .ok (.bipush (-9), 2) := by decide +kernel
theorem dX5_heavier_2 : decode cX5_heavier 2 = .ok (.istore_n 1, 1) := by decide +kernel
theorem dX5_heavier_3 : decode cX5_heavier 3 = .ok (.bipush (-9), 2) := by decide +kernel
theorem dX5_heavier_5 : decode cX5_heavier 5 = .ok (.istore_n 2, 1) := by decide +kernel
theorem dX5_heavier_6 : decode cX5_heavier 6 = .ok (.iconst 0, 1) := by decide +kernel
theorem dX5_heavier_7 : decode cX5_heavier 7 = .ok (.istore_n 3, 1) := by decide +kernel
theorem dX5_heavier_8 : decode cX5_heavier 8 = .ok (.iload_n 3, 1) := by decide +kernel
theorem dX5_heavier_9 : decode cX5_heavier 9 = .ok (.aload_n 0, 1) := by decide +kernel
theorem dX5_heavier_10 : decode cX5_heavier 10 = .ok (.getfield 10, 3) := by decide +kernel
theorem dX5_heavier_13 : decode cX5_heavier 13 = .ok (.getfield 126, 3) := by decide +kernel
theorem dX5_heavier_16 : decode cX5_heavier 16 = .ok (.if_icmp .ge 52, 3) := by decide +kernel
theorem dX5_heavier_19 : decode cX5_heavier 19 = .ok (.aload_n 0, 1) := by decide +kernel
theorem dX5_heavier_20 : decode cX5_heavier 20 = .ok (.getfield 10, 3) := by decide +kernel
theorem dX5_heavier_23 : decode cX5_heavier 23 = .ok (.getfield 173, 3) := by decide +kernel
theorem dX5_heavier_26 : decode cX5_heavier 26 = .ok (.iload_n 3, 1) := by decide +kernel
theorem dX5_heavier_27 : decode cX5_heavier 27 = .ok (.iaload, 1) := by decide +kernel
theorem dX5_heavier_28 : decode cX5_heavier 28 = .ok (.bipush 9, 2) := by decide +kernel
theorem dX5_heavier_30 : decode cX5_heavier 30 = .ok (.if_icmp .ge 32, 3) := by decide +kernel
theorem dX5_heavier_33 : decode cX5_heavier 33 = .ok (.aload_n 0, 1) := by decide +kernel
theorem dX5_heavier_34 : decode cX5_heavier 34 = .ok (.iload_n 3, 1) := by decide +kernel
theorem dX5_heavier_35 : decode cX5_heavier 35 = .ok (.aload_n 0, 1) := by decide +kernel
theorem dX5_heavier_36 : decode cX5_heavier 36 = .ok (.getfield 10, 3) := by decide +kernel
theorem dX5_heavier_39 : decode cX5_heavier 39 = .ok (.getfield 173, 3) := by decide +kernel
theorem dX5_heavier_42 : decode cX5_heavier 42 = .ok (.iload_n 3, 1) := by decide +kernel
theorem dX5_heavier_43 : decode cX5_heavier 43 = .ok (.iaload, 1) := by decide +kernel
theorem dX5_heavier_44 : decode cX5_heavier 44 = .ok (.iconst 1, 1) := by decide +kernel
theorem dX5_heavier_45 : decode cX5_heavier 45 = .ok (.iadd, 1) := by decide +kernel
theorem dX5_heavier_46 : decode cX5_heavier 46 = .ok (.invokevirtual 176, 3) := by decide +kernel
theorem dX5_heavier_49 : decode cX5_heavier 49 = .ok (.istore 4, 2) := by decide +kernel
theorem dX5_heavier_51 : decode cX5_heavier 51 = .ok (.iload 4, 2) := by decide +kernel
theorem dX5_heavier_53 : decode cX5_heavier 53 = .ok (.iload_n 2, 1) := by decide +kernel
theorem dX5_heavier_54 : decode cX5_heavier 54 = .ok (.if_icmp .le 8, 3) := by decide +kernel
theorem dX5_heavier_57 : decode cX5_heavier 57 = .ok (.iload_n 3, 1) := by decide +kernel
theorem dX5_heavier_58 : decode cX5_heavier 58 = .ok (.istore_n 1, 1) := by decide +kernel
theorem dX5_heavier_59 : decode cX5_heavier 59 = .ok (.iload 4, 2) := by decide +kernel
theorem dX5_heavier_61 : decode cX5_heavier 61 = .ok (.istore_n 2, 1) := by decide +kernel
theorem dX5_heavier_62 : decode cX5_heavier 62 = .ok (.iinc 3 1, 3) := by decide +kernel
theorem dX5_heavier_65 : decode cX5_heavier 65 = .ok (.goto (-57), 3) := by decide +kernel
theorem dX5_heavier_68 : decode cX5_heavier 68 = .ok (.iload_n 1, 1) := by decide +kernel
theorem dX5_heavier_69 : decode cX5_heavier 69 = .ok (.ireturn, 1) := by decide +kernel
theorem dX5_heirs_0 : decode cX5_heirs 0 = .ok (.aload_n 0, 1) := by decide +kernel
theorem dX5_heirs_1 : decode cX5_heirs 1 = .ok (.aload_n 0, 1) := by decide +kernel
theorem dX5_heirs_2 : decode cX5_heirs 2 = .ok (.getfield 10, 3) := by decide +kernel
theorem dX5_heirs_5 : decode cX5_heirs 5 = .ok (.iload_n 1, 1) := by decide +kernel
theorem dX5_heirs_6 : decode cX5_heirs 6 = .ok (.invokevirtual 107, 3) := by decide +kernel
theorem dX5_heirs_9 : decode cX5_heirs 9 = .ok (.invokevirtual 64, 3) := by decide +kernel
theorem dX5_heirs_12 : decode cX5_heirs 12 = .ok (.ireturn, 1) := by decide +kernel
theorem dX5_house_0 : decode cX5_house 0 = .ok (.aload_n 0, 1) := by decide +kernel
theorem dX5_house_1 : decode cX5_house 1 = .ok (.getfield 29, 3) := by decide +kernel
theorem dX5_house_4 : decode cX5_house 4 = .ok (.aload_n 0, 1) := by decide +kernel
theorem dX5_house_5 : decode cX5_house 5 = .ok (.invokevirtual 67, 3) := by decide +kernel
theorem dX5_house_8 : decode cX5_house 8 = .ok (.invokevirtual 71, 3) := by decide +kernel
theorem dX5_house_11 : decode cX5_house 11 = .ok (.istore_n 1, 1) := by decide +kernel
theorem dX5_house_12 : decode cX5_house 12 = .ok (.aload_n 0, 1) := by decide +kernel
theorem dX5_house_13 : decode cX5_house 13 = .ok (.getfield 29, 3) := by decide +kernel
theorem dX5_house_16 : decode cX5_house 16 = .ok (.invokevirtual 75, 3) := by decide +kernel
theorem dX5_house_19 : decode cX5_house 19 = .ok (.iload_n 1, 1) := by decide +kernel
theorem dX5_house_20 : decode cX5_house 20 = .ok (.ifCond .lt 14, 3) := by decide +kernel
theorem dX5_house_23 : decode cX5_house 23 = .ok (.aload_n 0, 1) := by decide +kernel
theorem dX5_house_24 : decode cX5_house 24 = .ok (.getfield 10, 3) := by decide +kernel
theorem dX5_house_27 : decode cX5_house 27 = .ok (.aload_n 0, 1) := by decide +kernel
theorem dX5_house_28 : decode cX5_house 28 = .ok (.getfield 16, 3) := by decide +kernel
theorem dX5_house_31 : decode cX5_house 31 = .ok (.invokevirtual 78, 3) := by decide +kernel
theorem dX5_house_34 : decode cX5_house 34 = .ok (.iload_n 1, 1) := by decide +kernel
theorem dX5_house_35 : decode cX5_house 35 = .ok (.ireturn, 1) := by decide +kernel
theorem dX5_image_0 : decode cX5_image 0 = .ok (.aload_n 0, 1) := by decide +kernel
theorem dX5_image_1 : decode cX5_image 1 = .ok (.getfield 19, 3) := by decide +kernel
theorem dX5_image_4 : decode cX5_image 4 = .ok (.aload_n 0, 1) := by decide +kernel
theorem dX5_image_5 : decode cX5_image 5 = .ok (.getfield 10, 3) := by decide +kernel
theorem dX5_image_8 : decode cX5_image 8 = .ok (.invokevirtual 78, 3) := by decide +kernel
theorem dX5_image_11 : decode cX5_image 11 = .ok (.aload_n 0, 1) := by decide +kernel
theorem dX5_image_12 : decode cX5_image 12 = .ok (.iconst 1, 1) := by decide +kernel
theorem dX5_image_13 : decode cX5_image 13 = .ok (.putfield 22, 3) := by decide +kernel
theorem dX5_image_16 : decode cX5_image 16 = .ok (.aload_n 0, 1) := by decide +kernel
theorem dX5_image_17 : decode cX5_image 17 = .ok (.getfield 10, 3) := by decide +kernel
theorem dX5_image_20 : decode cX5_image 20 = .ok (.getfield 224, 3) := by decide +kernel
theorem dX5_image_23 : decode cX5_image 23 = .ok (.ireturn, 1) := by decide +kernel
theorem dX5_init_0 : decode cX5_init 0 = .ok (.aload_n 0, 1) := by decide +kernel
theorem dX5_init_1 : decode cX5_init 1 = .ok (.invokespecial 1, 3) := by decide +kernel
theorem dX5_init_4 : decode cX5_init 4 = .ok (.aload_n 0, 1) := by decide +kernel
theorem dX5_init_5 : decode cX5_init 5 = .ok (.new 7, 3) := by decide +kernel
theorem dX5_init_8 : decode cX5_init 8 = .ok (.dup, 1) := by decide +kernel
theorem dX5_init_9 : decode cX5_init 9 = .ok (.invokespecial 9, 3) := by decide +kernel
theorem dX5_init_12 : decode cX5_init 12 = .ok (.putfield 10, 3) := by decide +kernel
theorem dX5_init_15 : decode cX5_init 15 = .ok (.aload_n 0, 1) := by decide +kernel
theorem dX5_init_16 : decode cX5_init 16 = .ok (.new 7, 3) := by decide +kernel
theorem dX5_init_19 : decode cX5_init 19 = .ok (.dup, 1) := by decide +kernel
theorem dX5_init_20 : decode cX5_init 20 = .ok (.invokespecial 9, 3) := by decide +kernel
theorem dX5_init_23 : decode cX5_init 23 = .ok (.putfield 16, 3) := by decide +kernel
theorem dX5_init_26 : decode cX5_init 26 = .ok (.aload_n 0, 1) := by decide +kernel
theorem dX5_init_27 : decode cX5_init 27 = .ok (.new 7, 3) := by decide +kernel
theorem dX5_init_30 : decode cX5_init 30 = .ok (.dup, 1) := by decide +kernel
theorem dX5_init_31 : decode cX5_init 31 = .ok (.invokespecial 9, 3) := by decide +kernel
theorem dX5_init_34 : decode cX5_init 34 = .ok (.putfield 19, 3) := by decide +kernel
theorem dX5_init_37 : decode cX5_init 37 = .ok (.aload_n 0, 1) := by decide +kernel
theorem dX5_init_38 : decode cX5_init 38 = .ok (.iconst 0, 1) := by decide +kernel
theorem dX5_init_39 : decode cX5_init 39 = .ok (.putfield 22, 3) := by decide +kernel
theorem dX5_init_42 : decode cX5_init 42 = .ok (.aload_n 0, 1) := by decide +kernel
theorem dX5_init_43 : decode cX5_init 43 = .ok (.new 26, 3) := by decide +kernel
theorem dX5_init_46 : decode cX5_init 46 = .ok (.dup, 1) := by decide +kernel
theorem dX5_init_47 : decode cX5_init 47 = .ok (.invokespecial 28, 3) := by decide +kernel
theorem dX5_init_50 : decode cX5_init 50 = .ok (.putfield 29, 3) := by decide +kernel
theorem dX5_init_53 : decode cX5_init 53 = .ok (.aload_n 0, 1) := by decide +kernel
theorem dX5_init_54 : decode cX5_init 54 = .ok (.new 33, 3) := by decide +kernel
theorem dX5_init_57 : decode cX5_init 57 = .ok (.dup, 1) := by decide +kernel
theorem dX5_init_58 : decode cX5_init 58 = .ok (.invokespecial 35, 3) := by decide +kernel
theorem dX5_init_61 : decode cX5_init 61 = .ok (.putfield 36, 3) := by decide +kernel
theorem dX5_init_64 : decode cX5_init 64 = .ok (.aload_n 0, 1) := by decide +kernel
theorem dX5_init_65 : decode cX5_init 65 = .ok (.new 40, 3) := by decide +kernel
theorem dX5_init_68 : decode cX5_init 68 = .ok (.dup, 1) := by decide +kernel
theorem dX5_init_69 : decode cX5_init 69 = .ok (.aload_n 0, 1) := by decide +kernel
theorem dX5_init_70 : decode cX5_init 70 = .ok (.getfield 16, 3) := by decide +kernel
theorem dX5_init_73 : decode cX5_init 73 = .ok (.invokespecial 42, 3) := by decide +kernel
theorem dX5_init_76 : decode cX5_init 76 = .ok (.putfield 45, 3) := by decide +kernel
theorem dX5_init_79 : decode cX5_init 79 = .ok (.aload_n 0, 1) := by decide +kernel
theorem dX5_init_80 : decode cX5_init 80 = .ok (.new 49, 3) := by decide +kernel
theorem dX5_init_83 : decode cX5_init 83 = .ok (.dup, 1) := by decide +kernel
theorem dX5_init_84 : decode cX5_init 84 = .ok (.invokespecial 51, 3) := by decide +kernel
theorem dX5_init_87 : decode cX5_init 87 = .ok (.putfield 52, 3) := by decide +kernel
theorem dX5_init_90 : decode cX5_init 90 = .ok (.aload_n 0, 1) := by decide +kernel
theorem dX5_init_91 : decode cX5_init 91 = .ok (.bipush 7, 2) := by decide +kernel
theorem dX5_init_93 : decode cX5_init 93 = .ok (.newarray .int, 2) := by decide +kernel
theorem dX5_init_95 : decode cX5_init 95 = .ok (.putfield 56, 3) := by decide +kernel
theorem dX5_init_98 : decode cX5_init 98 = .ok (.return_, 1) := by decide +kernel
theorem dX5_innocent_0 : decode cX5_innocent 0 = .ok (.aload_n 0, 1) := by decide +kernel
theorem dX5_innocent_1 : decode cX5_innocent 1 = .ok (.getfield 10, 3) := by decide +kernel
theorem dX5_innocent_4 : decode cX5_innocent 4 = .ok (.getfield 126, 3) := by decide +kernel
theorem dX5_innocent_7 : decode cX5_innocent 7 = .ok (.iconst 5, 1) := by decide +kernel
theorem dX5_innocent_8 : decode cX5_innocent 8 = .ok (.if_icmp .le 10, 3) := by decide +kernel
theorem dX5_innocent_11 : decode cX5_innocent 11 = .ok (.aload_n 0, 1) := by decide +kernel
theorem dX5_innocent_12 : decode cX5_innocent 12 = .ok (.bipush (-3), 2) := by decide +kernel
theorem dX5_innocent_14 : decode cX5_innocent 14 = .ok (.invokevirtual 64, 3) := by decide +kernel
theorem dX5_innocent_17 : decode cX5_innocent 17 = .ok (.ireturn, 1) := by decide +kernel
theorem dX5_innocent_18 : decode cX5_innocent 18 = .ok (.aload_n 0, 1) := by decide +kernel
theorem dX5_innocent_19 : decode cX5_innocent 19 = .ok (.invokevirtual 67, 3) := by decide +kernel
theorem dX5_innocent_22 : decode cX5_innocent 22 = .ok (.pop, 1) := by decide +kernel
theorem dX5_innocent_23 : decode cX5_innocent 23 = .ok (.aload_n 0, 1) := by decide +kernel
theorem dX5_innocent_24 : decode cX5_innocent 24 = .ok (.getfield 45, 3) := by decide +kernel
theorem dX5_innocent_27 : decode cX5_innocent 27 = .ok (.bipush 63, 2) := by decide +kernel
theorem dX5_innocent_29 : decode cX5_innocent 29 = .ok (.iconst 1, 1) := by decide +kernel
theorem dX5_innocent_30 : decode cX5_innocent 30 = .ok (.invokevirtual 130, 3) := by decide +kernel
theorem dX5_innocent_33 : decode cX5_innocent 33 = .ok (.istore_n 1, 1) := by decide +kernel
theorem dX5_innocent_34 : decode cX5_innocent 34 = .ok (.iload_n 1, 1) := by decide +kernel
theorem dX5_innocent_35 : decode cX5_innocent 35 = .ok (.bipush (-9), 2) := by decide +kernel
theorem dX5_innocent_37 : decode cX5_innocent 37 = .ok (.if_icmp .ne 8, 3) := by decide +kernel
theorem dX5_innocent_40 : decode cX5_innocent 40 = .ok (.bipush (-9), 2) := by decide +kernel
theorem dX5_innocent_42 : decode cX5_innocent 42 = .ok (.goto 7, 3) := by decide +kernel
theorem dX5_innocent_45 : decode cX5_innocent 45 = .ok (.bipush 6, 2) := by decide +kernel
theorem dX5_innocent_47 : decode cX5_innocent 47 = .ok (.iload_n 1, 1) := by decide +kernel
theorem dX5_innocent_48 : decode cX5_innocent 48 = .ok (.isub, 1) := by decide +kernel
theorem dX5_innocent_49 : decode cX5_innocent 49 = .ok (.ireturn, 1) := by decide +kernel
theorem dX5_isAllOrOneOf_0 : decode cX5_isAllOrOneOf 0 = .ok (.iload_n 0, 1) := by decide +kernel
theorem dX5_isAllOrOneOf_1 : decode cX5_isAllOrOneOf 1 = .ok (.iconst (-1), 1) := by decide +kernel
theorem dX5_isAllOrOneOf_2 : decode cX5_isAllOrOneOf 2 = .ok (.if_icmp .lt 12, 3) := by decide +kernel
theorem dX5_isAllOrOneOf_5 : decode cX5_isAllOrOneOf 5 = .ok (.iload_n 0, 1) := by decide +kernel
theorem dX5_isAllOrOneOf_6 : decode cX5_isAllOrOneOf 6 = .ok (.iload_n 1, 1) := by decide +kernel
theorem dX5_isAllOrOneOf_7 : decode cX5_isAllOrOneOf 7 = .ok (.if_icmp .ge 7, 3) := by decide +kernel
theorem dX5_isAllOrOneOf_10 : decode cX5_isAllOrOneOf 10 = .ok (.iconst 1, 1) := by decide +kernel
theorem dX5_isAllOrOneOf_11 : decode cX5_isAllOrOneOf 11 = .ok (.goto 4, 3) := by decide +kernel
theorem dX5_isAllOrOneOf_14 : decode cX5_isAllOrOneOf 14 = .ok (.iconst 0, 1) := by decide +kernel
theorem dX5_isAllOrOneOf_15 : decode cX5_isAllOrOneOf 15 = .ok (.ireturn, 1) := by decide +kernel
theorem dX5_isPlace_0 : decode cX5_isPlace 0 = .ok (.iload_n 0, 1) := by decide +kernel
theorem dX5_isPlace_1 : decode cX5_isPlace 1 = .ok (.invokestatic 198, 3) := by decide +kernel
theorem dX5_isPlace_4 : decode cX5_isPlace 4 = .ok (.ifCond .ne 9, 3) := by decide +kernel
theorem dX5_isPlace_7 : decode cX5_isPlace 7 = .ok (.iload_n 0, 1) := by decide +kernel
theorem dX5_isPlace_8 : decode cX5_isPlace 8 = .ok (.bipush 9, 2) := by decide +kernel
theorem dX5_isPlace_10 : decode cX5_isPlace 10 = .ok (.if_icmp .ne 7, 3) := by decide +kernel
theorem dX5_isPlace_13 : decode cX5_isPlace 13 = .ok (.iconst 1, 1) := by decide +kernel
theorem dX5_isPlace_14 : decode cX5_isPlace 14 = .ok (.goto 4, 3) := by decide +kernel
theorem dX5_isPlace_17 : decode cX5_isPlace 17 = .ok (.iconst 0, 1) := by decide +kernel
theorem dX5_isPlace_18 : decode cX5_isPlace 18 = .ok (.ireturn, 1) := by decide +kernel
theorem dX5_isRoom_0 : decode cX5_isRoom 0 = .ok (.iload_n 0, 1) := by decide +kernel
theorem dX5_isRoom_1 : decode cX5_isRoom 1 = .ok (.ifCond .lt 13, 3) := by decide +kernel
theorem dX5_isRoom_4 : decode cX5_isRoom 4 = .ok (.iload_n 0, 1) := by decide +kernel
theorem dX5_isRoom_5 : decode cX5_isRoom 5 = .ok (.bipush 6, 2) := by decide +kernel
theorem dX5_isRoom_7 : decode cX5_isRoom 7 = .ok (.if_icmp .ge 7, 3) := by decide +kernel
theorem dX5_isRoom_10 : decode cX5_isRoom 10 = .ok (.iconst 1, 1) := by decide +kernel
theorem dX5_isRoom_11 : decode cX5_isRoom 11 = .ok (.goto 4, 3) := by decide +kernel
theorem dX5_isRoom_14 : decode cX5_isRoom 14 = .ok (.iconst 0, 1) := by decide +kernel
theorem dX5_isRoom_15 : decode cX5_isRoom 15 = .ok (.ireturn, 1) := by decide +kernel
theorem dX5_judge_0 : decode cX5_judge 0 = .ok (.aload_n 0, 1) := by decide +kernel
theorem dX5_judge_1 : decode cX5_judge 1 = .ok (.getfield 36, 3) := by decide +kernel
theorem dX5_judge_4 : decode cX5_judge 4 = .ok (.aload_n 0, 1) := by decide +kernel
theorem dX5_judge_5 : decode cX5_judge 5 = .ok (.invokevirtual 67, 3) := by decide +kernel
theorem dX5_judge_8 : decode cX5_judge 8 = .ok (.invokevirtual 214, 3) := by decide +kernel
theorem dX5_judge_11 : decode cX5_judge 11 = .ok (.istore_n 1, 1) := by decide +kernel
theorem dX5_judge_12 : decode cX5_judge 12 = .ok (.aload_n 0, 1) := by decide +kernel
theorem dX5_judge_13 : decode cX5_judge 13 = .ok (.getfield 36, 3) := by decide +kernel
theorem dX5_judge_16 : decode cX5_judge 16 = .ok (.invokevirtual 217, 3) := by decide +kernel
theorem dX5_judge_19 : decode cX5_judge 19 = .ok (.iload_n 1, 1) := by decide +kernel
theorem dX5_judge_20 : decode cX5_judge 20 = .ok (.ireturn, 1) := by decide +kernel
theorem dX5_later_0 : decode cX5_later 0 = .ok (.iload_n 1, 1) := by decide +kernel
theorem dX5_later_1 : decode cX5_later 1 = .ok (.iconst 0, 1) := by decide +kernel
theorem dX5_later_2 : decode cX5_later 2 = .ok (.sipush 200, 3) := by decide +kernel
theorem dX5_later_5 : decode cX5_later 5 = .ok (.invokestatic 179, 3) := by decide +kernel
theorem dX5_later_8 : decode cX5_later 8 = .ok (.istore_n 2, 1) := by decide +kernel
theorem dX5_later_9 : decode cX5_later 9 = .ok (.iload_n 2, 1) := by decide +kernel
theorem dX5_later_10 : decode cX5_later 10 = .ok (.ifCond .eq 9, 3) := by decide +kernel
theorem dX5_later_13 : decode cX5_later 13 = .ok (.aload_n 0, 1) := by decide +kernel
theorem dX5_later_14 : decode cX5_later 14 = .ok (.iload_n 2, 1) := by decide +kernel
theorem dX5_later_15 : decode cX5_later 15 = .ok (.invokevirtual 64, 3) := by decide +kernel
theorem dX5_later_18 : decode cX5_later 18 = .ok (.ireturn, 1) := by decide +kernel
theorem dX5_later_19 : decode cX5_later 19 = .ok (.aload_n 0, 1) := by decide +kernel
theorem dX5_later_20 : decode cX5_later 20 = .ok (.invokevirtual 67, 3) := by decide +kernel
theorem dX5_later_23 : decode cX5_later 23 = .ok (.astore_n 3, 1) := by decide +kernel
theorem dX5_later_24 : decode cX5_later 24 = .ok (.iconst 0, 1) := by decide +kernel
theorem dX5_later_25 : decode cX5_later 25 = .ok (.istore 4, 2) := by decide +kernel
theorem dX5_later_27 : decode cX5_later 27 = .ok (.iload 4, 2) := by decide +kernel
theorem dX5_later_29 : decode cX5_later 29 = .ok (.iload_n 1, 1) := by decide +kernel
theorem dX5_later_30 : decode cX5_later 30 = .ok (.if_icmp .ge 13, 3) := by decide +kernel
theorem dX5_later_33 : decode cX5_later 33 = .ok (.aload_n 3, 1) := by decide +kernel
theorem dX5_later_34 : decode cX5_later 34 = .ok (.invokevirtual 183, 3) := by decide +kernel
theorem dX5_later_37 : decode cX5_later 37 = .ok (.iinc 4 1, 3) := by decide +kernel
theorem dX5_later_40 : decode cX5_later 40 = .ok (.goto (-13), 3) := by decide +kernel
theorem dX5_later_43 : decode cX5_later 43 = .ok (.aload_n 3, 1) := by decide +kernel
theorem dX5_later_44 : decode cX5_later 44 = .ok (.invokevirtual 113, 3) := by decide +kernel
theorem dX5_later_47 : decode cX5_later 47 = .ok (.ireturn, 1) := by decide +kernel
theorem dX5_lesserOfBothFaults_0 : decode cX5_lesserOfBothFaults 0 = .ok (.iconst 0, 1) := by decide +kernel
theorem dX5_lesserOfBothFaults_1 : decode cX5_lesserOfBothFaults 1 = .ok (.istore_n 3, 1) := by decide +kernel
theorem dX5_lesserOfBothFaults_2 : decode cX5_lesserOfBothFaults 2 = .ok (.iconst 0, 1) := by decide +kernel
theorem dX5_lesserOfBothFaults_3 : decode cX5_lesserOfBothFaults 3 = .ok (.istore 4, 2) := by decide +kernel
theorem dX5_lesserOfBothFaults_5 : decode cX5_lesserOfBothFaults 5 = .ok (.iload 4, 2) := by decide +kernel
theorem dX5_lesserOfBothFaults_7 : decode cX5_lesserOfBothFaults 7 = .ok (.bipush 9, 2) := by decide +kernel
theorem dX5_lesserOfBothFaults_9 : decode cX5_lesserOfBothFaults 9 = .ok (.if_icmp .gt 23, 3) := by decide +kernel
theorem dX5_lesserOfBothFaults_12 : decode cX5_lesserOfBothFaults 12 = .ok (.aload_n 0, 1) := by decide +kernel
theorem dX5_lesserOfBothFaults_13 : decode cX5_lesserOfBothFaults 13 = .ok (.iload_n 1, 1) := by decide +kernel
theorem dX5_lesserOfBothFaults_14 : decode cX5_lesserOfBothFaults 14 = .ok (.iload 4, 2) := by decide +kernel
theorem dX5_lesserOfBothFaults_16 : decode cX5_lesserOfBothFaults 16 = .ok (.invokevirtual 176, 3) := by decide +kernel
theorem dX5_lesserOfBothFaults_19 : decode cX5_lesserOfBothFaults 19 = .ok (.iload_n 2, 1) := by decide +kernel
theorem dX5_lesserOfBothFaults_20 : decode cX5_lesserOfBothFaults 20 = .ok (.if_icmp .ge 6, 3) := by decide +kernel
theorem dX5_lesserOfBothFaults_23 : decode cX5_lesserOfBothFaults 23 = .ok (.iinc 3 1, 3) := by decide +kernel
theorem dX5_lesserOfBothFaults_26 : decode cX5_lesserOfBothFaults 26 = .ok (.iinc 4 1, 3) := by decide +kernel
theorem dX5_lesserOfBothFaults_29 : decode cX5_lesserOfBothFaults 29 = .ok (.goto (-24), 3) := by decide +kernel
theorem dX5_lesserOfBothFaults_32 : decode cX5_lesserOfBothFaults 32 = .ok (.iload_n 3, 1) := by decide +kernel
theorem dX5_lesserOfBothFaults_33 : decode cX5_lesserOfBothFaults 33 = .ok (.bipush 10, 2) := by decide +kernel
theorem dX5_lesserOfBothFaults_35 : decode cX5_lesserOfBothFaults 35 = .ok (.iload_n 3, 1) := by decide +kernel
theorem dX5_lesserOfBothFaults_36 : decode cX5_lesserOfBothFaults 36 = .ok (.isub, 1) := by decide +kernel
theorem dX5_lesserOfBothFaults_37 : decode cX5_lesserOfBothFaults 37 = .ok (.invokestatic 245, 3) := by decide +kernel
theorem dX5_lesserOfBothFaults_40 : decode cX5_lesserOfBothFaults 40 = .ok (.ireturn, 1) := by decide +kernel
theorem dX5_letter_0 : decode cX5_letter 0 = .ok (.aload_n 0, 1) := by decide +kernel
theorem dX5_letter_1 : decode cX5_letter 1 = .ok (.aload_n 0, 1) := by decide +kernel
theorem dX5_letter_2 : decode cX5_letter 2 = .ok (.getfield 29, 3) := by decide +kernel
theorem dX5_letter_5 : decode cX5_letter 5 = .ok (.iload_n 1, 1) := by decide +kernel
theorem dX5_letter_6 : decode cX5_letter 6 = .ok (.invokevirtual 60, 3) := by decide +kernel
theorem dX5_letter_9 : decode cX5_letter 9 = .ok (.invokevirtual 64, 3) := by decide +kernel
theorem dX5_letter_12 : decode cX5_letter 12 = .ok (.ireturn, 1) := by decide +kernel
theorem dX5_lots_0 : decode cX5_lots 0 = .ok (.iload_n 1, 1) := by decide +kernel
theorem dX5_lots_1 : decode cX5_lots 1 = .ok (.iconst 1, 1) := by decide +kernel
theorem dX5_lots_2 : decode cX5_lots 2 = .ok (.bipush 20, 2) := by decide +kernel
theorem dX5_lots_4 : decode cX5_lots 4 = .ok (.invokestatic 179, 3) := by decide +kernel
theorem dX5_lots_7 : decode cX5_lots 7 = .ok (.istore_n 3, 1) := by decide +kernel
theorem dX5_lots_8 : decode cX5_lots 8 = .ok (.iload_n 3, 1) := by decide +kernel
theorem dX5_lots_9 : decode cX5_lots 9 = .ok (.ifCond .eq 9, 3) := by decide +kernel
theorem dX5_lots_12 : decode cX5_lots 12 = .ok (.aload_n 0, 1) := by decide +kernel
theorem dX5_lots_13 : decode cX5_lots 13 = .ok (.iload_n 3, 1) := by decide +kernel
theorem dX5_lots_14 : decode cX5_lots 14 = .ok (.invokevirtual 64, 3) := by decide +kernel
theorem dX5_lots_17 : decode cX5_lots 17 = .ok (.ireturn, 1) := by decide +kernel
theorem dX5_lots_18 : decode cX5_lots 18 = .ok (.aload_n 0, 1) := by decide +kernel
theorem dX5_lots_19 : decode cX5_lots 19 = .ok (.invokevirtual 67, 3) := by decide +kernel
theorem dX5_lots_22 : decode cX5_lots 22 = .ok (.astore 4, 2) := by decide +kernel
theorem dX5_lots_24 : decode cX5_lots 24 = .ok (.iload_n 2, 1) := by decide +kernel
theorem dX5_lots_25 : decode cX5_lots 25 = .ok (.istore 5, 2) := by decide +kernel
theorem dX5_lots_27 : decode cX5_lots 27 = .ok (.iconst 0, 1) := by decide +kernel
theorem dX5_lots_28 : decode cX5_lots 28 = .ok (.istore 6, 2) := by decide +kernel
theorem dX5_lots_30 : decode cX5_lots 30 = .ok (.iconst 0, 1) := by decide +kernel
theorem dX5_lots_31 : decode cX5_lots 31 = .ok (.istore 7, 2) := by decide +kernel
theorem dX5_lots_33 : decode cX5_lots 33 = .ok (.iload 7, 2) := by decide +kernel
theorem dX5_lots_35 : decode cX5_lots 35 = .ok (.iload_n 1, 1) := by decide +kernel
theorem dX5_lots_36 : decode cX5_lots 36 = .ok (.if_icmp .ge 65, 3) := by decide +kernel
theorem dX5_lots_39 : decode cX5_lots 39 = .ok (.iconst 0, 1) := by decide +kernel
theorem dX5_lots_40 : decode cX5_lots 40 = .ok (.istore 8, 2) := by decide +kernel
theorem dX5_lots_42 : decode cX5_lots 42 = .ok (.iload 8, 2) := by decide +kernel
theorem dX5_lots_44 : decode cX5_lots 44 = .ok (.aload 4, 2) := by decide +kernel
theorem dX5_lots_46 : decode cX5_lots 46 = .ok (.getfield 126, 3) := by decide +kernel
theorem dX5_lots_49 : decode cX5_lots 49 = .ok (.if_icmp .ge 31, 3) := by decide +kernel
theorem dX5_lots_52 : decode cX5_lots 52 = .ok (.iload 5, 2) := by decide +kernel
theorem dX5_lots_54 : decode cX5_lots 54 = .ok (.invokestatic 218, 3) := by decide +kernel
theorem dX5_lots_57 : decode cX5_lots 57 = .ok (.istore 5, 2) := by decide +kernel
theorem dX5_lots_59 : decode cX5_lots 59 = .ok (.aload 4, 2) := by decide +kernel
theorem dX5_lots_61 : decode cX5_lots 61 = .ok (.getfield 204, 3) := by decide +kernel
theorem dX5_lots_64 : decode cX5_lots 64 = .ok (.iload 8, 2) := by decide +kernel
theorem dX5_lots_66 : decode cX5_lots 66 = .ok (.bipush 6, 2) := by decide +kernel
theorem dX5_lots_68 : decode cX5_lots 68 = .ok (.iload 5, 2) := by decide +kernel
theorem dX5_lots_70 : decode cX5_lots 70 = .ok (.invokestatic 221, 3) := by decide +kernel
theorem dX5_lots_73 : decode cX5_lots 73 = .ok (.iastore, 1) := by decide +kernel
theorem dX5_lots_74 : decode cX5_lots 74 = .ok (.iinc 8 1, 3) := by decide +kernel
theorem dX5_lots_77 : decode cX5_lots 77 = .ok (.goto (-35), 3) := by decide +kernel
theorem dX5_lots_80 : decode cX5_lots 80 = .ok (.iload 6, 2) := by decide +kernel
theorem dX5_lots_82 : decode cX5_lots 82 = .ok (.aload 4, 2) := by decide +kernel
theorem dX5_lots_84 : decode cX5_lots 84 = .ok (.aload 4, 2) := by decide +kernel
theorem dX5_lots_86 : decode cX5_lots 86 = .ok (.invokevirtual 120, 3) := by decide +kernel
theorem dX5_lots_89 : decode cX5_lots 89 = .ok (.invokevirtual 117, 3) := by decide +kernel
theorem dX5_lots_92 : decode cX5_lots 92 = .ok (.iadd, 1) := by decide +kernel
theorem dX5_lots_93 : decode cX5_lots 93 = .ok (.istore 6, 2) := by decide +kernel
theorem dX5_lots_95 : decode cX5_lots 95 = .ok (.iinc 7 1, 3) := by decide +kernel
theorem dX5_lots_98 : decode cX5_lots 98 = .ok (.goto (-65), 3) := by decide +kernel
theorem dX5_lots_101 : decode cX5_lots 101 = .ok (.iload 6, 2) := by decide +kernel
theorem dX5_lots_103 : decode cX5_lots 103 = .ok (.ireturn, 1) := by decide +kernel
theorem dX5_nextSeed_0 : decode cX5_nextSeed 0 = .ok (.iload_n 0, 1) := by decide +kernel
theorem dX5_nextSeed_1 : decode cX5_nextSeed 1 = .ok (.ldc 250, 2) := by decide +kernel
theorem dX5_nextSeed_3 : decode cX5_nextSeed 3 = .ok (.imul, 1) := by decide +kernel
theorem dX5_nextSeed_4 : decode cX5_nextSeed 4 = .ok (.ldc 251, 2) := by decide +kernel
theorem dX5_nextSeed_6 : decode cX5_nextSeed 6 = .ok (.iadd, 1) := by decide +kernel
theorem dX5_nextSeed_7 : decode cX5_nextSeed 7 = .ok (.ireturn, 1) := by decide +kernel
theorem dX5_on_0 : decode cX5_on 0 = .ok (.aload_n 0, 1) := by decide +kernel
theorem dX5_on_1 : decode cX5_on 1 = .ok (.getfield 22, 3) := by decide +kernel
theorem dX5_on_4 : decode cX5_on 4 = .ok (.ifCond .ne 10, 3) := by decide +kernel
theorem dX5_on_7 : decode cX5_on 7 = .ok (.aload_n 0, 1) := by decide +kernel
theorem dX5_on_8 : decode cX5_on 8 = .ok (.bipush (-3), 2) := by decide +kernel
theorem dX5_on_10 : decode cX5_on 10 = .ok (.invokevirtual 64, 3) := by decide +kernel
theorem dX5_on_13 : decode cX5_on 13 = .ok (.ireturn, 1) := by decide +kernel
theorem dX5_on_14 : decode cX5_on 14 = .ok (.aload_n 0, 1) := by decide +kernel
theorem dX5_on_15 : decode cX5_on 15 = .ok (.getfield 10, 3) := by decide +kernel
theorem dX5_on_18 : decode cX5_on 18 = .ok (.aload_n 0, 1) := by decide +kernel
theorem dX5_on_19 : decode cX5_on 19 = .ok (.getfield 19, 3) := by decide +kernel
theorem dX5_on_22 : decode cX5_on 22 = .ok (.invokevirtual 78, 3) := by decide +kernel
theorem dX5_on_25 : decode cX5_on 25 = .ok (.aload_n 0, 1) := by decide +kernel
theorem dX5_on_26 : decode cX5_on 26 = .ok (.getfield 10, 3) := by decide +kernel
theorem dX5_on_29 : decode cX5_on 29 = .ok (.getfield 224, 3) := by decide +kernel
theorem dX5_on_32 : decode cX5_on 32 = .ok (.ireturn, 1) := by decide +kernel
theorem dX5_piece_0 : decode cX5_piece 0 = .ok (.aload_n 0, 1) := by decide +kernel
theorem dX5_piece_1 : decode cX5_piece 1 = .ok (.aload_n 0, 1) := by decide +kernel
theorem dX5_piece_2 : decode cX5_piece 2 = .ok (.getfield 10, 3) := by decide +kernel
theorem dX5_piece_5 : decode cX5_piece 5 = .ok (.iload_n 1, 1) := by decide +kernel
theorem dX5_piece_6 : decode cX5_piece 6 = .ok (.iload_n 2, 1) := by decide +kernel
theorem dX5_piece_7 : decode cX5_piece 7 = .ok (.invokevirtual 81, 3) := by decide +kernel
theorem dX5_piece_10 : decode cX5_piece 10 = .ok (.invokevirtual 64, 3) := by decide +kernel
theorem dX5_piece_13 : decode cX5_piece 13 = .ok (.ireturn, 1) := by decide +kernel
theorem dX5_placing_0 : decode cX5_placing 0 = .ok (.iload_n 1, 1) := by decide +kernel
theorem dX5_placing_1 : decode cX5_placing 1 = .ok (.iconst 1, 1) := by decide +kernel
theorem dX5_placing_2 : decode cX5_placing 2 = .ok (.if_icmp .lt 8, 3) := by decide +kernel
theorem dX5_placing_5 : decode cX5_placing 5 = .ok (.iload_n 3, 1) := by decide +kernel
theorem dX5_placing_6 : decode cX5_placing 6 = .ok (.iconst (-1), 1) := by decide +kernel
theorem dX5_placing_7 : decode cX5_placing 7 = .ok (.if_icmp .ge 10, 3) := by decide +kernel
theorem dX5_placing_10 : decode cX5_placing 10 = .ok (.aload_n 0, 1) := by decide +kernel
theorem dX5_placing_11 : decode cX5_placing 11 = .ok (.bipush (-4), 2) := by decide +kernel
theorem dX5_placing_13 : decode cX5_placing 13 = .ok (.invokevirtual 64, 3) := by decide +kernel
theorem dX5_placing_16 : decode cX5_placing 16 = .ok (.ireturn, 1) := by decide +kernel
theorem dX5_placing_17 : decode cX5_placing 17 = .ok (.iload_n 1, 1) := by decide +kernel
theorem dX5_placing_18 : decode cX5_placing 18 = .ok (.bipush 63, 2) := by decide +kernel
theorem dX5_placing_20 : decode cX5_placing 20 = .ok (.if_icmp .le 10, 3) := by decide +kernel
theorem dX5_placing_23 : decode cX5_placing 23 = .ok (.aload_n 0, 1) := by decide +kernel
theorem dX5_placing_24 : decode cX5_placing 24 = .ok (.bipush (-6), 2) := by decide +kernel
theorem dX5_placing_26 : decode cX5_placing 26 = .ok (.invokevirtual 64, 3) := by decide +kernel
theorem dX5_placing_29 : decode cX5_placing 29 = .ok (.ireturn, 1) := by decide +kernel
theorem dX5_placing_30 : decode cX5_placing 30 = .ok (.iload_n 2, 1) := by decide +kernel
theorem dX5_placing_31 : decode cX5_placing 31 = .ok (.ifCond .eq 15, 3) := by decide +kernel
theorem dX5_placing_34 : decode cX5_placing 34 = .ok (.iload_n 2, 1) := by decide +kernel
theorem dX5_placing_35 : decode cX5_placing 35 = .ok (.iconst 1, 1) := by decide +kernel
theorem dX5_placing_36 : decode cX5_placing 36 = .ok (.if_icmp .eq 10, 3) := by decide +kernel
theorem dX5_placing_39 : decode cX5_placing 39 = .ok (.aload_n 0, 1) := by decide +kernel
theorem dX5_placing_40 : decode cX5_placing 40 = .ok (.bipush (-2), 2) := by decide +kernel
theorem dX5_placing_42 : decode cX5_placing 42 = .ok (.invokevirtual 64, 3) := by decide +kernel
theorem dX5_placing_45 : decode cX5_placing 45 = .ok (.ireturn, 1) := by decide +kernel
theorem dX5_placing_46 : decode cX5_placing 46 = .ok (.aload_n 0, 1) := by decide +kernel
theorem dX5_placing_47 : decode cX5_placing 47 = .ok (.getfield 10, 3) := by decide +kernel
theorem dX5_placing_50 : decode cX5_placing 50 = .ok (.getfield 126, 3) := by decide +kernel
theorem dX5_placing_53 : decode cX5_placing 53 = .ok (.iconst 5, 1) := by decide +kernel
theorem dX5_placing_54 : decode cX5_placing 54 = .ok (.if_icmp .le 10, 3) := by decide +kernel
theorem dX5_placing_57 : decode cX5_placing 57 = .ok (.aload_n 0, 1) := by decide +kernel
theorem dX5_placing_58 : decode cX5_placing 58 = .ok (.bipush (-3), 2) := by decide +kernel
theorem dX5_placing_60 : decode cX5_placing 60 = .ok (.invokevirtual 64, 3) := by decide +kernel
theorem dX5_placing_63 : decode cX5_placing 63 = .ok (.ireturn, 1) := by decide +kernel
theorem dX5_placing_64 : decode cX5_placing 64 = .ok (.iload_n 3, 1) := by decide +kernel
theorem dX5_placing_65 : decode cX5_placing 65 = .ok (.iconst (-1), 1) := by decide +kernel
theorem dX5_placing_66 : decode cX5_placing 66 = .ok (.if_icmp .eq 20, 3) := by decide +kernel
theorem dX5_placing_69 : decode cX5_placing 69 = .ok (.aload_n 0, 1) := by decide +kernel
theorem dX5_placing_70 : decode cX5_placing 70 = .ok (.getfield 10, 3) := by decide +kernel
theorem dX5_placing_73 : decode cX5_placing 73 = .ok (.iload_n 3, 1) := by decide +kernel
theorem dX5_placing_74 : decode cX5_placing 74 = .ok (.invokevirtual 87, 3) := by decide +kernel
theorem dX5_placing_77 : decode cX5_placing 77 = .ok (.ifCond .ne 9, 3) := by decide +kernel
theorem dX5_placing_80 : decode cX5_placing 80 = .ok (.aload_n 0, 1) := by decide +kernel
theorem dX5_placing_81 : decode cX5_placing 81 = .ok (.iconst (-1), 1) := by decide +kernel
theorem dX5_placing_82 : decode cX5_placing 82 = .ok (.invokevirtual 64, 3) := by decide +kernel
theorem dX5_placing_85 : decode cX5_placing 85 = .ok (.ireturn, 1) := by decide +kernel
theorem dX5_placing_86 : decode cX5_placing 86 = .ok (.aload_n 0, 1) := by decide +kernel
theorem dX5_placing_87 : decode cX5_placing 87 = .ok (.invokevirtual 67, 3) := by decide +kernel
theorem dX5_placing_90 : decode cX5_placing 90 = .ok (.pop, 1) := by decide +kernel
theorem dX5_placing_91 : decode cX5_placing 91 = .ok (.aload_n 0, 1) := by decide +kernel
theorem dX5_placing_92 : decode cX5_placing 92 = .ok (.getfield 45, 3) := by decide +kernel
theorem dX5_placing_95 : decode cX5_placing 95 = .ok (.iload_n 1, 1) := by decide +kernel
theorem dX5_placing_96 : decode cX5_placing 96 = .ok (.iload_n 2, 1) := by decide +kernel
theorem dX5_placing_97 : decode cX5_placing 97 = .ok (.iconst 1, 1) := by decide +kernel
theorem dX5_placing_98 : decode cX5_placing 98 = .ok (.if_icmp .ne 7, 3) := by decide +kernel
theorem dX5_placing_101 : decode cX5_placing 101 = .ok (.iconst 1, 1) := by decide +kernel
theorem dX5_placing_102 : decode cX5_placing 102 = .ok (.goto 4, 3) := by decide +kernel
theorem dX5_placing_105 : decode cX5_placing 105 = .ok (.iconst 0, 1) := by decide +kernel
theorem dX5_placing_106 : decode cX5_placing 106 = .ok (.invokevirtual 130, 3) := by decide +kernel
theorem dX5_placing_109 : decode cX5_placing 109 = .ok (.istore 4, 2) := by decide +kernel
theorem dX5_placing_111 : decode cX5_placing 111 = .ok (.iload_n 3, 1) := by decide +kernel
theorem dX5_placing_112 : decode cX5_placing 112 = .ok (.iconst (-1), 1) := by decide +kernel
theorem dX5_placing_113 : decode cX5_placing 113 = .ok (.if_icmp .eq 10, 3) := by decide +kernel
theorem dX5_placing_116 : decode cX5_placing 116 = .ok (.iload 4, 2) := by decide +kernel
theorem dX5_placing_118 : decode cX5_placing 118 = .ok (.bipush (-9), 2) := by decide +kernel
theorem dX5_placing_120 : decode cX5_placing 120 = .ok (.if_icmp .ne 8, 3) := by decide +kernel
theorem dX5_placing_123 : decode cX5_placing 123 = .ok (.iload 4, 2) := by decide +kernel
theorem dX5_placing_125 : decode cX5_placing 125 = .ok (.goto 11, 3) := by decide +kernel
theorem dX5_placing_128 : decode cX5_placing 128 = .ok (.aload_n 0, 1) := by decide +kernel
theorem dX5_placing_129 : decode cX5_placing 129 = .ok (.getfield 45, 3) := by decide +kernel
theorem dX5_placing_132 : decode cX5_placing 132 = .ok (.iload_n 3, 1) := by decide +kernel
theorem dX5_placing_133 : decode cX5_placing 133 = .ok (.invokevirtual 134, 3) := by decide +kernel
theorem dX5_placing_136 : decode cX5_placing 136 = .ok (.ireturn, 1) := by decide +kernel
theorem dX5_polish_0 : decode cX5_polish 0 = .ok (.aload_n 0, 1) := by decide +kernel
theorem dX5_polish_1 : decode cX5_polish 1 = .ok (.aload_n 0, 1) := by decide +kernel
theorem dX5_polish_2 : decode cX5_polish 2 = .ok (.getfield 10, 3) := by decide +kernel
theorem dX5_polish_5 : decode cX5_polish 5 = .ok (.iload_n 1, 1) := by decide +kernel
theorem dX5_polish_6 : decode cX5_polish 6 = .ok (.invokevirtual 98, 3) := by decide +kernel
theorem dX5_polish_9 : decode cX5_polish 9 = .ok (.invokevirtual 64, 3) := by decide +kernel
theorem dX5_polish_12 : decode cX5_polish 12 = .ok (.ireturn, 1) := by decide +kernel
theorem dX5_refusalOf_0 : decode cX5_refusalOf 0 = .ok (.iload_n 0, 1) := by decide +kernel
theorem dX5_refusalOf_1 : decode cX5_refusalOf 1 = .ok (.iconst (-1), 1) := by decide +kernel
theorem dX5_refusalOf_2 : decode cX5_refusalOf 2 = .ok (.if_icmp .ge 8, 3) := by decide +kernel
theorem dX5_refusalOf_5 : decode cX5_refusalOf 5 = .ok (.bipush (-4), 2) := by decide +kernel
theorem dX5_refusalOf_7 : decode cX5_refusalOf 7 = .ok (.goto 4, 3) := by decide +kernel
theorem dX5_refusalOf_10 : decode cX5_refusalOf 10 = .ok (.iconst (-1), 1) := by decide +kernel
theorem dX5_refusalOf_11 : decode cX5_refusalOf 11 = .ok (.ireturn, 1) := by decide +kernel
theorem dX5_refusalOutside_0 : decode cX5_refusalOutside 0 = .ok (.iload_n 0, 1) := by decide +kernel
theorem dX5_refusalOutside_1 : decode cX5_refusalOutside 1 = .ok (.iload_n 1, 1) := by decide +kernel
theorem dX5_refusalOutside_2 : decode cX5_refusalOutside 2 = .ok (.if_icmp .ge 6, 3) := by decide +kernel
theorem dX5_refusalOutside_5 : decode cX5_refusalOutside 5 = .ok (.bipush (-4), 2) := by decide +kernel
theorem dX5_refusalOutside_7 : decode cX5_refusalOutside 7 = .ok (.ireturn, 1) := by decide +kernel
theorem dX5_refusalOutside_8 : decode cX5_refusalOutside 8 = .ok (.iload_n 0, 1) := by decide +kernel
theorem dX5_refusalOutside_9 : decode cX5_refusalOutside 9 = .ok (.iload_n 2, 1) := by decide +kernel
theorem dX5_refusalOutside_10 : decode cX5_refusalOutside 10 = .ok (.if_icmp .le 8, 3) := by decide +kernel
theorem dX5_refusalOutside_13 : decode cX5_refusalOutside 13 = .ok (.bipush (-6), 2) := by decide +kernel
theorem dX5_refusalOutside_15 : decode cX5_refusalOutside 15 = .ok (.goto 4, 3) := by decide +kernel
theorem dX5_refusalOutside_18 : decode cX5_refusalOutside 18 = .ok (.iconst 0, 1) := by decide +kernel
theorem dX5_refusalOutside_19 : decode cX5_refusalOutside 19 = .ok (.ireturn, 1) := by decide +kernel
theorem dX5_row_0 : decode cX5_row 0 = .ok (.aload_n 0, 1) := by decide +kernel
theorem dX5_row_1 : decode cX5_row 1 = .ok (.aload_n 0, 1) := by decide +kernel
theorem dX5_row_2 : decode cX5_row 2 = .ok (.getfield 36, 3) := by decide +kernel
theorem dX5_row_5 : decode cX5_row 5 = .ok (.iload_n 1, 1) := by decide +kernel
theorem dX5_row_6 : decode cX5_row 6 = .ok (.invokevirtual 210, 3) := by decide +kernel
theorem dX5_row_9 : decode cX5_row 9 = .ok (.invokevirtual 64, 3) := by decide +kernel
theorem dX5_row_12 : decode cX5_row 12 = .ok (.ireturn, 1) := by decide +kernel
theorem dX5_sell_0 : decode cX5_sell 0 = .ok (.iload_n 1, 1) := by decide +kernel
theorem dX5_sell_1 : decode cX5_sell 1 = .ok (.ifCond .eq 15, 3) := by decide +kernel
theorem dX5_sell_4 : decode cX5_sell 4 = .ok (.iload_n 1, 1) := by decide +kernel
theorem dX5_sell_5 : decode cX5_sell 5 = .ok (.iconst 1, 1) := by decide +kernel
theorem dX5_sell_6 : decode cX5_sell 6 = .ok (.if_icmp .eq 10, 3) := by decide +kernel
theorem dX5_sell_9 : decode cX5_sell 9 = .ok (.aload_n 0, 1) := by decide +kernel
theorem dX5_sell_10 : decode cX5_sell 10 = .ok (.bipush (-2), 2) := by decide +kernel
theorem dX5_sell_12 : decode cX5_sell 12 = .ok (.invokevirtual 64, 3) := by decide +kernel
theorem dX5_sell_15 : decode cX5_sell 15 = .ok (.ireturn, 1) := by decide +kernel
theorem dX5_sell_16 : decode cX5_sell 16 = .ok (.bipush (-9), 2) := by decide +kernel
theorem dX5_sell_18 : decode cX5_sell 18 = .ok (.istore_n 2, 1) := by decide +kernel
theorem dX5_sell_19 : decode cX5_sell 19 = .ok (.bipush (-9), 2) := by decide +kernel
theorem dX5_sell_21 : decode cX5_sell 21 = .ok (.istore_n 3, 1) := by decide +kernel
theorem dX5_sell_22 : decode cX5_sell 22 = .ok (.iconst 0, 1) := by decide +kernel
theorem dX5_sell_23 : decode cX5_sell 23 = .ok (.istore 4, 2) := by decide +kernel
theorem dX5_sell_25 : decode cX5_sell 25 = .ok (.iload 4, 2) := by decide +kernel
theorem dX5_sell_27 : decode cX5_sell 27 = .ok (.aload_n 0, 1) := by decide +kernel
theorem dX5_sell_28 : decode cX5_sell 28 = .ok (.getfield 10, 3) := by decide +kernel
theorem dX5_sell_31 : decode cX5_sell 31 = .ok (.getfield 126, 3) := by decide +kernel
theorem dX5_sell_34 : decode cX5_sell 34 = .ok (.if_icmp .ge 35, 3) := by decide +kernel
theorem dX5_sell_37 : decode cX5_sell 37 = .ok (.aload_n 0, 1) := by decide +kernel
theorem dX5_sell_38 : decode cX5_sell 38 = .ok (.iload 4, 2) := by decide +kernel
theorem dX5_sell_40 : decode cX5_sell 40 = .ok (.invokevirtual 167, 3) := by decide +kernel
theorem dX5_sell_43 : decode cX5_sell 43 = .ok (.istore 5, 2) := by decide +kernel
theorem dX5_sell_45 : decode cX5_sell 45 = .ok (.iload_n 2, 1) := by decide +kernel
theorem dX5_sell_46 : decode cX5_sell 46 = .ok (.bipush (-9), 2) := by decide +kernel
theorem dX5_sell_48 : decode cX5_sell 48 = .ok (.if_icmp .eq 9, 3) := by decide +kernel
theorem dX5_sell_51 : decode cX5_sell 51 = .ok (.iload 5, 2) := by decide +kernel
theorem dX5_sell_53 : decode cX5_sell 53 = .ok (.iload_n 3, 1) := by decide +kernel
theorem dX5_sell_54 : decode cX5_sell 54 = .ok (.if_icmp .ge 9, 3) := by decide +kernel
theorem dX5_sell_57 : decode cX5_sell 57 = .ok (.iload 4, 2) := by decide +kernel
theorem dX5_sell_59 : decode cX5_sell 59 = .ok (.istore_n 2, 1) := by decide +kernel
theorem dX5_sell_60 : decode cX5_sell 60 = .ok (.iload 5, 2) := by decide +kernel
theorem dX5_sell_62 : decode cX5_sell 62 = .ok (.istore_n 3, 1) := by decide +kernel
theorem dX5_sell_63 : decode cX5_sell 63 = .ok (.iinc 4 1, 3) := by decide +kernel
theorem dX5_sell_66 : decode cX5_sell 66 = .ok (.goto (-41), 3) := by decide +kernel
theorem dX5_sell_69 : decode cX5_sell 69 = .ok (.iload_n 1, 1) := by decide +kernel
theorem dX5_sell_70 : decode cX5_sell 70 = .ok (.ifCond .ne 7, 3) := by decide +kernel
theorem dX5_sell_73 : decode cX5_sell 73 = .ok (.iload_n 2, 1) := by decide +kernel
theorem dX5_sell_74 : decode cX5_sell 74 = .ok (.goto 4, 3) := by decide +kernel
theorem dX5_sell_77 : decode cX5_sell 77 = .ok (.iload_n 3, 1) := by decide +kernel
theorem dX5_sell_78 : decode cX5_sell 78 = .ok (.ireturn, 1) := by decide +kernel
theorem dX5_shares_0 : decode cX5_shares 0 = .ok (.iload_n 1, 1) := by decide +kernel
theorem dX5_shares_1 : decode cX5_shares 1 = .ok (.aload_n 0, 1) := by decide +kernel
theorem dX5_shares_2 : decode cX5_shares 2 = .ok (.getfield 10, 3) := by decide +kernel
theorem dX5_shares_5 : decode cX5_shares 5 = .ok (.getfield 126, 3) := by decide +kernel
theorem dX5_shares_8 : decode cX5_shares 8 = .ok (.invokestatic 137, 3) := by decide +kernel
theorem dX5_shares_11 : decode cX5_shares 11 = .ok (.ifCond .ne 12, 3) := by decide +kernel
theorem dX5_shares_14 : decode cX5_shares 14 = .ok (.aload_n 0, 1) := by decide +kernel
theorem dX5_shares_15 : decode cX5_shares 15 = .ok (.iload_n 1, 1) := by decide +kernel
theorem dX5_shares_16 : decode cX5_shares 16 = .ok (.invokestatic 140, 3) := by decide +kernel
theorem dX5_shares_19 : decode cX5_shares 19 = .ok (.invokevirtual 64, 3) := by decide +kernel
theorem dX5_shares_22 : decode cX5_shares 22 = .ok (.ireturn, 1) := by decide +kernel
theorem dX5_shares_23 : decode cX5_shares 23 = .ok (.aload_n 0, 1) := by decide +kernel
theorem dX5_shares_24 : decode cX5_shares 24 = .ok (.getfield 52, 3) := by decide +kernel
theorem dX5_shares_27 : decode cX5_shares 27 = .ok (.aload_n 0, 1) := by decide +kernel
theorem dX5_shares_28 : decode cX5_shares 28 = .ok (.getfield 10, 3) := by decide +kernel
theorem dX5_shares_31 : decode cX5_shares 31 = .ok (.invokevirtual 143, 3) := by decide +kernel
theorem dX5_shares_34 : decode cX5_shares 34 = .ok (.aload_n 0, 1) := by decide +kernel
theorem dX5_shares_35 : decode cX5_shares 35 = .ok (.getfield 52, 3) := by decide +kernel
theorem dX5_shares_38 : decode cX5_shares 38 = .ok (.iload_n 1, 1) := by decide +kernel
theorem dX5_shares_39 : decode cX5_shares 39 = .ok (.invokevirtual 146, 3) := by decide +kernel
theorem dX5_shares_42 : decode cX5_shares 42 = .ok (.ireturn, 1) := by decide +kernel
theorem dX5_size_0 : decode cX5_size 0 = .ok (.aload_n 0, 1) := by decide +kernel
theorem dX5_size_1 : decode cX5_size 1 = .ok (.aload_n 0, 1) := by decide +kernel
theorem dX5_size_2 : decode cX5_size 2 = .ok (.getfield 10, 3) := by decide +kernel
theorem dX5_size_5 : decode cX5_size 5 = .ok (.iload_n 1, 1) := by decide +kernel
theorem dX5_size_6 : decode cX5_size 6 = .ok (.iload_n 2, 1) := by decide +kernel
theorem dX5_size_7 : decode cX5_size 7 = .ok (.invokevirtual 101, 3) := by decide +kernel
theorem dX5_size_10 : decode cX5_size 10 = .ok (.invokevirtual 64, 3) := by decide +kernel
theorem dX5_size_13 : decode cX5_size 13 = .ok (.ireturn, 1) := by decide +kernel
theorem dX5_stands_0 : decode cX5_stands 0 = .ok (.aload_n 0, 1) := by decide +kernel
theorem dX5_stands_1 : decode cX5_stands 1 = .ok (.getfield 10, 3) := by decide +kernel
theorem dX5_stands_4 : decode cX5_stands 4 = .ok (.iload_n 1, 1) := by decide +kernel
theorem dX5_stands_5 : decode cX5_stands 5 = .ok (.invokevirtual 87, 3) := by decide +kernel
theorem dX5_stands_8 : decode cX5_stands 8 = .ok (.ifCond .eq 10, 3) := by decide +kernel
theorem dX5_stands_11 : decode cX5_stands 11 = .ok (.iload_n 2, 1) := by decide +kernel
theorem dX5_stands_12 : decode cX5_stands 12 = .ok (.invokestatic 91, 3) := by decide +kernel
theorem dX5_stands_15 : decode cX5_stands 15 = .ok (.ifCond .ne 9, 3) := by decide +kernel
theorem dX5_stands_18 : decode cX5_stands 18 = .ok (.aload_n 0, 1) := by decide +kernel
theorem dX5_stands_19 : decode cX5_stands 19 = .ok (.iconst (-1), 1) := by decide +kernel
theorem dX5_stands_20 : decode cX5_stands 20 = .ok (.invokevirtual 64, 3) := by decide +kernel
theorem dX5_stands_23 : decode cX5_stands 23 = .ok (.ireturn, 1) := by decide +kernel
theorem dX5_stands_24 : decode cX5_stands 24 = .ok (.aload_n 0, 1) := by decide +kernel
theorem dX5_stands_25 : decode cX5_stands 25 = .ok (.getfield 10, 3) := by decide +kernel
theorem dX5_stands_28 : decode cX5_stands 28 = .ok (.iload_n 1, 1) := by decide +kernel
theorem dX5_stands_29 : decode cX5_stands 29 = .ok (.iload_n 2, 1) := by decide +kernel
theorem dX5_stands_30 : decode cX5_stands 30 = .ok (.invokevirtual 94, 3) := by decide +kernel
theorem dX5_stands_33 : decode cX5_stands 33 = .ok (.ifCond .eq 7, 3) := by decide +kernel
theorem dX5_stands_36 : decode cX5_stands 36 = .ok (.iconst 1, 1) := by decide +kernel
theorem dX5_stands_37 : decode cX5_stands 37 = .ok (.goto 4, 3) := by decide +kernel
theorem dX5_stands_40 : decode cX5_stands 40 = .ok (.iconst 0, 1) := by decide +kernel
theorem dX5_stands_41 : decode cX5_stands 41 = .ok (.ireturn, 1) := by decide +kernel
theorem dX5_sumOfFirst_0 : decode cX5_sumOfFirst 0 = .ok (.iconst 0, 1) := by decide +kernel
theorem dX5_sumOfFirst_1 : decode cX5_sumOfFirst 1 = .ok (.istore_n 2, 1) := by decide +kernel
theorem dX5_sumOfFirst_2 : decode cX5_sumOfFirst 2 = .ok (.iconst 0, 1) := by decide +kernel
theorem dX5_sumOfFirst_3 : decode cX5_sumOfFirst 3 = .ok (.istore_n 3, 1) := by decide +kernel
theorem dX5_sumOfFirst_4 : decode cX5_sumOfFirst 4 = .ok (.iload_n 3, 1) := by decide +kernel
theorem dX5_sumOfFirst_5 : decode cX5_sumOfFirst 5 = .ok (.iload_n 1, 1) := by decide +kernel
theorem dX5_sumOfFirst_6 : decode cX5_sumOfFirst 6 = .ok (.if_icmp .ge 21, 3) := by decide +kernel
theorem dX5_sumOfFirst_9 : decode cX5_sumOfFirst 9 = .ok (.iload_n 3, 1) := by decide +kernel
theorem dX5_sumOfFirst_10 : decode cX5_sumOfFirst 10 = .ok (.aload_n 0, 1) := by decide +kernel
theorem dX5_sumOfFirst_11 : decode cX5_sumOfFirst 11 = .ok (.arraylength, 1) := by decide +kernel
theorem dX5_sumOfFirst_12 : decode cX5_sumOfFirst 12 = .ok (.if_icmp .ge 15, 3) := by decide +kernel
theorem dX5_sumOfFirst_15 : decode cX5_sumOfFirst 15 = .ok (.iload_n 2, 1) := by decide +kernel
theorem dX5_sumOfFirst_16 : decode cX5_sumOfFirst 16 = .ok (.aload_n 0, 1) := by decide +kernel
theorem dX5_sumOfFirst_17 : decode cX5_sumOfFirst 17 = .ok (.iload_n 3, 1) := by decide +kernel
theorem dX5_sumOfFirst_18 : decode cX5_sumOfFirst 18 = .ok (.iaload, 1) := by decide +kernel
theorem dX5_sumOfFirst_19 : decode cX5_sumOfFirst 19 = .ok (.iadd, 1) := by decide +kernel
theorem dX5_sumOfFirst_20 : decode cX5_sumOfFirst 20 = .ok (.istore_n 2, 1) := by decide +kernel
theorem dX5_sumOfFirst_21 : decode cX5_sumOfFirst 21 = .ok (.iinc 3 1, 3) := by decide +kernel
theorem dX5_sumOfFirst_24 : decode cX5_sumOfFirst 24 = .ok (.goto (-20), 3) := by decide +kernel
theorem dX5_sumOfFirst_27 : decode cX5_sumOfFirst 27 = .ok (.iload_n 2, 1) := by decide +kernel
theorem dX5_sumOfFirst_28 : decode cX5_sumOfFirst 28 = .ok (.ireturn, 1) := by decide +kernel
theorem dX5_thoughtOfNow_0 : decode cX5_thoughtOfNow 0 = .ok (.aload_n 0, 1) := by decide +kernel
theorem dX5_thoughtOfNow_1 : decode cX5_thoughtOfNow 1 = .ok (.getfield 16, 3) := by decide +kernel
theorem dX5_thoughtOfNow_4 : decode cX5_thoughtOfNow 4 = .ok (.aload_n 0, 1) := by decide +kernel
theorem dX5_thoughtOfNow_5 : decode cX5_thoughtOfNow 5 = .ok (.getfield 10, 3) := by decide +kernel
theorem dX5_thoughtOfNow_8 : decode cX5_thoughtOfNow 8 = .ok (.invokevirtual 78, 3) := by decide +kernel
theorem dX5_thoughtOfNow_11 : decode cX5_thoughtOfNow 11 = .ok (.aload_n 0, 1) := by decide +kernel
theorem dX5_thoughtOfNow_12 : decode cX5_thoughtOfNow 12 = .ok (.getfield 16, 3) := by decide +kernel
theorem dX5_thoughtOfNow_15 : decode cX5_thoughtOfNow 15 = .ok (.areturn, 1) := by decide +kernel
theorem dX5_whose_0 : decode cX5_whose 0 = .ok (.iload_n 1, 1) := by decide +kernel
theorem dX5_whose_1 : decode cX5_whose 1 = .ok (.iconst 0, 1) := by decide +kernel
theorem dX5_whose_2 : decode cX5_whose 2 = .ok (.sipush 999, 3) := by decide +kernel
theorem dX5_whose_5 : decode cX5_whose 5 = .ok (.invokestatic 179, 3) := by decide +kernel
theorem dX5_whose_8 : decode cX5_whose 8 = .ok (.istore_n 2, 1) := by decide +kernel
theorem dX5_whose_9 : decode cX5_whose 9 = .ok (.iload_n 2, 1) := by decide +kernel
theorem dX5_whose_10 : decode cX5_whose 10 = .ok (.ifCond .eq 9, 3) := by decide +kernel
theorem dX5_whose_13 : decode cX5_whose 13 = .ok (.aload_n 0, 1) := by decide +kernel
theorem dX5_whose_14 : decode cX5_whose 14 = .ok (.iload_n 2, 1) := by decide +kernel
theorem dX5_whose_15 : decode cX5_whose 15 = .ok (.invokevirtual 64, 3) := by decide +kernel
theorem dX5_whose_18 : decode cX5_whose 18 = .ok (.ireturn, 1) := by decide +kernel
theorem dX5_whose_19 : decode cX5_whose 19 = .ok (.iconst 0, 1) := by decide +kernel
theorem dX5_whose_20 : decode cX5_whose 20 = .ok (.istore_n 3, 1) := by decide +kernel
theorem dX5_whose_21 : decode cX5_whose 21 = .ok (.iconst 0, 1) := by decide +kernel
theorem dX5_whose_22 : decode cX5_whose 22 = .ok (.istore 4, 2) := by decide +kernel
theorem dX5_whose_24 : decode cX5_whose 24 = .ok (.iload 4, 2) := by decide +kernel
theorem dX5_whose_26 : decode cX5_whose 26 = .ok (.aload_n 0, 1) := by decide +kernel
theorem dX5_whose_27 : decode cX5_whose 27 = .ok (.getfield 10, 3) := by decide +kernel
theorem dX5_whose_30 : decode cX5_whose 30 = .ok (.getfield 126, 3) := by decide +kernel
theorem dX5_whose_33 : decode cX5_whose 33 = .ok (.if_icmp .ge 26, 3) := by decide +kernel
theorem dX5_whose_36 : decode cX5_whose 36 = .ok (.aload_n 0, 1) := by decide +kernel
theorem dX5_whose_37 : decode cX5_whose 37 = .ok (.iload 4, 2) := by decide +kernel
theorem dX5_whose_39 : decode cX5_whose 39 = .ok (.iload_n 1, 1) := by decide +kernel
theorem dX5_whose_40 : decode cX5_whose 40 = .ok (.invokevirtual 186, 3) := by decide +kernel
theorem dX5_whose_43 : decode cX5_whose 43 = .ok (.ifCond .eq 10, 3) := by decide +kernel
theorem dX5_whose_46 : decode cX5_whose 46 = .ok (.iload_n 3, 1) := by decide +kernel
theorem dX5_whose_47 : decode cX5_whose 47 = .ok (.iconst 1, 1) := by decide +kernel
theorem dX5_whose_48 : decode cX5_whose 48 = .ok (.iload 4, 2) := by decide +kernel
theorem dX5_whose_50 : decode cX5_whose 50 = .ok (.ishl, 1) := by decide +kernel
theorem dX5_whose_51 : decode cX5_whose 51 = .ok (.ior, 1) := by decide +kernel
theorem dX5_whose_52 : decode cX5_whose 52 = .ok (.istore_n 3, 1) := by decide +kernel
theorem dX5_whose_53 : decode cX5_whose 53 = .ok (.iinc 4 1, 3) := by decide +kernel
theorem dX5_whose_56 : decode cX5_whose 56 = .ok (.goto (-32), 3) := by decide +kernel
theorem dX5_whose_59 : decode cX5_whose 59 = .ok (.iload_n 3, 1) := by decide +kernel
theorem dX5_whose_60 : decode cX5_whose 60 = .ok (.ireturn, 1) := by decide +kernel
theorem dX5_wide_0 : decode cX5_wide 0 = .ok (.aload_n 0, 1) := by decide +kernel
theorem dX5_wide_1 : decode cX5_wide 1 = .ok (.aload_n 0, 1) := by decide +kernel
theorem dX5_wide_2 : decode cX5_wide 2 = .ok (.getfield 10, 3) := by decide +kernel
theorem dX5_wide_5 : decode cX5_wide 5 = .ok (.iload_n 1, 1) := by decide +kernel
theorem dX5_wide_6 : decode cX5_wide 6 = .ok (.iload_n 2, 1) := by decide +kernel
theorem dX5_wide_7 : decode cX5_wide 7 = .ok (.invokevirtual 104, 3) := by decide +kernel
theorem dX5_wide_10 : decode cX5_wide 10 = .ok (.invokevirtual 64, 3) := by decide +kernel
theorem dX5_wide_13 : decode cX5_wide 13 = .ok (.ireturn, 1) := by decide +kernel
theorem dX5_wider_0 : decode cX5_wider 0 = .ok (.iload_n 1, 1) := by decide +kernel
theorem dX5_wider_1 : decode cX5_wider 1 = .ok (.invokestatic 192, 3) := by decide +kernel
theorem dX5_wider_4 : decode cX5_wider 4 = .ok (.ifCond .eq 21, 3) := by decide +kernel
theorem dX5_wider_7 : decode cX5_wider 7 = .ok (.aload_n 0, 1) := by decide +kernel
theorem dX5_wider_8 : decode cX5_wider 8 = .ok (.getfield 10, 3) := by decide +kernel
theorem dX5_wider_11 : decode cX5_wider 11 = .ok (.iload_n 2, 1) := by decide +kernel
theorem dX5_wider_12 : decode cX5_wider 12 = .ok (.invokevirtual 87, 3) := by decide +kernel
theorem dX5_wider_15 : decode cX5_wider 15 = .ok (.ifCond .eq 10, 3) := by decide +kernel
theorem dX5_wider_18 : decode cX5_wider 18 = .ok (.iload_n 3, 1) := by decide +kernel
theorem dX5_wider_19 : decode cX5_wider 19 = .ok (.invokestatic 91, 3) := by decide +kernel
theorem dX5_wider_22 : decode cX5_wider 22 = .ok (.ifCond .ne 9, 3) := by decide +kernel
theorem dX5_wider_25 : decode cX5_wider 25 = .ok (.aload_n 0, 1) := by decide +kernel
theorem dX5_wider_26 : decode cX5_wider 26 = .ok (.iconst (-1), 1) := by decide +kernel
theorem dX5_wider_27 : decode cX5_wider 27 = .ok (.invokevirtual 64, 3) := by decide +kernel
theorem dX5_wider_30 : decode cX5_wider 30 = .ok (.ireturn, 1) := by decide +kernel
theorem dX5_wider_31 : decode cX5_wider 31 = .ok (.aload_n 0, 1) := by decide +kernel
theorem dX5_wider_32 : decode cX5_wider 32 = .ok (.invokevirtual 67, 3) := by decide +kernel
theorem dX5_wider_35 : decode cX5_wider 35 = .ok (.astore 4, 2) := by decide +kernel
theorem dX5_wider_37 : decode cX5_wider 37 = .ok (.iconst 0, 1) := by decide +kernel
theorem dX5_wider_38 : decode cX5_wider 38 = .ok (.istore 5, 2) := by decide +kernel
theorem dX5_wider_40 : decode cX5_wider 40 = .ok (.iload 5, 2) := by decide +kernel
theorem dX5_wider_42 : decode cX5_wider 42 = .ok (.bipush 9, 2) := by decide +kernel
theorem dX5_wider_44 : decode cX5_wider 44 = .ok (.if_icmp .gt 31, 3) := by decide +kernel
theorem dX5_wider_47 : decode cX5_wider 47 = .ok (.aload 4, 2) := by decide +kernel
theorem dX5_wider_49 : decode cX5_wider 49 = .ok (.getfield 195, 3) := by decide +kernel
theorem dX5_wider_52 : decode cX5_wider 52 = .ok (.iload_n 1, 1) := by decide +kernel
theorem dX5_wider_53 : decode cX5_wider 53 = .ok (.iload 5, 2) := by decide +kernel
theorem dX5_wider_55 : decode cX5_wider 55 = .ok (.iastore, 1) := by decide +kernel
theorem dX5_wider_56 : decode cX5_wider 56 = .ok (.aload 4, 2) := by decide +kernel
theorem dX5_wider_58 : decode cX5_wider 58 = .ok (.iload_n 2, 1) := by decide +kernel
theorem dX5_wider_59 : decode cX5_wider 59 = .ok (.iload_n 3, 1) := by decide +kernel
theorem dX5_wider_60 : decode cX5_wider 60 = .ok (.invokevirtual 94, 3) := by decide +kernel
theorem dX5_wider_63 : decode cX5_wider 63 = .ok (.ifCond .eq 6, 3) := by decide +kernel
theorem dX5_wider_66 : decode cX5_wider 66 = .ok (.iload 5, 2) := by decide +kernel
theorem dX5_wider_68 : decode cX5_wider 68 = .ok (.ireturn, 1) := by decide +kernel
theorem dX5_wider_69 : decode cX5_wider 69 = .ok (.iinc 5 1, 3) := by decide +kernel
theorem dX5_wider_72 : decode cX5_wider 72 = .ok (.goto (-32), 3) := by decide +kernel
theorem dX5_wider_75 : decode cX5_wider 75 = .ok (.bipush (-9), 2) := by decide +kernel
theorem dX5_wider_77 : decode cX5_wider 77 = .ok (.ireturn, 1) := by decide +kernel
theorem dX5_worst_0 : decode cX5_worst 0 = .ok (.aload_n 0, 1) := by decide +kernel
theorem dX5_worst_1 : decode cX5_worst 1 = .ok (.getfield 10, 3) := by decide +kernel
theorem dX5_worst_4 : decode cX5_worst 4 = .ok (.invokevirtual 120, 3) := by decide +kernel
theorem dX5_worst_7 : decode cX5_worst 7 = .ok (.ireturn, 1) := by decide +kernel
theorem dX5_years_0 : decode cX5_years 0 = .ok (.aload_n 0, 1) := by decide +kernel
theorem dX5_years_1 : decode cX5_years 1 = .ok (.aload_n 0, 1) := by decide +kernel
theorem dX5_years_2 : decode cX5_years 2 = .ok (.getfield 10, 3) := by decide +kernel
theorem dX5_years_5 : decode cX5_years 5 = .ok (.iload_n 1, 1) := by decide +kernel
theorem dX5_years_6 : decode cX5_years 6 = .ok (.invokevirtual 110, 3) := by decide +kernel
theorem dX5_years_9 : decode cX5_years 9 = .ok (.invokevirtual 64, 3) := by decide +kernel
theorem dX5_years_12 : decode cX5_years 12 = .ok (.ireturn, 1) := by decide +kernel
