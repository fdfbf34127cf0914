/-! the class: House's instructions, Math's and Arrays' -/
theorem dJ9_max_7cf53_0 : decode cJ9_max_7cf53 0 = .ok (.iload_n 0, 1) := by decide +kernel
theorem dJ9_max_7cf53_1 : decode cJ9_max_7cf53 1 = .ok (.iload_n 1, 1) := by decide +kernel
theorem dJ9_max_7cf53_2 : decode cJ9_max_7cf53 2 = .ok (.if_icmp .lt 7, 3) := by decide +kernel
theorem dJ9_max_7cf53_5 : decode cJ9_max_7cf53 5 = .ok (.iload_n 0, 1) := by decide +kernel
theorem dJ9_max_7cf53_6 : decode cJ9_max_7cf53 6 = .ok (.goto 4, 3) := by decide +kernel
theorem dJ9_max_7cf53_9 : decode cJ9_max_7cf53 9 = .ok (.iload_n 1, 1) := by decide +kernel
theorem dJ9_max_7cf53_10 : decode cJ9_max_7cf53 10 = .ok (.ireturn, 1) := by decide +kernel
theorem dJ9_min_7cf53_0 : decode cJ9_min_7cf53 0 = .ok (.iload_n 0, 1) := by decide +kernel
theorem dJ9_min_7cf53_1 : decode cJ9_min_7cf53 1 = .ok (.iload_n 1, 1) := by decide +kernel
theorem dJ9_min_7cf53_2 : decode cJ9_min_7cf53 2 = .ok (.if_icmp .gt 7, 3) := by decide +kernel
theorem dJ9_min_7cf53_5 : decode cJ9_min_7cf53 5 = .ok (.iload_n 0, 1) := by decide +kernel
theorem dJ9_min_7cf53_6 : decode cJ9_min_7cf53 6 = .ok (.goto 4, 3) := by decide +kernel
theorem dJ9_min_7cf53_9 : decode cJ9_min_7cf53 9 = .ok (.iload_n 1, 1) := by decide +kernel
theorem dJ9_min_7cf53_10 : decode cJ9_min_7cf53 10 = .ok (.ireturn, 1) := by decide +kernel
theorem dJ7_fill_53178_0 : decode cJ7_fill_53178 0 = .ok (.iconst 0, 1) := by decide +kernel
theorem dJ7_fill_53178_1 : decode cJ7_fill_53178 1 = .ok (.istore_n 2, 1) := by decide +kernel
theorem dJ7_fill_53178_2 : decode cJ7_fill_53178 2 = .ok (.aload_n 0, 1) := by decide +kernel
theorem dJ7_fill_53178_3 : decode cJ7_fill_53178 3 = .ok (.arraylength, 1) := by decide +kernel
theorem dJ7_fill_53178_4 : decode cJ7_fill_53178 4 = .ok (.istore_n 3, 1) := by decide +kernel
theorem dJ7_fill_53178_5 : decode cJ7_fill_53178 5 = .ok (.iload_n 2, 1) := by decide +kernel
theorem dJ7_fill_53178_6 : decode cJ7_fill_53178 6 = .ok (.iload_n 3, 1) := by decide +kernel
theorem dJ7_fill_53178_7 : decode cJ7_fill_53178 7 = .ok (.if_icmp .ge 13, 3) := by decide +kernel
theorem dJ7_fill_53178_10 : decode cJ7_fill_53178 10 = .ok (.aload_n 0, 1) := by decide +kernel
theorem dJ7_fill_53178_11 : decode cJ7_fill_53178 11 = .ok (.iload_n 2, 1) := by decide +kernel
theorem dJ7_fill_53178_12 : decode cJ7_fill_53178 12 = .ok (.iload_n 1, 1) := by decide +kernel
theorem dJ7_fill_53178_13 : decode cJ7_fill_53178 13 = .ok (.iastore, 1) := by decide +kernel
theorem dJ7_fill_53178_14 : decode cJ7_fill_53178 14 = .ok (.iinc 2 1, 3) := by decide +kernel
theorem dJ7_fill_53178_17 : decode cJ7_fill_53178 17 = .ok (.goto (-12), 3) := by decide +kernel
theorem dJ7_fill_53178_20 : decode cJ7_fill_53178 20 = .ok (.return_, 1) := by decide +kernel
theorem dX0_addPiece_0 : decode cX0_addPiece 0 = .ok (.iload_n 2, 1) := by decide +kernel
theorem dX0_addPiece_1 : decode cX0_addPiece 1 = .ok (.iconst 1, 1) := by decide +kernel
theorem dX0_addPiece_2 : decode cX0_addPiece 2 = .ok (.if_icmp .ge 6, 3) := by decide +kernel
theorem dX0_addPiece_5 : decode cX0_addPiece 5 = .ok (.bipush (-4), 2) := by decide +kernel
theorem dX0_addPiece_7 : decode cX0_addPiece 7 = .ok (.ireturn, 1) := by decide +kernel
theorem dX0_addPiece_8 : decode cX0_addPiece 8 = .ok (.aload_n 0, 1) := by decide +kernel
theorem dX0_addPiece_9 : decode cX0_addPiece 9 = .ok (.getfield 33, 3) := by decide +kernel
theorem dX0_addPiece_12 : decode cX0_addPiece 12 = .ok (.bipush 7, 2) := by decide +kernel
theorem dX0_addPiece_14 : decode cX0_addPiece 14 = .ok (.if_icmp .lt 6, 3) := by decide +kernel
theorem dX0_addPiece_17 : decode cX0_addPiece 17 = .ok (.bipush (-6), 2) := by decide +kernel
theorem dX0_addPiece_19 : decode cX0_addPiece 19 = .ok (.ireturn, 1) := by decide +kernel
theorem dX0_addPiece_20 : decode cX0_addPiece 20 = .ok (.aload_n 0, 1) := by decide +kernel
theorem dX0_addPiece_21 : decode cX0_addPiece 21 = .ok (.getfield 9, 3) := by decide +kernel
theorem dX0_addPiece_24 : decode cX0_addPiece 24 = .ok (.aload_n 0, 1) := by decide +kernel
theorem dX0_addPiece_25 : decode cX0_addPiece 25 = .ok (.getfield 33, 3) := by decide +kernel
theorem dX0_addPiece_28 : decode cX0_addPiece 28 = .ok (.iload_n 1, 1) := by decide +kernel
theorem dX0_addPiece_29 : decode cX0_addPiece 29 = .ok (.iastore, 1) := by decide +kernel
theorem dX0_addPiece_30 : decode cX0_addPiece 30 = .ok (.aload_n 0, 1) := by decide +kernel
theorem dX0_addPiece_31 : decode cX0_addPiece 31 = .ok (.getfield 15, 3) := by decide +kernel
theorem dX0_addPiece_34 : decode cX0_addPiece 34 = .ok (.aload_n 0, 1) := by decide +kernel
theorem dX0_addPiece_35 : decode cX0_addPiece 35 = .ok (.getfield 33, 3) := by decide +kernel
theorem dX0_addPiece_38 : decode cX0_addPiece 38 = .ok (.iload_n 2, 1) := by decide +kernel
theorem dX0_addPiece_39 : decode cX0_addPiece 39 = .ok (.iastore, 1) := by decide +kernel
theorem dX0_addPiece_40 : decode cX0_addPiece 40 = .ok (.aload_n 0, 1) := by decide +kernel
theorem dX0_addPiece_41 : decode cX0_addPiece 41 = .ok (.getfield 18, 3) := by decide +kernel
theorem dX0_addPiece_44 : decode cX0_addPiece 44 = .ok (.aload_n 0, 1) := by decide +kernel
theorem dX0_addPiece_45 : decode cX0_addPiece 45 = .ok (.getfield 33, 3) := by decide +kernel
theorem dX0_addPiece_48 : decode cX0_addPiece 48 = .ok (.iload_n 3, 1) := by decide +kernel
theorem dX0_addPiece_49 : decode cX0_addPiece 49 = .ok (.iastore, 1) := by decide +kernel
theorem dX0_addPiece_50 : decode cX0_addPiece 50 = .ok (.aload_n 0, 1) := by decide +kernel
theorem dX0_addPiece_51 : decode cX0_addPiece 51 = .ok (.getfield 21, 3) := by decide +kernel
theorem dX0_addPiece_54 : decode cX0_addPiece 54 = .ok (.aload_n 0, 1) := by decide +kernel
theorem dX0_addPiece_55 : decode cX0_addPiece 55 = .ok (.getfield 33, 3) := by decide +kernel
theorem dX0_addPiece_58 : decode cX0_addPiece 58 = .ok (.iload 4, 2) := by decide +kernel
theorem dX0_addPiece_60 : decode cX0_addPiece 60 = .ok (.iastore, 1) := by decide +kernel
theorem dX0_addPiece_61 : decode cX0_addPiece 61 = .ok (.aload_n 0, 1) := by decide +kernel
theorem dX0_addPiece_62 : decode cX0_addPiece 62 = .ok (.getfield 24, 3) := by decide +kernel
theorem dX0_addPiece_65 : decode cX0_addPiece 65 = .ok (.aload_n 0, 1) := by decide +kernel
theorem dX0_addPiece_66 : decode cX0_addPiece 66 = .ok (.getfield 33, 3) := by decide +kernel
theorem dX0_addPiece_69 : decode cX0_addPiece 69 = .ok (.bipush 9, 2) := by decide +kernel
theorem dX0_addPiece_71 : decode cX0_addPiece 71 = .ok (.iastore, 1) := by decide +kernel
theorem dX0_addPiece_72 : decode cX0_addPiece 72 = .ok (.aload_n 0, 1) := by decide +kernel
theorem dX0_addPiece_73 : decode cX0_addPiece 73 = .ok (.dup, 1) := by decide +kernel
theorem dX0_addPiece_74 : decode cX0_addPiece 74 = .ok (.getfield 33, 3) := by decide +kernel
theorem dX0_addPiece_77 : decode cX0_addPiece 77 = .ok (.iconst 1, 1) := by decide +kernel
theorem dX0_addPiece_78 : decode cX0_addPiece 78 = .ok (.iadd, 1) := by decide +kernel
theorem dX0_addPiece_79 : decode cX0_addPiece 79 = .ok (.putfield 33, 3) := by decide +kernel
theorem dX0_addPiece_82 : decode cX0_addPiece 82 = .ok (.aload_n 0, 1) := by decide +kernel
theorem dX0_addPiece_83 : decode cX0_addPiece 83 = .ok (.getfield 33, 3) := by decide +kernel
theorem dX0_addPiece_86 : decode cX0_addPiece 86 = .ok (.ireturn, 1) := by decide +kernel
theorem dX0_blameIn_0 : decode cX0_blameIn 0 = .ok (.iconst 0, 1) := by decide +kernel
theorem dX0_blameIn_1 : decode cX0_blameIn 1 = .ok (.istore_n 2, 1) := by decide +kernel
theorem dX0_blameIn_2 : decode cX0_blameIn 2 = .ok (.iconst 0, 1) := by decide +kernel
theorem dX0_blameIn_3 : decode cX0_blameIn 3 = .ok (.istore_n 3, 1) := by decide +kernel
theorem dX0_blameIn_4 : decode cX0_blameIn 4 = .ok (.iload_n 3, 1) := by decide +kernel
theorem dX0_blameIn_5 : decode cX0_blameIn 5 = .ok (.aload_n 0, 1) := by decide +kernel
theorem dX0_blameIn_6 : decode cX0_blameIn 6 = .ok (.getfield 33, 3) := by decide +kernel
theorem dX0_blameIn_9 : decode cX0_blameIn 9 = .ok (.if_icmp .ge 27, 3) := by decide +kernel
theorem dX0_blameIn_12 : decode cX0_blameIn 12 = .ok (.aload_n 0, 1) := by decide +kernel
theorem dX0_blameIn_13 : decode cX0_blameIn 13 = .ok (.getfield 24, 3) := by decide +kernel
theorem dX0_blameIn_16 : decode cX0_blameIn 16 = .ok (.iload_n 3, 1) := by decide +kernel
theorem dX0_blameIn_17 : decode cX0_blameIn 17 = .ok (.iaload, 1) := by decide +kernel
theorem dX0_blameIn_18 : decode cX0_blameIn 18 = .ok (.iload_n 1, 1) := by decide +kernel
theorem dX0_blameIn_19 : decode cX0_blameIn 19 = .ok (.if_icmp .ne 11, 3) := by decide +kernel
theorem dX0_blameIn_22 : decode cX0_blameIn 22 = .ok (.iload_n 2, 1) := by decide +kernel
theorem dX0_blameIn_23 : decode cX0_blameIn 23 = .ok (.aload_n 0, 1) := by decide +kernel
theorem dX0_blameIn_24 : decode cX0_blameIn 24 = .ok (.iload_n 3, 1) := by decide +kernel
theorem dX0_blameIn_25 : decode cX0_blameIn 25 = .ok (.invokevirtual 59, 3) := by decide +kernel
theorem dX0_blameIn_28 : decode cX0_blameIn 28 = .ok (.iadd, 1) := by decide +kernel
theorem dX0_blameIn_29 : decode cX0_blameIn 29 = .ok (.istore_n 2, 1) := by decide +kernel
theorem dX0_blameIn_30 : decode cX0_blameIn 30 = .ok (.iinc 3 1, 3) := by decide +kernel
theorem dX0_blameIn_33 : decode cX0_blameIn 33 = .ok (.goto (-29), 3) := by decide +kernel
theorem dX0_blameIn_36 : decode cX0_blameIn 36 = .ok (.iload_n 2, 1) := by decide +kernel
theorem dX0_blameIn_37 : decode cX0_blameIn 37 = .ok (.ireturn, 1) := by decide +kernel
theorem dX0_blameOfAll_0 : decode cX0_blameOfAll 0 = .ok (.iconst 0, 1) := by decide +kernel
theorem dX0_blameOfAll_1 : decode cX0_blameOfAll 1 = .ok (.istore_n 1, 1) := by decide +kernel
theorem dX0_blameOfAll_2 : decode cX0_blameOfAll 2 = .ok (.iconst 0, 1) := by decide +kernel
theorem dX0_blameOfAll_3 : decode cX0_blameOfAll 3 = .ok (.istore_n 2, 1) := by decide +kernel
theorem dX0_blameOfAll_4 : decode cX0_blameOfAll 4 = .ok (.iload_n 2, 1) := by decide +kernel
theorem dX0_blameOfAll_5 : decode cX0_blameOfAll 5 = .ok (.aload_n 0, 1) := by decide +kernel
theorem dX0_blameOfAll_6 : decode cX0_blameOfAll 6 = .ok (.getfield 33, 3) := by decide +kernel
theorem dX0_blameOfAll_9 : decode cX0_blameOfAll 9 = .ok (.if_icmp .ge 17, 3) := by decide +kernel
theorem dX0_blameOfAll_12 : decode cX0_blameOfAll 12 = .ok (.iload_n 1, 1) := by decide +kernel
theorem dX0_blameOfAll_13 : decode cX0_blameOfAll 13 = .ok (.aload_n 0, 1) := by decide +kernel
theorem dX0_blameOfAll_14 : decode cX0_blameOfAll 14 = .ok (.iload_n 2, 1) := by decide +kernel
theorem dX0_blameOfAll_15 : decode cX0_blameOfAll 15 = .ok (.invokevirtual 59, 3) := by decide +kernel
theorem dX0_blameOfAll_18 : decode cX0_blameOfAll 18 = .ok (.iadd, 1) := by decide +kernel
theorem dX0_blameOfAll_19 : decode cX0_blameOfAll 19 = .ok (.istore_n 1, 1) := by decide +kernel
theorem dX0_blameOfAll_20 : decode cX0_blameOfAll 20 = .ok (.iinc 2 1, 3) := by decide +kernel
theorem dX0_blameOfAll_23 : decode cX0_blameOfAll 23 = .ok (.goto (-19), 3) := by decide +kernel
theorem dX0_blameOfAll_26 : decode cX0_blameOfAll 26 = .ok (.iload_n 1, 1) := by decide +kernel
theorem dX0_blameOfAll_27 : decode cX0_blameOfAll 27 = .ok (.ireturn, 1) := by decide +kernel
theorem dX0_blameOfPiece_0 : decode cX0_blameOfPiece 0 = .ok (.aload_n 0, 1) := by decide +kernel
theorem dX0_blameOfPiece_1 : decode cX0_blameOfPiece 1 = .ok (.iload_n 1, 1) := by decide +kernel
theorem dX0_blameOfPiece_2 : decode cX0_blameOfPiece 2 = .ok (.invokevirtual 55, 3) := by decide +kernel
theorem dX0_blameOfPiece_5 : decode cX0_blameOfPiece 5 = .ok (.ifCond .ne 5, 3) := by decide +kernel
theorem dX0_blameOfPiece_8 : decode cX0_blameOfPiece 8 = .ok (.iconst 0, 1) := by decide +kernel
theorem dX0_blameOfPiece_9 : decode cX0_blameOfPiece 9 = .ok (.ireturn, 1) := by decide +kernel
theorem dX0_blameOfPiece_10 : decode cX0_blameOfPiece 10 = .ok (.aload_n 0, 1) := by decide +kernel
theorem dX0_blameOfPiece_11 : decode cX0_blameOfPiece 11 = .ok (.getfield 9, 3) := by decide +kernel
theorem dX0_blameOfPiece_14 : decode cX0_blameOfPiece 14 = .ok (.iload_n 1, 1) := by decide +kernel
theorem dX0_blameOfPiece_15 : decode cX0_blameOfPiece 15 = .ok (.iaload, 1) := by decide +kernel
theorem dX0_blameOfPiece_16 : decode cX0_blameOfPiece 16 = .ok (.tableswitch 86 1 5 #[36, 42, 48, 65, 78], 36) := by decide +kernel
theorem dX0_blameOfPiece_52 : decode cX0_blameOfPiece 52 = .ok (.aload_n 0, 1) := by decide +kernel
theorem dX0_blameOfPiece_53 : decode cX0_blameOfPiece 53 = .ok (.iload_n 1, 1) := by decide +kernel
theorem dX0_blameOfPiece_54 : decode cX0_blameOfPiece 54 = .ok (.invokevirtual 66, 3) := by decide +kernel
theorem dX0_blameOfPiece_57 : decode cX0_blameOfPiece 57 = .ok (.ireturn, 1) := by decide +kernel
theorem dX0_blameOfPiece_58 : decode cX0_blameOfPiece 58 = .ok (.aload_n 0, 1) := by decide +kernel
theorem dX0_blameOfPiece_59 : decode cX0_blameOfPiece 59 = .ok (.iload_n 1, 1) := by decide +kernel
theorem dX0_blameOfPiece_60 : decode cX0_blameOfPiece 60 = .ok (.invokevirtual 69, 3) := by decide +kernel
theorem dX0_blameOfPiece_63 : decode cX0_blameOfPiece 63 = .ok (.ireturn, 1) := by decide +kernel
theorem dX0_blameOfPiece_64 : decode cX0_blameOfPiece 64 = .ok (.aload_n 0, 1) := by decide +kernel
theorem dX0_blameOfPiece_65 : decode cX0_blameOfPiece 65 = .ok (.getfield 18, 3) := by decide +kernel
theorem dX0_blameOfPiece_68 : decode cX0_blameOfPiece 68 = .ok (.iload_n 1, 1) := by decide +kernel
theorem dX0_blameOfPiece_69 : decode cX0_blameOfPiece 69 = .ok (.iaload, 1) := by decide +kernel
theorem dX0_blameOfPiece_70 : decode cX0_blameOfPiece 70 = .ok (.aload_n 0, 1) := by decide +kernel
theorem dX0_blameOfPiece_71 : decode cX0_blameOfPiece 71 = .ok (.getfield 21, 3) := by decide +kernel
theorem dX0_blameOfPiece_74 : decode cX0_blameOfPiece 74 = .ok (.iload_n 1, 1) := by decide +kernel
theorem dX0_blameOfPiece_75 : decode cX0_blameOfPiece 75 = .ok (.iaload, 1) := by decide +kernel
theorem dX0_blameOfPiece_76 : decode cX0_blameOfPiece 76 = .ok (.bipush 10, 2) := by decide +kernel
theorem dX0_blameOfPiece_78 : decode cX0_blameOfPiece 78 = .ok (.idiv, 1) := by decide +kernel
theorem dX0_blameOfPiece_79 : decode cX0_blameOfPiece 79 = .ok (.iadd, 1) := by decide +kernel
theorem dX0_blameOfPiece_80 : decode cX0_blameOfPiece 80 = .ok (.ireturn, 1) := by decide +kernel
theorem dX0_blameOfPiece_81 : decode cX0_blameOfPiece 81 = .ok (.aload_n 0, 1) := by decide +kernel
theorem dX0_blameOfPiece_82 : decode cX0_blameOfPiece 82 = .ok (.iload_n 1, 1) := by decide +kernel
theorem dX0_blameOfPiece_83 : decode cX0_blameOfPiece 83 = .ok (.invokevirtual 66, 3) := by decide +kernel
theorem dX0_blameOfPiece_86 : decode cX0_blameOfPiece 86 = .ok (.aload_n 0, 1) := by decide +kernel
theorem dX0_blameOfPiece_87 : decode cX0_blameOfPiece 87 = .ok (.getfield 18, 3) := by decide +kernel
theorem dX0_blameOfPiece_90 : decode cX0_blameOfPiece 90 = .ok (.iload_n 1, 1) := by decide +kernel
theorem dX0_blameOfPiece_91 : decode cX0_blameOfPiece 91 = .ok (.iaload, 1) := by decide +kernel
theorem dX0_blameOfPiece_92 : decode cX0_blameOfPiece 92 = .ok (.iadd, 1) := by decide +kernel
theorem dX0_blameOfPiece_93 : decode cX0_blameOfPiece 93 = .ok (.ireturn, 1) := by decide +kernel
theorem dX0_blameOfPiece_94 : decode cX0_blameOfPiece 94 = .ok (.aload_n 0, 1) := by decide +kernel
theorem dX0_blameOfPiece_95 : decode cX0_blameOfPiece 95 = .ok (.iload_n 1, 1) := by decide +kernel
theorem dX0_blameOfPiece_96 : decode cX0_blameOfPiece 96 = .ok (.invokevirtual 69, 3) := by decide +kernel
theorem dX0_blameOfPiece_99 : decode cX0_blameOfPiece 99 = .ok (.iconst 2, 1) := by decide +kernel
theorem dX0_blameOfPiece_100 : decode cX0_blameOfPiece 100 = .ok (.idiv, 1) := by decide +kernel
theorem dX0_blameOfPiece_101 : decode cX0_blameOfPiece 101 = .ok (.ireturn, 1) := by decide +kernel
theorem dX0_blameOfPiece_102 : decode cX0_blameOfPiece 102 = .ok (.aload_n 0, 1) := by decide +kernel
theorem dX0_blameOfPiece_103 : decode cX0_blameOfPiece 103 = .ok (.getfield 18, 3) := by decide +kernel
theorem dX0_blameOfPiece_106 : decode cX0_blameOfPiece 106 = .ok (.iload_n 1, 1) := by decide +kernel
theorem dX0_blameOfPiece_107 : decode cX0_blameOfPiece 107 = .ok (.iaload, 1) := by decide +kernel
theorem dX0_blameOfPiece_108 : decode cX0_blameOfPiece 108 = .ok (.ireturn, 1) := by decide +kernel
theorem dX0_blameOfSuite_0 : decode cX0_blameOfSuite 0 = .ok (.aload_n 0, 1) := by decide +kernel
theorem dX0_blameOfSuite_1 : decode cX0_blameOfSuite 1 = .ok (.getfield 18, 3) := by decide +kernel
theorem dX0_blameOfSuite_4 : decode cX0_blameOfSuite 4 = .ok (.iload_n 1, 1) := by decide +kernel
theorem dX0_blameOfSuite_5 : decode cX0_blameOfSuite 5 = .ok (.iaload, 1) := by decide +kernel
theorem dX0_blameOfSuite_6 : decode cX0_blameOfSuite 6 = .ok (.iconst 2, 1) := by decide +kernel
theorem dX0_blameOfSuite_7 : decode cX0_blameOfSuite 7 = .ok (.aload_n 0, 1) := by decide +kernel
theorem dX0_blameOfSuite_8 : decode cX0_blameOfSuite 8 = .ok (.iload_n 1, 1) := by decide +kernel
theorem dX0_blameOfSuite_9 : decode cX0_blameOfSuite 9 = .ok (.invokevirtual 72, 3) := by decide +kernel
theorem dX0_blameOfSuite_12 : decode cX0_blameOfSuite 12 = .ok (.imul, 1) := by decide +kernel
theorem dX0_blameOfSuite_13 : decode cX0_blameOfSuite 13 = .ok (.iadd, 1) := by decide +kernel
theorem dX0_blameOfSuite_14 : decode cX0_blameOfSuite 14 = .ok (.ireturn, 1) := by decide +kernel
theorem dX0_blameOfVeneer_0 : decode cX0_blameOfVeneer 0 = .ok (.aload_n 0, 1) := by decide +kernel
theorem dX0_blameOfVeneer_1 : decode cX0_blameOfVeneer 1 = .ok (.getfield 33, 3) := by decide +kernel
theorem dX0_blameOfVeneer_4 : decode cX0_blameOfVeneer 4 = .ok (.iconst 1, 1) := by decide +kernel
theorem dX0_blameOfVeneer_5 : decode cX0_blameOfVeneer 5 = .ok (.if_icmp .ne 12, 3) := by decide +kernel
theorem dX0_blameOfVeneer_8 : decode cX0_blameOfVeneer 8 = .ok (.aload_n 0, 1) := by decide +kernel
theorem dX0_blameOfVeneer_9 : decode cX0_blameOfVeneer 9 = .ok (.getfield 18, 3) := by decide +kernel
theorem dX0_blameOfVeneer_12 : decode cX0_blameOfVeneer 12 = .ok (.iload_n 1, 1) := by decide +kernel
theorem dX0_blameOfVeneer_13 : decode cX0_blameOfVeneer 13 = .ok (.iaload, 1) := by decide +kernel
theorem dX0_blameOfVeneer_14 : decode cX0_blameOfVeneer 14 = .ok (.iconst 2, 1) := by decide +kernel
theorem dX0_blameOfVeneer_15 : decode cX0_blameOfVeneer 15 = .ok (.idiv, 1) := by decide +kernel
theorem dX0_blameOfVeneer_16 : decode cX0_blameOfVeneer 16 = .ok (.ireturn, 1) := by decide +kernel
theorem dX0_blameOfVeneer_17 : decode cX0_blameOfVeneer 17 = .ok (.iload_n 1, 1) := by decide +kernel
theorem dX0_blameOfVeneer_18 : decode cX0_blameOfVeneer 18 = .ok (.iconst 1, 1) := by decide +kernel
theorem dX0_blameOfVeneer_19 : decode cX0_blameOfVeneer 19 = .ok (.iadd, 1) := by decide +kernel
theorem dX0_blameOfVeneer_20 : decode cX0_blameOfVeneer 20 = .ok (.aload_n 0, 1) := by decide +kernel
theorem dX0_blameOfVeneer_21 : decode cX0_blameOfVeneer 21 = .ok (.getfield 33, 3) := by decide +kernel
theorem dX0_blameOfVeneer_24 : decode cX0_blameOfVeneer 24 = .ok (.if_icmp .ge 9, 3) := by decide +kernel
theorem dX0_blameOfVeneer_27 : decode cX0_blameOfVeneer 27 = .ok (.iload_n 1, 1) := by decide +kernel
theorem dX0_blameOfVeneer_28 : decode cX0_blameOfVeneer 28 = .ok (.iconst 1, 1) := by decide +kernel
theorem dX0_blameOfVeneer_29 : decode cX0_blameOfVeneer 29 = .ok (.iadd, 1) := by decide +kernel
theorem dX0_blameOfVeneer_30 : decode cX0_blameOfVeneer 30 = .ok (.goto 4, 3) := by decide +kernel
theorem dX0_blameOfVeneer_33 : decode cX0_blameOfVeneer 33 = .ok (.iconst 0, 1) := by decide +kernel
theorem dX0_blameOfVeneer_34 : decode cX0_blameOfVeneer 34 = .ok (.istore_n 2, 1) := by decide +kernel
theorem dX0_blameOfVeneer_35 : decode cX0_blameOfVeneer 35 = .ok (.aload_n 0, 1) := by decide +kernel
theorem dX0_blameOfVeneer_36 : decode cX0_blameOfVeneer 36 = .ok (.getfield 18, 3) := by decide +kernel
theorem dX0_blameOfVeneer_39 : decode cX0_blameOfVeneer 39 = .ok (.iload_n 1, 1) := by decide +kernel
theorem dX0_blameOfVeneer_40 : decode cX0_blameOfVeneer 40 = .ok (.iaload, 1) := by decide +kernel
theorem dX0_blameOfVeneer_41 : decode cX0_blameOfVeneer 41 = .ok (.iconst 2, 1) := by decide +kernel
theorem dX0_blameOfVeneer_42 : decode cX0_blameOfVeneer 42 = .ok (.idiv, 1) := by decide +kernel
theorem dX0_blameOfVeneer_43 : decode cX0_blameOfVeneer 43 = .ok (.aload_n 0, 1) := by decide +kernel
theorem dX0_blameOfVeneer_44 : decode cX0_blameOfVeneer 44 = .ok (.getfield 18, 3) := by decide +kernel
theorem dX0_blameOfVeneer_47 : decode cX0_blameOfVeneer 47 = .ok (.iload_n 2, 1) := by decide +kernel
theorem dX0_blameOfVeneer_48 : decode cX0_blameOfVeneer 48 = .ok (.iaload, 1) := by decide +kernel
theorem dX0_blameOfVeneer_49 : decode cX0_blameOfVeneer 49 = .ok (.iadd, 1) := by decide +kernel
theorem dX0_blameOfVeneer_50 : decode cX0_blameOfVeneer 50 = .ok (.ireturn, 1) := by decide +kernel
theorem dX0_bulkIn_0 : decode cX0_bulkIn 0 = .ok (.iconst 0, 1) := by decide +kernel
theorem dX0_bulkIn_1 : decode cX0_bulkIn 1 = .ok (.istore_n 2, 1) := by decide +kernel
theorem dX0_bulkIn_2 : decode cX0_bulkIn 2 = .ok (.iconst 0, 1) := by decide +kernel
theorem dX0_bulkIn_3 : decode cX0_bulkIn 3 = .ok (.istore_n 3, 1) := by decide +kernel
theorem dX0_bulkIn_4 : decode cX0_bulkIn 4 = .ok (.iload_n 3, 1) := by decide +kernel
theorem dX0_bulkIn_5 : decode cX0_bulkIn 5 = .ok (.aload_n 0, 1) := by decide +kernel
theorem dX0_bulkIn_6 : decode cX0_bulkIn 6 = .ok (.getfield 33, 3) := by decide +kernel
theorem dX0_bulkIn_9 : decode cX0_bulkIn 9 = .ok (.if_icmp .ge 28, 3) := by decide +kernel
theorem dX0_bulkIn_12 : decode cX0_bulkIn 12 = .ok (.aload_n 0, 1) := by decide +kernel
theorem dX0_bulkIn_13 : decode cX0_bulkIn 13 = .ok (.getfield 24, 3) := by decide +kernel
theorem dX0_bulkIn_16 : decode cX0_bulkIn 16 = .ok (.iload_n 3, 1) := by decide +kernel
theorem dX0_bulkIn_17 : decode cX0_bulkIn 17 = .ok (.iaload, 1) := by decide +kernel
theorem dX0_bulkIn_18 : decode cX0_bulkIn 18 = .ok (.iload_n 1, 1) := by decide +kernel
theorem dX0_bulkIn_19 : decode cX0_bulkIn 19 = .ok (.if_icmp .ne 12, 3) := by decide +kernel
theorem dX0_bulkIn_22 : decode cX0_bulkIn 22 = .ok (.iload_n 2, 1) := by decide +kernel
theorem dX0_bulkIn_23 : decode cX0_bulkIn 23 = .ok (.aload_n 0, 1) := by decide +kernel
theorem dX0_bulkIn_24 : decode cX0_bulkIn 24 = .ok (.getfield 15, 3) := by decide +kernel
theorem dX0_bulkIn_27 : decode cX0_bulkIn 27 = .ok (.iload_n 3, 1) := by decide +kernel
theorem dX0_bulkIn_28 : decode cX0_bulkIn 28 = .ok (.iaload, 1) := by decide +kernel
theorem dX0_bulkIn_29 : decode cX0_bulkIn 29 = .ok (.iadd, 1) := by decide +kernel
theorem dX0_bulkIn_30 : decode cX0_bulkIn 30 = .ok (.istore_n 2, 1) := by decide +kernel
theorem dX0_bulkIn_31 : decode cX0_bulkIn 31 = .ok (.iinc 3 1, 3) := by decide +kernel
theorem dX0_bulkIn_34 : decode cX0_bulkIn 34 = .ok (.goto (-30), 3) := by decide +kernel
theorem dX0_bulkIn_37 : decode cX0_bulkIn 37 = .ok (.iload_n 2, 1) := by decide +kernel
theorem dX0_bulkIn_38 : decode cX0_bulkIn 38 = .ok (.ireturn, 1) := by decide +kernel
theorem dX0_canBeCarried_0 : decode cX0_canBeCarried 0 = .ok (.aload_n 0, 1) := by decide +kernel
theorem dX0_canBeCarried_1 : decode cX0_canBeCarried 1 = .ok (.iload_n 1, 1) := by decide +kernel
theorem dX0_canBeCarried_2 : decode cX0_canBeCarried 2 = .ok (.invokevirtual 55, 3) := by decide +kernel
theorem dX0_canBeCarried_5 : decode cX0_canBeCarried 5 = .ok (.ifCond .eq 13, 3) := by decide +kernel
theorem dX0_canBeCarried_8 : decode cX0_canBeCarried 8 = .ok (.aload_n 0, 1) := by decide +kernel
theorem dX0_canBeCarried_9 : decode cX0_canBeCarried 9 = .ok (.getfield 24, 3) := by decide +kernel
theorem dX0_canBeCarried_12 : decode cX0_canBeCarried 12 = .ok (.iload_n 1, 1) := by decide +kernel
theorem dX0_canBeCarried_13 : decode cX0_canBeCarried 13 = .ok (.iaload, 1) := by decide +kernel
theorem dX0_canBeCarried_14 : decode cX0_canBeCarried 14 = .ok (.iload_n 2, 1) := by decide +kernel
theorem dX0_canBeCarried_15 : decode cX0_canBeCarried 15 = .ok (.if_icmp .ne 5, 3) := by decide +kernel
theorem dX0_canBeCarried_18 : decode cX0_canBeCarried 18 = .ok (.iconst 0, 1) := by decide +kernel
theorem dX0_canBeCarried_19 : decode cX0_canBeCarried 19 = .ok (.ireturn, 1) := by decide +kernel
theorem dX0_canBeCarried_20 : decode cX0_canBeCarried 20 = .ok (.iload_n 2, 1) := by decide +kernel
theorem dX0_canBeCarried_21 : decode cX0_canBeCarried 21 = .ok (.bipush 9, 2) := by decide +kernel
theorem dX0_canBeCarried_23 : decode cX0_canBeCarried 23 = .ok (.if_icmp .ne 5, 3) := by decide +kernel
theorem dX0_canBeCarried_26 : decode cX0_canBeCarried 26 = .ok (.iconst 1, 1) := by decide +kernel
theorem dX0_canBeCarried_27 : decode cX0_canBeCarried 27 = .ok (.ireturn, 1) := by decide +kernel
theorem dX0_canBeCarried_28 : decode cX0_canBeCarried 28 = .ok (.aload_n 0, 1) := by decide +kernel
theorem dX0_canBeCarried_29 : decode cX0_canBeCarried 29 = .ok (.iload_n 2, 1) := by decide +kernel
theorem dX0_canBeCarried_30 : decode cX0_canBeCarried 30 = .ok (.aload_n 0, 1) := by decide +kernel
theorem dX0_canBeCarried_31 : decode cX0_canBeCarried 31 = .ok (.getfield 15, 3) := by decide +kernel
theorem dX0_canBeCarried_34 : decode cX0_canBeCarried 34 = .ok (.iload_n 1, 1) := by decide +kernel
theorem dX0_canBeCarried_35 : decode cX0_canBeCarried 35 = .ok (.iaload, 1) := by decide +kernel
theorem dX0_canBeCarried_36 : decode cX0_canBeCarried 36 = .ok (.invokevirtual 84, 3) := by decide +kernel
theorem dX0_canBeCarried_39 : decode cX0_canBeCarried 39 = .ok (.ifCond .eq 16, 3) := by decide +kernel
theorem dX0_canBeCarried_42 : decode cX0_canBeCarried 42 = .ok (.aload_n 0, 1) := by decide +kernel
theorem dX0_canBeCarried_43 : decode cX0_canBeCarried 43 = .ok (.iload_n 1, 1) := by decide +kernel
theorem dX0_canBeCarried_44 : decode cX0_canBeCarried 44 = .ok (.iload_n 2, 1) := by decide +kernel
theorem dX0_canBeCarried_45 : decode cX0_canBeCarried 45 = .ok (.invokevirtual 88, 3) := by decide +kernel
theorem dX0_canBeCarried_48 : decode cX0_canBeCarried 48 = .ok (.ifCond .eq 7, 3) := by decide +kernel
theorem dX0_canBeCarried_51 : decode cX0_canBeCarried 51 = .ok (.iconst 1, 1) := by decide +kernel
theorem dX0_canBeCarried_52 : decode cX0_canBeCarried 52 = .ok (.goto 4, 3) := by decide +kernel
theorem dX0_canBeCarried_55 : decode cX0_canBeCarried 55 = .ok (.iconst 0, 1) := by decide +kernel
theorem dX0_canBeCarried_56 : decode cX0_canBeCarried 56 = .ok (.ireturn, 1) := by decide +kernel
theorem dX0_carryTo_0 : decode cX0_carryTo 0 = .ok (.aload_n 0, 1) := by decide +kernel
theorem dX0_carryTo_1 : decode cX0_carryTo 1 = .ok (.iload_n 1, 1) := by decide +kernel
theorem dX0_carryTo_2 : decode cX0_carryTo 2 = .ok (.invokevirtual 55, 3) := by decide +kernel
theorem dX0_carryTo_5 : decode cX0_carryTo 5 = .ok (.ifCond .eq 10, 3) := by decide +kernel
theorem dX0_carryTo_8 : decode cX0_carryTo 8 = .ok (.iload_n 2, 1) := by decide +kernel
theorem dX0_carryTo_9 : decode cX0_carryTo 9 = .ok (.invokestatic 100, 3) := by decide +kernel
theorem dX0_carryTo_12 : decode cX0_carryTo 12 = .ok (.ifCond .ne 5, 3) := by decide +kernel
theorem dX0_carryTo_15 : decode cX0_carryTo 15 = .ok (.iconst (-1), 1) := by decide +kernel
theorem dX0_carryTo_16 : decode cX0_carryTo 16 = .ok (.ireturn, 1) := by decide +kernel
theorem dX0_carryTo_17 : decode cX0_carryTo 17 = .ok (.aload_n 0, 1) := by decide +kernel
theorem dX0_carryTo_18 : decode cX0_carryTo 18 = .ok (.iload_n 1, 1) := by decide +kernel
theorem dX0_carryTo_19 : decode cX0_carryTo 19 = .ok (.iload_n 2, 1) := by decide +kernel
theorem dX0_carryTo_20 : decode cX0_carryTo 20 = .ok (.invokevirtual 103, 3) := by decide +kernel
theorem dX0_carryTo_23 : decode cX0_carryTo 23 = .ok (.ifCond .ne 6, 3) := by decide +kernel
theorem dX0_carryTo_26 : decode cX0_carryTo 26 = .ok (.bipush (-3), 2) := by decide +kernel
theorem dX0_carryTo_28 : decode cX0_carryTo 28 = .ok (.ireturn, 1) := by decide +kernel
theorem dX0_carryTo_29 : decode cX0_carryTo 29 = .ok (.aload_n 0, 1) := by decide +kernel
theorem dX0_carryTo_30 : decode cX0_carryTo 30 = .ok (.getfield 24, 3) := by decide +kernel
theorem dX0_carryTo_33 : decode cX0_carryTo 33 = .ok (.iload_n 1, 1) := by decide +kernel
theorem dX0_carryTo_34 : decode cX0_carryTo 34 = .ok (.iaload, 1) := by decide +kernel
theorem dX0_carryTo_35 : decode cX0_carryTo 35 = .ok (.istore_n 3, 1) := by decide +kernel
theorem dX0_carryTo_36 : decode cX0_carryTo 36 = .ok (.aload_n 0, 1) := by decide +kernel
theorem dX0_carryTo_37 : decode cX0_carryTo 37 = .ok (.getfield 24, 3) := by decide +kernel
theorem dX0_carryTo_40 : decode cX0_carryTo 40 = .ok (.iload_n 1, 1) := by decide +kernel
theorem dX0_carryTo_41 : decode cX0_carryTo 41 = .ok (.iload_n 2, 1) := by decide +kernel
theorem dX0_carryTo_42 : decode cX0_carryTo 42 = .ok (.iastore, 1) := by decide +kernel
theorem dX0_carryTo_43 : decode cX0_carryTo 43 = .ok (.iload_n 3, 1) := by decide +kernel
theorem dX0_carryTo_44 : decode cX0_carryTo 44 = .ok (.ireturn, 1) := by decide +kernel
theorem dX0_companyOf_0 : decode cX0_companyOf 0 = .ok (.aload_n 0, 1) := by decide +kernel
theorem dX0_companyOf_1 : decode cX0_companyOf 1 = .ok (.getfield 24, 3) := by decide +kernel
theorem dX0_companyOf_4 : decode cX0_companyOf 4 = .ok (.iload_n 1, 1) := by decide +kernel
theorem dX0_companyOf_5 : decode cX0_companyOf 5 = .ok (.iaload, 1) := by decide +kernel
theorem dX0_companyOf_6 : decode cX0_companyOf 6 = .ok (.bipush 9, 2) := by decide +kernel
theorem dX0_companyOf_8 : decode cX0_companyOf 8 = .ok (.if_icmp .ne 5, 3) := by decide +kernel
theorem dX0_companyOf_11 : decode cX0_companyOf 11 = .ok (.iconst 0, 1) := by decide +kernel
theorem dX0_companyOf_12 : decode cX0_companyOf 12 = .ok (.ireturn, 1) := by decide +kernel
theorem dX0_companyOf_13 : decode cX0_companyOf 13 = .ok (.iconst 0, 1) := by decide +kernel
theorem dX0_companyOf_14 : decode cX0_companyOf 14 = .ok (.istore_n 2, 1) := by decide +kernel
theorem dX0_companyOf_15 : decode cX0_companyOf 15 = .ok (.iconst 0, 1) := by decide +kernel
theorem dX0_companyOf_16 : decode cX0_companyOf 16 = .ok (.istore_n 3, 1) := by decide +kernel
theorem dX0_companyOf_17 : decode cX0_companyOf 17 = .ok (.iload_n 3, 1) := by decide +kernel
theorem dX0_companyOf_18 : decode cX0_companyOf 18 = .ok (.aload_n 0, 1) := by decide +kernel
theorem dX0_companyOf_19 : decode cX0_companyOf 19 = .ok (.getfield 33, 3) := by decide +kernel
theorem dX0_companyOf_22 : decode cX0_companyOf 22 = .ok (.if_icmp .ge 64, 3) := by decide +kernel
theorem dX0_companyOf_25 : decode cX0_companyOf 25 = .ok (.aload_n 0, 1) := by decide +kernel
theorem dX0_companyOf_26 : decode cX0_companyOf 26 = .ok (.getfield 9, 3) := by decide +kernel
theorem dX0_companyOf_29 : decode cX0_companyOf 29 = .ok (.iload_n 3, 1) := by decide +kernel
theorem dX0_companyOf_30 : decode cX0_companyOf 30 = .ok (.iaload, 1) := by decide +kernel
theorem dX0_companyOf_31 : decode cX0_companyOf 31 = .ok (.iconst 1, 1) := by decide +kernel
theorem dX0_companyOf_32 : decode cX0_companyOf 32 = .ok (.if_icmp .eq 13, 3) := by decide +kernel
theorem dX0_companyOf_35 : decode cX0_companyOf 35 = .ok (.aload_n 0, 1) := by decide +kernel
theorem dX0_companyOf_36 : decode cX0_companyOf 36 = .ok (.getfield 9, 3) := by decide +kernel
theorem dX0_companyOf_39 : decode cX0_companyOf 39 = .ok (.iload_n 3, 1) := by decide +kernel
theorem dX0_companyOf_40 : decode cX0_companyOf 40 = .ok (.iaload, 1) := by decide +kernel
theorem dX0_companyOf_41 : decode cX0_companyOf 41 = .ok (.iconst 4, 1) := by decide +kernel
theorem dX0_companyOf_42 : decode cX0_companyOf 42 = .ok (.if_icmp .ne 7, 3) := by decide +kernel
theorem dX0_companyOf_45 : decode cX0_companyOf 45 = .ok (.iconst 1, 1) := by decide +kernel
theorem dX0_companyOf_46 : decode cX0_companyOf 46 = .ok (.goto 4, 3) := by decide +kernel
theorem dX0_companyOf_49 : decode cX0_companyOf 49 = .ok (.iconst 0, 1) := by decide +kernel
theorem dX0_companyOf_50 : decode cX0_companyOf 50 = .ok (.istore 4, 2) := by decide +kernel
theorem dX0_companyOf_52 : decode cX0_companyOf 52 = .ok (.iload_n 3, 1) := by decide +kernel
theorem dX0_companyOf_53 : decode cX0_companyOf 53 = .ok (.iload_n 1, 1) := by decide +kernel
theorem dX0_companyOf_54 : decode cX0_companyOf 54 = .ok (.if_icmp .eq 26, 3) := by decide +kernel
theorem dX0_companyOf_57 : decode cX0_companyOf 57 = .ok (.iload 4, 2) := by decide +kernel
theorem dX0_companyOf_59 : decode cX0_companyOf 59 = .ok (.ifCond .eq 21, 3) := by decide +kernel
theorem dX0_companyOf_62 : decode cX0_companyOf 62 = .ok (.aload_n 0, 1) := by decide +kernel
theorem dX0_companyOf_63 : decode cX0_companyOf 63 = .ok (.getfield 24, 3) := by decide +kernel
theorem dX0_companyOf_66 : decode cX0_companyOf 66 = .ok (.iload_n 3, 1) := by decide +kernel
theorem dX0_companyOf_67 : decode cX0_companyOf 67 = .ok (.iaload, 1) := by decide +kernel
theorem dX0_companyOf_68 : decode cX0_companyOf 68 = .ok (.aload_n 0, 1) := by decide +kernel
theorem dX0_companyOf_69 : decode cX0_companyOf 69 = .ok (.getfield 24, 3) := by decide +kernel
theorem dX0_companyOf_72 : decode cX0_companyOf 72 = .ok (.iload_n 1, 1) := by decide +kernel
theorem dX0_companyOf_73 : decode cX0_companyOf 73 = .ok (.iaload, 1) := by decide +kernel
theorem dX0_companyOf_74 : decode cX0_companyOf 74 = .ok (.if_icmp .ne 6, 3) := by decide +kernel
theorem dX0_companyOf_77 : decode cX0_companyOf 77 = .ok (.iinc 2 1, 3) := by decide +kernel
theorem dX0_companyOf_80 : decode cX0_companyOf 80 = .ok (.iinc 3 1, 3) := by decide +kernel
theorem dX0_companyOf_83 : decode cX0_companyOf 83 = .ok (.goto (-66), 3) := by decide +kernel
theorem dX0_companyOf_86 : decode cX0_companyOf 86 = .ok (.iload_n 2, 1) := by decide +kernel
theorem dX0_companyOf_87 : decode cX0_companyOf 87 = .ok (.ireturn, 1) := by decide +kernel
theorem dX0_copyFrom_0 : decode cX0_copyFrom 0 = .ok (.aload_n 1, 1) := by decide +kernel
theorem dX0_copyFrom_1 : decode cX0_copyFrom 1 = .ok (.getfield 9, 3) := by decide +kernel
theorem dX0_copyFrom_4 : decode cX0_copyFrom 4 = .ok (.iconst 0, 1) := by decide +kernel
theorem dX0_copyFrom_5 : decode cX0_copyFrom 5 = .ok (.aload_n 0, 1) := by decide +kernel
theorem dX0_copyFrom_6 : decode cX0_copyFrom 6 = .ok (.getfield 9, 3) := by decide +kernel
theorem dX0_copyFrom_9 : decode cX0_copyFrom 9 = .ok (.iconst 0, 1) := by decide +kernel
theorem dX0_copyFrom_10 : decode cX0_copyFrom 10 = .ok (.bipush 7, 2) := by decide +kernel
theorem dX0_copyFrom_12 : decode cX0_copyFrom 12 = .ok (.invokestatic 49, 3) := by decide +kernel
theorem dX0_copyFrom_15 : decode cX0_copyFrom 15 = .ok (.aload_n 1, 1) := by decide +kernel
theorem dX0_copyFrom_16 : decode cX0_copyFrom 16 = .ok (.getfield 15, 3) := by decide +kernel
theorem dX0_copyFrom_19 : decode cX0_copyFrom 19 = .ok (.iconst 0, 1) := by decide +kernel
theorem dX0_copyFrom_20 : decode cX0_copyFrom 20 = .ok (.aload_n 0, 1) := by decide +kernel
theorem dX0_copyFrom_21 : decode cX0_copyFrom 21 = .ok (.getfield 15, 3) := by decide +kernel
theorem dX0_copyFrom_24 : decode cX0_copyFrom 24 = .ok (.iconst 0, 1) := by decide +kernel
theorem dX0_copyFrom_25 : decode cX0_copyFrom 25 = .ok (.bipush 7, 2) := by decide +kernel
theorem dX0_copyFrom_27 : decode cX0_copyFrom 27 = .ok (.invokestatic 49, 3) := by decide +kernel
theorem dX0_copyFrom_30 : decode cX0_copyFrom 30 = .ok (.aload_n 1, 1) := by decide +kernel
theorem dX0_copyFrom_31 : decode cX0_copyFrom 31 = .ok (.getfield 18, 3) := by decide +kernel
theorem dX0_copyFrom_34 : decode cX0_copyFrom 34 = .ok (.iconst 0, 1) := by decide +kernel
theorem dX0_copyFrom_35 : decode cX0_copyFrom 35 = .ok (.aload_n 0, 1) := by decide +kernel
theorem dX0_copyFrom_36 : decode cX0_copyFrom 36 = .ok (.getfield 18, 3) := by decide +kernel
theorem dX0_copyFrom_39 : decode cX0_copyFrom 39 = .ok (.iconst 0, 1) := by decide +kernel
theorem dX0_copyFrom_40 : decode cX0_copyFrom 40 = .ok (.bipush 7, 2) := by decide +kernel
theorem dX0_copyFrom_42 : decode cX0_copyFrom 42 = .ok (.invokestatic 49, 3) := by decide +kernel
theorem dX0_copyFrom_45 : decode cX0_copyFrom 45 = .ok (.aload_n 1, 1) := by decide +kernel
theorem dX0_copyFrom_46 : decode cX0_copyFrom 46 = .ok (.getfield 21, 3) := by decide +kernel
theorem dX0_copyFrom_49 : decode cX0_copyFrom 49 = .ok (.iconst 0, 1) := by decide +kernel
theorem dX0_copyFrom_50 : decode cX0_copyFrom 50 = .ok (.aload_n 0, 1) := by decide +kernel
theorem dX0_copyFrom_51 : decode cX0_copyFrom 51 = .ok (.getfield 21, 3) := by decide +kernel
theorem dX0_copyFrom_54 : decode cX0_copyFrom 54 = .ok (.iconst 0, 1) := by decide +kernel
theorem dX0_copyFrom_55 : decode cX0_copyFrom 55 = .ok (.bipush 7, 2) := by decide +kernel
theorem dX0_copyFrom_57 : decode cX0_copyFrom 57 = .ok (.invokestatic 49, 3) := by decide +kernel
theorem dX0_copyFrom_60 : decode cX0_copyFrom 60 = .ok (.aload_n 1, 1) := by decide +kernel
theorem dX0_copyFrom_61 : decode cX0_copyFrom 61 = .ok (.getfield 24, 3) := by decide +kernel
theorem dX0_copyFrom_64 : decode cX0_copyFrom 64 = .ok (.iconst 0, 1) := by decide +kernel
theorem dX0_copyFrom_65 : decode cX0_copyFrom 65 = .ok (.aload_n 0, 1) := by decide +kernel
theorem dX0_copyFrom_66 : decode cX0_copyFrom 66 = .ok (.getfield 24, 3) := by decide +kernel
theorem dX0_copyFrom_69 : decode cX0_copyFrom 69 = .ok (.iconst 0, 1) := by decide +kernel
theorem dX0_copyFrom_70 : decode cX0_copyFrom 70 = .ok (.bipush 7, 2) := by decide +kernel
theorem dX0_copyFrom_72 : decode cX0_copyFrom 72 = .ok (.invokestatic 49, 3) := by decide +kernel
theorem dX0_copyFrom_75 : decode cX0_copyFrom 75 = .ok (.aload_n 1, 1) := by decide +kernel
theorem dX0_copyFrom_76 : decode cX0_copyFrom 76 = .ok (.getfield 27, 3) := by decide +kernel
theorem dX0_copyFrom_79 : decode cX0_copyFrom 79 = .ok (.iconst 0, 1) := by decide +kernel
theorem dX0_copyFrom_80 : decode cX0_copyFrom 80 = .ok (.aload_n 0, 1) := by decide +kernel
theorem dX0_copyFrom_81 : decode cX0_copyFrom 81 = .ok (.getfield 27, 3) := by decide +kernel
theorem dX0_copyFrom_84 : decode cX0_copyFrom 84 = .ok (.iconst 0, 1) := by decide +kernel
theorem dX0_copyFrom_85 : decode cX0_copyFrom 85 = .ok (.bipush 6, 2) := by decide +kernel
theorem dX0_copyFrom_87 : decode cX0_copyFrom 87 = .ok (.invokestatic 49, 3) := by decide +kernel
theorem dX0_copyFrom_90 : decode cX0_copyFrom 90 = .ok (.aload_n 1, 1) := by decide +kernel
theorem dX0_copyFrom_91 : decode cX0_copyFrom 91 = .ok (.getfield 30, 3) := by decide +kernel
theorem dX0_copyFrom_94 : decode cX0_copyFrom 94 = .ok (.iconst 0, 1) := by decide +kernel
theorem dX0_copyFrom_95 : decode cX0_copyFrom 95 = .ok (.aload_n 0, 1) := by decide +kernel
theorem dX0_copyFrom_96 : decode cX0_copyFrom 96 = .ok (.getfield 30, 3) := by decide +kernel
theorem dX0_copyFrom_99 : decode cX0_copyFrom 99 = .ok (.iconst 0, 1) := by decide +kernel
theorem dX0_copyFrom_100 : decode cX0_copyFrom 100 = .ok (.iconst 3, 1) := by decide +kernel
theorem dX0_copyFrom_101 : decode cX0_copyFrom 101 = .ok (.invokestatic 49, 3) := by decide +kernel
theorem dX0_copyFrom_104 : decode cX0_copyFrom 104 = .ok (.aload_n 0, 1) := by decide +kernel
theorem dX0_copyFrom_105 : decode cX0_copyFrom 105 = .ok (.aload_n 1, 1) := by decide +kernel
theorem dX0_copyFrom_106 : decode cX0_copyFrom 106 = .ok (.getfield 33, 3) := by decide +kernel
theorem dX0_copyFrom_109 : decode cX0_copyFrom 109 = .ok (.putfield 33, 3) := by decide +kernel
theorem dX0_copyFrom_112 : decode cX0_copyFrom 112 = .ok (.aload_n 0, 1) := by decide +kernel
theorem dX0_copyFrom_113 : decode cX0_copyFrom 113 = .ok (.aload_n 1, 1) := by decide +kernel
theorem dX0_copyFrom_114 : decode cX0_copyFrom 114 = .ok (.getfield 37, 3) := by decide +kernel
theorem dX0_copyFrom_117 : decode cX0_copyFrom 117 = .ok (.putfield 37, 3) := by decide +kernel
theorem dX0_copyFrom_120 : decode cX0_copyFrom 120 = .ok (.aload_n 0, 1) := by decide +kernel
theorem dX0_copyFrom_121 : decode cX0_copyFrom 121 = .ok (.aload_n 1, 1) := by decide +kernel
theorem dX0_copyFrom_122 : decode cX0_copyFrom 122 = .ok (.getfield 40, 3) := by decide +kernel
theorem dX0_copyFrom_125 : decode cX0_copyFrom 125 = .ok (.putfield 40, 3) := by decide +kernel
theorem dX0_copyFrom_128 : decode cX0_copyFrom 128 = .ok (.return_, 1) := by decide +kernel
theorem dX0_emptyRooms_0 : decode cX0_emptyRooms 0 = .ok (.aload_n 0, 1) := by decide +kernel
theorem dX0_emptyRooms_1 : decode cX0_emptyRooms 1 = .ok (.getfield 24, 3) := by decide +kernel
theorem dX0_emptyRooms_4 : decode cX0_emptyRooms 4 = .ok (.bipush 9, 2) := by decide +kernel
theorem dX0_emptyRooms_6 : decode cX0_emptyRooms 6 = .ok (.invokestatic 43, 3) := by decide +kernel
theorem dX0_emptyRooms_9 : decode cX0_emptyRooms 9 = .ok (.return_, 1) := by decide +kernel
theorem dX0_hasPiece_0 : decode cX0_hasPiece 0 = .ok (.iload_n 1, 1) := by decide +kernel
theorem dX0_hasPiece_1 : decode cX0_hasPiece 1 = .ok (.ifCond .lt 21, 3) := by decide +kernel
theorem dX0_hasPiece_4 : decode cX0_hasPiece 4 = .ok (.iload_n 1, 1) := by decide +kernel
theorem dX0_hasPiece_5 : decode cX0_hasPiece 5 = .ok (.aload_n 0, 1) := by decide +kernel
theorem dX0_hasPiece_6 : decode cX0_hasPiece 6 = .ok (.getfield 33, 3) := by decide +kernel
theorem dX0_hasPiece_9 : decode cX0_hasPiece 9 = .ok (.if_icmp .ge 13, 3) := by decide +kernel
theorem dX0_hasPiece_12 : decode cX0_hasPiece 12 = .ok (.iload_n 1, 1) := by decide +kernel
theorem dX0_hasPiece_13 : decode cX0_hasPiece 13 = .ok (.bipush 7, 2) := by decide +kernel
theorem dX0_hasPiece_15 : decode cX0_hasPiece 15 = .ok (.if_icmp .ge 7, 3) := by decide +kernel
theorem dX0_hasPiece_18 : decode cX0_hasPiece 18 = .ok (.iconst 1, 1) := by decide +kernel
theorem dX0_hasPiece_19 : decode cX0_hasPiece 19 = .ok (.goto 4, 3) := by decide +kernel
theorem dX0_hasPiece_22 : decode cX0_hasPiece 22 = .ok (.iconst 0, 1) := by decide +kernel
theorem dX0_hasPiece_23 : decode cX0_hasPiece 23 = .ok (.ireturn, 1) := by decide +kernel
theorem dX0_hasSpace_0 : decode cX0_hasSpace 0 = .ok (.iload_n 1, 1) := by decide +kernel
theorem dX0_hasSpace_1 : decode cX0_hasSpace 1 = .ok (.invokestatic 78, 3) := by decide +kernel
theorem dX0_hasSpace_4 : decode cX0_hasSpace 4 = .ok (.ifCond .eq 23, 3) := by decide +kernel
theorem dX0_hasSpace_7 : decode cX0_hasSpace 7 = .ok (.aload_n 0, 1) := by decide +kernel
theorem dX0_hasSpace_8 : decode cX0_hasSpace 8 = .ok (.iload_n 1, 1) := by decide +kernel
theorem dX0_hasSpace_9 : decode cX0_hasSpace 9 = .ok (.invokevirtual 81, 3) := by decide +kernel
theorem dX0_hasSpace_12 : decode cX0_hasSpace 12 = .ok (.iload_n 2, 1) := by decide +kernel
theorem dX0_hasSpace_13 : decode cX0_hasSpace 13 = .ok (.iadd, 1) := by decide +kernel
theorem dX0_hasSpace_14 : decode cX0_hasSpace 14 = .ok (.aload_n 0, 1) := by decide +kernel
theorem dX0_hasSpace_15 : decode cX0_hasSpace 15 = .ok (.getfield 27, 3) := by decide +kernel
theorem dX0_hasSpace_18 : decode cX0_hasSpace 18 = .ok (.iload_n 1, 1) := by decide +kernel
theorem dX0_hasSpace_19 : decode cX0_hasSpace 19 = .ok (.iaload, 1) := by decide +kernel
theorem dX0_hasSpace_20 : decode cX0_hasSpace 20 = .ok (.if_icmp .gt 7, 3) := by decide +kernel
theorem dX0_hasSpace_23 : decode cX0_hasSpace 23 = .ok (.iconst 1, 1) := by decide +kernel
theorem dX0_hasSpace_24 : decode cX0_hasSpace 24 = .ok (.goto 4, 3) := by decide +kernel
theorem dX0_hasSpace_27 : decode cX0_hasSpace 27 = .ok (.iconst 0, 1) := by decide +kernel
theorem dX0_hasSpace_28 : decode cX0_hasSpace 28 = .ok (.ireturn, 1) := by decide +kernel
theorem dX0_init_0 : decode cX0_init 0 = .ok (.aload_n 0, 1) := by decide +kernel
theorem dX0_init_1 : decode cX0_init 1 = .ok (.invokespecial 3, 3) := by decide +kernel
theorem dX0_init_4 : decode cX0_init 4 = .ok (.aload_n 0, 1) := by decide +kernel
theorem dX0_init_5 : decode cX0_init 5 = .ok (.bipush 7, 2) := by decide +kernel
theorem dX0_init_7 : decode cX0_init 7 = .ok (.newarray .int, 2) := by decide +kernel
theorem dX0_init_9 : decode cX0_init 9 = .ok (.putfield 9, 3) := by decide +kernel
theorem dX0_init_12 : decode cX0_init 12 = .ok (.aload_n 0, 1) := by decide +kernel
theorem dX0_init_13 : decode cX0_init 13 = .ok (.bipush 7, 2) := by decide +kernel
theorem dX0_init_15 : decode cX0_init 15 = .ok (.newarray .int, 2) := by decide +kernel
theorem dX0_init_17 : decode cX0_init 17 = .ok (.putfield 15, 3) := by decide +kernel
theorem dX0_init_20 : decode cX0_init 20 = .ok (.aload_n 0, 1) := by decide +kernel
theorem dX0_init_21 : decode cX0_init 21 = .ok (.bipush 7, 2) := by decide +kernel
theorem dX0_init_23 : decode cX0_init 23 = .ok (.newarray .int, 2) := by decide +kernel
theorem dX0_init_25 : decode cX0_init 25 = .ok (.putfield 18, 3) := by decide +kernel
theorem dX0_init_28 : decode cX0_init 28 = .ok (.aload_n 0, 1) := by decide +kernel
theorem dX0_init_29 : decode cX0_init 29 = .ok (.bipush 7, 2) := by decide +kernel
theorem dX0_init_31 : decode cX0_init 31 = .ok (.newarray .int, 2) := by decide +kernel
theorem dX0_init_33 : decode cX0_init 33 = .ok (.putfield 21, 3) := by decide +kernel
theorem dX0_init_36 : decode cX0_init 36 = .ok (.aload_n 0, 1) := by decide +kernel
theorem dX0_init_37 : decode cX0_init 37 = .ok (.bipush 7, 2) := by decide +kernel
theorem dX0_init_39 : decode cX0_init 39 = .ok (.newarray .int, 2) := by decide +kernel
theorem dX0_init_41 : decode cX0_init 41 = .ok (.putfield 24, 3) := by decide +kernel
theorem dX0_init_44 : decode cX0_init 44 = .ok (.aload_n 0, 1) := by decide +kernel
theorem dX0_init_45 : decode cX0_init 45 = .ok (.bipush 6, 2) := by decide +kernel
theorem dX0_init_47 : decode cX0_init 47 = .ok (.newarray .int, 2) := by decide +kernel
theorem dX0_init_49 : decode cX0_init 49 = .ok (.putfield 27, 3) := by decide +kernel
theorem dX0_init_52 : decode cX0_init 52 = .ok (.aload_n 0, 1) := by decide +kernel
theorem dX0_init_53 : decode cX0_init 53 = .ok (.iconst 3, 1) := by decide +kernel
theorem dX0_init_54 : decode cX0_init 54 = .ok (.newarray .int, 2) := by decide +kernel
theorem dX0_init_56 : decode cX0_init 56 = .ok (.putfield 30, 3) := by decide +kernel
theorem dX0_init_59 : decode cX0_init 59 = .ok (.aload_n 0, 1) := by decide +kernel
theorem dX0_init_60 : decode cX0_init 60 = .ok (.iconst 0, 1) := by decide +kernel
theorem dX0_init_61 : decode cX0_init 61 = .ok (.putfield 33, 3) := by decide +kernel
theorem dX0_init_64 : decode cX0_init 64 = .ok (.aload_n 0, 1) := by decide +kernel
theorem dX0_init_65 : decode cX0_init 65 = .ok (.iconst 2, 1) := by decide +kernel
theorem dX0_init_66 : decode cX0_init 66 = .ok (.putfield 37, 3) := by decide +kernel
theorem dX0_init_69 : decode cX0_init 69 = .ok (.aload_n 0, 1) := by decide +kernel
theorem dX0_init_70 : decode cX0_init 70 = .ok (.iconst 0, 1) := by decide +kernel
theorem dX0_init_71 : decode cX0_init 71 = .ok (.putfield 40, 3) := by decide +kernel
theorem dX0_init_74 : decode cX0_init 74 = .ok (.aload_n 0, 1) := by decide +kernel
theorem dX0_init_75 : decode cX0_init 75 = .ok (.getfield 27, 3) := by decide +kernel
theorem dX0_init_78 : decode cX0_init 78 = .ok (.bipush 9, 2) := by decide +kernel
theorem dX0_init_80 : decode cX0_init 80 = .ok (.invokestatic 43, 3) := by decide +kernel
theorem dX0_init_83 : decode cX0_init 83 = .ok (.aload_n 0, 1) := by decide +kernel
theorem dX0_init_84 : decode cX0_init 84 = .ok (.getfield 30, 3) := by decide +kernel
theorem dX0_init_87 : decode cX0_init 87 = .ok (.bipush 6, 2) := by decide +kernel
theorem dX0_init_89 : decode cX0_init 89 = .ok (.invokestatic 43, 3) := by decide +kernel
theorem dX0_init_92 : decode cX0_init 92 = .ok (.return_, 1) := by decide +kernel
theorem dX0_letYearsGoBy_0 : decode cX0_letYearsGoBy 0 = .ok (.iload_n 1, 1) := by decide +kernel
theorem dX0_letYearsGoBy_1 : decode cX0_letYearsGoBy 1 = .ok (.iconst 1, 1) := by decide +kernel
theorem dX0_letYearsGoBy_2 : decode cX0_letYearsGoBy 2 = .ok (.bipush 60, 2) := by decide +kernel
theorem dX0_letYearsGoBy_4 : decode cX0_letYearsGoBy 4 = .ok (.sipush 999, 3) := by decide +kernel
theorem dX0_letYearsGoBy_7 : decode cX0_letYearsGoBy 7 = .ok (.aload_n 0, 1) := by decide +kernel
theorem dX0_letYearsGoBy_8 : decode cX0_letYearsGoBy 8 = .ok (.getfield 40, 3) := by decide +kernel
theorem dX0_letYearsGoBy_11 : decode cX0_letYearsGoBy 11 = .ok (.isub, 1) := by decide +kernel
theorem dX0_letYearsGoBy_12 : decode cX0_letYearsGoBy 12 = .ok (.invokestatic 91, 3) := by decide +kernel
theorem dX0_letYearsGoBy_15 : decode cX0_letYearsGoBy 15 = .ok (.invokestatic 106, 3) := by decide +kernel
theorem dX0_letYearsGoBy_18 : decode cX0_letYearsGoBy 18 = .ok (.istore_n 2, 1) := by decide +kernel
theorem dX0_letYearsGoBy_19 : decode cX0_letYearsGoBy 19 = .ok (.iload_n 2, 1) := by decide +kernel
theorem dX0_letYearsGoBy_20 : decode cX0_letYearsGoBy 20 = .ok (.ifCond .eq 5, 3) := by decide +kernel
theorem dX0_letYearsGoBy_23 : decode cX0_letYearsGoBy 23 = .ok (.iload_n 2, 1) := by decide +kernel
theorem dX0_letYearsGoBy_24 : decode cX0_letYearsGoBy 24 = .ok (.ireturn, 1) := by decide +kernel
theorem dX0_letYearsGoBy_25 : decode cX0_letYearsGoBy 25 = .ok (.iconst 0, 1) := by decide +kernel
theorem dX0_letYearsGoBy_26 : decode cX0_letYearsGoBy 26 = .ok (.istore_n 3, 1) := by decide +kernel
theorem dX0_letYearsGoBy_27 : decode cX0_letYearsGoBy 27 = .ok (.iload_n 3, 1) := by decide +kernel
theorem dX0_letYearsGoBy_28 : decode cX0_letYearsGoBy 28 = .ok (.iload_n 1, 1) := by decide +kernel
theorem dX0_letYearsGoBy_29 : decode cX0_letYearsGoBy 29 = .ok (.if_icmp .ge 13, 3) := by decide +kernel
theorem dX0_letYearsGoBy_32 : decode cX0_letYearsGoBy 32 = .ok (.aload_n 0, 1) := by decide +kernel
theorem dX0_letYearsGoBy_33 : decode cX0_letYearsGoBy 33 = .ok (.invokevirtual 113, 3) := by decide +kernel
theorem dX0_letYearsGoBy_36 : decode cX0_letYearsGoBy 36 = .ok (.iinc 3 1, 3) := by decide +kernel
theorem dX0_letYearsGoBy_39 : decode cX0_letYearsGoBy 39 = .ok (.goto (-12), 3) := by decide +kernel
theorem dX0_letYearsGoBy_42 : decode cX0_letYearsGoBy 42 = .ok (.aload_n 0, 1) := by decide +kernel
theorem dX0_letYearsGoBy_43 : decode cX0_letYearsGoBy 43 = .ok (.getfield 40, 3) := by decide +kernel
theorem dX0_letYearsGoBy_46 : decode cX0_letYearsGoBy 46 = .ok (.ireturn, 1) := by decide +kernel
theorem dX0_nameHeirs_0 : decode cX0_nameHeirs 0 = .ok (.iload_n 1, 1) := by decide +kernel
theorem dX0_nameHeirs_1 : decode cX0_nameHeirs 1 = .ok (.iconst 2, 1) := by decide +kernel
theorem dX0_nameHeirs_2 : decode cX0_nameHeirs 2 = .ok (.iconst 4, 1) := by decide +kernel
theorem dX0_nameHeirs_3 : decode cX0_nameHeirs 3 = .ok (.invokestatic 106, 3) := by decide +kernel
theorem dX0_nameHeirs_6 : decode cX0_nameHeirs 6 = .ok (.istore_n 2, 1) := by decide +kernel
theorem dX0_nameHeirs_7 : decode cX0_nameHeirs 7 = .ok (.iload_n 2, 1) := by decide +kernel
theorem dX0_nameHeirs_8 : decode cX0_nameHeirs 8 = .ok (.ifCond .eq 5, 3) := by decide +kernel
theorem dX0_nameHeirs_11 : decode cX0_nameHeirs 11 = .ok (.iload_n 2, 1) := by decide +kernel
theorem dX0_nameHeirs_12 : decode cX0_nameHeirs 12 = .ok (.ireturn, 1) := by decide +kernel
theorem dX0_nameHeirs_13 : decode cX0_nameHeirs 13 = .ok (.aload_n 0, 1) := by decide +kernel
theorem dX0_nameHeirs_14 : decode cX0_nameHeirs 14 = .ok (.getfield 37, 3) := by decide +kernel
theorem dX0_nameHeirs_17 : decode cX0_nameHeirs 17 = .ok (.istore_n 3, 1) := by decide +kernel
theorem dX0_nameHeirs_18 : decode cX0_nameHeirs 18 = .ok (.aload_n 0, 1) := by decide +kernel
theorem dX0_nameHeirs_19 : decode cX0_nameHeirs 19 = .ok (.iload_n 1, 1) := by decide +kernel
theorem dX0_nameHeirs_20 : decode cX0_nameHeirs 20 = .ok (.putfield 37, 3) := by decide +kernel
theorem dX0_nameHeirs_23 : decode cX0_nameHeirs 23 = .ok (.iload_n 3, 1) := by decide +kernel
theorem dX0_nameHeirs_24 : decode cX0_nameHeirs 24 = .ok (.ireturn, 1) := by decide +kernel
theorem dX0_passYear_0 : decode cX0_passYear 0 = .ok (.aload_n 0, 1) := by decide +kernel
theorem dX0_passYear_1 : decode cX0_passYear 1 = .ok (.dup, 1) := by decide +kernel
theorem dX0_passYear_2 : decode cX0_passYear 2 = .ok (.getfield 40, 3) := by decide +kernel
theorem dX0_passYear_5 : decode cX0_passYear 5 = .ok (.iconst 1, 1) := by decide +kernel
theorem dX0_passYear_6 : decode cX0_passYear 6 = .ok (.iadd, 1) := by decide +kernel
theorem dX0_passYear_7 : decode cX0_passYear 7 = .ok (.putfield 40, 3) := by decide +kernel
theorem dX0_passYear_10 : decode cX0_passYear 10 = .ok (.iconst 0, 1) := by decide +kernel
theorem dX0_passYear_11 : decode cX0_passYear 11 = .ok (.istore_n 1, 1) := by decide +kernel
theorem dX0_passYear_12 : decode cX0_passYear 12 = .ok (.iload_n 1, 1) := by decide +kernel
theorem dX0_passYear_13 : decode cX0_passYear 13 = .ok (.aload_n 0, 1) := by decide +kernel
theorem dX0_passYear_14 : decode cX0_passYear 14 = .ok (.getfield 33, 3) := by decide +kernel
theorem dX0_passYear_17 : decode cX0_passYear 17 = .ok (.if_icmp .ge 66, 3) := by decide +kernel
theorem dX0_passYear_20 : decode cX0_passYear 20 = .ok (.aload_n 0, 1) := by decide +kernel
theorem dX0_passYear_21 : decode cX0_passYear 21 = .ok (.getfield 21, 3) := by decide +kernel
theorem dX0_passYear_24 : decode cX0_passYear 24 = .ok (.iload_n 1, 1) := by decide +kernel
theorem dX0_passYear_25 : decode cX0_passYear 25 = .ok (.aload_n 0, 1) := by decide +kernel
theorem dX0_passYear_26 : decode cX0_passYear 26 = .ok (.getfield 21, 3) := by decide +kernel
theorem dX0_passYear_29 : decode cX0_passYear 29 = .ok (.iload_n 1, 1) := by decide +kernel
theorem dX0_passYear_30 : decode cX0_passYear 30 = .ok (.iaload, 1) := by decide +kernel
theorem dX0_passYear_31 : decode cX0_passYear 31 = .ok (.iconst 1, 1) := by decide +kernel
theorem dX0_passYear_32 : decode cX0_passYear 32 = .ok (.iadd, 1) := by decide +kernel
theorem dX0_passYear_33 : decode cX0_passYear 33 = .ok (.bipush 99, 2) := by decide +kernel
theorem dX0_passYear_35 : decode cX0_passYear 35 = .ok (.invokestatic 91, 3) := by decide +kernel
theorem dX0_passYear_38 : decode cX0_passYear 38 = .ok (.iastore, 1) := by decide +kernel
theorem dX0_passYear_39 : decode cX0_passYear 39 = .ok (.aload_n 0, 1) := by decide +kernel
theorem dX0_passYear_40 : decode cX0_passYear 40 = .ok (.getfield 40, 3) := by decide +kernel
theorem dX0_passYear_43 : decode cX0_passYear 43 = .ok (.bipush 10, 2) := by decide +kernel
theorem dX0_passYear_45 : decode cX0_passYear 45 = .ok (.irem, 1) := by decide +kernel
theorem dX0_passYear_46 : decode cX0_passYear 46 = .ok (.ifCond .ne 31, 3) := by decide +kernel
theorem dX0_passYear_49 : decode cX0_passYear 49 = .ok (.aload_n 0, 1) := by decide +kernel
theorem dX0_passYear_50 : decode cX0_passYear 50 = .ok (.getfield 9, 3) := by decide +kernel
theorem dX0_passYear_53 : decode cX0_passYear 53 = .ok (.iload_n 1, 1) := by decide +kernel
theorem dX0_passYear_54 : decode cX0_passYear 54 = .ok (.iaload, 1) := by decide +kernel
theorem dX0_passYear_55 : decode cX0_passYear 55 = .ok (.iconst 3, 1) := by decide +kernel
theorem dX0_passYear_56 : decode cX0_passYear 56 = .ok (.if_icmp .eq 21, 3) := by decide +kernel
theorem dX0_passYear_59 : decode cX0_passYear 59 = .ok (.aload_n 0, 1) := by decide +kernel
theorem dX0_passYear_60 : decode cX0_passYear 60 = .ok (.getfield 18, 3) := by decide +kernel
theorem dX0_passYear_63 : decode cX0_passYear 63 = .ok (.iload_n 1, 1) := by decide +kernel
theorem dX0_passYear_64 : decode cX0_passYear 64 = .ok (.aload_n 0, 1) := by decide +kernel
theorem dX0_passYear_65 : decode cX0_passYear 65 = .ok (.getfield 18, 3) := by decide +kernel
theorem dX0_passYear_68 : decode cX0_passYear 68 = .ok (.iload_n 1, 1) := by decide +kernel
theorem dX0_passYear_69 : decode cX0_passYear 69 = .ok (.iaload, 1) := by decide +kernel
theorem dX0_passYear_70 : decode cX0_passYear 70 = .ok (.iconst 1, 1) := by decide +kernel
theorem dX0_passYear_71 : decode cX0_passYear 71 = .ok (.isub, 1) := by decide +kernel
theorem dX0_passYear_72 : decode cX0_passYear 72 = .ok (.iconst 0, 1) := by decide +kernel
theorem dX0_passYear_73 : decode cX0_passYear 73 = .ok (.invokestatic 97, 3) := by decide +kernel
theorem dX0_passYear_76 : decode cX0_passYear 76 = .ok (.iastore, 1) := by decide +kernel
theorem dX0_passYear_77 : decode cX0_passYear 77 = .ok (.iinc 1 1, 3) := by decide +kernel
theorem dX0_passYear_80 : decode cX0_passYear 80 = .ok (.goto (-68), 3) := by decide +kernel
theorem dX0_passYear_83 : decode cX0_passYear 83 = .ok (.return_, 1) := by decide +kernel
theorem dX0_passesStairs_0 : decode cX0_passesStairs 0 = .ok (.aload_n 0, 1) := by decide +kernel
theorem dX0_passesStairs_1 : decode cX0_passesStairs 1 = .ok (.getfield 24, 3) := by decide +kernel
theorem dX0_passesStairs_4 : decode cX0_passesStairs 4 = .ok (.iload_n 1, 1) := by decide +kernel
theorem dX0_passesStairs_5 : decode cX0_passesStairs 5 = .ok (.iaload, 1) := by decide +kernel
theorem dX0_passesStairs_6 : decode cX0_passesStairs 6 = .ok (.bipush 9, 2) := by decide +kernel
theorem dX0_passesStairs_8 : decode cX0_passesStairs 8 = .ok (.if_icmp .ne 5, 3) := by decide +kernel
theorem dX0_passesStairs_11 : decode cX0_passesStairs 11 = .ok (.iconst 1, 1) := by decide +kernel
theorem dX0_passesStairs_12 : decode cX0_passesStairs 12 = .ok (.ireturn, 1) := by decide +kernel
theorem dX0_passesStairs_13 : decode cX0_passesStairs 13 = .ok (.aload_n 0, 1) := by decide +kernel
theorem dX0_passesStairs_14 : decode cX0_passesStairs 14 = .ok (.getfield 24, 3) := by decide +kernel
theorem dX0_passesStairs_17 : decode cX0_passesStairs 17 = .ok (.iload_n 1, 1) := by decide +kernel
theorem dX0_passesStairs_18 : decode cX0_passesStairs 18 = .ok (.iaload, 1) := by decide +kernel
theorem dX0_passesStairs_19 : decode cX0_passesStairs 19 = .ok (.iconst 2, 1) := by decide +kernel
theorem dX0_passesStairs_20 : decode cX0_passesStairs 20 = .ok (.idiv, 1) := by decide +kernel
theorem dX0_passesStairs_21 : decode cX0_passesStairs 21 = .ok (.istore_n 3, 1) := by decide +kernel
theorem dX0_passesStairs_22 : decode cX0_passesStairs 22 = .ok (.iload_n 2, 1) := by decide +kernel
theorem dX0_passesStairs_23 : decode cX0_passesStairs 23 = .ok (.iconst 2, 1) := by decide +kernel
theorem dX0_passesStairs_24 : decode cX0_passesStairs 24 = .ok (.idiv, 1) := by decide +kernel
theorem dX0_passesStairs_25 : decode cX0_passesStairs 25 = .ok (.istore 4, 2) := by decide +kernel
theorem dX0_passesStairs_27 : decode cX0_passesStairs 27 = .ok (.aload_n 0, 1) := by decide +kernel
theorem dX0_passesStairs_28 : decode cX0_passesStairs 28 = .ok (.iload_n 1, 1) := by decide +kernel
theorem dX0_passesStairs_29 : decode cX0_passesStairs 29 = .ok (.invokevirtual 63, 3) := by decide +kernel
theorem dX0_passesStairs_32 : decode cX0_passesStairs 32 = .ok (.istore 5, 2) := by decide +kernel
theorem dX0_passesStairs_34 : decode cX0_passesStairs 34 = .ok (.iconst 1, 1) := by decide +kernel
theorem dX0_passesStairs_35 : decode cX0_passesStairs 35 = .ok (.istore 6, 2) := by decide +kernel
theorem dX0_passesStairs_37 : decode cX0_passesStairs 37 = .ok (.iload 6, 2) := by decide +kernel
theorem dX0_passesStairs_39 : decode cX0_passesStairs 39 = .ok (.iconst 3, 1) := by decide +kernel
theorem dX0_passesStairs_40 : decode cX0_passesStairs 40 = .ok (.if_icmp .ge 57, 3) := by decide +kernel
theorem dX0_passesStairs_43 : decode cX0_passesStairs 43 = .ok (.iload 6, 2) := by decide +kernel
theorem dX0_passesStairs_45 : decode cX0_passesStairs 45 = .ok (.iload_n 3, 1) := by decide +kernel
theorem dX0_passesStairs_46 : decode cX0_passesStairs 46 = .ok (.iload 4, 2) := by decide +kernel
theorem dX0_passesStairs_48 : decode cX0_passesStairs 48 = .ok (.invokestatic 91, 3) := by decide +kernel
theorem dX0_passesStairs_51 : decode cX0_passesStairs 51 = .ok (.if_icmp .le 18, 3) := by decide +kernel
theorem dX0_passesStairs_54 : decode cX0_passesStairs 54 = .ok (.iload 6, 2) := by decide +kernel
theorem dX0_passesStairs_56 : decode cX0_passesStairs 56 = .ok (.iload_n 3, 1) := by decide +kernel
theorem dX0_passesStairs_57 : decode cX0_passesStairs 57 = .ok (.iload 4, 2) := by decide +kernel
theorem dX0_passesStairs_59 : decode cX0_passesStairs 59 = .ok (.invokestatic 97, 3) := by decide +kernel
theorem dX0_passesStairs_62 : decode cX0_passesStairs 62 = .ok (.if_icmp .gt 7, 3) := by decide +kernel
theorem dX0_passesStairs_65 : decode cX0_passesStairs 65 = .ok (.iconst 1, 1) := by decide +kernel
theorem dX0_passesStairs_66 : decode cX0_passesStairs 66 = .ok (.goto 4, 3) := by decide +kernel
theorem dX0_passesStairs_69 : decode cX0_passesStairs 69 = .ok (.iconst 0, 1) := by decide +kernel
theorem dX0_passesStairs_70 : decode cX0_passesStairs 70 = .ok (.istore 7, 2) := by decide +kernel
theorem dX0_passesStairs_72 : decode cX0_passesStairs 72 = .ok (.iload 7, 2) := by decide +kernel
theorem dX0_passesStairs_74 : decode cX0_passesStairs 74 = .ok (.ifCond .eq 17, 3) := by decide +kernel
theorem dX0_passesStairs_77 : decode cX0_passesStairs 77 = .ok (.iload 5, 2) := by decide +kernel
theorem dX0_passesStairs_79 : decode cX0_passesStairs 79 = .ok (.aload_n 0, 1) := by decide +kernel
theorem dX0_passesStairs_80 : decode cX0_passesStairs 80 = .ok (.getfield 30, 3) := by decide +kernel
theorem dX0_passesStairs_83 : decode cX0_passesStairs 83 = .ok (.iload 6, 2) := by decide +kernel
theorem dX0_passesStairs_85 : decode cX0_passesStairs 85 = .ok (.iaload, 1) := by decide +kernel
theorem dX0_passesStairs_86 : decode cX0_passesStairs 86 = .ok (.if_icmp .le 5, 3) := by decide +kernel
theorem dX0_passesStairs_89 : decode cX0_passesStairs 89 = .ok (.iconst 0, 1) := by decide +kernel
theorem dX0_passesStairs_90 : decode cX0_passesStairs 90 = .ok (.ireturn, 1) := by decide +kernel
theorem dX0_passesStairs_91 : decode cX0_passesStairs 91 = .ok (.iinc 6 1, 3) := by decide +kernel
theorem dX0_passesStairs_94 : decode cX0_passesStairs 94 = .ok (.goto (-57), 3) := by decide +kernel
theorem dX0_passesStairs_97 : decode cX0_passesStairs 97 = .ok (.iconst 1, 1) := by decide +kernel
theorem dX0_passesStairs_98 : decode cX0_passesStairs 98 = .ok (.ireturn, 1) := by decide +kernel
theorem dX0_piecesIn_0 : decode cX0_piecesIn 0 = .ok (.iconst 0, 1) := by decide +kernel
theorem dX0_piecesIn_1 : decode cX0_piecesIn 1 = .ok (.istore_n 2, 1) := by decide +kernel
theorem dX0_piecesIn_2 : decode cX0_piecesIn 2 = .ok (.iconst 0, 1) := by decide +kernel
theorem dX0_piecesIn_3 : decode cX0_piecesIn 3 = .ok (.istore_n 3, 1) := by decide +kernel
theorem dX0_piecesIn_4 : decode cX0_piecesIn 4 = .ok (.iload_n 3, 1) := by decide +kernel
theorem dX0_piecesIn_5 : decode cX0_piecesIn 5 = .ok (.aload_n 0, 1) := by decide +kernel
theorem dX0_piecesIn_6 : decode cX0_piecesIn 6 = .ok (.getfield 33, 3) := by decide +kernel
theorem dX0_piecesIn_9 : decode cX0_piecesIn 9 = .ok (.if_icmp .ge 22, 3) := by decide +kernel
theorem dX0_piecesIn_12 : decode cX0_piecesIn 12 = .ok (.aload_n 0, 1) := by decide +kernel
theorem dX0_piecesIn_13 : decode cX0_piecesIn 13 = .ok (.getfield 24, 3) := by decide +kernel
theorem dX0_piecesIn_16 : decode cX0_piecesIn 16 = .ok (.iload_n 3, 1) := by decide +kernel
theorem dX0_piecesIn_17 : decode cX0_piecesIn 17 = .ok (.iaload, 1) := by decide +kernel
theorem dX0_piecesIn_18 : decode cX0_piecesIn 18 = .ok (.iload_n 1, 1) := by decide +kernel
theorem dX0_piecesIn_19 : decode cX0_piecesIn 19 = .ok (.if_icmp .ne 6, 3) := by decide +kernel
theorem dX0_piecesIn_22 : decode cX0_piecesIn 22 = .ok (.iinc 2 1, 3) := by decide +kernel
theorem dX0_piecesIn_25 : decode cX0_piecesIn 25 = .ok (.iinc 3 1, 3) := by decide +kernel
theorem dX0_piecesIn_28 : decode cX0_piecesIn 28 = .ok (.goto (-24), 3) := by decide +kernel
theorem dX0_piecesIn_31 : decode cX0_piecesIn 31 = .ok (.iload_n 2, 1) := by decide +kernel
theorem dX0_piecesIn_32 : decode cX0_piecesIn 32 = .ok (.ireturn, 1) := by decide +kernel
theorem dX0_polishPiece_0 : decode cX0_polishPiece 0 = .ok (.aload_n 0, 1) := by decide +kernel
theorem dX0_polishPiece_1 : decode cX0_polishPiece 1 = .ok (.iload_n 1, 1) := by decide +kernel
theorem dX0_polishPiece_2 : decode cX0_polishPiece 2 = .ok (.invokevirtual 55, 3) := by decide +kernel
theorem dX0_polishPiece_5 : decode cX0_polishPiece 5 = .ok (.ifCond .ne 5, 3) := by decide +kernel
theorem dX0_polishPiece_8 : decode cX0_polishPiece 8 = .ok (.iconst (-1), 1) := by decide +kernel
theorem dX0_polishPiece_9 : decode cX0_polishPiece 9 = .ok (.ireturn, 1) := by decide +kernel
theorem dX0_polishPiece_10 : decode cX0_polishPiece 10 = .ok (.aload_n 0, 1) := by decide +kernel
theorem dX0_polishPiece_11 : decode cX0_polishPiece 11 = .ok (.getfield 18, 3) := by decide +kernel
theorem dX0_polishPiece_14 : decode cX0_polishPiece 14 = .ok (.iload_n 1, 1) := by decide +kernel
theorem dX0_polishPiece_15 : decode cX0_polishPiece 15 = .ok (.iaload, 1) := by decide +kernel
theorem dX0_polishPiece_16 : decode cX0_polishPiece 16 = .ok (.bipush 9, 2) := by decide +kernel
theorem dX0_polishPiece_18 : decode cX0_polishPiece 18 = .ok (.if_icmp .lt 6, 3) := by decide +kernel
theorem dX0_polishPiece_21 : decode cX0_polishPiece 21 = .ok (.bipush (-3), 2) := by decide +kernel
theorem dX0_polishPiece_23 : decode cX0_polishPiece 23 = .ok (.ireturn, 1) := by decide +kernel
theorem dX0_polishPiece_24 : decode cX0_polishPiece 24 = .ok (.aload_n 0, 1) := by decide +kernel
theorem dX0_polishPiece_25 : decode cX0_polishPiece 25 = .ok (.getfield 18, 3) := by decide +kernel
theorem dX0_polishPiece_28 : decode cX0_polishPiece 28 = .ok (.iload_n 1, 1) := by decide +kernel
theorem dX0_polishPiece_29 : decode cX0_polishPiece 29 = .ok (.dup2, 1) := by decide +kernel
theorem dX0_polishPiece_30 : decode cX0_polishPiece 30 = .ok (.iaload, 1) := by decide +kernel
theorem dX0_polishPiece_31 : decode cX0_polishPiece 31 = .ok (.iconst 1, 1) := by decide +kernel
theorem dX0_polishPiece_32 : decode cX0_polishPiece 32 = .ok (.iadd, 1) := by decide +kernel
theorem dX0_polishPiece_33 : decode cX0_polishPiece 33 = .ok (.iastore, 1) := by decide +kernel
theorem dX0_polishPiece_34 : decode cX0_polishPiece 34 = .ok (.aload_n 0, 1) := by decide +kernel
theorem dX0_polishPiece_35 : decode cX0_polishPiece 35 = .ok (.getfield 18, 3) := by decide +kernel
theorem dX0_polishPiece_38 : decode cX0_polishPiece 38 = .ok (.iload_n 1, 1) := by decide +kernel
theorem dX0_polishPiece_39 : decode cX0_polishPiece 39 = .ok (.iaload, 1) := by decide +kernel
theorem dX0_polishPiece_40 : decode cX0_polishPiece 40 = .ok (.ireturn, 1) := by decide +kernel
theorem dX0_removePiece_0 : decode cX0_removePiece 0 = .ok (.aload_n 0, 1) := by decide +kernel
theorem dX0_removePiece_1 : decode cX0_removePiece 1 = .ok (.iload_n 1, 1) := by decide +kernel
theorem dX0_removePiece_2 : decode cX0_removePiece 2 = .ok (.invokevirtual 55, 3) := by decide +kernel
theorem dX0_removePiece_5 : decode cX0_removePiece 5 = .ok (.ifCond .ne 4, 3) := by decide +kernel
theorem dX0_removePiece_8 : decode cX0_removePiece 8 = .ok (.return_, 1) := by decide +kernel
theorem dX0_removePiece_9 : decode cX0_removePiece 9 = .ok (.iload_n 1, 1) := by decide +kernel
theorem dX0_removePiece_10 : decode cX0_removePiece 10 = .ok (.istore_n 2, 1) := by decide +kernel
theorem dX0_removePiece_11 : decode cX0_removePiece 11 = .ok (.iload_n 2, 1) := by decide +kernel
theorem dX0_removePiece_12 : decode cX0_removePiece 12 = .ok (.iconst 1, 1) := by decide +kernel
theorem dX0_removePiece_13 : decode cX0_removePiece 13 = .ok (.iadd, 1) := by decide +kernel
theorem dX0_removePiece_14 : decode cX0_removePiece 14 = .ok (.aload_n 0, 1) := by decide +kernel
theorem dX0_removePiece_15 : decode cX0_removePiece 15 = .ok (.getfield 33, 3) := by decide +kernel
theorem dX0_removePiece_18 : decode cX0_removePiece 18 = .ok (.if_icmp .ge 79, 3) := by decide +kernel
theorem dX0_removePiece_21 : decode cX0_removePiece 21 = .ok (.aload_n 0, 1) := by decide +kernel
theorem dX0_removePiece_22 : decode cX0_removePiece 22 = .ok (.getfield 9, 3) := by decide +kernel
theorem dX0_removePiece_25 : decode cX0_removePiece 25 = .ok (.iload_n 2, 1) := by decide +kernel
theorem dX0_removePiece_26 : decode cX0_removePiece 26 = .ok (.aload_n 0, 1) := by decide +kernel
theorem dX0_removePiece_27 : decode cX0_removePiece 27 = .ok (.getfield 9, 3) := by decide +kernel
theorem dX0_removePiece_30 : decode cX0_removePiece 30 = .ok (.iload_n 2, 1) := by decide +kernel
theorem dX0_removePiece_31 : decode cX0_removePiece 31 = .ok (.iconst 1, 1) := by decide +kernel
theorem dX0_removePiece_32 : decode cX0_removePiece 32 = .ok (.iadd, 1) := by decide +kernel
theorem dX0_removePiece_33 : decode cX0_removePiece 33 = .ok (.iaload, 1) := by decide +kernel
theorem dX0_removePiece_34 : decode cX0_removePiece 34 = .ok (.iastore, 1) := by decide +kernel
theorem dX0_removePiece_35 : decode cX0_removePiece 35 = .ok (.aload_n 0, 1) := by decide +kernel
theorem dX0_removePiece_36 : decode cX0_removePiece 36 = .ok (.getfield 15, 3) := by decide +kernel
theorem dX0_removePiece_39 : decode cX0_removePiece 39 = .ok (.iload_n 2, 1) := by decide +kernel
theorem dX0_removePiece_40 : decode cX0_removePiece 40 = .ok (.aload_n 0, 1) := by decide +kernel
theorem dX0_removePiece_41 : decode cX0_removePiece 41 = .ok (.getfield 15, 3) := by decide +kernel
theorem dX0_removePiece_44 : decode cX0_removePiece 44 = .ok (.iload_n 2, 1) := by decide +kernel
theorem dX0_removePiece_45 : decode cX0_removePiece 45 = .ok (.iconst 1, 1) := by decide +kernel
theorem dX0_removePiece_46 : decode cX0_removePiece 46 = .ok (.iadd, 1) := by decide +kernel
theorem dX0_removePiece_47 : decode cX0_removePiece 47 = .ok (.iaload, 1) := by decide +kernel
theorem dX0_removePiece_48 : decode cX0_removePiece 48 = .ok (.iastore, 1) := by decide +kernel
theorem dX0_removePiece_49 : decode cX0_removePiece 49 = .ok (.aload_n 0, 1) := by decide +kernel
theorem dX0_removePiece_50 : decode cX0_removePiece 50 = .ok (.getfield 18, 3) := by decide +kernel
theorem dX0_removePiece_53 : decode cX0_removePiece 53 = .ok (.iload_n 2, 1) := by decide +kernel
theorem dX0_removePiece_54 : decode cX0_removePiece 54 = .ok (.aload_n 0, 1) := by decide +kernel
theorem dX0_removePiece_55 : decode cX0_removePiece 55 = .ok (.getfield 18, 3) := by decide +kernel
theorem dX0_removePiece_58 : decode cX0_removePiece 58 = .ok (.iload_n 2, 1) := by decide +kernel
theorem dX0_removePiece_59 : decode cX0_removePiece 59 = .ok (.iconst 1, 1) := by decide +kernel
theorem dX0_removePiece_60 : decode cX0_removePiece 60 = .ok (.iadd, 1) := by decide +kernel
theorem dX0_removePiece_61 : decode cX0_removePiece 61 = .ok (.iaload, 1) := by decide +kernel
theorem dX0_removePiece_62 : decode cX0_removePiece 62 = .ok (.iastore, 1) := by decide +kernel
theorem dX0_removePiece_63 : decode cX0_removePiece 63 = .ok (.aload_n 0, 1) := by decide +kernel
theorem dX0_removePiece_64 : decode cX0_removePiece 64 = .ok (.getfield 21, 3) := by decide +kernel
theorem dX0_removePiece_67 : decode cX0_removePiece 67 = .ok (.iload_n 2, 1) := by decide +kernel
theorem dX0_removePiece_68 : decode cX0_removePiece 68 = .ok (.aload_n 0, 1) := by decide +kernel
theorem dX0_removePiece_69 : decode cX0_removePiece 69 = .ok (.getfield 21, 3) := by decide +kernel
theorem dX0_removePiece_72 : decode cX0_removePiece 72 = .ok (.iload_n 2, 1) := by decide +kernel
theorem dX0_removePiece_73 : decode cX0_removePiece 73 = .ok (.iconst 1, 1) := by decide +kernel
theorem dX0_removePiece_74 : decode cX0_removePiece 74 = .ok (.iadd, 1) := by decide +kernel
theorem dX0_removePiece_75 : decode cX0_removePiece 75 = .ok (.iaload, 1) := by decide +kernel
theorem dX0_removePiece_76 : decode cX0_removePiece 76 = .ok (.iastore, 1) := by decide +kernel
theorem dX0_removePiece_77 : decode cX0_removePiece 77 = .ok (.aload_n 0, 1) := by decide +kernel
theorem dX0_removePiece_78 : decode cX0_removePiece 78 = .ok (.getfield 24, 3) := by decide +kernel
theorem dX0_removePiece_81 : decode cX0_removePiece 81 = .ok (.iload_n 2, 1) := by decide +kernel
theorem dX0_removePiece_82 : decode cX0_removePiece 82 = .ok (.aload_n 0, 1) := by decide +kernel
theorem dX0_removePiece_83 : decode cX0_removePiece 83 = .ok (.getfield 24, 3) := by decide +kernel
theorem dX0_removePiece_86 : decode cX0_removePiece 86 = .ok (.iload_n 2, 1) := by decide +kernel
theorem dX0_removePiece_87 : decode cX0_removePiece 87 = .ok (.iconst 1, 1) := by decide +kernel
theorem dX0_removePiece_88 : decode cX0_removePiece 88 = .ok (.iadd, 1) := by decide +kernel
theorem dX0_removePiece_89 : decode cX0_removePiece 89 = .ok (.iaload, 1) := by decide +kernel
theorem dX0_removePiece_90 : decode cX0_removePiece 90 = .ok (.iastore, 1) := by decide +kernel
theorem dX0_removePiece_91 : decode cX0_removePiece 91 = .ok (.iinc 2 1, 3) := by decide +kernel
theorem dX0_removePiece_94 : decode cX0_removePiece 94 = .ok (.goto (-83), 3) := by decide +kernel
theorem dX0_removePiece_97 : decode cX0_removePiece 97 = .ok (.aload_n 0, 1) := by decide +kernel
theorem dX0_removePiece_98 : decode cX0_removePiece 98 = .ok (.dup, 1) := by decide +kernel
theorem dX0_removePiece_99 : decode cX0_removePiece 99 = .ok (.getfield 33, 3) := by decide +kernel
theorem dX0_removePiece_102 : decode cX0_removePiece 102 = .ok (.iconst 1, 1) := by decide +kernel
theorem dX0_removePiece_103 : decode cX0_removePiece 103 = .ok (.isub, 1) := by decide +kernel
theorem dX0_removePiece_104 : decode cX0_removePiece 104 = .ok (.putfield 33, 3) := by decide +kernel
theorem dX0_removePiece_107 : decode cX0_removePiece 107 = .ok (.return_, 1) := by decide +kernel
theorem dX0_resize_0 : decode cX0_resize 0 = .ok (.iload_n 1, 1) := by decide +kernel
theorem dX0_resize_1 : decode cX0_resize 1 = .ok (.invokestatic 78, 3) := by decide +kernel
theorem dX0_resize_4 : decode cX0_resize 4 = .ok (.ifCond .ne 5, 3) := by decide +kernel
theorem dX0_resize_7 : decode cX0_resize 7 = .ok (.iconst (-1), 1) := by decide +kernel
theorem dX0_resize_8 : decode cX0_resize 8 = .ok (.ireturn, 1) := by decide +kernel
theorem dX0_resize_9 : decode cX0_resize 9 = .ok (.iload_n 2, 1) := by decide +kernel
theorem dX0_resize_10 : decode cX0_resize 10 = .ok (.iconst 0, 1) := by decide +kernel
theorem dX0_resize_11 : decode cX0_resize 11 = .ok (.bipush 20, 2) := by decide +kernel
theorem dX0_resize_13 : decode cX0_resize 13 = .ok (.invokestatic 106, 3) := by decide +kernel
theorem dX0_resize_16 : decode cX0_resize 16 = .ok (.istore_n 3, 1) := by decide +kernel
theorem dX0_resize_17 : decode cX0_resize 17 = .ok (.iload_n 3, 1) := by decide +kernel
theorem dX0_resize_18 : decode cX0_resize 18 = .ok (.ifCond .eq 5, 3) := by decide +kernel
theorem dX0_resize_21 : decode cX0_resize 21 = .ok (.iload_n 3, 1) := by decide +kernel
theorem dX0_resize_22 : decode cX0_resize 22 = .ok (.ireturn, 1) := by decide +kernel
theorem dX0_resize_23 : decode cX0_resize 23 = .ok (.iload_n 2, 1) := by decide +kernel
theorem dX0_resize_24 : decode cX0_resize 24 = .ok (.aload_n 0, 1) := by decide +kernel
theorem dX0_resize_25 : decode cX0_resize 25 = .ok (.iload_n 1, 1) := by decide +kernel
theorem dX0_resize_26 : decode cX0_resize 26 = .ok (.invokevirtual 81, 3) := by decide +kernel
theorem dX0_resize_29 : decode cX0_resize 29 = .ok (.if_icmp .ge 6, 3) := by decide +kernel
theorem dX0_resize_32 : decode cX0_resize 32 = .ok (.bipush (-3), 2) := by decide +kernel
theorem dX0_resize_34 : decode cX0_resize 34 = .ok (.ireturn, 1) := by decide +kernel
theorem dX0_resize_35 : decode cX0_resize 35 = .ok (.aload_n 0, 1) := by decide +kernel
theorem dX0_resize_36 : decode cX0_resize 36 = .ok (.getfield 27, 3) := by decide +kernel
theorem dX0_resize_39 : decode cX0_resize 39 = .ok (.iload_n 1, 1) := by decide +kernel
theorem dX0_resize_40 : decode cX0_resize 40 = .ok (.iaload, 1) := by decide +kernel
theorem dX0_resize_41 : decode cX0_resize 41 = .ok (.istore 4, 2) := by decide +kernel
theorem dX0_resize_43 : decode cX0_resize 43 = .ok (.aload_n 0, 1) := by decide +kernel
theorem dX0_resize_44 : decode cX0_resize 44 = .ok (.getfield 27, 3) := by decide +kernel
theorem dX0_resize_47 : decode cX0_resize 47 = .ok (.iload_n 1, 1) := by decide +kernel
theorem dX0_resize_48 : decode cX0_resize 48 = .ok (.iload_n 2, 1) := by decide +kernel
theorem dX0_resize_49 : decode cX0_resize 49 = .ok (.iastore, 1) := by decide +kernel
theorem dX0_resize_50 : decode cX0_resize 50 = .ok (.iload 4, 2) := by decide +kernel
theorem dX0_resize_52 : decode cX0_resize 52 = .ok (.ireturn, 1) := by decide +kernel
theorem dX0_told_0 : decode cX0_told 0 = .ok (.aload_n 0, 1) := by decide +kernel
theorem dX0_told_1 : decode cX0_told 1 = .ok (.iload_n 1, 1) := by decide +kernel
theorem dX0_told_2 : decode cX0_told 2 = .ok (.invokevirtual 55, 3) := by decide +kernel
theorem dX0_told_5 : decode cX0_told 5 = .ok (.ifCond .ne 5, 3) := by decide +kernel
theorem dX0_told_8 : decode cX0_told 8 = .ok (.iconst (-1), 1) := by decide +kernel
theorem dX0_told_9 : decode cX0_told 9 = .ok (.ireturn, 1) := by decide +kernel
theorem dX0_told_10 : decode cX0_told 10 = .ok (.iload_n 2, 1) := by decide +kernel
theorem dX0_told_11 : decode cX0_told 11 = .ok (.tableswitch 88 0 6 #[41, 48, 55, 62, 69, 76, 82], 41) := by decide +kernel
theorem dX0_told_52 : decode cX0_told 52 = .ok (.aload_n 0, 1) := by decide +kernel
theorem dX0_told_53 : decode cX0_told 53 = .ok (.getfield 9, 3) := by decide +kernel
theorem dX0_told_56 : decode cX0_told 56 = .ok (.iload_n 1, 1) := by decide +kernel
theorem dX0_told_57 : decode cX0_told 57 = .ok (.iaload, 1) := by decide +kernel
theorem dX0_told_58 : decode cX0_told 58 = .ok (.ireturn, 1) := by decide +kernel
theorem dX0_told_59 : decode cX0_told 59 = .ok (.aload_n 0, 1) := by decide +kernel
theorem dX0_told_60 : decode cX0_told 60 = .ok (.getfield 15, 3) := by decide +kernel
theorem dX0_told_63 : decode cX0_told 63 = .ok (.iload_n 1, 1) := by decide +kernel
theorem dX0_told_64 : decode cX0_told 64 = .ok (.iaload, 1) := by decide +kernel
theorem dX0_told_65 : decode cX0_told 65 = .ok (.ireturn, 1) := by decide +kernel
theorem dX0_told_66 : decode cX0_told 66 = .ok (.aload_n 0, 1) := by decide +kernel
theorem dX0_told_67 : decode cX0_told 67 = .ok (.getfield 18, 3) := by decide +kernel
theorem dX0_told_70 : decode cX0_told 70 = .ok (.iload_n 1, 1) := by decide +kernel
theorem dX0_told_71 : decode cX0_told 71 = .ok (.iaload, 1) := by decide +kernel
theorem dX0_told_72 : decode cX0_told 72 = .ok (.ireturn, 1) := by decide +kernel
theorem dX0_told_73 : decode cX0_told 73 = .ok (.aload_n 0, 1) := by decide +kernel
theorem dX0_told_74 : decode cX0_told 74 = .ok (.getfield 21, 3) := by decide +kernel
theorem dX0_told_77 : decode cX0_told 77 = .ok (.iload_n 1, 1) := by decide +kernel
theorem dX0_told_78 : decode cX0_told 78 = .ok (.iaload, 1) := by decide +kernel
theorem dX0_told_79 : decode cX0_told 79 = .ok (.ireturn, 1) := by decide +kernel
theorem dX0_told_80 : decode cX0_told 80 = .ok (.aload_n 0, 1) := by decide +kernel
theorem dX0_told_81 : decode cX0_told 81 = .ok (.getfield 24, 3) := by decide +kernel
theorem dX0_told_84 : decode cX0_told 84 = .ok (.iload_n 1, 1) := by decide +kernel
theorem dX0_told_85 : decode cX0_told 85 = .ok (.iaload, 1) := by decide +kernel
theorem dX0_told_86 : decode cX0_told 86 = .ok (.ireturn, 1) := by decide +kernel
theorem dX0_told_87 : decode cX0_told 87 = .ok (.aload_n 0, 1) := by decide +kernel
theorem dX0_told_88 : decode cX0_told 88 = .ok (.iload_n 1, 1) := by decide +kernel
theorem dX0_told_89 : decode cX0_told 89 = .ok (.invokevirtual 59, 3) := by decide +kernel
theorem dX0_told_92 : decode cX0_told 92 = .ok (.ireturn, 1) := by decide +kernel
theorem dX0_told_93 : decode cX0_told 93 = .ok (.aload_n 0, 1) := by decide +kernel
theorem dX0_told_94 : decode cX0_told 94 = .ok (.iload_n 1, 1) := by decide +kernel
theorem dX0_told_95 : decode cX0_told 95 = .ok (.invokevirtual 63, 3) := by decide +kernel
theorem dX0_told_98 : decode cX0_told 98 = .ok (.ireturn, 1) := by decide +kernel
theorem dX0_told_99 : decode cX0_told 99 = .ok (.bipush (-2), 2) := by decide +kernel
theorem dX0_told_101 : decode cX0_told 101 = .ok (.ireturn, 1) := by decide +kernel
theorem dX0_wideOfPiece_0 : decode cX0_wideOfPiece 0 = .ok (.aload_n 0, 1) := by decide +kernel
theorem dX0_wideOfPiece_1 : decode cX0_wideOfPiece 1 = .ok (.iload_n 1, 1) := by decide +kernel
theorem dX0_wideOfPiece_2 : decode cX0_wideOfPiece 2 = .ok (.invokevirtual 55, 3) := by decide +kernel
theorem dX0_wideOfPiece_5 : decode cX0_wideOfPiece 5 = .ok (.ifCond .ne 5, 3) := by decide +kernel
theorem dX0_wideOfPiece_8 : decode cX0_wideOfPiece 8 = .ok (.iconst 0, 1) := by decide +kernel
theorem dX0_wideOfPiece_9 : decode cX0_wideOfPiece 9 = .ok (.ireturn, 1) := by decide +kernel
theorem dX0_wideOfPiece_10 : decode cX0_wideOfPiece 10 = .ok (.aload_n 0, 1) := by decide +kernel
theorem dX0_wideOfPiece_11 : decode cX0_wideOfPiece 11 = .ok (.getfield 9, 3) := by decide +kernel
theorem dX0_wideOfPiece_14 : decode cX0_wideOfPiece 14 = .ok (.iload_n 1, 1) := by decide +kernel
theorem dX0_wideOfPiece_15 : decode cX0_wideOfPiece 15 = .ok (.iaload, 1) := by decide +kernel
theorem dX0_wideOfPiece_16 : decode cX0_wideOfPiece 16 = .ok (.tableswitch 49 2 4 #[28, 37, 46], 28) := by decide +kernel
theorem dX0_wideOfPiece_44 : decode cX0_wideOfPiece 44 = .ok (.aload_n 0, 1) := by decide +kernel
theorem dX0_wideOfPiece_45 : decode cX0_wideOfPiece 45 = .ok (.getfield 15, 3) := by decide +kernel
theorem dX0_wideOfPiece_48 : decode cX0_wideOfPiece 48 = .ok (.iload_n 1, 1) := by decide +kernel
theorem dX0_wideOfPiece_49 : decode cX0_wideOfPiece 49 = .ok (.iaload, 1) := by decide +kernel
theorem dX0_wideOfPiece_50 : decode cX0_wideOfPiece 50 = .ok (.iconst 1, 1) := by decide +kernel
theorem dX0_wideOfPiece_51 : decode cX0_wideOfPiece 51 = .ok (.isub, 1) := by decide +kernel
theorem dX0_wideOfPiece_52 : decode cX0_wideOfPiece 52 = .ok (.ireturn, 1) := by decide +kernel
theorem dX0_wideOfPiece_53 : decode cX0_wideOfPiece 53 = .ok (.aload_n 0, 1) := by decide +kernel
theorem dX0_wideOfPiece_54 : decode cX0_wideOfPiece 54 = .ok (.getfield 15, 3) := by decide +kernel
theorem dX0_wideOfPiece_57 : decode cX0_wideOfPiece 57 = .ok (.iload_n 1, 1) := by decide +kernel
theorem dX0_wideOfPiece_58 : decode cX0_wideOfPiece 58 = .ok (.iaload, 1) := by decide +kernel
theorem dX0_wideOfPiece_59 : decode cX0_wideOfPiece 59 = .ok (.iconst 2, 1) := by decide +kernel
theorem dX0_wideOfPiece_60 : decode cX0_wideOfPiece 60 = .ok (.idiv, 1) := by decide +kernel
theorem dX0_wideOfPiece_61 : decode cX0_wideOfPiece 61 = .ok (.ireturn, 1) := by decide +kernel
theorem dX0_wideOfPiece_62 : decode cX0_wideOfPiece 62 = .ok (.bipush 10, 2) := by decide +kernel
theorem dX0_wideOfPiece_64 : decode cX0_wideOfPiece 64 = .ok (.ireturn, 1) := by decide +kernel
theorem dX0_wideOfPiece_65 : decode cX0_wideOfPiece 65 = .ok (.aload_n 0, 1) := by decide +kernel
theorem dX0_wideOfPiece_66 : decode cX0_wideOfPiece 66 = .ok (.getfield 15, 3) := by decide +kernel
theorem dX0_wideOfPiece_69 : decode cX0_wideOfPiece 69 = .ok (.iload_n 1, 1) := by decide +kernel
theorem dX0_wideOfPiece_70 : decode cX0_wideOfPiece 70 = .ok (.iaload, 1) := by decide +kernel
theorem dX0_wideOfPiece_71 : decode cX0_wideOfPiece 71 = .ok (.ireturn, 1) := by decide +kernel
theorem dX0_widen_0 : decode cX0_widen 0 = .ok (.iload_n 1, 1) := by decide +kernel
theorem dX0_widen_1 : decode cX0_widen 1 = .ok (.invokestatic 110, 3) := by decide +kernel
theorem dX0_widen_4 : decode cX0_widen 4 = .ok (.ifCond .ne 5, 3) := by decide +kernel
theorem dX0_widen_7 : decode cX0_widen 7 = .ok (.iconst (-1), 1) := by decide +kernel
theorem dX0_widen_8 : decode cX0_widen 8 = .ok (.ireturn, 1) := by decide +kernel
theorem dX0_widen_9 : decode cX0_widen 9 = .ok (.iload_n 2, 1) := by decide +kernel
theorem dX0_widen_10 : decode cX0_widen 10 = .ok (.iconst 0, 1) := by decide +kernel
theorem dX0_widen_11 : decode cX0_widen 11 = .ok (.bipush 9, 2) := by decide +kernel
theorem dX0_widen_13 : decode cX0_widen 13 = .ok (.invokestatic 106, 3) := by decide +kernel
theorem dX0_widen_16 : decode cX0_widen 16 = .ok (.istore_n 3, 1) := by decide +kernel
theorem dX0_widen_17 : decode cX0_widen 17 = .ok (.iload_n 3, 1) := by decide +kernel
theorem dX0_widen_18 : decode cX0_widen 18 = .ok (.ifCond .eq 5, 3) := by decide +kernel
theorem dX0_widen_21 : decode cX0_widen 21 = .ok (.iload_n 3, 1) := by decide +kernel
theorem dX0_widen_22 : decode cX0_widen 22 = .ok (.ireturn, 1) := by decide +kernel
theorem dX0_widen_23 : decode cX0_widen 23 = .ok (.aload_n 0, 1) := by decide +kernel
theorem dX0_widen_24 : decode cX0_widen 24 = .ok (.getfield 30, 3) := by decide +kernel
theorem dX0_widen_27 : decode cX0_widen 27 = .ok (.iload_n 1, 1) := by decide +kernel
theorem dX0_widen_28 : decode cX0_widen 28 = .ok (.iaload, 1) := by decide +kernel
theorem dX0_widen_29 : decode cX0_widen 29 = .ok (.istore 4, 2) := by decide +kernel
theorem dX0_widen_31 : decode cX0_widen 31 = .ok (.aload_n 0, 1) := by decide +kernel
theorem dX0_widen_32 : decode cX0_widen 32 = .ok (.getfield 30, 3) := by decide +kernel
theorem dX0_widen_35 : decode cX0_widen 35 = .ok (.iload_n 1, 1) := by decide +kernel
theorem dX0_widen_36 : decode cX0_widen 36 = .ok (.iload_n 2, 1) := by decide +kernel
theorem dX0_widen_37 : decode cX0_widen 37 = .ok (.iastore, 1) := by decide +kernel
theorem dX0_widen_38 : decode cX0_widen 38 = .ok (.iload 4, 2) := by decide +kernel
theorem dX0_widen_40 : decode cX0_widen 40 = .ok (.ireturn, 1) := by decide +kernel
theorem dX0_worstRoom_0 : decode cX0_worstRoom 0 = .ok (.iconst 0, 1) := by decide +kernel
theorem dX0_worstRoom_1 : decode cX0_worstRoom 1 = .ok (.istore_n 1, 1) := by decide +kernel
theorem dX0_worstRoom_2 : decode cX0_worstRoom 2 = .ok (.aload_n 0, 1) := by decide +kernel
theorem dX0_worstRoom_3 : decode cX0_worstRoom 3 = .ok (.iconst 0, 1) := by decide +kernel
theorem dX0_worstRoom_4 : decode cX0_worstRoom 4 = .ok (.invokevirtual 75, 3) := by decide +kernel
theorem dX0_worstRoom_7 : decode cX0_worstRoom 7 = .ok (.istore_n 2, 1) := by decide +kernel
theorem dX0_worstRoom_8 : decode cX0_worstRoom 8 = .ok (.iconst 1, 1) := by decide +kernel
theorem dX0_worstRoom_9 : decode cX0_worstRoom 9 = .ok (.istore_n 3, 1) := by decide +kernel
theorem dX0_worstRoom_10 : decode cX0_worstRoom 10 = .ok (.iload_n 3, 1) := by decide +kernel
theorem dX0_worstRoom_11 : decode cX0_worstRoom 11 = .ok (.bipush 6, 2) := by decide +kernel
theorem dX0_worstRoom_13 : decode cX0_worstRoom 13 = .ok (.if_icmp .ge 27, 3) := by decide +kernel
theorem dX0_worstRoom_16 : decode cX0_worstRoom 16 = .ok (.aload_n 0, 1) := by decide +kernel
theorem dX0_worstRoom_17 : decode cX0_worstRoom 17 = .ok (.iload_n 3, 1) := by decide +kernel
theorem dX0_worstRoom_18 : decode cX0_worstRoom 18 = .ok (.invokevirtual 75, 3) := by decide +kernel
theorem dX0_worstRoom_21 : decode cX0_worstRoom 21 = .ok (.istore 4, 2) := by decide +kernel
theorem dX0_worstRoom_23 : decode cX0_worstRoom 23 = .ok (.iload 4, 2) := by decide +kernel
theorem dX0_worstRoom_25 : decode cX0_worstRoom 25 = .ok (.iload_n 2, 1) := by decide +kernel
theorem dX0_worstRoom_26 : decode cX0_worstRoom 26 = .ok (.if_icmp .le 8, 3) := by decide +kernel
theorem dX0_worstRoom_29 : decode cX0_worstRoom 29 = .ok (.iload_n 3, 1) := by decide +kernel
theorem dX0_worstRoom_30 : decode cX0_worstRoom 30 = .ok (.istore_n 1, 1) := by decide +kernel
theorem dX0_worstRoom_31 : decode cX0_worstRoom 31 = .ok (.iload 4, 2) := by decide +kernel
theorem dX0_worstRoom_33 : decode cX0_worstRoom 33 = .ok (.istore_n 2, 1) := by decide +kernel
theorem dX0_worstRoom_34 : decode cX0_worstRoom 34 = .ok (.iinc 3 1, 3) := by decide +kernel
theorem dX0_worstRoom_37 : decode cX0_worstRoom 37 = .ok (.goto (-27), 3) := by decide +kernel
theorem dX0_worstRoom_40 : decode cX0_worstRoom 40 = .ok (.iload_n 1, 1) := by decide +kernel
theorem dX0_worstRoom_41 : decode cX0_worstRoom 41 = .ok (.ireturn, 1) := by decide +kernel
