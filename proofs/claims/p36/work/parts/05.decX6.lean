theorem dX6_apart_0 : decode cX6_apart 0 = .ok (.aload_n 0, 1) := by decide +kernel
theorem dX6_apart_1 : decode cX6_apart 1 = .ok (.getfield 55, 3) := by decide +kernel
theorem dX6_apart_4 : decode cX6_apart 4 = .ok (.iconst 0, 1) := by decide +kernel
theorem dX6_apart_5 : decode cX6_apart 5 = .ok (.iaload, 1) := by decide +kernel
theorem dX6_apart_6 : decode cX6_apart 6 = .ok (.istore_n 1, 1) := by decide +kernel
theorem dX6_apart_7 : decode cX6_apart 7 = .ok (.aload_n 0, 1) := by decide +kernel
theorem dX6_apart_8 : decode cX6_apart 8 = .ok (.getfield 55, 3) := by decide +kernel
theorem dX6_apart_11 : decode cX6_apart 11 = .ok (.iconst 0, 1) := by decide +kernel
theorem dX6_apart_12 : decode cX6_apart 12 = .ok (.iaload, 1) := by decide +kernel
theorem dX6_apart_13 : decode cX6_apart 13 = .ok (.istore_n 2, 1) := by decide +kernel
theorem dX6_apart_14 : decode cX6_apart 14 = .ok (.iconst 1, 1) := by decide +kernel
theorem dX6_apart_15 : decode cX6_apart 15 = .ok (.istore_n 3, 1) := by decide +kernel
theorem dX6_apart_16 : decode cX6_apart 16 = .ok (.iload_n 3, 1) := by decide +kernel
theorem dX6_apart_17 : decode cX6_apart 17 = .ok (.aload_n 0, 1) := by decide +kernel
theorem dX6_apart_18 : decode cX6_apart 18 = .ok (.getfield 61, 3) := by decide +kernel
theorem dX6_apart_21 : decode cX6_apart 21 = .ok (.if_icmp .ge 51, 3) := by decide +kernel
theorem dX6_apart_24 : decode cX6_apart 24 = .ok (.aload_n 0, 1) := by decide +kernel
theorem dX6_apart_25 : decode cX6_apart 25 = .ok (.getfield 55, 3) := by decide +kernel
theorem dX6_apart_28 : decode cX6_apart 28 = .ok (.iload_n 3, 1) := by decide +kernel
theorem dX6_apart_29 : decode cX6_apart 29 = .ok (.iaload, 1) := by decide +kernel
theorem dX6_apart_30 : decode cX6_apart 30 = .ok (.iload_n 1, 1) := by decide +kernel
theorem dX6_apart_31 : decode cX6_apart 31 = .ok (.if_icmp .ge 12, 3) := by decide +kernel
theorem dX6_apart_34 : decode cX6_apart 34 = .ok (.aload_n 0, 1) := by decide +kernel
theorem dX6_apart_35 : decode cX6_apart 35 = .ok (.getfield 55, 3) := by decide +kernel
theorem dX6_apart_38 : decode cX6_apart 38 = .ok (.iload_n 3, 1) := by decide +kernel
theorem dX6_apart_39 : decode cX6_apart 39 = .ok (.iaload, 1) := by decide +kernel
theorem dX6_apart_40 : decode cX6_apart 40 = .ok (.goto 4, 3) := by decide +kernel
theorem dX6_apart_43 : decode cX6_apart 43 = .ok (.iload_n 1, 1) := by decide +kernel
theorem dX6_apart_44 : decode cX6_apart 44 = .ok (.istore_n 1, 1) := by decide +kernel
theorem dX6_apart_45 : decode cX6_apart 45 = .ok (.aload_n 0, 1) := by decide +kernel
theorem dX6_apart_46 : decode cX6_apart 46 = .ok (.getfield 55, 3) := by decide +kernel
theorem dX6_apart_49 : decode cX6_apart 49 = .ok (.iload_n 3, 1) := by decide +kernel
theorem dX6_apart_50 : decode cX6_apart 50 = .ok (.iaload, 1) := by decide +kernel
theorem dX6_apart_51 : decode cX6_apart 51 = .ok (.iload_n 2, 1) := by decide +kernel
theorem dX6_apart_52 : decode cX6_apart 52 = .ok (.if_icmp .le 12, 3) := by decide +kernel
theorem dX6_apart_55 : decode cX6_apart 55 = .ok (.aload_n 0, 1) := by decide +kernel
theorem dX6_apart_56 : decode cX6_apart 56 = .ok (.getfield 55, 3) := by decide +kernel
theorem dX6_apart_59 : decode cX6_apart 59 = .ok (.iload_n 3, 1) := by decide +kernel
theorem dX6_apart_60 : decode cX6_apart 60 = .ok (.iaload, 1) := by decide +kernel
theorem dX6_apart_61 : decode cX6_apart 61 = .ok (.goto 4, 3) := by decide +kernel
theorem dX6_apart_64 : decode cX6_apart 64 = .ok (.iload_n 2, 1) := by decide +kernel
theorem dX6_apart_65 : decode cX6_apart 65 = .ok (.istore_n 2, 1) := by decide +kernel
theorem dX6_apart_66 : decode cX6_apart 66 = .ok (.iinc 3 1, 3) := by decide +kernel
theorem dX6_apart_69 : decode cX6_apart 69 = .ok (.goto (-53), 3) := by decide +kernel
theorem dX6_apart_72 : decode cX6_apart 72 = .ok (.iload_n 2, 1) := by decide +kernel
theorem dX6_apart_73 : decode cX6_apart 73 = .ok (.iload_n 1, 1) := by decide +kernel
theorem dX6_apart_74 : decode cX6_apart 74 = .ok (.isub, 1) := by decide +kernel
theorem dX6_apart_75 : decode cX6_apart 75 = .ok (.ireturn, 1) := by decide +kernel
theorem dX6_ask_0 : decode cX6_ask 0 = .ok (.iload_n 1, 1) := by decide +kernel
theorem dX6_ask_1 : decode cX6_ask 1 = .ok (.iconst 0, 1) := by decide +kernel
theorem dX6_ask_2 : decode cX6_ask 2 = .ok (.sipush 999, 3) := by decide +kernel
theorem dX6_ask_5 : decode cX6_ask 5 = .ok (.invokestatic 72, 3) := by decide +kernel
theorem dX6_ask_8 : decode cX6_ask 8 = .ok (.istore_n 2, 1) := by decide +kernel
theorem dX6_ask_9 : decode cX6_ask 9 = .ok (.iload_n 2, 1) := by decide +kernel
theorem dX6_ask_10 : decode cX6_ask 10 = .ok (.ifCond .eq 9, 3) := by decide +kernel
theorem dX6_ask_13 : decode cX6_ask 13 = .ok (.aload_n 0, 1) := by decide +kernel
theorem dX6_ask_14 : decode cX6_ask 14 = .ok (.iload_n 2, 1) := by decide +kernel
theorem dX6_ask_15 : decode cX6_ask 15 = .ok (.invokevirtual 79, 3) := by decide +kernel
theorem dX6_ask_18 : decode cX6_ask 18 = .ok (.ireturn, 1) := by decide +kernel
theorem dX6_ask_19 : decode cX6_ask 19 = .ok (.aload_n 0, 1) := by decide +kernel
theorem dX6_ask_20 : decode cX6_ask 20 = .ok (.getfield 65, 3) := by decide +kernel
theorem dX6_ask_23 : decode cX6_ask 23 = .ok (.ifCond .ne 8, 3) := by decide +kernel
theorem dX6_ask_26 : decode cX6_ask 26 = .ok (.bipush (-9), 2) := by decide +kernel
theorem dX6_ask_28 : decode cX6_ask 28 = .ok (.goto 4, 3) := by decide +kernel
theorem dX6_ask_31 : decode cX6_ask 31 = .ok (.iconst 0, 1) := by decide +kernel
theorem dX6_ask_32 : decode cX6_ask 32 = .ok (.istore_n 3, 1) := by decide +kernel
theorem dX6_ask_33 : decode cX6_ask 33 = .ok (.iconst 1, 1) := by decide +kernel
theorem dX6_ask_34 : decode cX6_ask 34 = .ok (.istore 4, 2) := by decide +kernel
theorem dX6_ask_36 : decode cX6_ask 36 = .ok (.iload 4, 2) := by decide +kernel
theorem dX6_ask_38 : decode cX6_ask 38 = .ok (.aload_n 0, 1) := by decide +kernel
theorem dX6_ask_39 : decode cX6_ask 39 = .ok (.getfield 65, 3) := by decide +kernel
theorem dX6_ask_42 : decode cX6_ask 42 = .ok (.if_icmp .ge 32, 3) := by decide +kernel
theorem dX6_ask_45 : decode cX6_ask 45 = .ok (.aload_n 0, 1) := by decide +kernel
theorem dX6_ask_46 : decode cX6_ask 46 = .ok (.iload 4, 2) := by decide +kernel
theorem dX6_ask_48 : decode cX6_ask 48 = .ok (.iload_n 1, 1) := by decide +kernel
theorem dX6_ask_49 : decode cX6_ask 49 = .ok (.invokevirtual 246, 3) := by decide +kernel
theorem dX6_ask_52 : decode cX6_ask 52 = .ok (.aload_n 0, 1) := by decide +kernel
theorem dX6_ask_53 : decode cX6_ask 53 = .ok (.iload_n 3, 1) := by decide +kernel
theorem dX6_ask_54 : decode cX6_ask 54 = .ok (.iload_n 1, 1) := by decide +kernel
theorem dX6_ask_55 : decode cX6_ask 55 = .ok (.invokevirtual 246, 3) := by decide +kernel
theorem dX6_ask_58 : decode cX6_ask 58 = .ok (.if_icmp .le 8, 3) := by decide +kernel
theorem dX6_ask_61 : decode cX6_ask 61 = .ok (.iload 4, 2) := by decide +kernel
theorem dX6_ask_63 : decode cX6_ask 63 = .ok (.goto 4, 3) := by decide +kernel
theorem dX6_ask_66 : decode cX6_ask 66 = .ok (.iload_n 3, 1) := by decide +kernel
theorem dX6_ask_67 : decode cX6_ask 67 = .ok (.istore_n 3, 1) := by decide +kernel
theorem dX6_ask_68 : decode cX6_ask 68 = .ok (.iinc 4 1, 3) := by decide +kernel
theorem dX6_ask_71 : decode cX6_ask 71 = .ok (.goto (-35), 3) := by decide +kernel
theorem dX6_ask_74 : decode cX6_ask 74 = .ok (.iload_n 3, 1) := by decide +kernel
theorem dX6_ask_75 : decode cX6_ask 75 = .ok (.ireturn, 1) := by decide +kernel
theorem dX6_bigger_0 : decode cX6_bigger 0 = .ok (.aload_n 0, 1) := by decide +kernel
theorem dX6_bigger_1 : decode cX6_bigger 1 = .ok (.iload_n 1, 1) := by decide +kernel
theorem dX6_bigger_2 : decode cX6_bigger 2 = .ok (.invokevirtual 116, 3) := by decide +kernel
theorem dX6_bigger_5 : decode cX6_bigger 5 = .ok (.ifCond .eq 10, 3) := by decide +kernel
theorem dX6_bigger_8 : decode cX6_bigger 8 = .ok (.iload_n 2, 1) := by decide +kernel
theorem dX6_bigger_9 : decode cX6_bigger 9 = .ok (.invokestatic 68, 3) := by decide +kernel
theorem dX6_bigger_12 : decode cX6_bigger 12 = .ok (.ifCond .ne 9, 3) := by decide +kernel
theorem dX6_bigger_15 : decode cX6_bigger 15 = .ok (.aload_n 0, 1) := by decide +kernel
theorem dX6_bigger_16 : decode cX6_bigger 16 = .ok (.iconst (-1), 1) := by decide +kernel
theorem dX6_bigger_17 : decode cX6_bigger 17 = .ok (.invokevirtual 79, 3) := by decide +kernel
theorem dX6_bigger_20 : decode cX6_bigger 20 = .ok (.ireturn, 1) := by decide +kernel
theorem dX6_bigger_21 : decode cX6_bigger 21 = .ok (.aload_n 0, 1) := by decide +kernel
theorem dX6_bigger_22 : decode cX6_bigger 22 = .ok (.getfield 13, 3) := by decide +kernel
theorem dX6_bigger_25 : decode cX6_bigger 25 = .ok (.iload_n 2, 1) := by decide +kernel
theorem dX6_bigger_26 : decode cX6_bigger 26 = .ok (.iaload, 1) := by decide +kernel
theorem dX6_bigger_27 : decode cX6_bigger 27 = .ok (.istore_n 3, 1) := by decide +kernel
theorem dX6_bigger_28 : decode cX6_bigger 28 = .ok (.bipush (-9), 2) := by decide +kernel
theorem dX6_bigger_30 : decode cX6_bigger 30 = .ok (.istore 4, 2) := by decide +kernel
theorem dX6_bigger_32 : decode cX6_bigger 32 = .ok (.bipush 20, 2) := by decide +kernel
theorem dX6_bigger_34 : decode cX6_bigger 34 = .ok (.istore 5, 2) := by decide +kernel
theorem dX6_bigger_36 : decode cX6_bigger 36 = .ok (.iload 5, 2) := by decide +kernel
theorem dX6_bigger_38 : decode cX6_bigger 38 = .ok (.ifCond .lt 35, 3) := by decide +kernel
theorem dX6_bigger_41 : decode cX6_bigger 41 = .ok (.aload_n 0, 1) := by decide +kernel
theorem dX6_bigger_42 : decode cX6_bigger 42 = .ok (.getfield 13, 3) := by decide +kernel
theorem dX6_bigger_45 : decode cX6_bigger 45 = .ok (.iload_n 2, 1) := by decide +kernel
theorem dX6_bigger_46 : decode cX6_bigger 46 = .ok (.iload 5, 2) := by decide +kernel
theorem dX6_bigger_48 : decode cX6_bigger 48 = .ok (.iastore, 1) := by decide +kernel
theorem dX6_bigger_49 : decode cX6_bigger 49 = .ok (.aload_n 0, 1) := by decide +kernel
theorem dX6_bigger_50 : decode cX6_bigger 50 = .ok (.iload_n 1, 1) := by decide +kernel
theorem dX6_bigger_51 : decode cX6_bigger 51 = .ok (.iload_n 2, 1) := by decide +kernel
theorem dX6_bigger_52 : decode cX6_bigger 52 = .ok (.invokevirtual 122, 3) := by decide +kernel
theorem dX6_bigger_55 : decode cX6_bigger 55 = .ok (.ifCond .eq 8, 3) := by decide +kernel
theorem dX6_bigger_58 : decode cX6_bigger 58 = .ok (.iload 5, 2) := by decide +kernel
theorem dX6_bigger_60 : decode cX6_bigger 60 = .ok (.goto 5, 3) := by decide +kernel
theorem dX6_bigger_63 : decode cX6_bigger 63 = .ok (.iload 4, 2) := by decide +kernel
theorem dX6_bigger_65 : decode cX6_bigger 65 = .ok (.istore 4, 2) := by decide +kernel
theorem dX6_bigger_67 : decode cX6_bigger 67 = .ok (.iinc 5 (-1), 3) := by decide +kernel
theorem dX6_bigger_70 : decode cX6_bigger 70 = .ok (.goto (-34), 3) := by decide +kernel
theorem dX6_bigger_73 : decode cX6_bigger 73 = .ok (.aload_n 0, 1) := by decide +kernel
theorem dX6_bigger_74 : decode cX6_bigger 74 = .ok (.getfield 13, 3) := by decide +kernel
theorem dX6_bigger_77 : decode cX6_bigger 77 = .ok (.iload_n 2, 1) := by decide +kernel
theorem dX6_bigger_78 : decode cX6_bigger 78 = .ok (.iload_n 3, 1) := by decide +kernel
theorem dX6_bigger_79 : decode cX6_bigger 79 = .ok (.iastore, 1) := by decide +kernel
theorem dX6_bigger_80 : decode cX6_bigger 80 = .ok (.iload 4, 2) := by decide +kernel
theorem dX6_bigger_82 : decode cX6_bigger 82 = .ok (.ireturn, 1) := by decide +kernel
theorem dX6_bits_0 : decode cX6_bits 0 = .ok (.iconst 0, 1) := by decide +kernel
theorem dX6_bits_1 : decode cX6_bits 1 = .ok (.istore_n 1, 1) := by decide +kernel
theorem dX6_bits_2 : decode cX6_bits 2 = .ok (.iconst 0, 1) := by decide +kernel
theorem dX6_bits_3 : decode cX6_bits 3 = .ok (.istore_n 2, 1) := by decide +kernel
theorem dX6_bits_4 : decode cX6_bits 4 = .ok (.iload_n 2, 1) := by decide +kernel
theorem dX6_bits_5 : decode cX6_bits 5 = .ok (.bipush 31, 2) := by decide +kernel
theorem dX6_bits_7 : decode cX6_bits 7 = .ok (.if_icmp .ge 17, 3) := by decide +kernel
theorem dX6_bits_10 : decode cX6_bits 10 = .ok (.iload_n 1, 1) := by decide +kernel
theorem dX6_bits_11 : decode cX6_bits 11 = .ok (.iload_n 0, 1) := by decide +kernel
theorem dX6_bits_12 : decode cX6_bits 12 = .ok (.iload_n 2, 1) := by decide +kernel
theorem dX6_bits_13 : decode cX6_bits 13 = .ok (.ishr, 1) := by decide +kernel
theorem dX6_bits_14 : decode cX6_bits 14 = .ok (.iconst 1, 1) := by decide +kernel
theorem dX6_bits_15 : decode cX6_bits 15 = .ok (.iand, 1) := by decide +kernel
theorem dX6_bits_16 : decode cX6_bits 16 = .ok (.iadd, 1) := by decide +kernel
theorem dX6_bits_17 : decode cX6_bits 17 = .ok (.istore_n 1, 1) := by decide +kernel
theorem dX6_bits_18 : decode cX6_bits 18 = .ok (.iinc 2 1, 3) := by decide +kernel
theorem dX6_bits_21 : decode cX6_bits 21 = .ok (.goto (-17), 3) := by decide +kernel
theorem dX6_bits_24 : decode cX6_bits 24 = .ok (.iload_n 1, 1) := by decide +kernel
theorem dX6_bits_25 : decode cX6_bits 25 = .ok (.ireturn, 1) := by decide +kernel
theorem dX6_blame_0 : decode cX6_blame 0 = .ok (.iload_n 1, 1) := by decide +kernel
theorem dX6_blame_1 : decode cX6_blame 1 = .ok (.invokestatic 119, 3) := by decide +kernel
theorem dX6_blame_4 : decode cX6_blame 4 = .ok (.ifCond .ne 9, 3) := by decide +kernel
theorem dX6_blame_7 : decode cX6_blame 7 = .ok (.iload_n 1, 1) := by decide +kernel
theorem dX6_blame_8 : decode cX6_blame 8 = .ok (.bipush 10, 2) := by decide +kernel
theorem dX6_blame_10 : decode cX6_blame 10 = .ok (.if_icmp .ne 11, 3) := by decide +kernel
theorem dX6_blame_13 : decode cX6_blame 13 = .ok (.aload_n 0, 1) := by decide +kernel
theorem dX6_blame_14 : decode cX6_blame 14 = .ok (.iload_n 1, 1) := by decide +kernel
theorem dX6_blame_15 : decode cX6_blame 15 = .ok (.invokevirtual 178, 3) := by decide +kernel
theorem dX6_blame_18 : decode cX6_blame 18 = .ok (.goto 8, 3) := by decide +kernel
theorem dX6_blame_21 : decode cX6_blame 21 = .ok (.aload_n 0, 1) := by decide +kernel
theorem dX6_blame_22 : decode cX6_blame 22 = .ok (.iconst (-1), 1) := by decide +kernel
theorem dX6_blame_23 : decode cX6_blame 23 = .ok (.invokevirtual 79, 3) := by decide +kernel
theorem dX6_blame_26 : decode cX6_blame 26 = .ok (.ireturn, 1) := by decide +kernel
theorem dX6_blameBehind_0 : decode cX6_blameBehind 0 = .ok (.aload_n 0, 1) := by decide +kernel
theorem dX6_blameBehind_1 : decode cX6_blameBehind 1 = .ok (.iconst 1, 1) := by decide +kernel
theorem dX6_blameBehind_2 : decode cX6_blameBehind 2 = .ok (.iconst 1, 1) := by decide +kernel
theorem dX6_blameBehind_3 : decode cX6_blameBehind 3 = .ok (.invokevirtual 139, 3) := by decide +kernel
theorem dX6_blameBehind_6 : decode cX6_blameBehind 6 = .ok (.aload_n 0, 1) := by decide +kernel
theorem dX6_blameBehind_7 : decode cX6_blameBehind 7 = .ok (.iload_n 1, 1) := by decide +kernel
theorem dX6_blameBehind_8 : decode cX6_blameBehind 8 = .ok (.invokevirtual 131, 3) := by decide +kernel
theorem dX6_blameBehind_11 : decode cX6_blameBehind 11 = .ok (.aload_n 0, 1) := by decide +kernel
theorem dX6_blameBehind_12 : decode cX6_blameBehind 12 = .ok (.bipush 10, 2) := by decide +kernel
theorem dX6_blameBehind_14 : decode cX6_blameBehind 14 = .ok (.invokevirtual 178, 3) := by decide +kernel
theorem dX6_blameBehind_17 : decode cX6_blameBehind 17 = .ok (.istore_n 2, 1) := by decide +kernel
theorem dX6_blameBehind_18 : decode cX6_blameBehind 18 = .ok (.aload_n 0, 1) := by decide +kernel
theorem dX6_blameBehind_19 : decode cX6_blameBehind 19 = .ok (.iconst 1, 1) := by decide +kernel
theorem dX6_blameBehind_20 : decode cX6_blameBehind 20 = .ok (.iconst 0, 1) := by decide +kernel
theorem dX6_blameBehind_21 : decode cX6_blameBehind 21 = .ok (.invokevirtual 139, 3) := by decide +kernel
theorem dX6_blameBehind_24 : decode cX6_blameBehind 24 = .ok (.iload_n 2, 1) := by decide +kernel
theorem dX6_blameBehind_25 : decode cX6_blameBehind 25 = .ok (.ireturn, 1) := by decide +kernel
theorem dX6_blameIn_0 : decode cX6_blameIn 0 = .ok (.iconst 0, 1) := by decide +kernel
theorem dX6_blameIn_1 : decode cX6_blameIn 1 = .ok (.istore_n 2, 1) := by decide +kernel
theorem dX6_blameIn_2 : decode cX6_blameIn 2 = .ok (.iconst 0, 1) := by decide +kernel
theorem dX6_blameIn_3 : decode cX6_blameIn 3 = .ok (.istore_n 3, 1) := by decide +kernel
theorem dX6_blameIn_4 : decode cX6_blameIn 4 = .ok (.iload_n 3, 1) := by decide +kernel
theorem dX6_blameIn_5 : decode cX6_blameIn 5 = .ok (.aload_n 0, 1) := by decide +kernel
theorem dX6_blameIn_6 : decode cX6_blameIn 6 = .ok (.getfield 65, 3) := by decide +kernel
theorem dX6_blameIn_9 : decode cX6_blameIn 9 = .ok (.if_icmp .ge 37, 3) := by decide +kernel
theorem dX6_blameIn_12 : decode cX6_blameIn 12 = .ok (.iload_n 2, 1) := by decide +kernel
theorem dX6_blameIn_13 : decode cX6_blameIn 13 = .ok (.iload_n 1, 1) := by decide +kernel
theorem dX6_blameIn_14 : decode cX6_blameIn 14 = .ok (.bipush 10, 2) := by decide +kernel
theorem dX6_blameIn_16 : decode cX6_blameIn 16 = .ok (.if_icmp .eq 13, 3) := by decide +kernel
theorem dX6_blameIn_19 : decode cX6_blameIn 19 = .ok (.aload_n 0, 1) := by decide +kernel
theorem dX6_blameIn_20 : decode cX6_blameIn 20 = .ok (.getfield 31, 3) := by decide +kernel
theorem dX6_blameIn_23 : decode cX6_blameIn 23 = .ok (.iload_n 3, 1) := by decide +kernel
theorem dX6_blameIn_24 : decode cX6_blameIn 24 = .ok (.iaload, 1) := by decide +kernel
theorem dX6_blameIn_25 : decode cX6_blameIn 25 = .ok (.iload_n 1, 1) := by decide +kernel
theorem dX6_blameIn_26 : decode cX6_blameIn 26 = .ok (.if_icmp .ne 11, 3) := by decide +kernel
theorem dX6_blameIn_29 : decode cX6_blameIn 29 = .ok (.aload_n 0, 1) := by decide +kernel
theorem dX6_blameIn_30 : decode cX6_blameIn 30 = .ok (.iload_n 3, 1) := by decide +kernel
theorem dX6_blameIn_31 : decode cX6_blameIn 31 = .ok (.invokevirtual 169, 3) := by decide +kernel
theorem dX6_blameIn_34 : decode cX6_blameIn 34 = .ok (.goto 4, 3) := by decide +kernel
theorem dX6_blameIn_37 : decode cX6_blameIn 37 = .ok (.iconst 0, 1) := by decide +kernel
theorem dX6_blameIn_38 : decode cX6_blameIn 38 = .ok (.iadd, 1) := by decide +kernel
theorem dX6_blameIn_39 : decode cX6_blameIn 39 = .ok (.istore_n 2, 1) := by decide +kernel
theorem dX6_blameIn_40 : decode cX6_blameIn 40 = .ok (.iinc 3 1, 3) := by decide +kernel
theorem dX6_blameIn_43 : decode cX6_blameIn 43 = .ok (.goto (-39), 3) := by decide +kernel
theorem dX6_blameIn_46 : decode cX6_blameIn 46 = .ok (.iload_n 2, 1) := by decide +kernel
theorem dX6_blameIn_47 : decode cX6_blameIn 47 = .ok (.ireturn, 1) := by decide +kernel
theorem dX6_blameOf_0 : decode cX6_blameOf 0 = .ok (.aload_n 0, 1) := by decide +kernel
theorem dX6_blameOf_1 : decode cX6_blameOf 1 = .ok (.getfield 19, 3) := by decide +kernel
theorem dX6_blameOf_4 : decode cX6_blameOf 4 = .ok (.iload_n 1, 1) := by decide +kernel
theorem dX6_blameOf_5 : decode cX6_blameOf 5 = .ok (.iaload, 1) := by decide +kernel
theorem dX6_blameOf_6 : decode cX6_blameOf 6 = .ok (.tableswitch 84 1 5 #[34, 40, 46, 63, 76], 34) := by decide +kernel
theorem dX6_blameOf_40 : decode cX6_blameOf 40 = .ok (.aload_n 0, 1) := by decide +kernel
theorem dX6_blameOf_41 : decode cX6_blameOf 41 = .ok (.iload_n 1, 1) := by decide +kernel
theorem dX6_blameOf_42 : decode cX6_blameOf 42 = .ok (.invokevirtual 163, 3) := by decide +kernel
theorem dX6_blameOf_45 : decode cX6_blameOf 45 = .ok (.ireturn, 1) := by decide +kernel
theorem dX6_blameOf_46 : decode cX6_blameOf 46 = .ok (.aload_n 0, 1) := by decide +kernel
theorem dX6_blameOf_47 : decode cX6_blameOf 47 = .ok (.iload_n 1, 1) := by decide +kernel
theorem dX6_blameOf_48 : decode cX6_blameOf 48 = .ok (.invokevirtual 166, 3) := by decide +kernel
theorem dX6_blameOf_51 : decode cX6_blameOf 51 = .ok (.ireturn, 1) := by decide +kernel
theorem dX6_blameOf_52 : decode cX6_blameOf 52 = .ok (.aload_n 0, 1) := by decide +kernel
theorem dX6_blameOf_53 : decode cX6_blameOf 53 = .ok (.getfield 25, 3) := by decide +kernel
theorem dX6_blameOf_56 : decode cX6_blameOf 56 = .ok (.iload_n 1, 1) := by decide +kernel
theorem dX6_blameOf_57 : decode cX6_blameOf 57 = .ok (.iaload, 1) := by decide +kernel
theorem dX6_blameOf_58 : decode cX6_blameOf 58 = .ok (.aload_n 0, 1) := by decide +kernel
theorem dX6_blameOf_59 : decode cX6_blameOf 59 = .ok (.getfield 28, 3) := by decide +kernel
theorem dX6_blameOf_62 : decode cX6_blameOf 62 = .ok (.iload_n 1, 1) := by decide +kernel
theorem dX6_blameOf_63 : decode cX6_blameOf 63 = .ok (.iaload, 1) := by decide +kernel
theorem dX6_blameOf_64 : decode cX6_blameOf 64 = .ok (.bipush 10, 2) := by decide +kernel
theorem dX6_blameOf_66 : decode cX6_blameOf 66 = .ok (.idiv, 1) := by decide +kernel
theorem dX6_blameOf_67 : decode cX6_blameOf 67 = .ok (.iadd, 1) := by decide +kernel
theorem dX6_blameOf_68 : decode cX6_blameOf 68 = .ok (.ireturn, 1) := by decide +kernel
theorem dX6_blameOf_69 : decode cX6_blameOf 69 = .ok (.aload_n 0, 1) := by decide +kernel
theorem dX6_blameOf_70 : decode cX6_blameOf 70 = .ok (.iload_n 1, 1) := by decide +kernel
theorem dX6_blameOf_71 : decode cX6_blameOf 71 = .ok (.invokevirtual 163, 3) := by decide +kernel
theorem dX6_blameOf_74 : decode cX6_blameOf 74 = .ok (.aload_n 0, 1) := by decide +kernel
theorem dX6_blameOf_75 : decode cX6_blameOf 75 = .ok (.getfield 25, 3) := by decide +kernel
theorem dX6_blameOf_78 : decode cX6_blameOf 78 = .ok (.iload_n 1, 1) := by decide +kernel
theorem dX6_blameOf_79 : decode cX6_blameOf 79 = .ok (.iaload, 1) := by decide +kernel
theorem dX6_blameOf_80 : decode cX6_blameOf 80 = .ok (.iadd, 1) := by decide +kernel
theorem dX6_blameOf_81 : decode cX6_blameOf 81 = .ok (.ireturn, 1) := by decide +kernel
theorem dX6_blameOf_82 : decode cX6_blameOf 82 = .ok (.aload_n 0, 1) := by decide +kernel
theorem dX6_blameOf_83 : decode cX6_blameOf 83 = .ok (.iload_n 1, 1) := by decide +kernel
theorem dX6_blameOf_84 : decode cX6_blameOf 84 = .ok (.invokevirtual 166, 3) := by decide +kernel
theorem dX6_blameOf_87 : decode cX6_blameOf 87 = .ok (.iconst 2, 1) := by decide +kernel
theorem dX6_blameOf_88 : decode cX6_blameOf 88 = .ok (.idiv, 1) := by decide +kernel
theorem dX6_blameOf_89 : decode cX6_blameOf 89 = .ok (.ireturn, 1) := by decide +kernel
theorem dX6_blameOf_90 : decode cX6_blameOf 90 = .ok (.aload_n 0, 1) := by decide +kernel
theorem dX6_blameOf_91 : decode cX6_blameOf 91 = .ok (.getfield 25, 3) := by decide +kernel
theorem dX6_blameOf_94 : decode cX6_blameOf 94 = .ok (.iload_n 1, 1) := by decide +kernel
theorem dX6_blameOf_95 : decode cX6_blameOf 95 = .ok (.iaload, 1) := by decide +kernel
theorem dX6_blameOf_96 : decode cX6_blameOf 96 = .ok (.ireturn, 1) := by decide +kernel
theorem dX6_blameWith_0 : decode cX6_blameWith 0 = .ok (.aload_n 0, 1) := by decide +kernel
theorem dX6_blameWith_1 : decode cX6_blameWith 1 = .ok (.getfield 25, 3) := by decide +kernel
theorem dX6_blameWith_4 : decode cX6_blameWith 4 = .ok (.iload_n 1, 1) := by decide +kernel
theorem dX6_blameWith_5 : decode cX6_blameWith 5 = .ok (.iaload, 1) := by decide +kernel
theorem dX6_blameWith_6 : decode cX6_blameWith 6 = .ok (.istore_n 3, 1) := by decide +kernel
theorem dX6_blameWith_7 : decode cX6_blameWith 7 = .ok (.aload_n 0, 1) := by decide +kernel
theorem dX6_blameWith_8 : decode cX6_blameWith 8 = .ok (.getfield 25, 3) := by decide +kernel
theorem dX6_blameWith_11 : decode cX6_blameWith 11 = .ok (.iload_n 1, 1) := by decide +kernel
theorem dX6_blameWith_12 : decode cX6_blameWith 12 = .ok (.iload_n 2, 1) := by decide +kernel
theorem dX6_blameWith_13 : decode cX6_blameWith 13 = .ok (.iastore, 1) := by decide +kernel
theorem dX6_blameWith_14 : decode cX6_blameWith 14 = .ok (.aload_n 0, 1) := by decide +kernel
theorem dX6_blameWith_15 : decode cX6_blameWith 15 = .ok (.bipush 10, 2) := by decide +kernel
theorem dX6_blameWith_17 : decode cX6_blameWith 17 = .ok (.invokevirtual 178, 3) := by decide +kernel
theorem dX6_blameWith_20 : decode cX6_blameWith 20 = .ok (.istore 4, 2) := by decide +kernel
theorem dX6_blameWith_22 : decode cX6_blameWith 22 = .ok (.aload_n 0, 1) := by decide +kernel
theorem dX6_blameWith_23 : decode cX6_blameWith 23 = .ok (.getfield 25, 3) := by decide +kernel
theorem dX6_blameWith_26 : decode cX6_blameWith 26 = .ok (.iload_n 1, 1) := by decide +kernel
theorem dX6_blameWith_27 : decode cX6_blameWith 27 = .ok (.iload_n 3, 1) := by decide +kernel
theorem dX6_blameWith_28 : decode cX6_blameWith 28 = .ok (.iastore, 1) := by decide +kernel
theorem dX6_blameWith_29 : decode cX6_blameWith 29 = .ok (.iload 4, 2) := by decide +kernel
theorem dX6_blameWith_31 : decode cX6_blameWith 31 = .ok (.ireturn, 1) := by decide +kernel
theorem dX6_blameWithout_0 : decode cX6_blameWithout 0 = .ok (.aload_n 0, 1) := by decide +kernel
theorem dX6_blameWithout_1 : decode cX6_blameWithout 1 = .ok (.iconst 1, 1) := by decide +kernel
theorem dX6_blameWithout_2 : decode cX6_blameWithout 2 = .ok (.iconst 1, 1) := by decide +kernel
theorem dX6_blameWithout_3 : decode cX6_blameWithout 3 = .ok (.invokevirtual 139, 3) := by decide +kernel
theorem dX6_blameWithout_6 : decode cX6_blameWithout 6 = .ok (.iload_n 2, 1) := by decide +kernel
theorem dX6_blameWithout_7 : decode cX6_blameWithout 7 = .ok (.ifCond .lt 8, 3) := by decide +kernel
theorem dX6_blameWithout_10 : decode cX6_blameWithout 10 = .ok (.aload_n 0, 1) := by decide +kernel
theorem dX6_blameWithout_11 : decode cX6_blameWithout 11 = .ok (.iload_n 2, 1) := by decide +kernel
theorem dX6_blameWithout_12 : decode cX6_blameWithout 12 = .ok (.invokevirtual 231, 3) := by decide +kernel
theorem dX6_blameWithout_15 : decode cX6_blameWithout 15 = .ok (.aload_n 0, 1) := by decide +kernel
theorem dX6_blameWithout_16 : decode cX6_blameWithout 16 = .ok (.iload_n 1, 1) := by decide +kernel
theorem dX6_blameWithout_17 : decode cX6_blameWithout 17 = .ok (.invokevirtual 231, 3) := by decide +kernel
theorem dX6_blameWithout_20 : decode cX6_blameWithout 20 = .ok (.aload_n 0, 1) := by decide +kernel
theorem dX6_blameWithout_21 : decode cX6_blameWithout 21 = .ok (.bipush 10, 2) := by decide +kernel
theorem dX6_blameWithout_23 : decode cX6_blameWithout 23 = .ok (.invokevirtual 178, 3) := by decide +kernel
theorem dX6_blameWithout_26 : decode cX6_blameWithout 26 = .ok (.istore_n 3, 1) := by decide +kernel
theorem dX6_blameWithout_27 : decode cX6_blameWithout 27 = .ok (.aload_n 0, 1) := by decide +kernel
theorem dX6_blameWithout_28 : decode cX6_blameWithout 28 = .ok (.iconst 1, 1) := by decide +kernel
theorem dX6_blameWithout_29 : decode cX6_blameWithout 29 = .ok (.iconst 0, 1) := by decide +kernel
theorem dX6_blameWithout_30 : decode cX6_blameWithout 30 = .ok (.invokevirtual 139, 3) := by decide +kernel
theorem dX6_blameWithout_33 : decode cX6_blameWithout 33 = .ok (.iload_n 3, 1) := by decide +kernel
theorem dX6_blameWithout_34 : decode cX6_blameWithout 34 = .ok (.ireturn, 1) := by decide +kernel
theorem dX6_bound_0 : decode cX6_bound 0 = .ok (.iload_n 0, 1) := by decide +kernel
theorem dX6_bound_1 : decode cX6_bound 1 = .ok (.iload_n 1, 1) := by decide +kernel
theorem dX6_bound_2 : decode cX6_bound 2 = .ok (.if_icmp .ge 8, 3) := by decide +kernel
theorem dX6_bound_5 : decode cX6_bound 5 = .ok (.bipush (-4), 2) := by decide +kernel
theorem dX6_bound_7 : decode cX6_bound 7 = .ok (.goto 14, 3) := by decide +kernel
theorem dX6_bound_10 : decode cX6_bound 10 = .ok (.iload_n 0, 1) := by decide +kernel
theorem dX6_bound_11 : decode cX6_bound 11 = .ok (.iload_n 2, 1) := by decide +kernel
theorem dX6_bound_12 : decode cX6_bound 12 = .ok (.if_icmp .le 8, 3) := by decide +kernel
theorem dX6_bound_15 : decode cX6_bound 15 = .ok (.bipush (-6), 2) := by decide +kernel
theorem dX6_bound_17 : decode cX6_bound 17 = .ok (.goto 4, 3) := by decide +kernel
theorem dX6_bound_20 : decode cX6_bound 20 = .ok (.iconst 0, 1) := by decide +kernel
theorem dX6_bound_21 : decode cX6_bound 21 = .ok (.ireturn, 1) := by decide +kernel
theorem dX6_bulkIn_0 : decode cX6_bulkIn 0 = .ok (.iconst 0, 1) := by decide +kernel
theorem dX6_bulkIn_1 : decode cX6_bulkIn 1 = .ok (.istore_n 2, 1) := by decide +kernel
theorem dX6_bulkIn_2 : decode cX6_bulkIn 2 = .ok (.iconst 0, 1) := by decide +kernel
theorem dX6_bulkIn_3 : decode cX6_bulkIn 3 = .ok (.istore_n 3, 1) := by decide +kernel
theorem dX6_bulkIn_4 : decode cX6_bulkIn 4 = .ok (.iload_n 3, 1) := by decide +kernel
theorem dX6_bulkIn_5 : decode cX6_bulkIn 5 = .ok (.aload_n 0, 1) := by decide +kernel
theorem dX6_bulkIn_6 : decode cX6_bulkIn 6 = .ok (.getfield 65, 3) := by decide +kernel
theorem dX6_bulkIn_9 : decode cX6_bulkIn 9 = .ok (.if_icmp .ge 32, 3) := by decide +kernel
theorem dX6_bulkIn_12 : decode cX6_bulkIn 12 = .ok (.iload_n 2, 1) := by decide +kernel
theorem dX6_bulkIn_13 : decode cX6_bulkIn 13 = .ok (.aload_n 0, 1) := by decide +kernel
theorem dX6_bulkIn_14 : decode cX6_bulkIn 14 = .ok (.getfield 31, 3) := by decide +kernel
theorem dX6_bulkIn_17 : decode cX6_bulkIn 17 = .ok (.iload_n 3, 1) := by decide +kernel
theorem dX6_bulkIn_18 : decode cX6_bulkIn 18 = .ok (.iaload, 1) := by decide +kernel
theorem dX6_bulkIn_19 : decode cX6_bulkIn 19 = .ok (.iload_n 1, 1) := by decide +kernel
theorem dX6_bulkIn_20 : decode cX6_bulkIn 20 = .ok (.if_icmp .ne 12, 3) := by decide +kernel
theorem dX6_bulkIn_23 : decode cX6_bulkIn 23 = .ok (.aload_n 0, 1) := by decide +kernel
theorem dX6_bulkIn_24 : decode cX6_bulkIn 24 = .ok (.getfield 22, 3) := by decide +kernel
theorem dX6_bulkIn_27 : decode cX6_bulkIn 27 = .ok (.iload_n 3, 1) := by decide +kernel
theorem dX6_bulkIn_28 : decode cX6_bulkIn 28 = .ok (.iaload, 1) := by decide +kernel
theorem dX6_bulkIn_29 : decode cX6_bulkIn 29 = .ok (.goto 4, 3) := by decide +kernel
theorem dX6_bulkIn_32 : decode cX6_bulkIn 32 = .ok (.iconst 0, 1) := by decide +kernel
theorem dX6_bulkIn_33 : decode cX6_bulkIn 33 = .ok (.iadd, 1) := by decide +kernel
theorem dX6_bulkIn_34 : decode cX6_bulkIn 34 = .ok (.istore_n 2, 1) := by decide +kernel
theorem dX6_bulkIn_35 : decode cX6_bulkIn 35 = .ok (.iinc 3 1, 3) := by decide +kernel
theorem dX6_bulkIn_38 : decode cX6_bulkIn 38 = .ok (.goto (-34), 3) := by decide +kernel
theorem dX6_bulkIn_41 : decode cX6_bulkIn 41 = .ok (.iload_n 2, 1) := by decide +kernel
theorem dX6_bulkIn_42 : decode cX6_bulkIn 42 = .ok (.ireturn, 1) := by decide +kernel
theorem dX6_burn_0 : decode cX6_burn 0 = .ok (.bipush (-9), 2) := by decide +kernel
theorem dX6_burn_2 : decode cX6_burn 2 = .ok (.istore_n 1, 1) := by decide +kernel
theorem dX6_burn_3 : decode cX6_burn 3 = .ok (.iconst 0, 1) := by decide +kernel
theorem dX6_burn_4 : decode cX6_burn 4 = .ok (.istore_n 2, 1) := by decide +kernel
theorem dX6_burn_5 : decode cX6_burn 5 = .ok (.iconst 0, 1) := by decide +kernel
theorem dX6_burn_6 : decode cX6_burn 6 = .ok (.istore_n 3, 1) := by decide +kernel
theorem dX6_burn_7 : decode cX6_burn 7 = .ok (.iload_n 3, 1) := by decide +kernel
theorem dX6_burn_8 : decode cX6_burn 8 = .ok (.aload_n 0, 1) := by decide +kernel
theorem dX6_burn_9 : decode cX6_burn 9 = .ok (.getfield 65, 3) := by decide +kernel
theorem dX6_burn_12 : decode cX6_burn 12 = .ok (.if_icmp .ge 62, 3) := by decide +kernel
theorem dX6_burn_15 : decode cX6_burn 15 = .ok (.iload_n 3, 1) := by decide +kernel
theorem dX6_burn_16 : decode cX6_burn 16 = .ok (.iconst 1, 1) := by decide +kernel
theorem dX6_burn_17 : decode cX6_burn 17 = .ok (.iadd, 1) := by decide +kernel
theorem dX6_burn_18 : decode cX6_burn 18 = .ok (.istore 4, 2) := by decide +kernel
theorem dX6_burn_20 : decode cX6_burn 20 = .ok (.iload 4, 2) := by decide +kernel
theorem dX6_burn_22 : decode cX6_burn 22 = .ok (.aload_n 0, 1) := by decide +kernel
theorem dX6_burn_23 : decode cX6_burn 23 = .ok (.getfield 65, 3) := by decide +kernel
theorem dX6_burn_26 : decode cX6_burn 26 = .ok (.if_icmp .ge 42, 3) := by decide +kernel
theorem dX6_burn_29 : decode cX6_burn 29 = .ok (.aload_n 0, 1) := by decide +kernel
theorem dX6_burn_30 : decode cX6_burn 30 = .ok (.iload_n 3, 1) := by decide +kernel
theorem dX6_burn_31 : decode cX6_burn 31 = .ok (.iload 4, 2) := by decide +kernel
theorem dX6_burn_33 : decode cX6_burn 33 = .ok (.invokevirtual 234, 3) := by decide +kernel
theorem dX6_burn_36 : decode cX6_burn 36 = .ok (.istore 5, 2) := by decide +kernel
theorem dX6_burn_38 : decode cX6_burn 38 = .ok (.iload_n 1, 1) := by decide +kernel
theorem dX6_burn_39 : decode cX6_burn 39 = .ok (.ifCond .lt 12, 3) := by decide +kernel
theorem dX6_burn_42 : decode cX6_burn 42 = .ok (.iload 5, 2) := by decide +kernel
theorem dX6_burn_44 : decode cX6_burn 44 = .ok (.iload_n 2, 1) := by decide +kernel
theorem dX6_burn_45 : decode cX6_burn 45 = .ok (.if_icmp .lt 6, 3) := by decide +kernel
theorem dX6_burn_48 : decode cX6_burn 48 = .ok (.goto 14, 3) := by decide +kernel
theorem dX6_burn_51 : decode cX6_burn 51 = .ok (.bipush 10, 2) := by decide +kernel
theorem dX6_burn_53 : decode cX6_burn 53 = .ok (.iload_n 3, 1) := by decide +kernel
theorem dX6_burn_54 : decode cX6_burn 54 = .ok (.imul, 1) := by decide +kernel
theorem dX6_burn_55 : decode cX6_burn 55 = .ok (.iload 4, 2) := by decide +kernel
theorem dX6_burn_57 : decode cX6_burn 57 = .ok (.iadd, 1) := by decide +kernel
theorem dX6_burn_58 : decode cX6_burn 58 = .ok (.istore_n 1, 1) := by decide +kernel
theorem dX6_burn_59 : decode cX6_burn 59 = .ok (.iload 5, 2) := by decide +kernel
theorem dX6_burn_61 : decode cX6_burn 61 = .ok (.istore_n 2, 1) := by decide +kernel
theorem dX6_burn_62 : decode cX6_burn 62 = .ok (.iinc 4 1, 3) := by decide +kernel
theorem dX6_burn_65 : decode cX6_burn 65 = .ok (.goto (-45), 3) := by decide +kernel
theorem dX6_burn_68 : decode cX6_burn 68 = .ok (.iinc 3 1, 3) := by decide +kernel
theorem dX6_burn_71 : decode cX6_burn 71 = .ok (.goto (-64), 3) := by decide +kernel
theorem dX6_burn_74 : decode cX6_burn 74 = .ok (.iload_n 1, 1) := by decide +kernel
theorem dX6_burn_75 : decode cX6_burn 75 = .ok (.ireturn, 1) := by decide +kernel
theorem dX6_canCarry_0 : decode cX6_canCarry 0 = .ok (.aload_n 0, 1) := by decide +kernel
theorem dX6_canCarry_1 : decode cX6_canCarry 1 = .ok (.getfield 31, 3) := by decide +kernel
theorem dX6_canCarry_4 : decode cX6_canCarry 4 = .ok (.iload_n 1, 1) := by decide +kernel
theorem dX6_canCarry_5 : decode cX6_canCarry 5 = .ok (.iaload, 1) := by decide +kernel
theorem dX6_canCarry_6 : decode cX6_canCarry 6 = .ok (.istore_n 3, 1) := by decide +kernel
theorem dX6_canCarry_7 : decode cX6_canCarry 7 = .ok (.iload_n 2, 1) := by decide +kernel
theorem dX6_canCarry_8 : decode cX6_canCarry 8 = .ok (.iload_n 3, 1) := by decide +kernel
theorem dX6_canCarry_9 : decode cX6_canCarry 9 = .ok (.if_icmp .ne 5, 3) := by decide +kernel
theorem dX6_canCarry_12 : decode cX6_canCarry 12 = .ok (.iconst 0, 1) := by decide +kernel
theorem dX6_canCarry_13 : decode cX6_canCarry 13 = .ok (.ireturn, 1) := by decide +kernel
theorem dX6_canCarry_14 : decode cX6_canCarry 14 = .ok (.iload_n 2, 1) := by decide +kernel
theorem dX6_canCarry_15 : decode cX6_canCarry 15 = .ok (.bipush 9, 2) := by decide +kernel
theorem dX6_canCarry_17 : decode cX6_canCarry 17 = .ok (.if_icmp .ne 5, 3) := by decide +kernel
theorem dX6_canCarry_20 : decode cX6_canCarry 20 = .ok (.iconst 1, 1) := by decide +kernel
theorem dX6_canCarry_21 : decode cX6_canCarry 21 = .ok (.ireturn, 1) := by decide +kernel
theorem dX6_canCarry_22 : decode cX6_canCarry 22 = .ok (.aload_n 0, 1) := by decide +kernel
theorem dX6_canCarry_23 : decode cX6_canCarry 23 = .ok (.iload_n 2, 1) := by decide +kernel
theorem dX6_canCarry_24 : decode cX6_canCarry 24 = .ok (.invokevirtual 125, 3) := by decide +kernel
theorem dX6_canCarry_27 : decode cX6_canCarry 27 = .ok (.aload_n 0, 1) := by decide +kernel
theorem dX6_canCarry_28 : decode cX6_canCarry 28 = .ok (.getfield 22, 3) := by decide +kernel
theorem dX6_canCarry_31 : decode cX6_canCarry 31 = .ok (.iload_n 1, 1) := by decide +kernel
theorem dX6_canCarry_32 : decode cX6_canCarry 32 = .ok (.iaload, 1) := by decide +kernel
theorem dX6_canCarry_33 : decode cX6_canCarry 33 = .ok (.iadd, 1) := by decide +kernel
theorem dX6_canCarry_34 : decode cX6_canCarry 34 = .ok (.aload_n 0, 1) := by decide +kernel
theorem dX6_canCarry_35 : decode cX6_canCarry 35 = .ok (.getfield 13, 3) := by decide +kernel
theorem dX6_canCarry_38 : decode cX6_canCarry 38 = .ok (.iload_n 2, 1) := by decide +kernel
theorem dX6_canCarry_39 : decode cX6_canCarry 39 = .ok (.iaload, 1) := by decide +kernel
theorem dX6_canCarry_40 : decode cX6_canCarry 40 = .ok (.if_icmp .le 5, 3) := by decide +kernel
theorem dX6_canCarry_43 : decode cX6_canCarry 43 = .ok (.iconst 0, 1) := by decide +kernel
theorem dX6_canCarry_44 : decode cX6_canCarry 44 = .ok (.ireturn, 1) := by decide +kernel
theorem dX6_canCarry_45 : decode cX6_canCarry 45 = .ok (.iconst 1, 1) := by decide +kernel
theorem dX6_canCarry_46 : decode cX6_canCarry 46 = .ok (.istore 4, 2) := by decide +kernel
theorem dX6_canCarry_48 : decode cX6_canCarry 48 = .ok (.iload 4, 2) := by decide +kernel
theorem dX6_canCarry_50 : decode cX6_canCarry 50 = .ok (.iconst 3, 1) := by decide +kernel
theorem dX6_canCarry_51 : decode cX6_canCarry 51 = .ok (.if_icmp .ge 73, 3) := by decide +kernel
theorem dX6_canCarry_54 : decode cX6_canCarry 54 = .ok (.iload_n 3, 1) := by decide +kernel
theorem dX6_canCarry_55 : decode cX6_canCarry 55 = .ok (.bipush 9, 2) := by decide +kernel
theorem dX6_canCarry_57 : decode cX6_canCarry 57 = .ok (.if_icmp .eq 36, 3) := by decide +kernel
theorem dX6_canCarry_60 : decode cX6_canCarry 60 = .ok (.iload_n 3, 1) := by decide +kernel
theorem dX6_canCarry_61 : decode cX6_canCarry 61 = .ok (.iconst 2, 1) := by decide +kernel
theorem dX6_canCarry_62 : decode cX6_canCarry 62 = .ok (.idiv, 1) := by decide +kernel
theorem dX6_canCarry_63 : decode cX6_canCarry 63 = .ok (.iload 4, 2) := by decide +kernel
theorem dX6_canCarry_65 : decode cX6_canCarry 65 = .ok (.if_icmp .ge 7, 3) := by decide +kernel
theorem dX6_canCarry_68 : decode cX6_canCarry 68 = .ok (.iconst 1, 1) := by decide +kernel
theorem dX6_canCarry_69 : decode cX6_canCarry 69 = .ok (.goto 4, 3) := by decide +kernel
theorem dX6_canCarry_72 : decode cX6_canCarry 72 = .ok (.iconst 0, 1) := by decide +kernel
theorem dX6_canCarry_73 : decode cX6_canCarry 73 = .ok (.iload_n 2, 1) := by decide +kernel
theorem dX6_canCarry_74 : decode cX6_canCarry 74 = .ok (.iconst 2, 1) := by decide +kernel
theorem dX6_canCarry_75 : decode cX6_canCarry 75 = .ok (.idiv, 1) := by decide +kernel
theorem dX6_canCarry_76 : decode cX6_canCarry 76 = .ok (.iload 4, 2) := by decide +kernel
theorem dX6_canCarry_78 : decode cX6_canCarry 78 = .ok (.if_icmp .ge 7, 3) := by decide +kernel
theorem dX6_canCarry_81 : decode cX6_canCarry 81 = .ok (.iconst 1, 1) := by decide +kernel
theorem dX6_canCarry_82 : decode cX6_canCarry 82 = .ok (.goto 4, 3) := by decide +kernel
theorem dX6_canCarry_85 : decode cX6_canCarry 85 = .ok (.iconst 0, 1) := by decide +kernel
theorem dX6_canCarry_86 : decode cX6_canCarry 86 = .ok (.if_icmp .eq 7, 3) := by decide +kernel
theorem dX6_canCarry_89 : decode cX6_canCarry 89 = .ok (.iconst 1, 1) := by decide +kernel
theorem dX6_canCarry_90 : decode cX6_canCarry 90 = .ok (.goto 4, 3) := by decide +kernel
theorem dX6_canCarry_93 : decode cX6_canCarry 93 = .ok (.iconst 0, 1) := by decide +kernel
theorem dX6_canCarry_94 : decode cX6_canCarry 94 = .ok (.istore 5, 2) := by decide +kernel
theorem dX6_canCarry_96 : decode cX6_canCarry 96 = .ok (.iload 5, 2) := by decide +kernel
theorem dX6_canCarry_98 : decode cX6_canCarry 98 = .ok (.ifCond .eq 20, 3) := by decide +kernel
theorem dX6_canCarry_101 : decode cX6_canCarry 101 = .ok (.aload_n 0, 1) := by decide +kernel
theorem dX6_canCarry_102 : decode cX6_canCarry 102 = .ok (.iload_n 1, 1) := by decide +kernel
theorem dX6_canCarry_103 : decode cX6_canCarry 103 = .ok (.invokevirtual 172, 3) := by decide +kernel
theorem dX6_canCarry_106 : decode cX6_canCarry 106 = .ok (.aload_n 0, 1) := by decide +kernel
theorem dX6_canCarry_107 : decode cX6_canCarry 107 = .ok (.getfield 16, 3) := by decide +kernel
theorem dX6_canCarry_110 : decode cX6_canCarry 110 = .ok (.iload 4, 2) := by decide +kernel
theorem dX6_canCarry_112 : decode cX6_canCarry 112 = .ok (.iaload, 1) := by decide +kernel
theorem dX6_canCarry_113 : decode cX6_canCarry 113 = .ok (.if_icmp .le 5, 3) := by decide +kernel
theorem dX6_canCarry_116 : decode cX6_canCarry 116 = .ok (.iconst 0, 1) := by decide +kernel
theorem dX6_canCarry_117 : decode cX6_canCarry 117 = .ok (.ireturn, 1) := by decide +kernel
theorem dX6_canCarry_118 : decode cX6_canCarry 118 = .ok (.iinc 4 1, 3) := by decide +kernel
theorem dX6_canCarry_121 : decode cX6_canCarry 121 = .ok (.goto (-73), 3) := by decide +kernel
theorem dX6_canCarry_124 : decode cX6_canCarry 124 = .ok (.iconst 1, 1) := by decide +kernel
theorem dX6_canCarry_125 : decode cX6_canCarry 125 = .ok (.ireturn, 1) := by decide +kernel
theorem dX6_carry_0 : decode cX6_carry 0 = .ok (.aload_n 0, 1) := by decide +kernel
theorem dX6_carry_1 : decode cX6_carry 1 = .ok (.iload_n 1, 1) := by decide +kernel
theorem dX6_carry_2 : decode cX6_carry 2 = .ok (.invokevirtual 116, 3) := by decide +kernel
theorem dX6_carry_5 : decode cX6_carry 5 = .ok (.ifCond .eq 10, 3) := by decide +kernel
theorem dX6_carry_8 : decode cX6_carry 8 = .ok (.iload_n 2, 1) := by decide +kernel
theorem dX6_carry_9 : decode cX6_carry 9 = .ok (.invokestatic 119, 3) := by decide +kernel
theorem dX6_carry_12 : decode cX6_carry 12 = .ok (.ifCond .ne 7, 3) := by decide +kernel
theorem dX6_carry_15 : decode cX6_carry 15 = .ok (.iconst (-1), 1) := by decide +kernel
theorem dX6_carry_16 : decode cX6_carry 16 = .ok (.goto 18, 3) := by decide +kernel
theorem dX6_carry_19 : decode cX6_carry 19 = .ok (.aload_n 0, 1) := by decide +kernel
theorem dX6_carry_20 : decode cX6_carry 20 = .ok (.iload_n 1, 1) := by decide +kernel
theorem dX6_carry_21 : decode cX6_carry 21 = .ok (.iload_n 2, 1) := by decide +kernel
theorem dX6_carry_22 : decode cX6_carry 22 = .ok (.invokevirtual 122, 3) := by decide +kernel
theorem dX6_carry_25 : decode cX6_carry 25 = .ok (.ifCond .ne 8, 3) := by decide +kernel
theorem dX6_carry_28 : decode cX6_carry 28 = .ok (.bipush (-3), 2) := by decide +kernel
theorem dX6_carry_30 : decode cX6_carry 30 = .ok (.goto 4, 3) := by decide +kernel
theorem dX6_carry_33 : decode cX6_carry 33 = .ok (.iconst 0, 1) := by decide +kernel
theorem dX6_carry_34 : decode cX6_carry 34 = .ok (.istore_n 3, 1) := by decide +kernel
theorem dX6_carry_35 : decode cX6_carry 35 = .ok (.iload_n 3, 1) := by decide +kernel
theorem dX6_carry_36 : decode cX6_carry 36 = .ok (.ifCond .eq 9, 3) := by decide +kernel
theorem dX6_carry_39 : decode cX6_carry 39 = .ok (.aload_n 0, 1) := by decide +kernel
theorem dX6_carry_40 : decode cX6_carry 40 = .ok (.iload_n 3, 1) := by decide +kernel
theorem dX6_carry_41 : decode cX6_carry 41 = .ok (.invokevirtual 79, 3) := by decide +kernel
theorem dX6_carry_44 : decode cX6_carry 44 = .ok (.ireturn, 1) := by decide +kernel
theorem dX6_carry_45 : decode cX6_carry 45 = .ok (.aload_n 0, 1) := by decide +kernel
theorem dX6_carry_46 : decode cX6_carry 46 = .ok (.getfield 31, 3) := by decide +kernel
theorem dX6_carry_49 : decode cX6_carry 49 = .ok (.iload_n 1, 1) := by decide +kernel
theorem dX6_carry_50 : decode cX6_carry 50 = .ok (.iaload, 1) := by decide +kernel
theorem dX6_carry_51 : decode cX6_carry 51 = .ok (.istore 4, 2) := by decide +kernel
theorem dX6_carry_53 : decode cX6_carry 53 = .ok (.aload_n 0, 1) := by decide +kernel
theorem dX6_carry_54 : decode cX6_carry 54 = .ok (.getfield 31, 3) := by decide +kernel
theorem dX6_carry_57 : decode cX6_carry 57 = .ok (.iload_n 1, 1) := by decide +kernel
theorem dX6_carry_58 : decode cX6_carry 58 = .ok (.iload_n 2, 1) := by decide +kernel
theorem dX6_carry_59 : decode cX6_carry 59 = .ok (.iastore, 1) := by decide +kernel
theorem dX6_carry_60 : decode cX6_carry 60 = .ok (.iload 4, 2) := by decide +kernel
theorem dX6_carry_62 : decode cX6_carry 62 = .ok (.ireturn, 1) := by decide +kernel
theorem dX6_choice_0 : decode cX6_choice 0 = .ok (.iload_n 1, 1) := by decide +kernel
theorem dX6_choice_1 : decode cX6_choice 1 = .ok (.iconst (-1), 1) := by decide +kernel
theorem dX6_choice_2 : decode cX6_choice 2 = .ok (.if_icmp .ge 8, 3) := by decide +kernel
theorem dX6_choice_5 : decode cX6_choice 5 = .ok (.bipush (-4), 2) := by decide +kernel
theorem dX6_choice_7 : decode cX6_choice 7 = .ok (.goto 16, 3) := by decide +kernel
theorem dX6_choice_10 : decode cX6_choice 10 = .ok (.iload_n 1, 1) := by decide +kernel
theorem dX6_choice_11 : decode cX6_choice 11 = .ok (.aload_n 0, 1) := by decide +kernel
theorem dX6_choice_12 : decode cX6_choice 12 = .ok (.getfield 61, 3) := by decide +kernel
theorem dX6_choice_15 : decode cX6_choice 15 = .ok (.if_icmp .lt 7, 3) := by decide +kernel
theorem dX6_choice_18 : decode cX6_choice 18 = .ok (.iconst (-1), 1) := by decide +kernel
theorem dX6_choice_19 : decode cX6_choice 19 = .ok (.goto 4, 3) := by decide +kernel
theorem dX6_choice_22 : decode cX6_choice 22 = .ok (.iconst 0, 1) := by decide +kernel
theorem dX6_choice_23 : decode cX6_choice 23 = .ok (.istore_n 2, 1) := by decide +kernel
theorem dX6_choice_24 : decode cX6_choice 24 = .ok (.iload_n 2, 1) := by decide +kernel
theorem dX6_choice_25 : decode cX6_choice 25 = .ok (.ifCond .eq 9, 3) := by decide +kernel
theorem dX6_choice_28 : decode cX6_choice 28 = .ok (.aload_n 0, 1) := by decide +kernel
theorem dX6_choice_29 : decode cX6_choice 29 = .ok (.iload_n 2, 1) := by decide +kernel
theorem dX6_choice_30 : decode cX6_choice 30 = .ok (.invokevirtual 79, 3) := by decide +kernel
theorem dX6_choice_33 : decode cX6_choice 33 = .ok (.ireturn, 1) := by decide +kernel
theorem dX6_choice_34 : decode cX6_choice 34 = .ok (.iconst 0, 1) := by decide +kernel
theorem dX6_choice_35 : decode cX6_choice 35 = .ok (.istore_n 3, 1) := by decide +kernel
theorem dX6_choice_36 : decode cX6_choice 36 = .ok (.iload_n 3, 1) := by decide +kernel
theorem dX6_choice_37 : decode cX6_choice 37 = .ok (.iconst 4, 1) := by decide +kernel
theorem dX6_choice_38 : decode cX6_choice 38 = .ok (.if_icmp .ge 16, 3) := by decide +kernel
theorem dX6_choice_41 : decode cX6_choice 41 = .ok (.aload_n 0, 1) := by decide +kernel
theorem dX6_choice_42 : decode cX6_choice 42 = .ok (.getfield 55, 3) := by decide +kernel
theorem dX6_choice_45 : decode cX6_choice 45 = .ok (.iload_n 3, 1) := by decide +kernel
theorem dX6_choice_46 : decode cX6_choice 46 = .ok (.iconst 0, 1) := by decide +kernel
theorem dX6_choice_47 : decode cX6_choice 47 = .ok (.iastore, 1) := by decide +kernel
theorem dX6_choice_48 : decode cX6_choice 48 = .ok (.iinc 3 1, 3) := by decide +kernel
theorem dX6_choice_51 : decode cX6_choice 51 = .ok (.goto (-15), 3) := by decide +kernel
theorem dX6_choice_54 : decode cX6_choice 54 = .ok (.iconst 0, 1) := by decide +kernel
theorem dX6_choice_55 : decode cX6_choice 55 = .ok (.istore_n 3, 1) := by decide +kernel
theorem dX6_choice_56 : decode cX6_choice 56 = .ok (.bipush (-9), 2) := by decide +kernel
theorem dX6_choice_58 : decode cX6_choice 58 = .ok (.istore 4, 2) := by decide +kernel
theorem dX6_choice_60 : decode cX6_choice 60 = .ok (.iconst 0, 1) := by decide +kernel
theorem dX6_choice_61 : decode cX6_choice 61 = .ok (.istore 5, 2) := by decide +kernel
theorem dX6_choice_63 : decode cX6_choice 63 = .ok (.iload 5, 2) := by decide +kernel
theorem dX6_choice_65 : decode cX6_choice 65 = .ok (.aload_n 0, 1) := by decide +kernel
theorem dX6_choice_66 : decode cX6_choice 66 = .ok (.getfield 65, 3) := by decide +kernel
theorem dX6_choice_69 : decode cX6_choice 69 = .ok (.if_icmp .ge 48, 3) := by decide +kernel
theorem dX6_choice_72 : decode cX6_choice 72 = .ok (.aload_n 0, 1) := by decide +kernel
theorem dX6_choice_73 : decode cX6_choice 73 = .ok (.iload_n 3, 1) := by decide +kernel
theorem dX6_choice_74 : decode cX6_choice 74 = .ok (.invokevirtual 228, 3) := by decide +kernel
theorem dX6_choice_77 : decode cX6_choice 77 = .ok (.istore 6, 2) := by decide +kernel
theorem dX6_choice_79 : decode cX6_choice 79 = .ok (.iload_n 3, 1) := by decide +kernel
theorem dX6_choice_80 : decode cX6_choice 80 = .ok (.iconst 1, 1) := by decide +kernel
theorem dX6_choice_81 : decode cX6_choice 81 = .ok (.iload 6, 2) := by decide +kernel
theorem dX6_choice_83 : decode cX6_choice 83 = .ok (.ishl, 1) := by decide +kernel
theorem dX6_choice_84 : decode cX6_choice 84 = .ok (.ior, 1) := by decide +kernel
theorem dX6_choice_85 : decode cX6_choice 85 = .ok (.istore_n 3, 1) := by decide +kernel
theorem dX6_choice_86 : decode cX6_choice 86 = .ok (.iload 5, 2) := by decide +kernel
theorem dX6_choice_88 : decode cX6_choice 88 = .ok (.aload_n 0, 1) := by decide +kernel
theorem dX6_choice_89 : decode cX6_choice 89 = .ok (.getfield 61, 3) := by decide +kernel
theorem dX6_choice_92 : decode cX6_choice 92 = .ok (.irem, 1) := by decide +kernel
theorem dX6_choice_93 : decode cX6_choice 93 = .ok (.istore 4, 2) := by decide +kernel
theorem dX6_choice_95 : decode cX6_choice 95 = .ok (.aload_n 0, 1) := by decide +kernel
theorem dX6_choice_96 : decode cX6_choice 96 = .ok (.getfield 55, 3) := by decide +kernel
theorem dX6_choice_99 : decode cX6_choice 99 = .ok (.iload 4, 2) := by decide +kernel
theorem dX6_choice_101 : decode cX6_choice 101 = .ok (.dup2, 1) := by decide +kernel
theorem dX6_choice_102 : decode cX6_choice 102 = .ok (.iaload, 1) := by decide +kernel
theorem dX6_choice_103 : decode cX6_choice 103 = .ok (.aload_n 0, 1) := by decide +kernel
theorem dX6_choice_104 : decode cX6_choice 104 = .ok (.iload 6, 2) := by decide +kernel
theorem dX6_choice_106 : decode cX6_choice 106 = .ok (.invokevirtual 169, 3) := by decide +kernel
theorem dX6_choice_109 : decode cX6_choice 109 = .ok (.iadd, 1) := by decide +kernel
theorem dX6_choice_110 : decode cX6_choice 110 = .ok (.iastore, 1) := by decide +kernel
theorem dX6_choice_111 : decode cX6_choice 111 = .ok (.iinc 5 1, 3) := by decide +kernel
theorem dX6_choice_114 : decode cX6_choice 114 = .ok (.goto (-51), 3) := by decide +kernel
theorem dX6_choice_117 : decode cX6_choice 117 = .ok (.iload_n 1, 1) := by decide +kernel
theorem dX6_choice_118 : decode cX6_choice 118 = .ok (.ifCond .ge 8, 3) := by decide +kernel
theorem dX6_choice_121 : decode cX6_choice 121 = .ok (.iload 4, 2) := by decide +kernel
theorem dX6_choice_123 : decode cX6_choice 123 = .ok (.goto 9, 3) := by decide +kernel
theorem dX6_choice_126 : decode cX6_choice 126 = .ok (.aload_n 0, 1) := by decide +kernel
theorem dX6_choice_127 : decode cX6_choice 127 = .ok (.getfield 55, 3) := by decide +kernel
theorem dX6_choice_130 : decode cX6_choice 130 = .ok (.iload_n 1, 1) := by decide +kernel
theorem dX6_choice_131 : decode cX6_choice 131 = .ok (.iaload, 1) := by decide +kernel
theorem dX6_choice_132 : decode cX6_choice 132 = .ok (.ireturn, 1) := by decide +kernel
theorem dX6_comes_0 : decode cX6_comes 0 = .ok (.aload_n 0, 1) := by decide +kernel
theorem dX6_comes_1 : decode cX6_comes 1 = .ok (.getfield 43, 3) := by decide +kernel
theorem dX6_comes_4 : decode cX6_comes 4 = .ok (.iconst 4, 1) := by decide +kernel
theorem dX6_comes_5 : decode cX6_comes 5 = .ok (.iload_n 1, 1) := by decide +kernel
theorem dX6_comes_6 : decode cX6_comes 6 = .ok (.imul, 1) := by decide +kernel
theorem dX6_comes_7 : decode cX6_comes 7 = .ok (.iaload, 1) := by decide +kernel
theorem dX6_comes_8 : decode cX6_comes 8 = .ok (.istore_n 2, 1) := by decide +kernel
theorem dX6_comes_9 : decode cX6_comes 9 = .ok (.aload_n 0, 1) := by decide +kernel
theorem dX6_comes_10 : decode cX6_comes 10 = .ok (.getfield 43, 3) := by decide +kernel
theorem dX6_comes_13 : decode cX6_comes 13 = .ok (.iconst 4, 1) := by decide +kernel
theorem dX6_comes_14 : decode cX6_comes 14 = .ok (.iload_n 1, 1) := by decide +kernel
theorem dX6_comes_15 : decode cX6_comes 15 = .ok (.imul, 1) := by decide +kernel
theorem dX6_comes_16 : decode cX6_comes 16 = .ok (.iconst 1, 1) := by decide +kernel
theorem dX6_comes_17 : decode cX6_comes 17 = .ok (.iadd, 1) := by decide +kernel
theorem dX6_comes_18 : decode cX6_comes 18 = .ok (.iaload, 1) := by decide +kernel
theorem dX6_comes_19 : decode cX6_comes 19 = .ok (.istore_n 3, 1) := by decide +kernel
theorem dX6_comes_20 : decode cX6_comes 20 = .ok (.aload_n 0, 1) := by decide +kernel
theorem dX6_comes_21 : decode cX6_comes 21 = .ok (.getfield 37, 3) := by decide +kernel
theorem dX6_comes_24 : decode cX6_comes 24 = .ok (.iload_n 1, 1) := by decide +kernel
theorem dX6_comes_25 : decode cX6_comes 25 = .ok (.iaload, 1) := by decide +kernel
theorem dX6_comes_26 : decode cX6_comes 26 = .ok (.tableswitch 225 104 121 #[213, 86, 225, 225, 225, 94, 225, 225, 225, 225, 149, 129, 225, 225, 225, 225, 225, 182], 86) := by decide +kernel
theorem dX6_comes_112 : decode cX6_comes 112 = .ok (.aload_n 0, 1) := by decide +kernel
theorem dX6_comes_113 : decode cX6_comes 113 = .ok (.iconst 4, 1) := by decide +kernel
theorem dX6_comes_114 : decode cX6_comes 114 = .ok (.iload_n 1, 1) := by decide +kernel
theorem dX6_comes_115 : decode cX6_comes 115 = .ok (.imul, 1) := by decide +kernel
theorem dX6_comes_116 : decode cX6_comes 116 = .ok (.invokevirtual 113, 3) := by decide +kernel
theorem dX6_comes_119 : decode cX6_comes 119 = .ok (.ireturn, 1) := by decide +kernel
theorem dX6_comes_120 : decode cX6_comes 120 = .ok (.aload_n 0, 1) := by decide +kernel
theorem dX6_comes_121 : decode cX6_comes 121 = .ok (.iload_n 2, 1) := by decide +kernel
theorem dX6_comes_122 : decode cX6_comes 122 = .ok (.invokevirtual 116, 3) := by decide +kernel
theorem dX6_comes_125 : decode cX6_comes 125 = .ok (.ifCond .eq 19, 3) := by decide +kernel
theorem dX6_comes_128 : decode cX6_comes 128 = .ok (.iload_n 3, 1) := by decide +kernel
theorem dX6_comes_129 : decode cX6_comes 129 = .ok (.invokestatic 119, 3) := by decide +kernel
theorem dX6_comes_132 : decode cX6_comes 132 = .ok (.ifCond .eq 12, 3) := by decide +kernel
theorem dX6_comes_135 : decode cX6_comes 135 = .ok (.aload_n 0, 1) := by decide +kernel
theorem dX6_comes_136 : decode cX6_comes 136 = .ok (.iload_n 2, 1) := by decide +kernel
theorem dX6_comes_137 : decode cX6_comes 137 = .ok (.iload_n 3, 1) := by decide +kernel
theorem dX6_comes_138 : decode cX6_comes 138 = .ok (.invokevirtual 122, 3) := by decide +kernel
theorem dX6_comes_141 : decode cX6_comes 141 = .ok (.ifCond .ne 5, 3) := by decide +kernel
theorem dX6_comes_144 : decode cX6_comes 144 = .ok (.iconst 0, 1) := by decide +kernel
theorem dX6_comes_145 : decode cX6_comes 145 = .ok (.ireturn, 1) := by decide +kernel
theorem dX6_comes_146 : decode cX6_comes 146 = .ok (.aload_n 0, 1) := by decide +kernel
theorem dX6_comes_147 : decode cX6_comes 147 = .ok (.getfield 31, 3) := by decide +kernel
theorem dX6_comes_150 : decode cX6_comes 150 = .ok (.iload_n 2, 1) := by decide +kernel
theorem dX6_comes_151 : decode cX6_comes 151 = .ok (.iload_n 3, 1) := by decide +kernel
theorem dX6_comes_152 : decode cX6_comes 152 = .ok (.iastore, 1) := by decide +kernel
theorem dX6_comes_153 : decode cX6_comes 153 = .ok (.iconst 1, 1) := by decide +kernel
theorem dX6_comes_154 : decode cX6_comes 154 = .ok (.ireturn, 1) := by decide +kernel
theorem dX6_comes_155 : decode cX6_comes 155 = .ok (.iload_n 2, 1) := by decide +kernel
theorem dX6_comes_156 : decode cX6_comes 156 = .ok (.iconst 1, 1) := by decide +kernel
theorem dX6_comes_157 : decode cX6_comes 157 = .ok (.iconst 2, 1) := by decide +kernel
theorem dX6_comes_158 : decode cX6_comes 158 = .ok (.invokestatic 90, 3) := by decide +kernel
theorem dX6_comes_161 : decode cX6_comes 161 = .ok (.ifCond .ne 5, 3) := by decide +kernel
theorem dX6_comes_164 : decode cX6_comes 164 = .ok (.iconst 0, 1) := by decide +kernel
theorem dX6_comes_165 : decode cX6_comes 165 = .ok (.ireturn, 1) := by decide +kernel
theorem dX6_comes_166 : decode cX6_comes 166 = .ok (.aload_n 0, 1) := by decide +kernel
theorem dX6_comes_167 : decode cX6_comes 167 = .ok (.getfield 16, 3) := by decide +kernel
theorem dX6_comes_170 : decode cX6_comes 170 = .ok (.iload_n 2, 1) := by decide +kernel
theorem dX6_comes_171 : decode cX6_comes 171 = .ok (.iload_n 3, 1) := by decide +kernel
theorem dX6_comes_172 : decode cX6_comes 172 = .ok (.iastore, 1) := by decide +kernel
theorem dX6_comes_173 : decode cX6_comes 173 = .ok (.iconst 1, 1) := by decide +kernel
theorem dX6_comes_174 : decode cX6_comes 174 = .ok (.ireturn, 1) := by decide +kernel
theorem dX6_comes_175 : decode cX6_comes 175 = .ok (.iload_n 2, 1) := by decide +kernel
theorem dX6_comes_176 : decode cX6_comes 176 = .ok (.invokestatic 68, 3) := by decide +kernel
theorem dX6_comes_179 : decode cX6_comes 179 = .ok (.ifCond .eq 18, 3) := by decide +kernel
theorem dX6_comes_182 : decode cX6_comes 182 = .ok (.iload_n 3, 1) := by decide +kernel
theorem dX6_comes_183 : decode cX6_comes 183 = .ok (.bipush 20, 2) := by decide +kernel
theorem dX6_comes_185 : decode cX6_comes 185 = .ok (.if_icmp .gt 12, 3) := by decide +kernel
theorem dX6_comes_188 : decode cX6_comes 188 = .ok (.iload_n 3, 1) := by decide +kernel
theorem dX6_comes_189 : decode cX6_comes 189 = .ok (.aload_n 0, 1) := by decide +kernel
theorem dX6_comes_190 : decode cX6_comes 190 = .ok (.iload_n 2, 1) := by decide +kernel
theorem dX6_comes_191 : decode cX6_comes 191 = .ok (.invokevirtual 125, 3) := by decide +kernel
theorem dX6_comes_194 : decode cX6_comes 194 = .ok (.if_icmp .ge 5, 3) := by decide +kernel
theorem dX6_comes_197 : decode cX6_comes 197 = .ok (.iconst 0, 1) := by decide +kernel
theorem dX6_comes_198 : decode cX6_comes 198 = .ok (.ireturn, 1) := by decide +kernel
theorem dX6_comes_199 : decode cX6_comes 199 = .ok (.aload_n 0, 1) := by decide +kernel
theorem dX6_comes_200 : decode cX6_comes 200 = .ok (.getfield 13, 3) := by decide +kernel
theorem dX6_comes_203 : decode cX6_comes 203 = .ok (.iload_n 2, 1) := by decide +kernel
theorem dX6_comes_204 : decode cX6_comes 204 = .ok (.iload_n 3, 1) := by decide +kernel
theorem dX6_comes_205 : decode cX6_comes 205 = .ok (.iastore, 1) := by decide +kernel
theorem dX6_comes_206 : decode cX6_comes 206 = .ok (.iconst 1, 1) := by decide +kernel
theorem dX6_comes_207 : decode cX6_comes 207 = .ok (.ireturn, 1) := by decide +kernel
theorem dX6_comes_208 : decode cX6_comes 208 = .ok (.iload_n 2, 1) := by decide +kernel
theorem dX6_comes_209 : decode cX6_comes 209 = .ok (.iconst 1, 1) := by decide +kernel
theorem dX6_comes_210 : decode cX6_comes 210 = .ok (.bipush 60, 2) := by decide +kernel
theorem dX6_comes_212 : decode cX6_comes 212 = .ok (.invokestatic 90, 3) := by decide +kernel
theorem dX6_comes_215 : decode cX6_comes 215 = .ok (.ifCond .eq 15, 3) := by decide +kernel
theorem dX6_comes_218 : decode cX6_comes 218 = .ok (.aload_n 0, 1) := by decide +kernel
theorem dX6_comes_219 : decode cX6_comes 219 = .ok (.getfield 128, 3) := by decide +kernel
theorem dX6_comes_222 : decode cX6_comes 222 = .ok (.iload_n 2, 1) := by decide +kernel
theorem dX6_comes_223 : decode cX6_comes 223 = .ok (.iadd, 1) := by decide +kernel
theorem dX6_comes_224 : decode cX6_comes 224 = .ok (.sipush 999, 3) := by decide +kernel
theorem dX6_comes_227 : decode cX6_comes 227 = .ok (.if_icmp .le 5, 3) := by decide +kernel
theorem dX6_comes_230 : decode cX6_comes 230 = .ok (.iconst 0, 1) := by decide +kernel
theorem dX6_comes_231 : decode cX6_comes 231 = .ok (.ireturn, 1) := by decide +kernel
theorem dX6_comes_232 : decode cX6_comes 232 = .ok (.aload_n 0, 1) := by decide +kernel
theorem dX6_comes_233 : decode cX6_comes 233 = .ok (.iload_n 2, 1) := by decide +kernel
theorem dX6_comes_234 : decode cX6_comes 234 = .ok (.invokevirtual 131, 3) := by decide +kernel
theorem dX6_comes_237 : decode cX6_comes 237 = .ok (.iconst 1, 1) := by decide +kernel
theorem dX6_comes_238 : decode cX6_comes 238 = .ok (.ireturn, 1) := by decide +kernel
theorem dX6_comes_239 : decode cX6_comes 239 = .ok (.aload_n 0, 1) := by decide +kernel
theorem dX6_comes_240 : decode cX6_comes 240 = .ok (.iload_n 2, 1) := by decide +kernel
theorem dX6_comes_241 : decode cX6_comes 241 = .ok (.putfield 61, 3) := by decide +kernel
theorem dX6_comes_244 : decode cX6_comes 244 = .ok (.iload_n 2, 1) := by decide +kernel
theorem dX6_comes_245 : decode cX6_comes 245 = .ok (.iconst 2, 1) := by decide +kernel
theorem dX6_comes_246 : decode cX6_comes 246 = .ok (.iconst 4, 1) := by decide +kernel
theorem dX6_comes_247 : decode cX6_comes 247 = .ok (.invokestatic 90, 3) := by decide +kernel
theorem dX6_comes_250 : decode cX6_comes 250 = .ok (.ireturn, 1) := by decide +kernel
theorem dX6_comes_251 : decode cX6_comes 251 = .ok (.aload_n 0, 1) := by decide +kernel
theorem dX6_comes_252 : decode cX6_comes 252 = .ok (.iload_n 2, 1) := by decide +kernel
theorem dX6_comes_253 : decode cX6_comes 253 = .ok (.invokevirtual 116, 3) := by decide +kernel
theorem dX6_comes_256 : decode cX6_comes 256 = .ok (.ifCond .eq 14, 3) := by decide +kernel
theorem dX6_comes_259 : decode cX6_comes 259 = .ok (.aload_n 0, 1) := by decide +kernel
theorem dX6_comes_260 : decode cX6_comes 260 = .ok (.getfield 25, 3) := by decide +kernel
theorem dX6_comes_263 : decode cX6_comes 263 = .ok (.iload_n 2, 1) := by decide +kernel
theorem dX6_comes_264 : decode cX6_comes 264 = .ok (.iaload, 1) := by decide +kernel
theorem dX6_comes_265 : decode cX6_comes 265 = .ok (.bipush 9, 2) := by decide +kernel
theorem dX6_comes_267 : decode cX6_comes 267 = .ok (.if_icmp .ne 5, 3) := by decide +kernel
theorem dX6_comes_270 : decode cX6_comes 270 = .ok (.iconst 0, 1) := by decide +kernel
theorem dX6_comes_271 : decode cX6_comes 271 = .ok (.ireturn, 1) := by decide +kernel
theorem dX6_comes_272 : decode cX6_comes 272 = .ok (.aload_n 0, 1) := by decide +kernel
theorem dX6_comes_273 : decode cX6_comes 273 = .ok (.getfield 25, 3) := by decide +kernel
theorem dX6_comes_276 : decode cX6_comes 276 = .ok (.iload_n 2, 1) := by decide +kernel
theorem dX6_comes_277 : decode cX6_comes 277 = .ok (.dup2, 1) := by decide +kernel
theorem dX6_comes_278 : decode cX6_comes 278 = .ok (.iaload, 1) := by decide +kernel
theorem dX6_comes_279 : decode cX6_comes 279 = .ok (.iconst 1, 1) := by decide +kernel
theorem dX6_comes_280 : decode cX6_comes 280 = .ok (.iadd, 1) := by decide +kernel
theorem dX6_comes_281 : decode cX6_comes 281 = .ok (.iastore, 1) := by decide +kernel
theorem dX6_comes_282 : decode cX6_comes 282 = .ok (.iconst 1, 1) := by decide +kernel
theorem dX6_comes_283 : decode cX6_comes 283 = .ok (.ireturn, 1) := by decide +kernel
theorem dX6_comesPiece_0 : decode cX6_comesPiece 0 = .ok (.aload_n 0, 1) := by decide +kernel
theorem dX6_comesPiece_1 : decode cX6_comesPiece 1 = .ok (.getfield 43, 3) := by decide +kernel
theorem dX6_comesPiece_4 : decode cX6_comesPiece 4 = .ok (.iload_n 1, 1) := by decide +kernel
theorem dX6_comesPiece_5 : decode cX6_comesPiece 5 = .ok (.iconst 1, 1) := by decide +kernel
theorem dX6_comesPiece_6 : decode cX6_comesPiece 6 = .ok (.iadd, 1) := by decide +kernel
theorem dX6_comesPiece_7 : decode cX6_comesPiece 7 = .ok (.iaload, 1) := by decide +kernel
theorem dX6_comesPiece_8 : decode cX6_comesPiece 8 = .ok (.iconst 1, 1) := by decide +kernel
theorem dX6_comesPiece_9 : decode cX6_comesPiece 9 = .ok (.if_icmp .lt 12, 3) := by decide +kernel
theorem dX6_comesPiece_12 : decode cX6_comesPiece 12 = .ok (.aload_n 0, 1) := by decide +kernel
theorem dX6_comesPiece_13 : decode cX6_comesPiece 13 = .ok (.getfield 65, 3) := by decide +kernel
theorem dX6_comesPiece_16 : decode cX6_comesPiece 16 = .ok (.bipush 7, 2) := by decide +kernel
theorem dX6_comesPiece_18 : decode cX6_comesPiece 18 = .ok (.if_icmp .ne 5, 3) := by decide +kernel
theorem dX6_comesPiece_21 : decode cX6_comesPiece 21 = .ok (.iconst 0, 1) := by decide +kernel
theorem dX6_comesPiece_22 : decode cX6_comesPiece 22 = .ok (.ireturn, 1) := by decide +kernel
theorem dX6_comesPiece_23 : decode cX6_comesPiece 23 = .ok (.aload_n 0, 1) := by decide +kernel
theorem dX6_comesPiece_24 : decode cX6_comesPiece 24 = .ok (.getfield 19, 3) := by decide +kernel
theorem dX6_comesPiece_27 : decode cX6_comesPiece 27 = .ok (.aload_n 0, 1) := by decide +kernel
theorem dX6_comesPiece_28 : decode cX6_comesPiece 28 = .ok (.getfield 65, 3) := by decide +kernel
theorem dX6_comesPiece_31 : decode cX6_comesPiece 31 = .ok (.aload_n 0, 1) := by decide +kernel
theorem dX6_comesPiece_32 : decode cX6_comesPiece 32 = .ok (.getfield 43, 3) := by decide +kernel
theorem dX6_comesPiece_35 : decode cX6_comesPiece 35 = .ok (.iload_n 1, 1) := by decide +kernel
theorem dX6_comesPiece_36 : decode cX6_comesPiece 36 = .ok (.iaload, 1) := by decide +kernel
theorem dX6_comesPiece_37 : decode cX6_comesPiece 37 = .ok (.iastore, 1) := by decide +kernel
theorem dX6_comesPiece_38 : decode cX6_comesPiece 38 = .ok (.aload_n 0, 1) := by decide +kernel
theorem dX6_comesPiece_39 : decode cX6_comesPiece 39 = .ok (.getfield 22, 3) := by decide +kernel
theorem dX6_comesPiece_42 : decode cX6_comesPiece 42 = .ok (.aload_n 0, 1) := by decide +kernel
theorem dX6_comesPiece_43 : decode cX6_comesPiece 43 = .ok (.getfield 65, 3) := by decide +kernel
theorem dX6_comesPiece_46 : decode cX6_comesPiece 46 = .ok (.aload_n 0, 1) := by decide +kernel
theorem dX6_comesPiece_47 : decode cX6_comesPiece 47 = .ok (.getfield 43, 3) := by decide +kernel
theorem dX6_comesPiece_50 : decode cX6_comesPiece 50 = .ok (.iload_n 1, 1) := by decide +kernel
theorem dX6_comesPiece_51 : decode cX6_comesPiece 51 = .ok (.iconst 1, 1) := by decide +kernel
theorem dX6_comesPiece_52 : decode cX6_comesPiece 52 = .ok (.iadd, 1) := by decide +kernel
theorem dX6_comesPiece_53 : decode cX6_comesPiece 53 = .ok (.iaload, 1) := by decide +kernel
theorem dX6_comesPiece_54 : decode cX6_comesPiece 54 = .ok (.iastore, 1) := by decide +kernel
theorem dX6_comesPiece_55 : decode cX6_comesPiece 55 = .ok (.aload_n 0, 1) := by decide +kernel
theorem dX6_comesPiece_56 : decode cX6_comesPiece 56 = .ok (.getfield 25, 3) := by decide +kernel
theorem dX6_comesPiece_59 : decode cX6_comesPiece 59 = .ok (.aload_n 0, 1) := by decide +kernel
theorem dX6_comesPiece_60 : decode cX6_comesPiece 60 = .ok (.getfield 65, 3) := by decide +kernel
theorem dX6_comesPiece_63 : decode cX6_comesPiece 63 = .ok (.aload_n 0, 1) := by decide +kernel
theorem dX6_comesPiece_64 : decode cX6_comesPiece 64 = .ok (.getfield 43, 3) := by decide +kernel
theorem dX6_comesPiece_67 : decode cX6_comesPiece 67 = .ok (.iload_n 1, 1) := by decide +kernel
theorem dX6_comesPiece_68 : decode cX6_comesPiece 68 = .ok (.iconst 2, 1) := by decide +kernel
theorem dX6_comesPiece_69 : decode cX6_comesPiece 69 = .ok (.iadd, 1) := by decide +kernel
theorem dX6_comesPiece_70 : decode cX6_comesPiece 70 = .ok (.iaload, 1) := by decide +kernel
theorem dX6_comesPiece_71 : decode cX6_comesPiece 71 = .ok (.iastore, 1) := by decide +kernel
theorem dX6_comesPiece_72 : decode cX6_comesPiece 72 = .ok (.aload_n 0, 1) := by decide +kernel
theorem dX6_comesPiece_73 : decode cX6_comesPiece 73 = .ok (.getfield 28, 3) := by decide +kernel
theorem dX6_comesPiece_76 : decode cX6_comesPiece 76 = .ok (.aload_n 0, 1) := by decide +kernel
theorem dX6_comesPiece_77 : decode cX6_comesPiece 77 = .ok (.getfield 65, 3) := by decide +kernel
theorem dX6_comesPiece_80 : decode cX6_comesPiece 80 = .ok (.aload_n 0, 1) := by decide +kernel
theorem dX6_comesPiece_81 : decode cX6_comesPiece 81 = .ok (.getfield 43, 3) := by decide +kernel
theorem dX6_comesPiece_84 : decode cX6_comesPiece 84 = .ok (.iload_n 1, 1) := by decide +kernel
theorem dX6_comesPiece_85 : decode cX6_comesPiece 85 = .ok (.iconst 3, 1) := by decide +kernel
theorem dX6_comesPiece_86 : decode cX6_comesPiece 86 = .ok (.iadd, 1) := by decide +kernel
theorem dX6_comesPiece_87 : decode cX6_comesPiece 87 = .ok (.iaload, 1) := by decide +kernel
theorem dX6_comesPiece_88 : decode cX6_comesPiece 88 = .ok (.iastore, 1) := by decide +kernel
theorem dX6_comesPiece_89 : decode cX6_comesPiece 89 = .ok (.aload_n 0, 1) := by decide +kernel
theorem dX6_comesPiece_90 : decode cX6_comesPiece 90 = .ok (.getfield 31, 3) := by decide +kernel
theorem dX6_comesPiece_93 : decode cX6_comesPiece 93 = .ok (.aload_n 0, 1) := by decide +kernel
theorem dX6_comesPiece_94 : decode cX6_comesPiece 94 = .ok (.getfield 65, 3) := by decide +kernel
theorem dX6_comesPiece_97 : decode cX6_comesPiece 97 = .ok (.bipush 9, 2) := by decide +kernel
theorem dX6_comesPiece_99 : decode cX6_comesPiece 99 = .ok (.iastore, 1) := by decide +kernel
theorem dX6_comesPiece_100 : decode cX6_comesPiece 100 = .ok (.aload_n 0, 1) := by decide +kernel
theorem dX6_comesPiece_101 : decode cX6_comesPiece 101 = .ok (.dup, 1) := by decide +kernel
theorem dX6_comesPiece_102 : decode cX6_comesPiece 102 = .ok (.getfield 65, 3) := by decide +kernel
theorem dX6_comesPiece_105 : decode cX6_comesPiece 105 = .ok (.iconst 1, 1) := by decide +kernel
theorem dX6_comesPiece_106 : decode cX6_comesPiece 106 = .ok (.iadd, 1) := by decide +kernel
theorem dX6_comesPiece_107 : decode cX6_comesPiece 107 = .ok (.putfield 65, 3) := by decide +kernel
theorem dX6_comesPiece_110 : decode cX6_comesPiece 110 = .ok (.iconst 1, 1) := by decide +kernel
theorem dX6_comesPiece_111 : decode cX6_comesPiece 111 = .ok (.ireturn, 1) := by decide +kernel
theorem dX6_count_0 : decode cX6_count 0 = .ok (.iload_n 1, 1) := by decide +kernel
theorem dX6_count_1 : decode cX6_count 1 = .ok (.bipush 11, 2) := by decide +kernel
theorem dX6_count_3 : decode cX6_count 3 = .ok (.bipush 16, 2) := by decide +kernel
theorem dX6_count_5 : decode cX6_count 5 = .ok (.invokestatic 90, 3) := by decide +kernel
theorem dX6_count_8 : decode cX6_count 8 = .ok (.ifCond .eq 13, 3) := by decide +kernel
theorem dX6_count_11 : decode cX6_count 11 = .ok (.aload_n 0, 1) := by decide +kernel
theorem dX6_count_12 : decode cX6_count 12 = .ok (.getfield 7, 3) := by decide +kernel
theorem dX6_count_15 : decode cX6_count 15 = .ok (.iload_n 1, 1) := by decide +kernel
theorem dX6_count_16 : decode cX6_count 16 = .ok (.bipush 10, 2) := by decide +kernel
theorem dX6_count_18 : decode cX6_count 18 = .ok (.isub, 1) := by decide +kernel
theorem dX6_count_19 : decode cX6_count 19 = .ok (.iaload, 1) := by decide +kernel
theorem dX6_count_20 : decode cX6_count 20 = .ok (.ireturn, 1) := by decide +kernel
theorem dX6_count_21 : decode cX6_count 21 = .ok (.iconst 0, 1) := by decide +kernel
theorem dX6_count_22 : decode cX6_count 22 = .ok (.istore_n 2, 1) := by decide +kernel
theorem dX6_count_23 : decode cX6_count 23 = .ok (.iload_n 1, 1) := by decide +kernel
theorem dX6_count_24 : decode cX6_count 24 = .ok (.tableswitch 193 0 8 #[52, 57, 62, 67, 94, 121, 158, 183, 188], 52) := by decide +kernel
theorem dX6_count_76 : decode cX6_count 76 = .ok (.aload_n 0, 1) := by decide +kernel
theorem dX6_count_77 : decode cX6_count 77 = .ok (.getfield 65, 3) := by decide +kernel
theorem dX6_count_80 : decode cX6_count 80 = .ok (.ireturn, 1) := by decide +kernel
theorem dX6_count_81 : decode cX6_count 81 = .ok (.aload_n 0, 1) := by decide +kernel
theorem dX6_count_82 : decode cX6_count 82 = .ok (.getfield 128, 3) := by decide +kernel
theorem dX6_count_85 : decode cX6_count 85 = .ok (.ireturn, 1) := by decide +kernel
theorem dX6_count_86 : decode cX6_count 86 = .ok (.aload_n 0, 1) := by decide +kernel
theorem dX6_count_87 : decode cX6_count 87 = .ok (.getfield 61, 3) := by decide +kernel
theorem dX6_count_90 : decode cX6_count 90 = .ok (.ireturn, 1) := by decide +kernel
theorem dX6_count_91 : decode cX6_count 91 = .ok (.iconst 0, 1) := by decide +kernel
theorem dX6_count_92 : decode cX6_count 92 = .ok (.istore_n 3, 1) := by decide +kernel
theorem dX6_count_93 : decode cX6_count 93 = .ok (.iload_n 3, 1) := by decide +kernel
theorem dX6_count_94 : decode cX6_count 94 = .ok (.aload_n 0, 1) := by decide +kernel
theorem dX6_count_95 : decode cX6_count 95 = .ok (.getfield 65, 3) := by decide +kernel
theorem dX6_count_98 : decode cX6_count 98 = .ok (.if_icmp .ge 18, 3) := by decide +kernel
theorem dX6_count_101 : decode cX6_count 101 = .ok (.iload_n 2, 1) := by decide +kernel
theorem dX6_count_102 : decode cX6_count 102 = .ok (.aload_n 0, 1) := by decide +kernel
theorem dX6_count_103 : decode cX6_count 103 = .ok (.getfield 22, 3) := by decide +kernel
theorem dX6_count_106 : decode cX6_count 106 = .ok (.iload_n 3, 1) := by decide +kernel
theorem dX6_count_107 : decode cX6_count 107 = .ok (.iaload, 1) := by decide +kernel
theorem dX6_count_108 : decode cX6_count 108 = .ok (.iadd, 1) := by decide +kernel
theorem dX6_count_109 : decode cX6_count 109 = .ok (.istore_n 2, 1) := by decide +kernel
theorem dX6_count_110 : decode cX6_count 110 = .ok (.iinc 3 1, 3) := by decide +kernel
theorem dX6_count_113 : decode cX6_count 113 = .ok (.goto (-20), 3) := by decide +kernel
theorem dX6_count_116 : decode cX6_count 116 = .ok (.iload_n 2, 1) := by decide +kernel
theorem dX6_count_117 : decode cX6_count 117 = .ok (.ireturn, 1) := by decide +kernel
theorem dX6_count_118 : decode cX6_count 118 = .ok (.iconst 0, 1) := by decide +kernel
theorem dX6_count_119 : decode cX6_count 119 = .ok (.istore_n 3, 1) := by decide +kernel
theorem dX6_count_120 : decode cX6_count 120 = .ok (.iload_n 3, 1) := by decide +kernel
theorem dX6_count_121 : decode cX6_count 121 = .ok (.aload_n 0, 1) := by decide +kernel
theorem dX6_count_122 : decode cX6_count 122 = .ok (.getfield 65, 3) := by decide +kernel
theorem dX6_count_125 : decode cX6_count 125 = .ok (.if_icmp .ge 18, 3) := by decide +kernel
theorem dX6_count_128 : decode cX6_count 128 = .ok (.iload_n 2, 1) := by decide +kernel
theorem dX6_count_129 : decode cX6_count 129 = .ok (.aload_n 0, 1) := by decide +kernel
theorem dX6_count_130 : decode cX6_count 130 = .ok (.getfield 25, 3) := by decide +kernel
theorem dX6_count_133 : decode cX6_count 133 = .ok (.iload_n 3, 1) := by decide +kernel
theorem dX6_count_134 : decode cX6_count 134 = .ok (.iaload, 1) := by decide +kernel
theorem dX6_count_135 : decode cX6_count 135 = .ok (.iadd, 1) := by decide +kernel
theorem dX6_count_136 : decode cX6_count 136 = .ok (.istore_n 2, 1) := by decide +kernel
theorem dX6_count_137 : decode cX6_count 137 = .ok (.iinc 3 1, 3) := by decide +kernel
theorem dX6_count_140 : decode cX6_count 140 = .ok (.goto (-20), 3) := by decide +kernel
theorem dX6_count_143 : decode cX6_count 143 = .ok (.iload_n 2, 1) := by decide +kernel
theorem dX6_count_144 : decode cX6_count 144 = .ok (.ireturn, 1) := by decide +kernel
theorem dX6_count_145 : decode cX6_count 145 = .ok (.iconst 0, 1) := by decide +kernel
theorem dX6_count_146 : decode cX6_count 146 = .ok (.istore_n 3, 1) := by decide +kernel
theorem dX6_count_147 : decode cX6_count 147 = .ok (.iload_n 3, 1) := by decide +kernel
theorem dX6_count_148 : decode cX6_count 148 = .ok (.aload_n 0, 1) := by decide +kernel
theorem dX6_count_149 : decode cX6_count 149 = .ok (.getfield 65, 3) := by decide +kernel
theorem dX6_count_152 : decode cX6_count 152 = .ok (.if_icmp .ge 28, 3) := by decide +kernel
theorem dX6_count_155 : decode cX6_count 155 = .ok (.iload_n 2, 1) := by decide +kernel
theorem dX6_count_156 : decode cX6_count 156 = .ok (.aload_n 0, 1) := by decide +kernel
theorem dX6_count_157 : decode cX6_count 157 = .ok (.getfield 31, 3) := by decide +kernel
theorem dX6_count_160 : decode cX6_count 160 = .ok (.iload_n 3, 1) := by decide +kernel
theorem dX6_count_161 : decode cX6_count 161 = .ok (.iaload, 1) := by decide +kernel
theorem dX6_count_162 : decode cX6_count 162 = .ok (.bipush 9, 2) := by decide +kernel
theorem dX6_count_164 : decode cX6_count 164 = .ok (.if_icmp .ne 7, 3) := by decide +kernel
theorem dX6_count_167 : decode cX6_count 167 = .ok (.iconst 0, 1) := by decide +kernel
theorem dX6_count_168 : decode cX6_count 168 = .ok (.goto 4, 3) := by decide +kernel
theorem dX6_count_171 : decode cX6_count 171 = .ok (.iconst 1, 1) := by decide +kernel
theorem dX6_count_172 : decode cX6_count 172 = .ok (.iadd, 1) := by decide +kernel
theorem dX6_count_173 : decode cX6_count 173 = .ok (.istore_n 2, 1) := by decide +kernel
theorem dX6_count_174 : decode cX6_count 174 = .ok (.iinc 3 1, 3) := by decide +kernel
theorem dX6_count_177 : decode cX6_count 177 = .ok (.goto (-30), 3) := by decide +kernel
theorem dX6_count_180 : decode cX6_count 180 = .ok (.iload_n 2, 1) := by decide +kernel
theorem dX6_count_181 : decode cX6_count 181 = .ok (.ireturn, 1) := by decide +kernel
theorem dX6_count_182 : decode cX6_count 182 = .ok (.iconst 0, 1) := by decide +kernel
theorem dX6_count_183 : decode cX6_count 183 = .ok (.istore_n 3, 1) := by decide +kernel
theorem dX6_count_184 : decode cX6_count 184 = .ok (.iload_n 3, 1) := by decide +kernel
theorem dX6_count_185 : decode cX6_count 185 = .ok (.bipush 6, 2) := by decide +kernel
theorem dX6_count_187 : decode cX6_count 187 = .ok (.if_icmp .ge 18, 3) := by decide +kernel
theorem dX6_count_190 : decode cX6_count 190 = .ok (.iload_n 2, 1) := by decide +kernel
theorem dX6_count_191 : decode cX6_count 191 = .ok (.aload_n 0, 1) := by decide +kernel
theorem dX6_count_192 : decode cX6_count 192 = .ok (.getfield 13, 3) := by decide +kernel
theorem dX6_count_195 : decode cX6_count 195 = .ok (.iload_n 3, 1) := by decide +kernel
theorem dX6_count_196 : decode cX6_count 196 = .ok (.iaload, 1) := by decide +kernel
theorem dX6_count_197 : decode cX6_count 197 = .ok (.iadd, 1) := by decide +kernel
theorem dX6_count_198 : decode cX6_count 198 = .ok (.istore_n 2, 1) := by decide +kernel
theorem dX6_count_199 : decode cX6_count 199 = .ok (.iinc 3 1, 3) := by decide +kernel
theorem dX6_count_202 : decode cX6_count 202 = .ok (.goto (-18), 3) := by decide +kernel
theorem dX6_count_205 : decode cX6_count 205 = .ok (.iload_n 2, 1) := by decide +kernel
theorem dX6_count_206 : decode cX6_count 206 = .ok (.ireturn, 1) := by decide +kernel
theorem dX6_count_207 : decode cX6_count 207 = .ok (.aload_n 0, 1) := by decide +kernel
theorem dX6_count_208 : decode cX6_count 208 = .ok (.getfield 249, 3) := by decide +kernel
theorem dX6_count_211 : decode cX6_count 211 = .ok (.ireturn, 1) := by decide +kernel
theorem dX6_count_212 : decode cX6_count 212 = .ok (.aload_n 0, 1) := by decide +kernel
theorem dX6_count_213 : decode cX6_count 213 = .ok (.getfield 76, 3) := by decide +kernel
theorem dX6_count_216 : decode cX6_count 216 = .ok (.ireturn, 1) := by decide +kernel
theorem dX6_count_217 : decode cX6_count 217 = .ok (.bipush (-9), 2) := by decide +kernel
theorem dX6_count_219 : decode cX6_count 219 = .ok (.ireturn, 1) := by decide +kernel
theorem dX6_crowded_0 : decode cX6_crowded 0 = .ok (.iconst 0, 1) := by decide +kernel
theorem dX6_crowded_1 : decode cX6_crowded 1 = .ok (.istore_n 1, 1) := by decide +kernel
theorem dX6_crowded_2 : decode cX6_crowded 2 = .ok (.iconst 0, 1) := by decide +kernel
theorem dX6_crowded_3 : decode cX6_crowded 3 = .ok (.istore_n 2, 1) := by decide +kernel
theorem dX6_crowded_4 : decode cX6_crowded 4 = .ok (.iload_n 2, 1) := by decide +kernel
theorem dX6_crowded_5 : decode cX6_crowded 5 = .ok (.bipush 6, 2) := by decide +kernel
theorem dX6_crowded_7 : decode cX6_crowded 7 = .ok (.if_icmp .ge 35, 3) := by decide +kernel
theorem dX6_crowded_10 : decode cX6_crowded 10 = .ok (.iload_n 1, 1) := by decide +kernel
theorem dX6_crowded_11 : decode cX6_crowded 11 = .ok (.aload_n 0, 1) := by decide +kernel
theorem dX6_crowded_12 : decode cX6_crowded 12 = .ok (.iload_n 2, 1) := by decide +kernel
theorem dX6_crowded_13 : decode cX6_crowded 13 = .ok (.invokevirtual 125, 3) := by decide +kernel
theorem dX6_crowded_16 : decode cX6_crowded 16 = .ok (.iconst 1, 1) := by decide +kernel
theorem dX6_crowded_17 : decode cX6_crowded 17 = .ok (.iadd, 1) := by decide +kernel
theorem dX6_crowded_18 : decode cX6_crowded 18 = .ok (.aload_n 0, 1) := by decide +kernel
theorem dX6_crowded_19 : decode cX6_crowded 19 = .ok (.getfield 13, 3) := by decide +kernel
theorem dX6_crowded_22 : decode cX6_crowded 22 = .ok (.iload_n 2, 1) := by decide +kernel
theorem dX6_crowded_23 : decode cX6_crowded 23 = .ok (.iaload, 1) := by decide +kernel
theorem dX6_crowded_24 : decode cX6_crowded 24 = .ok (.if_icmp .le 9, 3) := by decide +kernel
theorem dX6_crowded_27 : decode cX6_crowded 27 = .ok (.iconst 1, 1) := by decide +kernel
theorem dX6_crowded_28 : decode cX6_crowded 28 = .ok (.iload_n 2, 1) := by decide +kernel
theorem dX6_crowded_29 : decode cX6_crowded 29 = .ok (.ishl, 1) := by decide +kernel
theorem dX6_crowded_30 : decode cX6_crowded 30 = .ok (.goto 4, 3) := by decide +kernel
theorem dX6_crowded_33 : decode cX6_crowded 33 = .ok (.iconst 0, 1) := by decide +kernel
theorem dX6_crowded_34 : decode cX6_crowded 34 = .ok (.ior, 1) := by decide +kernel
theorem dX6_crowded_35 : decode cX6_crowded 35 = .ok (.istore_n 1, 1) := by decide +kernel
theorem dX6_crowded_36 : decode cX6_crowded 36 = .ok (.iinc 2 1, 3) := by decide +kernel
theorem dX6_crowded_39 : decode cX6_crowded 39 = .ok (.goto (-35), 3) := by decide +kernel
theorem dX6_crowded_42 : decode cX6_crowded 42 = .ok (.iload_n 1, 1) := by decide +kernel
theorem dX6_crowded_43 : decode cX6_crowded 43 = .ok (.ireturn, 1) := by decide +kernel
theorem dX6_deals_0 : decode cX6_deals 0 = .ok (.iconst 0, 1) := by decide +kernel
theorem dX6_deals_1 : decode cX6_deals 1 = .ok (.istore_n 1, 1) := by decide +kernel
theorem dX6_deals_2 : decode cX6_deals 2 = .ok (.iload_n 1, 1) := by decide +kernel
theorem dX6_deals_3 : decode cX6_deals 3 = .ok (.iconst 4, 1) := by decide +kernel
theorem dX6_deals_4 : decode cX6_deals 4 = .ok (.if_icmp .ge 16, 3) := by decide +kernel
theorem dX6_deals_7 : decode cX6_deals 7 = .ok (.aload_n 0, 1) := by decide +kernel
theorem dX6_deals_8 : decode cX6_deals 8 = .ok (.getfield 55, 3) := by decide +kernel
theorem dX6_deals_11 : decode cX6_deals 11 = .ok (.iload_n 1, 1) := by decide +kernel
theorem dX6_deals_12 : decode cX6_deals 12 = .ok (.iconst 0, 1) := by decide +kernel
theorem dX6_deals_13 : decode cX6_deals 13 = .ok (.iastore, 1) := by decide +kernel
theorem dX6_deals_14 : decode cX6_deals 14 = .ok (.iinc 1 1, 3) := by decide +kernel
theorem dX6_deals_17 : decode cX6_deals 17 = .ok (.goto (-15), 3) := by decide +kernel
theorem dX6_deals_20 : decode cX6_deals 20 = .ok (.iconst 0, 1) := by decide +kernel
theorem dX6_deals_21 : decode cX6_deals 21 = .ok (.istore_n 1, 1) := by decide +kernel
theorem dX6_deals_22 : decode cX6_deals 22 = .ok (.iload_n 1, 1) := by decide +kernel
theorem dX6_deals_23 : decode cX6_deals 23 = .ok (.aload_n 0, 1) := by decide +kernel
theorem dX6_deals_24 : decode cX6_deals 24 = .ok (.getfield 65, 3) := by decide +kernel
theorem dX6_deals_27 : decode cX6_deals 27 = .ok (.if_icmp .ge 38, 3) := by decide +kernel
theorem dX6_deals_30 : decode cX6_deals 30 = .ok (.aload_n 0, 1) := by decide +kernel
theorem dX6_deals_31 : decode cX6_deals 31 = .ok (.getfield 52, 3) := by decide +kernel
theorem dX6_deals_34 : decode cX6_deals 34 = .ok (.iload_n 1, 1) := by decide +kernel
theorem dX6_deals_35 : decode cX6_deals 35 = .ok (.aload_n 0, 1) := by decide +kernel
theorem dX6_deals_36 : decode cX6_deals 36 = .ok (.invokevirtual 222, 3) := by decide +kernel
theorem dX6_deals_39 : decode cX6_deals 39 = .ok (.iastore, 1) := by decide +kernel
theorem dX6_deals_40 : decode cX6_deals 40 = .ok (.aload_n 0, 1) := by decide +kernel
theorem dX6_deals_41 : decode cX6_deals 41 = .ok (.getfield 55, 3) := by decide +kernel
theorem dX6_deals_44 : decode cX6_deals 44 = .ok (.aload_n 0, 1) := by decide +kernel
theorem dX6_deals_45 : decode cX6_deals 45 = .ok (.getfield 52, 3) := by decide +kernel
theorem dX6_deals_48 : decode cX6_deals 48 = .ok (.iload_n 1, 1) := by decide +kernel
theorem dX6_deals_49 : decode cX6_deals 49 = .ok (.iaload, 1) := by decide +kernel
theorem dX6_deals_50 : decode cX6_deals 50 = .ok (.dup2, 1) := by decide +kernel
theorem dX6_deals_51 : decode cX6_deals 51 = .ok (.iaload, 1) := by decide +kernel
theorem dX6_deals_52 : decode cX6_deals 52 = .ok (.aload_n 0, 1) := by decide +kernel
theorem dX6_deals_53 : decode cX6_deals 53 = .ok (.iload_n 1, 1) := by decide +kernel
theorem dX6_deals_54 : decode cX6_deals 54 = .ok (.invokevirtual 169, 3) := by decide +kernel
theorem dX6_deals_57 : decode cX6_deals 57 = .ok (.iadd, 1) := by decide +kernel
theorem dX6_deals_58 : decode cX6_deals 58 = .ok (.iastore, 1) := by decide +kernel
theorem dX6_deals_59 : decode cX6_deals 59 = .ok (.iinc 1 1, 3) := by decide +kernel
theorem dX6_deals_62 : decode cX6_deals 62 = .ok (.goto (-40), 3) := by decide +kernel
theorem dX6_deals_65 : decode cX6_deals 65 = .ok (.return_, 1) := by decide +kernel
theorem dX6_dealt_0 : decode cX6_dealt 0 = .ok (.aload_n 0, 1) := by decide +kernel
theorem dX6_dealt_1 : decode cX6_dealt 1 = .ok (.iload_n 1, 1) := by decide +kernel
theorem dX6_dealt_2 : decode cX6_dealt 2 = .ok (.invokevirtual 216, 3) := by decide +kernel
theorem dX6_dealt_5 : decode cX6_dealt 5 = .ok (.istore_n 2, 1) := by decide +kernel
theorem dX6_dealt_6 : decode cX6_dealt 6 = .ok (.iload_n 2, 1) := by decide +kernel
theorem dX6_dealt_7 : decode cX6_dealt 7 = .ok (.ifCond .eq 9, 3) := by decide +kernel
theorem dX6_dealt_10 : decode cX6_dealt 10 = .ok (.aload_n 0, 1) := by decide +kernel
theorem dX6_dealt_11 : decode cX6_dealt 11 = .ok (.iload_n 2, 1) := by decide +kernel
theorem dX6_dealt_12 : decode cX6_dealt 12 = .ok (.invokevirtual 79, 3) := by decide +kernel
theorem dX6_dealt_15 : decode cX6_dealt 15 = .ok (.ireturn, 1) := by decide +kernel
theorem dX6_dealt_16 : decode cX6_dealt 16 = .ok (.aload_n 0, 1) := by decide +kernel
theorem dX6_dealt_17 : decode cX6_dealt 17 = .ok (.invokevirtual 225, 3) := by decide +kernel
theorem dX6_dealt_20 : decode cX6_dealt 20 = .ok (.iload_n 1, 1) := by decide +kernel
theorem dX6_dealt_21 : decode cX6_dealt 21 = .ok (.ifCond .ge 10, 3) := by decide +kernel
theorem dX6_dealt_24 : decode cX6_dealt 24 = .ok (.aload_n 0, 1) := by decide +kernel
theorem dX6_dealt_25 : decode cX6_dealt 25 = .ok (.invokevirtual 213, 3) := by decide +kernel
theorem dX6_dealt_28 : decode cX6_dealt 28 = .ok (.goto 9, 3) := by decide +kernel
theorem dX6_dealt_31 : decode cX6_dealt 31 = .ok (.aload_n 0, 1) := by decide +kernel
theorem dX6_dealt_32 : decode cX6_dealt 32 = .ok (.getfield 52, 3) := by decide +kernel
theorem dX6_dealt_35 : decode cX6_dealt 35 = .ok (.iload_n 1, 1) := by decide +kernel
theorem dX6_dealt_36 : decode cX6_dealt 36 = .ok (.iaload, 1) := by decide +kernel
theorem dX6_dealt_37 : decode cX6_dealt 37 = .ok (.ireturn, 1) := by decide +kernel
theorem dX6_envy_0 : decode cX6_envy 0 = .ok (.aload_n 0, 1) := by decide +kernel
theorem dX6_envy_1 : decode cX6_envy 1 = .ok (.invokevirtual 219, 3) := by decide +kernel
theorem dX6_envy_4 : decode cX6_envy 4 = .ok (.pop, 1) := by decide +kernel
theorem dX6_envy_5 : decode cX6_envy 5 = .ok (.aload_n 0, 1) := by decide +kernel
theorem dX6_envy_6 : decode cX6_envy 6 = .ok (.getfield 55, 3) := by decide +kernel
theorem dX6_envy_9 : decode cX6_envy 9 = .ok (.aload_n 0, 1) := by decide +kernel
theorem dX6_envy_10 : decode cX6_envy 10 = .ok (.invokevirtual 222, 3) := by decide +kernel
theorem dX6_envy_13 : decode cX6_envy 13 = .ok (.iaload, 1) := by decide +kernel
theorem dX6_envy_14 : decode cX6_envy 14 = .ok (.istore_n 1, 1) := by decide +kernel
theorem dX6_envy_15 : decode cX6_envy 15 = .ok (.iconst 0, 1) := by decide +kernel
theorem dX6_envy_16 : decode cX6_envy 16 = .ok (.istore_n 2, 1) := by decide +kernel
theorem dX6_envy_17 : decode cX6_envy 17 = .ok (.iconst 0, 1) := by decide +kernel
theorem dX6_envy_18 : decode cX6_envy 18 = .ok (.istore_n 3, 1) := by decide +kernel
theorem dX6_envy_19 : decode cX6_envy 19 = .ok (.iload_n 3, 1) := by decide +kernel
theorem dX6_envy_20 : decode cX6_envy 20 = .ok (.aload_n 0, 1) := by decide +kernel
theorem dX6_envy_21 : decode cX6_envy 21 = .ok (.getfield 61, 3) := by decide +kernel
theorem dX6_envy_24 : decode cX6_envy 24 = .ok (.if_icmp .ge 27, 3) := by decide +kernel
theorem dX6_envy_27 : decode cX6_envy 27 = .ok (.iload_n 2, 1) := by decide +kernel
theorem dX6_envy_28 : decode cX6_envy 28 = .ok (.aload_n 0, 1) := by decide +kernel
theorem dX6_envy_29 : decode cX6_envy 29 = .ok (.getfield 55, 3) := by decide +kernel
theorem dX6_envy_32 : decode cX6_envy 32 = .ok (.iload_n 3, 1) := by decide +kernel
theorem dX6_envy_33 : decode cX6_envy 33 = .ok (.iaload, 1) := by decide +kernel
theorem dX6_envy_34 : decode cX6_envy 34 = .ok (.iload_n 1, 1) := by decide +kernel
theorem dX6_envy_35 : decode cX6_envy 35 = .ok (.if_icmp .le 7, 3) := by decide +kernel
theorem dX6_envy_38 : decode cX6_envy 38 = .ok (.iconst 1, 1) := by decide +kernel
theorem dX6_envy_39 : decode cX6_envy 39 = .ok (.goto 4, 3) := by decide +kernel
theorem dX6_envy_42 : decode cX6_envy 42 = .ok (.iconst 0, 1) := by decide +kernel
theorem dX6_envy_43 : decode cX6_envy 43 = .ok (.iadd, 1) := by decide +kernel
theorem dX6_envy_44 : decode cX6_envy 44 = .ok (.istore_n 2, 1) := by decide +kernel
theorem dX6_envy_45 : decode cX6_envy 45 = .ok (.iinc 3 1, 3) := by decide +kernel
theorem dX6_envy_48 : decode cX6_envy 48 = .ok (.goto (-29), 3) := by decide +kernel
theorem dX6_envy_51 : decode cX6_envy 51 = .ok (.iload_n 2, 1) := by decide +kernel
theorem dX6_envy_52 : decode cX6_envy 52 = .ok (.ireturn, 1) := by decide +kernel
theorem dX6_evenBy_0 : decode cX6_evenBy 0 = .ok (.iconst 0, 1) := by decide +kernel
theorem dX6_evenBy_1 : decode cX6_evenBy 1 = .ok (.istore_n 3, 1) := by decide +kernel
theorem dX6_evenBy_2 : decode cX6_evenBy 2 = .ok (.iconst 0, 1) := by decide +kernel
theorem dX6_evenBy_3 : decode cX6_evenBy 3 = .ok (.istore 4, 2) := by decide +kernel
theorem dX6_evenBy_5 : decode cX6_evenBy 5 = .ok (.iload 4, 2) := by decide +kernel
theorem dX6_evenBy_7 : decode cX6_evenBy 7 = .ok (.bipush 10, 2) := by decide +kernel
theorem dX6_evenBy_9 : decode cX6_evenBy 9 = .ok (.if_icmp .ge 28, 3) := by decide +kernel
theorem dX6_evenBy_12 : decode cX6_evenBy 12 = .ok (.iload_n 3, 1) := by decide +kernel
theorem dX6_evenBy_13 : decode cX6_evenBy 13 = .ok (.aload_n 0, 1) := by decide +kernel
theorem dX6_evenBy_14 : decode cX6_evenBy 14 = .ok (.iload_n 1, 1) := by decide +kernel
theorem dX6_evenBy_15 : decode cX6_evenBy 15 = .ok (.iload 4, 2) := by decide +kernel
theorem dX6_evenBy_17 : decode cX6_evenBy 17 = .ok (.invokevirtual 237, 3) := by decide +kernel
theorem dX6_evenBy_20 : decode cX6_evenBy 20 = .ok (.iload_n 2, 1) := by decide +kernel
theorem dX6_evenBy_21 : decode cX6_evenBy 21 = .ok (.if_icmp .lt 7, 3) := by decide +kernel
theorem dX6_evenBy_24 : decode cX6_evenBy 24 = .ok (.iconst 1, 1) := by decide +kernel
theorem dX6_evenBy_25 : decode cX6_evenBy 25 = .ok (.goto 4, 3) := by decide +kernel
theorem dX6_evenBy_28 : decode cX6_evenBy 28 = .ok (.iconst 0, 1) := by decide +kernel
theorem dX6_evenBy_29 : decode cX6_evenBy 29 = .ok (.iadd, 1) := by decide +kernel
theorem dX6_evenBy_30 : decode cX6_evenBy 30 = .ok (.istore_n 3, 1) := by decide +kernel
theorem dX6_evenBy_31 : decode cX6_evenBy 31 = .ok (.iinc 4 1, 3) := by decide +kernel
theorem dX6_evenBy_34 : decode cX6_evenBy 34 = .ok (.goto (-29), 3) := by decide +kernel
theorem dX6_evenBy_37 : decode cX6_evenBy 37 = .ok (.iload_n 3, 1) := by decide +kernel
theorem dX6_evenBy_38 : decode cX6_evenBy 38 = .ok (.iconst 5, 1) := by decide +kernel
theorem dX6_evenBy_39 : decode cX6_evenBy 39 = .ok (.if_icmp .ge 7, 3) := by decide +kernel
theorem dX6_evenBy_42 : decode cX6_evenBy 42 = .ok (.iload_n 3, 1) := by decide +kernel
theorem dX6_evenBy_43 : decode cX6_evenBy 43 = .ok (.goto 7, 3) := by decide +kernel
theorem dX6_evenBy_46 : decode cX6_evenBy 46 = .ok (.bipush 10, 2) := by decide +kernel
theorem dX6_evenBy_48 : decode cX6_evenBy 48 = .ok (.iload_n 3, 1) := by decide +kernel
theorem dX6_evenBy_49 : decode cX6_evenBy 49 = .ok (.isub, 1) := by decide +kernel
theorem dX6_evenBy_50 : decode cX6_evenBy 50 = .ok (.ireturn, 1) := by decide +kernel
theorem dX6_findPlacing_0 : decode cX6_findPlacing 0 = .ok (.aload_n 0, 1) := by decide +kernel
theorem dX6_findPlacing_1 : decode cX6_findPlacing 1 = .ok (.iconst 1, 1) := by decide +kernel
theorem dX6_findPlacing_2 : decode cX6_findPlacing 2 = .ok (.iconst 1, 1) := by decide +kernel
theorem dX6_findPlacing_3 : decode cX6_findPlacing 3 = .ok (.invokevirtual 139, 3) := by decide +kernel
theorem dX6_findPlacing_6 : decode cX6_findPlacing 6 = .ok (.aload_n 0, 1) := by decide +kernel
theorem dX6_findPlacing_7 : decode cX6_findPlacing 7 = .ok (.bipush (-9), 2) := by decide +kernel
theorem dX6_findPlacing_9 : decode cX6_findPlacing 9 = .ok (.putfield 187, 3) := by decide +kernel
theorem dX6_findPlacing_12 : decode cX6_findPlacing 12 = .ok (.iconst 0, 1) := by decide +kernel
theorem dX6_findPlacing_13 : decode cX6_findPlacing 13 = .ok (.istore_n 3, 1) := by decide +kernel
theorem dX6_findPlacing_14 : decode cX6_findPlacing 14 = .ok (.iload_n 3, 1) := by decide +kernel
theorem dX6_findPlacing_15 : decode cX6_findPlacing 15 = .ok (.bipush 6, 2) := by decide +kernel
theorem dX6_findPlacing_17 : decode cX6_findPlacing 17 = .ok (.aload_n 0, 1) := by decide +kernel
theorem dX6_findPlacing_18 : decode cX6_findPlacing 18 = .ok (.getfield 65, 3) := by decide +kernel
theorem dX6_findPlacing_21 : decode cX6_findPlacing 21 = .ok (.invokestatic 190, 3) := by decide +kernel
theorem dX6_findPlacing_24 : decode cX6_findPlacing 24 = .ok (.if_icmp .ge 99, 3) := by decide +kernel
theorem dX6_findPlacing_27 : decode cX6_findPlacing 27 = .ok (.aload_n 0, 1) := by decide +kernel
theorem dX6_findPlacing_28 : decode cX6_findPlacing 28 = .ok (.iload_n 1, 1) := by decide +kernel
theorem dX6_findPlacing_29 : decode cX6_findPlacing 29 = .ok (.iload_n 3, 1) := by decide +kernel
theorem dX6_findPlacing_30 : decode cX6_findPlacing 30 = .ok (.invokevirtual 194, 3) := by decide +kernel
theorem dX6_findPlacing_33 : decode cX6_findPlacing 33 = .ok (.ifCond .ne 6, 3) := by decide +kernel
theorem dX6_findPlacing_36 : decode cX6_findPlacing 36 = .ok (.goto 81, 3) := by decide +kernel
theorem dX6_findPlacing_39 : decode cX6_findPlacing 39 = .ok (.iload_n 2, 1) := by decide +kernel
theorem dX6_findPlacing_40 : decode cX6_findPlacing 40 = .ok (.ifCond .ne 14, 3) := by decide +kernel
theorem dX6_findPlacing_43 : decode cX6_findPlacing 43 = .ok (.aload_n 0, 1) := by decide +kernel
theorem dX6_findPlacing_44 : decode cX6_findPlacing 44 = .ok (.aload_n 0, 1) := by decide +kernel
theorem dX6_findPlacing_45 : decode cX6_findPlacing 45 = .ok (.invokevirtual 197, 3) := by decide +kernel
theorem dX6_findPlacing_48 : decode cX6_findPlacing 48 = .ok (.invokevirtual 178, 3) := by decide +kernel
theorem dX6_findPlacing_51 : decode cX6_findPlacing 51 = .ok (.goto 7, 3) := by decide +kernel
theorem dX6_findPlacing_54 : decode cX6_findPlacing 54 = .ok (.aload_n 0, 1) := by decide +kernel
theorem dX6_findPlacing_55 : decode cX6_findPlacing 55 = .ok (.invokevirtual 200, 3) := by decide +kernel
theorem dX6_findPlacing_58 : decode cX6_findPlacing 58 = .ok (.istore 4, 2) := by decide +kernel
theorem dX6_findPlacing_60 : decode cX6_findPlacing 60 = .ok (.aload_n 0, 1) := by decide +kernel
theorem dX6_findPlacing_61 : decode cX6_findPlacing 61 = .ok (.getfield 187, 3) := by decide +kernel
theorem dX6_findPlacing_64 : decode cX6_findPlacing 64 = .ok (.ifCond .lt 15, 3) := by decide +kernel
theorem dX6_findPlacing_67 : decode cX6_findPlacing 67 = .ok (.iload 4, 2) := by decide +kernel
theorem dX6_findPlacing_69 : decode cX6_findPlacing 69 = .ok (.aload_n 0, 1) := by decide +kernel
theorem dX6_findPlacing_70 : decode cX6_findPlacing 70 = .ok (.getfield 187, 3) := by decide +kernel
theorem dX6_findPlacing_73 : decode cX6_findPlacing 73 = .ok (.if_icmp .lt 6, 3) := by decide +kernel
theorem dX6_findPlacing_76 : decode cX6_findPlacing 76 = .ok (.goto 41, 3) := by decide +kernel
theorem dX6_findPlacing_79 : decode cX6_findPlacing 79 = .ok (.aload_n 0, 1) := by decide +kernel
theorem dX6_findPlacing_80 : decode cX6_findPlacing 80 = .ok (.iload 4, 2) := by decide +kernel
theorem dX6_findPlacing_82 : decode cX6_findPlacing 82 = .ok (.putfield 187, 3) := by decide +kernel
theorem dX6_findPlacing_85 : decode cX6_findPlacing 85 = .ok (.iconst 0, 1) := by decide +kernel
theorem dX6_findPlacing_86 : decode cX6_findPlacing 86 = .ok (.istore 5, 2) := by decide +kernel
theorem dX6_findPlacing_88 : decode cX6_findPlacing 88 = .ok (.iload 5, 2) := by decide +kernel
theorem dX6_findPlacing_90 : decode cX6_findPlacing 90 = .ok (.aload_n 0, 1) := by decide +kernel
theorem dX6_findPlacing_91 : decode cX6_findPlacing 91 = .ok (.getfield 65, 3) := by decide +kernel
theorem dX6_findPlacing_94 : decode cX6_findPlacing 94 = .ok (.if_icmp .ge 23, 3) := by decide +kernel
theorem dX6_findPlacing_97 : decode cX6_findPlacing 97 = .ok (.aload_n 0, 1) := by decide +kernel
theorem dX6_findPlacing_98 : decode cX6_findPlacing 98 = .ok (.getfield 49, 3) := by decide +kernel
theorem dX6_findPlacing_101 : decode cX6_findPlacing 101 = .ok (.iload 5, 2) := by decide +kernel
theorem dX6_findPlacing_103 : decode cX6_findPlacing 103 = .ok (.aload_n 0, 1) := by decide +kernel
theorem dX6_findPlacing_104 : decode cX6_findPlacing 104 = .ok (.getfield 31, 3) := by decide +kernel
theorem dX6_findPlacing_107 : decode cX6_findPlacing 107 = .ok (.iload 5, 2) := by decide +kernel
theorem dX6_findPlacing_109 : decode cX6_findPlacing 109 = .ok (.iaload, 1) := by decide +kernel
theorem dX6_findPlacing_110 : decode cX6_findPlacing 110 = .ok (.iastore, 1) := by decide +kernel
theorem dX6_findPlacing_111 : decode cX6_findPlacing 111 = .ok (.iinc 5 1, 3) := by decide +kernel
theorem dX6_findPlacing_114 : decode cX6_findPlacing 114 = .ok (.goto (-26), 3) := by decide +kernel
theorem dX6_findPlacing_117 : decode cX6_findPlacing 117 = .ok (.iinc 3 1, 3) := by decide +kernel
theorem dX6_findPlacing_120 : decode cX6_findPlacing 120 = .ok (.goto (-106), 3) := by decide +kernel
theorem dX6_findPlacing_123 : decode cX6_findPlacing 123 = .ok (.aload_n 0, 1) := by decide +kernel
theorem dX6_findPlacing_124 : decode cX6_findPlacing 124 = .ok (.iconst 1, 1) := by decide +kernel
theorem dX6_findPlacing_125 : decode cX6_findPlacing 125 = .ok (.iconst 0, 1) := by decide +kernel
theorem dX6_findPlacing_126 : decode cX6_findPlacing 126 = .ok (.invokevirtual 139, 3) := by decide +kernel
theorem dX6_findPlacing_129 : decode cX6_findPlacing 129 = .ok (.return_, 1) := by decide +kernel
theorem dX6_findShares_0 : decode cX6_findShares 0 = .ok (.iconst 0, 1) := by decide +kernel
theorem dX6_findShares_1 : decode cX6_findShares 1 = .ok (.istore_n 1, 1) := by decide +kernel
theorem dX6_findShares_2 : decode cX6_findShares 2 = .ok (.bipush (-9), 2) := by decide +kernel
theorem dX6_findShares_4 : decode cX6_findShares 4 = .ok (.istore_n 2, 1) := by decide +kernel
theorem dX6_findShares_5 : decode cX6_findShares 5 = .ok (.iconst 0, 1) := by decide +kernel
theorem dX6_findShares_6 : decode cX6_findShares 6 = .ok (.istore_n 3, 1) := by decide +kernel
theorem dX6_findShares_7 : decode cX6_findShares 7 = .ok (.iload_n 3, 1) := by decide +kernel
theorem dX6_findShares_8 : decode cX6_findShares 8 = .ok (.aload_n 0, 1) := by decide +kernel
theorem dX6_findShares_9 : decode cX6_findShares 9 = .ok (.getfield 61, 3) := by decide +kernel
theorem dX6_findShares_12 : decode cX6_findShares 12 = .ok (.aload_n 0, 1) := by decide +kernel
theorem dX6_findShares_13 : decode cX6_findShares 13 = .ok (.getfield 65, 3) := by decide +kernel
theorem dX6_findShares_16 : decode cX6_findShares 16 = .ok (.invokestatic 190, 3) := by decide +kernel
theorem dX6_findShares_19 : decode cX6_findShares 19 = .ok (.if_icmp .ge 36, 3) := by decide +kernel
theorem dX6_findShares_22 : decode cX6_findShares 22 = .ok (.aload_n 0, 1) := by decide +kernel
theorem dX6_findShares_23 : decode cX6_findShares 23 = .ok (.iload_n 3, 1) := by decide +kernel
theorem dX6_findShares_24 : decode cX6_findShares 24 = .ok (.invokevirtual 210, 3) := by decide +kernel
theorem dX6_findShares_27 : decode cX6_findShares 27 = .ok (.iload_n 2, 1) := by decide +kernel
theorem dX6_findShares_28 : decode cX6_findShares 28 = .ok (.ifCond .lt 14, 3) := by decide +kernel
theorem dX6_findShares_31 : decode cX6_findShares 31 = .ok (.aload_n 0, 1) := by decide +kernel
theorem dX6_findShares_32 : decode cX6_findShares 32 = .ok (.invokevirtual 213, 3) := by decide +kernel
theorem dX6_findShares_35 : decode cX6_findShares 35 = .ok (.iload_n 2, 1) := by decide +kernel
theorem dX6_findShares_36 : decode cX6_findShares 36 = .ok (.if_icmp .lt 6, 3) := by decide +kernel
theorem dX6_findShares_39 : decode cX6_findShares 39 = .ok (.goto 10, 3) := by decide +kernel
theorem dX6_findShares_42 : decode cX6_findShares 42 = .ok (.iload_n 3, 1) := by decide +kernel
theorem dX6_findShares_43 : decode cX6_findShares 43 = .ok (.istore_n 1, 1) := by decide +kernel
theorem dX6_findShares_44 : decode cX6_findShares 44 = .ok (.aload_n 0, 1) := by decide +kernel
theorem dX6_findShares_45 : decode cX6_findShares 45 = .ok (.invokevirtual 213, 3) := by decide +kernel
theorem dX6_findShares_48 : decode cX6_findShares 48 = .ok (.istore_n 2, 1) := by decide +kernel
theorem dX6_findShares_49 : decode cX6_findShares 49 = .ok (.iinc 3 1, 3) := by decide +kernel
theorem dX6_findShares_52 : decode cX6_findShares 52 = .ok (.goto (-45), 3) := by decide +kernel
theorem dX6_findShares_55 : decode cX6_findShares 55 = .ok (.aload_n 0, 1) := by decide +kernel
theorem dX6_findShares_56 : decode cX6_findShares 56 = .ok (.iload_n 1, 1) := by decide +kernel
theorem dX6_findShares_57 : decode cX6_findShares 57 = .ok (.invokevirtual 210, 3) := by decide +kernel
theorem dX6_findShares_60 : decode cX6_findShares 60 = .ok (.iload_n 2, 1) := by decide +kernel
theorem dX6_findShares_61 : decode cX6_findShares 61 = .ok (.ireturn, 1) := by decide +kernel
theorem dX6_firstOther_0 : decode cX6_firstOther 0 = .ok (.iconst 0, 1) := by decide +kernel
theorem dX6_firstOther_1 : decode cX6_firstOther 1 = .ok (.istore_n 1, 1) := by decide +kernel
theorem dX6_firstOther_2 : decode cX6_firstOther 2 = .ok (.iload_n 1, 1) := by decide +kernel
theorem dX6_firstOther_3 : decode cX6_firstOther 3 = .ok (.aload_n 0, 1) := by decide +kernel
theorem dX6_firstOther_4 : decode cX6_firstOther 4 = .ok (.getfield 249, 3) := by decide +kernel
theorem dX6_firstOther_7 : decode cX6_firstOther 7 = .ok (.if_icmp .ge 38, 3) := by decide +kernel
theorem dX6_firstOther_10 : decode cX6_firstOther 10 = .ok (.aload_n 0, 1) := by decide +kernel
theorem dX6_firstOther_11 : decode cX6_firstOther 11 = .ok (.iload_n 1, 1) := by decide +kernel
theorem dX6_firstOther_12 : decode cX6_firstOther 12 = .ok (.invokevirtual 240, 3) := by decide +kernel
theorem dX6_firstOther_15 : decode cX6_firstOther 15 = .ok (.istore_n 2, 1) := by decide +kernel
theorem dX6_firstOther_16 : decode cX6_firstOther 16 = .ok (.iload_n 2, 1) := by decide +kernel
theorem dX6_firstOther_17 : decode cX6_firstOther 17 = .ok (.bipush 99, 2) := by decide +kernel
theorem dX6_firstOther_19 : decode cX6_firstOther 19 = .ok (.if_icmp .le 8, 3) := by decide +kernel
theorem dX6_firstOther_22 : decode cX6_firstOther 22 = .ok (.bipush 99, 2) := by decide +kernel
theorem dX6_firstOther_24 : decode cX6_firstOther 24 = .ok (.goto 4, 3) := by decide +kernel
theorem dX6_firstOther_27 : decode cX6_firstOther 27 = .ok (.iload_n 2, 1) := by decide +kernel
theorem dX6_firstOther_28 : decode cX6_firstOther 28 = .ok (.aload_n 0, 1) := by decide +kernel
theorem dX6_firstOther_29 : decode cX6_firstOther 29 = .ok (.getfield 58, 3) := by decide +kernel
theorem dX6_firstOther_32 : decode cX6_firstOther 32 = .ok (.iload_n 1, 1) := by decide +kernel
theorem dX6_firstOther_33 : decode cX6_firstOther 33 = .ok (.iaload, 1) := by decide +kernel
theorem dX6_firstOther_34 : decode cX6_firstOther 34 = .ok (.if_icmp .eq 5, 3) := by decide +kernel
theorem dX6_firstOther_37 : decode cX6_firstOther 37 = .ok (.iload_n 1, 1) := by decide +kernel
theorem dX6_firstOther_38 : decode cX6_firstOther 38 = .ok (.ireturn, 1) := by decide +kernel
theorem dX6_firstOther_39 : decode cX6_firstOther 39 = .ok (.iinc 1 1, 3) := by decide +kernel
theorem dX6_firstOther_42 : decode cX6_firstOther 42 = .ok (.goto (-40), 3) := by decide +kernel
theorem dX6_firstOther_45 : decode cX6_firstOther 45 = .ok (.bipush (-9), 2) := by decide +kernel
theorem dX6_firstOther_47 : decode cX6_firstOther 47 = .ok (.ireturn, 1) := by decide +kernel
theorem dX6_fits_0 : decode cX6_fits 0 = .ok (.aload_n 0, 1) := by decide +kernel
theorem dX6_fits_1 : decode cX6_fits 1 = .ok (.iload_n 1, 1) := by decide +kernel
theorem dX6_fits_2 : decode cX6_fits 2 = .ok (.invokevirtual 116, 3) := by decide +kernel
theorem dX6_fits_5 : decode cX6_fits 5 = .ok (.ifCond .ne 9, 3) := by decide +kernel
theorem dX6_fits_8 : decode cX6_fits 8 = .ok (.aload_n 0, 1) := by decide +kernel
theorem dX6_fits_9 : decode cX6_fits 9 = .ok (.iconst (-1), 1) := by decide +kernel
theorem dX6_fits_10 : decode cX6_fits 10 = .ok (.invokevirtual 79, 3) := by decide +kernel
theorem dX6_fits_13 : decode cX6_fits 13 = .ok (.ireturn, 1) := by decide +kernel
theorem dX6_fits_14 : decode cX6_fits 14 = .ok (.aload_n 0, 1) := by decide +kernel
theorem dX6_fits_15 : decode cX6_fits 15 = .ok (.getfield 19, 3) := by decide +kernel
theorem dX6_fits_18 : decode cX6_fits 18 = .ok (.iload_n 1, 1) := by decide +kernel
theorem dX6_fits_19 : decode cX6_fits 19 = .ok (.iaload, 1) := by decide +kernel
theorem dX6_fits_20 : decode cX6_fits 20 = .ok (.istore_n 2, 1) := by decide +kernel
theorem dX6_fits_21 : decode cX6_fits 21 = .ok (.iconst 0, 1) := by decide +kernel
theorem dX6_fits_22 : decode cX6_fits 22 = .ok (.istore_n 3, 1) := by decide +kernel
theorem dX6_fits_23 : decode cX6_fits 23 = .ok (.iconst 0, 1) := by decide +kernel
theorem dX6_fits_24 : decode cX6_fits 24 = .ok (.istore 4, 2) := by decide +kernel
theorem dX6_fits_26 : decode cX6_fits 26 = .ok (.iload 4, 2) := by decide +kernel
theorem dX6_fits_28 : decode cX6_fits 28 = .ok (.bipush 6, 2) := by decide +kernel
theorem dX6_fits_30 : decode cX6_fits 30 = .ok (.if_icmp .ge 35, 3) := by decide +kernel
theorem dX6_fits_33 : decode cX6_fits 33 = .ok (.aload_n 0, 1) := by decide +kernel
theorem dX6_fits_34 : decode cX6_fits 34 = .ok (.getfield 19, 3) := by decide +kernel
theorem dX6_fits_37 : decode cX6_fits 37 = .ok (.iload_n 1, 1) := by decide +kernel
theorem dX6_fits_38 : decode cX6_fits 38 = .ok (.iload 4, 2) := by decide +kernel
theorem dX6_fits_40 : decode cX6_fits 40 = .ok (.iastore, 1) := by decide +kernel
theorem dX6_fits_41 : decode cX6_fits 41 = .ok (.iload_n 3, 1) := by decide +kernel
theorem dX6_fits_42 : decode cX6_fits 42 = .ok (.aload_n 0, 1) := by decide +kernel
theorem dX6_fits_43 : decode cX6_fits 43 = .ok (.invokevirtual 252, 3) := by decide +kernel
theorem dX6_fits_46 : decode cX6_fits 46 = .ok (.ifCond .ge 10, 3) := by decide +kernel
theorem dX6_fits_49 : decode cX6_fits 49 = .ok (.iconst 1, 1) := by decide +kernel
theorem dX6_fits_50 : decode cX6_fits 50 = .ok (.iload 4, 2) := by decide +kernel
theorem dX6_fits_52 : decode cX6_fits 52 = .ok (.ishl, 1) := by decide +kernel
theorem dX6_fits_53 : decode cX6_fits 53 = .ok (.goto 4, 3) := by decide +kernel
theorem dX6_fits_56 : decode cX6_fits 56 = .ok (.iconst 0, 1) := by decide +kernel
theorem dX6_fits_57 : decode cX6_fits 57 = .ok (.ior, 1) := by decide +kernel
theorem dX6_fits_58 : decode cX6_fits 58 = .ok (.istore_n 3, 1) := by decide +kernel
theorem dX6_fits_59 : decode cX6_fits 59 = .ok (.iinc 4 1, 3) := by decide +kernel
theorem dX6_fits_62 : decode cX6_fits 62 = .ok (.goto (-36), 3) := by decide +kernel
theorem dX6_fits_65 : decode cX6_fits 65 = .ok (.aload_n 0, 1) := by decide +kernel
theorem dX6_fits_66 : decode cX6_fits 66 = .ok (.getfield 19, 3) := by decide +kernel
theorem dX6_fits_69 : decode cX6_fits 69 = .ok (.iload_n 1, 1) := by decide +kernel
theorem dX6_fits_70 : decode cX6_fits 70 = .ok (.iload_n 2, 1) := by decide +kernel
theorem dX6_fits_71 : decode cX6_fits 71 = .ok (.iastore, 1) := by decide +kernel
theorem dX6_fits_72 : decode cX6_fits 72 = .ok (.iload_n 3, 1) := by decide +kernel
theorem dX6_fits_73 : decode cX6_fits 73 = .ok (.ireturn, 1) := by decide +kernel
theorem dX6_givesAll_0 : decode cX6_givesAll 0 = .ok (.iconst 0, 1) := by decide +kernel
theorem dX6_givesAll_1 : decode cX6_givesAll 1 = .ok (.istore_n 1, 1) := by decide +kernel
theorem dX6_givesAll_2 : decode cX6_givesAll 2 = .ok (.iload_n 1, 1) := by decide +kernel
theorem dX6_givesAll_3 : decode cX6_givesAll 3 = .ok (.iconst 4, 1) := by decide +kernel
theorem dX6_givesAll_4 : decode cX6_givesAll 4 = .ok (.if_icmp .ge 16, 3) := by decide +kernel
theorem dX6_givesAll_7 : decode cX6_givesAll 7 = .ok (.aload_n 0, 1) := by decide +kernel
theorem dX6_givesAll_8 : decode cX6_givesAll 8 = .ok (.getfield 55, 3) := by decide +kernel
theorem dX6_givesAll_11 : decode cX6_givesAll 11 = .ok (.iload_n 1, 1) := by decide +kernel
theorem dX6_givesAll_12 : decode cX6_givesAll 12 = .ok (.iconst 0, 1) := by decide +kernel
theorem dX6_givesAll_13 : decode cX6_givesAll 13 = .ok (.iastore, 1) := by decide +kernel
theorem dX6_givesAll_14 : decode cX6_givesAll 14 = .ok (.iinc 1 1, 3) := by decide +kernel
theorem dX6_givesAll_17 : decode cX6_givesAll 17 = .ok (.goto (-15), 3) := by decide +kernel
theorem dX6_givesAll_20 : decode cX6_givesAll 20 = .ok (.iconst 0, 1) := by decide +kernel
theorem dX6_givesAll_21 : decode cX6_givesAll 21 = .ok (.istore_n 1, 1) := by decide +kernel
theorem dX6_givesAll_22 : decode cX6_givesAll 22 = .ok (.iload_n 1, 1) := by decide +kernel
theorem dX6_givesAll_23 : decode cX6_givesAll 23 = .ok (.aload_n 0, 1) := by decide +kernel
theorem dX6_givesAll_24 : decode cX6_givesAll 24 = .ok (.getfield 65, 3) := by decide +kernel
theorem dX6_givesAll_27 : decode cX6_givesAll 27 = .ok (.if_icmp .ge 28, 3) := by decide +kernel
theorem dX6_givesAll_30 : decode cX6_givesAll 30 = .ok (.aload_n 0, 1) := by decide +kernel
theorem dX6_givesAll_31 : decode cX6_givesAll 31 = .ok (.getfield 55, 3) := by decide +kernel
theorem dX6_givesAll_34 : decode cX6_givesAll 34 = .ok (.aload_n 0, 1) := by decide +kernel
theorem dX6_givesAll_35 : decode cX6_givesAll 35 = .ok (.getfield 52, 3) := by decide +kernel
theorem dX6_givesAll_38 : decode cX6_givesAll 38 = .ok (.iload_n 1, 1) := by decide +kernel
theorem dX6_givesAll_39 : decode cX6_givesAll 39 = .ok (.iaload, 1) := by decide +kernel
theorem dX6_givesAll_40 : decode cX6_givesAll 40 = .ok (.dup2, 1) := by decide +kernel
theorem dX6_givesAll_41 : decode cX6_givesAll 41 = .ok (.iaload, 1) := by decide +kernel
theorem dX6_givesAll_42 : decode cX6_givesAll 42 = .ok (.aload_n 0, 1) := by decide +kernel
theorem dX6_givesAll_43 : decode cX6_givesAll 43 = .ok (.iload_n 1, 1) := by decide +kernel
theorem dX6_givesAll_44 : decode cX6_givesAll 44 = .ok (.invokevirtual 169, 3) := by decide +kernel
theorem dX6_givesAll_47 : decode cX6_givesAll 47 = .ok (.iadd, 1) := by decide +kernel
theorem dX6_givesAll_48 : decode cX6_givesAll 48 = .ok (.iastore, 1) := by decide +kernel
theorem dX6_givesAll_49 : decode cX6_givesAll 49 = .ok (.iinc 1 1, 3) := by decide +kernel
theorem dX6_givesAll_52 : decode cX6_givesAll 52 = .ok (.goto (-30), 3) := by decide +kernel
theorem dX6_givesAll_55 : decode cX6_givesAll 55 = .ok (.return_, 1) := by decide +kernel
theorem dX6_goes_0 : decode cX6_goes 0 = .ok (.iconst 0, 1) := by decide +kernel
theorem dX6_goes_1 : decode cX6_goes 1 = .ok (.istore_n 2, 1) := by decide +kernel
theorem dX6_goes_2 : decode cX6_goes 2 = .ok (.iload_n 2, 1) := by decide +kernel
theorem dX6_goes_3 : decode cX6_goes 3 = .ok (.iload_n 1, 1) := by decide +kernel
theorem dX6_goes_4 : decode cX6_goes 4 = .ok (.if_icmp .ge 103, 3) := by decide +kernel
theorem dX6_goes_7 : decode cX6_goes 7 = .ok (.aload_n 0, 1) := by decide +kernel
theorem dX6_goes_8 : decode cX6_goes 8 = .ok (.dup, 1) := by decide +kernel
theorem dX6_goes_9 : decode cX6_goes 9 = .ok (.getfield 128, 3) := by decide +kernel
theorem dX6_goes_12 : decode cX6_goes 12 = .ok (.iconst 1, 1) := by decide +kernel
theorem dX6_goes_13 : decode cX6_goes 13 = .ok (.iadd, 1) := by decide +kernel
theorem dX6_goes_14 : decode cX6_goes 14 = .ok (.putfield 128, 3) := by decide +kernel
theorem dX6_goes_17 : decode cX6_goes 17 = .ok (.iconst 0, 1) := by decide +kernel
theorem dX6_goes_18 : decode cX6_goes 18 = .ok (.istore_n 3, 1) := by decide +kernel
theorem dX6_goes_19 : decode cX6_goes 19 = .ok (.iload_n 3, 1) := by decide +kernel
theorem dX6_goes_20 : decode cX6_goes 20 = .ok (.aload_n 0, 1) := by decide +kernel
theorem dX6_goes_21 : decode cX6_goes 21 = .ok (.getfield 65, 3) := by decide +kernel
theorem dX6_goes_24 : decode cX6_goes 24 = .ok (.if_icmp .ge 77, 3) := by decide +kernel
theorem dX6_goes_27 : decode cX6_goes 27 = .ok (.aload_n 0, 1) := by decide +kernel
theorem dX6_goes_28 : decode cX6_goes 28 = .ok (.getfield 28, 3) := by decide +kernel
theorem dX6_goes_31 : decode cX6_goes 31 = .ok (.iload_n 3, 1) := by decide +kernel
theorem dX6_goes_32 : decode cX6_goes 32 = .ok (.dup2, 1) := by decide +kernel
theorem dX6_goes_33 : decode cX6_goes 33 = .ok (.iaload, 1) := by decide +kernel
theorem dX6_goes_34 : decode cX6_goes 34 = .ok (.aload_n 0, 1) := by decide +kernel
theorem dX6_goes_35 : decode cX6_goes 35 = .ok (.getfield 28, 3) := by decide +kernel
theorem dX6_goes_38 : decode cX6_goes 38 = .ok (.iload_n 3, 1) := by decide +kernel
theorem dX6_goes_39 : decode cX6_goes 39 = .ok (.iaload, 1) := by decide +kernel
theorem dX6_goes_40 : decode cX6_goes 40 = .ok (.bipush 99, 2) := by decide +kernel
theorem dX6_goes_42 : decode cX6_goes 42 = .ok (.if_icmp .ge 7, 3) := by decide +kernel
theorem dX6_goes_45 : decode cX6_goes 45 = .ok (.iconst 1, 1) := by decide +kernel
theorem dX6_goes_46 : decode cX6_goes 46 = .ok (.goto 4, 3) := by decide +kernel
theorem dX6_goes_49 : decode cX6_goes 49 = .ok (.iconst 0, 1) := by decide +kernel
theorem dX6_goes_50 : decode cX6_goes 50 = .ok (.iadd, 1) := by decide +kernel
theorem dX6_goes_51 : decode cX6_goes 51 = .ok (.iastore, 1) := by decide +kernel
theorem dX6_goes_52 : decode cX6_goes 52 = .ok (.aload_n 0, 1) := by decide +kernel
theorem dX6_goes_53 : decode cX6_goes 53 = .ok (.getfield 25, 3) := by decide +kernel
theorem dX6_goes_56 : decode cX6_goes 56 = .ok (.iload_n 3, 1) := by decide +kernel
theorem dX6_goes_57 : decode cX6_goes 57 = .ok (.dup2, 1) := by decide +kernel
theorem dX6_goes_58 : decode cX6_goes 58 = .ok (.iaload, 1) := by decide +kernel
theorem dX6_goes_59 : decode cX6_goes 59 = .ok (.aload_n 0, 1) := by decide +kernel
theorem dX6_goes_60 : decode cX6_goes 60 = .ok (.getfield 128, 3) := by decide +kernel
theorem dX6_goes_63 : decode cX6_goes 63 = .ok (.bipush 10, 2) := by decide +kernel
theorem dX6_goes_65 : decode cX6_goes 65 = .ok (.irem, 1) := by decide +kernel
theorem dX6_goes_66 : decode cX6_goes 66 = .ok (.ifCond .ne 26, 3) := by decide +kernel
theorem dX6_goes_69 : decode cX6_goes 69 = .ok (.aload_n 0, 1) := by decide +kernel
theorem dX6_goes_70 : decode cX6_goes 70 = .ok (.getfield 19, 3) := by decide +kernel
theorem dX6_goes_73 : decode cX6_goes 73 = .ok (.iload_n 3, 1) := by decide +kernel
theorem dX6_goes_74 : decode cX6_goes 74 = .ok (.iaload, 1) := by decide +kernel
theorem dX6_goes_75 : decode cX6_goes 75 = .ok (.iconst 3, 1) := by decide +kernel
theorem dX6_goes_76 : decode cX6_goes 76 = .ok (.if_icmp .eq 16, 3) := by decide +kernel
theorem dX6_goes_79 : decode cX6_goes 79 = .ok (.aload_n 0, 1) := by decide +kernel
theorem dX6_goes_80 : decode cX6_goes 80 = .ok (.getfield 25, 3) := by decide +kernel
theorem dX6_goes_83 : decode cX6_goes 83 = .ok (.iload_n 3, 1) := by decide +kernel
theorem dX6_goes_84 : decode cX6_goes 84 = .ok (.iaload, 1) := by decide +kernel
theorem dX6_goes_85 : decode cX6_goes 85 = .ok (.ifCond .le 7, 3) := by decide +kernel
theorem dX6_goes_88 : decode cX6_goes 88 = .ok (.iconst 1, 1) := by decide +kernel
theorem dX6_goes_89 : decode cX6_goes 89 = .ok (.goto 4, 3) := by decide +kernel
theorem dX6_goes_92 : decode cX6_goes 92 = .ok (.iconst 0, 1) := by decide +kernel
theorem dX6_goes_93 : decode cX6_goes 93 = .ok (.isub, 1) := by decide +kernel
theorem dX6_goes_94 : decode cX6_goes 94 = .ok (.iastore, 1) := by decide +kernel
theorem dX6_goes_95 : decode cX6_goes 95 = .ok (.iinc 3 1, 3) := by decide +kernel
theorem dX6_goes_98 : decode cX6_goes 98 = .ok (.goto (-79), 3) := by decide +kernel
theorem dX6_goes_101 : decode cX6_goes 101 = .ok (.iinc 2 1, 3) := by decide +kernel
theorem dX6_goes_104 : decode cX6_goes 104 = .ok (.goto (-102), 3) := by decide +kernel
theorem dX6_goes_107 : decode cX6_goes 107 = .ok (.return_, 1) := by decide +kernel
theorem dX6_gone_0 : decode cX6_gone 0 = .ok (.iload_n 1, 1) := by decide +kernel
theorem dX6_gone_1 : decode cX6_gone 1 = .ok (.iconst 0, 1) := by decide +kernel
theorem dX6_gone_2 : decode cX6_gone 2 = .ok (.sipush 999, 3) := by decide +kernel
theorem dX6_gone_5 : decode cX6_gone 5 = .ok (.invokestatic 72, 3) := by decide +kernel
theorem dX6_gone_8 : decode cX6_gone 8 = .ok (.istore_n 2, 1) := by decide +kernel
theorem dX6_gone_9 : decode cX6_gone 9 = .ok (.iload_n 2, 1) := by decide +kernel
theorem dX6_gone_10 : decode cX6_gone 10 = .ok (.ifCond .eq 9, 3) := by decide +kernel
theorem dX6_gone_13 : decode cX6_gone 13 = .ok (.aload_n 0, 1) := by decide +kernel
theorem dX6_gone_14 : decode cX6_gone 14 = .ok (.iload_n 2, 1) := by decide +kernel
theorem dX6_gone_15 : decode cX6_gone 15 = .ok (.invokevirtual 79, 3) := by decide +kernel
theorem dX6_gone_18 : decode cX6_gone 18 = .ok (.ireturn, 1) := by decide +kernel
theorem dX6_gone_19 : decode cX6_gone 19 = .ok (.iconst 0, 1) := by decide +kernel
theorem dX6_gone_20 : decode cX6_gone 20 = .ok (.istore_n 3, 1) := by decide +kernel
theorem dX6_gone_21 : decode cX6_gone 21 = .ok (.iload_n 3, 1) := by decide +kernel
theorem dX6_gone_22 : decode cX6_gone 22 = .ok (.sipush 200, 3) := by decide +kernel
theorem dX6_gone_25 : decode cX6_gone 25 = .ok (.if_icmp .gt 20, 3) := by decide +kernel
theorem dX6_gone_28 : decode cX6_gone 28 = .ok (.aload_n 0, 1) := by decide +kernel
theorem dX6_gone_29 : decode cX6_gone 29 = .ok (.iload_n 3, 1) := by decide +kernel
theorem dX6_gone_30 : decode cX6_gone 30 = .ok (.invokevirtual 240, 3) := by decide +kernel
theorem dX6_gone_33 : decode cX6_gone 33 = .ok (.iload_n 1, 1) := by decide +kernel
theorem dX6_gone_34 : decode cX6_gone 34 = .ok (.if_icmp .gt 5, 3) := by decide +kernel
theorem dX6_gone_37 : decode cX6_gone 37 = .ok (.iload_n 3, 1) := by decide +kernel
theorem dX6_gone_38 : decode cX6_gone 38 = .ok (.ireturn, 1) := by decide +kernel
theorem dX6_gone_39 : decode cX6_gone 39 = .ok (.iinc 3 1, 3) := by decide +kernel
theorem dX6_gone_42 : decode cX6_gone 42 = .ok (.goto (-21), 3) := by decide +kernel
theorem dX6_gone_45 : decode cX6_gone 45 = .ok (.bipush (-9), 2) := by decide +kernel
theorem dX6_gone_47 : decode cX6_gone 47 = .ok (.ireturn, 1) := by decide +kernel
theorem dX6_guest_0 : decode cX6_guest 0 = .ok (.iload_n 1, 1) := by decide +kernel
theorem dX6_guest_1 : decode cX6_guest 1 = .ok (.invokestatic 119, 3) := by decide +kernel
theorem dX6_guest_4 : decode cX6_guest 4 = .ok (.ifCond .ne 9, 3) := by decide +kernel
theorem dX6_guest_7 : decode cX6_guest 7 = .ok (.aload_n 0, 1) := by decide +kernel
theorem dX6_guest_8 : decode cX6_guest 8 = .ok (.iconst (-1), 1) := by decide +kernel
theorem dX6_guest_9 : decode cX6_guest 9 = .ok (.invokevirtual 79, 3) := by decide +kernel
theorem dX6_guest_12 : decode cX6_guest 12 = .ok (.ireturn, 1) := by decide +kernel
theorem dX6_guest_13 : decode cX6_guest 13 = .ok (.bipush (-9), 2) := by decide +kernel
theorem dX6_guest_15 : decode cX6_guest 15 = .ok (.istore_n 2, 1) := by decide +kernel
theorem dX6_guest_16 : decode cX6_guest 16 = .ok (.iconst 0, 1) := by decide +kernel
theorem dX6_guest_17 : decode cX6_guest 17 = .ok (.istore_n 3, 1) := by decide +kernel
theorem dX6_guest_18 : decode cX6_guest 18 = .ok (.iload_n 3, 1) := by decide +kernel
theorem dX6_guest_19 : decode cX6_guest 19 = .ok (.aload_n 0, 1) := by decide +kernel
theorem dX6_guest_20 : decode cX6_guest 20 = .ok (.getfield 65, 3) := by decide +kernel
theorem dX6_guest_23 : decode cX6_guest 23 = .ok (.if_icmp .ge 38, 3) := by decide +kernel
theorem dX6_guest_26 : decode cX6_guest 26 = .ok (.aload_n 0, 1) := by decide +kernel
theorem dX6_guest_27 : decode cX6_guest 27 = .ok (.getfield 31, 3) := by decide +kernel
theorem dX6_guest_30 : decode cX6_guest 30 = .ok (.iload_n 3, 1) := by decide +kernel
theorem dX6_guest_31 : decode cX6_guest 31 = .ok (.iaload, 1) := by decide +kernel
theorem dX6_guest_32 : decode cX6_guest 32 = .ok (.iload_n 1, 1) := by decide +kernel
theorem dX6_guest_33 : decode cX6_guest 33 = .ok (.if_icmp .ne 22, 3) := by decide +kernel
theorem dX6_guest_36 : decode cX6_guest 36 = .ok (.iload_n 2, 1) := by decide +kernel
theorem dX6_guest_37 : decode cX6_guest 37 = .ok (.ifCond .lt 16, 3) := by decide +kernel
theorem dX6_guest_40 : decode cX6_guest 40 = .ok (.aload_n 0, 1) := by decide +kernel
theorem dX6_guest_41 : decode cX6_guest 41 = .ok (.iload_n 3, 1) := by decide +kernel
theorem dX6_guest_42 : decode cX6_guest 42 = .ok (.invokevirtual 169, 3) := by decide +kernel
theorem dX6_guest_45 : decode cX6_guest 45 = .ok (.aload_n 0, 1) := by decide +kernel
theorem dX6_guest_46 : decode cX6_guest 46 = .ok (.iload_n 2, 1) := by decide +kernel
theorem dX6_guest_47 : decode cX6_guest 47 = .ok (.invokevirtual 169, 3) := by decide +kernel
theorem dX6_guest_50 : decode cX6_guest 50 = .ok (.if_icmp .ge 5, 3) := by decide +kernel
theorem dX6_guest_53 : decode cX6_guest 53 = .ok (.iload_n 3, 1) := by decide +kernel
theorem dX6_guest_54 : decode cX6_guest 54 = .ok (.istore_n 2, 1) := by decide +kernel
theorem dX6_guest_55 : decode cX6_guest 55 = .ok (.iinc 3 1, 3) := by decide +kernel
theorem dX6_guest_58 : decode cX6_guest 58 = .ok (.goto (-40), 3) := by decide +kernel
theorem dX6_guest_61 : decode cX6_guest 61 = .ok (.iload_n 2, 1) := by decide +kernel
theorem dX6_guest_62 : decode cX6_guest 62 = .ok (.ireturn, 1) := by decide +kernel
theorem dX6_has_0 : decode cX6_has 0 = .ok (.iload_n 0, 1) := by decide +kernel
theorem dX6_has_1 : decode cX6_has 1 = .ok (.iload_n 1, 1) := by decide +kernel
theorem dX6_has_2 : decode cX6_has 2 = .ok (.ishr, 1) := by decide +kernel
theorem dX6_has_3 : decode cX6_has 3 = .ok (.iconst 1, 1) := by decide +kernel
theorem dX6_has_4 : decode cX6_has 4 = .ok (.iand, 1) := by decide +kernel
theorem dX6_has_5 : decode cX6_has 5 = .ok (.iconst 1, 1) := by decide +kernel
theorem dX6_has_6 : decode cX6_has 6 = .ok (.if_icmp .ne 7, 3) := by decide +kernel
theorem dX6_has_9 : decode cX6_has 9 = .ok (.iconst 1, 1) := by decide +kernel
theorem dX6_has_10 : decode cX6_has 10 = .ok (.goto 4, 3) := by decide +kernel
theorem dX6_has_13 : decode cX6_has 13 = .ok (.iconst 0, 1) := by decide +kernel
theorem dX6_has_14 : decode cX6_has 14 = .ok (.ireturn, 1) := by decide +kernel
theorem dX6_heavier_0 : decode cX6_heavier 0 = .ok (.bipush (-9), 2) := by decide +kernel
theorem dX6_heavier_2 : decode cX6_heavier 2 = .ok (.istore_n 1, 1) := by decide +kernel
theorem dX6_heavier_3 : decode cX6_heavier 3 = .ok (.bipush (-9), 2) := by decide +kernel
theorem dX6_heavier_5 : decode cX6_heavier 5 = .ok (.istore_n 2, 1) := by decide +kernel
theorem dX6_heavier_6 : decode cX6_heavier 6 = .ok (.iconst 0, 1) := by decide +kernel
theorem dX6_heavier_7 : decode cX6_heavier 7 = .ok (.istore_n 3, 1) := by decide +kernel
theorem dX6_heavier_8 : decode cX6_heavier 8 = .ok (.iload_n 3, 1) := by decide +kernel
theorem dX6_heavier_9 : decode cX6_heavier 9 = .ok (.aload_n 0, 1) := by decide +kernel
theorem dX6_heavier_10 : decode cX6_heavier 10 = .ok (.getfield 65, 3) := by decide +kernel
theorem dX6_heavier_13 : decode cX6_heavier 13 = .ok (.if_icmp .ge 56, 3) := by decide +kernel
theorem dX6_heavier_16 : decode cX6_heavier 16 = .ok (.aload_n 0, 1) := by decide +kernel
theorem dX6_heavier_17 : decode cX6_heavier 17 = .ok (.getfield 25, 3) := by decide +kernel
theorem dX6_heavier_20 : decode cX6_heavier 20 = .ok (.iload_n 3, 1) := by decide +kernel
theorem dX6_heavier_21 : decode cX6_heavier 21 = .ok (.iaload, 1) := by decide +kernel
theorem dX6_heavier_22 : decode cX6_heavier 22 = .ok (.bipush 9, 2) := by decide +kernel
theorem dX6_heavier_24 : decode cX6_heavier 24 = .ok (.if_icmp .eq 39, 3) := by decide +kernel
theorem dX6_heavier_27 : decode cX6_heavier 27 = .ok (.aload_n 0, 1) := by decide +kernel
theorem dX6_heavier_28 : decode cX6_heavier 28 = .ok (.iload_n 3, 1) := by decide +kernel
theorem dX6_heavier_29 : decode cX6_heavier 29 = .ok (.aload_n 0, 1) := by decide +kernel
theorem dX6_heavier_30 : decode cX6_heavier 30 = .ok (.getfield 25, 3) := by decide +kernel
theorem dX6_heavier_33 : decode cX6_heavier 33 = .ok (.iload_n 3, 1) := by decide +kernel
theorem dX6_heavier_34 : decode cX6_heavier 34 = .ok (.iaload, 1) := by decide +kernel
theorem dX6_heavier_35 : decode cX6_heavier 35 = .ok (.iconst 1, 1) := by decide +kernel
theorem dX6_heavier_36 : decode cX6_heavier 36 = .ok (.iadd, 1) := by decide +kernel
theorem dX6_heavier_37 : decode cX6_heavier 37 = .ok (.invokevirtual 237, 3) := by decide +kernel
theorem dX6_heavier_40 : decode cX6_heavier 40 = .ok (.iload_n 2, 1) := by decide +kernel
theorem dX6_heavier_41 : decode cX6_heavier 41 = .ok (.if_icmp .gt 6, 3) := by decide +kernel
theorem dX6_heavier_44 : decode cX6_heavier 44 = .ok (.goto 19, 3) := by decide +kernel
theorem dX6_heavier_47 : decode cX6_heavier 47 = .ok (.iload_n 3, 1) := by decide +kernel
theorem dX6_heavier_48 : decode cX6_heavier 48 = .ok (.istore_n 1, 1) := by decide +kernel
theorem dX6_heavier_49 : decode cX6_heavier 49 = .ok (.aload_n 0, 1) := by decide +kernel
theorem dX6_heavier_50 : decode cX6_heavier 50 = .ok (.iload_n 3, 1) := by decide +kernel
theorem dX6_heavier_51 : decode cX6_heavier 51 = .ok (.aload_n 0, 1) := by decide +kernel
theorem dX6_heavier_52 : decode cX6_heavier 52 = .ok (.getfield 25, 3) := by decide +kernel
theorem dX6_heavier_55 : decode cX6_heavier 55 = .ok (.iload_n 3, 1) := by decide +kernel
theorem dX6_heavier_56 : decode cX6_heavier 56 = .ok (.iaload, 1) := by decide +kernel
theorem dX6_heavier_57 : decode cX6_heavier 57 = .ok (.iconst 1, 1) := by decide +kernel
theorem dX6_heavier_58 : decode cX6_heavier 58 = .ok (.iadd, 1) := by decide +kernel
theorem dX6_heavier_59 : decode cX6_heavier 59 = .ok (.invokevirtual 237, 3) := by decide +kernel
theorem dX6_heavier_62 : decode cX6_heavier 62 = .ok (.istore_n 2, 1) := by decide +kernel
theorem dX6_heavier_63 : decode cX6_heavier 63 = .ok (.iinc 3 1, 3) := by decide +kernel
theorem dX6_heavier_66 : decode cX6_heavier 66 = .ok (.goto (-58), 3) := by decide +kernel
theorem dX6_heavier_69 : decode cX6_heavier 69 = .ok (.iload_n 1, 1) := by decide +kernel
theorem dX6_heavier_70 : decode cX6_heavier 70 = .ok (.ireturn, 1) := by decide +kernel
theorem dX6_heirs_0 : decode cX6_heirs 0 = .ok (.iload_n 1, 1) := by decide +kernel
theorem dX6_heirs_1 : decode cX6_heirs 1 = .ok (.iconst 2, 1) := by decide +kernel
theorem dX6_heirs_2 : decode cX6_heirs 2 = .ok (.iconst 4, 1) := by decide +kernel
theorem dX6_heirs_3 : decode cX6_heirs 3 = .ok (.invokestatic 72, 3) := by decide +kernel
theorem dX6_heirs_6 : decode cX6_heirs 6 = .ok (.istore_n 2, 1) := by decide +kernel
theorem dX6_heirs_7 : decode cX6_heirs 7 = .ok (.iload_n 2, 1) := by decide +kernel
theorem dX6_heirs_8 : decode cX6_heirs 8 = .ok (.ifCond .eq 9, 3) := by decide +kernel
theorem dX6_heirs_11 : decode cX6_heirs 11 = .ok (.aload_n 0, 1) := by decide +kernel
theorem dX6_heirs_12 : decode cX6_heirs 12 = .ok (.iload_n 2, 1) := by decide +kernel
theorem dX6_heirs_13 : decode cX6_heirs 13 = .ok (.invokevirtual 79, 3) := by decide +kernel
theorem dX6_heirs_16 : decode cX6_heirs 16 = .ok (.ireturn, 1) := by decide +kernel
theorem dX6_heirs_17 : decode cX6_heirs 17 = .ok (.aload_n 0, 1) := by decide +kernel
theorem dX6_heirs_18 : decode cX6_heirs 18 = .ok (.getfield 61, 3) := by decide +kernel
theorem dX6_heirs_21 : decode cX6_heirs 21 = .ok (.istore_n 3, 1) := by decide +kernel
theorem dX6_heirs_22 : decode cX6_heirs 22 = .ok (.aload_n 0, 1) := by decide +kernel
theorem dX6_heirs_23 : decode cX6_heirs 23 = .ok (.iload_n 1, 1) := by decide +kernel
theorem dX6_heirs_24 : decode cX6_heirs 24 = .ok (.putfield 61, 3) := by decide +kernel
theorem dX6_heirs_27 : decode cX6_heirs 27 = .ok (.iload_n 3, 1) := by decide +kernel
theorem dX6_heirs_28 : decode cX6_heirs 28 = .ok (.ireturn, 1) := by decide +kernel
theorem dX6_house_0 : decode cX6_house 0 = .ok (.aload_n 0, 1) := by decide +kernel
theorem dX6_house_1 : decode cX6_house 1 = .ok (.iconst 0, 1) := by decide +kernel
theorem dX6_house_2 : decode cX6_house 2 = .ok (.putfield 83, 3) := by decide +kernel
theorem dX6_house_5 : decode cX6_house 5 = .ok (.aload_n 0, 1) := by decide +kernel
theorem dX6_house_6 : decode cX6_house 6 = .ok (.iconst 0, 1) := by decide +kernel
theorem dX6_house_7 : decode cX6_house 7 = .ok (.putfield 107, 3) := by decide +kernel
theorem dX6_house_10 : decode cX6_house 10 = .ok (.iconst 1, 1) := by decide +kernel
theorem dX6_house_11 : decode cX6_house 11 = .ok (.istore_n 1, 1) := by decide +kernel
theorem dX6_house_12 : decode cX6_house 12 = .ok (.iload_n 1, 1) := by decide +kernel
theorem dX6_house_13 : decode cX6_house 13 = .ok (.ifCond .eq 47, 3) := by decide +kernel
theorem dX6_house_16 : decode cX6_house 16 = .ok (.aload_n 0, 1) := by decide +kernel
theorem dX6_house_17 : decode cX6_house 17 = .ok (.getfield 83, 3) := by decide +kernel
theorem dX6_house_20 : decode cX6_house 20 = .ok (.aload_n 0, 1) := by decide +kernel
theorem dX6_house_21 : decode cX6_house 21 = .ok (.getfield 76, 3) := by decide +kernel
theorem dX6_house_24 : decode cX6_house 24 = .ok (.if_icmp .lt 10, 3) := by decide +kernel
theorem dX6_house_27 : decode cX6_house 27 = .ok (.aload_n 0, 1) := by decide +kernel
theorem dX6_house_28 : decode cX6_house 28 = .ok (.getfield 107, 3) := by decide +kernel
theorem dX6_house_31 : decode cX6_house 31 = .ok (.ifCond .ne 29, 3) := by decide +kernel
theorem dX6_house_34 : decode cX6_house 34 = .ok (.aload_n 0, 1) := by decide +kernel
theorem dX6_house_35 : decode cX6_house 35 = .ok (.invokevirtual 135, 3) := by decide +kernel
theorem dX6_house_38 : decode cX6_house 38 = .ok (.istore_n 1, 1) := by decide +kernel
theorem dX6_house_39 : decode cX6_house 39 = .ok (.aload_n 0, 1) := by decide +kernel
theorem dX6_house_40 : decode cX6_house 40 = .ok (.dup, 1) := by decide +kernel
theorem dX6_house_41 : decode cX6_house 41 = .ok (.getfield 107, 3) := by decide +kernel
theorem dX6_house_44 : decode cX6_house 44 = .ok (.iload_n 1, 1) := by decide +kernel
theorem dX6_house_45 : decode cX6_house 45 = .ok (.ifCond .eq 7, 3) := by decide +kernel
theorem dX6_house_48 : decode cX6_house 48 = .ok (.iconst 1, 1) := by decide +kernel
theorem dX6_house_49 : decode cX6_house 49 = .ok (.goto 4, 3) := by decide +kernel
theorem dX6_house_52 : decode cX6_house 52 = .ok (.iconst 0, 1) := by decide +kernel
theorem dX6_house_53 : decode cX6_house 53 = .ok (.iadd, 1) := by decide +kernel
theorem dX6_house_54 : decode cX6_house 54 = .ok (.putfield 107, 3) := by decide +kernel
theorem dX6_house_57 : decode cX6_house 57 = .ok (.goto (-45), 3) := by decide +kernel
theorem dX6_house_60 : decode cX6_house 60 = .ok (.aload_n 0, 1) := by decide +kernel
theorem dX6_house_61 : decode cX6_house 61 = .ok (.iconst 0, 1) := by decide +kernel
theorem dX6_house_62 : decode cX6_house 62 = .ok (.putfield 76, 3) := by decide +kernel
theorem dX6_house_65 : decode cX6_house 65 = .ok (.iload_n 1, 1) := by decide +kernel
theorem dX6_house_66 : decode cX6_house 66 = .ok (.ifCond .ne 12, 3) := by decide +kernel
theorem dX6_house_69 : decode cX6_house 69 = .ok (.sipush (-1000), 3) := by decide +kernel
theorem dX6_house_72 : decode cX6_house 72 = .ok (.aload_n 0, 1) := by decide +kernel
theorem dX6_house_73 : decode cX6_house 73 = .ok (.getfield 83, 3) := by decide +kernel
theorem dX6_house_76 : decode cX6_house 76 = .ok (.isub, 1) := by decide +kernel
theorem dX6_house_77 : decode cX6_house 77 = .ok (.ireturn, 1) := by decide +kernel
theorem dX6_house_78 : decode cX6_house 78 = .ok (.aload_n 0, 1) := by decide +kernel
theorem dX6_house_79 : decode cX6_house 79 = .ok (.iconst 1, 1) := by decide +kernel
theorem dX6_house_80 : decode cX6_house 80 = .ok (.iconst 1, 1) := by decide +kernel
theorem dX6_house_81 : decode cX6_house 81 = .ok (.invokevirtual 139, 3) := by decide +kernel
theorem dX6_house_84 : decode cX6_house 84 = .ok (.iconst 0, 1) := by decide +kernel
theorem dX6_house_85 : decode cX6_house 85 = .ok (.istore_n 2, 1) := by decide +kernel
theorem dX6_house_86 : decode cX6_house 86 = .ok (.iload_n 2, 1) := by decide +kernel
theorem dX6_house_87 : decode cX6_house 87 = .ok (.aload_n 0, 1) := by decide +kernel
theorem dX6_house_88 : decode cX6_house 88 = .ok (.getfield 107, 3) := by decide +kernel
theorem dX6_house_91 : decode cX6_house 91 = .ok (.if_icmp .ge 37, 3) := by decide +kernel
theorem dX6_house_94 : decode cX6_house 94 = .ok (.aload_n 0, 1) := by decide +kernel
theorem dX6_house_95 : decode cX6_house 95 = .ok (.iload_n 2, 1) := by decide +kernel
theorem dX6_house_96 : decode cX6_house 96 = .ok (.invokevirtual 143, 3) := by decide +kernel
theorem dX6_house_99 : decode cX6_house 99 = .ok (.ifCond .eq 6, 3) := by decide +kernel
theorem dX6_house_102 : decode cX6_house 102 = .ok (.goto 20, 3) := by decide +kernel
theorem dX6_house_105 : decode cX6_house 105 = .ok (.aload_n 0, 1) := by decide +kernel
theorem dX6_house_106 : decode cX6_house 106 = .ok (.iconst 1, 1) := by decide +kernel
theorem dX6_house_107 : decode cX6_house 107 = .ok (.iconst 0, 1) := by decide +kernel
theorem dX6_house_108 : decode cX6_house 108 = .ok (.invokevirtual 139, 3) := by decide +kernel
theorem dX6_house_111 : decode cX6_house 111 = .ok (.sipush (-2000), 3) := by decide +kernel
theorem dX6_house_114 : decode cX6_house 114 = .ok (.aload_n 0, 1) := by decide +kernel
theorem dX6_house_115 : decode cX6_house 115 = .ok (.getfield 40, 3) := by decide +kernel
theorem dX6_house_118 : decode cX6_house 118 = .ok (.iload_n 2, 1) := by decide +kernel
theorem dX6_house_119 : decode cX6_house 119 = .ok (.iaload, 1) := by decide +kernel
theorem dX6_house_120 : decode cX6_house 120 = .ok (.isub, 1) := by decide +kernel
theorem dX6_house_121 : decode cX6_house 121 = .ok (.ireturn, 1) := by decide +kernel
theorem dX6_house_122 : decode cX6_house 122 = .ok (.iinc 2 1, 3) := by decide +kernel
theorem dX6_house_125 : decode cX6_house 125 = .ok (.goto (-39), 3) := by decide +kernel
theorem dX6_house_128 : decode cX6_house 128 = .ok (.aload_n 0, 1) := by decide +kernel
theorem dX6_house_129 : decode cX6_house 129 = .ok (.getfield 107, 3) := by decide +kernel
theorem dX6_house_132 : decode cX6_house 132 = .ok (.ireturn, 1) := by decide +kernel
theorem dX6_image_0 : decode cX6_image 0 = .ok (.aload_n 0, 1) := by decide +kernel
theorem dX6_image_1 : decode cX6_image 1 = .ok (.iconst 1, 1) := by decide +kernel
theorem dX6_image_2 : decode cX6_image 2 = .ok (.putfield 160, 3) := by decide +kernel
theorem dX6_image_5 : decode cX6_image 5 = .ok (.aload_n 0, 1) := by decide +kernel
theorem dX6_image_6 : decode cX6_image 6 = .ok (.iconst 0, 1) := by decide +kernel
theorem dX6_image_7 : decode cX6_image 7 = .ok (.iconst 1, 1) := by decide +kernel
theorem dX6_image_8 : decode cX6_image 8 = .ok (.invokevirtual 139, 3) := by decide +kernel
theorem dX6_image_11 : decode cX6_image 11 = .ok (.aload_n 0, 1) := by decide +kernel
theorem dX6_image_12 : decode cX6_image 12 = .ok (.getfield 128, 3) := by decide +kernel
theorem dX6_image_15 : decode cX6_image 15 = .ok (.ireturn, 1) := by decide +kernel
theorem dX6_init_0 : decode cX6_init 0 = .ok (.aload_n 0, 1) := by decide +kernel
theorem dX6_init_1 : decode cX6_init 1 = .ok (.invokespecial 1, 3) := by decide +kernel
theorem dX6_init_4 : decode cX6_init 4 = .ok (.aload_n 0, 1) := by decide +kernel
theorem dX6_init_5 : decode cX6_init 5 = .ok (.bipush 7, 2) := by decide +kernel
theorem dX6_init_7 : decode cX6_init 7 = .ok (.newarray .int, 2) := by decide +kernel
theorem dX6_init_9 : decode cX6_init 9 = .ok (.putfield 7, 3) := by decide +kernel
theorem dX6_init_12 : decode cX6_init 12 = .ok (.aload_n 0, 1) := by decide +kernel
theorem dX6_init_13 : decode cX6_init 13 = .ok (.bipush 6, 2) := by decide +kernel
theorem dX6_init_15 : decode cX6_init 15 = .ok (.newarray .int, 2) := by decide +kernel
theorem dX6_init_17 : decode cX6_init 17 = .ok (.putfield 13, 3) := by decide +kernel
theorem dX6_init_20 : decode cX6_init 20 = .ok (.aload_n 0, 1) := by decide +kernel
theorem dX6_init_21 : decode cX6_init 21 = .ok (.iconst 3, 1) := by decide +kernel
theorem dX6_init_22 : decode cX6_init 22 = .ok (.newarray .int, 2) := by decide +kernel
theorem dX6_init_24 : decode cX6_init 24 = .ok (.putfield 16, 3) := by decide +kernel
theorem dX6_init_27 : decode cX6_init 27 = .ok (.aload_n 0, 1) := by decide +kernel
theorem dX6_init_28 : decode cX6_init 28 = .ok (.bipush 7, 2) := by decide +kernel
theorem dX6_init_30 : decode cX6_init 30 = .ok (.newarray .int, 2) := by decide +kernel
theorem dX6_init_32 : decode cX6_init 32 = .ok (.putfield 19, 3) := by decide +kernel
theorem dX6_init_35 : decode cX6_init 35 = .ok (.aload_n 0, 1) := by decide +kernel
theorem dX6_init_36 : decode cX6_init 36 = .ok (.bipush 7, 2) := by decide +kernel
theorem dX6_init_38 : decode cX6_init 38 = .ok (.newarray .int, 2) := by decide +kernel
theorem dX6_init_40 : decode cX6_init 40 = .ok (.putfield 22, 3) := by decide +kernel
theorem dX6_init_43 : decode cX6_init 43 = .ok (.aload_n 0, 1) := by decide +kernel
theorem dX6_init_44 : decode cX6_init 44 = .ok (.bipush 7, 2) := by decide +kernel
theorem dX6_init_46 : decode cX6_init 46 = .ok (.newarray .int, 2) := by decide +kernel
theorem dX6_init_48 : decode cX6_init 48 = .ok (.putfield 25, 3) := by decide +kernel
theorem dX6_init_51 : decode cX6_init 51 = .ok (.aload_n 0, 1) := by decide +kernel
theorem dX6_init_52 : decode cX6_init 52 = .ok (.bipush 7, 2) := by decide +kernel
theorem dX6_init_54 : decode cX6_init 54 = .ok (.newarray .int, 2) := by decide +kernel
theorem dX6_init_56 : decode cX6_init 56 = .ok (.putfield 28, 3) := by decide +kernel
theorem dX6_init_59 : decode cX6_init 59 = .ok (.aload_n 0, 1) := by decide +kernel
theorem dX6_init_60 : decode cX6_init 60 = .ok (.bipush 7, 2) := by decide +kernel
theorem dX6_init_62 : decode cX6_init 62 = .ok (.newarray .int, 2) := by decide +kernel
theorem dX6_init_64 : decode cX6_init 64 = .ok (.putfield 31, 3) := by decide +kernel
theorem dX6_init_67 : decode cX6_init 67 = .ok (.aload_n 0, 1) := by decide +kernel
theorem dX6_init_68 : decode cX6_init 68 = .ok (.bipush 96, 2) := by decide +kernel
theorem dX6_init_70 : decode cX6_init 70 = .ok (.newarray .int, 2) := by decide +kernel
theorem dX6_init_72 : decode cX6_init 72 = .ok (.putfield 34, 3) := by decide +kernel
theorem dX6_init_75 : decode cX6_init 75 = .ok (.aload_n 0, 1) := by decide +kernel
theorem dX6_init_76 : decode cX6_init 76 = .ok (.bipush 48, 2) := by decide +kernel
theorem dX6_init_78 : decode cX6_init 78 = .ok (.newarray .int, 2) := by decide +kernel
theorem dX6_init_80 : decode cX6_init 80 = .ok (.putfield 37, 3) := by decide +kernel
theorem dX6_init_83 : decode cX6_init 83 = .ok (.aload_n 0, 1) := by decide +kernel
theorem dX6_init_84 : decode cX6_init 84 = .ok (.bipush 48, 2) := by decide +kernel
theorem dX6_init_86 : decode cX6_init 86 = .ok (.newarray .int, 2) := by decide +kernel
theorem dX6_init_88 : decode cX6_init 88 = .ok (.putfield 40, 3) := by decide +kernel
theorem dX6_init_91 : decode cX6_init 91 = .ok (.aload_n 0, 1) := by decide +kernel
theorem dX6_init_92 : decode cX6_init 92 = .ok (.sipush 192, 3) := by decide +kernel
theorem dX6_init_95 : decode cX6_init 95 = .ok (.newarray .int, 2) := by decide +kernel
theorem dX6_init_97 : decode cX6_init 97 = .ok (.putfield 43, 3) := by decide +kernel
theorem dX6_init_100 : decode cX6_init 100 = .ok (.aload_n 0, 1) := by decide +kernel
theorem dX6_init_101 : decode cX6_init 101 = .ok (.bipush 100, 2) := by decide +kernel
theorem dX6_init_103 : decode cX6_init 103 = .ok (.newarray .int, 2) := by decide +kernel
theorem dX6_init_105 : decode cX6_init 105 = .ok (.putfield 46, 3) := by decide +kernel
theorem dX6_init_108 : decode cX6_init 108 = .ok (.aload_n 0, 1) := by decide +kernel
theorem dX6_init_109 : decode cX6_init 109 = .ok (.bipush 7, 2) := by decide +kernel
theorem dX6_init_111 : decode cX6_init 111 = .ok (.newarray .int, 2) := by decide +kernel
theorem dX6_init_113 : decode cX6_init 113 = .ok (.putfield 49, 3) := by decide +kernel
theorem dX6_init_116 : decode cX6_init 116 = .ok (.aload_n 0, 1) := by decide +kernel
theorem dX6_init_117 : decode cX6_init 117 = .ok (.bipush 7, 2) := by decide +kernel
theorem dX6_init_119 : decode cX6_init 119 = .ok (.newarray .int, 2) := by decide +kernel
theorem dX6_init_121 : decode cX6_init 121 = .ok (.putfield 52, 3) := by decide +kernel
theorem dX6_init_124 : decode cX6_init 124 = .ok (.aload_n 0, 1) := by decide +kernel
theorem dX6_init_125 : decode cX6_init 125 = .ok (.iconst 4, 1) := by decide +kernel
theorem dX6_init_126 : decode cX6_init 126 = .ok (.newarray .int, 2) := by decide +kernel
theorem dX6_init_128 : decode cX6_init 128 = .ok (.putfield 55, 3) := by decide +kernel
theorem dX6_init_131 : decode cX6_init 131 = .ok (.aload_n 0, 1) := by decide +kernel
theorem dX6_init_132 : decode cX6_init 132 = .ok (.bipush 12, 2) := by decide +kernel
theorem dX6_init_134 : decode cX6_init 134 = .ok (.newarray .int, 2) := by decide +kernel
theorem dX6_init_136 : decode cX6_init 136 = .ok (.putfield 58, 3) := by decide +kernel
theorem dX6_init_139 : decode cX6_init 139 = .ok (.iconst 0, 1) := by decide +kernel
theorem dX6_init_140 : decode cX6_init 140 = .ok (.istore_n 1, 1) := by decide +kernel
theorem dX6_init_141 : decode cX6_init 141 = .ok (.iload_n 1, 1) := by decide +kernel
theorem dX6_init_142 : decode cX6_init 142 = .ok (.bipush 6, 2) := by decide +kernel
theorem dX6_init_144 : decode cX6_init 144 = .ok (.if_icmp .ge 17, 3) := by decide +kernel
theorem dX6_init_147 : decode cX6_init 147 = .ok (.aload_n 0, 1) := by decide +kernel
theorem dX6_init_148 : decode cX6_init 148 = .ok (.getfield 13, 3) := by decide +kernel
theorem dX6_init_151 : decode cX6_init 151 = .ok (.iload_n 1, 1) := by decide +kernel
theorem dX6_init_152 : decode cX6_init 152 = .ok (.bipush 9, 2) := by decide +kernel
theorem dX6_init_154 : decode cX6_init 154 = .ok (.iastore, 1) := by decide +kernel
theorem dX6_init_155 : decode cX6_init 155 = .ok (.iinc 1 1, 3) := by decide +kernel
theorem dX6_init_158 : decode cX6_init 158 = .ok (.goto (-17), 3) := by decide +kernel
theorem dX6_init_161 : decode cX6_init 161 = .ok (.aload_n 0, 1) := by decide +kernel
theorem dX6_init_162 : decode cX6_init 162 = .ok (.getfield 16, 3) := by decide +kernel
theorem dX6_init_165 : decode cX6_init 165 = .ok (.iconst 1, 1) := by decide +kernel
theorem dX6_init_166 : decode cX6_init 166 = .ok (.bipush 6, 2) := by decide +kernel
theorem dX6_init_168 : decode cX6_init 168 = .ok (.iastore, 1) := by decide +kernel
theorem dX6_init_169 : decode cX6_init 169 = .ok (.aload_n 0, 1) := by decide +kernel
theorem dX6_init_170 : decode cX6_init 170 = .ok (.getfield 16, 3) := by decide +kernel
theorem dX6_init_173 : decode cX6_init 173 = .ok (.iconst 2, 1) := by decide +kernel
theorem dX6_init_174 : decode cX6_init 174 = .ok (.bipush 6, 2) := by decide +kernel
theorem dX6_init_176 : decode cX6_init 176 = .ok (.iastore, 1) := by decide +kernel
theorem dX6_init_177 : decode cX6_init 177 = .ok (.aload_n 0, 1) := by decide +kernel
theorem dX6_init_178 : decode cX6_init 178 = .ok (.iconst 2, 1) := by decide +kernel
theorem dX6_init_179 : decode cX6_init 179 = .ok (.putfield 61, 3) := by decide +kernel
theorem dX6_init_182 : decode cX6_init 182 = .ok (.return_, 1) := by decide +kernel
theorem dX6_innocent_0 : decode cX6_innocent 0 = .ok (.aload_n 0, 1) := by decide +kernel
theorem dX6_innocent_1 : decode cX6_innocent 1 = .ok (.getfield 65, 3) := by decide +kernel
theorem dX6_innocent_4 : decode cX6_innocent 4 = .ok (.iconst 5, 1) := by decide +kernel
theorem dX6_innocent_5 : decode cX6_innocent 5 = .ok (.if_icmp .le 10, 3) := by decide +kernel
theorem dX6_innocent_8 : decode cX6_innocent 8 = .ok (.aload_n 0, 1) := by decide +kernel
theorem dX6_innocent_9 : decode cX6_innocent 9 = .ok (.bipush (-3), 2) := by decide +kernel
theorem dX6_innocent_11 : decode cX6_innocent 11 = .ok (.invokevirtual 79, 3) := by decide +kernel
theorem dX6_innocent_14 : decode cX6_innocent 14 = .ok (.ireturn, 1) := by decide +kernel
theorem dX6_innocent_15 : decode cX6_innocent 15 = .ok (.aload_n 0, 1) := by decide +kernel
theorem dX6_innocent_16 : decode cX6_innocent 16 = .ok (.bipush 63, 2) := by decide +kernel
theorem dX6_innocent_18 : decode cX6_innocent 18 = .ok (.iconst 1, 1) := by decide +kernel
theorem dX6_innocent_19 : decode cX6_innocent 19 = .ok (.invokevirtual 203, 3) := by decide +kernel
theorem dX6_innocent_22 : decode cX6_innocent 22 = .ok (.aload_n 0, 1) := by decide +kernel
theorem dX6_innocent_23 : decode cX6_innocent 23 = .ok (.getfield 187, 3) := by decide +kernel
theorem dX6_innocent_26 : decode cX6_innocent 26 = .ok (.ifCond .ge 8, 3) := by decide +kernel
theorem dX6_innocent_29 : decode cX6_innocent 29 = .ok (.bipush (-9), 2) := by decide +kernel
theorem dX6_innocent_31 : decode cX6_innocent 31 = .ok (.goto 10, 3) := by decide +kernel
theorem dX6_innocent_34 : decode cX6_innocent 34 = .ok (.bipush 6, 2) := by decide +kernel
theorem dX6_innocent_36 : decode cX6_innocent 36 = .ok (.aload_n 0, 1) := by decide +kernel
theorem dX6_innocent_37 : decode cX6_innocent 37 = .ok (.getfield 187, 3) := by decide +kernel
theorem dX6_innocent_40 : decode cX6_innocent 40 = .ok (.isub, 1) := by decide +kernel
theorem dX6_innocent_41 : decode cX6_innocent 41 = .ok (.ireturn, 1) := by decide +kernel
theorem dX6_isFloor_0 : decode cX6_isFloor 0 = .ok (.iload_n 0, 1) := by decide +kernel
theorem dX6_isFloor_1 : decode cX6_isFloor 1 = .ok (.iconst 1, 1) := by decide +kernel
theorem dX6_isFloor_2 : decode cX6_isFloor 2 = .ok (.if_icmp .eq 8, 3) := by decide +kernel
theorem dX6_isFloor_5 : decode cX6_isFloor 5 = .ok (.iload_n 0, 1) := by decide +kernel
theorem dX6_isFloor_6 : decode cX6_isFloor 6 = .ok (.iconst 2, 1) := by decide +kernel
theorem dX6_isFloor_7 : decode cX6_isFloor 7 = .ok (.if_icmp .ne 7, 3) := by decide +kernel
theorem dX6_isFloor_10 : decode cX6_isFloor 10 = .ok (.iconst 1, 1) := by decide +kernel
theorem dX6_isFloor_11 : decode cX6_isFloor 11 = .ok (.goto 4, 3) := by decide +kernel
theorem dX6_isFloor_14 : decode cX6_isFloor 14 = .ok (.iconst 0, 1) := by decide +kernel
theorem dX6_isFloor_15 : decode cX6_isFloor 15 = .ok (.ireturn, 1) := by decide +kernel
theorem dX6_isIn_0 : decode cX6_isIn 0 = .ok (.iload_n 0, 1) := by decide +kernel
theorem dX6_isIn_1 : decode cX6_isIn 1 = .ok (.iload_n 1, 1) := by decide +kernel
theorem dX6_isIn_2 : decode cX6_isIn 2 = .ok (.if_icmp .lt 12, 3) := by decide +kernel
theorem dX6_isIn_5 : decode cX6_isIn 5 = .ok (.iload_n 0, 1) := by decide +kernel
theorem dX6_isIn_6 : decode cX6_isIn 6 = .ok (.iload_n 2, 1) := by decide +kernel
theorem dX6_isIn_7 : decode cX6_isIn 7 = .ok (.if_icmp .gt 7, 3) := by decide +kernel
theorem dX6_isIn_10 : decode cX6_isIn 10 = .ok (.iconst 1, 1) := by decide +kernel
theorem dX6_isIn_11 : decode cX6_isIn 11 = .ok (.goto 4, 3) := by decide +kernel
theorem dX6_isIn_14 : decode cX6_isIn 14 = .ok (.iconst 0, 1) := by decide +kernel
theorem dX6_isIn_15 : decode cX6_isIn 15 = .ok (.ireturn, 1) := by decide +kernel
theorem dX6_isLetter_0 : decode cX6_isLetter 0 = .ok (.iload_n 0, 1) := by decide +kernel
theorem dX6_isLetter_1 : decode cX6_isLetter 1 = .ok (.bipush 105, 2) := by decide +kernel
theorem dX6_isLetter_3 : decode cX6_isLetter 3 = .ok (.if_icmp .eq 39, 3) := by decide +kernel
theorem dX6_isLetter_6 : decode cX6_isLetter 6 = .ok (.iload_n 0, 1) := by decide +kernel
theorem dX6_isLetter_7 : decode cX6_isLetter 7 = .ok (.bipush 109, 2) := by decide +kernel
theorem dX6_isLetter_9 : decode cX6_isLetter 9 = .ok (.if_icmp .eq 33, 3) := by decide +kernel
theorem dX6_isLetter_12 : decode cX6_isLetter 12 = .ok (.iload_n 0, 1) := by decide +kernel
theorem dX6_isLetter_13 : decode cX6_isLetter 13 = .ok (.bipush 115, 2) := by decide +kernel
theorem dX6_isLetter_15 : decode cX6_isLetter 15 = .ok (.if_icmp .eq 27, 3) := by decide +kernel
theorem dX6_isLetter_18 : decode cX6_isLetter 18 = .ok (.iload_n 0, 1) := by decide +kernel
theorem dX6_isLetter_19 : decode cX6_isLetter 19 = .ok (.bipush 114, 2) := by decide +kernel
theorem dX6_isLetter_21 : decode cX6_isLetter 21 = .ok (.if_icmp .eq 21, 3) := by decide +kernel
theorem dX6_isLetter_24 : decode cX6_isLetter 24 = .ok (.iload_n 0, 1) := by decide +kernel
theorem dX6_isLetter_25 : decode cX6_isLetter 25 = .ok (.bipush 121, 2) := by decide +kernel
theorem dX6_isLetter_27 : decode cX6_isLetter 27 = .ok (.if_icmp .eq 15, 3) := by decide +kernel
theorem dX6_isLetter_30 : decode cX6_isLetter 30 = .ok (.iload_n 0, 1) := by decide +kernel
theorem dX6_isLetter_31 : decode cX6_isLetter 31 = .ok (.bipush 104, 2) := by decide +kernel
theorem dX6_isLetter_33 : decode cX6_isLetter 33 = .ok (.if_icmp .eq 9, 3) := by decide +kernel
theorem dX6_isLetter_36 : decode cX6_isLetter 36 = .ok (.iload_n 0, 1) := by decide +kernel
theorem dX6_isLetter_37 : decode cX6_isLetter 37 = .ok (.bipush 112, 2) := by decide +kernel
theorem dX6_isLetter_39 : decode cX6_isLetter 39 = .ok (.if_icmp .ne 7, 3) := by decide +kernel
theorem dX6_isLetter_42 : decode cX6_isLetter 42 = .ok (.iconst 1, 1) := by decide +kernel
theorem dX6_isLetter_43 : decode cX6_isLetter 43 = .ok (.goto 4, 3) := by decide +kernel
theorem dX6_isLetter_46 : decode cX6_isLetter 46 = .ok (.iconst 0, 1) := by decide +kernel
theorem dX6_isLetter_47 : decode cX6_isLetter 47 = .ok (.ireturn, 1) := by decide +kernel
theorem dX6_isPiece_0 : decode cX6_isPiece 0 = .ok (.iload_n 1, 1) := by decide +kernel
theorem dX6_isPiece_1 : decode cX6_isPiece 1 = .ok (.ifCond .lt 15, 3) := by decide +kernel
theorem dX6_isPiece_4 : decode cX6_isPiece 4 = .ok (.iload_n 1, 1) := by decide +kernel
theorem dX6_isPiece_5 : decode cX6_isPiece 5 = .ok (.aload_n 0, 1) := by decide +kernel
theorem dX6_isPiece_6 : decode cX6_isPiece 6 = .ok (.getfield 65, 3) := by decide +kernel
theorem dX6_isPiece_9 : decode cX6_isPiece 9 = .ok (.if_icmp .ge 7, 3) := by decide +kernel
theorem dX6_isPiece_12 : decode cX6_isPiece 12 = .ok (.iconst 1, 1) := by decide +kernel
theorem dX6_isPiece_13 : decode cX6_isPiece 13 = .ok (.goto 4, 3) := by decide +kernel
theorem dX6_isPiece_16 : decode cX6_isPiece 16 = .ok (.iconst 0, 1) := by decide +kernel
theorem dX6_isPiece_17 : decode cX6_isPiece 17 = .ok (.ireturn, 1) := by decide +kernel
theorem dX6_isPlace_0 : decode cX6_isPlace 0 = .ok (.iload_n 0, 1) := by decide +kernel
theorem dX6_isPlace_1 : decode cX6_isPlace 1 = .ok (.invokestatic 68, 3) := by decide +kernel
theorem dX6_isPlace_4 : decode cX6_isPlace 4 = .ok (.ifCond .ne 9, 3) := by decide +kernel
theorem dX6_isPlace_7 : decode cX6_isPlace 7 = .ok (.iload_n 0, 1) := by decide +kernel
theorem dX6_isPlace_8 : decode cX6_isPlace 8 = .ok (.bipush 9, 2) := by decide +kernel
theorem dX6_isPlace_10 : decode cX6_isPlace 10 = .ok (.if_icmp .ne 7, 3) := by decide +kernel
theorem dX6_isPlace_13 : decode cX6_isPlace 13 = .ok (.iconst 1, 1) := by decide +kernel
theorem dX6_isPlace_14 : decode cX6_isPlace 14 = .ok (.goto 4, 3) := by decide +kernel
theorem dX6_isPlace_17 : decode cX6_isPlace 17 = .ok (.iconst 0, 1) := by decide +kernel
theorem dX6_isPlace_18 : decode cX6_isPlace 18 = .ok (.ireturn, 1) := by decide +kernel
theorem dX6_isPlaced_0 : decode cX6_isPlaced 0 = .ok (.iload_n 2, 1) := by decide +kernel
theorem dX6_isPlaced_1 : decode cX6_isPlaced 1 = .ok (.istore_n 3, 1) := by decide +kernel
theorem dX6_isPlaced_2 : decode cX6_isPlaced 2 = .ok (.aload_n 0, 1) := by decide +kernel
theorem dX6_isPlaced_3 : decode cX6_isPlaced 3 = .ok (.getfield 65, 3) := by decide +kernel
theorem dX6_isPlaced_6 : decode cX6_isPlaced 6 = .ok (.iconst 1, 1) := by decide +kernel
theorem dX6_isPlaced_7 : decode cX6_isPlaced 7 = .ok (.isub, 1) := by decide +kernel
theorem dX6_isPlaced_8 : decode cX6_isPlaced 8 = .ok (.istore 4, 2) := by decide +kernel
theorem dX6_isPlaced_10 : decode cX6_isPlaced 10 = .ok (.iload 4, 2) := by decide +kernel
theorem dX6_isPlaced_12 : decode cX6_isPlaced 12 = .ok (.ifCond .lt 25, 3) := by decide +kernel
theorem dX6_isPlaced_15 : decode cX6_isPlaced 15 = .ok (.aload_n 0, 1) := by decide +kernel
theorem dX6_isPlaced_16 : decode cX6_isPlaced 16 = .ok (.getfield 31, 3) := by decide +kernel
theorem dX6_isPlaced_19 : decode cX6_isPlaced 19 = .ok (.iload 4, 2) := by decide +kernel
theorem dX6_isPlaced_21 : decode cX6_isPlaced 21 = .ok (.iload_n 3, 1) := by decide +kernel
theorem dX6_isPlaced_22 : decode cX6_isPlaced 22 = .ok (.bipush 6, 2) := by decide +kernel
theorem dX6_isPlaced_24 : decode cX6_isPlaced 24 = .ok (.irem, 1) := by decide +kernel
theorem dX6_isPlaced_25 : decode cX6_isPlaced 25 = .ok (.iastore, 1) := by decide +kernel
theorem dX6_isPlaced_26 : decode cX6_isPlaced 26 = .ok (.iload_n 3, 1) := by decide +kernel
theorem dX6_isPlaced_27 : decode cX6_isPlaced 27 = .ok (.bipush 6, 2) := by decide +kernel
theorem dX6_isPlaced_29 : decode cX6_isPlaced 29 = .ok (.idiv, 1) := by decide +kernel
theorem dX6_isPlaced_30 : decode cX6_isPlaced 30 = .ok (.istore_n 3, 1) := by decide +kernel
theorem dX6_isPlaced_31 : decode cX6_isPlaced 31 = .ok (.iinc 4 (-1), 3) := by decide +kernel
theorem dX6_isPlaced_34 : decode cX6_isPlaced 34 = .ok (.goto (-24), 3) := by decide +kernel
theorem dX6_isPlaced_37 : decode cX6_isPlaced 37 = .ok (.iconst 0, 1) := by decide +kernel
theorem dX6_isPlaced_38 : decode cX6_isPlaced 38 = .ok (.istore 4, 2) := by decide +kernel
theorem dX6_isPlaced_40 : decode cX6_isPlaced 40 = .ok (.iload 4, 2) := by decide +kernel
theorem dX6_isPlaced_42 : decode cX6_isPlaced 42 = .ok (.aload_n 0, 1) := by decide +kernel
theorem dX6_isPlaced_43 : decode cX6_isPlaced 43 = .ok (.getfield 65, 3) := by decide +kernel
theorem dX6_isPlaced_46 : decode cX6_isPlaced 46 = .ok (.if_icmp .ge 25, 3) := by decide +kernel
theorem dX6_isPlaced_49 : decode cX6_isPlaced 49 = .ok (.iload_n 1, 1) := by decide +kernel
theorem dX6_isPlaced_50 : decode cX6_isPlaced 50 = .ok (.aload_n 0, 1) := by decide +kernel
theorem dX6_isPlaced_51 : decode cX6_isPlaced 51 = .ok (.getfield 31, 3) := by decide +kernel
theorem dX6_isPlaced_54 : decode cX6_isPlaced 54 = .ok (.iload 4, 2) := by decide +kernel
theorem dX6_isPlaced_56 : decode cX6_isPlaced 56 = .ok (.iaload, 1) := by decide +kernel
theorem dX6_isPlaced_57 : decode cX6_isPlaced 57 = .ok (.invokestatic 181, 3) := by decide +kernel
theorem dX6_isPlaced_60 : decode cX6_isPlaced 60 = .ok (.ifCond .ne 5, 3) := by decide +kernel
theorem dX6_isPlaced_63 : decode cX6_isPlaced 63 = .ok (.iconst 0, 1) := by decide +kernel
theorem dX6_isPlaced_64 : decode cX6_isPlaced 64 = .ok (.ireturn, 1) := by decide +kernel
theorem dX6_isPlaced_65 : decode cX6_isPlaced 65 = .ok (.iinc 4 1, 3) := by decide +kernel
theorem dX6_isPlaced_68 : decode cX6_isPlaced 68 = .ok (.goto (-28), 3) := by decide +kernel
theorem dX6_isPlaced_71 : decode cX6_isPlaced 71 = .ok (.iconst 0, 1) := by decide +kernel
theorem dX6_isPlaced_72 : decode cX6_isPlaced 72 = .ok (.istore 4, 2) := by decide +kernel
theorem dX6_isPlaced_74 : decode cX6_isPlaced 74 = .ok (.iload 4, 2) := by decide +kernel
theorem dX6_isPlaced_76 : decode cX6_isPlaced 76 = .ok (.bipush 6, 2) := by decide +kernel
theorem dX6_isPlaced_78 : decode cX6_isPlaced 78 = .ok (.if_icmp .ge 27, 3) := by decide +kernel
theorem dX6_isPlaced_81 : decode cX6_isPlaced 81 = .ok (.aload_n 0, 1) := by decide +kernel
theorem dX6_isPlaced_82 : decode cX6_isPlaced 82 = .ok (.iload 4, 2) := by decide +kernel
theorem dX6_isPlaced_84 : decode cX6_isPlaced 84 = .ok (.invokevirtual 125, 3) := by decide +kernel
theorem dX6_isPlaced_87 : decode cX6_isPlaced 87 = .ok (.aload_n 0, 1) := by decide +kernel
theorem dX6_isPlaced_88 : decode cX6_isPlaced 88 = .ok (.getfield 13, 3) := by decide +kernel
theorem dX6_isPlaced_91 : decode cX6_isPlaced 91 = .ok (.iload 4, 2) := by decide +kernel
theorem dX6_isPlaced_93 : decode cX6_isPlaced 93 = .ok (.iaload, 1) := by decide +kernel
theorem dX6_isPlaced_94 : decode cX6_isPlaced 94 = .ok (.if_icmp .le 5, 3) := by decide +kernel
theorem dX6_isPlaced_97 : decode cX6_isPlaced 97 = .ok (.iconst 0, 1) := by decide +kernel
theorem dX6_isPlaced_98 : decode cX6_isPlaced 98 = .ok (.ireturn, 1) := by decide +kernel
theorem dX6_isPlaced_99 : decode cX6_isPlaced 99 = .ok (.iinc 4 1, 3) := by decide +kernel
theorem dX6_isPlaced_102 : decode cX6_isPlaced 102 = .ok (.goto (-28), 3) := by decide +kernel
theorem dX6_isPlaced_105 : decode cX6_isPlaced 105 = .ok (.iconst 1, 1) := by decide +kernel
theorem dX6_isPlaced_106 : decode cX6_isPlaced 106 = .ok (.ireturn, 1) := by decide +kernel
theorem dX6_isRoom_0 : decode cX6_isRoom 0 = .ok (.iload_n 0, 1) := by decide +kernel
theorem dX6_isRoom_1 : decode cX6_isRoom 1 = .ok (.ifCond .lt 13, 3) := by decide +kernel
theorem dX6_isRoom_4 : decode cX6_isRoom 4 = .ok (.iload_n 0, 1) := by decide +kernel
theorem dX6_isRoom_5 : decode cX6_isRoom 5 = .ok (.bipush 6, 2) := by decide +kernel
theorem dX6_isRoom_7 : decode cX6_isRoom 7 = .ok (.if_icmp .ge 7, 3) := by decide +kernel
theorem dX6_isRoom_10 : decode cX6_isRoom 10 = .ok (.iconst 1, 1) := by decide +kernel
theorem dX6_isRoom_11 : decode cX6_isRoom 11 = .ok (.goto 4, 3) := by decide +kernel
theorem dX6_isRoom_14 : decode cX6_isRoom 14 = .ok (.iconst 0, 1) := by decide +kernel
theorem dX6_isRoom_15 : decode cX6_isRoom 15 = .ok (.ireturn, 1) := by decide +kernel
theorem dX6_judge_0 : decode cX6_judge 0 = .ok (.aload_n 0, 1) := by decide +kernel
theorem dX6_judge_1 : decode cX6_judge 1 = .ok (.invokevirtual 252, 3) := by decide +kernel
theorem dX6_judge_4 : decode cX6_judge 4 = .ok (.istore_n 1, 1) := by decide +kernel
theorem dX6_judge_5 : decode cX6_judge 5 = .ok (.aload_n 0, 1) := by decide +kernel
theorem dX6_judge_6 : decode cX6_judge 6 = .ok (.iconst 0, 1) := by decide +kernel
theorem dX6_judge_7 : decode cX6_judge 7 = .ok (.putfield 249, 3) := by decide +kernel
theorem dX6_judge_10 : decode cX6_judge 10 = .ok (.iload_n 1, 1) := by decide +kernel
theorem dX6_judge_11 : decode cX6_judge 11 = .ok (.ireturn, 1) := by decide +kernel
theorem dX6_kindOf_0 : decode cX6_kindOf 0 = .ok (.iload_n 0, 1) := by decide +kernel
theorem dX6_kindOf_1 : decode cX6_kindOf 1 = .ok (.lookupswitch 71 #[(99, 65), (112, 59), (115, 61), (116, 69), (118, 63), (119, 67)], 59) := by decide +kernel
theorem dX6_kindOf_60 : decode cX6_kindOf 60 = .ok (.iconst 0, 1) := by decide +kernel
theorem dX6_kindOf_61 : decode cX6_kindOf 61 = .ok (.ireturn, 1) := by decide +kernel
theorem dX6_kindOf_62 : decode cX6_kindOf 62 = .ok (.iconst 1, 1) := by decide +kernel
theorem dX6_kindOf_63 : decode cX6_kindOf 63 = .ok (.ireturn, 1) := by decide +kernel
theorem dX6_kindOf_64 : decode cX6_kindOf 64 = .ok (.iconst 2, 1) := by decide +kernel
theorem dX6_kindOf_65 : decode cX6_kindOf 65 = .ok (.ireturn, 1) := by decide +kernel
theorem dX6_kindOf_66 : decode cX6_kindOf 66 = .ok (.iconst 3, 1) := by decide +kernel
theorem dX6_kindOf_67 : decode cX6_kindOf 67 = .ok (.ireturn, 1) := by decide +kernel
theorem dX6_kindOf_68 : decode cX6_kindOf 68 = .ok (.iconst 4, 1) := by decide +kernel
theorem dX6_kindOf_69 : decode cX6_kindOf 69 = .ok (.ireturn, 1) := by decide +kernel
theorem dX6_kindOf_70 : decode cX6_kindOf 70 = .ok (.iconst 5, 1) := by decide +kernel
theorem dX6_kindOf_71 : decode cX6_kindOf 71 = .ok (.ireturn, 1) := by decide +kernel
theorem dX6_kindOf_72 : decode cX6_kindOf 72 = .ok (.iconst (-1), 1) := by decide +kernel
theorem dX6_kindOf_73 : decode cX6_kindOf 73 = .ok (.ireturn, 1) := by decide +kernel
theorem dX6_later_0 : decode cX6_later 0 = .ok (.iload_n 1, 1) := by decide +kernel
theorem dX6_later_1 : decode cX6_later 1 = .ok (.iconst 0, 1) := by decide +kernel
theorem dX6_later_2 : decode cX6_later 2 = .ok (.sipush 200, 3) := by decide +kernel
theorem dX6_later_5 : decode cX6_later 5 = .ok (.invokestatic 72, 3) := by decide +kernel
theorem dX6_later_8 : decode cX6_later 8 = .ok (.istore_n 2, 1) := by decide +kernel
theorem dX6_later_9 : decode cX6_later 9 = .ok (.iload_n 2, 1) := by decide +kernel
theorem dX6_later_10 : decode cX6_later 10 = .ok (.ifCond .eq 11, 3) := by decide +kernel
theorem dX6_later_13 : decode cX6_later 13 = .ok (.aload_n 0, 1) := by decide +kernel
theorem dX6_later_14 : decode cX6_later 14 = .ok (.iload_n 2, 1) := by decide +kernel
theorem dX6_later_15 : decode cX6_later 15 = .ok (.invokevirtual 79, 3) := by decide +kernel
theorem dX6_later_18 : decode cX6_later 18 = .ok (.goto 8, 3) := by decide +kernel
theorem dX6_later_21 : decode cX6_later 21 = .ok (.aload_n 0, 1) := by decide +kernel
theorem dX6_later_22 : decode cX6_later 22 = .ok (.iload_n 1, 1) := by decide +kernel
theorem dX6_later_23 : decode cX6_later 23 = .ok (.invokevirtual 240, 3) := by decide +kernel
theorem dX6_later_26 : decode cX6_later 26 = .ok (.ireturn, 1) := by decide +kernel
theorem dX6_leaves_0 : decode cX6_leaves 0 = .ok (.aload_n 0, 1) := by decide +kernel
theorem dX6_leaves_1 : decode cX6_leaves 1 = .ok (.dup, 1) := by decide +kernel
theorem dX6_leaves_2 : decode cX6_leaves 2 = .ok (.getfield 65, 3) := by decide +kernel
theorem dX6_leaves_5 : decode cX6_leaves 5 = .ok (.iconst 1, 1) := by decide +kernel
theorem dX6_leaves_6 : decode cX6_leaves 6 = .ok (.isub, 1) := by decide +kernel
theorem dX6_leaves_7 : decode cX6_leaves 7 = .ok (.putfield 65, 3) := by decide +kernel
theorem dX6_leaves_10 : decode cX6_leaves 10 = .ok (.iload_n 1, 1) := by decide +kernel
theorem dX6_leaves_11 : decode cX6_leaves 11 = .ok (.istore_n 2, 1) := by decide +kernel
theorem dX6_leaves_12 : decode cX6_leaves 12 = .ok (.iload_n 2, 1) := by decide +kernel
theorem dX6_leaves_13 : decode cX6_leaves 13 = .ok (.aload_n 0, 1) := by decide +kernel
theorem dX6_leaves_14 : decode cX6_leaves 14 = .ok (.getfield 65, 3) := by decide +kernel
theorem dX6_leaves_17 : decode cX6_leaves 17 = .ok (.if_icmp .ge 79, 3) := by decide +kernel
theorem dX6_leaves_20 : decode cX6_leaves 20 = .ok (.aload_n 0, 1) := by decide +kernel
theorem dX6_leaves_21 : decode cX6_leaves 21 = .ok (.getfield 19, 3) := by decide +kernel
theorem dX6_leaves_24 : decode cX6_leaves 24 = .ok (.iload_n 2, 1) := by decide +kernel
theorem dX6_leaves_25 : decode cX6_leaves 25 = .ok (.aload_n 0, 1) := by decide +kernel
theorem dX6_leaves_26 : decode cX6_leaves 26 = .ok (.getfield 19, 3) := by decide +kernel
theorem dX6_leaves_29 : decode cX6_leaves 29 = .ok (.iload_n 2, 1) := by decide +kernel
theorem dX6_leaves_30 : decode cX6_leaves 30 = .ok (.iconst 1, 1) := by decide +kernel
theorem dX6_leaves_31 : decode cX6_leaves 31 = .ok (.iadd, 1) := by decide +kernel
theorem dX6_leaves_32 : decode cX6_leaves 32 = .ok (.iaload, 1) := by decide +kernel
theorem dX6_leaves_33 : decode cX6_leaves 33 = .ok (.iastore, 1) := by decide +kernel
theorem dX6_leaves_34 : decode cX6_leaves 34 = .ok (.aload_n 0, 1) := by decide +kernel
theorem dX6_leaves_35 : decode cX6_leaves 35 = .ok (.getfield 22, 3) := by decide +kernel
theorem dX6_leaves_38 : decode cX6_leaves 38 = .ok (.iload_n 2, 1) := by decide +kernel
theorem dX6_leaves_39 : decode cX6_leaves 39 = .ok (.aload_n 0, 1) := by decide +kernel
theorem dX6_leaves_40 : decode cX6_leaves 40 = .ok (.getfield 22, 3) := by decide +kernel
theorem dX6_leaves_43 : decode cX6_leaves 43 = .ok (.iload_n 2, 1) := by decide +kernel
theorem dX6_leaves_44 : decode cX6_leaves 44 = .ok (.iconst 1, 1) := by decide +kernel
theorem dX6_leaves_45 : decode cX6_leaves 45 = .ok (.iadd, 1) := by decide +kernel
theorem dX6_leaves_46 : decode cX6_leaves 46 = .ok (.iaload, 1) := by decide +kernel
theorem dX6_leaves_47 : decode cX6_leaves 47 = .ok (.iastore, 1) := by decide +kernel
theorem dX6_leaves_48 : decode cX6_leaves 48 = .ok (.aload_n 0, 1) := by decide +kernel
theorem dX6_leaves_49 : decode cX6_leaves 49 = .ok (.getfield 25, 3) := by decide +kernel
theorem dX6_leaves_52 : decode cX6_leaves 52 = .ok (.iload_n 2, 1) := by decide +kernel
theorem dX6_leaves_53 : decode cX6_leaves 53 = .ok (.aload_n 0, 1) := by decide +kernel
theorem dX6_leaves_54 : decode cX6_leaves 54 = .ok (.getfield 25, 3) := by decide +kernel
theorem dX6_leaves_57 : decode cX6_leaves 57 = .ok (.iload_n 2, 1) := by decide +kernel
theorem dX6_leaves_58 : decode cX6_leaves 58 = .ok (.iconst 1, 1) := by decide +kernel
theorem dX6_leaves_59 : decode cX6_leaves 59 = .ok (.iadd, 1) := by decide +kernel
theorem dX6_leaves_60 : decode cX6_leaves 60 = .ok (.iaload, 1) := by decide +kernel
theorem dX6_leaves_61 : decode cX6_leaves 61 = .ok (.iastore, 1) := by decide +kernel
theorem dX6_leaves_62 : decode cX6_leaves 62 = .ok (.aload_n 0, 1) := by decide +kernel
theorem dX6_leaves_63 : decode cX6_leaves 63 = .ok (.getfield 28, 3) := by decide +kernel
theorem dX6_leaves_66 : decode cX6_leaves 66 = .ok (.iload_n 2, 1) := by decide +kernel
theorem dX6_leaves_67 : decode cX6_leaves 67 = .ok (.aload_n 0, 1) := by decide +kernel
theorem dX6_leaves_68 : decode cX6_leaves 68 = .ok (.getfield 28, 3) := by decide +kernel
theorem dX6_leaves_71 : decode cX6_leaves 71 = .ok (.iload_n 2, 1) := by decide +kernel
theorem dX6_leaves_72 : decode cX6_leaves 72 = .ok (.iconst 1, 1) := by decide +kernel
theorem dX6_leaves_73 : decode cX6_leaves 73 = .ok (.iadd, 1) := by decide +kernel
theorem dX6_leaves_74 : decode cX6_leaves 74 = .ok (.iaload, 1) := by decide +kernel
theorem dX6_leaves_75 : decode cX6_leaves 75 = .ok (.iastore, 1) := by decide +kernel
theorem dX6_leaves_76 : decode cX6_leaves 76 = .ok (.aload_n 0, 1) := by decide +kernel
theorem dX6_leaves_77 : decode cX6_leaves 77 = .ok (.getfield 31, 3) := by decide +kernel
theorem dX6_leaves_80 : decode cX6_leaves 80 = .ok (.iload_n 2, 1) := by decide +kernel
theorem dX6_leaves_81 : decode cX6_leaves 81 = .ok (.aload_n 0, 1) := by decide +kernel
theorem dX6_leaves_82 : decode cX6_leaves 82 = .ok (.getfield 31, 3) := by decide +kernel
theorem dX6_leaves_85 : decode cX6_leaves 85 = .ok (.iload_n 2, 1) := by decide +kernel
theorem dX6_leaves_86 : decode cX6_leaves 86 = .ok (.iconst 1, 1) := by decide +kernel
theorem dX6_leaves_87 : decode cX6_leaves 87 = .ok (.iadd, 1) := by decide +kernel
theorem dX6_leaves_88 : decode cX6_leaves 88 = .ok (.iaload, 1) := by decide +kernel
theorem dX6_leaves_89 : decode cX6_leaves 89 = .ok (.iastore, 1) := by decide +kernel
theorem dX6_leaves_90 : decode cX6_leaves 90 = .ok (.iinc 2 1, 3) := by decide +kernel
theorem dX6_leaves_93 : decode cX6_leaves 93 = .ok (.goto (-81), 3) := by decide +kernel
theorem dX6_leaves_96 : decode cX6_leaves 96 = .ok (.return_, 1) := by decide +kernel
theorem dX6_letter_0 : decode cX6_letter 0 = .ok (.iload_n 1, 1) := by decide +kernel
theorem dX6_letter_1 : decode cX6_letter 1 = .ok (.iconst 0, 1) := by decide +kernel
theorem dX6_letter_2 : decode cX6_letter 2 = .ok (.sipush 255, 3) := by decide +kernel
theorem dX6_letter_5 : decode cX6_letter 5 = .ok (.invokestatic 72, 3) := by decide +kernel
theorem dX6_letter_8 : decode cX6_letter 8 = .ok (.istore_n 2, 1) := by decide +kernel
theorem dX6_letter_9 : decode cX6_letter 9 = .ok (.iload_n 2, 1) := by decide +kernel
theorem dX6_letter_10 : decode cX6_letter 10 = .ok (.ifCond .ne 15, 3) := by decide +kernel
theorem dX6_letter_13 : decode cX6_letter 13 = .ok (.aload_n 0, 1) := by decide +kernel
theorem dX6_letter_14 : decode cX6_letter 14 = .ok (.getfield 76, 3) := by decide +kernel
theorem dX6_letter_17 : decode cX6_letter 17 = .ok (.bipush 96, 2) := by decide +kernel
theorem dX6_letter_19 : decode cX6_letter 19 = .ok (.if_icmp .ne 6, 3) := by decide +kernel
theorem dX6_letter_22 : decode cX6_letter 22 = .ok (.bipush (-6), 2) := by decide +kernel
theorem dX6_letter_24 : decode cX6_letter 24 = .ok (.istore_n 2, 1) := by decide +kernel
theorem dX6_letter_25 : decode cX6_letter 25 = .ok (.iload_n 2, 1) := by decide +kernel
theorem dX6_letter_26 : decode cX6_letter 26 = .ok (.ifCond .eq 9, 3) := by decide +kernel
theorem dX6_letter_29 : decode cX6_letter 29 = .ok (.aload_n 0, 1) := by decide +kernel
theorem dX6_letter_30 : decode cX6_letter 30 = .ok (.iload_n 2, 1) := by decide +kernel
theorem dX6_letter_31 : decode cX6_letter 31 = .ok (.invokevirtual 79, 3) := by decide +kernel
theorem dX6_letter_34 : decode cX6_letter 34 = .ok (.ireturn, 1) := by decide +kernel
theorem dX6_letter_35 : decode cX6_letter 35 = .ok (.aload_n 0, 1) := by decide +kernel
theorem dX6_letter_36 : decode cX6_letter 36 = .ok (.getfield 34, 3) := by decide +kernel
theorem dX6_letter_39 : decode cX6_letter 39 = .ok (.aload_n 0, 1) := by decide +kernel
theorem dX6_letter_40 : decode cX6_letter 40 = .ok (.getfield 76, 3) := by decide +kernel
theorem dX6_letter_43 : decode cX6_letter 43 = .ok (.iload_n 1, 1) := by decide +kernel
theorem dX6_letter_44 : decode cX6_letter 44 = .ok (.iastore, 1) := by decide +kernel
theorem dX6_letter_45 : decode cX6_letter 45 = .ok (.aload_n 0, 1) := by decide +kernel
theorem dX6_letter_46 : decode cX6_letter 46 = .ok (.dup, 1) := by decide +kernel
theorem dX6_letter_47 : decode cX6_letter 47 = .ok (.getfield 76, 3) := by decide +kernel
theorem dX6_letter_50 : decode cX6_letter 50 = .ok (.iconst 1, 1) := by decide +kernel
theorem dX6_letter_51 : decode cX6_letter 51 = .ok (.iadd, 1) := by decide +kernel
theorem dX6_letter_52 : decode cX6_letter 52 = .ok (.putfield 76, 3) := by decide +kernel
theorem dX6_letter_55 : decode cX6_letter 55 = .ok (.aload_n 0, 1) := by decide +kernel
theorem dX6_letter_56 : decode cX6_letter 56 = .ok (.getfield 76, 3) := by decide +kernel
theorem dX6_letter_59 : decode cX6_letter 59 = .ok (.ireturn, 1) := by decide +kernel
theorem dX6_lots_0 : decode cX6_lots 0 = .ok (.iload_n 1, 1) := by decide +kernel
theorem dX6_lots_1 : decode cX6_lots 1 = .ok (.iconst 1, 1) := by decide +kernel
theorem dX6_lots_2 : decode cX6_lots 2 = .ok (.bipush 20, 2) := by decide +kernel
theorem dX6_lots_4 : decode cX6_lots 4 = .ok (.invokestatic 72, 3) := by decide +kernel
theorem dX6_lots_7 : decode cX6_lots 7 = .ok (.istore_n 3, 1) := by decide +kernel
theorem dX6_lots_8 : decode cX6_lots 8 = .ok (.iload_n 3, 1) := by decide +kernel
theorem dX6_lots_9 : decode cX6_lots 9 = .ok (.ifCond .eq 9, 3) := by decide +kernel
theorem dX6_lots_12 : decode cX6_lots 12 = .ok (.aload_n 0, 1) := by decide +kernel
theorem dX6_lots_13 : decode cX6_lots 13 = .ok (.iload_n 3, 1) := by decide +kernel
theorem dX6_lots_14 : decode cX6_lots 14 = .ok (.invokevirtual 79, 3) := by decide +kernel
theorem dX6_lots_17 : decode cX6_lots 17 = .ok (.ireturn, 1) := by decide +kernel
theorem dX6_lots_18 : decode cX6_lots 18 = .ok (.aload_n 0, 1) := by decide +kernel
theorem dX6_lots_19 : decode cX6_lots 19 = .ok (.iconst 1, 1) := by decide +kernel
theorem dX6_lots_20 : decode cX6_lots 20 = .ok (.iconst 1, 1) := by decide +kernel
theorem dX6_lots_21 : decode cX6_lots 21 = .ok (.invokevirtual 139, 3) := by decide +kernel
theorem dX6_lots_24 : decode cX6_lots 24 = .ok (.iload_n 2, 1) := by decide +kernel
theorem dX6_lots_25 : decode cX6_lots 25 = .ok (.istore 4, 2) := by decide +kernel
theorem dX6_lots_27 : decode cX6_lots 27 = .ok (.iconst 0, 1) := by decide +kernel
theorem dX6_lots_28 : decode cX6_lots 28 = .ok (.istore 5, 2) := by decide +kernel
theorem dX6_lots_30 : decode cX6_lots 30 = .ok (.iconst 0, 1) := by decide +kernel
theorem dX6_lots_31 : decode cX6_lots 31 = .ok (.istore 6, 2) := by decide +kernel
theorem dX6_lots_33 : decode cX6_lots 33 = .ok (.iload 6, 2) := by decide +kernel
theorem dX6_lots_35 : decode cX6_lots 35 = .ok (.iload_n 1, 1) := by decide +kernel
theorem dX6_lots_36 : decode cX6_lots 36 = .ok (.if_icmp .ge 71, 3) := by decide +kernel
theorem dX6_lots_39 : decode cX6_lots 39 = .ok (.iconst 0, 1) := by decide +kernel
theorem dX6_lots_40 : decode cX6_lots 40 = .ok (.istore 7, 2) := by decide +kernel
theorem dX6_lots_42 : decode cX6_lots 42 = .ok (.iload 7, 2) := by decide +kernel
theorem dX6_lots_44 : decode cX6_lots 44 = .ok (.aload_n 0, 1) := by decide +kernel
theorem dX6_lots_45 : decode cX6_lots 45 = .ok (.getfield 65, 3) := by decide +kernel
theorem dX6_lots_48 : decode cX6_lots 48 = .ok (.if_icmp .ge 40, 3) := by decide +kernel
theorem dX6_lots_51 : decode cX6_lots 51 = .ok (.iload 4, 2) := by decide +kernel
theorem dX6_lots_53 : decode cX6_lots 53 = .ok (.ldc 255, 2) := by decide +kernel
theorem dX6_lots_55 : decode cX6_lots 55 = .ok (.imul, 1) := by decide +kernel
theorem dX6_lots_56 : decode cX6_lots 56 = .ok (.ldc_w 256, 3) := by decide +kernel
theorem dX6_lots_59 : decode cX6_lots 59 = .ok (.iadd, 1) := by decide +kernel
theorem dX6_lots_60 : decode cX6_lots 60 = .ok (.istore 4, 2) := by decide +kernel
theorem dX6_lots_62 : decode cX6_lots 62 = .ok (.aload_n 0, 1) := by decide +kernel
theorem dX6_lots_63 : decode cX6_lots 63 = .ok (.getfield 31, 3) := by decide +kernel
theorem dX6_lots_66 : decode cX6_lots 66 = .ok (.iload 7, 2) := by decide +kernel
theorem dX6_lots_68 : decode cX6_lots 68 = .ok (.iload 4, 2) := by decide +kernel
theorem dX6_lots_70 : decode cX6_lots 70 = .ok (.ldc_w 257, 3) := by decide +kernel
theorem dX6_lots_73 : decode cX6_lots 73 = .ok (.iand, 1) := by decide +kernel
theorem dX6_lots_74 : decode cX6_lots 74 = .ok (.sipush 256, 3) := by decide +kernel
theorem dX6_lots_77 : decode cX6_lots 77 = .ok (.idiv, 1) := by decide +kernel
theorem dX6_lots_78 : decode cX6_lots 78 = .ok (.bipush 6, 2) := by decide +kernel
theorem dX6_lots_80 : decode cX6_lots 80 = .ok (.irem, 1) := by decide +kernel
theorem dX6_lots_81 : decode cX6_lots 81 = .ok (.iastore, 1) := by decide +kernel
theorem dX6_lots_82 : decode cX6_lots 82 = .ok (.iinc 7 1, 3) := by decide +kernel
theorem dX6_lots_85 : decode cX6_lots 85 = .ok (.goto (-43), 3) := by decide +kernel
theorem dX6_lots_88 : decode cX6_lots 88 = .ok (.iload 5, 2) := by decide +kernel
theorem dX6_lots_90 : decode cX6_lots 90 = .ok (.aload_n 0, 1) := by decide +kernel
theorem dX6_lots_91 : decode cX6_lots 91 = .ok (.aload_n 0, 1) := by decide +kernel
theorem dX6_lots_92 : decode cX6_lots 92 = .ok (.invokevirtual 197, 3) := by decide +kernel
theorem dX6_lots_95 : decode cX6_lots 95 = .ok (.invokevirtual 178, 3) := by decide +kernel
theorem dX6_lots_98 : decode cX6_lots 98 = .ok (.iadd, 1) := by decide +kernel
theorem dX6_lots_99 : decode cX6_lots 99 = .ok (.istore 5, 2) := by decide +kernel
theorem dX6_lots_101 : decode cX6_lots 101 = .ok (.iinc 6 1, 3) := by decide +kernel
theorem dX6_lots_104 : decode cX6_lots 104 = .ok (.goto (-71), 3) := by decide +kernel
theorem dX6_lots_107 : decode cX6_lots 107 = .ok (.aload_n 0, 1) := by decide +kernel
theorem dX6_lots_108 : decode cX6_lots 108 = .ok (.iconst 1, 1) := by decide +kernel
theorem dX6_lots_109 : decode cX6_lots 109 = .ok (.iconst 0, 1) := by decide +kernel
theorem dX6_lots_110 : decode cX6_lots 110 = .ok (.invokevirtual 139, 3) := by decide +kernel
theorem dX6_lots_113 : decode cX6_lots 113 = .ok (.iload 5, 2) := by decide +kernel
theorem dX6_lots_115 : decode cX6_lots 115 = .ok (.ireturn, 1) := by decide +kernel
theorem dX6_makes_0 : decode cX6_makes 0 = .ok (.iconst 0, 1) := by decide +kernel
theorem dX6_makes_1 : decode cX6_makes 1 = .ok (.istore_n 3, 1) := by decide +kernel
theorem dX6_makes_2 : decode cX6_makes 2 = .ok (.iload_n 3, 1) := by decide +kernel
theorem dX6_makes_3 : decode cX6_makes 3 = .ok (.bipush 10, 2) := by decide +kernel
theorem dX6_makes_5 : decode cX6_makes 5 = .ok (.if_icmp .ge 31, 3) := by decide +kernel
theorem dX6_makes_8 : decode cX6_makes 8 = .ok (.iload_n 3, 1) := by decide +kernel
theorem dX6_makes_9 : decode cX6_makes 9 = .ok (.aload_n 0, 1) := by decide +kernel
theorem dX6_makes_10 : decode cX6_makes 10 = .ok (.getfield 25, 3) := by decide +kernel
theorem dX6_makes_13 : decode cX6_makes 13 = .ok (.iload_n 1, 1) := by decide +kernel
theorem dX6_makes_14 : decode cX6_makes 14 = .ok (.iaload, 1) := by decide +kernel
theorem dX6_makes_15 : decode cX6_makes 15 = .ok (.if_icmp .eq 15, 3) := by decide +kernel
theorem dX6_makes_18 : decode cX6_makes 18 = .ok (.aload_n 0, 1) := by decide +kernel
theorem dX6_makes_19 : decode cX6_makes 19 = .ok (.iload_n 1, 1) := by decide +kernel
theorem dX6_makes_20 : decode cX6_makes 20 = .ok (.iload_n 3, 1) := by decide +kernel
theorem dX6_makes_21 : decode cX6_makes 21 = .ok (.invokevirtual 237, 3) := by decide +kernel
theorem dX6_makes_24 : decode cX6_makes 24 = .ok (.iload_n 2, 1) := by decide +kernel
theorem dX6_makes_25 : decode cX6_makes 25 = .ok (.if_icmp .ne 5, 3) := by decide +kernel
theorem dX6_makes_28 : decode cX6_makes 28 = .ok (.iconst 1, 1) := by decide +kernel
theorem dX6_makes_29 : decode cX6_makes 29 = .ok (.ireturn, 1) := by decide +kernel
theorem dX6_makes_30 : decode cX6_makes 30 = .ok (.iinc 3 1, 3) := by decide +kernel
theorem dX6_makes_33 : decode cX6_makes 33 = .ok (.goto (-31), 3) := by decide +kernel
theorem dX6_makes_36 : decode cX6_makes 36 = .ok (.iconst 0, 1) := by decide +kernel
theorem dX6_makes_37 : decode cX6_makes 37 = .ok (.ireturn, 1) := by decide +kernel
theorem dX6_mildest_0 : decode cX6_mildest 0 = .ok (.bipush (-9), 2) := by decide +kernel
theorem dX6_mildest_2 : decode cX6_mildest 2 = .ok (.istore_n 2, 1) := by decide +kernel
theorem dX6_mildest_3 : decode cX6_mildest 3 = .ok (.iconst 0, 1) := by decide +kernel
theorem dX6_mildest_4 : decode cX6_mildest 4 = .ok (.istore_n 3, 1) := by decide +kernel
theorem dX6_mildest_5 : decode cX6_mildest 5 = .ok (.iload_n 3, 1) := by decide +kernel
theorem dX6_mildest_6 : decode cX6_mildest 6 = .ok (.aload_n 0, 1) := by decide +kernel
theorem dX6_mildest_7 : decode cX6_mildest 7 = .ok (.getfield 65, 3) := by decide +kernel
theorem dX6_mildest_10 : decode cX6_mildest 10 = .ok (.if_icmp .ge 36, 3) := by decide +kernel
theorem dX6_mildest_13 : decode cX6_mildest 13 = .ok (.iload_n 1, 1) := by decide +kernel
theorem dX6_mildest_14 : decode cX6_mildest 14 = .ok (.iload_n 3, 1) := by decide +kernel
theorem dX6_mildest_15 : decode cX6_mildest 15 = .ok (.invokestatic 181, 3) := by decide +kernel
theorem dX6_mildest_18 : decode cX6_mildest 18 = .ok (.ifCond .ne 22, 3) := by decide +kernel
theorem dX6_mildest_21 : decode cX6_mildest 21 = .ok (.iload_n 2, 1) := by decide +kernel
theorem dX6_mildest_22 : decode cX6_mildest 22 = .ok (.ifCond .lt 16, 3) := by decide +kernel
theorem dX6_mildest_25 : decode cX6_mildest 25 = .ok (.aload_n 0, 1) := by decide +kernel
theorem dX6_mildest_26 : decode cX6_mildest 26 = .ok (.iload_n 3, 1) := by decide +kernel
theorem dX6_mildest_27 : decode cX6_mildest 27 = .ok (.invokevirtual 169, 3) := by decide +kernel
theorem dX6_mildest_30 : decode cX6_mildest 30 = .ok (.aload_n 0, 1) := by decide +kernel
theorem dX6_mildest_31 : decode cX6_mildest 31 = .ok (.iload_n 2, 1) := by decide +kernel
theorem dX6_mildest_32 : decode cX6_mildest 32 = .ok (.invokevirtual 169, 3) := by decide +kernel
theorem dX6_mildest_35 : decode cX6_mildest 35 = .ok (.if_icmp .ge 5, 3) := by decide +kernel
theorem dX6_mildest_38 : decode cX6_mildest 38 = .ok (.iload_n 3, 1) := by decide +kernel
theorem dX6_mildest_39 : decode cX6_mildest 39 = .ok (.istore_n 2, 1) := by decide +kernel
theorem dX6_mildest_40 : decode cX6_mildest 40 = .ok (.iinc 3 1, 3) := by decide +kernel
theorem dX6_mildest_43 : decode cX6_mildest 43 = .ok (.goto (-38), 3) := by decide +kernel
theorem dX6_mildest_46 : decode cX6_mildest 46 = .ok (.iload_n 2, 1) := by decide +kernel
theorem dX6_mildest_47 : decode cX6_mildest 47 = .ok (.ireturn, 1) := by decide +kernel
theorem dX6_next_0 : decode cX6_next 0 = .ok (.aload_n 0, 1) := by decide +kernel
theorem dX6_next_1 : decode cX6_next 1 = .ok (.getfield 83, 3) := by decide +kernel
theorem dX6_next_4 : decode cX6_next 4 = .ok (.aload_n 0, 1) := by decide +kernel
theorem dX6_next_5 : decode cX6_next 5 = .ok (.getfield 76, 3) := by decide +kernel
theorem dX6_next_8 : decode cX6_next 8 = .ok (.if_icmp .ge 15, 3) := by decide +kernel
theorem dX6_next_11 : decode cX6_next 11 = .ok (.aload_n 0, 1) := by decide +kernel
theorem dX6_next_12 : decode cX6_next 12 = .ok (.getfield 34, 3) := by decide +kernel
theorem dX6_next_15 : decode cX6_next 15 = .ok (.aload_n 0, 1) := by decide +kernel
theorem dX6_next_16 : decode cX6_next 16 = .ok (.getfield 83, 3) := by decide +kernel
theorem dX6_next_19 : decode cX6_next 19 = .ok (.iaload, 1) := by decide +kernel
theorem dX6_next_20 : decode cX6_next 20 = .ok (.goto 4, 3) := by decide +kernel
theorem dX6_next_23 : decode cX6_next 23 = .ok (.iconst (-1), 1) := by decide +kernel
theorem dX6_next_24 : decode cX6_next 24 = .ok (.ireturn, 1) := by decide +kernel
theorem dX6_no_0 : decode cX6_no 0 = .ok (.aload_n 0, 1) := by decide +kernel
theorem dX6_no_1 : decode cX6_no 1 = .ok (.getfield 7, 3) := by decide +kernel
theorem dX6_no_4 : decode cX6_no 4 = .ok (.iload_n 1, 1) := by decide +kernel
theorem dX6_no_5 : decode cX6_no 5 = .ok (.ineg, 1) := by decide +kernel
theorem dX6_no_6 : decode cX6_no 6 = .ok (.dup2, 1) := by decide +kernel
theorem dX6_no_7 : decode cX6_no 7 = .ok (.iaload, 1) := by decide +kernel
theorem dX6_no_8 : decode cX6_no 8 = .ok (.iconst 1, 1) := by decide +kernel
theorem dX6_no_9 : decode cX6_no 9 = .ok (.iadd, 1) := by decide +kernel
theorem dX6_no_10 : decode cX6_no 10 = .ok (.iastore, 1) := by decide +kernel
theorem dX6_no_11 : decode cX6_no 11 = .ok (.iload_n 1, 1) := by decide +kernel
theorem dX6_no_12 : decode cX6_no 12 = .ok (.ireturn, 1) := by decide +kernel
theorem dX6_notShare_0 : decode cX6_notShare 0 = .ok (.iload_n 1, 1) := by decide +kernel
theorem dX6_notShare_1 : decode cX6_notShare 1 = .ok (.iconst (-1), 1) := by decide +kernel
theorem dX6_notShare_2 : decode cX6_notShare 2 = .ok (.if_icmp .ge 8, 3) := by decide +kernel
theorem dX6_notShare_5 : decode cX6_notShare 5 = .ok (.bipush (-4), 2) := by decide +kernel
theorem dX6_notShare_7 : decode cX6_notShare 7 = .ok (.goto 16, 3) := by decide +kernel
theorem dX6_notShare_10 : decode cX6_notShare 10 = .ok (.iload_n 1, 1) := by decide +kernel
theorem dX6_notShare_11 : decode cX6_notShare 11 = .ok (.aload_n 0, 1) := by decide +kernel
theorem dX6_notShare_12 : decode cX6_notShare 12 = .ok (.getfield 65, 3) := by decide +kernel
theorem dX6_notShare_15 : decode cX6_notShare 15 = .ok (.if_icmp .lt 7, 3) := by decide +kernel
theorem dX6_notShare_18 : decode cX6_notShare 18 = .ok (.iconst (-1), 1) := by decide +kernel
theorem dX6_notShare_19 : decode cX6_notShare 19 = .ok (.goto 4, 3) := by decide +kernel
theorem dX6_notShare_22 : decode cX6_notShare 22 = .ok (.iconst 0, 1) := by decide +kernel
theorem dX6_notShare_23 : decode cX6_notShare 23 = .ok (.ireturn, 1) := by decide +kernel
theorem dX6_on_0 : decode cX6_on 0 = .ok (.aload_n 0, 1) := by decide +kernel
theorem dX6_on_1 : decode cX6_on 1 = .ok (.getfield 160, 3) := by decide +kernel
theorem dX6_on_4 : decode cX6_on 4 = .ok (.ifCond .ne 10, 3) := by decide +kernel
theorem dX6_on_7 : decode cX6_on 7 = .ok (.aload_n 0, 1) := by decide +kernel
theorem dX6_on_8 : decode cX6_on 8 = .ok (.bipush (-3), 2) := by decide +kernel
theorem dX6_on_10 : decode cX6_on 10 = .ok (.invokevirtual 79, 3) := by decide +kernel
theorem dX6_on_13 : decode cX6_on 13 = .ok (.ireturn, 1) := by decide +kernel
theorem dX6_on_14 : decode cX6_on 14 = .ok (.aload_n 0, 1) := by decide +kernel
theorem dX6_on_15 : decode cX6_on 15 = .ok (.iconst 0, 1) := by decide +kernel
theorem dX6_on_16 : decode cX6_on 16 = .ok (.iconst 0, 1) := by decide +kernel
theorem dX6_on_17 : decode cX6_on 17 = .ok (.invokevirtual 139, 3) := by decide +kernel
theorem dX6_on_20 : decode cX6_on 20 = .ok (.aload_n 0, 1) := by decide +kernel
theorem dX6_on_21 : decode cX6_on 21 = .ok (.getfield 128, 3) := by decide +kernel
theorem dX6_on_24 : decode cX6_on 24 = .ok (.ireturn, 1) := by decide +kernel
theorem dX6_passOne_0 : decode cX6_passOne 0 = .ok (.aload_n 0, 1) := by decide +kernel
theorem dX6_passOne_1 : decode cX6_passOne 1 = .ok (.getfield 146, 3) := by decide +kernel
theorem dX6_passOne_4 : decode cX6_passOne 4 = .ok (.ifCond .eq 7, 3) := by decide +kernel
theorem dX6_passOne_7 : decode cX6_passOne 7 = .ok (.iload_n 1, 1) := by decide +kernel
theorem dX6_passOne_8 : decode cX6_passOne 8 = .ok (.goto 12, 3) := by decide +kernel
theorem dX6_passOne_11 : decode cX6_passOne 11 = .ok (.aload_n 0, 1) := by decide +kernel
theorem dX6_passOne_12 : decode cX6_passOne 12 = .ok (.getfield 46, 3) := by decide +kernel
theorem dX6_passOne_15 : decode cX6_passOne 15 = .ok (.aload_n 0, 1) := by decide +kernel
theorem dX6_passOne_16 : decode cX6_passOne 16 = .ok (.getfield 150, 3) := by decide +kernel
theorem dX6_passOne_19 : decode cX6_passOne 19 = .ok (.iaload, 1) := by decide +kernel
theorem dX6_passOne_20 : decode cX6_passOne 20 = .ok (.istore_n 2, 1) := by decide +kernel
theorem dX6_passOne_21 : decode cX6_passOne 21 = .ok (.aload_n 0, 1) := by decide +kernel
theorem dX6_passOne_22 : decode cX6_passOne 22 = .ok (.getfield 146, 3) := by decide +kernel
theorem dX6_passOne_25 : decode cX6_passOne 25 = .ok (.ifCond .eq 13, 3) := by decide +kernel
theorem dX6_passOne_28 : decode cX6_passOne 28 = .ok (.aload_n 0, 1) := by decide +kernel
theorem dX6_passOne_29 : decode cX6_passOne 29 = .ok (.getfield 46, 3) := by decide +kernel
theorem dX6_passOne_32 : decode cX6_passOne 32 = .ok (.aload_n 0, 1) := by decide +kernel
theorem dX6_passOne_33 : decode cX6_passOne 33 = .ok (.getfield 150, 3) := by decide +kernel
theorem dX6_passOne_36 : decode cX6_passOne 36 = .ok (.iload_n 1, 1) := by decide +kernel
theorem dX6_passOne_37 : decode cX6_passOne 37 = .ok (.iastore, 1) := by decide +kernel
theorem dX6_passOne_38 : decode cX6_passOne 38 = .ok (.aload_n 0, 1) := by decide +kernel
theorem dX6_passOne_39 : decode cX6_passOne 39 = .ok (.dup, 1) := by decide +kernel
theorem dX6_passOne_40 : decode cX6_passOne 40 = .ok (.getfield 150, 3) := by decide +kernel
theorem dX6_passOne_43 : decode cX6_passOne 43 = .ok (.iconst 1, 1) := by decide +kernel
theorem dX6_passOne_44 : decode cX6_passOne 44 = .ok (.iadd, 1) := by decide +kernel
theorem dX6_passOne_45 : decode cX6_passOne 45 = .ok (.putfield 150, 3) := by decide +kernel
theorem dX6_passOne_48 : decode cX6_passOne 48 = .ok (.iload_n 2, 1) := by decide +kernel
theorem dX6_passOne_49 : decode cX6_passOne 49 = .ok (.ireturn, 1) := by decide +kernel
theorem dX6_passes_0 : decode cX6_passes 0 = .ok (.iconst 0, 1) := by decide +kernel
theorem dX6_passes_1 : decode cX6_passes 1 = .ok (.istore_n 2, 1) := by decide +kernel
theorem dX6_passes_2 : decode cX6_passes 2 = .ok (.iload_n 2, 1) := by decide +kernel
theorem dX6_passes_3 : decode cX6_passes 3 = .ok (.aload_n 1, 1) := by decide +kernel
theorem dX6_passes_4 : decode cX6_passes 4 = .ok (.arraylength, 1) := by decide +kernel
theorem dX6_passes_5 : decode cX6_passes 5 = .ok (.if_icmp .ge 53, 3) := by decide +kernel
theorem dX6_passes_8 : decode cX6_passes 8 = .ok (.aload_n 0, 1) := by decide +kernel
theorem dX6_passes_9 : decode cX6_passes 9 = .ok (.getfield 146, 3) := by decide +kernel
theorem dX6_passes_12 : decode cX6_passes 12 = .ok (.ifCond .eq 18, 3) := by decide +kernel
theorem dX6_passes_15 : decode cX6_passes 15 = .ok (.aload_n 0, 1) := by decide +kernel
theorem dX6_passes_16 : decode cX6_passes 16 = .ok (.getfield 46, 3) := by decide +kernel
theorem dX6_passes_19 : decode cX6_passes 19 = .ok (.aload_n 0, 1) := by decide +kernel
theorem dX6_passes_20 : decode cX6_passes 20 = .ok (.getfield 150, 3) := by decide +kernel
theorem dX6_passes_23 : decode cX6_passes 23 = .ok (.aload_n 1, 1) := by decide +kernel
theorem dX6_passes_24 : decode cX6_passes 24 = .ok (.iload_n 2, 1) := by decide +kernel
theorem dX6_passes_25 : decode cX6_passes 25 = .ok (.iaload, 1) := by decide +kernel
theorem dX6_passes_26 : decode cX6_passes 26 = .ok (.iastore, 1) := by decide +kernel
theorem dX6_passes_27 : decode cX6_passes 27 = .ok (.goto 15, 3) := by decide +kernel
theorem dX6_passes_30 : decode cX6_passes 30 = .ok (.aload_n 1, 1) := by decide +kernel
theorem dX6_passes_31 : decode cX6_passes 31 = .ok (.iload_n 2, 1) := by decide +kernel
theorem dX6_passes_32 : decode cX6_passes 32 = .ok (.aload_n 0, 1) := by decide +kernel
theorem dX6_passes_33 : decode cX6_passes 33 = .ok (.getfield 46, 3) := by decide +kernel
theorem dX6_passes_36 : decode cX6_passes 36 = .ok (.aload_n 0, 1) := by decide +kernel
theorem dX6_passes_37 : decode cX6_passes 37 = .ok (.getfield 150, 3) := by decide +kernel
theorem dX6_passes_40 : decode cX6_passes 40 = .ok (.iaload, 1) := by decide +kernel
theorem dX6_passes_41 : decode cX6_passes 41 = .ok (.iastore, 1) := by decide +kernel
theorem dX6_passes_42 : decode cX6_passes 42 = .ok (.aload_n 0, 1) := by decide +kernel
theorem dX6_passes_43 : decode cX6_passes 43 = .ok (.dup, 1) := by decide +kernel
theorem dX6_passes_44 : decode cX6_passes 44 = .ok (.getfield 150, 3) := by decide +kernel
theorem dX6_passes_47 : decode cX6_passes 47 = .ok (.iconst 1, 1) := by decide +kernel
theorem dX6_passes_48 : decode cX6_passes 48 = .ok (.iadd, 1) := by decide +kernel
theorem dX6_passes_49 : decode cX6_passes 49 = .ok (.putfield 150, 3) := by decide +kernel
theorem dX6_passes_52 : decode cX6_passes 52 = .ok (.iinc 2 1, 3) := by decide +kernel
theorem dX6_passes_55 : decode cX6_passes 55 = .ok (.goto (-53), 3) := by decide +kernel
theorem dX6_passes_58 : decode cX6_passes 58 = .ok (.return_, 1) := by decide +kernel
theorem dX6_passesAll_0 : decode cX6_passesAll 0 = .ok (.aload_n 0, 1) := by decide +kernel
theorem dX6_passesAll_1 : decode cX6_passesAll 1 = .ok (.bipush 50, 2) := by decide +kernel
theorem dX6_passesAll_3 : decode cX6_passesAll 3 = .ok (.iload_n 1, 1) := by decide +kernel
theorem dX6_passesAll_4 : decode cX6_passesAll 4 = .ok (.imul, 1) := by decide +kernel
theorem dX6_passesAll_5 : decode cX6_passesAll 5 = .ok (.putfield 150, 3) := by decide +kernel
theorem dX6_passesAll_8 : decode cX6_passesAll 8 = .ok (.aload_n 0, 1) := by decide +kernel
theorem dX6_passesAll_9 : decode cX6_passesAll 9 = .ok (.iload_n 2, 1) := by decide +kernel
theorem dX6_passesAll_10 : decode cX6_passesAll 10 = .ok (.putfield 146, 3) := by decide +kernel
theorem dX6_passesAll_13 : decode cX6_passesAll 13 = .ok (.aload_n 0, 1) := by decide +kernel
theorem dX6_passesAll_14 : decode cX6_passesAll 14 = .ok (.aload_n 0, 1) := by decide +kernel
theorem dX6_passesAll_15 : decode cX6_passesAll 15 = .ok (.getfield 13, 3) := by decide +kernel
theorem dX6_passesAll_18 : decode cX6_passesAll 18 = .ok (.invokevirtual 153, 3) := by decide +kernel
theorem dX6_passesAll_21 : decode cX6_passesAll 21 = .ok (.aload_n 0, 1) := by decide +kernel
theorem dX6_passesAll_22 : decode cX6_passesAll 22 = .ok (.aload_n 0, 1) := by decide +kernel
theorem dX6_passesAll_23 : decode cX6_passesAll 23 = .ok (.getfield 16, 3) := by decide +kernel
theorem dX6_passesAll_26 : decode cX6_passesAll 26 = .ok (.invokevirtual 153, 3) := by decide +kernel
theorem dX6_passesAll_29 : decode cX6_passesAll 29 = .ok (.aload_n 0, 1) := by decide +kernel
theorem dX6_passesAll_30 : decode cX6_passesAll 30 = .ok (.aload_n 0, 1) := by decide +kernel
theorem dX6_passesAll_31 : decode cX6_passesAll 31 = .ok (.getfield 19, 3) := by decide +kernel
theorem dX6_passesAll_34 : decode cX6_passesAll 34 = .ok (.invokevirtual 153, 3) := by decide +kernel
theorem dX6_passesAll_37 : decode cX6_passesAll 37 = .ok (.aload_n 0, 1) := by decide +kernel
theorem dX6_passesAll_38 : decode cX6_passesAll 38 = .ok (.aload_n 0, 1) := by decide +kernel
theorem dX6_passesAll_39 : decode cX6_passesAll 39 = .ok (.getfield 22, 3) := by decide +kernel
theorem dX6_passesAll_42 : decode cX6_passesAll 42 = .ok (.invokevirtual 153, 3) := by decide +kernel
theorem dX6_passesAll_45 : decode cX6_passesAll 45 = .ok (.aload_n 0, 1) := by decide +kernel
theorem dX6_passesAll_46 : decode cX6_passesAll 46 = .ok (.aload_n 0, 1) := by decide +kernel
theorem dX6_passesAll_47 : decode cX6_passesAll 47 = .ok (.getfield 25, 3) := by decide +kernel
theorem dX6_passesAll_50 : decode cX6_passesAll 50 = .ok (.invokevirtual 153, 3) := by decide +kernel
theorem dX6_passesAll_53 : decode cX6_passesAll 53 = .ok (.aload_n 0, 1) := by decide +kernel
theorem dX6_passesAll_54 : decode cX6_passesAll 54 = .ok (.aload_n 0, 1) := by decide +kernel
theorem dX6_passesAll_55 : decode cX6_passesAll 55 = .ok (.getfield 28, 3) := by decide +kernel
theorem dX6_passesAll_58 : decode cX6_passesAll 58 = .ok (.invokevirtual 153, 3) := by decide +kernel
theorem dX6_passesAll_61 : decode cX6_passesAll 61 = .ok (.aload_n 0, 1) := by decide +kernel
theorem dX6_passesAll_62 : decode cX6_passesAll 62 = .ok (.aload_n 0, 1) := by decide +kernel
theorem dX6_passesAll_63 : decode cX6_passesAll 63 = .ok (.getfield 31, 3) := by decide +kernel
theorem dX6_passesAll_66 : decode cX6_passesAll 66 = .ok (.invokevirtual 153, 3) := by decide +kernel
theorem dX6_passesAll_69 : decode cX6_passesAll 69 = .ok (.aload_n 0, 1) := by decide +kernel
theorem dX6_passesAll_70 : decode cX6_passesAll 70 = .ok (.aload_n 0, 1) := by decide +kernel
theorem dX6_passesAll_71 : decode cX6_passesAll 71 = .ok (.aload_n 0, 1) := by decide +kernel
theorem dX6_passesAll_72 : decode cX6_passesAll 72 = .ok (.getfield 65, 3) := by decide +kernel
theorem dX6_passesAll_75 : decode cX6_passesAll 75 = .ok (.invokevirtual 157, 3) := by decide +kernel
theorem dX6_passesAll_78 : decode cX6_passesAll 78 = .ok (.putfield 65, 3) := by decide +kernel
theorem dX6_passesAll_81 : decode cX6_passesAll 81 = .ok (.aload_n 0, 1) := by decide +kernel
theorem dX6_passesAll_82 : decode cX6_passesAll 82 = .ok (.aload_n 0, 1) := by decide +kernel
theorem dX6_passesAll_83 : decode cX6_passesAll 83 = .ok (.aload_n 0, 1) := by decide +kernel
theorem dX6_passesAll_84 : decode cX6_passesAll 84 = .ok (.getfield 61, 3) := by decide +kernel
theorem dX6_passesAll_87 : decode cX6_passesAll 87 = .ok (.invokevirtual 157, 3) := by decide +kernel
theorem dX6_passesAll_90 : decode cX6_passesAll 90 = .ok (.putfield 61, 3) := by decide +kernel
theorem dX6_passesAll_93 : decode cX6_passesAll 93 = .ok (.aload_n 0, 1) := by decide +kernel
theorem dX6_passesAll_94 : decode cX6_passesAll 94 = .ok (.aload_n 0, 1) := by decide +kernel
theorem dX6_passesAll_95 : decode cX6_passesAll 95 = .ok (.aload_n 0, 1) := by decide +kernel
theorem dX6_passesAll_96 : decode cX6_passesAll 96 = .ok (.getfield 128, 3) := by decide +kernel
theorem dX6_passesAll_99 : decode cX6_passesAll 99 = .ok (.invokevirtual 157, 3) := by decide +kernel
theorem dX6_passesAll_102 : decode cX6_passesAll 102 = .ok (.putfield 128, 3) := by decide +kernel
theorem dX6_passesAll_105 : decode cX6_passesAll 105 = .ok (.return_, 1) := by decide +kernel
theorem dX6_piece_0 : decode cX6_piece 0 = .ok (.aload_n 0, 1) := by decide +kernel
theorem dX6_piece_1 : decode cX6_piece 1 = .ok (.iload_n 1, 1) := by decide +kernel
theorem dX6_piece_2 : decode cX6_piece 2 = .ok (.invokevirtual 116, 3) := by decide +kernel
theorem dX6_piece_5 : decode cX6_piece 5 = .ok (.ifCond .ne 9, 3) := by decide +kernel
theorem dX6_piece_8 : decode cX6_piece 8 = .ok (.aload_n 0, 1) := by decide +kernel
theorem dX6_piece_9 : decode cX6_piece 9 = .ok (.iconst (-1), 1) := by decide +kernel
theorem dX6_piece_10 : decode cX6_piece 10 = .ok (.invokevirtual 79, 3) := by decide +kernel
theorem dX6_piece_13 : decode cX6_piece 13 = .ok (.ireturn, 1) := by decide +kernel
theorem dX6_piece_14 : decode cX6_piece 14 = .ok (.iload_n 2, 1) := by decide +kernel
theorem dX6_piece_15 : decode cX6_piece 15 = .ok (.tableswitch 88 0 6 #[41, 48, 55, 62, 69, 76, 82], 41) := by decide +kernel
theorem dX6_piece_56 : decode cX6_piece 56 = .ok (.aload_n 0, 1) := by decide +kernel
theorem dX6_piece_57 : decode cX6_piece 57 = .ok (.getfield 19, 3) := by decide +kernel
theorem dX6_piece_60 : decode cX6_piece 60 = .ok (.iload_n 1, 1) := by decide +kernel
theorem dX6_piece_61 : decode cX6_piece 61 = .ok (.iaload, 1) := by decide +kernel
theorem dX6_piece_62 : decode cX6_piece 62 = .ok (.ireturn, 1) := by decide +kernel
theorem dX6_piece_63 : decode cX6_piece 63 = .ok (.aload_n 0, 1) := by decide +kernel
theorem dX6_piece_64 : decode cX6_piece 64 = .ok (.getfield 22, 3) := by decide +kernel
theorem dX6_piece_67 : decode cX6_piece 67 = .ok (.iload_n 1, 1) := by decide +kernel
theorem dX6_piece_68 : decode cX6_piece 68 = .ok (.iaload, 1) := by decide +kernel
theorem dX6_piece_69 : decode cX6_piece 69 = .ok (.ireturn, 1) := by decide +kernel
theorem dX6_piece_70 : decode cX6_piece 70 = .ok (.aload_n 0, 1) := by decide +kernel
theorem dX6_piece_71 : decode cX6_piece 71 = .ok (.getfield 25, 3) := by decide +kernel
theorem dX6_piece_74 : decode cX6_piece 74 = .ok (.iload_n 1, 1) := by decide +kernel
theorem dX6_piece_75 : decode cX6_piece 75 = .ok (.iaload, 1) := by decide +kernel
theorem dX6_piece_76 : decode cX6_piece 76 = .ok (.ireturn, 1) := by decide +kernel
theorem dX6_piece_77 : decode cX6_piece 77 = .ok (.aload_n 0, 1) := by decide +kernel
theorem dX6_piece_78 : decode cX6_piece 78 = .ok (.getfield 28, 3) := by decide +kernel
theorem dX6_piece_81 : decode cX6_piece 81 = .ok (.iload_n 1, 1) := by decide +kernel
theorem dX6_piece_82 : decode cX6_piece 82 = .ok (.iaload, 1) := by decide +kernel
theorem dX6_piece_83 : decode cX6_piece 83 = .ok (.ireturn, 1) := by decide +kernel
theorem dX6_piece_84 : decode cX6_piece 84 = .ok (.aload_n 0, 1) := by decide +kernel
theorem dX6_piece_85 : decode cX6_piece 85 = .ok (.getfield 31, 3) := by decide +kernel
theorem dX6_piece_88 : decode cX6_piece 88 = .ok (.iload_n 1, 1) := by decide +kernel
theorem dX6_piece_89 : decode cX6_piece 89 = .ok (.iaload, 1) := by decide +kernel
theorem dX6_piece_90 : decode cX6_piece 90 = .ok (.ireturn, 1) := by decide +kernel
theorem dX6_piece_91 : decode cX6_piece 91 = .ok (.aload_n 0, 1) := by decide +kernel
theorem dX6_piece_92 : decode cX6_piece 92 = .ok (.iload_n 1, 1) := by decide +kernel
theorem dX6_piece_93 : decode cX6_piece 93 = .ok (.invokevirtual 169, 3) := by decide +kernel
theorem dX6_piece_96 : decode cX6_piece 96 = .ok (.ireturn, 1) := by decide +kernel
theorem dX6_piece_97 : decode cX6_piece 97 = .ok (.aload_n 0, 1) := by decide +kernel
theorem dX6_piece_98 : decode cX6_piece 98 = .ok (.iload_n 1, 1) := by decide +kernel
theorem dX6_piece_99 : decode cX6_piece 99 = .ok (.invokevirtual 172, 3) := by decide +kernel
theorem dX6_piece_102 : decode cX6_piece 102 = .ok (.ireturn, 1) := by decide +kernel
theorem dX6_piece_103 : decode cX6_piece 103 = .ok (.aload_n 0, 1) := by decide +kernel
theorem dX6_piece_104 : decode cX6_piece 104 = .ok (.bipush (-2), 2) := by decide +kernel
theorem dX6_piece_106 : decode cX6_piece 106 = .ok (.invokevirtual 79, 3) := by decide +kernel
theorem dX6_piece_109 : decode cX6_piece 109 = .ok (.ireturn, 1) := by decide +kernel
theorem dX6_placing_0 : decode cX6_placing 0 = .ok (.iload_n 1, 1) := by decide +kernel
theorem dX6_placing_1 : decode cX6_placing 1 = .ok (.iconst 1, 1) := by decide +kernel
theorem dX6_placing_2 : decode cX6_placing 2 = .ok (.if_icmp .lt 8, 3) := by decide +kernel
theorem dX6_placing_5 : decode cX6_placing 5 = .ok (.iload_n 3, 1) := by decide +kernel
theorem dX6_placing_6 : decode cX6_placing 6 = .ok (.iconst (-1), 1) := by decide +kernel
theorem dX6_placing_7 : decode cX6_placing 7 = .ok (.if_icmp .ge 8, 3) := by decide +kernel
theorem dX6_placing_10 : decode cX6_placing 10 = .ok (.bipush (-4), 2) := by decide +kernel
theorem dX6_placing_12 : decode cX6_placing 12 = .ok (.goto 54, 3) := by decide +kernel
theorem dX6_placing_15 : decode cX6_placing 15 = .ok (.iload_n 1, 1) := by decide +kernel
theorem dX6_placing_16 : decode cX6_placing 16 = .ok (.bipush 63, 2) := by decide +kernel
theorem dX6_placing_18 : decode cX6_placing 18 = .ok (.if_icmp .le 8, 3) := by decide +kernel
theorem dX6_placing_21 : decode cX6_placing 21 = .ok (.bipush (-6), 2) := by decide +kernel
theorem dX6_placing_23 : decode cX6_placing 23 = .ok (.goto 43, 3) := by decide +kernel
theorem dX6_placing_26 : decode cX6_placing 26 = .ok (.iload_n 2, 1) := by decide +kernel
theorem dX6_placing_27 : decode cX6_placing 27 = .ok (.iconst 0, 1) := by decide +kernel
theorem dX6_placing_28 : decode cX6_placing 28 = .ok (.iconst 1, 1) := by decide +kernel
theorem dX6_placing_29 : decode cX6_placing 29 = .ok (.invokestatic 90, 3) := by decide +kernel
theorem dX6_placing_32 : decode cX6_placing 32 = .ok (.ifCond .ne 8, 3) := by decide +kernel
theorem dX6_placing_35 : decode cX6_placing 35 = .ok (.bipush (-2), 2) := by decide +kernel
theorem dX6_placing_37 : decode cX6_placing 37 = .ok (.goto 29, 3) := by decide +kernel
theorem dX6_placing_40 : decode cX6_placing 40 = .ok (.aload_n 0, 1) := by decide +kernel
theorem dX6_placing_41 : decode cX6_placing 41 = .ok (.getfield 65, 3) := by decide +kernel
theorem dX6_placing_44 : decode cX6_placing 44 = .ok (.iconst 5, 1) := by decide +kernel
theorem dX6_placing_45 : decode cX6_placing 45 = .ok (.if_icmp .le 8, 3) := by decide +kernel
theorem dX6_placing_48 : decode cX6_placing 48 = .ok (.bipush (-3), 2) := by decide +kernel
theorem dX6_placing_50 : decode cX6_placing 50 = .ok (.goto 16, 3) := by decide +kernel
theorem dX6_placing_53 : decode cX6_placing 53 = .ok (.iload_n 3, 1) := by decide +kernel
theorem dX6_placing_54 : decode cX6_placing 54 = .ok (.aload_n 0, 1) := by decide +kernel
theorem dX6_placing_55 : decode cX6_placing 55 = .ok (.getfield 65, 3) := by decide +kernel
theorem dX6_placing_58 : decode cX6_placing 58 = .ok (.if_icmp .lt 7, 3) := by decide +kernel
theorem dX6_placing_61 : decode cX6_placing 61 = .ok (.iconst (-1), 1) := by decide +kernel
theorem dX6_placing_62 : decode cX6_placing 62 = .ok (.goto 4, 3) := by decide +kernel
theorem dX6_placing_65 : decode cX6_placing 65 = .ok (.iconst 0, 1) := by decide +kernel
theorem dX6_placing_66 : decode cX6_placing 66 = .ok (.istore 4, 2) := by decide +kernel
theorem dX6_placing_68 : decode cX6_placing 68 = .ok (.iload 4, 2) := by decide +kernel
theorem dX6_placing_70 : decode cX6_placing 70 = .ok (.ifCond .eq 10, 3) := by decide +kernel
theorem dX6_placing_73 : decode cX6_placing 73 = .ok (.aload_n 0, 1) := by decide +kernel
theorem dX6_placing_74 : decode cX6_placing 74 = .ok (.iload 4, 2) := by decide +kernel
theorem dX6_placing_76 : decode cX6_placing 76 = .ok (.invokevirtual 79, 3) := by decide +kernel
theorem dX6_placing_79 : decode cX6_placing 79 = .ok (.ireturn, 1) := by decide +kernel
theorem dX6_placing_80 : decode cX6_placing 80 = .ok (.aload_n 0, 1) := by decide +kernel
theorem dX6_placing_81 : decode cX6_placing 81 = .ok (.iload_n 1, 1) := by decide +kernel
theorem dX6_placing_82 : decode cX6_placing 82 = .ok (.iload_n 2, 1) := by decide +kernel
theorem dX6_placing_83 : decode cX6_placing 83 = .ok (.invokevirtual 203, 3) := by decide +kernel
theorem dX6_placing_86 : decode cX6_placing 86 = .ok (.iload_n 3, 1) := by decide +kernel
theorem dX6_placing_87 : decode cX6_placing 87 = .ok (.ifCond .lt 10, 3) := by decide +kernel
theorem dX6_placing_90 : decode cX6_placing 90 = .ok (.aload_n 0, 1) := by decide +kernel
theorem dX6_placing_91 : decode cX6_placing 91 = .ok (.getfield 187, 3) := by decide +kernel
theorem dX6_placing_94 : decode cX6_placing 94 = .ok (.ifCond .ge 10, 3) := by decide +kernel
theorem dX6_placing_97 : decode cX6_placing 97 = .ok (.aload_n 0, 1) := by decide +kernel
theorem dX6_placing_98 : decode cX6_placing 98 = .ok (.getfield 187, 3) := by decide +kernel
theorem dX6_placing_101 : decode cX6_placing 101 = .ok (.goto 9, 3) := by decide +kernel
theorem dX6_placing_104 : decode cX6_placing 104 = .ok (.aload_n 0, 1) := by decide +kernel
theorem dX6_placing_105 : decode cX6_placing 105 = .ok (.getfield 49, 3) := by decide +kernel
theorem dX6_placing_108 : decode cX6_placing 108 = .ok (.iload_n 3, 1) := by decide +kernel
theorem dX6_placing_109 : decode cX6_placing 109 = .ok (.iaload, 1) := by decide +kernel
theorem dX6_placing_110 : decode cX6_placing 110 = .ok (.ireturn, 1) := by decide +kernel
theorem dX6_polish_0 : decode cX6_polish 0 = .ok (.aload_n 0, 1) := by decide +kernel
theorem dX6_polish_1 : decode cX6_polish 1 = .ok (.iload_n 1, 1) := by decide +kernel
theorem dX6_polish_2 : decode cX6_polish 2 = .ok (.invokevirtual 116, 3) := by decide +kernel
theorem dX6_polish_5 : decode cX6_polish 5 = .ok (.ifCond .ne 7, 3) := by decide +kernel
theorem dX6_polish_8 : decode cX6_polish 8 = .ok (.iconst (-1), 1) := by decide +kernel
theorem dX6_polish_9 : decode cX6_polish 9 = .ok (.goto 20, 3) := by decide +kernel
theorem dX6_polish_12 : decode cX6_polish 12 = .ok (.aload_n 0, 1) := by decide +kernel
theorem dX6_polish_13 : decode cX6_polish 13 = .ok (.getfield 25, 3) := by decide +kernel
theorem dX6_polish_16 : decode cX6_polish 16 = .ok (.iload_n 1, 1) := by decide +kernel
theorem dX6_polish_17 : decode cX6_polish 17 = .ok (.iaload, 1) := by decide +kernel
theorem dX6_polish_18 : decode cX6_polish 18 = .ok (.bipush 9, 2) := by decide +kernel
theorem dX6_polish_20 : decode cX6_polish 20 = .ok (.if_icmp .ne 8, 3) := by decide +kernel
theorem dX6_polish_23 : decode cX6_polish 23 = .ok (.bipush (-3), 2) := by decide +kernel
theorem dX6_polish_25 : decode cX6_polish 25 = .ok (.goto 4, 3) := by decide +kernel
theorem dX6_polish_28 : decode cX6_polish 28 = .ok (.iconst 0, 1) := by decide +kernel
theorem dX6_polish_29 : decode cX6_polish 29 = .ok (.istore_n 2, 1) := by decide +kernel
theorem dX6_polish_30 : decode cX6_polish 30 = .ok (.iload_n 2, 1) := by decide +kernel
theorem dX6_polish_31 : decode cX6_polish 31 = .ok (.ifCond .eq 9, 3) := by decide +kernel
theorem dX6_polish_34 : decode cX6_polish 34 = .ok (.aload_n 0, 1) := by decide +kernel
theorem dX6_polish_35 : decode cX6_polish 35 = .ok (.iload_n 2, 1) := by decide +kernel
theorem dX6_polish_36 : decode cX6_polish 36 = .ok (.invokevirtual 79, 3) := by decide +kernel
theorem dX6_polish_39 : decode cX6_polish 39 = .ok (.ireturn, 1) := by decide +kernel
theorem dX6_polish_40 : decode cX6_polish 40 = .ok (.aload_n 0, 1) := by decide +kernel
theorem dX6_polish_41 : decode cX6_polish 41 = .ok (.getfield 25, 3) := by decide +kernel
theorem dX6_polish_44 : decode cX6_polish 44 = .ok (.iload_n 1, 1) := by decide +kernel
theorem dX6_polish_45 : decode cX6_polish 45 = .ok (.dup2, 1) := by decide +kernel
theorem dX6_polish_46 : decode cX6_polish 46 = .ok (.iaload, 1) := by decide +kernel
theorem dX6_polish_47 : decode cX6_polish 47 = .ok (.iconst 1, 1) := by decide +kernel
theorem dX6_polish_48 : decode cX6_polish 48 = .ok (.iadd, 1) := by decide +kernel
theorem dX6_polish_49 : decode cX6_polish 49 = .ok (.iastore, 1) := by decide +kernel
theorem dX6_polish_50 : decode cX6_polish 50 = .ok (.aload_n 0, 1) := by decide +kernel
theorem dX6_polish_51 : decode cX6_polish 51 = .ok (.getfield 25, 3) := by decide +kernel
theorem dX6_polish_54 : decode cX6_polish 54 = .ok (.iload_n 1, 1) := by decide +kernel
theorem dX6_polish_55 : decode cX6_polish 55 = .ok (.iaload, 1) := by decide +kernel
theorem dX6_polish_56 : decode cX6_polish 56 = .ok (.ireturn, 1) := by decide +kernel
theorem dX6_poorest_0 : decode cX6_poorest 0 = .ok (.iconst 0, 1) := by decide +kernel
theorem dX6_poorest_1 : decode cX6_poorest 1 = .ok (.istore_n 1, 1) := by decide +kernel
theorem dX6_poorest_2 : decode cX6_poorest 2 = .ok (.iconst 1, 1) := by decide +kernel
theorem dX6_poorest_3 : decode cX6_poorest 3 = .ok (.istore_n 2, 1) := by decide +kernel
theorem dX6_poorest_4 : decode cX6_poorest 4 = .ok (.iload_n 2, 1) := by decide +kernel
theorem dX6_poorest_5 : decode cX6_poorest 5 = .ok (.aload_n 0, 1) := by decide +kernel
theorem dX6_poorest_6 : decode cX6_poorest 6 = .ok (.getfield 61, 3) := by decide +kernel
theorem dX6_poorest_9 : decode cX6_poorest 9 = .ok (.if_icmp .ge 30, 3) := by decide +kernel
theorem dX6_poorest_12 : decode cX6_poorest 12 = .ok (.aload_n 0, 1) := by decide +kernel
theorem dX6_poorest_13 : decode cX6_poorest 13 = .ok (.getfield 55, 3) := by decide +kernel
theorem dX6_poorest_16 : decode cX6_poorest 16 = .ok (.iload_n 2, 1) := by decide +kernel
theorem dX6_poorest_17 : decode cX6_poorest 17 = .ok (.iaload, 1) := by decide +kernel
theorem dX6_poorest_18 : decode cX6_poorest 18 = .ok (.aload_n 0, 1) := by decide +kernel
theorem dX6_poorest_19 : decode cX6_poorest 19 = .ok (.getfield 55, 3) := by decide +kernel
theorem dX6_poorest_22 : decode cX6_poorest 22 = .ok (.iload_n 1, 1) := by decide +kernel
theorem dX6_poorest_23 : decode cX6_poorest 23 = .ok (.iaload, 1) := by decide +kernel
theorem dX6_poorest_24 : decode cX6_poorest 24 = .ok (.if_icmp .ge 7, 3) := by decide +kernel
theorem dX6_poorest_27 : decode cX6_poorest 27 = .ok (.iload_n 2, 1) := by decide +kernel
theorem dX6_poorest_28 : decode cX6_poorest 28 = .ok (.goto 4, 3) := by decide +kernel
theorem dX6_poorest_31 : decode cX6_poorest 31 = .ok (.iload_n 1, 1) := by decide +kernel
theorem dX6_poorest_32 : decode cX6_poorest 32 = .ok (.istore_n 1, 1) := by decide +kernel
theorem dX6_poorest_33 : decode cX6_poorest 33 = .ok (.iinc 2 1, 3) := by decide +kernel
theorem dX6_poorest_36 : decode cX6_poorest 36 = .ok (.goto (-32), 3) := by decide +kernel
theorem dX6_poorest_39 : decode cX6_poorest 39 = .ok (.iload_n 1, 1) := by decide +kernel
theorem dX6_poorest_40 : decode cX6_poorest 40 = .ok (.ireturn, 1) := by decide +kernel
theorem dX6_power_0 : decode cX6_power 0 = .ok (.iconst 1, 1) := by decide +kernel
theorem dX6_power_1 : decode cX6_power 1 = .ok (.istore_n 2, 1) := by decide +kernel
theorem dX6_power_2 : decode cX6_power 2 = .ok (.iconst 0, 1) := by decide +kernel
theorem dX6_power_3 : decode cX6_power 3 = .ok (.istore_n 3, 1) := by decide +kernel
theorem dX6_power_4 : decode cX6_power 4 = .ok (.iload_n 3, 1) := by decide +kernel
theorem dX6_power_5 : decode cX6_power 5 = .ok (.iload_n 1, 1) := by decide +kernel
theorem dX6_power_6 : decode cX6_power 6 = .ok (.if_icmp .ge 13, 3) := by decide +kernel
theorem dX6_power_9 : decode cX6_power 9 = .ok (.iload_n 2, 1) := by decide +kernel
theorem dX6_power_10 : decode cX6_power 10 = .ok (.iload_n 0, 1) := by decide +kernel
theorem dX6_power_11 : decode cX6_power 11 = .ok (.imul, 1) := by decide +kernel
theorem dX6_power_12 : decode cX6_power 12 = .ok (.istore_n 2, 1) := by decide +kernel
theorem dX6_power_13 : decode cX6_power 13 = .ok (.iinc 3 1, 3) := by decide +kernel
theorem dX6_power_16 : decode cX6_power 16 = .ok (.goto (-12), 3) := by decide +kernel
theorem dX6_power_19 : decode cX6_power 19 = .ok (.iload_n 2, 1) := by decide +kernel
theorem dX6_power_20 : decode cX6_power 20 = .ok (.ireturn, 1) := by decide +kernel
theorem dX6_readsAll_0 : decode cX6_readsAll 0 = .ok (.iload_n 1, 1) := by decide +kernel
theorem dX6_readsAll_1 : decode cX6_readsAll 1 = .ok (.lookupswitch 116 #[(105, 51), (109, 57), (114, 83), (115, 57), (121, 109)], 51) := by decide +kernel
theorem dX6_readsAll_52 : decode cX6_readsAll 52 = .ok (.aload_n 0, 1) := by decide +kernel
theorem dX6_readsAll_53 : decode cX6_readsAll 53 = .ok (.iload_n 2, 1) := by decide +kernel
theorem dX6_readsAll_54 : decode cX6_readsAll 54 = .ok (.invokevirtual 101, 3) := by decide +kernel
theorem dX6_readsAll_57 : decode cX6_readsAll 57 = .ok (.ireturn, 1) := by decide +kernel
theorem dX6_readsAll_58 : decode cX6_readsAll 58 = .ok (.aload_n 0, 1) := by decide +kernel
theorem dX6_readsAll_59 : decode cX6_readsAll 59 = .ok (.iload_n 2, 1) := by decide +kernel
theorem dX6_readsAll_60 : decode cX6_readsAll 60 = .ok (.iconst 1, 1) := by decide +kernel
theorem dX6_readsAll_61 : decode cX6_readsAll 61 = .ok (.invokevirtual 97, 3) := by decide +kernel
theorem dX6_readsAll_64 : decode cX6_readsAll 64 = .ok (.ifCond .eq 18, 3) := by decide +kernel
theorem dX6_readsAll_67 : decode cX6_readsAll 67 = .ok (.aload_n 0, 1) := by decide +kernel
theorem dX6_readsAll_68 : decode cX6_readsAll 68 = .ok (.iload_n 2, 1) := by decide +kernel
theorem dX6_readsAll_69 : decode cX6_readsAll 69 = .ok (.iconst 1, 1) := by decide +kernel
theorem dX6_readsAll_70 : decode cX6_readsAll 70 = .ok (.iadd, 1) := by decide +kernel
theorem dX6_readsAll_71 : decode cX6_readsAll 71 = .ok (.iconst 1, 1) := by decide +kernel
theorem dX6_readsAll_72 : decode cX6_readsAll 72 = .ok (.invokevirtual 97, 3) := by decide +kernel
theorem dX6_readsAll_75 : decode cX6_readsAll 75 = .ok (.ifCond .eq 7, 3) := by decide +kernel
theorem dX6_readsAll_78 : decode cX6_readsAll 78 = .ok (.iconst 1, 1) := by decide +kernel
theorem dX6_readsAll_79 : decode cX6_readsAll 79 = .ok (.goto 4, 3) := by decide +kernel
theorem dX6_readsAll_82 : decode cX6_readsAll 82 = .ok (.iconst 0, 1) := by decide +kernel
theorem dX6_readsAll_83 : decode cX6_readsAll 83 = .ok (.ireturn, 1) := by decide +kernel
theorem dX6_readsAll_84 : decode cX6_readsAll 84 = .ok (.aload_n 0, 1) := by decide +kernel
theorem dX6_readsAll_85 : decode cX6_readsAll 85 = .ok (.iload_n 2, 1) := by decide +kernel
theorem dX6_readsAll_86 : decode cX6_readsAll 86 = .ok (.iconst 1, 1) := by decide +kernel
theorem dX6_readsAll_87 : decode cX6_readsAll 87 = .ok (.invokevirtual 97, 3) := by decide +kernel
theorem dX6_readsAll_90 : decode cX6_readsAll 90 = .ok (.ifCond .eq 18, 3) := by decide +kernel
theorem dX6_readsAll_93 : decode cX6_readsAll 93 = .ok (.aload_n 0, 1) := by decide +kernel
theorem dX6_readsAll_94 : decode cX6_readsAll 94 = .ok (.iload_n 2, 1) := by decide +kernel
theorem dX6_readsAll_95 : decode cX6_readsAll 95 = .ok (.iconst 1, 1) := by decide +kernel
theorem dX6_readsAll_96 : decode cX6_readsAll 96 = .ok (.iadd, 1) := by decide +kernel
theorem dX6_readsAll_97 : decode cX6_readsAll 97 = .ok (.iconst 2, 1) := by decide +kernel
theorem dX6_readsAll_98 : decode cX6_readsAll 98 = .ok (.invokevirtual 97, 3) := by decide +kernel
theorem dX6_readsAll_101 : decode cX6_readsAll 101 = .ok (.ifCond .eq 7, 3) := by decide +kernel
theorem dX6_readsAll_104 : decode cX6_readsAll 104 = .ok (.iconst 1, 1) := by decide +kernel
theorem dX6_readsAll_105 : decode cX6_readsAll 105 = .ok (.goto 4, 3) := by decide +kernel
theorem dX6_readsAll_108 : decode cX6_readsAll 108 = .ok (.iconst 0, 1) := by decide +kernel
theorem dX6_readsAll_109 : decode cX6_readsAll 109 = .ok (.ireturn, 1) := by decide +kernel
theorem dX6_readsAll_110 : decode cX6_readsAll 110 = .ok (.aload_n 0, 1) := by decide +kernel
theorem dX6_readsAll_111 : decode cX6_readsAll 111 = .ok (.iload_n 2, 1) := by decide +kernel
theorem dX6_readsAll_112 : decode cX6_readsAll 112 = .ok (.iconst 2, 1) := by decide +kernel
theorem dX6_readsAll_113 : decode cX6_readsAll 113 = .ok (.invokevirtual 97, 3) := by decide +kernel
theorem dX6_readsAll_116 : decode cX6_readsAll 116 = .ok (.ireturn, 1) := by decide +kernel
theorem dX6_readsAll_117 : decode cX6_readsAll 117 = .ok (.aload_n 0, 1) := by decide +kernel
theorem dX6_readsAll_118 : decode cX6_readsAll 118 = .ok (.iload_n 2, 1) := by decide +kernel
theorem dX6_readsAll_119 : decode cX6_readsAll 119 = .ok (.iconst 1, 1) := by decide +kernel
theorem dX6_readsAll_120 : decode cX6_readsAll 120 = .ok (.invokevirtual 97, 3) := by decide +kernel
theorem dX6_readsAll_123 : decode cX6_readsAll 123 = .ok (.ireturn, 1) := by decide +kernel
theorem dX6_readsDigits_0 : decode cX6_readsDigits 0 = .ok (.iconst 0, 1) := by decide +kernel
theorem dX6_readsDigits_1 : decode cX6_readsDigits 1 = .ok (.istore_n 3, 1) := by decide +kernel
theorem dX6_readsDigits_2 : decode cX6_readsDigits 2 = .ok (.iconst 0, 1) := by decide +kernel
theorem dX6_readsDigits_3 : decode cX6_readsDigits 3 = .ok (.istore 4, 2) := by decide +kernel
theorem dX6_readsDigits_5 : decode cX6_readsDigits 5 = .ok (.iload 4, 2) := by decide +kernel
theorem dX6_readsDigits_7 : decode cX6_readsDigits 7 = .ok (.iload_n 2, 1) := by decide +kernel
theorem dX6_readsDigits_8 : decode cX6_readsDigits 8 = .ok (.if_icmp .ge 48, 3) := by decide +kernel
theorem dX6_readsDigits_11 : decode cX6_readsDigits 11 = .ok (.aload_n 0, 1) := by decide +kernel
theorem dX6_readsDigits_12 : decode cX6_readsDigits 12 = .ok (.invokevirtual 86, 3) := by decide +kernel
theorem dX6_readsDigits_15 : decode cX6_readsDigits 15 = .ok (.bipush 48, 2) := by decide +kernel
theorem dX6_readsDigits_17 : decode cX6_readsDigits 17 = .ok (.bipush 57, 2) := by decide +kernel
theorem dX6_readsDigits_19 : decode cX6_readsDigits 19 = .ok (.invokestatic 90, 3) := by decide +kernel
theorem dX6_readsDigits_22 : decode cX6_readsDigits 22 = .ok (.ifCond .ne 5, 3) := by decide +kernel
theorem dX6_readsDigits_25 : decode cX6_readsDigits 25 = .ok (.iconst 0, 1) := by decide +kernel
theorem dX6_readsDigits_26 : decode cX6_readsDigits 26 = .ok (.ireturn, 1) := by decide +kernel
theorem dX6_readsDigits_27 : decode cX6_readsDigits 27 = .ok (.bipush 10, 2) := by decide +kernel
theorem dX6_readsDigits_29 : decode cX6_readsDigits 29 = .ok (.iload_n 3, 1) := by decide +kernel
theorem dX6_readsDigits_30 : decode cX6_readsDigits 30 = .ok (.imul, 1) := by decide +kernel
theorem dX6_readsDigits_31 : decode cX6_readsDigits 31 = .ok (.aload_n 0, 1) := by decide +kernel
theorem dX6_readsDigits_32 : decode cX6_readsDigits 32 = .ok (.invokevirtual 86, 3) := by decide +kernel
theorem dX6_readsDigits_35 : decode cX6_readsDigits 35 = .ok (.iadd, 1) := by decide +kernel
theorem dX6_readsDigits_36 : decode cX6_readsDigits 36 = .ok (.bipush 48, 2) := by decide +kernel
theorem dX6_readsDigits_38 : decode cX6_readsDigits 38 = .ok (.isub, 1) := by decide +kernel
theorem dX6_readsDigits_39 : decode cX6_readsDigits 39 = .ok (.istore_n 3, 1) := by decide +kernel
theorem dX6_readsDigits_40 : decode cX6_readsDigits 40 = .ok (.aload_n 0, 1) := by decide +kernel
theorem dX6_readsDigits_41 : decode cX6_readsDigits 41 = .ok (.dup, 1) := by decide +kernel
theorem dX6_readsDigits_42 : decode cX6_readsDigits 42 = .ok (.getfield 83, 3) := by decide +kernel
theorem dX6_readsDigits_45 : decode cX6_readsDigits 45 = .ok (.iconst 1, 1) := by decide +kernel
theorem dX6_readsDigits_46 : decode cX6_readsDigits 46 = .ok (.iadd, 1) := by decide +kernel
theorem dX6_readsDigits_47 : decode cX6_readsDigits 47 = .ok (.putfield 83, 3) := by decide +kernel
theorem dX6_readsDigits_50 : decode cX6_readsDigits 50 = .ok (.iinc 4 1, 3) := by decide +kernel
theorem dX6_readsDigits_53 : decode cX6_readsDigits 53 = .ok (.goto (-48), 3) := by decide +kernel
theorem dX6_readsDigits_56 : decode cX6_readsDigits 56 = .ok (.aload_n 0, 1) := by decide +kernel
theorem dX6_readsDigits_57 : decode cX6_readsDigits 57 = .ok (.getfield 43, 3) := by decide +kernel
theorem dX6_readsDigits_60 : decode cX6_readsDigits 60 = .ok (.iload_n 1, 1) := by decide +kernel
theorem dX6_readsDigits_61 : decode cX6_readsDigits 61 = .ok (.iload_n 3, 1) := by decide +kernel
theorem dX6_readsDigits_62 : decode cX6_readsDigits 62 = .ok (.iastore, 1) := by decide +kernel
theorem dX6_readsDigits_63 : decode cX6_readsDigits 63 = .ok (.iconst 1, 1) := by decide +kernel
theorem dX6_readsDigits_64 : decode cX6_readsDigits 64 = .ok (.ireturn, 1) := by decide +kernel
theorem dX6_readsPiece_0 : decode cX6_readsPiece 0 = .ok (.aload_n 0, 1) := by decide +kernel
theorem dX6_readsPiece_1 : decode cX6_readsPiece 1 = .ok (.getfield 43, 3) := by decide +kernel
theorem dX6_readsPiece_4 : decode cX6_readsPiece 4 = .ok (.iload_n 1, 1) := by decide +kernel
theorem dX6_readsPiece_5 : decode cX6_readsPiece 5 = .ok (.aload_n 0, 1) := by decide +kernel
theorem dX6_readsPiece_6 : decode cX6_readsPiece 6 = .ok (.invokevirtual 86, 3) := by decide +kernel
theorem dX6_readsPiece_9 : decode cX6_readsPiece 9 = .ok (.invokestatic 94, 3) := by decide +kernel
theorem dX6_readsPiece_12 : decode cX6_readsPiece 12 = .ok (.iastore, 1) := by decide +kernel
theorem dX6_readsPiece_13 : decode cX6_readsPiece 13 = .ok (.aload_n 0, 1) := by decide +kernel
theorem dX6_readsPiece_14 : decode cX6_readsPiece 14 = .ok (.getfield 43, 3) := by decide +kernel
theorem dX6_readsPiece_17 : decode cX6_readsPiece 17 = .ok (.iload_n 1, 1) := by decide +kernel
theorem dX6_readsPiece_18 : decode cX6_readsPiece 18 = .ok (.iaload, 1) := by decide +kernel
theorem dX6_readsPiece_19 : decode cX6_readsPiece 19 = .ok (.ifCond .ge 5, 3) := by decide +kernel
theorem dX6_readsPiece_22 : decode cX6_readsPiece 22 = .ok (.iconst 0, 1) := by decide +kernel
theorem dX6_readsPiece_23 : decode cX6_readsPiece 23 = .ok (.ireturn, 1) := by decide +kernel
theorem dX6_readsPiece_24 : decode cX6_readsPiece 24 = .ok (.aload_n 0, 1) := by decide +kernel
theorem dX6_readsPiece_25 : decode cX6_readsPiece 25 = .ok (.dup, 1) := by decide +kernel
theorem dX6_readsPiece_26 : decode cX6_readsPiece 26 = .ok (.getfield 83, 3) := by decide +kernel
theorem dX6_readsPiece_29 : decode cX6_readsPiece 29 = .ok (.iconst 1, 1) := by decide +kernel
theorem dX6_readsPiece_30 : decode cX6_readsPiece 30 = .ok (.iadd, 1) := by decide +kernel
theorem dX6_readsPiece_31 : decode cX6_readsPiece 31 = .ok (.putfield 83, 3) := by decide +kernel
theorem dX6_readsPiece_34 : decode cX6_readsPiece 34 = .ok (.aload_n 0, 1) := by decide +kernel
theorem dX6_readsPiece_35 : decode cX6_readsPiece 35 = .ok (.iload_n 1, 1) := by decide +kernel
theorem dX6_readsPiece_36 : decode cX6_readsPiece 36 = .ok (.iconst 1, 1) := by decide +kernel
theorem dX6_readsPiece_37 : decode cX6_readsPiece 37 = .ok (.iadd, 1) := by decide +kernel
theorem dX6_readsPiece_38 : decode cX6_readsPiece 38 = .ok (.iconst 1, 1) := by decide +kernel
theorem dX6_readsPiece_39 : decode cX6_readsPiece 39 = .ok (.invokevirtual 97, 3) := by decide +kernel
theorem dX6_readsPiece_42 : decode cX6_readsPiece 42 = .ok (.ifCond .eq 29, 3) := by decide +kernel
theorem dX6_readsPiece_45 : decode cX6_readsPiece 45 = .ok (.aload_n 0, 1) := by decide +kernel
theorem dX6_readsPiece_46 : decode cX6_readsPiece 46 = .ok (.iload_n 1, 1) := by decide +kernel
theorem dX6_readsPiece_47 : decode cX6_readsPiece 47 = .ok (.iconst 2, 1) := by decide +kernel
theorem dX6_readsPiece_48 : decode cX6_readsPiece 48 = .ok (.iadd, 1) := by decide +kernel
theorem dX6_readsPiece_49 : decode cX6_readsPiece 49 = .ok (.iconst 1, 1) := by decide +kernel
theorem dX6_readsPiece_50 : decode cX6_readsPiece 50 = .ok (.invokevirtual 97, 3) := by decide +kernel
theorem dX6_readsPiece_53 : decode cX6_readsPiece 53 = .ok (.ifCond .eq 18, 3) := by decide +kernel
theorem dX6_readsPiece_56 : decode cX6_readsPiece 56 = .ok (.aload_n 0, 1) := by decide +kernel
theorem dX6_readsPiece_57 : decode cX6_readsPiece 57 = .ok (.iload_n 1, 1) := by decide +kernel
theorem dX6_readsPiece_58 : decode cX6_readsPiece 58 = .ok (.iconst 3, 1) := by decide +kernel
theorem dX6_readsPiece_59 : decode cX6_readsPiece 59 = .ok (.iadd, 1) := by decide +kernel
theorem dX6_readsPiece_60 : decode cX6_readsPiece 60 = .ok (.iconst 2, 1) := by decide +kernel
theorem dX6_readsPiece_61 : decode cX6_readsPiece 61 = .ok (.invokevirtual 97, 3) := by decide +kernel
theorem dX6_readsPiece_64 : decode cX6_readsPiece 64 = .ok (.ifCond .eq 7, 3) := by decide +kernel
theorem dX6_readsPiece_67 : decode cX6_readsPiece 67 = .ok (.iconst 1, 1) := by decide +kernel
theorem dX6_readsPiece_68 : decode cX6_readsPiece 68 = .ok (.goto 4, 3) := by decide +kernel
theorem dX6_readsPiece_71 : decode cX6_readsPiece 71 = .ok (.iconst 0, 1) := by decide +kernel
theorem dX6_readsPiece_72 : decode cX6_readsPiece 72 = .ok (.ireturn, 1) := by decide +kernel
theorem dX6_roomsUsed_0 : decode cX6_roomsUsed 0 = .ok (.iconst 0, 1) := by decide +kernel
theorem dX6_roomsUsed_1 : decode cX6_roomsUsed 1 = .ok (.istore_n 1, 1) := by decide +kernel
theorem dX6_roomsUsed_2 : decode cX6_roomsUsed 2 = .ok (.iconst 0, 1) := by decide +kernel
theorem dX6_roomsUsed_3 : decode cX6_roomsUsed 3 = .ok (.istore_n 2, 1) := by decide +kernel
theorem dX6_roomsUsed_4 : decode cX6_roomsUsed 4 = .ok (.iload_n 2, 1) := by decide +kernel
theorem dX6_roomsUsed_5 : decode cX6_roomsUsed 5 = .ok (.aload_n 0, 1) := by decide +kernel
theorem dX6_roomsUsed_6 : decode cX6_roomsUsed 6 = .ok (.getfield 65, 3) := by decide +kernel
theorem dX6_roomsUsed_9 : decode cX6_roomsUsed 9 = .ok (.if_icmp .ge 20, 3) := by decide +kernel
theorem dX6_roomsUsed_12 : decode cX6_roomsUsed 12 = .ok (.iload_n 1, 1) := by decide +kernel
theorem dX6_roomsUsed_13 : decode cX6_roomsUsed 13 = .ok (.iconst 1, 1) := by decide +kernel
theorem dX6_roomsUsed_14 : decode cX6_roomsUsed 14 = .ok (.aload_n 0, 1) := by decide +kernel
theorem dX6_roomsUsed_15 : decode cX6_roomsUsed 15 = .ok (.getfield 31, 3) := by decide +kernel
theorem dX6_roomsUsed_18 : decode cX6_roomsUsed 18 = .ok (.iload_n 2, 1) := by decide +kernel
theorem dX6_roomsUsed_19 : decode cX6_roomsUsed 19 = .ok (.iaload, 1) := by decide +kernel
theorem dX6_roomsUsed_20 : decode cX6_roomsUsed 20 = .ok (.ishl, 1) := by decide +kernel
theorem dX6_roomsUsed_21 : decode cX6_roomsUsed 21 = .ok (.ior, 1) := by decide +kernel
theorem dX6_roomsUsed_22 : decode cX6_roomsUsed 22 = .ok (.istore_n 1, 1) := by decide +kernel
theorem dX6_roomsUsed_23 : decode cX6_roomsUsed 23 = .ok (.iinc 2 1, 3) := by decide +kernel
theorem dX6_roomsUsed_26 : decode cX6_roomsUsed 26 = .ok (.goto (-22), 3) := by decide +kernel
theorem dX6_roomsUsed_29 : decode cX6_roomsUsed 29 = .ok (.iload_n 1, 1) := by decide +kernel
theorem dX6_roomsUsed_30 : decode cX6_roomsUsed 30 = .ok (.invokestatic 184, 3) := by decide +kernel
theorem dX6_roomsUsed_33 : decode cX6_roomsUsed 33 = .ok (.ireturn, 1) := by decide +kernel
theorem dX6_row_0 : decode cX6_row 0 = .ok (.iload_n 1, 1) := by decide +kernel
theorem dX6_row_1 : decode cX6_row 1 = .ok (.iconst 0, 1) := by decide +kernel
theorem dX6_row_2 : decode cX6_row 2 = .ok (.bipush 99, 2) := by decide +kernel
theorem dX6_row_4 : decode cX6_row 4 = .ok (.invokestatic 72, 3) := by decide +kernel
theorem dX6_row_7 : decode cX6_row 7 = .ok (.istore_n 2, 1) := by decide +kernel
theorem dX6_row_8 : decode cX6_row 8 = .ok (.iload_n 2, 1) := by decide +kernel
theorem dX6_row_9 : decode cX6_row 9 = .ok (.ifCond .ne 15, 3) := by decide +kernel
theorem dX6_row_12 : decode cX6_row 12 = .ok (.aload_n 0, 1) := by decide +kernel
theorem dX6_row_13 : decode cX6_row 13 = .ok (.getfield 249, 3) := by decide +kernel
theorem dX6_row_16 : decode cX6_row 16 = .ok (.bipush 12, 2) := by decide +kernel
theorem dX6_row_18 : decode cX6_row 18 = .ok (.if_icmp .ne 6, 3) := by decide +kernel
theorem dX6_row_21 : decode cX6_row 21 = .ok (.bipush (-6), 2) := by decide +kernel
theorem dX6_row_23 : decode cX6_row 23 = .ok (.istore_n 2, 1) := by decide +kernel
theorem dX6_row_24 : decode cX6_row 24 = .ok (.iload_n 2, 1) := by decide +kernel
theorem dX6_row_25 : decode cX6_row 25 = .ok (.ifCond .eq 9, 3) := by decide +kernel
theorem dX6_row_28 : decode cX6_row 28 = .ok (.aload_n 0, 1) := by decide +kernel
theorem dX6_row_29 : decode cX6_row 29 = .ok (.iload_n 2, 1) := by decide +kernel
theorem dX6_row_30 : decode cX6_row 30 = .ok (.invokevirtual 79, 3) := by decide +kernel
theorem dX6_row_33 : decode cX6_row 33 = .ok (.ireturn, 1) := by decide +kernel
theorem dX6_row_34 : decode cX6_row 34 = .ok (.aload_n 0, 1) := by decide +kernel
theorem dX6_row_35 : decode cX6_row 35 = .ok (.getfield 58, 3) := by decide +kernel
theorem dX6_row_38 : decode cX6_row 38 = .ok (.aload_n 0, 1) := by decide +kernel
theorem dX6_row_39 : decode cX6_row 39 = .ok (.getfield 249, 3) := by decide +kernel
theorem dX6_row_42 : decode cX6_row 42 = .ok (.iload_n 1, 1) := by decide +kernel
theorem dX6_row_43 : decode cX6_row 43 = .ok (.iastore, 1) := by decide +kernel
theorem dX6_row_44 : decode cX6_row 44 = .ok (.aload_n 0, 1) := by decide +kernel
theorem dX6_row_45 : decode cX6_row 45 = .ok (.dup, 1) := by decide +kernel
theorem dX6_row_46 : decode cX6_row 46 = .ok (.getfield 249, 3) := by decide +kernel
theorem dX6_row_49 : decode cX6_row 49 = .ok (.iconst 1, 1) := by decide +kernel
theorem dX6_row_50 : decode cX6_row 50 = .ok (.iadd, 1) := by decide +kernel
theorem dX6_row_51 : decode cX6_row 51 = .ok (.putfield 249, 3) := by decide +kernel
theorem dX6_row_54 : decode cX6_row 54 = .ok (.aload_n 0, 1) := by decide +kernel
theorem dX6_row_55 : decode cX6_row 55 = .ok (.getfield 249, 3) := by decide +kernel
theorem dX6_row_58 : decode cX6_row 58 = .ok (.ireturn, 1) := by decide +kernel
theorem dX6_sell_0 : decode cX6_sell 0 = .ok (.iload_n 1, 1) := by decide +kernel
theorem dX6_sell_1 : decode cX6_sell 1 = .ok (.iconst 0, 1) := by decide +kernel
theorem dX6_sell_2 : decode cX6_sell 2 = .ok (.iconst 1, 1) := by decide +kernel
theorem dX6_sell_3 : decode cX6_sell 3 = .ok (.invokestatic 90, 3) := by decide +kernel
theorem dX6_sell_6 : decode cX6_sell 6 = .ok (.ifCond .ne 10, 3) := by decide +kernel
theorem dX6_sell_9 : decode cX6_sell 9 = .ok (.aload_n 0, 1) := by decide +kernel
theorem dX6_sell_10 : decode cX6_sell 10 = .ok (.bipush (-2), 2) := by decide +kernel
theorem dX6_sell_12 : decode cX6_sell 12 = .ok (.invokevirtual 79, 3) := by decide +kernel
theorem dX6_sell_15 : decode cX6_sell 15 = .ok (.ireturn, 1) := by decide +kernel
theorem dX6_sell_16 : decode cX6_sell 16 = .ok (.bipush (-9), 2) := by decide +kernel
theorem dX6_sell_18 : decode cX6_sell 18 = .ok (.istore_n 2, 1) := by decide +kernel
theorem dX6_sell_19 : decode cX6_sell 19 = .ok (.bipush (-9), 2) := by decide +kernel
theorem dX6_sell_21 : decode cX6_sell 21 = .ok (.istore_n 3, 1) := by decide +kernel
theorem dX6_sell_22 : decode cX6_sell 22 = .ok (.iconst 0, 1) := by decide +kernel
theorem dX6_sell_23 : decode cX6_sell 23 = .ok (.istore 4, 2) := by decide +kernel
theorem dX6_sell_25 : decode cX6_sell 25 = .ok (.iload 4, 2) := by decide +kernel
theorem dX6_sell_27 : decode cX6_sell 27 = .ok (.aload_n 0, 1) := by decide +kernel
theorem dX6_sell_28 : decode cX6_sell 28 = .ok (.getfield 65, 3) := by decide +kernel
theorem dX6_sell_31 : decode cX6_sell 31 = .ok (.if_icmp .ge 38, 3) := by decide +kernel
theorem dX6_sell_34 : decode cX6_sell 34 = .ok (.aload_n 0, 1) := by decide +kernel
theorem dX6_sell_35 : decode cX6_sell 35 = .ok (.iload 4, 2) := by decide +kernel
theorem dX6_sell_37 : decode cX6_sell 37 = .ok (.bipush (-9), 2) := by decide +kernel
theorem dX6_sell_39 : decode cX6_sell 39 = .ok (.invokevirtual 234, 3) := by decide +kernel
theorem dX6_sell_42 : decode cX6_sell 42 = .ok (.istore 5, 2) := by decide +kernel
theorem dX6_sell_44 : decode cX6_sell 44 = .ok (.iload_n 2, 1) := by decide +kernel
theorem dX6_sell_45 : decode cX6_sell 45 = .ok (.ifCond .lt 12, 3) := by decide +kernel
theorem dX6_sell_48 : decode cX6_sell 48 = .ok (.iload 5, 2) := by decide +kernel
theorem dX6_sell_50 : decode cX6_sell 50 = .ok (.iload_n 3, 1) := by decide +kernel
theorem dX6_sell_51 : decode cX6_sell 51 = .ok (.if_icmp .lt 6, 3) := by decide +kernel
theorem dX6_sell_54 : decode cX6_sell 54 = .ok (.goto 9, 3) := by decide +kernel
theorem dX6_sell_57 : decode cX6_sell 57 = .ok (.iload 4, 2) := by decide +kernel
theorem dX6_sell_59 : decode cX6_sell 59 = .ok (.istore_n 2, 1) := by decide +kernel
theorem dX6_sell_60 : decode cX6_sell 60 = .ok (.iload 5, 2) := by decide +kernel
theorem dX6_sell_62 : decode cX6_sell 62 = .ok (.istore_n 3, 1) := by decide +kernel
theorem dX6_sell_63 : decode cX6_sell 63 = .ok (.iinc 4 1, 3) := by decide +kernel
theorem dX6_sell_66 : decode cX6_sell 66 = .ok (.goto (-41), 3) := by decide +kernel
theorem dX6_sell_69 : decode cX6_sell 69 = .ok (.iload_n 1, 1) := by decide +kernel
theorem dX6_sell_70 : decode cX6_sell 70 = .ok (.ifCond .ne 7, 3) := by decide +kernel
theorem dX6_sell_73 : decode cX6_sell 73 = .ok (.iload_n 2, 1) := by decide +kernel
theorem dX6_sell_74 : decode cX6_sell 74 = .ok (.goto 4, 3) := by decide +kernel
theorem dX6_sell_77 : decode cX6_sell 77 = .ok (.iload_n 3, 1) := by decide +kernel
theorem dX6_sell_78 : decode cX6_sell 78 = .ok (.ireturn, 1) := by decide +kernel
theorem dX6_shares_0 : decode cX6_shares 0 = .ok (.aload_n 0, 1) := by decide +kernel
theorem dX6_shares_1 : decode cX6_shares 1 = .ok (.iload_n 1, 1) := by decide +kernel
theorem dX6_shares_2 : decode cX6_shares 2 = .ok (.invokevirtual 216, 3) := by decide +kernel
theorem dX6_shares_5 : decode cX6_shares 5 = .ok (.istore_n 2, 1) := by decide +kernel
theorem dX6_shares_6 : decode cX6_shares 6 = .ok (.iload_n 2, 1) := by decide +kernel
theorem dX6_shares_7 : decode cX6_shares 7 = .ok (.ifCond .eq 9, 3) := by decide +kernel
theorem dX6_shares_10 : decode cX6_shares 10 = .ok (.aload_n 0, 1) := by decide +kernel
theorem dX6_shares_11 : decode cX6_shares 11 = .ok (.iload_n 2, 1) := by decide +kernel
theorem dX6_shares_12 : decode cX6_shares 12 = .ok (.invokevirtual 79, 3) := by decide +kernel
theorem dX6_shares_15 : decode cX6_shares 15 = .ok (.ireturn, 1) := by decide +kernel
theorem dX6_shares_16 : decode cX6_shares 16 = .ok (.aload_n 0, 1) := by decide +kernel
theorem dX6_shares_17 : decode cX6_shares 17 = .ok (.invokevirtual 219, 3) := by decide +kernel
theorem dX6_shares_20 : decode cX6_shares 20 = .ok (.istore_n 3, 1) := by decide +kernel
theorem dX6_shares_21 : decode cX6_shares 21 = .ok (.iload_n 1, 1) := by decide +kernel
theorem dX6_shares_22 : decode cX6_shares 22 = .ok (.ifCond .ge 7, 3) := by decide +kernel
theorem dX6_shares_25 : decode cX6_shares 25 = .ok (.iload_n 3, 1) := by decide +kernel
theorem dX6_shares_26 : decode cX6_shares 26 = .ok (.goto 9, 3) := by decide +kernel
theorem dX6_shares_29 : decode cX6_shares 29 = .ok (.aload_n 0, 1) := by decide +kernel
theorem dX6_shares_30 : decode cX6_shares 30 = .ok (.getfield 52, 3) := by decide +kernel
theorem dX6_shares_33 : decode cX6_shares 33 = .ok (.iload_n 1, 1) := by decide +kernel
theorem dX6_shares_34 : decode cX6_shares 34 = .ok (.iaload, 1) := by decide +kernel
theorem dX6_shares_35 : decode cX6_shares 35 = .ok (.ireturn, 1) := by decide +kernel
theorem dX6_sharesBy_0 : decode cX6_sharesBy 0 = .ok (.iload_n 1, 1) := by decide +kernel
theorem dX6_sharesBy_1 : decode cX6_sharesBy 1 = .ok (.istore_n 2, 1) := by decide +kernel
theorem dX6_sharesBy_2 : decode cX6_sharesBy 2 = .ok (.aload_n 0, 1) := by decide +kernel
theorem dX6_sharesBy_3 : decode cX6_sharesBy 3 = .ok (.getfield 65, 3) := by decide +kernel
theorem dX6_sharesBy_6 : decode cX6_sharesBy 6 = .ok (.iconst 1, 1) := by decide +kernel
theorem dX6_sharesBy_7 : decode cX6_sharesBy 7 = .ok (.isub, 1) := by decide +kernel
theorem dX6_sharesBy_8 : decode cX6_sharesBy 8 = .ok (.istore_n 3, 1) := by decide +kernel
theorem dX6_sharesBy_9 : decode cX6_sharesBy 9 = .ok (.iload_n 3, 1) := by decide +kernel
theorem dX6_sharesBy_10 : decode cX6_sharesBy 10 = .ok (.ifCond .lt 28, 3) := by decide +kernel
theorem dX6_sharesBy_13 : decode cX6_sharesBy 13 = .ok (.aload_n 0, 1) := by decide +kernel
theorem dX6_sharesBy_14 : decode cX6_sharesBy 14 = .ok (.getfield 52, 3) := by decide +kernel
theorem dX6_sharesBy_17 : decode cX6_sharesBy 17 = .ok (.iload_n 3, 1) := by decide +kernel
theorem dX6_sharesBy_18 : decode cX6_sharesBy 18 = .ok (.iload_n 2, 1) := by decide +kernel
theorem dX6_sharesBy_19 : decode cX6_sharesBy 19 = .ok (.aload_n 0, 1) := by decide +kernel
theorem dX6_sharesBy_20 : decode cX6_sharesBy 20 = .ok (.getfield 61, 3) := by decide +kernel
theorem dX6_sharesBy_23 : decode cX6_sharesBy 23 = .ok (.irem, 1) := by decide +kernel
theorem dX6_sharesBy_24 : decode cX6_sharesBy 24 = .ok (.iastore, 1) := by decide +kernel
theorem dX6_sharesBy_25 : decode cX6_sharesBy 25 = .ok (.iload_n 2, 1) := by decide +kernel
theorem dX6_sharesBy_26 : decode cX6_sharesBy 26 = .ok (.aload_n 0, 1) := by decide +kernel
theorem dX6_sharesBy_27 : decode cX6_sharesBy 27 = .ok (.getfield 61, 3) := by decide +kernel
theorem dX6_sharesBy_30 : decode cX6_sharesBy 30 = .ok (.idiv, 1) := by decide +kernel
theorem dX6_sharesBy_31 : decode cX6_sharesBy 31 = .ok (.istore_n 2, 1) := by decide +kernel
theorem dX6_sharesBy_32 : decode cX6_sharesBy 32 = .ok (.iinc 3 (-1), 3) := by decide +kernel
theorem dX6_sharesBy_35 : decode cX6_sharesBy 35 = .ok (.goto (-26), 3) := by decide +kernel
theorem dX6_sharesBy_38 : decode cX6_sharesBy 38 = .ok (.aload_n 0, 1) := by decide +kernel
theorem dX6_sharesBy_39 : decode cX6_sharesBy 39 = .ok (.invokevirtual 207, 3) := by decide +kernel
theorem dX6_sharesBy_42 : decode cX6_sharesBy 42 = .ok (.return_, 1) := by decide +kernel
theorem dX6_size_0 : decode cX6_size 0 = .ok (.iload_n 1, 1) := by decide +kernel
theorem dX6_size_1 : decode cX6_size 1 = .ok (.invokestatic 68, 3) := by decide +kernel
theorem dX6_size_4 : decode cX6_size 4 = .ok (.ifCond .ne 7, 3) := by decide +kernel
theorem dX6_size_7 : decode cX6_size 7 = .ok (.iconst (-1), 1) := by decide +kernel
theorem dX6_size_8 : decode cX6_size 8 = .ok (.goto 10, 3) := by decide +kernel
theorem dX6_size_11 : decode cX6_size 11 = .ok (.iload_n 2, 1) := by decide +kernel
theorem dX6_size_12 : decode cX6_size 12 = .ok (.iconst 0, 1) := by decide +kernel
theorem dX6_size_13 : decode cX6_size 13 = .ok (.bipush 20, 2) := by decide +kernel
theorem dX6_size_15 : decode cX6_size 15 = .ok (.invokestatic 72, 3) := by decide +kernel
theorem dX6_size_18 : decode cX6_size 18 = .ok (.istore_n 3, 1) := by decide +kernel
theorem dX6_size_19 : decode cX6_size 19 = .ok (.iload_n 3, 1) := by decide +kernel
theorem dX6_size_20 : decode cX6_size 20 = .ok (.ifCond .ne 15, 3) := by decide +kernel
theorem dX6_size_23 : decode cX6_size 23 = .ok (.iload_n 2, 1) := by decide +kernel
theorem dX6_size_24 : decode cX6_size 24 = .ok (.aload_n 0, 1) := by decide +kernel
theorem dX6_size_25 : decode cX6_size 25 = .ok (.iload_n 1, 1) := by decide +kernel
theorem dX6_size_26 : decode cX6_size 26 = .ok (.invokevirtual 125, 3) := by decide +kernel
theorem dX6_size_29 : decode cX6_size 29 = .ok (.if_icmp .ge 6, 3) := by decide +kernel
theorem dX6_size_32 : decode cX6_size 32 = .ok (.bipush (-3), 2) := by decide +kernel
theorem dX6_size_34 : decode cX6_size 34 = .ok (.istore_n 3, 1) := by decide +kernel
theorem dX6_size_35 : decode cX6_size 35 = .ok (.iload_n 3, 1) := by decide +kernel
theorem dX6_size_36 : decode cX6_size 36 = .ok (.ifCond .eq 9, 3) := by decide +kernel
theorem dX6_size_39 : decode cX6_size 39 = .ok (.aload_n 0, 1) := by decide +kernel
theorem dX6_size_40 : decode cX6_size 40 = .ok (.iload_n 3, 1) := by decide +kernel
theorem dX6_size_41 : decode cX6_size 41 = .ok (.invokevirtual 79, 3) := by decide +kernel
theorem dX6_size_44 : decode cX6_size 44 = .ok (.ireturn, 1) := by decide +kernel
theorem dX6_size_45 : decode cX6_size 45 = .ok (.aload_n 0, 1) := by decide +kernel
theorem dX6_size_46 : decode cX6_size 46 = .ok (.getfield 13, 3) := by decide +kernel
theorem dX6_size_49 : decode cX6_size 49 = .ok (.iload_n 1, 1) := by decide +kernel
theorem dX6_size_50 : decode cX6_size 50 = .ok (.iaload, 1) := by decide +kernel
theorem dX6_size_51 : decode cX6_size 51 = .ok (.istore 4, 2) := by decide +kernel
theorem dX6_size_53 : decode cX6_size 53 = .ok (.aload_n 0, 1) := by decide +kernel
theorem dX6_size_54 : decode cX6_size 54 = .ok (.getfield 13, 3) := by decide +kernel
theorem dX6_size_57 : decode cX6_size 57 = .ok (.iload_n 1, 1) := by decide +kernel
theorem dX6_size_58 : decode cX6_size 58 = .ok (.iload_n 2, 1) := by decide +kernel
theorem dX6_size_59 : decode cX6_size 59 = .ok (.iastore, 1) := by decide +kernel
theorem dX6_size_60 : decode cX6_size 60 = .ok (.iload 4, 2) := by decide +kernel
theorem dX6_size_62 : decode cX6_size 62 = .ok (.ireturn, 1) := by decide +kernel
theorem dX6_stands_0 : decode cX6_stands 0 = .ok (.aload_n 0, 1) := by decide +kernel
theorem dX6_stands_1 : decode cX6_stands 1 = .ok (.iload_n 1, 1) := by decide +kernel
theorem dX6_stands_2 : decode cX6_stands 2 = .ok (.invokevirtual 116, 3) := by decide +kernel
theorem dX6_stands_5 : decode cX6_stands 5 = .ok (.ifCond .eq 10, 3) := by decide +kernel
theorem dX6_stands_8 : decode cX6_stands 8 = .ok (.iload_n 2, 1) := by decide +kernel
theorem dX6_stands_9 : decode cX6_stands 9 = .ok (.invokestatic 119, 3) := by decide +kernel
theorem dX6_stands_12 : decode cX6_stands 12 = .ok (.ifCond .ne 9, 3) := by decide +kernel
theorem dX6_stands_15 : decode cX6_stands 15 = .ok (.aload_n 0, 1) := by decide +kernel
theorem dX6_stands_16 : decode cX6_stands 16 = .ok (.iconst (-1), 1) := by decide +kernel
theorem dX6_stands_17 : decode cX6_stands 17 = .ok (.invokevirtual 79, 3) := by decide +kernel
theorem dX6_stands_20 : decode cX6_stands 20 = .ok (.ireturn, 1) := by decide +kernel
theorem dX6_stands_21 : decode cX6_stands 21 = .ok (.aload_n 0, 1) := by decide +kernel
theorem dX6_stands_22 : decode cX6_stands 22 = .ok (.iload_n 1, 1) := by decide +kernel
theorem dX6_stands_23 : decode cX6_stands 23 = .ok (.iload_n 2, 1) := by decide +kernel
theorem dX6_stands_24 : decode cX6_stands 24 = .ok (.invokevirtual 122, 3) := by decide +kernel
theorem dX6_stands_27 : decode cX6_stands 27 = .ok (.ifCond .eq 7, 3) := by decide +kernel
theorem dX6_stands_30 : decode cX6_stands 30 = .ok (.iconst 1, 1) := by decide +kernel
theorem dX6_stands_31 : decode cX6_stands 31 = .ok (.goto 4, 3) := by decide +kernel
theorem dX6_stands_34 : decode cX6_stands 34 = .ok (.iconst 0, 1) := by decide +kernel
theorem dX6_stands_35 : decode cX6_stands 35 = .ok (.ireturn, 1) := by decide +kernel
theorem dX6_statement_0 : decode cX6_statement 0 = .ok (.aload_n 0, 1) := by decide +kernel
theorem dX6_statement_1 : decode cX6_statement 1 = .ok (.invokevirtual 86, 3) := by decide +kernel
theorem dX6_statement_4 : decode cX6_statement 4 = .ok (.istore_n 1, 1) := by decide +kernel
theorem dX6_statement_5 : decode cX6_statement 5 = .ok (.iload_n 1, 1) := by decide +kernel
theorem dX6_statement_6 : decode cX6_statement 6 = .ok (.invokestatic 104, 3) := by decide +kernel
theorem dX6_statement_9 : decode cX6_statement 9 = .ok (.ifCond .ne 5, 3) := by decide +kernel
theorem dX6_statement_12 : decode cX6_statement 12 = .ok (.iconst 0, 1) := by decide +kernel
theorem dX6_statement_13 : decode cX6_statement 13 = .ok (.ireturn, 1) := by decide +kernel
theorem dX6_statement_14 : decode cX6_statement 14 = .ok (.aload_n 0, 1) := by decide +kernel
theorem dX6_statement_15 : decode cX6_statement 15 = .ok (.getfield 37, 3) := by decide +kernel
theorem dX6_statement_18 : decode cX6_statement 18 = .ok (.aload_n 0, 1) := by decide +kernel
theorem dX6_statement_19 : decode cX6_statement 19 = .ok (.getfield 107, 3) := by decide +kernel
theorem dX6_statement_22 : decode cX6_statement 22 = .ok (.iload_n 1, 1) := by decide +kernel
theorem dX6_statement_23 : decode cX6_statement 23 = .ok (.iastore, 1) := by decide +kernel
theorem dX6_statement_24 : decode cX6_statement 24 = .ok (.aload_n 0, 1) := by decide +kernel
theorem dX6_statement_25 : decode cX6_statement 25 = .ok (.getfield 40, 3) := by decide +kernel
theorem dX6_statement_28 : decode cX6_statement 28 = .ok (.aload_n 0, 1) := by decide +kernel
theorem dX6_statement_29 : decode cX6_statement 29 = .ok (.getfield 107, 3) := by decide +kernel
theorem dX6_statement_32 : decode cX6_statement 32 = .ok (.aload_n 0, 1) := by decide +kernel
theorem dX6_statement_33 : decode cX6_statement 33 = .ok (.getfield 83, 3) := by decide +kernel
theorem dX6_statement_36 : decode cX6_statement 36 = .ok (.iastore, 1) := by decide +kernel
theorem dX6_statement_37 : decode cX6_statement 37 = .ok (.aload_n 0, 1) := by decide +kernel
theorem dX6_statement_38 : decode cX6_statement 38 = .ok (.dup, 1) := by decide +kernel
theorem dX6_statement_39 : decode cX6_statement 39 = .ok (.getfield 83, 3) := by decide +kernel
theorem dX6_statement_42 : decode cX6_statement 42 = .ok (.iconst 1, 1) := by decide +kernel
theorem dX6_statement_43 : decode cX6_statement 43 = .ok (.iadd, 1) := by decide +kernel
theorem dX6_statement_44 : decode cX6_statement 44 = .ok (.putfield 83, 3) := by decide +kernel
theorem dX6_statement_47 : decode cX6_statement 47 = .ok (.aload_n 0, 1) := by decide +kernel
theorem dX6_statement_48 : decode cX6_statement 48 = .ok (.iload_n 1, 1) := by decide +kernel
theorem dX6_statement_49 : decode cX6_statement 49 = .ok (.iconst 4, 1) := by decide +kernel
theorem dX6_statement_50 : decode cX6_statement 50 = .ok (.aload_n 0, 1) := by decide +kernel
theorem dX6_statement_51 : decode cX6_statement 51 = .ok (.getfield 107, 3) := by decide +kernel
theorem dX6_statement_54 : decode cX6_statement 54 = .ok (.imul, 1) := by decide +kernel
theorem dX6_statement_55 : decode cX6_statement 55 = .ok (.invokevirtual 110, 3) := by decide +kernel
theorem dX6_statement_58 : decode cX6_statement 58 = .ok (.ifCond .eq 12, 3) := by decide +kernel
theorem dX6_statement_61 : decode cX6_statement 61 = .ok (.aload_n 0, 1) := by decide +kernel
theorem dX6_statement_62 : decode cX6_statement 62 = .ok (.invokevirtual 86, 3) := by decide +kernel
theorem dX6_statement_65 : decode cX6_statement 65 = .ok (.bipush 59, 2) := by decide +kernel
theorem dX6_statement_67 : decode cX6_statement 67 = .ok (.if_icmp .eq 5, 3) := by decide +kernel
theorem dX6_statement_70 : decode cX6_statement 70 = .ok (.iconst 0, 1) := by decide +kernel
theorem dX6_statement_71 : decode cX6_statement 71 = .ok (.ireturn, 1) := by decide +kernel
theorem dX6_statement_72 : decode cX6_statement 72 = .ok (.aload_n 0, 1) := by decide +kernel
theorem dX6_statement_73 : decode cX6_statement 73 = .ok (.dup, 1) := by decide +kernel
theorem dX6_statement_74 : decode cX6_statement 74 = .ok (.getfield 83, 3) := by decide +kernel
theorem dX6_statement_77 : decode cX6_statement 77 = .ok (.iconst 1, 1) := by decide +kernel
theorem dX6_statement_78 : decode cX6_statement 78 = .ok (.iadd, 1) := by decide +kernel
theorem dX6_statement_79 : decode cX6_statement 79 = .ok (.putfield 83, 3) := by decide +kernel
theorem dX6_statement_82 : decode cX6_statement 82 = .ok (.iconst 1, 1) := by decide +kernel
theorem dX6_statement_83 : decode cX6_statement 83 = .ok (.ireturn, 1) := by decide +kernel
theorem dX6_suiteOf_0 : decode cX6_suiteOf 0 = .ok (.aload_n 0, 1) := by decide +kernel
theorem dX6_suiteOf_1 : decode cX6_suiteOf 1 = .ok (.getfield 25, 3) := by decide +kernel
theorem dX6_suiteOf_4 : decode cX6_suiteOf 4 = .ok (.iload_n 1, 1) := by decide +kernel
theorem dX6_suiteOf_5 : decode cX6_suiteOf 5 = .ok (.iaload, 1) := by decide +kernel
theorem dX6_suiteOf_6 : decode cX6_suiteOf 6 = .ok (.istore_n 2, 1) := by decide +kernel
theorem dX6_suiteOf_7 : decode cX6_suiteOf 7 = .ok (.iconst 0, 1) := by decide +kernel
theorem dX6_suiteOf_8 : decode cX6_suiteOf 8 = .ok (.istore_n 3, 1) := by decide +kernel
theorem dX6_suiteOf_9 : decode cX6_suiteOf 9 = .ok (.iload_n 3, 1) := by decide +kernel
theorem dX6_suiteOf_10 : decode cX6_suiteOf 10 = .ok (.aload_n 0, 1) := by decide +kernel
theorem dX6_suiteOf_11 : decode cX6_suiteOf 11 = .ok (.getfield 65, 3) := by decide +kernel
theorem dX6_suiteOf_14 : decode cX6_suiteOf 14 = .ok (.if_icmp .ge 68, 3) := by decide +kernel
theorem dX6_suiteOf_17 : decode cX6_suiteOf 17 = .ok (.iload_n 2, 1) := by decide +kernel
theorem dX6_suiteOf_18 : decode cX6_suiteOf 18 = .ok (.iload_n 3, 1) := by decide +kernel
theorem dX6_suiteOf_19 : decode cX6_suiteOf 19 = .ok (.iload_n 1, 1) := by decide +kernel
theorem dX6_suiteOf_20 : decode cX6_suiteOf 20 = .ok (.if_icmp .eq 53, 3) := by decide +kernel
theorem dX6_suiteOf_23 : decode cX6_suiteOf 23 = .ok (.aload_n 0, 1) := by decide +kernel
theorem dX6_suiteOf_24 : decode cX6_suiteOf 24 = .ok (.getfield 31, 3) := by decide +kernel
theorem dX6_suiteOf_27 : decode cX6_suiteOf 27 = .ok (.iload_n 1, 1) := by decide +kernel
theorem dX6_suiteOf_28 : decode cX6_suiteOf 28 = .ok (.iaload, 1) := by decide +kernel
theorem dX6_suiteOf_29 : decode cX6_suiteOf 29 = .ok (.bipush 9, 2) := by decide +kernel
theorem dX6_suiteOf_31 : decode cX6_suiteOf 31 = .ok (.if_icmp .eq 42, 3) := by decide +kernel
theorem dX6_suiteOf_34 : decode cX6_suiteOf 34 = .ok (.aload_n 0, 1) := by decide +kernel
theorem dX6_suiteOf_35 : decode cX6_suiteOf 35 = .ok (.getfield 31, 3) := by decide +kernel
theorem dX6_suiteOf_38 : decode cX6_suiteOf 38 = .ok (.iload_n 3, 1) := by decide +kernel
theorem dX6_suiteOf_39 : decode cX6_suiteOf 39 = .ok (.iaload, 1) := by decide +kernel
theorem dX6_suiteOf_40 : decode cX6_suiteOf 40 = .ok (.aload_n 0, 1) := by decide +kernel
theorem dX6_suiteOf_41 : decode cX6_suiteOf 41 = .ok (.getfield 31, 3) := by decide +kernel
theorem dX6_suiteOf_44 : decode cX6_suiteOf 44 = .ok (.iload_n 1, 1) := by decide +kernel
theorem dX6_suiteOf_45 : decode cX6_suiteOf 45 = .ok (.iaload, 1) := by decide +kernel
theorem dX6_suiteOf_46 : decode cX6_suiteOf 46 = .ok (.if_icmp .ne 27, 3) := by decide +kernel
theorem dX6_suiteOf_49 : decode cX6_suiteOf 49 = .ok (.aload_n 0, 1) := by decide +kernel
theorem dX6_suiteOf_50 : decode cX6_suiteOf 50 = .ok (.getfield 19, 3) := by decide +kernel
theorem dX6_suiteOf_53 : decode cX6_suiteOf 53 = .ok (.iload_n 3, 1) := by decide +kernel
theorem dX6_suiteOf_54 : decode cX6_suiteOf 54 = .ok (.iaload, 1) := by decide +kernel
theorem dX6_suiteOf_55 : decode cX6_suiteOf 55 = .ok (.iconst 1, 1) := by decide +kernel
theorem dX6_suiteOf_56 : decode cX6_suiteOf 56 = .ok (.if_icmp .eq 13, 3) := by decide +kernel
theorem dX6_suiteOf_59 : decode cX6_suiteOf 59 = .ok (.aload_n 0, 1) := by decide +kernel
theorem dX6_suiteOf_60 : decode cX6_suiteOf 60 = .ok (.getfield 19, 3) := by decide +kernel
theorem dX6_suiteOf_63 : decode cX6_suiteOf 63 = .ok (.iload_n 3, 1) := by decide +kernel
theorem dX6_suiteOf_64 : decode cX6_suiteOf 64 = .ok (.iaload, 1) := by decide +kernel
theorem dX6_suiteOf_65 : decode cX6_suiteOf 65 = .ok (.iconst 4, 1) := by decide +kernel
theorem dX6_suiteOf_66 : decode cX6_suiteOf 66 = .ok (.if_icmp .ne 7, 3) := by decide +kernel
theorem dX6_suiteOf_69 : decode cX6_suiteOf 69 = .ok (.iconst 2, 1) := by decide +kernel
theorem dX6_suiteOf_70 : decode cX6_suiteOf 70 = .ok (.goto 4, 3) := by decide +kernel
theorem dX6_suiteOf_73 : decode cX6_suiteOf 73 = .ok (.iconst 0, 1) := by decide +kernel
theorem dX6_suiteOf_74 : decode cX6_suiteOf 74 = .ok (.iadd, 1) := by decide +kernel
theorem dX6_suiteOf_75 : decode cX6_suiteOf 75 = .ok (.istore_n 2, 1) := by decide +kernel
theorem dX6_suiteOf_76 : decode cX6_suiteOf 76 = .ok (.iinc 3 1, 3) := by decide +kernel
theorem dX6_suiteOf_79 : decode cX6_suiteOf 79 = .ok (.goto (-70), 3) := by decide +kernel
theorem dX6_suiteOf_82 : decode cX6_suiteOf 82 = .ok (.iload_n 2, 1) := by decide +kernel
theorem dX6_suiteOf_83 : decode cX6_suiteOf 83 = .ok (.ireturn, 1) := by decide +kernel
theorem dX6_veneerOf_0 : decode cX6_veneerOf 0 = .ok (.aload_n 0, 1) := by decide +kernel
theorem dX6_veneerOf_1 : decode cX6_veneerOf 1 = .ok (.getfield 25, 3) := by decide +kernel
theorem dX6_veneerOf_4 : decode cX6_veneerOf 4 = .ok (.iload_n 1, 1) := by decide +kernel
theorem dX6_veneerOf_5 : decode cX6_veneerOf 5 = .ok (.iaload, 1) := by decide +kernel
theorem dX6_veneerOf_6 : decode cX6_veneerOf 6 = .ok (.iconst 2, 1) := by decide +kernel
theorem dX6_veneerOf_7 : decode cX6_veneerOf 7 = .ok (.idiv, 1) := by decide +kernel
theorem dX6_veneerOf_8 : decode cX6_veneerOf 8 = .ok (.aload_n 0, 1) := by decide +kernel
theorem dX6_veneerOf_9 : decode cX6_veneerOf 9 = .ok (.getfield 65, 3) := by decide +kernel
theorem dX6_veneerOf_12 : decode cX6_veneerOf 12 = .ok (.iconst 1, 1) := by decide +kernel
theorem dX6_veneerOf_13 : decode cX6_veneerOf 13 = .ok (.if_icmp .ne 7, 3) := by decide +kernel
theorem dX6_veneerOf_16 : decode cX6_veneerOf 16 = .ok (.iconst 0, 1) := by decide +kernel
theorem dX6_veneerOf_17 : decode cX6_veneerOf 17 = .ok (.goto 16, 3) := by decide +kernel
theorem dX6_veneerOf_20 : decode cX6_veneerOf 20 = .ok (.aload_n 0, 1) := by decide +kernel
theorem dX6_veneerOf_21 : decode cX6_veneerOf 21 = .ok (.getfield 25, 3) := by decide +kernel
theorem dX6_veneerOf_24 : decode cX6_veneerOf 24 = .ok (.iload_n 1, 1) := by decide +kernel
theorem dX6_veneerOf_25 : decode cX6_veneerOf 25 = .ok (.iconst 1, 1) := by decide +kernel
theorem dX6_veneerOf_26 : decode cX6_veneerOf 26 = .ok (.iadd, 1) := by decide +kernel
theorem dX6_veneerOf_27 : decode cX6_veneerOf 27 = .ok (.aload_n 0, 1) := by decide +kernel
theorem dX6_veneerOf_28 : decode cX6_veneerOf 28 = .ok (.getfield 65, 3) := by decide +kernel
theorem dX6_veneerOf_31 : decode cX6_veneerOf 31 = .ok (.irem, 1) := by decide +kernel
theorem dX6_veneerOf_32 : decode cX6_veneerOf 32 = .ok (.iaload, 1) := by decide +kernel
theorem dX6_veneerOf_33 : decode cX6_veneerOf 33 = .ok (.iadd, 1) := by decide +kernel
theorem dX6_veneerOf_34 : decode cX6_veneerOf 34 = .ok (.ireturn, 1) := by decide +kernel
theorem dX6_whose_0 : decode cX6_whose 0 = .ok (.iload_n 1, 1) := by decide +kernel
theorem dX6_whose_1 : decode cX6_whose 1 = .ok (.iconst 0, 1) := by decide +kernel
theorem dX6_whose_2 : decode cX6_whose 2 = .ok (.sipush 999, 3) := by decide +kernel
theorem dX6_whose_5 : decode cX6_whose 5 = .ok (.invokestatic 72, 3) := by decide +kernel
theorem dX6_whose_8 : decode cX6_whose 8 = .ok (.istore_n 2, 1) := by decide +kernel
theorem dX6_whose_9 : decode cX6_whose 9 = .ok (.iload_n 2, 1) := by decide +kernel
theorem dX6_whose_10 : decode cX6_whose 10 = .ok (.ifCond .eq 9, 3) := by decide +kernel
theorem dX6_whose_13 : decode cX6_whose 13 = .ok (.aload_n 0, 1) := by decide +kernel
theorem dX6_whose_14 : decode cX6_whose 14 = .ok (.iload_n 2, 1) := by decide +kernel
theorem dX6_whose_15 : decode cX6_whose 15 = .ok (.invokevirtual 79, 3) := by decide +kernel
theorem dX6_whose_18 : decode cX6_whose 18 = .ok (.ireturn, 1) := by decide +kernel
theorem dX6_whose_19 : decode cX6_whose 19 = .ok (.iconst 0, 1) := by decide +kernel
theorem dX6_whose_20 : decode cX6_whose 20 = .ok (.istore_n 3, 1) := by decide +kernel
theorem dX6_whose_21 : decode cX6_whose 21 = .ok (.iconst 0, 1) := by decide +kernel
theorem dX6_whose_22 : decode cX6_whose 22 = .ok (.istore 4, 2) := by decide +kernel
theorem dX6_whose_24 : decode cX6_whose 24 = .ok (.iload 4, 2) := by decide +kernel
theorem dX6_whose_26 : decode cX6_whose 26 = .ok (.aload_n 0, 1) := by decide +kernel
theorem dX6_whose_27 : decode cX6_whose 27 = .ok (.getfield 65, 3) := by decide +kernel
theorem dX6_whose_30 : decode cX6_whose 30 = .ok (.if_icmp .ge 30, 3) := by decide +kernel
theorem dX6_whose_33 : decode cX6_whose 33 = .ok (.iload_n 3, 1) := by decide +kernel
theorem dX6_whose_34 : decode cX6_whose 34 = .ok (.aload_n 0, 1) := by decide +kernel
theorem dX6_whose_35 : decode cX6_whose 35 = .ok (.iload 4, 2) := by decide +kernel
theorem dX6_whose_37 : decode cX6_whose 37 = .ok (.iload_n 1, 1) := by decide +kernel
theorem dX6_whose_38 : decode cX6_whose 38 = .ok (.invokevirtual 243, 3) := by decide +kernel
theorem dX6_whose_41 : decode cX6_whose 41 = .ok (.ifCond .eq 10, 3) := by decide +kernel
theorem dX6_whose_44 : decode cX6_whose 44 = .ok (.iconst 1, 1) := by decide +kernel
theorem dX6_whose_45 : decode cX6_whose 45 = .ok (.iload 4, 2) := by decide +kernel
theorem dX6_whose_47 : decode cX6_whose 47 = .ok (.ishl, 1) := by decide +kernel
theorem dX6_whose_48 : decode cX6_whose 48 = .ok (.goto 4, 3) := by decide +kernel
theorem dX6_whose_51 : decode cX6_whose 51 = .ok (.iconst 0, 1) := by decide +kernel
theorem dX6_whose_52 : decode cX6_whose 52 = .ok (.ior, 1) := by decide +kernel
theorem dX6_whose_53 : decode cX6_whose 53 = .ok (.istore_n 3, 1) := by decide +kernel
theorem dX6_whose_54 : decode cX6_whose 54 = .ok (.iinc 4 1, 3) := by decide +kernel
theorem dX6_whose_57 : decode cX6_whose 57 = .ok (.goto (-33), 3) := by decide +kernel
theorem dX6_whose_60 : decode cX6_whose 60 = .ok (.iload_n 3, 1) := by decide +kernel
theorem dX6_whose_61 : decode cX6_whose 61 = .ok (.ireturn, 1) := by decide +kernel
theorem dX6_wide_0 : decode cX6_wide 0 = .ok (.iload_n 1, 1) := by decide +kernel
theorem dX6_wide_1 : decode cX6_wide 1 = .ok (.invokestatic 175, 3) := by decide +kernel
theorem dX6_wide_4 : decode cX6_wide 4 = .ok (.ifCond .ne 7, 3) := by decide +kernel
theorem dX6_wide_7 : decode cX6_wide 7 = .ok (.iconst (-1), 1) := by decide +kernel
theorem dX6_wide_8 : decode cX6_wide 8 = .ok (.goto 10, 3) := by decide +kernel
theorem dX6_wide_11 : decode cX6_wide 11 = .ok (.iload_n 2, 1) := by decide +kernel
theorem dX6_wide_12 : decode cX6_wide 12 = .ok (.iconst 0, 1) := by decide +kernel
theorem dX6_wide_13 : decode cX6_wide 13 = .ok (.bipush 9, 2) := by decide +kernel
theorem dX6_wide_15 : decode cX6_wide 15 = .ok (.invokestatic 72, 3) := by decide +kernel
theorem dX6_wide_18 : decode cX6_wide 18 = .ok (.istore_n 3, 1) := by decide +kernel
theorem dX6_wide_19 : decode cX6_wide 19 = .ok (.iload_n 3, 1) := by decide +kernel
theorem dX6_wide_20 : decode cX6_wide 20 = .ok (.ifCond .eq 9, 3) := by decide +kernel
theorem dX6_wide_23 : decode cX6_wide 23 = .ok (.aload_n 0, 1) := by decide +kernel
theorem dX6_wide_24 : decode cX6_wide 24 = .ok (.iload_n 3, 1) := by decide +kernel
theorem dX6_wide_25 : decode cX6_wide 25 = .ok (.invokevirtual 79, 3) := by decide +kernel
theorem dX6_wide_28 : decode cX6_wide 28 = .ok (.ireturn, 1) := by decide +kernel
theorem dX6_wide_29 : decode cX6_wide 29 = .ok (.aload_n 0, 1) := by decide +kernel
theorem dX6_wide_30 : decode cX6_wide 30 = .ok (.getfield 16, 3) := by decide +kernel
theorem dX6_wide_33 : decode cX6_wide 33 = .ok (.iload_n 1, 1) := by decide +kernel
theorem dX6_wide_34 : decode cX6_wide 34 = .ok (.iaload, 1) := by decide +kernel
theorem dX6_wide_35 : decode cX6_wide 35 = .ok (.istore 4, 2) := by decide +kernel
theorem dX6_wide_37 : decode cX6_wide 37 = .ok (.aload_n 0, 1) := by decide +kernel
theorem dX6_wide_38 : decode cX6_wide 38 = .ok (.getfield 16, 3) := by decide +kernel
theorem dX6_wide_41 : decode cX6_wide 41 = .ok (.iload_n 1, 1) := by decide +kernel
theorem dX6_wide_42 : decode cX6_wide 42 = .ok (.iload_n 2, 1) := by decide +kernel
theorem dX6_wide_43 : decode cX6_wide 43 = .ok (.iastore, 1) := by decide +kernel
theorem dX6_wide_44 : decode cX6_wide 44 = .ok (.iload 4, 2) := by decide +kernel
theorem dX6_wide_46 : decode cX6_wide 46 = .ok (.ireturn, 1) := by decide +kernel
theorem dX6_wideOf_0 : decode cX6_wideOf 0 = .ok (.aload_n 0, 1) := by decide +kernel
theorem dX6_wideOf_1 : decode cX6_wideOf 1 = .ok (.getfield 19, 3) := by decide +kernel
theorem dX6_wideOf_4 : decode cX6_wideOf 4 = .ok (.iload_n 1, 1) := by decide +kernel
theorem dX6_wideOf_5 : decode cX6_wideOf 5 = .ok (.iaload, 1) := by decide +kernel
theorem dX6_wideOf_6 : decode cX6_wideOf 6 = .ok (.iconst 4, 1) := by decide +kernel
theorem dX6_wideOf_7 : decode cX6_wideOf 7 = .ok (.if_icmp .ne 8, 3) := by decide +kernel
theorem dX6_wideOf_10 : decode cX6_wideOf 10 = .ok (.bipush 10, 2) := by decide +kernel
theorem dX6_wideOf_12 : decode cX6_wideOf 12 = .ok (.goto 51, 3) := by decide +kernel
theorem dX6_wideOf_15 : decode cX6_wideOf 15 = .ok (.aload_n 0, 1) := by decide +kernel
theorem dX6_wideOf_16 : decode cX6_wideOf 16 = .ok (.getfield 19, 3) := by decide +kernel
theorem dX6_wideOf_19 : decode cX6_wideOf 19 = .ok (.iload_n 1, 1) := by decide +kernel
theorem dX6_wideOf_20 : decode cX6_wideOf 20 = .ok (.iaload, 1) := by decide +kernel
theorem dX6_wideOf_21 : decode cX6_wideOf 21 = .ok (.iconst 2, 1) := by decide +kernel
theorem dX6_wideOf_22 : decode cX6_wideOf 22 = .ok (.if_icmp .ne 14, 3) := by decide +kernel
theorem dX6_wideOf_25 : decode cX6_wideOf 25 = .ok (.aload_n 0, 1) := by decide +kernel
theorem dX6_wideOf_26 : decode cX6_wideOf 26 = .ok (.getfield 22, 3) := by decide +kernel
theorem dX6_wideOf_29 : decode cX6_wideOf 29 = .ok (.iload_n 1, 1) := by decide +kernel
theorem dX6_wideOf_30 : decode cX6_wideOf 30 = .ok (.iaload, 1) := by decide +kernel
theorem dX6_wideOf_31 : decode cX6_wideOf 31 = .ok (.iconst 1, 1) := by decide +kernel
theorem dX6_wideOf_32 : decode cX6_wideOf 32 = .ok (.isub, 1) := by decide +kernel
theorem dX6_wideOf_33 : decode cX6_wideOf 33 = .ok (.goto 30, 3) := by decide +kernel
theorem dX6_wideOf_36 : decode cX6_wideOf 36 = .ok (.aload_n 0, 1) := by decide +kernel
theorem dX6_wideOf_37 : decode cX6_wideOf 37 = .ok (.getfield 19, 3) := by decide +kernel
theorem dX6_wideOf_40 : decode cX6_wideOf 40 = .ok (.iload_n 1, 1) := by decide +kernel
theorem dX6_wideOf_41 : decode cX6_wideOf 41 = .ok (.iaload, 1) := by decide +kernel
theorem dX6_wideOf_42 : decode cX6_wideOf 42 = .ok (.iconst 3, 1) := by decide +kernel
theorem dX6_wideOf_43 : decode cX6_wideOf 43 = .ok (.if_icmp .ne 14, 3) := by decide +kernel
theorem dX6_wideOf_46 : decode cX6_wideOf 46 = .ok (.aload_n 0, 1) := by decide +kernel
theorem dX6_wideOf_47 : decode cX6_wideOf 47 = .ok (.getfield 22, 3) := by decide +kernel
theorem dX6_wideOf_50 : decode cX6_wideOf 50 = .ok (.iload_n 1, 1) := by decide +kernel
theorem dX6_wideOf_51 : decode cX6_wideOf 51 = .ok (.iaload, 1) := by decide +kernel
theorem dX6_wideOf_52 : decode cX6_wideOf 52 = .ok (.iconst 2, 1) := by decide +kernel
theorem dX6_wideOf_53 : decode cX6_wideOf 53 = .ok (.idiv, 1) := by decide +kernel
theorem dX6_wideOf_54 : decode cX6_wideOf 54 = .ok (.goto 9, 3) := by decide +kernel
theorem dX6_wideOf_57 : decode cX6_wideOf 57 = .ok (.aload_n 0, 1) := by decide +kernel
theorem dX6_wideOf_58 : decode cX6_wideOf 58 = .ok (.getfield 22, 3) := by decide +kernel
theorem dX6_wideOf_61 : decode cX6_wideOf 61 = .ok (.iload_n 1, 1) := by decide +kernel
theorem dX6_wideOf_62 : decode cX6_wideOf 62 = .ok (.iaload, 1) := by decide +kernel
theorem dX6_wideOf_63 : decode cX6_wideOf 63 = .ok (.ireturn, 1) := by decide +kernel
theorem dX6_wider_0 : decode cX6_wider 0 = .ok (.iload_n 1, 1) := by decide +kernel
theorem dX6_wider_1 : decode cX6_wider 1 = .ok (.invokestatic 175, 3) := by decide +kernel
theorem dX6_wider_4 : decode cX6_wider 4 = .ok (.ifCond .eq 18, 3) := by decide +kernel
theorem dX6_wider_7 : decode cX6_wider 7 = .ok (.aload_n 0, 1) := by decide +kernel
theorem dX6_wider_8 : decode cX6_wider 8 = .ok (.iload_n 2, 1) := by decide +kernel
theorem dX6_wider_9 : decode cX6_wider 9 = .ok (.invokevirtual 116, 3) := by decide +kernel
theorem dX6_wider_12 : decode cX6_wider 12 = .ok (.ifCond .eq 10, 3) := by decide +kernel
theorem dX6_wider_15 : decode cX6_wider 15 = .ok (.iload_n 3, 1) := by decide +kernel
theorem dX6_wider_16 : decode cX6_wider 16 = .ok (.invokestatic 68, 3) := by decide +kernel
theorem dX6_wider_19 : decode cX6_wider 19 = .ok (.ifCond .ne 9, 3) := by decide +kernel
theorem dX6_wider_22 : decode cX6_wider 22 = .ok (.aload_n 0, 1) := by decide +kernel
theorem dX6_wider_23 : decode cX6_wider 23 = .ok (.iconst (-1), 1) := by decide +kernel
theorem dX6_wider_24 : decode cX6_wider 24 = .ok (.invokevirtual 79, 3) := by decide +kernel
theorem dX6_wider_27 : decode cX6_wider 27 = .ok (.ireturn, 1) := by decide +kernel
theorem dX6_wider_28 : decode cX6_wider 28 = .ok (.aload_n 0, 1) := by decide +kernel
theorem dX6_wider_29 : decode cX6_wider 29 = .ok (.getfield 16, 3) := by decide +kernel
theorem dX6_wider_32 : decode cX6_wider 32 = .ok (.iload_n 1, 1) := by decide +kernel
theorem dX6_wider_33 : decode cX6_wider 33 = .ok (.iaload, 1) := by decide +kernel
theorem dX6_wider_34 : decode cX6_wider 34 = .ok (.istore 4, 2) := by decide +kernel
theorem dX6_wider_36 : decode cX6_wider 36 = .ok (.bipush (-9), 2) := by decide +kernel
theorem dX6_wider_38 : decode cX6_wider 38 = .ok (.istore 5, 2) := by decide +kernel
theorem dX6_wider_40 : decode cX6_wider 40 = .ok (.bipush 9, 2) := by decide +kernel
theorem dX6_wider_42 : decode cX6_wider 42 = .ok (.istore 6, 2) := by decide +kernel
theorem dX6_wider_44 : decode cX6_wider 44 = .ok (.iload 6, 2) := by decide +kernel
theorem dX6_wider_46 : decode cX6_wider 46 = .ok (.ifCond .lt 35, 3) := by decide +kernel
theorem dX6_wider_49 : decode cX6_wider 49 = .ok (.aload_n 0, 1) := by decide +kernel
theorem dX6_wider_50 : decode cX6_wider 50 = .ok (.getfield 16, 3) := by decide +kernel
theorem dX6_wider_53 : decode cX6_wider 53 = .ok (.iload_n 1, 1) := by decide +kernel
theorem dX6_wider_54 : decode cX6_wider 54 = .ok (.iload 6, 2) := by decide +kernel
theorem dX6_wider_56 : decode cX6_wider 56 = .ok (.iastore, 1) := by decide +kernel
theorem dX6_wider_57 : decode cX6_wider 57 = .ok (.aload_n 0, 1) := by decide +kernel
theorem dX6_wider_58 : decode cX6_wider 58 = .ok (.iload_n 2, 1) := by decide +kernel
theorem dX6_wider_59 : decode cX6_wider 59 = .ok (.iload_n 3, 1) := by decide +kernel
theorem dX6_wider_60 : decode cX6_wider 60 = .ok (.invokevirtual 122, 3) := by decide +kernel
theorem dX6_wider_63 : decode cX6_wider 63 = .ok (.ifCond .eq 8, 3) := by decide +kernel
theorem dX6_wider_66 : decode cX6_wider 66 = .ok (.iload 6, 2) := by decide +kernel
theorem dX6_wider_68 : decode cX6_wider 68 = .ok (.goto 5, 3) := by decide +kernel
theorem dX6_wider_71 : decode cX6_wider 71 = .ok (.iload 5, 2) := by decide +kernel
theorem dX6_wider_73 : decode cX6_wider 73 = .ok (.istore 5, 2) := by decide +kernel
theorem dX6_wider_75 : decode cX6_wider 75 = .ok (.iinc 6 (-1), 3) := by decide +kernel
theorem dX6_wider_78 : decode cX6_wider 78 = .ok (.goto (-34), 3) := by decide +kernel
theorem dX6_wider_81 : decode cX6_wider 81 = .ok (.aload_n 0, 1) := by decide +kernel
theorem dX6_wider_82 : decode cX6_wider 82 = .ok (.getfield 16, 3) := by decide +kernel
theorem dX6_wider_85 : decode cX6_wider 85 = .ok (.iload_n 1, 1) := by decide +kernel
theorem dX6_wider_86 : decode cX6_wider 86 = .ok (.iload 4, 2) := by decide +kernel
theorem dX6_wider_88 : decode cX6_wider 88 = .ok (.iastore, 1) := by decide +kernel
theorem dX6_wider_89 : decode cX6_wider 89 = .ok (.iload 5, 2) := by decide +kernel
theorem dX6_wider_91 : decode cX6_wider 91 = .ok (.ireturn, 1) := by decide +kernel
theorem dX6_worst_0 : decode cX6_worst 0 = .ok (.iconst 0, 1) := by decide +kernel
theorem dX6_worst_1 : decode cX6_worst 1 = .ok (.istore_n 1, 1) := by decide +kernel
theorem dX6_worst_2 : decode cX6_worst 2 = .ok (.iconst 1, 1) := by decide +kernel
theorem dX6_worst_3 : decode cX6_worst 3 = .ok (.istore_n 2, 1) := by decide +kernel
theorem dX6_worst_4 : decode cX6_worst 4 = .ok (.iload_n 2, 1) := by decide +kernel
theorem dX6_worst_5 : decode cX6_worst 5 = .ok (.bipush 6, 2) := by decide +kernel
theorem dX6_worst_7 : decode cX6_worst 7 = .ok (.if_icmp .ge 28, 3) := by decide +kernel
theorem dX6_worst_10 : decode cX6_worst 10 = .ok (.aload_n 0, 1) := by decide +kernel
theorem dX6_worst_11 : decode cX6_worst 11 = .ok (.iload_n 2, 1) := by decide +kernel
theorem dX6_worst_12 : decode cX6_worst 12 = .ok (.invokevirtual 178, 3) := by decide +kernel
theorem dX6_worst_15 : decode cX6_worst 15 = .ok (.aload_n 0, 1) := by decide +kernel
theorem dX6_worst_16 : decode cX6_worst 16 = .ok (.iload_n 1, 1) := by decide +kernel
theorem dX6_worst_17 : decode cX6_worst 17 = .ok (.invokevirtual 178, 3) := by decide +kernel
theorem dX6_worst_20 : decode cX6_worst 20 = .ok (.if_icmp .le 7, 3) := by decide +kernel
theorem dX6_worst_23 : decode cX6_worst 23 = .ok (.iload_n 2, 1) := by decide +kernel
theorem dX6_worst_24 : decode cX6_worst 24 = .ok (.goto 4, 3) := by decide +kernel
theorem dX6_worst_27 : decode cX6_worst 27 = .ok (.iload_n 1, 1) := by decide +kernel
theorem dX6_worst_28 : decode cX6_worst 28 = .ok (.istore_n 1, 1) := by decide +kernel
theorem dX6_worst_29 : decode cX6_worst 29 = .ok (.iinc 2 1, 3) := by decide +kernel
theorem dX6_worst_32 : decode cX6_worst 32 = .ok (.goto (-28), 3) := by decide +kernel
theorem dX6_worst_35 : decode cX6_worst 35 = .ok (.iload_n 1, 1) := by decide +kernel
theorem dX6_worst_36 : decode cX6_worst 36 = .ok (.ireturn, 1) := by decide +kernel
theorem dX6_years_0 : decode cX6_years 0 = .ok (.iload_n 1, 1) := by decide +kernel
theorem dX6_years_1 : decode cX6_years 1 = .ok (.iconst 1, 1) := by decide +kernel
theorem dX6_years_2 : decode cX6_years 2 = .ok (.bipush 60, 2) := by decide +kernel
theorem dX6_years_4 : decode cX6_years 4 = .ok (.invokestatic 72, 3) := by decide +kernel
theorem dX6_years_7 : decode cX6_years 7 = .ok (.istore_n 2, 1) := by decide +kernel
theorem dX6_years_8 : decode cX6_years 8 = .ok (.iload_n 2, 1) := by decide +kernel
theorem dX6_years_9 : decode cX6_years 9 = .ok (.ifCond .ne 18, 3) := by decide +kernel
theorem dX6_years_12 : decode cX6_years 12 = .ok (.aload_n 0, 1) := by decide +kernel
theorem dX6_years_13 : decode cX6_years 13 = .ok (.getfield 128, 3) := by decide +kernel
theorem dX6_years_16 : decode cX6_years 16 = .ok (.iload_n 1, 1) := by decide +kernel
theorem dX6_years_17 : decode cX6_years 17 = .ok (.iadd, 1) := by decide +kernel
theorem dX6_years_18 : decode cX6_years 18 = .ok (.sipush 999, 3) := by decide +kernel
theorem dX6_years_21 : decode cX6_years 21 = .ok (.if_icmp .le 6, 3) := by decide +kernel
theorem dX6_years_24 : decode cX6_years 24 = .ok (.bipush (-6), 2) := by decide +kernel
theorem dX6_years_26 : decode cX6_years 26 = .ok (.istore_n 2, 1) := by decide +kernel
theorem dX6_years_27 : decode cX6_years 27 = .ok (.iload_n 2, 1) := by decide +kernel
theorem dX6_years_28 : decode cX6_years 28 = .ok (.ifCond .eq 9, 3) := by decide +kernel
theorem dX6_years_31 : decode cX6_years 31 = .ok (.aload_n 0, 1) := by decide +kernel
theorem dX6_years_32 : decode cX6_years 32 = .ok (.iload_n 2, 1) := by decide +kernel
theorem dX6_years_33 : decode cX6_years 33 = .ok (.invokevirtual 79, 3) := by decide +kernel
theorem dX6_years_36 : decode cX6_years 36 = .ok (.ireturn, 1) := by decide +kernel
theorem dX6_years_37 : decode cX6_years 37 = .ok (.aload_n 0, 1) := by decide +kernel
theorem dX6_years_38 : decode cX6_years 38 = .ok (.iload_n 1, 1) := by decide +kernel
theorem dX6_years_39 : decode cX6_years 39 = .ok (.invokevirtual 131, 3) := by decide +kernel
theorem dX6_years_42 : decode cX6_years 42 = .ok (.aload_n 0, 1) := by decide +kernel
theorem dX6_years_43 : decode cX6_years 43 = .ok (.getfield 128, 3) := by decide +kernel
theorem dX6_years_46 : decode cX6_years 46 = .ok (.ireturn, 1) := by decide +kernel
