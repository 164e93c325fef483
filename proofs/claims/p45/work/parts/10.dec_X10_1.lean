theorem dX10_test_14 : decode cX10_test 14 = .ok (.getfield 63, 3) := by decide +kernel
theorem dX10_test_17 : decode cX10_test 17 = .ok (.aload_n 0, 1) := by decide +kernel
theorem dX10_test_18 : decode cX10_test 18 = .ok (.getfield 31, 3) := by decide +kernel
theorem dX10_test_21 : decode cX10_test 21 = .ok (.iload_n 1, 1) := by decide +kernel
theorem dX10_test_22 : decode cX10_test 22 = .ok (.aload_n 0, 1) := by decide +kernel
theorem dX10_test_23 : decode cX10_test 23 = .ok (.getfield 14, 3) := by decide +kernel
theorem dX10_test_26 : decode cX10_test 26 = .ok (.iload_n 2, 1) := by decide +kernel
theorem dX10_test_27 : decode cX10_test 27 = .ok (.invokevirtual 277, 3) := by decide +kernel
theorem dX10_test_30 : decode cX10_test 30 = .ok (.istore 4, 2) := by decide +kernel
theorem dX10_test_32 : decode cX10_test 32 = .ok (.iload 4, 2) := by decide +kernel
theorem dX10_test_34 : decode cX10_test 34 = .ok (.ifCond .eq 14, 3) := by decide +kernel
theorem dX10_test_37 : decode cX10_test 37 = .ok (.aload_n 0, 1) := by decide +kernel
theorem dX10_test_38 : decode cX10_test 38 = .ok (.getfield 31, 3) := by decide +kernel
theorem dX10_test_41 : decode cX10_test 41 = .ok (.getfield 156, 3) := by decide +kernel
theorem dX10_test_44 : decode cX10_test 44 = .ok (.iconst 2, 1) := by decide +kernel
theorem dX10_test_45 : decode cX10_test 45 = .ok (.if_icmp .ge 6, 3) := by decide +kernel
theorem dX10_test_48 : decode cX10_test 48 = .ok (.bipush (-9), 2) := by decide +kernel
theorem dX10_test_50 : decode cX10_test 50 = .ok (.ireturn, 1) := by decide +kernel
theorem dX10_test_51 : decode cX10_test 51 = .ok (.aload_n 0, 1) := by decide +kernel
theorem dX10_test_52 : decode cX10_test 52 = .ok (.getfield 63, 3) := by decide +kernel
theorem dX10_test_55 : decode cX10_test 55 = .ok (.aload_n 0, 1) := by decide +kernel
theorem dX10_test_56 : decode cX10_test 56 = .ok (.getfield 31, 3) := by decide +kernel
theorem dX10_test_59 : decode cX10_test 59 = .ok (.iload_n 1, 1) := by decide +kernel
theorem dX10_test_60 : decode cX10_test 60 = .ok (.iload 4, 2) := by decide +kernel
theorem dX10_test_62 : decode cX10_test 62 = .ok (.invokevirtual 280, 3) := by decide +kernel
theorem dX10_test_65 : decode cX10_test 65 = .ok (.istore 5, 2) := by decide +kernel
theorem dX10_test_67 : decode cX10_test 67 = .ok (.aload_n 0, 1) := by decide +kernel
theorem dX10_test_68 : decode cX10_test 68 = .ok (.aload_n 0, 1) := by decide +kernel
theorem dX10_test_69 : decode cX10_test 69 = .ok (.getfield 63, 3) := by decide +kernel
theorem dX10_test_72 : decode cX10_test 72 = .ok (.aload_n 0, 1) := by decide +kernel
theorem dX10_test_73 : decode cX10_test 73 = .ok (.getfield 31, 3) := by decide +kernel
theorem dX10_test_76 : decode cX10_test 76 = .ok (.iload_n 1, 1) := by decide +kernel
theorem dX10_test_77 : decode cX10_test 77 = .ok (.iload 4, 2) := by decide +kernel
theorem dX10_test_79 : decode cX10_test 79 = .ok (.iload 5, 2) := by decide +kernel
theorem dX10_test_81 : decode cX10_test 81 = .ok (.invokevirtual 284, 3) := by decide +kernel
theorem dX10_test_84 : decode cX10_test 84 = .ok (.putfield 88, 3) := by decide +kernel
theorem dX10_test_87 : decode cX10_test 87 = .ok (.iload 5, 2) := by decide +kernel
theorem dX10_test_89 : decode cX10_test 89 = .ok (.ireturn, 1) := by decide +kernel
theorem dX10_duel_0 : decode cX10_duel 0 = .ok (.iload_n 1, 1) := by decide +kernel
theorem dX10_duel_1 : decode cX10_duel 1 = .ok (.ifCond .lt 9, 3) := by decide +kernel
theorem dX10_duel_4 : decode cX10_duel 4 = .ok (.iload_n 1, 1) := by decide +kernel
theorem dX10_duel_5 : decode cX10_duel 5 = .ok (.bipush 6, 2) := by decide +kernel
theorem dX10_duel_7 : decode cX10_duel 7 = .ok (.if_icmp .le 5, 3) := by decide +kernel
theorem dX10_duel_10 : decode cX10_duel 10 = .ok (.iconst (-1), 1) := by decide +kernel
theorem dX10_duel_11 : decode cX10_duel 11 = .ok (.ireturn, 1) := by decide +kernel
theorem dX10_duel_12 : decode cX10_duel 12 = .ok (.aload_n 0, 1) := by decide +kernel
theorem dX10_duel_13 : decode cX10_duel 13 = .ok (.getfield 31, 3) := by decide +kernel
theorem dX10_duel_16 : decode cX10_duel 16 = .ok (.getfield 156, 3) := by decide +kernel
theorem dX10_duel_19 : decode cX10_duel 19 = .ok (.ifCond .ne 6, 3) := by decide +kernel
theorem dX10_duel_22 : decode cX10_duel 22 = .ok (.bipush (-4), 2) := by decide +kernel
theorem dX10_duel_24 : decode cX10_duel 24 = .ok (.ireturn, 1) := by decide +kernel
theorem dX10_duel_25 : decode cX10_duel 25 = .ok (.aload_n 0, 1) := by decide +kernel
theorem dX10_duel_26 : decode cX10_duel 26 = .ok (.getfield 49, 3) := by decide +kernel
theorem dX10_duel_29 : decode cX10_duel 29 = .ok (.aload_n 0, 1) := by decide +kernel
theorem dX10_duel_30 : decode cX10_duel 30 = .ok (.getfield 31, 3) := by decide +kernel
theorem dX10_duel_33 : decode cX10_duel 33 = .ok (.invokevirtual 237, 3) := by decide +kernel
theorem dX10_duel_36 : decode cX10_duel 36 = .ok (.aload_n 0, 1) := by decide +kernel
theorem dX10_duel_37 : decode cX10_duel 37 = .ok (.getfield 70, 3) := by decide +kernel
theorem dX10_duel_40 : decode cX10_duel 40 = .ok (.aload_n 0, 1) := by decide +kernel
theorem dX10_duel_41 : decode cX10_duel 41 = .ok (.getfield 49, 3) := by decide +kernel
theorem dX10_duel_44 : decode cX10_duel 44 = .ok (.aload_n 0, 1) := by decide +kernel
theorem dX10_duel_45 : decode cX10_duel 45 = .ok (.getfield 31, 3) := by decide +kernel
theorem dX10_duel_48 : decode cX10_duel 48 = .ok (.iconst 0, 1) := by decide +kernel
theorem dX10_duel_49 : decode cX10_duel 49 = .ok (.invokevirtual 251, 3) := by decide +kernel
theorem dX10_duel_52 : decode cX10_duel 52 = .ok (.iload_n 1, 1) := by decide +kernel
theorem dX10_duel_53 : decode cX10_duel 53 = .ok (.invokevirtual 288, 3) := by decide +kernel
theorem dX10_duel_56 : decode cX10_duel 56 = .ok (.bipush 100, 2) := by decide +kernel
theorem dX10_duel_58 : decode cX10_duel 58 = .ok (.iadd, 1) := by decide +kernel
theorem dX10_duel_59 : decode cX10_duel 59 = .ok (.ireturn, 1) := by decide +kernel
theorem dX10_odds_0 : decode cX10_odds 0 = .ok (.iload_n 1, 1) := by decide +kernel
theorem dX10_odds_1 : decode cX10_odds 1 = .ok (.ifCond .lt 22, 3) := by decide +kernel
theorem dX10_odds_4 : decode cX10_odds 4 = .ok (.iload_n 1, 1) := by decide +kernel
theorem dX10_odds_5 : decode cX10_odds 5 = .ok (.iconst 4, 1) := by decide +kernel
theorem dX10_odds_6 : decode cX10_odds 6 = .ok (.if_icmp .gt 17, 3) := by decide +kernel
theorem dX10_odds_9 : decode cX10_odds 9 = .ok (.iload_n 2, 1) := by decide +kernel
theorem dX10_odds_10 : decode cX10_odds 10 = .ok (.invokestatic 292, 3) := by decide +kernel
theorem dX10_odds_13 : decode cX10_odds 13 = .ok (.ifCond .eq 10, 3) := by decide +kernel
theorem dX10_odds_16 : decode cX10_odds 16 = .ok (.iload_n 3, 1) := by decide +kernel
theorem dX10_odds_17 : decode cX10_odds 17 = .ok (.invokestatic 292, 3) := by decide +kernel
theorem dX10_odds_20 : decode cX10_odds 20 = .ok (.ifCond .ne 5, 3) := by decide +kernel
theorem dX10_odds_23 : decode cX10_odds 23 = .ok (.iconst (-1), 1) := by decide +kernel
theorem dX10_odds_24 : decode cX10_odds 24 = .ok (.ireturn, 1) := by decide +kernel
theorem dX10_odds_25 : decode cX10_odds 25 = .ok (.aload_n 0, 1) := by decide +kernel
theorem dX10_odds_26 : decode cX10_odds 26 = .ok (.getfield 31, 3) := by decide +kernel
theorem dX10_odds_29 : decode cX10_odds 29 = .ok (.getfield 156, 3) := by decide +kernel
theorem dX10_odds_32 : decode cX10_odds 32 = .ok (.ifCond .ne 6, 3) := by decide +kernel
theorem dX10_odds_35 : decode cX10_odds 35 = .ok (.bipush (-4), 2) := by decide +kernel
theorem dX10_odds_37 : decode cX10_odds 37 = .ok (.ireturn, 1) := by decide +kernel
theorem dX10_odds_38 : decode cX10_odds 38 = .ok (.aload_n 0, 1) := by decide +kernel
theorem dX10_odds_39 : decode cX10_odds 39 = .ok (.getfield 49, 3) := by decide +kernel
theorem dX10_odds_42 : decode cX10_odds 42 = .ok (.aload_n 0, 1) := by decide +kernel
theorem dX10_odds_43 : decode cX10_odds 43 = .ok (.getfield 31, 3) := by decide +kernel
theorem dX10_odds_46 : decode cX10_odds 46 = .ok (.invokevirtual 237, 3) := by decide +kernel
theorem dX10_odds_49 : decode cX10_odds 49 = .ok (.aload_n 0, 1) := by decide +kernel
theorem dX10_odds_50 : decode cX10_odds 50 = .ok (.getfield 49, 3) := by decide +kernel
theorem dX10_odds_53 : decode cX10_odds 53 = .ok (.iload_n 1, 1) := by decide +kernel
theorem dX10_odds_54 : decode cX10_odds 54 = .ok (.invokevirtual 295, 3) := by decide +kernel
theorem dX10_odds_57 : decode cX10_odds 57 = .ok (.aload_n 0, 1) := by decide +kernel
theorem dX10_odds_58 : decode cX10_odds 58 = .ok (.getfield 77, 3) := by decide +kernel
theorem dX10_odds_61 : decode cX10_odds 61 = .ok (.aload_n 0, 1) := by decide +kernel
theorem dX10_odds_62 : decode cX10_odds 62 = .ok (.getfield 31, 3) := by decide +kernel
theorem dX10_odds_65 : decode cX10_odds 65 = .ok (.iload_n 2, 1) := by decide +kernel
theorem dX10_odds_66 : decode cX10_odds 66 = .ok (.iload_n 3, 1) := by decide +kernel
theorem dX10_odds_67 : decode cX10_odds 67 = .ok (.aload_n 0, 1) := by decide +kernel
theorem dX10_odds_68 : decode cX10_odds 68 = .ok (.getfield 49, 3) := by decide +kernel
theorem dX10_odds_71 : decode cX10_odds 71 = .ok (.getfield 298, 3) := by decide +kernel
theorem dX10_odds_74 : decode cX10_odds 74 = .ok (.invokevirtual 301, 3) := by decide +kernel
theorem dX10_odds_77 : decode cX10_odds 77 = .ok (.iconst 1, 1) := by decide +kernel
theorem dX10_odds_78 : decode cX10_odds 78 = .ok (.ireturn, 1) := by decide +kernel
theorem dX10_mid_0 : decode cX10_mid 0 = .ok (.iload_n 1, 1) := by decide +kernel
theorem dX10_mid_1 : decode cX10_mid 1 = .ok (.invokestatic 292, 3) := by decide +kernel
theorem dX10_mid_4 : decode cX10_mid 4 = .ok (.ifCond .eq 10, 3) := by decide +kernel
theorem dX10_mid_7 : decode cX10_mid 7 = .ok (.iload_n 2, 1) := by decide +kernel
theorem dX10_mid_8 : decode cX10_mid 8 = .ok (.invokestatic 292, 3) := by decide +kernel
theorem dX10_mid_11 : decode cX10_mid 11 = .ok (.ifCond .ne 5, 3) := by decide +kernel
theorem dX10_mid_14 : decode cX10_mid 14 = .ok (.iconst (-1), 1) := by decide +kernel
theorem dX10_mid_15 : decode cX10_mid 15 = .ok (.ireturn, 1) := by decide +kernel
theorem dX10_mid_16 : decode cX10_mid 16 = .ok (.aload_n 0, 1) := by decide +kernel
theorem dX10_mid_17 : decode cX10_mid 17 = .ok (.getfield 31, 3) := by decide +kernel
theorem dX10_mid_20 : decode cX10_mid 20 = .ok (.getfield 156, 3) := by decide +kernel
theorem dX10_mid_23 : decode cX10_mid 23 = .ok (.ifCond .ne 6, 3) := by decide +kernel
theorem dX10_mid_26 : decode cX10_mid 26 = .ok (.bipush (-4), 2) := by decide +kernel
theorem dX10_mid_28 : decode cX10_mid 28 = .ok (.ireturn, 1) := by decide +kernel
theorem dX10_mid_29 : decode cX10_mid 29 = .ok (.aload_n 0, 1) := by decide +kernel
theorem dX10_mid_30 : decode cX10_mid 30 = .ok (.getfield 49, 3) := by decide +kernel
theorem dX10_mid_33 : decode cX10_mid 33 = .ok (.aload_n 0, 1) := by decide +kernel
theorem dX10_mid_34 : decode cX10_mid 34 = .ok (.getfield 31, 3) := by decide +kernel
theorem dX10_mid_37 : decode cX10_mid 37 = .ok (.invokevirtual 237, 3) := by decide +kernel
theorem dX10_mid_40 : decode cX10_mid 40 = .ok (.aload_n 0, 1) := by decide +kernel
theorem dX10_mid_41 : decode cX10_mid 41 = .ok (.getfield 77, 3) := by decide +kernel
theorem dX10_mid_44 : decode cX10_mid 44 = .ok (.aload_n 0, 1) := by decide +kernel
theorem dX10_mid_45 : decode cX10_mid 45 = .ok (.getfield 31, 3) := by decide +kernel
theorem dX10_mid_48 : decode cX10_mid 48 = .ok (.iload_n 1, 1) := by decide +kernel
theorem dX10_mid_49 : decode cX10_mid 49 = .ok (.iload_n 2, 1) := by decide +kernel
theorem dX10_mid_50 : decode cX10_mid 50 = .ok (.aload_n 0, 1) := by decide +kernel
theorem dX10_mid_51 : decode cX10_mid 51 = .ok (.getfield 49, 3) := by decide +kernel
theorem dX10_mid_54 : decode cX10_mid 54 = .ok (.getfield 244, 3) := by decide +kernel
theorem dX10_mid_57 : decode cX10_mid 57 = .ok (.invokevirtual 301, 3) := by decide +kernel
theorem dX10_mid_60 : decode cX10_mid 60 = .ok (.iconst 1, 1) := by decide +kernel
theorem dX10_mid_61 : decode cX10_mid 61 = .ok (.ireturn, 1) := by decide +kernel
theorem dX10_lots_0 : decode cX10_lots 0 = .ok (.iload_n 1, 1) := by decide +kernel
theorem dX10_lots_1 : decode cX10_lots 1 = .ok (.iconst 1, 1) := by decide +kernel
theorem dX10_lots_2 : decode cX10_lots 2 = .ok (.if_icmp .lt 23, 3) := by decide +kernel
theorem dX10_lots_5 : decode cX10_lots 5 = .ok (.iload_n 1, 1) := by decide +kernel
theorem dX10_lots_6 : decode cX10_lots 6 = .ok (.bipush 20, 2) := by decide +kernel
theorem dX10_lots_8 : decode cX10_lots 8 = .ok (.if_icmp .gt 17, 3) := by decide +kernel
theorem dX10_lots_11 : decode cX10_lots 11 = .ok (.iload_n 2, 1) := by decide +kernel
theorem dX10_lots_12 : decode cX10_lots 12 = .ok (.iconst 1, 1) := by decide +kernel
theorem dX10_lots_13 : decode cX10_lots 13 = .ok (.if_icmp .lt 12, 3) := by decide +kernel
theorem dX10_lots_16 : decode cX10_lots 16 = .ok (.iload_n 2, 1) := by decide +kernel
theorem dX10_lots_17 : decode cX10_lots 17 = .ok (.i2l, 1) := by decide +kernel
theorem dX10_lots_18 : decode cX10_lots 18 = .ok (.ldc2_w 305, 3) := by decide +kernel
theorem dX10_lots_21 : decode cX10_lots 21 = .ok (.lcmp, 1) := by decide +kernel
theorem dX10_lots_22 : decode cX10_lots 22 = .ok (.ifCond .lt 5, 3) := by decide +kernel
theorem dX10_lots_25 : decode cX10_lots 25 = .ok (.iconst (-1), 1) := by decide +kernel
theorem dX10_lots_26 : decode cX10_lots 26 = .ok (.ireturn, 1) := by decide +kernel
theorem dX10_lots_27 : decode cX10_lots 27 = .ok (.aload_n 0, 1) := by decide +kernel
theorem dX10_lots_28 : decode cX10_lots 28 = .ok (.getfield 31, 3) := by decide +kernel
theorem dX10_lots_31 : decode cX10_lots 31 = .ok (.getfield 156, 3) := by decide +kernel
theorem dX10_lots_34 : decode cX10_lots 34 = .ok (.ifCond .ne 6, 3) := by decide +kernel
theorem dX10_lots_37 : decode cX10_lots 37 = .ok (.bipush (-4), 2) := by decide +kernel
theorem dX10_lots_39 : decode cX10_lots 39 = .ok (.ireturn, 1) := by decide +kernel
theorem dX10_lots_40 : decode cX10_lots 40 = .ok (.aload_n 0, 1) := by decide +kernel
theorem dX10_lots_41 : decode cX10_lots 41 = .ok (.getfield 31, 3) := by decide +kernel
theorem dX10_lots_44 : decode cX10_lots 44 = .ok (.getfield 204, 3) := by decide +kernel
theorem dX10_lots_47 : decode cX10_lots 47 = .ok (.invokevirtual 208, 3) := by decide +kernel
theorem dX10_lots_50 : decode cX10_lots 50 = .ok (.iload_n 1, 1) := by decide +kernel
theorem dX10_lots_51 : decode cX10_lots 51 = .ok (.if_icmp .ge 6, 3) := by decide +kernel
theorem dX10_lots_54 : decode cX10_lots 54 = .ok (.bipush (-2), 2) := by decide +kernel
theorem dX10_lots_56 : decode cX10_lots 56 = .ok (.ireturn, 1) := by decide +kernel
theorem dX10_lots_57 : decode cX10_lots 57 = .ok (.iload_n 2, 1) := by decide +kernel
theorem dX10_lots_58 : decode cX10_lots 58 = .ok (.i2l, 1) := by decide +kernel
theorem dX10_lots_59 : decode cX10_lots 59 = .ok (.lstore_n 3, 1) := by decide +kernel
theorem dX10_lots_60 : decode cX10_lots 60 = .ok (.iconst 0, 1) := by decide +kernel
theorem dX10_lots_61 : decode cX10_lots 61 = .ok (.istore 5, 2) := by decide +kernel
theorem dX10_lots_63 : decode cX10_lots 63 = .ok (.iload 5, 2) := by decide +kernel
theorem dX10_lots_65 : decode cX10_lots 65 = .ok (.iload_n 1, 1) := by decide +kernel
theorem dX10_lots_66 : decode cX10_lots 66 = .ok (.if_icmp .ge 31, 3) := by decide +kernel
theorem dX10_lots_69 : decode cX10_lots 69 = .ok (.lload_n 3, 1) := by decide +kernel
theorem dX10_lots_70 : decode cX10_lots 70 = .ok (.ldc2_w 307, 3) := by decide +kernel
theorem dX10_lots_73 : decode cX10_lots 73 = .ok (.lmul, 1) := by decide +kernel
theorem dX10_lots_74 : decode cX10_lots 74 = .ok (.ldc2_w 305, 3) := by decide +kernel
theorem dX10_lots_77 : decode cX10_lots 77 = .ok (.lrem, 1) := by decide +kernel
theorem dX10_lots_78 : decode cX10_lots 78 = .ok (.lstore_n 3, 1) := by decide +kernel
theorem dX10_lots_79 : decode cX10_lots 79 = .ok (.aload_n 0, 1) := by decide +kernel
theorem dX10_lots_80 : decode cX10_lots 80 = .ok (.getfield 31, 3) := by decide +kernel
theorem dX10_lots_83 : decode cX10_lots 83 = .ok (.lload_n 3, 1) := by decide +kernel
theorem dX10_lots_84 : decode cX10_lots 84 = .ok (.ldc2_w 309, 3) := by decide +kernel
theorem dX10_lots_87 : decode cX10_lots 87 = .ok (.ldiv, 1) := by decide +kernel
theorem dX10_lots_88 : decode cX10_lots 88 = .ok (.invokevirtual 311, 3) := by decide +kernel
theorem dX10_lots_91 : decode cX10_lots 91 = .ok (.iinc 5 1, 3) := by decide +kernel
theorem dX10_lots_94 : decode cX10_lots 94 = .ok (.goto (-31), 3) := by decide +kernel
theorem dX10_lots_97 : decode cX10_lots 97 = .ok (.aload_n 0, 1) := by decide +kernel
theorem dX10_lots_98 : decode cX10_lots 98 = .ok (.getfield 31, 3) := by decide +kernel
theorem dX10_lots_101 : decode cX10_lots 101 = .ok (.invokevirtual 217, 3) := by decide +kernel
theorem dX10_lots_104 : decode cX10_lots 104 = .ok (.ireturn, 1) := by decide +kernel
theorem dX10_asked_0 : decode cX10_asked 0 = .ok (.aload_n 0, 1) := by decide +kernel
theorem dX10_asked_1 : decode cX10_asked 1 = .ok (.getfield 88, 3) := by decide +kernel
theorem dX10_asked_4 : decode cX10_asked 4 = .ok (.ireturn, 1) := by decide +kernel
theorem dX10_upper_0 : decode cX10_upper 0 = .ok (.aload_n 0, 1) := by decide +kernel
theorem dX10_upper_1 : decode cX10_upper 1 = .ok (.getfield 77, 3) := by decide +kernel
theorem dX10_upper_4 : decode cX10_upper 4 = .ok (.getfield 315, 3) := by decide +kernel
theorem dX10_upper_7 : decode cX10_upper 7 = .ok (.lreturn, 1) := by decide +kernel
theorem dX10_lower_0 : decode cX10_lower 0 = .ok (.aload_n 0, 1) := by decide +kernel
theorem dX10_lower_1 : decode cX10_lower 1 = .ok (.getfield 77, 3) := by decide +kernel
theorem dX10_lower_4 : decode cX10_lower 4 = .ok (.getfield 319, 3) := by decide +kernel
theorem dX10_lower_7 : decode cX10_lower 7 = .ok (.lreturn, 1) := by decide +kernel
theorem dX10_count_0 : decode cX10_count 0 = .ok (.iload_n 1, 1) := by decide +kernel
theorem dX10_count_1 : decode cX10_count 1 = .ok (.tableswitch 151 0 10 #[59, 67, 75, 86, 95, 104, 113, 121, 130, 138, 146], 59) := by decide +kernel
theorem dX10_count_60 : decode cX10_count 60 = .ok (.aload_n 0, 1) := by decide +kernel
theorem dX10_count_61 : decode cX10_count 61 = .ok (.getfield 31, 3) := by decide +kernel
theorem dX10_count_64 : decode cX10_count 64 = .ok (.getfield 156, 3) := by decide +kernel
theorem dX10_count_67 : decode cX10_count 67 = .ok (.ireturn, 1) := by decide +kernel
theorem dX10_count_68 : decode cX10_count 68 = .ok (.aload_n 0, 1) := by decide +kernel
theorem dX10_count_69 : decode cX10_count 69 = .ok (.getfield 31, 3) := by decide +kernel
theorem dX10_count_72 : decode cX10_count 72 = .ok (.getfield 322, 3) := by decide +kernel
theorem dX10_count_75 : decode cX10_count 75 = .ok (.ireturn, 1) := by decide +kernel
theorem dX10_count_76 : decode cX10_count 76 = .ok (.aload_n 0, 1) := by decide +kernel
theorem dX10_count_77 : decode cX10_count 77 = .ok (.getfield 31, 3) := by decide +kernel
theorem dX10_count_80 : decode cX10_count 80 = .ok (.getfield 204, 3) := by decide +kernel
theorem dX10_count_83 : decode cX10_count 83 = .ok (.getfield 42, 3) := by decide +kernel
theorem dX10_count_86 : decode cX10_count 86 = .ok (.ireturn, 1) := by decide +kernel
theorem dX10_count_87 : decode cX10_count 87 = .ok (.aload_n 0, 1) := by decide +kernel
theorem dX10_count_88 : decode cX10_count 88 = .ok (.getfield 31, 3) := by decide +kernel
theorem dX10_count_91 : decode cX10_count 91 = .ok (.iconst 0, 1) := by decide +kernel
theorem dX10_count_92 : decode cX10_count 92 = .ok (.invokevirtual 251, 3) := by decide +kernel
theorem dX10_count_95 : decode cX10_count 95 = .ok (.ireturn, 1) := by decide +kernel
theorem dX10_count_96 : decode cX10_count 96 = .ok (.aload_n 0, 1) := by decide +kernel
theorem dX10_count_97 : decode cX10_count 97 = .ok (.getfield 31, 3) := by decide +kernel
theorem dX10_count_100 : decode cX10_count 100 = .ok (.iconst 1, 1) := by decide +kernel
theorem dX10_count_101 : decode cX10_count 101 = .ok (.invokevirtual 251, 3) := by decide +kernel
theorem dX10_count_104 : decode cX10_count 104 = .ok (.ireturn, 1) := by decide +kernel
theorem dX10_count_105 : decode cX10_count 105 = .ok (.aload_n 0, 1) := by decide +kernel
theorem dX10_count_106 : decode cX10_count 106 = .ok (.getfield 31, 3) := by decide +kernel
theorem dX10_count_109 : decode cX10_count 109 = .ok (.iconst 2, 1) := by decide +kernel
theorem dX10_count_110 : decode cX10_count 110 = .ok (.invokevirtual 251, 3) := by decide +kernel
theorem dX10_count_113 : decode cX10_count 113 = .ok (.ireturn, 1) := by decide +kernel
theorem dX10_count_114 : decode cX10_count 114 = .ok (.aload_n 0, 1) := by decide +kernel
theorem dX10_count_115 : decode cX10_count 115 = .ok (.getfield 31, 3) := by decide +kernel
theorem dX10_count_118 : decode cX10_count 118 = .ok (.invokevirtual 325, 3) := by decide +kernel
theorem dX10_count_121 : decode cX10_count 121 = .ok (.ireturn, 1) := by decide +kernel
theorem dX10_count_122 : decode cX10_count 122 = .ok (.aload_n 0, 1) := by decide +kernel
theorem dX10_count_123 : decode cX10_count 123 = .ok (.getfield 31, 3) := by decide +kernel
theorem dX10_count_126 : decode cX10_count 126 = .ok (.iconst 1, 1) := by decide +kernel
theorem dX10_count_127 : decode cX10_count 127 = .ok (.invokevirtual 328, 3) := by decide +kernel
theorem dX10_count_130 : decode cX10_count 130 = .ok (.ireturn, 1) := by decide +kernel
theorem dX10_count_131 : decode cX10_count 131 = .ok (.aload_n 0, 1) := by decide +kernel
theorem dX10_count_132 : decode cX10_count 132 = .ok (.getfield 14, 3) := by decide +kernel
theorem dX10_count_135 : decode cX10_count 135 = .ok (.invokevirtual 331, 3) := by decide +kernel
theorem dX10_count_138 : decode cX10_count 138 = .ok (.ireturn, 1) := by decide +kernel
theorem dX10_count_139 : decode cX10_count 139 = .ok (.aload_n 0, 1) := by decide +kernel
theorem dX10_count_140 : decode cX10_count 140 = .ok (.getfield 18, 3) := by decide +kernel
theorem dX10_count_143 : decode cX10_count 143 = .ok (.invokevirtual 331, 3) := by decide +kernel
theorem dX10_count_146 : decode cX10_count 146 = .ok (.ireturn, 1) := by decide +kernel
theorem dX10_count_147 : decode cX10_count 147 = .ok (.aload_n 0, 1) := by decide +kernel
theorem dX10_count_148 : decode cX10_count 148 = .ok (.invokevirtual 334, 3) := by decide +kernel
theorem dX10_count_151 : decode cX10_count 151 = .ok (.ireturn, 1) := by decide +kernel
theorem dX10_count_152 : decode cX10_count 152 = .ok (.iconst (-1), 1) := by decide +kernel
theorem dX10_count_153 : decode cX10_count 153 = .ok (.ireturn, 1) := by decide +kernel
theorem dX10_finding_0 : decode cX10_finding 0 = .ok (.aload_n 0, 1) := by decide +kernel
theorem dX10_finding_1 : decode cX10_finding 1 = .ok (.getfield 85, 3) := by decide +kernel
theorem dX10_finding_4 : decode cX10_finding 4 = .ok (.ireturn, 1) := by decide +kernel
theorem dX10_findings_0 : decode cX10_findings 0 = .ok (.iload_n 1, 1) := by decide +kernel
theorem dX10_findings_1 : decode cX10_findings 1 = .ok (.iconst 1, 1) := by decide +kernel
theorem dX10_findings_2 : decode cX10_findings 2 = .ok (.if_icmp .lt 8, 3) := by decide +kernel
theorem dX10_findings_5 : decode cX10_findings 5 = .ok (.iload_n 1, 1) := by decide +kernel
theorem dX10_findings_6 : decode cX10_findings 6 = .ok (.iconst 5, 1) := by decide +kernel
theorem dX10_findings_7 : decode cX10_findings 7 = .ok (.if_icmp .le 5, 3) := by decide +kernel
theorem dX10_findings_10 : decode cX10_findings 10 = .ok (.iconst (-1), 1) := by decide +kernel
theorem dX10_findings_11 : decode cX10_findings 11 = .ok (.ireturn, 1) := by decide +kernel
theorem dX10_findings_12 : decode cX10_findings 12 = .ok (.aload_n 0, 1) := by decide +kernel
theorem dX10_findings_13 : decode cX10_findings 13 = .ok (.getfield 81, 3) := by decide +kernel
theorem dX10_findings_16 : decode cX10_findings 16 = .ok (.iload_n 1, 1) := by decide +kernel
theorem dX10_findings_17 : decode cX10_findings 17 = .ok (.iaload, 1) := by decide +kernel
theorem dX10_findings_18 : decode cX10_findings 18 = .ok (.ireturn, 1) := by decide +kernel
theorem dX10_digest_0 : decode cX10_digest 0 = .ok (.ldc2_w 337, 3) := by decide +kernel
theorem dX10_digest_3 : decode cX10_digest 3 = .ok (.lstore_n 1, 1) := by decide +kernel
theorem dX10_digest_4 : decode cX10_digest 4 = .ok (.iconst 0, 1) := by decide +kernel
theorem dX10_digest_5 : decode cX10_digest 5 = .ok (.istore_n 3, 1) := by decide +kernel
theorem dX10_digest_6 : decode cX10_digest 6 = .ok (.iload_n 3, 1) := by decide +kernel
theorem dX10_digest_7 : decode cX10_digest 7 = .ok (.bipush 11, 2) := by decide +kernel
theorem dX10_digest_9 : decode cX10_digest 9 = .ok (.if_icmp .ge 22, 3) := by decide +kernel
theorem dX10_digest_12 : decode cX10_digest 12 = .ok (.ldc2_w 339, 3) := by decide +kernel
theorem dX10_digest_15 : decode cX10_digest 15 = .ok (.lload_n 1, 1) := by decide +kernel
theorem dX10_digest_16 : decode cX10_digest 16 = .ok (.lmul, 1) := by decide +kernel
theorem dX10_digest_17 : decode cX10_digest 17 = .ok (.aload_n 0, 1) := by decide +kernel
theorem dX10_digest_18 : decode cX10_digest 18 = .ok (.iload_n 3, 1) := by decide +kernel
theorem dX10_digest_19 : decode cX10_digest 19 = .ok (.invokevirtual 341, 3) := by decide +kernel
theorem dX10_digest_22 : decode cX10_digest 22 = .ok (.i2l, 1) := by decide +kernel
theorem dX10_digest_23 : decode cX10_digest 23 = .ok (.ladd, 1) := by decide +kernel
theorem dX10_digest_24 : decode cX10_digest 24 = .ok (.lstore_n 1, 1) := by decide +kernel
theorem dX10_digest_25 : decode cX10_digest 25 = .ok (.iinc 3 1, 3) := by decide +kernel
theorem dX10_digest_28 : decode cX10_digest 28 = .ok (.goto (-22), 3) := by decide +kernel
theorem dX10_digest_31 : decode cX10_digest 31 = .ok (.iconst 0, 1) := by decide +kernel
theorem dX10_digest_32 : decode cX10_digest 32 = .ok (.istore_n 3, 1) := by decide +kernel
theorem dX10_digest_33 : decode cX10_digest 33 = .ok (.iload_n 3, 1) := by decide +kernel
theorem dX10_digest_34 : decode cX10_digest 34 = .ok (.aload_n 0, 1) := by decide +kernel
theorem dX10_digest_35 : decode cX10_digest 35 = .ok (.getfield 31, 3) := by decide +kernel
theorem dX10_digest_38 : decode cX10_digest 38 = .ok (.getfield 156, 3) := by decide +kernel
theorem dX10_digest_41 : decode cX10_digest 41 = .ok (.if_icmp .ge 47, 3) := by decide +kernel
theorem dX10_digest_44 : decode cX10_digest 44 = .ok (.iconst 0, 1) := by decide +kernel
theorem dX10_digest_45 : decode cX10_digest 45 = .ok (.istore 4, 2) := by decide +kernel
theorem dX10_digest_47 : decode cX10_digest 47 = .ok (.iload 4, 2) := by decide +kernel
theorem dX10_digest_49 : decode cX10_digest 49 = .ok (.bipush 7, 2) := by decide +kernel
theorem dX10_digest_51 : decode cX10_digest 51 = .ok (.if_icmp .ge 31, 3) := by decide +kernel
theorem dX10_digest_54 : decode cX10_digest 54 = .ok (.ldc2_w 339, 3) := by decide +kernel
theorem dX10_digest_57 : decode cX10_digest 57 = .ok (.lload_n 1, 1) := by decide +kernel
theorem dX10_digest_58 : decode cX10_digest 58 = .ok (.lmul, 1) := by decide +kernel
theorem dX10_digest_59 : decode cX10_digest 59 = .ok (.aload_n 0, 1) := by decide +kernel
theorem dX10_digest_60 : decode cX10_digest 60 = .ok (.getfield 31, 3) := by decide +kernel
theorem dX10_digest_63 : decode cX10_digest 63 = .ok (.getfield 160, 3) := by decide +kernel
theorem dX10_digest_66 : decode cX10_digest 66 = .ok (.iload_n 3, 1) := by decide +kernel
theorem dX10_digest_67 : decode cX10_digest 67 = .ok (.aaload, 1) := by decide +kernel
theorem dX10_digest_68 : decode cX10_digest 68 = .ok (.iload 4, 2) := by decide +kernel
theorem dX10_digest_70 : decode cX10_digest 70 = .ok (.invokevirtual 164, 3) := by decide +kernel
theorem dX10_digest_73 : decode cX10_digest 73 = .ok (.i2l, 1) := by decide +kernel
theorem dX10_digest_74 : decode cX10_digest 74 = .ok (.ladd, 1) := by decide +kernel
theorem dX10_digest_75 : decode cX10_digest 75 = .ok (.lstore_n 1, 1) := by decide +kernel
theorem dX10_digest_76 : decode cX10_digest 76 = .ok (.iinc 4 1, 3) := by decide +kernel
theorem dX10_digest_79 : decode cX10_digest 79 = .ok (.goto (-32), 3) := by decide +kernel
theorem dX10_digest_82 : decode cX10_digest 82 = .ok (.iinc 3 1, 3) := by decide +kernel
theorem dX10_digest_85 : decode cX10_digest 85 = .ok (.goto (-52), 3) := by decide +kernel
theorem dX10_digest_88 : decode cX10_digest 88 = .ok (.iconst 0, 1) := by decide +kernel
theorem dX10_digest_89 : decode cX10_digest 89 = .ok (.istore_n 3, 1) := by decide +kernel
theorem dX10_digest_90 : decode cX10_digest 90 = .ok (.iload_n 3, 1) := by decide +kernel
theorem dX10_digest_91 : decode cX10_digest 91 = .ok (.iconst 3, 1) := by decide +kernel
theorem dX10_digest_92 : decode cX10_digest 92 = .ok (.if_icmp .ge 26, 3) := by decide +kernel
theorem dX10_digest_95 : decode cX10_digest 95 = .ok (.ldc2_w 339, 3) := by decide +kernel
theorem dX10_digest_98 : decode cX10_digest 98 = .ok (.lload_n 1, 1) := by decide +kernel
theorem dX10_digest_99 : decode cX10_digest 99 = .ok (.lmul, 1) := by decide +kernel
theorem dX10_digest_100 : decode cX10_digest 100 = .ok (.aload_n 0, 1) := by decide +kernel
theorem dX10_digest_101 : decode cX10_digest 101 = .ok (.getfield 37, 3) := by decide +kernel
theorem dX10_digest_104 : decode cX10_digest 104 = .ok (.iload_n 3, 1) := by decide +kernel
theorem dX10_digest_105 : decode cX10_digest 105 = .ok (.aaload, 1) := by decide +kernel
theorem dX10_digest_106 : decode cX10_digest 106 = .ok (.getfield 42, 3) := by decide +kernel
theorem dX10_digest_109 : decode cX10_digest 109 = .ok (.i2l, 1) := by decide +kernel
theorem dX10_digest_110 : decode cX10_digest 110 = .ok (.ladd, 1) := by decide +kernel
theorem dX10_digest_111 : decode cX10_digest 111 = .ok (.lstore_n 1, 1) := by decide +kernel
theorem dX10_digest_112 : decode cX10_digest 112 = .ok (.iinc 3 1, 3) := by decide +kernel
theorem dX10_digest_115 : decode cX10_digest 115 = .ok (.goto (-25), 3) := by decide +kernel
theorem dX10_digest_118 : decode cX10_digest 118 = .ok (.aload_n 0, 1) := by decide +kernel
theorem dX10_digest_119 : decode cX10_digest 119 = .ok (.getfield 18, 3) := by decide +kernel
theorem dX10_digest_122 : decode cX10_digest 122 = .ok (.aload_n 0, 1) := by decide +kernel
theorem dX10_digest_123 : decode cX10_digest 123 = .ok (.getfield 14, 3) := by decide +kernel
theorem dX10_digest_126 : decode cX10_digest 126 = .ok (.lload_n 1, 1) := by decide +kernel
theorem dX10_digest_127 : decode cX10_digest 127 = .ok (.invokevirtual 344, 3) := by decide +kernel
theorem dX10_digest_130 : decode cX10_digest 130 = .ok (.invokevirtual 344, 3) := by decide +kernel
theorem dX10_digest_133 : decode cX10_digest 133 = .ok (.lreturn, 1) := by decide +kernel
theorem dX10_finds_0 : decode cX10_finds 0 = .ok (.aload_n 0, 1) := by decide +kernel
theorem dX10_finds_1 : decode cX10_finds 1 = .ok (.iload_n 1, 1) := by decide +kernel
theorem dX10_finds_2 : decode cX10_finds 2 = .ok (.putfield 85, 3) := by decide +kernel
theorem dX10_finds_5 : decode cX10_finds 5 = .ok (.iload_n 1, 1) := by decide +kernel
theorem dX10_finds_6 : decode cX10_finds 6 = .ok (.iconst 1, 1) := by decide +kernel
theorem dX10_finds_7 : decode cX10_finds 7 = .ok (.if_icmp .lt 18, 3) := by decide +kernel
theorem dX10_finds_10 : decode cX10_finds 10 = .ok (.iload_n 1, 1) := by decide +kernel
theorem dX10_finds_11 : decode cX10_finds 11 = .ok (.iconst 5, 1) := by decide +kernel
theorem dX10_finds_12 : decode cX10_finds 12 = .ok (.if_icmp .gt 13, 3) := by decide +kernel
theorem dX10_finds_15 : decode cX10_finds 15 = .ok (.aload_n 0, 1) := by decide +kernel
theorem dX10_finds_16 : decode cX10_finds 16 = .ok (.getfield 81, 3) := by decide +kernel
theorem dX10_finds_19 : decode cX10_finds 19 = .ok (.iload_n 1, 1) := by decide +kernel
theorem dX10_finds_20 : decode cX10_finds 20 = .ok (.dup2, 1) := by decide +kernel
theorem dX10_finds_21 : decode cX10_finds 21 = .ok (.iaload, 1) := by decide +kernel
theorem dX10_finds_22 : decode cX10_finds 22 = .ok (.iconst 1, 1) := by decide +kernel
theorem dX10_finds_23 : decode cX10_finds 23 = .ok (.iadd, 1) := by decide +kernel
theorem dX10_finds_24 : decode cX10_finds 24 = .ok (.iastore, 1) := by decide +kernel
theorem dX10_finds_25 : decode cX10_finds 25 = .ok (.bipush (-3), 2) := by decide +kernel
theorem dX10_finds_27 : decode cX10_finds 27 = .ok (.ireturn, 1) := by decide +kernel
theorem dX10_tells_0 : decode cX10_tells 0 = .ok (.aload_n 0, 1) := by decide +kernel
theorem dX10_tells_1 : decode cX10_tells 1 = .ok (.iload_n 1, 1) := by decide +kernel
theorem dX10_tells_2 : decode cX10_tells 2 = .ok (.putfield 88, 3) := by decide +kernel
theorem dX10_tells_5 : decode cX10_tells 5 = .ok (.iconst 1, 1) := by decide +kernel
theorem dX10_tells_6 : decode cX10_tells 6 = .ok (.ireturn, 1) := by decide +kernel
theorem dX10_refusedRow_0 : decode cX10_refusedRow 0 = .ok (.aload_n 0, 1) := by decide +kernel
theorem dX10_refusedRow_1 : decode cX10_refusedRow 1 = .ok (.getfield 14, 3) := by decide +kernel
theorem dX10_refusedRow_4 : decode cX10_refusedRow 4 = .ok (.iload_n 1, 1) := by decide +kernel
theorem dX10_refusedRow_5 : decode cX10_refusedRow 5 = .ok (.invokevirtual 91, 3) := by decide +kernel
theorem dX10_refusedRow_8 : decode cX10_refusedRow 8 = .ok (.ifCond .ne 5, 3) := by decide +kernel
theorem dX10_refusedRow_11 : decode cX10_refusedRow 11 = .ok (.iconst (-1), 1) := by decide +kernel
theorem dX10_refusedRow_12 : decode cX10_refusedRow 12 = .ok (.ireturn, 1) := by decide +kernel
theorem dX10_refusedRow_13 : decode cX10_refusedRow 13 = .ok (.aload_n 0, 1) := by decide +kernel
theorem dX10_refusedRow_14 : decode cX10_refusedRow 14 = .ok (.getfield 14, 3) := by decide +kernel
theorem dX10_refusedRow_17 : decode cX10_refusedRow 17 = .ok (.iload_n 1, 1) := by decide +kernel
theorem dX10_refusedRow_18 : decode cX10_refusedRow 18 = .ok (.invokevirtual 123, 3) := by decide +kernel
theorem dX10_refusedRow_21 : decode cX10_refusedRow 21 = .ok (.ifCond .eq 7, 3) := by decide +kernel
theorem dX10_refusedRow_24 : decode cX10_refusedRow 24 = .ok (.iconst 0, 1) := by decide +kernel
theorem dX10_refusedRow_25 : decode cX10_refusedRow 25 = .ok (.goto 8, 3) := by decide +kernel
theorem dX10_refusedRow_28 : decode cX10_refusedRow 28 = .ok (.aload_n 0, 1) := by decide +kernel
theorem dX10_refusedRow_29 : decode cX10_refusedRow 29 = .ok (.iconst 1, 1) := by decide +kernel
theorem dX10_refusedRow_30 : decode cX10_refusedRow 30 = .ok (.invokevirtual 95, 3) := by decide +kernel
theorem dX10_refusedRow_33 : decode cX10_refusedRow 33 = .ok (.ireturn, 1) := by decide +kernel
theorem dX10_refusedPlace_0 : decode cX10_refusedPlace 0 = .ok (.aload_n 0, 1) := by decide +kernel
theorem dX10_refusedPlace_1 : decode cX10_refusedPlace 1 = .ok (.iload_n 1, 1) := by decide +kernel
theorem dX10_refusedPlace_2 : decode cX10_refusedPlace 2 = .ok (.invokevirtual 116, 3) := by decide +kernel
theorem dX10_refusedPlace_5 : decode cX10_refusedPlace 5 = .ok (.istore_n 3, 1) := by decide +kernel
theorem dX10_refusedPlace_6 : decode cX10_refusedPlace 6 = .ok (.iload_n 3, 1) := by decide +kernel
theorem dX10_refusedPlace_7 : decode cX10_refusedPlace 7 = .ok (.ifCond .eq 5, 3) := by decide +kernel
theorem dX10_refusedPlace_10 : decode cX10_refusedPlace 10 = .ok (.iload_n 3, 1) := by decide +kernel
theorem dX10_refusedPlace_11 : decode cX10_refusedPlace 11 = .ok (.ireturn, 1) := by decide +kernel
theorem dX10_refusedPlace_12 : decode cX10_refusedPlace 12 = .ok (.aload_n 0, 1) := by decide +kernel
theorem dX10_refusedPlace_13 : decode cX10_refusedPlace 13 = .ok (.getfield 14, 3) := by decide +kernel
theorem dX10_refusedPlace_16 : decode cX10_refusedPlace 16 = .ok (.iload_n 1, 1) := by decide +kernel
theorem dX10_refusedPlace_17 : decode cX10_refusedPlace 17 = .ok (.iload_n 2, 1) := by decide +kernel
theorem dX10_refusedPlace_18 : decode cX10_refusedPlace 18 = .ok (.invokevirtual 144, 3) := by decide +kernel
theorem dX10_refusedPlace_21 : decode cX10_refusedPlace 21 = .ok (.ifCond .eq 7, 3) := by decide +kernel
theorem dX10_refusedPlace_24 : decode cX10_refusedPlace 24 = .ok (.iconst 0, 1) := by decide +kernel
theorem dX10_refusedPlace_25 : decode cX10_refusedPlace 25 = .ok (.goto 8, 3) := by decide +kernel
theorem dX10_refusedPlace_28 : decode cX10_refusedPlace 28 = .ok (.aload_n 0, 1) := by decide +kernel
theorem dX10_refusedPlace_29 : decode cX10_refusedPlace 29 = .ok (.iconst 2, 1) := by decide +kernel
theorem dX10_refusedPlace_30 : decode cX10_refusedPlace 30 = .ok (.invokevirtual 95, 3) := by decide +kernel
theorem dX10_refusedPlace_33 : decode cX10_refusedPlace 33 = .ok (.ireturn, 1) := by decide +kernel
theorem dX10_refusedText_0 : decode cX10_refusedText 0 = .ok (.aload_n 0, 1) := by decide +kernel
theorem dX10_refusedText_1 : decode cX10_refusedText 1 = .ok (.getfield 18, 3) := by decide +kernel
theorem dX10_refusedText_4 : decode cX10_refusedText 4 = .ok (.iload_n 1, 1) := by decide +kernel
theorem dX10_refusedText_5 : decode cX10_refusedText 5 = .ok (.invokevirtual 91, 3) := by decide +kernel
theorem dX10_refusedText_8 : decode cX10_refusedText 8 = .ok (.ifCond .ne 5, 3) := by decide +kernel
theorem dX10_refusedText_11 : decode cX10_refusedText 11 = .ok (.iconst (-1), 1) := by decide +kernel
theorem dX10_refusedText_12 : decode cX10_refusedText 12 = .ok (.ireturn, 1) := by decide +kernel
theorem dX10_refusedText_13 : decode cX10_refusedText 13 = .ok (.aload_n 0, 1) := by decide +kernel
theorem dX10_refusedText_14 : decode cX10_refusedText 14 = .ok (.getfield 18, 3) := by decide +kernel
theorem dX10_refusedText_17 : decode cX10_refusedText 17 = .ok (.iload_n 1, 1) := by decide +kernel
theorem dX10_refusedText_18 : decode cX10_refusedText 18 = .ok (.invokevirtual 123, 3) := by decide +kernel
theorem dX10_refusedText_21 : decode cX10_refusedText 21 = .ok (.ifCond .eq 7, 3) := by decide +kernel
theorem dX10_refusedText_24 : decode cX10_refusedText 24 = .ok (.iconst 0, 1) := by decide +kernel
theorem dX10_refusedText_25 : decode cX10_refusedText 25 = .ok (.goto 8, 3) := by decide +kernel
theorem dX10_refusedText_28 : decode cX10_refusedText 28 = .ok (.aload_n 0, 1) := by decide +kernel
theorem dX10_refusedText_29 : decode cX10_refusedText 29 = .ok (.iconst 1, 1) := by decide +kernel
theorem dX10_refusedText_30 : decode cX10_refusedText 30 = .ok (.invokevirtual 95, 3) := by decide +kernel
theorem dX10_refusedText_33 : decode cX10_refusedText 33 = .ok (.ireturn, 1) := by decide +kernel
theorem dX10_refusedGuess_0 : decode cX10_refusedGuess 0 = .ok (.aload_n 0, 1) := by decide +kernel
theorem dX10_refusedGuess_1 : decode cX10_refusedGuess 1 = .ok (.getfield 31, 3) := by decide +kernel
theorem dX10_refusedGuess_4 : decode cX10_refusedGuess 4 = .ok (.iload_n 1, 1) := by decide +kernel
theorem dX10_refusedGuess_5 : decode cX10_refusedGuess 5 = .ok (.invokevirtual 157, 3) := by decide +kernel
theorem dX10_refusedGuess_8 : decode cX10_refusedGuess 8 = .ok (.ifCond .ne 5, 3) := by decide +kernel
theorem dX10_refusedGuess_11 : decode cX10_refusedGuess 11 = .ok (.iconst (-1), 1) := by decide +kernel
theorem dX10_refusedGuess_12 : decode cX10_refusedGuess 12 = .ok (.ireturn, 1) := by decide +kernel
theorem dX10_refusedGuess_13 : decode cX10_refusedGuess 13 = .ok (.aload_n 0, 1) := by decide +kernel
theorem dX10_refusedGuess_14 : decode cX10_refusedGuess 14 = .ok (.iload_n 2, 1) := by decide +kernel
theorem dX10_refusedGuess_15 : decode cX10_refusedGuess 15 = .ok (.invokevirtual 116, 3) := by decide +kernel
theorem dX10_refusedGuess_18 : decode cX10_refusedGuess 18 = .ok (.istore_n 3, 1) := by decide +kernel
theorem dX10_refusedGuess_19 : decode cX10_refusedGuess 19 = .ok (.iload_n 3, 1) := by decide +kernel
theorem dX10_refusedGuess_20 : decode cX10_refusedGuess 20 = .ok (.ifCond .eq 5, 3) := by decide +kernel
theorem dX10_refusedGuess_23 : decode cX10_refusedGuess 23 = .ok (.iload_n 3, 1) := by decide +kernel
theorem dX10_refusedGuess_24 : decode cX10_refusedGuess 24 = .ok (.ireturn, 1) := by decide +kernel
theorem dX10_refusedGuess_25 : decode cX10_refusedGuess 25 = .ok (.aload_n 0, 1) := by decide +kernel
theorem dX10_refusedGuess_26 : decode cX10_refusedGuess 26 = .ok (.getfield 14, 3) := by decide +kernel
theorem dX10_refusedGuess_29 : decode cX10_refusedGuess 29 = .ok (.iload_n 2, 1) := by decide +kernel
theorem dX10_refusedGuess_30 : decode cX10_refusedGuess 30 = .ok (.invokevirtual 134, 3) := by decide +kernel
theorem dX10_refusedGuess_33 : decode cX10_refusedGuess 33 = .ok (.iconst 2, 1) := by decide +kernel
theorem dX10_refusedGuess_34 : decode cX10_refusedGuess 34 = .ok (.irem, 1) := by decide +kernel
theorem dX10_refusedGuess_35 : decode cX10_refusedGuess 35 = .ok (.ifCond .eq 9, 3) := by decide +kernel
theorem dX10_refusedGuess_38 : decode cX10_refusedGuess 38 = .ok (.aload_n 0, 1) := by decide +kernel
theorem dX10_refusedGuess_39 : decode cX10_refusedGuess 39 = .ok (.iconst 5, 1) := by decide +kernel
theorem dX10_refusedGuess_40 : decode cX10_refusedGuess 40 = .ok (.invokevirtual 95, 3) := by decide +kernel
theorem dX10_refusedGuess_43 : decode cX10_refusedGuess 43 = .ok (.ireturn, 1) := by decide +kernel
theorem dX10_refusedGuess_44 : decode cX10_refusedGuess 44 = .ok (.aload_n 0, 1) := by decide +kernel
theorem dX10_refusedGuess_45 : decode cX10_refusedGuess 45 = .ok (.getfield 63, 3) := by decide +kernel
theorem dX10_refusedGuess_48 : decode cX10_refusedGuess 48 = .ok (.aload_n 0, 1) := by decide +kernel
theorem dX10_refusedGuess_49 : decode cX10_refusedGuess 49 = .ok (.getfield 31, 3) := by decide +kernel
theorem dX10_refusedGuess_52 : decode cX10_refusedGuess 52 = .ok (.iload_n 1, 1) := by decide +kernel
theorem dX10_refusedGuess_53 : decode cX10_refusedGuess 53 = .ok (.aload_n 0, 1) := by decide +kernel
theorem dX10_refusedGuess_54 : decode cX10_refusedGuess 54 = .ok (.getfield 14, 3) := by decide +kernel
theorem dX10_refusedGuess_57 : decode cX10_refusedGuess 57 = .ok (.iload_n 2, 1) := by decide +kernel
theorem dX10_refusedGuess_58 : decode cX10_refusedGuess 58 = .ok (.invokevirtual 348, 3) := by decide +kernel
theorem dX10_refusedGuess_61 : decode cX10_refusedGuess 61 = .ok (.ifCond .eq 7, 3) := by decide +kernel
theorem dX10_refusedGuess_64 : decode cX10_refusedGuess 64 = .ok (.iconst 0, 1) := by decide +kernel
theorem dX10_refusedGuess_65 : decode cX10_refusedGuess 65 = .ok (.goto 8, 3) := by decide +kernel
theorem dX10_refusedGuess_68 : decode cX10_refusedGuess 68 = .ok (.aload_n 0, 1) := by decide +kernel
theorem dX10_refusedGuess_69 : decode cX10_refusedGuess 69 = .ok (.iconst 3, 1) := by decide +kernel
theorem dX10_refusedGuess_70 : decode cX10_refusedGuess 70 = .ok (.invokevirtual 95, 3) := by decide +kernel
theorem dX10_refusedGuess_73 : decode cX10_refusedGuess 73 = .ok (.ireturn, 1) := by decide +kernel
theorem dX10_greatestChange_0 : decode cX10_greatestChange 0 = .ok (.aload_n 0, 1) := by decide +kernel
theorem dX10_greatestChange_1 : decode cX10_greatestChange 1 = .ok (.getfield 31, 3) := by decide +kernel
theorem dX10_greatestChange_4 : decode cX10_greatestChange 4 = .ok (.iconst 0, 1) := by decide +kernel
theorem dX10_greatestChange_5 : decode cX10_greatestChange 5 = .ok (.invokevirtual 251, 3) := by decide +kernel
theorem dX10_greatestChange_8 : decode cX10_greatestChange 8 = .ok (.istore_n 2, 1) := by decide +kernel
theorem dX10_greatestChange_9 : decode cX10_greatestChange 9 = .ok (.bipush (-9), 2) := by decide +kernel
theorem dX10_greatestChange_11 : decode cX10_greatestChange 11 = .ok (.istore_n 3, 1) := by decide +kernel
theorem dX10_greatestChange_12 : decode cX10_greatestChange 12 = .ok (.iconst 0, 1) := by decide +kernel
theorem dX10_greatestChange_13 : decode cX10_greatestChange 13 = .ok (.istore 4, 2) := by decide +kernel
theorem dX10_greatestChange_15 : decode cX10_greatestChange 15 = .ok (.iconst 0, 1) := by decide +kernel
theorem dX10_greatestChange_16 : decode cX10_greatestChange 16 = .ok (.istore 5, 2) := by decide +kernel
theorem dX10_greatestChange_18 : decode cX10_greatestChange 18 = .ok (.iload 5, 2) := by decide +kernel
theorem dX10_greatestChange_20 : decode cX10_greatestChange 20 = .ok (.aload_n 0, 1) := by decide +kernel
theorem dX10_greatestChange_21 : decode cX10_greatestChange 21 = .ok (.getfield 31, 3) := by decide +kernel
theorem dX10_greatestChange_24 : decode cX10_greatestChange 24 = .ok (.getfield 156, 3) := by decide +kernel
theorem dX10_greatestChange_27 : decode cX10_greatestChange 27 = .ok (.if_icmp .ge 67, 3) := by decide +kernel
theorem dX10_greatestChange_30 : decode cX10_greatestChange 30 = .ok (.iload_n 1, 1) := by decide +kernel
theorem dX10_greatestChange_31 : decode cX10_greatestChange 31 = .ok (.iconst 1, 1) := by decide +kernel
theorem dX10_greatestChange_32 : decode cX10_greatestChange 32 = .ok (.iload 5, 2) := by decide +kernel
theorem dX10_greatestChange_34 : decode cX10_greatestChange 34 = .ok (.ishl, 1) := by decide +kernel
theorem dX10_greatestChange_35 : decode cX10_greatestChange 35 = .ok (.iand, 1) := by decide +kernel
theorem dX10_greatestChange_36 : decode cX10_greatestChange 36 = .ok (.ifCond .eq 52, 3) := by decide +kernel
theorem dX10_greatestChange_39 : decode cX10_greatestChange 39 = .ok (.aload_n 0, 1) := by decide +kernel
theorem dX10_greatestChange_40 : decode cX10_greatestChange 40 = .ok (.getfield 49, 3) := by decide +kernel
theorem dX10_greatestChange_43 : decode cX10_greatestChange 43 = .ok (.getfield 244, 3) := by decide +kernel
theorem dX10_greatestChange_46 : decode cX10_greatestChange 46 = .ok (.iload_n 2, 1) := by decide +kernel
theorem dX10_greatestChange_47 : decode cX10_greatestChange 47 = .ok (.iconst 1, 1) := by decide +kernel
theorem dX10_greatestChange_48 : decode cX10_greatestChange 48 = .ok (.iload 5, 2) := by decide +kernel
theorem dX10_greatestChange_50 : decode cX10_greatestChange 50 = .ok (.ishl, 1) := by decide +kernel
theorem dX10_greatestChange_51 : decode cX10_greatestChange 51 = .ok (.ixor, 1) := by decide +kernel
theorem dX10_greatestChange_52 : decode cX10_greatestChange 52 = .ok (.iaload, 1) := by decide +kernel
theorem dX10_greatestChange_53 : decode cX10_greatestChange 53 = .ok (.aload_n 0, 1) := by decide +kernel
theorem dX10_greatestChange_54 : decode cX10_greatestChange 54 = .ok (.getfield 49, 3) := by decide +kernel
theorem dX10_greatestChange_57 : decode cX10_greatestChange 57 = .ok (.getfield 244, 3) := by decide +kernel
theorem dX10_greatestChange_60 : decode cX10_greatestChange 60 = .ok (.iload_n 2, 1) := by decide +kernel
theorem dX10_greatestChange_61 : decode cX10_greatestChange 61 = .ok (.iaload, 1) := by decide +kernel
theorem dX10_greatestChange_62 : decode cX10_greatestChange 62 = .ok (.isub, 1) := by decide +kernel
theorem dX10_greatestChange_63 : decode cX10_greatestChange 63 = .ok (.invokestatic 352, 3) := by decide +kernel
theorem dX10_greatestChange_66 : decode cX10_greatestChange 66 = .ok (.istore 6, 2) := by decide +kernel
theorem dX10_greatestChange_68 : decode cX10_greatestChange 68 = .ok (.iload_n 3, 1) := by decide +kernel
theorem dX10_greatestChange_69 : decode cX10_greatestChange 69 = .ok (.bipush (-9), 2) := by decide +kernel
theorem dX10_greatestChange_71 : decode cX10_greatestChange 71 = .ok (.if_icmp .eq 10, 3) := by decide +kernel
theorem dX10_greatestChange_74 : decode cX10_greatestChange 74 = .ok (.iload 6, 2) := by decide +kernel
theorem dX10_greatestChange_76 : decode cX10_greatestChange 76 = .ok (.iload 4, 2) := by decide +kernel
theorem dX10_greatestChange_78 : decode cX10_greatestChange 78 = .ok (.if_icmp .le 10, 3) := by decide +kernel
theorem dX10_greatestChange_81 : decode cX10_greatestChange 81 = .ok (.iload 5, 2) := by decide +kernel
theorem dX10_greatestChange_83 : decode cX10_greatestChange 83 = .ok (.istore_n 3, 1) := by decide +kernel
theorem dX10_greatestChange_84 : decode cX10_greatestChange 84 = .ok (.iload 6, 2) := by decide +kernel
theorem dX10_greatestChange_86 : decode cX10_greatestChange 86 = .ok (.istore 4, 2) := by decide +kernel
theorem dX10_greatestChange_88 : decode cX10_greatestChange 88 = .ok (.iinc 5 1, 3) := by decide +kernel
theorem dX10_greatestChange_91 : decode cX10_greatestChange 91 = .ok (.goto (-73), 3) := by decide +kernel
theorem dX10_greatestChange_94 : decode cX10_greatestChange 94 = .ok (.iload_n 3, 1) := by decide +kernel
theorem dX10_greatestChange_95 : decode cX10_greatestChange 95 = .ok (.bipush (-9), 2) := by decide +kernel
theorem dX10_greatestChange_97 : decode cX10_greatestChange 97 = .ok (.if_icmp .eq 9, 3) := by decide +kernel
theorem dX10_greatestChange_100 : decode cX10_greatestChange 100 = .ok (.aload_n 0, 1) := by decide +kernel
theorem dX10_greatestChange_101 : decode cX10_greatestChange 101 = .ok (.iload 4, 2) := by decide +kernel
theorem dX10_greatestChange_103 : decode cX10_greatestChange 103 = .ok (.putfield 88, 3) := by decide +kernel
theorem dX10_greatestChange_106 : decode cX10_greatestChange 106 = .ok (.iload_n 3, 1) := by decide +kernel
theorem dX10_greatestChange_107 : decode cX10_greatestChange 107 = .ok (.ireturn, 1) := by decide +kernel
theorem dX10_howManyKept_0 : decode cX10_howManyKept 0 = .ok (.iconst 0, 1) := by decide +kernel
theorem dX10_howManyKept_1 : decode cX10_howManyKept 1 = .ok (.istore_n 1, 1) := by decide +kernel
theorem dX10_howManyKept_2 : decode cX10_howManyKept 2 = .ok (.iconst 0, 1) := by decide +kernel
theorem dX10_howManyKept_3 : decode cX10_howManyKept 3 = .ok (.istore_n 2, 1) := by decide +kernel
theorem dX10_howManyKept_4 : decode cX10_howManyKept 4 = .ok (.iload_n 2, 1) := by decide +kernel
theorem dX10_howManyKept_5 : decode cX10_howManyKept 5 = .ok (.iconst 3, 1) := by decide +kernel
theorem dX10_howManyKept_6 : decode cX10_howManyKept 6 = .ok (.if_icmp .ge 25, 3) := by decide +kernel
theorem dX10_howManyKept_9 : decode cX10_howManyKept 9 = .ok (.aload_n 0, 1) := by decide +kernel
theorem dX10_howManyKept_10 : decode cX10_howManyKept 10 = .ok (.getfield 37, 3) := by decide +kernel
theorem dX10_howManyKept_13 : decode cX10_howManyKept 13 = .ok (.iload_n 2, 1) := by decide +kernel
theorem dX10_howManyKept_14 : decode cX10_howManyKept 14 = .ok (.aaload, 1) := by decide +kernel
theorem dX10_howManyKept_15 : decode cX10_howManyKept 15 = .ok (.getfield 42, 3) := by decide +kernel
theorem dX10_howManyKept_18 : decode cX10_howManyKept 18 = .ok (.iconst (-1), 1) := by decide +kernel
theorem dX10_howManyKept_19 : decode cX10_howManyKept 19 = .ok (.if_icmp .eq 6, 3) := by decide +kernel
theorem dX10_howManyKept_22 : decode cX10_howManyKept 22 = .ok (.iinc 1 1, 3) := by decide +kernel
theorem dX10_howManyKept_25 : decode cX10_howManyKept 25 = .ok (.iinc 2 1, 3) := by decide +kernel
theorem dX10_howManyKept_28 : decode cX10_howManyKept 28 = .ok (.goto (-24), 3) := by decide +kernel
theorem dX10_howManyKept_31 : decode cX10_howManyKept 31 = .ok (.iload_n 1, 1) := by decide +kernel
theorem dX10_howManyKept_32 : decode cX10_howManyKept 32 = .ok (.ireturn, 1) := by decide +kernel
theorem dX10_isChance_0 : decode cX10_isChance 0 = .ok (.iload_n 0, 1) := by decide +kernel
theorem dX10_isChance_1 : decode cX10_isChance 1 = .ok (.ifCond .lt 13, 3) := by decide +kernel
theorem dX10_isChance_4 : decode cX10_isChance 4 = .ok (.iload_n 0, 1) := by decide +kernel
theorem dX10_isChance_5 : decode cX10_isChance 5 = .ok (.bipush 12, 2) := by decide +kernel
theorem dX10_isChance_7 : decode cX10_isChance 7 = .ok (.if_icmp .gt 7, 3) := by decide +kernel
theorem dX10_isChance_10 : decode cX10_isChance 10 = .ok (.iconst 1, 1) := by decide +kernel
theorem dX10_isChance_11 : decode cX10_isChance 11 = .ok (.goto 4, 3) := by decide +kernel
theorem dX10_isChance_14 : decode cX10_isChance 14 = .ok (.iconst 0, 1) := by decide +kernel
theorem dX10_isChance_15 : decode cX10_isChance 15 = .ok (.ireturn, 1) := by decide +kernel
