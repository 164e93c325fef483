theorem dX10_init_0 : decode cX10_init 0 = .ok (.aload_n 0, 1) := by decide +kernel
theorem dX10_init_1 : decode cX10_init 1 = .ok (.invokespecial 1, 3) := by decide +kernel
theorem dX10_init_4 : decode cX10_init 4 = .ok (.aload_n 0, 1) := by decide +kernel
theorem dX10_init_5 : decode cX10_init 5 = .ok (.new 7, 3) := by decide +kernel
theorem dX10_init_8 : decode cX10_init 8 = .ok (.dup, 1) := by decide +kernel
theorem dX10_init_9 : decode cX10_init 9 = .ok (.bipush 6, 2) := by decide +kernel
theorem dX10_init_11 : decode cX10_init 11 = .ok (.bipush 40, 2) := by decide +kernel
theorem dX10_init_13 : decode cX10_init 13 = .ok (.iconst 0, 1) := by decide +kernel
theorem dX10_init_14 : decode cX10_init 14 = .ok (.invokespecial 11, 3) := by decide +kernel
theorem dX10_init_17 : decode cX10_init 17 = .ok (.putfield 14, 3) := by decide +kernel
theorem dX10_init_20 : decode cX10_init 20 = .ok (.aload_n 0, 1) := by decide +kernel
theorem dX10_init_21 : decode cX10_init 21 = .ok (.new 7, 3) := by decide +kernel
theorem dX10_init_24 : decode cX10_init 24 = .ok (.dup, 1) := by decide +kernel
theorem dX10_init_25 : decode cX10_init 25 = .ok (.iconst 4, 1) := by decide +kernel
theorem dX10_init_26 : decode cX10_init 26 = .ok (.bipush 60, 2) := by decide +kernel
theorem dX10_init_28 : decode cX10_init 28 = .ok (.bipush 32, 2) := by decide +kernel
theorem dX10_init_30 : decode cX10_init 30 = .ok (.invokespecial 11, 3) := by decide +kernel
theorem dX10_init_33 : decode cX10_init 33 = .ok (.putfield 18, 3) := by decide +kernel
theorem dX10_init_36 : decode cX10_init 36 = .ok (.aload_n 0, 1) := by decide +kernel
theorem dX10_init_37 : decode cX10_init 37 = .ok (.new 21, 3) := by decide +kernel
theorem dX10_init_40 : decode cX10_init 40 = .ok (.dup, 1) := by decide +kernel
theorem dX10_init_41 : decode cX10_init 41 = .ok (.invokespecial 23, 3) := by decide +kernel
theorem dX10_init_44 : decode cX10_init 44 = .ok (.putfield 24, 3) := by decide +kernel
theorem dX10_init_47 : decode cX10_init 47 = .ok (.aload_n 0, 1) := by decide +kernel
theorem dX10_init_48 : decode cX10_init 48 = .ok (.new 28, 3) := by decide +kernel
theorem dX10_init_51 : decode cX10_init 51 = .ok (.dup, 1) := by decide +kernel
theorem dX10_init_52 : decode cX10_init 52 = .ok (.invokespecial 30, 3) := by decide +kernel
theorem dX10_init_55 : decode cX10_init 55 = .ok (.putfield 31, 3) := by decide +kernel
theorem dX10_init_58 : decode cX10_init 58 = .ok (.aload_n 0, 1) := by decide +kernel
theorem dX10_init_59 : decode cX10_init 59 = .ok (.iconst 3, 1) := by decide +kernel
theorem dX10_init_60 : decode cX10_init 60 = .ok (.anewarray 35, 3) := by decide +kernel
theorem dX10_init_63 : decode cX10_init 63 = .ok (.putfield 37, 3) := by decide +kernel
theorem dX10_init_66 : decode cX10_init 66 = .ok (.iconst 0, 1) := by decide +kernel
theorem dX10_init_67 : decode cX10_init 67 = .ok (.istore_n 1, 1) := by decide +kernel
theorem dX10_init_68 : decode cX10_init 68 = .ok (.iload_n 1, 1) := by decide +kernel
theorem dX10_init_69 : decode cX10_init 69 = .ok (.iconst 3, 1) := by decide +kernel
theorem dX10_init_70 : decode cX10_init 70 = .ok (.if_icmp .ge 32, 3) := by decide +kernel
theorem dX10_init_73 : decode cX10_init 73 = .ok (.aload_n 0, 1) := by decide +kernel
theorem dX10_init_74 : decode cX10_init 74 = .ok (.getfield 37, 3) := by decide +kernel
theorem dX10_init_77 : decode cX10_init 77 = .ok (.iload_n 1, 1) := by decide +kernel
theorem dX10_init_78 : decode cX10_init 78 = .ok (.new 35, 3) := by decide +kernel
theorem dX10_init_81 : decode cX10_init 81 = .ok (.dup, 1) := by decide +kernel
theorem dX10_init_82 : decode cX10_init 82 = .ok (.invokespecial 41, 3) := by decide +kernel
theorem dX10_init_85 : decode cX10_init 85 = .ok (.aastore, 1) := by decide +kernel
theorem dX10_init_86 : decode cX10_init 86 = .ok (.aload_n 0, 1) := by decide +kernel
theorem dX10_init_87 : decode cX10_init 87 = .ok (.getfield 37, 3) := by decide +kernel
theorem dX10_init_90 : decode cX10_init 90 = .ok (.iload_n 1, 1) := by decide +kernel
theorem dX10_init_91 : decode cX10_init 91 = .ok (.aaload, 1) := by decide +kernel
theorem dX10_init_92 : decode cX10_init 92 = .ok (.iconst (-1), 1) := by decide +kernel
theorem dX10_init_93 : decode cX10_init 93 = .ok (.putfield 42, 3) := by decide +kernel
theorem dX10_init_96 : decode cX10_init 96 = .ok (.iinc 1 1, 3) := by decide +kernel
theorem dX10_init_99 : decode cX10_init 99 = .ok (.goto (-31), 3) := by decide +kernel
theorem dX10_init_102 : decode cX10_init 102 = .ok (.aload_n 0, 1) := by decide +kernel
theorem dX10_init_103 : decode cX10_init 103 = .ok (.new 46, 3) := by decide +kernel
theorem dX10_init_106 : decode cX10_init 106 = .ok (.dup, 1) := by decide +kernel
theorem dX10_init_107 : decode cX10_init 107 = .ok (.invokespecial 48, 3) := by decide +kernel
theorem dX10_init_110 : decode cX10_init 110 = .ok (.putfield 49, 3) := by decide +kernel
theorem dX10_init_113 : decode cX10_init 113 = .ok (.aload_n 0, 1) := by decide +kernel
theorem dX10_init_114 : decode cX10_init 114 = .ok (.new 53, 3) := by decide +kernel
theorem dX10_init_117 : decode cX10_init 117 = .ok (.dup, 1) := by decide +kernel
theorem dX10_init_118 : decode cX10_init 118 = .ok (.invokespecial 55, 3) := by decide +kernel
theorem dX10_init_121 : decode cX10_init 121 = .ok (.putfield 56, 3) := by decide +kernel
theorem dX10_init_124 : decode cX10_init 124 = .ok (.aload_n 0, 1) := by decide +kernel
theorem dX10_init_125 : decode cX10_init 125 = .ok (.new 60, 3) := by decide +kernel
theorem dX10_init_128 : decode cX10_init 128 = .ok (.dup, 1) := by decide +kernel
theorem dX10_init_129 : decode cX10_init 129 = .ok (.invokespecial 62, 3) := by decide +kernel
theorem dX10_init_132 : decode cX10_init 132 = .ok (.putfield 63, 3) := by decide +kernel
theorem dX10_init_135 : decode cX10_init 135 = .ok (.aload_n 0, 1) := by decide +kernel
theorem dX10_init_136 : decode cX10_init 136 = .ok (.new 67, 3) := by decide +kernel
theorem dX10_init_139 : decode cX10_init 139 = .ok (.dup, 1) := by decide +kernel
theorem dX10_init_140 : decode cX10_init 140 = .ok (.invokespecial 69, 3) := by decide +kernel
theorem dX10_init_143 : decode cX10_init 143 = .ok (.putfield 70, 3) := by decide +kernel
theorem dX10_init_146 : decode cX10_init 146 = .ok (.aload_n 0, 1) := by decide +kernel
theorem dX10_init_147 : decode cX10_init 147 = .ok (.new 74, 3) := by decide +kernel
theorem dX10_init_150 : decode cX10_init 150 = .ok (.dup, 1) := by decide +kernel
theorem dX10_init_151 : decode cX10_init 151 = .ok (.invokespecial 76, 3) := by decide +kernel
theorem dX10_init_154 : decode cX10_init 154 = .ok (.putfield 77, 3) := by decide +kernel
theorem dX10_init_157 : decode cX10_init 157 = .ok (.aload_n 0, 1) := by decide +kernel
theorem dX10_init_158 : decode cX10_init 158 = .ok (.bipush 6, 2) := by decide +kernel
theorem dX10_init_160 : decode cX10_init 160 = .ok (.newarray .int, 2) := by decide +kernel
theorem dX10_init_162 : decode cX10_init 162 = .ok (.putfield 81, 3) := by decide +kernel
theorem dX10_init_165 : decode cX10_init 165 = .ok (.aload_n 0, 1) := by decide +kernel
theorem dX10_init_166 : decode cX10_init 166 = .ok (.iconst 0, 1) := by decide +kernel
theorem dX10_init_167 : decode cX10_init 167 = .ok (.putfield 85, 3) := by decide +kernel
theorem dX10_init_170 : decode cX10_init 170 = .ok (.aload_n 0, 1) := by decide +kernel
theorem dX10_init_171 : decode cX10_init 171 = .ok (.iconst 0, 1) := by decide +kernel
theorem dX10_init_172 : decode cX10_init 172 = .ok (.putfield 88, 3) := by decide +kernel
theorem dX10_init_175 : decode cX10_init 175 = .ok (.return_, 1) := by decide +kernel
theorem dX10_row_0 : decode cX10_row 0 = .ok (.aload_n 0, 1) := by decide +kernel
theorem dX10_row_1 : decode cX10_row 1 = .ok (.getfield 14, 3) := by decide +kernel
theorem dX10_row_4 : decode cX10_row 4 = .ok (.iload_n 1, 1) := by decide +kernel
theorem dX10_row_5 : decode cX10_row 5 = .ok (.invokevirtual 91, 3) := by decide +kernel
theorem dX10_row_8 : decode cX10_row 8 = .ok (.ifCond .eq 9, 3) := by decide +kernel
theorem dX10_row_11 : decode cX10_row 11 = .ok (.iload_n 2, 1) := by decide +kernel
theorem dX10_row_12 : decode cX10_row 12 = .ok (.bipush 40, 2) := by decide +kernel
theorem dX10_row_14 : decode cX10_row 14 = .ok (.if_icmp .le 5, 3) := by decide +kernel
theorem dX10_row_17 : decode cX10_row 17 = .ok (.iconst (-1), 1) := by decide +kernel
theorem dX10_row_18 : decode cX10_row 18 = .ok (.ireturn, 1) := by decide +kernel
theorem dX10_row_19 : decode cX10_row 19 = .ok (.iload_n 2, 1) := by decide +kernel
theorem dX10_row_20 : decode cX10_row 20 = .ok (.ifCond .ge 9, 3) := by decide +kernel
theorem dX10_row_23 : decode cX10_row 23 = .ok (.aload_n 0, 1) := by decide +kernel
theorem dX10_row_24 : decode cX10_row 24 = .ok (.iconst 5, 1) := by decide +kernel
theorem dX10_row_25 : decode cX10_row 25 = .ok (.invokevirtual 95, 3) := by decide +kernel
theorem dX10_row_28 : decode cX10_row 28 = .ok (.ireturn, 1) := by decide +kernel
theorem dX10_row_29 : decode cX10_row 29 = .ok (.aload_n 0, 1) := by decide +kernel
theorem dX10_row_30 : decode cX10_row 30 = .ok (.getfield 14, 3) := by decide +kernel
theorem dX10_row_33 : decode cX10_row 33 = .ok (.iload_n 1, 1) := by decide +kernel
theorem dX10_row_34 : decode cX10_row 34 = .ok (.iload_n 2, 1) := by decide +kernel
theorem dX10_row_35 : decode cX10_row 35 = .ok (.invokevirtual 99, 3) := by decide +kernel
theorem dX10_row_38 : decode cX10_row 38 = .ok (.iload_n 2, 1) := by decide +kernel
theorem dX10_row_39 : decode cX10_row 39 = .ok (.ireturn, 1) := by decide +kernel
theorem dX10_lay_0 : decode cX10_lay 0 = .ok (.aload_n 0, 1) := by decide +kernel
theorem dX10_lay_1 : decode cX10_lay 1 = .ok (.iload_n 1, 1) := by decide +kernel
theorem dX10_lay_2 : decode cX10_lay 2 = .ok (.iload_n 2, 1) := by decide +kernel
theorem dX10_lay_3 : decode cX10_lay 3 = .ok (.invokevirtual 103, 3) := by decide +kernel
theorem dX10_lay_6 : decode cX10_lay 6 = .ok (.istore 4, 2) := by decide +kernel
theorem dX10_lay_8 : decode cX10_lay 8 = .ok (.iload 4, 2) := by decide +kernel
theorem dX10_lay_10 : decode cX10_lay 10 = .ok (.ifCond .eq 6, 3) := by decide +kernel
theorem dX10_lay_13 : decode cX10_lay 13 = .ok (.iload 4, 2) := by decide +kernel
theorem dX10_lay_15 : decode cX10_lay 15 = .ok (.ireturn, 1) := by decide +kernel
theorem dX10_lay_16 : decode cX10_lay 16 = .ok (.aload_n 0, 1) := by decide +kernel
theorem dX10_lay_17 : decode cX10_lay 17 = .ok (.getfield 14, 3) := by decide +kernel
theorem dX10_lay_20 : decode cX10_lay 20 = .ok (.iload_n 1, 1) := by decide +kernel
theorem dX10_lay_21 : decode cX10_lay 21 = .ok (.iload_n 2, 1) := by decide +kernel
theorem dX10_lay_22 : decode cX10_lay 22 = .ok (.invokevirtual 107, 3) := by decide +kernel
theorem dX10_lay_25 : decode cX10_lay 25 = .ok (.istore 5, 2) := by decide +kernel
theorem dX10_lay_27 : decode cX10_lay 27 = .ok (.aload_n 0, 1) := by decide +kernel
theorem dX10_lay_28 : decode cX10_lay 28 = .ok (.getfield 14, 3) := by decide +kernel
theorem dX10_lay_31 : decode cX10_lay 31 = .ok (.iload_n 1, 1) := by decide +kernel
theorem dX10_lay_32 : decode cX10_lay 32 = .ok (.iload_n 2, 1) := by decide +kernel
theorem dX10_lay_33 : decode cX10_lay 33 = .ok (.iload_n 3, 1) := by decide +kernel
theorem dX10_lay_34 : decode cX10_lay 34 = .ok (.invokevirtual 110, 3) := by decide +kernel
theorem dX10_lay_37 : decode cX10_lay 37 = .ok (.aload_n 0, 1) := by decide +kernel
theorem dX10_lay_38 : decode cX10_lay 38 = .ok (.iload 5, 2) := by decide +kernel
theorem dX10_lay_40 : decode cX10_lay 40 = .ok (.invokevirtual 113, 3) := by decide +kernel
theorem dX10_lay_43 : decode cX10_lay 43 = .ok (.ireturn, 1) := by decide +kernel
theorem dX10_at_0 : decode cX10_at 0 = .ok (.aload_n 0, 1) := by decide +kernel
theorem dX10_at_1 : decode cX10_at 1 = .ok (.iload_n 1, 1) := by decide +kernel
theorem dX10_at_2 : decode cX10_at 2 = .ok (.iload_n 2, 1) := by decide +kernel
theorem dX10_at_3 : decode cX10_at 3 = .ok (.invokevirtual 103, 3) := by decide +kernel
theorem dX10_at_6 : decode cX10_at 6 = .ok (.istore_n 3, 1) := by decide +kernel
theorem dX10_at_7 : decode cX10_at 7 = .ok (.iload_n 3, 1) := by decide +kernel
theorem dX10_at_8 : decode cX10_at 8 = .ok (.ifCond .eq 5, 3) := by decide +kernel
theorem dX10_at_11 : decode cX10_at 11 = .ok (.iload_n 3, 1) := by decide +kernel
theorem dX10_at_12 : decode cX10_at 12 = .ok (.ireturn, 1) := by decide +kernel
theorem dX10_at_13 : decode cX10_at 13 = .ok (.aload_n 0, 1) := by decide +kernel
theorem dX10_at_14 : decode cX10_at 14 = .ok (.aload_n 0, 1) := by decide +kernel
theorem dX10_at_15 : decode cX10_at 15 = .ok (.getfield 14, 3) := by decide +kernel
theorem dX10_at_18 : decode cX10_at 18 = .ok (.iload_n 1, 1) := by decide +kernel
theorem dX10_at_19 : decode cX10_at 19 = .ok (.iload_n 2, 1) := by decide +kernel
theorem dX10_at_20 : decode cX10_at 20 = .ok (.invokevirtual 107, 3) := by decide +kernel
theorem dX10_at_23 : decode cX10_at 23 = .ok (.invokevirtual 113, 3) := by decide +kernel
theorem dX10_at_26 : decode cX10_at 26 = .ok (.ireturn, 1) := by decide +kernel
theorem dX10_tear_0 : decode cX10_tear 0 = .ok (.aload_n 0, 1) := by decide +kernel
theorem dX10_tear_1 : decode cX10_tear 1 = .ok (.iload_n 1, 1) := by decide +kernel
theorem dX10_tear_2 : decode cX10_tear 2 = .ok (.invokevirtual 116, 3) := by decide +kernel
theorem dX10_tear_5 : decode cX10_tear 5 = .ok (.istore_n 2, 1) := by decide +kernel
theorem dX10_tear_6 : decode cX10_tear 6 = .ok (.iload_n 2, 1) := by decide +kernel
theorem dX10_tear_7 : decode cX10_tear 7 = .ok (.ifCond .eq 5, 3) := by decide +kernel
theorem dX10_tear_10 : decode cX10_tear 10 = .ok (.iload_n 2, 1) := by decide +kernel
theorem dX10_tear_11 : decode cX10_tear 11 = .ok (.ireturn, 1) := by decide +kernel
theorem dX10_tear_12 : decode cX10_tear 12 = .ok (.aload_n 0, 1) := by decide +kernel
theorem dX10_tear_13 : decode cX10_tear 13 = .ok (.getfield 14, 3) := by decide +kernel
theorem dX10_tear_16 : decode cX10_tear 16 = .ok (.iload_n 1, 1) := by decide +kernel
theorem dX10_tear_17 : decode cX10_tear 17 = .ok (.invokevirtual 119, 3) := by decide +kernel
theorem dX10_tear_20 : decode cX10_tear 20 = .ok (.iconst 1, 1) := by decide +kernel
theorem dX10_tear_21 : decode cX10_tear 21 = .ok (.ireturn, 1) := by decide +kernel
theorem dX10_copy_0 : decode cX10_copy 0 = .ok (.aload_n 0, 1) := by decide +kernel
theorem dX10_copy_1 : decode cX10_copy 1 = .ok (.getfield 14, 3) := by decide +kernel
theorem dX10_copy_4 : decode cX10_copy 4 = .ok (.iload_n 1, 1) := by decide +kernel
theorem dX10_copy_5 : decode cX10_copy 5 = .ok (.invokevirtual 91, 3) := by decide +kernel
theorem dX10_copy_8 : decode cX10_copy 8 = .ok (.ifCond .eq 14, 3) := by decide +kernel
theorem dX10_copy_11 : decode cX10_copy 11 = .ok (.aload_n 0, 1) := by decide +kernel
theorem dX10_copy_12 : decode cX10_copy 12 = .ok (.getfield 14, 3) := by decide +kernel
theorem dX10_copy_15 : decode cX10_copy 15 = .ok (.iload_n 3, 1) := by decide +kernel
theorem dX10_copy_16 : decode cX10_copy 16 = .ok (.invokevirtual 91, 3) := by decide +kernel
theorem dX10_copy_19 : decode cX10_copy 19 = .ok (.ifCond .ne 5, 3) := by decide +kernel
theorem dX10_copy_22 : decode cX10_copy 22 = .ok (.iconst (-1), 1) := by decide +kernel
theorem dX10_copy_23 : decode cX10_copy 23 = .ok (.ireturn, 1) := by decide +kernel
theorem dX10_copy_24 : decode cX10_copy 24 = .ok (.iload 5, 2) := by decide +kernel
theorem dX10_copy_26 : decode cX10_copy 26 = .ok (.ifCond .ge 9, 3) := by decide +kernel
theorem dX10_copy_29 : decode cX10_copy 29 = .ok (.aload_n 0, 1) := by decide +kernel
theorem dX10_copy_30 : decode cX10_copy 30 = .ok (.iconst 5, 1) := by decide +kernel
theorem dX10_copy_31 : decode cX10_copy 31 = .ok (.invokevirtual 95, 3) := by decide +kernel
theorem dX10_copy_34 : decode cX10_copy 34 = .ok (.ireturn, 1) := by decide +kernel
theorem dX10_copy_35 : decode cX10_copy 35 = .ok (.aload_n 0, 1) := by decide +kernel
theorem dX10_copy_36 : decode cX10_copy 36 = .ok (.getfield 14, 3) := by decide +kernel
theorem dX10_copy_39 : decode cX10_copy 39 = .ok (.iload_n 1, 1) := by decide +kernel
theorem dX10_copy_40 : decode cX10_copy 40 = .ok (.invokevirtual 123, 3) := by decide +kernel
theorem dX10_copy_43 : decode cX10_copy 43 = .ok (.ifCond .eq 14, 3) := by decide +kernel
theorem dX10_copy_46 : decode cX10_copy 46 = .ok (.aload_n 0, 1) := by decide +kernel
theorem dX10_copy_47 : decode cX10_copy 47 = .ok (.getfield 14, 3) := by decide +kernel
theorem dX10_copy_50 : decode cX10_copy 50 = .ok (.iload_n 3, 1) := by decide +kernel
theorem dX10_copy_51 : decode cX10_copy 51 = .ok (.invokevirtual 123, 3) := by decide +kernel
theorem dX10_copy_54 : decode cX10_copy 54 = .ok (.ifCond .ne 9, 3) := by decide +kernel
theorem dX10_copy_57 : decode cX10_copy 57 = .ok (.aload_n 0, 1) := by decide +kernel
theorem dX10_copy_58 : decode cX10_copy 58 = .ok (.iconst 1, 1) := by decide +kernel
theorem dX10_copy_59 : decode cX10_copy 59 = .ok (.invokevirtual 95, 3) := by decide +kernel
theorem dX10_copy_62 : decode cX10_copy 62 = .ok (.ireturn, 1) := by decide +kernel
theorem dX10_copy_63 : decode cX10_copy 63 = .ok (.aload_n 0, 1) := by decide +kernel
theorem dX10_copy_64 : decode cX10_copy 64 = .ok (.getfield 14, 3) := by decide +kernel
theorem dX10_copy_67 : decode cX10_copy 67 = .ok (.iload_n 1, 1) := by decide +kernel
theorem dX10_copy_68 : decode cX10_copy 68 = .ok (.iload_n 2, 1) := by decide +kernel
theorem dX10_copy_69 : decode cX10_copy 69 = .ok (.iload 5, 2) := by decide +kernel
theorem dX10_copy_71 : decode cX10_copy 71 = .ok (.invokevirtual 126, 3) := by decide +kernel
theorem dX10_copy_74 : decode cX10_copy 74 = .ok (.ifCond .eq 18, 3) := by decide +kernel
theorem dX10_copy_77 : decode cX10_copy 77 = .ok (.aload_n 0, 1) := by decide +kernel
theorem dX10_copy_78 : decode cX10_copy 78 = .ok (.getfield 14, 3) := by decide +kernel
theorem dX10_copy_81 : decode cX10_copy 81 = .ok (.iload_n 3, 1) := by decide +kernel
theorem dX10_copy_82 : decode cX10_copy 82 = .ok (.iload 4, 2) := by decide +kernel
theorem dX10_copy_84 : decode cX10_copy 84 = .ok (.iload 5, 2) := by decide +kernel
theorem dX10_copy_86 : decode cX10_copy 86 = .ok (.invokevirtual 126, 3) := by decide +kernel
theorem dX10_copy_89 : decode cX10_copy 89 = .ok (.ifCond .ne 9, 3) := by decide +kernel
theorem dX10_copy_92 : decode cX10_copy 92 = .ok (.aload_n 0, 1) := by decide +kernel
theorem dX10_copy_93 : decode cX10_copy 93 = .ok (.iconst 2, 1) := by decide +kernel
theorem dX10_copy_94 : decode cX10_copy 94 = .ok (.invokevirtual 95, 3) := by decide +kernel
theorem dX10_copy_97 : decode cX10_copy 97 = .ok (.ireturn, 1) := by decide +kernel
theorem dX10_copy_98 : decode cX10_copy 98 = .ok (.aload_n 0, 1) := by decide +kernel
theorem dX10_copy_99 : decode cX10_copy 99 = .ok (.getfield 14, 3) := by decide +kernel
theorem dX10_copy_102 : decode cX10_copy 102 = .ok (.iload_n 1, 1) := by decide +kernel
theorem dX10_copy_103 : decode cX10_copy 103 = .ok (.iload_n 2, 1) := by decide +kernel
theorem dX10_copy_104 : decode cX10_copy 104 = .ok (.iload_n 3, 1) := by decide +kernel
theorem dX10_copy_105 : decode cX10_copy 105 = .ok (.iload 4, 2) := by decide +kernel
theorem dX10_copy_107 : decode cX10_copy 107 = .ok (.iload 5, 2) := by decide +kernel
theorem dX10_copy_109 : decode cX10_copy 109 = .ok (.invokevirtual 130, 3) := by decide +kernel
theorem dX10_copy_112 : decode cX10_copy 112 = .ok (.iconst 1, 1) := by decide +kernel
theorem dX10_copy_113 : decode cX10_copy 113 = .ok (.ireturn, 1) := by decide +kernel
theorem dX10_mean_0 : decode cX10_mean 0 = .ok (.aload_n 0, 1) := by decide +kernel
theorem dX10_mean_1 : decode cX10_mean 1 = .ok (.iload_n 1, 1) := by decide +kernel
theorem dX10_mean_2 : decode cX10_mean 2 = .ok (.invokevirtual 116, 3) := by decide +kernel
theorem dX10_mean_5 : decode cX10_mean 5 = .ok (.istore_n 2, 1) := by decide +kernel
theorem dX10_mean_6 : decode cX10_mean 6 = .ok (.iload_n 2, 1) := by decide +kernel
theorem dX10_mean_7 : decode cX10_mean 7 = .ok (.ifCond .eq 5, 3) := by decide +kernel
theorem dX10_mean_10 : decode cX10_mean 10 = .ok (.iload_n 2, 1) := by decide +kernel
theorem dX10_mean_11 : decode cX10_mean 11 = .ok (.ireturn, 1) := by decide +kernel
theorem dX10_mean_12 : decode cX10_mean 12 = .ok (.aload_n 0, 1) := by decide +kernel
theorem dX10_mean_13 : decode cX10_mean 13 = .ok (.getfield 14, 3) := by decide +kernel
theorem dX10_mean_16 : decode cX10_mean 16 = .ok (.iload_n 1, 1) := by decide +kernel
theorem dX10_mean_17 : decode cX10_mean 17 = .ok (.invokevirtual 134, 3) := by decide +kernel
theorem dX10_mean_20 : decode cX10_mean 20 = .ok (.istore_n 3, 1) := by decide +kernel
theorem dX10_mean_21 : decode cX10_mean 21 = .ok (.iload_n 3, 1) := by decide +kernel
theorem dX10_mean_22 : decode cX10_mean 22 = .ok (.ifCond .gt 9, 3) := by decide +kernel
theorem dX10_mean_25 : decode cX10_mean 25 = .ok (.aload_n 0, 1) := by decide +kernel
theorem dX10_mean_26 : decode cX10_mean 26 = .ok (.iconst 4, 1) := by decide +kernel
theorem dX10_mean_27 : decode cX10_mean 27 = .ok (.invokevirtual 95, 3) := by decide +kernel
theorem dX10_mean_30 : decode cX10_mean 30 = .ok (.ireturn, 1) := by decide +kernel
theorem dX10_mean_31 : decode cX10_mean 31 = .ok (.aload_n 0, 1) := by decide +kernel
theorem dX10_mean_32 : decode cX10_mean 32 = .ok (.aload_n 0, 1) := by decide +kernel
theorem dX10_mean_33 : decode cX10_mean 33 = .ok (.getfield 14, 3) := by decide +kernel
theorem dX10_mean_36 : decode cX10_mean 36 = .ok (.iload_n 1, 1) := by decide +kernel
theorem dX10_mean_37 : decode cX10_mean 37 = .ok (.invokevirtual 137, 3) := by decide +kernel
theorem dX10_mean_40 : decode cX10_mean 40 = .ok (.iload_n 3, 1) := by decide +kernel
theorem dX10_mean_41 : decode cX10_mean 41 = .ok (.i2l, 1) := by decide +kernel
theorem dX10_mean_42 : decode cX10_mean 42 = .ok (.ldiv, 1) := by decide +kernel
theorem dX10_mean_43 : decode cX10_mean 43 = .ok (.l2i, 1) := by decide +kernel
theorem dX10_mean_44 : decode cX10_mean 44 = .ok (.invokevirtual 113, 3) := by decide +kernel
theorem dX10_mean_47 : decode cX10_mean 47 = .ok (.ireturn, 1) := by decide +kernel
theorem dX10_text_0 : decode cX10_text 0 = .ok (.aload_n 0, 1) := by decide +kernel
theorem dX10_text_1 : decode cX10_text 1 = .ok (.getfield 18, 3) := by decide +kernel
theorem dX10_text_4 : decode cX10_text 4 = .ok (.iload_n 1, 1) := by decide +kernel
theorem dX10_text_5 : decode cX10_text 5 = .ok (.invokevirtual 91, 3) := by decide +kernel
theorem dX10_text_8 : decode cX10_text 8 = .ok (.ifCond .eq 9, 3) := by decide +kernel
theorem dX10_text_11 : decode cX10_text 11 = .ok (.iload_n 2, 1) := by decide +kernel
theorem dX10_text_12 : decode cX10_text 12 = .ok (.bipush 60, 2) := by decide +kernel
theorem dX10_text_14 : decode cX10_text 14 = .ok (.if_icmp .le 5, 3) := by decide +kernel
theorem dX10_text_17 : decode cX10_text 17 = .ok (.iconst (-1), 1) := by decide +kernel
theorem dX10_text_18 : decode cX10_text 18 = .ok (.ireturn, 1) := by decide +kernel
theorem dX10_text_19 : decode cX10_text 19 = .ok (.iload_n 2, 1) := by decide +kernel
theorem dX10_text_20 : decode cX10_text 20 = .ok (.ifCond .ge 9, 3) := by decide +kernel
theorem dX10_text_23 : decode cX10_text 23 = .ok (.aload_n 0, 1) := by decide +kernel
theorem dX10_text_24 : decode cX10_text 24 = .ok (.iconst 5, 1) := by decide +kernel
theorem dX10_text_25 : decode cX10_text 25 = .ok (.invokevirtual 95, 3) := by decide +kernel
theorem dX10_text_28 : decode cX10_text 28 = .ok (.ireturn, 1) := by decide +kernel
theorem dX10_text_29 : decode cX10_text 29 = .ok (.aload_n 0, 1) := by decide +kernel
theorem dX10_text_30 : decode cX10_text 30 = .ok (.getfield 18, 3) := by decide +kernel
theorem dX10_text_33 : decode cX10_text 33 = .ok (.iload_n 1, 1) := by decide +kernel
theorem dX10_text_34 : decode cX10_text 34 = .ok (.iload_n 2, 1) := by decide +kernel
theorem dX10_text_35 : decode cX10_text 35 = .ok (.invokevirtual 99, 3) := by decide +kernel
theorem dX10_text_38 : decode cX10_text 38 = .ok (.iload_n 2, 1) := by decide +kernel
theorem dX10_text_39 : decode cX10_text 39 = .ok (.ireturn, 1) := by decide +kernel
theorem dX10_put_0 : decode cX10_put 0 = .ok (.aload_n 0, 1) := by decide +kernel
theorem dX10_put_1 : decode cX10_put 1 = .ok (.iload_n 1, 1) := by decide +kernel
theorem dX10_put_2 : decode cX10_put 2 = .ok (.invokevirtual 141, 3) := by decide +kernel
theorem dX10_put_5 : decode cX10_put 5 = .ok (.istore 4, 2) := by decide +kernel
theorem dX10_put_7 : decode cX10_put 7 = .ok (.iload 4, 2) := by decide +kernel
theorem dX10_put_9 : decode cX10_put 9 = .ok (.ifCond .eq 6, 3) := by decide +kernel
theorem dX10_put_12 : decode cX10_put 12 = .ok (.iload 4, 2) := by decide +kernel
theorem dX10_put_14 : decode cX10_put 14 = .ok (.ireturn, 1) := by decide +kernel
theorem dX10_put_15 : decode cX10_put 15 = .ok (.aload_n 0, 1) := by decide +kernel
theorem dX10_put_16 : decode cX10_put 16 = .ok (.getfield 18, 3) := by decide +kernel
theorem dX10_put_19 : decode cX10_put 19 = .ok (.iload_n 1, 1) := by decide +kernel
theorem dX10_put_20 : decode cX10_put 20 = .ok (.iload_n 2, 1) := by decide +kernel
theorem dX10_put_21 : decode cX10_put 21 = .ok (.invokevirtual 144, 3) := by decide +kernel
theorem dX10_put_24 : decode cX10_put 24 = .ok (.ifCond .ne 9, 3) := by decide +kernel
theorem dX10_put_27 : decode cX10_put 27 = .ok (.aload_n 0, 1) := by decide +kernel
theorem dX10_put_28 : decode cX10_put 28 = .ok (.iconst 2, 1) := by decide +kernel
theorem dX10_put_29 : decode cX10_put 29 = .ok (.invokevirtual 95, 3) := by decide +kernel
theorem dX10_put_32 : decode cX10_put 32 = .ok (.ireturn, 1) := by decide +kernel
theorem dX10_put_33 : decode cX10_put 33 = .ok (.aload_n 0, 1) := by decide +kernel
theorem dX10_put_34 : decode cX10_put 34 = .ok (.getfield 18, 3) := by decide +kernel
theorem dX10_put_37 : decode cX10_put 37 = .ok (.iload_n 1, 1) := by decide +kernel
theorem dX10_put_38 : decode cX10_put 38 = .ok (.iload_n 2, 1) := by decide +kernel
theorem dX10_put_39 : decode cX10_put 39 = .ok (.invokevirtual 107, 3) := by decide +kernel
theorem dX10_put_42 : decode cX10_put 42 = .ok (.istore 5, 2) := by decide +kernel
theorem dX10_put_44 : decode cX10_put 44 = .ok (.aload_n 0, 1) := by decide +kernel
theorem dX10_put_45 : decode cX10_put 45 = .ok (.getfield 18, 3) := by decide +kernel
theorem dX10_put_48 : decode cX10_put 48 = .ok (.iload_n 1, 1) := by decide +kernel
theorem dX10_put_49 : decode cX10_put 49 = .ok (.iload_n 2, 1) := by decide +kernel
theorem dX10_put_50 : decode cX10_put 50 = .ok (.iload_n 3, 1) := by decide +kernel
theorem dX10_put_51 : decode cX10_put 51 = .ok (.i2b, 1) := by decide +kernel
theorem dX10_put_52 : decode cX10_put 52 = .ok (.invokevirtual 110, 3) := by decide +kernel
theorem dX10_put_55 : decode cX10_put 55 = .ok (.iload 5, 2) := by decide +kernel
theorem dX10_put_57 : decode cX10_put 57 = .ok (.sipush 1000, 3) := by decide +kernel
theorem dX10_put_60 : decode cX10_put 60 = .ok (.iadd, 1) := by decide +kernel
theorem dX10_put_61 : decode cX10_put 61 = .ok (.ireturn, 1) := by decide +kernel
theorem dX10_fault_0 : decode cX10_fault 0 = .ok (.aload_n 0, 1) := by decide +kernel
theorem dX10_fault_1 : decode cX10_fault 1 = .ok (.iload_n 1, 1) := by decide +kernel
theorem dX10_fault_2 : decode cX10_fault 2 = .ok (.invokevirtual 141, 3) := by decide +kernel
theorem dX10_fault_5 : decode cX10_fault 5 = .ok (.istore_n 2, 1) := by decide +kernel
theorem dX10_fault_6 : decode cX10_fault 6 = .ok (.iload_n 2, 1) := by decide +kernel
theorem dX10_fault_7 : decode cX10_fault 7 = .ok (.ifCond .eq 5, 3) := by decide +kernel
theorem dX10_fault_10 : decode cX10_fault 10 = .ok (.iload_n 2, 1) := by decide +kernel
theorem dX10_fault_11 : decode cX10_fault 11 = .ok (.ireturn, 1) := by decide +kernel
theorem dX10_fault_12 : decode cX10_fault 12 = .ok (.aload_n 0, 1) := by decide +kernel
theorem dX10_fault_13 : decode cX10_fault 13 = .ok (.getfield 24, 3) := by decide +kernel
theorem dX10_fault_16 : decode cX10_fault 16 = .ok (.aload_n 0, 1) := by decide +kernel
theorem dX10_fault_17 : decode cX10_fault 17 = .ok (.getfield 18, 3) := by decide +kernel
theorem dX10_fault_20 : decode cX10_fault 20 = .ok (.iload_n 1, 1) := by decide +kernel
theorem dX10_fault_21 : decode cX10_fault 21 = .ok (.invokevirtual 148, 3) := by decide +kernel
theorem dX10_fault_24 : decode cX10_fault 24 = .ok (.ireturn, 1) := by decide +kernel
theorem dX10_drawer_0 : decode cX10_drawer 0 = .ok (.aload_n 0, 1) := by decide +kernel
theorem dX10_drawer_1 : decode cX10_drawer 1 = .ok (.iload_n 1, 1) := by decide +kernel
theorem dX10_drawer_2 : decode cX10_drawer 2 = .ok (.invokevirtual 141, 3) := by decide +kernel
theorem dX10_drawer_5 : decode cX10_drawer 5 = .ok (.istore_n 2, 1) := by decide +kernel
theorem dX10_drawer_6 : decode cX10_drawer 6 = .ok (.iload_n 2, 1) := by decide +kernel
theorem dX10_drawer_7 : decode cX10_drawer 7 = .ok (.ifCond .eq 5, 3) := by decide +kernel
theorem dX10_drawer_10 : decode cX10_drawer 10 = .ok (.iload_n 2, 1) := by decide +kernel
theorem dX10_drawer_11 : decode cX10_drawer 11 = .ok (.ireturn, 1) := by decide +kernel
theorem dX10_drawer_12 : decode cX10_drawer 12 = .ok (.aload_n 0, 1) := by decide +kernel
theorem dX10_drawer_13 : decode cX10_drawer 13 = .ok (.getfield 24, 3) := by decide +kernel
theorem dX10_drawer_16 : decode cX10_drawer 16 = .ok (.aload_n 0, 1) := by decide +kernel
theorem dX10_drawer_17 : decode cX10_drawer 17 = .ok (.getfield 18, 3) := by decide +kernel
theorem dX10_drawer_20 : decode cX10_drawer 20 = .ok (.iload_n 1, 1) := by decide +kernel
theorem dX10_drawer_21 : decode cX10_drawer 21 = .ok (.invokevirtual 148, 3) := by decide +kernel
theorem dX10_drawer_24 : decode cX10_drawer 24 = .ok (.bipush (-9), 2) := by decide +kernel
theorem dX10_drawer_26 : decode cX10_drawer 26 = .ok (.if_icmp .eq 6, 3) := by decide +kernel
theorem dX10_drawer_29 : decode cX10_drawer 29 = .ok (.bipush (-4), 2) := by decide +kernel
theorem dX10_drawer_31 : decode cX10_drawer 31 = .ok (.ireturn, 1) := by decide +kernel
theorem dX10_drawer_32 : decode cX10_drawer 32 = .ok (.aload_n 0, 1) := by decide +kernel
theorem dX10_drawer_33 : decode cX10_drawer 33 = .ok (.getfield 31, 3) := by decide +kernel
theorem dX10_drawer_36 : decode cX10_drawer 36 = .ok (.aload_n 0, 1) := by decide +kernel
theorem dX10_drawer_37 : decode cX10_drawer 37 = .ok (.getfield 24, 3) := by decide +kernel
theorem dX10_drawer_40 : decode cX10_drawer 40 = .ok (.invokevirtual 152, 3) := by decide +kernel
theorem dX10_drawer_43 : decode cX10_drawer 43 = .ok (.iconst 0, 1) := by decide +kernel
theorem dX10_drawer_44 : decode cX10_drawer 44 = .ok (.istore_n 3, 1) := by decide +kernel
theorem dX10_drawer_45 : decode cX10_drawer 45 = .ok (.iload_n 3, 1) := by decide +kernel
theorem dX10_drawer_46 : decode cX10_drawer 46 = .ok (.iconst 3, 1) := by decide +kernel
theorem dX10_drawer_47 : decode cX10_drawer 47 = .ok (.if_icmp .ge 19, 3) := by decide +kernel
theorem dX10_drawer_50 : decode cX10_drawer 50 = .ok (.aload_n 0, 1) := by decide +kernel
theorem dX10_drawer_51 : decode cX10_drawer 51 = .ok (.getfield 37, 3) := by decide +kernel
theorem dX10_drawer_54 : decode cX10_drawer 54 = .ok (.iload_n 3, 1) := by decide +kernel
theorem dX10_drawer_55 : decode cX10_drawer 55 = .ok (.aaload, 1) := by decide +kernel
theorem dX10_drawer_56 : decode cX10_drawer 56 = .ok (.iconst (-1), 1) := by decide +kernel
theorem dX10_drawer_57 : decode cX10_drawer 57 = .ok (.putfield 42, 3) := by decide +kernel
theorem dX10_drawer_60 : decode cX10_drawer 60 = .ok (.iinc 3 1, 3) := by decide +kernel
theorem dX10_drawer_63 : decode cX10_drawer 63 = .ok (.goto (-18), 3) := by decide +kernel
theorem dX10_drawer_66 : decode cX10_drawer 66 = .ok (.aload_n 0, 1) := by decide +kernel
theorem dX10_drawer_67 : decode cX10_drawer 67 = .ok (.getfield 31, 3) := by decide +kernel
theorem dX10_drawer_70 : decode cX10_drawer 70 = .ok (.getfield 156, 3) := by decide +kernel
theorem dX10_drawer_73 : decode cX10_drawer 73 = .ok (.ireturn, 1) := by decide +kernel
theorem dX10_glove_0 : decode cX10_glove 0 = .ok (.aload_n 0, 1) := by decide +kernel
theorem dX10_glove_1 : decode cX10_glove 1 = .ok (.getfield 31, 3) := by decide +kernel
theorem dX10_glove_4 : decode cX10_glove 4 = .ok (.iload_n 1, 1) := by decide +kernel
theorem dX10_glove_5 : decode cX10_glove 5 = .ok (.invokevirtual 157, 3) := by decide +kernel
theorem dX10_glove_8 : decode cX10_glove 8 = .ok (.ifCond .eq 13, 3) := by decide +kernel
theorem dX10_glove_11 : decode cX10_glove 11 = .ok (.iload_n 2, 1) := by decide +kernel
theorem dX10_glove_12 : decode cX10_glove 12 = .ok (.ifCond .lt 9, 3) := by decide +kernel
theorem dX10_glove_15 : decode cX10_glove 15 = .ok (.iload_n 2, 1) := by decide +kernel
theorem dX10_glove_16 : decode cX10_glove 16 = .ok (.bipush 7, 2) := by decide +kernel
theorem dX10_glove_18 : decode cX10_glove 18 = .ok (.if_icmp .lt 5, 3) := by decide +kernel
theorem dX10_glove_21 : decode cX10_glove 21 = .ok (.iconst (-1), 1) := by decide +kernel
theorem dX10_glove_22 : decode cX10_glove 22 = .ok (.ireturn, 1) := by decide +kernel
theorem dX10_glove_23 : decode cX10_glove 23 = .ok (.aload_n 0, 1) := by decide +kernel
theorem dX10_glove_24 : decode cX10_glove 24 = .ok (.aload_n 0, 1) := by decide +kernel
theorem dX10_glove_25 : decode cX10_glove 25 = .ok (.getfield 31, 3) := by decide +kernel
theorem dX10_glove_28 : decode cX10_glove 28 = .ok (.getfield 160, 3) := by decide +kernel
theorem dX10_glove_31 : decode cX10_glove 31 = .ok (.iload_n 1, 1) := by decide +kernel
theorem dX10_glove_32 : decode cX10_glove 32 = .ok (.aaload, 1) := by decide +kernel
theorem dX10_glove_33 : decode cX10_glove 33 = .ok (.iload_n 2, 1) := by decide +kernel
theorem dX10_glove_34 : decode cX10_glove 34 = .ok (.invokevirtual 164, 3) := by decide +kernel
theorem dX10_glove_37 : decode cX10_glove 37 = .ok (.invokevirtual 113, 3) := by decide +kernel
theorem dX10_glove_40 : decode cX10_glove 40 = .ok (.ireturn, 1) := by decide +kernel
theorem dX10_mark_0 : decode cX10_mark 0 = .ok (.aload_n 0, 1) := by decide +kernel
theorem dX10_mark_1 : decode cX10_mark 1 = .ok (.getfield 31, 3) := by decide +kernel
theorem dX10_mark_4 : decode cX10_mark 4 = .ok (.iload_n 1, 1) := by decide +kernel
theorem dX10_mark_5 : decode cX10_mark 5 = .ok (.invokevirtual 157, 3) := by decide +kernel
theorem dX10_mark_8 : decode cX10_mark 8 = .ok (.ifCond .eq 13, 3) := by decide +kernel
theorem dX10_mark_11 : decode cX10_mark 11 = .ok (.iload_n 2, 1) := by decide +kernel
theorem dX10_mark_12 : decode cX10_mark 12 = .ok (.ifCond .le 9, 3) := by decide +kernel
theorem dX10_mark_15 : decode cX10_mark 15 = .ok (.iload_n 2, 1) := by decide +kernel
theorem dX10_mark_16 : decode cX10_mark 16 = .ok (.bipush 6, 2) := by decide +kernel
theorem dX10_mark_18 : decode cX10_mark 18 = .ok (.if_icmp .lt 5, 3) := by decide +kernel
theorem dX10_mark_21 : decode cX10_mark 21 = .ok (.iconst (-1), 1) := by decide +kernel
theorem dX10_mark_22 : decode cX10_mark 22 = .ok (.ireturn, 1) := by decide +kernel
theorem dX10_mark_23 : decode cX10_mark 23 = .ok (.aload_n 0, 1) := by decide +kernel
theorem dX10_mark_24 : decode cX10_mark 24 = .ok (.getfield 31, 3) := by decide +kernel
theorem dX10_mark_27 : decode cX10_mark 27 = .ok (.getfield 160, 3) := by decide +kernel
theorem dX10_mark_30 : decode cX10_mark 30 = .ok (.iload_n 1, 1) := by decide +kernel
theorem dX10_mark_31 : decode cX10_mark 31 = .ok (.aaload, 1) := by decide +kernel
theorem dX10_mark_32 : decode cX10_mark 32 = .ok (.iload_n 2, 1) := by decide +kernel
theorem dX10_mark_33 : decode cX10_mark 33 = .ok (.invokevirtual 169, 3) := by decide +kernel
theorem dX10_mark_36 : decode cX10_mark 36 = .ok (.ifCond .ne 9, 3) := by decide +kernel
theorem dX10_mark_39 : decode cX10_mark 39 = .ok (.aload_n 0, 1) := by decide +kernel
theorem dX10_mark_40 : decode cX10_mark 40 = .ok (.iconst 3, 1) := by decide +kernel
theorem dX10_mark_41 : decode cX10_mark 41 = .ok (.invokevirtual 95, 3) := by decide +kernel
theorem dX10_mark_44 : decode cX10_mark 44 = .ok (.ireturn, 1) := by decide +kernel
theorem dX10_mark_45 : decode cX10_mark 45 = .ok (.iload_n 2, 1) := by decide +kernel
theorem dX10_mark_46 : decode cX10_mark 46 = .ok (.tableswitch 94 1 4 #[30, 56, 65, 74], 30) := by decide +kernel
theorem dX10_mark_76 : decode cX10_mark 76 = .ok (.aload_n 0, 1) := by decide +kernel
theorem dX10_mark_77 : decode cX10_mark 77 = .ok (.getfield 31, 3) := by decide +kernel
theorem dX10_mark_80 : decode cX10_mark 80 = .ok (.getfield 160, 3) := by decide +kernel
theorem dX10_mark_83 : decode cX10_mark 83 = .ok (.iload_n 1, 1) := by decide +kernel
theorem dX10_mark_84 : decode cX10_mark 84 = .ok (.aaload, 1) := by decide +kernel
theorem dX10_mark_85 : decode cX10_mark 85 = .ok (.invokevirtual 172, 3) := by decide +kernel
theorem dX10_mark_88 : decode cX10_mark 88 = .ok (.aload_n 0, 1) := by decide +kernel
theorem dX10_mark_89 : decode cX10_mark 89 = .ok (.getfield 31, 3) := by decide +kernel
theorem dX10_mark_92 : decode cX10_mark 92 = .ok (.getfield 160, 3) := by decide +kernel
theorem dX10_mark_95 : decode cX10_mark 95 = .ok (.iload_n 1, 1) := by decide +kernel
theorem dX10_mark_96 : decode cX10_mark 96 = .ok (.aaload, 1) := by decide +kernel
theorem dX10_mark_97 : decode cX10_mark 97 = .ok (.invokevirtual 176, 3) := by decide +kernel
theorem dX10_mark_100 : decode cX10_mark 100 = .ok (.isub, 1) := by decide +kernel
theorem dX10_mark_101 : decode cX10_mark 101 = .ok (.ireturn, 1) := by decide +kernel
theorem dX10_mark_102 : decode cX10_mark 102 = .ok (.aload_n 0, 1) := by decide +kernel
theorem dX10_mark_103 : decode cX10_mark 103 = .ok (.getfield 31, 3) := by decide +kernel
theorem dX10_mark_106 : decode cX10_mark 106 = .ok (.iload_n 1, 1) := by decide +kernel
theorem dX10_mark_107 : decode cX10_mark 107 = .ok (.invokevirtual 179, 3) := by decide +kernel
theorem dX10_mark_110 : decode cX10_mark 110 = .ok (.ireturn, 1) := by decide +kernel
theorem dX10_mark_111 : decode cX10_mark 111 = .ok (.aload_n 0, 1) := by decide +kernel
theorem dX10_mark_112 : decode cX10_mark 112 = .ok (.getfield 31, 3) := by decide +kernel
theorem dX10_mark_115 : decode cX10_mark 115 = .ok (.iload_n 1, 1) := by decide +kernel
theorem dX10_mark_116 : decode cX10_mark 116 = .ok (.invokevirtual 182, 3) := by decide +kernel
theorem dX10_mark_119 : decode cX10_mark 119 = .ok (.ireturn, 1) := by decide +kernel
theorem dX10_mark_120 : decode cX10_mark 120 = .ok (.iconst 0, 1) := by decide +kernel
theorem dX10_mark_121 : decode cX10_mark 121 = .ok (.bipush 6, 2) := by decide +kernel
theorem dX10_mark_123 : decode cX10_mark 123 = .ok (.aload_n 0, 1) := by decide +kernel
theorem dX10_mark_124 : decode cX10_mark 124 = .ok (.getfield 31, 3) := by decide +kernel
theorem dX10_mark_127 : decode cX10_mark 127 = .ok (.getfield 160, 3) := by decide +kernel
theorem dX10_mark_130 : decode cX10_mark 130 = .ok (.iload_n 1, 1) := by decide +kernel
theorem dX10_mark_131 : decode cX10_mark 131 = .ok (.aaload, 1) := by decide +kernel
theorem dX10_mark_132 : decode cX10_mark 132 = .ok (.getfield 185, 3) := by decide +kernel
theorem dX10_mark_135 : decode cX10_mark 135 = .ok (.isub, 1) := by decide +kernel
theorem dX10_mark_136 : decode cX10_mark 136 = .ok (.invokestatic 188, 3) := by decide +kernel
theorem dX10_mark_139 : decode cX10_mark 139 = .ok (.ireturn, 1) := by decide +kernel
theorem dX10_mark_140 : decode cX10_mark 140 = .ok (.aload_n 0, 1) := by decide +kernel
theorem dX10_mark_141 : decode cX10_mark 141 = .ok (.getfield 63, 3) := by decide +kernel
theorem dX10_mark_144 : decode cX10_mark 144 = .ok (.aload_n 0, 1) := by decide +kernel
theorem dX10_mark_145 : decode cX10_mark 145 = .ok (.getfield 31, 3) := by decide +kernel
theorem dX10_mark_148 : decode cX10_mark 148 = .ok (.iload_n 1, 1) := by decide +kernel
theorem dX10_mark_149 : decode cX10_mark 149 = .ok (.invokevirtual 193, 3) := by decide +kernel
theorem dX10_mark_152 : decode cX10_mark 152 = .ok (.ireturn, 1) := by decide +kernel
theorem dX10_pair_0 : decode cX10_pair 0 = .ok (.aload_n 0, 1) := by decide +kernel
theorem dX10_pair_1 : decode cX10_pair 1 = .ok (.getfield 31, 3) := by decide +kernel
theorem dX10_pair_4 : decode cX10_pair 4 = .ok (.iload_n 1, 1) := by decide +kernel
theorem dX10_pair_5 : decode cX10_pair 5 = .ok (.invokevirtual 157, 3) := by decide +kernel
theorem dX10_pair_8 : decode cX10_pair 8 = .ok (.ifCond .eq 19, 3) := by decide +kernel
theorem dX10_pair_11 : decode cX10_pair 11 = .ok (.aload_n 0, 1) := by decide +kernel
theorem dX10_pair_12 : decode cX10_pair 12 = .ok (.getfield 31, 3) := by decide +kernel
theorem dX10_pair_15 : decode cX10_pair 15 = .ok (.iload_n 2, 1) := by decide +kernel
theorem dX10_pair_16 : decode cX10_pair 16 = .ok (.invokevirtual 157, 3) := by decide +kernel
theorem dX10_pair_19 : decode cX10_pair 19 = .ok (.ifCond .eq 8, 3) := by decide +kernel
theorem dX10_pair_22 : decode cX10_pair 22 = .ok (.iload_n 1, 1) := by decide +kernel
theorem dX10_pair_23 : decode cX10_pair 23 = .ok (.iload_n 2, 1) := by decide +kernel
theorem dX10_pair_24 : decode cX10_pair 24 = .ok (.if_icmp .ne 5, 3) := by decide +kernel
theorem dX10_pair_27 : decode cX10_pair 27 = .ok (.iconst (-1), 1) := by decide +kernel
theorem dX10_pair_28 : decode cX10_pair 28 = .ok (.ireturn, 1) := by decide +kernel
theorem dX10_pair_29 : decode cX10_pair 29 = .ok (.aload_n 0, 1) := by decide +kernel
theorem dX10_pair_30 : decode cX10_pair 30 = .ok (.getfield 31, 3) := by decide +kernel
theorem dX10_pair_33 : decode cX10_pair 33 = .ok (.getfield 160, 3) := by decide +kernel
theorem dX10_pair_36 : decode cX10_pair 36 = .ok (.iload_n 1, 1) := by decide +kernel
theorem dX10_pair_37 : decode cX10_pair 37 = .ok (.aaload, 1) := by decide +kernel
theorem dX10_pair_38 : decode cX10_pair 38 = .ok (.aload_n 0, 1) := by decide +kernel
theorem dX10_pair_39 : decode cX10_pair 39 = .ok (.getfield 31, 3) := by decide +kernel
theorem dX10_pair_42 : decode cX10_pair 42 = .ok (.getfield 160, 3) := by decide +kernel
theorem dX10_pair_45 : decode cX10_pair 45 = .ok (.iload_n 2, 1) := by decide +kernel
theorem dX10_pair_46 : decode cX10_pair 46 = .ok (.aaload, 1) := by decide +kernel
theorem dX10_pair_47 : decode cX10_pair 47 = .ok (.invokevirtual 197, 3) := by decide +kernel
theorem dX10_pair_50 : decode cX10_pair 50 = .ok (.ireturn, 1) := by decide +kernel
theorem dX10_wear_0 : decode cX10_wear 0 = .ok (.aload_n 0, 1) := by decide +kernel
theorem dX10_wear_1 : decode cX10_wear 1 = .ok (.getfield 31, 3) := by decide +kernel
theorem dX10_wear_4 : decode cX10_wear 4 = .ok (.iload_n 1, 1) := by decide +kernel
theorem dX10_wear_5 : decode cX10_wear 5 = .ok (.invokevirtual 157, 3) := by decide +kernel
theorem dX10_wear_8 : decode cX10_wear 8 = .ok (.ifCond .eq 19, 3) := by decide +kernel
theorem dX10_wear_11 : decode cX10_wear 11 = .ok (.aload_n 0, 1) := by decide +kernel
theorem dX10_wear_12 : decode cX10_wear 12 = .ok (.getfield 31, 3) := by decide +kernel
theorem dX10_wear_15 : decode cX10_wear 15 = .ok (.iload_n 2, 1) := by decide +kernel
theorem dX10_wear_16 : decode cX10_wear 16 = .ok (.invokevirtual 157, 3) := by decide +kernel
theorem dX10_wear_19 : decode cX10_wear 19 = .ok (.ifCond .eq 8, 3) := by decide +kernel
theorem dX10_wear_22 : decode cX10_wear 22 = .ok (.iload_n 1, 1) := by decide +kernel
theorem dX10_wear_23 : decode cX10_wear 23 = .ok (.iload_n 2, 1) := by decide +kernel
theorem dX10_wear_24 : decode cX10_wear 24 = .ok (.if_icmp .ne 5, 3) := by decide +kernel
theorem dX10_wear_27 : decode cX10_wear 27 = .ok (.iconst (-1), 1) := by decide +kernel
theorem dX10_wear_28 : decode cX10_wear 28 = .ok (.ireturn, 1) := by decide +kernel
theorem dX10_wear_29 : decode cX10_wear 29 = .ok (.aload_n 0, 1) := by decide +kernel
theorem dX10_wear_30 : decode cX10_wear 30 = .ok (.getfield 31, 3) := by decide +kernel
theorem dX10_wear_33 : decode cX10_wear 33 = .ok (.getfield 160, 3) := by decide +kernel
theorem dX10_wear_36 : decode cX10_wear 36 = .ok (.iload_n 1, 1) := by decide +kernel
theorem dX10_wear_37 : decode cX10_wear 37 = .ok (.aaload, 1) := by decide +kernel
theorem dX10_wear_38 : decode cX10_wear 38 = .ok (.aload_n 0, 1) := by decide +kernel
theorem dX10_wear_39 : decode cX10_wear 39 = .ok (.getfield 31, 3) := by decide +kernel
theorem dX10_wear_42 : decode cX10_wear 42 = .ok (.getfield 160, 3) := by decide +kernel
theorem dX10_wear_45 : decode cX10_wear 45 = .ok (.iload_n 2, 1) := by decide +kernel
theorem dX10_wear_46 : decode cX10_wear 46 = .ok (.aaload, 1) := by decide +kernel
theorem dX10_wear_47 : decode cX10_wear 47 = .ok (.invokevirtual 197, 3) := by decide +kernel
theorem dX10_wear_50 : decode cX10_wear 50 = .ok (.istore_n 3, 1) := by decide +kernel
theorem dX10_wear_51 : decode cX10_wear 51 = .ok (.aload_n 0, 1) := by decide +kernel
theorem dX10_wear_52 : decode cX10_wear 52 = .ok (.getfield 31, 3) := by decide +kernel
theorem dX10_wear_55 : decode cX10_wear 55 = .ok (.iload_n 1, 1) := by decide +kernel
theorem dX10_wear_56 : decode cX10_wear 56 = .ok (.invokevirtual 201, 3) := by decide +kernel
theorem dX10_wear_59 : decode cX10_wear 59 = .ok (.ifCond .eq 20, 3) := by decide +kernel
theorem dX10_wear_62 : decode cX10_wear 62 = .ok (.aload_n 0, 1) := by decide +kernel
theorem dX10_wear_63 : decode cX10_wear 63 = .ok (.getfield 31, 3) := by decide +kernel
theorem dX10_wear_66 : decode cX10_wear 66 = .ok (.iload_n 2, 1) := by decide +kernel
theorem dX10_wear_67 : decode cX10_wear 67 = .ok (.invokevirtual 201, 3) := by decide +kernel
theorem dX10_wear_70 : decode cX10_wear 70 = .ok (.ifCond .eq 9, 3) := by decide +kernel
theorem dX10_wear_73 : decode cX10_wear 73 = .ok (.iload_n 3, 1) := by decide +kernel
theorem dX10_wear_74 : decode cX10_wear 74 = .ok (.bipush (-9), 2) := by decide +kernel
theorem dX10_wear_76 : decode cX10_wear 76 = .ok (.if_icmp .ne 6, 3) := by decide +kernel
theorem dX10_wear_79 : decode cX10_wear 79 = .ok (.bipush (-4), 2) := by decide +kernel
theorem dX10_wear_81 : decode cX10_wear 81 = .ok (.ireturn, 1) := by decide +kernel
theorem dX10_wear_82 : decode cX10_wear 82 = .ok (.aload_n 0, 1) := by decide +kernel
theorem dX10_wear_83 : decode cX10_wear 83 = .ok (.getfield 31, 3) := by decide +kernel
theorem dX10_wear_86 : decode cX10_wear 86 = .ok (.getfield 204, 3) := by decide +kernel
theorem dX10_wear_89 : decode cX10_wear 89 = .ok (.invokevirtual 208, 3) := by decide +kernel
theorem dX10_wear_92 : decode cX10_wear 92 = .ok (.iconst 1, 1) := by decide +kernel
theorem dX10_wear_93 : decode cX10_wear 93 = .ok (.if_icmp .ge 6, 3) := by decide +kernel
theorem dX10_wear_96 : decode cX10_wear 96 = .ok (.bipush (-2), 2) := by decide +kernel
theorem dX10_wear_98 : decode cX10_wear 98 = .ok (.ireturn, 1) := by decide +kernel
theorem dX10_wear_99 : decode cX10_wear 99 = .ok (.aload_n 0, 1) := by decide +kernel
theorem dX10_wear_100 : decode cX10_wear 100 = .ok (.getfield 31, 3) := by decide +kernel
theorem dX10_wear_103 : decode cX10_wear 103 = .ok (.iconst 1, 1) := by decide +kernel
theorem dX10_wear_104 : decode cX10_wear 104 = .ok (.iload_n 1, 1) := by decide +kernel
theorem dX10_wear_105 : decode cX10_wear 105 = .ok (.iload_n 2, 1) := by decide +kernel
theorem dX10_wear_106 : decode cX10_wear 106 = .ok (.invokevirtual 211, 3) := by decide +kernel
theorem dX10_wear_109 : decode cX10_wear 109 = .ok (.iload_n 3, 1) := by decide +kernel
theorem dX10_wear_110 : decode cX10_wear 110 = .ok (.ireturn, 1) := by decide +kernel
theorem dX10_lose_0 : decode cX10_lose 0 = .ok (.aload_n 0, 1) := by decide +kernel
theorem dX10_lose_1 : decode cX10_lose 1 = .ok (.getfield 31, 3) := by decide +kernel
theorem dX10_lose_4 : decode cX10_lose 4 = .ok (.iload_n 1, 1) := by decide +kernel
theorem dX10_lose_5 : decode cX10_lose 5 = .ok (.invokevirtual 157, 3) := by decide +kernel
theorem dX10_lose_8 : decode cX10_lose 8 = .ok (.ifCond .ne 5, 3) := by decide +kernel
theorem dX10_lose_11 : decode cX10_lose 11 = .ok (.iconst (-1), 1) := by decide +kernel
theorem dX10_lose_12 : decode cX10_lose 12 = .ok (.ireturn, 1) := by decide +kernel
theorem dX10_lose_13 : decode cX10_lose 13 = .ok (.aload_n 0, 1) := by decide +kernel
theorem dX10_lose_14 : decode cX10_lose 14 = .ok (.getfield 31, 3) := by decide +kernel
theorem dX10_lose_17 : decode cX10_lose 17 = .ok (.iload_n 1, 1) := by decide +kernel
theorem dX10_lose_18 : decode cX10_lose 18 = .ok (.invokevirtual 214, 3) := by decide +kernel
theorem dX10_lose_21 : decode cX10_lose 21 = .ok (.ifCond .ne 6, 3) := by decide +kernel
theorem dX10_lose_24 : decode cX10_lose 24 = .ok (.bipush (-4), 2) := by decide +kernel
theorem dX10_lose_26 : decode cX10_lose 26 = .ok (.ireturn, 1) := by decide +kernel
theorem dX10_lose_27 : decode cX10_lose 27 = .ok (.aload_n 0, 1) := by decide +kernel
theorem dX10_lose_28 : decode cX10_lose 28 = .ok (.getfield 31, 3) := by decide +kernel
theorem dX10_lose_31 : decode cX10_lose 31 = .ok (.getfield 204, 3) := by decide +kernel
theorem dX10_lose_34 : decode cX10_lose 34 = .ok (.invokevirtual 208, 3) := by decide +kernel
theorem dX10_lose_37 : decode cX10_lose 37 = .ok (.iconst 1, 1) := by decide +kernel
theorem dX10_lose_38 : decode cX10_lose 38 = .ok (.if_icmp .ge 6, 3) := by decide +kernel
theorem dX10_lose_41 : decode cX10_lose 41 = .ok (.bipush (-2), 2) := by decide +kernel
theorem dX10_lose_43 : decode cX10_lose 43 = .ok (.ireturn, 1) := by decide +kernel
theorem dX10_lose_44 : decode cX10_lose 44 = .ok (.aload_n 0, 1) := by decide +kernel
theorem dX10_lose_45 : decode cX10_lose 45 = .ok (.getfield 31, 3) := by decide +kernel
theorem dX10_lose_48 : decode cX10_lose 48 = .ok (.iconst 2, 1) := by decide +kernel
theorem dX10_lose_49 : decode cX10_lose 49 = .ok (.iload_n 1, 1) := by decide +kernel
theorem dX10_lose_50 : decode cX10_lose 50 = .ok (.iload_n 1, 1) := by decide +kernel
theorem dX10_lose_51 : decode cX10_lose 51 = .ok (.invokevirtual 211, 3) := by decide +kernel
theorem dX10_lose_54 : decode cX10_lose 54 = .ok (.aload_n 0, 1) := by decide +kernel
theorem dX10_lose_55 : decode cX10_lose 55 = .ok (.getfield 31, 3) := by decide +kernel
theorem dX10_lose_58 : decode cX10_lose 58 = .ok (.invokevirtual 217, 3) := by decide +kernel
theorem dX10_lose_61 : decode cX10_lose 61 = .ok (.ireturn, 1) := by decide +kernel
theorem dX10_back_0 : decode cX10_back 0 = .ok (.aload_n 0, 1) := by decide +kernel
theorem dX10_back_1 : decode cX10_back 1 = .ok (.getfield 31, 3) := by decide +kernel
theorem dX10_back_4 : decode cX10_back 4 = .ok (.iload_n 1, 1) := by decide +kernel
theorem dX10_back_5 : decode cX10_back 5 = .ok (.invokevirtual 157, 3) := by decide +kernel
theorem dX10_back_8 : decode cX10_back 8 = .ok (.ifCond .ne 5, 3) := by decide +kernel
theorem dX10_back_11 : decode cX10_back 11 = .ok (.iconst (-1), 1) := by decide +kernel
theorem dX10_back_12 : decode cX10_back 12 = .ok (.ireturn, 1) := by decide +kernel
theorem dX10_back_13 : decode cX10_back 13 = .ok (.aload_n 0, 1) := by decide +kernel
theorem dX10_back_14 : decode cX10_back 14 = .ok (.getfield 31, 3) := by decide +kernel
theorem dX10_back_17 : decode cX10_back 17 = .ok (.getfield 160, 3) := by decide +kernel
theorem dX10_back_20 : decode cX10_back 20 = .ok (.iload_n 1, 1) := by decide +kernel
theorem dX10_back_21 : decode cX10_back 21 = .ok (.aaload, 1) := by decide +kernel
theorem dX10_back_22 : decode cX10_back 22 = .ok (.getfield 220, 3) := by decide +kernel
theorem dX10_back_25 : decode cX10_back 25 = .ok (.iconst 1, 1) := by decide +kernel
theorem dX10_back_26 : decode cX10_back 26 = .ok (.if_icmp .eq 6, 3) := by decide +kernel
theorem dX10_back_29 : decode cX10_back 29 = .ok (.bipush (-4), 2) := by decide +kernel
theorem dX10_back_31 : decode cX10_back 31 = .ok (.ireturn, 1) := by decide +kernel
theorem dX10_back_32 : decode cX10_back 32 = .ok (.aload_n 0, 1) := by decide +kernel
theorem dX10_back_33 : decode cX10_back 33 = .ok (.getfield 31, 3) := by decide +kernel
theorem dX10_back_36 : decode cX10_back 36 = .ok (.invokevirtual 223, 3) := by decide +kernel
theorem dX10_back_39 : decode cX10_back 39 = .ok (.ifCond .ne 6, 3) := by decide +kernel
theorem dX10_back_42 : decode cX10_back 42 = .ok (.bipush (-6), 2) := by decide +kernel
theorem dX10_back_44 : decode cX10_back 44 = .ok (.ireturn, 1) := by decide +kernel
theorem dX10_back_45 : decode cX10_back 45 = .ok (.aload_n 0, 1) := by decide +kernel
theorem dX10_back_46 : decode cX10_back 46 = .ok (.getfield 31, 3) := by decide +kernel
theorem dX10_back_49 : decode cX10_back 49 = .ok (.getfield 204, 3) := by decide +kernel
theorem dX10_back_52 : decode cX10_back 52 = .ok (.invokevirtual 208, 3) := by decide +kernel
theorem dX10_back_55 : decode cX10_back 55 = .ok (.iconst 1, 1) := by decide +kernel
theorem dX10_back_56 : decode cX10_back 56 = .ok (.if_icmp .ge 6, 3) := by decide +kernel
theorem dX10_back_59 : decode cX10_back 59 = .ok (.bipush (-2), 2) := by decide +kernel
theorem dX10_back_61 : decode cX10_back 61 = .ok (.ireturn, 1) := by decide +kernel
theorem dX10_back_62 : decode cX10_back 62 = .ok (.aload_n 0, 1) := by decide +kernel
theorem dX10_back_63 : decode cX10_back 63 = .ok (.getfield 31, 3) := by decide +kernel
theorem dX10_back_66 : decode cX10_back 66 = .ok (.iconst 3, 1) := by decide +kernel
theorem dX10_back_67 : decode cX10_back 67 = .ok (.iload_n 1, 1) := by decide +kernel
theorem dX10_back_68 : decode cX10_back 68 = .ok (.iload_n 1, 1) := by decide +kernel
theorem dX10_back_69 : decode cX10_back 69 = .ok (.invokevirtual 211, 3) := by decide +kernel
theorem dX10_back_72 : decode cX10_back 72 = .ok (.aload_n 0, 1) := by decide +kernel
theorem dX10_back_73 : decode cX10_back 73 = .ok (.getfield 31, 3) := by decide +kernel
theorem dX10_back_76 : decode cX10_back 76 = .ok (.invokevirtual 217, 3) := by decide +kernel
theorem dX10_back_79 : decode cX10_back 79 = .ok (.ireturn, 1) := by decide +kernel
theorem dX10_out_0 : decode cX10_out 0 = .ok (.aload_n 0, 1) := by decide +kernel
theorem dX10_out_1 : decode cX10_out 1 = .ok (.getfield 31, 3) := by decide +kernel
theorem dX10_out_4 : decode cX10_out 4 = .ok (.iload_n 1, 1) := by decide +kernel
theorem dX10_out_5 : decode cX10_out 5 = .ok (.invokevirtual 157, 3) := by decide +kernel
theorem dX10_out_8 : decode cX10_out 8 = .ok (.ifCond .ne 5, 3) := by decide +kernel
theorem dX10_out_11 : decode cX10_out 11 = .ok (.iconst (-1), 1) := by decide +kernel
theorem dX10_out_12 : decode cX10_out 12 = .ok (.ireturn, 1) := by decide +kernel
theorem dX10_out_13 : decode cX10_out 13 = .ok (.aload_n 0, 1) := by decide +kernel
theorem dX10_out_14 : decode cX10_out 14 = .ok (.getfield 31, 3) := by decide +kernel
theorem dX10_out_17 : decode cX10_out 17 = .ok (.getfield 160, 3) := by decide +kernel
theorem dX10_out_20 : decode cX10_out 20 = .ok (.iload_n 1, 1) := by decide +kernel
theorem dX10_out_21 : decode cX10_out 21 = .ok (.aaload, 1) := by decide +kernel
theorem dX10_out_22 : decode cX10_out 22 = .ok (.getfield 220, 3) := by decide +kernel
theorem dX10_out_25 : decode cX10_out 25 = .ok (.iconst 2, 1) := by decide +kernel
theorem dX10_out_26 : decode cX10_out 26 = .ok (.if_icmp .ne 6, 3) := by decide +kernel
theorem dX10_out_29 : decode cX10_out 29 = .ok (.bipush (-4), 2) := by decide +kernel
theorem dX10_out_31 : decode cX10_out 31 = .ok (.ireturn, 1) := by decide +kernel
theorem dX10_out_32 : decode cX10_out 32 = .ok (.aload_n 0, 1) := by decide +kernel
theorem dX10_out_33 : decode cX10_out 33 = .ok (.getfield 31, 3) := by decide +kernel
theorem dX10_out_36 : decode cX10_out 36 = .ok (.getfield 204, 3) := by decide +kernel
theorem dX10_out_39 : decode cX10_out 39 = .ok (.invokevirtual 208, 3) := by decide +kernel
theorem dX10_out_42 : decode cX10_out 42 = .ok (.iconst 1, 1) := by decide +kernel
theorem dX10_out_43 : decode cX10_out 43 = .ok (.if_icmp .ge 6, 3) := by decide +kernel
theorem dX10_out_46 : decode cX10_out 46 = .ok (.bipush (-2), 2) := by decide +kernel
theorem dX10_out_48 : decode cX10_out 48 = .ok (.ireturn, 1) := by decide +kernel
theorem dX10_out_49 : decode cX10_out 49 = .ok (.aload_n 0, 1) := by decide +kernel
theorem dX10_out_50 : decode cX10_out 50 = .ok (.getfield 31, 3) := by decide +kernel
theorem dX10_out_53 : decode cX10_out 53 = .ok (.iconst 4, 1) := by decide +kernel
theorem dX10_out_54 : decode cX10_out 54 = .ok (.iload_n 1, 1) := by decide +kernel
theorem dX10_out_55 : decode cX10_out 55 = .ok (.iload_n 1, 1) := by decide +kernel
theorem dX10_out_56 : decode cX10_out 56 = .ok (.invokevirtual 211, 3) := by decide +kernel
theorem dX10_out_59 : decode cX10_out 59 = .ok (.aload_n 0, 1) := by decide +kernel
theorem dX10_out_60 : decode cX10_out 60 = .ok (.getfield 31, 3) := by decide +kernel
theorem dX10_out_63 : decode cX10_out 63 = .ok (.invokevirtual 217, 3) := by decide +kernel
theorem dX10_out_66 : decode cX10_out 66 = .ok (.ireturn, 1) := by decide +kernel
theorem dX10_undo_0 : decode cX10_undo 0 = .ok (.aload_n 0, 1) := by decide +kernel
theorem dX10_undo_1 : decode cX10_undo 1 = .ok (.getfield 31, 3) := by decide +kernel
theorem dX10_undo_4 : decode cX10_undo 4 = .ok (.getfield 204, 3) := by decide +kernel
theorem dX10_undo_7 : decode cX10_undo 7 = .ok (.getfield 42, 3) := by decide +kernel
theorem dX10_undo_10 : decode cX10_undo 10 = .ok (.istore_n 2, 1) := by decide +kernel
theorem dX10_undo_11 : decode cX10_undo 11 = .ok (.iload_n 1, 1) := by decide +kernel
theorem dX10_undo_12 : decode cX10_undo 12 = .ok (.ifCond .lt 8, 3) := by decide +kernel
theorem dX10_undo_15 : decode cX10_undo 15 = .ok (.iload_n 1, 1) := by decide +kernel
theorem dX10_undo_16 : decode cX10_undo 16 = .ok (.iload_n 2, 1) := by decide +kernel
theorem dX10_undo_17 : decode cX10_undo 17 = .ok (.if_icmp .le 5, 3) := by decide +kernel
theorem dX10_undo_20 : decode cX10_undo 20 = .ok (.iconst (-1), 1) := by decide +kernel
theorem dX10_undo_21 : decode cX10_undo 21 = .ok (.ireturn, 1) := by decide +kernel
theorem dX10_undo_22 : decode cX10_undo 22 = .ok (.aload_n 0, 1) := by decide +kernel
theorem dX10_undo_23 : decode cX10_undo 23 = .ok (.getfield 31, 3) := by decide +kernel
theorem dX10_undo_26 : decode cX10_undo 26 = .ok (.getfield 204, 3) := by decide +kernel
theorem dX10_undo_29 : decode cX10_undo 29 = .ok (.iload_n 1, 1) := by decide +kernel
theorem dX10_undo_30 : decode cX10_undo 30 = .ok (.putfield 42, 3) := by decide +kernel
theorem dX10_undo_33 : decode cX10_undo 33 = .ok (.aload_n 0, 1) := by decide +kernel
theorem dX10_undo_34 : decode cX10_undo 34 = .ok (.getfield 31, 3) := by decide +kernel
theorem dX10_undo_37 : decode cX10_undo 37 = .ok (.invokevirtual 227, 3) := by decide +kernel
theorem dX10_undo_40 : decode cX10_undo 40 = .ok (.iload_n 2, 1) := by decide +kernel
theorem dX10_undo_41 : decode cX10_undo 41 = .ok (.iload_n 1, 1) := by decide +kernel
theorem dX10_undo_42 : decode cX10_undo 42 = .ok (.isub, 1) := by decide +kernel
theorem dX10_undo_43 : decode cX10_undo 43 = .ok (.ireturn, 1) := by decide +kernel
theorem dX10_keep_0 : decode cX10_keep 0 = .ok (.iload_n 1, 1) := by decide +kernel
theorem dX10_keep_1 : decode cX10_keep 1 = .ok (.ifCond .lt 8, 3) := by decide +kernel
theorem dX10_keep_4 : decode cX10_keep 4 = .ok (.iload_n 1, 1) := by decide +kernel
theorem dX10_keep_5 : decode cX10_keep 5 = .ok (.iconst 3, 1) := by decide +kernel
theorem dX10_keep_6 : decode cX10_keep 6 = .ok (.if_icmp .lt 5, 3) := by decide +kernel
theorem dX10_keep_9 : decode cX10_keep 9 = .ok (.iconst (-1), 1) := by decide +kernel
theorem dX10_keep_10 : decode cX10_keep 10 = .ok (.ireturn, 1) := by decide +kernel
theorem dX10_keep_11 : decode cX10_keep 11 = .ok (.aload_n 0, 1) := by decide +kernel
theorem dX10_keep_12 : decode cX10_keep 12 = .ok (.getfield 31, 3) := by decide +kernel
theorem dX10_keep_15 : decode cX10_keep 15 = .ok (.getfield 156, 3) := by decide +kernel
theorem dX10_keep_18 : decode cX10_keep 18 = .ok (.ifCond .ne 6, 3) := by decide +kernel
theorem dX10_keep_21 : decode cX10_keep 21 = .ok (.bipush (-4), 2) := by decide +kernel
theorem dX10_keep_23 : decode cX10_keep 23 = .ok (.ireturn, 1) := by decide +kernel
theorem dX10_keep_24 : decode cX10_keep 24 = .ok (.aload_n 0, 1) := by decide +kernel
theorem dX10_keep_25 : decode cX10_keep 25 = .ok (.getfield 37, 3) := by decide +kernel
theorem dX10_keep_28 : decode cX10_keep 28 = .ok (.iload_n 1, 1) := by decide +kernel
theorem dX10_keep_29 : decode cX10_keep 29 = .ok (.aaload, 1) := by decide +kernel
theorem dX10_keep_30 : decode cX10_keep 30 = .ok (.aload_n 0, 1) := by decide +kernel
theorem dX10_keep_31 : decode cX10_keep 31 = .ok (.getfield 31, 3) := by decide +kernel
theorem dX10_keep_34 : decode cX10_keep 34 = .ok (.getfield 204, 3) := by decide +kernel
theorem dX10_keep_37 : decode cX10_keep 37 = .ok (.invokevirtual 230, 3) := by decide +kernel
theorem dX10_keep_40 : decode cX10_keep 40 = .ok (.aload_n 0, 1) := by decide +kernel
theorem dX10_keep_41 : decode cX10_keep 41 = .ok (.getfield 37, 3) := by decide +kernel
theorem dX10_keep_44 : decode cX10_keep 44 = .ok (.iload_n 1, 1) := by decide +kernel
theorem dX10_keep_45 : decode cX10_keep 45 = .ok (.aaload, 1) := by decide +kernel
theorem dX10_keep_46 : decode cX10_keep 46 = .ok (.getfield 42, 3) := by decide +kernel
theorem dX10_keep_49 : decode cX10_keep 49 = .ok (.ireturn, 1) := by decide +kernel
theorem dX10_on_0 : decode cX10_on 0 = .ok (.iload_n 1, 1) := by decide +kernel
theorem dX10_on_1 : decode cX10_on 1 = .ok (.ifCond .lt 8, 3) := by decide +kernel
theorem dX10_on_4 : decode cX10_on 4 = .ok (.iload_n 1, 1) := by decide +kernel
theorem dX10_on_5 : decode cX10_on 5 = .ok (.iconst 3, 1) := by decide +kernel
theorem dX10_on_6 : decode cX10_on 6 = .ok (.if_icmp .lt 5, 3) := by decide +kernel
theorem dX10_on_9 : decode cX10_on 9 = .ok (.iconst (-1), 1) := by decide +kernel
theorem dX10_on_10 : decode cX10_on 10 = .ok (.ireturn, 1) := by decide +kernel
theorem dX10_on_11 : decode cX10_on 11 = .ok (.aload_n 0, 1) := by decide +kernel
theorem dX10_on_12 : decode cX10_on 12 = .ok (.getfield 37, 3) := by decide +kernel
theorem dX10_on_15 : decode cX10_on 15 = .ok (.iload_n 1, 1) := by decide +kernel
theorem dX10_on_16 : decode cX10_on 16 = .ok (.aaload, 1) := by decide +kernel
theorem dX10_on_17 : decode cX10_on 17 = .ok (.getfield 42, 3) := by decide +kernel
theorem dX10_on_20 : decode cX10_on 20 = .ok (.iconst (-1), 1) := by decide +kernel
theorem dX10_on_21 : decode cX10_on 21 = .ok (.if_icmp .ne 9, 3) := by decide +kernel
theorem dX10_on_24 : decode cX10_on 24 = .ok (.aload_n 0, 1) := by decide +kernel
theorem dX10_on_25 : decode cX10_on 25 = .ok (.iconst 1, 1) := by decide +kernel
theorem dX10_on_26 : decode cX10_on 26 = .ok (.invokevirtual 95, 3) := by decide +kernel
theorem dX10_on_29 : decode cX10_on 29 = .ok (.ireturn, 1) := by decide +kernel
theorem dX10_on_30 : decode cX10_on 30 = .ok (.aload_n 0, 1) := by decide +kernel
theorem dX10_on_31 : decode cX10_on 31 = .ok (.getfield 31, 3) := by decide +kernel
theorem dX10_on_34 : decode cX10_on 34 = .ok (.getfield 204, 3) := by decide +kernel
theorem dX10_on_37 : decode cX10_on 37 = .ok (.aload_n 0, 1) := by decide +kernel
theorem dX10_on_38 : decode cX10_on 38 = .ok (.getfield 37, 3) := by decide +kernel
theorem dX10_on_41 : decode cX10_on 41 = .ok (.iload_n 1, 1) := by decide +kernel
theorem dX10_on_42 : decode cX10_on 42 = .ok (.aaload, 1) := by decide +kernel
theorem dX10_on_43 : decode cX10_on 43 = .ok (.invokevirtual 230, 3) := by decide +kernel
theorem dX10_on_46 : decode cX10_on 46 = .ok (.aload_n 0, 1) := by decide +kernel
theorem dX10_on_47 : decode cX10_on 47 = .ok (.getfield 31, 3) := by decide +kernel
theorem dX10_on_50 : decode cX10_on 50 = .ok (.invokevirtual 227, 3) := by decide +kernel
theorem dX10_on_53 : decode cX10_on 53 = .ok (.aload_n 0, 1) := by decide +kernel
theorem dX10_on_54 : decode cX10_on 54 = .ok (.getfield 31, 3) := by decide +kernel
theorem dX10_on_57 : decode cX10_on 57 = .ok (.getfield 204, 3) := by decide +kernel
theorem dX10_on_60 : decode cX10_on 60 = .ok (.getfield 42, 3) := by decide +kernel
theorem dX10_on_63 : decode cX10_on 63 = .ok (.ireturn, 1) := by decide +kernel
theorem dX10_good_0 : decode cX10_good 0 = .ok (.aload_n 0, 1) := by decide +kernel
theorem dX10_good_1 : decode cX10_good 1 = .ok (.getfield 31, 3) := by decide +kernel
theorem dX10_good_4 : decode cX10_good 4 = .ok (.iload_n 1, 1) := by decide +kernel
theorem dX10_good_5 : decode cX10_good 5 = .ok (.invokevirtual 234, 3) := by decide +kernel
theorem dX10_good_8 : decode cX10_good 8 = .ok (.ifCond .ne 5, 3) := by decide +kernel
theorem dX10_good_11 : decode cX10_good 11 = .ok (.iconst (-1), 1) := by decide +kernel
theorem dX10_good_12 : decode cX10_good 12 = .ok (.ireturn, 1) := by decide +kernel
theorem dX10_good_13 : decode cX10_good 13 = .ok (.aload_n 0, 1) := by decide +kernel
theorem dX10_good_14 : decode cX10_good 14 = .ok (.getfield 49, 3) := by decide +kernel
theorem dX10_good_17 : decode cX10_good 17 = .ok (.aload_n 0, 1) := by decide +kernel
theorem dX10_good_18 : decode cX10_good 18 = .ok (.getfield 31, 3) := by decide +kernel
theorem dX10_good_21 : decode cX10_good 21 = .ok (.invokevirtual 237, 3) := by decide +kernel
theorem dX10_good_24 : decode cX10_good 24 = .ok (.aload_n 0, 1) := by decide +kernel
theorem dX10_good_25 : decode cX10_good 25 = .ok (.aload_n 0, 1) := by decide +kernel
theorem dX10_good_26 : decode cX10_good 26 = .ok (.getfield 49, 3) := by decide +kernel
theorem dX10_good_29 : decode cX10_good 29 = .ok (.getfield 241, 3) := by decide +kernel
theorem dX10_good_32 : decode cX10_good 32 = .ok (.iload_n 1, 1) := by decide +kernel
theorem dX10_good_33 : decode cX10_good 33 = .ok (.iaload, 1) := by decide +kernel
theorem dX10_good_34 : decode cX10_good 34 = .ok (.putfield 88, 3) := by decide +kernel
theorem dX10_good_37 : decode cX10_good 37 = .ok (.aload_n 0, 1) := by decide +kernel
theorem dX10_good_38 : decode cX10_good 38 = .ok (.getfield 49, 3) := by decide +kernel
theorem dX10_good_41 : decode cX10_good 41 = .ok (.getfield 244, 3) := by decide +kernel
theorem dX10_good_44 : decode cX10_good 44 = .ok (.iload_n 1, 1) := by decide +kernel
theorem dX10_good_45 : decode cX10_good 45 = .ok (.iaload, 1) := by decide +kernel
theorem dX10_good_46 : decode cX10_good 46 = .ok (.ireturn, 1) := by decide +kernel
theorem dX10_pairs_0 : decode cX10_pairs 0 = .ok (.aload_n 0, 1) := by decide +kernel
theorem dX10_pairs_1 : decode cX10_pairs 1 = .ok (.getfield 14, 3) := by decide +kernel
theorem dX10_pairs_4 : decode cX10_pairs 4 = .ok (.iload_n 1, 1) := by decide +kernel
theorem dX10_pairs_5 : decode cX10_pairs 5 = .ok (.invokevirtual 91, 3) := by decide +kernel
theorem dX10_pairs_8 : decode cX10_pairs 8 = .ok (.ifCond .ne 5, 3) := by decide +kernel
theorem dX10_pairs_11 : decode cX10_pairs 11 = .ok (.iconst (-1), 1) := by decide +kernel
theorem dX10_pairs_12 : decode cX10_pairs 12 = .ok (.ireturn, 1) := by decide +kernel
theorem dX10_pairs_13 : decode cX10_pairs 13 = .ok (.aload_n 0, 1) := by decide +kernel
theorem dX10_pairs_14 : decode cX10_pairs 14 = .ok (.getfield 31, 3) := by decide +kernel
theorem dX10_pairs_17 : decode cX10_pairs 17 = .ok (.getfield 156, 3) := by decide +kernel
theorem dX10_pairs_20 : decode cX10_pairs 20 = .ok (.ifCond .ne 6, 3) := by decide +kernel
theorem dX10_pairs_23 : decode cX10_pairs 23 = .ok (.bipush (-4), 2) := by decide +kernel
theorem dX10_pairs_25 : decode cX10_pairs 25 = .ok (.ireturn, 1) := by decide +kernel
theorem dX10_pairs_26 : decode cX10_pairs 26 = .ok (.aload_n 0, 1) := by decide +kernel
theorem dX10_pairs_27 : decode cX10_pairs 27 = .ok (.getfield 49, 3) := by decide +kernel
theorem dX10_pairs_30 : decode cX10_pairs 30 = .ok (.aload_n 0, 1) := by decide +kernel
theorem dX10_pairs_31 : decode cX10_pairs 31 = .ok (.getfield 31, 3) := by decide +kernel
theorem dX10_pairs_34 : decode cX10_pairs 34 = .ok (.invokevirtual 237, 3) := by decide +kernel
theorem dX10_pairs_37 : decode cX10_pairs 37 = .ok (.aload_n 0, 1) := by decide +kernel
theorem dX10_pairs_38 : decode cX10_pairs 38 = .ok (.getfield 49, 3) := by decide +kernel
theorem dX10_pairs_41 : decode cX10_pairs 41 = .ok (.aload_n 0, 1) := by decide +kernel
theorem dX10_pairs_42 : decode cX10_pairs 42 = .ok (.getfield 31, 3) := by decide +kernel
theorem dX10_pairs_45 : decode cX10_pairs 45 = .ok (.aload_n 0, 1) := by decide +kernel
theorem dX10_pairs_46 : decode cX10_pairs 46 = .ok (.getfield 14, 3) := by decide +kernel
theorem dX10_pairs_49 : decode cX10_pairs 49 = .ok (.iload_n 1, 1) := by decide +kernel
theorem dX10_pairs_50 : decode cX10_pairs 50 = .ok (.invokevirtual 247, 3) := by decide +kernel
theorem dX10_pairs_53 : decode cX10_pairs 53 = .ok (.aload_n 0, 1) := by decide +kernel
theorem dX10_pairs_54 : decode cX10_pairs 54 = .ok (.getfield 49, 3) := by decide +kernel
theorem dX10_pairs_57 : decode cX10_pairs 57 = .ok (.getfield 244, 3) := by decide +kernel
theorem dX10_pairs_60 : decode cX10_pairs 60 = .ok (.aload_n 0, 1) := by decide +kernel
theorem dX10_pairs_61 : decode cX10_pairs 61 = .ok (.getfield 31, 3) := by decide +kernel
theorem dX10_pairs_64 : decode cX10_pairs 64 = .ok (.iconst 0, 1) := by decide +kernel
theorem dX10_pairs_65 : decode cX10_pairs 65 = .ok (.invokevirtual 251, 3) := by decide +kernel
theorem dX10_pairs_68 : decode cX10_pairs 68 = .ok (.iaload, 1) := by decide +kernel
theorem dX10_pairs_69 : decode cX10_pairs 69 = .ok (.ireturn, 1) := by decide +kernel
theorem dX10_missed_0 : decode cX10_missed 0 = .ok (.aload_n 0, 1) := by decide +kernel
theorem dX10_missed_1 : decode cX10_missed 1 = .ok (.getfield 31, 3) := by decide +kernel
theorem dX10_missed_4 : decode cX10_missed 4 = .ok (.getfield 156, 3) := by decide +kernel
theorem dX10_missed_7 : decode cX10_missed 7 = .ok (.ifCond .ne 6, 3) := by decide +kernel
theorem dX10_missed_10 : decode cX10_missed 10 = .ok (.bipush (-4), 2) := by decide +kernel
theorem dX10_missed_12 : decode cX10_missed 12 = .ok (.ireturn, 1) := by decide +kernel
theorem dX10_missed_13 : decode cX10_missed 13 = .ok (.aload_n 0, 1) := by decide +kernel
theorem dX10_missed_14 : decode cX10_missed 14 = .ok (.getfield 49, 3) := by decide +kernel
theorem dX10_missed_17 : decode cX10_missed 17 = .ok (.aload_n 0, 1) := by decide +kernel
theorem dX10_missed_18 : decode cX10_missed 18 = .ok (.getfield 31, 3) := by decide +kernel
theorem dX10_missed_21 : decode cX10_missed 21 = .ok (.invokevirtual 237, 3) := by decide +kernel
theorem dX10_missed_24 : decode cX10_missed 24 = .ok (.aload_n 0, 1) := by decide +kernel
theorem dX10_missed_25 : decode cX10_missed 25 = .ok (.aload_n 0, 1) := by decide +kernel
theorem dX10_missed_26 : decode cX10_missed 26 = .ok (.getfield 31, 3) := by decide +kernel
theorem dX10_missed_29 : decode cX10_missed 29 = .ok (.iconst 0, 1) := by decide +kernel
theorem dX10_missed_30 : decode cX10_missed 30 = .ok (.invokevirtual 251, 3) := by decide +kernel
theorem dX10_missed_33 : decode cX10_missed 33 = .ok (.invokevirtual 254, 3) := by decide +kernel
theorem dX10_missed_36 : decode cX10_missed 36 = .ok (.ireturn, 1) := by decide +kernel
theorem dX10_wished_0 : decode cX10_wished 0 = .ok (.aload_n 0, 1) := by decide +kernel
theorem dX10_wished_1 : decode cX10_wished 1 = .ok (.getfield 31, 3) := by decide +kernel
theorem dX10_wished_4 : decode cX10_wished 4 = .ok (.getfield 156, 3) := by decide +kernel
theorem dX10_wished_7 : decode cX10_wished 7 = .ok (.ifCond .ne 6, 3) := by decide +kernel
theorem dX10_wished_10 : decode cX10_wished 10 = .ok (.bipush (-4), 2) := by decide +kernel
theorem dX10_wished_12 : decode cX10_wished 12 = .ok (.ireturn, 1) := by decide +kernel
theorem dX10_wished_13 : decode cX10_wished 13 = .ok (.aload_n 0, 1) := by decide +kernel
theorem dX10_wished_14 : decode cX10_wished 14 = .ok (.getfield 49, 3) := by decide +kernel
theorem dX10_wished_17 : decode cX10_wished 17 = .ok (.aload_n 0, 1) := by decide +kernel
theorem dX10_wished_18 : decode cX10_wished 18 = .ok (.getfield 31, 3) := by decide +kernel
theorem dX10_wished_21 : decode cX10_wished 21 = .ok (.invokevirtual 237, 3) := by decide +kernel
theorem dX10_wished_24 : decode cX10_wished 24 = .ok (.aload_n 0, 1) := by decide +kernel
theorem dX10_wished_25 : decode cX10_wished 25 = .ok (.aload_n 0, 1) := by decide +kernel
theorem dX10_wished_26 : decode cX10_wished 26 = .ok (.getfield 31, 3) := by decide +kernel
theorem dX10_wished_29 : decode cX10_wished 29 = .ok (.iconst 1, 1) := by decide +kernel
theorem dX10_wished_30 : decode cX10_wished 30 = .ok (.invokevirtual 251, 3) := by decide +kernel
theorem dX10_wished_33 : decode cX10_wished 33 = .ok (.aload_n 0, 1) := by decide +kernel
theorem dX10_wished_34 : decode cX10_wished 34 = .ok (.getfield 31, 3) := by decide +kernel
theorem dX10_wished_37 : decode cX10_wished 37 = .ok (.iconst 2, 1) := by decide +kernel
theorem dX10_wished_38 : decode cX10_wished 38 = .ok (.invokevirtual 251, 3) := by decide +kernel
theorem dX10_wished_41 : decode cX10_wished 41 = .ok (.ior, 1) := by decide +kernel
theorem dX10_wished_42 : decode cX10_wished 42 = .ok (.invokevirtual 254, 3) := by decide +kernel
theorem dX10_wished_45 : decode cX10_wished 45 = .ok (.ireturn, 1) := by decide +kernel
theorem dX10_days_0 : decode cX10_days 0 = .ok (.iload_n 1, 1) := by decide +kernel
theorem dX10_days_1 : decode cX10_days 1 = .ok (.ifCond .lt 19, 3) := by decide +kernel
theorem dX10_days_4 : decode cX10_days 4 = .ok (.iload_n 1, 1) := by decide +kernel
theorem dX10_days_5 : decode cX10_days 5 = .ok (.iconst 3, 1) := by decide +kernel
theorem dX10_days_6 : decode cX10_days 6 = .ok (.if_icmp .gt 14, 3) := by decide +kernel
theorem dX10_days_9 : decode cX10_days 9 = .ok (.aload_n 0, 1) := by decide +kernel
theorem dX10_days_10 : decode cX10_days 10 = .ok (.getfield 14, 3) := by decide +kernel
theorem dX10_days_13 : decode cX10_days 13 = .ok (.iload_n 2, 1) := by decide +kernel
theorem dX10_days_14 : decode cX10_days 14 = .ok (.invokevirtual 91, 3) := by decide +kernel
theorem dX10_days_17 : decode cX10_days 17 = .ok (.ifCond .ne 5, 3) := by decide +kernel
theorem dX10_days_20 : decode cX10_days 20 = .ok (.iconst (-1), 1) := by decide +kernel
theorem dX10_days_21 : decode cX10_days 21 = .ok (.ireturn, 1) := by decide +kernel
theorem dX10_days_22 : decode cX10_days 22 = .ok (.aload_n 0, 1) := by decide +kernel
theorem dX10_days_23 : decode cX10_days 23 = .ok (.getfield 31, 3) := by decide +kernel
theorem dX10_days_26 : decode cX10_days 26 = .ok (.getfield 156, 3) := by decide +kernel
theorem dX10_days_29 : decode cX10_days 29 = .ok (.ifCond .ne 6, 3) := by decide +kernel
theorem dX10_days_32 : decode cX10_days 32 = .ok (.bipush (-4), 2) := by decide +kernel
theorem dX10_days_34 : decode cX10_days 34 = .ok (.ireturn, 1) := by decide +kernel
theorem dX10_days_35 : decode cX10_days 35 = .ok (.aload_n 0, 1) := by decide +kernel
theorem dX10_days_36 : decode cX10_days 36 = .ok (.getfield 56, 3) := by decide +kernel
theorem dX10_days_39 : decode cX10_days 39 = .ok (.aload_n 0, 1) := by decide +kernel
theorem dX10_days_40 : decode cX10_days 40 = .ok (.getfield 31, 3) := by decide +kernel
theorem dX10_days_43 : decode cX10_days 43 = .ok (.iload_n 1, 1) := by decide +kernel
theorem dX10_days_44 : decode cX10_days 44 = .ok (.aload_n 0, 1) := by decide +kernel
theorem dX10_days_45 : decode cX10_days 45 = .ok (.getfield 14, 3) := by decide +kernel
theorem dX10_days_48 : decode cX10_days 48 = .ok (.iload_n 2, 1) := by decide +kernel
theorem dX10_days_49 : decode cX10_days 49 = .ok (.invokevirtual 257, 3) := by decide +kernel
theorem dX10_days_52 : decode cX10_days 52 = .ok (.ireturn, 1) := by decide +kernel
theorem dX10_room_0 : decode cX10_room 0 = .ok (.aload_n 0, 1) := by decide +kernel
theorem dX10_room_1 : decode cX10_room 1 = .ok (.getfield 31, 3) := by decide +kernel
theorem dX10_room_4 : decode cX10_room 4 = .ok (.getfield 156, 3) := by decide +kernel
theorem dX10_room_7 : decode cX10_room 7 = .ok (.ifCond .ne 6, 3) := by decide +kernel
theorem dX10_room_10 : decode cX10_room 10 = .ok (.bipush (-4), 2) := by decide +kernel
theorem dX10_room_12 : decode cX10_room 12 = .ok (.ireturn, 1) := by decide +kernel
theorem dX10_room_13 : decode cX10_room 13 = .ok (.aload_n 0, 1) := by decide +kernel
theorem dX10_room_14 : decode cX10_room 14 = .ok (.getfield 49, 3) := by decide +kernel
theorem dX10_room_17 : decode cX10_room 17 = .ok (.aload_n 0, 1) := by decide +kernel
theorem dX10_room_18 : decode cX10_room 18 = .ok (.getfield 31, 3) := by decide +kernel
theorem dX10_room_21 : decode cX10_room 21 = .ok (.invokevirtual 237, 3) := by decide +kernel
theorem dX10_room_24 : decode cX10_room 24 = .ok (.aload_n 0, 1) := by decide +kernel
theorem dX10_room_25 : decode cX10_room 25 = .ok (.getfield 49, 3) := by decide +kernel
theorem dX10_room_28 : decode cX10_room 28 = .ok (.aload_n 0, 1) := by decide +kernel
theorem dX10_room_29 : decode cX10_room 29 = .ok (.getfield 31, 3) := by decide +kernel
theorem dX10_room_32 : decode cX10_room 32 = .ok (.invokevirtual 261, 3) := by decide +kernel
theorem dX10_room_35 : decode cX10_room 35 = .ok (.istore_n 1, 1) := by decide +kernel
theorem dX10_room_36 : decode cX10_room 36 = .ok (.aload_n 0, 1) := by decide +kernel
theorem dX10_room_37 : decode cX10_room 37 = .ok (.aload_n 0, 1) := by decide +kernel
theorem dX10_room_38 : decode cX10_room 38 = .ok (.getfield 49, 3) := by decide +kernel
theorem dX10_room_41 : decode cX10_room 41 = .ok (.aload_n 0, 1) := by decide +kernel
theorem dX10_room_42 : decode cX10_room 42 = .ok (.getfield 31, 3) := by decide +kernel
theorem dX10_room_45 : decode cX10_room 45 = .ok (.iload_n 1, 1) := by decide +kernel
theorem dX10_room_46 : decode cX10_room 46 = .ok (.invokevirtual 265, 3) := by decide +kernel
theorem dX10_room_49 : decode cX10_room 49 = .ok (.putfield 88, 3) := by decide +kernel
theorem dX10_room_52 : decode cX10_room 52 = .ok (.iload_n 1, 1) := by decide +kernel
theorem dX10_room_53 : decode cX10_room 53 = .ok (.ireturn, 1) := by decide +kernel
theorem dX10_join_0 : decode cX10_join 0 = .ok (.aload_n 0, 1) := by decide +kernel
theorem dX10_join_1 : decode cX10_join 1 = .ok (.getfield 31, 3) := by decide +kernel
theorem dX10_join_4 : decode cX10_join 4 = .ok (.iload_n 1, 1) := by decide +kernel
theorem dX10_join_5 : decode cX10_join 5 = .ok (.invokevirtual 234, 3) := by decide +kernel
theorem dX10_join_8 : decode cX10_join 8 = .ok (.ifCond .eq 14, 3) := by decide +kernel
theorem dX10_join_11 : decode cX10_join 11 = .ok (.aload_n 0, 1) := by decide +kernel
theorem dX10_join_12 : decode cX10_join 12 = .ok (.getfield 31, 3) := by decide +kernel
theorem dX10_join_15 : decode cX10_join 15 = .ok (.iload_n 2, 1) := by decide +kernel
theorem dX10_join_16 : decode cX10_join 16 = .ok (.invokevirtual 234, 3) := by decide +kernel
theorem dX10_join_19 : decode cX10_join 19 = .ok (.ifCond .ne 5, 3) := by decide +kernel
theorem dX10_join_22 : decode cX10_join 22 = .ok (.iconst (-1), 1) := by decide +kernel
theorem dX10_join_23 : decode cX10_join 23 = .ok (.ireturn, 1) := by decide +kernel
theorem dX10_join_24 : decode cX10_join 24 = .ok (.aload_n 0, 1) := by decide +kernel
theorem dX10_join_25 : decode cX10_join 25 = .ok (.getfield 49, 3) := by decide +kernel
theorem dX10_join_28 : decode cX10_join 28 = .ok (.aload_n 0, 1) := by decide +kernel
theorem dX10_join_29 : decode cX10_join 29 = .ok (.getfield 31, 3) := by decide +kernel
theorem dX10_join_32 : decode cX10_join 32 = .ok (.invokevirtual 237, 3) := by decide +kernel
theorem dX10_join_35 : decode cX10_join 35 = .ok (.aload_n 0, 1) := by decide +kernel
theorem dX10_join_36 : decode cX10_join 36 = .ok (.getfield 49, 3) := by decide +kernel
theorem dX10_join_39 : decode cX10_join 39 = .ok (.getfield 244, 3) := by decide +kernel
theorem dX10_join_42 : decode cX10_join 42 = .ok (.iload_n 1, 1) := by decide +kernel
theorem dX10_join_43 : decode cX10_join 43 = .ok (.iload_n 2, 1) := by decide +kernel
theorem dX10_join_44 : decode cX10_join 44 = .ok (.ior, 1) := by decide +kernel
theorem dX10_join_45 : decode cX10_join 45 = .ok (.iaload, 1) := by decide +kernel
theorem dX10_join_46 : decode cX10_join 46 = .ok (.aload_n 0, 1) := by decide +kernel
theorem dX10_join_47 : decode cX10_join 47 = .ok (.getfield 49, 3) := by decide +kernel
theorem dX10_join_50 : decode cX10_join 50 = .ok (.getfield 244, 3) := by decide +kernel
theorem dX10_join_53 : decode cX10_join 53 = .ok (.iload_n 1, 1) := by decide +kernel
theorem dX10_join_54 : decode cX10_join 54 = .ok (.iaload, 1) := by decide +kernel
theorem dX10_join_55 : decode cX10_join 55 = .ok (.isub, 1) := by decide +kernel
theorem dX10_join_56 : decode cX10_join 56 = .ok (.aload_n 0, 1) := by decide +kernel
theorem dX10_join_57 : decode cX10_join 57 = .ok (.getfield 49, 3) := by decide +kernel
theorem dX10_join_60 : decode cX10_join 60 = .ok (.getfield 244, 3) := by decide +kernel
theorem dX10_join_63 : decode cX10_join 63 = .ok (.iload_n 2, 1) := by decide +kernel
theorem dX10_join_64 : decode cX10_join 64 = .ok (.iaload, 1) := by decide +kernel
theorem dX10_join_65 : decode cX10_join 65 = .ok (.isub, 1) := by decide +kernel
theorem dX10_join_66 : decode cX10_join 66 = .ok (.sipush 200, 3) := by decide +kernel
theorem dX10_join_69 : decode cX10_join 69 = .ok (.iadd, 1) := by decide +kernel
theorem dX10_join_70 : decode cX10_join 70 = .ok (.ireturn, 1) := by decide +kernel
theorem dX10_sorts_0 : decode cX10_sorts 0 = .ok (.aload_n 0, 1) := by decide +kernel
theorem dX10_sorts_1 : decode cX10_sorts 1 = .ok (.iload_n 1, 1) := by decide +kernel
theorem dX10_sorts_2 : decode cX10_sorts 2 = .ok (.iload_n 2, 1) := by decide +kernel
theorem dX10_sorts_3 : decode cX10_sorts 3 = .ok (.invokevirtual 268, 3) := by decide +kernel
theorem dX10_sorts_6 : decode cX10_sorts 6 = .ok (.istore_n 3, 1) := by decide +kernel
theorem dX10_sorts_7 : decode cX10_sorts 7 = .ok (.iload_n 3, 1) := by decide +kernel
theorem dX10_sorts_8 : decode cX10_sorts 8 = .ok (.ifCond .eq 5, 3) := by decide +kernel
theorem dX10_sorts_11 : decode cX10_sorts 11 = .ok (.iload_n 3, 1) := by decide +kernel
theorem dX10_sorts_12 : decode cX10_sorts 12 = .ok (.ireturn, 1) := by decide +kernel
theorem dX10_sorts_13 : decode cX10_sorts 13 = .ok (.aload_n 0, 1) := by decide +kernel
theorem dX10_sorts_14 : decode cX10_sorts 14 = .ok (.getfield 63, 3) := by decide +kernel
theorem dX10_sorts_17 : decode cX10_sorts 17 = .ok (.aload_n 0, 1) := by decide +kernel
theorem dX10_sorts_18 : decode cX10_sorts 18 = .ok (.getfield 31, 3) := by decide +kernel
theorem dX10_sorts_21 : decode cX10_sorts 21 = .ok (.iload_n 1, 1) := by decide +kernel
theorem dX10_sorts_22 : decode cX10_sorts 22 = .ok (.aload_n 0, 1) := by decide +kernel
theorem dX10_sorts_23 : decode cX10_sorts 23 = .ok (.getfield 14, 3) := by decide +kernel
theorem dX10_sorts_26 : decode cX10_sorts 26 = .ok (.iload_n 2, 1) := by decide +kernel
theorem dX10_sorts_27 : decode cX10_sorts 27 = .ok (.invokevirtual 271, 3) := by decide +kernel
theorem dX10_sorts_30 : decode cX10_sorts 30 = .ok (.ireturn, 1) := by decide +kernel
theorem dX10_hands_0 : decode cX10_hands 0 = .ok (.aload_n 0, 1) := by decide +kernel
theorem dX10_hands_1 : decode cX10_hands 1 = .ok (.iload_n 1, 1) := by decide +kernel
theorem dX10_hands_2 : decode cX10_hands 2 = .ok (.iload_n 2, 1) := by decide +kernel
theorem dX10_hands_3 : decode cX10_hands 3 = .ok (.invokevirtual 268, 3) := by decide +kernel
theorem dX10_hands_6 : decode cX10_hands 6 = .ok (.istore_n 3, 1) := by decide +kernel
theorem dX10_hands_7 : decode cX10_hands 7 = .ok (.iload_n 3, 1) := by decide +kernel
theorem dX10_hands_8 : decode cX10_hands 8 = .ok (.ifCond .eq 5, 3) := by decide +kernel
theorem dX10_hands_11 : decode cX10_hands 11 = .ok (.iload_n 3, 1) := by decide +kernel
theorem dX10_hands_12 : decode cX10_hands 12 = .ok (.ireturn, 1) := by decide +kernel
theorem dX10_hands_13 : decode cX10_hands 13 = .ok (.aload_n 0, 1) := by decide +kernel
theorem dX10_hands_14 : decode cX10_hands 14 = .ok (.getfield 63, 3) := by decide +kernel
theorem dX10_hands_17 : decode cX10_hands 17 = .ok (.aload_n 0, 1) := by decide +kernel
theorem dX10_hands_18 : decode cX10_hands 18 = .ok (.getfield 31, 3) := by decide +kernel
theorem dX10_hands_21 : decode cX10_hands 21 = .ok (.iload_n 1, 1) := by decide +kernel
theorem dX10_hands_22 : decode cX10_hands 22 = .ok (.aload_n 0, 1) := by decide +kernel
theorem dX10_hands_23 : decode cX10_hands 23 = .ok (.getfield 14, 3) := by decide +kernel
theorem dX10_hands_26 : decode cX10_hands 26 = .ok (.iload_n 2, 1) := by decide +kernel
theorem dX10_hands_27 : decode cX10_hands 27 = .ok (.invokevirtual 274, 3) := by decide +kernel
theorem dX10_hands_30 : decode cX10_hands 30 = .ok (.ireturn, 1) := by decide +kernel
theorem dX10_kinds_0 : decode cX10_kinds 0 = .ok (.aload_n 0, 1) := by decide +kernel
theorem dX10_kinds_1 : decode cX10_kinds 1 = .ok (.iload_n 1, 1) := by decide +kernel
theorem dX10_kinds_2 : decode cX10_kinds 2 = .ok (.iload_n 2, 1) := by decide +kernel
theorem dX10_kinds_3 : decode cX10_kinds 3 = .ok (.invokevirtual 268, 3) := by decide +kernel
theorem dX10_kinds_6 : decode cX10_kinds 6 = .ok (.istore_n 3, 1) := by decide +kernel
theorem dX10_kinds_7 : decode cX10_kinds 7 = .ok (.iload_n 3, 1) := by decide +kernel
theorem dX10_kinds_8 : decode cX10_kinds 8 = .ok (.ifCond .eq 5, 3) := by decide +kernel
theorem dX10_kinds_11 : decode cX10_kinds 11 = .ok (.iload_n 3, 1) := by decide +kernel
theorem dX10_kinds_12 : decode cX10_kinds 12 = .ok (.ireturn, 1) := by decide +kernel
theorem dX10_kinds_13 : decode cX10_kinds 13 = .ok (.aload_n 0, 1) := by decide +kernel
theorem dX10_kinds_14 : decode cX10_kinds 14 = .ok (.getfield 63, 3) := by decide +kernel
theorem dX10_kinds_17 : decode cX10_kinds 17 = .ok (.aload_n 0, 1) := by decide +kernel
theorem dX10_kinds_18 : decode cX10_kinds 18 = .ok (.getfield 31, 3) := by decide +kernel
theorem dX10_kinds_21 : decode cX10_kinds 21 = .ok (.iload_n 1, 1) := by decide +kernel
theorem dX10_kinds_22 : decode cX10_kinds 22 = .ok (.aload_n 0, 1) := by decide +kernel
theorem dX10_kinds_23 : decode cX10_kinds 23 = .ok (.getfield 14, 3) := by decide +kernel
theorem dX10_kinds_26 : decode cX10_kinds 26 = .ok (.iload_n 2, 1) := by decide +kernel
theorem dX10_kinds_27 : decode cX10_kinds 27 = .ok (.invokevirtual 277, 3) := by decide +kernel
theorem dX10_kinds_30 : decode cX10_kinds 30 = .ok (.ireturn, 1) := by decide +kernel
theorem dX10_test_0 : decode cX10_test 0 = .ok (.aload_n 0, 1) := by decide +kernel
theorem dX10_test_1 : decode cX10_test 1 = .ok (.iload_n 1, 1) := by decide +kernel
theorem dX10_test_2 : decode cX10_test 2 = .ok (.iload_n 2, 1) := by decide +kernel
theorem dX10_test_3 : decode cX10_test 3 = .ok (.invokevirtual 268, 3) := by decide +kernel
theorem dX10_test_6 : decode cX10_test 6 = .ok (.istore_n 3, 1) := by decide +kernel
theorem dX10_test_7 : decode cX10_test 7 = .ok (.iload_n 3, 1) := by decide +kernel
theorem dX10_test_8 : decode cX10_test 8 = .ok (.ifCond .eq 5, 3) := by decide +kernel
theorem dX10_test_11 : decode cX10_test 11 = .ok (.iload_n 3, 1) := by decide +kernel
theorem dX10_test_12 : decode cX10_test 12 = .ok (.ireturn, 1) := by decide +kernel
theorem dX10_test_13 : decode cX10_test 13 = .ok (.aload_n 0, 1) := by decide +kernel
