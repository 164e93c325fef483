theorem dX0_init_0 : decode cX0_init 0 = .ok (.aload_n 0, 1) := by decide +kernel
theorem dX0_init_1 : decode cX0_init 1 = .ok (.invokespecial 3, 3) := by decide +kernel
theorem dX0_init_4 : decode cX0_init 4 = .ok (.aload_n 0, 1) := by decide +kernel
theorem dX0_init_5 : decode cX0_init 5 = .ok (.new 9, 3) := by decide +kernel
theorem dX0_init_8 : decode cX0_init 8 = .ok (.dup, 1) := by decide +kernel
theorem dX0_init_9 : decode cX0_init 9 = .ok (.invokespecial 11, 3) := by decide +kernel
theorem dX0_init_12 : decode cX0_init 12 = .ok (.putfield 12, 3) := by decide +kernel
theorem dX0_init_15 : decode cX0_init 15 = .ok (.aload_n 0, 1) := by decide +kernel
theorem dX0_init_16 : decode cX0_init 16 = .ok (.bipush 64, 2) := by decide +kernel
theorem dX0_init_18 : decode cX0_init 18 = .ok (.newarray .int, 2) := by decide +kernel
theorem dX0_init_20 : decode cX0_init 20 = .ok (.putfield 18, 3) := by decide +kernel
theorem dX0_init_23 : decode cX0_init 23 = .ok (.aload_n 0, 1) := by decide +kernel
theorem dX0_init_24 : decode cX0_init 24 = .ok (.iconst 3, 1) := by decide +kernel
theorem dX0_init_25 : decode cX0_init 25 = .ok (.newarray .int, 2) := by decide +kernel
theorem dX0_init_27 : decode cX0_init 27 = .ok (.putfield 22, 3) := by decide +kernel
theorem dX0_init_30 : decode cX0_init 30 = .ok (.aload_n 0, 1) := by decide +kernel
theorem dX0_init_31 : decode cX0_init 31 = .ok (.iconst 3, 1) := by decide +kernel
theorem dX0_init_32 : decode cX0_init 32 = .ok (.newarray .int, 2) := by decide +kernel
theorem dX0_init_34 : decode cX0_init 34 = .ok (.putfield 25, 3) := by decide +kernel
theorem dX0_init_37 : decode cX0_init 37 = .ok (.return_, 1) := by decide +kernel
theorem dX0_plan_0 : decode cX0_plan 0 = .ok (.aload_n 0, 1) := by decide +kernel
theorem dX0_plan_1 : decode cX0_plan 1 = .ok (.aload_n 1, 1) := by decide +kernel
theorem dX0_plan_2 : decode cX0_plan 2 = .ok (.invokevirtual 28, 3) := by decide +kernel
theorem dX0_plan_5 : decode cX0_plan 5 = .ok (.iload_n 2, 1) := by decide +kernel
theorem dX0_plan_6 : decode cX0_plan 6 = .ok (.ifCond .lt 19, 3) := by decide +kernel
theorem dX0_plan_9 : decode cX0_plan 9 = .ok (.iload_n 2, 1) := by decide +kernel
theorem dX0_plan_10 : decode cX0_plan 10 = .ok (.iconst 3, 1) := by decide +kernel
theorem dX0_plan_11 : decode cX0_plan 11 = .ok (.if_icmp .gt 14, 3) := by decide +kernel
theorem dX0_plan_14 : decode cX0_plan 14 = .ok (.iload_n 2, 1) := by decide +kernel
theorem dX0_plan_15 : decode cX0_plan 15 = .ok (.ifCond .le 13, 3) := by decide +kernel
theorem dX0_plan_18 : decode cX0_plan 18 = .ok (.aload_n 0, 1) := by decide +kernel
theorem dX0_plan_19 : decode cX0_plan 19 = .ok (.getfield 32, 3) := by decide +kernel
theorem dX0_plan_22 : decode cX0_plan 22 = .ok (.ifCond .ne 6, 3) := by decide +kernel
theorem dX0_plan_25 : decode cX0_plan 25 = .ok (.bipush (-9), 2) := by decide +kernel
theorem dX0_plan_27 : decode cX0_plan 27 = .ok (.ireturn, 1) := by decide +kernel
theorem dX0_plan_28 : decode cX0_plan 28 = .ok (.aload_n 0, 1) := by decide +kernel
theorem dX0_plan_29 : decode cX0_plan 29 = .ok (.bipush (-9), 2) := by decide +kernel
theorem dX0_plan_31 : decode cX0_plan 31 = .ok (.putfield 36, 3) := by decide +kernel
theorem dX0_plan_34 : decode cX0_plan 34 = .ok (.aload_n 0, 1) := by decide +kernel
theorem dX0_plan_35 : decode cX0_plan 35 = .ok (.iconst 0, 1) := by decide +kernel
theorem dX0_plan_36 : decode cX0_plan 36 = .ok (.iload_n 2, 1) := by decide +kernel
theorem dX0_plan_37 : decode cX0_plan 37 = .ok (.iconst 0, 1) := by decide +kernel
theorem dX0_plan_38 : decode cX0_plan 38 = .ok (.invokestatic 39, 3) := by decide +kernel
theorem dX0_plan_41 : decode cX0_plan 41 = .ok (.aload_n 3, 1) := by decide +kernel
theorem dX0_plan_42 : decode cX0_plan 42 = .ok (.iload 4, 2) := by decide +kernel
theorem dX0_plan_44 : decode cX0_plan 44 = .ok (.iload_n 2, 1) := by decide +kernel
theorem dX0_plan_45 : decode cX0_plan 45 = .ok (.invokevirtual 43, 3) := by decide +kernel
theorem dX0_plan_48 : decode cX0_plan 48 = .ok (.iconst 0, 1) := by decide +kernel
theorem dX0_plan_49 : decode cX0_plan 49 = .ok (.istore 5, 2) := by decide +kernel
theorem dX0_plan_51 : decode cX0_plan 51 = .ok (.iload 5, 2) := by decide +kernel
theorem dX0_plan_53 : decode cX0_plan 53 = .ok (.iload_n 2, 1) := by decide +kernel
theorem dX0_plan_54 : decode cX0_plan 54 = .ok (.if_icmp .ge 24, 3) := by decide +kernel
theorem dX0_plan_57 : decode cX0_plan 57 = .ok (.aload_n 3, 1) := by decide +kernel
theorem dX0_plan_58 : decode cX0_plan 58 = .ok (.iload 4, 2) := by decide +kernel
theorem dX0_plan_60 : decode cX0_plan 60 = .ok (.iload 5, 2) := by decide +kernel
theorem dX0_plan_62 : decode cX0_plan 62 = .ok (.aload_n 0, 1) := by decide +kernel
theorem dX0_plan_63 : decode cX0_plan 63 = .ok (.getfield 25, 3) := by decide +kernel
theorem dX0_plan_66 : decode cX0_plan 66 = .ok (.iload 5, 2) := by decide +kernel
theorem dX0_plan_68 : decode cX0_plan 68 = .ok (.iaload, 1) := by decide +kernel
theorem dX0_plan_69 : decode cX0_plan 69 = .ok (.invokevirtual 49, 3) := by decide +kernel
theorem dX0_plan_72 : decode cX0_plan 72 = .ok (.iinc 5 1, 3) := by decide +kernel
theorem dX0_plan_75 : decode cX0_plan 75 = .ok (.goto (-24), 3) := by decide +kernel
theorem dX0_plan_78 : decode cX0_plan 78 = .ok (.aload_n 0, 1) := by decide +kernel
theorem dX0_plan_79 : decode cX0_plan 79 = .ok (.getfield 36, 3) := by decide +kernel
theorem dX0_plan_82 : decode cX0_plan 82 = .ok (.ireturn, 1) := by decide +kernel
theorem dX0_gather_0 : decode cX0_gather 0 = .ok (.aload_n 0, 1) := by decide +kernel
theorem dX0_gather_1 : decode cX0_gather 1 = .ok (.getfield 12, 3) := by decide +kernel
theorem dX0_gather_4 : decode cX0_gather 4 = .ok (.aload_n 1, 1) := by decide +kernel
theorem dX0_gather_5 : decode cX0_gather 5 = .ok (.getfield 53, 3) := by decide +kernel
theorem dX0_gather_8 : decode cX0_gather 8 = .ok (.putfield 53, 3) := by decide +kernel
theorem dX0_gather_11 : decode cX0_gather 11 = .ok (.iconst 0, 1) := by decide +kernel
theorem dX0_gather_12 : decode cX0_gather 12 = .ok (.istore_n 2, 1) := by decide +kernel
theorem dX0_gather_13 : decode cX0_gather 13 = .ok (.iload_n 2, 1) := by decide +kernel
theorem dX0_gather_14 : decode cX0_gather 14 = .ok (.aload_n 1, 1) := by decide +kernel
theorem dX0_gather_15 : decode cX0_gather 15 = .ok (.getfield 53, 3) := by decide +kernel
theorem dX0_gather_18 : decode cX0_gather 18 = .ok (.if_icmp .ge 27, 3) := by decide +kernel
theorem dX0_gather_21 : decode cX0_gather 21 = .ok (.aload_n 0, 1) := by decide +kernel
theorem dX0_gather_22 : decode cX0_gather 22 = .ok (.getfield 12, 3) := by decide +kernel
theorem dX0_gather_25 : decode cX0_gather 25 = .ok (.getfield 54, 3) := by decide +kernel
theorem dX0_gather_28 : decode cX0_gather 28 = .ok (.iload_n 2, 1) := by decide +kernel
theorem dX0_gather_29 : decode cX0_gather 29 = .ok (.aaload, 1) := by decide +kernel
theorem dX0_gather_30 : decode cX0_gather 30 = .ok (.aload_n 1, 1) := by decide +kernel
theorem dX0_gather_31 : decode cX0_gather 31 = .ok (.getfield 54, 3) := by decide +kernel
theorem dX0_gather_34 : decode cX0_gather 34 = .ok (.iload_n 2, 1) := by decide +kernel
theorem dX0_gather_35 : decode cX0_gather 35 = .ok (.aaload, 1) := by decide +kernel
theorem dX0_gather_36 : decode cX0_gather 36 = .ok (.invokevirtual 58, 3) := by decide +kernel
theorem dX0_gather_39 : decode cX0_gather 39 = .ok (.iinc 2 1, 3) := by decide +kernel
theorem dX0_gather_42 : decode cX0_gather 42 = .ok (.goto (-29), 3) := by decide +kernel
theorem dX0_gather_45 : decode cX0_gather 45 = .ok (.aload_n 0, 1) := by decide +kernel
theorem dX0_gather_46 : decode cX0_gather 46 = .ok (.iconst 0, 1) := by decide +kernel
theorem dX0_gather_47 : decode cX0_gather 47 = .ok (.putfield 32, 3) := by decide +kernel
theorem dX0_gather_50 : decode cX0_gather 50 = .ok (.aload_n 0, 1) := by decide +kernel
theorem dX0_gather_51 : decode cX0_gather 51 = .ok (.iconst 0, 1) := by decide +kernel
theorem dX0_gather_52 : decode cX0_gather 52 = .ok (.putfield 64, 3) := by decide +kernel
theorem dX0_gather_55 : decode cX0_gather 55 = .ok (.iconst 0, 1) := by decide +kernel
theorem dX0_gather_56 : decode cX0_gather 56 = .ok (.istore_n 2, 1) := by decide +kernel
theorem dX0_gather_57 : decode cX0_gather 57 = .ok (.iload_n 2, 1) := by decide +kernel
theorem dX0_gather_58 : decode cX0_gather 58 = .ok (.aload_n 0, 1) := by decide +kernel
theorem dX0_gather_59 : decode cX0_gather 59 = .ok (.getfield 12, 3) := by decide +kernel
theorem dX0_gather_62 : decode cX0_gather 62 = .ok (.getfield 53, 3) := by decide +kernel
theorem dX0_gather_65 : decode cX0_gather 65 = .ok (.if_icmp .ge 120, 3) := by decide +kernel
theorem dX0_gather_68 : decode cX0_gather 68 = .ok (.iload_n 2, 1) := by decide +kernel
theorem dX0_gather_69 : decode cX0_gather 69 = .ok (.iconst 1, 1) := by decide +kernel
theorem dX0_gather_70 : decode cX0_gather 70 = .ok (.iadd, 1) := by decide +kernel
theorem dX0_gather_71 : decode cX0_gather 71 = .ok (.istore_n 3, 1) := by decide +kernel
theorem dX0_gather_72 : decode cX0_gather 72 = .ok (.iload_n 3, 1) := by decide +kernel
theorem dX0_gather_73 : decode cX0_gather 73 = .ok (.aload_n 0, 1) := by decide +kernel
theorem dX0_gather_74 : decode cX0_gather 74 = .ok (.getfield 12, 3) := by decide +kernel
theorem dX0_gather_77 : decode cX0_gather 77 = .ok (.getfield 53, 3) := by decide +kernel
theorem dX0_gather_80 : decode cX0_gather 80 = .ok (.if_icmp .ge 99, 3) := by decide +kernel
theorem dX0_gather_83 : decode cX0_gather 83 = .ok (.aload_n 0, 1) := by decide +kernel
theorem dX0_gather_84 : decode cX0_gather 84 = .ok (.getfield 12, 3) := by decide +kernel
theorem dX0_gather_87 : decode cX0_gather 87 = .ok (.getfield 54, 3) := by decide +kernel
theorem dX0_gather_90 : decode cX0_gather 90 = .ok (.iload_n 2, 1) := by decide +kernel
theorem dX0_gather_91 : decode cX0_gather 91 = .ok (.aaload, 1) := by decide +kernel
theorem dX0_gather_92 : decode cX0_gather 92 = .ok (.aload_n 0, 1) := by decide +kernel
theorem dX0_gather_93 : decode cX0_gather 93 = .ok (.getfield 12, 3) := by decide +kernel
theorem dX0_gather_96 : decode cX0_gather 96 = .ok (.getfield 54, 3) := by decide +kernel
theorem dX0_gather_99 : decode cX0_gather 99 = .ok (.iload_n 3, 1) := by decide +kernel
theorem dX0_gather_100 : decode cX0_gather 100 = .ok (.aaload, 1) := by decide +kernel
theorem dX0_gather_101 : decode cX0_gather 101 = .ok (.invokevirtual 67, 3) := by decide +kernel
theorem dX0_gather_104 : decode cX0_gather 104 = .ok (.istore 4, 2) := by decide +kernel
theorem dX0_gather_106 : decode cX0_gather 106 = .ok (.aload_n 0, 1) := by decide +kernel
theorem dX0_gather_107 : decode cX0_gather 107 = .ok (.getfield 12, 3) := by decide +kernel
theorem dX0_gather_110 : decode cX0_gather 110 = .ok (.iload_n 2, 1) := by decide +kernel
theorem dX0_gather_111 : decode cX0_gather 111 = .ok (.invokevirtual 71, 3) := by decide +kernel
theorem dX0_gather_114 : decode cX0_gather 114 = .ok (.ifCond .eq 59, 3) := by decide +kernel
theorem dX0_gather_117 : decode cX0_gather 117 = .ok (.aload_n 0, 1) := by decide +kernel
theorem dX0_gather_118 : decode cX0_gather 118 = .ok (.getfield 12, 3) := by decide +kernel
theorem dX0_gather_121 : decode cX0_gather 121 = .ok (.iload_n 3, 1) := by decide +kernel
theorem dX0_gather_122 : decode cX0_gather 122 = .ok (.invokevirtual 71, 3) := by decide +kernel
theorem dX0_gather_125 : decode cX0_gather 125 = .ok (.ifCond .eq 48, 3) := by decide +kernel
theorem dX0_gather_128 : decode cX0_gather 128 = .ok (.iload 4, 2) := by decide +kernel
theorem dX0_gather_130 : decode cX0_gather 130 = .ok (.bipush (-9), 2) := by decide +kernel
theorem dX0_gather_132 : decode cX0_gather 132 = .ok (.if_icmp .eq 41, 3) := by decide +kernel
theorem dX0_gather_135 : decode cX0_gather 135 = .ok (.aload_n 0, 1) := by decide +kernel
theorem dX0_gather_136 : decode cX0_gather 136 = .ok (.getfield 18, 3) := by decide +kernel
theorem dX0_gather_139 : decode cX0_gather 139 = .ok (.aload_n 0, 1) := by decide +kernel
theorem dX0_gather_140 : decode cX0_gather 140 = .ok (.getfield 32, 3) := by decide +kernel
theorem dX0_gather_143 : decode cX0_gather 143 = .ok (.bipush 10, 2) := by decide +kernel
theorem dX0_gather_145 : decode cX0_gather 145 = .ok (.iload_n 2, 1) := by decide +kernel
theorem dX0_gather_146 : decode cX0_gather 146 = .ok (.imul, 1) := by decide +kernel
theorem dX0_gather_147 : decode cX0_gather 147 = .ok (.iload_n 3, 1) := by decide +kernel
theorem dX0_gather_148 : decode cX0_gather 148 = .ok (.iadd, 1) := by decide +kernel
theorem dX0_gather_149 : decode cX0_gather 149 = .ok (.iastore, 1) := by decide +kernel
theorem dX0_gather_150 : decode cX0_gather 150 = .ok (.aload_n 0, 1) := by decide +kernel
theorem dX0_gather_151 : decode cX0_gather 151 = .ok (.dup, 1) := by decide +kernel
theorem dX0_gather_152 : decode cX0_gather 152 = .ok (.getfield 32, 3) := by decide +kernel
theorem dX0_gather_155 : decode cX0_gather 155 = .ok (.iconst 1, 1) := by decide +kernel
theorem dX0_gather_156 : decode cX0_gather 156 = .ok (.iadd, 1) := by decide +kernel
theorem dX0_gather_157 : decode cX0_gather 157 = .ok (.putfield 32, 3) := by decide +kernel
theorem dX0_gather_160 : decode cX0_gather 160 = .ok (.aload_n 0, 1) := by decide +kernel
theorem dX0_gather_161 : decode cX0_gather 161 = .ok (.aload_n 0, 1) := by decide +kernel
theorem dX0_gather_162 : decode cX0_gather 162 = .ok (.getfield 64, 3) := by decide +kernel
theorem dX0_gather_165 : decode cX0_gather 165 = .ok (.iload 4, 2) := by decide +kernel
theorem dX0_gather_167 : decode cX0_gather 167 = .ok (.invokestatic 75, 3) := by decide +kernel
theorem dX0_gather_170 : decode cX0_gather 170 = .ok (.putfield 64, 3) := by decide +kernel
theorem dX0_gather_173 : decode cX0_gather 173 = .ok (.iinc 3 1, 3) := by decide +kernel
theorem dX0_gather_176 : decode cX0_gather 176 = .ok (.goto (-104), 3) := by decide +kernel
theorem dX0_gather_179 : decode cX0_gather 179 = .ok (.iinc 2 1, 3) := by decide +kernel
theorem dX0_gather_182 : decode cX0_gather 182 = .ok (.goto (-125), 3) := by decide +kernel
theorem dX0_gather_185 : decode cX0_gather 185 = .ok (.return_, 1) := by decide +kernel
theorem dX0_search_0 : decode cX0_search 0 = .ok (.iload_n 3, 1) := by decide +kernel
theorem dX0_search_1 : decode cX0_search 1 = .ok (.iload_n 2, 1) := by decide +kernel
theorem dX0_search_2 : decode cX0_search 2 = .ok (.iload_n 1, 1) := by decide +kernel
theorem dX0_search_3 : decode cX0_search 3 = .ok (.isub, 1) := by decide +kernel
theorem dX0_search_4 : decode cX0_search 4 = .ok (.aload_n 0, 1) := by decide +kernel
theorem dX0_search_5 : decode cX0_search 5 = .ok (.getfield 64, 3) := by decide +kernel
theorem dX0_search_8 : decode cX0_search 8 = .ok (.imul, 1) := by decide +kernel
theorem dX0_search_9 : decode cX0_search 9 = .ok (.iadd, 1) := by decide +kernel
theorem dX0_search_10 : decode cX0_search 10 = .ok (.aload_n 0, 1) := by decide +kernel
theorem dX0_search_11 : decode cX0_search 11 = .ok (.getfield 36, 3) := by decide +kernel
theorem dX0_search_14 : decode cX0_search 14 = .ok (.if_icmp .gt 4, 3) := by decide +kernel
theorem dX0_search_17 : decode cX0_search 17 = .ok (.return_, 1) := by decide +kernel
theorem dX0_search_18 : decode cX0_search 18 = .ok (.iload_n 1, 1) := by decide +kernel
theorem dX0_search_19 : decode cX0_search 19 = .ok (.iload_n 2, 1) := by decide +kernel
theorem dX0_search_20 : decode cX0_search 20 = .ok (.if_icmp .ge 8, 3) := by decide +kernel
theorem dX0_search_23 : decode cX0_search 23 = .ok (.iload_n 1, 1) := by decide +kernel
theorem dX0_search_24 : decode cX0_search 24 = .ok (.iconst 3, 1) := by decide +kernel
theorem dX0_search_25 : decode cX0_search 25 = .ok (.if_icmp .lt 38, 3) := by decide +kernel
theorem dX0_search_28 : decode cX0_search 28 = .ok (.aload_n 0, 1) := by decide +kernel
theorem dX0_search_29 : decode cX0_search 29 = .ok (.iload_n 3, 1) := by decide +kernel
theorem dX0_search_30 : decode cX0_search 30 = .ok (.putfield 36, 3) := by decide +kernel
theorem dX0_search_33 : decode cX0_search 33 = .ok (.iconst 0, 1) := by decide +kernel
theorem dX0_search_34 : decode cX0_search 34 = .ok (.istore 4, 2) := by decide +kernel
theorem dX0_search_36 : decode cX0_search 36 = .ok (.iload 4, 2) := by decide +kernel
theorem dX0_search_38 : decode cX0_search 38 = .ok (.iconst 3, 1) := by decide +kernel
theorem dX0_search_39 : decode cX0_search 39 = .ok (.if_icmp .ge 23, 3) := by decide +kernel
theorem dX0_search_42 : decode cX0_search 42 = .ok (.aload_n 0, 1) := by decide +kernel
theorem dX0_search_43 : decode cX0_search 43 = .ok (.getfield 25, 3) := by decide +kernel
theorem dX0_search_46 : decode cX0_search 46 = .ok (.iload 4, 2) := by decide +kernel
theorem dX0_search_48 : decode cX0_search 48 = .ok (.aload_n 0, 1) := by decide +kernel
theorem dX0_search_49 : decode cX0_search 49 = .ok (.getfield 22, 3) := by decide +kernel
theorem dX0_search_52 : decode cX0_search 52 = .ok (.iload 4, 2) := by decide +kernel
theorem dX0_search_54 : decode cX0_search 54 = .ok (.iaload, 1) := by decide +kernel
theorem dX0_search_55 : decode cX0_search 55 = .ok (.iastore, 1) := by decide +kernel
theorem dX0_search_56 : decode cX0_search 56 = .ok (.iinc 4 1, 3) := by decide +kernel
theorem dX0_search_59 : decode cX0_search 59 = .ok (.goto (-23), 3) := by decide +kernel
theorem dX0_search_62 : decode cX0_search 62 = .ok (.return_, 1) := by decide +kernel
theorem dX0_search_63 : decode cX0_search 63 = .ok (.iconst 0, 1) := by decide +kernel
theorem dX0_search_64 : decode cX0_search 64 = .ok (.istore 4, 2) := by decide +kernel
theorem dX0_search_66 : decode cX0_search 66 = .ok (.iload 4, 2) := by decide +kernel
theorem dX0_search_68 : decode cX0_search 68 = .ok (.aload_n 0, 1) := by decide +kernel
theorem dX0_search_69 : decode cX0_search 69 = .ok (.getfield 32, 3) := by decide +kernel
theorem dX0_search_72 : decode cX0_search 72 = .ok (.if_icmp .ge 127, 3) := by decide +kernel
theorem dX0_search_75 : decode cX0_search 75 = .ok (.aload_n 0, 1) := by decide +kernel
theorem dX0_search_76 : decode cX0_search 76 = .ok (.getfield 12, 3) := by decide +kernel
theorem dX0_search_79 : decode cX0_search 79 = .ok (.getfield 54, 3) := by decide +kernel
theorem dX0_search_82 : decode cX0_search 82 = .ok (.aload_n 0, 1) := by decide +kernel
theorem dX0_search_83 : decode cX0_search 83 = .ok (.getfield 18, 3) := by decide +kernel
theorem dX0_search_86 : decode cX0_search 86 = .ok (.iload 4, 2) := by decide +kernel
theorem dX0_search_88 : decode cX0_search 88 = .ok (.iaload, 1) := by decide +kernel
theorem dX0_search_89 : decode cX0_search 89 = .ok (.bipush 10, 2) := by decide +kernel
theorem dX0_search_91 : decode cX0_search 91 = .ok (.idiv, 1) := by decide +kernel
theorem dX0_search_92 : decode cX0_search 92 = .ok (.aaload, 1) := by decide +kernel
theorem dX0_search_93 : decode cX0_search 93 = .ok (.astore 5, 2) := by decide +kernel
theorem dX0_search_95 : decode cX0_search 95 = .ok (.aload_n 0, 1) := by decide +kernel
theorem dX0_search_96 : decode cX0_search 96 = .ok (.getfield 12, 3) := by decide +kernel
theorem dX0_search_99 : decode cX0_search 99 = .ok (.getfield 54, 3) := by decide +kernel
theorem dX0_search_102 : decode cX0_search 102 = .ok (.aload_n 0, 1) := by decide +kernel
theorem dX0_search_103 : decode cX0_search 103 = .ok (.getfield 18, 3) := by decide +kernel
theorem dX0_search_106 : decode cX0_search 106 = .ok (.iload 4, 2) := by decide +kernel
theorem dX0_search_108 : decode cX0_search 108 = .ok (.iaload, 1) := by decide +kernel
theorem dX0_search_109 : decode cX0_search 109 = .ok (.bipush 10, 2) := by decide +kernel
theorem dX0_search_111 : decode cX0_search 111 = .ok (.irem, 1) := by decide +kernel
theorem dX0_search_112 : decode cX0_search 112 = .ok (.aaload, 1) := by decide +kernel
theorem dX0_search_113 : decode cX0_search 113 = .ok (.astore 6, 2) := by decide +kernel
theorem dX0_search_115 : decode cX0_search 115 = .ok (.aload 5, 2) := by decide +kernel
theorem dX0_search_117 : decode cX0_search 117 = .ok (.aload 6, 2) := by decide +kernel
theorem dX0_search_119 : decode cX0_search 119 = .ok (.invokevirtual 67, 3) := by decide +kernel
theorem dX0_search_122 : decode cX0_search 122 = .ok (.istore 7, 2) := by decide +kernel
theorem dX0_search_124 : decode cX0_search 124 = .ok (.aload_n 0, 1) := by decide +kernel
theorem dX0_search_125 : decode cX0_search 125 = .ok (.getfield 22, 3) := by decide +kernel
theorem dX0_search_128 : decode cX0_search 128 = .ok (.iload_n 1, 1) := by decide +kernel
theorem dX0_search_129 : decode cX0_search 129 = .ok (.aload_n 0, 1) := by decide +kernel
theorem dX0_search_130 : decode cX0_search 130 = .ok (.getfield 18, 3) := by decide +kernel
theorem dX0_search_133 : decode cX0_search 133 = .ok (.iload 4, 2) := by decide +kernel
theorem dX0_search_135 : decode cX0_search 135 = .ok (.iaload, 1) := by decide +kernel
theorem dX0_search_136 : decode cX0_search 136 = .ok (.iastore, 1) := by decide +kernel
theorem dX0_search_137 : decode cX0_search 137 = .ok (.aload 5, 2) := by decide +kernel
theorem dX0_search_139 : decode cX0_search 139 = .ok (.dup, 1) := by decide +kernel
theorem dX0_search_140 : decode cX0_search 140 = .ok (.getfield 81, 3) := by decide +kernel
theorem dX0_search_143 : decode cX0_search 143 = .ok (.iconst 1, 1) := by decide +kernel
theorem dX0_search_144 : decode cX0_search 144 = .ok (.iadd, 1) := by decide +kernel
theorem dX0_search_145 : decode cX0_search 145 = .ok (.putfield 81, 3) := by decide +kernel
theorem dX0_search_148 : decode cX0_search 148 = .ok (.aload 6, 2) := by decide +kernel
theorem dX0_search_150 : decode cX0_search 150 = .ok (.dup, 1) := by decide +kernel
theorem dX0_search_151 : decode cX0_search 151 = .ok (.getfield 81, 3) := by decide +kernel
theorem dX0_search_154 : decode cX0_search 154 = .ok (.iconst 1, 1) := by decide +kernel
theorem dX0_search_155 : decode cX0_search 155 = .ok (.iadd, 1) := by decide +kernel
theorem dX0_search_156 : decode cX0_search 156 = .ok (.putfield 81, 3) := by decide +kernel
theorem dX0_search_159 : decode cX0_search 159 = .ok (.aload_n 0, 1) := by decide +kernel
theorem dX0_search_160 : decode cX0_search 160 = .ok (.iload_n 1, 1) := by decide +kernel
theorem dX0_search_161 : decode cX0_search 161 = .ok (.iconst 1, 1) := by decide +kernel
theorem dX0_search_162 : decode cX0_search 162 = .ok (.iadd, 1) := by decide +kernel
theorem dX0_search_163 : decode cX0_search 163 = .ok (.iload_n 2, 1) := by decide +kernel
theorem dX0_search_164 : decode cX0_search 164 = .ok (.iload_n 3, 1) := by decide +kernel
theorem dX0_search_165 : decode cX0_search 165 = .ok (.iload 7, 2) := by decide +kernel
theorem dX0_search_167 : decode cX0_search 167 = .ok (.iadd, 1) := by decide +kernel
theorem dX0_search_168 : decode cX0_search 168 = .ok (.invokestatic 39, 3) := by decide +kernel
theorem dX0_search_171 : decode cX0_search 171 = .ok (.aload 5, 2) := by decide +kernel
theorem dX0_search_173 : decode cX0_search 173 = .ok (.dup, 1) := by decide +kernel
theorem dX0_search_174 : decode cX0_search 174 = .ok (.getfield 81, 3) := by decide +kernel
theorem dX0_search_177 : decode cX0_search 177 = .ok (.iconst 1, 1) := by decide +kernel
theorem dX0_search_178 : decode cX0_search 178 = .ok (.isub, 1) := by decide +kernel
theorem dX0_search_179 : decode cX0_search 179 = .ok (.putfield 81, 3) := by decide +kernel
theorem dX0_search_182 : decode cX0_search 182 = .ok (.aload 6, 2) := by decide +kernel
theorem dX0_search_184 : decode cX0_search 184 = .ok (.dup, 1) := by decide +kernel
theorem dX0_search_185 : decode cX0_search 185 = .ok (.getfield 81, 3) := by decide +kernel
theorem dX0_search_188 : decode cX0_search 188 = .ok (.iconst 1, 1) := by decide +kernel
theorem dX0_search_189 : decode cX0_search 189 = .ok (.isub, 1) := by decide +kernel
theorem dX0_search_190 : decode cX0_search 190 = .ok (.putfield 81, 3) := by decide +kernel
theorem dX0_search_193 : decode cX0_search 193 = .ok (.iinc 4 1, 3) := by decide +kernel
theorem dX0_search_196 : decode cX0_search 196 = .ok (.goto (-130), 3) := by decide +kernel
theorem dX0_search_199 : decode cX0_search 199 = .ok (.return_, 1) := by decide +kernel
