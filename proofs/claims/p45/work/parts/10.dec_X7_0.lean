theorem dX7_init_0 : decode cX7_init 0 = .ok (.aload_n 0, 1) := by decide +kernel
theorem dX7_init_1 : decode cX7_init 1 = .ok (.invokespecial 3, 3) := by decide +kernel
theorem dX7_init_4 : decode cX7_init 4 = .ok (.aload_n 0, 1) := by decide +kernel
theorem dX7_init_5 : decode cX7_init 5 = .ok (.bipush 8, 2) := by decide +kernel
theorem dX7_init_7 : decode cX7_init 7 = .ok (.newarray .int, 2) := by decide +kernel
theorem dX7_init_9 : decode cX7_init 9 = .ok (.putfield 9, 3) := by decide +kernel
theorem dX7_init_12 : decode cX7_init 12 = .ok (.aload_n 0, 1) := by decide +kernel
theorem dX7_init_13 : decode cX7_init 13 = .ok (.bipush 8, 2) := by decide +kernel
theorem dX7_init_15 : decode cX7_init 15 = .ok (.newarray .int, 2) := by decide +kernel
theorem dX7_init_17 : decode cX7_init 17 = .ok (.putfield 15, 3) := by decide +kernel
theorem dX7_init_20 : decode cX7_init 20 = .ok (.aload_n 0, 1) := by decide +kernel
theorem dX7_init_21 : decode cX7_init 21 = .ok (.bipush 8, 2) := by decide +kernel
theorem dX7_init_23 : decode cX7_init 23 = .ok (.newarray .int, 2) := by decide +kernel
theorem dX7_init_25 : decode cX7_init 25 = .ok (.putfield 18, 3) := by decide +kernel
theorem dX7_init_28 : decode cX7_init 28 = .ok (.aload_n 0, 1) := by decide +kernel
theorem dX7_init_29 : decode cX7_init 29 = .ok (.bipush 8, 2) := by decide +kernel
theorem dX7_init_31 : decode cX7_init 31 = .ok (.newarray .int, 2) := by decide +kernel
theorem dX7_init_33 : decode cX7_init 33 = .ok (.putfield 21, 3) := by decide +kernel
theorem dX7_init_36 : decode cX7_init 36 = .ok (.return_, 1) := by decide +kernel
theorem dX7_faultOf_0 : decode cX7_faultOf 0 = .ok (.aload_n 0, 1) := by decide +kernel
theorem dX7_faultOf_1 : decode cX7_faultOf 1 = .ok (.iconst 0, 1) := by decide +kernel
theorem dX7_faultOf_2 : decode cX7_faultOf 2 = .ok (.putfield 24, 3) := by decide +kernel
theorem dX7_faultOf_5 : decode cX7_faultOf 5 = .ok (.aload_n 1, 1) := by decide +kernel
theorem dX7_faultOf_6 : decode cX7_faultOf 6 = .ok (.iload_n 2, 1) := by decide +kernel
theorem dX7_faultOf_7 : decode cX7_faultOf 7 = .ok (.invokevirtual 28, 3) := by decide +kernel
theorem dX7_faultOf_10 : decode cX7_faultOf 10 = .ok (.istore_n 3, 1) := by decide +kernel
theorem dX7_faultOf_11 : decode cX7_faultOf 11 = .ok (.aload_n 1, 1) := by decide +kernel
theorem dX7_faultOf_12 : decode cX7_faultOf 12 = .ok (.iload_n 2, 1) := by decide +kernel
theorem dX7_faultOf_13 : decode cX7_faultOf 13 = .ok (.iconst 0, 1) := by decide +kernel
theorem dX7_faultOf_14 : decode cX7_faultOf 14 = .ok (.invokestatic 34, 3) := by decide +kernel
theorem dX7_faultOf_17 : decode cX7_faultOf 17 = .ok (.istore 4, 2) := by decide +kernel
theorem dX7_faultOf_19 : decode cX7_faultOf 19 = .ok (.iload 4, 2) := by decide +kernel
theorem dX7_faultOf_21 : decode cX7_faultOf 21 = .ok (.iload_n 3, 1) := by decide +kernel
theorem dX7_faultOf_22 : decode cX7_faultOf 22 = .ok (.if_icmp .ge 15, 3) := by decide +kernel
theorem dX7_faultOf_25 : decode cX7_faultOf 25 = .ok (.aload_n 1, 1) := by decide +kernel
theorem dX7_faultOf_26 : decode cX7_faultOf 26 = .ok (.iload_n 2, 1) := by decide +kernel
theorem dX7_faultOf_27 : decode cX7_faultOf 27 = .ok (.iload 4, 2) := by decide +kernel
theorem dX7_faultOf_29 : decode cX7_faultOf 29 = .ok (.invokevirtual 38, 3) := by decide +kernel
theorem dX7_faultOf_32 : decode cX7_faultOf 32 = .ok (.bipush 100, 2) := by decide +kernel
theorem dX7_faultOf_34 : decode cX7_faultOf 34 = .ok (.if_icmp .eq 6, 3) := by decide +kernel
theorem dX7_faultOf_37 : decode cX7_faultOf 37 = .ok (.iload 4, 2) := by decide +kernel
theorem dX7_faultOf_39 : decode cX7_faultOf 39 = .ok (.ireturn, 1) := by decide +kernel
theorem dX7_faultOf_40 : decode cX7_faultOf 40 = .ok (.aload_n 0, 1) := by decide +kernel
theorem dX7_faultOf_41 : decode cX7_faultOf 41 = .ok (.aload_n 1, 1) := by decide +kernel
theorem dX7_faultOf_42 : decode cX7_faultOf 42 = .ok (.iload_n 2, 1) := by decide +kernel
theorem dX7_faultOf_43 : decode cX7_faultOf 43 = .ok (.iload 4, 2) := by decide +kernel
theorem dX7_faultOf_45 : decode cX7_faultOf 45 = .ok (.iconst 1, 1) := by decide +kernel
theorem dX7_faultOf_46 : decode cX7_faultOf 46 = .ok (.iadd, 1) := by decide +kernel
theorem dX7_faultOf_47 : decode cX7_faultOf 47 = .ok (.iconst 1, 1) := by decide +kernel
theorem dX7_faultOf_48 : decode cX7_faultOf 48 = .ok (.bipush 8, 2) := by decide +kernel
theorem dX7_faultOf_50 : decode cX7_faultOf 50 = .ok (.invokestatic 42, 3) := by decide +kernel
theorem dX7_faultOf_53 : decode cX7_faultOf 53 = .ok (.putfield 46, 3) := by decide +kernel
theorem dX7_faultOf_56 : decode cX7_faultOf 56 = .ok (.aload_n 0, 1) := by decide +kernel
theorem dX7_faultOf_57 : decode cX7_faultOf 57 = .ok (.getfield 46, 3) := by decide +kernel
theorem dX7_faultOf_60 : decode cX7_faultOf 60 = .ok (.iconst (-1), 1) := by decide +kernel
theorem dX7_faultOf_61 : decode cX7_faultOf 61 = .ok (.if_icmp .ne 8, 3) := by decide +kernel
theorem dX7_faultOf_64 : decode cX7_faultOf 64 = .ok (.iload 4, 2) := by decide +kernel
theorem dX7_faultOf_66 : decode cX7_faultOf 66 = .ok (.iconst 1, 1) := by decide +kernel
theorem dX7_faultOf_67 : decode cX7_faultOf 67 = .ok (.iadd, 1) := by decide +kernel
theorem dX7_faultOf_68 : decode cX7_faultOf 68 = .ok (.ireturn, 1) := by decide +kernel
theorem dX7_faultOf_69 : decode cX7_faultOf 69 = .ok (.aload_n 1, 1) := by decide +kernel
theorem dX7_faultOf_70 : decode cX7_faultOf 70 = .ok (.iload_n 2, 1) := by decide +kernel
theorem dX7_faultOf_71 : decode cX7_faultOf 71 = .ok (.iload 4, 2) := by decide +kernel
theorem dX7_faultOf_73 : decode cX7_faultOf 73 = .ok (.iconst 2, 1) := by decide +kernel
theorem dX7_faultOf_74 : decode cX7_faultOf 74 = .ok (.iadd, 1) := by decide +kernel
theorem dX7_faultOf_75 : decode cX7_faultOf 75 = .ok (.invokestatic 34, 3) := by decide +kernel
theorem dX7_faultOf_78 : decode cX7_faultOf 78 = .ok (.istore 4, 2) := by decide +kernel
theorem dX7_faultOf_80 : decode cX7_faultOf 80 = .ok (.aload_n 0, 1) := by decide +kernel
theorem dX7_faultOf_81 : decode cX7_faultOf 81 = .ok (.getfield 24, 3) := by decide +kernel
theorem dX7_faultOf_84 : decode cX7_faultOf 84 = .ok (.bipush 8, 2) := by decide +kernel
theorem dX7_faultOf_86 : decode cX7_faultOf 86 = .ok (.if_icmp .ge 53, 3) := by decide +kernel
theorem dX7_faultOf_89 : decode cX7_faultOf 89 = .ok (.iload 4, 2) := by decide +kernel
theorem dX7_faultOf_91 : decode cX7_faultOf 91 = .ok (.iload_n 3, 1) := by decide +kernel
theorem dX7_faultOf_92 : decode cX7_faultOf 92 = .ok (.if_icmp .ge 47, 3) := by decide +kernel
theorem dX7_faultOf_95 : decode cX7_faultOf 95 = .ok (.aload_n 0, 1) := by decide +kernel
theorem dX7_faultOf_96 : decode cX7_faultOf 96 = .ok (.aload_n 1, 1) := by decide +kernel
theorem dX7_faultOf_97 : decode cX7_faultOf 97 = .ok (.iload_n 2, 1) := by decide +kernel
theorem dX7_faultOf_98 : decode cX7_faultOf 98 = .ok (.iload 4, 2) := by decide +kernel
theorem dX7_faultOf_100 : decode cX7_faultOf 100 = .ok (.invokevirtual 49, 3) := by decide +kernel
theorem dX7_faultOf_103 : decode cX7_faultOf 103 = .ok (.istore 5, 2) := by decide +kernel
theorem dX7_faultOf_105 : decode cX7_faultOf 105 = .ok (.iload 5, 2) := by decide +kernel
theorem dX7_faultOf_107 : decode cX7_faultOf 107 = .ok (.bipush (-9), 2) := by decide +kernel
theorem dX7_faultOf_109 : decode cX7_faultOf 109 = .ok (.if_icmp .eq 6, 3) := by decide +kernel
theorem dX7_faultOf_112 : decode cX7_faultOf 112 = .ok (.iload 5, 2) := by decide +kernel
theorem dX7_faultOf_114 : decode cX7_faultOf 114 = .ok (.ireturn, 1) := by decide +kernel
theorem dX7_faultOf_115 : decode cX7_faultOf 115 = .ok (.aload_n 1, 1) := by decide +kernel
theorem dX7_faultOf_116 : decode cX7_faultOf 116 = .ok (.iload_n 2, 1) := by decide +kernel
theorem dX7_faultOf_117 : decode cX7_faultOf 117 = .ok (.iload 4, 2) := by decide +kernel
theorem dX7_faultOf_119 : decode cX7_faultOf 119 = .ok (.iconst 4, 1) := by decide +kernel
theorem dX7_faultOf_120 : decode cX7_faultOf 120 = .ok (.iadd, 1) := by decide +kernel
theorem dX7_faultOf_121 : decode cX7_faultOf 121 = .ok (.invokestatic 34, 3) := by decide +kernel
theorem dX7_faultOf_124 : decode cX7_faultOf 124 = .ok (.istore 4, 2) := by decide +kernel
theorem dX7_faultOf_126 : decode cX7_faultOf 126 = .ok (.aload_n 0, 1) := by decide +kernel
theorem dX7_faultOf_127 : decode cX7_faultOf 127 = .ok (.dup, 1) := by decide +kernel
theorem dX7_faultOf_128 : decode cX7_faultOf 128 = .ok (.getfield 24, 3) := by decide +kernel
theorem dX7_faultOf_131 : decode cX7_faultOf 131 = .ok (.iconst 1, 1) := by decide +kernel
theorem dX7_faultOf_132 : decode cX7_faultOf 132 = .ok (.iadd, 1) := by decide +kernel
theorem dX7_faultOf_133 : decode cX7_faultOf 133 = .ok (.putfield 24, 3) := by decide +kernel
theorem dX7_faultOf_136 : decode cX7_faultOf 136 = .ok (.goto (-56), 3) := by decide +kernel
theorem dX7_faultOf_139 : decode cX7_faultOf 139 = .ok (.iload 4, 2) := by decide +kernel
theorem dX7_faultOf_141 : decode cX7_faultOf 141 = .ok (.iload_n 3, 1) := by decide +kernel
theorem dX7_faultOf_142 : decode cX7_faultOf 142 = .ok (.if_icmp .lt 10, 3) := by decide +kernel
theorem dX7_faultOf_145 : decode cX7_faultOf 145 = .ok (.aload_n 0, 1) := by decide +kernel
theorem dX7_faultOf_146 : decode cX7_faultOf 146 = .ok (.getfield 24, 3) := by decide +kernel
theorem dX7_faultOf_149 : decode cX7_faultOf 149 = .ok (.ifCond .ne 8, 3) := by decide +kernel
theorem dX7_faultOf_152 : decode cX7_faultOf 152 = .ok (.iload 4, 2) := by decide +kernel
theorem dX7_faultOf_154 : decode cX7_faultOf 154 = .ok (.goto 5, 3) := by decide +kernel
theorem dX7_faultOf_157 : decode cX7_faultOf 157 = .ok (.bipush (-9), 2) := by decide +kernel
theorem dX7_faultOf_159 : decode cX7_faultOf 159 = .ok (.ireturn, 1) := by decide +kernel
theorem dX7_faultOfGlove_0 : decode cX7_faultOfGlove 0 = .ok (.aload_n 0, 1) := by decide +kernel
theorem dX7_faultOfGlove_1 : decode cX7_faultOfGlove 1 = .ok (.getfield 24, 3) := by decide +kernel
theorem dX7_faultOfGlove_4 : decode cX7_faultOfGlove 4 = .ok (.ifCond .lt 12, 3) := by decide +kernel
theorem dX7_faultOfGlove_7 : decode cX7_faultOfGlove 7 = .ok (.aload_n 0, 1) := by decide +kernel
theorem dX7_faultOfGlove_8 : decode cX7_faultOfGlove 8 = .ok (.getfield 24, 3) := by decide +kernel
theorem dX7_faultOfGlove_11 : decode cX7_faultOfGlove 11 = .ok (.bipush 8, 2) := by decide +kernel
theorem dX7_faultOfGlove_13 : decode cX7_faultOfGlove 13 = .ok (.if_icmp .lt 5, 3) := by decide +kernel
theorem dX7_faultOfGlove_16 : decode cX7_faultOfGlove 16 = .ok (.iload_n 3, 1) := by decide +kernel
theorem dX7_faultOfGlove_17 : decode cX7_faultOfGlove 17 = .ok (.ireturn, 1) := by decide +kernel
theorem dX7_faultOfGlove_18 : decode cX7_faultOfGlove 18 = .ok (.aload_n 0, 1) := by decide +kernel
theorem dX7_faultOfGlove_19 : decode cX7_faultOfGlove 19 = .ok (.getfield 9, 3) := by decide +kernel
theorem dX7_faultOfGlove_22 : decode cX7_faultOfGlove 22 = .ok (.aload_n 0, 1) := by decide +kernel
theorem dX7_faultOfGlove_23 : decode cX7_faultOfGlove 23 = .ok (.getfield 24, 3) := by decide +kernel
theorem dX7_faultOfGlove_26 : decode cX7_faultOfGlove 26 = .ok (.aload_n 1, 1) := by decide +kernel
theorem dX7_faultOfGlove_27 : decode cX7_faultOfGlove 27 = .ok (.iload_n 2, 1) := by decide +kernel
theorem dX7_faultOfGlove_28 : decode cX7_faultOfGlove 28 = .ok (.iload_n 3, 1) := by decide +kernel
theorem dX7_faultOfGlove_29 : decode cX7_faultOfGlove 29 = .ok (.invokevirtual 38, 3) := by decide +kernel
theorem dX7_faultOfGlove_32 : decode cX7_faultOfGlove 32 = .ok (.invokestatic 52, 3) := by decide +kernel
theorem dX7_faultOfGlove_35 : decode cX7_faultOfGlove 35 = .ok (.iastore, 1) := by decide +kernel
theorem dX7_faultOfGlove_36 : decode cX7_faultOfGlove 36 = .ok (.aload_n 0, 1) := by decide +kernel
theorem dX7_faultOfGlove_37 : decode cX7_faultOfGlove 37 = .ok (.getfield 9, 3) := by decide +kernel
theorem dX7_faultOfGlove_40 : decode cX7_faultOfGlove 40 = .ok (.aload_n 0, 1) := by decide +kernel
theorem dX7_faultOfGlove_41 : decode cX7_faultOfGlove 41 = .ok (.getfield 24, 3) := by decide +kernel
theorem dX7_faultOfGlove_44 : decode cX7_faultOfGlove 44 = .ok (.iaload, 1) := by decide +kernel
theorem dX7_faultOfGlove_45 : decode cX7_faultOfGlove 45 = .ok (.iconst (-1), 1) := by decide +kernel
theorem dX7_faultOfGlove_46 : decode cX7_faultOfGlove 46 = .ok (.if_icmp .ne 5, 3) := by decide +kernel
theorem dX7_faultOfGlove_49 : decode cX7_faultOfGlove 49 = .ok (.iload_n 3, 1) := by decide +kernel
theorem dX7_faultOfGlove_50 : decode cX7_faultOfGlove 50 = .ok (.ireturn, 1) := by decide +kernel
theorem dX7_faultOfGlove_51 : decode cX7_faultOfGlove 51 = .ok (.aload_n 0, 1) := by decide +kernel
theorem dX7_faultOfGlove_52 : decode cX7_faultOfGlove 52 = .ok (.getfield 15, 3) := by decide +kernel
theorem dX7_faultOfGlove_55 : decode cX7_faultOfGlove 55 = .ok (.aload_n 0, 1) := by decide +kernel
theorem dX7_faultOfGlove_56 : decode cX7_faultOfGlove 56 = .ok (.getfield 24, 3) := by decide +kernel
theorem dX7_faultOfGlove_59 : decode cX7_faultOfGlove 59 = .ok (.aload_n 1, 1) := by decide +kernel
theorem dX7_faultOfGlove_60 : decode cX7_faultOfGlove 60 = .ok (.iload_n 2, 1) := by decide +kernel
theorem dX7_faultOfGlove_61 : decode cX7_faultOfGlove 61 = .ok (.iload_n 3, 1) := by decide +kernel
theorem dX7_faultOfGlove_62 : decode cX7_faultOfGlove 62 = .ok (.iconst 1, 1) := by decide +kernel
theorem dX7_faultOfGlove_63 : decode cX7_faultOfGlove 63 = .ok (.iadd, 1) := by decide +kernel
theorem dX7_faultOfGlove_64 : decode cX7_faultOfGlove 64 = .ok (.iconst 0, 1) := by decide +kernel
theorem dX7_faultOfGlove_65 : decode cX7_faultOfGlove 65 = .ok (.bipush 9, 2) := by decide +kernel
theorem dX7_faultOfGlove_67 : decode cX7_faultOfGlove 67 = .ok (.invokestatic 42, 3) := by decide +kernel
theorem dX7_faultOfGlove_70 : decode cX7_faultOfGlove 70 = .ok (.iastore, 1) := by decide +kernel
theorem dX7_faultOfGlove_71 : decode cX7_faultOfGlove 71 = .ok (.aload_n 0, 1) := by decide +kernel
theorem dX7_faultOfGlove_72 : decode cX7_faultOfGlove 72 = .ok (.getfield 15, 3) := by decide +kernel
theorem dX7_faultOfGlove_75 : decode cX7_faultOfGlove 75 = .ok (.aload_n 0, 1) := by decide +kernel
theorem dX7_faultOfGlove_76 : decode cX7_faultOfGlove 76 = .ok (.getfield 24, 3) := by decide +kernel
theorem dX7_faultOfGlove_79 : decode cX7_faultOfGlove 79 = .ok (.iaload, 1) := by decide +kernel
theorem dX7_faultOfGlove_80 : decode cX7_faultOfGlove 80 = .ok (.iconst (-1), 1) := by decide +kernel
theorem dX7_faultOfGlove_81 : decode cX7_faultOfGlove 81 = .ok (.if_icmp .ne 7, 3) := by decide +kernel
theorem dX7_faultOfGlove_84 : decode cX7_faultOfGlove 84 = .ok (.iload_n 3, 1) := by decide +kernel
theorem dX7_faultOfGlove_85 : decode cX7_faultOfGlove 85 = .ok (.iconst 1, 1) := by decide +kernel
theorem dX7_faultOfGlove_86 : decode cX7_faultOfGlove 86 = .ok (.iadd, 1) := by decide +kernel
theorem dX7_faultOfGlove_87 : decode cX7_faultOfGlove 87 = .ok (.ireturn, 1) := by decide +kernel
theorem dX7_faultOfGlove_88 : decode cX7_faultOfGlove 88 = .ok (.aload_n 0, 1) := by decide +kernel
theorem dX7_faultOfGlove_89 : decode cX7_faultOfGlove 89 = .ok (.getfield 18, 3) := by decide +kernel
theorem dX7_faultOfGlove_92 : decode cX7_faultOfGlove 92 = .ok (.aload_n 0, 1) := by decide +kernel
theorem dX7_faultOfGlove_93 : decode cX7_faultOfGlove 93 = .ok (.getfield 24, 3) := by decide +kernel
theorem dX7_faultOfGlove_96 : decode cX7_faultOfGlove 96 = .ok (.aload_n 1, 1) := by decide +kernel
theorem dX7_faultOfGlove_97 : decode cX7_faultOfGlove 97 = .ok (.iload_n 2, 1) := by decide +kernel
theorem dX7_faultOfGlove_98 : decode cX7_faultOfGlove 98 = .ok (.iload_n 3, 1) := by decide +kernel
theorem dX7_faultOfGlove_99 : decode cX7_faultOfGlove 99 = .ok (.iconst 2, 1) := by decide +kernel
theorem dX7_faultOfGlove_100 : decode cX7_faultOfGlove 100 = .ok (.iadd, 1) := by decide +kernel
theorem dX7_faultOfGlove_101 : decode cX7_faultOfGlove 101 = .ok (.iconst 0, 1) := by decide +kernel
theorem dX7_faultOfGlove_102 : decode cX7_faultOfGlove 102 = .ok (.iconst 1, 1) := by decide +kernel
theorem dX7_faultOfGlove_103 : decode cX7_faultOfGlove 103 = .ok (.invokestatic 42, 3) := by decide +kernel
theorem dX7_faultOfGlove_106 : decode cX7_faultOfGlove 106 = .ok (.iastore, 1) := by decide +kernel
theorem dX7_faultOfGlove_107 : decode cX7_faultOfGlove 107 = .ok (.aload_n 0, 1) := by decide +kernel
theorem dX7_faultOfGlove_108 : decode cX7_faultOfGlove 108 = .ok (.getfield 18, 3) := by decide +kernel
theorem dX7_faultOfGlove_111 : decode cX7_faultOfGlove 111 = .ok (.aload_n 0, 1) := by decide +kernel
theorem dX7_faultOfGlove_112 : decode cX7_faultOfGlove 112 = .ok (.getfield 24, 3) := by decide +kernel
theorem dX7_faultOfGlove_115 : decode cX7_faultOfGlove 115 = .ok (.iaload, 1) := by decide +kernel
theorem dX7_faultOfGlove_116 : decode cX7_faultOfGlove 116 = .ok (.iconst (-1), 1) := by decide +kernel
theorem dX7_faultOfGlove_117 : decode cX7_faultOfGlove 117 = .ok (.if_icmp .ne 7, 3) := by decide +kernel
theorem dX7_faultOfGlove_120 : decode cX7_faultOfGlove 120 = .ok (.iload_n 3, 1) := by decide +kernel
theorem dX7_faultOfGlove_121 : decode cX7_faultOfGlove 121 = .ok (.iconst 2, 1) := by decide +kernel
theorem dX7_faultOfGlove_122 : decode cX7_faultOfGlove 122 = .ok (.iadd, 1) := by decide +kernel
theorem dX7_faultOfGlove_123 : decode cX7_faultOfGlove 123 = .ok (.ireturn, 1) := by decide +kernel
theorem dX7_faultOfGlove_124 : decode cX7_faultOfGlove 124 = .ok (.aload_n 0, 1) := by decide +kernel
theorem dX7_faultOfGlove_125 : decode cX7_faultOfGlove 125 = .ok (.getfield 21, 3) := by decide +kernel
theorem dX7_faultOfGlove_128 : decode cX7_faultOfGlove 128 = .ok (.aload_n 0, 1) := by decide +kernel
theorem dX7_faultOfGlove_129 : decode cX7_faultOfGlove 129 = .ok (.getfield 24, 3) := by decide +kernel
theorem dX7_faultOfGlove_132 : decode cX7_faultOfGlove 132 = .ok (.aload_n 1, 1) := by decide +kernel
theorem dX7_faultOfGlove_133 : decode cX7_faultOfGlove 133 = .ok (.iload_n 2, 1) := by decide +kernel
theorem dX7_faultOfGlove_134 : decode cX7_faultOfGlove 134 = .ok (.iload_n 3, 1) := by decide +kernel
theorem dX7_faultOfGlove_135 : decode cX7_faultOfGlove 135 = .ok (.iconst 3, 1) := by decide +kernel
theorem dX7_faultOfGlove_136 : decode cX7_faultOfGlove 136 = .ok (.iadd, 1) := by decide +kernel
theorem dX7_faultOfGlove_137 : decode cX7_faultOfGlove 137 = .ok (.iconst 0, 1) := by decide +kernel
theorem dX7_faultOfGlove_138 : decode cX7_faultOfGlove 138 = .ok (.bipush 9, 2) := by decide +kernel
theorem dX7_faultOfGlove_140 : decode cX7_faultOfGlove 140 = .ok (.invokestatic 42, 3) := by decide +kernel
theorem dX7_faultOfGlove_143 : decode cX7_faultOfGlove 143 = .ok (.iastore, 1) := by decide +kernel
theorem dX7_faultOfGlove_144 : decode cX7_faultOfGlove 144 = .ok (.aload_n 0, 1) := by decide +kernel
theorem dX7_faultOfGlove_145 : decode cX7_faultOfGlove 145 = .ok (.getfield 21, 3) := by decide +kernel
theorem dX7_faultOfGlove_148 : decode cX7_faultOfGlove 148 = .ok (.aload_n 0, 1) := by decide +kernel
theorem dX7_faultOfGlove_149 : decode cX7_faultOfGlove 149 = .ok (.getfield 24, 3) := by decide +kernel
theorem dX7_faultOfGlove_152 : decode cX7_faultOfGlove 152 = .ok (.iaload, 1) := by decide +kernel
theorem dX7_faultOfGlove_153 : decode cX7_faultOfGlove 153 = .ok (.iconst (-1), 1) := by decide +kernel
theorem dX7_faultOfGlove_154 : decode cX7_faultOfGlove 154 = .ok (.if_icmp .ne 9, 3) := by decide +kernel
theorem dX7_faultOfGlove_157 : decode cX7_faultOfGlove 157 = .ok (.iload_n 3, 1) := by decide +kernel
theorem dX7_faultOfGlove_158 : decode cX7_faultOfGlove 158 = .ok (.iconst 3, 1) := by decide +kernel
theorem dX7_faultOfGlove_159 : decode cX7_faultOfGlove 159 = .ok (.iadd, 1) := by decide +kernel
theorem dX7_faultOfGlove_160 : decode cX7_faultOfGlove 160 = .ok (.goto 5, 3) := by decide +kernel
theorem dX7_faultOfGlove_163 : decode cX7_faultOfGlove 163 = .ok (.bipush (-9), 2) := by decide +kernel
theorem dX7_faultOfGlove_165 : decode cX7_faultOfGlove 165 = .ok (.ireturn, 1) := by decide +kernel
theorem dX7_pastBlanks_0 : decode cX7_pastBlanks 0 = .ok (.aload_n 0, 1) := by decide +kernel
theorem dX7_pastBlanks_1 : decode cX7_pastBlanks 1 = .ok (.iload_n 1, 1) := by decide +kernel
theorem dX7_pastBlanks_2 : decode cX7_pastBlanks 2 = .ok (.invokevirtual 28, 3) := by decide +kernel
theorem dX7_pastBlanks_5 : decode cX7_pastBlanks 5 = .ok (.istore_n 3, 1) := by decide +kernel
theorem dX7_pastBlanks_6 : decode cX7_pastBlanks 6 = .ok (.iload_n 2, 1) := by decide +kernel
theorem dX7_pastBlanks_7 : decode cX7_pastBlanks 7 = .ok (.istore 4, 2) := by decide +kernel
theorem dX7_pastBlanks_9 : decode cX7_pastBlanks 9 = .ok (.iload 4, 2) := by decide +kernel
theorem dX7_pastBlanks_11 : decode cX7_pastBlanks 11 = .ok (.iload_n 3, 1) := by decide +kernel
theorem dX7_pastBlanks_12 : decode cX7_pastBlanks 12 = .ok (.if_icmp .ge 21, 3) := by decide +kernel
theorem dX7_pastBlanks_15 : decode cX7_pastBlanks 15 = .ok (.aload_n 0, 1) := by decide +kernel
theorem dX7_pastBlanks_16 : decode cX7_pastBlanks 16 = .ok (.iload_n 1, 1) := by decide +kernel
theorem dX7_pastBlanks_17 : decode cX7_pastBlanks 17 = .ok (.iload 4, 2) := by decide +kernel
theorem dX7_pastBlanks_19 : decode cX7_pastBlanks 19 = .ok (.invokevirtual 38, 3) := by decide +kernel
theorem dX7_pastBlanks_22 : decode cX7_pastBlanks 22 = .ok (.bipush 32, 2) := by decide +kernel
theorem dX7_pastBlanks_24 : decode cX7_pastBlanks 24 = .ok (.if_icmp .ne 9, 3) := by decide +kernel
theorem dX7_pastBlanks_27 : decode cX7_pastBlanks 27 = .ok (.iinc 4 1, 3) := by decide +kernel
theorem dX7_pastBlanks_30 : decode cX7_pastBlanks 30 = .ok (.goto (-21), 3) := by decide +kernel
theorem dX7_pastBlanks_33 : decode cX7_pastBlanks 33 = .ok (.iload 4, 2) := by decide +kernel
theorem dX7_pastBlanks_35 : decode cX7_pastBlanks 35 = .ok (.ireturn, 1) := by decide +kernel
theorem dX7_figure_0 : decode cX7_figure 0 = .ok (.aload_n 0, 1) := by decide +kernel
theorem dX7_figure_1 : decode cX7_figure 1 = .ok (.iload_n 1, 1) := by decide +kernel
theorem dX7_figure_2 : decode cX7_figure 2 = .ok (.iload_n 2, 1) := by decide +kernel
theorem dX7_figure_3 : decode cX7_figure 3 = .ok (.invokevirtual 55, 3) := by decide +kernel
theorem dX7_figure_6 : decode cX7_figure 6 = .ok (.ifCond .ne 5, 3) := by decide +kernel
theorem dX7_figure_9 : decode cX7_figure 9 = .ok (.iconst (-1), 1) := by decide +kernel
theorem dX7_figure_10 : decode cX7_figure 10 = .ok (.ireturn, 1) := by decide +kernel
theorem dX7_figure_11 : decode cX7_figure 11 = .ok (.aload_n 0, 1) := by decide +kernel
theorem dX7_figure_12 : decode cX7_figure 12 = .ok (.iload_n 1, 1) := by decide +kernel
theorem dX7_figure_13 : decode cX7_figure 13 = .ok (.iload_n 2, 1) := by decide +kernel
theorem dX7_figure_14 : decode cX7_figure 14 = .ok (.invokevirtual 38, 3) := by decide +kernel
theorem dX7_figure_17 : decode cX7_figure 17 = .ok (.bipush 48, 2) := by decide +kernel
theorem dX7_figure_19 : decode cX7_figure 19 = .ok (.isub, 1) := by decide +kernel
theorem dX7_figure_20 : decode cX7_figure 20 = .ok (.istore 5, 2) := by decide +kernel
theorem dX7_figure_22 : decode cX7_figure 22 = .ok (.iload 5, 2) := by decide +kernel
theorem dX7_figure_24 : decode cX7_figure 24 = .ok (.iload_n 3, 1) := by decide +kernel
theorem dX7_figure_25 : decode cX7_figure 25 = .ok (.if_icmp .lt 15, 3) := by decide +kernel
theorem dX7_figure_28 : decode cX7_figure 28 = .ok (.iload 5, 2) := by decide +kernel
theorem dX7_figure_30 : decode cX7_figure 30 = .ok (.iload 4, 2) := by decide +kernel
theorem dX7_figure_32 : decode cX7_figure 32 = .ok (.if_icmp .gt 8, 3) := by decide +kernel
theorem dX7_figure_35 : decode cX7_figure 35 = .ok (.iload 5, 2) := by decide +kernel
theorem dX7_figure_37 : decode cX7_figure 37 = .ok (.goto 4, 3) := by decide +kernel
theorem dX7_figure_40 : decode cX7_figure 40 = .ok (.iconst (-1), 1) := by decide +kernel
theorem dX7_figure_41 : decode cX7_figure 41 = .ok (.ireturn, 1) := by decide +kernel
theorem dX7_kindOf_0 : decode cX7_kindOf 0 = .ok (.iload_n 0, 1) := by decide +kernel
theorem dX7_kindOf_1 : decode cX7_kindOf 1 = .ok (.tableswitch 91 101 116 #[83, 91, 79, 91, 91, 91, 91, 87, 81, 91, 91, 91, 91, 91, 85, 89], 79) := by decide +kernel
theorem dX7_kindOf_80 : decode cX7_kindOf 80 = .ok (.iconst 0, 1) := by decide +kernel
theorem dX7_kindOf_81 : decode cX7_kindOf 81 = .ok (.ireturn, 1) := by decide +kernel
theorem dX7_kindOf_82 : decode cX7_kindOf 82 = .ok (.iconst 1, 1) := by decide +kernel
theorem dX7_kindOf_83 : decode cX7_kindOf 83 = .ok (.ireturn, 1) := by decide +kernel
theorem dX7_kindOf_84 : decode cX7_kindOf 84 = .ok (.iconst 2, 1) := by decide +kernel
theorem dX7_kindOf_85 : decode cX7_kindOf 85 = .ok (.ireturn, 1) := by decide +kernel
theorem dX7_kindOf_86 : decode cX7_kindOf 86 = .ok (.iconst 3, 1) := by decide +kernel
theorem dX7_kindOf_87 : decode cX7_kindOf 87 = .ok (.ireturn, 1) := by decide +kernel
theorem dX7_kindOf_88 : decode cX7_kindOf 88 = .ok (.iconst 4, 1) := by decide +kernel
theorem dX7_kindOf_89 : decode cX7_kindOf 89 = .ok (.ireturn, 1) := by decide +kernel
theorem dX7_kindOf_90 : decode cX7_kindOf 90 = .ok (.iconst 5, 1) := by decide +kernel
theorem dX7_kindOf_91 : decode cX7_kindOf 91 = .ok (.ireturn, 1) := by decide +kernel
theorem dX7_kindOf_92 : decode cX7_kindOf 92 = .ok (.iconst (-1), 1) := by decide +kernel
theorem dX7_kindOf_93 : decode cX7_kindOf 93 = .ok (.ireturn, 1) := by decide +kernel
