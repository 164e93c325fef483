theorem dX1_init_0 : decode cX1_init 0 = .ok (.aload_n 0, 1) := by decide +kernel
theorem dX1_init_1 : decode cX1_init 1 = .ok (.invokespecial 3, 3) := by decide +kernel
theorem dX1_init_4 : decode cX1_init 4 = .ok (.aload_n 0, 1) := by decide +kernel
theorem dX1_init_5 : decode cX1_init 5 = .ok (.bipush 8, 2) := by decide +kernel
theorem dX1_init_7 : decode cX1_init 7 = .ok (.newarray .int, 2) := by decide +kernel
theorem dX1_init_9 : decode cX1_init 9 = .ok (.putfield 9, 3) := by decide +kernel
theorem dX1_init_12 : decode cX1_init 12 = .ok (.aload_n 0, 1) := by decide +kernel
theorem dX1_init_13 : decode cX1_init 13 = .ok (.lconst 0, 1) := by decide +kernel
theorem dX1_init_14 : decode cX1_init 14 = .ok (.putfield 15, 3) := by decide +kernel
theorem dX1_init_17 : decode cX1_init 17 = .ok (.aload_n 0, 1) := by decide +kernel
theorem dX1_init_18 : decode cX1_init 18 = .ok (.lconst 1, 1) := by decide +kernel
theorem dX1_init_19 : decode cX1_init 19 = .ok (.putfield 19, 3) := by decide +kernel
theorem dX1_init_22 : decode cX1_init 22 = .ok (.return_, 1) := by decide +kernel
theorem dX1_reckon_0 : decode cX1_reckon 0 = .ok (.aload_n 1, 1) := by decide +kernel
theorem dX1_reckon_1 : decode cX1_reckon 1 = .ok (.iconst 0, 1) := by decide +kernel
theorem dX1_reckon_2 : decode cX1_reckon 2 = .ok (.invokevirtual 22, 3) := by decide +kernel
theorem dX1_reckon_5 : decode cX1_reckon 5 = .ok (.istore 5, 2) := by decide +kernel
theorem dX1_reckon_7 : decode cX1_reckon 7 = .ok (.lconst 1, 1) := by decide +kernel
theorem dX1_reckon_8 : decode cX1_reckon 8 = .ok (.lstore 6, 2) := by decide +kernel
theorem dX1_reckon_10 : decode cX1_reckon 10 = .ok (.iconst 0, 1) := by decide +kernel
theorem dX1_reckon_11 : decode cX1_reckon 11 = .ok (.istore 8, 2) := by decide +kernel
theorem dX1_reckon_13 : decode cX1_reckon 13 = .ok (.iload 8, 2) := by decide +kernel
theorem dX1_reckon_15 : decode cX1_reckon 15 = .ok (.aload_n 1, 1) := by decide +kernel
theorem dX1_reckon_16 : decode cX1_reckon 16 = .ok (.getfield 28, 3) := by decide +kernel
theorem dX1_reckon_19 : decode cX1_reckon 19 = .ok (.if_icmp .ge 46, 3) := by decide +kernel
theorem dX1_reckon_22 : decode cX1_reckon 22 = .ok (.aload_n 0, 1) := by decide +kernel
theorem dX1_reckon_23 : decode cX1_reckon 23 = .ok (.getfield 9, 3) := by decide +kernel
theorem dX1_reckon_26 : decode cX1_reckon 26 = .ok (.iload 8, 2) := by decide +kernel
theorem dX1_reckon_28 : decode cX1_reckon 28 = .ok (.aload_n 1, 1) := by decide +kernel
theorem dX1_reckon_29 : decode cX1_reckon 29 = .ok (.getfield 32, 3) := by decide +kernel
theorem dX1_reckon_32 : decode cX1_reckon 32 = .ok (.iload 8, 2) := by decide +kernel
theorem dX1_reckon_34 : decode cX1_reckon 34 = .ok (.aaload, 1) := by decide +kernel
theorem dX1_reckon_35 : decode cX1_reckon 35 = .ok (.iload_n 2, 1) := by decide +kernel
theorem dX1_reckon_36 : decode cX1_reckon 36 = .ok (.iload_n 3, 1) := by decide +kernel
theorem dX1_reckon_37 : decode cX1_reckon 37 = .ok (.invokestatic 36, 3) := by decide +kernel
theorem dX1_reckon_40 : decode cX1_reckon 40 = .ok (.iastore, 1) := by decide +kernel
theorem dX1_reckon_41 : decode cX1_reckon 41 = .ok (.iload 5, 2) := by decide +kernel
theorem dX1_reckon_43 : decode cX1_reckon 43 = .ok (.iconst 1, 1) := by decide +kernel
theorem dX1_reckon_44 : decode cX1_reckon 44 = .ok (.iload 8, 2) := by decide +kernel
theorem dX1_reckon_46 : decode cX1_reckon 46 = .ok (.ishl, 1) := by decide +kernel
theorem dX1_reckon_47 : decode cX1_reckon 47 = .ok (.iand, 1) := by decide +kernel
theorem dX1_reckon_48 : decode cX1_reckon 48 = .ok (.ifCond .eq 11, 3) := by decide +kernel
theorem dX1_reckon_51 : decode cX1_reckon 51 = .ok (.lload 6, 2) := by decide +kernel
theorem dX1_reckon_53 : decode cX1_reckon 53 = .ok (.ldc2_w 40, 3) := by decide +kernel
theorem dX1_reckon_56 : decode cX1_reckon 56 = .ok (.lmul, 1) := by decide +kernel
theorem dX1_reckon_57 : decode cX1_reckon 57 = .ok (.lstore 6, 2) := by decide +kernel
theorem dX1_reckon_59 : decode cX1_reckon 59 = .ok (.iinc 8 1, 3) := by decide +kernel
theorem dX1_reckon_62 : decode cX1_reckon 62 = .ok (.goto (-49), 3) := by decide +kernel
theorem dX1_reckon_65 : decode cX1_reckon 65 = .ok (.lconst 0, 1) := by decide +kernel
theorem dX1_reckon_66 : decode cX1_reckon 66 = .ok (.lstore 8, 2) := by decide +kernel
theorem dX1_reckon_68 : decode cX1_reckon 68 = .ok (.iconst 0, 1) := by decide +kernel
theorem dX1_reckon_69 : decode cX1_reckon 69 = .ok (.istore 10, 2) := by decide +kernel
theorem dX1_reckon_71 : decode cX1_reckon 71 = .ok (.iload 10, 2) := by decide +kernel
theorem dX1_reckon_73 : decode cX1_reckon 73 = .ok (.iconst 1, 1) := by decide +kernel
theorem dX1_reckon_74 : decode cX1_reckon 74 = .ok (.aload_n 1, 1) := by decide +kernel
theorem dX1_reckon_75 : decode cX1_reckon 75 = .ok (.getfield 28, 3) := by decide +kernel
theorem dX1_reckon_78 : decode cX1_reckon 78 = .ok (.ishl, 1) := by decide +kernel
theorem dX1_reckon_79 : decode cX1_reckon 79 = .ok (.if_icmp .ge 48, 3) := by decide +kernel
theorem dX1_reckon_82 : decode cX1_reckon 82 = .ok (.iload 10, 2) := by decide +kernel
theorem dX1_reckon_84 : decode cX1_reckon 84 = .ok (.aload 4, 2) := by decide +kernel
theorem dX1_reckon_86 : decode cX1_reckon 86 = .ok (.arraylength, 1) := by decide +kernel
theorem dX1_reckon_87 : decode cX1_reckon 87 = .ok (.if_icmp .ge 40, 3) := by decide +kernel
theorem dX1_reckon_90 : decode cX1_reckon 90 = .ok (.iload 10, 2) := by decide +kernel
theorem dX1_reckon_92 : decode cX1_reckon 92 = .ok (.iload 5, 2) := by decide +kernel
theorem dX1_reckon_94 : decode cX1_reckon 94 = .ok (.iconst (-1), 1) := by decide +kernel
theorem dX1_reckon_95 : decode cX1_reckon 95 = .ok (.ixor, 1) := by decide +kernel
theorem dX1_reckon_96 : decode cX1_reckon 96 = .ok (.iand, 1) := by decide +kernel
theorem dX1_reckon_97 : decode cX1_reckon 97 = .ok (.ifCond .ne 24, 3) := by decide +kernel
theorem dX1_reckon_100 : decode cX1_reckon 100 = .ok (.lload 8, 2) := by decide +kernel
theorem dX1_reckon_102 : decode cX1_reckon 102 = .ok (.aload 4, 2) := by decide +kernel
theorem dX1_reckon_104 : decode cX1_reckon 104 = .ok (.iload 10, 2) := by decide +kernel
theorem dX1_reckon_106 : decode cX1_reckon 106 = .ok (.iaload, 1) := by decide +kernel
theorem dX1_reckon_107 : decode cX1_reckon 107 = .ok (.i2l, 1) := by decide +kernel
theorem dX1_reckon_108 : decode cX1_reckon 108 = .ok (.aload_n 0, 1) := by decide +kernel
theorem dX1_reckon_109 : decode cX1_reckon 109 = .ok (.aload_n 1, 1) := by decide +kernel
theorem dX1_reckon_110 : decode cX1_reckon 110 = .ok (.iload 5, 2) := by decide +kernel
theorem dX1_reckon_112 : decode cX1_reckon 112 = .ok (.iload 10, 2) := by decide +kernel
theorem dX1_reckon_114 : decode cX1_reckon 114 = .ok (.invokevirtual 42, 3) := by decide +kernel
theorem dX1_reckon_117 : decode cX1_reckon 117 = .ok (.lmul, 1) := by decide +kernel
theorem dX1_reckon_118 : decode cX1_reckon 118 = .ok (.ladd, 1) := by decide +kernel
theorem dX1_reckon_119 : decode cX1_reckon 119 = .ok (.lstore 8, 2) := by decide +kernel
theorem dX1_reckon_121 : decode cX1_reckon 121 = .ok (.iinc 10 1, 3) := by decide +kernel
theorem dX1_reckon_124 : decode cX1_reckon 124 = .ok (.goto (-53), 3) := by decide +kernel
theorem dX1_reckon_127 : decode cX1_reckon 127 = .ok (.lload 6, 2) := by decide +kernel
theorem dX1_reckon_129 : decode cX1_reckon 129 = .ok (.lload 8, 2) := by decide +kernel
theorem dX1_reckon_131 : decode cX1_reckon 131 = .ok (.invokestatic 46, 3) := by decide +kernel
theorem dX1_reckon_134 : decode cX1_reckon 134 = .ok (.lstore 10, 2) := by decide +kernel
theorem dX1_reckon_136 : decode cX1_reckon 136 = .ok (.aload_n 0, 1) := by decide +kernel
theorem dX1_reckon_137 : decode cX1_reckon 137 = .ok (.lload 10, 2) := by decide +kernel
theorem dX1_reckon_139 : decode cX1_reckon 139 = .ok (.lconst 0, 1) := by decide +kernel
theorem dX1_reckon_140 : decode cX1_reckon 140 = .ok (.lcmp, 1) := by decide +kernel
theorem dX1_reckon_141 : decode cX1_reckon 141 = .ok (.ifCond .le 11, 3) := by decide +kernel
theorem dX1_reckon_144 : decode cX1_reckon 144 = .ok (.lload 8, 2) := by decide +kernel
theorem dX1_reckon_146 : decode cX1_reckon 146 = .ok (.lload 10, 2) := by decide +kernel
theorem dX1_reckon_148 : decode cX1_reckon 148 = .ok (.ldiv, 1) := by decide +kernel
theorem dX1_reckon_149 : decode cX1_reckon 149 = .ok (.goto 5, 3) := by decide +kernel
theorem dX1_reckon_152 : decode cX1_reckon 152 = .ok (.lload 8, 2) := by decide +kernel
theorem dX1_reckon_154 : decode cX1_reckon 154 = .ok (.putfield 15, 3) := by decide +kernel
theorem dX1_reckon_157 : decode cX1_reckon 157 = .ok (.aload_n 0, 1) := by decide +kernel
theorem dX1_reckon_158 : decode cX1_reckon 158 = .ok (.lload 10, 2) := by decide +kernel
theorem dX1_reckon_160 : decode cX1_reckon 160 = .ok (.lconst 0, 1) := by decide +kernel
theorem dX1_reckon_161 : decode cX1_reckon 161 = .ok (.lcmp, 1) := by decide +kernel
theorem dX1_reckon_162 : decode cX1_reckon 162 = .ok (.ifCond .le 11, 3) := by decide +kernel
theorem dX1_reckon_165 : decode cX1_reckon 165 = .ok (.lload 6, 2) := by decide +kernel
theorem dX1_reckon_167 : decode cX1_reckon 167 = .ok (.lload 10, 2) := by decide +kernel
theorem dX1_reckon_169 : decode cX1_reckon 169 = .ok (.ldiv, 1) := by decide +kernel
theorem dX1_reckon_170 : decode cX1_reckon 170 = .ok (.goto 5, 3) := by decide +kernel
theorem dX1_reckon_173 : decode cX1_reckon 173 = .ok (.lload 6, 2) := by decide +kernel
theorem dX1_reckon_175 : decode cX1_reckon 175 = .ok (.putfield 19, 3) := by decide +kernel
theorem dX1_reckon_178 : decode cX1_reckon 178 = .ok (.return_, 1) := by decide +kernel
theorem dX1_lossOf_0 : decode cX1_lossOf 0 = .ok (.aload_n 0, 1) := by decide +kernel
theorem dX1_lossOf_1 : decode cX1_lossOf 1 = .ok (.getfield 50, 3) := by decide +kernel
theorem dX1_lossOf_4 : decode cX1_lossOf 4 = .ok (.iconst 3, 1) := by decide +kernel
theorem dX1_lossOf_5 : decode cX1_lossOf 5 = .ok (.if_icmp .ne 5, 3) := by decide +kernel
theorem dX1_lossOf_8 : decode cX1_lossOf 8 = .ok (.iconst 0, 1) := by decide +kernel
theorem dX1_lossOf_9 : decode cX1_lossOf 9 = .ok (.ireturn, 1) := by decide +kernel
theorem dX1_lossOf_10 : decode cX1_lossOf 10 = .ok (.aload_n 0, 1) := by decide +kernel
theorem dX1_lossOf_11 : decode cX1_lossOf 11 = .ok (.iconst 2, 1) := by decide +kernel
theorem dX1_lossOf_12 : decode cX1_lossOf 12 = .ok (.invokevirtual 55, 3) := by decide +kernel
theorem dX1_lossOf_15 : decode cX1_lossOf 15 = .ok (.ifCond .eq 9, 3) := by decide +kernel
theorem dX1_lossOf_18 : decode cX1_lossOf 18 = .ok (.iload_n 1, 1) := by decide +kernel
theorem dX1_lossOf_19 : decode cX1_lossOf 19 = .ok (.iload_n 2, 1) := by decide +kernel
theorem dX1_lossOf_20 : decode cX1_lossOf 20 = .ok (.invokestatic 59, 3) := by decide +kernel
theorem dX1_lossOf_23 : decode cX1_lossOf 23 = .ok (.ireturn, 1) := by decide +kernel
theorem dX1_lossOf_24 : decode cX1_lossOf 24 = .ok (.aload_n 0, 1) := by decide +kernel
theorem dX1_lossOf_25 : decode cX1_lossOf 25 = .ok (.getfield 65, 3) := by decide +kernel
theorem dX1_lossOf_28 : decode cX1_lossOf 28 = .ok (.ifCond .ne 7, 3) := by decide +kernel
theorem dX1_lossOf_31 : decode cX1_lossOf 31 = .ok (.iload_n 1, 1) := by decide +kernel
theorem dX1_lossOf_32 : decode cX1_lossOf 32 = .ok (.goto 4, 3) := by decide +kernel
theorem dX1_lossOf_35 : decode cX1_lossOf 35 = .ok (.iload_n 2, 1) := by decide +kernel
theorem dX1_lossOf_36 : decode cX1_lossOf 36 = .ok (.ireturn, 1) := by decide +kernel
theorem dX1_waysTo_0 : decode cX1_waysTo 0 = .ok (.lconst 1, 1) := by decide +kernel
theorem dX1_waysTo_1 : decode cX1_waysTo 1 = .ok (.lstore 4, 2) := by decide +kernel
theorem dX1_waysTo_3 : decode cX1_waysTo 3 = .ok (.iconst 0, 1) := by decide +kernel
theorem dX1_waysTo_4 : decode cX1_waysTo 4 = .ok (.istore 6, 2) := by decide +kernel
theorem dX1_waysTo_6 : decode cX1_waysTo 6 = .ok (.iload 6, 2) := by decide +kernel
theorem dX1_waysTo_8 : decode cX1_waysTo 8 = .ok (.aload_n 1, 1) := by decide +kernel
theorem dX1_waysTo_9 : decode cX1_waysTo 9 = .ok (.getfield 28, 3) := by decide +kernel
theorem dX1_waysTo_12 : decode cX1_waysTo 12 = .ok (.if_icmp .ge 59, 3) := by decide +kernel
theorem dX1_waysTo_15 : decode cX1_waysTo 15 = .ok (.iload_n 3, 1) := by decide +kernel
theorem dX1_waysTo_16 : decode cX1_waysTo 16 = .ok (.iconst 1, 1) := by decide +kernel
theorem dX1_waysTo_17 : decode cX1_waysTo 17 = .ok (.iload 6, 2) := by decide +kernel
theorem dX1_waysTo_19 : decode cX1_waysTo 19 = .ok (.ishl, 1) := by decide +kernel
theorem dX1_waysTo_20 : decode cX1_waysTo 20 = .ok (.iand, 1) := by decide +kernel
theorem dX1_waysTo_21 : decode cX1_waysTo 21 = .ok (.ifCond .eq 22, 3) := by decide +kernel
theorem dX1_waysTo_24 : decode cX1_waysTo 24 = .ok (.lload 4, 2) := by decide +kernel
theorem dX1_waysTo_26 : decode cX1_waysTo 26 = .ok (.bipush 12, 2) := by decide +kernel
theorem dX1_waysTo_28 : decode cX1_waysTo 28 = .ok (.aload_n 0, 1) := by decide +kernel
theorem dX1_waysTo_29 : decode cX1_waysTo 29 = .ok (.getfield 9, 3) := by decide +kernel
theorem dX1_waysTo_32 : decode cX1_waysTo 32 = .ok (.iload 6, 2) := by decide +kernel
theorem dX1_waysTo_34 : decode cX1_waysTo 34 = .ok (.iaload, 1) := by decide +kernel
theorem dX1_waysTo_35 : decode cX1_waysTo 35 = .ok (.isub, 1) := by decide +kernel
theorem dX1_waysTo_36 : decode cX1_waysTo 36 = .ok (.i2l, 1) := by decide +kernel
theorem dX1_waysTo_37 : decode cX1_waysTo 37 = .ok (.lmul, 1) := by decide +kernel
theorem dX1_waysTo_38 : decode cX1_waysTo 38 = .ok (.lstore 4, 2) := by decide +kernel
theorem dX1_waysTo_40 : decode cX1_waysTo 40 = .ok (.goto 25, 3) := by decide +kernel
theorem dX1_waysTo_43 : decode cX1_waysTo 43 = .ok (.iload_n 2, 1) := by decide +kernel
theorem dX1_waysTo_44 : decode cX1_waysTo 44 = .ok (.iconst 1, 1) := by decide +kernel
theorem dX1_waysTo_45 : decode cX1_waysTo 45 = .ok (.iload 6, 2) := by decide +kernel
theorem dX1_waysTo_47 : decode cX1_waysTo 47 = .ok (.ishl, 1) := by decide +kernel
theorem dX1_waysTo_48 : decode cX1_waysTo 48 = .ok (.iand, 1) := by decide +kernel
theorem dX1_waysTo_49 : decode cX1_waysTo 49 = .ok (.ifCond .eq 16, 3) := by decide +kernel
theorem dX1_waysTo_52 : decode cX1_waysTo 52 = .ok (.lload 4, 2) := by decide +kernel
theorem dX1_waysTo_54 : decode cX1_waysTo 54 = .ok (.aload_n 0, 1) := by decide +kernel
theorem dX1_waysTo_55 : decode cX1_waysTo 55 = .ok (.getfield 9, 3) := by decide +kernel
theorem dX1_waysTo_58 : decode cX1_waysTo 58 = .ok (.iload 6, 2) := by decide +kernel
theorem dX1_waysTo_60 : decode cX1_waysTo 60 = .ok (.iaload, 1) := by decide +kernel
theorem dX1_waysTo_61 : decode cX1_waysTo 61 = .ok (.i2l, 1) := by decide +kernel
theorem dX1_waysTo_62 : decode cX1_waysTo 62 = .ok (.lmul, 1) := by decide +kernel
theorem dX1_waysTo_63 : decode cX1_waysTo 63 = .ok (.lstore 4, 2) := by decide +kernel
theorem dX1_waysTo_65 : decode cX1_waysTo 65 = .ok (.iinc 6 1, 3) := by decide +kernel
theorem dX1_waysTo_68 : decode cX1_waysTo 68 = .ok (.goto (-62), 3) := by decide +kernel
theorem dX1_waysTo_71 : decode cX1_waysTo 71 = .ok (.lload 4, 2) := by decide +kernel
theorem dX1_waysTo_73 : decode cX1_waysTo 73 = .ok (.lreturn, 1) := by decide +kernel
theorem dX1_commonDivisor_0 : decode cX1_commonDivisor 0 = .ok (.iconst 0, 1) := by decide +kernel
theorem dX1_commonDivisor_1 : decode cX1_commonDivisor 1 = .ok (.istore 4, 2) := by decide +kernel
theorem dX1_commonDivisor_3 : decode cX1_commonDivisor 3 = .ok (.iload 4, 2) := by decide +kernel
theorem dX1_commonDivisor_5 : decode cX1_commonDivisor 5 = .ok (.sipush 200, 3) := by decide +kernel
theorem dX1_commonDivisor_8 : decode cX1_commonDivisor 8 = .ok (.if_icmp .ge 25, 3) := by decide +kernel
theorem dX1_commonDivisor_11 : decode cX1_commonDivisor 11 = .ok (.lload_n 2, 1) := by decide +kernel
theorem dX1_commonDivisor_12 : decode cX1_commonDivisor 12 = .ok (.lconst 0, 1) := by decide +kernel
theorem dX1_commonDivisor_13 : decode cX1_commonDivisor 13 = .ok (.lcmp, 1) := by decide +kernel
theorem dX1_commonDivisor_14 : decode cX1_commonDivisor 14 = .ok (.ifCond .eq 19, 3) := by decide +kernel
theorem dX1_commonDivisor_17 : decode cX1_commonDivisor 17 = .ok (.lload_n 0, 1) := by decide +kernel
theorem dX1_commonDivisor_18 : decode cX1_commonDivisor 18 = .ok (.lload_n 2, 1) := by decide +kernel
theorem dX1_commonDivisor_19 : decode cX1_commonDivisor 19 = .ok (.lrem, 1) := by decide +kernel
theorem dX1_commonDivisor_20 : decode cX1_commonDivisor 20 = .ok (.lstore 5, 2) := by decide +kernel
theorem dX1_commonDivisor_22 : decode cX1_commonDivisor 22 = .ok (.lload_n 2, 1) := by decide +kernel
theorem dX1_commonDivisor_23 : decode cX1_commonDivisor 23 = .ok (.lstore_n 0, 1) := by decide +kernel
theorem dX1_commonDivisor_24 : decode cX1_commonDivisor 24 = .ok (.lload 5, 2) := by decide +kernel
theorem dX1_commonDivisor_26 : decode cX1_commonDivisor 26 = .ok (.lstore_n 2, 1) := by decide +kernel
theorem dX1_commonDivisor_27 : decode cX1_commonDivisor 27 = .ok (.iinc 4 1, 3) := by decide +kernel
theorem dX1_commonDivisor_30 : decode cX1_commonDivisor 30 = .ok (.goto (-27), 3) := by decide +kernel
theorem dX1_commonDivisor_33 : decode cX1_commonDivisor 33 = .ok (.lload_n 0, 1) := by decide +kernel
theorem dX1_commonDivisor_34 : decode cX1_commonDivisor 34 = .ok (.lreturn, 1) := by decide +kernel
