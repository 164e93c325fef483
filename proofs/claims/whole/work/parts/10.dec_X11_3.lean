theorem dX11_unitOf_20 : decode cX11_unitOf 20 = .ok (.ireturn, 1) := by decide +kernel
theorem dX11_hasOf_0 : decode cX11_hasOf 0 = .ok (.iconst 0, 1) := by decide +kernel
theorem dX11_hasOf_1 : decode cX11_hasOf 1 = .ok (.istore_n 3, 1) := by decide +kernel
theorem dX11_hasOf_2 : decode cX11_hasOf 2 = .ok (.iload_n 1, 1) := by decide +kernel
theorem dX11_hasOf_3 : decode cX11_hasOf 3 = .ok (.istore 4, 2) := by decide +kernel
theorem dX11_hasOf_5 : decode cX11_hasOf 5 = .ok (.iconst 0, 1) := by decide +kernel
theorem dX11_hasOf_6 : decode cX11_hasOf 6 = .ok (.istore 5, 2) := by decide +kernel
theorem dX11_hasOf_8 : decode cX11_hasOf 8 = .ok (.iload 5, 2) := by decide +kernel
theorem dX11_hasOf_10 : decode cX11_hasOf 10 = .ok (.aload_n 0, 1) := by decide +kernel
theorem dX11_hasOf_11 : decode cX11_hasOf 11 = .ok (.getfield 155, 3) := by decide +kernel
theorem dX11_hasOf_14 : decode cX11_hasOf 14 = .ok (.if_icmp .ge 34, 3) := by decide +kernel
theorem dX11_hasOf_17 : decode cX11_hasOf 17 = .ok (.iload_n 3, 1) := by decide +kernel
theorem dX11_hasOf_18 : decode cX11_hasOf 18 = .ok (.iload 4, 2) := by decide +kernel
theorem dX11_hasOf_20 : decode cX11_hasOf 20 = .ok (.iconst 3, 1) := by decide +kernel
theorem dX11_hasOf_21 : decode cX11_hasOf 21 = .ok (.irem, 1) := by decide +kernel
theorem dX11_hasOf_22 : decode cX11_hasOf 22 = .ok (.iload_n 2, 1) := by decide +kernel
theorem dX11_hasOf_23 : decode cX11_hasOf 23 = .ok (.if_icmp .ne 10, 3) := by decide +kernel
theorem dX11_hasOf_26 : decode cX11_hasOf 26 = .ok (.iconst 1, 1) := by decide +kernel
theorem dX11_hasOf_27 : decode cX11_hasOf 27 = .ok (.iload 5, 2) := by decide +kernel
theorem dX11_hasOf_29 : decode cX11_hasOf 29 = .ok (.ishl, 1) := by decide +kernel
theorem dX11_hasOf_30 : decode cX11_hasOf 30 = .ok (.goto 4, 3) := by decide +kernel
theorem dX11_hasOf_33 : decode cX11_hasOf 33 = .ok (.iconst 0, 1) := by decide +kernel
theorem dX11_hasOf_34 : decode cX11_hasOf 34 = .ok (.ior, 1) := by decide +kernel
theorem dX11_hasOf_35 : decode cX11_hasOf 35 = .ok (.istore_n 3, 1) := by decide +kernel
theorem dX11_hasOf_36 : decode cX11_hasOf 36 = .ok (.iload 4, 2) := by decide +kernel
theorem dX11_hasOf_38 : decode cX11_hasOf 38 = .ok (.iconst 3, 1) := by decide +kernel
theorem dX11_hasOf_39 : decode cX11_hasOf 39 = .ok (.idiv, 1) := by decide +kernel
theorem dX11_hasOf_40 : decode cX11_hasOf 40 = .ok (.istore 4, 2) := by decide +kernel
theorem dX11_hasOf_42 : decode cX11_hasOf 42 = .ok (.iinc 5 1, 3) := by decide +kernel
theorem dX11_hasOf_45 : decode cX11_hasOf 45 = .ok (.goto (-37), 3) := by decide +kernel
theorem dX11_hasOf_48 : decode cX11_hasOf 48 = .ok (.iload_n 3, 1) := by decide +kernel
theorem dX11_hasOf_49 : decode cX11_hasOf 49 = .ok (.ireturn, 1) := by decide +kernel
theorem dX11_duel_0 : decode cX11_duel 0 = .ok (.iload_n 1, 1) := by decide +kernel
theorem dX11_duel_1 : decode cX11_duel 1 = .ok (.iconst 0, 1) := by decide +kernel
theorem dX11_duel_2 : decode cX11_duel 2 = .ok (.bipush 6, 2) := by decide +kernel
theorem dX11_duel_4 : decode cX11_duel 4 = .ok (.invokestatic 94, 3) := by decide +kernel
theorem dX11_duel_7 : decode cX11_duel 7 = .ok (.ifCond .ne 5, 3) := by decide +kernel
theorem dX11_duel_10 : decode cX11_duel 10 = .ok (.iconst (-1), 1) := by decide +kernel
theorem dX11_duel_11 : decode cX11_duel 11 = .ok (.ireturn, 1) := by decide +kernel
theorem dX11_duel_12 : decode cX11_duel 12 = .ok (.aload_n 0, 1) := by decide +kernel
theorem dX11_duel_13 : decode cX11_duel 13 = .ok (.getfield 155, 3) := by decide +kernel
theorem dX11_duel_16 : decode cX11_duel 16 = .ok (.ifCond .ne 6, 3) := by decide +kernel
theorem dX11_duel_19 : decode cX11_duel 19 = .ok (.bipush (-4), 2) := by decide +kernel
theorem dX11_duel_21 : decode cX11_duel 21 = .ok (.ireturn, 1) := by decide +kernel
theorem dX11_duel_22 : decode cX11_duel 22 = .ok (.aload_n 0, 1) := by decide +kernel
theorem dX11_duel_23 : decode cX11_duel 23 = .ok (.invokevirtual 212, 3) := by decide +kernel
theorem dX11_duel_26 : decode cX11_duel 26 = .ok (.aload_n 0, 1) := by decide +kernel
theorem dX11_duel_27 : decode cX11_duel 27 = .ok (.iconst 0, 1) := by decide +kernel
theorem dX11_duel_28 : decode cX11_duel 28 = .ok (.invokevirtual 178, 3) := by decide +kernel
theorem dX11_duel_31 : decode cX11_duel 31 = .ok (.istore_n 2, 1) := by decide +kernel
theorem dX11_duel_32 : decode cX11_duel 32 = .ok (.iload_n 2, 1) := by decide +kernel
theorem dX11_duel_33 : decode cX11_duel 33 = .ok (.invokestatic 181, 3) := by decide +kernel
theorem dX11_duel_36 : decode cX11_duel 36 = .ok (.iload_n 1, 1) := by decide +kernel
theorem dX11_duel_37 : decode cX11_duel 37 = .ok (.if_icmp .ge 10, 3) := by decide +kernel
theorem dX11_duel_40 : decode cX11_duel 40 = .ok (.iload_n 2, 1) := by decide +kernel
theorem dX11_duel_41 : decode cX11_duel 41 = .ok (.invokestatic 181, 3) := by decide +kernel
theorem dX11_duel_44 : decode cX11_duel 44 = .ok (.goto 4, 3) := by decide +kernel
theorem dX11_duel_47 : decode cX11_duel 47 = .ok (.iload_n 1, 1) := by decide +kernel
theorem dX11_duel_48 : decode cX11_duel 48 = .ok (.istore_n 3, 1) := by decide +kernel
theorem dX11_duel_49 : decode cX11_duel 49 = .ok (.aload_n 0, 1) := by decide +kernel
theorem dX11_duel_50 : decode cX11_duel 50 = .ok (.getfield 155, 3) := by decide +kernel
theorem dX11_duel_53 : decode cX11_duel 53 = .ok (.invokestatic 244, 3) := by decide +kernel
theorem dX11_duel_56 : decode cX11_duel 56 = .ok (.istore 4, 2) := by decide +kernel
theorem dX11_duel_58 : decode cX11_duel 58 = .ok (.iload_n 3, 1) := by decide +kernel
theorem dX11_duel_59 : decode cX11_duel 59 = .ok (.istore 5, 2) := by decide +kernel
theorem dX11_duel_61 : decode cX11_duel 61 = .ok (.iload 5, 2) := by decide +kernel
theorem dX11_duel_63 : decode cX11_duel 63 = .ok (.ifCond .lt 119, 3) := by decide +kernel
theorem dX11_duel_66 : decode cX11_duel 66 = .ok (.iconst 0, 1) := by decide +kernel
theorem dX11_duel_67 : decode cX11_duel 67 = .ok (.istore 6, 2) := by decide +kernel
theorem dX11_duel_69 : decode cX11_duel 69 = .ok (.iload 6, 2) := by decide +kernel
theorem dX11_duel_71 : decode cX11_duel 71 = .ok (.iload 4, 2) := by decide +kernel
theorem dX11_duel_73 : decode cX11_duel 73 = .ok (.if_icmp .ge 103, 3) := by decide +kernel
theorem dX11_duel_76 : decode cX11_duel 76 = .ok (.aload_n 0, 1) := by decide +kernel
theorem dX11_duel_77 : decode cX11_duel 77 = .ok (.iload 6, 2) := by decide +kernel
theorem dX11_duel_79 : decode cX11_duel 79 = .ok (.iconst 0, 1) := by decide +kernel
theorem dX11_duel_80 : decode cX11_duel 80 = .ok (.invokevirtual 247, 3) := by decide +kernel
theorem dX11_duel_83 : decode cX11_duel 83 = .ok (.istore 7, 2) := by decide +kernel
theorem dX11_duel_85 : decode cX11_duel 85 = .ok (.aload_n 0, 1) := by decide +kernel
theorem dX11_duel_86 : decode cX11_duel 86 = .ok (.invokevirtual 206, 3) := by decide +kernel
theorem dX11_duel_89 : decode cX11_duel 89 = .ok (.iload 7, 2) := by decide +kernel
theorem dX11_duel_91 : decode cX11_duel 91 = .ok (.iconst (-1), 1) := by decide +kernel
theorem dX11_duel_92 : decode cX11_duel 92 = .ok (.ixor, 1) := by decide +kernel
theorem dX11_duel_93 : decode cX11_duel 93 = .ok (.iand, 1) := by decide +kernel
theorem dX11_duel_94 : decode cX11_duel 94 = .ok (.istore 8, 2) := by decide +kernel
theorem dX11_duel_96 : decode cX11_duel 96 = .ok (.iload 8, 2) := by decide +kernel
theorem dX11_duel_98 : decode cX11_duel 98 = .ok (.invokestatic 181, 3) := by decide +kernel
theorem dX11_duel_101 : decode cX11_duel 101 = .ok (.iload 5, 2) := by decide +kernel
theorem dX11_duel_103 : decode cX11_duel 103 = .ok (.if_icmp .ne 67, 3) := by decide +kernel
theorem dX11_duel_106 : decode cX11_duel 106 = .ok (.iload 8, 2) := by decide +kernel
theorem dX11_duel_108 : decode cX11_duel 108 = .ok (.iload_n 2, 1) := by decide +kernel
theorem dX11_duel_109 : decode cX11_duel 109 = .ok (.iconst (-1), 1) := by decide +kernel
theorem dX11_duel_110 : decode cX11_duel 110 = .ok (.ixor, 1) := by decide +kernel
theorem dX11_duel_111 : decode cX11_duel 111 = .ok (.iand, 1) := by decide +kernel
theorem dX11_duel_112 : decode cX11_duel 112 = .ok (.ifCond .ne 58, 3) := by decide +kernel
theorem dX11_duel_115 : decode cX11_duel 115 = .ok (.aload_n 0, 1) := by decide +kernel
theorem dX11_duel_116 : decode cX11_duel 116 = .ok (.getfield 77, 3) := by decide +kernel
theorem dX11_duel_119 : decode cX11_duel 119 = .ok (.iload 6, 2) := by decide +kernel
theorem dX11_duel_121 : decode cX11_duel 121 = .ok (.iload 5, 2) := by decide +kernel
theorem dX11_duel_123 : decode cX11_duel 123 = .ok (.iload_n 3, 1) := by decide +kernel
theorem dX11_duel_124 : decode cX11_duel 124 = .ok (.if_icmp .ne 31, 3) := by decide +kernel
theorem dX11_duel_127 : decode cX11_duel 127 = .ok (.aload_n 0, 1) := by decide +kernel
theorem dX11_duel_128 : decode cX11_duel 128 = .ok (.getfield 68, 3) := by decide +kernel
theorem dX11_duel_131 : decode cX11_duel 131 = .ok (.aload_n 0, 1) := by decide +kernel
theorem dX11_duel_132 : decode cX11_duel 132 = .ok (.iload 6, 2) := by decide +kernel
theorem dX11_duel_134 : decode cX11_duel 134 = .ok (.iconst 1, 1) := by decide +kernel
theorem dX11_duel_135 : decode cX11_duel 135 = .ok (.invokevirtual 247, 3) := by decide +kernel
theorem dX11_duel_138 : decode cX11_duel 138 = .ok (.iaload, 1) := by decide +kernel
theorem dX11_duel_139 : decode cX11_duel 139 = .ok (.aload_n 0, 1) := by decide +kernel
theorem dX11_duel_140 : decode cX11_duel 140 = .ok (.getfield 68, 3) := by decide +kernel
theorem dX11_duel_143 : decode cX11_duel 143 = .ok (.aload_n 0, 1) := by decide +kernel
theorem dX11_duel_144 : decode cX11_duel 144 = .ok (.iload 6, 2) := by decide +kernel
theorem dX11_duel_146 : decode cX11_duel 146 = .ok (.iconst 2, 1) := by decide +kernel
theorem dX11_duel_147 : decode cX11_duel 147 = .ok (.invokevirtual 247, 3) := by decide +kernel
theorem dX11_duel_150 : decode cX11_duel 150 = .ok (.iaload, 1) := by decide +kernel
theorem dX11_duel_151 : decode cX11_duel 151 = .ok (.isub, 1) := by decide +kernel
theorem dX11_duel_152 : decode cX11_duel 152 = .ok (.goto 17, 3) := by decide +kernel
theorem dX11_duel_155 : decode cX11_duel 155 = .ok (.aload_n 0, 1) := by decide +kernel
theorem dX11_duel_156 : decode cX11_duel 156 = .ok (.iload 6, 2) := by decide +kernel
theorem dX11_duel_158 : decode cX11_duel 158 = .ok (.iload_n 2, 1) := by decide +kernel
theorem dX11_duel_159 : decode cX11_duel 159 = .ok (.iload 7, 2) := by decide +kernel
theorem dX11_duel_161 : decode cX11_duel 161 = .ok (.iand, 1) := by decide +kernel
theorem dX11_duel_162 : decode cX11_duel 162 = .ok (.iload 5, 2) := by decide +kernel
theorem dX11_duel_164 : decode cX11_duel 164 = .ok (.iconst 2, 1) := by decide +kernel
theorem dX11_duel_165 : decode cX11_duel 165 = .ok (.irem, 1) := by decide +kernel
theorem dX11_duel_166 : decode cX11_duel 166 = .ok (.invokevirtual 250, 3) := by decide +kernel
theorem dX11_duel_169 : decode cX11_duel 169 = .ok (.iastore, 1) := by decide +kernel
theorem dX11_duel_170 : decode cX11_duel 170 = .ok (.iinc 6 1, 3) := by decide +kernel
theorem dX11_duel_173 : decode cX11_duel 173 = .ok (.goto (-104), 3) := by decide +kernel
theorem dX11_duel_176 : decode cX11_duel 176 = .ok (.iinc 5 (-1), 3) := by decide +kernel
theorem dX11_duel_179 : decode cX11_duel 179 = .ok (.goto (-118), 3) := by decide +kernel
theorem dX11_duel_182 : decode cX11_duel 182 = .ok (.aload_n 0, 1) := by decide +kernel
theorem dX11_duel_183 : decode cX11_duel 183 = .ok (.getfield 77, 3) := by decide +kernel
theorem dX11_duel_186 : decode cX11_duel 186 = .ok (.iconst 0, 1) := by decide +kernel
theorem dX11_duel_187 : decode cX11_duel 187 = .ok (.iaload, 1) := by decide +kernel
theorem dX11_duel_188 : decode cX11_duel 188 = .ok (.bipush 100, 2) := by decide +kernel
theorem dX11_duel_190 : decode cX11_duel 190 = .ok (.iadd, 1) := by decide +kernel
theorem dX11_duel_191 : decode cX11_duel 191 = .ok (.ireturn, 1) := by decide +kernel
theorem dX11_bestTurn_0 : decode cX11_bestTurn 0 = .ok (.iconst 0, 1) := by decide +kernel
theorem dX11_bestTurn_1 : decode cX11_bestTurn 1 = .ok (.istore 4, 2) := by decide +kernel
theorem dX11_bestTurn_3 : decode cX11_bestTurn 3 = .ok (.iconst 0, 1) := by decide +kernel
theorem dX11_bestTurn_4 : decode cX11_bestTurn 4 = .ok (.istore 5, 2) := by decide +kernel
theorem dX11_bestTurn_6 : decode cX11_bestTurn 6 = .ok (.iconst 0, 1) := by decide +kernel
theorem dX11_bestTurn_7 : decode cX11_bestTurn 7 = .ok (.istore 6, 2) := by decide +kernel
theorem dX11_bestTurn_9 : decode cX11_bestTurn 9 = .ok (.iload 6, 2) := by decide +kernel
theorem dX11_bestTurn_11 : decode cX11_bestTurn 11 = .ok (.aload_n 0, 1) := by decide +kernel
theorem dX11_bestTurn_12 : decode cX11_bestTurn 12 = .ok (.getfield 155, 3) := by decide +kernel
theorem dX11_bestTurn_15 : decode cX11_bestTurn 15 = .ok (.if_icmp .ge 75, 3) := by decide +kernel
theorem dX11_bestTurn_18 : decode cX11_bestTurn 18 = .ok (.iload_n 2, 1) := by decide +kernel
theorem dX11_bestTurn_19 : decode cX11_bestTurn 19 = .ok (.iload 6, 2) := by decide +kernel
theorem dX11_bestTurn_21 : decode cX11_bestTurn 21 = .ok (.ishr, 1) := by decide +kernel
theorem dX11_bestTurn_22 : decode cX11_bestTurn 22 = .ok (.iconst 1, 1) := by decide +kernel
theorem dX11_bestTurn_23 : decode cX11_bestTurn 23 = .ok (.iand, 1) := by decide +kernel
theorem dX11_bestTurn_24 : decode cX11_bestTurn 24 = .ok (.iconst 1, 1) := by decide +kernel
theorem dX11_bestTurn_25 : decode cX11_bestTurn 25 = .ok (.if_icmp .ne 59, 3) := by decide +kernel
theorem dX11_bestTurn_28 : decode cX11_bestTurn 28 = .ok (.aload_n 0, 1) := by decide +kernel
theorem dX11_bestTurn_29 : decode cX11_bestTurn 29 = .ok (.getfield 77, 3) := by decide +kernel
theorem dX11_bestTurn_32 : decode cX11_bestTurn 32 = .ok (.iload_n 1, 1) := by decide +kernel
theorem dX11_bestTurn_33 : decode cX11_bestTurn 33 = .ok (.iconst 1, 1) := by decide +kernel
theorem dX11_bestTurn_34 : decode cX11_bestTurn 34 = .ok (.iload_n 3, 1) := by decide +kernel
theorem dX11_bestTurn_35 : decode cX11_bestTurn 35 = .ok (.iadd, 1) := by decide +kernel
theorem dX11_bestTurn_36 : decode cX11_bestTurn 36 = .ok (.iload 6, 2) := by decide +kernel
theorem dX11_bestTurn_38 : decode cX11_bestTurn 38 = .ok (.invokestatic 244, 3) := by decide +kernel
theorem dX11_bestTurn_41 : decode cX11_bestTurn 41 = .ok (.imul, 1) := by decide +kernel
theorem dX11_bestTurn_42 : decode cX11_bestTurn 42 = .ok (.iadd, 1) := by decide +kernel
theorem dX11_bestTurn_43 : decode cX11_bestTurn 43 = .ok (.iaload, 1) := by decide +kernel
theorem dX11_bestTurn_44 : decode cX11_bestTurn 44 = .ok (.istore 7, 2) := by decide +kernel
theorem dX11_bestTurn_46 : decode cX11_bestTurn 46 = .ok (.iload 5, 2) := by decide +kernel
theorem dX11_bestTurn_48 : decode cX11_bestTurn 48 = .ok (.ifCond .eq 24, 3) := by decide +kernel
theorem dX11_bestTurn_51 : decode cX11_bestTurn 51 = .ok (.iload_n 3, 1) := by decide +kernel
theorem dX11_bestTurn_52 : decode cX11_bestTurn 52 = .ok (.ifCond .ne 13, 3) := by decide +kernel
theorem dX11_bestTurn_55 : decode cX11_bestTurn 55 = .ok (.iload 7, 2) := by decide +kernel
theorem dX11_bestTurn_57 : decode cX11_bestTurn 57 = .ok (.iload 4, 2) := by decide +kernel
theorem dX11_bestTurn_59 : decode cX11_bestTurn 59 = .ok (.if_icmp .le 18, 3) := by decide +kernel
theorem dX11_bestTurn_62 : decode cX11_bestTurn 62 = .ok (.goto 10, 3) := by decide +kernel
theorem dX11_bestTurn_65 : decode cX11_bestTurn 65 = .ok (.iload 7, 2) := by decide +kernel
theorem dX11_bestTurn_67 : decode cX11_bestTurn 67 = .ok (.iload 4, 2) := by decide +kernel
theorem dX11_bestTurn_69 : decode cX11_bestTurn 69 = .ok (.if_icmp .ge 8, 3) := by decide +kernel
theorem dX11_bestTurn_72 : decode cX11_bestTurn 72 = .ok (.iload 7, 2) := by decide +kernel
theorem dX11_bestTurn_74 : decode cX11_bestTurn 74 = .ok (.goto 5, 3) := by decide +kernel
theorem dX11_bestTurn_77 : decode cX11_bestTurn 77 = .ok (.iload 4, 2) := by decide +kernel
theorem dX11_bestTurn_79 : decode cX11_bestTurn 79 = .ok (.istore 4, 2) := by decide +kernel
theorem dX11_bestTurn_81 : decode cX11_bestTurn 81 = .ok (.iconst 1, 1) := by decide +kernel
theorem dX11_bestTurn_82 : decode cX11_bestTurn 82 = .ok (.istore 5, 2) := by decide +kernel
theorem dX11_bestTurn_84 : decode cX11_bestTurn 84 = .ok (.iinc 6 1, 3) := by decide +kernel
theorem dX11_bestTurn_87 : decode cX11_bestTurn 87 = .ok (.goto (-78), 3) := by decide +kernel
theorem dX11_bestTurn_90 : decode cX11_bestTurn 90 = .ok (.iload 4, 2) := by decide +kernel
theorem dX11_bestTurn_92 : decode cX11_bestTurn 92 = .ok (.ireturn, 1) := by decide +kernel
theorem dX11_areOf_0 : decode cX11_areOf 0 = .ok (.iload_n 0, 1) := by decide +kernel
theorem dX11_areOf_1 : decode cX11_areOf 1 = .ok (.iconst 0, 1) := by decide +kernel
theorem dX11_areOf_2 : decode cX11_areOf 2 = .ok (.bipush 12, 2) := by decide +kernel
theorem dX11_areOf_4 : decode cX11_areOf 4 = .ok (.invokestatic 94, 3) := by decide +kernel
theorem dX11_areOf_7 : decode cX11_areOf 7 = .ok (.ifCond .eq 17, 3) := by decide +kernel
theorem dX11_areOf_10 : decode cX11_areOf 10 = .ok (.iload_n 1, 1) := by decide +kernel
theorem dX11_areOf_11 : decode cX11_areOf 11 = .ok (.iconst 0, 1) := by decide +kernel
theorem dX11_areOf_12 : decode cX11_areOf 12 = .ok (.bipush 12, 2) := by decide +kernel
theorem dX11_areOf_14 : decode cX11_areOf 14 = .ok (.invokestatic 94, 3) := by decide +kernel
theorem dX11_areOf_17 : decode cX11_areOf 17 = .ok (.ifCond .eq 7, 3) := by decide +kernel
theorem dX11_areOf_20 : decode cX11_areOf 20 = .ok (.iconst 1, 1) := by decide +kernel
theorem dX11_areOf_21 : decode cX11_areOf 21 = .ok (.goto 4, 3) := by decide +kernel
theorem dX11_areOf_24 : decode cX11_areOf 24 = .ok (.iconst 0, 1) := by decide +kernel
theorem dX11_areOf_25 : decode cX11_areOf 25 = .ok (.ireturn, 1) := by decide +kernel
theorem dX11_lossOf_0 : decode cX11_lossOf 0 = .ok (.aload_n 0, 1) := by decide +kernel
theorem dX11_lossOf_1 : decode cX11_lossOf 1 = .ok (.getfield 41, 3) := by decide +kernel
theorem dX11_lossOf_4 : decode cX11_lossOf 4 = .ok (.iload_n 1, 1) := by decide +kernel
theorem dX11_lossOf_5 : decode cX11_lossOf 5 = .ok (.iaload, 1) := by decide +kernel
theorem dX11_lossOf_6 : decode cX11_lossOf 6 = .ok (.iconst 3, 1) := by decide +kernel
theorem dX11_lossOf_7 : decode cX11_lossOf 7 = .ok (.if_icmp .ne 5, 3) := by decide +kernel
theorem dX11_lossOf_10 : decode cX11_lossOf 10 = .ok (.iconst 0, 1) := by decide +kernel
theorem dX11_lossOf_11 : decode cX11_lossOf 11 = .ok (.ireturn, 1) := by decide +kernel
theorem dX11_lossOf_12 : decode cX11_lossOf 12 = .ok (.aload_n 0, 1) := by decide +kernel
theorem dX11_lossOf_13 : decode cX11_lossOf 13 = .ok (.getfield 41, 3) := by decide +kernel
theorem dX11_lossOf_16 : decode cX11_lossOf 16 = .ok (.iload_n 1, 1) := by decide +kernel
theorem dX11_lossOf_17 : decode cX11_lossOf 17 = .ok (.iaload, 1) := by decide +kernel
theorem dX11_lossOf_18 : decode cX11_lossOf 18 = .ok (.iconst 2, 1) := by decide +kernel
theorem dX11_lossOf_19 : decode cX11_lossOf 19 = .ok (.invokestatic 164, 3) := by decide +kernel
theorem dX11_lossOf_22 : decode cX11_lossOf 22 = .ok (.ifCond .eq 16, 3) := by decide +kernel
theorem dX11_lossOf_25 : decode cX11_lossOf 25 = .ok (.iload_n 2, 1) := by decide +kernel
theorem dX11_lossOf_26 : decode cX11_lossOf 26 = .ok (.iload_n 3, 1) := by decide +kernel
theorem dX11_lossOf_27 : decode cX11_lossOf 27 = .ok (.if_icmp .le 7, 3) := by decide +kernel
theorem dX11_lossOf_30 : decode cX11_lossOf 30 = .ok (.iload_n 2, 1) := by decide +kernel
theorem dX11_lossOf_31 : decode cX11_lossOf 31 = .ok (.goto 21, 3) := by decide +kernel
theorem dX11_lossOf_34 : decode cX11_lossOf 34 = .ok (.iload_n 3, 1) := by decide +kernel
theorem dX11_lossOf_35 : decode cX11_lossOf 35 = .ok (.goto 17, 3) := by decide +kernel
theorem dX11_lossOf_38 : decode cX11_lossOf 38 = .ok (.aload_n 0, 1) := by decide +kernel
theorem dX11_lossOf_39 : decode cX11_lossOf 39 = .ok (.getfield 47, 3) := by decide +kernel
theorem dX11_lossOf_42 : decode cX11_lossOf 42 = .ok (.iload_n 1, 1) := by decide +kernel
theorem dX11_lossOf_43 : decode cX11_lossOf 43 = .ok (.iaload, 1) := by decide +kernel
theorem dX11_lossOf_44 : decode cX11_lossOf 44 = .ok (.ifCond .ne 7, 3) := by decide +kernel
theorem dX11_lossOf_47 : decode cX11_lossOf 47 = .ok (.iload_n 2, 1) := by decide +kernel
theorem dX11_lossOf_48 : decode cX11_lossOf 48 = .ok (.goto 4, 3) := by decide +kernel
theorem dX11_lossOf_51 : decode cX11_lossOf 51 = .ok (.iload_n 3, 1) := by decide +kernel
theorem dX11_lossOf_52 : decode cX11_lossOf 52 = .ok (.ireturn, 1) := by decide +kernel
theorem dX11_waysOf_0 : decode cX11_waysOf 0 = .ok (.lconst 1, 1) := by decide +kernel
theorem dX11_waysOf_1 : decode cX11_waysOf 1 = .ok (.lstore 5, 2) := by decide +kernel
theorem dX11_waysOf_3 : decode cX11_waysOf 3 = .ok (.iconst 0, 1) := by decide +kernel
theorem dX11_waysOf_4 : decode cX11_waysOf 4 = .ok (.istore 7, 2) := by decide +kernel
theorem dX11_waysOf_6 : decode cX11_waysOf 6 = .ok (.iload 7, 2) := by decide +kernel
theorem dX11_waysOf_8 : decode cX11_waysOf 8 = .ok (.aload_n 0, 1) := by decide +kernel
theorem dX11_waysOf_9 : decode cX11_waysOf 9 = .ok (.getfield 155, 3) := by decide +kernel
theorem dX11_waysOf_12 : decode cX11_waysOf 12 = .ok (.if_icmp .ge 60, 3) := by decide +kernel
theorem dX11_waysOf_15 : decode cX11_waysOf 15 = .ok (.aload_n 0, 1) := by decide +kernel
theorem dX11_waysOf_16 : decode cX11_waysOf 16 = .ok (.iload 7, 2) := by decide +kernel
theorem dX11_waysOf_18 : decode cX11_waysOf 18 = .ok (.iload_n 3, 1) := by decide +kernel
theorem dX11_waysOf_19 : decode cX11_waysOf 19 = .ok (.iload 4, 2) := by decide +kernel
theorem dX11_waysOf_21 : decode cX11_waysOf 21 = .ok (.invokevirtual 253, 3) := by decide +kernel
theorem dX11_waysOf_24 : decode cX11_waysOf 24 = .ok (.istore 8, 2) := by decide +kernel
theorem dX11_waysOf_26 : decode cX11_waysOf 26 = .ok (.lload 5, 2) := by decide +kernel
theorem dX11_waysOf_28 : decode cX11_waysOf 28 = .ok (.iload_n 2, 1) := by decide +kernel
theorem dX11_waysOf_29 : decode cX11_waysOf 29 = .ok (.iload 7, 2) := by decide +kernel
theorem dX11_waysOf_31 : decode cX11_waysOf 31 = .ok (.ishr, 1) := by decide +kernel
theorem dX11_waysOf_32 : decode cX11_waysOf 32 = .ok (.iconst 1, 1) := by decide +kernel
theorem dX11_waysOf_33 : decode cX11_waysOf 33 = .ok (.iand, 1) := by decide +kernel
theorem dX11_waysOf_34 : decode cX11_waysOf 34 = .ok (.ifCond .ne 7, 3) := by decide +kernel
theorem dX11_waysOf_37 : decode cX11_waysOf 37 = .ok (.lconst 1, 1) := by decide +kernel
theorem dX11_waysOf_38 : decode cX11_waysOf 38 = .ok (.goto 25, 3) := by decide +kernel
theorem dX11_waysOf_41 : decode cX11_waysOf 41 = .ok (.iload_n 1, 1) := by decide +kernel
theorem dX11_waysOf_42 : decode cX11_waysOf 42 = .ok (.iload 7, 2) := by decide +kernel
theorem dX11_waysOf_44 : decode cX11_waysOf 44 = .ok (.ishr, 1) := by decide +kernel
theorem dX11_waysOf_45 : decode cX11_waysOf 45 = .ok (.iconst 1, 1) := by decide +kernel
theorem dX11_waysOf_46 : decode cX11_waysOf 46 = .ok (.iand, 1) := by decide +kernel
theorem dX11_waysOf_47 : decode cX11_waysOf 47 = .ok (.iconst 1, 1) := by decide +kernel
theorem dX11_waysOf_48 : decode cX11_waysOf 48 = .ok (.if_icmp .ne 12, 3) := by decide +kernel
theorem dX11_waysOf_51 : decode cX11_waysOf 51 = .ok (.bipush 12, 2) := by decide +kernel
theorem dX11_waysOf_53 : decode cX11_waysOf 53 = .ok (.iload 8, 2) := by decide +kernel
theorem dX11_waysOf_55 : decode cX11_waysOf 55 = .ok (.isub, 1) := by decide +kernel
theorem dX11_waysOf_56 : decode cX11_waysOf 56 = .ok (.i2l, 1) := by decide +kernel
theorem dX11_waysOf_57 : decode cX11_waysOf 57 = .ok (.goto 6, 3) := by decide +kernel
theorem dX11_waysOf_60 : decode cX11_waysOf 60 = .ok (.iload 8, 2) := by decide +kernel
theorem dX11_waysOf_62 : decode cX11_waysOf 62 = .ok (.i2l, 1) := by decide +kernel
theorem dX11_waysOf_63 : decode cX11_waysOf 63 = .ok (.lmul, 1) := by decide +kernel
theorem dX11_waysOf_64 : decode cX11_waysOf 64 = .ok (.lstore 5, 2) := by decide +kernel
theorem dX11_waysOf_66 : decode cX11_waysOf 66 = .ok (.iinc 7 1, 3) := by decide +kernel
theorem dX11_waysOf_69 : decode cX11_waysOf 69 = .ok (.goto (-63), 3) := by decide +kernel
theorem dX11_waysOf_72 : decode cX11_waysOf 72 = .ok (.lload 5, 2) := by decide +kernel
theorem dX11_waysOf_74 : decode cX11_waysOf 74 = .ok (.lreturn, 1) := by decide +kernel
theorem dX11_allWays_0 : decode cX11_allWays 0 = .ok (.lconst 1, 1) := by decide +kernel
theorem dX11_allWays_1 : decode cX11_allWays 1 = .ok (.lstore_n 2, 1) := by decide +kernel
theorem dX11_allWays_2 : decode cX11_allWays 2 = .ok (.iconst 0, 1) := by decide +kernel
theorem dX11_allWays_3 : decode cX11_allWays 3 = .ok (.istore 4, 2) := by decide +kernel
theorem dX11_allWays_5 : decode cX11_allWays 5 = .ok (.iload 4, 2) := by decide +kernel
theorem dX11_allWays_7 : decode cX11_allWays 7 = .ok (.aload_n 0, 1) := by decide +kernel
theorem dX11_allWays_8 : decode cX11_allWays 8 = .ok (.getfield 155, 3) := by decide +kernel
theorem dX11_allWays_11 : decode cX11_allWays 11 = .ok (.if_icmp .ge 29, 3) := by decide +kernel
theorem dX11_allWays_14 : decode cX11_allWays 14 = .ok (.lload_n 2, 1) := by decide +kernel
theorem dX11_allWays_15 : decode cX11_allWays 15 = .ok (.iload_n 1, 1) := by decide +kernel
theorem dX11_allWays_16 : decode cX11_allWays 16 = .ok (.iload 4, 2) := by decide +kernel
theorem dX11_allWays_18 : decode cX11_allWays 18 = .ok (.ishr, 1) := by decide +kernel
theorem dX11_allWays_19 : decode cX11_allWays 19 = .ok (.iconst 1, 1) := by decide +kernel
theorem dX11_allWays_20 : decode cX11_allWays 20 = .ok (.iand, 1) := by decide +kernel
theorem dX11_allWays_21 : decode cX11_allWays 21 = .ok (.iconst 1, 1) := by decide +kernel
theorem dX11_allWays_22 : decode cX11_allWays 22 = .ok (.if_icmp .ne 9, 3) := by decide +kernel
theorem dX11_allWays_25 : decode cX11_allWays 25 = .ok (.ldc2_w 256, 3) := by decide +kernel
theorem dX11_allWays_28 : decode cX11_allWays 28 = .ok (.goto 4, 3) := by decide +kernel
theorem dX11_allWays_31 : decode cX11_allWays 31 = .ok (.lconst 1, 1) := by decide +kernel
theorem dX11_allWays_32 : decode cX11_allWays 32 = .ok (.lmul, 1) := by decide +kernel
theorem dX11_allWays_33 : decode cX11_allWays 33 = .ok (.lstore_n 2, 1) := by decide +kernel
theorem dX11_allWays_34 : decode cX11_allWays 34 = .ok (.iinc 4 1, 3) := by decide +kernel
theorem dX11_allWays_37 : decode cX11_allWays 37 = .ok (.goto (-32), 3) := by decide +kernel
theorem dX11_allWays_40 : decode cX11_allWays 40 = .ok (.lload_n 2, 1) := by decide +kernel
theorem dX11_allWays_41 : decode cX11_allWays 41 = .ok (.lreturn, 1) := by decide +kernel
theorem dX11_odds_0 : decode cX11_odds 0 = .ok (.iload_n 1, 1) := by decide +kernel
theorem dX11_odds_1 : decode cX11_odds 1 = .ok (.iconst 0, 1) := by decide +kernel
theorem dX11_odds_2 : decode cX11_odds 2 = .ok (.iconst 4, 1) := by decide +kernel
theorem dX11_odds_3 : decode cX11_odds 3 = .ok (.invokestatic 94, 3) := by decide +kernel
theorem dX11_odds_6 : decode cX11_odds 6 = .ok (.ifCond .eq 11, 3) := by decide +kernel
theorem dX11_odds_9 : decode cX11_odds 9 = .ok (.iload_n 2, 1) := by decide +kernel
theorem dX11_odds_10 : decode cX11_odds 10 = .ok (.iload_n 3, 1) := by decide +kernel
theorem dX11_odds_11 : decode cX11_odds 11 = .ok (.invokestatic 258, 3) := by decide +kernel
theorem dX11_odds_14 : decode cX11_odds 14 = .ok (.ifCond .ne 5, 3) := by decide +kernel
theorem dX11_odds_17 : decode cX11_odds 17 = .ok (.iconst (-1), 1) := by decide +kernel
theorem dX11_odds_18 : decode cX11_odds 18 = .ok (.ireturn, 1) := by decide +kernel
theorem dX11_odds_19 : decode cX11_odds 19 = .ok (.aload_n 0, 1) := by decide +kernel
theorem dX11_odds_20 : decode cX11_odds 20 = .ok (.getfield 155, 3) := by decide +kernel
theorem dX11_odds_23 : decode cX11_odds 23 = .ok (.ifCond .ne 6, 3) := by decide +kernel
theorem dX11_odds_26 : decode cX11_odds 26 = .ok (.bipush (-4), 2) := by decide +kernel
theorem dX11_odds_28 : decode cX11_odds 28 = .ok (.ireturn, 1) := by decide +kernel
theorem dX11_odds_29 : decode cX11_odds 29 = .ok (.aload_n 0, 1) := by decide +kernel
theorem dX11_odds_30 : decode cX11_odds 30 = .ok (.invokevirtual 212, 3) := by decide +kernel
theorem dX11_odds_33 : decode cX11_odds 33 = .ok (.aload_n 0, 1) := by decide +kernel
theorem dX11_odds_34 : decode cX11_odds 34 = .ok (.iconst 0, 1) := by decide +kernel
theorem dX11_odds_35 : decode cX11_odds 35 = .ok (.invokevirtual 178, 3) := by decide +kernel
theorem dX11_odds_38 : decode cX11_odds 38 = .ok (.istore 4, 2) := by decide +kernel
theorem dX11_odds_40 : decode cX11_odds 40 = .ok (.lconst 0, 1) := by decide +kernel
theorem dX11_odds_41 : decode cX11_odds 41 = .ok (.lstore 5, 2) := by decide +kernel
theorem dX11_odds_43 : decode cX11_odds 43 = .ok (.iconst 0, 1) := by decide +kernel
theorem dX11_odds_44 : decode cX11_odds 44 = .ok (.istore 7, 2) := by decide +kernel
theorem dX11_odds_46 : decode cX11_odds 46 = .ok (.iload 7, 2) := by decide +kernel
theorem dX11_odds_48 : decode cX11_odds 48 = .ok (.aload_n 0, 1) := by decide +kernel
theorem dX11_odds_49 : decode cX11_odds 49 = .ok (.invokevirtual 206, 3) := by decide +kernel
theorem dX11_odds_52 : decode cX11_odds 52 = .ok (.if_icmp .gt 49, 3) := by decide +kernel
theorem dX11_odds_55 : decode cX11_odds 55 = .ok (.lload 5, 2) := by decide +kernel
theorem dX11_odds_57 : decode cX11_odds 57 = .ok (.iload 7, 2) := by decide +kernel
theorem dX11_odds_59 : decode cX11_odds 59 = .ok (.iload 4, 2) := by decide +kernel
theorem dX11_odds_61 : decode cX11_odds 61 = .ok (.iconst (-1), 1) := by decide +kernel
theorem dX11_odds_62 : decode cX11_odds 62 = .ok (.ixor, 1) := by decide +kernel
theorem dX11_odds_63 : decode cX11_odds 63 = .ok (.iand, 1) := by decide +kernel
theorem dX11_odds_64 : decode cX11_odds 64 = .ok (.ifCond .ne 27, 3) := by decide +kernel
theorem dX11_odds_67 : decode cX11_odds 67 = .ok (.aload_n 0, 1) := by decide +kernel
theorem dX11_odds_68 : decode cX11_odds 68 = .ok (.getfield 71, 3) := by decide +kernel
theorem dX11_odds_71 : decode cX11_odds 71 = .ok (.iload 7, 2) := by decide +kernel
theorem dX11_odds_73 : decode cX11_odds 73 = .ok (.iaload, 1) := by decide +kernel
theorem dX11_odds_74 : decode cX11_odds 74 = .ok (.iload_n 1, 1) := by decide +kernel
theorem dX11_odds_75 : decode cX11_odds 75 = .ok (.if_icmp .lt 16, 3) := by decide +kernel
theorem dX11_odds_78 : decode cX11_odds 78 = .ok (.aload_n 0, 1) := by decide +kernel
theorem dX11_odds_79 : decode cX11_odds 79 = .ok (.iload 7, 2) := by decide +kernel
theorem dX11_odds_81 : decode cX11_odds 81 = .ok (.iload 4, 2) := by decide +kernel
theorem dX11_odds_83 : decode cX11_odds 83 = .ok (.iload_n 2, 1) := by decide +kernel
theorem dX11_odds_84 : decode cX11_odds 84 = .ok (.iload_n 3, 1) := by decide +kernel
theorem dX11_odds_85 : decode cX11_odds 85 = .ok (.invokevirtual 261, 3) := by decide +kernel
theorem dX11_odds_88 : decode cX11_odds 88 = .ok (.goto 4, 3) := by decide +kernel
theorem dX11_odds_91 : decode cX11_odds 91 = .ok (.lconst 0, 1) := by decide +kernel
theorem dX11_odds_92 : decode cX11_odds 92 = .ok (.ladd, 1) := by decide +kernel
theorem dX11_odds_93 : decode cX11_odds 93 = .ok (.lstore 5, 2) := by decide +kernel
theorem dX11_odds_95 : decode cX11_odds 95 = .ok (.iinc 7 1, 3) := by decide +kernel
theorem dX11_odds_98 : decode cX11_odds 98 = .ok (.goto (-52), 3) := by decide +kernel
theorem dX11_odds_101 : decode cX11_odds 101 = .ok (.aload_n 0, 1) := by decide +kernel
theorem dX11_odds_102 : decode cX11_odds 102 = .ok (.lload 5, 2) := by decide +kernel
theorem dX11_odds_104 : decode cX11_odds 104 = .ok (.aload_n 0, 1) := by decide +kernel
theorem dX11_odds_105 : decode cX11_odds 105 = .ok (.iload 4, 2) := by decide +kernel
theorem dX11_odds_107 : decode cX11_odds 107 = .ok (.invokevirtual 265, 3) := by decide +kernel
theorem dX11_odds_110 : decode cX11_odds 110 = .ok (.invokevirtual 269, 3) := by decide +kernel
theorem dX11_odds_113 : decode cX11_odds 113 = .ok (.iconst 1, 1) := by decide +kernel
theorem dX11_odds_114 : decode cX11_odds 114 = .ok (.ireturn, 1) := by decide +kernel
theorem dX11_mid_0 : decode cX11_mid 0 = .ok (.iload_n 1, 1) := by decide +kernel
theorem dX11_mid_1 : decode cX11_mid 1 = .ok (.iload_n 2, 1) := by decide +kernel
theorem dX11_mid_2 : decode cX11_mid 2 = .ok (.invokestatic 258, 3) := by decide +kernel
theorem dX11_mid_5 : decode cX11_mid 5 = .ok (.ifCond .ne 5, 3) := by decide +kernel
theorem dX11_mid_8 : decode cX11_mid 8 = .ok (.iconst (-1), 1) := by decide +kernel
theorem dX11_mid_9 : decode cX11_mid 9 = .ok (.ireturn, 1) := by decide +kernel
theorem dX11_mid_10 : decode cX11_mid 10 = .ok (.aload_n 0, 1) := by decide +kernel
theorem dX11_mid_11 : decode cX11_mid 11 = .ok (.getfield 155, 3) := by decide +kernel
theorem dX11_mid_14 : decode cX11_mid 14 = .ok (.ifCond .ne 6, 3) := by decide +kernel
theorem dX11_mid_17 : decode cX11_mid 17 = .ok (.bipush (-4), 2) := by decide +kernel
theorem dX11_mid_19 : decode cX11_mid 19 = .ok (.ireturn, 1) := by decide +kernel
theorem dX11_mid_20 : decode cX11_mid 20 = .ok (.aload_n 0, 1) := by decide +kernel
theorem dX11_mid_21 : decode cX11_mid 21 = .ok (.invokevirtual 212, 3) := by decide +kernel
theorem dX11_mid_24 : decode cX11_mid 24 = .ok (.aload_n 0, 1) := by decide +kernel
theorem dX11_mid_25 : decode cX11_mid 25 = .ok (.iconst 0, 1) := by decide +kernel
theorem dX11_mid_26 : decode cX11_mid 26 = .ok (.invokevirtual 178, 3) := by decide +kernel
theorem dX11_mid_29 : decode cX11_mid 29 = .ok (.istore_n 3, 1) := by decide +kernel
theorem dX11_mid_30 : decode cX11_mid 30 = .ok (.lconst 0, 1) := by decide +kernel
theorem dX11_mid_31 : decode cX11_mid 31 = .ok (.lstore 4, 2) := by decide +kernel
theorem dX11_mid_33 : decode cX11_mid 33 = .ok (.iconst 0, 1) := by decide +kernel
theorem dX11_mid_34 : decode cX11_mid 34 = .ok (.istore 6, 2) := by decide +kernel
theorem dX11_mid_36 : decode cX11_mid 36 = .ok (.iload 6, 2) := by decide +kernel
theorem dX11_mid_38 : decode cX11_mid 38 = .ok (.aload_n 0, 1) := by decide +kernel
theorem dX11_mid_39 : decode cX11_mid 39 = .ok (.invokevirtual 206, 3) := by decide +kernel
theorem dX11_mid_42 : decode cX11_mid 42 = .ok (.if_icmp .gt 45, 3) := by decide +kernel
theorem dX11_mid_45 : decode cX11_mid 45 = .ok (.lload 4, 2) := by decide +kernel
theorem dX11_mid_47 : decode cX11_mid 47 = .ok (.iload 6, 2) := by decide +kernel
theorem dX11_mid_49 : decode cX11_mid 49 = .ok (.iload_n 3, 1) := by decide +kernel
theorem dX11_mid_50 : decode cX11_mid 50 = .ok (.iconst (-1), 1) := by decide +kernel
theorem dX11_mid_51 : decode cX11_mid 51 = .ok (.ixor, 1) := by decide +kernel
theorem dX11_mid_52 : decode cX11_mid 52 = .ok (.iand, 1) := by decide +kernel
theorem dX11_mid_53 : decode cX11_mid 53 = .ok (.ifCond .ne 24, 3) := by decide +kernel
theorem dX11_mid_56 : decode cX11_mid 56 = .ok (.aload_n 0, 1) := by decide +kernel
theorem dX11_mid_57 : decode cX11_mid 57 = .ok (.getfield 68, 3) := by decide +kernel
theorem dX11_mid_60 : decode cX11_mid 60 = .ok (.iload 6, 2) := by decide +kernel
theorem dX11_mid_62 : decode cX11_mid 62 = .ok (.iaload, 1) := by decide +kernel
theorem dX11_mid_63 : decode cX11_mid 63 = .ok (.i2l, 1) := by decide +kernel
theorem dX11_mid_64 : decode cX11_mid 64 = .ok (.aload_n 0, 1) := by decide +kernel
theorem dX11_mid_65 : decode cX11_mid 65 = .ok (.iload 6, 2) := by decide +kernel
theorem dX11_mid_67 : decode cX11_mid 67 = .ok (.iload_n 3, 1) := by decide +kernel
theorem dX11_mid_68 : decode cX11_mid 68 = .ok (.iload_n 1, 1) := by decide +kernel
theorem dX11_mid_69 : decode cX11_mid 69 = .ok (.iload_n 2, 1) := by decide +kernel
theorem dX11_mid_70 : decode cX11_mid 70 = .ok (.invokevirtual 261, 3) := by decide +kernel
theorem dX11_mid_73 : decode cX11_mid 73 = .ok (.lmul, 1) := by decide +kernel
theorem dX11_mid_74 : decode cX11_mid 74 = .ok (.goto 4, 3) := by decide +kernel
theorem dX11_mid_77 : decode cX11_mid 77 = .ok (.lconst 0, 1) := by decide +kernel
theorem dX11_mid_78 : decode cX11_mid 78 = .ok (.ladd, 1) := by decide +kernel
theorem dX11_mid_79 : decode cX11_mid 79 = .ok (.lstore 4, 2) := by decide +kernel
theorem dX11_mid_81 : decode cX11_mid 81 = .ok (.iinc 6 1, 3) := by decide +kernel
theorem dX11_mid_84 : decode cX11_mid 84 = .ok (.goto (-48), 3) := by decide +kernel
theorem dX11_mid_87 : decode cX11_mid 87 = .ok (.aload_n 0, 1) := by decide +kernel
theorem dX11_mid_88 : decode cX11_mid 88 = .ok (.lload 4, 2) := by decide +kernel
theorem dX11_mid_90 : decode cX11_mid 90 = .ok (.aload_n 0, 1) := by decide +kernel
theorem dX11_mid_91 : decode cX11_mid 91 = .ok (.iload_n 3, 1) := by decide +kernel
theorem dX11_mid_92 : decode cX11_mid 92 = .ok (.invokevirtual 265, 3) := by decide +kernel
theorem dX11_mid_95 : decode cX11_mid 95 = .ok (.invokevirtual 269, 3) := by decide +kernel
theorem dX11_mid_98 : decode cX11_mid 98 = .ok (.iconst 1, 1) := by decide +kernel
theorem dX11_mid_99 : decode cX11_mid 99 = .ok (.ireturn, 1) := by decide +kernel
theorem dX11_lots_0 : decode cX11_lots 0 = .ok (.iload_n 1, 1) := by decide +kernel
theorem dX11_lots_1 : decode cX11_lots 1 = .ok (.iconst 1, 1) := by decide +kernel
theorem dX11_lots_2 : decode cX11_lots 2 = .ok (.bipush 20, 2) := by decide +kernel
theorem dX11_lots_4 : decode cX11_lots 4 = .ok (.invokestatic 94, 3) := by decide +kernel
theorem dX11_lots_7 : decode cX11_lots 7 = .ok (.ifCond .eq 14, 3) := by decide +kernel
theorem dX11_lots_10 : decode cX11_lots 10 = .ok (.iload_n 2, 1) := by decide +kernel
theorem dX11_lots_11 : decode cX11_lots 11 = .ok (.iconst 1, 1) := by decide +kernel
theorem dX11_lots_12 : decode cX11_lots 12 = .ok (.ldc_w 273, 3) := by decide +kernel
theorem dX11_lots_15 : decode cX11_lots 15 = .ok (.invokestatic 94, 3) := by decide +kernel
theorem dX11_lots_18 : decode cX11_lots 18 = .ok (.ifCond .ne 5, 3) := by decide +kernel
theorem dX11_lots_21 : decode cX11_lots 21 = .ok (.iconst (-1), 1) := by decide +kernel
theorem dX11_lots_22 : decode cX11_lots 22 = .ok (.ireturn, 1) := by decide +kernel
theorem dX11_lots_23 : decode cX11_lots 23 = .ok (.aload_n 0, 1) := by decide +kernel
theorem dX11_lots_24 : decode cX11_lots 24 = .ok (.getfield 155, 3) := by decide +kernel
theorem dX11_lots_27 : decode cX11_lots 27 = .ok (.ifCond .ne 6, 3) := by decide +kernel
theorem dX11_lots_30 : decode cX11_lots 30 = .ok (.bipush (-4), 2) := by decide +kernel
theorem dX11_lots_32 : decode cX11_lots 32 = .ok (.ireturn, 1) := by decide +kernel
theorem dX11_lots_33 : decode cX11_lots 33 = .ok (.aload_n 0, 1) := by decide +kernel
theorem dX11_lots_34 : decode cX11_lots 34 = .ok (.getfield 158, 3) := by decide +kernel
theorem dX11_lots_37 : decode cX11_lots 37 = .ok (.iload_n 1, 1) := by decide +kernel
theorem dX11_lots_38 : decode cX11_lots 38 = .ok (.iadd, 1) := by decide +kernel
theorem dX11_lots_39 : decode cX11_lots 39 = .ok (.bipush 40, 2) := by decide +kernel
theorem dX11_lots_41 : decode cX11_lots 41 = .ok (.if_icmp .le 6, 3) := by decide +kernel
theorem dX11_lots_44 : decode cX11_lots 44 = .ok (.bipush (-2), 2) := by decide +kernel
theorem dX11_lots_46 : decode cX11_lots 46 = .ok (.ireturn, 1) := by decide +kernel
theorem dX11_lots_47 : decode cX11_lots 47 = .ok (.iload_n 2, 1) := by decide +kernel
theorem dX11_lots_48 : decode cX11_lots 48 = .ok (.i2l, 1) := by decide +kernel
theorem dX11_lots_49 : decode cX11_lots 49 = .ok (.lstore_n 3, 1) := by decide +kernel
theorem dX11_lots_50 : decode cX11_lots 50 = .ok (.iconst 0, 1) := by decide +kernel
theorem dX11_lots_51 : decode cX11_lots 51 = .ok (.istore 5, 2) := by decide +kernel
theorem dX11_lots_53 : decode cX11_lots 53 = .ok (.iload 5, 2) := by decide +kernel
theorem dX11_lots_55 : decode cX11_lots 55 = .ok (.iload_n 1, 1) := by decide +kernel
theorem dX11_lots_56 : decode cX11_lots 56 = .ok (.if_icmp .ge 142, 3) := by decide +kernel
theorem dX11_lots_59 : decode cX11_lots 59 = .ok (.ldc2_w 274, 3) := by decide +kernel
theorem dX11_lots_62 : decode cX11_lots 62 = .ok (.lload_n 3, 1) := by decide +kernel
theorem dX11_lots_63 : decode cX11_lots 63 = .ok (.lmul, 1) := by decide +kernel
theorem dX11_lots_64 : decode cX11_lots 64 = .ok (.ldc2_w 276, 3) := by decide +kernel
theorem dX11_lots_67 : decode cX11_lots 67 = .ok (.lrem, 1) := by decide +kernel
theorem dX11_lots_68 : decode cX11_lots 68 = .ok (.lstore_n 3, 1) := by decide +kernel
theorem dX11_lots_69 : decode cX11_lots 69 = .ok (.lload_n 3, 1) := by decide +kernel
theorem dX11_lots_70 : decode cX11_lots 70 = .ok (.ldc2_w 278, 3) := by decide +kernel
theorem dX11_lots_73 : decode cX11_lots 73 = .ok (.ldiv, 1) := by decide +kernel
theorem dX11_lots_74 : decode cX11_lots 74 = .ok (.aload_n 0, 1) := by decide +kernel
theorem dX11_lots_75 : decode cX11_lots 75 = .ok (.getfield 155, 3) := by decide +kernel
theorem dX11_lots_78 : decode cX11_lots 78 = .ok (.i2l, 1) := by decide +kernel
theorem dX11_lots_79 : decode cX11_lots 79 = .ok (.lrem, 1) := by decide +kernel
theorem dX11_lots_80 : decode cX11_lots 80 = .ok (.l2i, 1) := by decide +kernel
theorem dX11_lots_81 : decode cX11_lots 81 = .ok (.istore 6, 2) := by decide +kernel
theorem dX11_lots_83 : decode cX11_lots 83 = .ok (.aload_n 0, 1) := by decide +kernel
theorem dX11_lots_84 : decode cX11_lots 84 = .ok (.invokevirtual 218, 3) := by decide +kernel
theorem dX11_lots_87 : decode cX11_lots 87 = .ok (.aload_n 0, 1) := by decide +kernel
theorem dX11_lots_88 : decode cX11_lots 88 = .ok (.getfield 53, 3) := by decide +kernel
theorem dX11_lots_91 : decode cX11_lots 91 = .ok (.iload 6, 2) := by decide +kernel
theorem dX11_lots_93 : decode cX11_lots 93 = .ok (.iaload, 1) := by decide +kernel
theorem dX11_lots_94 : decode cX11_lots 94 = .ok (.ifCond .ne 25, 3) := by decide +kernel
theorem dX11_lots_97 : decode cX11_lots 97 = .ok (.aload_n 0, 1) := by decide +kernel
theorem dX11_lots_98 : decode cX11_lots 98 = .ok (.getfield 41, 3) := by decide +kernel
theorem dX11_lots_101 : decode cX11_lots 101 = .ok (.iload 6, 2) := by decide +kernel
theorem dX11_lots_103 : decode cX11_lots 103 = .ok (.iaload, 1) := by decide +kernel
theorem dX11_lots_104 : decode cX11_lots 104 = .ok (.iconst 3, 1) := by decide +kernel
theorem dX11_lots_105 : decode cX11_lots 105 = .ok (.if_icmp .eq 14, 3) := by decide +kernel
theorem dX11_lots_108 : decode cX11_lots 108 = .ok (.aload_n 0, 1) := by decide +kernel
theorem dX11_lots_109 : decode cX11_lots 109 = .ok (.iconst 1, 1) := by decide +kernel
theorem dX11_lots_110 : decode cX11_lots 110 = .ok (.iload 6, 2) := by decide +kernel
theorem dX11_lots_112 : decode cX11_lots 112 = .ok (.iconst 0, 1) := by decide +kernel
theorem dX11_lots_113 : decode cX11_lots 113 = .ok (.invokevirtual 200, 3) := by decide +kernel
theorem dX11_lots_116 : decode cX11_lots 116 = .ok (.goto 76, 3) := by decide +kernel
theorem dX11_lots_119 : decode cX11_lots 119 = .ok (.aload_n 0, 1) := by decide +kernel
theorem dX11_lots_120 : decode cX11_lots 120 = .ok (.getfield 53, 3) := by decide +kernel
theorem dX11_lots_123 : decode cX11_lots 123 = .ok (.iload 6, 2) := by decide +kernel
theorem dX11_lots_125 : decode cX11_lots 125 = .ok (.iaload, 1) := by decide +kernel
theorem dX11_lots_126 : decode cX11_lots 126 = .ok (.iconst 1, 1) := by decide +kernel
theorem dX11_lots_127 : decode cX11_lots 127 = .ok (.if_icmp .ne 25, 3) := by decide +kernel
theorem dX11_lots_130 : decode cX11_lots 130 = .ok (.aload_n 0, 1) := by decide +kernel
theorem dX11_lots_131 : decode cX11_lots 131 = .ok (.invokevirtual 203, 3) := by decide +kernel
theorem dX11_lots_134 : decode cX11_lots 134 = .ok (.aload_n 0, 1) := by decide +kernel
theorem dX11_lots_135 : decode cX11_lots 135 = .ok (.getfield 152, 3) := by decide +kernel
theorem dX11_lots_138 : decode cX11_lots 138 = .ok (.if_icmp .ge 14, 3) := by decide +kernel
theorem dX11_lots_141 : decode cX11_lots 141 = .ok (.aload_n 0, 1) := by decide +kernel
theorem dX11_lots_142 : decode cX11_lots 142 = .ok (.iconst 2, 1) := by decide +kernel
theorem dX11_lots_143 : decode cX11_lots 143 = .ok (.iload 6, 2) := by decide +kernel
theorem dX11_lots_145 : decode cX11_lots 145 = .ok (.iconst 0, 1) := by decide +kernel
theorem dX11_lots_146 : decode cX11_lots 146 = .ok (.invokevirtual 200, 3) := by decide +kernel
theorem dX11_lots_149 : decode cX11_lots 149 = .ok (.goto 43, 3) := by decide +kernel
theorem dX11_lots_152 : decode cX11_lots 152 = .ok (.aload_n 0, 1) := by decide +kernel
theorem dX11_lots_153 : decode cX11_lots 153 = .ok (.getfield 215, 3) := by decide +kernel
theorem dX11_lots_156 : decode cX11_lots 156 = .ok (.ifCond .le 29, 3) := by decide +kernel
theorem dX11_lots_159 : decode cX11_lots 159 = .ok (.aload_n 0, 1) := by decide +kernel
theorem dX11_lots_160 : decode cX11_lots 160 = .ok (.iconst 0, 1) := by decide +kernel
theorem dX11_lots_161 : decode cX11_lots 161 = .ok (.aload_n 0, 1) := by decide +kernel
theorem dX11_lots_162 : decode cX11_lots 162 = .ok (.getfield 74, 3) := by decide +kernel
theorem dX11_lots_165 : decode cX11_lots 165 = .ok (.iconst 0, 1) := by decide +kernel
theorem dX11_lots_166 : decode cX11_lots 166 = .ok (.iaload, 1) := by decide +kernel
theorem dX11_lots_167 : decode cX11_lots 167 = .ok (.bipush 10, 2) := by decide +kernel
theorem dX11_lots_169 : decode cX11_lots 169 = .ok (.idiv, 1) := by decide +kernel
theorem dX11_lots_170 : decode cX11_lots 170 = .ok (.aload_n 0, 1) := by decide +kernel
theorem dX11_lots_171 : decode cX11_lots 171 = .ok (.getfield 74, 3) := by decide +kernel
theorem dX11_lots_174 : decode cX11_lots 174 = .ok (.iconst 0, 1) := by decide +kernel
theorem dX11_lots_175 : decode cX11_lots 175 = .ok (.iaload, 1) := by decide +kernel
theorem dX11_lots_176 : decode cX11_lots 176 = .ok (.bipush 10, 2) := by decide +kernel
theorem dX11_lots_178 : decode cX11_lots 178 = .ok (.irem, 1) := by decide +kernel
theorem dX11_lots_179 : decode cX11_lots 179 = .ok (.invokevirtual 200, 3) := by decide +kernel
theorem dX11_lots_182 : decode cX11_lots 182 = .ok (.goto 10, 3) := by decide +kernel
theorem dX11_lots_185 : decode cX11_lots 185 = .ok (.aload_n 0, 1) := by decide +kernel
theorem dX11_lots_186 : decode cX11_lots 186 = .ok (.iconst 4, 1) := by decide +kernel
theorem dX11_lots_187 : decode cX11_lots 187 = .ok (.iconst 0, 1) := by decide +kernel
theorem dX11_lots_188 : decode cX11_lots 188 = .ok (.iconst 0, 1) := by decide +kernel
theorem dX11_lots_189 : decode cX11_lots 189 = .ok (.invokevirtual 200, 3) := by decide +kernel
theorem dX11_lots_192 : decode cX11_lots 192 = .ok (.iinc 5 1, 3) := by decide +kernel
theorem dX11_lots_195 : decode cX11_lots 195 = .ok (.goto (-142), 3) := by decide +kernel
theorem dX11_lots_198 : decode cX11_lots 198 = .ok (.aload_n 0, 1) := by decide +kernel
theorem dX11_lots_199 : decode cX11_lots 199 = .ok (.invokevirtual 203, 3) := by decide +kernel
theorem dX11_lots_202 : decode cX11_lots 202 = .ok (.ireturn, 1) := by decide +kernel
theorem dX11_asked_0 : decode cX11_asked 0 = .ok (.aload_n 0, 1) := by decide +kernel
theorem dX11_asked_1 : decode cX11_asked 1 = .ok (.getfield 88, 3) := by decide +kernel
theorem dX11_asked_4 : decode cX11_asked 4 = .ok (.ireturn, 1) := by decide +kernel
theorem dX11_upper_0 : decode cX11_upper 0 = .ok (.aload_n 0, 1) := by decide +kernel
theorem dX11_upper_1 : decode cX11_upper 1 = .ok (.getfield 91, 3) := by decide +kernel
theorem dX11_upper_4 : decode cX11_upper 4 = .ok (.lreturn, 1) := by decide +kernel
theorem dX11_lower_0 : decode cX11_lower 0 = .ok (.aload_n 0, 1) := by decide +kernel
theorem dX11_lower_1 : decode cX11_lower 1 = .ok (.getfield 80, 3) := by decide +kernel
theorem dX11_lower_4 : decode cX11_lower 4 = .ok (.lreturn, 1) := by decide +kernel
theorem dX11_count_0 : decode cX11_count 0 = .ok (.iconst 0, 1) := by decide +kernel
theorem dX11_count_1 : decode cX11_count 1 = .ok (.istore_n 2, 1) := by decide +kernel
theorem dX11_count_2 : decode cX11_count 2 = .ok (.iload_n 1, 1) := by decide +kernel
theorem dX11_count_3 : decode cX11_count 3 = .ok (.tableswitch 243 0 10 #[57, 62, 67, 72, 72, 72, 80, 107, 146, 179, 211], 57) := by decide +kernel
theorem dX11_count_60 : decode cX11_count 60 = .ok (.aload_n 0, 1) := by decide +kernel
theorem dX11_count_61 : decode cX11_count 61 = .ok (.getfield 155, 3) := by decide +kernel
theorem dX11_count_64 : decode cX11_count 64 = .ok (.ireturn, 1) := by decide +kernel
theorem dX11_count_65 : decode cX11_count 65 = .ok (.aload_n 0, 1) := by decide +kernel
theorem dX11_count_66 : decode cX11_count 66 = .ok (.getfield 152, 3) := by decide +kernel
theorem dX11_count_69 : decode cX11_count 69 = .ok (.ireturn, 1) := by decide +kernel
theorem dX11_count_70 : decode cX11_count 70 = .ok (.aload_n 0, 1) := by decide +kernel
theorem dX11_count_71 : decode cX11_count 71 = .ok (.getfield 158, 3) := by decide +kernel
theorem dX11_count_74 : decode cX11_count 74 = .ok (.ireturn, 1) := by decide +kernel
theorem dX11_count_75 : decode cX11_count 75 = .ok (.aload_n 0, 1) := by decide +kernel
theorem dX11_count_76 : decode cX11_count 76 = .ok (.iload_n 1, 1) := by decide +kernel
theorem dX11_count_77 : decode cX11_count 77 = .ok (.iconst 3, 1) := by decide +kernel
theorem dX11_count_78 : decode cX11_count 78 = .ok (.isub, 1) := by decide +kernel
theorem dX11_count_79 : decode cX11_count 79 = .ok (.invokevirtual 178, 3) := by decide +kernel
theorem dX11_count_82 : decode cX11_count 82 = .ok (.ireturn, 1) := by decide +kernel
theorem dX11_count_83 : decode cX11_count 83 = .ok (.iconst 0, 1) := by decide +kernel
theorem dX11_count_84 : decode cX11_count 84 = .ok (.istore_n 3, 1) := by decide +kernel
theorem dX11_count_85 : decode cX11_count 85 = .ok (.iload_n 3, 1) := by decide +kernel
theorem dX11_count_86 : decode cX11_count 86 = .ok (.aload_n 0, 1) := by decide +kernel
theorem dX11_count_87 : decode cX11_count 87 = .ok (.getfield 155, 3) := by decide +kernel
theorem dX11_count_90 : decode cX11_count 90 = .ok (.if_icmp .ge 18, 3) := by decide +kernel
theorem dX11_count_93 : decode cX11_count 93 = .ok (.iload_n 2, 1) := by decide +kernel
theorem dX11_count_94 : decode cX11_count 94 = .ok (.aload_n 0, 1) := by decide +kernel
theorem dX11_count_95 : decode cX11_count 95 = .ok (.getfield 56, 3) := by decide +kernel
theorem dX11_count_98 : decode cX11_count 98 = .ok (.iload_n 3, 1) := by decide +kernel
theorem dX11_count_99 : decode cX11_count 99 = .ok (.iaload, 1) := by decide +kernel
theorem dX11_count_100 : decode cX11_count 100 = .ok (.iadd, 1) := by decide +kernel
theorem dX11_count_101 : decode cX11_count 101 = .ok (.istore_n 2, 1) := by decide +kernel
theorem dX11_count_102 : decode cX11_count 102 = .ok (.iinc 3 1, 3) := by decide +kernel
theorem dX11_count_105 : decode cX11_count 105 = .ok (.goto (-20), 3) := by decide +kernel
theorem dX11_count_108 : decode cX11_count 108 = .ok (.iload_n 2, 1) := by decide +kernel
theorem dX11_count_109 : decode cX11_count 109 = .ok (.ireturn, 1) := by decide +kernel
theorem dX11_count_110 : decode cX11_count 110 = .ok (.iconst 0, 1) := by decide +kernel
theorem dX11_count_111 : decode cX11_count 111 = .ok (.istore_n 3, 1) := by decide +kernel
theorem dX11_count_112 : decode cX11_count 112 = .ok (.iload_n 3, 1) := by decide +kernel
theorem dX11_count_113 : decode cX11_count 113 = .ok (.aload_n 0, 1) := by decide +kernel
theorem dX11_count_114 : decode cX11_count 114 = .ok (.getfield 155, 3) := by decide +kernel
theorem dX11_count_117 : decode cX11_count 117 = .ok (.if_icmp .ge 30, 3) := by decide +kernel
theorem dX11_count_120 : decode cX11_count 120 = .ok (.iload_n 2, 1) := by decide +kernel
theorem dX11_count_121 : decode cX11_count 121 = .ok (.aload_n 0, 1) := by decide +kernel
theorem dX11_count_122 : decode cX11_count 122 = .ok (.getfield 41, 3) := by decide +kernel
theorem dX11_count_125 : decode cX11_count 125 = .ok (.iload_n 3, 1) := by decide +kernel
theorem dX11_count_126 : decode cX11_count 126 = .ok (.iaload, 1) := by decide +kernel
theorem dX11_count_127 : decode cX11_count 127 = .ok (.iconst 1, 1) := by decide +kernel
theorem dX11_count_128 : decode cX11_count 128 = .ok (.invokestatic 164, 3) := by decide +kernel
theorem dX11_count_131 : decode cX11_count 131 = .ok (.ifCond .eq 7, 3) := by decide +kernel
theorem dX11_count_134 : decode cX11_count 134 = .ok (.iconst 1, 1) := by decide +kernel
theorem dX11_count_135 : decode cX11_count 135 = .ok (.goto 4, 3) := by decide +kernel
theorem dX11_count_138 : decode cX11_count 138 = .ok (.iconst 0, 1) := by decide +kernel
theorem dX11_count_139 : decode cX11_count 139 = .ok (.iadd, 1) := by decide +kernel
theorem dX11_count_140 : decode cX11_count 140 = .ok (.istore_n 2, 1) := by decide +kernel
theorem dX11_count_141 : decode cX11_count 141 = .ok (.iinc 3 1, 3) := by decide +kernel
theorem dX11_count_144 : decode cX11_count 144 = .ok (.goto (-32), 3) := by decide +kernel
theorem dX11_count_147 : decode cX11_count 147 = .ok (.iload_n 2, 1) := by decide +kernel
theorem dX11_count_148 : decode cX11_count 148 = .ok (.ireturn, 1) := by decide +kernel
theorem dX11_count_149 : decode cX11_count 149 = .ok (.iconst 0, 1) := by decide +kernel
theorem dX11_count_150 : decode cX11_count 150 = .ok (.istore_n 3, 1) := by decide +kernel
theorem dX11_count_151 : decode cX11_count 151 = .ok (.iload_n 3, 1) := by decide +kernel
theorem dX11_count_152 : decode cX11_count 152 = .ok (.bipush 6, 2) := by decide +kernel
theorem dX11_count_154 : decode cX11_count 154 = .ok (.if_icmp .ge 26, 3) := by decide +kernel
theorem dX11_count_157 : decode cX11_count 157 = .ok (.iload_n 2, 1) := by decide +kernel
theorem dX11_count_158 : decode cX11_count 158 = .ok (.aload_n 0, 1) := by decide +kernel
theorem dX11_count_159 : decode cX11_count 159 = .ok (.getfield 16, 3) := by decide +kernel
theorem dX11_count_162 : decode cX11_count 162 = .ok (.iload_n 3, 1) := by decide +kernel
theorem dX11_count_163 : decode cX11_count 163 = .ok (.iaload, 1) := by decide +kernel
theorem dX11_count_164 : decode cX11_count 164 = .ok (.ifCond .ge 7, 3) := by decide +kernel
theorem dX11_count_167 : decode cX11_count 167 = .ok (.iconst 0, 1) := by decide +kernel
theorem dX11_count_168 : decode cX11_count 168 = .ok (.goto 4, 3) := by decide +kernel
theorem dX11_count_171 : decode cX11_count 171 = .ok (.iconst 1, 1) := by decide +kernel
theorem dX11_count_172 : decode cX11_count 172 = .ok (.iadd, 1) := by decide +kernel
theorem dX11_count_173 : decode cX11_count 173 = .ok (.istore_n 2, 1) := by decide +kernel
theorem dX11_count_174 : decode cX11_count 174 = .ok (.iinc 3 1, 3) := by decide +kernel
theorem dX11_count_177 : decode cX11_count 177 = .ok (.goto (-26), 3) := by decide +kernel
theorem dX11_count_180 : decode cX11_count 180 = .ok (.iload_n 2, 1) := by decide +kernel
theorem dX11_count_181 : decode cX11_count 181 = .ok (.ireturn, 1) := by decide +kernel
theorem dX11_count_182 : decode cX11_count 182 = .ok (.iconst 0, 1) := by decide +kernel
theorem dX11_count_183 : decode cX11_count 183 = .ok (.istore_n 3, 1) := by decide +kernel
theorem dX11_count_184 : decode cX11_count 184 = .ok (.iload_n 3, 1) := by decide +kernel
theorem dX11_count_185 : decode cX11_count 185 = .ok (.iconst 4, 1) := by decide +kernel
theorem dX11_count_186 : decode cX11_count 186 = .ok (.if_icmp .ge 26, 3) := by decide +kernel
theorem dX11_count_189 : decode cX11_count 189 = .ok (.iload_n 2, 1) := by decide +kernel
theorem dX11_count_190 : decode cX11_count 190 = .ok (.aload_n 0, 1) := by decide +kernel
theorem dX11_count_191 : decode cX11_count 191 = .ok (.getfield 23, 3) := by decide +kernel
theorem dX11_count_194 : decode cX11_count 194 = .ok (.iload_n 3, 1) := by decide +kernel
theorem dX11_count_195 : decode cX11_count 195 = .ok (.iaload, 1) := by decide +kernel
theorem dX11_count_196 : decode cX11_count 196 = .ok (.ifCond .ge 7, 3) := by decide +kernel
theorem dX11_count_199 : decode cX11_count 199 = .ok (.iconst 0, 1) := by decide +kernel
theorem dX11_count_200 : decode cX11_count 200 = .ok (.goto 4, 3) := by decide +kernel
theorem dX11_count_203 : decode cX11_count 203 = .ok (.iconst 1, 1) := by decide +kernel
theorem dX11_count_204 : decode cX11_count 204 = .ok (.iadd, 1) := by decide +kernel
theorem dX11_count_205 : decode cX11_count 205 = .ok (.istore_n 2, 1) := by decide +kernel
theorem dX11_count_206 : decode cX11_count 206 = .ok (.iinc 3 1, 3) := by decide +kernel
theorem dX11_count_209 : decode cX11_count 209 = .ok (.goto (-25), 3) := by decide +kernel
theorem dX11_count_212 : decode cX11_count 212 = .ok (.iload_n 2, 1) := by decide +kernel
theorem dX11_count_213 : decode cX11_count 213 = .ok (.ireturn, 1) := by decide +kernel
theorem dX11_count_214 : decode cX11_count 214 = .ok (.iconst 0, 1) := by decide +kernel
theorem dX11_count_215 : decode cX11_count 215 = .ok (.istore_n 3, 1) := by decide +kernel
theorem dX11_count_216 : decode cX11_count 216 = .ok (.iload_n 3, 1) := by decide +kernel
theorem dX11_count_217 : decode cX11_count 217 = .ok (.iconst 3, 1) := by decide +kernel
theorem dX11_count_218 : decode cX11_count 218 = .ok (.if_icmp .ge 26, 3) := by decide +kernel
theorem dX11_count_221 : decode cX11_count 221 = .ok (.iload_n 2, 1) := by decide +kernel
theorem dX11_count_222 : decode cX11_count 222 = .ok (.aload_n 0, 1) := by decide +kernel
theorem dX11_count_223 : decode cX11_count 223 = .ok (.getfield 62, 3) := by decide +kernel
theorem dX11_count_226 : decode cX11_count 226 = .ok (.iload_n 3, 1) := by decide +kernel
theorem dX11_count_227 : decode cX11_count 227 = .ok (.iaload, 1) := by decide +kernel
theorem dX11_count_228 : decode cX11_count 228 = .ok (.ifCond .ge 7, 3) := by decide +kernel
theorem dX11_count_231 : decode cX11_count 231 = .ok (.iconst 0, 1) := by decide +kernel
theorem dX11_count_232 : decode cX11_count 232 = .ok (.goto 4, 3) := by decide +kernel
theorem dX11_count_235 : decode cX11_count 235 = .ok (.iconst 1, 1) := by decide +kernel
theorem dX11_count_236 : decode cX11_count 236 = .ok (.iadd, 1) := by decide +kernel
theorem dX11_count_237 : decode cX11_count 237 = .ok (.istore_n 2, 1) := by decide +kernel
theorem dX11_count_238 : decode cX11_count 238 = .ok (.iinc 3 1, 3) := by decide +kernel
theorem dX11_count_241 : decode cX11_count 241 = .ok (.goto (-25), 3) := by decide +kernel
theorem dX11_count_244 : decode cX11_count 244 = .ok (.iload_n 2, 1) := by decide +kernel
theorem dX11_count_245 : decode cX11_count 245 = .ok (.ireturn, 1) := by decide +kernel
theorem dX11_count_246 : decode cX11_count 246 = .ok (.iconst (-1), 1) := by decide +kernel
theorem dX11_count_247 : decode cX11_count 247 = .ok (.ireturn, 1) := by decide +kernel
theorem dX11_finding_0 : decode cX11_finding 0 = .ok (.aload_n 0, 1) := by decide +kernel
theorem dX11_finding_1 : decode cX11_finding 1 = .ok (.getfield 84, 3) := by decide +kernel
theorem dX11_finding_4 : decode cX11_finding 4 = .ok (.ireturn, 1) := by decide +kernel
theorem dX11_findings_0 : decode cX11_findings 0 = .ok (.iload_n 1, 1) := by decide +kernel
theorem dX11_findings_1 : decode cX11_findings 1 = .ok (.iconst 1, 1) := by decide +kernel
theorem dX11_findings_2 : decode cX11_findings 2 = .ok (.iconst 5, 1) := by decide +kernel
theorem dX11_findings_3 : decode cX11_findings 3 = .ok (.invokestatic 94, 3) := by decide +kernel
theorem dX11_findings_6 : decode cX11_findings 6 = .ok (.ifCond .eq 12, 3) := by decide +kernel
theorem dX11_findings_9 : decode cX11_findings 9 = .ok (.aload_n 0, 1) := by decide +kernel
theorem dX11_findings_10 : decode cX11_findings 10 = .ok (.getfield 7, 3) := by decide +kernel
theorem dX11_findings_13 : decode cX11_findings 13 = .ok (.iload_n 1, 1) := by decide +kernel
theorem dX11_findings_14 : decode cX11_findings 14 = .ok (.iaload, 1) := by decide +kernel
theorem dX11_findings_15 : decode cX11_findings 15 = .ok (.goto 4, 3) := by decide +kernel
theorem dX11_findings_18 : decode cX11_findings 18 = .ok (.iconst (-1), 1) := by decide +kernel
theorem dX11_findings_19 : decode cX11_findings 19 = .ok (.ireturn, 1) := by decide +kernel
theorem dX11_digest_0 : decode cX11_digest 0 = .ok (.ldc2_w 280, 3) := by decide +kernel
theorem dX11_digest_3 : decode cX11_digest 3 = .ok (.lstore_n 1, 1) := by decide +kernel
theorem dX11_digest_4 : decode cX11_digest 4 = .ok (.iconst 0, 1) := by decide +kernel
theorem dX11_digest_5 : decode cX11_digest 5 = .ok (.istore_n 3, 1) := by decide +kernel
theorem dX11_digest_6 : decode cX11_digest 6 = .ok (.iload_n 3, 1) := by decide +kernel
theorem dX11_digest_7 : decode cX11_digest 7 = .ok (.bipush 10, 2) := by decide +kernel
theorem dX11_digest_9 : decode cX11_digest 9 = .ok (.if_icmp .gt 22, 3) := by decide +kernel
theorem dX11_digest_12 : decode cX11_digest 12 = .ok (.ldc2_w 282, 3) := by decide +kernel
theorem dX11_digest_15 : decode cX11_digest 15 = .ok (.lload_n 1, 1) := by decide +kernel
theorem dX11_digest_16 : decode cX11_digest 16 = .ok (.lmul, 1) := by decide +kernel
theorem dX11_digest_17 : decode cX11_digest 17 = .ok (.aload_n 0, 1) := by decide +kernel
theorem dX11_digest_18 : decode cX11_digest 18 = .ok (.iload_n 3, 1) := by decide +kernel
theorem dX11_digest_19 : decode cX11_digest 19 = .ok (.invokevirtual 284, 3) := by decide +kernel
theorem dX11_digest_22 : decode cX11_digest 22 = .ok (.i2l, 1) := by decide +kernel
theorem dX11_digest_23 : decode cX11_digest 23 = .ok (.ladd, 1) := by decide +kernel
theorem dX11_digest_24 : decode cX11_digest 24 = .ok (.lstore_n 1, 1) := by decide +kernel
theorem dX11_digest_25 : decode cX11_digest 25 = .ok (.iinc 3 1, 3) := by decide +kernel
theorem dX11_digest_28 : decode cX11_digest 28 = .ok (.goto (-22), 3) := by decide +kernel
theorem dX11_digest_31 : decode cX11_digest 31 = .ok (.iconst 0, 1) := by decide +kernel
theorem dX11_digest_32 : decode cX11_digest 32 = .ok (.istore_n 3, 1) := by decide +kernel
theorem dX11_digest_33 : decode cX11_digest 33 = .ok (.iload_n 3, 1) := by decide +kernel
theorem dX11_digest_34 : decode cX11_digest 34 = .ok (.aload_n 0, 1) := by decide +kernel
theorem dX11_digest_35 : decode cX11_digest 35 = .ok (.getfield 155, 3) := by decide +kernel
theorem dX11_digest_38 : decode cX11_digest 38 = .ok (.if_icmp .ge 40, 3) := by decide +kernel
theorem dX11_digest_41 : decode cX11_digest 41 = .ok (.iconst 0, 1) := by decide +kernel
theorem dX11_digest_42 : decode cX11_digest 42 = .ok (.istore 4, 2) := by decide +kernel
theorem dX11_digest_44 : decode cX11_digest 44 = .ok (.iload 4, 2) := by decide +kernel
theorem dX11_digest_46 : decode cX11_digest 46 = .ok (.bipush 6, 2) := by decide +kernel
theorem dX11_digest_48 : decode cX11_digest 48 = .ok (.if_icmp .gt 24, 3) := by decide +kernel
theorem dX11_digest_51 : decode cX11_digest 51 = .ok (.ldc2_w 282, 3) := by decide +kernel
theorem dX11_digest_54 : decode cX11_digest 54 = .ok (.lload_n 1, 1) := by decide +kernel
theorem dX11_digest_55 : decode cX11_digest 55 = .ok (.lmul, 1) := by decide +kernel
theorem dX11_digest_56 : decode cX11_digest 56 = .ok (.aload_n 0, 1) := by decide +kernel
theorem dX11_digest_57 : decode cX11_digest 57 = .ok (.iload_n 3, 1) := by decide +kernel
theorem dX11_digest_58 : decode cX11_digest 58 = .ok (.iload 4, 2) := by decide +kernel
theorem dX11_digest_60 : decode cX11_digest 60 = .ok (.invokevirtual 191, 3) := by decide +kernel
theorem dX11_digest_63 : decode cX11_digest 63 = .ok (.i2l, 1) := by decide +kernel
theorem dX11_digest_64 : decode cX11_digest 64 = .ok (.ladd, 1) := by decide +kernel
theorem dX11_digest_65 : decode cX11_digest 65 = .ok (.lstore_n 1, 1) := by decide +kernel
theorem dX11_digest_66 : decode cX11_digest 66 = .ok (.iinc 4 1, 3) := by decide +kernel
theorem dX11_digest_69 : decode cX11_digest 69 = .ok (.goto (-25), 3) := by decide +kernel
theorem dX11_digest_72 : decode cX11_digest 72 = .ok (.iinc 3 1, 3) := by decide +kernel
theorem dX11_digest_75 : decode cX11_digest 75 = .ok (.goto (-42), 3) := by decide +kernel
theorem dX11_digest_78 : decode cX11_digest 78 = .ok (.iconst 0, 1) := by decide +kernel
theorem dX11_digest_79 : decode cX11_digest 79 = .ok (.istore_n 3, 1) := by decide +kernel
theorem dX11_digest_80 : decode cX11_digest 80 = .ok (.iload_n 3, 1) := by decide +kernel
theorem dX11_digest_81 : decode cX11_digest 81 = .ok (.iconst 3, 1) := by decide +kernel
theorem dX11_digest_82 : decode cX11_digest 82 = .ok (.if_icmp .ge 23, 3) := by decide +kernel
theorem dX11_digest_85 : decode cX11_digest 85 = .ok (.ldc2_w 282, 3) := by decide +kernel
theorem dX11_digest_88 : decode cX11_digest 88 = .ok (.lload_n 1, 1) := by decide +kernel
theorem dX11_digest_89 : decode cX11_digest 89 = .ok (.lmul, 1) := by decide +kernel
theorem dX11_digest_90 : decode cX11_digest 90 = .ok (.aload_n 0, 1) := by decide +kernel
theorem dX11_digest_91 : decode cX11_digest 91 = .ok (.getfield 62, 3) := by decide +kernel
theorem dX11_digest_94 : decode cX11_digest 94 = .ok (.iload_n 3, 1) := by decide +kernel
theorem dX11_digest_95 : decode cX11_digest 95 = .ok (.iaload, 1) := by decide +kernel
theorem dX11_digest_96 : decode cX11_digest 96 = .ok (.i2l, 1) := by decide +kernel
theorem dX11_digest_97 : decode cX11_digest 97 = .ok (.ladd, 1) := by decide +kernel
theorem dX11_digest_98 : decode cX11_digest 98 = .ok (.lstore_n 1, 1) := by decide +kernel
theorem dX11_digest_99 : decode cX11_digest 99 = .ok (.iinc 3 1, 3) := by decide +kernel
theorem dX11_digest_102 : decode cX11_digest 102 = .ok (.goto (-22), 3) := by decide +kernel
theorem dX11_digest_105 : decode cX11_digest 105 = .ok (.iconst 0, 1) := by decide +kernel
theorem dX11_digest_106 : decode cX11_digest 106 = .ok (.istore_n 3, 1) := by decide +kernel
theorem dX11_digest_107 : decode cX11_digest 107 = .ok (.iload_n 3, 1) := by decide +kernel
theorem dX11_digest_108 : decode cX11_digest 108 = .ok (.bipush 6, 2) := by decide +kernel
theorem dX11_digest_110 : decode cX11_digest 110 = .ok (.if_icmp .ge 63, 3) := by decide +kernel
theorem dX11_digest_113 : decode cX11_digest 113 = .ok (.ldc2_w 282, 3) := by decide +kernel
theorem dX11_digest_116 : decode cX11_digest 116 = .ok (.lload_n 1, 1) := by decide +kernel
theorem dX11_digest_117 : decode cX11_digest 117 = .ok (.lmul, 1) := by decide +kernel
theorem dX11_digest_118 : decode cX11_digest 118 = .ok (.aload_n 0, 1) := by decide +kernel
theorem dX11_digest_119 : decode cX11_digest 119 = .ok (.getfield 16, 3) := by decide +kernel
theorem dX11_digest_122 : decode cX11_digest 122 = .ok (.iload_n 3, 1) := by decide +kernel
theorem dX11_digest_123 : decode cX11_digest 123 = .ok (.iaload, 1) := by decide +kernel
theorem dX11_digest_124 : decode cX11_digest 124 = .ok (.i2l, 1) := by decide +kernel
theorem dX11_digest_125 : decode cX11_digest 125 = .ok (.ladd, 1) := by decide +kernel
theorem dX11_digest_126 : decode cX11_digest 126 = .ok (.lstore_n 1, 1) := by decide +kernel
theorem dX11_digest_127 : decode cX11_digest 127 = .ok (.iconst 0, 1) := by decide +kernel
theorem dX11_digest_128 : decode cX11_digest 128 = .ok (.istore 4, 2) := by decide +kernel
theorem dX11_digest_130 : decode cX11_digest 130 = .ok (.iload 4, 2) := by decide +kernel
theorem dX11_digest_132 : decode cX11_digest 132 = .ok (.aload_n 0, 1) := by decide +kernel
theorem dX11_digest_133 : decode cX11_digest 133 = .ok (.getfield 16, 3) := by decide +kernel
theorem dX11_digest_136 : decode cX11_digest 136 = .ok (.iload_n 3, 1) := by decide +kernel
theorem dX11_digest_137 : decode cX11_digest 137 = .ok (.iaload, 1) := by decide +kernel
theorem dX11_digest_138 : decode cX11_digest 138 = .ok (.if_icmp .ge 29, 3) := by decide +kernel
theorem dX11_digest_141 : decode cX11_digest 141 = .ok (.ldc2_w 282, 3) := by decide +kernel
theorem dX11_digest_144 : decode cX11_digest 144 = .ok (.lload_n 1, 1) := by decide +kernel
theorem dX11_digest_145 : decode cX11_digest 145 = .ok (.lmul, 1) := by decide +kernel
theorem dX11_digest_146 : decode cX11_digest 146 = .ok (.aload_n 0, 1) := by decide +kernel
theorem dX11_digest_147 : decode cX11_digest 147 = .ok (.getfield 13, 3) := by decide +kernel
theorem dX11_digest_150 : decode cX11_digest 150 = .ok (.bipush 40, 2) := by decide +kernel
theorem dX11_digest_152 : decode cX11_digest 152 = .ok (.iload_n 3, 1) := by decide +kernel
theorem dX11_digest_153 : decode cX11_digest 153 = .ok (.imul, 1) := by decide +kernel
theorem dX11_digest_154 : decode cX11_digest 154 = .ok (.iload 4, 2) := by decide +kernel
theorem dX11_digest_156 : decode cX11_digest 156 = .ok (.iadd, 1) := by decide +kernel
theorem dX11_digest_157 : decode cX11_digest 157 = .ok (.iaload, 1) := by decide +kernel
theorem dX11_digest_158 : decode cX11_digest 158 = .ok (.i2l, 1) := by decide +kernel
theorem dX11_digest_159 : decode cX11_digest 159 = .ok (.ladd, 1) := by decide +kernel
theorem dX11_digest_160 : decode cX11_digest 160 = .ok (.lstore_n 1, 1) := by decide +kernel
theorem dX11_digest_161 : decode cX11_digest 161 = .ok (.iinc 4 1, 3) := by decide +kernel
theorem dX11_digest_164 : decode cX11_digest 164 = .ok (.goto (-34), 3) := by decide +kernel
theorem dX11_digest_167 : decode cX11_digest 167 = .ok (.iinc 3 1, 3) := by decide +kernel
theorem dX11_digest_170 : decode cX11_digest 170 = .ok (.goto (-63), 3) := by decide +kernel
theorem dX11_digest_173 : decode cX11_digest 173 = .ok (.iconst 0, 1) := by decide +kernel
theorem dX11_digest_174 : decode cX11_digest 174 = .ok (.istore_n 3, 1) := by decide +kernel
theorem dX11_digest_175 : decode cX11_digest 175 = .ok (.iload_n 3, 1) := by decide +kernel
theorem dX11_digest_176 : decode cX11_digest 176 = .ok (.iconst 4, 1) := by decide +kernel
theorem dX11_digest_177 : decode cX11_digest 177 = .ok (.if_icmp .ge 63, 3) := by decide +kernel
theorem dX11_digest_180 : decode cX11_digest 180 = .ok (.ldc2_w 282, 3) := by decide +kernel
theorem dX11_digest_183 : decode cX11_digest 183 = .ok (.lload_n 1, 1) := by decide +kernel
theorem dX11_digest_184 : decode cX11_digest 184 = .ok (.lmul, 1) := by decide +kernel
theorem dX11_digest_185 : decode cX11_digest 185 = .ok (.aload_n 0, 1) := by decide +kernel
theorem dX11_digest_186 : decode cX11_digest 186 = .ok (.getfield 23, 3) := by decide +kernel
theorem dX11_digest_189 : decode cX11_digest 189 = .ok (.iload_n 3, 1) := by decide +kernel
theorem dX11_digest_190 : decode cX11_digest 190 = .ok (.iaload, 1) := by decide +kernel
theorem dX11_digest_191 : decode cX11_digest 191 = .ok (.i2l, 1) := by decide +kernel
theorem dX11_digest_192 : decode cX11_digest 192 = .ok (.ladd, 1) := by decide +kernel
theorem dX11_digest_193 : decode cX11_digest 193 = .ok (.lstore_n 1, 1) := by decide +kernel
theorem dX11_digest_194 : decode cX11_digest 194 = .ok (.iconst 0, 1) := by decide +kernel
theorem dX11_digest_195 : decode cX11_digest 195 = .ok (.istore 4, 2) := by decide +kernel
theorem dX11_digest_197 : decode cX11_digest 197 = .ok (.iload 4, 2) := by decide +kernel
theorem dX11_digest_199 : decode cX11_digest 199 = .ok (.aload_n 0, 1) := by decide +kernel
theorem dX11_digest_200 : decode cX11_digest 200 = .ok (.getfield 23, 3) := by decide +kernel
theorem dX11_digest_203 : decode cX11_digest 203 = .ok (.iload_n 3, 1) := by decide +kernel
theorem dX11_digest_204 : decode cX11_digest 204 = .ok (.iaload, 1) := by decide +kernel
theorem dX11_digest_205 : decode cX11_digest 205 = .ok (.if_icmp .ge 29, 3) := by decide +kernel
theorem dX11_digest_208 : decode cX11_digest 208 = .ok (.ldc2_w 282, 3) := by decide +kernel
theorem dX11_digest_211 : decode cX11_digest 211 = .ok (.lload_n 1, 1) := by decide +kernel
theorem dX11_digest_212 : decode cX11_digest 212 = .ok (.lmul, 1) := by decide +kernel
theorem dX11_digest_213 : decode cX11_digest 213 = .ok (.aload_n 0, 1) := by decide +kernel
theorem dX11_digest_214 : decode cX11_digest 214 = .ok (.getfield 19, 3) := by decide +kernel
theorem dX11_digest_217 : decode cX11_digest 217 = .ok (.bipush 60, 2) := by decide +kernel
theorem dX11_digest_219 : decode cX11_digest 219 = .ok (.iload_n 3, 1) := by decide +kernel
theorem dX11_digest_220 : decode cX11_digest 220 = .ok (.imul, 1) := by decide +kernel
theorem dX11_digest_221 : decode cX11_digest 221 = .ok (.iload 4, 2) := by decide +kernel
theorem dX11_digest_223 : decode cX11_digest 223 = .ok (.iadd, 1) := by decide +kernel
theorem dX11_digest_224 : decode cX11_digest 224 = .ok (.baload, 1) := by decide +kernel
theorem dX11_digest_225 : decode cX11_digest 225 = .ok (.i2l, 1) := by decide +kernel
theorem dX11_digest_226 : decode cX11_digest 226 = .ok (.ladd, 1) := by decide +kernel
theorem dX11_digest_227 : decode cX11_digest 227 = .ok (.lstore_n 1, 1) := by decide +kernel
theorem dX11_digest_228 : decode cX11_digest 228 = .ok (.iinc 4 1, 3) := by decide +kernel
theorem dX11_digest_231 : decode cX11_digest 231 = .ok (.goto (-34), 3) := by decide +kernel
theorem dX11_digest_234 : decode cX11_digest 234 = .ok (.iinc 3 1, 3) := by decide +kernel
theorem dX11_digest_237 : decode cX11_digest 237 = .ok (.goto (-62), 3) := by decide +kernel
theorem dX11_digest_240 : decode cX11_digest 240 = .ok (.lload_n 1, 1) := by decide +kernel
theorem dX11_digest_241 : decode cX11_digest 241 = .ok (.lreturn, 1) := by decide +kernel
