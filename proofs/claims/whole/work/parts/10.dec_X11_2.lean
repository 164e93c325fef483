theorem dX11_pairs_168 : decode cX11_pairs 168 = .ok (.iload 5, 2) := by decide +kernel
theorem dX11_pairs_170 : decode cX11_pairs 170 = .ok (.iconst 1, 1) := by decide +kernel
theorem dX11_pairs_171 : decode cX11_pairs 171 = .ok (.iload 7, 2) := by decide +kernel
theorem dX11_pairs_173 : decode cX11_pairs 173 = .ok (.ishl, 1) := by decide +kernel
theorem dX11_pairs_174 : decode cX11_pairs 174 = .ok (.iconst (-1), 1) := by decide +kernel
theorem dX11_pairs_175 : decode cX11_pairs 175 = .ok (.ixor, 1) := by decide +kernel
theorem dX11_pairs_176 : decode cX11_pairs 176 = .ok (.iand, 1) := by decide +kernel
theorem dX11_pairs_177 : decode cX11_pairs 177 = .ok (.iaload, 1) := by decide +kernel
theorem dX11_pairs_178 : decode cX11_pairs 178 = .ok (.iadd, 1) := by decide +kernel
theorem dX11_pairs_179 : decode cX11_pairs 179 = .ok (.aload_n 0, 1) := by decide +kernel
theorem dX11_pairs_180 : decode cX11_pairs 180 = .ok (.getfield 68, 3) := by decide +kernel
theorem dX11_pairs_183 : decode cX11_pairs 183 = .ok (.iload_n 2, 1) := by decide +kernel
theorem dX11_pairs_184 : decode cX11_pairs 184 = .ok (.iaload, 1) := by decide +kernel
theorem dX11_pairs_185 : decode cX11_pairs 185 = .ok (.if_icmp .ne 8, 3) := by decide +kernel
theorem dX11_pairs_188 : decode cX11_pairs 188 = .ok (.iload 7, 2) := by decide +kernel
theorem dX11_pairs_190 : decode cX11_pairs 190 = .ok (.goto 5, 3) := by decide +kernel
theorem dX11_pairs_193 : decode cX11_pairs 193 = .ok (.iload 6, 2) := by decide +kernel
theorem dX11_pairs_195 : decode cX11_pairs 195 = .ok (.istore 6, 2) := by decide +kernel
theorem dX11_pairs_197 : decode cX11_pairs 197 = .ok (.iinc 7 (-1), 3) := by decide +kernel
theorem dX11_pairs_200 : decode cX11_pairs 200 = .ok (.goto (-94), 3) := by decide +kernel
theorem dX11_pairs_203 : decode cX11_pairs 203 = .ok (.iload 6, 2) := by decide +kernel
theorem dX11_pairs_205 : decode cX11_pairs 205 = .ok (.bipush (-9), 2) := by decide +kernel
theorem dX11_pairs_207 : decode cX11_pairs 207 = .ok (.if_icmp .eq 42, 3) := by decide +kernel
theorem dX11_pairs_210 : decode cX11_pairs 210 = .ok (.aload_n 0, 1) := by decide +kernel
theorem dX11_pairs_211 : decode cX11_pairs 211 = .ok (.getfield 13, 3) := by decide +kernel
theorem dX11_pairs_214 : decode cX11_pairs 214 = .ok (.bipush 40, 2) := by decide +kernel
theorem dX11_pairs_216 : decode cX11_pairs 216 = .ok (.iload_n 1, 1) := by decide +kernel
theorem dX11_pairs_217 : decode cX11_pairs 217 = .ok (.imul, 1) := by decide +kernel
theorem dX11_pairs_218 : decode cX11_pairs 218 = .ok (.iload 4, 2) := by decide +kernel
theorem dX11_pairs_220 : decode cX11_pairs 220 = .ok (.iadd, 1) := by decide +kernel
theorem dX11_pairs_221 : decode cX11_pairs 221 = .ok (.iload 6, 2) := by decide +kernel
theorem dX11_pairs_223 : decode cX11_pairs 223 = .ok (.iastore, 1) := by decide +kernel
theorem dX11_pairs_224 : decode cX11_pairs 224 = .ok (.aload_n 0, 1) := by decide +kernel
theorem dX11_pairs_225 : decode cX11_pairs 225 = .ok (.getfield 13, 3) := by decide +kernel
theorem dX11_pairs_228 : decode cX11_pairs 228 = .ok (.bipush 40, 2) := by decide +kernel
theorem dX11_pairs_230 : decode cX11_pairs 230 = .ok (.iload_n 1, 1) := by decide +kernel
theorem dX11_pairs_231 : decode cX11_pairs 231 = .ok (.imul, 1) := by decide +kernel
theorem dX11_pairs_232 : decode cX11_pairs 232 = .ok (.iload 6, 2) := by decide +kernel
theorem dX11_pairs_234 : decode cX11_pairs 234 = .ok (.iadd, 1) := by decide +kernel
theorem dX11_pairs_235 : decode cX11_pairs 235 = .ok (.iload 4, 2) := by decide +kernel
theorem dX11_pairs_237 : decode cX11_pairs 237 = .ok (.iastore, 1) := by decide +kernel
theorem dX11_pairs_238 : decode cX11_pairs 238 = .ok (.iload 5, 2) := by decide +kernel
theorem dX11_pairs_240 : decode cX11_pairs 240 = .ok (.iconst 1, 1) := by decide +kernel
theorem dX11_pairs_241 : decode cX11_pairs 241 = .ok (.iload 6, 2) := by decide +kernel
theorem dX11_pairs_243 : decode cX11_pairs 243 = .ok (.ishl, 1) := by decide +kernel
theorem dX11_pairs_244 : decode cX11_pairs 244 = .ok (.iconst (-1), 1) := by decide +kernel
theorem dX11_pairs_245 : decode cX11_pairs 245 = .ok (.ixor, 1) := by decide +kernel
theorem dX11_pairs_246 : decode cX11_pairs 246 = .ok (.iand, 1) := by decide +kernel
theorem dX11_pairs_247 : decode cX11_pairs 247 = .ok (.istore 5, 2) := by decide +kernel
theorem dX11_pairs_249 : decode cX11_pairs 249 = .ok (.iload 5, 2) := by decide +kernel
theorem dX11_pairs_251 : decode cX11_pairs 251 = .ok (.istore_n 2, 1) := by decide +kernel
theorem dX11_pairs_252 : decode cX11_pairs 252 = .ok (.goto (-178), 3) := by decide +kernel
theorem dX11_pairs_255 : decode cX11_pairs 255 = .ok (.iload_n 3, 1) := by decide +kernel
theorem dX11_pairs_256 : decode cX11_pairs 256 = .ok (.ireturn, 1) := by decide +kernel
theorem dX11_missed_0 : decode cX11_missed 0 = .ok (.aload_n 0, 1) := by decide +kernel
theorem dX11_missed_1 : decode cX11_missed 1 = .ok (.getfield 155, 3) := by decide +kernel
theorem dX11_missed_4 : decode cX11_missed 4 = .ok (.ifCond .ne 6, 3) := by decide +kernel
theorem dX11_missed_7 : decode cX11_missed 7 = .ok (.bipush (-4), 2) := by decide +kernel
theorem dX11_missed_9 : decode cX11_missed 9 = .ok (.ireturn, 1) := by decide +kernel
theorem dX11_missed_10 : decode cX11_missed 10 = .ok (.aload_n 0, 1) := by decide +kernel
theorem dX11_missed_11 : decode cX11_missed 11 = .ok (.invokevirtual 212, 3) := by decide +kernel
theorem dX11_missed_14 : decode cX11_missed 14 = .ok (.aload_n 0, 1) := by decide +kernel
theorem dX11_missed_15 : decode cX11_missed 15 = .ok (.iconst 0, 1) := by decide +kernel
theorem dX11_missed_16 : decode cX11_missed 16 = .ok (.invokevirtual 178, 3) := by decide +kernel
theorem dX11_missed_19 : decode cX11_missed 19 = .ok (.istore_n 1, 1) := by decide +kernel
theorem dX11_missed_20 : decode cX11_missed 20 = .ok (.bipush (-9), 2) := by decide +kernel
theorem dX11_missed_22 : decode cX11_missed 22 = .ok (.istore_n 2, 1) := by decide +kernel
theorem dX11_missed_23 : decode cX11_missed 23 = .ok (.iconst 0, 1) := by decide +kernel
theorem dX11_missed_24 : decode cX11_missed 24 = .ok (.istore_n 3, 1) := by decide +kernel
theorem dX11_missed_25 : decode cX11_missed 25 = .ok (.iconst 0, 1) := by decide +kernel
theorem dX11_missed_26 : decode cX11_missed 26 = .ok (.istore 4, 2) := by decide +kernel
theorem dX11_missed_28 : decode cX11_missed 28 = .ok (.iload 4, 2) := by decide +kernel
theorem dX11_missed_30 : decode cX11_missed 30 = .ok (.aload_n 0, 1) := by decide +kernel
theorem dX11_missed_31 : decode cX11_missed 31 = .ok (.getfield 155, 3) := by decide +kernel
theorem dX11_missed_34 : decode cX11_missed 34 = .ok (.if_icmp .ge 59, 3) := by decide +kernel
theorem dX11_missed_37 : decode cX11_missed 37 = .ok (.aload_n 0, 1) := by decide +kernel
theorem dX11_missed_38 : decode cX11_missed 38 = .ok (.getfield 68, 3) := by decide +kernel
theorem dX11_missed_41 : decode cX11_missed 41 = .ok (.iload_n 1, 1) := by decide +kernel
theorem dX11_missed_42 : decode cX11_missed 42 = .ok (.iaload, 1) := by decide +kernel
theorem dX11_missed_43 : decode cX11_missed 43 = .ok (.aload_n 0, 1) := by decide +kernel
theorem dX11_missed_44 : decode cX11_missed 44 = .ok (.getfield 68, 3) := by decide +kernel
theorem dX11_missed_47 : decode cX11_missed 47 = .ok (.iload_n 1, 1) := by decide +kernel
theorem dX11_missed_48 : decode cX11_missed 48 = .ok (.iconst 1, 1) := by decide +kernel
theorem dX11_missed_49 : decode cX11_missed 49 = .ok (.iload 4, 2) := by decide +kernel
theorem dX11_missed_51 : decode cX11_missed 51 = .ok (.ishl, 1) := by decide +kernel
theorem dX11_missed_52 : decode cX11_missed 52 = .ok (.iconst (-1), 1) := by decide +kernel
theorem dX11_missed_53 : decode cX11_missed 53 = .ok (.ixor, 1) := by decide +kernel
theorem dX11_missed_54 : decode cX11_missed 54 = .ok (.iand, 1) := by decide +kernel
theorem dX11_missed_55 : decode cX11_missed 55 = .ok (.iaload, 1) := by decide +kernel
theorem dX11_missed_56 : decode cX11_missed 56 = .ok (.isub, 1) := by decide +kernel
theorem dX11_missed_57 : decode cX11_missed 57 = .ok (.istore 5, 2) := by decide +kernel
theorem dX11_missed_59 : decode cX11_missed 59 = .ok (.aload_n 0, 1) := by decide +kernel
theorem dX11_missed_60 : decode cX11_missed 60 = .ok (.getfield 53, 3) := by decide +kernel
theorem dX11_missed_63 : decode cX11_missed 63 = .ok (.iload 4, 2) := by decide +kernel
theorem dX11_missed_65 : decode cX11_missed 65 = .ok (.iaload, 1) := by decide +kernel
theorem dX11_missed_66 : decode cX11_missed 66 = .ok (.ifCond .ne 21, 3) := by decide +kernel
theorem dX11_missed_69 : decode cX11_missed 69 = .ok (.iload_n 2, 1) := by decide +kernel
theorem dX11_missed_70 : decode cX11_missed 70 = .ok (.bipush (-9), 2) := by decide +kernel
theorem dX11_missed_72 : decode cX11_missed 72 = .ok (.if_icmp .eq 9, 3) := by decide +kernel
theorem dX11_missed_75 : decode cX11_missed 75 = .ok (.iload 5, 2) := by decide +kernel
theorem dX11_missed_77 : decode cX11_missed 77 = .ok (.iload_n 3, 1) := by decide +kernel
theorem dX11_missed_78 : decode cX11_missed 78 = .ok (.if_icmp .le 9, 3) := by decide +kernel
theorem dX11_missed_81 : decode cX11_missed 81 = .ok (.iload 4, 2) := by decide +kernel
theorem dX11_missed_83 : decode cX11_missed 83 = .ok (.istore_n 2, 1) := by decide +kernel
theorem dX11_missed_84 : decode cX11_missed 84 = .ok (.iload 5, 2) := by decide +kernel
theorem dX11_missed_86 : decode cX11_missed 86 = .ok (.istore_n 3, 1) := by decide +kernel
theorem dX11_missed_87 : decode cX11_missed 87 = .ok (.iinc 4 1, 3) := by decide +kernel
theorem dX11_missed_90 : decode cX11_missed 90 = .ok (.goto (-62), 3) := by decide +kernel
theorem dX11_missed_93 : decode cX11_missed 93 = .ok (.iload_n 2, 1) := by decide +kernel
theorem dX11_missed_94 : decode cX11_missed 94 = .ok (.bipush (-9), 2) := by decide +kernel
theorem dX11_missed_96 : decode cX11_missed 96 = .ok (.if_icmp .eq 8, 3) := by decide +kernel
theorem dX11_missed_99 : decode cX11_missed 99 = .ok (.aload_n 0, 1) := by decide +kernel
theorem dX11_missed_100 : decode cX11_missed 100 = .ok (.iload_n 3, 1) := by decide +kernel
theorem dX11_missed_101 : decode cX11_missed 101 = .ok (.putfield 88, 3) := by decide +kernel
theorem dX11_missed_104 : decode cX11_missed 104 = .ok (.iload_n 2, 1) := by decide +kernel
theorem dX11_missed_105 : decode cX11_missed 105 = .ok (.ireturn, 1) := by decide +kernel
theorem dX11_wished_0 : decode cX11_wished 0 = .ok (.aload_n 0, 1) := by decide +kernel
theorem dX11_wished_1 : decode cX11_wished 1 = .ok (.getfield 155, 3) := by decide +kernel
theorem dX11_wished_4 : decode cX11_wished 4 = .ok (.ifCond .ne 6, 3) := by decide +kernel
theorem dX11_wished_7 : decode cX11_wished 7 = .ok (.bipush (-4), 2) := by decide +kernel
theorem dX11_wished_9 : decode cX11_wished 9 = .ok (.ireturn, 1) := by decide +kernel
theorem dX11_wished_10 : decode cX11_wished 10 = .ok (.aload_n 0, 1) := by decide +kernel
theorem dX11_wished_11 : decode cX11_wished 11 = .ok (.invokevirtual 212, 3) := by decide +kernel
theorem dX11_wished_14 : decode cX11_wished 14 = .ok (.aload_n 0, 1) := by decide +kernel
theorem dX11_wished_15 : decode cX11_wished 15 = .ok (.iconst 0, 1) := by decide +kernel
theorem dX11_wished_16 : decode cX11_wished 16 = .ok (.invokevirtual 178, 3) := by decide +kernel
theorem dX11_wished_19 : decode cX11_wished 19 = .ok (.istore_n 1, 1) := by decide +kernel
theorem dX11_wished_20 : decode cX11_wished 20 = .ok (.bipush (-9), 2) := by decide +kernel
theorem dX11_wished_22 : decode cX11_wished 22 = .ok (.istore_n 2, 1) := by decide +kernel
theorem dX11_wished_23 : decode cX11_wished 23 = .ok (.iconst 0, 1) := by decide +kernel
theorem dX11_wished_24 : decode cX11_wished 24 = .ok (.istore_n 3, 1) := by decide +kernel
theorem dX11_wished_25 : decode cX11_wished 25 = .ok (.iconst 0, 1) := by decide +kernel
theorem dX11_wished_26 : decode cX11_wished 26 = .ok (.istore 4, 2) := by decide +kernel
theorem dX11_wished_28 : decode cX11_wished 28 = .ok (.iload 4, 2) := by decide +kernel
theorem dX11_wished_30 : decode cX11_wished 30 = .ok (.aload_n 0, 1) := by decide +kernel
theorem dX11_wished_31 : decode cX11_wished 31 = .ok (.getfield 155, 3) := by decide +kernel
theorem dX11_wished_34 : decode cX11_wished 34 = .ok (.if_icmp .ge 57, 3) := by decide +kernel
theorem dX11_wished_37 : decode cX11_wished 37 = .ok (.aload_n 0, 1) := by decide +kernel
theorem dX11_wished_38 : decode cX11_wished 38 = .ok (.getfield 68, 3) := by decide +kernel
theorem dX11_wished_41 : decode cX11_wished 41 = .ok (.iload_n 1, 1) := by decide +kernel
theorem dX11_wished_42 : decode cX11_wished 42 = .ok (.iconst 1, 1) := by decide +kernel
theorem dX11_wished_43 : decode cX11_wished 43 = .ok (.iload 4, 2) := by decide +kernel
theorem dX11_wished_45 : decode cX11_wished 45 = .ok (.ishl, 1) := by decide +kernel
theorem dX11_wished_46 : decode cX11_wished 46 = .ok (.ior, 1) := by decide +kernel
theorem dX11_wished_47 : decode cX11_wished 47 = .ok (.iaload, 1) := by decide +kernel
theorem dX11_wished_48 : decode cX11_wished 48 = .ok (.aload_n 0, 1) := by decide +kernel
theorem dX11_wished_49 : decode cX11_wished 49 = .ok (.getfield 68, 3) := by decide +kernel
theorem dX11_wished_52 : decode cX11_wished 52 = .ok (.iload_n 1, 1) := by decide +kernel
theorem dX11_wished_53 : decode cX11_wished 53 = .ok (.iaload, 1) := by decide +kernel
theorem dX11_wished_54 : decode cX11_wished 54 = .ok (.isub, 1) := by decide +kernel
theorem dX11_wished_55 : decode cX11_wished 55 = .ok (.istore 5, 2) := by decide +kernel
theorem dX11_wished_57 : decode cX11_wished 57 = .ok (.aload_n 0, 1) := by decide +kernel
theorem dX11_wished_58 : decode cX11_wished 58 = .ok (.getfield 53, 3) := by decide +kernel
theorem dX11_wished_61 : decode cX11_wished 61 = .ok (.iload 4, 2) := by decide +kernel
theorem dX11_wished_63 : decode cX11_wished 63 = .ok (.iaload, 1) := by decide +kernel
theorem dX11_wished_64 : decode cX11_wished 64 = .ok (.ifCond .eq 21, 3) := by decide +kernel
theorem dX11_wished_67 : decode cX11_wished 67 = .ok (.iload_n 2, 1) := by decide +kernel
theorem dX11_wished_68 : decode cX11_wished 68 = .ok (.bipush (-9), 2) := by decide +kernel
theorem dX11_wished_70 : decode cX11_wished 70 = .ok (.if_icmp .eq 9, 3) := by decide +kernel
theorem dX11_wished_73 : decode cX11_wished 73 = .ok (.iload 5, 2) := by decide +kernel
theorem dX11_wished_75 : decode cX11_wished 75 = .ok (.iload_n 3, 1) := by decide +kernel
theorem dX11_wished_76 : decode cX11_wished 76 = .ok (.if_icmp .le 9, 3) := by decide +kernel
theorem dX11_wished_79 : decode cX11_wished 79 = .ok (.iload 4, 2) := by decide +kernel
theorem dX11_wished_81 : decode cX11_wished 81 = .ok (.istore_n 2, 1) := by decide +kernel
theorem dX11_wished_82 : decode cX11_wished 82 = .ok (.iload 5, 2) := by decide +kernel
theorem dX11_wished_84 : decode cX11_wished 84 = .ok (.istore_n 3, 1) := by decide +kernel
theorem dX11_wished_85 : decode cX11_wished 85 = .ok (.iinc 4 1, 3) := by decide +kernel
theorem dX11_wished_88 : decode cX11_wished 88 = .ok (.goto (-60), 3) := by decide +kernel
theorem dX11_wished_91 : decode cX11_wished 91 = .ok (.iload_n 2, 1) := by decide +kernel
theorem dX11_wished_92 : decode cX11_wished 92 = .ok (.bipush (-9), 2) := by decide +kernel
theorem dX11_wished_94 : decode cX11_wished 94 = .ok (.if_icmp .eq 8, 3) := by decide +kernel
theorem dX11_wished_97 : decode cX11_wished 97 = .ok (.aload_n 0, 1) := by decide +kernel
theorem dX11_wished_98 : decode cX11_wished 98 = .ok (.iload_n 3, 1) := by decide +kernel
theorem dX11_wished_99 : decode cX11_wished 99 = .ok (.putfield 88, 3) := by decide +kernel
theorem dX11_wished_102 : decode cX11_wished 102 = .ok (.iload_n 2, 1) := by decide +kernel
theorem dX11_wished_103 : decode cX11_wished 103 = .ok (.ireturn, 1) := by decide +kernel
theorem dX11_listTwos_0 : decode cX11_listTwos 0 = .ok (.aload_n 0, 1) := by decide +kernel
theorem dX11_listTwos_1 : decode cX11_listTwos 1 = .ok (.iconst 0, 1) := by decide +kernel
theorem dX11_listTwos_2 : decode cX11_listTwos 2 = .ok (.putfield 215, 3) := by decide +kernel
theorem dX11_listTwos_5 : decode cX11_listTwos 5 = .ok (.iconst 0, 1) := by decide +kernel
theorem dX11_listTwos_6 : decode cX11_listTwos 6 = .ok (.istore_n 1, 1) := by decide +kernel
theorem dX11_listTwos_7 : decode cX11_listTwos 7 = .ok (.iload_n 1, 1) := by decide +kernel
theorem dX11_listTwos_8 : decode cX11_listTwos 8 = .ok (.aload_n 0, 1) := by decide +kernel
theorem dX11_listTwos_9 : decode cX11_listTwos 9 = .ok (.getfield 155, 3) := by decide +kernel
theorem dX11_listTwos_12 : decode cX11_listTwos 12 = .ok (.if_icmp .ge 81, 3) := by decide +kernel
theorem dX11_listTwos_15 : decode cX11_listTwos 15 = .ok (.iload_n 1, 1) := by decide +kernel
theorem dX11_listTwos_16 : decode cX11_listTwos 16 = .ok (.iconst 1, 1) := by decide +kernel
theorem dX11_listTwos_17 : decode cX11_listTwos 17 = .ok (.iadd, 1) := by decide +kernel
theorem dX11_listTwos_18 : decode cX11_listTwos 18 = .ok (.istore_n 2, 1) := by decide +kernel
theorem dX11_listTwos_19 : decode cX11_listTwos 19 = .ok (.iload_n 2, 1) := by decide +kernel
theorem dX11_listTwos_20 : decode cX11_listTwos 20 = .ok (.aload_n 0, 1) := by decide +kernel
theorem dX11_listTwos_21 : decode cX11_listTwos 21 = .ok (.getfield 155, 3) := by decide +kernel
theorem dX11_listTwos_24 : decode cX11_listTwos 24 = .ok (.if_icmp .ge 63, 3) := by decide +kernel
theorem dX11_listTwos_27 : decode cX11_listTwos 27 = .ok (.aload_n 0, 1) := by decide +kernel
theorem dX11_listTwos_28 : decode cX11_listTwos 28 = .ok (.getfield 53, 3) := by decide +kernel
theorem dX11_listTwos_31 : decode cX11_listTwos 31 = .ok (.iload_n 1, 1) := by decide +kernel
theorem dX11_listTwos_32 : decode cX11_listTwos 32 = .ok (.iaload, 1) := by decide +kernel
theorem dX11_listTwos_33 : decode cX11_listTwos 33 = .ok (.ifCond .ne 48, 3) := by decide +kernel
theorem dX11_listTwos_36 : decode cX11_listTwos 36 = .ok (.aload_n 0, 1) := by decide +kernel
theorem dX11_listTwos_37 : decode cX11_listTwos 37 = .ok (.getfield 53, 3) := by decide +kernel
theorem dX11_listTwos_40 : decode cX11_listTwos 40 = .ok (.iload_n 2, 1) := by decide +kernel
theorem dX11_listTwos_41 : decode cX11_listTwos 41 = .ok (.iaload, 1) := by decide +kernel
theorem dX11_listTwos_42 : decode cX11_listTwos 42 = .ok (.ifCond .ne 39, 3) := by decide +kernel
theorem dX11_listTwos_45 : decode cX11_listTwos 45 = .ok (.aload_n 0, 1) := by decide +kernel
theorem dX11_listTwos_46 : decode cX11_listTwos 46 = .ok (.iload_n 1, 1) := by decide +kernel
theorem dX11_listTwos_47 : decode cX11_listTwos 47 = .ok (.iload_n 2, 1) := by decide +kernel
theorem dX11_listTwos_48 : decode cX11_listTwos 48 = .ok (.invokevirtual 194, 3) := by decide +kernel
theorem dX11_listTwos_51 : decode cX11_listTwos 51 = .ok (.bipush (-9), 2) := by decide +kernel
theorem dX11_listTwos_53 : decode cX11_listTwos 53 = .ok (.if_icmp .eq 28, 3) := by decide +kernel
theorem dX11_listTwos_56 : decode cX11_listTwos 56 = .ok (.aload_n 0, 1) := by decide +kernel
theorem dX11_listTwos_57 : decode cX11_listTwos 57 = .ok (.getfield 74, 3) := by decide +kernel
theorem dX11_listTwos_60 : decode cX11_listTwos 60 = .ok (.aload_n 0, 1) := by decide +kernel
theorem dX11_listTwos_61 : decode cX11_listTwos 61 = .ok (.getfield 215, 3) := by decide +kernel
theorem dX11_listTwos_64 : decode cX11_listTwos 64 = .ok (.bipush 10, 2) := by decide +kernel
theorem dX11_listTwos_66 : decode cX11_listTwos 66 = .ok (.iload_n 1, 1) := by decide +kernel
theorem dX11_listTwos_67 : decode cX11_listTwos 67 = .ok (.imul, 1) := by decide +kernel
theorem dX11_listTwos_68 : decode cX11_listTwos 68 = .ok (.iload_n 2, 1) := by decide +kernel
theorem dX11_listTwos_69 : decode cX11_listTwos 69 = .ok (.iadd, 1) := by decide +kernel
theorem dX11_listTwos_70 : decode cX11_listTwos 70 = .ok (.iastore, 1) := by decide +kernel
theorem dX11_listTwos_71 : decode cX11_listTwos 71 = .ok (.aload_n 0, 1) := by decide +kernel
theorem dX11_listTwos_72 : decode cX11_listTwos 72 = .ok (.dup, 1) := by decide +kernel
theorem dX11_listTwos_73 : decode cX11_listTwos 73 = .ok (.getfield 215, 3) := by decide +kernel
theorem dX11_listTwos_76 : decode cX11_listTwos 76 = .ok (.iconst 1, 1) := by decide +kernel
theorem dX11_listTwos_77 : decode cX11_listTwos 77 = .ok (.iadd, 1) := by decide +kernel
theorem dX11_listTwos_78 : decode cX11_listTwos 78 = .ok (.putfield 215, 3) := by decide +kernel
theorem dX11_listTwos_81 : decode cX11_listTwos 81 = .ok (.iinc 2 1, 3) := by decide +kernel
theorem dX11_listTwos_84 : decode cX11_listTwos 84 = .ok (.goto (-65), 3) := by decide +kernel
theorem dX11_listTwos_87 : decode cX11_listTwos 87 = .ok (.iinc 1 1, 3) := by decide +kernel
theorem dX11_listTwos_90 : decode cX11_listTwos 90 = .ok (.goto (-83), 3) := by decide +kernel
theorem dX11_listTwos_93 : decode cX11_listTwos 93 = .ok (.return_, 1) := by decide +kernel
theorem dX11_useOf_0 : decode cX11_useOf 0 = .ok (.aload_n 0, 1) := by decide +kernel
theorem dX11_useOf_1 : decode cX11_useOf 1 = .ok (.iload_n 1, 1) := by decide +kernel
theorem dX11_useOf_2 : decode cX11_useOf 2 = .ok (.bipush 10, 2) := by decide +kernel
theorem dX11_useOf_4 : decode cX11_useOf 4 = .ok (.idiv, 1) := by decide +kernel
theorem dX11_useOf_5 : decode cX11_useOf 5 = .ok (.iload_n 1, 1) := by decide +kernel
theorem dX11_useOf_6 : decode cX11_useOf 6 = .ok (.bipush 10, 2) := by decide +kernel
theorem dX11_useOf_8 : decode cX11_useOf 8 = .ok (.irem, 1) := by decide +kernel
theorem dX11_useOf_9 : decode cX11_useOf 9 = .ok (.invokevirtual 194, 3) := by decide +kernel
theorem dX11_useOf_12 : decode cX11_useOf 12 = .ok (.istore_n 2, 1) := by decide +kernel
theorem dX11_useOf_13 : decode cX11_useOf 13 = .ok (.aload_n 0, 1) := by decide +kernel
theorem dX11_useOf_14 : decode cX11_useOf 14 = .ok (.getfield 56, 3) := by decide +kernel
theorem dX11_useOf_17 : decode cX11_useOf 17 = .ok (.iload_n 1, 1) := by decide +kernel
theorem dX11_useOf_18 : decode cX11_useOf 18 = .ok (.bipush 10, 2) := by decide +kernel
theorem dX11_useOf_20 : decode cX11_useOf 20 = .ok (.idiv, 1) := by decide +kernel
theorem dX11_useOf_21 : decode cX11_useOf 21 = .ok (.dup2, 1) := by decide +kernel
theorem dX11_useOf_22 : decode cX11_useOf 22 = .ok (.iaload, 1) := by decide +kernel
theorem dX11_useOf_23 : decode cX11_useOf 23 = .ok (.iconst 1, 1) := by decide +kernel
theorem dX11_useOf_24 : decode cX11_useOf 24 = .ok (.iadd, 1) := by decide +kernel
theorem dX11_useOf_25 : decode cX11_useOf 25 = .ok (.iastore, 1) := by decide +kernel
theorem dX11_useOf_26 : decode cX11_useOf 26 = .ok (.aload_n 0, 1) := by decide +kernel
theorem dX11_useOf_27 : decode cX11_useOf 27 = .ok (.getfield 56, 3) := by decide +kernel
theorem dX11_useOf_30 : decode cX11_useOf 30 = .ok (.iload_n 1, 1) := by decide +kernel
theorem dX11_useOf_31 : decode cX11_useOf 31 = .ok (.bipush 10, 2) := by decide +kernel
theorem dX11_useOf_33 : decode cX11_useOf 33 = .ok (.irem, 1) := by decide +kernel
theorem dX11_useOf_34 : decode cX11_useOf 34 = .ok (.dup2, 1) := by decide +kernel
theorem dX11_useOf_35 : decode cX11_useOf 35 = .ok (.iaload, 1) := by decide +kernel
theorem dX11_useOf_36 : decode cX11_useOf 36 = .ok (.iconst 1, 1) := by decide +kernel
theorem dX11_useOf_37 : decode cX11_useOf 37 = .ok (.iadd, 1) := by decide +kernel
theorem dX11_useOf_38 : decode cX11_useOf 38 = .ok (.iastore, 1) := by decide +kernel
theorem dX11_useOf_39 : decode cX11_useOf 39 = .ok (.iload_n 2, 1) := by decide +kernel
theorem dX11_useOf_40 : decode cX11_useOf 40 = .ok (.ireturn, 1) := by decide +kernel
theorem dX11_takeOff_0 : decode cX11_takeOff 0 = .ok (.aload_n 0, 1) := by decide +kernel
theorem dX11_takeOff_1 : decode cX11_takeOff 1 = .ok (.getfield 56, 3) := by decide +kernel
theorem dX11_takeOff_4 : decode cX11_takeOff 4 = .ok (.iload_n 1, 1) := by decide +kernel
theorem dX11_takeOff_5 : decode cX11_takeOff 5 = .ok (.bipush 10, 2) := by decide +kernel
theorem dX11_takeOff_7 : decode cX11_takeOff 7 = .ok (.idiv, 1) := by decide +kernel
theorem dX11_takeOff_8 : decode cX11_takeOff 8 = .ok (.dup2, 1) := by decide +kernel
theorem dX11_takeOff_9 : decode cX11_takeOff 9 = .ok (.iaload, 1) := by decide +kernel
theorem dX11_takeOff_10 : decode cX11_takeOff 10 = .ok (.iconst 1, 1) := by decide +kernel
theorem dX11_takeOff_11 : decode cX11_takeOff 11 = .ok (.isub, 1) := by decide +kernel
theorem dX11_takeOff_12 : decode cX11_takeOff 12 = .ok (.iastore, 1) := by decide +kernel
theorem dX11_takeOff_13 : decode cX11_takeOff 13 = .ok (.aload_n 0, 1) := by decide +kernel
theorem dX11_takeOff_14 : decode cX11_takeOff 14 = .ok (.getfield 56, 3) := by decide +kernel
theorem dX11_takeOff_17 : decode cX11_takeOff 17 = .ok (.iload_n 1, 1) := by decide +kernel
theorem dX11_takeOff_18 : decode cX11_takeOff 18 = .ok (.bipush 10, 2) := by decide +kernel
theorem dX11_takeOff_20 : decode cX11_takeOff 20 = .ok (.irem, 1) := by decide +kernel
theorem dX11_takeOff_21 : decode cX11_takeOff 21 = .ok (.dup2, 1) := by decide +kernel
theorem dX11_takeOff_22 : decode cX11_takeOff 22 = .ok (.iaload, 1) := by decide +kernel
theorem dX11_takeOff_23 : decode cX11_takeOff 23 = .ok (.iconst 1, 1) := by decide +kernel
theorem dX11_takeOff_24 : decode cX11_takeOff 24 = .ok (.isub, 1) := by decide +kernel
theorem dX11_takeOff_25 : decode cX11_takeOff 25 = .ok (.iastore, 1) := by decide +kernel
theorem dX11_takeOff_26 : decode cX11_takeOff 26 = .ok (.return_, 1) := by decide +kernel
theorem dX11_days_0 : decode cX11_days 0 = .ok (.iload_n 1, 1) := by decide +kernel
theorem dX11_days_1 : decode cX11_days 1 = .ok (.iconst 0, 1) := by decide +kernel
theorem dX11_days_2 : decode cX11_days 2 = .ok (.iconst 3, 1) := by decide +kernel
theorem dX11_days_3 : decode cX11_days 3 = .ok (.invokestatic 94, 3) := by decide +kernel
theorem dX11_days_6 : decode cX11_days 6 = .ok (.ifCond .eq 10, 3) := by decide +kernel
theorem dX11_days_9 : decode cX11_days 9 = .ok (.iload_n 2, 1) := by decide +kernel
theorem dX11_days_10 : decode cX11_days 10 = .ok (.invokestatic 98, 3) := by decide +kernel
theorem dX11_days_13 : decode cX11_days 13 = .ok (.ifCond .ne 5, 3) := by decide +kernel
theorem dX11_days_16 : decode cX11_days 16 = .ok (.iconst (-1), 1) := by decide +kernel
theorem dX11_days_17 : decode cX11_days 17 = .ok (.ireturn, 1) := by decide +kernel
theorem dX11_days_18 : decode cX11_days 18 = .ok (.aload_n 0, 1) := by decide +kernel
theorem dX11_days_19 : decode cX11_days 19 = .ok (.getfield 155, 3) := by decide +kernel
theorem dX11_days_22 : decode cX11_days 22 = .ok (.ifCond .ne 6, 3) := by decide +kernel
theorem dX11_days_25 : decode cX11_days 25 = .ok (.bipush (-4), 2) := by decide +kernel
theorem dX11_days_27 : decode cX11_days 27 = .ok (.ireturn, 1) := by decide +kernel
theorem dX11_days_28 : decode cX11_days 28 = .ok (.aload_n 0, 1) := by decide +kernel
theorem dX11_days_29 : decode cX11_days 29 = .ok (.invokevirtual 218, 3) := by decide +kernel
theorem dX11_days_32 : decode cX11_days 32 = .ok (.iload_n 1, 1) := by decide +kernel
theorem dX11_days_33 : decode cX11_days 33 = .ok (.ifCond .le 13, 3) := by decide +kernel
theorem dX11_days_36 : decode cX11_days 36 = .ok (.aload_n 0, 1) := by decide +kernel
theorem dX11_days_37 : decode cX11_days 37 = .ok (.getfield 215, 3) := by decide +kernel
theorem dX11_days_40 : decode cX11_days 40 = .ok (.ifCond .ne 6, 3) := by decide +kernel
theorem dX11_days_43 : decode cX11_days 43 = .ok (.bipush (-9), 2) := by decide +kernel
theorem dX11_days_45 : decode cX11_days 45 = .ok (.ireturn, 1) := by decide +kernel
theorem dX11_days_46 : decode cX11_days 46 = .ok (.iconst 1, 1) := by decide +kernel
theorem dX11_days_47 : decode cX11_days 47 = .ok (.istore_n 3, 1) := by decide +kernel
theorem dX11_days_48 : decode cX11_days 48 = .ok (.iconst 0, 1) := by decide +kernel
theorem dX11_days_49 : decode cX11_days 49 = .ok (.istore 4, 2) := by decide +kernel
theorem dX11_days_51 : decode cX11_days 51 = .ok (.iload 4, 2) := by decide +kernel
theorem dX11_days_53 : decode cX11_days 53 = .ok (.iload_n 1, 1) := by decide +kernel
theorem dX11_days_54 : decode cX11_days 54 = .ok (.if_icmp .ge 16, 3) := by decide +kernel
theorem dX11_days_57 : decode cX11_days 57 = .ok (.iload_n 3, 1) := by decide +kernel
theorem dX11_days_58 : decode cX11_days 58 = .ok (.aload_n 0, 1) := by decide +kernel
theorem dX11_days_59 : decode cX11_days 59 = .ok (.getfield 215, 3) := by decide +kernel
theorem dX11_days_62 : decode cX11_days 62 = .ok (.imul, 1) := by decide +kernel
theorem dX11_days_63 : decode cX11_days 63 = .ok (.istore_n 3, 1) := by decide +kernel
theorem dX11_days_64 : decode cX11_days 64 = .ok (.iinc 4 1, 3) := by decide +kernel
theorem dX11_days_67 : decode cX11_days 67 = .ok (.goto (-16), 3) := by decide +kernel
theorem dX11_days_70 : decode cX11_days 70 = .ok (.bipush (-9), 2) := by decide +kernel
theorem dX11_days_72 : decode cX11_days 72 = .ok (.istore 4, 2) := by decide +kernel
theorem dX11_days_74 : decode cX11_days 74 = .ok (.iconst 0, 1) := by decide +kernel
theorem dX11_days_75 : decode cX11_days 75 = .ok (.istore 5, 2) := by decide +kernel
theorem dX11_days_77 : decode cX11_days 77 = .ok (.iconst 0, 1) := by decide +kernel
theorem dX11_days_78 : decode cX11_days 78 = .ok (.istore 6, 2) := by decide +kernel
theorem dX11_days_80 : decode cX11_days 80 = .ok (.iload 6, 2) := by decide +kernel
theorem dX11_days_82 : decode cX11_days 82 = .ok (.iload_n 3, 1) := by decide +kernel
theorem dX11_days_83 : decode cX11_days 83 = .ok (.if_icmp .ge 131, 3) := by decide +kernel
theorem dX11_days_86 : decode cX11_days 86 = .ok (.iconst 0, 1) := by decide +kernel
theorem dX11_days_87 : decode cX11_days 87 = .ok (.istore 7, 2) := by decide +kernel
theorem dX11_days_89 : decode cX11_days 89 = .ok (.iload_n 3, 1) := by decide +kernel
theorem dX11_days_90 : decode cX11_days 90 = .ok (.istore 8, 2) := by decide +kernel
theorem dX11_days_92 : decode cX11_days 92 = .ok (.iconst 0, 1) := by decide +kernel
theorem dX11_days_93 : decode cX11_days 93 = .ok (.istore 9, 2) := by decide +kernel
theorem dX11_days_95 : decode cX11_days 95 = .ok (.iload 9, 2) := by decide +kernel
theorem dX11_days_97 : decode cX11_days 97 = .ok (.iload_n 1, 1) := by decide +kernel
theorem dX11_days_98 : decode cX11_days 98 = .ok (.if_icmp .ge 42, 3) := by decide +kernel
theorem dX11_days_101 : decode cX11_days 101 = .ok (.iload 8, 2) := by decide +kernel
theorem dX11_days_103 : decode cX11_days 103 = .ok (.aload_n 0, 1) := by decide +kernel
theorem dX11_days_104 : decode cX11_days 104 = .ok (.getfield 215, 3) := by decide +kernel
theorem dX11_days_107 : decode cX11_days 107 = .ok (.idiv, 1) := by decide +kernel
theorem dX11_days_108 : decode cX11_days 108 = .ok (.istore 8, 2) := by decide +kernel
theorem dX11_days_110 : decode cX11_days 110 = .ok (.iload 7, 2) := by decide +kernel
theorem dX11_days_112 : decode cX11_days 112 = .ok (.aload_n 0, 1) := by decide +kernel
theorem dX11_days_113 : decode cX11_days 113 = .ok (.aload_n 0, 1) := by decide +kernel
theorem dX11_days_114 : decode cX11_days 114 = .ok (.getfield 74, 3) := by decide +kernel
theorem dX11_days_117 : decode cX11_days 117 = .ok (.iload 6, 2) := by decide +kernel
theorem dX11_days_119 : decode cX11_days 119 = .ok (.iload 8, 2) := by decide +kernel
theorem dX11_days_121 : decode cX11_days 121 = .ok (.idiv, 1) := by decide +kernel
theorem dX11_days_122 : decode cX11_days 122 = .ok (.aload_n 0, 1) := by decide +kernel
theorem dX11_days_123 : decode cX11_days 123 = .ok (.getfield 215, 3) := by decide +kernel
theorem dX11_days_126 : decode cX11_days 126 = .ok (.irem, 1) := by decide +kernel
theorem dX11_days_127 : decode cX11_days 127 = .ok (.iaload, 1) := by decide +kernel
theorem dX11_days_128 : decode cX11_days 128 = .ok (.invokevirtual 221, 3) := by decide +kernel
theorem dX11_days_131 : decode cX11_days 131 = .ok (.iadd, 1) := by decide +kernel
theorem dX11_days_132 : decode cX11_days 132 = .ok (.istore 7, 2) := by decide +kernel
theorem dX11_days_134 : decode cX11_days 134 = .ok (.iinc 9 1, 3) := by decide +kernel
theorem dX11_days_137 : decode cX11_days 137 = .ok (.goto (-42), 3) := by decide +kernel
theorem dX11_days_140 : decode cX11_days 140 = .ok (.iload_n 3, 1) := by decide +kernel
theorem dX11_days_141 : decode cX11_days 141 = .ok (.istore 8, 2) := by decide +kernel
theorem dX11_days_143 : decode cX11_days 143 = .ok (.iconst 0, 1) := by decide +kernel
theorem dX11_days_144 : decode cX11_days 144 = .ok (.istore 9, 2) := by decide +kernel
theorem dX11_days_146 : decode cX11_days 146 = .ok (.iload 9, 2) := by decide +kernel
theorem dX11_days_148 : decode cX11_days 148 = .ok (.iload_n 1, 1) := by decide +kernel
theorem dX11_days_149 : decode cX11_days 149 = .ok (.if_icmp .ge 37, 3) := by decide +kernel
theorem dX11_days_152 : decode cX11_days 152 = .ok (.iload 8, 2) := by decide +kernel
theorem dX11_days_154 : decode cX11_days 154 = .ok (.aload_n 0, 1) := by decide +kernel
theorem dX11_days_155 : decode cX11_days 155 = .ok (.getfield 215, 3) := by decide +kernel
theorem dX11_days_158 : decode cX11_days 158 = .ok (.idiv, 1) := by decide +kernel
theorem dX11_days_159 : decode cX11_days 159 = .ok (.istore 8, 2) := by decide +kernel
theorem dX11_days_161 : decode cX11_days 161 = .ok (.aload_n 0, 1) := by decide +kernel
theorem dX11_days_162 : decode cX11_days 162 = .ok (.aload_n 0, 1) := by decide +kernel
theorem dX11_days_163 : decode cX11_days 163 = .ok (.getfield 74, 3) := by decide +kernel
theorem dX11_days_166 : decode cX11_days 166 = .ok (.iload 6, 2) := by decide +kernel
theorem dX11_days_168 : decode cX11_days 168 = .ok (.iload 8, 2) := by decide +kernel
theorem dX11_days_170 : decode cX11_days 170 = .ok (.idiv, 1) := by decide +kernel
theorem dX11_days_171 : decode cX11_days 171 = .ok (.aload_n 0, 1) := by decide +kernel
theorem dX11_days_172 : decode cX11_days 172 = .ok (.getfield 215, 3) := by decide +kernel
theorem dX11_days_175 : decode cX11_days 175 = .ok (.irem, 1) := by decide +kernel
theorem dX11_days_176 : decode cX11_days 176 = .ok (.iaload, 1) := by decide +kernel
theorem dX11_days_177 : decode cX11_days 177 = .ok (.invokevirtual 224, 3) := by decide +kernel
theorem dX11_days_180 : decode cX11_days 180 = .ok (.iinc 9 1, 3) := by decide +kernel
theorem dX11_days_183 : decode cX11_days 183 = .ok (.goto (-37), 3) := by decide +kernel
theorem dX11_days_186 : decode cX11_days 186 = .ok (.iload 4, 2) := by decide +kernel
theorem dX11_days_188 : decode cX11_days 188 = .ok (.bipush (-9), 2) := by decide +kernel
theorem dX11_days_190 : decode cX11_days 190 = .ok (.if_icmp .eq 10, 3) := by decide +kernel
theorem dX11_days_193 : decode cX11_days 193 = .ok (.iload 7, 2) := by decide +kernel
theorem dX11_days_195 : decode cX11_days 195 = .ok (.iload 5, 2) := by decide +kernel
theorem dX11_days_197 : decode cX11_days 197 = .ok (.if_icmp .le 11, 3) := by decide +kernel
theorem dX11_days_200 : decode cX11_days 200 = .ok (.iload 6, 2) := by decide +kernel
theorem dX11_days_202 : decode cX11_days 202 = .ok (.istore 4, 2) := by decide +kernel
theorem dX11_days_204 : decode cX11_days 204 = .ok (.iload 7, 2) := by decide +kernel
theorem dX11_days_206 : decode cX11_days 206 = .ok (.istore 5, 2) := by decide +kernel
theorem dX11_days_208 : decode cX11_days 208 = .ok (.iinc 6 1, 3) := by decide +kernel
theorem dX11_days_211 : decode cX11_days 211 = .ok (.goto (-131), 3) := by decide +kernel
theorem dX11_days_214 : decode cX11_days 214 = .ok (.aload_n 0, 1) := by decide +kernel
theorem dX11_days_215 : decode cX11_days 215 = .ok (.iload_n 2, 1) := by decide +kernel
theorem dX11_days_216 : decode cX11_days 216 = .ok (.iload_n 1, 1) := by decide +kernel
theorem dX11_days_217 : decode cX11_days 217 = .ok (.invokevirtual 106, 3) := by decide +kernel
theorem dX11_days_220 : decode cX11_days 220 = .ok (.iload_n 3, 1) := by decide +kernel
theorem dX11_days_221 : decode cX11_days 221 = .ok (.istore 6, 2) := by decide +kernel
theorem dX11_days_223 : decode cX11_days 223 = .ok (.iconst 0, 1) := by decide +kernel
theorem dX11_days_224 : decode cX11_days 224 = .ok (.istore 7, 2) := by decide +kernel
theorem dX11_days_226 : decode cX11_days 226 = .ok (.iload 7, 2) := by decide +kernel
theorem dX11_days_228 : decode cX11_days 228 = .ok (.iload_n 1, 1) := by decide +kernel
theorem dX11_days_229 : decode cX11_days 229 = .ok (.if_icmp .ge 45, 3) := by decide +kernel
theorem dX11_days_232 : decode cX11_days 232 = .ok (.iload 6, 2) := by decide +kernel
theorem dX11_days_234 : decode cX11_days 234 = .ok (.aload_n 0, 1) := by decide +kernel
theorem dX11_days_235 : decode cX11_days 235 = .ok (.getfield 215, 3) := by decide +kernel
theorem dX11_days_238 : decode cX11_days 238 = .ok (.idiv, 1) := by decide +kernel
theorem dX11_days_239 : decode cX11_days 239 = .ok (.istore 6, 2) := by decide +kernel
theorem dX11_days_241 : decode cX11_days 241 = .ok (.aload_n 0, 1) := by decide +kernel
theorem dX11_days_242 : decode cX11_days 242 = .ok (.getfield 13, 3) := by decide +kernel
theorem dX11_days_245 : decode cX11_days 245 = .ok (.bipush 40, 2) := by decide +kernel
theorem dX11_days_247 : decode cX11_days 247 = .ok (.iload_n 2, 1) := by decide +kernel
theorem dX11_days_248 : decode cX11_days 248 = .ok (.imul, 1) := by decide +kernel
theorem dX11_days_249 : decode cX11_days 249 = .ok (.iload 7, 2) := by decide +kernel
theorem dX11_days_251 : decode cX11_days 251 = .ok (.iadd, 1) := by decide +kernel
theorem dX11_days_252 : decode cX11_days 252 = .ok (.aload_n 0, 1) := by decide +kernel
theorem dX11_days_253 : decode cX11_days 253 = .ok (.getfield 74, 3) := by decide +kernel
theorem dX11_days_256 : decode cX11_days 256 = .ok (.iload 4, 2) := by decide +kernel
theorem dX11_days_258 : decode cX11_days 258 = .ok (.iload 6, 2) := by decide +kernel
theorem dX11_days_260 : decode cX11_days 260 = .ok (.idiv, 1) := by decide +kernel
theorem dX11_days_261 : decode cX11_days 261 = .ok (.aload_n 0, 1) := by decide +kernel
theorem dX11_days_262 : decode cX11_days 262 = .ok (.getfield 215, 3) := by decide +kernel
theorem dX11_days_265 : decode cX11_days 265 = .ok (.irem, 1) := by decide +kernel
theorem dX11_days_266 : decode cX11_days 266 = .ok (.iaload, 1) := by decide +kernel
theorem dX11_days_267 : decode cX11_days 267 = .ok (.iastore, 1) := by decide +kernel
theorem dX11_days_268 : decode cX11_days 268 = .ok (.iinc 7 1, 3) := by decide +kernel
theorem dX11_days_271 : decode cX11_days 271 = .ok (.goto (-45), 3) := by decide +kernel
theorem dX11_days_274 : decode cX11_days 274 = .ok (.iload 5, 2) := by decide +kernel
theorem dX11_days_276 : decode cX11_days 276 = .ok (.ireturn, 1) := by decide +kernel
theorem dX11_worstOf_0 : decode cX11_worstOf 0 = .ok (.bipush (-9), 2) := by decide +kernel
theorem dX11_worstOf_2 : decode cX11_worstOf 2 = .ok (.istore_n 2, 1) := by decide +kernel
theorem dX11_worstOf_3 : decode cX11_worstOf 3 = .ok (.iconst 0, 1) := by decide +kernel
theorem dX11_worstOf_4 : decode cX11_worstOf 4 = .ok (.istore_n 3, 1) := by decide +kernel
theorem dX11_worstOf_5 : decode cX11_worstOf 5 = .ok (.iload_n 3, 1) := by decide +kernel
theorem dX11_worstOf_6 : decode cX11_worstOf 6 = .ok (.aload_n 0, 1) := by decide +kernel
theorem dX11_worstOf_7 : decode cX11_worstOf 7 = .ok (.getfield 155, 3) := by decide +kernel
theorem dX11_worstOf_10 : decode cX11_worstOf 10 = .ok (.if_icmp .ge 61, 3) := by decide +kernel
theorem dX11_worstOf_13 : decode cX11_worstOf 13 = .ok (.iload_n 1, 1) := by decide +kernel
theorem dX11_worstOf_14 : decode cX11_worstOf 14 = .ok (.iload_n 3, 1) := by decide +kernel
theorem dX11_worstOf_15 : decode cX11_worstOf 15 = .ok (.ishr, 1) := by decide +kernel
theorem dX11_worstOf_16 : decode cX11_worstOf 16 = .ok (.iconst 1, 1) := by decide +kernel
theorem dX11_worstOf_17 : decode cX11_worstOf 17 = .ok (.iand, 1) := by decide +kernel
theorem dX11_worstOf_18 : decode cX11_worstOf 18 = .ok (.iconst 1, 1) := by decide +kernel
theorem dX11_worstOf_19 : decode cX11_worstOf 19 = .ok (.if_icmp .ne 46, 3) := by decide +kernel
theorem dX11_worstOf_22 : decode cX11_worstOf 22 = .ok (.aload_n 0, 1) := by decide +kernel
theorem dX11_worstOf_23 : decode cX11_worstOf 23 = .ok (.getfield 41, 3) := by decide +kernel
theorem dX11_worstOf_26 : decode cX11_worstOf 26 = .ok (.iload_n 3, 1) := by decide +kernel
theorem dX11_worstOf_27 : decode cX11_worstOf 27 = .ok (.iaload, 1) := by decide +kernel
theorem dX11_worstOf_28 : decode cX11_worstOf 28 = .ok (.iconst 3, 1) := by decide +kernel
theorem dX11_worstOf_29 : decode cX11_worstOf 29 = .ok (.if_icmp .eq 36, 3) := by decide +kernel
theorem dX11_worstOf_32 : decode cX11_worstOf 32 = .ok (.aload_n 0, 1) := by decide +kernel
theorem dX11_worstOf_33 : decode cX11_worstOf 33 = .ok (.getfield 68, 3) := by decide +kernel
theorem dX11_worstOf_36 : decode cX11_worstOf 36 = .ok (.iload_n 1, 1) := by decide +kernel
theorem dX11_worstOf_37 : decode cX11_worstOf 37 = .ok (.iconst 1, 1) := by decide +kernel
theorem dX11_worstOf_38 : decode cX11_worstOf 38 = .ok (.iload_n 3, 1) := by decide +kernel
theorem dX11_worstOf_39 : decode cX11_worstOf 39 = .ok (.ishl, 1) := by decide +kernel
theorem dX11_worstOf_40 : decode cX11_worstOf 40 = .ok (.iconst (-1), 1) := by decide +kernel
theorem dX11_worstOf_41 : decode cX11_worstOf 41 = .ok (.ixor, 1) := by decide +kernel
theorem dX11_worstOf_42 : decode cX11_worstOf 42 = .ok (.iand, 1) := by decide +kernel
theorem dX11_worstOf_43 : decode cX11_worstOf 43 = .ok (.iaload, 1) := by decide +kernel
theorem dX11_worstOf_44 : decode cX11_worstOf 44 = .ok (.istore 4, 2) := by decide +kernel
theorem dX11_worstOf_46 : decode cX11_worstOf 46 = .ok (.iload_n 2, 1) := by decide +kernel
theorem dX11_worstOf_47 : decode cX11_worstOf 47 = .ok (.bipush (-9), 2) := by decide +kernel
theorem dX11_worstOf_49 : decode cX11_worstOf 49 = .ok (.if_icmp .eq 9, 3) := by decide +kernel
theorem dX11_worstOf_52 : decode cX11_worstOf 52 = .ok (.iload 4, 2) := by decide +kernel
theorem dX11_worstOf_54 : decode cX11_worstOf 54 = .ok (.iload_n 2, 1) := by decide +kernel
theorem dX11_worstOf_55 : decode cX11_worstOf 55 = .ok (.if_icmp .ge 8, 3) := by decide +kernel
theorem dX11_worstOf_58 : decode cX11_worstOf 58 = .ok (.iload 4, 2) := by decide +kernel
theorem dX11_worstOf_60 : decode cX11_worstOf 60 = .ok (.goto 4, 3) := by decide +kernel
theorem dX11_worstOf_63 : decode cX11_worstOf 63 = .ok (.iload_n 2, 1) := by decide +kernel
theorem dX11_worstOf_64 : decode cX11_worstOf 64 = .ok (.istore_n 2, 1) := by decide +kernel
theorem dX11_worstOf_65 : decode cX11_worstOf 65 = .ok (.iinc 3 1, 3) := by decide +kernel
theorem dX11_worstOf_68 : decode cX11_worstOf 68 = .ok (.goto (-63), 3) := by decide +kernel
theorem dX11_worstOf_71 : decode cX11_worstOf 71 = .ok (.iload_n 2, 1) := by decide +kernel
theorem dX11_worstOf_72 : decode cX11_worstOf 72 = .ok (.bipush (-9), 2) := by decide +kernel
theorem dX11_worstOf_74 : decode cX11_worstOf 74 = .ok (.if_icmp .ne 12, 3) := by decide +kernel
theorem dX11_worstOf_77 : decode cX11_worstOf 77 = .ok (.aload_n 0, 1) := by decide +kernel
theorem dX11_worstOf_78 : decode cX11_worstOf 78 = .ok (.getfield 68, 3) := by decide +kernel
theorem dX11_worstOf_81 : decode cX11_worstOf 81 = .ok (.iload_n 1, 1) := by decide +kernel
theorem dX11_worstOf_82 : decode cX11_worstOf 82 = .ok (.iaload, 1) := by decide +kernel
theorem dX11_worstOf_83 : decode cX11_worstOf 83 = .ok (.goto 4, 3) := by decide +kernel
theorem dX11_worstOf_86 : decode cX11_worstOf 86 = .ok (.iload_n 2, 1) := by decide +kernel
theorem dX11_worstOf_87 : decode cX11_worstOf 87 = .ok (.ireturn, 1) := by decide +kernel
theorem dX11_room_0 : decode cX11_room 0 = .ok (.aload_n 0, 1) := by decide +kernel
theorem dX11_room_1 : decode cX11_room 1 = .ok (.getfield 155, 3) := by decide +kernel
theorem dX11_room_4 : decode cX11_room 4 = .ok (.ifCond .ne 6, 3) := by decide +kernel
theorem dX11_room_7 : decode cX11_room 7 = .ok (.bipush (-4), 2) := by decide +kernel
theorem dX11_room_9 : decode cX11_room 9 = .ok (.ireturn, 1) := by decide +kernel
theorem dX11_room_10 : decode cX11_room 10 = .ok (.aload_n 0, 1) := by decide +kernel
theorem dX11_room_11 : decode cX11_room 11 = .ok (.invokevirtual 212, 3) := by decide +kernel
theorem dX11_room_14 : decode cX11_room 14 = .ok (.aload_n 0, 1) := by decide +kernel
theorem dX11_room_15 : decode cX11_room 15 = .ok (.iconst 0, 1) := by decide +kernel
theorem dX11_room_16 : decode cX11_room 16 = .ok (.invokevirtual 178, 3) := by decide +kernel
theorem dX11_room_19 : decode cX11_room 19 = .ok (.istore_n 1, 1) := by decide +kernel
theorem dX11_room_20 : decode cX11_room 20 = .ok (.iconst 0, 1) := by decide +kernel
theorem dX11_room_21 : decode cX11_room 21 = .ok (.istore_n 2, 1) := by decide +kernel
theorem dX11_room_22 : decode cX11_room 22 = .ok (.iconst 1, 1) := by decide +kernel
theorem dX11_room_23 : decode cX11_room 23 = .ok (.istore_n 3, 1) := by decide +kernel
theorem dX11_room_24 : decode cX11_room 24 = .ok (.iload_n 3, 1) := by decide +kernel
theorem dX11_room_25 : decode cX11_room 25 = .ok (.aload_n 0, 1) := by decide +kernel
theorem dX11_room_26 : decode cX11_room 26 = .ok (.invokevirtual 206, 3) := by decide +kernel
theorem dX11_room_29 : decode cX11_room 29 = .ok (.if_icmp .gt 68, 3) := by decide +kernel
theorem dX11_room_32 : decode cX11_room 32 = .ok (.iload_n 3, 1) := by decide +kernel
theorem dX11_room_33 : decode cX11_room 33 = .ok (.iload_n 1, 1) := by decide +kernel
theorem dX11_room_34 : decode cX11_room 34 = .ok (.iconst (-1), 1) := by decide +kernel
theorem dX11_room_35 : decode cX11_room 35 = .ok (.ixor, 1) := by decide +kernel
theorem dX11_room_36 : decode cX11_room 36 = .ok (.iand, 1) := by decide +kernel
theorem dX11_room_37 : decode cX11_room 37 = .ok (.ifCond .ne 54, 3) := by decide +kernel
theorem dX11_room_40 : decode cX11_room 40 = .ok (.iload_n 3, 1) := by decide +kernel
theorem dX11_room_41 : decode cX11_room 41 = .ok (.invokestatic 181, 3) := by decide +kernel
theorem dX11_room_44 : decode cX11_room 44 = .ok (.aload_n 0, 1) := by decide +kernel
theorem dX11_room_45 : decode cX11_room 45 = .ok (.getfield 152, 3) := by decide +kernel
theorem dX11_room_48 : decode cX11_room 48 = .ok (.if_icmp .gt 43, 3) := by decide +kernel
theorem dX11_room_51 : decode cX11_room 51 = .ok (.aload_n 0, 1) := by decide +kernel
theorem dX11_room_52 : decode cX11_room 52 = .ok (.iload_n 3, 1) := by decide +kernel
theorem dX11_room_53 : decode cX11_room 53 = .ok (.invokevirtual 227, 3) := by decide +kernel
theorem dX11_room_56 : decode cX11_room 56 = .ok (.aload_n 0, 1) := by decide +kernel
theorem dX11_room_57 : decode cX11_room 57 = .ok (.iload_n 2, 1) := by decide +kernel
theorem dX11_room_58 : decode cX11_room 58 = .ok (.invokevirtual 227, 3) := by decide +kernel
theorem dX11_room_61 : decode cX11_room 61 = .ok (.isub, 1) := by decide +kernel
theorem dX11_room_62 : decode cX11_room 62 = .ok (.istore 4, 2) := by decide +kernel
theorem dX11_room_64 : decode cX11_room 64 = .ok (.iload 4, 2) := by decide +kernel
theorem dX11_room_66 : decode cX11_room 66 = .ok (.ifCond .gt 19, 3) := by decide +kernel
theorem dX11_room_69 : decode cX11_room 69 = .ok (.iload 4, 2) := by decide +kernel
theorem dX11_room_71 : decode cX11_room 71 = .ok (.ifCond .ne 18, 3) := by decide +kernel
theorem dX11_room_74 : decode cX11_room 74 = .ok (.iload_n 3, 1) := by decide +kernel
theorem dX11_room_75 : decode cX11_room 75 = .ok (.invokestatic 181, 3) := by decide +kernel
theorem dX11_room_78 : decode cX11_room 78 = .ok (.iload_n 2, 1) := by decide +kernel
theorem dX11_room_79 : decode cX11_room 79 = .ok (.invokestatic 181, 3) := by decide +kernel
theorem dX11_room_82 : decode cX11_room 82 = .ok (.if_icmp .ge 7, 3) := by decide +kernel
theorem dX11_room_85 : decode cX11_room 85 = .ok (.iload_n 3, 1) := by decide +kernel
theorem dX11_room_86 : decode cX11_room 86 = .ok (.goto 4, 3) := by decide +kernel
theorem dX11_room_89 : decode cX11_room 89 = .ok (.iload_n 2, 1) := by decide +kernel
theorem dX11_room_90 : decode cX11_room 90 = .ok (.istore_n 2, 1) := by decide +kernel
theorem dX11_room_91 : decode cX11_room 91 = .ok (.iinc 3 1, 3) := by decide +kernel
theorem dX11_room_94 : decode cX11_room 94 = .ok (.goto (-70), 3) := by decide +kernel
theorem dX11_room_97 : decode cX11_room 97 = .ok (.aload_n 0, 1) := by decide +kernel
theorem dX11_room_98 : decode cX11_room 98 = .ok (.aload_n 0, 1) := by decide +kernel
theorem dX11_room_99 : decode cX11_room 99 = .ok (.iload_n 2, 1) := by decide +kernel
theorem dX11_room_100 : decode cX11_room 100 = .ok (.invokevirtual 227, 3) := by decide +kernel
theorem dX11_room_103 : decode cX11_room 103 = .ok (.putfield 88, 3) := by decide +kernel
theorem dX11_room_106 : decode cX11_room 106 = .ok (.iload_n 2, 1) := by decide +kernel
theorem dX11_room_107 : decode cX11_room 107 = .ok (.ireturn, 1) := by decide +kernel
theorem dX11_join_0 : decode cX11_join 0 = .ok (.iload_n 1, 1) := by decide +kernel
theorem dX11_join_1 : decode cX11_join 1 = .ok (.iconst 0, 1) := by decide +kernel
theorem dX11_join_2 : decode cX11_join 2 = .ok (.aload_n 0, 1) := by decide +kernel
theorem dX11_join_3 : decode cX11_join 3 = .ok (.invokevirtual 206, 3) := by decide +kernel
theorem dX11_join_6 : decode cX11_join 6 = .ok (.invokestatic 94, 3) := by decide +kernel
theorem dX11_join_9 : decode cX11_join 9 = .ok (.ifCond .eq 15, 3) := by decide +kernel
theorem dX11_join_12 : decode cX11_join 12 = .ok (.iload_n 2, 1) := by decide +kernel
theorem dX11_join_13 : decode cX11_join 13 = .ok (.iconst 0, 1) := by decide +kernel
theorem dX11_join_14 : decode cX11_join 14 = .ok (.aload_n 0, 1) := by decide +kernel
theorem dX11_join_15 : decode cX11_join 15 = .ok (.invokevirtual 206, 3) := by decide +kernel
theorem dX11_join_18 : decode cX11_join 18 = .ok (.invokestatic 94, 3) := by decide +kernel
theorem dX11_join_21 : decode cX11_join 21 = .ok (.ifCond .ne 5, 3) := by decide +kernel
theorem dX11_join_24 : decode cX11_join 24 = .ok (.iconst (-1), 1) := by decide +kernel
theorem dX11_join_25 : decode cX11_join 25 = .ok (.ireturn, 1) := by decide +kernel
theorem dX11_join_26 : decode cX11_join 26 = .ok (.aload_n 0, 1) := by decide +kernel
theorem dX11_join_27 : decode cX11_join 27 = .ok (.invokevirtual 212, 3) := by decide +kernel
theorem dX11_join_30 : decode cX11_join 30 = .ok (.aload_n 0, 1) := by decide +kernel
theorem dX11_join_31 : decode cX11_join 31 = .ok (.getfield 68, 3) := by decide +kernel
theorem dX11_join_34 : decode cX11_join 34 = .ok (.iload_n 1, 1) := by decide +kernel
theorem dX11_join_35 : decode cX11_join 35 = .ok (.iload_n 2, 1) := by decide +kernel
theorem dX11_join_36 : decode cX11_join 36 = .ok (.ior, 1) := by decide +kernel
theorem dX11_join_37 : decode cX11_join 37 = .ok (.iaload, 1) := by decide +kernel
theorem dX11_join_38 : decode cX11_join 38 = .ok (.aload_n 0, 1) := by decide +kernel
theorem dX11_join_39 : decode cX11_join 39 = .ok (.getfield 68, 3) := by decide +kernel
theorem dX11_join_42 : decode cX11_join 42 = .ok (.iload_n 1, 1) := by decide +kernel
theorem dX11_join_43 : decode cX11_join 43 = .ok (.iaload, 1) := by decide +kernel
theorem dX11_join_44 : decode cX11_join 44 = .ok (.isub, 1) := by decide +kernel
theorem dX11_join_45 : decode cX11_join 45 = .ok (.aload_n 0, 1) := by decide +kernel
theorem dX11_join_46 : decode cX11_join 46 = .ok (.getfield 68, 3) := by decide +kernel
theorem dX11_join_49 : decode cX11_join 49 = .ok (.iload_n 2, 1) := by decide +kernel
theorem dX11_join_50 : decode cX11_join 50 = .ok (.iaload, 1) := by decide +kernel
theorem dX11_join_51 : decode cX11_join 51 = .ok (.isub, 1) := by decide +kernel
theorem dX11_join_52 : decode cX11_join 52 = .ok (.sipush 200, 3) := by decide +kernel
theorem dX11_join_55 : decode cX11_join 55 = .ok (.iadd, 1) := by decide +kernel
theorem dX11_join_56 : decode cX11_join 56 = .ok (.ireturn, 1) := by decide +kernel
theorem dX11_judge_0 : decode cX11_judge 0 = .ok (.aload_n 0, 1) := by decide +kernel
theorem dX11_judge_1 : decode cX11_judge 1 = .ok (.iload_n 1, 1) := by decide +kernel
theorem dX11_judge_2 : decode cX11_judge 2 = .ok (.invokevirtual 188, 3) := by decide +kernel
theorem dX11_judge_5 : decode cX11_judge 5 = .ok (.ifCond .eq 10, 3) := by decide +kernel
theorem dX11_judge_8 : decode cX11_judge 8 = .ok (.iload_n 2, 1) := by decide +kernel
theorem dX11_judge_9 : decode cX11_judge 9 = .ok (.invokestatic 98, 3) := by decide +kernel
theorem dX11_judge_12 : decode cX11_judge 12 = .ok (.ifCond .ne 5, 3) := by decide +kernel
theorem dX11_judge_15 : decode cX11_judge 15 = .ok (.iconst (-1), 1) := by decide +kernel
theorem dX11_judge_16 : decode cX11_judge 16 = .ok (.ireturn, 1) := by decide +kernel
theorem dX11_judge_17 : decode cX11_judge 17 = .ok (.aload_n 0, 1) := by decide +kernel
theorem dX11_judge_18 : decode cX11_judge 18 = .ok (.getfield 16, 3) := by decide +kernel
theorem dX11_judge_21 : decode cX11_judge 21 = .ok (.iload_n 2, 1) := by decide +kernel
theorem dX11_judge_22 : decode cX11_judge 22 = .ok (.iaload, 1) := by decide +kernel
theorem dX11_judge_23 : decode cX11_judge 23 = .ok (.ifCond .ge 9, 3) := by decide +kernel
theorem dX11_judge_26 : decode cX11_judge 26 = .ok (.aload_n 0, 1) := by decide +kernel
theorem dX11_judge_27 : decode cX11_judge 27 = .ok (.iconst 1, 1) := by decide +kernel
theorem dX11_judge_28 : decode cX11_judge 28 = .ok (.invokevirtual 102, 3) := by decide +kernel
theorem dX11_judge_31 : decode cX11_judge 31 = .ok (.ireturn, 1) := by decide +kernel
theorem dX11_judge_32 : decode cX11_judge 32 = .ok (.aload_n 0, 1) := by decide +kernel
theorem dX11_judge_33 : decode cX11_judge 33 = .ok (.getfield 16, 3) := by decide +kernel
theorem dX11_judge_36 : decode cX11_judge 36 = .ok (.iload_n 2, 1) := by decide +kernel
theorem dX11_judge_37 : decode cX11_judge 37 = .ok (.iaload, 1) := by decide +kernel
theorem dX11_judge_38 : decode cX11_judge 38 = .ok (.iconst 2, 1) := by decide +kernel
theorem dX11_judge_39 : decode cX11_judge 39 = .ok (.irem, 1) := by decide +kernel
theorem dX11_judge_40 : decode cX11_judge 40 = .ok (.iconst 1, 1) := by decide +kernel
theorem dX11_judge_41 : decode cX11_judge 41 = .ok (.if_icmp .ne 9, 3) := by decide +kernel
theorem dX11_judge_44 : decode cX11_judge 44 = .ok (.aload_n 0, 1) := by decide +kernel
theorem dX11_judge_45 : decode cX11_judge 45 = .ok (.iconst 5, 1) := by decide +kernel
theorem dX11_judge_46 : decode cX11_judge 46 = .ok (.invokevirtual 102, 3) := by decide +kernel
theorem dX11_judge_49 : decode cX11_judge 49 = .ok (.ireturn, 1) := by decide +kernel
theorem dX11_judge_50 : decode cX11_judge 50 = .ok (.iconst 1, 1) := by decide +kernel
theorem dX11_judge_51 : decode cX11_judge 51 = .ok (.istore_n 3, 1) := by decide +kernel
theorem dX11_judge_52 : decode cX11_judge 52 = .ok (.iconst 0, 1) := by decide +kernel
theorem dX11_judge_53 : decode cX11_judge 53 = .ok (.istore 4, 2) := by decide +kernel
theorem dX11_judge_55 : decode cX11_judge 55 = .ok (.iload 4, 2) := by decide +kernel
theorem dX11_judge_57 : decode cX11_judge 57 = .ok (.aload_n 0, 1) := by decide +kernel
theorem dX11_judge_58 : decode cX11_judge 58 = .ok (.getfield 16, 3) := by decide +kernel
theorem dX11_judge_61 : decode cX11_judge 61 = .ok (.iload_n 2, 1) := by decide +kernel
theorem dX11_judge_62 : decode cX11_judge 62 = .ok (.iaload, 1) := by decide +kernel
theorem dX11_judge_63 : decode cX11_judge 63 = .ok (.if_icmp .ge 76, 3) := by decide +kernel
theorem dX11_judge_66 : decode cX11_judge 66 = .ok (.aload_n 0, 1) := by decide +kernel
theorem dX11_judge_67 : decode cX11_judge 67 = .ok (.getfield 13, 3) := by decide +kernel
theorem dX11_judge_70 : decode cX11_judge 70 = .ok (.bipush 40, 2) := by decide +kernel
theorem dX11_judge_72 : decode cX11_judge 72 = .ok (.iload_n 2, 1) := by decide +kernel
theorem dX11_judge_73 : decode cX11_judge 73 = .ok (.imul, 1) := by decide +kernel
theorem dX11_judge_74 : decode cX11_judge 74 = .ok (.iload 4, 2) := by decide +kernel
theorem dX11_judge_76 : decode cX11_judge 76 = .ok (.iadd, 1) := by decide +kernel
theorem dX11_judge_77 : decode cX11_judge 77 = .ok (.iaload, 1) := by decide +kernel
theorem dX11_judge_78 : decode cX11_judge 78 = .ok (.istore 5, 2) := by decide +kernel
theorem dX11_judge_80 : decode cX11_judge 80 = .ok (.aload_n 0, 1) := by decide +kernel
theorem dX11_judge_81 : decode cX11_judge 81 = .ok (.getfield 13, 3) := by decide +kernel
theorem dX11_judge_84 : decode cX11_judge 84 = .ok (.bipush 40, 2) := by decide +kernel
theorem dX11_judge_86 : decode cX11_judge 86 = .ok (.iload_n 2, 1) := by decide +kernel
theorem dX11_judge_87 : decode cX11_judge 87 = .ok (.imul, 1) := by decide +kernel
theorem dX11_judge_88 : decode cX11_judge 88 = .ok (.iload 4, 2) := by decide +kernel
theorem dX11_judge_90 : decode cX11_judge 90 = .ok (.iadd, 1) := by decide +kernel
theorem dX11_judge_91 : decode cX11_judge 91 = .ok (.iconst 1, 1) := by decide +kernel
theorem dX11_judge_92 : decode cX11_judge 92 = .ok (.iadd, 1) := by decide +kernel
theorem dX11_judge_93 : decode cX11_judge 93 = .ok (.iaload, 1) := by decide +kernel
theorem dX11_judge_94 : decode cX11_judge 94 = .ok (.istore 6, 2) := by decide +kernel
theorem dX11_judge_96 : decode cX11_judge 96 = .ok (.iload_n 3, 1) := by decide +kernel
theorem dX11_judge_97 : decode cX11_judge 97 = .ok (.ifCond .eq 34, 3) := by decide +kernel
theorem dX11_judge_100 : decode cX11_judge 100 = .ok (.aload_n 0, 1) := by decide +kernel
theorem dX11_judge_101 : decode cX11_judge 101 = .ok (.iload 5, 2) := by decide +kernel
theorem dX11_judge_103 : decode cX11_judge 103 = .ok (.invokevirtual 188, 3) := by decide +kernel
theorem dX11_judge_106 : decode cX11_judge 106 = .ok (.ifCond .eq 25, 3) := by decide +kernel
theorem dX11_judge_109 : decode cX11_judge 109 = .ok (.iload 5, 2) := by decide +kernel
theorem dX11_judge_111 : decode cX11_judge 111 = .ok (.iload_n 1, 1) := by decide +kernel
theorem dX11_judge_112 : decode cX11_judge 112 = .ok (.if_icmp .eq 19, 3) := by decide +kernel
theorem dX11_judge_115 : decode cX11_judge 115 = .ok (.iload 6, 2) := by decide +kernel
theorem dX11_judge_117 : decode cX11_judge 117 = .ok (.ifCond .ge 10, 3) := by decide +kernel
theorem dX11_judge_120 : decode cX11_judge 120 = .ok (.iload 6, 2) := by decide +kernel
theorem dX11_judge_122 : decode cX11_judge 122 = .ok (.bipush (-9), 2) := by decide +kernel
theorem dX11_judge_124 : decode cX11_judge 124 = .ok (.if_icmp .ne 7, 3) := by decide +kernel
theorem dX11_judge_127 : decode cX11_judge 127 = .ok (.iconst 1, 1) := by decide +kernel
theorem dX11_judge_128 : decode cX11_judge 128 = .ok (.goto 4, 3) := by decide +kernel
theorem dX11_judge_131 : decode cX11_judge 131 = .ok (.iconst 0, 1) := by decide +kernel
theorem dX11_judge_132 : decode cX11_judge 132 = .ok (.istore_n 3, 1) := by decide +kernel
theorem dX11_judge_133 : decode cX11_judge 133 = .ok (.iinc 4 2, 3) := by decide +kernel
theorem dX11_judge_136 : decode cX11_judge 136 = .ok (.goto (-81), 3) := by decide +kernel
theorem dX11_judge_139 : decode cX11_judge 139 = .ok (.iload_n 3, 1) := by decide +kernel
theorem dX11_judge_140 : decode cX11_judge 140 = .ok (.ifCond .eq 7, 3) := by decide +kernel
theorem dX11_judge_143 : decode cX11_judge 143 = .ok (.iconst 0, 1) := by decide +kernel
theorem dX11_judge_144 : decode cX11_judge 144 = .ok (.goto 8, 3) := by decide +kernel
theorem dX11_judge_147 : decode cX11_judge 147 = .ok (.aload_n 0, 1) := by decide +kernel
theorem dX11_judge_148 : decode cX11_judge 148 = .ok (.iconst 3, 1) := by decide +kernel
theorem dX11_judge_149 : decode cX11_judge 149 = .ok (.invokevirtual 102, 3) := by decide +kernel
theorem dX11_judge_152 : decode cX11_judge 152 = .ok (.ireturn, 1) := by decide +kernel
theorem dX11_isSo_0 : decode cX11_isSo 0 = .ok (.iconst 1, 1) := by decide +kernel
theorem dX11_isSo_1 : decode cX11_isSo 1 = .ok (.istore 6, 2) := by decide +kernel
theorem dX11_isSo_3 : decode cX11_isSo 3 = .ok (.iconst 0, 1) := by decide +kernel
theorem dX11_isSo_4 : decode cX11_isSo 4 = .ok (.istore 7, 2) := by decide +kernel
theorem dX11_isSo_6 : decode cX11_isSo 6 = .ok (.iload 7, 2) := by decide +kernel
theorem dX11_isSo_8 : decode cX11_isSo 8 = .ok (.aload_n 0, 1) := by decide +kernel
theorem dX11_isSo_9 : decode cX11_isSo 9 = .ok (.getfield 16, 3) := by decide +kernel
theorem dX11_isSo_12 : decode cX11_isSo 12 = .ok (.iload_n 2, 1) := by decide +kernel
theorem dX11_isSo_13 : decode cX11_isSo 13 = .ok (.iaload, 1) := by decide +kernel
theorem dX11_isSo_14 : decode cX11_isSo 14 = .ok (.if_icmp .ge 60, 3) := by decide +kernel
theorem dX11_isSo_17 : decode cX11_isSo 17 = .ok (.iload 6, 2) := by decide +kernel
theorem dX11_isSo_19 : decode cX11_isSo 19 = .ok (.ifCond .eq 46, 3) := by decide +kernel
theorem dX11_isSo_22 : decode cX11_isSo 22 = .ok (.aload_n 0, 1) := by decide +kernel
theorem dX11_isSo_23 : decode cX11_isSo 23 = .ok (.iload_n 1, 1) := by decide +kernel
theorem dX11_isSo_24 : decode cX11_isSo 24 = .ok (.iload_n 3, 1) := by decide +kernel
theorem dX11_isSo_25 : decode cX11_isSo 25 = .ok (.iload 4, 2) := by decide +kernel
theorem dX11_isSo_27 : decode cX11_isSo 27 = .ok (.iload 5, 2) := by decide +kernel
theorem dX11_isSo_29 : decode cX11_isSo 29 = .ok (.aload_n 0, 1) := by decide +kernel
theorem dX11_isSo_30 : decode cX11_isSo 30 = .ok (.getfield 13, 3) := by decide +kernel
theorem dX11_isSo_33 : decode cX11_isSo 33 = .ok (.bipush 40, 2) := by decide +kernel
theorem dX11_isSo_35 : decode cX11_isSo 35 = .ok (.iload_n 2, 1) := by decide +kernel
theorem dX11_isSo_36 : decode cX11_isSo 36 = .ok (.imul, 1) := by decide +kernel
theorem dX11_isSo_37 : decode cX11_isSo 37 = .ok (.iload 7, 2) := by decide +kernel
theorem dX11_isSo_39 : decode cX11_isSo 39 = .ok (.iadd, 1) := by decide +kernel
theorem dX11_isSo_40 : decode cX11_isSo 40 = .ok (.iaload, 1) := by decide +kernel
theorem dX11_isSo_41 : decode cX11_isSo 41 = .ok (.invokevirtual 174, 3) := by decide +kernel
theorem dX11_isSo_44 : decode cX11_isSo 44 = .ok (.aload_n 0, 1) := by decide +kernel
theorem dX11_isSo_45 : decode cX11_isSo 45 = .ok (.getfield 13, 3) := by decide +kernel
theorem dX11_isSo_48 : decode cX11_isSo 48 = .ok (.bipush 40, 2) := by decide +kernel
theorem dX11_isSo_50 : decode cX11_isSo 50 = .ok (.iload_n 2, 1) := by decide +kernel
theorem dX11_isSo_51 : decode cX11_isSo 51 = .ok (.imul, 1) := by decide +kernel
theorem dX11_isSo_52 : decode cX11_isSo 52 = .ok (.iload 7, 2) := by decide +kernel
theorem dX11_isSo_54 : decode cX11_isSo 54 = .ok (.iadd, 1) := by decide +kernel
theorem dX11_isSo_55 : decode cX11_isSo 55 = .ok (.iconst 1, 1) := by decide +kernel
theorem dX11_isSo_56 : decode cX11_isSo 56 = .ok (.iadd, 1) := by decide +kernel
theorem dX11_isSo_57 : decode cX11_isSo 57 = .ok (.iaload, 1) := by decide +kernel
theorem dX11_isSo_58 : decode cX11_isSo 58 = .ok (.if_icmp .ne 7, 3) := by decide +kernel
theorem dX11_isSo_61 : decode cX11_isSo 61 = .ok (.iconst 1, 1) := by decide +kernel
theorem dX11_isSo_62 : decode cX11_isSo 62 = .ok (.goto 4, 3) := by decide +kernel
theorem dX11_isSo_65 : decode cX11_isSo 65 = .ok (.iconst 0, 1) := by decide +kernel
theorem dX11_isSo_66 : decode cX11_isSo 66 = .ok (.istore 6, 2) := by decide +kernel
theorem dX11_isSo_68 : decode cX11_isSo 68 = .ok (.iinc 7 2, 3) := by decide +kernel
theorem dX11_isSo_71 : decode cX11_isSo 71 = .ok (.goto (-65), 3) := by decide +kernel
theorem dX11_isSo_74 : decode cX11_isSo 74 = .ok (.iload 6, 2) := by decide +kernel
theorem dX11_isSo_76 : decode cX11_isSo 76 = .ok (.ireturn, 1) := by decide +kernel
theorem dX11_sorts_0 : decode cX11_sorts 0 = .ok (.aload_n 0, 1) := by decide +kernel
theorem dX11_sorts_1 : decode cX11_sorts 1 = .ok (.iload_n 1, 1) := by decide +kernel
theorem dX11_sorts_2 : decode cX11_sorts 2 = .ok (.iload_n 2, 1) := by decide +kernel
theorem dX11_sorts_3 : decode cX11_sorts 3 = .ok (.invokevirtual 230, 3) := by decide +kernel
theorem dX11_sorts_6 : decode cX11_sorts 6 = .ok (.istore_n 3, 1) := by decide +kernel
theorem dX11_sorts_7 : decode cX11_sorts 7 = .ok (.iload_n 3, 1) := by decide +kernel
theorem dX11_sorts_8 : decode cX11_sorts 8 = .ok (.ifCond .ge 5, 3) := by decide +kernel
theorem dX11_sorts_11 : decode cX11_sorts 11 = .ok (.iload_n 3, 1) := by decide +kernel
theorem dX11_sorts_12 : decode cX11_sorts 12 = .ok (.ireturn, 1) := by decide +kernel
theorem dX11_sorts_13 : decode cX11_sorts 13 = .ok (.iconst 0, 1) := by decide +kernel
theorem dX11_sorts_14 : decode cX11_sorts 14 = .ok (.istore 4, 2) := by decide +kernel
theorem dX11_sorts_16 : decode cX11_sorts 16 = .ok (.iconst 0, 1) := by decide +kernel
theorem dX11_sorts_17 : decode cX11_sorts 17 = .ok (.istore 5, 2) := by decide +kernel
theorem dX11_sorts_19 : decode cX11_sorts 19 = .ok (.iload 5, 2) := by decide +kernel
theorem dX11_sorts_21 : decode cX11_sorts 21 = .ok (.bipush 9, 2) := by decide +kernel
theorem dX11_sorts_23 : decode cX11_sorts 23 = .ok (.if_icmp .gt 45, 3) := by decide +kernel
theorem dX11_sorts_26 : decode cX11_sorts 26 = .ok (.iload 4, 2) := by decide +kernel
theorem dX11_sorts_28 : decode cX11_sorts 28 = .ok (.aload_n 0, 1) := by decide +kernel
theorem dX11_sorts_29 : decode cX11_sorts 29 = .ok (.iload_n 1, 1) := by decide +kernel
theorem dX11_sorts_30 : decode cX11_sorts 30 = .ok (.iload_n 2, 1) := by decide +kernel
theorem dX11_sorts_31 : decode cX11_sorts 31 = .ok (.aload_n 0, 1) := by decide +kernel
theorem dX11_sorts_32 : decode cX11_sorts 32 = .ok (.getfield 41, 3) := by decide +kernel
theorem dX11_sorts_35 : decode cX11_sorts 35 = .ok (.iload_n 1, 1) := by decide +kernel
theorem dX11_sorts_36 : decode cX11_sorts 36 = .ok (.iaload, 1) := by decide +kernel
theorem dX11_sorts_37 : decode cX11_sorts 37 = .ok (.iload 5, 2) := by decide +kernel
theorem dX11_sorts_39 : decode cX11_sorts 39 = .ok (.aload_n 0, 1) := by decide +kernel
theorem dX11_sorts_40 : decode cX11_sorts 40 = .ok (.getfield 47, 3) := by decide +kernel
theorem dX11_sorts_43 : decode cX11_sorts 43 = .ok (.iload_n 1, 1) := by decide +kernel
theorem dX11_sorts_44 : decode cX11_sorts 44 = .ok (.iaload, 1) := by decide +kernel
theorem dX11_sorts_45 : decode cX11_sorts 45 = .ok (.invokevirtual 233, 3) := by decide +kernel
theorem dX11_sorts_48 : decode cX11_sorts 48 = .ok (.ifCond .eq 10, 3) := by decide +kernel
theorem dX11_sorts_51 : decode cX11_sorts 51 = .ok (.iconst 1, 1) := by decide +kernel
theorem dX11_sorts_52 : decode cX11_sorts 52 = .ok (.iload 5, 2) := by decide +kernel
theorem dX11_sorts_54 : decode cX11_sorts 54 = .ok (.ishl, 1) := by decide +kernel
theorem dX11_sorts_55 : decode cX11_sorts 55 = .ok (.goto 4, 3) := by decide +kernel
theorem dX11_sorts_58 : decode cX11_sorts 58 = .ok (.iconst 0, 1) := by decide +kernel
theorem dX11_sorts_59 : decode cX11_sorts 59 = .ok (.ior, 1) := by decide +kernel
theorem dX11_sorts_60 : decode cX11_sorts 60 = .ok (.istore 4, 2) := by decide +kernel
theorem dX11_sorts_62 : decode cX11_sorts 62 = .ok (.iinc 5 1, 3) := by decide +kernel
theorem dX11_sorts_65 : decode cX11_sorts 65 = .ok (.goto (-46), 3) := by decide +kernel
theorem dX11_sorts_68 : decode cX11_sorts 68 = .ok (.iload 4, 2) := by decide +kernel
theorem dX11_sorts_70 : decode cX11_sorts 70 = .ok (.ireturn, 1) := by decide +kernel
theorem dX11_hands_0 : decode cX11_hands 0 = .ok (.aload_n 0, 1) := by decide +kernel
theorem dX11_hands_1 : decode cX11_hands 1 = .ok (.iload_n 1, 1) := by decide +kernel
theorem dX11_hands_2 : decode cX11_hands 2 = .ok (.iload_n 2, 1) := by decide +kernel
theorem dX11_hands_3 : decode cX11_hands 3 = .ok (.invokevirtual 230, 3) := by decide +kernel
theorem dX11_hands_6 : decode cX11_hands 6 = .ok (.istore_n 3, 1) := by decide +kernel
theorem dX11_hands_7 : decode cX11_hands 7 = .ok (.iload_n 3, 1) := by decide +kernel
theorem dX11_hands_8 : decode cX11_hands 8 = .ok (.ifCond .ge 5, 3) := by decide +kernel
theorem dX11_hands_11 : decode cX11_hands 11 = .ok (.iload_n 3, 1) := by decide +kernel
theorem dX11_hands_12 : decode cX11_hands 12 = .ok (.ireturn, 1) := by decide +kernel
theorem dX11_hands_13 : decode cX11_hands 13 = .ok (.iconst 0, 1) := by decide +kernel
theorem dX11_hands_14 : decode cX11_hands 14 = .ok (.istore 4, 2) := by decide +kernel
theorem dX11_hands_16 : decode cX11_hands 16 = .ok (.iconst 0, 1) := by decide +kernel
theorem dX11_hands_17 : decode cX11_hands 17 = .ok (.istore 5, 2) := by decide +kernel
theorem dX11_hands_19 : decode cX11_hands 19 = .ok (.iload 5, 2) := by decide +kernel
theorem dX11_hands_21 : decode cX11_hands 21 = .ok (.iconst 1, 1) := by decide +kernel
theorem dX11_hands_22 : decode cX11_hands 22 = .ok (.if_icmp .gt 45, 3) := by decide +kernel
theorem dX11_hands_25 : decode cX11_hands 25 = .ok (.iload 4, 2) := by decide +kernel
theorem dX11_hands_27 : decode cX11_hands 27 = .ok (.aload_n 0, 1) := by decide +kernel
theorem dX11_hands_28 : decode cX11_hands 28 = .ok (.iload_n 1, 1) := by decide +kernel
theorem dX11_hands_29 : decode cX11_hands 29 = .ok (.iload_n 2, 1) := by decide +kernel
theorem dX11_hands_30 : decode cX11_hands 30 = .ok (.aload_n 0, 1) := by decide +kernel
theorem dX11_hands_31 : decode cX11_hands 31 = .ok (.getfield 41, 3) := by decide +kernel
theorem dX11_hands_34 : decode cX11_hands 34 = .ok (.iload_n 1, 1) := by decide +kernel
theorem dX11_hands_35 : decode cX11_hands 35 = .ok (.iaload, 1) := by decide +kernel
theorem dX11_hands_36 : decode cX11_hands 36 = .ok (.aload_n 0, 1) := by decide +kernel
theorem dX11_hands_37 : decode cX11_hands 37 = .ok (.getfield 44, 3) := by decide +kernel
theorem dX11_hands_40 : decode cX11_hands 40 = .ok (.iload_n 1, 1) := by decide +kernel
theorem dX11_hands_41 : decode cX11_hands 41 = .ok (.iaload, 1) := by decide +kernel
theorem dX11_hands_42 : decode cX11_hands 42 = .ok (.iload 5, 2) := by decide +kernel
theorem dX11_hands_44 : decode cX11_hands 44 = .ok (.invokevirtual 233, 3) := by decide +kernel
theorem dX11_hands_47 : decode cX11_hands 47 = .ok (.ifCond .eq 10, 3) := by decide +kernel
theorem dX11_hands_50 : decode cX11_hands 50 = .ok (.iconst 1, 1) := by decide +kernel
theorem dX11_hands_51 : decode cX11_hands 51 = .ok (.iload 5, 2) := by decide +kernel
theorem dX11_hands_53 : decode cX11_hands 53 = .ok (.ishl, 1) := by decide +kernel
theorem dX11_hands_54 : decode cX11_hands 54 = .ok (.goto 4, 3) := by decide +kernel
theorem dX11_hands_57 : decode cX11_hands 57 = .ok (.iconst 0, 1) := by decide +kernel
theorem dX11_hands_58 : decode cX11_hands 58 = .ok (.ior, 1) := by decide +kernel
theorem dX11_hands_59 : decode cX11_hands 59 = .ok (.istore 4, 2) := by decide +kernel
theorem dX11_hands_61 : decode cX11_hands 61 = .ok (.iinc 5 1, 3) := by decide +kernel
theorem dX11_hands_64 : decode cX11_hands 64 = .ok (.goto (-45), 3) := by decide +kernel
theorem dX11_hands_67 : decode cX11_hands 67 = .ok (.iload 4, 2) := by decide +kernel
theorem dX11_hands_69 : decode cX11_hands 69 = .ok (.ireturn, 1) := by decide +kernel
theorem dX11_kindsBy_0 : decode cX11_kindsBy 0 = .ok (.iconst 0, 1) := by decide +kernel
theorem dX11_kindsBy_1 : decode cX11_kindsBy 1 = .ok (.istore_n 3, 1) := by decide +kernel
theorem dX11_kindsBy_2 : decode cX11_kindsBy 2 = .ok (.iconst 0, 1) := by decide +kernel
theorem dX11_kindsBy_3 : decode cX11_kindsBy 3 = .ok (.istore 4, 2) := by decide +kernel
theorem dX11_kindsBy_5 : decode cX11_kindsBy 5 = .ok (.iload 4, 2) := by decide +kernel
theorem dX11_kindsBy_7 : decode cX11_kindsBy 7 = .ok (.bipush 6, 2) := by decide +kernel
theorem dX11_kindsBy_9 : decode cX11_kindsBy 9 = .ok (.if_icmp .ge 43, 3) := by decide +kernel
theorem dX11_kindsBy_12 : decode cX11_kindsBy 12 = .ok (.iload_n 3, 1) := by decide +kernel
theorem dX11_kindsBy_13 : decode cX11_kindsBy 13 = .ok (.aload_n 0, 1) := by decide +kernel
theorem dX11_kindsBy_14 : decode cX11_kindsBy 14 = .ok (.iload_n 1, 1) := by decide +kernel
theorem dX11_kindsBy_15 : decode cX11_kindsBy 15 = .ok (.iload_n 2, 1) := by decide +kernel
theorem dX11_kindsBy_16 : decode cX11_kindsBy 16 = .ok (.iload 4, 2) := by decide +kernel
theorem dX11_kindsBy_18 : decode cX11_kindsBy 18 = .ok (.aload_n 0, 1) := by decide +kernel
theorem dX11_kindsBy_19 : decode cX11_kindsBy 19 = .ok (.getfield 44, 3) := by decide +kernel
theorem dX11_kindsBy_22 : decode cX11_kindsBy 22 = .ok (.iload_n 1, 1) := by decide +kernel
theorem dX11_kindsBy_23 : decode cX11_kindsBy 23 = .ok (.iaload, 1) := by decide +kernel
theorem dX11_kindsBy_24 : decode cX11_kindsBy 24 = .ok (.aload_n 0, 1) := by decide +kernel
theorem dX11_kindsBy_25 : decode cX11_kindsBy 25 = .ok (.getfield 47, 3) := by decide +kernel
theorem dX11_kindsBy_28 : decode cX11_kindsBy 28 = .ok (.iload_n 1, 1) := by decide +kernel
theorem dX11_kindsBy_29 : decode cX11_kindsBy 29 = .ok (.iaload, 1) := by decide +kernel
theorem dX11_kindsBy_30 : decode cX11_kindsBy 30 = .ok (.invokevirtual 233, 3) := by decide +kernel
theorem dX11_kindsBy_33 : decode cX11_kindsBy 33 = .ok (.ifCond .eq 10, 3) := by decide +kernel
theorem dX11_kindsBy_36 : decode cX11_kindsBy 36 = .ok (.iconst 1, 1) := by decide +kernel
theorem dX11_kindsBy_37 : decode cX11_kindsBy 37 = .ok (.iload 4, 2) := by decide +kernel
theorem dX11_kindsBy_39 : decode cX11_kindsBy 39 = .ok (.ishl, 1) := by decide +kernel
theorem dX11_kindsBy_40 : decode cX11_kindsBy 40 = .ok (.goto 4, 3) := by decide +kernel
theorem dX11_kindsBy_43 : decode cX11_kindsBy 43 = .ok (.iconst 0, 1) := by decide +kernel
theorem dX11_kindsBy_44 : decode cX11_kindsBy 44 = .ok (.ior, 1) := by decide +kernel
theorem dX11_kindsBy_45 : decode cX11_kindsBy 45 = .ok (.istore_n 3, 1) := by decide +kernel
theorem dX11_kindsBy_46 : decode cX11_kindsBy 46 = .ok (.iinc 4 1, 3) := by decide +kernel
theorem dX11_kindsBy_49 : decode cX11_kindsBy 49 = .ok (.goto (-44), 3) := by decide +kernel
theorem dX11_kindsBy_52 : decode cX11_kindsBy 52 = .ok (.iload_n 3, 1) := by decide +kernel
theorem dX11_kindsBy_53 : decode cX11_kindsBy 53 = .ok (.ireturn, 1) := by decide +kernel
theorem dX11_kinds_0 : decode cX11_kinds 0 = .ok (.aload_n 0, 1) := by decide +kernel
theorem dX11_kinds_1 : decode cX11_kinds 1 = .ok (.iload_n 1, 1) := by decide +kernel
theorem dX11_kinds_2 : decode cX11_kinds 2 = .ok (.iload_n 2, 1) := by decide +kernel
theorem dX11_kinds_3 : decode cX11_kinds 3 = .ok (.invokevirtual 230, 3) := by decide +kernel
theorem dX11_kinds_6 : decode cX11_kinds 6 = .ok (.istore_n 3, 1) := by decide +kernel
theorem dX11_kinds_7 : decode cX11_kinds 7 = .ok (.iload_n 3, 1) := by decide +kernel
theorem dX11_kinds_8 : decode cX11_kinds 8 = .ok (.ifCond .ge 7, 3) := by decide +kernel
theorem dX11_kinds_11 : decode cX11_kinds 11 = .ok (.iload_n 3, 1) := by decide +kernel
theorem dX11_kinds_12 : decode cX11_kinds 12 = .ok (.goto 9, 3) := by decide +kernel
theorem dX11_kinds_15 : decode cX11_kinds 15 = .ok (.aload_n 0, 1) := by decide +kernel
theorem dX11_kinds_16 : decode cX11_kinds 16 = .ok (.iload_n 1, 1) := by decide +kernel
theorem dX11_kinds_17 : decode cX11_kinds 17 = .ok (.iload_n 2, 1) := by decide +kernel
theorem dX11_kinds_18 : decode cX11_kinds 18 = .ok (.invokevirtual 237, 3) := by decide +kernel
theorem dX11_kinds_21 : decode cX11_kinds 21 = .ok (.ireturn, 1) := by decide +kernel
theorem dX11_partBy_0 : decode cX11_partBy 0 = .ok (.iconst 0, 1) := by decide +kernel
theorem dX11_partBy_1 : decode cX11_partBy 1 = .ok (.istore 4, 2) := by decide +kernel
theorem dX11_partBy_3 : decode cX11_partBy 3 = .ok (.iconst 0, 1) := by decide +kernel
theorem dX11_partBy_4 : decode cX11_partBy 4 = .ok (.istore 5, 2) := by decide +kernel
theorem dX11_partBy_6 : decode cX11_partBy 6 = .ok (.iload 5, 2) := by decide +kernel
theorem dX11_partBy_8 : decode cX11_partBy 8 = .ok (.bipush 6, 2) := by decide +kernel
theorem dX11_partBy_10 : decode cX11_partBy 10 = .ok (.if_icmp .ge 129, 3) := by decide +kernel
theorem dX11_partBy_13 : decode cX11_partBy 13 = .ok (.iconst 0, 1) := by decide +kernel
theorem dX11_partBy_14 : decode cX11_partBy 14 = .ok (.istore 6, 2) := by decide +kernel
theorem dX11_partBy_16 : decode cX11_partBy 16 = .ok (.iconst 0, 1) := by decide +kernel
theorem dX11_partBy_17 : decode cX11_partBy 17 = .ok (.istore 7, 2) := by decide +kernel
theorem dX11_partBy_19 : decode cX11_partBy 19 = .ok (.iload 7, 2) := by decide +kernel
theorem dX11_partBy_21 : decode cX11_partBy 21 = .ok (.bipush 6, 2) := by decide +kernel
theorem dX11_partBy_23 : decode cX11_partBy 23 = .ok (.if_icmp .ge 84, 3) := by decide +kernel
theorem dX11_partBy_26 : decode cX11_partBy 26 = .ok (.aload_n 0, 1) := by decide +kernel
theorem dX11_partBy_27 : decode cX11_partBy 27 = .ok (.iload_n 1, 1) := by decide +kernel
theorem dX11_partBy_28 : decode cX11_partBy 28 = .ok (.iload 7, 2) := by decide +kernel
theorem dX11_partBy_30 : decode cX11_partBy 30 = .ok (.aload_n 0, 1) := by decide +kernel
theorem dX11_partBy_31 : decode cX11_partBy 31 = .ok (.getfield 44, 3) := by decide +kernel
theorem dX11_partBy_34 : decode cX11_partBy 34 = .ok (.iload_n 1, 1) := by decide +kernel
theorem dX11_partBy_35 : decode cX11_partBy 35 = .ok (.iaload, 1) := by decide +kernel
theorem dX11_partBy_36 : decode cX11_partBy 36 = .ok (.aload_n 0, 1) := by decide +kernel
theorem dX11_partBy_37 : decode cX11_partBy 37 = .ok (.getfield 47, 3) := by decide +kernel
theorem dX11_partBy_40 : decode cX11_partBy 40 = .ok (.iload_n 1, 1) := by decide +kernel
theorem dX11_partBy_41 : decode cX11_partBy 41 = .ok (.iaload, 1) := by decide +kernel
theorem dX11_partBy_42 : decode cX11_partBy 42 = .ok (.iload_n 2, 1) := by decide +kernel
theorem dX11_partBy_43 : decode cX11_partBy 43 = .ok (.invokevirtual 174, 3) := by decide +kernel
theorem dX11_partBy_46 : decode cX11_partBy 46 = .ok (.aload_n 0, 1) := by decide +kernel
theorem dX11_partBy_47 : decode cX11_partBy 47 = .ok (.iload_n 1, 1) := by decide +kernel
theorem dX11_partBy_48 : decode cX11_partBy 48 = .ok (.iload 5, 2) := by decide +kernel
theorem dX11_partBy_50 : decode cX11_partBy 50 = .ok (.aload_n 0, 1) := by decide +kernel
theorem dX11_partBy_51 : decode cX11_partBy 51 = .ok (.getfield 44, 3) := by decide +kernel
theorem dX11_partBy_54 : decode cX11_partBy 54 = .ok (.iload_n 1, 1) := by decide +kernel
theorem dX11_partBy_55 : decode cX11_partBy 55 = .ok (.iaload, 1) := by decide +kernel
theorem dX11_partBy_56 : decode cX11_partBy 56 = .ok (.aload_n 0, 1) := by decide +kernel
theorem dX11_partBy_57 : decode cX11_partBy 57 = .ok (.getfield 47, 3) := by decide +kernel
theorem dX11_partBy_60 : decode cX11_partBy 60 = .ok (.iload_n 1, 1) := by decide +kernel
theorem dX11_partBy_61 : decode cX11_partBy 61 = .ok (.iaload, 1) := by decide +kernel
theorem dX11_partBy_62 : decode cX11_partBy 62 = .ok (.iload_n 2, 1) := by decide +kernel
theorem dX11_partBy_63 : decode cX11_partBy 63 = .ok (.invokevirtual 174, 3) := by decide +kernel
theorem dX11_partBy_66 : decode cX11_partBy 66 = .ok (.if_icmp .ne 7, 3) := by decide +kernel
theorem dX11_partBy_69 : decode cX11_partBy 69 = .ok (.iconst 1, 1) := by decide +kernel
theorem dX11_partBy_70 : decode cX11_partBy 70 = .ok (.goto 4, 3) := by decide +kernel
theorem dX11_partBy_73 : decode cX11_partBy 73 = .ok (.iconst 0, 1) := by decide +kernel
theorem dX11_partBy_74 : decode cX11_partBy 74 = .ok (.istore 8, 2) := by decide +kernel
theorem dX11_partBy_76 : decode cX11_partBy 76 = .ok (.iload 6, 2) := by decide +kernel
theorem dX11_partBy_78 : decode cX11_partBy 78 = .ok (.iload_n 3, 1) := by decide +kernel
theorem dX11_partBy_79 : decode cX11_partBy 79 = .ok (.iload 7, 2) := by decide +kernel
theorem dX11_partBy_81 : decode cX11_partBy 81 = .ok (.ishr, 1) := by decide +kernel
theorem dX11_partBy_82 : decode cX11_partBy 82 = .ok (.iconst 1, 1) := by decide +kernel
theorem dX11_partBy_83 : decode cX11_partBy 83 = .ok (.iand, 1) := by decide +kernel
theorem dX11_partBy_84 : decode cX11_partBy 84 = .ok (.iconst 1, 1) := by decide +kernel
theorem dX11_partBy_85 : decode cX11_partBy 85 = .ok (.if_icmp .ne 12, 3) := by decide +kernel
theorem dX11_partBy_88 : decode cX11_partBy 88 = .ok (.iload 8, 2) := by decide +kernel
theorem dX11_partBy_90 : decode cX11_partBy 90 = .ok (.ifCond .eq 7, 3) := by decide +kernel
theorem dX11_partBy_93 : decode cX11_partBy 93 = .ok (.iconst 1, 1) := by decide +kernel
theorem dX11_partBy_94 : decode cX11_partBy 94 = .ok (.goto 4, 3) := by decide +kernel
theorem dX11_partBy_97 : decode cX11_partBy 97 = .ok (.iconst 0, 1) := by decide +kernel
theorem dX11_partBy_98 : decode cX11_partBy 98 = .ok (.iadd, 1) := by decide +kernel
theorem dX11_partBy_99 : decode cX11_partBy 99 = .ok (.istore 6, 2) := by decide +kernel
theorem dX11_partBy_101 : decode cX11_partBy 101 = .ok (.iinc 7 1, 3) := by decide +kernel
theorem dX11_partBy_104 : decode cX11_partBy 104 = .ok (.goto (-85), 3) := by decide +kernel
theorem dX11_partBy_107 : decode cX11_partBy 107 = .ok (.iload_n 3, 1) := by decide +kernel
theorem dX11_partBy_108 : decode cX11_partBy 108 = .ok (.iload 5, 2) := by decide +kernel
theorem dX11_partBy_110 : decode cX11_partBy 110 = .ok (.ishr, 1) := by decide +kernel
theorem dX11_partBy_111 : decode cX11_partBy 111 = .ok (.iconst 1, 1) := by decide +kernel
theorem dX11_partBy_112 : decode cX11_partBy 112 = .ok (.iand, 1) := by decide +kernel
theorem dX11_partBy_113 : decode cX11_partBy 113 = .ok (.iconst 1, 1) := by decide +kernel
theorem dX11_partBy_114 : decode cX11_partBy 114 = .ok (.if_icmp .ne 15, 3) := by decide +kernel
theorem dX11_partBy_117 : decode cX11_partBy 117 = .ok (.iload 6, 2) := by decide +kernel
theorem dX11_partBy_119 : decode cX11_partBy 119 = .ok (.iload 4, 2) := by decide +kernel
theorem dX11_partBy_121 : decode cX11_partBy 121 = .ok (.if_icmp .le 8, 3) := by decide +kernel
theorem dX11_partBy_124 : decode cX11_partBy 124 = .ok (.iload 6, 2) := by decide +kernel
theorem dX11_partBy_126 : decode cX11_partBy 126 = .ok (.goto 5, 3) := by decide +kernel
theorem dX11_partBy_129 : decode cX11_partBy 129 = .ok (.iload 4, 2) := by decide +kernel
theorem dX11_partBy_131 : decode cX11_partBy 131 = .ok (.istore 4, 2) := by decide +kernel
theorem dX11_partBy_133 : decode cX11_partBy 133 = .ok (.iinc 5 1, 3) := by decide +kernel
theorem dX11_partBy_136 : decode cX11_partBy 136 = .ok (.goto (-130), 3) := by decide +kernel
theorem dX11_partBy_139 : decode cX11_partBy 139 = .ok (.iload 4, 2) := by decide +kernel
theorem dX11_partBy_141 : decode cX11_partBy 141 = .ok (.ireturn, 1) := by decide +kernel
theorem dX11_test_0 : decode cX11_test 0 = .ok (.aload_n 0, 1) := by decide +kernel
theorem dX11_test_1 : decode cX11_test 1 = .ok (.iload_n 1, 1) := by decide +kernel
theorem dX11_test_2 : decode cX11_test 2 = .ok (.iload_n 2, 1) := by decide +kernel
theorem dX11_test_3 : decode cX11_test 3 = .ok (.invokevirtual 230, 3) := by decide +kernel
theorem dX11_test_6 : decode cX11_test 6 = .ok (.istore_n 3, 1) := by decide +kernel
theorem dX11_test_7 : decode cX11_test 7 = .ok (.iload_n 3, 1) := by decide +kernel
theorem dX11_test_8 : decode cX11_test 8 = .ok (.ifCond .ge 5, 3) := by decide +kernel
theorem dX11_test_11 : decode cX11_test 11 = .ok (.iload_n 3, 1) := by decide +kernel
theorem dX11_test_12 : decode cX11_test 12 = .ok (.ireturn, 1) := by decide +kernel
theorem dX11_test_13 : decode cX11_test 13 = .ok (.aload_n 0, 1) := by decide +kernel
theorem dX11_test_14 : decode cX11_test 14 = .ok (.iload_n 1, 1) := by decide +kernel
theorem dX11_test_15 : decode cX11_test 15 = .ok (.iload_n 2, 1) := by decide +kernel
theorem dX11_test_16 : decode cX11_test 16 = .ok (.invokevirtual 237, 3) := by decide +kernel
theorem dX11_test_19 : decode cX11_test 19 = .ok (.istore 4, 2) := by decide +kernel
theorem dX11_test_21 : decode cX11_test 21 = .ok (.bipush (-9), 2) := by decide +kernel
theorem dX11_test_23 : decode cX11_test 23 = .ok (.istore 5, 2) := by decide +kernel
theorem dX11_test_25 : decode cX11_test 25 = .ok (.iconst 0, 1) := by decide +kernel
theorem dX11_test_26 : decode cX11_test 26 = .ok (.istore 6, 2) := by decide +kernel
theorem dX11_test_28 : decode cX11_test 28 = .ok (.iconst 0, 1) := by decide +kernel
theorem dX11_test_29 : decode cX11_test 29 = .ok (.istore 7, 2) := by decide +kernel
theorem dX11_test_31 : decode cX11_test 31 = .ok (.iload 7, 2) := by decide +kernel
theorem dX11_test_33 : decode cX11_test 33 = .ok (.aload_n 0, 1) := by decide +kernel
theorem dX11_test_34 : decode cX11_test 34 = .ok (.getfield 155, 3) := by decide +kernel
theorem dX11_test_37 : decode cX11_test 37 = .ok (.if_icmp .ge 63, 3) := by decide +kernel
theorem dX11_test_40 : decode cX11_test 40 = .ok (.iload 4, 2) := by decide +kernel
theorem dX11_test_42 : decode cX11_test 42 = .ok (.ifCond .eq 58, 3) := by decide +kernel
theorem dX11_test_45 : decode cX11_test 45 = .ok (.iload 7, 2) := by decide +kernel
theorem dX11_test_47 : decode cX11_test 47 = .ok (.iload_n 1, 1) := by decide +kernel
theorem dX11_test_48 : decode cX11_test 48 = .ok (.if_icmp .ne 7, 3) := by decide +kernel
theorem dX11_test_51 : decode cX11_test 51 = .ok (.iconst 0, 1) := by decide +kernel
theorem dX11_test_52 : decode cX11_test 52 = .ok (.goto 12, 3) := by decide +kernel
theorem dX11_test_55 : decode cX11_test 55 = .ok (.aload_n 0, 1) := by decide +kernel
theorem dX11_test_56 : decode cX11_test 56 = .ok (.iload_n 1, 1) := by decide +kernel
theorem dX11_test_57 : decode cX11_test 57 = .ok (.iload 7, 2) := by decide +kernel
theorem dX11_test_59 : decode cX11_test 59 = .ok (.iload 4, 2) := by decide +kernel
theorem dX11_test_61 : decode cX11_test 61 = .ok (.invokevirtual 240, 3) := by decide +kernel
theorem dX11_test_64 : decode cX11_test 64 = .ok (.istore 8, 2) := by decide +kernel
theorem dX11_test_66 : decode cX11_test 66 = .ok (.iload 7, 2) := by decide +kernel
theorem dX11_test_68 : decode cX11_test 68 = .ok (.iload_n 1, 1) := by decide +kernel
theorem dX11_test_69 : decode cX11_test 69 = .ok (.if_icmp .eq 25, 3) := by decide +kernel
theorem dX11_test_72 : decode cX11_test 72 = .ok (.iload 5, 2) := by decide +kernel
theorem dX11_test_74 : decode cX11_test 74 = .ok (.bipush (-9), 2) := by decide +kernel
theorem dX11_test_76 : decode cX11_test 76 = .ok (.if_icmp .eq 10, 3) := by decide +kernel
theorem dX11_test_79 : decode cX11_test 79 = .ok (.iload 8, 2) := by decide +kernel
theorem dX11_test_81 : decode cX11_test 81 = .ok (.iload 6, 2) := by decide +kernel
theorem dX11_test_83 : decode cX11_test 83 = .ok (.if_icmp .ge 11, 3) := by decide +kernel
theorem dX11_test_86 : decode cX11_test 86 = .ok (.iload 7, 2) := by decide +kernel
theorem dX11_test_88 : decode cX11_test 88 = .ok (.istore 5, 2) := by decide +kernel
theorem dX11_test_90 : decode cX11_test 90 = .ok (.iload 8, 2) := by decide +kernel
theorem dX11_test_92 : decode cX11_test 92 = .ok (.istore 6, 2) := by decide +kernel
theorem dX11_test_94 : decode cX11_test 94 = .ok (.iinc 7 1, 3) := by decide +kernel
theorem dX11_test_97 : decode cX11_test 97 = .ok (.goto (-66), 3) := by decide +kernel
theorem dX11_test_100 : decode cX11_test 100 = .ok (.iload 5, 2) := by decide +kernel
theorem dX11_test_102 : decode cX11_test 102 = .ok (.bipush (-9), 2) := by decide +kernel
theorem dX11_test_104 : decode cX11_test 104 = .ok (.if_icmp .eq 9, 3) := by decide +kernel
theorem dX11_test_107 : decode cX11_test 107 = .ok (.aload_n 0, 1) := by decide +kernel
theorem dX11_test_108 : decode cX11_test 108 = .ok (.iload 6, 2) := by decide +kernel
theorem dX11_test_110 : decode cX11_test 110 = .ok (.putfield 88, 3) := by decide +kernel
theorem dX11_test_113 : decode cX11_test 113 = .ok (.iload 5, 2) := by decide +kernel
theorem dX11_test_115 : decode cX11_test 115 = .ok (.ireturn, 1) := by decide +kernel
theorem dX11_unitOf_0 : decode cX11_unitOf 0 = .ok (.iconst 1, 1) := by decide +kernel
theorem dX11_unitOf_1 : decode cX11_unitOf 1 = .ok (.istore_n 1, 1) := by decide +kernel
theorem dX11_unitOf_2 : decode cX11_unitOf 2 = .ok (.iconst 0, 1) := by decide +kernel
theorem dX11_unitOf_3 : decode cX11_unitOf 3 = .ok (.istore_n 2, 1) := by decide +kernel
theorem dX11_unitOf_4 : decode cX11_unitOf 4 = .ok (.iload_n 2, 1) := by decide +kernel
theorem dX11_unitOf_5 : decode cX11_unitOf 5 = .ok (.iload_n 0, 1) := by decide +kernel
theorem dX11_unitOf_6 : decode cX11_unitOf 6 = .ok (.if_icmp .ge 13, 3) := by decide +kernel
theorem dX11_unitOf_9 : decode cX11_unitOf 9 = .ok (.iload_n 1, 1) := by decide +kernel
theorem dX11_unitOf_10 : decode cX11_unitOf 10 = .ok (.iconst 3, 1) := by decide +kernel
theorem dX11_unitOf_11 : decode cX11_unitOf 11 = .ok (.imul, 1) := by decide +kernel
theorem dX11_unitOf_12 : decode cX11_unitOf 12 = .ok (.istore_n 1, 1) := by decide +kernel
theorem dX11_unitOf_13 : decode cX11_unitOf 13 = .ok (.iinc 2 1, 3) := by decide +kernel
theorem dX11_unitOf_16 : decode cX11_unitOf 16 = .ok (.goto (-12), 3) := by decide +kernel
theorem dX11_unitOf_19 : decode cX11_unitOf 19 = .ok (.iload_n 1, 1) := by decide +kernel
